theorem dq_g172 : decode cX9_fewest 57 = .ok (.getfield 37, 3) ∧ decode cX9_fewest 60 = .ok (.invokevirtual 235, 3) ∧ decode cX9_fewest 63 = .ok (.istore 4, 2) ∧ decode cX9_fewest 65 = .ok (.iload_n 2, 1) ∧ decode cX9_fewest 66 = .ok (.ifCond .eq 9, 3) ∧ decode cX9_fewest 69 = .ok (.iload 4, 2) ∧ decode cX9_fewest 71 = .ok (.iload_n 2, 1) ∧ decode cX9_fewest 72 = .ok (.if_icmp .ge 14, 3) ∧ decode cX9_fewest 75 = .ok (.iload_n 2, 1) ∧ decode cX9_fewest 76 = .ok (.ifCond .ne 8, 3) ∧ decode cX9_fewest 79 = .ok (.iload 4, 2) ∧ decode cX9_fewest 81 = .ok (.goto 4, 3) ∧ decode cX9_fewest 84 = .ok (.iconst (-1), 1) ∧ decode cX9_fewest 85 = .ok (.ireturn, 1) ∧ decode cX9_fewest 86 = .ok (.aload_n 0, 1) ∧ decode cX9_fewest 87 = .ok (.getfield 37, 3) ∧ decode cX9_fewest 90 = .ok (.getfield 239, 3) ∧ decode cX9_fewest 93 = .ok (.iload_n 2, 1) ∧ decode cX9_fewest 94 = .ok (.iconst 1, 1) ∧ decode cX9_fewest 95 = .ok (.isub, 1) ∧ decode cX9_fewest 96 = .ok (.iaload, 1) ∧ decode cX9_fewest 97 = .ok (.ireturn, 1) ∧ True := dqC_ok (c := cX9_fewest) [(57, 3, some (.getfield 37)), (60, 3, some (.invokevirtual 235)), (63, 2, some (.istore 4)), (65, 1, some (.iload_n 2)), (66, 3, some (.ifCond .eq 9)), (69, 2, some (.iload 4)), (71, 1, some (.iload_n 2)), (72, 3, some (.if_icmp .ge 14)), (75, 1, some (.iload_n 2)), (76, 3, some (.ifCond .ne 8)), (79, 2, some (.iload 4)), (81, 3, some (.goto 4)), (84, 1, some (.iconst (-1))), (85, 1, some (.ireturn)), (86, 1, some (.aload_n 0)), (87, 3, some (.getfield 37)), (90, 3, some (.getfield 239)), (93, 1, some (.iload_n 2)), (94, 1, some (.iconst 1)), (95, 1, some (.isub)), (96, 1, some (.iaload)), (97, 1, some (.ireturn))] _ 57 rfl (by decide +kernel)
theorem dX9_fewest_57 : decode cX9_fewest 57 = .ok (.getfield 37, 3) := dq_g172.1
theorem dX9_fewest_60 : decode cX9_fewest 60 = .ok (.invokevirtual 235, 3) := dq_g172.2.1
theorem dX9_fewest_63 : decode cX9_fewest 63 = .ok (.istore 4, 2) := dq_g172.2.2.1
theorem dX9_fewest_65 : decode cX9_fewest 65 = .ok (.iload_n 2, 1) := dq_g172.2.2.2.1
theorem dX9_fewest_66 : decode cX9_fewest 66 = .ok (.ifCond .eq 9, 3) := dq_g172.2.2.2.2.1
theorem dX9_fewest_69 : decode cX9_fewest 69 = .ok (.iload 4, 2) := dq_g172.2.2.2.2.2.1
theorem dX9_fewest_71 : decode cX9_fewest 71 = .ok (.iload_n 2, 1) := dq_g172.2.2.2.2.2.2.1
theorem dX9_fewest_72 : decode cX9_fewest 72 = .ok (.if_icmp .ge 14, 3) := dq_g172.2.2.2.2.2.2.2.1
theorem dX9_fewest_75 : decode cX9_fewest 75 = .ok (.iload_n 2, 1) := dq_g172.2.2.2.2.2.2.2.2.1
theorem dX9_fewest_76 : decode cX9_fewest 76 = .ok (.ifCond .ne 8, 3) := dq_g172.2.2.2.2.2.2.2.2.2.1
theorem dX9_fewest_79 : decode cX9_fewest 79 = .ok (.iload 4, 2) := dq_g172.2.2.2.2.2.2.2.2.2.2.1
theorem dX9_fewest_81 : decode cX9_fewest 81 = .ok (.goto 4, 3) := dq_g172.2.2.2.2.2.2.2.2.2.2.2.1
theorem dX9_fewest_84 : decode cX9_fewest 84 = .ok (.iconst (-1), 1) := dq_g172.2.2.2.2.2.2.2.2.2.2.2.2.1
theorem dX9_fewest_85 : decode cX9_fewest 85 = .ok (.ireturn, 1) := dq_g172.2.2.2.2.2.2.2.2.2.2.2.2.2.1
theorem dX9_fewest_86 : decode cX9_fewest 86 = .ok (.aload_n 0, 1) := dq_g172.2.2.2.2.2.2.2.2.2.2.2.2.2.2.1
theorem dX9_fewest_87 : decode cX9_fewest 87 = .ok (.getfield 37, 3) := dq_g172.2.2.2.2.2.2.2.2.2.2.2.2.2.2.2.1
theorem dX9_fewest_90 : decode cX9_fewest 90 = .ok (.getfield 239, 3) := dq_g172.2.2.2.2.2.2.2.2.2.2.2.2.2.2.2.2.1
theorem dX9_fewest_93 : decode cX9_fewest 93 = .ok (.iload_n 2, 1) := dq_g172.2.2.2.2.2.2.2.2.2.2.2.2.2.2.2.2.2.1
theorem dX9_fewest_94 : decode cX9_fewest 94 = .ok (.iconst 1, 1) := dq_g172.2.2.2.2.2.2.2.2.2.2.2.2.2.2.2.2.2.2.1
theorem dX9_fewest_95 : decode cX9_fewest 95 = .ok (.isub, 1) := dq_g172.2.2.2.2.2.2.2.2.2.2.2.2.2.2.2.2.2.2.2.1
theorem dX9_fewest_96 : decode cX9_fewest 96 = .ok (.iaload, 1) := dq_g172.2.2.2.2.2.2.2.2.2.2.2.2.2.2.2.2.2.2.2.2.1
theorem dX9_fewest_97 : decode cX9_fewest 97 = .ok (.ireturn, 1) := dq_g172.2.2.2.2.2.2.2.2.2.2.2.2.2.2.2.2.2.2.2.2.2.1
theorem dq_g173 : decode cX9_tap 0 = .ok (.aload_n 0, 1) ∧ decode cX9_tap 1 = .ok (.iload_n 1, 1) ∧ decode cX9_tap 2 = .ok (.invokevirtual 78, 3) ∧ decode cX9_tap 5 = .ok (.astore 4, 2) ∧ decode cX9_tap 7 = .ok (.aload 4, 2) ∧ decode cX9_tap 9 = .ok (.ifnull 30, 3) ∧ decode cX9_tap 12 = .ok (.iload_n 2, 1) ∧ decode cX9_tap 13 = .ok (.invokestatic 150, 3) ∧ decode cX9_tap 16 = .ok (.ifCond .eq 23, 3) ∧ decode cX9_tap 19 = .ok (.iload_n 3, 1) ∧ decode cX9_tap 20 = .ok (.iconst 0, 1) ∧ decode cX9_tap 21 = .ok (.ldc 242, 2) ∧ decode cX9_tap 23 = .ok (.invokestatic 89, 3) ∧ decode cX9_tap 26 = .ok (.ifCond .eq 13, 3) ∧ decode cX9_tap 29 = .ok (.aload 4, 2) ∧ decode cX9_tap 31 = .ok (.getfield 200, 3) ∧ decode cX9_tap 34 = .ok (.bipush 12, 2) ∧ decode cX9_tap 36 = .ok (.if_icmp .lt 5, 3) ∧ decode cX9_tap 39 = .ok (.iconst (-1), 1) ∧ decode cX9_tap 40 = .ok (.ireturn, 1) ∧ decode cX9_tap 41 = .ok (.aload 4, 2) ∧ decode cX9_tap 43 = .ok (.iload_n 2, 1) ∧ decode cX9_tap 44 = .ok (.iload_n 3, 1) ∧ decode cX9_tap 45 = .ok (.invokevirtual 243, 3) ∧ decode cX9_tap 48 = .ok (.aload 4, 2) ∧ decode cX9_tap 50 = .ok (.getfield 200, 3) ∧ decode cX9_tap 53 = .ok (.ireturn, 1) ∧ True := dqC_ok (c := cX9_tap) [(0, 1, some (.aload_n 0)), (1, 1, some (.iload_n 1)), (2, 3, some (.invokevirtual 78)), (5, 2, some (.astore 4)), (7, 2, some (.aload 4)), (9, 3, some (.ifnull 30)), (12, 1, some (.iload_n 2)), (13, 3, some (.invokestatic 150)), (16, 3, some (.ifCond .eq 23)), (19, 1, some (.iload_n 3)), (20, 1, some (.iconst 0)), (21, 2, some (.ldc 242)), (23, 3, some (.invokestatic 89)), (26, 3, some (.ifCond .eq 13)), (29, 2, some (.aload 4)), (31, 3, some (.getfield 200)), (34, 2, some (.bipush 12)), (36, 3, some (.if_icmp .lt 5)), (39, 1, some (.iconst (-1))), (40, 1, some (.ireturn)), (41, 2, some (.aload 4)), (43, 1, some (.iload_n 2)), (44, 1, some (.iload_n 3)), (45, 3, some (.invokevirtual 243)), (48, 2, some (.aload 4)), (50, 3, some (.getfield 200)), (53, 1, some (.ireturn))] _ 0 rfl (by decide +kernel)
theorem dX9_tap_0 : decode cX9_tap 0 = .ok (.aload_n 0, 1) := dq_g173.1
theorem dX9_tap_1 : decode cX9_tap 1 = .ok (.iload_n 1, 1) := dq_g173.2.1
theorem dX9_tap_2 : decode cX9_tap 2 = .ok (.invokevirtual 78, 3) := dq_g173.2.2.1
theorem dX9_tap_5 : decode cX9_tap 5 = .ok (.astore 4, 2) := dq_g173.2.2.2.1
theorem dX9_tap_7 : decode cX9_tap 7 = .ok (.aload 4, 2) := dq_g173.2.2.2.2.1
theorem dX9_tap_9 : decode cX9_tap 9 = .ok (.ifnull 30, 3) := dq_g173.2.2.2.2.2.1
theorem dX9_tap_12 : decode cX9_tap 12 = .ok (.iload_n 2, 1) := dq_g173.2.2.2.2.2.2.1
theorem dX9_tap_13 : decode cX9_tap 13 = .ok (.invokestatic 150, 3) := dq_g173.2.2.2.2.2.2.2.1
theorem dX9_tap_16 : decode cX9_tap 16 = .ok (.ifCond .eq 23, 3) := dq_g173.2.2.2.2.2.2.2.2.1
theorem dX9_tap_19 : decode cX9_tap 19 = .ok (.iload_n 3, 1) := dq_g173.2.2.2.2.2.2.2.2.2.1
theorem dX9_tap_20 : decode cX9_tap 20 = .ok (.iconst 0, 1) := dq_g173.2.2.2.2.2.2.2.2.2.2.1
theorem dX9_tap_21 : decode cX9_tap 21 = .ok (.ldc 242, 2) := dq_g173.2.2.2.2.2.2.2.2.2.2.2.1
theorem dX9_tap_23 : decode cX9_tap 23 = .ok (.invokestatic 89, 3) := dq_g173.2.2.2.2.2.2.2.2.2.2.2.2.1
theorem dX9_tap_26 : decode cX9_tap 26 = .ok (.ifCond .eq 13, 3) := dq_g173.2.2.2.2.2.2.2.2.2.2.2.2.2.1
theorem dX9_tap_29 : decode cX9_tap 29 = .ok (.aload 4, 2) := dq_g173.2.2.2.2.2.2.2.2.2.2.2.2.2.2.1
theorem dX9_tap_31 : decode cX9_tap 31 = .ok (.getfield 200, 3) := dq_g173.2.2.2.2.2.2.2.2.2.2.2.2.2.2.2.1
theorem dX9_tap_34 : decode cX9_tap 34 = .ok (.bipush 12, 2) := dq_g173.2.2.2.2.2.2.2.2.2.2.2.2.2.2.2.2.1
theorem dX9_tap_36 : decode cX9_tap 36 = .ok (.if_icmp .lt 5, 3) := dq_g173.2.2.2.2.2.2.2.2.2.2.2.2.2.2.2.2.2.1
theorem dX9_tap_39 : decode cX9_tap 39 = .ok (.iconst (-1), 1) := dq_g173.2.2.2.2.2.2.2.2.2.2.2.2.2.2.2.2.2.2.1
theorem dX9_tap_40 : decode cX9_tap 40 = .ok (.ireturn, 1) := dq_g173.2.2.2.2.2.2.2.2.2.2.2.2.2.2.2.2.2.2.2.1
theorem dX9_tap_41 : decode cX9_tap 41 = .ok (.aload 4, 2) := dq_g173.2.2.2.2.2.2.2.2.2.2.2.2.2.2.2.2.2.2.2.2.1
theorem dX9_tap_43 : decode cX9_tap 43 = .ok (.iload_n 2, 1) := dq_g173.2.2.2.2.2.2.2.2.2.2.2.2.2.2.2.2.2.2.2.2.2.1
theorem dX9_tap_44 : decode cX9_tap 44 = .ok (.iload_n 3, 1) := dq_g173.2.2.2.2.2.2.2.2.2.2.2.2.2.2.2.2.2.2.2.2.2.2.1
theorem dX9_tap_45 : decode cX9_tap 45 = .ok (.invokevirtual 243, 3) := dq_g173.2.2.2.2.2.2.2.2.2.2.2.2.2.2.2.2.2.2.2.2.2.2.2.1
theorem dX9_tap_48 : decode cX9_tap 48 = .ok (.aload 4, 2) := dq_g173.2.2.2.2.2.2.2.2.2.2.2.2.2.2.2.2.2.2.2.2.2.2.2.2.1
theorem dX9_tap_50 : decode cX9_tap 50 = .ok (.getfield 200, 3) := dq_g173.2.2.2.2.2.2.2.2.2.2.2.2.2.2.2.2.2.2.2.2.2.2.2.2.2.1
theorem dX9_tap_53 : decode cX9_tap 53 = .ok (.ireturn, 1) := dq_g173.2.2.2.2.2.2.2.2.2.2.2.2.2.2.2.2.2.2.2.2.2.2.2.2.2.2.1
theorem dq_g174 : decode cX9_fits 0 = .ok (.aload_n 0, 1) ∧ decode cX9_fits 1 = .ok (.iload_n 1, 1) ∧ decode cX9_fits 2 = .ok (.invokevirtual 78, 3) ∧ decode cX9_fits 5 = .ok (.astore 5, 2) ∧ decode cX9_fits 7 = .ok (.aload 5, 2) ∧ decode cX9_fits 9 = .ok (.ifnull 31, 3) ∧ decode cX9_fits 12 = .ok (.aload 5, 2) ∧ decode cX9_fits 14 = .ok (.getfield 187, 3) ∧ decode cX9_fits 17 = .ok (.iconst 5, 1) ∧ decode cX9_fits 18 = .ok (.if_icmp .gt 22, 3) ∧ decode cX9_fits 21 = .ok (.iload_n 2, 1) ∧ decode cX9_fits 22 = .ok (.iconst 1, 1) ∧ decode cX9_fits 23 = .ok (.iconst 4, 1) ∧ decode cX9_fits 24 = .ok (.invokestatic 89, 3) ∧ decode cX9_fits 27 = .ok (.ifCond .eq 13, 3) ∧ decode cX9_fits 30 = .ok (.iload_n 3, 1) ∧ decode cX9_fits 31 = .ok (.iconst 0, 1) ∧ decode cX9_fits 32 = .ok (.ldc 247, 2) ∧ decode cX9_fits 34 = .ok (.invokestatic 89, 3) ∧ decode cX9_fits 37 = .ok (.ifCond .ne 5, 3) ∧ decode cX9_fits 40 = .ok (.iconst (-1), 1) ∧ decode cX9_fits 41 = .ok (.ireturn, 1) ∧ decode cX9_fits 42 = .ok (.iload 4, 2) ∧ decode cX9_fits 44 = .ok (.bipush 10, 2) ∧ decode cX9_fits 46 = .ok (.isub, 1) ∧ decode cX9_fits 47 = .ok (.istore 6, 2) ∧ decode cX9_fits 49 = .ok (.iload 4, 2) ∧ decode cX9_fits 51 = .ok (.ifCond .eq 28, 3) ∧ decode cX9_fits 54 = .ok (.iload 4, 2) ∧ decode cX9_fits 56 = .ok (.iconst 1, 1) ∧ True := dqC_ok (c := cX9_fits) [(0, 1, some (.aload_n 0)), (1, 1, some (.iload_n 1)), (2, 3, some (.invokevirtual 78)), (5, 2, some (.astore 5)), (7, 2, some (.aload 5)), (9, 3, some (.ifnull 31)), (12, 2, some (.aload 5)), (14, 3, some (.getfield 187)), (17, 1, some (.iconst 5)), (18, 3, some (.if_icmp .gt 22)), (21, 1, some (.iload_n 2)), (22, 1, some (.iconst 1)), (23, 1, some (.iconst 4)), (24, 3, some (.invokestatic 89)), (27, 3, some (.ifCond .eq 13)), (30, 1, some (.iload_n 3)), (31, 1, some (.iconst 0)), (32, 2, some (.ldc 247)), (34, 3, some (.invokestatic 89)), (37, 3, some (.ifCond .ne 5)), (40, 1, some (.iconst (-1))), (41, 1, some (.ireturn)), (42, 2, some (.iload 4)), (44, 2, some (.bipush 10)), (46, 1, some (.isub)), (47, 2, some (.istore 6)), (49, 2, some (.iload 4)), (51, 3, some (.ifCond .eq 28)), (54, 2, some (.iload 4)), (56, 1, some (.iconst 1))] _ 0 rfl (by decide +kernel)
theorem dX9_fits_0 : decode cX9_fits 0 = .ok (.aload_n 0, 1) := dq_g174.1
theorem dX9_fits_1 : decode cX9_fits 1 = .ok (.iload_n 1, 1) := dq_g174.2.1
theorem dX9_fits_2 : decode cX9_fits 2 = .ok (.invokevirtual 78, 3) := dq_g174.2.2.1
theorem dX9_fits_5 : decode cX9_fits 5 = .ok (.astore 5, 2) := dq_g174.2.2.2.1
theorem dX9_fits_7 : decode cX9_fits 7 = .ok (.aload 5, 2) := dq_g174.2.2.2.2.1
theorem dX9_fits_9 : decode cX9_fits 9 = .ok (.ifnull 31, 3) := dq_g174.2.2.2.2.2.1
theorem dX9_fits_12 : decode cX9_fits 12 = .ok (.aload 5, 2) := dq_g174.2.2.2.2.2.2.1
theorem dX9_fits_14 : decode cX9_fits 14 = .ok (.getfield 187, 3) := dq_g174.2.2.2.2.2.2.2.1
theorem dX9_fits_17 : decode cX9_fits 17 = .ok (.iconst 5, 1) := dq_g174.2.2.2.2.2.2.2.2.1
theorem dX9_fits_18 : decode cX9_fits 18 = .ok (.if_icmp .gt 22, 3) := dq_g174.2.2.2.2.2.2.2.2.2.1
theorem dX9_fits_21 : decode cX9_fits 21 = .ok (.iload_n 2, 1) := dq_g174.2.2.2.2.2.2.2.2.2.2.1
theorem dX9_fits_22 : decode cX9_fits 22 = .ok (.iconst 1, 1) := dq_g174.2.2.2.2.2.2.2.2.2.2.2.1
theorem dX9_fits_23 : decode cX9_fits 23 = .ok (.iconst 4, 1) := dq_g174.2.2.2.2.2.2.2.2.2.2.2.2.1
theorem dX9_fits_24 : decode cX9_fits 24 = .ok (.invokestatic 89, 3) := dq_g174.2.2.2.2.2.2.2.2.2.2.2.2.2.1
theorem dX9_fits_27 : decode cX9_fits 27 = .ok (.ifCond .eq 13, 3) := dq_g174.2.2.2.2.2.2.2.2.2.2.2.2.2.2.1
theorem dX9_fits_30 : decode cX9_fits 30 = .ok (.iload_n 3, 1) := dq_g174.2.2.2.2.2.2.2.2.2.2.2.2.2.2.2.1
theorem dX9_fits_31 : decode cX9_fits 31 = .ok (.iconst 0, 1) := dq_g174.2.2.2.2.2.2.2.2.2.2.2.2.2.2.2.2.1
theorem dX9_fits_32 : decode cX9_fits 32 = .ok (.ldc 247, 2) := dq_g174.2.2.2.2.2.2.2.2.2.2.2.2.2.2.2.2.2.1
theorem dX9_fits_34 : decode cX9_fits 34 = .ok (.invokestatic 89, 3) := dq_g174.2.2.2.2.2.2.2.2.2.2.2.2.2.2.2.2.2.2.1
theorem dX9_fits_37 : decode cX9_fits 37 = .ok (.ifCond .ne 5, 3) := dq_g174.2.2.2.2.2.2.2.2.2.2.2.2.2.2.2.2.2.2.2.1
theorem dX9_fits_40 : decode cX9_fits 40 = .ok (.iconst (-1), 1) := dq_g174.2.2.2.2.2.2.2.2.2.2.2.2.2.2.2.2.2.2.2.2.1
theorem dX9_fits_41 : decode cX9_fits 41 = .ok (.ireturn, 1) := dq_g174.2.2.2.2.2.2.2.2.2.2.2.2.2.2.2.2.2.2.2.2.2.1
theorem dX9_fits_42 : decode cX9_fits 42 = .ok (.iload 4, 2) := dq_g174.2.2.2.2.2.2.2.2.2.2.2.2.2.2.2.2.2.2.2.2.2.2.1
theorem dX9_fits_44 : decode cX9_fits 44 = .ok (.bipush 10, 2) := dq_g174.2.2.2.2.2.2.2.2.2.2.2.2.2.2.2.2.2.2.2.2.2.2.2.1
theorem dX9_fits_46 : decode cX9_fits 46 = .ok (.isub, 1) := dq_g174.2.2.2.2.2.2.2.2.2.2.2.2.2.2.2.2.2.2.2.2.2.2.2.2.1
theorem dX9_fits_47 : decode cX9_fits 47 = .ok (.istore 6, 2) := dq_g174.2.2.2.2.2.2.2.2.2.2.2.2.2.2.2.2.2.2.2.2.2.2.2.2.2.1
theorem dX9_fits_49 : decode cX9_fits 49 = .ok (.iload 4, 2) := dq_g174.2.2.2.2.2.2.2.2.2.2.2.2.2.2.2.2.2.2.2.2.2.2.2.2.2.2.1
theorem dX9_fits_51 : decode cX9_fits 51 = .ok (.ifCond .eq 28, 3) := dq_g174.2.2.2.2.2.2.2.2.2.2.2.2.2.2.2.2.2.2.2.2.2.2.2.2.2.2.2.1
theorem dX9_fits_54 : decode cX9_fits 54 = .ok (.iload 4, 2) := dq_g174.2.2.2.2.2.2.2.2.2.2.2.2.2.2.2.2.2.2.2.2.2.2.2.2.2.2.2.2.1
theorem dX9_fits_56 : decode cX9_fits 56 = .ok (.iconst 1, 1) := dq_g174.2.2.2.2.2.2.2.2.2.2.2.2.2.2.2.2.2.2.2.2.2.2.2.2.2.2.2.2.2.1
theorem dq_g175 : decode cX9_fits 57 = .ok (.if_icmp .eq 22, 3) ∧ decode cX9_fits 60 = .ok (.iload 4, 2) ∧ decode cX9_fits 62 = .ok (.bipush 10, 2) ∧ decode cX9_fits 64 = .ok (.if_icmp .lt 13, 3) ∧ decode cX9_fits 67 = .ok (.aload 5, 2) ∧ decode cX9_fits 69 = .ok (.iload 6, 2) ∧ decode cX9_fits 71 = .ok (.invokevirtual 82, 3) ∧ decode cX9_fits 74 = .ok (.ifCond .ne 5, 3) ∧ decode cX9_fits 77 = .ok (.iconst (-1), 1) ∧ decode cX9_fits 78 = .ok (.ireturn, 1) ∧ decode cX9_fits 79 = .ok (.aload_n 0, 1) ∧ decode cX9_fits 80 = .ok (.getfield 44, 3) ∧ decode cX9_fits 83 = .ok (.aload_n 0, 1) ∧ decode cX9_fits 84 = .ok (.getfield 30, 3) ∧ decode cX9_fits 87 = .ok (.aload_n 0, 1) ∧ decode cX9_fits 88 = .ok (.getfield 12, 3) ∧ decode cX9_fits 91 = .ok (.invokevirtual 212, 3) ∧ decode cX9_fits 94 = .ok (.aload 5, 2) ∧ decode cX9_fits 96 = .ok (.iload_n 2, 1) ∧ decode cX9_fits 97 = .ok (.iload_n 3, 1) ∧ decode cX9_fits 98 = .ok (.invokevirtual 248, 3) ∧ decode cX9_fits 101 = .ok (.istore 7, 2) ∧ decode cX9_fits 103 = .ok (.iload 4, 2) ∧ decode cX9_fits 105 = .ok (.ifCond .ne 6, 3) ∧ decode cX9_fits 108 = .ok (.iload 7, 2) ∧ decode cX9_fits 110 = .ok (.ireturn, 1) ∧ decode cX9_fits 111 = .ok (.iload 4, 2) ∧ decode cX9_fits 113 = .ok (.iconst 1, 1) ∧ decode cX9_fits 114 = .ok (.if_icmp .ne 26, 3) ∧ decode cX9_fits 117 = .ok (.aload_n 0, 1) ∧ True := dqC_ok (c := cX9_fits) [(57, 3, some (.if_icmp .eq 22)), (60, 2, some (.iload 4)), (62, 2, some (.bipush 10)), (64, 3, some (.if_icmp .lt 13)), (67, 2, some (.aload 5)), (69, 2, some (.iload 6)), (71, 3, some (.invokevirtual 82)), (74, 3, some (.ifCond .ne 5)), (77, 1, some (.iconst (-1))), (78, 1, some (.ireturn)), (79, 1, some (.aload_n 0)), (80, 3, some (.getfield 44)), (83, 1, some (.aload_n 0)), (84, 3, some (.getfield 30)), (87, 1, some (.aload_n 0)), (88, 3, some (.getfield 12)), (91, 3, some (.invokevirtual 212)), (94, 2, some (.aload 5)), (96, 1, some (.iload_n 2)), (97, 1, some (.iload_n 3)), (98, 3, some (.invokevirtual 248)), (101, 2, some (.istore 7)), (103, 2, some (.iload 4)), (105, 3, some (.ifCond .ne 6)), (108, 2, some (.iload 7)), (110, 1, some (.ireturn)), (111, 2, some (.iload 4)), (113, 1, some (.iconst 1)), (114, 3, some (.if_icmp .ne 26)), (117, 1, some (.aload_n 0))] _ 57 rfl (by decide +kernel)
theorem dX9_fits_57 : decode cX9_fits 57 = .ok (.if_icmp .eq 22, 3) := dq_g175.1
theorem dX9_fits_60 : decode cX9_fits 60 = .ok (.iload 4, 2) := dq_g175.2.1
theorem dX9_fits_62 : decode cX9_fits 62 = .ok (.bipush 10, 2) := dq_g175.2.2.1
theorem dX9_fits_64 : decode cX9_fits 64 = .ok (.if_icmp .lt 13, 3) := dq_g175.2.2.2.1
theorem dX9_fits_67 : decode cX9_fits 67 = .ok (.aload 5, 2) := dq_g175.2.2.2.2.1
theorem dX9_fits_69 : decode cX9_fits 69 = .ok (.iload 6, 2) := dq_g175.2.2.2.2.2.1
theorem dX9_fits_71 : decode cX9_fits 71 = .ok (.invokevirtual 82, 3) := dq_g175.2.2.2.2.2.2.1
theorem dX9_fits_74 : decode cX9_fits 74 = .ok (.ifCond .ne 5, 3) := dq_g175.2.2.2.2.2.2.2.1
theorem dX9_fits_77 : decode cX9_fits 77 = .ok (.iconst (-1), 1) := dq_g175.2.2.2.2.2.2.2.2.1
theorem dX9_fits_78 : decode cX9_fits 78 = .ok (.ireturn, 1) := dq_g175.2.2.2.2.2.2.2.2.2.1
theorem dX9_fits_79 : decode cX9_fits 79 = .ok (.aload_n 0, 1) := dq_g175.2.2.2.2.2.2.2.2.2.2.1
theorem dX9_fits_80 : decode cX9_fits 80 = .ok (.getfield 44, 3) := dq_g175.2.2.2.2.2.2.2.2.2.2.2.1
theorem dX9_fits_83 : decode cX9_fits 83 = .ok (.aload_n 0, 1) := dq_g175.2.2.2.2.2.2.2.2.2.2.2.2.1
theorem dX9_fits_84 : decode cX9_fits 84 = .ok (.getfield 30, 3) := dq_g175.2.2.2.2.2.2.2.2.2.2.2.2.2.1
theorem dX9_fits_87 : decode cX9_fits 87 = .ok (.aload_n 0, 1) := dq_g175.2.2.2.2.2.2.2.2.2.2.2.2.2.2.1
theorem dX9_fits_88 : decode cX9_fits 88 = .ok (.getfield 12, 3) := dq_g175.2.2.2.2.2.2.2.2.2.2.2.2.2.2.2.1
theorem dX9_fits_91 : decode cX9_fits 91 = .ok (.invokevirtual 212, 3) := dq_g175.2.2.2.2.2.2.2.2.2.2.2.2.2.2.2.2.1
theorem dX9_fits_94 : decode cX9_fits 94 = .ok (.aload 5, 2) := dq_g175.2.2.2.2.2.2.2.2.2.2.2.2.2.2.2.2.2.1
theorem dX9_fits_96 : decode cX9_fits 96 = .ok (.iload_n 2, 1) := dq_g175.2.2.2.2.2.2.2.2.2.2.2.2.2.2.2.2.2.2.1
theorem dX9_fits_97 : decode cX9_fits 97 = .ok (.iload_n 3, 1) := dq_g175.2.2.2.2.2.2.2.2.2.2.2.2.2.2.2.2.2.2.2.1
theorem dX9_fits_98 : decode cX9_fits 98 = .ok (.invokevirtual 248, 3) := dq_g175.2.2.2.2.2.2.2.2.2.2.2.2.2.2.2.2.2.2.2.2.1
theorem dX9_fits_101 : decode cX9_fits 101 = .ok (.istore 7, 2) := dq_g175.2.2.2.2.2.2.2.2.2.2.2.2.2.2.2.2.2.2.2.2.2.1
theorem dX9_fits_103 : decode cX9_fits 103 = .ok (.iload 4, 2) := dq_g175.2.2.2.2.2.2.2.2.2.2.2.2.2.2.2.2.2.2.2.2.2.2.1
theorem dX9_fits_105 : decode cX9_fits 105 = .ok (.ifCond .ne 6, 3) := dq_g175.2.2.2.2.2.2.2.2.2.2.2.2.2.2.2.2.2.2.2.2.2.2.2.1
theorem dX9_fits_108 : decode cX9_fits 108 = .ok (.iload 7, 2) := dq_g175.2.2.2.2.2.2.2.2.2.2.2.2.2.2.2.2.2.2.2.2.2.2.2.2.1
theorem dX9_fits_110 : decode cX9_fits 110 = .ok (.ireturn, 1) := dq_g175.2.2.2.2.2.2.2.2.2.2.2.2.2.2.2.2.2.2.2.2.2.2.2.2.2.1
theorem dX9_fits_111 : decode cX9_fits 111 = .ok (.iload 4, 2) := dq_g175.2.2.2.2.2.2.2.2.2.2.2.2.2.2.2.2.2.2.2.2.2.2.2.2.2.2.1
theorem dX9_fits_113 : decode cX9_fits 113 = .ok (.iconst 1, 1) := dq_g175.2.2.2.2.2.2.2.2.2.2.2.2.2.2.2.2.2.2.2.2.2.2.2.2.2.2.2.1
theorem dX9_fits_114 : decode cX9_fits 114 = .ok (.if_icmp .ne 26, 3) := dq_g175.2.2.2.2.2.2.2.2.2.2.2.2.2.2.2.2.2.2.2.2.2.2.2.2.2.2.2.2.1
theorem dX9_fits_117 : decode cX9_fits 117 = .ok (.aload_n 0, 1) := dq_g175.2.2.2.2.2.2.2.2.2.2.2.2.2.2.2.2.2.2.2.2.2.2.2.2.2.2.2.2.2.1
theorem dq_g176 : decode cX9_fits 118 = .ok (.getfield 44, 3) ∧ decode cX9_fits 121 = .ok (.aload_n 0, 1) ∧ decode cX9_fits 122 = .ok (.getfield 30, 3) ∧ decode cX9_fits 125 = .ok (.aload_n 0, 1) ∧ decode cX9_fits 126 = .ok (.getfield 12, 3) ∧ decode cX9_fits 129 = .ok (.invokevirtual 212, 3) ∧ decode cX9_fits 132 = .ok (.aload 5, 2) ∧ decode cX9_fits 134 = .ok (.invokevirtual 251, 3) ∧ decode cX9_fits 137 = .ok (.goto 12, 3) ∧ decode cX9_fits 140 = .ok (.aload_n 0, 1) ∧ decode cX9_fits 141 = .ok (.getfield 44, 3) ∧ decode cX9_fits 144 = .ok (.iload 6, 2) ∧ decode cX9_fits 146 = .ok (.invokevirtual 255, 3) ∧ decode cX9_fits 149 = .ok (.ireturn, 1) ∧ True := dqC_ok (c := cX9_fits) [(118, 3, some (.getfield 44)), (121, 1, some (.aload_n 0)), (122, 3, some (.getfield 30)), (125, 1, some (.aload_n 0)), (126, 3, some (.getfield 12)), (129, 3, some (.invokevirtual 212)), (132, 2, some (.aload 5)), (134, 3, some (.invokevirtual 251)), (137, 3, some (.goto 12)), (140, 1, some (.aload_n 0)), (141, 3, some (.getfield 44)), (144, 2, some (.iload 6)), (146, 3, some (.invokevirtual 255)), (149, 1, some (.ireturn))] _ 118 rfl (by decide +kernel)
theorem dX9_fits_118 : decode cX9_fits 118 = .ok (.getfield 44, 3) := dq_g176.1
theorem dX9_fits_121 : decode cX9_fits 121 = .ok (.aload_n 0, 1) := dq_g176.2.1
theorem dX9_fits_122 : decode cX9_fits 122 = .ok (.getfield 30, 3) := dq_g176.2.2.1
theorem dX9_fits_125 : decode cX9_fits 125 = .ok (.aload_n 0, 1) := dq_g176.2.2.2.1
theorem dX9_fits_126 : decode cX9_fits 126 = .ok (.getfield 12, 3) := dq_g176.2.2.2.2.1
theorem dX9_fits_129 : decode cX9_fits 129 = .ok (.invokevirtual 212, 3) := dq_g176.2.2.2.2.2.1
theorem dX9_fits_132 : decode cX9_fits 132 = .ok (.aload 5, 2) := dq_g176.2.2.2.2.2.2.1
theorem dX9_fits_134 : decode cX9_fits 134 = .ok (.invokevirtual 251, 3) := dq_g176.2.2.2.2.2.2.2.1
theorem dX9_fits_137 : decode cX9_fits 137 = .ok (.goto 12, 3) := dq_g176.2.2.2.2.2.2.2.2.1
theorem dX9_fits_140 : decode cX9_fits 140 = .ok (.aload_n 0, 1) := dq_g176.2.2.2.2.2.2.2.2.2.1
theorem dX9_fits_141 : decode cX9_fits 141 = .ok (.getfield 44, 3) := dq_g176.2.2.2.2.2.2.2.2.2.2.1
theorem dX9_fits_144 : decode cX9_fits 144 = .ok (.iload 6, 2) := dq_g176.2.2.2.2.2.2.2.2.2.2.2.1
theorem dX9_fits_146 : decode cX9_fits 146 = .ok (.invokevirtual 255, 3) := dq_g176.2.2.2.2.2.2.2.2.2.2.2.2.1
theorem dX9_fits_149 : decode cX9_fits 149 = .ok (.ireturn, 1) := dq_g176.2.2.2.2.2.2.2.2.2.2.2.2.2.1
theorem dq_g177 : decode cX9_off 0 = .ok (.iload_n 1, 1) ∧ decode cX9_off 1 = .ok (.iconst (-1), 1) ∧ decode cX9_off 2 = .ok (.if_icmp .ne 38, 3) ∧ decode cX9_off 5 = .ok (.aload_n 0, 1) ∧ decode cX9_off 6 = .ok (.aload_n 0, 1) ∧ decode cX9_off 7 = .ok (.getfield 12, 3) ∧ decode cX9_off 10 = .ok (.getfield 158, 3) ∧ decode cX9_off 13 = .ok (.iconst 1, 1) ∧ decode cX9_off 14 = .ok (.aaload, 1) ∧ decode cX9_off 15 = .ok (.invokevirtual 259, 3) ∧ decode cX9_off 18 = .ok (.aload_n 0, 1) ∧ decode cX9_off 19 = .ok (.aload_n 0, 1) ∧ decode cX9_off 20 = .ok (.getfield 12, 3) ∧ decode cX9_off 23 = .ok (.getfield 158, 3) ∧ decode cX9_off 26 = .ok (.iconst 0, 1) ∧ decode cX9_off 27 = .ok (.aaload, 1) ∧ decode cX9_off 28 = .ok (.invokevirtual 259, 3) ∧ decode cX9_off 31 = .ok (.if_icmp .ge 7, 3) ∧ decode cX9_off 34 = .ok (.iconst 1, 1) ∧ decode cX9_off 35 = .ok (.goto 4, 3) ∧ decode cX9_off 38 = .ok (.iconst 0, 1) ∧ decode cX9_off 39 = .ok (.ireturn, 1) ∧ decode cX9_off 40 = .ok (.iload_n 1, 1) ∧ decode cX9_off 41 = .ok (.iconst 0, 1) ∧ decode cX9_off 42 = .ok (.iconst 1, 1) ∧ decode cX9_off 43 = .ok (.invokestatic 89, 3) ∧ decode cX9_off 46 = .ok (.ifCond .eq 19, 3) ∧ decode cX9_off 49 = .ok (.aload_n 0, 1) ∧ decode cX9_off 50 = .ok (.aload_n 0, 1) ∧ decode cX9_off 51 = .ok (.getfield 12, 3) ∧ True := dqC_ok (c := cX9_off) [(0, 1, some (.iload_n 1)), (1, 1, some (.iconst (-1))), (2, 3, some (.if_icmp .ne 38)), (5, 1, some (.aload_n 0)), (6, 1, some (.aload_n 0)), (7, 3, some (.getfield 12)), (10, 3, some (.getfield 158)), (13, 1, some (.iconst 1)), (14, 1, some (.aaload)), (15, 3, some (.invokevirtual 259)), (18, 1, some (.aload_n 0)), (19, 1, some (.aload_n 0)), (20, 3, some (.getfield 12)), (23, 3, some (.getfield 158)), (26, 1, some (.iconst 0)), (27, 1, some (.aaload)), (28, 3, some (.invokevirtual 259)), (31, 3, some (.if_icmp .ge 7)), (34, 1, some (.iconst 1)), (35, 3, some (.goto 4)), (38, 1, some (.iconst 0)), (39, 1, some (.ireturn)), (40, 1, some (.iload_n 1)), (41, 1, some (.iconst 0)), (42, 1, some (.iconst 1)), (43, 3, some (.invokestatic 89)), (46, 3, some (.ifCond .eq 19)), (49, 1, some (.aload_n 0)), (50, 1, some (.aload_n 0)), (51, 3, some (.getfield 12))] _ 0 rfl (by decide +kernel)
theorem dX9_off_0 : decode cX9_off 0 = .ok (.iload_n 1, 1) := dq_g177.1
theorem dX9_off_1 : decode cX9_off 1 = .ok (.iconst (-1), 1) := dq_g177.2.1
theorem dX9_off_2 : decode cX9_off 2 = .ok (.if_icmp .ne 38, 3) := dq_g177.2.2.1
theorem dX9_off_5 : decode cX9_off 5 = .ok (.aload_n 0, 1) := dq_g177.2.2.2.1
theorem dX9_off_6 : decode cX9_off 6 = .ok (.aload_n 0, 1) := dq_g177.2.2.2.2.1
theorem dX9_off_7 : decode cX9_off 7 = .ok (.getfield 12, 3) := dq_g177.2.2.2.2.2.1
theorem dX9_off_10 : decode cX9_off 10 = .ok (.getfield 158, 3) := dq_g177.2.2.2.2.2.2.1
theorem dX9_off_13 : decode cX9_off 13 = .ok (.iconst 1, 1) := dq_g177.2.2.2.2.2.2.2.1
theorem dX9_off_14 : decode cX9_off 14 = .ok (.aaload, 1) := dq_g177.2.2.2.2.2.2.2.2.1
theorem dX9_off_15 : decode cX9_off 15 = .ok (.invokevirtual 259, 3) := dq_g177.2.2.2.2.2.2.2.2.2.1
theorem dX9_off_18 : decode cX9_off 18 = .ok (.aload_n 0, 1) := dq_g177.2.2.2.2.2.2.2.2.2.2.1
theorem dX9_off_19 : decode cX9_off 19 = .ok (.aload_n 0, 1) := dq_g177.2.2.2.2.2.2.2.2.2.2.2.1
theorem dX9_off_20 : decode cX9_off 20 = .ok (.getfield 12, 3) := dq_g177.2.2.2.2.2.2.2.2.2.2.2.2.1
theorem dX9_off_23 : decode cX9_off 23 = .ok (.getfield 158, 3) := dq_g177.2.2.2.2.2.2.2.2.2.2.2.2.2.1
theorem dX9_off_26 : decode cX9_off 26 = .ok (.iconst 0, 1) := dq_g177.2.2.2.2.2.2.2.2.2.2.2.2.2.2.1
theorem dX9_off_27 : decode cX9_off 27 = .ok (.aaload, 1) := dq_g177.2.2.2.2.2.2.2.2.2.2.2.2.2.2.2.1
theorem dX9_off_28 : decode cX9_off 28 = .ok (.invokevirtual 259, 3) := dq_g177.2.2.2.2.2.2.2.2.2.2.2.2.2.2.2.2.1
theorem dX9_off_31 : decode cX9_off 31 = .ok (.if_icmp .ge 7, 3) := dq_g177.2.2.2.2.2.2.2.2.2.2.2.2.2.2.2.2.2.1
theorem dX9_off_34 : decode cX9_off 34 = .ok (.iconst 1, 1) := dq_g177.2.2.2.2.2.2.2.2.2.2.2.2.2.2.2.2.2.2.1
theorem dX9_off_35 : decode cX9_off 35 = .ok (.goto 4, 3) := dq_g177.2.2.2.2.2.2.2.2.2.2.2.2.2.2.2.2.2.2.2.1
theorem dX9_off_38 : decode cX9_off 38 = .ok (.iconst 0, 1) := dq_g177.2.2.2.2.2.2.2.2.2.2.2.2.2.2.2.2.2.2.2.2.1
theorem dX9_off_39 : decode cX9_off 39 = .ok (.ireturn, 1) := dq_g177.2.2.2.2.2.2.2.2.2.2.2.2.2.2.2.2.2.2.2.2.2.1
theorem dX9_off_40 : decode cX9_off 40 = .ok (.iload_n 1, 1) := dq_g177.2.2.2.2.2.2.2.2.2.2.2.2.2.2.2.2.2.2.2.2.2.2.1
theorem dX9_off_41 : decode cX9_off 41 = .ok (.iconst 0, 1) := dq_g177.2.2.2.2.2.2.2.2.2.2.2.2.2.2.2.2.2.2.2.2.2.2.2.1
theorem dX9_off_42 : decode cX9_off 42 = .ok (.iconst 1, 1) := dq_g177.2.2.2.2.2.2.2.2.2.2.2.2.2.2.2.2.2.2.2.2.2.2.2.2.1
theorem dX9_off_43 : decode cX9_off 43 = .ok (.invokestatic 89, 3) := dq_g177.2.2.2.2.2.2.2.2.2.2.2.2.2.2.2.2.2.2.2.2.2.2.2.2.2.1
theorem dX9_off_46 : decode cX9_off 46 = .ok (.ifCond .eq 19, 3) := dq_g177.2.2.2.2.2.2.2.2.2.2.2.2.2.2.2.2.2.2.2.2.2.2.2.2.2.2.1
theorem dX9_off_49 : decode cX9_off 49 = .ok (.aload_n 0, 1) := dq_g177.2.2.2.2.2.2.2.2.2.2.2.2.2.2.2.2.2.2.2.2.2.2.2.2.2.2.2.1
theorem dX9_off_50 : decode cX9_off 50 = .ok (.aload_n 0, 1) := dq_g177.2.2.2.2.2.2.2.2.2.2.2.2.2.2.2.2.2.2.2.2.2.2.2.2.2.2.2.2.1
theorem dX9_off_51 : decode cX9_off 51 = .ok (.getfield 12, 3) := dq_g177.2.2.2.2.2.2.2.2.2.2.2.2.2.2.2.2.2.2.2.2.2.2.2.2.2.2.2.2.2.1
theorem dq_g178 : decode cX9_off 54 = .ok (.getfield 158, 3) ∧ decode cX9_off 57 = .ok (.iload_n 1, 1) ∧ decode cX9_off 58 = .ok (.aaload, 1) ∧ decode cX9_off 59 = .ok (.invokevirtual 259, 3) ∧ decode cX9_off 62 = .ok (.goto 4, 3) ∧ decode cX9_off 65 = .ok (.iconst (-1), 1) ∧ decode cX9_off 66 = .ok (.ireturn, 1) ∧ True := dqC_ok (c := cX9_off) [(54, 3, some (.getfield 158)), (57, 1, some (.iload_n 1)), (58, 1, some (.aaload)), (59, 3, some (.invokevirtual 259)), (62, 3, some (.goto 4)), (65, 1, some (.iconst (-1))), (66, 1, some (.ireturn))] _ 54 rfl (by decide +kernel)
theorem dX9_off_54 : decode cX9_off 54 = .ok (.getfield 158, 3) := dq_g178.1
theorem dX9_off_57 : decode cX9_off 57 = .ok (.iload_n 1, 1) := dq_g178.2.1
theorem dX9_off_58 : decode cX9_off 58 = .ok (.aaload, 1) := dq_g178.2.2.1
theorem dX9_off_59 : decode cX9_off 59 = .ok (.invokevirtual 259, 3) := dq_g178.2.2.2.1
theorem dX9_off_62 : decode cX9_off 62 = .ok (.goto 4, 3) := dq_g178.2.2.2.2.1
theorem dX9_off_65 : decode cX9_off 65 = .ok (.iconst (-1), 1) := dq_g178.2.2.2.2.2.1
theorem dX9_off_66 : decode cX9_off 66 = .ok (.ireturn, 1) := dq_g178.2.2.2.2.2.2.1
theorem dq_g179 : decode cX9_still 0 = .ok (.aload_n 0, 1) ∧ decode cX9_still 1 = .ok (.iload_n 1, 1) ∧ decode cX9_still 2 = .ok (.invokevirtual 78, 3) ∧ decode cX9_still 5 = .ok (.astore 4, 2) ∧ decode cX9_still 7 = .ok (.aload 4, 2) ∧ decode cX9_still 9 = .ok (.ifnull 14, 3) ∧ decode cX9_still 12 = .ok (.iload_n 2, 1) ∧ decode cX9_still 13 = .ok (.invokestatic 150, 3) ∧ decode cX9_still 16 = .ok (.ifCond .eq 7, 3) ∧ decode cX9_still 19 = .ok (.iload_n 3, 1) ∧ decode cX9_still 20 = .ok (.ifCond .ge 5, 3) ∧ decode cX9_still 23 = .ok (.iconst (-1), 1) ∧ decode cX9_still 24 = .ok (.ireturn, 1) ∧ decode cX9_still 25 = .ok (.aload_n 0, 1) ∧ decode cX9_still 26 = .ok (.aload 4, 2) ∧ decode cX9_still 28 = .ok (.iload_n 2, 1) ∧ decode cX9_still 29 = .ok (.invokevirtual 263, 3) ∧ decode cX9_still 32 = .ok (.istore 5, 2) ∧ decode cX9_still 34 = .ok (.iload_n 3, 1) ∧ decode cX9_still 35 = .ok (.ifCond .ne 6, 3) ∧ decode cX9_still 38 = .ok (.iload 5, 2) ∧ decode cX9_still 40 = .ok (.ireturn, 1) ∧ decode cX9_still 41 = .ok (.iload_n 3, 1) ∧ decode cX9_still 42 = .ok (.iload 5, 2) ∧ decode cX9_still 44 = .ok (.if_icmp .gt 14, 3) ∧ decode cX9_still 47 = .ok (.aload_n 0, 1) ∧ decode cX9_still 48 = .ok (.getfield 58, 3) ∧ decode cX9_still 51 = .ok (.iload_n 3, 1) ∧ decode cX9_still 52 = .ok (.iconst 1, 1) ∧ decode cX9_still 53 = .ok (.isub, 1) ∧ True := dqC_ok (c := cX9_still) [(0, 1, some (.aload_n 0)), (1, 1, some (.iload_n 1)), (2, 3, some (.invokevirtual 78)), (5, 2, some (.astore 4)), (7, 2, some (.aload 4)), (9, 3, some (.ifnull 14)), (12, 1, some (.iload_n 2)), (13, 3, some (.invokestatic 150)), (16, 3, some (.ifCond .eq 7)), (19, 1, some (.iload_n 3)), (20, 3, some (.ifCond .ge 5)), (23, 1, some (.iconst (-1))), (24, 1, some (.ireturn)), (25, 1, some (.aload_n 0)), (26, 2, some (.aload 4)), (28, 1, some (.iload_n 2)), (29, 3, some (.invokevirtual 263)), (32, 2, some (.istore 5)), (34, 1, some (.iload_n 3)), (35, 3, some (.ifCond .ne 6)), (38, 2, some (.iload 5)), (40, 1, some (.ireturn)), (41, 1, some (.iload_n 3)), (42, 2, some (.iload 5)), (44, 3, some (.if_icmp .gt 14)), (47, 1, some (.aload_n 0)), (48, 3, some (.getfield 58)), (51, 1, some (.iload_n 3)), (52, 1, some (.iconst 1)), (53, 1, some (.isub))] _ 0 rfl (by decide +kernel)
theorem dX9_still_0 : decode cX9_still 0 = .ok (.aload_n 0, 1) := dq_g179.1
theorem dX9_still_1 : decode cX9_still 1 = .ok (.iload_n 1, 1) := dq_g179.2.1
theorem dX9_still_2 : decode cX9_still 2 = .ok (.invokevirtual 78, 3) := dq_g179.2.2.1
theorem dX9_still_5 : decode cX9_still 5 = .ok (.astore 4, 2) := dq_g179.2.2.2.1
theorem dX9_still_7 : decode cX9_still 7 = .ok (.aload 4, 2) := dq_g179.2.2.2.2.1
theorem dX9_still_9 : decode cX9_still 9 = .ok (.ifnull 14, 3) := dq_g179.2.2.2.2.2.1
theorem dX9_still_12 : decode cX9_still 12 = .ok (.iload_n 2, 1) := dq_g179.2.2.2.2.2.2.1
theorem dX9_still_13 : decode cX9_still 13 = .ok (.invokestatic 150, 3) := dq_g179.2.2.2.2.2.2.2.1
theorem dX9_still_16 : decode cX9_still 16 = .ok (.ifCond .eq 7, 3) := dq_g179.2.2.2.2.2.2.2.2.1
theorem dX9_still_19 : decode cX9_still 19 = .ok (.iload_n 3, 1) := dq_g179.2.2.2.2.2.2.2.2.2.1
theorem dX9_still_20 : decode cX9_still 20 = .ok (.ifCond .ge 5, 3) := dq_g179.2.2.2.2.2.2.2.2.2.2.1
theorem dX9_still_23 : decode cX9_still 23 = .ok (.iconst (-1), 1) := dq_g179.2.2.2.2.2.2.2.2.2.2.2.1
theorem dX9_still_24 : decode cX9_still 24 = .ok (.ireturn, 1) := dq_g179.2.2.2.2.2.2.2.2.2.2.2.2.1
theorem dX9_still_25 : decode cX9_still 25 = .ok (.aload_n 0, 1) := dq_g179.2.2.2.2.2.2.2.2.2.2.2.2.2.1
theorem dX9_still_26 : decode cX9_still 26 = .ok (.aload 4, 2) := dq_g179.2.2.2.2.2.2.2.2.2.2.2.2.2.2.1
theorem dX9_still_28 : decode cX9_still 28 = .ok (.iload_n 2, 1) := dq_g179.2.2.2.2.2.2.2.2.2.2.2.2.2.2.2.1
theorem dX9_still_29 : decode cX9_still 29 = .ok (.invokevirtual 263, 3) := dq_g179.2.2.2.2.2.2.2.2.2.2.2.2.2.2.2.2.1
theorem dX9_still_32 : decode cX9_still 32 = .ok (.istore 5, 2) := dq_g179.2.2.2.2.2.2.2.2.2.2.2.2.2.2.2.2.2.1
theorem dX9_still_34 : decode cX9_still 34 = .ok (.iload_n 3, 1) := dq_g179.2.2.2.2.2.2.2.2.2.2.2.2.2.2.2.2.2.2.1
theorem dX9_still_35 : decode cX9_still 35 = .ok (.ifCond .ne 6, 3) := dq_g179.2.2.2.2.2.2.2.2.2.2.2.2.2.2.2.2.2.2.2.1
theorem dX9_still_38 : decode cX9_still 38 = .ok (.iload 5, 2) := dq_g179.2.2.2.2.2.2.2.2.2.2.2.2.2.2.2.2.2.2.2.2.1
theorem dX9_still_40 : decode cX9_still 40 = .ok (.ireturn, 1) := dq_g179.2.2.2.2.2.2.2.2.2.2.2.2.2.2.2.2.2.2.2.2.2.1
theorem dX9_still_41 : decode cX9_still 41 = .ok (.iload_n 3, 1) := dq_g179.2.2.2.2.2.2.2.2.2.2.2.2.2.2.2.2.2.2.2.2.2.2.1
theorem dX9_still_42 : decode cX9_still 42 = .ok (.iload 5, 2) := dq_g179.2.2.2.2.2.2.2.2.2.2.2.2.2.2.2.2.2.2.2.2.2.2.2.1
theorem dX9_still_44 : decode cX9_still 44 = .ok (.if_icmp .gt 14, 3) := dq_g179.2.2.2.2.2.2.2.2.2.2.2.2.2.2.2.2.2.2.2.2.2.2.2.2.1
theorem dX9_still_47 : decode cX9_still 47 = .ok (.aload_n 0, 1) := dq_g179.2.2.2.2.2.2.2.2.2.2.2.2.2.2.2.2.2.2.2.2.2.2.2.2.2.1
theorem dX9_still_48 : decode cX9_still 48 = .ok (.getfield 58, 3) := dq_g179.2.2.2.2.2.2.2.2.2.2.2.2.2.2.2.2.2.2.2.2.2.2.2.2.2.2.1
theorem dX9_still_51 : decode cX9_still 51 = .ok (.iload_n 3, 1) := dq_g179.2.2.2.2.2.2.2.2.2.2.2.2.2.2.2.2.2.2.2.2.2.2.2.2.2.2.2.1
theorem dX9_still_52 : decode cX9_still 52 = .ok (.iconst 1, 1) := dq_g179.2.2.2.2.2.2.2.2.2.2.2.2.2.2.2.2.2.2.2.2.2.2.2.2.2.2.2.2.1
theorem dX9_still_53 : decode cX9_still 53 = .ok (.isub, 1) := dq_g179.2.2.2.2.2.2.2.2.2.2.2.2.2.2.2.2.2.2.2.2.2.2.2.2.2.2.2.2.2.1
theorem dq_g180 : decode cX9_still 54 = .ok (.iaload, 1) ∧ decode cX9_still 55 = .ok (.goto 4, 3) ∧ decode cX9_still 58 = .ok (.iconst (-1), 1) ∧ decode cX9_still 59 = .ok (.ireturn, 1) ∧ True := dqC_ok (c := cX9_still) [(54, 1, some (.iaload)), (55, 3, some (.goto 4)), (58, 1, some (.iconst (-1))), (59, 1, some (.ireturn))] _ 54 rfl (by decide +kernel)
theorem dX9_still_54 : decode cX9_still 54 = .ok (.iaload, 1) := dq_g180.1
theorem dX9_still_55 : decode cX9_still 55 = .ok (.goto 4, 3) := dq_g180.2.1
theorem dX9_still_58 : decode cX9_still 58 = .ok (.iconst (-1), 1) := dq_g180.2.2.1
theorem dX9_still_59 : decode cX9_still 59 = .ok (.ireturn, 1) := dq_g180.2.2.2.1
theorem dq_g181 : decode cX9_holes 0 = .ok (.aload_n 0, 1) ∧ decode cX9_holes 1 = .ok (.iload_n 1, 1) ∧ decode cX9_holes 2 = .ok (.invokevirtual 78, 3) ∧ decode cX9_holes 5 = .ok (.astore 4, 2) ∧ decode cX9_holes 7 = .ok (.aload 4, 2) ∧ decode cX9_holes 9 = .ok (.ifnull 26, 3) ∧ decode cX9_holes 12 = .ok (.aload 4, 2) ∧ decode cX9_holes 14 = .ok (.iload_n 2, 1) ∧ decode cX9_holes 15 = .ok (.invokevirtual 82, 3) ∧ decode cX9_holes 18 = .ok (.ifCond .eq 17, 3) ∧ decode cX9_holes 21 = .ok (.aload 4, 2) ∧ decode cX9_holes 23 = .ok (.iload_n 3, 1) ∧ decode cX9_holes 24 = .ok (.invokevirtual 82, 3) ∧ decode cX9_holes 27 = .ok (.ifCond .eq 8, 3) ∧ decode cX9_holes 30 = .ok (.iload_n 2, 1) ∧ decode cX9_holes 31 = .ok (.iload_n 3, 1) ∧ decode cX9_holes 32 = .ok (.if_icmp .lt 5, 3) ∧ decode cX9_holes 35 = .ok (.iconst 0, 1) ∧ decode cX9_holes 36 = .ok (.ireturn, 1) ∧ decode cX9_holes 37 = .ok (.aload 4, 2) ∧ decode cX9_holes 39 = .ok (.iload_n 2, 1) ∧ decode cX9_holes 40 = .ok (.putfield 266, 3) ∧ decode cX9_holes 43 = .ok (.aload 4, 2) ∧ decode cX9_holes 45 = .ok (.iload_n 3, 1) ∧ decode cX9_holes 46 = .ok (.putfield 269, 3) ∧ decode cX9_holes 49 = .ok (.iconst 1, 1) ∧ decode cX9_holes 50 = .ok (.ireturn, 1) ∧ True := dqC_ok (c := cX9_holes) [(0, 1, some (.aload_n 0)), (1, 1, some (.iload_n 1)), (2, 3, some (.invokevirtual 78)), (5, 2, some (.astore 4)), (7, 2, some (.aload 4)), (9, 3, some (.ifnull 26)), (12, 2, some (.aload 4)), (14, 1, some (.iload_n 2)), (15, 3, some (.invokevirtual 82)), (18, 3, some (.ifCond .eq 17)), (21, 2, some (.aload 4)), (23, 1, some (.iload_n 3)), (24, 3, some (.invokevirtual 82)), (27, 3, some (.ifCond .eq 8)), (30, 1, some (.iload_n 2)), (31, 1, some (.iload_n 3)), (32, 3, some (.if_icmp .lt 5)), (35, 1, some (.iconst 0)), (36, 1, some (.ireturn)), (37, 2, some (.aload 4)), (39, 1, some (.iload_n 2)), (40, 3, some (.putfield 266)), (43, 2, some (.aload 4)), (45, 1, some (.iload_n 3)), (46, 3, some (.putfield 269)), (49, 1, some (.iconst 1)), (50, 1, some (.ireturn))] _ 0 rfl (by decide +kernel)
theorem dX9_holes_0 : decode cX9_holes 0 = .ok (.aload_n 0, 1) := dq_g181.1
theorem dX9_holes_1 : decode cX9_holes 1 = .ok (.iload_n 1, 1) := dq_g181.2.1
theorem dX9_holes_2 : decode cX9_holes 2 = .ok (.invokevirtual 78, 3) := dq_g181.2.2.1
theorem dX9_holes_5 : decode cX9_holes 5 = .ok (.astore 4, 2) := dq_g181.2.2.2.1
theorem dX9_holes_7 : decode cX9_holes 7 = .ok (.aload 4, 2) := dq_g181.2.2.2.2.1
theorem dX9_holes_9 : decode cX9_holes 9 = .ok (.ifnull 26, 3) := dq_g181.2.2.2.2.2.1
theorem dX9_holes_12 : decode cX9_holes 12 = .ok (.aload 4, 2) := dq_g181.2.2.2.2.2.2.1
theorem dX9_holes_14 : decode cX9_holes 14 = .ok (.iload_n 2, 1) := dq_g181.2.2.2.2.2.2.2.1
theorem dX9_holes_15 : decode cX9_holes 15 = .ok (.invokevirtual 82, 3) := dq_g181.2.2.2.2.2.2.2.2.1
theorem dX9_holes_18 : decode cX9_holes 18 = .ok (.ifCond .eq 17, 3) := dq_g181.2.2.2.2.2.2.2.2.2.1
theorem dX9_holes_21 : decode cX9_holes 21 = .ok (.aload 4, 2) := dq_g181.2.2.2.2.2.2.2.2.2.2.1
theorem dX9_holes_23 : decode cX9_holes 23 = .ok (.iload_n 3, 1) := dq_g181.2.2.2.2.2.2.2.2.2.2.2.1
theorem dX9_holes_24 : decode cX9_holes 24 = .ok (.invokevirtual 82, 3) := dq_g181.2.2.2.2.2.2.2.2.2.2.2.2.1
theorem dX9_holes_27 : decode cX9_holes 27 = .ok (.ifCond .eq 8, 3) := dq_g181.2.2.2.2.2.2.2.2.2.2.2.2.2.1
theorem dX9_holes_30 : decode cX9_holes 30 = .ok (.iload_n 2, 1) := dq_g181.2.2.2.2.2.2.2.2.2.2.2.2.2.2.1
theorem dX9_holes_31 : decode cX9_holes 31 = .ok (.iload_n 3, 1) := dq_g181.2.2.2.2.2.2.2.2.2.2.2.2.2.2.2.1
theorem dX9_holes_32 : decode cX9_holes 32 = .ok (.if_icmp .lt 5, 3) := dq_g181.2.2.2.2.2.2.2.2.2.2.2.2.2.2.2.2.1
theorem dX9_holes_35 : decode cX9_holes 35 = .ok (.iconst 0, 1) := dq_g181.2.2.2.2.2.2.2.2.2.2.2.2.2.2.2.2.2.1
theorem dX9_holes_36 : decode cX9_holes 36 = .ok (.ireturn, 1) := dq_g181.2.2.2.2.2.2.2.2.2.2.2.2.2.2.2.2.2.2.1
theorem dX9_holes_37 : decode cX9_holes 37 = .ok (.aload 4, 2) := dq_g181.2.2.2.2.2.2.2.2.2.2.2.2.2.2.2.2.2.2.2.1
theorem dX9_holes_39 : decode cX9_holes 39 = .ok (.iload_n 2, 1) := dq_g181.2.2.2.2.2.2.2.2.2.2.2.2.2.2.2.2.2.2.2.2.1
theorem dX9_holes_40 : decode cX9_holes 40 = .ok (.putfield 266, 3) := dq_g181.2.2.2.2.2.2.2.2.2.2.2.2.2.2.2.2.2.2.2.2.2.1
theorem dX9_holes_43 : decode cX9_holes 43 = .ok (.aload 4, 2) := dq_g181.2.2.2.2.2.2.2.2.2.2.2.2.2.2.2.2.2.2.2.2.2.2.1
theorem dX9_holes_45 : decode cX9_holes 45 = .ok (.iload_n 3, 1) := dq_g181.2.2.2.2.2.2.2.2.2.2.2.2.2.2.2.2.2.2.2.2.2.2.2.1
theorem dX9_holes_46 : decode cX9_holes 46 = .ok (.putfield 269, 3) := dq_g181.2.2.2.2.2.2.2.2.2.2.2.2.2.2.2.2.2.2.2.2.2.2.2.2.1
theorem dX9_holes_49 : decode cX9_holes 49 = .ok (.iconst 1, 1) := dq_g181.2.2.2.2.2.2.2.2.2.2.2.2.2.2.2.2.2.2.2.2.2.2.2.2.2.1
theorem dX9_holes_50 : decode cX9_holes 50 = .ok (.ireturn, 1) := dq_g181.2.2.2.2.2.2.2.2.2.2.2.2.2.2.2.2.2.2.2.2.2.2.2.2.2.2.1
theorem dq_g182 : decode cX9_tube 0 = .ok (.aload_n 0, 1) ∧ decode cX9_tube 1 = .ok (.iload_n 1, 1) ∧ decode cX9_tube 2 = .ok (.invokevirtual 78, 3) ∧ decode cX9_tube 5 = .ok (.astore 4, 2) ∧ decode cX9_tube 7 = .ok (.aload 4, 2) ∧ decode cX9_tube 9 = .ok (.ifnull 23, 3) ∧ decode cX9_tube 12 = .ok (.iload_n 2, 1) ∧ decode cX9_tube 13 = .ok (.iconst 0, 1) ∧ decode cX9_tube 14 = .ok (.iconst 1, 1) ∧ decode cX9_tube 15 = .ok (.invokestatic 89, 3) ∧ decode cX9_tube 18 = .ok (.ifCond .eq 14, 3) ∧ decode cX9_tube 21 = .ok (.iload_n 3, 1) ∧ decode cX9_tube 22 = .ok (.iconst 1, 1) ∧ decode cX9_tube 23 = .ok (.sipush 9999, 3) ∧ decode cX9_tube 26 = .ok (.invokestatic 89, 3) ∧ decode cX9_tube 29 = .ok (.ifCond .ne 5, 3) ∧ decode cX9_tube 32 = .ok (.iconst 0, 1) ∧ decode cX9_tube 33 = .ok (.ireturn, 1) ∧ decode cX9_tube 34 = .ok (.aload 4, 2) ∧ decode cX9_tube 36 = .ok (.getfield 272, 3) ∧ decode cX9_tube 39 = .ok (.iload_n 2, 1) ∧ decode cX9_tube 40 = .ok (.iload_n 3, 1) ∧ decode cX9_tube 41 = .ok (.iastore, 1) ∧ decode cX9_tube 42 = .ok (.iconst 1, 1) ∧ decode cX9_tube 43 = .ok (.ireturn, 1) ∧ True := dqC_ok (c := cX9_tube) [(0, 1, some (.aload_n 0)), (1, 1, some (.iload_n 1)), (2, 3, some (.invokevirtual 78)), (5, 2, some (.astore 4)), (7, 2, some (.aload 4)), (9, 3, some (.ifnull 23)), (12, 1, some (.iload_n 2)), (13, 1, some (.iconst 0)), (14, 1, some (.iconst 1)), (15, 3, some (.invokestatic 89)), (18, 3, some (.ifCond .eq 14)), (21, 1, some (.iload_n 3)), (22, 1, some (.iconst 1)), (23, 3, some (.sipush 9999)), (26, 3, some (.invokestatic 89)), (29, 3, some (.ifCond .ne 5)), (32, 1, some (.iconst 0)), (33, 1, some (.ireturn)), (34, 2, some (.aload 4)), (36, 3, some (.getfield 272)), (39, 1, some (.iload_n 2)), (40, 1, some (.iload_n 3)), (41, 1, some (.iastore)), (42, 1, some (.iconst 1)), (43, 1, some (.ireturn))] _ 0 rfl (by decide +kernel)
theorem dX9_tube_0 : decode cX9_tube 0 = .ok (.aload_n 0, 1) := dq_g182.1
theorem dX9_tube_1 : decode cX9_tube 1 = .ok (.iload_n 1, 1) := dq_g182.2.1
theorem dX9_tube_2 : decode cX9_tube 2 = .ok (.invokevirtual 78, 3) := dq_g182.2.2.1
theorem dX9_tube_5 : decode cX9_tube 5 = .ok (.astore 4, 2) := dq_g182.2.2.2.1
theorem dX9_tube_7 : decode cX9_tube 7 = .ok (.aload 4, 2) := dq_g182.2.2.2.2.1
theorem dX9_tube_9 : decode cX9_tube 9 = .ok (.ifnull 23, 3) := dq_g182.2.2.2.2.2.1
theorem dX9_tube_12 : decode cX9_tube 12 = .ok (.iload_n 2, 1) := dq_g182.2.2.2.2.2.2.1
theorem dX9_tube_13 : decode cX9_tube 13 = .ok (.iconst 0, 1) := dq_g182.2.2.2.2.2.2.2.1
theorem dX9_tube_14 : decode cX9_tube 14 = .ok (.iconst 1, 1) := dq_g182.2.2.2.2.2.2.2.2.1
theorem dX9_tube_15 : decode cX9_tube 15 = .ok (.invokestatic 89, 3) := dq_g182.2.2.2.2.2.2.2.2.2.1
theorem dX9_tube_18 : decode cX9_tube 18 = .ok (.ifCond .eq 14, 3) := dq_g182.2.2.2.2.2.2.2.2.2.2.1
theorem dX9_tube_21 : decode cX9_tube 21 = .ok (.iload_n 3, 1) := dq_g182.2.2.2.2.2.2.2.2.2.2.2.1
theorem dX9_tube_22 : decode cX9_tube 22 = .ok (.iconst 1, 1) := dq_g182.2.2.2.2.2.2.2.2.2.2.2.2.1
theorem dX9_tube_23 : decode cX9_tube 23 = .ok (.sipush 9999, 3) := dq_g182.2.2.2.2.2.2.2.2.2.2.2.2.2.1
theorem dX9_tube_26 : decode cX9_tube 26 = .ok (.invokestatic 89, 3) := dq_g182.2.2.2.2.2.2.2.2.2.2.2.2.2.2.1
theorem dX9_tube_29 : decode cX9_tube 29 = .ok (.ifCond .ne 5, 3) := dq_g182.2.2.2.2.2.2.2.2.2.2.2.2.2.2.2.1
theorem dX9_tube_32 : decode cX9_tube 32 = .ok (.iconst 0, 1) := dq_g182.2.2.2.2.2.2.2.2.2.2.2.2.2.2.2.2.1
theorem dX9_tube_33 : decode cX9_tube 33 = .ok (.ireturn, 1) := dq_g182.2.2.2.2.2.2.2.2.2.2.2.2.2.2.2.2.2.1
theorem dX9_tube_34 : decode cX9_tube 34 = .ok (.aload 4, 2) := dq_g182.2.2.2.2.2.2.2.2.2.2.2.2.2.2.2.2.2.2.1
theorem dX9_tube_36 : decode cX9_tube 36 = .ok (.getfield 272, 3) := dq_g182.2.2.2.2.2.2.2.2.2.2.2.2.2.2.2.2.2.2.2.1
theorem dX9_tube_39 : decode cX9_tube 39 = .ok (.iload_n 2, 1) := dq_g182.2.2.2.2.2.2.2.2.2.2.2.2.2.2.2.2.2.2.2.2.1
theorem dX9_tube_40 : decode cX9_tube 40 = .ok (.iload_n 3, 1) := dq_g182.2.2.2.2.2.2.2.2.2.2.2.2.2.2.2.2.2.2.2.2.2.1
theorem dX9_tube_41 : decode cX9_tube 41 = .ok (.iastore, 1) := dq_g182.2.2.2.2.2.2.2.2.2.2.2.2.2.2.2.2.2.2.2.2.2.2.1
theorem dX9_tube_42 : decode cX9_tube 42 = .ok (.iconst 1, 1) := dq_g182.2.2.2.2.2.2.2.2.2.2.2.2.2.2.2.2.2.2.2.2.2.2.2.1
theorem dX9_tube_43 : decode cX9_tube 43 = .ok (.ireturn, 1) := dq_g182.2.2.2.2.2.2.2.2.2.2.2.2.2.2.2.2.2.2.2.2.2.2.2.2.1
theorem dq_g183 : decode cX9_in 0 = .ok (.aload_n 0, 1) ∧ decode cX9_in 1 = .ok (.iload_n 1, 1) ∧ decode cX9_in 2 = .ok (.invokevirtual 78, 3) ∧ decode cX9_in 5 = .ok (.astore 5, 2) ∧ decode cX9_in 7 = .ok (.aload 5, 2) ∧ decode cX9_in 9 = .ok (.ifnull 21, 3) ∧ decode cX9_in 12 = .ok (.iload_n 2, 1) ∧ decode cX9_in 13 = .ok (.iload_n 3, 1) ∧ decode cX9_in 14 = .ok (.invokestatic 275, 3) ∧ decode cX9_in 17 = .ok (.ifCond .eq 13, 3) ∧ decode cX9_in 20 = .ok (.iload 4, 2) ∧ decode cX9_in 22 = .ok (.iconst 0, 1) ∧ decode cX9_in 23 = .ok (.iconst 3, 1) ∧ decode cX9_in 24 = .ok (.invokestatic 89, 3) ∧ decode cX9_in 27 = .ok (.ifCond .ne 5, 3) ∧ decode cX9_in 30 = .ok (.iconst (-1), 1) ∧ decode cX9_in 31 = .ok (.ireturn, 1) ∧ decode cX9_in 32 = .ok (.aload_n 0, 1) ∧ decode cX9_in 33 = .ok (.aload 5, 2) ∧ decode cX9_in 35 = .ok (.iconst 0, 1) ∧ decode cX9_in 36 = .ok (.invokevirtual 166, 3) ∧ decode cX9_in 39 = .ok (.aload_n 0, 1) ∧ decode cX9_in 40 = .ok (.iload_n 2, 1) ∧ decode cX9_in 41 = .ok (.iload_n 3, 1) ∧ decode cX9_in 42 = .ok (.invokevirtual 279, 3) ∧ decode cX9_in 45 = .ok (.invokestatic 283, 3) ∧ decode cX9_in 48 = .ok (.istore 6, 2) ∧ decode cX9_in 50 = .ok (.iload 4, 2) ∧ decode cX9_in 80 = .ok (.iload 6, 2) ∧ True := dqC_ok (c := cX9_in) [(0, 1, some (.aload_n 0)), (1, 1, some (.iload_n 1)), (2, 3, some (.invokevirtual 78)), (5, 2, some (.astore 5)), (7, 2, some (.aload 5)), (9, 3, some (.ifnull 21)), (12, 1, some (.iload_n 2)), (13, 1, some (.iload_n 3)), (14, 3, some (.invokestatic 275)), (17, 3, some (.ifCond .eq 13)), (20, 2, some (.iload 4)), (22, 1, some (.iconst 0)), (23, 1, some (.iconst 3)), (24, 3, some (.invokestatic 89)), (27, 3, some (.ifCond .ne 5)), (30, 1, some (.iconst (-1))), (31, 1, some (.ireturn)), (32, 1, some (.aload_n 0)), (33, 2, some (.aload 5)), (35, 1, some (.iconst 0)), (36, 3, some (.invokevirtual 166)), (39, 1, some (.aload_n 0)), (40, 1, some (.iload_n 2)), (41, 1, some (.iload_n 3)), (42, 3, some (.invokevirtual 279)), (45, 3, some (.invokestatic 283)), (48, 2, some (.istore 6)), (50, 2, some (.iload 4)), (52, 28, none), (80, 2, some (.iload 6))] _ 0 rfl (by decide +kernel)
theorem dX9_in_0 : decode cX9_in 0 = .ok (.aload_n 0, 1) := dq_g183.1
theorem dX9_in_1 : decode cX9_in 1 = .ok (.iload_n 1, 1) := dq_g183.2.1
theorem dX9_in_2 : decode cX9_in 2 = .ok (.invokevirtual 78, 3) := dq_g183.2.2.1
theorem dX9_in_5 : decode cX9_in 5 = .ok (.astore 5, 2) := dq_g183.2.2.2.1
theorem dX9_in_7 : decode cX9_in 7 = .ok (.aload 5, 2) := dq_g183.2.2.2.2.1
theorem dX9_in_9 : decode cX9_in 9 = .ok (.ifnull 21, 3) := dq_g183.2.2.2.2.2.1
theorem dX9_in_12 : decode cX9_in 12 = .ok (.iload_n 2, 1) := dq_g183.2.2.2.2.2.2.1
theorem dX9_in_13 : decode cX9_in 13 = .ok (.iload_n 3, 1) := dq_g183.2.2.2.2.2.2.2.1
theorem dX9_in_14 : decode cX9_in 14 = .ok (.invokestatic 275, 3) := dq_g183.2.2.2.2.2.2.2.2.1
theorem dX9_in_17 : decode cX9_in 17 = .ok (.ifCond .eq 13, 3) := dq_g183.2.2.2.2.2.2.2.2.2.1
theorem dX9_in_20 : decode cX9_in 20 = .ok (.iload 4, 2) := dq_g183.2.2.2.2.2.2.2.2.2.2.1
theorem dX9_in_22 : decode cX9_in 22 = .ok (.iconst 0, 1) := dq_g183.2.2.2.2.2.2.2.2.2.2.2.1
theorem dX9_in_23 : decode cX9_in 23 = .ok (.iconst 3, 1) := dq_g183.2.2.2.2.2.2.2.2.2.2.2.2.1
theorem dX9_in_24 : decode cX9_in 24 = .ok (.invokestatic 89, 3) := dq_g183.2.2.2.2.2.2.2.2.2.2.2.2.2.1
theorem dX9_in_27 : decode cX9_in 27 = .ok (.ifCond .ne 5, 3) := dq_g183.2.2.2.2.2.2.2.2.2.2.2.2.2.2.1
theorem dX9_in_30 : decode cX9_in 30 = .ok (.iconst (-1), 1) := dq_g183.2.2.2.2.2.2.2.2.2.2.2.2.2.2.2.1
theorem dX9_in_31 : decode cX9_in 31 = .ok (.ireturn, 1) := dq_g183.2.2.2.2.2.2.2.2.2.2.2.2.2.2.2.2.1
theorem dX9_in_32 : decode cX9_in 32 = .ok (.aload_n 0, 1) := dq_g183.2.2.2.2.2.2.2.2.2.2.2.2.2.2.2.2.2.1
theorem dX9_in_33 : decode cX9_in 33 = .ok (.aload 5, 2) := dq_g183.2.2.2.2.2.2.2.2.2.2.2.2.2.2.2.2.2.2.1
theorem dX9_in_35 : decode cX9_in 35 = .ok (.iconst 0, 1) := dq_g183.2.2.2.2.2.2.2.2.2.2.2.2.2.2.2.2.2.2.2.1
theorem dX9_in_36 : decode cX9_in 36 = .ok (.invokevirtual 166, 3) := dq_g183.2.2.2.2.2.2.2.2.2.2.2.2.2.2.2.2.2.2.2.2.1
theorem dX9_in_39 : decode cX9_in 39 = .ok (.aload_n 0, 1) := dq_g183.2.2.2.2.2.2.2.2.2.2.2.2.2.2.2.2.2.2.2.2.2.1
theorem dX9_in_40 : decode cX9_in 40 = .ok (.iload_n 2, 1) := dq_g183.2.2.2.2.2.2.2.2.2.2.2.2.2.2.2.2.2.2.2.2.2.2.1
theorem dX9_in_41 : decode cX9_in 41 = .ok (.iload_n 3, 1) := dq_g183.2.2.2.2.2.2.2.2.2.2.2.2.2.2.2.2.2.2.2.2.2.2.2.1
theorem dX9_in_42 : decode cX9_in 42 = .ok (.invokevirtual 279, 3) := dq_g183.2.2.2.2.2.2.2.2.2.2.2.2.2.2.2.2.2.2.2.2.2.2.2.2.1
theorem dX9_in_45 : decode cX9_in 45 = .ok (.invokestatic 283, 3) := dq_g183.2.2.2.2.2.2.2.2.2.2.2.2.2.2.2.2.2.2.2.2.2.2.2.2.2.1
theorem dX9_in_48 : decode cX9_in 48 = .ok (.istore 6, 2) := dq_g183.2.2.2.2.2.2.2.2.2.2.2.2.2.2.2.2.2.2.2.2.2.2.2.2.2.2.1
theorem dX9_in_50 : decode cX9_in 50 = .ok (.iload 4, 2) := dq_g183.2.2.2.2.2.2.2.2.2.2.2.2.2.2.2.2.2.2.2.2.2.2.2.2.2.2.2.1
theorem dX9_in_80 : decode cX9_in 80 = .ok (.iload 6, 2) := dq_g183.2.2.2.2.2.2.2.2.2.2.2.2.2.2.2.2.2.2.2.2.2.2.2.2.2.2.2.2.1
theorem dX9_in_52 : decode cX9_in 52 = .ok (.tableswitch 51 0 2 #[28, 31, 41], 28) := by decide +kernel
theorem dq_g184 : decode cX9_in 82 = .ok (.ireturn, 1) ∧ decode cX9_in 83 = .ok (.aload 5, 2) ∧ decode cX9_in 85 = .ok (.iconst 0, 1) ∧ decode cX9_in 86 = .ok (.iload_n 2, 1) ∧ decode cX9_in 87 = .ok (.iload 6, 2) ∧ decode cX9_in 89 = .ok (.invokestatic 286, 3) ∧ decode cX9_in 92 = .ok (.ireturn, 1) ∧ decode cX9_in 93 = .ok (.aload 5, 2) ∧ decode cX9_in 95 = .ok (.iconst 1, 1) ∧ decode cX9_in 96 = .ok (.iload_n 2, 1) ∧ decode cX9_in 97 = .ok (.iload 6, 2) ∧ decode cX9_in 99 = .ok (.invokestatic 286, 3) ∧ decode cX9_in 102 = .ok (.ireturn, 1) ∧ decode cX9_in 103 = .ok (.iload_n 2, 1) ∧ decode cX9_in 104 = .ok (.iload 6, 2) ∧ decode cX9_in 106 = .ok (.invokestatic 290, 3) ∧ decode cX9_in 109 = .ok (.ireturn, 1) ∧ True := dqC_ok (c := cX9_in) [(82, 1, some (.ireturn)), (83, 2, some (.aload 5)), (85, 1, some (.iconst 0)), (86, 1, some (.iload_n 2)), (87, 2, some (.iload 6)), (89, 3, some (.invokestatic 286)), (92, 1, some (.ireturn)), (93, 2, some (.aload 5)), (95, 1, some (.iconst 1)), (96, 1, some (.iload_n 2)), (97, 2, some (.iload 6)), (99, 3, some (.invokestatic 286)), (102, 1, some (.ireturn)), (103, 1, some (.iload_n 2)), (104, 2, some (.iload 6)), (106, 3, some (.invokestatic 290)), (109, 1, some (.ireturn))] _ 82 rfl (by decide +kernel)
theorem dX9_in_82 : decode cX9_in 82 = .ok (.ireturn, 1) := dq_g184.1
theorem dX9_in_83 : decode cX9_in 83 = .ok (.aload 5, 2) := dq_g184.2.1
theorem dX9_in_85 : decode cX9_in 85 = .ok (.iconst 0, 1) := dq_g184.2.2.1
theorem dX9_in_86 : decode cX9_in 86 = .ok (.iload_n 2, 1) := dq_g184.2.2.2.1
theorem dX9_in_87 : decode cX9_in 87 = .ok (.iload 6, 2) := dq_g184.2.2.2.2.1
theorem dX9_in_89 : decode cX9_in 89 = .ok (.invokestatic 286, 3) := dq_g184.2.2.2.2.2.1
theorem dX9_in_92 : decode cX9_in 92 = .ok (.ireturn, 1) := dq_g184.2.2.2.2.2.2.1
theorem dX9_in_93 : decode cX9_in 93 = .ok (.aload 5, 2) := dq_g184.2.2.2.2.2.2.2.1
theorem dX9_in_95 : decode cX9_in 95 = .ok (.iconst 1, 1) := dq_g184.2.2.2.2.2.2.2.2.1
theorem dX9_in_96 : decode cX9_in 96 = .ok (.iload_n 2, 1) := dq_g184.2.2.2.2.2.2.2.2.2.1
theorem dX9_in_97 : decode cX9_in 97 = .ok (.iload 6, 2) := dq_g184.2.2.2.2.2.2.2.2.2.2.1
theorem dX9_in_99 : decode cX9_in 99 = .ok (.invokestatic 286, 3) := dq_g184.2.2.2.2.2.2.2.2.2.2.2.1
theorem dX9_in_102 : decode cX9_in 102 = .ok (.ireturn, 1) := dq_g184.2.2.2.2.2.2.2.2.2.2.2.2.1
theorem dX9_in_103 : decode cX9_in 103 = .ok (.iload_n 2, 1) := dq_g184.2.2.2.2.2.2.2.2.2.2.2.2.2.1
theorem dX9_in_104 : decode cX9_in 104 = .ok (.iload 6, 2) := dq_g184.2.2.2.2.2.2.2.2.2.2.2.2.2.2.1
theorem dX9_in_106 : decode cX9_in 106 = .ok (.invokestatic 290, 3) := dq_g184.2.2.2.2.2.2.2.2.2.2.2.2.2.2.2.1
theorem dX9_in_109 : decode cX9_in 109 = .ok (.ireturn, 1) := dq_g184.2.2.2.2.2.2.2.2.2.2.2.2.2.2.2.2.1
theorem dq_g185 : decode cX9_night 0 = .ok (.iload_n 1, 1) ∧ decode cX9_night 1 = .ok (.iload_n 2, 1) ∧ decode cX9_night 2 = .ok (.invokestatic 275, 3) ∧ decode cX9_night 5 = .ok (.ifCond .eq 15, 3) ∧ decode cX9_night 8 = .ok (.aload_n 0, 1) ∧ decode cX9_night 9 = .ok (.getfield 12, 3) ∧ decode cX9_night 12 = .ok (.getfield 293, 3) ∧ decode cX9_night 15 = .ok (.bipush 20, 2) ∧ decode cX9_night 17 = .ok (.if_icmp .lt 5, 3) ∧ decode cX9_night 20 = .ok (.iconst (-1), 1) ∧ decode cX9_night 21 = .ok (.ireturn, 1) ∧ decode cX9_night 22 = .ok (.aload_n 0, 1) ∧ decode cX9_night 23 = .ok (.getfield 12, 3) ∧ decode cX9_night 26 = .ok (.getfield 296, 3) ∧ decode cX9_night 29 = .ok (.aload_n 0, 1) ∧ decode cX9_night 30 = .ok (.getfield 12, 3) ∧ decode cX9_night 33 = .ok (.getfield 293, 3) ∧ decode cX9_night 36 = .ok (.iload_n 1, 1) ∧ decode cX9_night 37 = .ok (.iastore, 1) ∧ decode cX9_night 38 = .ok (.aload_n 0, 1) ∧ decode cX9_night 39 = .ok (.getfield 12, 3) ∧ decode cX9_night 42 = .ok (.getfield 299, 3) ∧ decode cX9_night 45 = .ok (.aload_n 0, 1) ∧ decode cX9_night 46 = .ok (.getfield 12, 3) ∧ decode cX9_night 49 = .ok (.getfield 293, 3) ∧ decode cX9_night 52 = .ok (.iload_n 2, 1) ∧ decode cX9_night 53 = .ok (.iastore, 1) ∧ decode cX9_night 54 = .ok (.aload_n 0, 1) ∧ decode cX9_night 55 = .ok (.getfield 12, 3) ∧ decode cX9_night 58 = .ok (.dup, 1) ∧ True := dqC_ok (c := cX9_night) [(0, 1, some (.iload_n 1)), (1, 1, some (.iload_n 2)), (2, 3, some (.invokestatic 275)), (5, 3, some (.ifCond .eq 15)), (8, 1, some (.aload_n 0)), (9, 3, some (.getfield 12)), (12, 3, some (.getfield 293)), (15, 2, some (.bipush 20)), (17, 3, some (.if_icmp .lt 5)), (20, 1, some (.iconst (-1))), (21, 1, some (.ireturn)), (22, 1, some (.aload_n 0)), (23, 3, some (.getfield 12)), (26, 3, some (.getfield 296)), (29, 1, some (.aload_n 0)), (30, 3, some (.getfield 12)), (33, 3, some (.getfield 293)), (36, 1, some (.iload_n 1)), (37, 1, some (.iastore)), (38, 1, some (.aload_n 0)), (39, 3, some (.getfield 12)), (42, 3, some (.getfield 299)), (45, 1, some (.aload_n 0)), (46, 3, some (.getfield 12)), (49, 3, some (.getfield 293)), (52, 1, some (.iload_n 2)), (53, 1, some (.iastore)), (54, 1, some (.aload_n 0)), (55, 3, some (.getfield 12)), (58, 1, some (.dup))] _ 0 rfl (by decide +kernel)
theorem dX9_night_0 : decode cX9_night 0 = .ok (.iload_n 1, 1) := dq_g185.1
theorem dX9_night_1 : decode cX9_night 1 = .ok (.iload_n 2, 1) := dq_g185.2.1
theorem dX9_night_2 : decode cX9_night 2 = .ok (.invokestatic 275, 3) := dq_g185.2.2.1
theorem dX9_night_5 : decode cX9_night 5 = .ok (.ifCond .eq 15, 3) := dq_g185.2.2.2.1
theorem dX9_night_8 : decode cX9_night 8 = .ok (.aload_n 0, 1) := dq_g185.2.2.2.2.1
theorem dX9_night_9 : decode cX9_night 9 = .ok (.getfield 12, 3) := dq_g185.2.2.2.2.2.1
theorem dX9_night_12 : decode cX9_night 12 = .ok (.getfield 293, 3) := dq_g185.2.2.2.2.2.2.1
theorem dX9_night_15 : decode cX9_night 15 = .ok (.bipush 20, 2) := dq_g185.2.2.2.2.2.2.2.1
theorem dX9_night_17 : decode cX9_night 17 = .ok (.if_icmp .lt 5, 3) := dq_g185.2.2.2.2.2.2.2.2.1
theorem dX9_night_20 : decode cX9_night 20 = .ok (.iconst (-1), 1) := dq_g185.2.2.2.2.2.2.2.2.2.1
theorem dX9_night_21 : decode cX9_night 21 = .ok (.ireturn, 1) := dq_g185.2.2.2.2.2.2.2.2.2.2.1
theorem dX9_night_22 : decode cX9_night 22 = .ok (.aload_n 0, 1) := dq_g185.2.2.2.2.2.2.2.2.2.2.2.1
theorem dX9_night_23 : decode cX9_night 23 = .ok (.getfield 12, 3) := dq_g185.2.2.2.2.2.2.2.2.2.2.2.2.1
theorem dX9_night_26 : decode cX9_night 26 = .ok (.getfield 296, 3) := dq_g185.2.2.2.2.2.2.2.2.2.2.2.2.2.1
theorem dX9_night_29 : decode cX9_night 29 = .ok (.aload_n 0, 1) := dq_g185.2.2.2.2.2.2.2.2.2.2.2.2.2.2.1
theorem dX9_night_30 : decode cX9_night 30 = .ok (.getfield 12, 3) := dq_g185.2.2.2.2.2.2.2.2.2.2.2.2.2.2.2.1
theorem dX9_night_33 : decode cX9_night 33 = .ok (.getfield 293, 3) := dq_g185.2.2.2.2.2.2.2.2.2.2.2.2.2.2.2.2.1
theorem dX9_night_36 : decode cX9_night 36 = .ok (.iload_n 1, 1) := dq_g185.2.2.2.2.2.2.2.2.2.2.2.2.2.2.2.2.2.1
theorem dX9_night_37 : decode cX9_night 37 = .ok (.iastore, 1) := dq_g185.2.2.2.2.2.2.2.2.2.2.2.2.2.2.2.2.2.2.1
theorem dX9_night_38 : decode cX9_night 38 = .ok (.aload_n 0, 1) := dq_g185.2.2.2.2.2.2.2.2.2.2.2.2.2.2.2.2.2.2.2.1
theorem dX9_night_39 : decode cX9_night 39 = .ok (.getfield 12, 3) := dq_g185.2.2.2.2.2.2.2.2.2.2.2.2.2.2.2.2.2.2.2.2.1
theorem dX9_night_42 : decode cX9_night 42 = .ok (.getfield 299, 3) := dq_g185.2.2.2.2.2.2.2.2.2.2.2.2.2.2.2.2.2.2.2.2.2.1
theorem dX9_night_45 : decode cX9_night 45 = .ok (.aload_n 0, 1) := dq_g185.2.2.2.2.2.2.2.2.2.2.2.2.2.2.2.2.2.2.2.2.2.2.1
theorem dX9_night_46 : decode cX9_night 46 = .ok (.getfield 12, 3) := dq_g185.2.2.2.2.2.2.2.2.2.2.2.2.2.2.2.2.2.2.2.2.2.2.2.1
theorem dX9_night_49 : decode cX9_night 49 = .ok (.getfield 293, 3) := dq_g185.2.2.2.2.2.2.2.2.2.2.2.2.2.2.2.2.2.2.2.2.2.2.2.2.1
theorem dX9_night_52 : decode cX9_night 52 = .ok (.iload_n 2, 1) := dq_g185.2.2.2.2.2.2.2.2.2.2.2.2.2.2.2.2.2.2.2.2.2.2.2.2.2.1
theorem dX9_night_53 : decode cX9_night 53 = .ok (.iastore, 1) := dq_g185.2.2.2.2.2.2.2.2.2.2.2.2.2.2.2.2.2.2.2.2.2.2.2.2.2.2.1
theorem dX9_night_54 : decode cX9_night 54 = .ok (.aload_n 0, 1) := dq_g185.2.2.2.2.2.2.2.2.2.2.2.2.2.2.2.2.2.2.2.2.2.2.2.2.2.2.2.1
theorem dX9_night_55 : decode cX9_night 55 = .ok (.getfield 12, 3) := dq_g185.2.2.2.2.2.2.2.2.2.2.2.2.2.2.2.2.2.2.2.2.2.2.2.2.2.2.2.2.1
theorem dX9_night_58 : decode cX9_night 58 = .ok (.dup, 1) := dq_g185.2.2.2.2.2.2.2.2.2.2.2.2.2.2.2.2.2.2.2.2.2.2.2.2.2.2.2.2.2.1
theorem dq_g186 : decode cX9_night 59 = .ok (.getfield 293, 3) ∧ decode cX9_night 62 = .ok (.iconst 1, 1) ∧ decode cX9_night 63 = .ok (.iadd, 1) ∧ decode cX9_night 64 = .ok (.putfield 293, 3) ∧ decode cX9_night 67 = .ok (.aload_n 0, 1) ∧ decode cX9_night 68 = .ok (.getfield 12, 3) ∧ decode cX9_night 71 = .ok (.getfield 293, 3) ∧ decode cX9_night 74 = .ok (.iconst 1, 1) ∧ decode cX9_night 75 = .ok (.isub, 1) ∧ decode cX9_night 76 = .ok (.ireturn, 1) ∧ True := dqC_ok (c := cX9_night) [(59, 3, some (.getfield 293)), (62, 1, some (.iconst 1)), (63, 1, some (.iadd)), (64, 3, some (.putfield 293)), (67, 1, some (.aload_n 0)), (68, 3, some (.getfield 12)), (71, 3, some (.getfield 293)), (74, 1, some (.iconst 1)), (75, 1, some (.isub)), (76, 1, some (.ireturn))] _ 59 rfl (by decide +kernel)
theorem dX9_night_59 : decode cX9_night 59 = .ok (.getfield 293, 3) := dq_g186.1
theorem dX9_night_62 : decode cX9_night 62 = .ok (.iconst 1, 1) := dq_g186.2.1
theorem dX9_night_63 : decode cX9_night 63 = .ok (.iadd, 1) := dq_g186.2.2.1
theorem dX9_night_64 : decode cX9_night 64 = .ok (.putfield 293, 3) := dq_g186.2.2.2.1
theorem dX9_night_67 : decode cX9_night 67 = .ok (.aload_n 0, 1) := dq_g186.2.2.2.2.1
theorem dX9_night_68 : decode cX9_night 68 = .ok (.getfield 12, 3) := dq_g186.2.2.2.2.2.1
theorem dX9_night_71 : decode cX9_night 71 = .ok (.getfield 293, 3) := dq_g186.2.2.2.2.2.2.1
theorem dX9_night_74 : decode cX9_night 74 = .ok (.iconst 1, 1) := dq_g186.2.2.2.2.2.2.2.1
theorem dX9_night_75 : decode cX9_night 75 = .ok (.isub, 1) := dq_g186.2.2.2.2.2.2.2.2.1
theorem dX9_night_76 : decode cX9_night 76 = .ok (.ireturn, 1) := dq_g186.2.2.2.2.2.2.2.2.2.1
theorem dq_g187 : decode cX9_nights 0 = .ok (.iload_n 1, 1) ∧ decode cX9_nights 1 = .ok (.iconst (-1), 1) ∧ decode cX9_nights 2 = .ok (.if_icmp .eq 32, 3) ∧ decode cX9_nights 5 = .ok (.iload_n 1, 1) ∧ decode cX9_nights 6 = .ok (.iconst 0, 1) ∧ decode cX9_nights 7 = .ok (.aload_n 0, 1) ∧ decode cX9_nights 8 = .ok (.getfield 12, 3) ∧ decode cX9_nights 11 = .ok (.getfield 293, 3) ∧ decode cX9_nights 14 = .ok (.iconst 1, 1) ∧ decode cX9_nights 15 = .ok (.isub, 1) ∧ decode cX9_nights 16 = .ok (.invokestatic 89, 3) ∧ decode cX9_nights 19 = .ok (.ifCond .eq 12, 3) ∧ decode cX9_nights 22 = .ok (.iload_n 2, 1) ∧ decode cX9_nights 23 = .ok (.iconst 0, 1) ∧ decode cX9_nights 24 = .ok (.iconst 3, 1) ∧ decode cX9_nights 25 = .ok (.invokestatic 89, 3) ∧ decode cX9_nights 28 = .ok (.ifCond .ne 6, 3) ∧ decode cX9_nights 31 = .ok (.bipush (-2), 2) ∧ decode cX9_nights 33 = .ok (.ireturn, 1) ∧ decode cX9_nights 34 = .ok (.aload_n 0, 1) ∧ decode cX9_nights 35 = .ok (.invokevirtual 302, 3) ∧ decode cX9_nights 38 = .ok (.iload_n 1, 1) ∧ decode cX9_nights 39 = .ok (.iconst (-1), 1) ∧ decode cX9_nights 40 = .ok (.if_icmp .ne 8, 3) ∧ decode cX9_nights 43 = .ok (.aload_n 0, 1) ∧ decode cX9_nights 44 = .ok (.invokevirtual 305, 3) ∧ decode cX9_nights 47 = .ok (.ireturn, 1) ∧ decode cX9_nights 48 = .ok (.iload_n 2, 1) ∧ decode cX9_nights 76 = .ok (.aload_n 0, 1) ∧ True := dqC_ok (c := cX9_nights) [(0, 1, some (.iload_n 1)), (1, 1, some (.iconst (-1))), (2, 3, some (.if_icmp .eq 32)), (5, 1, some (.iload_n 1)), (6, 1, some (.iconst 0)), (7, 1, some (.aload_n 0)), (8, 3, some (.getfield 12)), (11, 3, some (.getfield 293)), (14, 1, some (.iconst 1)), (15, 1, some (.isub)), (16, 3, some (.invokestatic 89)), (19, 3, some (.ifCond .eq 12)), (22, 1, some (.iload_n 2)), (23, 1, some (.iconst 0)), (24, 1, some (.iconst 3)), (25, 3, some (.invokestatic 89)), (28, 3, some (.ifCond .ne 6)), (31, 2, some (.bipush (-2))), (33, 1, some (.ireturn)), (34, 1, some (.aload_n 0)), (35, 3, some (.invokevirtual 302)), (38, 1, some (.iload_n 1)), (39, 1, some (.iconst (-1))), (40, 3, some (.if_icmp .ne 8)), (43, 1, some (.aload_n 0)), (44, 3, some (.invokevirtual 305)), (47, 1, some (.ireturn)), (48, 1, some (.iload_n 2)), (49, 27, none), (76, 1, some (.aload_n 0))] _ 0 rfl (by decide +kernel)
theorem dX9_nights_0 : decode cX9_nights 0 = .ok (.iload_n 1, 1) := dq_g187.1
theorem dX9_nights_1 : decode cX9_nights 1 = .ok (.iconst (-1), 1) := dq_g187.2.1
theorem dX9_nights_2 : decode cX9_nights 2 = .ok (.if_icmp .eq 32, 3) := dq_g187.2.2.1
theorem dX9_nights_5 : decode cX9_nights 5 = .ok (.iload_n 1, 1) := dq_g187.2.2.2.1
theorem dX9_nights_6 : decode cX9_nights 6 = .ok (.iconst 0, 1) := dq_g187.2.2.2.2.1
theorem dX9_nights_7 : decode cX9_nights 7 = .ok (.aload_n 0, 1) := dq_g187.2.2.2.2.2.1
theorem dX9_nights_8 : decode cX9_nights 8 = .ok (.getfield 12, 3) := dq_g187.2.2.2.2.2.2.1
theorem dX9_nights_11 : decode cX9_nights 11 = .ok (.getfield 293, 3) := dq_g187.2.2.2.2.2.2.2.1
theorem dX9_nights_14 : decode cX9_nights 14 = .ok (.iconst 1, 1) := dq_g187.2.2.2.2.2.2.2.2.1
theorem dX9_nights_15 : decode cX9_nights 15 = .ok (.isub, 1) := dq_g187.2.2.2.2.2.2.2.2.2.1
theorem dX9_nights_16 : decode cX9_nights 16 = .ok (.invokestatic 89, 3) := dq_g187.2.2.2.2.2.2.2.2.2.2.1
theorem dX9_nights_19 : decode cX9_nights 19 = .ok (.ifCond .eq 12, 3) := dq_g187.2.2.2.2.2.2.2.2.2.2.2.1
theorem dX9_nights_22 : decode cX9_nights 22 = .ok (.iload_n 2, 1) := dq_g187.2.2.2.2.2.2.2.2.2.2.2.2.1
theorem dX9_nights_23 : decode cX9_nights 23 = .ok (.iconst 0, 1) := dq_g187.2.2.2.2.2.2.2.2.2.2.2.2.2.1
theorem dX9_nights_24 : decode cX9_nights 24 = .ok (.iconst 3, 1) := dq_g187.2.2.2.2.2.2.2.2.2.2.2.2.2.2.1
theorem dX9_nights_25 : decode cX9_nights 25 = .ok (.invokestatic 89, 3) := dq_g187.2.2.2.2.2.2.2.2.2.2.2.2.2.2.2.1
theorem dX9_nights_28 : decode cX9_nights 28 = .ok (.ifCond .ne 6, 3) := dq_g187.2.2.2.2.2.2.2.2.2.2.2.2.2.2.2.2.1
theorem dX9_nights_31 : decode cX9_nights 31 = .ok (.bipush (-2), 2) := dq_g187.2.2.2.2.2.2.2.2.2.2.2.2.2.2.2.2.2.1
theorem dX9_nights_33 : decode cX9_nights 33 = .ok (.ireturn, 1) := dq_g187.2.2.2.2.2.2.2.2.2.2.2.2.2.2.2.2.2.2.1
theorem dX9_nights_34 : decode cX9_nights 34 = .ok (.aload_n 0, 1) := dq_g187.2.2.2.2.2.2.2.2.2.2.2.2.2.2.2.2.2.2.2.1
theorem dX9_nights_35 : decode cX9_nights 35 = .ok (.invokevirtual 302, 3) := dq_g187.2.2.2.2.2.2.2.2.2.2.2.2.2.2.2.2.2.2.2.2.1
theorem dX9_nights_38 : decode cX9_nights 38 = .ok (.iload_n 1, 1) := dq_g187.2.2.2.2.2.2.2.2.2.2.2.2.2.2.2.2.2.2.2.2.2.1
theorem dX9_nights_39 : decode cX9_nights 39 = .ok (.iconst (-1), 1) := dq_g187.2.2.2.2.2.2.2.2.2.2.2.2.2.2.2.2.2.2.2.2.2.2.1
theorem dX9_nights_40 : decode cX9_nights 40 = .ok (.if_icmp .ne 8, 3) := dq_g187.2.2.2.2.2.2.2.2.2.2.2.2.2.2.2.2.2.2.2.2.2.2.2.1
theorem dX9_nights_43 : decode cX9_nights 43 = .ok (.aload_n 0, 1) := dq_g187.2.2.2.2.2.2.2.2.2.2.2.2.2.2.2.2.2.2.2.2.2.2.2.2.1
theorem dX9_nights_44 : decode cX9_nights 44 = .ok (.invokevirtual 305, 3) := dq_g187.2.2.2.2.2.2.2.2.2.2.2.2.2.2.2.2.2.2.2.2.2.2.2.2.2.1
theorem dX9_nights_47 : decode cX9_nights 47 = .ok (.ireturn, 1) := dq_g187.2.2.2.2.2.2.2.2.2.2.2.2.2.2.2.2.2.2.2.2.2.2.2.2.2.2.1
theorem dX9_nights_48 : decode cX9_nights 48 = .ok (.iload_n 2, 1) := dq_g187.2.2.2.2.2.2.2.2.2.2.2.2.2.2.2.2.2.2.2.2.2.2.2.2.2.2.2.1
theorem dX9_nights_76 : decode cX9_nights 76 = .ok (.aload_n 0, 1) := dq_g187.2.2.2.2.2.2.2.2.2.2.2.2.2.2.2.2.2.2.2.2.2.2.2.2.2.2.2.2.1
theorem dX9_nights_49 : decode cX9_nights 49 = .ok (.tableswitch 47 0 2 #[27, 34, 41], 27) := by decide +kernel
theorem dq_g188 : decode cX9_nights 77 = .ok (.iload_n 1, 1) ∧ decode cX9_nights 78 = .ok (.iconst 0, 1) ∧ decode cX9_nights 79 = .ok (.invokevirtual 308, 3) ∧ decode cX9_nights 82 = .ok (.ireturn, 1) ∧ decode cX9_nights 83 = .ok (.aload_n 0, 1) ∧ decode cX9_nights 84 = .ok (.iload_n 1, 1) ∧ decode cX9_nights 85 = .ok (.iconst 1, 1) ∧ decode cX9_nights 86 = .ok (.invokevirtual 308, 3) ∧ decode cX9_nights 89 = .ok (.ireturn, 1) ∧ decode cX9_nights 90 = .ok (.aload_n 0, 1) ∧ decode cX9_nights 91 = .ok (.iload_n 1, 1) ∧ decode cX9_nights 92 = .ok (.invokevirtual 311, 3) ∧ decode cX9_nights 95 = .ok (.ireturn, 1) ∧ decode cX9_nights 96 = .ok (.aload_n 0, 1) ∧ decode cX9_nights 97 = .ok (.iload_n 1, 1) ∧ decode cX9_nights 98 = .ok (.invokevirtual 314, 3) ∧ decode cX9_nights 101 = .ok (.ireturn, 1) ∧ True := dqC_ok (c := cX9_nights) [(77, 1, some (.iload_n 1)), (78, 1, some (.iconst 0)), (79, 3, some (.invokevirtual 308)), (82, 1, some (.ireturn)), (83, 1, some (.aload_n 0)), (84, 1, some (.iload_n 1)), (85, 1, some (.iconst 1)), (86, 3, some (.invokevirtual 308)), (89, 1, some (.ireturn)), (90, 1, some (.aload_n 0)), (91, 1, some (.iload_n 1)), (92, 3, some (.invokevirtual 311)), (95, 1, some (.ireturn)), (96, 1, some (.aload_n 0)), (97, 1, some (.iload_n 1)), (98, 3, some (.invokevirtual 314)), (101, 1, some (.ireturn))] _ 77 rfl (by decide +kernel)
theorem dX9_nights_77 : decode cX9_nights 77 = .ok (.iload_n 1, 1) := dq_g188.1
theorem dX9_nights_78 : decode cX9_nights 78 = .ok (.iconst 0, 1) := dq_g188.2.1
theorem dX9_nights_79 : decode cX9_nights 79 = .ok (.invokevirtual 308, 3) := dq_g188.2.2.1
theorem dX9_nights_82 : decode cX9_nights 82 = .ok (.ireturn, 1) := dq_g188.2.2.2.1
theorem dX9_nights_83 : decode cX9_nights 83 = .ok (.aload_n 0, 1) := dq_g188.2.2.2.2.1
theorem dX9_nights_84 : decode cX9_nights 84 = .ok (.iload_n 1, 1) := dq_g188.2.2.2.2.2.1
theorem dX9_nights_85 : decode cX9_nights 85 = .ok (.iconst 1, 1) := dq_g188.2.2.2.2.2.2.1
theorem dX9_nights_86 : decode cX9_nights 86 = .ok (.invokevirtual 308, 3) := dq_g188.2.2.2.2.2.2.2.1
theorem dX9_nights_89 : decode cX9_nights 89 = .ok (.ireturn, 1) := dq_g188.2.2.2.2.2.2.2.2.1
theorem dX9_nights_90 : decode cX9_nights 90 = .ok (.aload_n 0, 1) := dq_g188.2.2.2.2.2.2.2.2.2.1
theorem dX9_nights_91 : decode cX9_nights 91 = .ok (.iload_n 1, 1) := dq_g188.2.2.2.2.2.2.2.2.2.2.1
theorem dX9_nights_92 : decode cX9_nights 92 = .ok (.invokevirtual 311, 3) := dq_g188.2.2.2.2.2.2.2.2.2.2.2.1
theorem dX9_nights_95 : decode cX9_nights 95 = .ok (.ireturn, 1) := dq_g188.2.2.2.2.2.2.2.2.2.2.2.2.1
theorem dX9_nights_96 : decode cX9_nights 96 = .ok (.aload_n 0, 1) := dq_g188.2.2.2.2.2.2.2.2.2.2.2.2.2.1
theorem dX9_nights_97 : decode cX9_nights 97 = .ok (.iload_n 1, 1) := dq_g188.2.2.2.2.2.2.2.2.2.2.2.2.2.2.1
theorem dX9_nights_98 : decode cX9_nights 98 = .ok (.invokevirtual 314, 3) := dq_g188.2.2.2.2.2.2.2.2.2.2.2.2.2.2.2.1
theorem dX9_nights_101 : decode cX9_nights 101 = .ok (.ireturn, 1) := dq_g188.2.2.2.2.2.2.2.2.2.2.2.2.2.2.2.2.1
theorem dq_g189 : decode cX9_note 0 = .ok (.iload_n 1, 1) ∧ decode cX9_note 1 = .ok (.iconst 1, 1) ∧ decode cX9_note 2 = .ok (.ldc 180, 2) ∧ decode cX9_note 4 = .ok (.invokestatic 89, 3) ∧ decode cX9_note 7 = .ok (.ifCond .eq 25, 3) ∧ decode cX9_note 10 = .ok (.iload_n 2, 1) ∧ decode cX9_note 11 = .ok (.iconst 1, 1) ∧ decode cX9_note 12 = .ok (.bipush 99, 2) ∧ decode cX9_note 14 = .ok (.invokestatic 89, 3) ∧ decode cX9_note 17 = .ok (.ifCond .eq 15, 3) ∧ decode cX9_note 20 = .ok (.aload_n 0, 1) ∧ decode cX9_note 21 = .ok (.getfield 12, 3) ∧ decode cX9_note 24 = .ok (.getfield 317, 3) ∧ decode cX9_note 27 = .ok (.bipush 8, 2) ∧ decode cX9_note 29 = .ok (.if_icmp .lt 5, 3) ∧ decode cX9_note 32 = .ok (.iconst (-1), 1) ∧ decode cX9_note 33 = .ok (.ireturn, 1) ∧ decode cX9_note 34 = .ok (.aload_n 0, 1) ∧ decode cX9_note 35 = .ok (.getfield 12, 3) ∧ decode cX9_note 38 = .ok (.getfield 320, 3) ∧ decode cX9_note 41 = .ok (.aload_n 0, 1) ∧ decode cX9_note 42 = .ok (.getfield 12, 3) ∧ decode cX9_note 45 = .ok (.getfield 317, 3) ∧ decode cX9_note 48 = .ok (.iload_n 1, 1) ∧ decode cX9_note 49 = .ok (.iastore, 1) ∧ decode cX9_note 50 = .ok (.aload_n 0, 1) ∧ decode cX9_note 51 = .ok (.getfield 12, 3) ∧ decode cX9_note 54 = .ok (.getfield 323, 3) ∧ decode cX9_note 57 = .ok (.aload_n 0, 1) ∧ decode cX9_note 58 = .ok (.getfield 12, 3) ∧ True := dqC_ok (c := cX9_note) [(0, 1, some (.iload_n 1)), (1, 1, some (.iconst 1)), (2, 2, some (.ldc 180)), (4, 3, some (.invokestatic 89)), (7, 3, some (.ifCond .eq 25)), (10, 1, some (.iload_n 2)), (11, 1, some (.iconst 1)), (12, 2, some (.bipush 99)), (14, 3, some (.invokestatic 89)), (17, 3, some (.ifCond .eq 15)), (20, 1, some (.aload_n 0)), (21, 3, some (.getfield 12)), (24, 3, some (.getfield 317)), (27, 2, some (.bipush 8)), (29, 3, some (.if_icmp .lt 5)), (32, 1, some (.iconst (-1))), (33, 1, some (.ireturn)), (34, 1, some (.aload_n 0)), (35, 3, some (.getfield 12)), (38, 3, some (.getfield 320)), (41, 1, some (.aload_n 0)), (42, 3, some (.getfield 12)), (45, 3, some (.getfield 317)), (48, 1, some (.iload_n 1)), (49, 1, some (.iastore)), (50, 1, some (.aload_n 0)), (51, 3, some (.getfield 12)), (54, 3, some (.getfield 323)), (57, 1, some (.aload_n 0)), (58, 3, some (.getfield 12))] _ 0 rfl (by decide +kernel)
theorem dX9_note_0 : decode cX9_note 0 = .ok (.iload_n 1, 1) := dq_g189.1
theorem dX9_note_1 : decode cX9_note 1 = .ok (.iconst 1, 1) := dq_g189.2.1
theorem dX9_note_2 : decode cX9_note 2 = .ok (.ldc 180, 2) := dq_g189.2.2.1
theorem dX9_note_4 : decode cX9_note 4 = .ok (.invokestatic 89, 3) := dq_g189.2.2.2.1
theorem dX9_note_7 : decode cX9_note 7 = .ok (.ifCond .eq 25, 3) := dq_g189.2.2.2.2.1
theorem dX9_note_10 : decode cX9_note 10 = .ok (.iload_n 2, 1) := dq_g189.2.2.2.2.2.1
theorem dX9_note_11 : decode cX9_note 11 = .ok (.iconst 1, 1) := dq_g189.2.2.2.2.2.2.1
theorem dX9_note_12 : decode cX9_note 12 = .ok (.bipush 99, 2) := dq_g189.2.2.2.2.2.2.2.1
theorem dX9_note_14 : decode cX9_note 14 = .ok (.invokestatic 89, 3) := dq_g189.2.2.2.2.2.2.2.2.1
theorem dX9_note_17 : decode cX9_note 17 = .ok (.ifCond .eq 15, 3) := dq_g189.2.2.2.2.2.2.2.2.2.1
theorem dX9_note_20 : decode cX9_note 20 = .ok (.aload_n 0, 1) := dq_g189.2.2.2.2.2.2.2.2.2.2.1
theorem dX9_note_21 : decode cX9_note 21 = .ok (.getfield 12, 3) := dq_g189.2.2.2.2.2.2.2.2.2.2.2.1
theorem dX9_note_24 : decode cX9_note 24 = .ok (.getfield 317, 3) := dq_g189.2.2.2.2.2.2.2.2.2.2.2.2.1
theorem dX9_note_27 : decode cX9_note 27 = .ok (.bipush 8, 2) := dq_g189.2.2.2.2.2.2.2.2.2.2.2.2.2.1
theorem dX9_note_29 : decode cX9_note 29 = .ok (.if_icmp .lt 5, 3) := dq_g189.2.2.2.2.2.2.2.2.2.2.2.2.2.2.1
theorem dX9_note_32 : decode cX9_note 32 = .ok (.iconst (-1), 1) := dq_g189.2.2.2.2.2.2.2.2.2.2.2.2.2.2.2.1
theorem dX9_note_33 : decode cX9_note 33 = .ok (.ireturn, 1) := dq_g189.2.2.2.2.2.2.2.2.2.2.2.2.2.2.2.2.1
theorem dX9_note_34 : decode cX9_note 34 = .ok (.aload_n 0, 1) := dq_g189.2.2.2.2.2.2.2.2.2.2.2.2.2.2.2.2.2.1
theorem dX9_note_35 : decode cX9_note 35 = .ok (.getfield 12, 3) := dq_g189.2.2.2.2.2.2.2.2.2.2.2.2.2.2.2.2.2.2.1
theorem dX9_note_38 : decode cX9_note 38 = .ok (.getfield 320, 3) := dq_g189.2.2.2.2.2.2.2.2.2.2.2.2.2.2.2.2.2.2.2.1
theorem dX9_note_41 : decode cX9_note 41 = .ok (.aload_n 0, 1) := dq_g189.2.2.2.2.2.2.2.2.2.2.2.2.2.2.2.2.2.2.2.2.1
theorem dX9_note_42 : decode cX9_note 42 = .ok (.getfield 12, 3) := dq_g189.2.2.2.2.2.2.2.2.2.2.2.2.2.2.2.2.2.2.2.2.2.1
theorem dX9_note_45 : decode cX9_note 45 = .ok (.getfield 317, 3) := dq_g189.2.2.2.2.2.2.2.2.2.2.2.2.2.2.2.2.2.2.2.2.2.2.1
theorem dX9_note_48 : decode cX9_note 48 = .ok (.iload_n 1, 1) := dq_g189.2.2.2.2.2.2.2.2.2.2.2.2.2.2.2.2.2.2.2.2.2.2.2.1
theorem dX9_note_49 : decode cX9_note 49 = .ok (.iastore, 1) := dq_g189.2.2.2.2.2.2.2.2.2.2.2.2.2.2.2.2.2.2.2.2.2.2.2.2.1
theorem dX9_note_50 : decode cX9_note 50 = .ok (.aload_n 0, 1) := dq_g189.2.2.2.2.2.2.2.2.2.2.2.2.2.2.2.2.2.2.2.2.2.2.2.2.2.1
theorem dX9_note_51 : decode cX9_note 51 = .ok (.getfield 12, 3) := dq_g189.2.2.2.2.2.2.2.2.2.2.2.2.2.2.2.2.2.2.2.2.2.2.2.2.2.2.1
theorem dX9_note_54 : decode cX9_note 54 = .ok (.getfield 323, 3) := dq_g189.2.2.2.2.2.2.2.2.2.2.2.2.2.2.2.2.2.2.2.2.2.2.2.2.2.2.2.1
theorem dX9_note_57 : decode cX9_note 57 = .ok (.aload_n 0, 1) := dq_g189.2.2.2.2.2.2.2.2.2.2.2.2.2.2.2.2.2.2.2.2.2.2.2.2.2.2.2.2.1
theorem dX9_note_58 : decode cX9_note 58 = .ok (.getfield 12, 3) := dq_g189.2.2.2.2.2.2.2.2.2.2.2.2.2.2.2.2.2.2.2.2.2.2.2.2.2.2.2.2.2.1
theorem dq_g190 : decode cX9_note 61 = .ok (.getfield 317, 3) ∧ decode cX9_note 64 = .ok (.iload_n 2, 1) ∧ decode cX9_note 65 = .ok (.iastore, 1) ∧ decode cX9_note 66 = .ok (.aload_n 0, 1) ∧ decode cX9_note 67 = .ok (.getfield 12, 3) ∧ decode cX9_note 70 = .ok (.dup, 1) ∧ decode cX9_note 71 = .ok (.getfield 317, 3) ∧ decode cX9_note 74 = .ok (.iconst 1, 1) ∧ decode cX9_note 75 = .ok (.iadd, 1) ∧ decode cX9_note 76 = .ok (.putfield 317, 3) ∧ decode cX9_note 79 = .ok (.aload_n 0, 1) ∧ decode cX9_note 80 = .ok (.getfield 12, 3) ∧ decode cX9_note 83 = .ok (.getfield 317, 3) ∧ decode cX9_note 86 = .ok (.iconst 1, 1) ∧ decode cX9_note 87 = .ok (.isub, 1) ∧ decode cX9_note 88 = .ok (.ireturn, 1) ∧ True := dqC_ok (c := cX9_note) [(61, 3, some (.getfield 317)), (64, 1, some (.iload_n 2)), (65, 1, some (.iastore)), (66, 1, some (.aload_n 0)), (67, 3, some (.getfield 12)), (70, 1, some (.dup)), (71, 3, some (.getfield 317)), (74, 1, some (.iconst 1)), (75, 1, some (.iadd)), (76, 3, some (.putfield 317)), (79, 1, some (.aload_n 0)), (80, 3, some (.getfield 12)), (83, 3, some (.getfield 317)), (86, 1, some (.iconst 1)), (87, 1, some (.isub)), (88, 1, some (.ireturn))] _ 61 rfl (by decide +kernel)
theorem dX9_note_61 : decode cX9_note 61 = .ok (.getfield 317, 3) := dq_g190.1
theorem dX9_note_64 : decode cX9_note 64 = .ok (.iload_n 2, 1) := dq_g190.2.1
theorem dX9_note_65 : decode cX9_note 65 = .ok (.iastore, 1) := dq_g190.2.2.1
theorem dX9_note_66 : decode cX9_note 66 = .ok (.aload_n 0, 1) := dq_g190.2.2.2.1
theorem dX9_note_67 : decode cX9_note 67 = .ok (.getfield 12, 3) := dq_g190.2.2.2.2.1
theorem dX9_note_70 : decode cX9_note 70 = .ok (.dup, 1) := dq_g190.2.2.2.2.2.1
theorem dX9_note_71 : decode cX9_note 71 = .ok (.getfield 317, 3) := dq_g190.2.2.2.2.2.2.1
theorem dX9_note_74 : decode cX9_note 74 = .ok (.iconst 1, 1) := dq_g190.2.2.2.2.2.2.2.1
theorem dX9_note_75 : decode cX9_note 75 = .ok (.iadd, 1) := dq_g190.2.2.2.2.2.2.2.2.1
theorem dX9_note_76 : decode cX9_note 76 = .ok (.putfield 317, 3) := dq_g190.2.2.2.2.2.2.2.2.2.1
theorem dX9_note_79 : decode cX9_note 79 = .ok (.aload_n 0, 1) := dq_g190.2.2.2.2.2.2.2.2.2.2.1
theorem dX9_note_80 : decode cX9_note 80 = .ok (.getfield 12, 3) := dq_g190.2.2.2.2.2.2.2.2.2.2.2.1
theorem dX9_note_83 : decode cX9_note 83 = .ok (.getfield 317, 3) := dq_g190.2.2.2.2.2.2.2.2.2.2.2.2.1
theorem dX9_note_86 : decode cX9_note 86 = .ok (.iconst 1, 1) := dq_g190.2.2.2.2.2.2.2.2.2.2.2.2.2.1
theorem dX9_note_87 : decode cX9_note 87 = .ok (.isub, 1) := dq_g190.2.2.2.2.2.2.2.2.2.2.2.2.2.2.1
theorem dX9_note_88 : decode cX9_note 88 = .ok (.ireturn, 1) := dq_g190.2.2.2.2.2.2.2.2.2.2.2.2.2.2.2.1
theorem dq_g191 : decode cX9_blank 0 = .ok (.iload_n 1, 1) ∧ decode cX9_blank 1 = .ok (.iconst 1, 1) ∧ decode cX9_blank 2 = .ok (.bipush 99, 2) ∧ decode cX9_blank 4 = .ok (.invokestatic 89, 3) ∧ decode cX9_blank 7 = .ok (.ifCond .eq 25, 3) ∧ decode cX9_blank 10 = .ok (.iload_n 2, 1) ∧ decode cX9_blank 11 = .ok (.iconst 0, 1) ∧ decode cX9_blank 12 = .ok (.bipush 99, 2) ∧ decode cX9_blank 14 = .ok (.invokestatic 89, 3) ∧ decode cX9_blank 17 = .ok (.ifCond .eq 15, 3) ∧ decode cX9_blank 20 = .ok (.aload_n 0, 1) ∧ decode cX9_blank 21 = .ok (.getfield 12, 3) ∧ decode cX9_blank 24 = .ok (.getfield 326, 3) ∧ decode cX9_blank 27 = .ok (.bipush 8, 2) ∧ decode cX9_blank 29 = .ok (.if_icmp .lt 5, 3) ∧ decode cX9_blank 32 = .ok (.iconst (-1), 1) ∧ decode cX9_blank 33 = .ok (.ireturn, 1) ∧ decode cX9_blank 34 = .ok (.aload_n 0, 1) ∧ decode cX9_blank 35 = .ok (.getfield 12, 3) ∧ decode cX9_blank 38 = .ok (.getfield 329, 3) ∧ decode cX9_blank 41 = .ok (.aload_n 0, 1) ∧ decode cX9_blank 42 = .ok (.getfield 12, 3) ∧ decode cX9_blank 45 = .ok (.getfield 326, 3) ∧ decode cX9_blank 48 = .ok (.iload_n 1, 1) ∧ decode cX9_blank 49 = .ok (.iastore, 1) ∧ decode cX9_blank 50 = .ok (.aload_n 0, 1) ∧ decode cX9_blank 51 = .ok (.getfield 12, 3) ∧ decode cX9_blank 54 = .ok (.getfield 332, 3) ∧ decode cX9_blank 57 = .ok (.aload_n 0, 1) ∧ decode cX9_blank 58 = .ok (.getfield 12, 3) ∧ True := dqC_ok (c := cX9_blank) [(0, 1, some (.iload_n 1)), (1, 1, some (.iconst 1)), (2, 2, some (.bipush 99)), (4, 3, some (.invokestatic 89)), (7, 3, some (.ifCond .eq 25)), (10, 1, some (.iload_n 2)), (11, 1, some (.iconst 0)), (12, 2, some (.bipush 99)), (14, 3, some (.invokestatic 89)), (17, 3, some (.ifCond .eq 15)), (20, 1, some (.aload_n 0)), (21, 3, some (.getfield 12)), (24, 3, some (.getfield 326)), (27, 2, some (.bipush 8)), (29, 3, some (.if_icmp .lt 5)), (32, 1, some (.iconst (-1))), (33, 1, some (.ireturn)), (34, 1, some (.aload_n 0)), (35, 3, some (.getfield 12)), (38, 3, some (.getfield 329)), (41, 1, some (.aload_n 0)), (42, 3, some (.getfield 12)), (45, 3, some (.getfield 326)), (48, 1, some (.iload_n 1)), (49, 1, some (.iastore)), (50, 1, some (.aload_n 0)), (51, 3, some (.getfield 12)), (54, 3, some (.getfield 332)), (57, 1, some (.aload_n 0)), (58, 3, some (.getfield 12))] _ 0 rfl (by decide +kernel)
theorem dX9_blank_0 : decode cX9_blank 0 = .ok (.iload_n 1, 1) := dq_g191.1
theorem dX9_blank_1 : decode cX9_blank 1 = .ok (.iconst 1, 1) := dq_g191.2.1
theorem dX9_blank_2 : decode cX9_blank 2 = .ok (.bipush 99, 2) := dq_g191.2.2.1
theorem dX9_blank_4 : decode cX9_blank 4 = .ok (.invokestatic 89, 3) := dq_g191.2.2.2.1
theorem dX9_blank_7 : decode cX9_blank 7 = .ok (.ifCond .eq 25, 3) := dq_g191.2.2.2.2.1
theorem dX9_blank_10 : decode cX9_blank 10 = .ok (.iload_n 2, 1) := dq_g191.2.2.2.2.2.1
theorem dX9_blank_11 : decode cX9_blank 11 = .ok (.iconst 0, 1) := dq_g191.2.2.2.2.2.2.1
theorem dX9_blank_12 : decode cX9_blank 12 = .ok (.bipush 99, 2) := dq_g191.2.2.2.2.2.2.2.1
theorem dX9_blank_14 : decode cX9_blank 14 = .ok (.invokestatic 89, 3) := dq_g191.2.2.2.2.2.2.2.2.1
theorem dX9_blank_17 : decode cX9_blank 17 = .ok (.ifCond .eq 15, 3) := dq_g191.2.2.2.2.2.2.2.2.2.1
theorem dX9_blank_20 : decode cX9_blank 20 = .ok (.aload_n 0, 1) := dq_g191.2.2.2.2.2.2.2.2.2.2.1
theorem dX9_blank_21 : decode cX9_blank 21 = .ok (.getfield 12, 3) := dq_g191.2.2.2.2.2.2.2.2.2.2.2.1
theorem dX9_blank_24 : decode cX9_blank 24 = .ok (.getfield 326, 3) := dq_g191.2.2.2.2.2.2.2.2.2.2.2.2.1
theorem dX9_blank_27 : decode cX9_blank 27 = .ok (.bipush 8, 2) := dq_g191.2.2.2.2.2.2.2.2.2.2.2.2.2.1
theorem dX9_blank_29 : decode cX9_blank 29 = .ok (.if_icmp .lt 5, 3) := dq_g191.2.2.2.2.2.2.2.2.2.2.2.2.2.2.1
theorem dX9_blank_32 : decode cX9_blank 32 = .ok (.iconst (-1), 1) := dq_g191.2.2.2.2.2.2.2.2.2.2.2.2.2.2.2.1
theorem dX9_blank_33 : decode cX9_blank 33 = .ok (.ireturn, 1) := dq_g191.2.2.2.2.2.2.2.2.2.2.2.2.2.2.2.2.1
theorem dX9_blank_34 : decode cX9_blank 34 = .ok (.aload_n 0, 1) := dq_g191.2.2.2.2.2.2.2.2.2.2.2.2.2.2.2.2.2.1
theorem dX9_blank_35 : decode cX9_blank 35 = .ok (.getfield 12, 3) := dq_g191.2.2.2.2.2.2.2.2.2.2.2.2.2.2.2.2.2.2.1
theorem dX9_blank_38 : decode cX9_blank 38 = .ok (.getfield 329, 3) := dq_g191.2.2.2.2.2.2.2.2.2.2.2.2.2.2.2.2.2.2.2.1
theorem dX9_blank_41 : decode cX9_blank 41 = .ok (.aload_n 0, 1) := dq_g191.2.2.2.2.2.2.2.2.2.2.2.2.2.2.2.2.2.2.2.2.1
theorem dX9_blank_42 : decode cX9_blank 42 = .ok (.getfield 12, 3) := dq_g191.2.2.2.2.2.2.2.2.2.2.2.2.2.2.2.2.2.2.2.2.2.1
theorem dX9_blank_45 : decode cX9_blank 45 = .ok (.getfield 326, 3) := dq_g191.2.2.2.2.2.2.2.2.2.2.2.2.2.2.2.2.2.2.2.2.2.2.1
theorem dX9_blank_48 : decode cX9_blank 48 = .ok (.iload_n 1, 1) := dq_g191.2.2.2.2.2.2.2.2.2.2.2.2.2.2.2.2.2.2.2.2.2.2.2.1
theorem dX9_blank_49 : decode cX9_blank 49 = .ok (.iastore, 1) := dq_g191.2.2.2.2.2.2.2.2.2.2.2.2.2.2.2.2.2.2.2.2.2.2.2.2.1
theorem dX9_blank_50 : decode cX9_blank 50 = .ok (.aload_n 0, 1) := dq_g191.2.2.2.2.2.2.2.2.2.2.2.2.2.2.2.2.2.2.2.2.2.2.2.2.2.1
theorem dX9_blank_51 : decode cX9_blank 51 = .ok (.getfield 12, 3) := dq_g191.2.2.2.2.2.2.2.2.2.2.2.2.2.2.2.2.2.2.2.2.2.2.2.2.2.2.1
theorem dX9_blank_54 : decode cX9_blank 54 = .ok (.getfield 332, 3) := dq_g191.2.2.2.2.2.2.2.2.2.2.2.2.2.2.2.2.2.2.2.2.2.2.2.2.2.2.2.1
theorem dX9_blank_57 : decode cX9_blank 57 = .ok (.aload_n 0, 1) := dq_g191.2.2.2.2.2.2.2.2.2.2.2.2.2.2.2.2.2.2.2.2.2.2.2.2.2.2.2.2.1
theorem dX9_blank_58 : decode cX9_blank 58 = .ok (.getfield 12, 3) := dq_g191.2.2.2.2.2.2.2.2.2.2.2.2.2.2.2.2.2.2.2.2.2.2.2.2.2.2.2.2.2.1
theorem dq_g192 : decode cX9_blank 61 = .ok (.getfield 326, 3) ∧ decode cX9_blank 64 = .ok (.iload_n 2, 1) ∧ decode cX9_blank 65 = .ok (.iastore, 1) ∧ decode cX9_blank 66 = .ok (.aload_n 0, 1) ∧ decode cX9_blank 67 = .ok (.getfield 12, 3) ∧ decode cX9_blank 70 = .ok (.dup, 1) ∧ decode cX9_blank 71 = .ok (.getfield 326, 3) ∧ decode cX9_blank 74 = .ok (.iconst 1, 1) ∧ decode cX9_blank 75 = .ok (.iadd, 1) ∧ decode cX9_blank 76 = .ok (.putfield 326, 3) ∧ decode cX9_blank 79 = .ok (.aload_n 0, 1) ∧ decode cX9_blank 80 = .ok (.getfield 12, 3) ∧ decode cX9_blank 83 = .ok (.getfield 326, 3) ∧ decode cX9_blank 86 = .ok (.iconst 1, 1) ∧ decode cX9_blank 87 = .ok (.isub, 1) ∧ decode cX9_blank 88 = .ok (.ireturn, 1) ∧ True := dqC_ok (c := cX9_blank) [(61, 3, some (.getfield 326)), (64, 1, some (.iload_n 2)), (65, 1, some (.iastore)), (66, 1, some (.aload_n 0)), (67, 3, some (.getfield 12)), (70, 1, some (.dup)), (71, 3, some (.getfield 326)), (74, 1, some (.iconst 1)), (75, 1, some (.iadd)), (76, 3, some (.putfield 326)), (79, 1, some (.aload_n 0)), (80, 3, some (.getfield 12)), (83, 3, some (.getfield 326)), (86, 1, some (.iconst 1)), (87, 1, some (.isub)), (88, 1, some (.ireturn))] _ 61 rfl (by decide +kernel)
theorem dX9_blank_61 : decode cX9_blank 61 = .ok (.getfield 326, 3) := dq_g192.1
theorem dX9_blank_64 : decode cX9_blank 64 = .ok (.iload_n 2, 1) := dq_g192.2.1
theorem dX9_blank_65 : decode cX9_blank 65 = .ok (.iastore, 1) := dq_g192.2.2.1
theorem dX9_blank_66 : decode cX9_blank 66 = .ok (.aload_n 0, 1) := dq_g192.2.2.2.1
theorem dX9_blank_67 : decode cX9_blank 67 = .ok (.getfield 12, 3) := dq_g192.2.2.2.2.1
theorem dX9_blank_70 : decode cX9_blank 70 = .ok (.dup, 1) := dq_g192.2.2.2.2.2.1
theorem dX9_blank_71 : decode cX9_blank 71 = .ok (.getfield 326, 3) := dq_g192.2.2.2.2.2.2.1
theorem dX9_blank_74 : decode cX9_blank 74 = .ok (.iconst 1, 1) := dq_g192.2.2.2.2.2.2.2.1
theorem dX9_blank_75 : decode cX9_blank 75 = .ok (.iadd, 1) := dq_g192.2.2.2.2.2.2.2.2.1
theorem dX9_blank_76 : decode cX9_blank 76 = .ok (.putfield 326, 3) := dq_g192.2.2.2.2.2.2.2.2.2.1
theorem dX9_blank_79 : decode cX9_blank 79 = .ok (.aload_n 0, 1) := dq_g192.2.2.2.2.2.2.2.2.2.2.1
theorem dX9_blank_80 : decode cX9_blank 80 = .ok (.getfield 12, 3) := dq_g192.2.2.2.2.2.2.2.2.2.2.2.1
theorem dX9_blank_83 : decode cX9_blank 83 = .ok (.getfield 326, 3) := dq_g192.2.2.2.2.2.2.2.2.2.2.2.2.1
theorem dX9_blank_86 : decode cX9_blank 86 = .ok (.iconst 1, 1) := dq_g192.2.2.2.2.2.2.2.2.2.2.2.2.2.1
theorem dX9_blank_87 : decode cX9_blank 87 = .ok (.isub, 1) := dq_g192.2.2.2.2.2.2.2.2.2.2.2.2.2.2.1
theorem dX9_blank_88 : decode cX9_blank 88 = .ok (.ireturn, 1) := dq_g192.2.2.2.2.2.2.2.2.2.2.2.2.2.2.2.1
theorem dq_g193 : decode cX9_set 0 = .ok (.iload_n 1, 1) ∧ decode cX9_set 1 = .ok (.iconst 0, 1) ∧ decode cX9_set 2 = .ok (.bipush 99, 2) ∧ decode cX9_set 4 = .ok (.invokestatic 89, 3) ∧ decode cX9_set 7 = .ok (.ifCond .eq 18, 3) ∧ decode cX9_set 10 = .ok (.iload_n 2, 1) ∧ decode cX9_set 11 = .ok (.iconst 0, 1) ∧ decode cX9_set 12 = .ok (.aload_n 0, 1) ∧ decode cX9_set 13 = .ok (.getfield 12, 3) ∧ decode cX9_set 16 = .ok (.getfield 317, 3) ∧ decode cX9_set 19 = .ok (.invokestatic 89, 3) ∧ decode cX9_set 22 = .ok (.ifCond .ne 5, 3) ∧ decode cX9_set 25 = .ok (.iconst (-1), 1) ∧ decode cX9_set 26 = .ok (.ireturn, 1) ∧ decode cX9_set 27 = .ok (.aload_n 0, 1) ∧ decode cX9_set 28 = .ok (.getfield 51, 3) ∧ decode cX9_set 31 = .ok (.aload_n 0, 1) ∧ decode cX9_set 32 = .ok (.getfield 12, 3) ∧ decode cX9_set 35 = .ok (.iload_n 1, 1) ∧ decode cX9_set 36 = .ok (.invokevirtual 335, 3) ∧ decode cX9_set 39 = .ok (.istore_n 3, 1) ∧ decode cX9_set 40 = .ok (.iload_n 2, 1) ∧ decode cX9_set 41 = .ok (.ifCond .eq 8, 3) ∧ decode cX9_set 44 = .ok (.iload_n 3, 1) ∧ decode cX9_set 45 = .ok (.iconst (-1), 1) ∧ decode cX9_set 46 = .ok (.if_icmp .ne 5, 3) ∧ decode cX9_set 49 = .ok (.iload_n 3, 1) ∧ decode cX9_set 50 = .ok (.ireturn, 1) ∧ decode cX9_set 51 = .ok (.aload_n 0, 1) ∧ decode cX9_set 52 = .ok (.getfield 51, 3) ∧ True := dqC_ok (c := cX9_set) [(0, 1, some (.iload_n 1)), (1, 1, some (.iconst 0)), (2, 2, some (.bipush 99)), (4, 3, some (.invokestatic 89)), (7, 3, some (.ifCond .eq 18)), (10, 1, some (.iload_n 2)), (11, 1, some (.iconst 0)), (12, 1, some (.aload_n 0)), (13, 3, some (.getfield 12)), (16, 3, some (.getfield 317)), (19, 3, some (.invokestatic 89)), (22, 3, some (.ifCond .ne 5)), (25, 1, some (.iconst (-1))), (26, 1, some (.ireturn)), (27, 1, some (.aload_n 0)), (28, 3, some (.getfield 51)), (31, 1, some (.aload_n 0)), (32, 3, some (.getfield 12)), (35, 1, some (.iload_n 1)), (36, 3, some (.invokevirtual 335)), (39, 1, some (.istore_n 3)), (40, 1, some (.iload_n 2)), (41, 3, some (.ifCond .eq 8)), (44, 1, some (.iload_n 3)), (45, 1, some (.iconst (-1))), (46, 3, some (.if_icmp .ne 5)), (49, 1, some (.iload_n 3)), (50, 1, some (.ireturn)), (51, 1, some (.aload_n 0)), (52, 3, some (.getfield 51))] _ 0 rfl (by decide +kernel)
theorem dX9_set_0 : decode cX9_set 0 = .ok (.iload_n 1, 1) := dq_g193.1
theorem dX9_set_1 : decode cX9_set 1 = .ok (.iconst 0, 1) := dq_g193.2.1
theorem dX9_set_2 : decode cX9_set 2 = .ok (.bipush 99, 2) := dq_g193.2.2.1
theorem dX9_set_4 : decode cX9_set 4 = .ok (.invokestatic 89, 3) := dq_g193.2.2.2.1
theorem dX9_set_7 : decode cX9_set 7 = .ok (.ifCond .eq 18, 3) := dq_g193.2.2.2.2.1
theorem dX9_set_10 : decode cX9_set 10 = .ok (.iload_n 2, 1) := dq_g193.2.2.2.2.2.1
theorem dX9_set_11 : decode cX9_set 11 = .ok (.iconst 0, 1) := dq_g193.2.2.2.2.2.2.1
theorem dX9_set_12 : decode cX9_set 12 = .ok (.aload_n 0, 1) := dq_g193.2.2.2.2.2.2.2.1
theorem dX9_set_13 : decode cX9_set 13 = .ok (.getfield 12, 3) := dq_g193.2.2.2.2.2.2.2.2.1
theorem dX9_set_16 : decode cX9_set 16 = .ok (.getfield 317, 3) := dq_g193.2.2.2.2.2.2.2.2.2.1
theorem dX9_set_19 : decode cX9_set 19 = .ok (.invokestatic 89, 3) := dq_g193.2.2.2.2.2.2.2.2.2.2.1
theorem dX9_set_22 : decode cX9_set 22 = .ok (.ifCond .ne 5, 3) := dq_g193.2.2.2.2.2.2.2.2.2.2.2.1
theorem dX9_set_25 : decode cX9_set 25 = .ok (.iconst (-1), 1) := dq_g193.2.2.2.2.2.2.2.2.2.2.2.2.1
theorem dX9_set_26 : decode cX9_set 26 = .ok (.ireturn, 1) := dq_g193.2.2.2.2.2.2.2.2.2.2.2.2.2.1
theorem dX9_set_27 : decode cX9_set 27 = .ok (.aload_n 0, 1) := dq_g193.2.2.2.2.2.2.2.2.2.2.2.2.2.2.1
theorem dX9_set_28 : decode cX9_set 28 = .ok (.getfield 51, 3) := dq_g193.2.2.2.2.2.2.2.2.2.2.2.2.2.2.2.1
theorem dX9_set_31 : decode cX9_set 31 = .ok (.aload_n 0, 1) := dq_g193.2.2.2.2.2.2.2.2.2.2.2.2.2.2.2.2.1
theorem dX9_set_32 : decode cX9_set 32 = .ok (.getfield 12, 3) := dq_g193.2.2.2.2.2.2.2.2.2.2.2.2.2.2.2.2.2.1
theorem dX9_set_35 : decode cX9_set 35 = .ok (.iload_n 1, 1) := dq_g193.2.2.2.2.2.2.2.2.2.2.2.2.2.2.2.2.2.2.1
theorem dX9_set_36 : decode cX9_set 36 = .ok (.invokevirtual 335, 3) := dq_g193.2.2.2.2.2.2.2.2.2.2.2.2.2.2.2.2.2.2.2.1
theorem dX9_set_39 : decode cX9_set 39 = .ok (.istore_n 3, 1) := dq_g193.2.2.2.2.2.2.2.2.2.2.2.2.2.2.2.2.2.2.2.2.1
theorem dX9_set_40 : decode cX9_set 40 = .ok (.iload_n 2, 1) := dq_g193.2.2.2.2.2.2.2.2.2.2.2.2.2.2.2.2.2.2.2.2.2.1
theorem dX9_set_41 : decode cX9_set 41 = .ok (.ifCond .eq 8, 3) := dq_g193.2.2.2.2.2.2.2.2.2.2.2.2.2.2.2.2.2.2.2.2.2.2.1
theorem dX9_set_44 : decode cX9_set 44 = .ok (.iload_n 3, 1) := dq_g193.2.2.2.2.2.2.2.2.2.2.2.2.2.2.2.2.2.2.2.2.2.2.2.1
theorem dX9_set_45 : decode cX9_set 45 = .ok (.iconst (-1), 1) := dq_g193.2.2.2.2.2.2.2.2.2.2.2.2.2.2.2.2.2.2.2.2.2.2.2.2.1
theorem dX9_set_46 : decode cX9_set 46 = .ok (.if_icmp .ne 5, 3) := dq_g193.2.2.2.2.2.2.2.2.2.2.2.2.2.2.2.2.2.2.2.2.2.2.2.2.2.1
theorem dX9_set_49 : decode cX9_set 49 = .ok (.iload_n 3, 1) := dq_g193.2.2.2.2.2.2.2.2.2.2.2.2.2.2.2.2.2.2.2.2.2.2.2.2.2.2.1
theorem dX9_set_50 : decode cX9_set 50 = .ok (.ireturn, 1) := dq_g193.2.2.2.2.2.2.2.2.2.2.2.2.2.2.2.2.2.2.2.2.2.2.2.2.2.2.2.1
theorem dX9_set_51 : decode cX9_set 51 = .ok (.aload_n 0, 1) := dq_g193.2.2.2.2.2.2.2.2.2.2.2.2.2.2.2.2.2.2.2.2.2.2.2.2.2.2.2.2.1
theorem dX9_set_52 : decode cX9_set 52 = .ok (.getfield 51, 3) := dq_g193.2.2.2.2.2.2.2.2.2.2.2.2.2.2.2.2.2.2.2.2.2.2.2.2.2.2.2.2.2.1
theorem dq_g194 : decode cX9_set 55 = .ok (.getfield 338, 3) ∧ decode cX9_set 58 = .ok (.iload_n 2, 1) ∧ decode cX9_set 59 = .ok (.iconst 1, 1) ∧ decode cX9_set 60 = .ok (.isub, 1) ∧ decode cX9_set 61 = .ok (.iaload, 1) ∧ decode cX9_set 62 = .ok (.ireturn, 1) ∧ True := dqC_ok (c := cX9_set) [(55, 3, some (.getfield 338)), (58, 1, some (.iload_n 2)), (59, 1, some (.iconst 1)), (60, 1, some (.isub)), (61, 1, some (.iaload)), (62, 1, some (.ireturn))] _ 55 rfl (by decide +kernel)
theorem dX9_set_55 : decode cX9_set 55 = .ok (.getfield 338, 3) := dq_g194.1
theorem dX9_set_58 : decode cX9_set 58 = .ok (.iload_n 2, 1) := dq_g194.2.1
theorem dX9_set_59 : decode cX9_set 59 = .ok (.iconst 1, 1) := dq_g194.2.2.1
theorem dX9_set_60 : decode cX9_set 60 = .ok (.isub, 1) := dq_g194.2.2.2.1
theorem dX9_set_61 : decode cX9_set 61 = .ok (.iaload, 1) := dq_g194.2.2.2.2.1
theorem dX9_set_62 : decode cX9_set 62 = .ok (.ireturn, 1) := dq_g194.2.2.2.2.2.1
theorem dq_g195 : decode cX9_down 0 = .ok (.aload_n 0, 1) ∧ decode cX9_down 1 = .ok (.iload_n 1, 1) ∧ decode cX9_down 2 = .ok (.invokevirtual 78, 3) ∧ decode cX9_down 5 = .ok (.astore_n 2, 1) ∧ decode cX9_down 6 = .ok (.aload_n 2, 1) ∧ decode cX9_down 7 = .ok (.ifnonnull 5, 3) ∧ decode cX9_down 10 = .ok (.iconst (-1), 1) ∧ decode cX9_down 11 = .ok (.ireturn, 1) ∧ decode cX9_down 12 = .ok (.aload_n 0, 1) ∧ decode cX9_down 13 = .ok (.aload_n 2, 1) ∧ decode cX9_down 14 = .ok (.iconst 0, 1) ∧ decode cX9_down 15 = .ok (.invokevirtual 166, 3) ∧ decode cX9_down 18 = .ok (.aload_n 0, 1) ∧ decode cX9_down 19 = .ok (.getfield 12, 3) ∧ decode cX9_down 22 = .ok (.getfield 184, 3) ∧ decode cX9_down 25 = .ok (.iadd, 1) ∧ decode cX9_down 26 = .ok (.istore_n 3, 1) ∧ decode cX9_down 27 = .ok (.iconst (-1), 1) ∧ decode cX9_down 28 = .ok (.istore 4, 2) ∧ decode cX9_down 30 = .ok (.iconst 0, 1) ∧ decode cX9_down 31 = .ok (.istore 5, 2) ∧ decode cX9_down 33 = .ok (.iload 5, 2) ∧ decode cX9_down 35 = .ok (.aload_n 0, 1) ∧ decode cX9_down 36 = .ok (.getfield 12, 3) ∧ decode cX9_down 39 = .ok (.getfield 317, 3) ∧ decode cX9_down 42 = .ok (.if_icmp .ge 52, 3) ∧ decode cX9_down 45 = .ok (.aload_n 0, 1) ∧ decode cX9_down 46 = .ok (.getfield 12, 3) ∧ decode cX9_down 49 = .ok (.getfield 320, 3) ∧ decode cX9_down 52 = .ok (.iload 5, 2) ∧ True := dqC_ok (c := cX9_down) [(0, 1, some (.aload_n 0)), (1, 1, some (.iload_n 1)), (2, 3, some (.invokevirtual 78)), (5, 1, some (.astore_n 2)), (6, 1, some (.aload_n 2)), (7, 3, some (.ifnonnull 5)), (10, 1, some (.iconst (-1))), (11, 1, some (.ireturn)), (12, 1, some (.aload_n 0)), (13, 1, some (.aload_n 2)), (14, 1, some (.iconst 0)), (15, 3, some (.invokevirtual 166)), (18, 1, some (.aload_n 0)), (19, 3, some (.getfield 12)), (22, 3, some (.getfield 184)), (25, 1, some (.iadd)), (26, 1, some (.istore_n 3)), (27, 1, some (.iconst (-1))), (28, 2, some (.istore 4)), (30, 1, some (.iconst 0)), (31, 2, some (.istore 5)), (33, 2, some (.iload 5)), (35, 1, some (.aload_n 0)), (36, 3, some (.getfield 12)), (39, 3, some (.getfield 317)), (42, 3, some (.if_icmp .ge 52)), (45, 1, some (.aload_n 0)), (46, 3, some (.getfield 12)), (49, 3, some (.getfield 320)), (52, 2, some (.iload 5))] _ 0 rfl (by decide +kernel)
theorem dX9_down_0 : decode cX9_down 0 = .ok (.aload_n 0, 1) := dq_g195.1
theorem dX9_down_1 : decode cX9_down 1 = .ok (.iload_n 1, 1) := dq_g195.2.1
theorem dX9_down_2 : decode cX9_down 2 = .ok (.invokevirtual 78, 3) := dq_g195.2.2.1
theorem dX9_down_5 : decode cX9_down 5 = .ok (.astore_n 2, 1) := dq_g195.2.2.2.1
theorem dX9_down_6 : decode cX9_down 6 = .ok (.aload_n 2, 1) := dq_g195.2.2.2.2.1
theorem dX9_down_7 : decode cX9_down 7 = .ok (.ifnonnull 5, 3) := dq_g195.2.2.2.2.2.1
theorem dX9_down_10 : decode cX9_down 10 = .ok (.iconst (-1), 1) := dq_g195.2.2.2.2.2.2.1
theorem dX9_down_11 : decode cX9_down 11 = .ok (.ireturn, 1) := dq_g195.2.2.2.2.2.2.2.1
theorem dX9_down_12 : decode cX9_down 12 = .ok (.aload_n 0, 1) := dq_g195.2.2.2.2.2.2.2.2.1
theorem dX9_down_13 : decode cX9_down 13 = .ok (.aload_n 2, 1) := dq_g195.2.2.2.2.2.2.2.2.2.1
theorem dX9_down_14 : decode cX9_down 14 = .ok (.iconst 0, 1) := dq_g195.2.2.2.2.2.2.2.2.2.2.1
theorem dX9_down_15 : decode cX9_down 15 = .ok (.invokevirtual 166, 3) := dq_g195.2.2.2.2.2.2.2.2.2.2.2.1
theorem dX9_down_18 : decode cX9_down 18 = .ok (.aload_n 0, 1) := dq_g195.2.2.2.2.2.2.2.2.2.2.2.2.1
theorem dX9_down_19 : decode cX9_down 19 = .ok (.getfield 12, 3) := dq_g195.2.2.2.2.2.2.2.2.2.2.2.2.2.1
theorem dX9_down_22 : decode cX9_down 22 = .ok (.getfield 184, 3) := dq_g195.2.2.2.2.2.2.2.2.2.2.2.2.2.2.1
theorem dX9_down_25 : decode cX9_down 25 = .ok (.iadd, 1) := dq_g195.2.2.2.2.2.2.2.2.2.2.2.2.2.2.2.1
theorem dX9_down_26 : decode cX9_down 26 = .ok (.istore_n 3, 1) := dq_g195.2.2.2.2.2.2.2.2.2.2.2.2.2.2.2.2.1
theorem dX9_down_27 : decode cX9_down 27 = .ok (.iconst (-1), 1) := dq_g195.2.2.2.2.2.2.2.2.2.2.2.2.2.2.2.2.2.1
theorem dX9_down_28 : decode cX9_down 28 = .ok (.istore 4, 2) := dq_g195.2.2.2.2.2.2.2.2.2.2.2.2.2.2.2.2.2.2.1
theorem dX9_down_30 : decode cX9_down 30 = .ok (.iconst 0, 1) := dq_g195.2.2.2.2.2.2.2.2.2.2.2.2.2.2.2.2.2.2.2.1
theorem dX9_down_31 : decode cX9_down 31 = .ok (.istore 5, 2) := dq_g195.2.2.2.2.2.2.2.2.2.2.2.2.2.2.2.2.2.2.2.2.1
theorem dX9_down_33 : decode cX9_down 33 = .ok (.iload 5, 2) := dq_g195.2.2.2.2.2.2.2.2.2.2.2.2.2.2.2.2.2.2.2.2.2.1
theorem dX9_down_35 : decode cX9_down 35 = .ok (.aload_n 0, 1) := dq_g195.2.2.2.2.2.2.2.2.2.2.2.2.2.2.2.2.2.2.2.2.2.2.1
theorem dX9_down_36 : decode cX9_down 36 = .ok (.getfield 12, 3) := dq_g195.2.2.2.2.2.2.2.2.2.2.2.2.2.2.2.2.2.2.2.2.2.2.2.1
theorem dX9_down_39 : decode cX9_down 39 = .ok (.getfield 317, 3) := dq_g195.2.2.2.2.2.2.2.2.2.2.2.2.2.2.2.2.2.2.2.2.2.2.2.2.1
theorem dX9_down_42 : decode cX9_down 42 = .ok (.if_icmp .ge 52, 3) := dq_g195.2.2.2.2.2.2.2.2.2.2.2.2.2.2.2.2.2.2.2.2.2.2.2.2.2.1
theorem dX9_down_45 : decode cX9_down 45 = .ok (.aload_n 0, 1) := dq_g195.2.2.2.2.2.2.2.2.2.2.2.2.2.2.2.2.2.2.2.2.2.2.2.2.2.2.1
theorem dX9_down_46 : decode cX9_down 46 = .ok (.getfield 12, 3) := dq_g195.2.2.2.2.2.2.2.2.2.2.2.2.2.2.2.2.2.2.2.2.2.2.2.2.2.2.2.1
theorem dX9_down_49 : decode cX9_down 49 = .ok (.getfield 320, 3) := dq_g195.2.2.2.2.2.2.2.2.2.2.2.2.2.2.2.2.2.2.2.2.2.2.2.2.2.2.2.2.1
theorem dX9_down_52 : decode cX9_down 52 = .ok (.iload 5, 2) := dq_g195.2.2.2.2.2.2.2.2.2.2.2.2.2.2.2.2.2.2.2.2.2.2.2.2.2.2.2.2.2.1
theorem dq_g196 : decode cX9_down 54 = .ok (.iaload, 1) ∧ decode cX9_down 55 = .ok (.istore 6, 2) ∧ decode cX9_down 57 = .ok (.iload 6, 2) ∧ decode cX9_down 59 = .ok (.iload_n 3, 1) ∧ decode cX9_down 60 = .ok (.if_icmp .gt 28, 3) ∧ decode cX9_down 63 = .ok (.iload 4, 2) ∧ decode cX9_down 65 = .ok (.iconst (-1), 1) ∧ decode cX9_down 66 = .ok (.if_icmp .eq 18, 3) ∧ decode cX9_down 69 = .ok (.iload 6, 2) ∧ decode cX9_down 71 = .ok (.aload_n 0, 1) ∧ decode cX9_down 72 = .ok (.getfield 12, 3) ∧ decode cX9_down 75 = .ok (.getfield 320, 3) ∧ decode cX9_down 78 = .ok (.iload 4, 2) ∧ decode cX9_down 80 = .ok (.iaload, 1) ∧ decode cX9_down 81 = .ok (.if_icmp .le 7, 3) ∧ decode cX9_down 84 = .ok (.iload 5, 2) ∧ decode cX9_down 86 = .ok (.istore 4, 2) ∧ decode cX9_down 88 = .ok (.iinc 5 1, 3) ∧ decode cX9_down 91 = .ok (.goto (-58), 3) ∧ decode cX9_down 94 = .ok (.iload 4, 2) ∧ decode cX9_down 96 = .ok (.ireturn, 1) ∧ True := dqC_ok (c := cX9_down) [(54, 1, some (.iaload)), (55, 2, some (.istore 6)), (57, 2, some (.iload 6)), (59, 1, some (.iload_n 3)), (60, 3, some (.if_icmp .gt 28)), (63, 2, some (.iload 4)), (65, 1, some (.iconst (-1))), (66, 3, some (.if_icmp .eq 18)), (69, 2, some (.iload 6)), (71, 1, some (.aload_n 0)), (72, 3, some (.getfield 12)), (75, 3, some (.getfield 320)), (78, 2, some (.iload 4)), (80, 1, some (.iaload)), (81, 3, some (.if_icmp .le 7)), (84, 2, some (.iload 5)), (86, 2, some (.istore 4)), (88, 3, some (.iinc 5 1)), (91, 3, some (.goto (-58))), (94, 2, some (.iload 4)), (96, 1, some (.ireturn))] _ 54 rfl (by decide +kernel)
theorem dX9_down_54 : decode cX9_down 54 = .ok (.iaload, 1) := dq_g196.1
theorem dX9_down_55 : decode cX9_down 55 = .ok (.istore 6, 2) := dq_g196.2.1
theorem dX9_down_57 : decode cX9_down 57 = .ok (.iload 6, 2) := dq_g196.2.2.1
theorem dX9_down_59 : decode cX9_down 59 = .ok (.iload_n 3, 1) := dq_g196.2.2.2.1
theorem dX9_down_60 : decode cX9_down 60 = .ok (.if_icmp .gt 28, 3) := dq_g196.2.2.2.2.1
theorem dX9_down_63 : decode cX9_down 63 = .ok (.iload 4, 2) := dq_g196.2.2.2.2.2.1
theorem dX9_down_65 : decode cX9_down 65 = .ok (.iconst (-1), 1) := dq_g196.2.2.2.2.2.2.1
theorem dX9_down_66 : decode cX9_down 66 = .ok (.if_icmp .eq 18, 3) := dq_g196.2.2.2.2.2.2.2.1
theorem dX9_down_69 : decode cX9_down 69 = .ok (.iload 6, 2) := dq_g196.2.2.2.2.2.2.2.2.1
theorem dX9_down_71 : decode cX9_down 71 = .ok (.aload_n 0, 1) := dq_g196.2.2.2.2.2.2.2.2.2.1
theorem dX9_down_72 : decode cX9_down 72 = .ok (.getfield 12, 3) := dq_g196.2.2.2.2.2.2.2.2.2.2.1
theorem dX9_down_75 : decode cX9_down 75 = .ok (.getfield 320, 3) := dq_g196.2.2.2.2.2.2.2.2.2.2.2.1
theorem dX9_down_78 : decode cX9_down 78 = .ok (.iload 4, 2) := dq_g196.2.2.2.2.2.2.2.2.2.2.2.2.1
theorem dX9_down_80 : decode cX9_down 80 = .ok (.iaload, 1) := dq_g196.2.2.2.2.2.2.2.2.2.2.2.2.2.1
theorem dX9_down_81 : decode cX9_down 81 = .ok (.if_icmp .le 7, 3) := dq_g196.2.2.2.2.2.2.2.2.2.2.2.2.2.2.1
theorem dX9_down_84 : decode cX9_down 84 = .ok (.iload 5, 2) := dq_g196.2.2.2.2.2.2.2.2.2.2.2.2.2.2.2.1
theorem dX9_down_86 : decode cX9_down 86 = .ok (.istore 4, 2) := dq_g196.2.2.2.2.2.2.2.2.2.2.2.2.2.2.2.2.1
theorem dX9_down_88 : decode cX9_down 88 = .ok (.iinc 5 1, 3) := dq_g196.2.2.2.2.2.2.2.2.2.2.2.2.2.2.2.2.2.1
theorem dX9_down_91 : decode cX9_down 91 = .ok (.goto (-58), 3) := dq_g196.2.2.2.2.2.2.2.2.2.2.2.2.2.2.2.2.2.2.1
theorem dX9_down_94 : decode cX9_down 94 = .ok (.iload 4, 2) := dq_g196.2.2.2.2.2.2.2.2.2.2.2.2.2.2.2.2.2.2.2.1
theorem dX9_down_96 : decode cX9_down 96 = .ok (.ireturn, 1) := dq_g196.2.2.2.2.2.2.2.2.2.2.2.2.2.2.2.2.2.2.2.2.1
theorem dq_g197 : decode cX9_enough 0 = .ok (.aload_n 0, 1) ∧ decode cX9_enough 1 = .ok (.iload_n 1, 1) ∧ decode cX9_enough 2 = .ok (.invokevirtual 78, 3) ∧ decode cX9_enough 5 = .ok (.astore 4, 2) ∧ decode cX9_enough 7 = .ok (.aload 4, 2) ∧ decode cX9_enough 9 = .ok (.ifnull 29, 3) ∧ decode cX9_enough 12 = .ok (.aload 4, 2) ∧ decode cX9_enough 14 = .ok (.iload_n 2, 1) ∧ decode cX9_enough 15 = .ok (.invokevirtual 82, 3) ∧ decode cX9_enough 18 = .ok (.ifCond .eq 20, 3) ∧ decode cX9_enough 21 = .ok (.iload_n 3, 1) ∧ decode cX9_enough 22 = .ok (.invokestatic 150, 3) ∧ decode cX9_enough 25 = .ok (.ifCond .eq 13, 3) ∧ decode cX9_enough 28 = .ok (.aload 4, 2) ∧ decode cX9_enough 30 = .ok (.getfield 181, 3) ∧ decode cX9_enough 33 = .ok (.iload_n 3, 1) ∧ decode cX9_enough 34 = .ok (.iaload, 1) ∧ decode cX9_enough 35 = .ok (.ifCond .ne 5, 3) ∧ decode cX9_enough 38 = .ok (.iconst (-1), 1) ∧ decode cX9_enough 39 = .ok (.ireturn, 1) ∧ decode cX9_enough 40 = .ok (.aload_n 0, 1) ∧ decode cX9_enough 41 = .ok (.getfield 30, 3) ∧ decode cX9_enough 44 = .ok (.aload_n 0, 1) ∧ decode cX9_enough 45 = .ok (.getfield 12, 3) ∧ decode cX9_enough 48 = .ok (.invokevirtual 212, 3) ∧ decode cX9_enough 51 = .ok (.iconst 0, 1) ∧ decode cX9_enough 52 = .ok (.iload_n 3, 1) ∧ decode cX9_enough 53 = .ok (.aload 4, 2) ∧ decode cX9_enough 55 = .ok (.iload_n 2, 1) ∧ decode cX9_enough 56 = .ok (.invokevirtual 341, 3) ∧ True := dqC_ok (c := cX9_enough) [(0, 1, some (.aload_n 0)), (1, 1, some (.iload_n 1)), (2, 3, some (.invokevirtual 78)), (5, 2, some (.astore 4)), (7, 2, some (.aload 4)), (9, 3, some (.ifnull 29)), (12, 2, some (.aload 4)), (14, 1, some (.iload_n 2)), (15, 3, some (.invokevirtual 82)), (18, 3, some (.ifCond .eq 20)), (21, 1, some (.iload_n 3)), (22, 3, some (.invokestatic 150)), (25, 3, some (.ifCond .eq 13)), (28, 2, some (.aload 4)), (30, 3, some (.getfield 181)), (33, 1, some (.iload_n 3)), (34, 1, some (.iaload)), (35, 3, some (.ifCond .ne 5)), (38, 1, some (.iconst (-1))), (39, 1, some (.ireturn)), (40, 1, some (.aload_n 0)), (41, 3, some (.getfield 30)), (44, 1, some (.aload_n 0)), (45, 3, some (.getfield 12)), (48, 3, some (.invokevirtual 212)), (51, 1, some (.iconst 0)), (52, 1, some (.iload_n 3)), (53, 2, some (.aload 4)), (55, 1, some (.iload_n 2)), (56, 3, some (.invokevirtual 341))] _ 0 rfl (by decide +kernel)
theorem dX9_enough_0 : decode cX9_enough 0 = .ok (.aload_n 0, 1) := dq_g197.1
theorem dX9_enough_1 : decode cX9_enough 1 = .ok (.iload_n 1, 1) := dq_g197.2.1
theorem dX9_enough_2 : decode cX9_enough 2 = .ok (.invokevirtual 78, 3) := dq_g197.2.2.1
theorem dX9_enough_5 : decode cX9_enough 5 = .ok (.astore 4, 2) := dq_g197.2.2.2.1
theorem dX9_enough_7 : decode cX9_enough 7 = .ok (.aload 4, 2) := dq_g197.2.2.2.2.1
theorem dX9_enough_9 : decode cX9_enough 9 = .ok (.ifnull 29, 3) := dq_g197.2.2.2.2.2.1
theorem dX9_enough_12 : decode cX9_enough 12 = .ok (.aload 4, 2) := dq_g197.2.2.2.2.2.2.1
theorem dX9_enough_14 : decode cX9_enough 14 = .ok (.iload_n 2, 1) := dq_g197.2.2.2.2.2.2.2.1
theorem dX9_enough_15 : decode cX9_enough 15 = .ok (.invokevirtual 82, 3) := dq_g197.2.2.2.2.2.2.2.2.1
theorem dX9_enough_18 : decode cX9_enough 18 = .ok (.ifCond .eq 20, 3) := dq_g197.2.2.2.2.2.2.2.2.2.1
theorem dX9_enough_21 : decode cX9_enough 21 = .ok (.iload_n 3, 1) := dq_g197.2.2.2.2.2.2.2.2.2.2.1
theorem dX9_enough_22 : decode cX9_enough 22 = .ok (.invokestatic 150, 3) := dq_g197.2.2.2.2.2.2.2.2.2.2.2.1
theorem dX9_enough_25 : decode cX9_enough 25 = .ok (.ifCond .eq 13, 3) := dq_g197.2.2.2.2.2.2.2.2.2.2.2.2.1
theorem dX9_enough_28 : decode cX9_enough 28 = .ok (.aload 4, 2) := dq_g197.2.2.2.2.2.2.2.2.2.2.2.2.2.1
theorem dX9_enough_30 : decode cX9_enough 30 = .ok (.getfield 181, 3) := dq_g197.2.2.2.2.2.2.2.2.2.2.2.2.2.2.1
theorem dX9_enough_33 : decode cX9_enough 33 = .ok (.iload_n 3, 1) := dq_g197.2.2.2.2.2.2.2.2.2.2.2.2.2.2.2.1
theorem dX9_enough_34 : decode cX9_enough 34 = .ok (.iaload, 1) := dq_g197.2.2.2.2.2.2.2.2.2.2.2.2.2.2.2.2.1
theorem dX9_enough_35 : decode cX9_enough 35 = .ok (.ifCond .ne 5, 3) := dq_g197.2.2.2.2.2.2.2.2.2.2.2.2.2.2.2.2.2.1
theorem dX9_enough_38 : decode cX9_enough 38 = .ok (.iconst (-1), 1) := dq_g197.2.2.2.2.2.2.2.2.2.2.2.2.2.2.2.2.2.2.1
theorem dX9_enough_39 : decode cX9_enough 39 = .ok (.ireturn, 1) := dq_g197.2.2.2.2.2.2.2.2.2.2.2.2.2.2.2.2.2.2.2.1
theorem dX9_enough_40 : decode cX9_enough 40 = .ok (.aload_n 0, 1) := dq_g197.2.2.2.2.2.2.2.2.2.2.2.2.2.2.2.2.2.2.2.2.1
theorem dX9_enough_41 : decode cX9_enough 41 = .ok (.getfield 30, 3) := dq_g197.2.2.2.2.2.2.2.2.2.2.2.2.2.2.2.2.2.2.2.2.2.1
theorem dX9_enough_44 : decode cX9_enough 44 = .ok (.aload_n 0, 1) := dq_g197.2.2.2.2.2.2.2.2.2.2.2.2.2.2.2.2.2.2.2.2.2.2.1
theorem dX9_enough_45 : decode cX9_enough 45 = .ok (.getfield 12, 3) := dq_g197.2.2.2.2.2.2.2.2.2.2.2.2.2.2.2.2.2.2.2.2.2.2.2.1
theorem dX9_enough_48 : decode cX9_enough 48 = .ok (.invokevirtual 212, 3) := dq_g197.2.2.2.2.2.2.2.2.2.2.2.2.2.2.2.2.2.2.2.2.2.2.2.2.1
theorem dX9_enough_51 : decode cX9_enough 51 = .ok (.iconst 0, 1) := dq_g197.2.2.2.2.2.2.2.2.2.2.2.2.2.2.2.2.2.2.2.2.2.2.2.2.2.1
theorem dX9_enough_52 : decode cX9_enough 52 = .ok (.iload_n 3, 1) := dq_g197.2.2.2.2.2.2.2.2.2.2.2.2.2.2.2.2.2.2.2.2.2.2.2.2.2.2.1
theorem dX9_enough_53 : decode cX9_enough 53 = .ok (.aload 4, 2) := dq_g197.2.2.2.2.2.2.2.2.2.2.2.2.2.2.2.2.2.2.2.2.2.2.2.2.2.2.2.1
theorem dX9_enough_55 : decode cX9_enough 55 = .ok (.iload_n 2, 1) := dq_g197.2.2.2.2.2.2.2.2.2.2.2.2.2.2.2.2.2.2.2.2.2.2.2.2.2.2.2.2.1
theorem dX9_enough_56 : decode cX9_enough 56 = .ok (.invokevirtual 341, 3) := dq_g197.2.2.2.2.2.2.2.2.2.2.2.2.2.2.2.2.2.2.2.2.2.2.2.2.2.2.2.2.2.1
theorem dq_g198 : decode cX9_enough 59 = .ok (.istore 5, 2) ∧ decode cX9_enough 61 = .ok (.aload_n 0, 1) ∧ decode cX9_enough 62 = .ok (.getfield 30, 3) ∧ decode cX9_enough 65 = .ok (.aload_n 0, 1) ∧ decode cX9_enough 66 = .ok (.getfield 12, 3) ∧ decode cX9_enough 69 = .ok (.invokevirtual 212, 3) ∧ decode cX9_enough 72 = .ok (.iconst 1, 1) ∧ decode cX9_enough 73 = .ok (.iload_n 3, 1) ∧ decode cX9_enough 74 = .ok (.aload 4, 2) ∧ decode cX9_enough 76 = .ok (.iload_n 2, 1) ∧ decode cX9_enough 77 = .ok (.invokevirtual 341, 3) ∧ decode cX9_enough 80 = .ok (.istore 6, 2) ∧ decode cX9_enough 82 = .ok (.aload 4, 2) ∧ decode cX9_enough 84 = .ok (.getfield 102, 3) ∧ decode cX9_enough 87 = .ok (.iload_n 2, 1) ∧ decode cX9_enough 88 = .ok (.iaload, 1) ∧ decode cX9_enough 89 = .ok (.istore 7, 2) ∧ decode cX9_enough 91 = .ok (.iload 7, 2) ∧ decode cX9_enough 93 = .ok (.bipush 99, 2) ∧ decode cX9_enough 95 = .ok (.if_icmp .gt 101, 3) ∧ decode cX9_enough 98 = .ok (.aload_n 0, 1) ∧ decode cX9_enough 99 = .ok (.getfield 30, 3) ∧ decode cX9_enough 102 = .ok (.aload 4, 2) ∧ decode cX9_enough 104 = .ok (.iload_n 2, 1) ∧ decode cX9_enough 105 = .ok (.aload 4, 2) ∧ decode cX9_enough 107 = .ok (.getfield 93, 3) ∧ decode cX9_enough 110 = .ok (.iload_n 2, 1) ∧ decode cX9_enough 111 = .ok (.iaload, 1) ∧ decode cX9_enough 112 = .ok (.aload 4, 2) ∧ decode cX9_enough 114 = .ok (.getfield 96, 3) ∧ True := dqC_ok (c := cX9_enough) [(59, 2, some (.istore 5)), (61, 1, some (.aload_n 0)), (62, 3, some (.getfield 30)), (65, 1, some (.aload_n 0)), (66, 3, some (.getfield 12)), (69, 3, some (.invokevirtual 212)), (72, 1, some (.iconst 1)), (73, 1, some (.iload_n 3)), (74, 2, some (.aload 4)), (76, 1, some (.iload_n 2)), (77, 3, some (.invokevirtual 341)), (80, 2, some (.istore 6)), (82, 2, some (.aload 4)), (84, 3, some (.getfield 102)), (87, 1, some (.iload_n 2)), (88, 1, some (.iaload)), (89, 2, some (.istore 7)), (91, 2, some (.iload 7)), (93, 2, some (.bipush 99)), (95, 3, some (.if_icmp .gt 101)), (98, 1, some (.aload_n 0)), (99, 3, some (.getfield 30)), (102, 2, some (.aload 4)), (104, 1, some (.iload_n 2)), (105, 2, some (.aload 4)), (107, 3, some (.getfield 93)), (110, 1, some (.iload_n 2)), (111, 1, some (.iaload)), (112, 2, some (.aload 4)), (114, 3, some (.getfield 96))] _ 59 rfl (by decide +kernel)
theorem dX9_enough_59 : decode cX9_enough 59 = .ok (.istore 5, 2) := dq_g198.1
theorem dX9_enough_61 : decode cX9_enough 61 = .ok (.aload_n 0, 1) := dq_g198.2.1
theorem dX9_enough_62 : decode cX9_enough 62 = .ok (.getfield 30, 3) := dq_g198.2.2.1
theorem dX9_enough_65 : decode cX9_enough 65 = .ok (.aload_n 0, 1) := dq_g198.2.2.2.1
theorem dX9_enough_66 : decode cX9_enough 66 = .ok (.getfield 12, 3) := dq_g198.2.2.2.2.1
theorem dX9_enough_69 : decode cX9_enough 69 = .ok (.invokevirtual 212, 3) := dq_g198.2.2.2.2.2.1
theorem dX9_enough_72 : decode cX9_enough 72 = .ok (.iconst 1, 1) := dq_g198.2.2.2.2.2.2.1
theorem dX9_enough_73 : decode cX9_enough 73 = .ok (.iload_n 3, 1) := dq_g198.2.2.2.2.2.2.2.1
theorem dX9_enough_74 : decode cX9_enough 74 = .ok (.aload 4, 2) := dq_g198.2.2.2.2.2.2.2.2.1
theorem dX9_enough_76 : decode cX9_enough 76 = .ok (.iload_n 2, 1) := dq_g198.2.2.2.2.2.2.2.2.2.1
theorem dX9_enough_77 : decode cX9_enough 77 = .ok (.invokevirtual 341, 3) := dq_g198.2.2.2.2.2.2.2.2.2.2.1
theorem dX9_enough_80 : decode cX9_enough 80 = .ok (.istore 6, 2) := dq_g198.2.2.2.2.2.2.2.2.2.2.2.1
theorem dX9_enough_82 : decode cX9_enough 82 = .ok (.aload 4, 2) := dq_g198.2.2.2.2.2.2.2.2.2.2.2.2.1
theorem dX9_enough_84 : decode cX9_enough 84 = .ok (.getfield 102, 3) := dq_g198.2.2.2.2.2.2.2.2.2.2.2.2.2.1
theorem dX9_enough_87 : decode cX9_enough 87 = .ok (.iload_n 2, 1) := dq_g198.2.2.2.2.2.2.2.2.2.2.2.2.2.2.1
theorem dX9_enough_88 : decode cX9_enough 88 = .ok (.iaload, 1) := dq_g198.2.2.2.2.2.2.2.2.2.2.2.2.2.2.2.1
theorem dX9_enough_89 : decode cX9_enough 89 = .ok (.istore 7, 2) := dq_g198.2.2.2.2.2.2.2.2.2.2.2.2.2.2.2.2.1
theorem dX9_enough_91 : decode cX9_enough 91 = .ok (.iload 7, 2) := dq_g198.2.2.2.2.2.2.2.2.2.2.2.2.2.2.2.2.2.1
theorem dX9_enough_93 : decode cX9_enough 93 = .ok (.bipush 99, 2) := dq_g198.2.2.2.2.2.2.2.2.2.2.2.2.2.2.2.2.2.2.1
theorem dX9_enough_95 : decode cX9_enough 95 = .ok (.if_icmp .gt 101, 3) := dq_g198.2.2.2.2.2.2.2.2.2.2.2.2.2.2.2.2.2.2.2.1
theorem dX9_enough_98 : decode cX9_enough 98 = .ok (.aload_n 0, 1) := dq_g198.2.2.2.2.2.2.2.2.2.2.2.2.2.2.2.2.2.2.2.2.1
theorem dX9_enough_99 : decode cX9_enough 99 = .ok (.getfield 30, 3) := dq_g198.2.2.2.2.2.2.2.2.2.2.2.2.2.2.2.2.2.2.2.2.2.1
theorem dX9_enough_102 : decode cX9_enough 102 = .ok (.aload 4, 2) := dq_g198.2.2.2.2.2.2.2.2.2.2.2.2.2.2.2.2.2.2.2.2.2.2.1
theorem dX9_enough_104 : decode cX9_enough 104 = .ok (.iload_n 2, 1) := dq_g198.2.2.2.2.2.2.2.2.2.2.2.2.2.2.2.2.2.2.2.2.2.2.2.1
theorem dX9_enough_105 : decode cX9_enough 105 = .ok (.aload 4, 2) := dq_g198.2.2.2.2.2.2.2.2.2.2.2.2.2.2.2.2.2.2.2.2.2.2.2.2.1
theorem dX9_enough_107 : decode cX9_enough 107 = .ok (.getfield 93, 3) := dq_g198.2.2.2.2.2.2.2.2.2.2.2.2.2.2.2.2.2.2.2.2.2.2.2.2.2.1
theorem dX9_enough_110 : decode cX9_enough 110 = .ok (.iload_n 2, 1) := dq_g198.2.2.2.2.2.2.2.2.2.2.2.2.2.2.2.2.2.2.2.2.2.2.2.2.2.2.1
theorem dX9_enough_111 : decode cX9_enough 111 = .ok (.iaload, 1) := dq_g198.2.2.2.2.2.2.2.2.2.2.2.2.2.2.2.2.2.2.2.2.2.2.2.2.2.2.2.1
theorem dX9_enough_112 : decode cX9_enough 112 = .ok (.aload 4, 2) := dq_g198.2.2.2.2.2.2.2.2.2.2.2.2.2.2.2.2.2.2.2.2.2.2.2.2.2.2.2.2.1
theorem dX9_enough_114 : decode cX9_enough 114 = .ok (.getfield 96, 3) := dq_g198.2.2.2.2.2.2.2.2.2.2.2.2.2.2.2.2.2.2.2.2.2.2.2.2.2.2.2.2.2.1
theorem dq_g199 : decode cX9_enough 117 = .ok (.iload_n 2, 1) ∧ decode cX9_enough 118 = .ok (.iaload, 1) ∧ decode cX9_enough 119 = .ok (.iload 7, 2) ∧ decode cX9_enough 121 = .ok (.invokevirtual 154, 3) ∧ decode cX9_enough 124 = .ok (.iload 5, 2) ∧ decode cX9_enough 126 = .ok (.aload_n 0, 1) ∧ decode cX9_enough 127 = .ok (.getfield 30, 3) ∧ decode cX9_enough 130 = .ok (.aload_n 0, 1) ∧ decode cX9_enough 131 = .ok (.getfield 12, 3) ∧ decode cX9_enough 134 = .ok (.invokevirtual 212, 3) ∧ decode cX9_enough 137 = .ok (.iconst 0, 1) ∧ decode cX9_enough 138 = .ok (.iload_n 3, 1) ∧ decode cX9_enough 139 = .ok (.invokevirtual 162, 3) ∧ decode cX9_enough 142 = .ok (.iadd, 1) ∧ decode cX9_enough 143 = .ok (.iload 6, 2) ∧ decode cX9_enough 145 = .ok (.aload_n 0, 1) ∧ decode cX9_enough 146 = .ok (.getfield 30, 3) ∧ decode cX9_enough 149 = .ok (.aload_n 0, 1) ∧ decode cX9_enough 150 = .ok (.getfield 12, 3) ∧ decode cX9_enough 153 = .ok (.invokevirtual 212, 3) ∧ decode cX9_enough 156 = .ok (.iconst 1, 1) ∧ decode cX9_enough 157 = .ok (.iload_n 3, 1) ∧ decode cX9_enough 158 = .ok (.invokevirtual 162, 3) ∧ decode cX9_enough 161 = .ok (.iadd, 1) ∧ decode cX9_enough 162 = .ok (.invokestatic 345, 3) ∧ decode cX9_enough 165 = .ok (.istore 8, 2) ∧ decode cX9_enough 167 = .ok (.iload 8, 2) ∧ decode cX9_enough 169 = .ok (.aload 4, 2) ∧ decode cX9_enough 171 = .ok (.getfield 181, 3) ∧ decode cX9_enough 174 = .ok (.iload_n 3, 1) ∧ True := dqC_ok (c := cX9_enough) [(117, 1, some (.iload_n 2)), (118, 1, some (.iaload)), (119, 2, some (.iload 7)), (121, 3, some (.invokevirtual 154)), (124, 2, some (.iload 5)), (126, 1, some (.aload_n 0)), (127, 3, some (.getfield 30)), (130, 1, some (.aload_n 0)), (131, 3, some (.getfield 12)), (134, 3, some (.invokevirtual 212)), (137, 1, some (.iconst 0)), (138, 1, some (.iload_n 3)), (139, 3, some (.invokevirtual 162)), (142, 1, some (.iadd)), (143, 2, some (.iload 6)), (145, 1, some (.aload_n 0)), (146, 3, some (.getfield 30)), (149, 1, some (.aload_n 0)), (150, 3, some (.getfield 12)), (153, 3, some (.invokevirtual 212)), (156, 1, some (.iconst 1)), (157, 1, some (.iload_n 3)), (158, 3, some (.invokevirtual 162)), (161, 1, some (.iadd)), (162, 3, some (.invokestatic 345)), (165, 2, some (.istore 8)), (167, 2, some (.iload 8)), (169, 2, some (.aload 4)), (171, 3, some (.getfield 181)), (174, 1, some (.iload_n 3))] _ 117 rfl (by decide +kernel)
theorem dX9_enough_117 : decode cX9_enough 117 = .ok (.iload_n 2, 1) := dq_g199.1
theorem dX9_enough_118 : decode cX9_enough 118 = .ok (.iaload, 1) := dq_g199.2.1
theorem dX9_enough_119 : decode cX9_enough 119 = .ok (.iload 7, 2) := dq_g199.2.2.1
theorem dX9_enough_121 : decode cX9_enough 121 = .ok (.invokevirtual 154, 3) := dq_g199.2.2.2.1
theorem dX9_enough_124 : decode cX9_enough 124 = .ok (.iload 5, 2) := dq_g199.2.2.2.2.1
theorem dX9_enough_126 : decode cX9_enough 126 = .ok (.aload_n 0, 1) := dq_g199.2.2.2.2.2.1
theorem dX9_enough_127 : decode cX9_enough 127 = .ok (.getfield 30, 3) := dq_g199.2.2.2.2.2.2.1
theorem dX9_enough_130 : decode cX9_enough 130 = .ok (.aload_n 0, 1) := dq_g199.2.2.2.2.2.2.2.1
theorem dX9_enough_131 : decode cX9_enough 131 = .ok (.getfield 12, 3) := dq_g199.2.2.2.2.2.2.2.2.1
theorem dX9_enough_134 : decode cX9_enough 134 = .ok (.invokevirtual 212, 3) := dq_g199.2.2.2.2.2.2.2.2.2.1
theorem dX9_enough_137 : decode cX9_enough 137 = .ok (.iconst 0, 1) := dq_g199.2.2.2.2.2.2.2.2.2.2.1
theorem dX9_enough_138 : decode cX9_enough 138 = .ok (.iload_n 3, 1) := dq_g199.2.2.2.2.2.2.2.2.2.2.2.1
theorem dX9_enough_139 : decode cX9_enough 139 = .ok (.invokevirtual 162, 3) := dq_g199.2.2.2.2.2.2.2.2.2.2.2.2.1
theorem dX9_enough_142 : decode cX9_enough 142 = .ok (.iadd, 1) := dq_g199.2.2.2.2.2.2.2.2.2.2.2.2.2.1
theorem dX9_enough_143 : decode cX9_enough 143 = .ok (.iload 6, 2) := dq_g199.2.2.2.2.2.2.2.2.2.2.2.2.2.2.1
theorem dX9_enough_145 : decode cX9_enough 145 = .ok (.aload_n 0, 1) := dq_g199.2.2.2.2.2.2.2.2.2.2.2.2.2.2.2.1
theorem dX9_enough_146 : decode cX9_enough 146 = .ok (.getfield 30, 3) := dq_g199.2.2.2.2.2.2.2.2.2.2.2.2.2.2.2.2.1
theorem dX9_enough_149 : decode cX9_enough 149 = .ok (.aload_n 0, 1) := dq_g199.2.2.2.2.2.2.2.2.2.2.2.2.2.2.2.2.2.1
theorem dX9_enough_150 : decode cX9_enough 150 = .ok (.getfield 12, 3) := dq_g199.2.2.2.2.2.2.2.2.2.2.2.2.2.2.2.2.2.2.1
theorem dX9_enough_153 : decode cX9_enough 153 = .ok (.invokevirtual 212, 3) := dq_g199.2.2.2.2.2.2.2.2.2.2.2.2.2.2.2.2.2.2.2.1
theorem dX9_enough_156 : decode cX9_enough 156 = .ok (.iconst 1, 1) := dq_g199.2.2.2.2.2.2.2.2.2.2.2.2.2.2.2.2.2.2.2.2.1
theorem dX9_enough_157 : decode cX9_enough 157 = .ok (.iload_n 3, 1) := dq_g199.2.2.2.2.2.2.2.2.2.2.2.2.2.2.2.2.2.2.2.2.2.1
theorem dX9_enough_158 : decode cX9_enough 158 = .ok (.invokevirtual 162, 3) := dq_g199.2.2.2.2.2.2.2.2.2.2.2.2.2.2.2.2.2.2.2.2.2.2.1
theorem dX9_enough_161 : decode cX9_enough 161 = .ok (.iadd, 1) := dq_g199.2.2.2.2.2.2.2.2.2.2.2.2.2.2.2.2.2.2.2.2.2.2.2.1
theorem dX9_enough_162 : decode cX9_enough 162 = .ok (.invokestatic 345, 3) := dq_g199.2.2.2.2.2.2.2.2.2.2.2.2.2.2.2.2.2.2.2.2.2.2.2.2.1
theorem dX9_enough_165 : decode cX9_enough 165 = .ok (.istore 8, 2) := dq_g199.2.2.2.2.2.2.2.2.2.2.2.2.2.2.2.2.2.2.2.2.2.2.2.2.2.1
theorem dX9_enough_167 : decode cX9_enough 167 = .ok (.iload 8, 2) := dq_g199.2.2.2.2.2.2.2.2.2.2.2.2.2.2.2.2.2.2.2.2.2.2.2.2.2.2.1
theorem dX9_enough_169 : decode cX9_enough 169 = .ok (.aload 4, 2) := dq_g199.2.2.2.2.2.2.2.2.2.2.2.2.2.2.2.2.2.2.2.2.2.2.2.2.2.2.2.1
theorem dX9_enough_171 : decode cX9_enough 171 = .ok (.getfield 181, 3) := dq_g199.2.2.2.2.2.2.2.2.2.2.2.2.2.2.2.2.2.2.2.2.2.2.2.2.2.2.2.2.1
theorem dX9_enough_174 : decode cX9_enough 174 = .ok (.iload_n 3, 1) := dq_g199.2.2.2.2.2.2.2.2.2.2.2.2.2.2.2.2.2.2.2.2.2.2.2.2.2.2.2.2.2.1
theorem dq_g200 : decode cX9_enough 175 = .ok (.iaload, 1) ∧ decode cX9_enough 176 = .ok (.aload_n 0, 1) ∧ decode cX9_enough 177 = .ok (.getfield 12, 3) ∧ decode cX9_enough 180 = .ok (.getfield 184, 3) ∧ decode cX9_enough 183 = .ok (.iadd, 1) ∧ decode cX9_enough 184 = .ok (.if_icmp .gt 6, 3) ∧ decode cX9_enough 187 = .ok (.iload 7, 2) ∧ decode cX9_enough 189 = .ok (.ireturn, 1) ∧ decode cX9_enough 190 = .ok (.iinc 7 1, 3) ∧ decode cX9_enough 193 = .ok (.goto (-102), 3) ∧ decode cX9_enough 196 = .ok (.iconst (-1), 1) ∧ decode cX9_enough 197 = .ok (.ireturn, 1) ∧ True := dqC_ok (c := cX9_enough) [(175, 1, some (.iaload)), (176, 1, some (.aload_n 0)), (177, 3, some (.getfield 12)), (180, 3, some (.getfield 184)), (183, 1, some (.iadd)), (184, 3, some (.if_icmp .gt 6)), (187, 2, some (.iload 7)), (189, 1, some (.ireturn)), (190, 3, some (.iinc 7 1)), (193, 3, some (.goto (-102))), (196, 1, some (.iconst (-1))), (197, 1, some (.ireturn))] _ 175 rfl (by decide +kernel)
theorem dX9_enough_175 : decode cX9_enough 175 = .ok (.iaload, 1) := dq_g200.1
theorem dX9_enough_176 : decode cX9_enough 176 = .ok (.aload_n 0, 1) := dq_g200.2.1
theorem dX9_enough_177 : decode cX9_enough 177 = .ok (.getfield 12, 3) := dq_g200.2.2.1
theorem dX9_enough_180 : decode cX9_enough 180 = .ok (.getfield 184, 3) := dq_g200.2.2.2.1
theorem dX9_enough_183 : decode cX9_enough 183 = .ok (.iadd, 1) := dq_g200.2.2.2.2.1
theorem dX9_enough_184 : decode cX9_enough 184 = .ok (.if_icmp .gt 6, 3) := dq_g200.2.2.2.2.2.1
theorem dX9_enough_187 : decode cX9_enough 187 = .ok (.iload 7, 2) := dq_g200.2.2.2.2.2.2.1
theorem dX9_enough_189 : decode cX9_enough 189 = .ok (.ireturn, 1) := dq_g200.2.2.2.2.2.2.2.1
theorem dX9_enough_190 : decode cX9_enough 190 = .ok (.iinc 7 1, 3) := dq_g200.2.2.2.2.2.2.2.2.1
theorem dX9_enough_193 : decode cX9_enough 193 = .ok (.goto (-102), 3) := dq_g200.2.2.2.2.2.2.2.2.2.1
theorem dX9_enough_196 : decode cX9_enough 196 = .ok (.iconst (-1), 1) := dq_g200.2.2.2.2.2.2.2.2.2.2.1
theorem dX9_enough_197 : decode cX9_enough 197 = .ok (.ireturn, 1) := dq_g200.2.2.2.2.2.2.2.2.2.2.2.1
theorem dq_g201 : decode cX9_image 0 = .ok (.iload_n 1, 1) ∧ decode cX9_image 1 = .ok (.ifCond .eq 35, 3) ∧ decode cX9_image 4 = .ok (.aload_n 0, 1) ∧ decode cX9_image 5 = .ok (.getfield 348, 3) ∧ decode cX9_image 8 = .ok (.ifnonnull 14, 3) ∧ decode cX9_image 11 = .ok (.aload_n 0, 1) ∧ decode cX9_image 12 = .ok (.new 9, 3) ∧ decode cX9_image 15 = .ok (.dup, 1) ∧ decode cX9_image 16 = .ok (.invokespecial 11, 3) ∧ decode cX9_image 19 = .ok (.putfield 348, 3) ∧ decode cX9_image 22 = .ok (.aload_n 0, 1) ∧ decode cX9_image 23 = .ok (.getfield 348, 3) ∧ decode cX9_image 26 = .ok (.aload_n 0, 1) ∧ decode cX9_image 27 = .ok (.getfield 12, 3) ∧ decode cX9_image 30 = .ok (.invokevirtual 351, 3) ∧ decode cX9_image 33 = .ok (.goto 21, 3) ∧ decode cX9_image 36 = .ok (.aload_n 0, 1) ∧ decode cX9_image 37 = .ok (.getfield 348, 3) ∧ decode cX9_image 40 = .ok (.ifnull 14, 3) ∧ decode cX9_image 43 = .ok (.aload_n 0, 1) ∧ decode cX9_image 44 = .ok (.getfield 12, 3) ∧ decode cX9_image 47 = .ok (.aload_n 0, 1) ∧ decode cX9_image 48 = .ok (.getfield 348, 3) ∧ decode cX9_image 51 = .ok (.invokevirtual 351, 3) ∧ decode cX9_image 54 = .ok (.aload_n 0, 1) ∧ decode cX9_image 55 = .ok (.getfield 348, 3) ∧ decode cX9_image 58 = .ok (.ifnull 7, 3) ∧ decode cX9_image 61 = .ok (.iconst 1, 1) ∧ decode cX9_image 62 = .ok (.goto 4, 3) ∧ decode cX9_image 65 = .ok (.iconst 0, 1) ∧ True := dqC_ok (c := cX9_image) [(0, 1, some (.iload_n 1)), (1, 3, some (.ifCond .eq 35)), (4, 1, some (.aload_n 0)), (5, 3, some (.getfield 348)), (8, 3, some (.ifnonnull 14)), (11, 1, some (.aload_n 0)), (12, 3, some (.new 9)), (15, 1, some (.dup)), (16, 3, some (.invokespecial 11)), (19, 3, some (.putfield 348)), (22, 1, some (.aload_n 0)), (23, 3, some (.getfield 348)), (26, 1, some (.aload_n 0)), (27, 3, some (.getfield 12)), (30, 3, some (.invokevirtual 351)), (33, 3, some (.goto 21)), (36, 1, some (.aload_n 0)), (37, 3, some (.getfield 348)), (40, 3, some (.ifnull 14)), (43, 1, some (.aload_n 0)), (44, 3, some (.getfield 12)), (47, 1, some (.aload_n 0)), (48, 3, some (.getfield 348)), (51, 3, some (.invokevirtual 351)), (54, 1, some (.aload_n 0)), (55, 3, some (.getfield 348)), (58, 3, some (.ifnull 7)), (61, 1, some (.iconst 1)), (62, 3, some (.goto 4)), (65, 1, some (.iconst 0))] _ 0 rfl (by decide +kernel)
theorem dX9_image_0 : decode cX9_image 0 = .ok (.iload_n 1, 1) := dq_g201.1
theorem dX9_image_1 : decode cX9_image 1 = .ok (.ifCond .eq 35, 3) := dq_g201.2.1
theorem dX9_image_4 : decode cX9_image 4 = .ok (.aload_n 0, 1) := dq_g201.2.2.1
theorem dX9_image_5 : decode cX9_image 5 = .ok (.getfield 348, 3) := dq_g201.2.2.2.1
theorem dX9_image_8 : decode cX9_image 8 = .ok (.ifnonnull 14, 3) := dq_g201.2.2.2.2.1
theorem dX9_image_11 : decode cX9_image 11 = .ok (.aload_n 0, 1) := dq_g201.2.2.2.2.2.1
theorem dX9_image_12 : decode cX9_image 12 = .ok (.new 9, 3) := dq_g201.2.2.2.2.2.2.1
theorem dX9_image_15 : decode cX9_image 15 = .ok (.dup, 1) := dq_g201.2.2.2.2.2.2.2.1
theorem dX9_image_16 : decode cX9_image 16 = .ok (.invokespecial 11, 3) := dq_g201.2.2.2.2.2.2.2.2.1
theorem dX9_image_19 : decode cX9_image 19 = .ok (.putfield 348, 3) := dq_g201.2.2.2.2.2.2.2.2.2.1
theorem dX9_image_22 : decode cX9_image 22 = .ok (.aload_n 0, 1) := dq_g201.2.2.2.2.2.2.2.2.2.2.1
theorem dX9_image_23 : decode cX9_image 23 = .ok (.getfield 348, 3) := dq_g201.2.2.2.2.2.2.2.2.2.2.2.1
theorem dX9_image_26 : decode cX9_image 26 = .ok (.aload_n 0, 1) := dq_g201.2.2.2.2.2.2.2.2.2.2.2.2.1
theorem dX9_image_27 : decode cX9_image 27 = .ok (.getfield 12, 3) := dq_g201.2.2.2.2.2.2.2.2.2.2.2.2.2.1
theorem dX9_image_30 : decode cX9_image 30 = .ok (.invokevirtual 351, 3) := dq_g201.2.2.2.2.2.2.2.2.2.2.2.2.2.2.1
theorem dX9_image_33 : decode cX9_image 33 = .ok (.goto 21, 3) := dq_g201.2.2.2.2.2.2.2.2.2.2.2.2.2.2.2.1
theorem dX9_image_36 : decode cX9_image 36 = .ok (.aload_n 0, 1) := dq_g201.2.2.2.2.2.2.2.2.2.2.2.2.2.2.2.2.1
theorem dX9_image_37 : decode cX9_image 37 = .ok (.getfield 348, 3) := dq_g201.2.2.2.2.2.2.2.2.2.2.2.2.2.2.2.2.2.1
theorem dX9_image_40 : decode cX9_image 40 = .ok (.ifnull 14, 3) := dq_g201.2.2.2.2.2.2.2.2.2.2.2.2.2.2.2.2.2.2.1
theorem dX9_image_43 : decode cX9_image 43 = .ok (.aload_n 0, 1) := dq_g201.2.2.2.2.2.2.2.2.2.2.2.2.2.2.2.2.2.2.2.1
theorem dX9_image_44 : decode cX9_image 44 = .ok (.getfield 12, 3) := dq_g201.2.2.2.2.2.2.2.2.2.2.2.2.2.2.2.2.2.2.2.2.1
theorem dX9_image_47 : decode cX9_image 47 = .ok (.aload_n 0, 1) := dq_g201.2.2.2.2.2.2.2.2.2.2.2.2.2.2.2.2.2.2.2.2.2.1
theorem dX9_image_48 : decode cX9_image 48 = .ok (.getfield 348, 3) := dq_g201.2.2.2.2.2.2.2.2.2.2.2.2.2.2.2.2.2.2.2.2.2.2.1
theorem dX9_image_51 : decode cX9_image 51 = .ok (.invokevirtual 351, 3) := dq_g201.2.2.2.2.2.2.2.2.2.2.2.2.2.2.2.2.2.2.2.2.2.2.2.1
theorem dX9_image_54 : decode cX9_image 54 = .ok (.aload_n 0, 1) := dq_g201.2.2.2.2.2.2.2.2.2.2.2.2.2.2.2.2.2.2.2.2.2.2.2.2.1
theorem dX9_image_55 : decode cX9_image 55 = .ok (.getfield 348, 3) := dq_g201.2.2.2.2.2.2.2.2.2.2.2.2.2.2.2.2.2.2.2.2.2.2.2.2.2.1
theorem dX9_image_58 : decode cX9_image 58 = .ok (.ifnull 7, 3) := dq_g201.2.2.2.2.2.2.2.2.2.2.2.2.2.2.2.2.2.2.2.2.2.2.2.2.2.2.1
theorem dX9_image_61 : decode cX9_image 61 = .ok (.iconst 1, 1) := dq_g201.2.2.2.2.2.2.2.2.2.2.2.2.2.2.2.2.2.2.2.2.2.2.2.2.2.2.2.1
theorem dX9_image_62 : decode cX9_image 62 = .ok (.goto 4, 3) := dq_g201.2.2.2.2.2.2.2.2.2.2.2.2.2.2.2.2.2.2.2.2.2.2.2.2.2.2.2.2.1
theorem dX9_image_65 : decode cX9_image 65 = .ok (.iconst 0, 1) := dq_g201.2.2.2.2.2.2.2.2.2.2.2.2.2.2.2.2.2.2.2.2.2.2.2.2.2.2.2.2.2.1
theorem dq_g202 : decode cX9_image 66 = .ok (.ireturn, 1) ∧ True := dqC_ok (c := cX9_image) [(66, 1, some (.ireturn))] _ 66 rfl (by decide +kernel)
theorem dX9_image_66 : decode cX9_image 66 = .ok (.ireturn, 1) := dq_g202.1
theorem dq_g203 : decode cX9_look 0 = .ok (.iload_n 1, 1) ∧ decode cX9_look 48 = .ok (.aload_n 0, 1) ∧ decode cX9_look 49 = .ok (.getfield 12, 3) ∧ decode cX9_look 52 = .ok (.getfield 64, 3) ∧ decode cX9_look 55 = .ok (.ireturn, 1) ∧ decode cX9_look 56 = .ok (.aload_n 0, 1) ∧ decode cX9_look 57 = .ok (.getfield 12, 3) ∧ decode cX9_look 60 = .ok (.getfield 293, 3) ∧ decode cX9_look 63 = .ok (.ireturn, 1) ∧ decode cX9_look 64 = .ok (.aload_n 0, 1) ∧ decode cX9_look 65 = .ok (.getfield 12, 3) ∧ decode cX9_look 68 = .ok (.getfield 317, 3) ∧ decode cX9_look 71 = .ok (.ireturn, 1) ∧ decode cX9_look 72 = .ok (.aload_n 0, 1) ∧ decode cX9_look 73 = .ok (.getfield 12, 3) ∧ decode cX9_look 76 = .ok (.getfield 326, 3) ∧ decode cX9_look 79 = .ok (.ireturn, 1) ∧ decode cX9_look 80 = .ok (.aload_n 0, 1) ∧ decode cX9_look 81 = .ok (.getfield 12, 3) ∧ decode cX9_look 84 = .ok (.getfield 184, 3) ∧ decode cX9_look 87 = .ok (.ireturn, 1) ∧ decode cX9_look 88 = .ok (.aload_n 0, 1) ∧ decode cX9_look 89 = .ok (.getfield 12, 3) ∧ decode cX9_look 92 = .ok (.getfield 147, 3) ∧ decode cX9_look 95 = .ok (.ireturn, 1) ∧ decode cX9_look 96 = .ok (.aload_n 0, 1) ∧ decode cX9_look 97 = .ok (.invokevirtual 354, 3) ∧ decode cX9_look 100 = .ok (.ireturn, 1) ∧ decode cX9_look 101 = .ok (.aload_n 0, 1) ∧ True := dqC_ok (c := cX9_look) [(0, 1, some (.iload_n 1)), (1, 47, none), (48, 1, some (.aload_n 0)), (49, 3, some (.getfield 12)), (52, 3, some (.getfield 64)), (55, 1, some (.ireturn)), (56, 1, some (.aload_n 0)), (57, 3, some (.getfield 12)), (60, 3, some (.getfield 293)), (63, 1, some (.ireturn)), (64, 1, some (.aload_n 0)), (65, 3, some (.getfield 12)), (68, 3, some (.getfield 317)), (71, 1, some (.ireturn)), (72, 1, some (.aload_n 0)), (73, 3, some (.getfield 12)), (76, 3, some (.getfield 326)), (79, 1, some (.ireturn)), (80, 1, some (.aload_n 0)), (81, 3, some (.getfield 12)), (84, 3, some (.getfield 184)), (87, 1, some (.ireturn)), (88, 1, some (.aload_n 0)), (89, 3, some (.getfield 12)), (92, 3, some (.getfield 147)), (95, 1, some (.ireturn)), (96, 1, some (.aload_n 0)), (97, 3, some (.invokevirtual 354)), (100, 1, some (.ireturn)), (101, 1, some (.aload_n 0))] _ 0 rfl (by decide +kernel)
theorem dX9_look_0 : decode cX9_look 0 = .ok (.iload_n 1, 1) := dq_g203.1
theorem dX9_look_48 : decode cX9_look 48 = .ok (.aload_n 0, 1) := dq_g203.2.1
theorem dX9_look_49 : decode cX9_look 49 = .ok (.getfield 12, 3) := dq_g203.2.2.1
theorem dX9_look_52 : decode cX9_look 52 = .ok (.getfield 64, 3) := dq_g203.2.2.2.1
theorem dX9_look_55 : decode cX9_look 55 = .ok (.ireturn, 1) := dq_g203.2.2.2.2.1
theorem dX9_look_56 : decode cX9_look 56 = .ok (.aload_n 0, 1) := dq_g203.2.2.2.2.2.1
theorem dX9_look_57 : decode cX9_look 57 = .ok (.getfield 12, 3) := dq_g203.2.2.2.2.2.2.1
theorem dX9_look_60 : decode cX9_look 60 = .ok (.getfield 293, 3) := dq_g203.2.2.2.2.2.2.2.1
theorem dX9_look_63 : decode cX9_look 63 = .ok (.ireturn, 1) := dq_g203.2.2.2.2.2.2.2.2.1
theorem dX9_look_64 : decode cX9_look 64 = .ok (.aload_n 0, 1) := dq_g203.2.2.2.2.2.2.2.2.2.1
theorem dX9_look_65 : decode cX9_look 65 = .ok (.getfield 12, 3) := dq_g203.2.2.2.2.2.2.2.2.2.2.1
theorem dX9_look_68 : decode cX9_look 68 = .ok (.getfield 317, 3) := dq_g203.2.2.2.2.2.2.2.2.2.2.2.1
theorem dX9_look_71 : decode cX9_look 71 = .ok (.ireturn, 1) := dq_g203.2.2.2.2.2.2.2.2.2.2.2.2.1
theorem dX9_look_72 : decode cX9_look 72 = .ok (.aload_n 0, 1) := dq_g203.2.2.2.2.2.2.2.2.2.2.2.2.2.1
theorem dX9_look_73 : decode cX9_look 73 = .ok (.getfield 12, 3) := dq_g203.2.2.2.2.2.2.2.2.2.2.2.2.2.2.1
theorem dX9_look_76 : decode cX9_look 76 = .ok (.getfield 326, 3) := dq_g203.2.2.2.2.2.2.2.2.2.2.2.2.2.2.2.1
theorem dX9_look_79 : decode cX9_look 79 = .ok (.ireturn, 1) := dq_g203.2.2.2.2.2.2.2.2.2.2.2.2.2.2.2.2.1
theorem dX9_look_80 : decode cX9_look 80 = .ok (.aload_n 0, 1) := dq_g203.2.2.2.2.2.2.2.2.2.2.2.2.2.2.2.2.2.1
theorem dX9_look_81 : decode cX9_look 81 = .ok (.getfield 12, 3) := dq_g203.2.2.2.2.2.2.2.2.2.2.2.2.2.2.2.2.2.2.1
theorem dX9_look_84 : decode cX9_look 84 = .ok (.getfield 184, 3) := dq_g203.2.2.2.2.2.2.2.2.2.2.2.2.2.2.2.2.2.2.2.1
theorem dX9_look_87 : decode cX9_look 87 = .ok (.ireturn, 1) := dq_g203.2.2.2.2.2.2.2.2.2.2.2.2.2.2.2.2.2.2.2.2.1
theorem dX9_look_88 : decode cX9_look 88 = .ok (.aload_n 0, 1) := dq_g203.2.2.2.2.2.2.2.2.2.2.2.2.2.2.2.2.2.2.2.2.2.1
theorem dX9_look_89 : decode cX9_look 89 = .ok (.getfield 12, 3) := dq_g203.2.2.2.2.2.2.2.2.2.2.2.2.2.2.2.2.2.2.2.2.2.2.1
theorem dX9_look_92 : decode cX9_look 92 = .ok (.getfield 147, 3) := dq_g203.2.2.2.2.2.2.2.2.2.2.2.2.2.2.2.2.2.2.2.2.2.2.2.1
theorem dX9_look_95 : decode cX9_look 95 = .ok (.ireturn, 1) := dq_g203.2.2.2.2.2.2.2.2.2.2.2.2.2.2.2.2.2.2.2.2.2.2.2.2.1
theorem dX9_look_96 : decode cX9_look 96 = .ok (.aload_n 0, 1) := dq_g203.2.2.2.2.2.2.2.2.2.2.2.2.2.2.2.2.2.2.2.2.2.2.2.2.2.1
theorem dX9_look_97 : decode cX9_look 97 = .ok (.invokevirtual 354, 3) := dq_g203.2.2.2.2.2.2.2.2.2.2.2.2.2.2.2.2.2.2.2.2.2.2.2.2.2.2.1
theorem dX9_look_100 : decode cX9_look 100 = .ok (.ireturn, 1) := dq_g203.2.2.2.2.2.2.2.2.2.2.2.2.2.2.2.2.2.2.2.2.2.2.2.2.2.2.2.1
theorem dX9_look_101 : decode cX9_look 101 = .ok (.aload_n 0, 1) := dq_g203.2.2.2.2.2.2.2.2.2.2.2.2.2.2.2.2.2.2.2.2.2.2.2.2.2.2.2.2.1
theorem dX9_look_1 : decode cX9_look 1 = .ok (.tableswitch 105 0 7 #[47, 55, 63, 71, 79, 87, 95, 100], 47) := by decide +kernel
theorem dq_g204 : decode cX9_look 102 = .ok (.invokevirtual 357, 3) ∧ decode cX9_look 105 = .ok (.ireturn, 1) ∧ decode cX9_look 106 = .ok (.iconst (-1), 1) ∧ decode cX9_look 107 = .ok (.ireturn, 1) ∧ True := dqC_ok (c := cX9_look) [(102, 3, some (.invokevirtual 357)), (105, 1, some (.ireturn)), (106, 1, some (.iconst (-1))), (107, 1, some (.ireturn))] _ 102 rfl (by decide +kernel)
theorem dX9_look_102 : decode cX9_look 102 = .ok (.invokevirtual 357, 3) := dq_g204.1
theorem dX9_look_105 : decode cX9_look 105 = .ok (.ireturn, 1) := dq_g204.2.1
theorem dX9_look_106 : decode cX9_look 106 = .ok (.iconst (-1), 1) := dq_g204.2.2.1
theorem dX9_look_107 : decode cX9_look 107 = .ok (.ireturn, 1) := dq_g204.2.2.2.1
theorem dq_g205 : decode cX9_within 0 = .ok (.iload_n 0, 1) ∧ decode cX9_within 1 = .ok (.iload_n 1, 1) ∧ decode cX9_within 2 = .ok (.if_icmp .lt 12, 3) ∧ decode cX9_within 5 = .ok (.iload_n 0, 1) ∧ decode cX9_within 6 = .ok (.iload_n 2, 1) ∧ decode cX9_within 7 = .ok (.if_icmp .gt 7, 3) ∧ decode cX9_within 10 = .ok (.iconst 1, 1) ∧ decode cX9_within 11 = .ok (.goto 4, 3) ∧ decode cX9_within 14 = .ok (.iconst 0, 1) ∧ decode cX9_within 15 = .ok (.ireturn, 1) ∧ True := dqC_ok (c := cX9_within) [(0, 1, some (.iload_n 0)), (1, 1, some (.iload_n 1)), (2, 3, some (.if_icmp .lt 12)), (5, 1, some (.iload_n 0)), (6, 1, some (.iload_n 2)), (7, 3, some (.if_icmp .gt 7)), (10, 1, some (.iconst 1)), (11, 3, some (.goto 4)), (14, 1, some (.iconst 0)), (15, 1, some (.ireturn))] _ 0 rfl (by decide +kernel)
theorem dX9_within_0 : decode cX9_within 0 = .ok (.iload_n 0, 1) := dq_g205.1
theorem dX9_within_1 : decode cX9_within 1 = .ok (.iload_n 1, 1) := dq_g205.2.1
theorem dX9_within_2 : decode cX9_within 2 = .ok (.if_icmp .lt 12, 3) := dq_g205.2.2.1
theorem dX9_within_5 : decode cX9_within 5 = .ok (.iload_n 0, 1) := dq_g205.2.2.2.1
theorem dX9_within_6 : decode cX9_within 6 = .ok (.iload_n 2, 1) := dq_g205.2.2.2.2.1
theorem dX9_within_7 : decode cX9_within 7 = .ok (.if_icmp .gt 7, 3) := dq_g205.2.2.2.2.2.1
theorem dX9_within_10 : decode cX9_within 10 = .ok (.iconst 1, 1) := dq_g205.2.2.2.2.2.2.1
theorem dX9_within_11 : decode cX9_within 11 = .ok (.goto 4, 3) := dq_g205.2.2.2.2.2.2.2.1
theorem dX9_within_14 : decode cX9_within 14 = .ok (.iconst 0, 1) := dq_g205.2.2.2.2.2.2.2.2.1
theorem dX9_within_15 : decode cX9_within 15 = .ok (.ireturn, 1) := dq_g205.2.2.2.2.2.2.2.2.2.1
theorem dq_g206 : decode cX9_isTone 0 = .ok (.iload_n 0, 1) ∧ decode cX9_isTone 1 = .ok (.iconst 0, 1) ∧ decode cX9_isTone 2 = .ok (.iconst 2, 1) ∧ decode cX9_isTone 3 = .ok (.invokestatic 89, 3) ∧ decode cX9_isTone 6 = .ok (.ireturn, 1) ∧ True := dqC_ok (c := cX9_isTone) [(0, 1, some (.iload_n 0)), (1, 1, some (.iconst 0)), (2, 1, some (.iconst 2)), (3, 3, some (.invokestatic 89)), (6, 1, some (.ireturn))] _ 0 rfl (by decide +kernel)
theorem dX9_isTone_0 : decode cX9_isTone 0 = .ok (.iload_n 0, 1) := dq_g206.1
theorem dX9_isTone_1 : decode cX9_isTone 1 = .ok (.iconst 0, 1) := dq_g206.2.1
theorem dX9_isTone_2 : decode cX9_isTone 2 = .ok (.iconst 2, 1) := dq_g206.2.2.1
theorem dX9_isTone_3 : decode cX9_isTone 3 = .ok (.invokestatic 89, 3) := dq_g206.2.2.2.1
theorem dX9_isTone_6 : decode cX9_isTone 6 = .ok (.ireturn, 1) := dq_g206.2.2.2.2.1
theorem dq_g207 : decode cX9_isAir 0 = .ok (.iload_n 0, 1) ∧ decode cX9_isAir 1 = .ok (.bipush (-20), 2) ∧ decode cX9_isAir 3 = .ok (.bipush 50, 2) ∧ decode cX9_isAir 5 = .ok (.invokestatic 89, 3) ∧ decode cX9_isAir 8 = .ok (.ifCond .eq 17, 3) ∧ decode cX9_isAir 11 = .ok (.iload_n 1, 1) ∧ decode cX9_isAir 12 = .ok (.iconst 0, 1) ∧ decode cX9_isAir 13 = .ok (.bipush 99, 2) ∧ decode cX9_isAir 15 = .ok (.invokestatic 89, 3) ∧ decode cX9_isAir 18 = .ok (.ifCond .eq 7, 3) ∧ decode cX9_isAir 21 = .ok (.iconst 1, 1) ∧ decode cX9_isAir 22 = .ok (.goto 4, 3) ∧ decode cX9_isAir 25 = .ok (.iconst 0, 1) ∧ decode cX9_isAir 26 = .ok (.ireturn, 1) ∧ True := dqC_ok (c := cX9_isAir) [(0, 1, some (.iload_n 0)), (1, 2, some (.bipush (-20))), (3, 2, some (.bipush 50)), (5, 3, some (.invokestatic 89)), (8, 3, some (.ifCond .eq 17)), (11, 1, some (.iload_n 1)), (12, 1, some (.iconst 0)), (13, 2, some (.bipush 99)), (15, 3, some (.invokestatic 89)), (18, 3, some (.ifCond .eq 7)), (21, 1, some (.iconst 1)), (22, 3, some (.goto 4)), (25, 1, some (.iconst 0)), (26, 1, some (.ireturn))] _ 0 rfl (by decide +kernel)
theorem dX9_isAir_0 : decode cX9_isAir 0 = .ok (.iload_n 0, 1) := dq_g207.1
theorem dX9_isAir_1 : decode cX9_isAir 1 = .ok (.bipush (-20), 2) := dq_g207.2.1
theorem dX9_isAir_3 : decode cX9_isAir 3 = .ok (.bipush 50, 2) := dq_g207.2.2.1
theorem dX9_isAir_5 : decode cX9_isAir 5 = .ok (.invokestatic 89, 3) := dq_g207.2.2.2.1
theorem dX9_isAir_8 : decode cX9_isAir 8 = .ok (.ifCond .eq 17, 3) := dq_g207.2.2.2.2.1
theorem dX9_isAir_11 : decode cX9_isAir 11 = .ok (.iload_n 1, 1) := dq_g207.2.2.2.2.2.1
theorem dX9_isAir_12 : decode cX9_isAir 12 = .ok (.iconst 0, 1) := dq_g207.2.2.2.2.2.2.1
theorem dX9_isAir_13 : decode cX9_isAir 13 = .ok (.bipush 99, 2) := dq_g207.2.2.2.2.2.2.2.1
theorem dX9_isAir_15 : decode cX9_isAir 15 = .ok (.invokestatic 89, 3) := dq_g207.2.2.2.2.2.2.2.2.1
theorem dX9_isAir_18 : decode cX9_isAir 18 = .ok (.ifCond .eq 7, 3) := dq_g207.2.2.2.2.2.2.2.2.2.1
theorem dX9_isAir_21 : decode cX9_isAir 21 = .ok (.iconst 1, 1) := dq_g207.2.2.2.2.2.2.2.2.2.2.1
theorem dX9_isAir_22 : decode cX9_isAir 22 = .ok (.goto 4, 3) := dq_g207.2.2.2.2.2.2.2.2.2.2.2.1
theorem dX9_isAir_25 : decode cX9_isAir 25 = .ok (.iconst 0, 1) := dq_g207.2.2.2.2.2.2.2.2.2.2.2.2.1
theorem dX9_isAir_26 : decode cX9_isAir 26 = .ok (.ireturn, 1) := dq_g207.2.2.2.2.2.2.2.2.2.2.2.2.2.1
theorem dq_g208 : decode cX9_ratio 0 = .ok (.iload_n 1, 1) ∧ decode cX9_ratio 1 = .ok (.ifCond .gt 7, 3) ∧ decode cX9_ratio 4 = .ok (.iconst 0, 1) ∧ decode cX9_ratio 5 = .ok (.goto 13, 3) ∧ decode cX9_ratio 8 = .ok (.ldc2_w 360, 3) ∧ decode cX9_ratio 11 = .ok (.iload_n 0, 1) ∧ decode cX9_ratio 12 = .ok (.i2l, 1) ∧ decode cX9_ratio 13 = .ok (.lmul, 1) ∧ decode cX9_ratio 14 = .ok (.iload_n 1, 1) ∧ decode cX9_ratio 15 = .ok (.i2l, 1) ∧ decode cX9_ratio 16 = .ok (.ldiv, 1) ∧ decode cX9_ratio 17 = .ok (.l2i, 1) ∧ decode cX9_ratio 18 = .ok (.ireturn, 1) ∧ True := dqC_ok (c := cX9_ratio) [(0, 1, some (.iload_n 1)), (1, 3, some (.ifCond .gt 7)), (4, 1, some (.iconst 0)), (5, 3, some (.goto 13)), (8, 3, some (.ldc2_w 360)), (11, 1, some (.iload_n 0)), (12, 1, some (.i2l)), (13, 1, some (.lmul)), (14, 1, some (.iload_n 1)), (15, 1, some (.i2l)), (16, 1, some (.ldiv)), (17, 1, some (.l2i)), (18, 1, some (.ireturn))] _ 0 rfl (by decide +kernel)
theorem dX9_ratio_0 : decode cX9_ratio 0 = .ok (.iload_n 1, 1) := dq_g208.1
theorem dX9_ratio_1 : decode cX9_ratio 1 = .ok (.ifCond .gt 7, 3) := dq_g208.2.1
theorem dX9_ratio_4 : decode cX9_ratio 4 = .ok (.iconst 0, 1) := dq_g208.2.2.1
theorem dX9_ratio_5 : decode cX9_ratio 5 = .ok (.goto 13, 3) := dq_g208.2.2.2.1
theorem dX9_ratio_8 : decode cX9_ratio 8 = .ok (.ldc2_w 360, 3) := dq_g208.2.2.2.2.1
theorem dX9_ratio_11 : decode cX9_ratio 11 = .ok (.iload_n 0, 1) := dq_g208.2.2.2.2.2.1
theorem dX9_ratio_12 : decode cX9_ratio 12 = .ok (.i2l, 1) := dq_g208.2.2.2.2.2.2.1
theorem dX9_ratio_13 : decode cX9_ratio 13 = .ok (.lmul, 1) := dq_g208.2.2.2.2.2.2.2.1
theorem dX9_ratio_14 : decode cX9_ratio 14 = .ok (.iload_n 1, 1) := dq_g208.2.2.2.2.2.2.2.2.1
theorem dX9_ratio_15 : decode cX9_ratio 15 = .ok (.i2l, 1) := dq_g208.2.2.2.2.2.2.2.2.2.1
theorem dX9_ratio_16 : decode cX9_ratio 16 = .ok (.ldiv, 1) := dq_g208.2.2.2.2.2.2.2.2.2.2.1
theorem dX9_ratio_17 : decode cX9_ratio 17 = .ok (.l2i, 1) := dq_g208.2.2.2.2.2.2.2.2.2.2.2.1
theorem dX9_ratio_18 : decode cX9_ratio 18 = .ok (.ireturn, 1) := dq_g208.2.2.2.2.2.2.2.2.2.2.2.2.1
theorem dq_g209 : decode cX9_barAt 0 = .ok (.iload_n 1, 1) ∧ decode cX9_barAt 1 = .ok (.iconst 0, 1) ∧ decode cX9_barAt 2 = .ok (.aload_n 0, 1) ∧ decode cX9_barAt 3 = .ok (.getfield 12, 3) ∧ decode cX9_barAt 6 = .ok (.getfield 64, 3) ∧ decode cX9_barAt 9 = .ok (.iconst 1, 1) ∧ decode cX9_barAt 10 = .ok (.isub, 1) ∧ decode cX9_barAt 11 = .ok (.invokestatic 89, 3) ∧ decode cX9_barAt 14 = .ok (.ifCond .eq 15, 3) ∧ decode cX9_barAt 17 = .ok (.aload_n 0, 1) ∧ decode cX9_barAt 18 = .ok (.getfield 12, 3) ∧ decode cX9_barAt 21 = .ok (.getfield 68, 3) ∧ decode cX9_barAt 24 = .ok (.iload_n 1, 1) ∧ decode cX9_barAt 25 = .ok (.aaload, 1) ∧ decode cX9_barAt 26 = .ok (.goto 4, 3) ∧ decode cX9_barAt 29 = .ok (.aconst_null, 1) ∧ decode cX9_barAt 30 = .ok (.areturn, 1) ∧ True := dqC_ok (c := cX9_barAt) [(0, 1, some (.iload_n 1)), (1, 1, some (.iconst 0)), (2, 1, some (.aload_n 0)), (3, 3, some (.getfield 12)), (6, 3, some (.getfield 64)), (9, 1, some (.iconst 1)), (10, 1, some (.isub)), (11, 3, some (.invokestatic 89)), (14, 3, some (.ifCond .eq 15)), (17, 1, some (.aload_n 0)), (18, 3, some (.getfield 12)), (21, 3, some (.getfield 68)), (24, 1, some (.iload_n 1)), (25, 1, some (.aaload)), (26, 3, some (.goto 4)), (29, 1, some (.aconst_null)), (30, 1, some (.areturn))] _ 0 rfl (by decide +kernel)
theorem dX9_barAt_0 : decode cX9_barAt 0 = .ok (.iload_n 1, 1) := dq_g209.1
theorem dX9_barAt_1 : decode cX9_barAt 1 = .ok (.iconst 0, 1) := dq_g209.2.1
theorem dX9_barAt_2 : decode cX9_barAt 2 = .ok (.aload_n 0, 1) := dq_g209.2.2.1
theorem dX9_barAt_3 : decode cX9_barAt 3 = .ok (.getfield 12, 3) := dq_g209.2.2.2.1
theorem dX9_barAt_6 : decode cX9_barAt 6 = .ok (.getfield 64, 3) := dq_g209.2.2.2.2.1
theorem dX9_barAt_9 : decode cX9_barAt 9 = .ok (.iconst 1, 1) := dq_g209.2.2.2.2.2.1
theorem dX9_barAt_10 : decode cX9_barAt 10 = .ok (.isub, 1) := dq_g209.2.2.2.2.2.2.1
theorem dX9_barAt_11 : decode cX9_barAt 11 = .ok (.invokestatic 89, 3) := dq_g209.2.2.2.2.2.2.2.1
theorem dX9_barAt_14 : decode cX9_barAt 14 = .ok (.ifCond .eq 15, 3) := dq_g209.2.2.2.2.2.2.2.2.1
theorem dX9_barAt_17 : decode cX9_barAt 17 = .ok (.aload_n 0, 1) := dq_g209.2.2.2.2.2.2.2.2.2.1
theorem dX9_barAt_18 : decode cX9_barAt 18 = .ok (.getfield 12, 3) := dq_g209.2.2.2.2.2.2.2.2.2.2.1
theorem dX9_barAt_21 : decode cX9_barAt 21 = .ok (.getfield 68, 3) := dq_g209.2.2.2.2.2.2.2.2.2.2.2.1
theorem dX9_barAt_24 : decode cX9_barAt 24 = .ok (.iload_n 1, 1) := dq_g209.2.2.2.2.2.2.2.2.2.2.2.2.1
theorem dX9_barAt_25 : decode cX9_barAt 25 = .ok (.aaload, 1) := dq_g209.2.2.2.2.2.2.2.2.2.2.2.2.2.1
theorem dX9_barAt_26 : decode cX9_barAt 26 = .ok (.goto 4, 3) := dq_g209.2.2.2.2.2.2.2.2.2.2.2.2.2.2.1
theorem dX9_barAt_29 : decode cX9_barAt 29 = .ok (.aconst_null, 1) := dq_g209.2.2.2.2.2.2.2.2.2.2.2.2.2.2.2.1
theorem dX9_barAt_30 : decode cX9_barAt 30 = .ok (.areturn, 1) := dq_g209.2.2.2.2.2.2.2.2.2.2.2.2.2.2.2.2.1
theorem dq_g210 : decode cX9_textAt 0 = .ok (.iload_n 1, 1) ∧ decode cX9_textAt 1 = .ok (.ifCond .ne 22, 3) ∧ decode cX9_textAt 4 = .ok (.iload_n 2, 1) ∧ decode cX9_textAt 5 = .ok (.iconst 0, 1) ∧ decode cX9_textAt 6 = .ok (.iconst 1, 1) ∧ decode cX9_textAt 7 = .ok (.invokestatic 89, 3) ∧ decode cX9_textAt 10 = .ok (.ifCond .eq 13, 3) ∧ decode cX9_textAt 13 = .ok (.aload_n 0, 1) ∧ decode cX9_textAt 14 = .ok (.getfield 12, 3) ∧ decode cX9_textAt 17 = .ok (.getfield 158, 3) ∧ decode cX9_textAt 20 = .ok (.iload_n 2, 1) ∧ decode cX9_textAt 21 = .ok (.aaload, 1) ∧ decode cX9_textAt 22 = .ok (.areturn, 1) ∧ decode cX9_textAt 23 = .ok (.iload_n 1, 1) ∧ decode cX9_textAt 24 = .ok (.iconst 1, 1) ∧ decode cX9_textAt 25 = .ok (.if_icmp .ne 24, 3) ∧ decode cX9_textAt 28 = .ok (.iload_n 2, 1) ∧ decode cX9_textAt 29 = .ok (.iconst 0, 1) ∧ decode cX9_textAt 30 = .ok (.iconst 3, 1) ∧ decode cX9_textAt 31 = .ok (.invokestatic 89, 3) ∧ decode cX9_textAt 34 = .ok (.ifCond .eq 15, 3) ∧ decode cX9_textAt 37 = .ok (.aload_n 0, 1) ∧ decode cX9_textAt 38 = .ok (.getfield 12, 3) ∧ decode cX9_textAt 41 = .ok (.getfield 220, 3) ∧ decode cX9_textAt 44 = .ok (.iload_n 2, 1) ∧ decode cX9_textAt 45 = .ok (.aaload, 1) ∧ decode cX9_textAt 46 = .ok (.goto 4, 3) ∧ decode cX9_textAt 49 = .ok (.aconst_null, 1) ∧ decode cX9_textAt 50 = .ok (.areturn, 1) ∧ True := dqC_ok (c := cX9_textAt) [(0, 1, some (.iload_n 1)), (1, 3, some (.ifCond .ne 22)), (4, 1, some (.iload_n 2)), (5, 1, some (.iconst 0)), (6, 1, some (.iconst 1)), (7, 3, some (.invokestatic 89)), (10, 3, some (.ifCond .eq 13)), (13, 1, some (.aload_n 0)), (14, 3, some (.getfield 12)), (17, 3, some (.getfield 158)), (20, 1, some (.iload_n 2)), (21, 1, some (.aaload)), (22, 1, some (.areturn)), (23, 1, some (.iload_n 1)), (24, 1, some (.iconst 1)), (25, 3, some (.if_icmp .ne 24)), (28, 1, some (.iload_n 2)), (29, 1, some (.iconst 0)), (30, 1, some (.iconst 3)), (31, 3, some (.invokestatic 89)), (34, 3, some (.ifCond .eq 15)), (37, 1, some (.aload_n 0)), (38, 3, some (.getfield 12)), (41, 3, some (.getfield 220)), (44, 1, some (.iload_n 2)), (45, 1, some (.aaload)), (46, 3, some (.goto 4)), (49, 1, some (.aconst_null)), (50, 1, some (.areturn))] _ 0 rfl (by decide +kernel)
theorem dX9_textAt_0 : decode cX9_textAt 0 = .ok (.iload_n 1, 1) := dq_g210.1
theorem dX9_textAt_1 : decode cX9_textAt 1 = .ok (.ifCond .ne 22, 3) := dq_g210.2.1
theorem dX9_textAt_4 : decode cX9_textAt 4 = .ok (.iload_n 2, 1) := dq_g210.2.2.1
theorem dX9_textAt_5 : decode cX9_textAt 5 = .ok (.iconst 0, 1) := dq_g210.2.2.2.1
theorem dX9_textAt_6 : decode cX9_textAt 6 = .ok (.iconst 1, 1) := dq_g210.2.2.2.2.1
theorem dX9_textAt_7 : decode cX9_textAt 7 = .ok (.invokestatic 89, 3) := dq_g210.2.2.2.2.2.1
theorem dX9_textAt_10 : decode cX9_textAt 10 = .ok (.ifCond .eq 13, 3) := dq_g210.2.2.2.2.2.2.1
theorem dX9_textAt_13 : decode cX9_textAt 13 = .ok (.aload_n 0, 1) := dq_g210.2.2.2.2.2.2.2.1
theorem dX9_textAt_14 : decode cX9_textAt 14 = .ok (.getfield 12, 3) := dq_g210.2.2.2.2.2.2.2.2.1
theorem dX9_textAt_17 : decode cX9_textAt 17 = .ok (.getfield 158, 3) := dq_g210.2.2.2.2.2.2.2.2.2.1
theorem dX9_textAt_20 : decode cX9_textAt 20 = .ok (.iload_n 2, 1) := dq_g210.2.2.2.2.2.2.2.2.2.2.1
theorem dX9_textAt_21 : decode cX9_textAt 21 = .ok (.aaload, 1) := dq_g210.2.2.2.2.2.2.2.2.2.2.2.1
theorem dX9_textAt_22 : decode cX9_textAt 22 = .ok (.areturn, 1) := dq_g210.2.2.2.2.2.2.2.2.2.2.2.2.1
theorem dX9_textAt_23 : decode cX9_textAt 23 = .ok (.iload_n 1, 1) := dq_g210.2.2.2.2.2.2.2.2.2.2.2.2.2.1
theorem dX9_textAt_24 : decode cX9_textAt 24 = .ok (.iconst 1, 1) := dq_g210.2.2.2.2.2.2.2.2.2.2.2.2.2.2.1
theorem dX9_textAt_25 : decode cX9_textAt 25 = .ok (.if_icmp .ne 24, 3) := dq_g210.2.2.2.2.2.2.2.2.2.2.2.2.2.2.2.1
theorem dX9_textAt_28 : decode cX9_textAt 28 = .ok (.iload_n 2, 1) := dq_g210.2.2.2.2.2.2.2.2.2.2.2.2.2.2.2.2.1
theorem dX9_textAt_29 : decode cX9_textAt 29 = .ok (.iconst 0, 1) := dq_g210.2.2.2.2.2.2.2.2.2.2.2.2.2.2.2.2.2.1
theorem dX9_textAt_30 : decode cX9_textAt 30 = .ok (.iconst 3, 1) := dq_g210.2.2.2.2.2.2.2.2.2.2.2.2.2.2.2.2.2.2.1
theorem dX9_textAt_31 : decode cX9_textAt 31 = .ok (.invokestatic 89, 3) := dq_g210.2.2.2.2.2.2.2.2.2.2.2.2.2.2.2.2.2.2.2.1
theorem dX9_textAt_34 : decode cX9_textAt 34 = .ok (.ifCond .eq 15, 3) := dq_g210.2.2.2.2.2.2.2.2.2.2.2.2.2.2.2.2.2.2.2.2.1
theorem dX9_textAt_37 : decode cX9_textAt 37 = .ok (.aload_n 0, 1) := dq_g210.2.2.2.2.2.2.2.2.2.2.2.2.2.2.2.2.2.2.2.2.2.1
theorem dX9_textAt_38 : decode cX9_textAt 38 = .ok (.getfield 12, 3) := dq_g210.2.2.2.2.2.2.2.2.2.2.2.2.2.2.2.2.2.2.2.2.2.2.1
theorem dX9_textAt_41 : decode cX9_textAt 41 = .ok (.getfield 220, 3) := dq_g210.2.2.2.2.2.2.2.2.2.2.2.2.2.2.2.2.2.2.2.2.2.2.2.1
theorem dX9_textAt_44 : decode cX9_textAt 44 = .ok (.iload_n 2, 1) := dq_g210.2.2.2.2.2.2.2.2.2.2.2.2.2.2.2.2.2.2.2.2.2.2.2.2.1
theorem dX9_textAt_45 : decode cX9_textAt 45 = .ok (.aaload, 1) := dq_g210.2.2.2.2.2.2.2.2.2.2.2.2.2.2.2.2.2.2.2.2.2.2.2.2.2.1
theorem dX9_textAt_46 : decode cX9_textAt 46 = .ok (.goto 4, 3) := dq_g210.2.2.2.2.2.2.2.2.2.2.2.2.2.2.2.2.2.2.2.2.2.2.2.2.2.2.1
theorem dX9_textAt_49 : decode cX9_textAt 49 = .ok (.aconst_null, 1) := dq_g210.2.2.2.2.2.2.2.2.2.2.2.2.2.2.2.2.2.2.2.2.2.2.2.2.2.2.2.1
theorem dX9_textAt_50 : decode cX9_textAt 50 = .ok (.areturn, 1) := dq_g210.2.2.2.2.2.2.2.2.2.2.2.2.2.2.2.2.2.2.2.2.2.2.2.2.2.2.2.2.1
theorem dq_g211 : decode cX9_addBytes 0 = .ok (.bipush 24, 2) ∧ decode cX9_addBytes 2 = .ok (.istore_n 2, 1) ∧ decode cX9_addBytes 3 = .ok (.iload_n 2, 1) ∧ decode cX9_addBytes 4 = .ok (.ifCond .lt 45, 3) ∧ decode cX9_addBytes 7 = .ok (.aload_n 0, 1) ∧ decode cX9_addBytes 8 = .ok (.getfield 105, 3) ∧ decode cX9_addBytes 11 = .ok (.sipush 500, 3) ∧ decode cX9_addBytes 14 = .ok (.if_icmp .ge 35, 3) ∧ decode cX9_addBytes 17 = .ok (.aload_n 0, 1) ∧ decode cX9_addBytes 18 = .ok (.getfield 16, 3) ∧ decode cX9_addBytes 21 = .ok (.aload_n 0, 1) ∧ decode cX9_addBytes 22 = .ok (.getfield 105, 3) ∧ decode cX9_addBytes 25 = .ok (.iload_n 1, 1) ∧ decode cX9_addBytes 26 = .ok (.iload_n 2, 1) ∧ decode cX9_addBytes 27 = .ok (.iushr, 1) ∧ decode cX9_addBytes 28 = .ok (.sipush 255, 3) ∧ decode cX9_addBytes 31 = .ok (.iand, 1) ∧ decode cX9_addBytes 32 = .ok (.iastore, 1) ∧ decode cX9_addBytes 33 = .ok (.aload_n 0, 1) ∧ decode cX9_addBytes 34 = .ok (.dup, 1) ∧ decode cX9_addBytes 35 = .ok (.getfield 105, 3) ∧ decode cX9_addBytes 38 = .ok (.iconst 1, 1) ∧ decode cX9_addBytes 39 = .ok (.iadd, 1) ∧ decode cX9_addBytes 40 = .ok (.putfield 105, 3) ∧ decode cX9_addBytes 43 = .ok (.iinc 2 (-8), 3) ∧ decode cX9_addBytes 46 = .ok (.goto (-43), 3) ∧ decode cX9_addBytes 49 = .ok (.return_, 1) ∧ True := dqC_ok (c := cX9_addBytes) [(0, 2, some (.bipush 24)), (2, 1, some (.istore_n 2)), (3, 1, some (.iload_n 2)), (4, 3, some (.ifCond .lt 45)), (7, 1, some (.aload_n 0)), (8, 3, some (.getfield 105)), (11, 3, some (.sipush 500)), (14, 3, some (.if_icmp .ge 35)), (17, 1, some (.aload_n 0)), (18, 3, some (.getfield 16)), (21, 1, some (.aload_n 0)), (22, 3, some (.getfield 105)), (25, 1, some (.iload_n 1)), (26, 1, some (.iload_n 2)), (27, 1, some (.iushr)), (28, 3, some (.sipush 255)), (31, 1, some (.iand)), (32, 1, some (.iastore)), (33, 1, some (.aload_n 0)), (34, 1, some (.dup)), (35, 3, some (.getfield 105)), (38, 1, some (.iconst 1)), (39, 1, some (.iadd)), (40, 3, some (.putfield 105)), (43, 3, some (.iinc 2 (-8))), (46, 3, some (.goto (-43))), (49, 1, some (.return_))] _ 0 rfl (by decide +kernel)
theorem dX9_addBytes_0 : decode cX9_addBytes 0 = .ok (.bipush 24, 2) := dq_g211.1
theorem dX9_addBytes_2 : decode cX9_addBytes 2 = .ok (.istore_n 2, 1) := dq_g211.2.1
theorem dX9_addBytes_3 : decode cX9_addBytes 3 = .ok (.iload_n 2, 1) := dq_g211.2.2.1
theorem dX9_addBytes_4 : decode cX9_addBytes 4 = .ok (.ifCond .lt 45, 3) := dq_g211.2.2.2.1
theorem dX9_addBytes_7 : decode cX9_addBytes 7 = .ok (.aload_n 0, 1) := dq_g211.2.2.2.2.1
theorem dX9_addBytes_8 : decode cX9_addBytes 8 = .ok (.getfield 105, 3) := dq_g211.2.2.2.2.2.1
theorem dX9_addBytes_11 : decode cX9_addBytes 11 = .ok (.sipush 500, 3) := dq_g211.2.2.2.2.2.2.1
theorem dX9_addBytes_14 : decode cX9_addBytes 14 = .ok (.if_icmp .ge 35, 3) := dq_g211.2.2.2.2.2.2.2.1
theorem dX9_addBytes_17 : decode cX9_addBytes 17 = .ok (.aload_n 0, 1) := dq_g211.2.2.2.2.2.2.2.2.1
theorem dX9_addBytes_18 : decode cX9_addBytes 18 = .ok (.getfield 16, 3) := dq_g211.2.2.2.2.2.2.2.2.2.1
theorem dX9_addBytes_21 : decode cX9_addBytes 21 = .ok (.aload_n 0, 1) := dq_g211.2.2.2.2.2.2.2.2.2.2.1
theorem dX9_addBytes_22 : decode cX9_addBytes 22 = .ok (.getfield 105, 3) := dq_g211.2.2.2.2.2.2.2.2.2.2.2.1
theorem dX9_addBytes_25 : decode cX9_addBytes 25 = .ok (.iload_n 1, 1) := dq_g211.2.2.2.2.2.2.2.2.2.2.2.2.1
theorem dX9_addBytes_26 : decode cX9_addBytes 26 = .ok (.iload_n 2, 1) := dq_g211.2.2.2.2.2.2.2.2.2.2.2.2.2.1
theorem dX9_addBytes_27 : decode cX9_addBytes 27 = .ok (.iushr, 1) := dq_g211.2.2.2.2.2.2.2.2.2.2.2.2.2.2.1
theorem dX9_addBytes_28 : decode cX9_addBytes 28 = .ok (.sipush 255, 3) := dq_g211.2.2.2.2.2.2.2.2.2.2.2.2.2.2.2.1
theorem dX9_addBytes_31 : decode cX9_addBytes 31 = .ok (.iand, 1) := dq_g211.2.2.2.2.2.2.2.2.2.2.2.2.2.2.2.2.1
theorem dX9_addBytes_32 : decode cX9_addBytes 32 = .ok (.iastore, 1) := dq_g211.2.2.2.2.2.2.2.2.2.2.2.2.2.2.2.2.2.1
theorem dX9_addBytes_33 : decode cX9_addBytes 33 = .ok (.aload_n 0, 1) := dq_g211.2.2.2.2.2.2.2.2.2.2.2.2.2.2.2.2.2.2.1
theorem dX9_addBytes_34 : decode cX9_addBytes 34 = .ok (.dup, 1) := dq_g211.2.2.2.2.2.2.2.2.2.2.2.2.2.2.2.2.2.2.2.1
theorem dX9_addBytes_35 : decode cX9_addBytes 35 = .ok (.getfield 105, 3) := dq_g211.2.2.2.2.2.2.2.2.2.2.2.2.2.2.2.2.2.2.2.2.1
theorem dX9_addBytes_38 : decode cX9_addBytes 38 = .ok (.iconst 1, 1) := dq_g211.2.2.2.2.2.2.2.2.2.2.2.2.2.2.2.2.2.2.2.2.2.1
theorem dX9_addBytes_39 : decode cX9_addBytes 39 = .ok (.iadd, 1) := dq_g211.2.2.2.2.2.2.2.2.2.2.2.2.2.2.2.2.2.2.2.2.2.2.1
theorem dX9_addBytes_40 : decode cX9_addBytes 40 = .ok (.putfield 105, 3) := dq_g211.2.2.2.2.2.2.2.2.2.2.2.2.2.2.2.2.2.2.2.2.2.2.2.1
theorem dX9_addBytes_43 : decode cX9_addBytes 43 = .ok (.iinc 2 (-8), 3) := dq_g211.2.2.2.2.2.2.2.2.2.2.2.2.2.2.2.2.2.2.2.2.2.2.2.2.1
theorem dX9_addBytes_46 : decode cX9_addBytes 46 = .ok (.goto (-43), 3) := dq_g211.2.2.2.2.2.2.2.2.2.2.2.2.2.2.2.2.2.2.2.2.2.2.2.2.2.1
theorem dX9_addBytes_49 : decode cX9_addBytes 49 = .ok (.return_, 1) := dq_g211.2.2.2.2.2.2.2.2.2.2.2.2.2.2.2.2.2.2.2.2.2.2.2.2.2.2.1
theorem dq_g212 : decode cX9_toneNow 0 = .ok (.aload_n 0, 1) ∧ decode cX9_toneNow 1 = .ok (.getfield 30, 3) ∧ decode cX9_toneNow 4 = .ok (.aload_n 0, 1) ∧ decode cX9_toneNow 5 = .ok (.getfield 12, 3) ∧ decode cX9_toneNow 8 = .ok (.invokevirtual 212, 3) ∧ decode cX9_toneNow 11 = .ok (.iload_n 2, 1) ∧ decode cX9_toneNow 12 = .ok (.aload_n 1, 1) ∧ decode cX9_toneNow 13 = .ok (.aload_n 1, 1) ∧ decode cX9_toneNow 14 = .ok (.getfield 93, 3) ∧ decode cX9_toneNow 17 = .ok (.aload_n 1, 1) ∧ decode cX9_toneNow 18 = .ok (.getfield 96, 3) ∧ decode cX9_toneNow 21 = .ok (.aload_n 1, 1) ∧ decode cX9_toneNow 22 = .ok (.getfield 102, 3) ∧ decode cX9_toneNow 25 = .ok (.invokevirtual 216, 3) ∧ decode cX9_toneNow 28 = .ok (.ireturn, 1) ∧ True := dqC_ok (c := cX9_toneNow) [(0, 1, some (.aload_n 0)), (1, 3, some (.getfield 30)), (4, 1, some (.aload_n 0)), (5, 3, some (.getfield 12)), (8, 3, some (.invokevirtual 212)), (11, 1, some (.iload_n 2)), (12, 1, some (.aload_n 1)), (13, 1, some (.aload_n 1)), (14, 3, some (.getfield 93)), (17, 1, some (.aload_n 1)), (18, 3, some (.getfield 96)), (21, 1, some (.aload_n 1)), (22, 3, some (.getfield 102)), (25, 3, some (.invokevirtual 216)), (28, 1, some (.ireturn))] _ 0 rfl (by decide +kernel)
theorem dX9_toneNow_0 : decode cX9_toneNow 0 = .ok (.aload_n 0, 1) := dq_g212.1
theorem dX9_toneNow_1 : decode cX9_toneNow 1 = .ok (.getfield 30, 3) := dq_g212.2.1
theorem dX9_toneNow_4 : decode cX9_toneNow 4 = .ok (.aload_n 0, 1) := dq_g212.2.2.1
theorem dX9_toneNow_5 : decode cX9_toneNow 5 = .ok (.getfield 12, 3) := dq_g212.2.2.2.1
theorem dX9_toneNow_8 : decode cX9_toneNow 8 = .ok (.invokevirtual 212, 3) := dq_g212.2.2.2.2.1
theorem dX9_toneNow_11 : decode cX9_toneNow 11 = .ok (.iload_n 2, 1) := dq_g212.2.2.2.2.2.1
theorem dX9_toneNow_12 : decode cX9_toneNow 12 = .ok (.aload_n 1, 1) := dq_g212.2.2.2.2.2.2.1
theorem dX9_toneNow_13 : decode cX9_toneNow 13 = .ok (.aload_n 1, 1) := dq_g212.2.2.2.2.2.2.2.1
theorem dX9_toneNow_14 : decode cX9_toneNow 14 = .ok (.getfield 93, 3) := dq_g212.2.2.2.2.2.2.2.2.1
theorem dX9_toneNow_17 : decode cX9_toneNow 17 = .ok (.aload_n 1, 1) := dq_g212.2.2.2.2.2.2.2.2.2.1
theorem dX9_toneNow_18 : decode cX9_toneNow 18 = .ok (.getfield 96, 3) := dq_g212.2.2.2.2.2.2.2.2.2.2.1
theorem dX9_toneNow_21 : decode cX9_toneNow 21 = .ok (.aload_n 1, 1) := dq_g212.2.2.2.2.2.2.2.2.2.2.2.1
theorem dX9_toneNow_22 : decode cX9_toneNow 22 = .ok (.getfield 102, 3) := dq_g212.2.2.2.2.2.2.2.2.2.2.2.2.1
theorem dX9_toneNow_25 : decode cX9_toneNow 25 = .ok (.invokevirtual 216, 3) := dq_g212.2.2.2.2.2.2.2.2.2.2.2.2.2.1
theorem dX9_toneNow_28 : decode cX9_toneNow 28 = .ok (.ireturn, 1) := dq_g212.2.2.2.2.2.2.2.2.2.2.2.2.2.2.1
theorem dq_g213 : decode cX9_isLost 0 = .ok (.iconst 0, 1) ∧ decode cX9_isLost 1 = .ok (.istore_n 2, 1) ∧ decode cX9_isLost 2 = .ok (.iload_n 2, 1) ∧ decode cX9_isLost 3 = .ok (.iconst 3, 1) ∧ decode cX9_isLost 4 = .ok (.if_icmp .ge 65, 3) ∧ decode cX9_isLost 7 = .ok (.aload_n 1, 1) ∧ decode cX9_isLost 8 = .ok (.getfield 181, 3) ∧ decode cX9_isLost 11 = .ok (.iload_n 2, 1) ∧ decode cX9_isLost 12 = .ok (.iaload, 1) ∧ decode cX9_isLost 13 = .ok (.ifCond .eq 50, 3) ∧ decode cX9_isLost 16 = .ok (.aload_n 0, 1) ∧ decode cX9_isLost 17 = .ok (.getfield 30, 3) ∧ decode cX9_isLost 20 = .ok (.aload_n 0, 1) ∧ decode cX9_isLost 21 = .ok (.getfield 12, 3) ∧ decode cX9_isLost 24 = .ok (.invokevirtual 212, 3) ∧ decode cX9_isLost 27 = .ok (.iload_n 2, 1) ∧ decode cX9_isLost 28 = .ok (.aload_n 1, 1) ∧ decode cX9_isLost 29 = .ok (.aload_n 1, 1) ∧ decode cX9_isLost 30 = .ok (.getfield 93, 3) ∧ decode cX9_isLost 33 = .ok (.aload_n 1, 1) ∧ decode cX9_isLost 34 = .ok (.getfield 96, 3) ∧ decode cX9_isLost 37 = .ok (.aload_n 1, 1) ∧ decode cX9_isLost 38 = .ok (.getfield 102, 3) ∧ decode cX9_isLost 41 = .ok (.invokevirtual 216, 3) ∧ decode cX9_isLost 44 = .ok (.aload_n 1, 1) ∧ decode cX9_isLost 45 = .ok (.getfield 181, 3) ∧ decode cX9_isLost 48 = .ok (.iload_n 2, 1) ∧ decode cX9_isLost 49 = .ok (.iaload, 1) ∧ decode cX9_isLost 50 = .ok (.aload_n 0, 1) ∧ decode cX9_isLost 51 = .ok (.getfield 12, 3) ∧ True := dqC_ok (c := cX9_isLost) [(0, 1, some (.iconst 0)), (1, 1, some (.istore_n 2)), (2, 1, some (.iload_n 2)), (3, 1, some (.iconst 3)), (4, 3, some (.if_icmp .ge 65)), (7, 1, some (.aload_n 1)), (8, 3, some (.getfield 181)), (11, 1, some (.iload_n 2)), (12, 1, some (.iaload)), (13, 3, some (.ifCond .eq 50)), (16, 1, some (.aload_n 0)), (17, 3, some (.getfield 30)), (20, 1, some (.aload_n 0)), (21, 3, some (.getfield 12)), (24, 3, some (.invokevirtual 212)), (27, 1, some (.iload_n 2)), (28, 1, some (.aload_n 1)), (29, 1, some (.aload_n 1)), (30, 3, some (.getfield 93)), (33, 1, some (.aload_n 1)), (34, 3, some (.getfield 96)), (37, 1, some (.aload_n 1)), (38, 3, some (.getfield 102)), (41, 3, some (.invokevirtual 216)), (44, 1, some (.aload_n 1)), (45, 3, some (.getfield 181)), (48, 1, some (.iload_n 2)), (49, 1, some (.iaload)), (50, 1, some (.aload_n 0)), (51, 3, some (.getfield 12))] _ 0 rfl (by decide +kernel)
theorem dX9_isLost_0 : decode cX9_isLost 0 = .ok (.iconst 0, 1) := dq_g213.1
theorem dX9_isLost_1 : decode cX9_isLost 1 = .ok (.istore_n 2, 1) := dq_g213.2.1
theorem dX9_isLost_2 : decode cX9_isLost 2 = .ok (.iload_n 2, 1) := dq_g213.2.2.1
theorem dX9_isLost_3 : decode cX9_isLost 3 = .ok (.iconst 3, 1) := dq_g213.2.2.2.1
theorem dX9_isLost_4 : decode cX9_isLost 4 = .ok (.if_icmp .ge 65, 3) := dq_g213.2.2.2.2.1
theorem dX9_isLost_7 : decode cX9_isLost 7 = .ok (.aload_n 1, 1) := dq_g213.2.2.2.2.2.1
theorem dX9_isLost_8 : decode cX9_isLost 8 = .ok (.getfield 181, 3) := dq_g213.2.2.2.2.2.2.1
theorem dX9_isLost_11 : decode cX9_isLost 11 = .ok (.iload_n 2, 1) := dq_g213.2.2.2.2.2.2.2.1
theorem dX9_isLost_12 : decode cX9_isLost 12 = .ok (.iaload, 1) := dq_g213.2.2.2.2.2.2.2.2.1
theorem dX9_isLost_13 : decode cX9_isLost 13 = .ok (.ifCond .eq 50, 3) := dq_g213.2.2.2.2.2.2.2.2.2.1
theorem dX9_isLost_16 : decode cX9_isLost 16 = .ok (.aload_n 0, 1) := dq_g213.2.2.2.2.2.2.2.2.2.2.1
theorem dX9_isLost_17 : decode cX9_isLost 17 = .ok (.getfield 30, 3) := dq_g213.2.2.2.2.2.2.2.2.2.2.2.1
theorem dX9_isLost_20 : decode cX9_isLost 20 = .ok (.aload_n 0, 1) := dq_g213.2.2.2.2.2.2.2.2.2.2.2.2.1
theorem dX9_isLost_21 : decode cX9_isLost 21 = .ok (.getfield 12, 3) := dq_g213.2.2.2.2.2.2.2.2.2.2.2.2.2.1
theorem dX9_isLost_24 : decode cX9_isLost 24 = .ok (.invokevirtual 212, 3) := dq_g213.2.2.2.2.2.2.2.2.2.2.2.2.2.2.1
theorem dX9_isLost_27 : decode cX9_isLost 27 = .ok (.iload_n 2, 1) := dq_g213.2.2.2.2.2.2.2.2.2.2.2.2.2.2.2.1
theorem dX9_isLost_28 : decode cX9_isLost 28 = .ok (.aload_n 1, 1) := dq_g213.2.2.2.2.2.2.2.2.2.2.2.2.2.2.2.2.1
theorem dX9_isLost_29 : decode cX9_isLost 29 = .ok (.aload_n 1, 1) := dq_g213.2.2.2.2.2.2.2.2.2.2.2.2.2.2.2.2.2.1
theorem dX9_isLost_30 : decode cX9_isLost 30 = .ok (.getfield 93, 3) := dq_g213.2.2.2.2.2.2.2.2.2.2.2.2.2.2.2.2.2.2.1
theorem dX9_isLost_33 : decode cX9_isLost 33 = .ok (.aload_n 1, 1) := dq_g213.2.2.2.2.2.2.2.2.2.2.2.2.2.2.2.2.2.2.2.1
theorem dX9_isLost_34 : decode cX9_isLost 34 = .ok (.getfield 96, 3) := dq_g213.2.2.2.2.2.2.2.2.2.2.2.2.2.2.2.2.2.2.2.2.1
theorem dX9_isLost_37 : decode cX9_isLost 37 = .ok (.aload_n 1, 1) := dq_g213.2.2.2.2.2.2.2.2.2.2.2.2.2.2.2.2.2.2.2.2.2.1
theorem dX9_isLost_38 : decode cX9_isLost 38 = .ok (.getfield 102, 3) := dq_g213.2.2.2.2.2.2.2.2.2.2.2.2.2.2.2.2.2.2.2.2.2.2.1
theorem dX9_isLost_41 : decode cX9_isLost 41 = .ok (.invokevirtual 216, 3) := dq_g213.2.2.2.2.2.2.2.2.2.2.2.2.2.2.2.2.2.2.2.2.2.2.2.1
theorem dX9_isLost_44 : decode cX9_isLost 44 = .ok (.aload_n 1, 1) := dq_g213.2.2.2.2.2.2.2.2.2.2.2.2.2.2.2.2.2.2.2.2.2.2.2.2.1
theorem dX9_isLost_45 : decode cX9_isLost 45 = .ok (.getfield 181, 3) := dq_g213.2.2.2.2.2.2.2.2.2.2.2.2.2.2.2.2.2.2.2.2.2.2.2.2.2.1
theorem dX9_isLost_48 : decode cX9_isLost 48 = .ok (.iload_n 2, 1) := dq_g213.2.2.2.2.2.2.2.2.2.2.2.2.2.2.2.2.2.2.2.2.2.2.2.2.2.2.1
theorem dX9_isLost_49 : decode cX9_isLost 49 = .ok (.iaload, 1) := dq_g213.2.2.2.2.2.2.2.2.2.2.2.2.2.2.2.2.2.2.2.2.2.2.2.2.2.2.2.1
theorem dX9_isLost_50 : decode cX9_isLost 50 = .ok (.aload_n 0, 1) := dq_g213.2.2.2.2.2.2.2.2.2.2.2.2.2.2.2.2.2.2.2.2.2.2.2.2.2.2.2.2.1
theorem dX9_isLost_51 : decode cX9_isLost 51 = .ok (.getfield 12, 3) := dq_g213.2.2.2.2.2.2.2.2.2.2.2.2.2.2.2.2.2.2.2.2.2.2.2.2.2.2.2.2.2.1
theorem dq_g214 : decode cX9_isLost 54 = .ok (.getfield 184, 3) ∧ decode cX9_isLost 57 = .ok (.isub, 1) ∧ decode cX9_isLost 58 = .ok (.if_icmp .ge 5, 3) ∧ decode cX9_isLost 61 = .ok (.iconst 1, 1) ∧ decode cX9_isLost 62 = .ok (.ireturn, 1) ∧ decode cX9_isLost 63 = .ok (.iinc 2 1, 3) ∧ decode cX9_isLost 66 = .ok (.goto (-64), 3) ∧ decode cX9_isLost 69 = .ok (.iconst 0, 1) ∧ decode cX9_isLost 70 = .ok (.ireturn, 1) ∧ True := dqC_ok (c := cX9_isLost) [(54, 3, some (.getfield 184)), (57, 1, some (.isub)), (58, 3, some (.if_icmp .ge 5)), (61, 1, some (.iconst 1)), (62, 1, some (.ireturn)), (63, 3, some (.iinc 2 1)), (66, 3, some (.goto (-64))), (69, 1, some (.iconst 0)), (70, 1, some (.ireturn))] _ 54 rfl (by decide +kernel)
theorem dX9_isLost_54 : decode cX9_isLost 54 = .ok (.getfield 184, 3) := dq_g214.1
theorem dX9_isLost_57 : decode cX9_isLost 57 = .ok (.isub, 1) := dq_g214.2.1
theorem dX9_isLost_58 : decode cX9_isLost 58 = .ok (.if_icmp .ge 5, 3) := dq_g214.2.2.1
theorem dX9_isLost_61 : decode cX9_isLost 61 = .ok (.iconst 1, 1) := dq_g214.2.2.2.1
theorem dX9_isLost_62 : decode cX9_isLost 62 = .ok (.ireturn, 1) := dq_g214.2.2.2.2.1
theorem dX9_isLost_63 : decode cX9_isLost 63 = .ok (.iinc 2 1, 3) := dq_g214.2.2.2.2.2.1
theorem dX9_isLost_66 : decode cX9_isLost 66 = .ok (.goto (-64), 3) := dq_g214.2.2.2.2.2.2.1
theorem dX9_isLost_69 : decode cX9_isLost 69 = .ok (.iconst 0, 1) := dq_g214.2.2.2.2.2.2.2.1
theorem dX9_isLost_70 : decode cX9_isLost 70 = .ok (.ireturn, 1) := dq_g214.2.2.2.2.2.2.2.2.1
theorem dq_g215 : decode cX9_isTrue 0 = .ok (.iconst 0, 1) ∧ decode cX9_isTrue 1 = .ok (.istore_n 2, 1) ∧ decode cX9_isTrue 2 = .ok (.iload_n 2, 1) ∧ decode cX9_isTrue 3 = .ok (.iconst 3, 1) ∧ decode cX9_isTrue 4 = .ok (.if_icmp .ge 46, 3) ∧ decode cX9_isTrue 7 = .ok (.aload_n 1, 1) ∧ decode cX9_isTrue 8 = .ok (.getfield 181, 3) ∧ decode cX9_isTrue 11 = .ok (.iload_n 2, 1) ∧ decode cX9_isTrue 12 = .ok (.iaload, 1) ∧ decode cX9_isTrue 13 = .ok (.ifCond .eq 31, 3) ∧ decode cX9_isTrue 16 = .ok (.aload_n 0, 1) ∧ decode cX9_isTrue 17 = .ok (.aload_n 1, 1) ∧ decode cX9_isTrue 18 = .ok (.iload_n 2, 1) ∧ decode cX9_isTrue 19 = .ok (.invokevirtual 166, 3) ∧ decode cX9_isTrue 22 = .ok (.aload_n 1, 1) ∧ decode cX9_isTrue 23 = .ok (.getfield 181, 3) ∧ decode cX9_isTrue 26 = .ok (.iload_n 2, 1) ∧ decode cX9_isTrue 27 = .ok (.iaload, 1) ∧ decode cX9_isTrue 28 = .ok (.isub, 1) ∧ decode cX9_isTrue 29 = .ok (.invokestatic 362, 3) ∧ decode cX9_isTrue 32 = .ok (.aload_n 0, 1) ∧ decode cX9_isTrue 33 = .ok (.getfield 12, 3) ∧ decode cX9_isTrue 36 = .ok (.getfield 184, 3) ∧ decode cX9_isTrue 39 = .ok (.if_icmp .le 5, 3) ∧ decode cX9_isTrue 42 = .ok (.iconst 0, 1) ∧ decode cX9_isTrue 43 = .ok (.ireturn, 1) ∧ decode cX9_isTrue 44 = .ok (.iinc 2 1, 3) ∧ decode cX9_isTrue 47 = .ok (.goto (-45), 3) ∧ decode cX9_isTrue 50 = .ok (.iconst 1, 1) ∧ decode cX9_isTrue 51 = .ok (.ireturn, 1) ∧ True := dqC_ok (c := cX9_isTrue) [(0, 1, some (.iconst 0)), (1, 1, some (.istore_n 2)), (2, 1, some (.iload_n 2)), (3, 1, some (.iconst 3)), (4, 3, some (.if_icmp .ge 46)), (7, 1, some (.aload_n 1)), (8, 3, some (.getfield 181)), (11, 1, some (.iload_n 2)), (12, 1, some (.iaload)), (13, 3, some (.ifCond .eq 31)), (16, 1, some (.aload_n 0)), (17, 1, some (.aload_n 1)), (18, 1, some (.iload_n 2)), (19, 3, some (.invokevirtual 166)), (22, 1, some (.aload_n 1)), (23, 3, some (.getfield 181)), (26, 1, some (.iload_n 2)), (27, 1, some (.iaload)), (28, 1, some (.isub)), (29, 3, some (.invokestatic 362)), (32, 1, some (.aload_n 0)), (33, 3, some (.getfield 12)), (36, 3, some (.getfield 184)), (39, 3, some (.if_icmp .le 5)), (42, 1, some (.iconst 0)), (43, 1, some (.ireturn)), (44, 3, some (.iinc 2 1)), (47, 3, some (.goto (-45))), (50, 1, some (.iconst 1)), (51, 1, some (.ireturn))] _ 0 rfl (by decide +kernel)
theorem dX9_isTrue_0 : decode cX9_isTrue 0 = .ok (.iconst 0, 1) := dq_g215.1
theorem dX9_isTrue_1 : decode cX9_isTrue 1 = .ok (.istore_n 2, 1) := dq_g215.2.1
theorem dX9_isTrue_2 : decode cX9_isTrue 2 = .ok (.iload_n 2, 1) := dq_g215.2.2.1
theorem dX9_isTrue_3 : decode cX9_isTrue 3 = .ok (.iconst 3, 1) := dq_g215.2.2.2.1
theorem dX9_isTrue_4 : decode cX9_isTrue 4 = .ok (.if_icmp .ge 46, 3) := dq_g215.2.2.2.2.1
theorem dX9_isTrue_7 : decode cX9_isTrue 7 = .ok (.aload_n 1, 1) := dq_g215.2.2.2.2.2.1
theorem dX9_isTrue_8 : decode cX9_isTrue 8 = .ok (.getfield 181, 3) := dq_g215.2.2.2.2.2.2.1
theorem dX9_isTrue_11 : decode cX9_isTrue 11 = .ok (.iload_n 2, 1) := dq_g215.2.2.2.2.2.2.2.1
theorem dX9_isTrue_12 : decode cX9_isTrue 12 = .ok (.iaload, 1) := dq_g215.2.2.2.2.2.2.2.2.1
theorem dX9_isTrue_13 : decode cX9_isTrue 13 = .ok (.ifCond .eq 31, 3) := dq_g215.2.2.2.2.2.2.2.2.2.1
theorem dX9_isTrue_16 : decode cX9_isTrue 16 = .ok (.aload_n 0, 1) := dq_g215.2.2.2.2.2.2.2.2.2.2.1
theorem dX9_isTrue_17 : decode cX9_isTrue 17 = .ok (.aload_n 1, 1) := dq_g215.2.2.2.2.2.2.2.2.2.2.2.1
theorem dX9_isTrue_18 : decode cX9_isTrue 18 = .ok (.iload_n 2, 1) := dq_g215.2.2.2.2.2.2.2.2.2.2.2.2.1
theorem dX9_isTrue_19 : decode cX9_isTrue 19 = .ok (.invokevirtual 166, 3) := dq_g215.2.2.2.2.2.2.2.2.2.2.2.2.2.1
theorem dX9_isTrue_22 : decode cX9_isTrue 22 = .ok (.aload_n 1, 1) := dq_g215.2.2.2.2.2.2.2.2.2.2.2.2.2.2.1
theorem dX9_isTrue_23 : decode cX9_isTrue 23 = .ok (.getfield 181, 3) := dq_g215.2.2.2.2.2.2.2.2.2.2.2.2.2.2.2.1
theorem dX9_isTrue_26 : decode cX9_isTrue 26 = .ok (.iload_n 2, 1) := dq_g215.2.2.2.2.2.2.2.2.2.2.2.2.2.2.2.2.1
theorem dX9_isTrue_27 : decode cX9_isTrue 27 = .ok (.iaload, 1) := dq_g215.2.2.2.2.2.2.2.2.2.2.2.2.2.2.2.2.2.1
theorem dX9_isTrue_28 : decode cX9_isTrue 28 = .ok (.isub, 1) := dq_g215.2.2.2.2.2.2.2.2.2.2.2.2.2.2.2.2.2.2.1
theorem dX9_isTrue_29 : decode cX9_isTrue 29 = .ok (.invokestatic 362, 3) := dq_g215.2.2.2.2.2.2.2.2.2.2.2.2.2.2.2.2.2.2.2.1
theorem dX9_isTrue_32 : decode cX9_isTrue 32 = .ok (.aload_n 0, 1) := dq_g215.2.2.2.2.2.2.2.2.2.2.2.2.2.2.2.2.2.2.2.2.1
theorem dX9_isTrue_33 : decode cX9_isTrue 33 = .ok (.getfield 12, 3) := dq_g215.2.2.2.2.2.2.2.2.2.2.2.2.2.2.2.2.2.2.2.2.2.1
theorem dX9_isTrue_36 : decode cX9_isTrue 36 = .ok (.getfield 184, 3) := dq_g215.2.2.2.2.2.2.2.2.2.2.2.2.2.2.2.2.2.2.2.2.2.2.1
theorem dX9_isTrue_39 : decode cX9_isTrue 39 = .ok (.if_icmp .le 5, 3) := dq_g215.2.2.2.2.2.2.2.2.2.2.2.2.2.2.2.2.2.2.2.2.2.2.2.1
theorem dX9_isTrue_42 : decode cX9_isTrue 42 = .ok (.iconst 0, 1) := dq_g215.2.2.2.2.2.2.2.2.2.2.2.2.2.2.2.2.2.2.2.2.2.2.2.2.1
theorem dX9_isTrue_43 : decode cX9_isTrue 43 = .ok (.ireturn, 1) := dq_g215.2.2.2.2.2.2.2.2.2.2.2.2.2.2.2.2.2.2.2.2.2.2.2.2.2.1
theorem dX9_isTrue_44 : decode cX9_isTrue 44 = .ok (.iinc 2 1, 3) := dq_g215.2.2.2.2.2.2.2.2.2.2.2.2.2.2.2.2.2.2.2.2.2.2.2.2.2.2.1
theorem dX9_isTrue_47 : decode cX9_isTrue 47 = .ok (.goto (-45), 3) := dq_g215.2.2.2.2.2.2.2.2.2.2.2.2.2.2.2.2.2.2.2.2.2.2.2.2.2.2.2.1
theorem dX9_isTrue_50 : decode cX9_isTrue 50 = .ok (.iconst 1, 1) := dq_g215.2.2.2.2.2.2.2.2.2.2.2.2.2.2.2.2.2.2.2.2.2.2.2.2.2.2.2.2.1
theorem dX9_isTrue_51 : decode cX9_isTrue 51 = .ok (.ireturn, 1) := dq_g215.2.2.2.2.2.2.2.2.2.2.2.2.2.2.2.2.2.2.2.2.2.2.2.2.2.2.2.2.2.1
theorem dq_g216 : decode cX9_countLost 0 = .ok (.iconst 0, 1) ∧ decode cX9_countLost 1 = .ok (.istore_n 1, 1) ∧ decode cX9_countLost 2 = .ok (.iconst 0, 1) ∧ decode cX9_countLost 3 = .ok (.istore_n 2, 1) ∧ decode cX9_countLost 4 = .ok (.iload_n 2, 1) ∧ decode cX9_countLost 5 = .ok (.aload_n 0, 1) ∧ decode cX9_countLost 6 = .ok (.getfield 12, 3) ∧ decode cX9_countLost 9 = .ok (.getfield 64, 3) ∧ decode cX9_countLost 12 = .ok (.if_icmp .ge 33, 3) ∧ decode cX9_countLost 15 = .ok (.iload_n 1, 1) ∧ decode cX9_countLost 16 = .ok (.aload_n 0, 1) ∧ decode cX9_countLost 17 = .ok (.aload_n 0, 1) ∧ decode cX9_countLost 18 = .ok (.getfield 12, 3) ∧ decode cX9_countLost 21 = .ok (.getfield 68, 3) ∧ decode cX9_countLost 24 = .ok (.iload_n 2, 1) ∧ decode cX9_countLost 25 = .ok (.aaload, 1) ∧ decode cX9_countLost 26 = .ok (.invokevirtual 190, 3) ∧ decode cX9_countLost 29 = .ok (.ifCond .eq 7, 3) ∧ decode cX9_countLost 32 = .ok (.iconst 1, 1) ∧ decode cX9_countLost 33 = .ok (.goto 4, 3) ∧ decode cX9_countLost 36 = .ok (.iconst 0, 1) ∧ decode cX9_countLost 37 = .ok (.iadd, 1) ∧ decode cX9_countLost 38 = .ok (.istore_n 1, 1) ∧ decode cX9_countLost 39 = .ok (.iinc 2 1, 3) ∧ decode cX9_countLost 42 = .ok (.goto (-38), 3) ∧ decode cX9_countLost 45 = .ok (.iload_n 1, 1) ∧ decode cX9_countLost 46 = .ok (.ireturn, 1) ∧ True := dqC_ok (c := cX9_countLost) [(0, 1, some (.iconst 0)), (1, 1, some (.istore_n 1)), (2, 1, some (.iconst 0)), (3, 1, some (.istore_n 2)), (4, 1, some (.iload_n 2)), (5, 1, some (.aload_n 0)), (6, 3, some (.getfield 12)), (9, 3, some (.getfield 64)), (12, 3, some (.if_icmp .ge 33)), (15, 1, some (.iload_n 1)), (16, 1, some (.aload_n 0)), (17, 1, some (.aload_n 0)), (18, 3, some (.getfield 12)), (21, 3, some (.getfield 68)), (24, 1, some (.iload_n 2)), (25, 1, some (.aaload)), (26, 3, some (.invokevirtual 190)), (29, 3, some (.ifCond .eq 7)), (32, 1, some (.iconst 1)), (33, 3, some (.goto 4)), (36, 1, some (.iconst 0)), (37, 1, some (.iadd)), (38, 1, some (.istore_n 1)), (39, 3, some (.iinc 2 1)), (42, 3, some (.goto (-38))), (45, 1, some (.iload_n 1)), (46, 1, some (.ireturn))] _ 0 rfl (by decide +kernel)
theorem dX9_countLost_0 : decode cX9_countLost 0 = .ok (.iconst 0, 1) := dq_g216.1
theorem dX9_countLost_1 : decode cX9_countLost 1 = .ok (.istore_n 1, 1) := dq_g216.2.1
theorem dX9_countLost_2 : decode cX9_countLost 2 = .ok (.iconst 0, 1) := dq_g216.2.2.1
theorem dX9_countLost_3 : decode cX9_countLost 3 = .ok (.istore_n 2, 1) := dq_g216.2.2.2.1
theorem dX9_countLost_4 : decode cX9_countLost 4 = .ok (.iload_n 2, 1) := dq_g216.2.2.2.2.1
theorem dX9_countLost_5 : decode cX9_countLost 5 = .ok (.aload_n 0, 1) := dq_g216.2.2.2.2.2.1
theorem dX9_countLost_6 : decode cX9_countLost 6 = .ok (.getfield 12, 3) := dq_g216.2.2.2.2.2.2.1
theorem dX9_countLost_9 : decode cX9_countLost 9 = .ok (.getfield 64, 3) := dq_g216.2.2.2.2.2.2.2.1
theorem dX9_countLost_12 : decode cX9_countLost 12 = .ok (.if_icmp .ge 33, 3) := dq_g216.2.2.2.2.2.2.2.2.1
theorem dX9_countLost_15 : decode cX9_countLost 15 = .ok (.iload_n 1, 1) := dq_g216.2.2.2.2.2.2.2.2.2.1
theorem dX9_countLost_16 : decode cX9_countLost 16 = .ok (.aload_n 0, 1) := dq_g216.2.2.2.2.2.2.2.2.2.2.1
theorem dX9_countLost_17 : decode cX9_countLost 17 = .ok (.aload_n 0, 1) := dq_g216.2.2.2.2.2.2.2.2.2.2.2.1
theorem dX9_countLost_18 : decode cX9_countLost 18 = .ok (.getfield 12, 3) := dq_g216.2.2.2.2.2.2.2.2.2.2.2.2.1
theorem dX9_countLost_21 : decode cX9_countLost 21 = .ok (.getfield 68, 3) := dq_g216.2.2.2.2.2.2.2.2.2.2.2.2.2.1
theorem dX9_countLost_24 : decode cX9_countLost 24 = .ok (.iload_n 2, 1) := dq_g216.2.2.2.2.2.2.2.2.2.2.2.2.2.2.1
theorem dX9_countLost_25 : decode cX9_countLost 25 = .ok (.aaload, 1) := dq_g216.2.2.2.2.2.2.2.2.2.2.2.2.2.2.2.1
theorem dX9_countLost_26 : decode cX9_countLost 26 = .ok (.invokevirtual 190, 3) := dq_g216.2.2.2.2.2.2.2.2.2.2.2.2.2.2.2.2.1
theorem dX9_countLost_29 : decode cX9_countLost 29 = .ok (.ifCond .eq 7, 3) := dq_g216.2.2.2.2.2.2.2.2.2.2.2.2.2.2.2.2.2.1
theorem dX9_countLost_32 : decode cX9_countLost 32 = .ok (.iconst 1, 1) := dq_g216.2.2.2.2.2.2.2.2.2.2.2.2.2.2.2.2.2.2.1
theorem dX9_countLost_33 : decode cX9_countLost 33 = .ok (.goto 4, 3) := dq_g216.2.2.2.2.2.2.2.2.2.2.2.2.2.2.2.2.2.2.2.1
theorem dX9_countLost_36 : decode cX9_countLost 36 = .ok (.iconst 0, 1) := dq_g216.2.2.2.2.2.2.2.2.2.2.2.2.2.2.2.2.2.2.2.2.1
theorem dX9_countLost_37 : decode cX9_countLost 37 = .ok (.iadd, 1) := dq_g216.2.2.2.2.2.2.2.2.2.2.2.2.2.2.2.2.2.2.2.2.2.1
theorem dX9_countLost_38 : decode cX9_countLost 38 = .ok (.istore_n 1, 1) := dq_g216.2.2.2.2.2.2.2.2.2.2.2.2.2.2.2.2.2.2.2.2.2.2.1
theorem dX9_countLost_39 : decode cX9_countLost 39 = .ok (.iinc 2 1, 3) := dq_g216.2.2.2.2.2.2.2.2.2.2.2.2.2.2.2.2.2.2.2.2.2.2.2.1
theorem dX9_countLost_42 : decode cX9_countLost 42 = .ok (.goto (-38), 3) := dq_g216.2.2.2.2.2.2.2.2.2.2.2.2.2.2.2.2.2.2.2.2.2.2.2.2.1
theorem dX9_countLost_45 : decode cX9_countLost 45 = .ok (.iload_n 1, 1) := dq_g216.2.2.2.2.2.2.2.2.2.2.2.2.2.2.2.2.2.2.2.2.2.2.2.2.2.1
theorem dX9_countLost_46 : decode cX9_countLost 46 = .ok (.ireturn, 1) := dq_g216.2.2.2.2.2.2.2.2.2.2.2.2.2.2.2.2.2.2.2.2.2.2.2.2.2.2.1
theorem dq_g217 : decode cX9_countTrue 0 = .ok (.iconst 0, 1) ∧ decode cX9_countTrue 1 = .ok (.istore_n 1, 1) ∧ decode cX9_countTrue 2 = .ok (.iconst 0, 1) ∧ decode cX9_countTrue 3 = .ok (.istore_n 2, 1) ∧ decode cX9_countTrue 4 = .ok (.iload_n 2, 1) ∧ decode cX9_countTrue 5 = .ok (.aload_n 0, 1) ∧ decode cX9_countTrue 6 = .ok (.getfield 12, 3) ∧ decode cX9_countTrue 9 = .ok (.getfield 64, 3) ∧ decode cX9_countTrue 12 = .ok (.if_icmp .ge 33, 3) ∧ decode cX9_countTrue 15 = .ok (.iload_n 1, 1) ∧ decode cX9_countTrue 16 = .ok (.aload_n 0, 1) ∧ decode cX9_countTrue 17 = .ok (.aload_n 0, 1) ∧ decode cX9_countTrue 18 = .ok (.getfield 12, 3) ∧ decode cX9_countTrue 21 = .ok (.getfield 68, 3) ∧ decode cX9_countTrue 24 = .ok (.iload_n 2, 1) ∧ decode cX9_countTrue 25 = .ok (.aaload, 1) ∧ decode cX9_countTrue 26 = .ok (.invokevirtual 194, 3) ∧ decode cX9_countTrue 29 = .ok (.ifCond .eq 7, 3) ∧ decode cX9_countTrue 32 = .ok (.iconst 1, 1) ∧ decode cX9_countTrue 33 = .ok (.goto 4, 3) ∧ decode cX9_countTrue 36 = .ok (.iconst 0, 1) ∧ decode cX9_countTrue 37 = .ok (.iadd, 1) ∧ decode cX9_countTrue 38 = .ok (.istore_n 1, 1) ∧ decode cX9_countTrue 39 = .ok (.iinc 2 1, 3) ∧ decode cX9_countTrue 42 = .ok (.goto (-38), 3) ∧ decode cX9_countTrue 45 = .ok (.iload_n 1, 1) ∧ decode cX9_countTrue 46 = .ok (.ireturn, 1) ∧ True := dqC_ok (c := cX9_countTrue) [(0, 1, some (.iconst 0)), (1, 1, some (.istore_n 1)), (2, 1, some (.iconst 0)), (3, 1, some (.istore_n 2)), (4, 1, some (.iload_n 2)), (5, 1, some (.aload_n 0)), (6, 3, some (.getfield 12)), (9, 3, some (.getfield 64)), (12, 3, some (.if_icmp .ge 33)), (15, 1, some (.iload_n 1)), (16, 1, some (.aload_n 0)), (17, 1, some (.aload_n 0)), (18, 3, some (.getfield 12)), (21, 3, some (.getfield 68)), (24, 1, some (.iload_n 2)), (25, 1, some (.aaload)), (26, 3, some (.invokevirtual 194)), (29, 3, some (.ifCond .eq 7)), (32, 1, some (.iconst 1)), (33, 3, some (.goto 4)), (36, 1, some (.iconst 0)), (37, 1, some (.iadd)), (38, 1, some (.istore_n 1)), (39, 3, some (.iinc 2 1)), (42, 3, some (.goto (-38))), (45, 1, some (.iload_n 1)), (46, 1, some (.ireturn))] _ 0 rfl (by decide +kernel)
theorem dX9_countTrue_0 : decode cX9_countTrue 0 = .ok (.iconst 0, 1) := dq_g217.1
theorem dX9_countTrue_1 : decode cX9_countTrue 1 = .ok (.istore_n 1, 1) := dq_g217.2.1
theorem dX9_countTrue_2 : decode cX9_countTrue 2 = .ok (.iconst 0, 1) := dq_g217.2.2.1
theorem dX9_countTrue_3 : decode cX9_countTrue 3 = .ok (.istore_n 2, 1) := dq_g217.2.2.2.1
theorem dX9_countTrue_4 : decode cX9_countTrue 4 = .ok (.iload_n 2, 1) := dq_g217.2.2.2.2.1
theorem dX9_countTrue_5 : decode cX9_countTrue 5 = .ok (.aload_n 0, 1) := dq_g217.2.2.2.2.2.1
theorem dX9_countTrue_6 : decode cX9_countTrue 6 = .ok (.getfield 12, 3) := dq_g217.2.2.2.2.2.2.1
theorem dX9_countTrue_9 : decode cX9_countTrue 9 = .ok (.getfield 64, 3) := dq_g217.2.2.2.2.2.2.2.1
theorem dX9_countTrue_12 : decode cX9_countTrue 12 = .ok (.if_icmp .ge 33, 3) := dq_g217.2.2.2.2.2.2.2.2.1
theorem dX9_countTrue_15 : decode cX9_countTrue 15 = .ok (.iload_n 1, 1) := dq_g217.2.2.2.2.2.2.2.2.2.1
theorem dX9_countTrue_16 : decode cX9_countTrue 16 = .ok (.aload_n 0, 1) := dq_g217.2.2.2.2.2.2.2.2.2.2.1
theorem dX9_countTrue_17 : decode cX9_countTrue 17 = .ok (.aload_n 0, 1) := dq_g217.2.2.2.2.2.2.2.2.2.2.2.1
theorem dX9_countTrue_18 : decode cX9_countTrue 18 = .ok (.getfield 12, 3) := dq_g217.2.2.2.2.2.2.2.2.2.2.2.2.1
theorem dX9_countTrue_21 : decode cX9_countTrue 21 = .ok (.getfield 68, 3) := dq_g217.2.2.2.2.2.2.2.2.2.2.2.2.2.1
theorem dX9_countTrue_24 : decode cX9_countTrue 24 = .ok (.iload_n 2, 1) := dq_g217.2.2.2.2.2.2.2.2.2.2.2.2.2.2.1
theorem dX9_countTrue_25 : decode cX9_countTrue 25 = .ok (.aaload, 1) := dq_g217.2.2.2.2.2.2.2.2.2.2.2.2.2.2.2.1
theorem dX9_countTrue_26 : decode cX9_countTrue 26 = .ok (.invokevirtual 194, 3) := dq_g217.2.2.2.2.2.2.2.2.2.2.2.2.2.2.2.2.1
theorem dX9_countTrue_29 : decode cX9_countTrue 29 = .ok (.ifCond .eq 7, 3) := dq_g217.2.2.2.2.2.2.2.2.2.2.2.2.2.2.2.2.2.1
theorem dX9_countTrue_32 : decode cX9_countTrue 32 = .ok (.iconst 1, 1) := dq_g217.2.2.2.2.2.2.2.2.2.2.2.2.2.2.2.2.2.2.1
theorem dX9_countTrue_33 : decode cX9_countTrue 33 = .ok (.goto 4, 3) := dq_g217.2.2.2.2.2.2.2.2.2.2.2.2.2.2.2.2.2.2.2.1
theorem dX9_countTrue_36 : decode cX9_countTrue 36 = .ok (.iconst 0, 1) := dq_g217.2.2.2.2.2.2.2.2.2.2.2.2.2.2.2.2.2.2.2.2.1
theorem dX9_countTrue_37 : decode cX9_countTrue 37 = .ok (.iadd, 1) := dq_g217.2.2.2.2.2.2.2.2.2.2.2.2.2.2.2.2.2.2.2.2.2.1
theorem dX9_countTrue_38 : decode cX9_countTrue 38 = .ok (.istore_n 1, 1) := dq_g217.2.2.2.2.2.2.2.2.2.2.2.2.2.2.2.2.2.2.2.2.2.2.1
theorem dX9_countTrue_39 : decode cX9_countTrue 39 = .ok (.iinc 2 1, 3) := dq_g217.2.2.2.2.2.2.2.2.2.2.2.2.2.2.2.2.2.2.2.2.2.2.2.1
theorem dX9_countTrue_42 : decode cX9_countTrue 42 = .ok (.goto (-38), 3) := dq_g217.2.2.2.2.2.2.2.2.2.2.2.2.2.2.2.2.2.2.2.2.2.2.2.2.1
theorem dX9_countTrue_45 : decode cX9_countTrue 45 = .ok (.iload_n 1, 1) := dq_g217.2.2.2.2.2.2.2.2.2.2.2.2.2.2.2.2.2.2.2.2.2.2.2.2.2.1
theorem dX9_countTrue_46 : decode cX9_countTrue 46 = .ok (.ireturn, 1) := dq_g217.2.2.2.2.2.2.2.2.2.2.2.2.2.2.2.2.2.2.2.2.2.2.2.2.2.2.1
theorem dq_g218 : decode cX9_takeOff 0 = .ok (.aload_n 1, 1) ∧ decode cX9_takeOff 1 = .ok (.iload_n 2, 1) ∧ decode cX9_takeOff 2 = .ok (.invokevirtual 82, 3) ∧ decode cX9_takeOff 5 = .ok (.ifCond .eq 33, 3) ∧ decode cX9_takeOff 8 = .ok (.iload_n 3, 1) ∧ decode cX9_takeOff 9 = .ok (.iconst 1, 1) ∧ decode cX9_takeOff 10 = .ok (.bipush 9, 2) ∧ decode cX9_takeOff 12 = .ok (.invokestatic 89, 3) ∧ decode cX9_takeOff 15 = .ok (.ifCond .eq 23, 3) ∧ decode cX9_takeOff 18 = .ok (.aload_n 1, 1) ∧ decode cX9_takeOff 19 = .ok (.getfield 93, 3) ∧ decode cX9_takeOff 22 = .ok (.iload_n 2, 1) ∧ decode cX9_takeOff 23 = .ok (.iaload, 1) ∧ decode cX9_takeOff 24 = .ok (.iload_n 3, 1) ∧ decode cX9_takeOff 25 = .ok (.if_icmp .le 13, 3) ∧ decode cX9_takeOff 28 = .ok (.aload_n 1, 1) ∧ decode cX9_takeOff 29 = .ok (.getfield 86, 3) ∧ decode cX9_takeOff 32 = .ok (.sipush 200, 3) ∧ decode cX9_takeOff 35 = .ok (.if_icmp .lt 5, 3) ∧ decode cX9_takeOff 38 = .ok (.iconst (-1), 1) ∧ decode cX9_takeOff 39 = .ok (.ireturn, 1) ∧ decode cX9_takeOff 40 = .ok (.aload_n 1, 1) ∧ decode cX9_takeOff 41 = .ok (.getfield 93, 3) ∧ decode cX9_takeOff 44 = .ok (.iload_n 2, 1) ∧ decode cX9_takeOff 45 = .ok (.dup2, 1) ∧ decode cX9_takeOff 46 = .ok (.iaload, 1) ∧ decode cX9_takeOff 47 = .ok (.iload_n 3, 1) ∧ decode cX9_takeOff 48 = .ok (.isub, 1) ∧ decode cX9_takeOff 49 = .ok (.iastore, 1) ∧ decode cX9_takeOff 50 = .ok (.aload_n 1, 1) ∧ True := dqC_ok (c := cX9_takeOff) [(0, 1, some (.aload_n 1)), (1, 1, some (.iload_n 2)), (2, 3, some (.invokevirtual 82)), (5, 3, some (.ifCond .eq 33)), (8, 1, some (.iload_n 3)), (9, 1, some (.iconst 1)), (10, 2, some (.bipush 9)), (12, 3, some (.invokestatic 89)), (15, 3, some (.ifCond .eq 23)), (18, 1, some (.aload_n 1)), (19, 3, some (.getfield 93)), (22, 1, some (.iload_n 2)), (23, 1, some (.iaload)), (24, 1, some (.iload_n 3)), (25, 3, some (.if_icmp .le 13)), (28, 1, some (.aload_n 1)), (29, 3, some (.getfield 86)), (32, 3, some (.sipush 200)), (35, 3, some (.if_icmp .lt 5)), (38, 1, some (.iconst (-1))), (39, 1, some (.ireturn)), (40, 1, some (.aload_n 1)), (41, 3, some (.getfield 93)), (44, 1, some (.iload_n 2)), (45, 1, some (.dup2)), (46, 1, some (.iaload)), (47, 1, some (.iload_n 3)), (48, 1, some (.isub)), (49, 1, some (.iastore)), (50, 1, some (.aload_n 1))] _ 0 rfl (by decide +kernel)
theorem dX9_takeOff_0 : decode cX9_takeOff 0 = .ok (.aload_n 1, 1) := dq_g218.1
theorem dX9_takeOff_1 : decode cX9_takeOff 1 = .ok (.iload_n 2, 1) := dq_g218.2.1
theorem dX9_takeOff_2 : decode cX9_takeOff 2 = .ok (.invokevirtual 82, 3) := dq_g218.2.2.1
theorem dX9_takeOff_5 : decode cX9_takeOff 5 = .ok (.ifCond .eq 33, 3) := dq_g218.2.2.2.1
theorem dX9_takeOff_8 : decode cX9_takeOff 8 = .ok (.iload_n 3, 1) := dq_g218.2.2.2.2.1
theorem dX9_takeOff_9 : decode cX9_takeOff 9 = .ok (.iconst 1, 1) := dq_g218.2.2.2.2.2.1
theorem dX9_takeOff_10 : decode cX9_takeOff 10 = .ok (.bipush 9, 2) := dq_g218.2.2.2.2.2.2.1
theorem dX9_takeOff_12 : decode cX9_takeOff 12 = .ok (.invokestatic 89, 3) := dq_g218.2.2.2.2.2.2.2.1
theorem dX9_takeOff_15 : decode cX9_takeOff 15 = .ok (.ifCond .eq 23, 3) := dq_g218.2.2.2.2.2.2.2.2.1
theorem dX9_takeOff_18 : decode cX9_takeOff 18 = .ok (.aload_n 1, 1) := dq_g218.2.2.2.2.2.2.2.2.2.1
theorem dX9_takeOff_19 : decode cX9_takeOff 19 = .ok (.getfield 93, 3) := dq_g218.2.2.2.2.2.2.2.2.2.2.1
theorem dX9_takeOff_22 : decode cX9_takeOff 22 = .ok (.iload_n 2, 1) := dq_g218.2.2.2.2.2.2.2.2.2.2.2.1
theorem dX9_takeOff_23 : decode cX9_takeOff 23 = .ok (.iaload, 1) := dq_g218.2.2.2.2.2.2.2.2.2.2.2.2.1
theorem dX9_takeOff_24 : decode cX9_takeOff 24 = .ok (.iload_n 3, 1) := dq_g218.2.2.2.2.2.2.2.2.2.2.2.2.2.1
theorem dX9_takeOff_25 : decode cX9_takeOff 25 = .ok (.if_icmp .le 13, 3) := dq_g218.2.2.2.2.2.2.2.2.2.2.2.2.2.2.1
theorem dX9_takeOff_28 : decode cX9_takeOff 28 = .ok (.aload_n 1, 1) := dq_g218.2.2.2.2.2.2.2.2.2.2.2.2.2.2.2.1
theorem dX9_takeOff_29 : decode cX9_takeOff 29 = .ok (.getfield 86, 3) := dq_g218.2.2.2.2.2.2.2.2.2.2.2.2.2.2.2.2.1
theorem dX9_takeOff_32 : decode cX9_takeOff 32 = .ok (.sipush 200, 3) := dq_g218.2.2.2.2.2.2.2.2.2.2.2.2.2.2.2.2.2.1
theorem dX9_takeOff_35 : decode cX9_takeOff 35 = .ok (.if_icmp .lt 5, 3) := dq_g218.2.2.2.2.2.2.2.2.2.2.2.2.2.2.2.2.2.2.1
theorem dX9_takeOff_38 : decode cX9_takeOff 38 = .ok (.iconst (-1), 1) := dq_g218.2.2.2.2.2.2.2.2.2.2.2.2.2.2.2.2.2.2.2.1
theorem dX9_takeOff_39 : decode cX9_takeOff 39 = .ok (.ireturn, 1) := dq_g218.2.2.2.2.2.2.2.2.2.2.2.2.2.2.2.2.2.2.2.2.1
theorem dX9_takeOff_40 : decode cX9_takeOff 40 = .ok (.aload_n 1, 1) := dq_g218.2.2.2.2.2.2.2.2.2.2.2.2.2.2.2.2.2.2.2.2.2.1
theorem dX9_takeOff_41 : decode cX9_takeOff 41 = .ok (.getfield 93, 3) := dq_g218.2.2.2.2.2.2.2.2.2.2.2.2.2.2.2.2.2.2.2.2.2.2.1
theorem dX9_takeOff_44 : decode cX9_takeOff 44 = .ok (.iload_n 2, 1) := dq_g218.2.2.2.2.2.2.2.2.2.2.2.2.2.2.2.2.2.2.2.2.2.2.2.1
theorem dX9_takeOff_45 : decode cX9_takeOff 45 = .ok (.dup2, 1) := dq_g218.2.2.2.2.2.2.2.2.2.2.2.2.2.2.2.2.2.2.2.2.2.2.2.2.1
theorem dX9_takeOff_46 : decode cX9_takeOff 46 = .ok (.iaload, 1) := dq_g218.2.2.2.2.2.2.2.2.2.2.2.2.2.2.2.2.2.2.2.2.2.2.2.2.2.1
theorem dX9_takeOff_47 : decode cX9_takeOff 47 = .ok (.iload_n 3, 1) := dq_g218.2.2.2.2.2.2.2.2.2.2.2.2.2.2.2.2.2.2.2.2.2.2.2.2.2.2.1
theorem dX9_takeOff_48 : decode cX9_takeOff 48 = .ok (.isub, 1) := dq_g218.2.2.2.2.2.2.2.2.2.2.2.2.2.2.2.2.2.2.2.2.2.2.2.2.2.2.2.1
theorem dX9_takeOff_49 : decode cX9_takeOff 49 = .ok (.iastore, 1) := dq_g218.2.2.2.2.2.2.2.2.2.2.2.2.2.2.2.2.2.2.2.2.2.2.2.2.2.2.2.2.1
theorem dX9_takeOff_50 : decode cX9_takeOff 50 = .ok (.aload_n 1, 1) := dq_g218.2.2.2.2.2.2.2.2.2.2.2.2.2.2.2.2.2.2.2.2.2.2.2.2.2.2.2.2.2.1
theorem dq_g219 : decode cX9_takeOff 51 = .ok (.getfield 174, 3) ∧ decode cX9_takeOff 54 = .ok (.aload_n 1, 1) ∧ decode cX9_takeOff 55 = .ok (.getfield 86, 3) ∧ decode cX9_takeOff 58 = .ok (.iload_n 2, 1) ∧ decode cX9_takeOff 59 = .ok (.iastore, 1) ∧ decode cX9_takeOff 60 = .ok (.aload_n 1, 1) ∧ decode cX9_takeOff 61 = .ok (.getfield 177, 3) ∧ decode cX9_takeOff 64 = .ok (.aload_n 1, 1) ∧ decode cX9_takeOff 65 = .ok (.getfield 86, 3) ∧ decode cX9_takeOff 68 = .ok (.iload_n 3, 1) ∧ decode cX9_takeOff 69 = .ok (.iastore, 1) ∧ decode cX9_takeOff 70 = .ok (.aload_n 1, 1) ∧ decode cX9_takeOff 71 = .ok (.dup, 1) ∧ decode cX9_takeOff 72 = .ok (.getfield 86, 3) ∧ decode cX9_takeOff 75 = .ok (.iconst 1, 1) ∧ decode cX9_takeOff 76 = .ok (.iadd, 1) ∧ decode cX9_takeOff 77 = .ok (.putfield 86, 3) ∧ decode cX9_takeOff 80 = .ok (.aload_n 1, 1) ∧ decode cX9_takeOff 81 = .ok (.getfield 197, 3) ∧ decode cX9_takeOff 84 = .ok (.ifCond .ne 19, 3) ∧ decode cX9_takeOff 87 = .ok (.aload_n 0, 1) ∧ decode cX9_takeOff 88 = .ok (.aload_n 1, 1) ∧ decode cX9_takeOff 89 = .ok (.invokevirtual 190, 3) ∧ decode cX9_takeOff 92 = .ok (.ifCond .eq 11, 3) ∧ decode cX9_takeOff 95 = .ok (.aload_n 1, 1) ∧ decode cX9_takeOff 96 = .ok (.aload_n 1, 1) ∧ decode cX9_takeOff 97 = .ok (.getfield 86, 3) ∧ decode cX9_takeOff 100 = .ok (.putfield 197, 3) ∧ decode cX9_takeOff 103 = .ok (.aload_n 1, 1) ∧ decode cX9_takeOff 104 = .ok (.getfield 86, 3) ∧ True := dqC_ok (c := cX9_takeOff) [(51, 3, some (.getfield 174)), (54, 1, some (.aload_n 1)), (55, 3, some (.getfield 86)), (58, 1, some (.iload_n 2)), (59, 1, some (.iastore)), (60, 1, some (.aload_n 1)), (61, 3, some (.getfield 177)), (64, 1, some (.aload_n 1)), (65, 3, some (.getfield 86)), (68, 1, some (.iload_n 3)), (69, 1, some (.iastore)), (70, 1, some (.aload_n 1)), (71, 1, some (.dup)), (72, 3, some (.getfield 86)), (75, 1, some (.iconst 1)), (76, 1, some (.iadd)), (77, 3, some (.putfield 86)), (80, 1, some (.aload_n 1)), (81, 3, some (.getfield 197)), (84, 3, some (.ifCond .ne 19)), (87, 1, some (.aload_n 0)), (88, 1, some (.aload_n 1)), (89, 3, some (.invokevirtual 190)), (92, 3, some (.ifCond .eq 11)), (95, 1, some (.aload_n 1)), (96, 1, some (.aload_n 1)), (97, 3, some (.getfield 86)), (100, 3, some (.putfield 197)), (103, 1, some (.aload_n 1)), (104, 3, some (.getfield 86))] _ 51 rfl (by decide +kernel)
theorem dX9_takeOff_51 : decode cX9_takeOff 51 = .ok (.getfield 174, 3) := dq_g219.1
theorem dX9_takeOff_54 : decode cX9_takeOff 54 = .ok (.aload_n 1, 1) := dq_g219.2.1
theorem dX9_takeOff_55 : decode cX9_takeOff 55 = .ok (.getfield 86, 3) := dq_g219.2.2.1
theorem dX9_takeOff_58 : decode cX9_takeOff 58 = .ok (.iload_n 2, 1) := dq_g219.2.2.2.1
theorem dX9_takeOff_59 : decode cX9_takeOff 59 = .ok (.iastore, 1) := dq_g219.2.2.2.2.1
theorem dX9_takeOff_60 : decode cX9_takeOff 60 = .ok (.aload_n 1, 1) := dq_g219.2.2.2.2.2.1
theorem dX9_takeOff_61 : decode cX9_takeOff 61 = .ok (.getfield 177, 3) := dq_g219.2.2.2.2.2.2.1
theorem dX9_takeOff_64 : decode cX9_takeOff 64 = .ok (.aload_n 1, 1) := dq_g219.2.2.2.2.2.2.2.1
theorem dX9_takeOff_65 : decode cX9_takeOff 65 = .ok (.getfield 86, 3) := dq_g219.2.2.2.2.2.2.2.2.1
theorem dX9_takeOff_68 : decode cX9_takeOff 68 = .ok (.iload_n 3, 1) := dq_g219.2.2.2.2.2.2.2.2.2.1
theorem dX9_takeOff_69 : decode cX9_takeOff 69 = .ok (.iastore, 1) := dq_g219.2.2.2.2.2.2.2.2.2.2.1
theorem dX9_takeOff_70 : decode cX9_takeOff 70 = .ok (.aload_n 1, 1) := dq_g219.2.2.2.2.2.2.2.2.2.2.2.1
theorem dX9_takeOff_71 : decode cX9_takeOff 71 = .ok (.dup, 1) := dq_g219.2.2.2.2.2.2.2.2.2.2.2.2.1
theorem dX9_takeOff_72 : decode cX9_takeOff 72 = .ok (.getfield 86, 3) := dq_g219.2.2.2.2.2.2.2.2.2.2.2.2.2.1
theorem dX9_takeOff_75 : decode cX9_takeOff 75 = .ok (.iconst 1, 1) := dq_g219.2.2.2.2.2.2.2.2.2.2.2.2.2.2.1
theorem dX9_takeOff_76 : decode cX9_takeOff 76 = .ok (.iadd, 1) := dq_g219.2.2.2.2.2.2.2.2.2.2.2.2.2.2.2.1
theorem dX9_takeOff_77 : decode cX9_takeOff 77 = .ok (.putfield 86, 3) := dq_g219.2.2.2.2.2.2.2.2.2.2.2.2.2.2.2.2.1
theorem dX9_takeOff_80 : decode cX9_takeOff 80 = .ok (.aload_n 1, 1) := dq_g219.2.2.2.2.2.2.2.2.2.2.2.2.2.2.2.2.2.1
theorem dX9_takeOff_81 : decode cX9_takeOff 81 = .ok (.getfield 197, 3) := dq_g219.2.2.2.2.2.2.2.2.2.2.2.2.2.2.2.2.2.2.1
theorem dX9_takeOff_84 : decode cX9_takeOff 84 = .ok (.ifCond .ne 19, 3) := dq_g219.2.2.2.2.2.2.2.2.2.2.2.2.2.2.2.2.2.2.2.1
theorem dX9_takeOff_87 : decode cX9_takeOff 87 = .ok (.aload_n 0, 1) := dq_g219.2.2.2.2.2.2.2.2.2.2.2.2.2.2.2.2.2.2.2.2.1
theorem dX9_takeOff_88 : decode cX9_takeOff 88 = .ok (.aload_n 1, 1) := dq_g219.2.2.2.2.2.2.2.2.2.2.2.2.2.2.2.2.2.2.2.2.2.1
theorem dX9_takeOff_89 : decode cX9_takeOff 89 = .ok (.invokevirtual 190, 3) := dq_g219.2.2.2.2.2.2.2.2.2.2.2.2.2.2.2.2.2.2.2.2.2.2.1
theorem dX9_takeOff_92 : decode cX9_takeOff 92 = .ok (.ifCond .eq 11, 3) := dq_g219.2.2.2.2.2.2.2.2.2.2.2.2.2.2.2.2.2.2.2.2.2.2.2.1
theorem dX9_takeOff_95 : decode cX9_takeOff 95 = .ok (.aload_n 1, 1) := dq_g219.2.2.2.2.2.2.2.2.2.2.2.2.2.2.2.2.2.2.2.2.2.2.2.2.1
theorem dX9_takeOff_96 : decode cX9_takeOff 96 = .ok (.aload_n 1, 1) := dq_g219.2.2.2.2.2.2.2.2.2.2.2.2.2.2.2.2.2.2.2.2.2.2.2.2.2.1
theorem dX9_takeOff_97 : decode cX9_takeOff 97 = .ok (.getfield 86, 3) := dq_g219.2.2.2.2.2.2.2.2.2.2.2.2.2.2.2.2.2.2.2.2.2.2.2.2.2.2.1
theorem dX9_takeOff_100 : decode cX9_takeOff 100 = .ok (.putfield 197, 3) := dq_g219.2.2.2.2.2.2.2.2.2.2.2.2.2.2.2.2.2.2.2.2.2.2.2.2.2.2.2.1
theorem dX9_takeOff_103 : decode cX9_takeOff 103 = .ok (.aload_n 1, 1) := dq_g219.2.2.2.2.2.2.2.2.2.2.2.2.2.2.2.2.2.2.2.2.2.2.2.2.2.2.2.2.1
theorem dX9_takeOff_104 : decode cX9_takeOff 104 = .ok (.getfield 86, 3) := dq_g219.2.2.2.2.2.2.2.2.2.2.2.2.2.2.2.2.2.2.2.2.2.2.2.2.2.2.2.2.2.1
theorem dq_g220 : decode cX9_takeOff 107 = .ok (.ireturn, 1) ∧ True := dqC_ok (c := cX9_takeOff) [(107, 1, some (.ireturn))] _ 107 rfl (by decide +kernel)
theorem dX9_takeOff_107 : decode cX9_takeOff 107 = .ok (.ireturn, 1) := dq_g220.1
theorem dq_g221 : decode cX9_comesTrue 0 = .ok (.aload_n 1, 1) ∧ decode cX9_comesTrue 1 = .ok (.iload_n 2, 1) ∧ decode cX9_comesTrue 2 = .ok (.invokevirtual 367, 3) ∧ decode cX9_comesTrue 5 = .ok (.ifCond .ne 5, 3) ∧ decode cX9_comesTrue 8 = .ok (.iconst 1, 1) ∧ decode cX9_comesTrue 9 = .ok (.ireturn, 1) ∧ decode cX9_comesTrue 10 = .ok (.aload_n 0, 1) ∧ decode cX9_comesTrue 11 = .ok (.aload_n 3, 1) ∧ decode cX9_comesTrue 12 = .ok (.iconst 0, 1) ∧ decode cX9_comesTrue 13 = .ok (.invokevirtual 166, 3) ∧ decode cX9_comesTrue 16 = .ok (.istore 4, 2) ∧ decode cX9_comesTrue 18 = .ok (.aload_n 0, 1) ∧ decode cX9_comesTrue 19 = .ok (.aload_n 3, 1) ∧ decode cX9_comesTrue 20 = .ok (.iconst 1, 1) ∧ decode cX9_comesTrue 21 = .ok (.invokevirtual 166, 3) ∧ decode cX9_comesTrue 24 = .ok (.istore 5, 2) ∧ decode cX9_comesTrue 26 = .ok (.aload_n 0, 1) ∧ decode cX9_comesTrue 27 = .ok (.aload_n 3, 1) ∧ decode cX9_comesTrue 28 = .ok (.iconst 2, 1) ∧ decode cX9_comesTrue 29 = .ok (.invokevirtual 166, 3) ∧ decode cX9_comesTrue 32 = .ok (.istore 6, 2) ∧ decode cX9_comesTrue 34 = .ok (.aload_n 0, 1) ∧ decode cX9_comesTrue 35 = .ok (.getfield 30, 3) ∧ decode cX9_comesTrue 38 = .ok (.iload 4, 2) ∧ decode cX9_comesTrue 40 = .ok (.iload 5, 2) ∧ decode cX9_comesTrue 42 = .ok (.iload 6, 2) ∧ decode cX9_comesTrue 44 = .ok (.aload_n 3, 1) ∧ decode cX9_comesTrue 45 = .ok (.getfield 86, 3) ∧ decode cX9_comesTrue 48 = .ok (.invokevirtual 370, 3) ∧ decode cX9_comesTrue 51 = .ok (.aload_n 0, 1) ∧ True := dqC_ok (c := cX9_comesTrue) [(0, 1, some (.aload_n 1)), (1, 1, some (.iload_n 2)), (2, 3, some (.invokevirtual 367)), (5, 3, some (.ifCond .ne 5)), (8, 1, some (.iconst 1)), (9, 1, some (.ireturn)), (10, 1, some (.aload_n 0)), (11, 1, some (.aload_n 3)), (12, 1, some (.iconst 0)), (13, 3, some (.invokevirtual 166)), (16, 2, some (.istore 4)), (18, 1, some (.aload_n 0)), (19, 1, some (.aload_n 3)), (20, 1, some (.iconst 1)), (21, 3, some (.invokevirtual 166)), (24, 2, some (.istore 5)), (26, 1, some (.aload_n 0)), (27, 1, some (.aload_n 3)), (28, 1, some (.iconst 2)), (29, 3, some (.invokevirtual 166)), (32, 2, some (.istore 6)), (34, 1, some (.aload_n 0)), (35, 3, some (.getfield 30)), (38, 2, some (.iload 4)), (40, 2, some (.iload 5)), (42, 2, some (.iload 6)), (44, 1, some (.aload_n 3)), (45, 3, some (.getfield 86)), (48, 3, some (.invokevirtual 370)), (51, 1, some (.aload_n 0))] _ 0 rfl (by decide +kernel)
theorem dX9_comesTrue_0 : decode cX9_comesTrue 0 = .ok (.aload_n 1, 1) := dq_g221.1
theorem dX9_comesTrue_1 : decode cX9_comesTrue 1 = .ok (.iload_n 2, 1) := dq_g221.2.1
theorem dX9_comesTrue_2 : decode cX9_comesTrue 2 = .ok (.invokevirtual 367, 3) := dq_g221.2.2.1
theorem dX9_comesTrue_5 : decode cX9_comesTrue 5 = .ok (.ifCond .ne 5, 3) := dq_g221.2.2.2.1
theorem dX9_comesTrue_8 : decode cX9_comesTrue 8 = .ok (.iconst 1, 1) := dq_g221.2.2.2.2.1
theorem dX9_comesTrue_9 : decode cX9_comesTrue 9 = .ok (.ireturn, 1) := dq_g221.2.2.2.2.2.1
theorem dX9_comesTrue_10 : decode cX9_comesTrue 10 = .ok (.aload_n 0, 1) := dq_g221.2.2.2.2.2.2.1
theorem dX9_comesTrue_11 : decode cX9_comesTrue 11 = .ok (.aload_n 3, 1) := dq_g221.2.2.2.2.2.2.2.1
theorem dX9_comesTrue_12 : decode cX9_comesTrue 12 = .ok (.iconst 0, 1) := dq_g221.2.2.2.2.2.2.2.2.1
theorem dX9_comesTrue_13 : decode cX9_comesTrue 13 = .ok (.invokevirtual 166, 3) := dq_g221.2.2.2.2.2.2.2.2.2.1
theorem dX9_comesTrue_16 : decode cX9_comesTrue 16 = .ok (.istore 4, 2) := dq_g221.2.2.2.2.2.2.2.2.2.2.1
theorem dX9_comesTrue_18 : decode cX9_comesTrue 18 = .ok (.aload_n 0, 1) := dq_g221.2.2.2.2.2.2.2.2.2.2.2.1
theorem dX9_comesTrue_19 : decode cX9_comesTrue 19 = .ok (.aload_n 3, 1) := dq_g221.2.2.2.2.2.2.2.2.2.2.2.2.1
theorem dX9_comesTrue_20 : decode cX9_comesTrue 20 = .ok (.iconst 1, 1) := dq_g221.2.2.2.2.2.2.2.2.2.2.2.2.2.1
theorem dX9_comesTrue_21 : decode cX9_comesTrue 21 = .ok (.invokevirtual 166, 3) := dq_g221.2.2.2.2.2.2.2.2.2.2.2.2.2.2.1
theorem dX9_comesTrue_24 : decode cX9_comesTrue 24 = .ok (.istore 5, 2) := dq_g221.2.2.2.2.2.2.2.2.2.2.2.2.2.2.2.1
theorem dX9_comesTrue_26 : decode cX9_comesTrue 26 = .ok (.aload_n 0, 1) := dq_g221.2.2.2.2.2.2.2.2.2.2.2.2.2.2.2.2.1
theorem dX9_comesTrue_27 : decode cX9_comesTrue 27 = .ok (.aload_n 3, 1) := dq_g221.2.2.2.2.2.2.2.2.2.2.2.2.2.2.2.2.2.1
theorem dX9_comesTrue_28 : decode cX9_comesTrue 28 = .ok (.iconst 2, 1) := dq_g221.2.2.2.2.2.2.2.2.2.2.2.2.2.2.2.2.2.2.1
theorem dX9_comesTrue_29 : decode cX9_comesTrue 29 = .ok (.invokevirtual 166, 3) := dq_g221.2.2.2.2.2.2.2.2.2.2.2.2.2.2.2.2.2.2.2.1
theorem dX9_comesTrue_32 : decode cX9_comesTrue 32 = .ok (.istore 6, 2) := dq_g221.2.2.2.2.2.2.2.2.2.2.2.2.2.2.2.2.2.2.2.2.1
theorem dX9_comesTrue_34 : decode cX9_comesTrue 34 = .ok (.aload_n 0, 1) := dq_g221.2.2.2.2.2.2.2.2.2.2.2.2.2.2.2.2.2.2.2.2.2.1
theorem dX9_comesTrue_35 : decode cX9_comesTrue 35 = .ok (.getfield 30, 3) := dq_g221.2.2.2.2.2.2.2.2.2.2.2.2.2.2.2.2.2.2.2.2.2.2.1
theorem dX9_comesTrue_38 : decode cX9_comesTrue 38 = .ok (.iload 4, 2) := dq_g221.2.2.2.2.2.2.2.2.2.2.2.2.2.2.2.2.2.2.2.2.2.2.2.1
theorem dX9_comesTrue_40 : decode cX9_comesTrue 40 = .ok (.iload 5, 2) := dq_g221.2.2.2.2.2.2.2.2.2.2.2.2.2.2.2.2.2.2.2.2.2.2.2.2.1
theorem dX9_comesTrue_42 : decode cX9_comesTrue 42 = .ok (.iload 6, 2) := dq_g221.2.2.2.2.2.2.2.2.2.2.2.2.2.2.2.2.2.2.2.2.2.2.2.2.2.1
theorem dX9_comesTrue_44 : decode cX9_comesTrue 44 = .ok (.aload_n 3, 1) := dq_g221.2.2.2.2.2.2.2.2.2.2.2.2.2.2.2.2.2.2.2.2.2.2.2.2.2.2.1
theorem dX9_comesTrue_45 : decode cX9_comesTrue 45 = .ok (.getfield 86, 3) := dq_g221.2.2.2.2.2.2.2.2.2.2.2.2.2.2.2.2.2.2.2.2.2.2.2.2.2.2.2.1
theorem dX9_comesTrue_48 : decode cX9_comesTrue 48 = .ok (.invokevirtual 370, 3) := dq_g221.2.2.2.2.2.2.2.2.2.2.2.2.2.2.2.2.2.2.2.2.2.2.2.2.2.2.2.2.1
theorem dX9_comesTrue_51 : decode cX9_comesTrue 51 = .ok (.aload_n 0, 1) := dq_g221.2.2.2.2.2.2.2.2.2.2.2.2.2.2.2.2.2.2.2.2.2.2.2.2.2.2.2.2.2.1
theorem dq_g222 : decode cX9_comesTrue 52 = .ok (.getfield 30, 3) ∧ decode cX9_comesTrue 55 = .ok (.aload_n 1, 1) ∧ decode cX9_comesTrue 56 = .ok (.aload_n 1, 1) ∧ decode cX9_comesTrue 57 = .ok (.getfield 374, 3) ∧ decode cX9_comesTrue 60 = .ok (.iload_n 2, 1) ∧ decode cX9_comesTrue 61 = .ok (.iaload, 1) ∧ decode cX9_comesTrue 62 = .ok (.aload_n 1, 1) ∧ decode cX9_comesTrue 63 = .ok (.getfield 377, 3) ∧ decode cX9_comesTrue 66 = .ok (.iload_n 2, 1) ∧ decode cX9_comesTrue 67 = .ok (.iaload, 1) ∧ decode cX9_comesTrue 68 = .ok (.invokevirtual 380, 3) ∧ decode cX9_comesTrue 71 = .ok (.ifCond .eq 7, 3) ∧ decode cX9_comesTrue 74 = .ok (.iconst 1, 1) ∧ decode cX9_comesTrue 75 = .ok (.goto 4, 3) ∧ decode cX9_comesTrue 78 = .ok (.iconst 0, 1) ∧ decode cX9_comesTrue 79 = .ok (.ireturn, 1) ∧ True := dqC_ok (c := cX9_comesTrue) [(52, 3, some (.getfield 30)), (55, 1, some (.aload_n 1)), (56, 1, some (.aload_n 1)), (57, 3, some (.getfield 374)), (60, 1, some (.iload_n 2)), (61, 1, some (.iaload)), (62, 1, some (.aload_n 1)), (63, 3, some (.getfield 377)), (66, 1, some (.iload_n 2)), (67, 1, some (.iaload)), (68, 3, some (.invokevirtual 380)), (71, 3, some (.ifCond .eq 7)), (74, 1, some (.iconst 1)), (75, 3, some (.goto 4)), (78, 1, some (.iconst 0)), (79, 1, some (.ireturn))] _ 52 rfl (by decide +kernel)
theorem dX9_comesTrue_52 : decode cX9_comesTrue 52 = .ok (.getfield 30, 3) := dq_g222.1
theorem dX9_comesTrue_55 : decode cX9_comesTrue 55 = .ok (.aload_n 1, 1) := dq_g222.2.1
theorem dX9_comesTrue_56 : decode cX9_comesTrue 56 = .ok (.aload_n 1, 1) := dq_g222.2.2.1
theorem dX9_comesTrue_57 : decode cX9_comesTrue 57 = .ok (.getfield 374, 3) := dq_g222.2.2.2.1
theorem dX9_comesTrue_60 : decode cX9_comesTrue 60 = .ok (.iload_n 2, 1) := dq_g222.2.2.2.2.1
theorem dX9_comesTrue_61 : decode cX9_comesTrue 61 = .ok (.iaload, 1) := dq_g222.2.2.2.2.2.1
theorem dX9_comesTrue_62 : decode cX9_comesTrue 62 = .ok (.aload_n 1, 1) := dq_g222.2.2.2.2.2.2.1
theorem dX9_comesTrue_63 : decode cX9_comesTrue 63 = .ok (.getfield 377, 3) := dq_g222.2.2.2.2.2.2.2.1
theorem dX9_comesTrue_66 : decode cX9_comesTrue 66 = .ok (.iload_n 2, 1) := dq_g222.2.2.2.2.2.2.2.2.1
theorem dX9_comesTrue_67 : decode cX9_comesTrue 67 = .ok (.iaload, 1) := dq_g222.2.2.2.2.2.2.2.2.2.1
theorem dX9_comesTrue_68 : decode cX9_comesTrue 68 = .ok (.invokevirtual 380, 3) := dq_g222.2.2.2.2.2.2.2.2.2.2.1
theorem dX9_comesTrue_71 : decode cX9_comesTrue 71 = .ok (.ifCond .eq 7, 3) := dq_g222.2.2.2.2.2.2.2.2.2.2.2.1
theorem dX9_comesTrue_74 : decode cX9_comesTrue 74 = .ok (.iconst 1, 1) := dq_g222.2.2.2.2.2.2.2.2.2.2.2.2.1
theorem dX9_comesTrue_75 : decode cX9_comesTrue 75 = .ok (.goto 4, 3) := dq_g222.2.2.2.2.2.2.2.2.2.2.2.2.2.1
theorem dX9_comesTrue_78 : decode cX9_comesTrue 78 = .ok (.iconst 0, 1) := dq_g222.2.2.2.2.2.2.2.2.2.2.2.2.2.2.1
theorem dX9_comesTrue_79 : decode cX9_comesTrue 79 = .ok (.ireturn, 1) := dq_g222.2.2.2.2.2.2.2.2.2.2.2.2.2.2.2.1
theorem dq_g223 : decode cX9_doLine 0 = .ok (.aload_n 1, 1) ∧ decode cX9_doLine 1 = .ok (.getfield 383, 3) ∧ decode cX9_doLine 4 = .ok (.iload_n 2, 1) ∧ decode cX9_doLine 5 = .ok (.iaload, 1) ∧ decode cX9_doLine 6 = .ok (.istore 4, 2) ∧ decode cX9_doLine 8 = .ok (.aload_n 1, 1) ∧ decode cX9_doLine 9 = .ok (.getfield 386, 3) ∧ decode cX9_doLine 12 = .ok (.iload_n 2, 1) ∧ decode cX9_doLine 13 = .ok (.iaload, 1) ∧ decode cX9_doLine 14 = .ok (.istore 5, 2) ∧ decode cX9_doLine 16 = .ok (.aload_n 1, 1) ∧ decode cX9_doLine 17 = .ok (.getfield 389, 3) ∧ decode cX9_doLine 20 = .ok (.iload_n 2, 1) ∧ decode cX9_doLine 21 = .ok (.iaload, 1) ∧ decode cX9_doLine 22 = .ok (.bipush 6, 2) ∧ decode cX9_doLine 24 = .ok (.if_icmp .ne 24, 3) ∧ decode cX9_doLine 27 = .ok (.aload_n 3, 1) ∧ decode cX9_doLine 28 = .ok (.iload 4, 2) ∧ decode cX9_doLine 30 = .ok (.invokevirtual 82, 3) ∧ decode cX9_doLine 33 = .ok (.ifCond .eq 104, 3) ∧ decode cX9_doLine 36 = .ok (.aload_n 3, 1) ∧ decode cX9_doLine 37 = .ok (.getfield 102, 3) ∧ decode cX9_doLine 40 = .ok (.iload 4, 2) ∧ decode cX9_doLine 42 = .ok (.iload 5, 2) ∧ decode cX9_doLine 44 = .ok (.iastore, 1) ∧ decode cX9_doLine 45 = .ok (.goto 92, 3) ∧ decode cX9_doLine 48 = .ok (.aload_n 1, 1) ∧ decode cX9_doLine 49 = .ok (.getfield 389, 3) ∧ decode cX9_doLine 52 = .ok (.iload_n 2, 1) ∧ decode cX9_doLine 53 = .ok (.iaload, 1) ∧ True := dqC_ok (c := cX9_doLine) [(0, 1, some (.aload_n 1)), (1, 3, some (.getfield 383)), (4, 1, some (.iload_n 2)), (5, 1, some (.iaload)), (6, 2, some (.istore 4)), (8, 1, some (.aload_n 1)), (9, 3, some (.getfield 386)), (12, 1, some (.iload_n 2)), (13, 1, some (.iaload)), (14, 2, some (.istore 5)), (16, 1, some (.aload_n 1)), (17, 3, some (.getfield 389)), (20, 1, some (.iload_n 2)), (21, 1, some (.iaload)), (22, 2, some (.bipush 6)), (24, 3, some (.if_icmp .ne 24)), (27, 1, some (.aload_n 3)), (28, 2, some (.iload 4)), (30, 3, some (.invokevirtual 82)), (33, 3, some (.ifCond .eq 104)), (36, 1, some (.aload_n 3)), (37, 3, some (.getfield 102)), (40, 2, some (.iload 4)), (42, 2, some (.iload 5)), (44, 1, some (.iastore)), (45, 3, some (.goto 92)), (48, 1, some (.aload_n 1)), (49, 3, some (.getfield 389)), (52, 1, some (.iload_n 2)), (53, 1, some (.iaload))] _ 0 rfl (by decide +kernel)
theorem dX9_doLine_0 : decode cX9_doLine 0 = .ok (.aload_n 1, 1) := dq_g223.1
theorem dX9_doLine_1 : decode cX9_doLine 1 = .ok (.getfield 383, 3) := dq_g223.2.1
theorem dX9_doLine_4 : decode cX9_doLine 4 = .ok (.iload_n 2, 1) := dq_g223.2.2.1
theorem dX9_doLine_5 : decode cX9_doLine 5 = .ok (.iaload, 1) := dq_g223.2.2.2.1
theorem dX9_doLine_6 : decode cX9_doLine 6 = .ok (.istore 4, 2) := dq_g223.2.2.2.2.1
theorem dX9_doLine_8 : decode cX9_doLine 8 = .ok (.aload_n 1, 1) := dq_g223.2.2.2.2.2.1
theorem dX9_doLine_9 : decode cX9_doLine 9 = .ok (.getfield 386, 3) := dq_g223.2.2.2.2.2.2.1
theorem dX9_doLine_12 : decode cX9_doLine 12 = .ok (.iload_n 2, 1) := dq_g223.2.2.2.2.2.2.2.1
theorem dX9_doLine_13 : decode cX9_doLine 13 = .ok (.iaload, 1) := dq_g223.2.2.2.2.2.2.2.2.1
theorem dX9_doLine_14 : decode cX9_doLine 14 = .ok (.istore 5, 2) := dq_g223.2.2.2.2.2.2.2.2.2.1
theorem dX9_doLine_16 : decode cX9_doLine 16 = .ok (.aload_n 1, 1) := dq_g223.2.2.2.2.2.2.2.2.2.2.1
theorem dX9_doLine_17 : decode cX9_doLine 17 = .ok (.getfield 389, 3) := dq_g223.2.2.2.2.2.2.2.2.2.2.2.1
theorem dX9_doLine_20 : decode cX9_doLine 20 = .ok (.iload_n 2, 1) := dq_g223.2.2.2.2.2.2.2.2.2.2.2.2.1
theorem dX9_doLine_21 : decode cX9_doLine 21 = .ok (.iaload, 1) := dq_g223.2.2.2.2.2.2.2.2.2.2.2.2.2.1
theorem dX9_doLine_22 : decode cX9_doLine 22 = .ok (.bipush 6, 2) := dq_g223.2.2.2.2.2.2.2.2.2.2.2.2.2.2.1
theorem dX9_doLine_24 : decode cX9_doLine 24 = .ok (.if_icmp .ne 24, 3) := dq_g223.2.2.2.2.2.2.2.2.2.2.2.2.2.2.2.1
theorem dX9_doLine_27 : decode cX9_doLine 27 = .ok (.aload_n 3, 1) := dq_g223.2.2.2.2.2.2.2.2.2.2.2.2.2.2.2.2.1
theorem dX9_doLine_28 : decode cX9_doLine 28 = .ok (.iload 4, 2) := dq_g223.2.2.2.2.2.2.2.2.2.2.2.2.2.2.2.2.2.1
theorem dX9_doLine_30 : decode cX9_doLine 30 = .ok (.invokevirtual 82, 3) := dq_g223.2.2.2.2.2.2.2.2.2.2.2.2.2.2.2.2.2.2.1
theorem dX9_doLine_33 : decode cX9_doLine 33 = .ok (.ifCond .eq 104, 3) := dq_g223.2.2.2.2.2.2.2.2.2.2.2.2.2.2.2.2.2.2.2.1
theorem dX9_doLine_36 : decode cX9_doLine 36 = .ok (.aload_n 3, 1) := dq_g223.2.2.2.2.2.2.2.2.2.2.2.2.2.2.2.2.2.2.2.2.1
theorem dX9_doLine_37 : decode cX9_doLine 37 = .ok (.getfield 102, 3) := dq_g223.2.2.2.2.2.2.2.2.2.2.2.2.2.2.2.2.2.2.2.2.2.1
theorem dX9_doLine_40 : decode cX9_doLine 40 = .ok (.iload 4, 2) := dq_g223.2.2.2.2.2.2.2.2.2.2.2.2.2.2.2.2.2.2.2.2.2.2.1
theorem dX9_doLine_42 : decode cX9_doLine 42 = .ok (.iload 5, 2) := dq_g223.2.2.2.2.2.2.2.2.2.2.2.2.2.2.2.2.2.2.2.2.2.2.2.1
theorem dX9_doLine_44 : decode cX9_doLine 44 = .ok (.iastore, 1) := dq_g223.2.2.2.2.2.2.2.2.2.2.2.2.2.2.2.2.2.2.2.2.2.2.2.2.1
theorem dX9_doLine_45 : decode cX9_doLine 45 = .ok (.goto 92, 3) := dq_g223.2.2.2.2.2.2.2.2.2.2.2.2.2.2.2.2.2.2.2.2.2.2.2.2.2.1
theorem dX9_doLine_48 : decode cX9_doLine 48 = .ok (.aload_n 1, 1) := dq_g223.2.2.2.2.2.2.2.2.2.2.2.2.2.2.2.2.2.2.2.2.2.2.2.2.2.2.1
theorem dX9_doLine_49 : decode cX9_doLine 49 = .ok (.getfield 389, 3) := dq_g223.2.2.2.2.2.2.2.2.2.2.2.2.2.2.2.2.2.2.2.2.2.2.2.2.2.2.2.1
theorem dX9_doLine_52 : decode cX9_doLine 52 = .ok (.iload_n 2, 1) := dq_g223.2.2.2.2.2.2.2.2.2.2.2.2.2.2.2.2.2.2.2.2.2.2.2.2.2.2.2.2.1
theorem dX9_doLine_53 : decode cX9_doLine 53 = .ok (.iaload, 1) := dq_g223.2.2.2.2.2.2.2.2.2.2.2.2.2.2.2.2.2.2.2.2.2.2.2.2.2.2.2.2.2.1
theorem dq_g224 : decode cX9_doLine 54 = .ok (.iconst 4, 1) ∧ decode cX9_doLine 55 = .ok (.if_icmp .ne 16, 3) ∧ decode cX9_doLine 58 = .ok (.aload_n 0, 1) ∧ decode cX9_doLine 59 = .ok (.aload_n 3, 1) ∧ decode cX9_doLine 60 = .ok (.iload 4, 2) ∧ decode cX9_doLine 62 = .ok (.iload 5, 2) ∧ decode cX9_doLine 64 = .ok (.invokevirtual 170, 3) ∧ decode cX9_doLine 67 = .ok (.pop, 1) ∧ decode cX9_doLine 68 = .ok (.goto 69, 3) ∧ decode cX9_doLine 71 = .ok (.aload_n 1, 1) ∧ decode cX9_doLine 72 = .ok (.getfield 392, 3) ∧ decode cX9_doLine 75 = .ok (.iload_n 2, 1) ∧ decode cX9_doLine 76 = .ok (.iaload, 1) ∧ decode cX9_doLine 77 = .ok (.aload_n 3, 1) ∧ decode cX9_doLine 78 = .ok (.getfield 187, 3) ∧ decode cX9_doLine 81 = .ok (.iconst 1, 1) ∧ decode cX9_doLine 82 = .ok (.isub, 1) ∧ decode cX9_doLine 83 = .ok (.invokestatic 395, 3) ∧ decode cX9_doLine 86 = .ok (.istore 6, 2) ∧ decode cX9_doLine 88 = .ok (.iload 4, 2) ∧ decode cX9_doLine 90 = .ok (.aload_n 1, 1) ∧ decode cX9_doLine 91 = .ok (.getfield 392, 3) ∧ decode cX9_doLine 94 = .ok (.iload_n 2, 1) ∧ decode cX9_doLine 95 = .ok (.iaload, 1) ∧ decode cX9_doLine 96 = .ok (.iadd, 1) ∧ decode cX9_doLine 97 = .ok (.iconst 2, 1) ∧ decode cX9_doLine 98 = .ok (.idiv, 1) ∧ decode cX9_doLine 99 = .ok (.istore 7, 2) ∧ decode cX9_doLine 101 = .ok (.iload 4, 2) ∧ decode cX9_doLine 103 = .ok (.istore 8, 2) ∧ True := dqC_ok (c := cX9_doLine) [(54, 1, some (.iconst 4)), (55, 3, some (.if_icmp .ne 16)), (58, 1, some (.aload_n 0)), (59, 1, some (.aload_n 3)), (60, 2, some (.iload 4)), (62, 2, some (.iload 5)), (64, 3, some (.invokevirtual 170)), (67, 1, some (.pop)), (68, 3, some (.goto 69)), (71, 1, some (.aload_n 1)), (72, 3, some (.getfield 392)), (75, 1, some (.iload_n 2)), (76, 1, some (.iaload)), (77, 1, some (.aload_n 3)), (78, 3, some (.getfield 187)), (81, 1, some (.iconst 1)), (82, 1, some (.isub)), (83, 3, some (.invokestatic 395)), (86, 2, some (.istore 6)), (88, 2, some (.iload 4)), (90, 1, some (.aload_n 1)), (91, 3, some (.getfield 392)), (94, 1, some (.iload_n 2)), (95, 1, some (.iaload)), (96, 1, some (.iadd)), (97, 1, some (.iconst 2)), (98, 1, some (.idiv)), (99, 2, some (.istore 7)), (101, 2, some (.iload 4)), (103, 2, some (.istore 8))] _ 54 rfl (by decide +kernel)
theorem dX9_doLine_54 : decode cX9_doLine 54 = .ok (.iconst 4, 1) := dq_g224.1
theorem dX9_doLine_55 : decode cX9_doLine 55 = .ok (.if_icmp .ne 16, 3) := dq_g224.2.1
theorem dX9_doLine_58 : decode cX9_doLine 58 = .ok (.aload_n 0, 1) := dq_g224.2.2.1
theorem dX9_doLine_59 : decode cX9_doLine 59 = .ok (.aload_n 3, 1) := dq_g224.2.2.2.1
theorem dX9_doLine_60 : decode cX9_doLine 60 = .ok (.iload 4, 2) := dq_g224.2.2.2.2.1
theorem dX9_doLine_62 : decode cX9_doLine 62 = .ok (.iload 5, 2) := dq_g224.2.2.2.2.2.1
theorem dX9_doLine_64 : decode cX9_doLine 64 = .ok (.invokevirtual 170, 3) := dq_g224.2.2.2.2.2.2.1
theorem dX9_doLine_67 : decode cX9_doLine 67 = .ok (.pop, 1) := dq_g224.2.2.2.2.2.2.2.1
theorem dX9_doLine_68 : decode cX9_doLine 68 = .ok (.goto 69, 3) := dq_g224.2.2.2.2.2.2.2.2.1
theorem dX9_doLine_71 : decode cX9_doLine 71 = .ok (.aload_n 1, 1) := dq_g224.2.2.2.2.2.2.2.2.2.1
theorem dX9_doLine_72 : decode cX9_doLine 72 = .ok (.getfield 392, 3) := dq_g224.2.2.2.2.2.2.2.2.2.2.1
theorem dX9_doLine_75 : decode cX9_doLine 75 = .ok (.iload_n 2, 1) := dq_g224.2.2.2.2.2.2.2.2.2.2.2.1
theorem dX9_doLine_76 : decode cX9_doLine 76 = .ok (.iaload, 1) := dq_g224.2.2.2.2.2.2.2.2.2.2.2.2.1
theorem dX9_doLine_77 : decode cX9_doLine 77 = .ok (.aload_n 3, 1) := dq_g224.2.2.2.2.2.2.2.2.2.2.2.2.2.1
theorem dX9_doLine_78 : decode cX9_doLine 78 = .ok (.getfield 187, 3) := dq_g224.2.2.2.2.2.2.2.2.2.2.2.2.2.2.1
theorem dX9_doLine_81 : decode cX9_doLine 81 = .ok (.iconst 1, 1) := dq_g224.2.2.2.2.2.2.2.2.2.2.2.2.2.2.2.1
theorem dX9_doLine_82 : decode cX9_doLine 82 = .ok (.isub, 1) := dq_g224.2.2.2.2.2.2.2.2.2.2.2.2.2.2.2.2.1
theorem dX9_doLine_83 : decode cX9_doLine 83 = .ok (.invokestatic 395, 3) := dq_g224.2.2.2.2.2.2.2.2.2.2.2.2.2.2.2.2.2.1
theorem dX9_doLine_86 : decode cX9_doLine 86 = .ok (.istore 6, 2) := dq_g224.2.2.2.2.2.2.2.2.2.2.2.2.2.2.2.2.2.2.1
theorem dX9_doLine_88 : decode cX9_doLine 88 = .ok (.iload 4, 2) := dq_g224.2.2.2.2.2.2.2.2.2.2.2.2.2.2.2.2.2.2.2.1
theorem dX9_doLine_90 : decode cX9_doLine 90 = .ok (.aload_n 1, 1) := dq_g224.2.2.2.2.2.2.2.2.2.2.2.2.2.2.2.2.2.2.2.2.1
theorem dX9_doLine_91 : decode cX9_doLine 91 = .ok (.getfield 392, 3) := dq_g224.2.2.2.2.2.2.2.2.2.2.2.2.2.2.2.2.2.2.2.2.2.1
theorem dX9_doLine_94 : decode cX9_doLine 94 = .ok (.iload_n 2, 1) := dq_g224.2.2.2.2.2.2.2.2.2.2.2.2.2.2.2.2.2.2.2.2.2.2.1
theorem dX9_doLine_95 : decode cX9_doLine 95 = .ok (.iaload, 1) := dq_g224.2.2.2.2.2.2.2.2.2.2.2.2.2.2.2.2.2.2.2.2.2.2.2.1
theorem dX9_doLine_96 : decode cX9_doLine 96 = .ok (.iadd, 1) := dq_g224.2.2.2.2.2.2.2.2.2.2.2.2.2.2.2.2.2.2.2.2.2.2.2.2.1
theorem dX9_doLine_97 : decode cX9_doLine 97 = .ok (.iconst 2, 1) := dq_g224.2.2.2.2.2.2.2.2.2.2.2.2.2.2.2.2.2.2.2.2.2.2.2.2.2.1
theorem dX9_doLine_98 : decode cX9_doLine 98 = .ok (.idiv, 1) := dq_g224.2.2.2.2.2.2.2.2.2.2.2.2.2.2.2.2.2.2.2.2.2.2.2.2.2.2.1
theorem dX9_doLine_99 : decode cX9_doLine 99 = .ok (.istore 7, 2) := dq_g224.2.2.2.2.2.2.2.2.2.2.2.2.2.2.2.2.2.2.2.2.2.2.2.2.2.2.2.1
theorem dX9_doLine_101 : decode cX9_doLine 101 = .ok (.iload 4, 2) := dq_g224.2.2.2.2.2.2.2.2.2.2.2.2.2.2.2.2.2.2.2.2.2.2.2.2.2.2.2.2.1
theorem dX9_doLine_103 : decode cX9_doLine 103 = .ok (.istore 8, 2) := dq_g224.2.2.2.2.2.2.2.2.2.2.2.2.2.2.2.2.2.2.2.2.2.2.2.2.2.2.2.2.2.1
theorem dq_g225 : decode cX9_doLine 105 = .ok (.iload 8, 2) ∧ decode cX9_doLine 107 = .ok (.iload 6, 2) ∧ decode cX9_doLine 109 = .ok (.if_icmp .gt 28, 3) ∧ decode cX9_doLine 112 = .ok (.aload_n 0, 1) ∧ decode cX9_doLine 113 = .ok (.aload_n 3, 1) ∧ decode cX9_doLine 114 = .ok (.iload 8, 2) ∧ decode cX9_doLine 116 = .ok (.iload 5, 2) ∧ decode cX9_doLine 118 = .ok (.iload 8, 2) ∧ decode cX9_doLine 120 = .ok (.iload 7, 2) ∧ decode cX9_doLine 122 = .ok (.isub, 1) ∧ decode cX9_doLine 123 = .ok (.invokestatic 362, 3) ∧ decode cX9_doLine 126 = .ok (.isub, 1) ∧ decode cX9_doLine 127 = .ok (.invokevirtual 170, 3) ∧ decode cX9_doLine 130 = .ok (.pop, 1) ∧ decode cX9_doLine 131 = .ok (.iinc 8 1, 3) ∧ decode cX9_doLine 134 = .ok (.goto (-29), 3) ∧ decode cX9_doLine 137 = .ok (.return_, 1) ∧ True := dqC_ok (c := cX9_doLine) [(105, 2, some (.iload 8)), (107, 2, some (.iload 6)), (109, 3, some (.if_icmp .gt 28)), (112, 1, some (.aload_n 0)), (113, 1, some (.aload_n 3)), (114, 2, some (.iload 8)), (116, 2, some (.iload 5)), (118, 2, some (.iload 8)), (120, 2, some (.iload 7)), (122, 1, some (.isub)), (123, 3, some (.invokestatic 362)), (126, 1, some (.isub)), (127, 3, some (.invokevirtual 170)), (130, 1, some (.pop)), (131, 3, some (.iinc 8 1)), (134, 3, some (.goto (-29))), (137, 1, some (.return_))] _ 105 rfl (by decide +kernel)
theorem dX9_doLine_105 : decode cX9_doLine 105 = .ok (.iload 8, 2) := dq_g225.1
theorem dX9_doLine_107 : decode cX9_doLine 107 = .ok (.iload 6, 2) := dq_g225.2.1
theorem dX9_doLine_109 : decode cX9_doLine 109 = .ok (.if_icmp .gt 28, 3) := dq_g225.2.2.1
theorem dX9_doLine_112 : decode cX9_doLine 112 = .ok (.aload_n 0, 1) := dq_g225.2.2.2.1
theorem dX9_doLine_113 : decode cX9_doLine 113 = .ok (.aload_n 3, 1) := dq_g225.2.2.2.2.1
theorem dX9_doLine_114 : decode cX9_doLine 114 = .ok (.iload 8, 2) := dq_g225.2.2.2.2.2.1
theorem dX9_doLine_116 : decode cX9_doLine 116 = .ok (.iload 5, 2) := dq_g225.2.2.2.2.2.2.1
theorem dX9_doLine_118 : decode cX9_doLine 118 = .ok (.iload 8, 2) := dq_g225.2.2.2.2.2.2.2.1
theorem dX9_doLine_120 : decode cX9_doLine 120 = .ok (.iload 7, 2) := dq_g225.2.2.2.2.2.2.2.2.1
theorem dX9_doLine_122 : decode cX9_doLine 122 = .ok (.isub, 1) := dq_g225.2.2.2.2.2.2.2.2.2.1
theorem dX9_doLine_123 : decode cX9_doLine 123 = .ok (.invokestatic 362, 3) := dq_g225.2.2.2.2.2.2.2.2.2.2.1
theorem dX9_doLine_126 : decode cX9_doLine 126 = .ok (.isub, 1) := dq_g225.2.2.2.2.2.2.2.2.2.2.2.1
theorem dX9_doLine_127 : decode cX9_doLine 127 = .ok (.invokevirtual 170, 3) := dq_g225.2.2.2.2.2.2.2.2.2.2.2.2.1
theorem dX9_doLine_130 : decode cX9_doLine 130 = .ok (.pop, 1) := dq_g225.2.2.2.2.2.2.2.2.2.2.2.2.2.1
theorem dX9_doLine_131 : decode cX9_doLine 131 = .ok (.iinc 8 1, 3) := dq_g225.2.2.2.2.2.2.2.2.2.2.2.2.2.2.1
theorem dX9_doLine_134 : decode cX9_doLine 134 = .ok (.goto (-29), 3) := dq_g225.2.2.2.2.2.2.2.2.2.2.2.2.2.2.2.1
theorem dX9_doLine_137 : decode cX9_doLine 137 = .ok (.return_, 1) := dq_g225.2.2.2.2.2.2.2.2.2.2.2.2.2.2.2.2.1
theorem dq_g226 : decode cX9_offOf 0 = .ok (.lconst 0, 1) ∧ decode cX9_offOf 1 = .ok (.lstore_n 2, 1) ∧ decode cX9_offOf 2 = .ok (.iconst 0, 1) ∧ decode cX9_offOf 3 = .ok (.istore 4, 2) ∧ decode cX9_offOf 5 = .ok (.iload 4, 2) ∧ decode cX9_offOf 7 = .ok (.aload_n 0, 1) ∧ decode cX9_offOf 8 = .ok (.getfield 12, 3) ∧ decode cX9_offOf 11 = .ok (.getfield 64, 3) ∧ decode cX9_offOf 14 = .ok (.if_icmp .ge 99, 3) ∧ decode cX9_offOf 17 = .ok (.aload_n 0, 1) ∧ decode cX9_offOf 18 = .ok (.getfield 12, 3) ∧ decode cX9_offOf 21 = .ok (.getfield 68, 3) ∧ decode cX9_offOf 24 = .ok (.iload 4, 2) ∧ decode cX9_offOf 26 = .ok (.aaload, 1) ∧ decode cX9_offOf 27 = .ok (.astore 5, 2) ∧ decode cX9_offOf 29 = .ok (.iconst 0, 1) ∧ decode cX9_offOf 30 = .ok (.istore 6, 2) ∧ decode cX9_offOf 32 = .ok (.iload 6, 2) ∧ decode cX9_offOf 34 = .ok (.aload 5, 2) ∧ decode cX9_offOf 36 = .ok (.getfield 200, 3) ∧ decode cX9_offOf 39 = .ok (.if_icmp .ge 68, 3) ∧ decode cX9_offOf 42 = .ok (.aload_n 0, 1) ∧ decode cX9_offOf 43 = .ok (.getfield 30, 3) ∧ decode cX9_offOf 46 = .ok (.aload_n 1, 1) ∧ decode cX9_offOf 47 = .ok (.aload 5, 2) ∧ decode cX9_offOf 49 = .ok (.getfield 398, 3) ∧ decode cX9_offOf 52 = .ok (.iload 6, 2) ∧ decode cX9_offOf 54 = .ok (.iaload, 1) ∧ decode cX9_offOf 55 = .ok (.aload 5, 2) ∧ decode cX9_offOf 57 = .ok (.aload 5, 2) ∧ True := dqC_ok (c := cX9_offOf) [(0, 1, some (.lconst 0)), (1, 1, some (.lstore_n 2)), (2, 1, some (.iconst 0)), (3, 2, some (.istore 4)), (5, 2, some (.iload 4)), (7, 1, some (.aload_n 0)), (8, 3, some (.getfield 12)), (11, 3, some (.getfield 64)), (14, 3, some (.if_icmp .ge 99)), (17, 1, some (.aload_n 0)), (18, 3, some (.getfield 12)), (21, 3, some (.getfield 68)), (24, 2, some (.iload 4)), (26, 1, some (.aaload)), (27, 2, some (.astore 5)), (29, 1, some (.iconst 0)), (30, 2, some (.istore 6)), (32, 2, some (.iload 6)), (34, 2, some (.aload 5)), (36, 3, some (.getfield 200)), (39, 3, some (.if_icmp .ge 68)), (42, 1, some (.aload_n 0)), (43, 3, some (.getfield 30)), (46, 1, some (.aload_n 1)), (47, 2, some (.aload 5)), (49, 3, some (.getfield 398)), (52, 2, some (.iload 6)), (54, 1, some (.iaload)), (55, 2, some (.aload 5)), (57, 2, some (.aload 5))] _ 0 rfl (by decide +kernel)
theorem dX9_offOf_0 : decode cX9_offOf 0 = .ok (.lconst 0, 1) := dq_g226.1
theorem dX9_offOf_1 : decode cX9_offOf 1 = .ok (.lstore_n 2, 1) := dq_g226.2.1
theorem dX9_offOf_2 : decode cX9_offOf 2 = .ok (.iconst 0, 1) := dq_g226.2.2.1
theorem dX9_offOf_3 : decode cX9_offOf 3 = .ok (.istore 4, 2) := dq_g226.2.2.2.1
theorem dX9_offOf_5 : decode cX9_offOf 5 = .ok (.iload 4, 2) := dq_g226.2.2.2.2.1
theorem dX9_offOf_7 : decode cX9_offOf 7 = .ok (.aload_n 0, 1) := dq_g226.2.2.2.2.2.1
theorem dX9_offOf_8 : decode cX9_offOf 8 = .ok (.getfield 12, 3) := dq_g226.2.2.2.2.2.2.1
theorem dX9_offOf_11 : decode cX9_offOf 11 = .ok (.getfield 64, 3) := dq_g226.2.2.2.2.2.2.2.1
theorem dX9_offOf_14 : decode cX9_offOf 14 = .ok (.if_icmp .ge 99, 3) := dq_g226.2.2.2.2.2.2.2.2.1
theorem dX9_offOf_17 : decode cX9_offOf 17 = .ok (.aload_n 0, 1) := dq_g226.2.2.2.2.2.2.2.2.2.1
theorem dX9_offOf_18 : decode cX9_offOf 18 = .ok (.getfield 12, 3) := dq_g226.2.2.2.2.2.2.2.2.2.2.1
theorem dX9_offOf_21 : decode cX9_offOf 21 = .ok (.getfield 68, 3) := dq_g226.2.2.2.2.2.2.2.2.2.2.2.1
theorem dX9_offOf_24 : decode cX9_offOf 24 = .ok (.iload 4, 2) := dq_g226.2.2.2.2.2.2.2.2.2.2.2.2.1
theorem dX9_offOf_26 : decode cX9_offOf 26 = .ok (.aaload, 1) := dq_g226.2.2.2.2.2.2.2.2.2.2.2.2.2.1
theorem dX9_offOf_27 : decode cX9_offOf 27 = .ok (.astore 5, 2) := dq_g226.2.2.2.2.2.2.2.2.2.2.2.2.2.2.1
theorem dX9_offOf_29 : decode cX9_offOf 29 = .ok (.iconst 0, 1) := dq_g226.2.2.2.2.2.2.2.2.2.2.2.2.2.2.2.1
theorem dX9_offOf_30 : decode cX9_offOf 30 = .ok (.istore 6, 2) := dq_g226.2.2.2.2.2.2.2.2.2.2.2.2.2.2.2.2.1
theorem dX9_offOf_32 : decode cX9_offOf 32 = .ok (.iload 6, 2) := dq_g226.2.2.2.2.2.2.2.2.2.2.2.2.2.2.2.2.2.1
theorem dX9_offOf_34 : decode cX9_offOf 34 = .ok (.aload 5, 2) := dq_g226.2.2.2.2.2.2.2.2.2.2.2.2.2.2.2.2.2.2.1
theorem dX9_offOf_36 : decode cX9_offOf 36 = .ok (.getfield 200, 3) := dq_g226.2.2.2.2.2.2.2.2.2.2.2.2.2.2.2.2.2.2.2.1
theorem dX9_offOf_39 : decode cX9_offOf 39 = .ok (.if_icmp .ge 68, 3) := dq_g226.2.2.2.2.2.2.2.2.2.2.2.2.2.2.2.2.2.2.2.2.1
theorem dX9_offOf_42 : decode cX9_offOf 42 = .ok (.aload_n 0, 1) := dq_g226.2.2.2.2.2.2.2.2.2.2.2.2.2.2.2.2.2.2.2.2.2.1
theorem dX9_offOf_43 : decode cX9_offOf 43 = .ok (.getfield 30, 3) := dq_g226.2.2.2.2.2.2.2.2.2.2.2.2.2.2.2.2.2.2.2.2.2.2.1
theorem dX9_offOf_46 : decode cX9_offOf 46 = .ok (.aload_n 1, 1) := dq_g226.2.2.2.2.2.2.2.2.2.2.2.2.2.2.2.2.2.2.2.2.2.2.2.1
theorem dX9_offOf_47 : decode cX9_offOf 47 = .ok (.aload 5, 2) := dq_g226.2.2.2.2.2.2.2.2.2.2.2.2.2.2.2.2.2.2.2.2.2.2.2.2.1
theorem dX9_offOf_49 : decode cX9_offOf 49 = .ok (.getfield 398, 3) := dq_g226.2.2.2.2.2.2.2.2.2.2.2.2.2.2.2.2.2.2.2.2.2.2.2.2.2.1
theorem dX9_offOf_52 : decode cX9_offOf 52 = .ok (.iload 6, 2) := dq_g226.2.2.2.2.2.2.2.2.2.2.2.2.2.2.2.2.2.2.2.2.2.2.2.2.2.2.1
theorem dX9_offOf_54 : decode cX9_offOf 54 = .ok (.iaload, 1) := dq_g226.2.2.2.2.2.2.2.2.2.2.2.2.2.2.2.2.2.2.2.2.2.2.2.2.2.2.2.1
theorem dX9_offOf_55 : decode cX9_offOf 55 = .ok (.aload 5, 2) := dq_g226.2.2.2.2.2.2.2.2.2.2.2.2.2.2.2.2.2.2.2.2.2.2.2.2.2.2.2.2.1
theorem dX9_offOf_57 : decode cX9_offOf 57 = .ok (.aload 5, 2) := dq_g226.2.2.2.2.2.2.2.2.2.2.2.2.2.2.2.2.2.2.2.2.2.2.2.2.2.2.2.2.2.1
theorem dq_g227 : decode cX9_offOf 59 = .ok (.getfield 401, 3) ∧ decode cX9_offOf 62 = .ok (.iload 6, 2) ∧ decode cX9_offOf 64 = .ok (.aaload, 1) ∧ decode cX9_offOf 65 = .ok (.aload 5, 2) ∧ decode cX9_offOf 67 = .ok (.getfield 96, 3) ∧ decode cX9_offOf 70 = .ok (.aload 5, 2) ∧ decode cX9_offOf 72 = .ok (.getfield 405, 3) ∧ decode cX9_offOf 75 = .ok (.iload 6, 2) ∧ decode cX9_offOf 77 = .ok (.aaload, 1) ∧ decode cX9_offOf 78 = .ok (.invokevirtual 216, 3) ∧ decode cX9_offOf 81 = .ok (.istore 7, 2) ∧ decode cX9_offOf 83 = .ok (.lload_n 2, 1) ∧ decode cX9_offOf 84 = .ok (.iload 7, 2) ∧ decode cX9_offOf 86 = .ok (.aload 5, 2) ∧ decode cX9_offOf 88 = .ok (.getfield 408, 3) ∧ decode cX9_offOf 91 = .ok (.iload 6, 2) ∧ decode cX9_offOf 93 = .ok (.iaload, 1) ∧ decode cX9_offOf 94 = .ok (.isub, 1) ∧ decode cX9_offOf 95 = .ok (.invokestatic 362, 3) ∧ decode cX9_offOf 98 = .ok (.i2l, 1) ∧ decode cX9_offOf 99 = .ok (.ladd, 1) ∧ decode cX9_offOf 100 = .ok (.lstore_n 2, 1) ∧ decode cX9_offOf 101 = .ok (.iinc 6 1, 3) ∧ decode cX9_offOf 104 = .ok (.goto (-72), 3) ∧ decode cX9_offOf 107 = .ok (.iinc 4 1, 3) ∧ decode cX9_offOf 110 = .ok (.goto (-105), 3) ∧ decode cX9_offOf 113 = .ok (.lload_n 2, 1) ∧ decode cX9_offOf 114 = .ok (.ldc2_w 411, 3) ∧ decode cX9_offOf 117 = .ok (.invokestatic 413, 3) ∧ decode cX9_offOf 120 = .ok (.l2i, 1) ∧ True := dqC_ok (c := cX9_offOf) [(59, 3, some (.getfield 401)), (62, 2, some (.iload 6)), (64, 1, some (.aaload)), (65, 2, some (.aload 5)), (67, 3, some (.getfield 96)), (70, 2, some (.aload 5)), (72, 3, some (.getfield 405)), (75, 2, some (.iload 6)), (77, 1, some (.aaload)), (78, 3, some (.invokevirtual 216)), (81, 2, some (.istore 7)), (83, 1, some (.lload_n 2)), (84, 2, some (.iload 7)), (86, 2, some (.aload 5)), (88, 3, some (.getfield 408)), (91, 2, some (.iload 6)), (93, 1, some (.iaload)), (94, 1, some (.isub)), (95, 3, some (.invokestatic 362)), (98, 1, some (.i2l)), (99, 1, some (.ladd)), (100, 1, some (.lstore_n 2)), (101, 3, some (.iinc 6 1)), (104, 3, some (.goto (-72))), (107, 3, some (.iinc 4 1)), (110, 3, some (.goto (-105))), (113, 1, some (.lload_n 2)), (114, 3, some (.ldc2_w 411)), (117, 3, some (.invokestatic 413)), (120, 1, some (.l2i))] _ 59 rfl (by decide +kernel)
theorem dX9_offOf_59 : decode cX9_offOf 59 = .ok (.getfield 401, 3) := dq_g227.1
theorem dX9_offOf_62 : decode cX9_offOf 62 = .ok (.iload 6, 2) := dq_g227.2.1
theorem dX9_offOf_64 : decode cX9_offOf 64 = .ok (.aaload, 1) := dq_g227.2.2.1
theorem dX9_offOf_65 : decode cX9_offOf 65 = .ok (.aload 5, 2) := dq_g227.2.2.2.1
theorem dX9_offOf_67 : decode cX9_offOf 67 = .ok (.getfield 96, 3) := dq_g227.2.2.2.2.1
theorem dX9_offOf_70 : decode cX9_offOf 70 = .ok (.aload 5, 2) := dq_g227.2.2.2.2.2.1
theorem dX9_offOf_72 : decode cX9_offOf 72 = .ok (.getfield 405, 3) := dq_g227.2.2.2.2.2.2.1
theorem dX9_offOf_75 : decode cX9_offOf 75 = .ok (.iload 6, 2) := dq_g227.2.2.2.2.2.2.2.1
theorem dX9_offOf_77 : decode cX9_offOf 77 = .ok (.aaload, 1) := dq_g227.2.2.2.2.2.2.2.2.1
theorem dX9_offOf_78 : decode cX9_offOf 78 = .ok (.invokevirtual 216, 3) := dq_g227.2.2.2.2.2.2.2.2.2.1
theorem dX9_offOf_81 : decode cX9_offOf 81 = .ok (.istore 7, 2) := dq_g227.2.2.2.2.2.2.2.2.2.2.1
theorem dX9_offOf_83 : decode cX9_offOf 83 = .ok (.lload_n 2, 1) := dq_g227.2.2.2.2.2.2.2.2.2.2.2.1
theorem dX9_offOf_84 : decode cX9_offOf 84 = .ok (.iload 7, 2) := dq_g227.2.2.2.2.2.2.2.2.2.2.2.2.1
theorem dX9_offOf_86 : decode cX9_offOf 86 = .ok (.aload 5, 2) := dq_g227.2.2.2.2.2.2.2.2.2.2.2.2.2.1
theorem dX9_offOf_88 : decode cX9_offOf 88 = .ok (.getfield 408, 3) := dq_g227.2.2.2.2.2.2.2.2.2.2.2.2.2.2.1
theorem dX9_offOf_91 : decode cX9_offOf 91 = .ok (.iload 6, 2) := dq_g227.2.2.2.2.2.2.2.2.2.2.2.2.2.2.2.1
theorem dX9_offOf_93 : decode cX9_offOf 93 = .ok (.iaload, 1) := dq_g227.2.2.2.2.2.2.2.2.2.2.2.2.2.2.2.2.1
theorem dX9_offOf_94 : decode cX9_offOf 94 = .ok (.isub, 1) := dq_g227.2.2.2.2.2.2.2.2.2.2.2.2.2.2.2.2.2.1
theorem dX9_offOf_95 : decode cX9_offOf 95 = .ok (.invokestatic 362, 3) := dq_g227.2.2.2.2.2.2.2.2.2.2.2.2.2.2.2.2.2.2.1
theorem dX9_offOf_98 : decode cX9_offOf 98 = .ok (.i2l, 1) := dq_g227.2.2.2.2.2.2.2.2.2.2.2.2.2.2.2.2.2.2.2.1
theorem dX9_offOf_99 : decode cX9_offOf 99 = .ok (.ladd, 1) := dq_g227.2.2.2.2.2.2.2.2.2.2.2.2.2.2.2.2.2.2.2.2.1
theorem dX9_offOf_100 : decode cX9_offOf 100 = .ok (.lstore_n 2, 1) := dq_g227.2.2.2.2.2.2.2.2.2.2.2.2.2.2.2.2.2.2.2.2.2.1
theorem dX9_offOf_101 : decode cX9_offOf 101 = .ok (.iinc 6 1, 3) := dq_g227.2.2.2.2.2.2.2.2.2.2.2.2.2.2.2.2.2.2.2.2.2.2.1
theorem dX9_offOf_104 : decode cX9_offOf 104 = .ok (.goto (-72), 3) := dq_g227.2.2.2.2.2.2.2.2.2.2.2.2.2.2.2.2.2.2.2.2.2.2.2.1
theorem dX9_offOf_107 : decode cX9_offOf 107 = .ok (.iinc 4 1, 3) := dq_g227.2.2.2.2.2.2.2.2.2.2.2.2.2.2.2.2.2.2.2.2.2.2.2.2.1
theorem dX9_offOf_110 : decode cX9_offOf 110 = .ok (.goto (-105), 3) := dq_g227.2.2.2.2.2.2.2.2.2.2.2.2.2.2.2.2.2.2.2.2.2.2.2.2.2.1
theorem dX9_offOf_113 : decode cX9_offOf 113 = .ok (.lload_n 2, 1) := dq_g227.2.2.2.2.2.2.2.2.2.2.2.2.2.2.2.2.2.2.2.2.2.2.2.2.2.2.1
theorem dX9_offOf_114 : decode cX9_offOf 114 = .ok (.ldc2_w 411, 3) := dq_g227.2.2.2.2.2.2.2.2.2.2.2.2.2.2.2.2.2.2.2.2.2.2.2.2.2.2.2.1
theorem dX9_offOf_117 : decode cX9_offOf 117 = .ok (.invokestatic 413, 3) := dq_g227.2.2.2.2.2.2.2.2.2.2.2.2.2.2.2.2.2.2.2.2.2.2.2.2.2.2.2.2.1
theorem dX9_offOf_120 : decode cX9_offOf 120 = .ok (.l2i, 1) := dq_g227.2.2.2.2.2.2.2.2.2.2.2.2.2.2.2.2.2.2.2.2.2.2.2.2.2.2.2.2.2.1
theorem dq_g228 : decode cX9_offOf 121 = .ok (.ireturn, 1) ∧ True := dqC_ok (c := cX9_offOf) [(121, 1, some (.ireturn))] _ 121 rfl (by decide +kernel)
theorem dX9_offOf_121 : decode cX9_offOf 121 = .ok (.ireturn, 1) := dq_g228.1
theorem dq_g229 : decode cX9_findPoints 0 = .ok (.iconst 0, 1) ∧ decode cX9_findPoints 1 = .ok (.istore_n 3, 1) ∧ decode cX9_findPoints 2 = .ok (.iconst 0, 1) ∧ decode cX9_findPoints 3 = .ok (.istore 4, 2) ∧ decode cX9_findPoints 5 = .ok (.iconst 0, 1) ∧ decode cX9_findPoints 6 = .ok (.istore 5, 2) ∧ decode cX9_findPoints 8 = .ok (.iload 5, 2) ∧ decode cX9_findPoints 10 = .ok (.aload_n 1, 1) ∧ decode cX9_findPoints 11 = .ok (.getfield 187, 3) ∧ decode cX9_findPoints 14 = .ok (.if_icmp .ge 95, 3) ∧ decode cX9_findPoints 17 = .ok (.aload_n 0, 1) ∧ decode cX9_findPoints 18 = .ok (.getfield 30, 3) ∧ decode cX9_findPoints 21 = .ok (.aload_n 1, 1) ∧ decode cX9_findPoints 22 = .ok (.iload 5, 2) ∧ decode cX9_findPoints 24 = .ok (.aload_n 1, 1) ∧ decode cX9_findPoints 25 = .ok (.getfield 93, 3) ∧ decode cX9_findPoints 28 = .ok (.iload 5, 2) ∧ decode cX9_findPoints 30 = .ok (.iaload, 1) ∧ decode cX9_findPoints 31 = .ok (.aload_n 1, 1) ∧ decode cX9_findPoints 32 = .ok (.getfield 96, 3) ∧ decode cX9_findPoints 35 = .ok (.iload 5, 2) ∧ decode cX9_findPoints 37 = .ok (.iaload, 1) ∧ decode cX9_findPoints 38 = .ok (.aload_n 1, 1) ∧ decode cX9_findPoints 39 = .ok (.getfield 102, 3) ∧ decode cX9_findPoints 42 = .ok (.iload 5, 2) ∧ decode cX9_findPoints 44 = .ok (.iaload, 1) ∧ decode cX9_findPoints 45 = .ok (.invokevirtual 154, 3) ∧ decode cX9_findPoints 48 = .ok (.aload_n 0, 1) ∧ decode cX9_findPoints 49 = .ok (.getfield 30, 3) ∧ decode cX9_findPoints 52 = .ok (.aload_n 0, 1) ∧ True := dqC_ok (c := cX9_findPoints) [(0, 1, some (.iconst 0)), (1, 1, some (.istore_n 3)), (2, 1, some (.iconst 0)), (3, 2, some (.istore 4)), (5, 1, some (.iconst 0)), (6, 2, some (.istore 5)), (8, 2, some (.iload 5)), (10, 1, some (.aload_n 1)), (11, 3, some (.getfield 187)), (14, 3, some (.if_icmp .ge 95)), (17, 1, some (.aload_n 0)), (18, 3, some (.getfield 30)), (21, 1, some (.aload_n 1)), (22, 2, some (.iload 5)), (24, 1, some (.aload_n 1)), (25, 3, some (.getfield 93)), (28, 2, some (.iload 5)), (30, 1, some (.iaload)), (31, 1, some (.aload_n 1)), (32, 3, some (.getfield 96)), (35, 2, some (.iload 5)), (37, 1, some (.iaload)), (38, 1, some (.aload_n 1)), (39, 3, some (.getfield 102)), (42, 2, some (.iload 5)), (44, 1, some (.iaload)), (45, 3, some (.invokevirtual 154)), (48, 1, some (.aload_n 0)), (49, 3, some (.getfield 30)), (52, 1, some (.aload_n 0))] _ 0 rfl (by decide +kernel)
theorem dX9_findPoints_0 : decode cX9_findPoints 0 = .ok (.iconst 0, 1) := dq_g229.1
theorem dX9_findPoints_1 : decode cX9_findPoints 1 = .ok (.istore_n 3, 1) := dq_g229.2.1
theorem dX9_findPoints_2 : decode cX9_findPoints 2 = .ok (.iconst 0, 1) := dq_g229.2.2.1
theorem dX9_findPoints_3 : decode cX9_findPoints 3 = .ok (.istore 4, 2) := dq_g229.2.2.2.1
theorem dX9_findPoints_5 : decode cX9_findPoints 5 = .ok (.iconst 0, 1) := dq_g229.2.2.2.2.1
theorem dX9_findPoints_6 : decode cX9_findPoints 6 = .ok (.istore 5, 2) := dq_g229.2.2.2.2.2.1
theorem dX9_findPoints_8 : decode cX9_findPoints 8 = .ok (.iload 5, 2) := dq_g229.2.2.2.2.2.2.1
theorem dX9_findPoints_10 : decode cX9_findPoints 10 = .ok (.aload_n 1, 1) := dq_g229.2.2.2.2.2.2.2.1
theorem dX9_findPoints_11 : decode cX9_findPoints 11 = .ok (.getfield 187, 3) := dq_g229.2.2.2.2.2.2.2.2.1
theorem dX9_findPoints_14 : decode cX9_findPoints 14 = .ok (.if_icmp .ge 95, 3) := dq_g229.2.2.2.2.2.2.2.2.2.1
theorem dX9_findPoints_17 : decode cX9_findPoints 17 = .ok (.aload_n 0, 1) := dq_g229.2.2.2.2.2.2.2.2.2.2.1
theorem dX9_findPoints_18 : decode cX9_findPoints 18 = .ok (.getfield 30, 3) := dq_g229.2.2.2.2.2.2.2.2.2.2.2.1
theorem dX9_findPoints_21 : decode cX9_findPoints 21 = .ok (.aload_n 1, 1) := dq_g229.2.2.2.2.2.2.2.2.2.2.2.2.1
theorem dX9_findPoints_22 : decode cX9_findPoints 22 = .ok (.iload 5, 2) := dq_g229.2.2.2.2.2.2.2.2.2.2.2.2.2.1
theorem dX9_findPoints_24 : decode cX9_findPoints 24 = .ok (.aload_n 1, 1) := dq_g229.2.2.2.2.2.2.2.2.2.2.2.2.2.2.1
theorem dX9_findPoints_25 : decode cX9_findPoints 25 = .ok (.getfield 93, 3) := dq_g229.2.2.2.2.2.2.2.2.2.2.2.2.2.2.2.1
theorem dX9_findPoints_28 : decode cX9_findPoints 28 = .ok (.iload 5, 2) := dq_g229.2.2.2.2.2.2.2.2.2.2.2.2.2.2.2.2.1
theorem dX9_findPoints_30 : decode cX9_findPoints 30 = .ok (.iaload, 1) := dq_g229.2.2.2.2.2.2.2.2.2.2.2.2.2.2.2.2.2.1
theorem dX9_findPoints_31 : decode cX9_findPoints 31 = .ok (.aload_n 1, 1) := dq_g229.2.2.2.2.2.2.2.2.2.2.2.2.2.2.2.2.2.2.1
theorem dX9_findPoints_32 : decode cX9_findPoints 32 = .ok (.getfield 96, 3) := dq_g229.2.2.2.2.2.2.2.2.2.2.2.2.2.2.2.2.2.2.2.1
theorem dX9_findPoints_35 : decode cX9_findPoints 35 = .ok (.iload 5, 2) := dq_g229.2.2.2.2.2.2.2.2.2.2.2.2.2.2.2.2.2.2.2.2.1
theorem dX9_findPoints_37 : decode cX9_findPoints 37 = .ok (.iaload, 1) := dq_g229.2.2.2.2.2.2.2.2.2.2.2.2.2.2.2.2.2.2.2.2.2.1
theorem dX9_findPoints_38 : decode cX9_findPoints 38 = .ok (.aload_n 1, 1) := dq_g229.2.2.2.2.2.2.2.2.2.2.2.2.2.2.2.2.2.2.2.2.2.2.1
theorem dX9_findPoints_39 : decode cX9_findPoints 39 = .ok (.getfield 102, 3) := dq_g229.2.2.2.2.2.2.2.2.2.2.2.2.2.2.2.2.2.2.2.2.2.2.2.1
theorem dX9_findPoints_42 : decode cX9_findPoints 42 = .ok (.iload 5, 2) := dq_g229.2.2.2.2.2.2.2.2.2.2.2.2.2.2.2.2.2.2.2.2.2.2.2.2.1
theorem dX9_findPoints_44 : decode cX9_findPoints 44 = .ok (.iaload, 1) := dq_g229.2.2.2.2.2.2.2.2.2.2.2.2.2.2.2.2.2.2.2.2.2.2.2.2.2.1
theorem dX9_findPoints_45 : decode cX9_findPoints 45 = .ok (.invokevirtual 154, 3) := dq_g229.2.2.2.2.2.2.2.2.2.2.2.2.2.2.2.2.2.2.2.2.2.2.2.2.2.2.1
theorem dX9_findPoints_48 : decode cX9_findPoints 48 = .ok (.aload_n 0, 1) := dq_g229.2.2.2.2.2.2.2.2.2.2.2.2.2.2.2.2.2.2.2.2.2.2.2.2.2.2.2.1
theorem dX9_findPoints_49 : decode cX9_findPoints 49 = .ok (.getfield 30, 3) := dq_g229.2.2.2.2.2.2.2.2.2.2.2.2.2.2.2.2.2.2.2.2.2.2.2.2.2.2.2.2.1
theorem dX9_findPoints_52 : decode cX9_findPoints 52 = .ok (.aload_n 0, 1) := dq_g229.2.2.2.2.2.2.2.2.2.2.2.2.2.2.2.2.2.2.2.2.2.2.2.2.2.2.2.2.2.1
theorem dq_g230 : decode cX9_findPoints 53 = .ok (.getfield 12, 3) ∧ decode cX9_findPoints 56 = .ok (.invokevirtual 212, 3) ∧ decode cX9_findPoints 59 = .ok (.iconst 2, 1) ∧ decode cX9_findPoints 60 = .ok (.iload_n 2, 1) ∧ decode cX9_findPoints 61 = .ok (.invokevirtual 162, 3) ∧ decode cX9_findPoints 64 = .ok (.ifCond .ge 7, 3) ∧ decode cX9_findPoints 67 = .ok (.iconst 1, 1) ∧ decode cX9_findPoints 68 = .ok (.goto 4, 3) ∧ decode cX9_findPoints 71 = .ok (.iconst 0, 1) ∧ decode cX9_findPoints 72 = .ok (.istore 6, 2) ∧ decode cX9_findPoints 74 = .ok (.iload 5, 2) ∧ decode cX9_findPoints 76 = .ok (.ifCond .le 23, 3) ∧ decode cX9_findPoints 79 = .ok (.iload 6, 2) ∧ decode cX9_findPoints 81 = .ok (.iload 4, 2) ∧ decode cX9_findPoints 83 = .ok (.if_icmp .eq 16, 3) ∧ decode cX9_findPoints 86 = .ok (.aload_n 0, 1) ∧ decode cX9_findPoints 87 = .ok (.getfield 58, 3) ∧ decode cX9_findPoints 90 = .ok (.iload_n 3, 1) ∧ decode cX9_findPoints 91 = .ok (.iload 5, 2) ∧ decode cX9_findPoints 93 = .ok (.iconst 1, 1) ∧ decode cX9_findPoints 94 = .ok (.isub, 1) ∧ decode cX9_findPoints 95 = .ok (.iastore, 1) ∧ decode cX9_findPoints 96 = .ok (.iinc 3 1, 3) ∧ decode cX9_findPoints 99 = .ok (.iload 6, 2) ∧ decode cX9_findPoints 101 = .ok (.istore 4, 2) ∧ decode cX9_findPoints 103 = .ok (.iinc 5 1, 3) ∧ decode cX9_findPoints 106 = .ok (.goto (-98), 3) ∧ decode cX9_findPoints 109 = .ok (.iload_n 3, 1) ∧ decode cX9_findPoints 110 = .ok (.ireturn, 1) ∧ True := dqC_ok (c := cX9_findPoints) [(53, 3, some (.getfield 12)), (56, 3, some (.invokevirtual 212)), (59, 1, some (.iconst 2)), (60, 1, some (.iload_n 2)), (61, 3, some (.invokevirtual 162)), (64, 3, some (.ifCond .ge 7)), (67, 1, some (.iconst 1)), (68, 3, some (.goto 4)), (71, 1, some (.iconst 0)), (72, 2, some (.istore 6)), (74, 2, some (.iload 5)), (76, 3, some (.ifCond .le 23)), (79, 2, some (.iload 6)), (81, 2, some (.iload 4)), (83, 3, some (.if_icmp .eq 16)), (86, 1, some (.aload_n 0)), (87, 3, some (.getfield 58)), (90, 1, some (.iload_n 3)), (91, 2, some (.iload 5)), (93, 1, some (.iconst 1)), (94, 1, some (.isub)), (95, 1, some (.iastore)), (96, 3, some (.iinc 3 1)), (99, 2, some (.iload 6)), (101, 2, some (.istore 4)), (103, 3, some (.iinc 5 1)), (106, 3, some (.goto (-98))), (109, 1, some (.iload_n 3)), (110, 1, some (.ireturn))] _ 53 rfl (by decide +kernel)
theorem dX9_findPoints_53 : decode cX9_findPoints 53 = .ok (.getfield 12, 3) := dq_g230.1
theorem dX9_findPoints_56 : decode cX9_findPoints 56 = .ok (.invokevirtual 212, 3) := dq_g230.2.1
theorem dX9_findPoints_59 : decode cX9_findPoints 59 = .ok (.iconst 2, 1) := dq_g230.2.2.1
theorem dX9_findPoints_60 : decode cX9_findPoints 60 = .ok (.iload_n 2, 1) := dq_g230.2.2.2.1
theorem dX9_findPoints_61 : decode cX9_findPoints 61 = .ok (.invokevirtual 162, 3) := dq_g230.2.2.2.2.1
theorem dX9_findPoints_64 : decode cX9_findPoints 64 = .ok (.ifCond .ge 7, 3) := dq_g230.2.2.2.2.2.1
theorem dX9_findPoints_67 : decode cX9_findPoints 67 = .ok (.iconst 1, 1) := dq_g230.2.2.2.2.2.2.1
theorem dX9_findPoints_68 : decode cX9_findPoints 68 = .ok (.goto 4, 3) := dq_g230.2.2.2.2.2.2.2.1
theorem dX9_findPoints_71 : decode cX9_findPoints 71 = .ok (.iconst 0, 1) := dq_g230.2.2.2.2.2.2.2.2.1
theorem dX9_findPoints_72 : decode cX9_findPoints 72 = .ok (.istore 6, 2) := dq_g230.2.2.2.2.2.2.2.2.2.1
theorem dX9_findPoints_74 : decode cX9_findPoints 74 = .ok (.iload 5, 2) := dq_g230.2.2.2.2.2.2.2.2.2.2.1
theorem dX9_findPoints_76 : decode cX9_findPoints 76 = .ok (.ifCond .le 23, 3) := dq_g230.2.2.2.2.2.2.2.2.2.2.2.1
theorem dX9_findPoints_79 : decode cX9_findPoints 79 = .ok (.iload 6, 2) := dq_g230.2.2.2.2.2.2.2.2.2.2.2.2.1
theorem dX9_findPoints_81 : decode cX9_findPoints 81 = .ok (.iload 4, 2) := dq_g230.2.2.2.2.2.2.2.2.2.2.2.2.2.1
theorem dX9_findPoints_83 : decode cX9_findPoints 83 = .ok (.if_icmp .eq 16, 3) := dq_g230.2.2.2.2.2.2.2.2.2.2.2.2.2.2.1
theorem dX9_findPoints_86 : decode cX9_findPoints 86 = .ok (.aload_n 0, 1) := dq_g230.2.2.2.2.2.2.2.2.2.2.2.2.2.2.2.1
theorem dX9_findPoints_87 : decode cX9_findPoints 87 = .ok (.getfield 58, 3) := dq_g230.2.2.2.2.2.2.2.2.2.2.2.2.2.2.2.2.1
theorem dX9_findPoints_90 : decode cX9_findPoints 90 = .ok (.iload_n 3, 1) := dq_g230.2.2.2.2.2.2.2.2.2.2.2.2.2.2.2.2.2.1
theorem dX9_findPoints_91 : decode cX9_findPoints 91 = .ok (.iload 5, 2) := dq_g230.2.2.2.2.2.2.2.2.2.2.2.2.2.2.2.2.2.2.1
theorem dX9_findPoints_93 : decode cX9_findPoints 93 = .ok (.iconst 1, 1) := dq_g230.2.2.2.2.2.2.2.2.2.2.2.2.2.2.2.2.2.2.2.1
theorem dX9_findPoints_94 : decode cX9_findPoints 94 = .ok (.isub, 1) := dq_g230.2.2.2.2.2.2.2.2.2.2.2.2.2.2.2.2.2.2.2.2.1
theorem dX9_findPoints_95 : decode cX9_findPoints 95 = .ok (.iastore, 1) := dq_g230.2.2.2.2.2.2.2.2.2.2.2.2.2.2.2.2.2.2.2.2.2.1
theorem dX9_findPoints_96 : decode cX9_findPoints 96 = .ok (.iinc 3 1, 3) := dq_g230.2.2.2.2.2.2.2.2.2.2.2.2.2.2.2.2.2.2.2.2.2.2.1
theorem dX9_findPoints_99 : decode cX9_findPoints 99 = .ok (.iload 6, 2) := dq_g230.2.2.2.2.2.2.2.2.2.2.2.2.2.2.2.2.2.2.2.2.2.2.2.1
theorem dX9_findPoints_101 : decode cX9_findPoints 101 = .ok (.istore 4, 2) := dq_g230.2.2.2.2.2.2.2.2.2.2.2.2.2.2.2.2.2.2.2.2.2.2.2.2.1
theorem dX9_findPoints_103 : decode cX9_findPoints 103 = .ok (.iinc 5 1, 3) := dq_g230.2.2.2.2.2.2.2.2.2.2.2.2.2.2.2.2.2.2.2.2.2.2.2.2.2.1
theorem dX9_findPoints_106 : decode cX9_findPoints 106 = .ok (.goto (-98), 3) := dq_g230.2.2.2.2.2.2.2.2.2.2.2.2.2.2.2.2.2.2.2.2.2.2.2.2.2.2.1
theorem dX9_findPoints_109 : decode cX9_findPoints 109 = .ok (.iload_n 3, 1) := dq_g230.2.2.2.2.2.2.2.2.2.2.2.2.2.2.2.2.2.2.2.2.2.2.2.2.2.2.2.1
theorem dX9_findPoints_110 : decode cX9_findPoints 110 = .ok (.ireturn, 1) := dq_g230.2.2.2.2.2.2.2.2.2.2.2.2.2.2.2.2.2.2.2.2.2.2.2.2.2.2.2.2.1
theorem dq_g231 : decode cX9_amiss 0 = .ok (.aload_n 0, 1) ∧ decode cX9_amiss 1 = .ok (.aload_n 1, 1) ∧ decode cX9_amiss 2 = .ok (.iconst 0, 1) ∧ decode cX9_amiss 3 = .ok (.invokevirtual 263, 3) ∧ decode cX9_amiss 6 = .ok (.istore_n 2, 1) ∧ decode cX9_amiss 7 = .ok (.aload_n 1, 1) ∧ decode cX9_amiss 8 = .ok (.getfield 266, 3) ∧ decode cX9_amiss 11 = .ok (.iconst (-1), 1) ∧ decode cX9_amiss 12 = .ok (.if_icmp .eq 7, 3) ∧ decode cX9_amiss 15 = .ok (.iload_n 2, 1) ∧ decode cX9_amiss 16 = .ok (.ifCond .ne 5, 3) ∧ decode cX9_amiss 19 = .ok (.iconst (-1), 1) ∧ decode cX9_amiss 20 = .ok (.ireturn, 1) ∧ decode cX9_amiss 21 = .ok (.aload_n 1, 1) ∧ decode cX9_amiss 22 = .ok (.getfield 266, 3) ∧ decode cX9_amiss 25 = .ok (.aload_n 0, 1) ∧ decode cX9_amiss 26 = .ok (.getfield 58, 3) ∧ decode cX9_amiss 29 = .ok (.iconst 0, 1) ∧ decode cX9_amiss 30 = .ok (.iaload, 1) ∧ decode cX9_amiss 31 = .ok (.isub, 1) ∧ decode cX9_amiss 32 = .ok (.invokestatic 362, 3) ∧ decode cX9_amiss 35 = .ok (.aload_n 1, 1) ∧ decode cX9_amiss 36 = .ok (.getfield 269, 3) ∧ decode cX9_amiss 39 = .ok (.aload_n 0, 1) ∧ decode cX9_amiss 40 = .ok (.getfield 58, 3) ∧ decode cX9_amiss 43 = .ok (.iload_n 2, 1) ∧ decode cX9_amiss 44 = .ok (.iconst 1, 1) ∧ decode cX9_amiss 45 = .ok (.isub, 1) ∧ decode cX9_amiss 46 = .ok (.iaload, 1) ∧ decode cX9_amiss 47 = .ok (.isub, 1) ∧ True := dqC_ok (c := cX9_amiss) [(0, 1, some (.aload_n 0)), (1, 1, some (.aload_n 1)), (2, 1, some (.iconst 0)), (3, 3, some (.invokevirtual 263)), (6, 1, some (.istore_n 2)), (7, 1, some (.aload_n 1)), (8, 3, some (.getfield 266)), (11, 1, some (.iconst (-1))), (12, 3, some (.if_icmp .eq 7)), (15, 1, some (.iload_n 2)), (16, 3, some (.ifCond .ne 5)), (19, 1, some (.iconst (-1))), (20, 1, some (.ireturn)), (21, 1, some (.aload_n 1)), (22, 3, some (.getfield 266)), (25, 1, some (.aload_n 0)), (26, 3, some (.getfield 58)), (29, 1, some (.iconst 0)), (30, 1, some (.iaload)), (31, 1, some (.isub)), (32, 3, some (.invokestatic 362)), (35, 1, some (.aload_n 1)), (36, 3, some (.getfield 269)), (39, 1, some (.aload_n 0)), (40, 3, some (.getfield 58)), (43, 1, some (.iload_n 2)), (44, 1, some (.iconst 1)), (45, 1, some (.isub)), (46, 1, some (.iaload)), (47, 1, some (.isub))] _ 0 rfl (by decide +kernel)
theorem dX9_amiss_0 : decode cX9_amiss 0 = .ok (.aload_n 0, 1) := dq_g231.1
theorem dX9_amiss_1 : decode cX9_amiss 1 = .ok (.aload_n 1, 1) := dq_g231.2.1
theorem dX9_amiss_2 : decode cX9_amiss 2 = .ok (.iconst 0, 1) := dq_g231.2.2.1
theorem dX9_amiss_3 : decode cX9_amiss 3 = .ok (.invokevirtual 263, 3) := dq_g231.2.2.2.1
theorem dX9_amiss_6 : decode cX9_amiss 6 = .ok (.istore_n 2, 1) := dq_g231.2.2.2.2.1
theorem dX9_amiss_7 : decode cX9_amiss 7 = .ok (.aload_n 1, 1) := dq_g231.2.2.2.2.2.1
theorem dX9_amiss_8 : decode cX9_amiss 8 = .ok (.getfield 266, 3) := dq_g231.2.2.2.2.2.2.1
theorem dX9_amiss_11 : decode cX9_amiss 11 = .ok (.iconst (-1), 1) := dq_g231.2.2.2.2.2.2.2.1
theorem dX9_amiss_12 : decode cX9_amiss 12 = .ok (.if_icmp .eq 7, 3) := dq_g231.2.2.2.2.2.2.2.2.1
theorem dX9_amiss_15 : decode cX9_amiss 15 = .ok (.iload_n 2, 1) := dq_g231.2.2.2.2.2.2.2.2.2.1
theorem dX9_amiss_16 : decode cX9_amiss 16 = .ok (.ifCond .ne 5, 3) := dq_g231.2.2.2.2.2.2.2.2.2.2.1
theorem dX9_amiss_19 : decode cX9_amiss 19 = .ok (.iconst (-1), 1) := dq_g231.2.2.2.2.2.2.2.2.2.2.2.1
theorem dX9_amiss_20 : decode cX9_amiss 20 = .ok (.ireturn, 1) := dq_g231.2.2.2.2.2.2.2.2.2.2.2.2.1
theorem dX9_amiss_21 : decode cX9_amiss 21 = .ok (.aload_n 1, 1) := dq_g231.2.2.2.2.2.2.2.2.2.2.2.2.2.1
theorem dX9_amiss_22 : decode cX9_amiss 22 = .ok (.getfield 266, 3) := dq_g231.2.2.2.2.2.2.2.2.2.2.2.2.2.2.1
theorem dX9_amiss_25 : decode cX9_amiss 25 = .ok (.aload_n 0, 1) := dq_g231.2.2.2.2.2.2.2.2.2.2.2.2.2.2.2.1
theorem dX9_amiss_26 : decode cX9_amiss 26 = .ok (.getfield 58, 3) := dq_g231.2.2.2.2.2.2.2.2.2.2.2.2.2.2.2.2.1
theorem dX9_amiss_29 : decode cX9_amiss 29 = .ok (.iconst 0, 1) := dq_g231.2.2.2.2.2.2.2.2.2.2.2.2.2.2.2.2.2.1
theorem dX9_amiss_30 : decode cX9_amiss 30 = .ok (.iaload, 1) := dq_g231.2.2.2.2.2.2.2.2.2.2.2.2.2.2.2.2.2.2.1
theorem dX9_amiss_31 : decode cX9_amiss 31 = .ok (.isub, 1) := dq_g231.2.2.2.2.2.2.2.2.2.2.2.2.2.2.2.2.2.2.2.1
theorem dX9_amiss_32 : decode cX9_amiss 32 = .ok (.invokestatic 362, 3) := dq_g231.2.2.2.2.2.2.2.2.2.2.2.2.2.2.2.2.2.2.2.2.1
theorem dX9_amiss_35 : decode cX9_amiss 35 = .ok (.aload_n 1, 1) := dq_g231.2.2.2.2.2.2.2.2.2.2.2.2.2.2.2.2.2.2.2.2.2.1
theorem dX9_amiss_36 : decode cX9_amiss 36 = .ok (.getfield 269, 3) := dq_g231.2.2.2.2.2.2.2.2.2.2.2.2.2.2.2.2.2.2.2.2.2.2.1
theorem dX9_amiss_39 : decode cX9_amiss 39 = .ok (.aload_n 0, 1) := dq_g231.2.2.2.2.2.2.2.2.2.2.2.2.2.2.2.2.2.2.2.2.2.2.2.1
theorem dX9_amiss_40 : decode cX9_amiss 40 = .ok (.getfield 58, 3) := dq_g231.2.2.2.2.2.2.2.2.2.2.2.2.2.2.2.2.2.2.2.2.2.2.2.2.1
theorem dX9_amiss_43 : decode cX9_amiss 43 = .ok (.iload_n 2, 1) := dq_g231.2.2.2.2.2.2.2.2.2.2.2.2.2.2.2.2.2.2.2.2.2.2.2.2.2.1
theorem dX9_amiss_44 : decode cX9_amiss 44 = .ok (.iconst 1, 1) := dq_g231.2.2.2.2.2.2.2.2.2.2.2.2.2.2.2.2.2.2.2.2.2.2.2.2.2.2.1
theorem dX9_amiss_45 : decode cX9_amiss 45 = .ok (.isub, 1) := dq_g231.2.2.2.2.2.2.2.2.2.2.2.2.2.2.2.2.2.2.2.2.2.2.2.2.2.2.2.1
theorem dX9_amiss_46 : decode cX9_amiss 46 = .ok (.iaload, 1) := dq_g231.2.2.2.2.2.2.2.2.2.2.2.2.2.2.2.2.2.2.2.2.2.2.2.2.2.2.2.2.1
theorem dX9_amiss_47 : decode cX9_amiss 47 = .ok (.isub, 1) := dq_g231.2.2.2.2.2.2.2.2.2.2.2.2.2.2.2.2.2.2.2.2.2.2.2.2.2.2.2.2.2.1
theorem dq_g232 : decode cX9_amiss 48 = .ok (.invokestatic 362, 3) ∧ decode cX9_amiss 51 = .ok (.iadd, 1) ∧ decode cX9_amiss 52 = .ok (.ireturn, 1) ∧ True := dqC_ok (c := cX9_amiss) [(48, 3, some (.invokestatic 362)), (51, 1, some (.iadd)), (52, 1, some (.ireturn))] _ 48 rfl (by decide +kernel)
theorem dX9_amiss_48 : decode cX9_amiss 48 = .ok (.invokestatic 362, 3) := dq_g232.1
theorem dX9_amiss_51 : decode cX9_amiss 51 = .ok (.iadd, 1) := dq_g232.2.1
theorem dX9_amiss_52 : decode cX9_amiss 52 = .ok (.ireturn, 1) := dq_g232.2.2.1
theorem dq_g233 : decode cX9_driftIn 0 = .ok (.aload_n 0, 1) ∧ decode cX9_driftIn 1 = .ok (.getfield 30, 3) ∧ decode cX9_driftIn 4 = .ok (.iload_n 1, 1) ∧ decode cX9_driftIn 5 = .ok (.iload_n 2, 1) ∧ decode cX9_driftIn 6 = .ok (.invokevirtual 416, 3) ∧ decode cX9_driftIn 9 = .ok (.aload_n 0, 1) ∧ decode cX9_driftIn 10 = .ok (.getfield 30, 3) ∧ decode cX9_driftIn 13 = .ok (.aload_n 0, 1) ∧ decode cX9_driftIn 14 = .ok (.getfield 12, 3) ∧ decode cX9_driftIn 17 = .ok (.invokevirtual 212, 3) ∧ decode cX9_driftIn 20 = .ok (.iconst 3, 1) ∧ decode cX9_driftIn 21 = .ok (.iconst 0, 1) ∧ decode cX9_driftIn 22 = .ok (.invokevirtual 162, 3) ∧ decode cX9_driftIn 25 = .ok (.ireturn, 1) ∧ True := dqC_ok (c := cX9_driftIn) [(0, 1, some (.aload_n 0)), (1, 3, some (.getfield 30)), (4, 1, some (.iload_n 1)), (5, 1, some (.iload_n 2)), (6, 3, some (.invokevirtual 416)), (9, 1, some (.aload_n 0)), (10, 3, some (.getfield 30)), (13, 1, some (.aload_n 0)), (14, 3, some (.getfield 12)), (17, 3, some (.invokevirtual 212)), (20, 1, some (.iconst 3)), (21, 1, some (.iconst 0)), (22, 3, some (.invokevirtual 162)), (25, 1, some (.ireturn))] _ 0 rfl (by decide +kernel)
theorem dX9_driftIn_0 : decode cX9_driftIn 0 = .ok (.aload_n 0, 1) := dq_g233.1
theorem dX9_driftIn_1 : decode cX9_driftIn 1 = .ok (.getfield 30, 3) := dq_g233.2.1
theorem dX9_driftIn_4 : decode cX9_driftIn 4 = .ok (.iload_n 1, 1) := dq_g233.2.2.1
theorem dX9_driftIn_5 : decode cX9_driftIn 5 = .ok (.iload_n 2, 1) := dq_g233.2.2.2.1
theorem dX9_driftIn_6 : decode cX9_driftIn 6 = .ok (.invokevirtual 416, 3) := dq_g233.2.2.2.2.1
theorem dX9_driftIn_9 : decode cX9_driftIn 9 = .ok (.aload_n 0, 1) := dq_g233.2.2.2.2.2.1
theorem dX9_driftIn_10 : decode cX9_driftIn 10 = .ok (.getfield 30, 3) := dq_g233.2.2.2.2.2.2.1
theorem dX9_driftIn_13 : decode cX9_driftIn 13 = .ok (.aload_n 0, 1) := dq_g233.2.2.2.2.2.2.2.1
theorem dX9_driftIn_14 : decode cX9_driftIn 14 = .ok (.getfield 12, 3) := dq_g233.2.2.2.2.2.2.2.2.1
theorem dX9_driftIn_17 : decode cX9_driftIn 17 = .ok (.invokevirtual 212, 3) := dq_g233.2.2.2.2.2.2.2.2.2.1
theorem dX9_driftIn_20 : decode cX9_driftIn 20 = .ok (.iconst 3, 1) := dq_g233.2.2.2.2.2.2.2.2.2.2.1
theorem dX9_driftIn_21 : decode cX9_driftIn 21 = .ok (.iconst 0, 1) := dq_g233.2.2.2.2.2.2.2.2.2.2.2.1
theorem dX9_driftIn_22 : decode cX9_driftIn 22 = .ok (.invokevirtual 162, 3) := dq_g233.2.2.2.2.2.2.2.2.2.2.2.2.1
theorem dX9_driftIn_25 : decode cX9_driftIn 25 = .ok (.ireturn, 1) := dq_g233.2.2.2.2.2.2.2.2.2.2.2.2.2.1
theorem dq_g234 : decode cX9_drifted 0 = .ok (.iload_n 0, 1) ∧ decode cX9_drifted 1 = .ok (.i2l, 1) ∧ decode cX9_drifted 2 = .ok (.ldc2_w 419, 3) ∧ decode cX9_drifted 5 = .ok (.iload_n 1, 1) ∧ decode cX9_drifted 6 = .ok (.i2l, 1) ∧ decode cX9_drifted 7 = .ok (.lsub, 1) ∧ decode cX9_drifted 8 = .ok (.lmul, 1) ∧ decode cX9_drifted 9 = .ok (.ldc2_w 419, 3) ∧ decode cX9_drifted 12 = .ok (.ldiv, 1) ∧ decode cX9_drifted 13 = .ok (.lstore_n 2, 1) ∧ decode cX9_drifted 14 = .ok (.lconst 0, 1) ∧ decode cX9_drifted 15 = .ok (.lload_n 2, 1) ∧ decode cX9_drifted 16 = .ok (.ldc2_w 411, 3) ∧ decode cX9_drifted 19 = .ok (.invokestatic 413, 3) ∧ decode cX9_drifted 22 = .ok (.invokestatic 421, 3) ∧ decode cX9_drifted 25 = .ok (.l2i, 1) ∧ decode cX9_drifted 26 = .ok (.ireturn, 1) ∧ True := dqC_ok (c := cX9_drifted) [(0, 1, some (.iload_n 0)), (1, 1, some (.i2l)), (2, 3, some (.ldc2_w 419)), (5, 1, some (.iload_n 1)), (6, 1, some (.i2l)), (7, 1, some (.lsub)), (8, 1, some (.lmul)), (9, 3, some (.ldc2_w 419)), (12, 1, some (.ldiv)), (13, 1, some (.lstore_n 2)), (14, 1, some (.lconst 0)), (15, 1, some (.lload_n 2)), (16, 3, some (.ldc2_w 411)), (19, 3, some (.invokestatic 413)), (22, 3, some (.invokestatic 421)), (25, 1, some (.l2i)), (26, 1, some (.ireturn))] _ 0 rfl (by decide +kernel)
theorem dX9_drifted_0 : decode cX9_drifted 0 = .ok (.iload_n 0, 1) := dq_g234.1
theorem dX9_drifted_1 : decode cX9_drifted 1 = .ok (.i2l, 1) := dq_g234.2.1
theorem dX9_drifted_2 : decode cX9_drifted 2 = .ok (.ldc2_w 419, 3) := dq_g234.2.2.1
theorem dX9_drifted_5 : decode cX9_drifted 5 = .ok (.iload_n 1, 1) := dq_g234.2.2.2.1
theorem dX9_drifted_6 : decode cX9_drifted 6 = .ok (.i2l, 1) := dq_g234.2.2.2.2.1
theorem dX9_drifted_7 : decode cX9_drifted 7 = .ok (.lsub, 1) := dq_g234.2.2.2.2.2.1
theorem dX9_drifted_8 : decode cX9_drifted 8 = .ok (.lmul, 1) := dq_g234.2.2.2.2.2.2.1
theorem dX9_drifted_9 : decode cX9_drifted 9 = .ok (.ldc2_w 419, 3) := dq_g234.2.2.2.2.2.2.2.1
theorem dX9_drifted_12 : decode cX9_drifted 12 = .ok (.ldiv, 1) := dq_g234.2.2.2.2.2.2.2.2.1
theorem dX9_drifted_13 : decode cX9_drifted 13 = .ok (.lstore_n 2, 1) := dq_g234.2.2.2.2.2.2.2.2.2.1
theorem dX9_drifted_14 : decode cX9_drifted 14 = .ok (.lconst 0, 1) := dq_g234.2.2.2.2.2.2.2.2.2.2.1
theorem dX9_drifted_15 : decode cX9_drifted 15 = .ok (.lload_n 2, 1) := dq_g234.2.2.2.2.2.2.2.2.2.2.2.1
theorem dX9_drifted_16 : decode cX9_drifted 16 = .ok (.ldc2_w 411, 3) := dq_g234.2.2.2.2.2.2.2.2.2.2.2.2.1
theorem dX9_drifted_19 : decode cX9_drifted 19 = .ok (.invokestatic 413, 3) := dq_g234.2.2.2.2.2.2.2.2.2.2.2.2.2.1
theorem dX9_drifted_22 : decode cX9_drifted 22 = .ok (.invokestatic 421, 3) := dq_g234.2.2.2.2.2.2.2.2.2.2.2.2.2.2.1
theorem dX9_drifted_25 : decode cX9_drifted 25 = .ok (.l2i, 1) := dq_g234.2.2.2.2.2.2.2.2.2.2.2.2.2.2.2.1
theorem dX9_drifted_26 : decode cX9_drifted 26 = .ok (.ireturn, 1) := dq_g234.2.2.2.2.2.2.2.2.2.2.2.2.2.2.2.2.1
theorem dq_g235 : decode cX9_air 0 = .ok (.sipush 1000, 3) ∧ decode cX9_air 3 = .ok (.sipush 3310, 3) ∧ decode cX9_air 6 = .ok (.bipush 6, 2) ∧ decode cX9_air 8 = .ok (.iload_n 0, 1) ∧ decode cX9_air 9 = .ok (.imul, 1) ∧ decode cX9_air 10 = .ok (.iadd, 1) ∧ decode cX9_air 11 = .ok (.imul, 1) ∧ decode cX9_air 12 = .ok (.ireturn, 1) ∧ True := dqC_ok (c := cX9_air) [(0, 3, some (.sipush 1000)), (3, 3, some (.sipush 3310)), (6, 2, some (.bipush 6)), (8, 1, some (.iload_n 0)), (9, 1, some (.imul)), (10, 1, some (.iadd)), (11, 1, some (.imul)), (12, 1, some (.ireturn))] _ 0 rfl (by decide +kernel)
theorem dX9_air_0 : decode cX9_air 0 = .ok (.sipush 1000, 3) := dq_g235.1
theorem dX9_air_3 : decode cX9_air 3 = .ok (.sipush 3310, 3) := dq_g235.2.1
theorem dX9_air_6 : decode cX9_air 6 = .ok (.bipush 6, 2) := dq_g235.2.2.1
theorem dX9_air_8 : decode cX9_air 8 = .ok (.iload_n 0, 1) := dq_g235.2.2.2.1
theorem dX9_air_9 : decode cX9_air 9 = .ok (.imul, 1) := dq_g235.2.2.2.2.1
theorem dX9_air_10 : decode cX9_air 10 = .ok (.iadd, 1) := dq_g235.2.2.2.2.2.1
theorem dX9_air_11 : decode cX9_air 11 = .ok (.imul, 1) := dq_g235.2.2.2.2.2.2.1
theorem dX9_air_12 : decode cX9_air 12 = .ok (.ireturn, 1) := dq_g235.2.2.2.2.2.2.2.1
theorem dq_g236 : decode cX9_beat 0 = .ok (.aload_n 0, 1) ∧ decode cX9_beat 1 = .ok (.getfield 272, 3) ∧ decode cX9_beat 4 = .ok (.iload_n 1, 1) ∧ decode cX9_beat 5 = .ok (.iaload, 1) ∧ decode cX9_beat 6 = .ok (.istore 4, 2) ∧ decode cX9_beat 8 = .ok (.iload 4, 2) ∧ decode cX9_beat 10 = .ok (.ifCond .gt 7, 3) ∧ decode cX9_beat 13 = .ok (.iconst 0, 1) ∧ decode cX9_beat 14 = .ok (.goto 15, 3) ∧ decode cX9_beat 17 = .ok (.iload_n 2, 1) ∧ decode cX9_beat 18 = .ok (.invokestatic 424, 3) ∧ decode cX9_beat 21 = .ok (.iload 4, 2) ∧ decode cX9_beat 23 = .ok (.idiv, 1) ∧ decode cX9_beat 24 = .ok (.iload_n 3, 1) ∧ decode cX9_beat 25 = .ok (.isub, 1) ∧ decode cX9_beat 26 = .ok (.invokestatic 362, 3) ∧ decode cX9_beat 29 = .ok (.ireturn, 1) ∧ True := dqC_ok (c := cX9_beat) [(0, 1, some (.aload_n 0)), (1, 3, some (.getfield 272)), (4, 1, some (.iload_n 1)), (5, 1, some (.iaload)), (6, 2, some (.istore 4)), (8, 2, some (.iload 4)), (10, 3, some (.ifCond .gt 7)), (13, 1, some (.iconst 0)), (14, 3, some (.goto 15)), (17, 1, some (.iload_n 2)), (18, 3, some (.invokestatic 424)), (21, 2, some (.iload 4)), (23, 1, some (.idiv)), (24, 1, some (.iload_n 3)), (25, 1, some (.isub)), (26, 3, some (.invokestatic 362)), (29, 1, some (.ireturn))] _ 0 rfl (by decide +kernel)
theorem dX9_beat_0 : decode cX9_beat 0 = .ok (.aload_n 0, 1) := dq_g236.1
theorem dX9_beat_1 : decode cX9_beat 1 = .ok (.getfield 272, 3) := dq_g236.2.1
theorem dX9_beat_4 : decode cX9_beat 4 = .ok (.iload_n 1, 1) := dq_g236.2.2.1
theorem dX9_beat_5 : decode cX9_beat 5 = .ok (.iaload, 1) := dq_g236.2.2.2.1
theorem dX9_beat_6 : decode cX9_beat 6 = .ok (.istore 4, 2) := dq_g236.2.2.2.2.1
theorem dX9_beat_8 : decode cX9_beat 8 = .ok (.iload 4, 2) := dq_g236.2.2.2.2.2.1
theorem dX9_beat_10 : decode cX9_beat 10 = .ok (.ifCond .gt 7, 3) := dq_g236.2.2.2.2.2.2.1
theorem dX9_beat_13 : decode cX9_beat 13 = .ok (.iconst 0, 1) := dq_g236.2.2.2.2.2.2.2.1
theorem dX9_beat_14 : decode cX9_beat 14 = .ok (.goto 15, 3) := dq_g236.2.2.2.2.2.2.2.2.1
theorem dX9_beat_17 : decode cX9_beat 17 = .ok (.iload_n 2, 1) := dq_g236.2.2.2.2.2.2.2.2.2.1
theorem dX9_beat_18 : decode cX9_beat 18 = .ok (.invokestatic 424, 3) := dq_g236.2.2.2.2.2.2.2.2.2.2.1
theorem dX9_beat_21 : decode cX9_beat 21 = .ok (.iload 4, 2) := dq_g236.2.2.2.2.2.2.2.2.2.2.2.1
theorem dX9_beat_23 : decode cX9_beat 23 = .ok (.idiv, 1) := dq_g236.2.2.2.2.2.2.2.2.2.2.2.2.1
theorem dX9_beat_24 : decode cX9_beat 24 = .ok (.iload_n 3, 1) := dq_g236.2.2.2.2.2.2.2.2.2.2.2.2.2.1
theorem dX9_beat_25 : decode cX9_beat 25 = .ok (.isub, 1) := dq_g236.2.2.2.2.2.2.2.2.2.2.2.2.2.2.1
theorem dX9_beat_26 : decode cX9_beat 26 = .ok (.invokestatic 362, 3) := dq_g236.2.2.2.2.2.2.2.2.2.2.2.2.2.2.2.1
theorem dX9_beat_29 : decode cX9_beat 29 = .ok (.ireturn, 1) := dq_g236.2.2.2.2.2.2.2.2.2.2.2.2.2.2.2.2.1
theorem dq_g237 : decode cX9_shortest 0 = .ok (.iload_n 1, 1) ∧ decode cX9_shortest 1 = .ok (.ifCond .ge 7, 3) ∧ decode cX9_shortest 4 = .ok (.iconst 1, 1) ∧ decode cX9_shortest 5 = .ok (.goto 10, 3) ∧ decode cX9_shortest 8 = .ok (.iload_n 0, 1) ∧ decode cX9_shortest 9 = .ok (.iload_n 1, 1) ∧ decode cX9_shortest 10 = .ok (.iconst 1, 1) ∧ decode cX9_shortest 11 = .ok (.iadd, 1) ∧ decode cX9_shortest 12 = .ok (.idiv, 1) ∧ decode cX9_shortest 13 = .ok (.iconst 1, 1) ∧ decode cX9_shortest 14 = .ok (.iadd, 1) ∧ decode cX9_shortest 15 = .ok (.ireturn, 1) ∧ True := dqC_ok (c := cX9_shortest) [(0, 1, some (.iload_n 1)), (1, 3, some (.ifCond .ge 7)), (4, 1, some (.iconst 1)), (5, 3, some (.goto 10)), (8, 1, some (.iload_n 0)), (9, 1, some (.iload_n 1)), (10, 1, some (.iconst 1)), (11, 1, some (.iadd)), (12, 1, some (.idiv)), (13, 1, some (.iconst 1)), (14, 1, some (.iadd)), (15, 1, some (.ireturn))] _ 0 rfl (by decide +kernel)
theorem dX9_shortest_0 : decode cX9_shortest 0 = .ok (.iload_n 1, 1) := dq_g237.1
theorem dX9_shortest_1 : decode cX9_shortest 1 = .ok (.ifCond .ge 7, 3) := dq_g237.2.1
theorem dX9_shortest_4 : decode cX9_shortest 4 = .ok (.iconst 1, 1) := dq_g237.2.2.1
theorem dX9_shortest_5 : decode cX9_shortest 5 = .ok (.goto 10, 3) := dq_g237.2.2.2.1
theorem dX9_shortest_8 : decode cX9_shortest 8 = .ok (.iload_n 0, 1) := dq_g237.2.2.2.2.1
theorem dX9_shortest_9 : decode cX9_shortest 9 = .ok (.iload_n 1, 1) := dq_g237.2.2.2.2.2.1
theorem dX9_shortest_10 : decode cX9_shortest 10 = .ok (.iconst 1, 1) := dq_g237.2.2.2.2.2.2.1
theorem dX9_shortest_11 : decode cX9_shortest 11 = .ok (.iadd, 1) := dq_g237.2.2.2.2.2.2.2.1
theorem dX9_shortest_12 : decode cX9_shortest 12 = .ok (.idiv, 1) := dq_g237.2.2.2.2.2.2.2.2.1
theorem dX9_shortest_13 : decode cX9_shortest 13 = .ok (.iconst 1, 1) := dq_g237.2.2.2.2.2.2.2.2.2.1
theorem dX9_shortest_14 : decode cX9_shortest 14 = .ok (.iadd, 1) := dq_g237.2.2.2.2.2.2.2.2.2.2.1
theorem dX9_shortest_15 : decode cX9_shortest 15 = .ok (.ireturn, 1) := dq_g237.2.2.2.2.2.2.2.2.2.2.2.1
theorem dq_g238 : decode cX9_stopper 0 = .ok (.iload_n 0, 1) ∧ decode cX9_stopper 1 = .ok (.invokestatic 424, 3) ∧ decode cX9_stopper 4 = .ok (.istore_n 2, 1) ∧ decode cX9_stopper 5 = .ok (.iload_n 2, 1) ∧ decode cX9_stopper 6 = .ok (.iload_n 1, 1) ∧ decode cX9_stopper 7 = .ok (.invokestatic 427, 3) ∧ decode cX9_stopper 10 = .ok (.istore_n 3, 1) ∧ decode cX9_stopper 11 = .ok (.iload_n 3, 1) ∧ decode cX9_stopper 12 = .ok (.sipush 9999, 3) ∧ decode cX9_stopper 15 = .ok (.if_icmp .le 13, 3) ∧ decode cX9_stopper 18 = .ok (.iload_n 2, 1) ∧ decode cX9_stopper 19 = .ok (.iload_n 2, 1) ∧ decode cX9_stopper 20 = .ok (.sipush 9999, 3) ∧ decode cX9_stopper 23 = .ok (.idiv, 1) ∧ decode cX9_stopper 24 = .ok (.invokestatic 427, 3) ∧ decode cX9_stopper 27 = .ok (.ireturn, 1) ∧ decode cX9_stopper 28 = .ok (.iload_n 3, 1) ∧ decode cX9_stopper 29 = .ok (.iconst 1, 1) ∧ decode cX9_stopper 30 = .ok (.if_icmp .gt 5, 3) ∧ decode cX9_stopper 33 = .ok (.iconst 1, 1) ∧ decode cX9_stopper 34 = .ok (.ireturn, 1) ∧ decode cX9_stopper 35 = .ok (.iload_n 2, 1) ∧ decode cX9_stopper 36 = .ok (.iload_n 3, 1) ∧ decode cX9_stopper 37 = .ok (.iconst 1, 1) ∧ decode cX9_stopper 38 = .ok (.isub, 1) ∧ decode cX9_stopper 39 = .ok (.idiv, 1) ∧ decode cX9_stopper 40 = .ok (.istore 4, 2) ∧ decode cX9_stopper 42 = .ok (.iload 4, 2) ∧ decode cX9_stopper 44 = .ok (.iload_n 1, 1) ∧ decode cX9_stopper 45 = .ok (.isub, 1) ∧ True := dqC_ok (c := cX9_stopper) [(0, 1, some (.iload_n 0)), (1, 3, some (.invokestatic 424)), (4, 1, some (.istore_n 2)), (5, 1, some (.iload_n 2)), (6, 1, some (.iload_n 1)), (7, 3, some (.invokestatic 427)), (10, 1, some (.istore_n 3)), (11, 1, some (.iload_n 3)), (12, 3, some (.sipush 9999)), (15, 3, some (.if_icmp .le 13)), (18, 1, some (.iload_n 2)), (19, 1, some (.iload_n 2)), (20, 3, some (.sipush 9999)), (23, 1, some (.idiv)), (24, 3, some (.invokestatic 427)), (27, 1, some (.ireturn)), (28, 1, some (.iload_n 3)), (29, 1, some (.iconst 1)), (30, 3, some (.if_icmp .gt 5)), (33, 1, some (.iconst 1)), (34, 1, some (.ireturn)), (35, 1, some (.iload_n 2)), (36, 1, some (.iload_n 3)), (37, 1, some (.iconst 1)), (38, 1, some (.isub)), (39, 1, some (.idiv)), (40, 2, some (.istore 4)), (42, 2, some (.iload 4)), (44, 1, some (.iload_n 1)), (45, 1, some (.isub))] _ 0 rfl (by decide +kernel)
theorem dX9_stopper_0 : decode cX9_stopper 0 = .ok (.iload_n 0, 1) := dq_g238.1
theorem dX9_stopper_1 : decode cX9_stopper 1 = .ok (.invokestatic 424, 3) := dq_g238.2.1
theorem dX9_stopper_4 : decode cX9_stopper 4 = .ok (.istore_n 2, 1) := dq_g238.2.2.1
theorem dX9_stopper_5 : decode cX9_stopper 5 = .ok (.iload_n 2, 1) := dq_g238.2.2.2.1
theorem dX9_stopper_6 : decode cX9_stopper 6 = .ok (.iload_n 1, 1) := dq_g238.2.2.2.2.1
theorem dX9_stopper_7 : decode cX9_stopper 7 = .ok (.invokestatic 427, 3) := dq_g238.2.2.2.2.2.1
theorem dX9_stopper_10 : decode cX9_stopper 10 = .ok (.istore_n 3, 1) := dq_g238.2.2.2.2.2.2.1
theorem dX9_stopper_11 : decode cX9_stopper 11 = .ok (.iload_n 3, 1) := dq_g238.2.2.2.2.2.2.2.1
theorem dX9_stopper_12 : decode cX9_stopper 12 = .ok (.sipush 9999, 3) := dq_g238.2.2.2.2.2.2.2.2.1
theorem dX9_stopper_15 : decode cX9_stopper 15 = .ok (.if_icmp .le 13, 3) := dq_g238.2.2.2.2.2.2.2.2.2.1
theorem dX9_stopper_18 : decode cX9_stopper 18 = .ok (.iload_n 2, 1) := dq_g238.2.2.2.2.2.2.2.2.2.2.1
theorem dX9_stopper_19 : decode cX9_stopper 19 = .ok (.iload_n 2, 1) := dq_g238.2.2.2.2.2.2.2.2.2.2.2.1
theorem dX9_stopper_20 : decode cX9_stopper 20 = .ok (.sipush 9999, 3) := dq_g238.2.2.2.2.2.2.2.2.2.2.2.2.1
theorem dX9_stopper_23 : decode cX9_stopper 23 = .ok (.idiv, 1) := dq_g238.2.2.2.2.2.2.2.2.2.2.2.2.2.1
theorem dX9_stopper_24 : decode cX9_stopper 24 = .ok (.invokestatic 427, 3) := dq_g238.2.2.2.2.2.2.2.2.2.2.2.2.2.2.1
theorem dX9_stopper_27 : decode cX9_stopper 27 = .ok (.ireturn, 1) := dq_g238.2.2.2.2.2.2.2.2.2.2.2.2.2.2.2.1
theorem dX9_stopper_28 : decode cX9_stopper 28 = .ok (.iload_n 3, 1) := dq_g238.2.2.2.2.2.2.2.2.2.2.2.2.2.2.2.2.1
theorem dX9_stopper_29 : decode cX9_stopper 29 = .ok (.iconst 1, 1) := dq_g238.2.2.2.2.2.2.2.2.2.2.2.2.2.2.2.2.2.1
theorem dX9_stopper_30 : decode cX9_stopper 30 = .ok (.if_icmp .gt 5, 3) := dq_g238.2.2.2.2.2.2.2.2.2.2.2.2.2.2.2.2.2.2.1
theorem dX9_stopper_33 : decode cX9_stopper 33 = .ok (.iconst 1, 1) := dq_g238.2.2.2.2.2.2.2.2.2.2.2.2.2.2.2.2.2.2.2.1
theorem dX9_stopper_34 : decode cX9_stopper 34 = .ok (.ireturn, 1) := dq_g238.2.2.2.2.2.2.2.2.2.2.2.2.2.2.2.2.2.2.2.2.1
theorem dX9_stopper_35 : decode cX9_stopper 35 = .ok (.iload_n 2, 1) := dq_g238.2.2.2.2.2.2.2.2.2.2.2.2.2.2.2.2.2.2.2.2.2.1
theorem dX9_stopper_36 : decode cX9_stopper 36 = .ok (.iload_n 3, 1) := dq_g238.2.2.2.2.2.2.2.2.2.2.2.2.2.2.2.2.2.2.2.2.2.2.1
theorem dX9_stopper_37 : decode cX9_stopper 37 = .ok (.iconst 1, 1) := dq_g238.2.2.2.2.2.2.2.2.2.2.2.2.2.2.2.2.2.2.2.2.2.2.2.1
theorem dX9_stopper_38 : decode cX9_stopper 38 = .ok (.isub, 1) := dq_g238.2.2.2.2.2.2.2.2.2.2.2.2.2.2.2.2.2.2.2.2.2.2.2.2.1
theorem dX9_stopper_39 : decode cX9_stopper 39 = .ok (.idiv, 1) := dq_g238.2.2.2.2.2.2.2.2.2.2.2.2.2.2.2.2.2.2.2.2.2.2.2.2.2.1
theorem dX9_stopper_40 : decode cX9_stopper 40 = .ok (.istore 4, 2) := dq_g238.2.2.2.2.2.2.2.2.2.2.2.2.2.2.2.2.2.2.2.2.2.2.2.2.2.2.1
theorem dX9_stopper_42 : decode cX9_stopper 42 = .ok (.iload 4, 2) := dq_g238.2.2.2.2.2.2.2.2.2.2.2.2.2.2.2.2.2.2.2.2.2.2.2.2.2.2.2.1
theorem dX9_stopper_44 : decode cX9_stopper 44 = .ok (.iload_n 1, 1) := dq_g238.2.2.2.2.2.2.2.2.2.2.2.2.2.2.2.2.2.2.2.2.2.2.2.2.2.2.2.2.1
theorem dX9_stopper_45 : decode cX9_stopper 45 = .ok (.isub, 1) := dq_g238.2.2.2.2.2.2.2.2.2.2.2.2.2.2.2.2.2.2.2.2.2.2.2.2.2.2.2.2.2.1
theorem dq_g239 : decode cX9_stopper 46 = .ok (.iload_n 1, 1) ∧ decode cX9_stopper 47 = .ok (.iload_n 2, 1) ∧ decode cX9_stopper 48 = .ok (.iload_n 3, 1) ∧ decode cX9_stopper 49 = .ok (.idiv, 1) ∧ decode cX9_stopper 50 = .ok (.isub, 1) ∧ decode cX9_stopper 51 = .ok (.if_icmp .gt 12, 3) ∧ decode cX9_stopper 54 = .ok (.iload_n 2, 1) ∧ decode cX9_stopper 55 = .ok (.iload 4, 2) ∧ decode cX9_stopper 57 = .ok (.invokestatic 427, 3) ∧ decode cX9_stopper 60 = .ok (.goto 4, 3) ∧ decode cX9_stopper 63 = .ok (.iload_n 3, 1) ∧ decode cX9_stopper 64 = .ok (.ireturn, 1) ∧ True := dqC_ok (c := cX9_stopper) [(46, 1, some (.iload_n 1)), (47, 1, some (.iload_n 2)), (48, 1, some (.iload_n 3)), (49, 1, some (.idiv)), (50, 1, some (.isub)), (51, 3, some (.if_icmp .gt 12)), (54, 1, some (.iload_n 2)), (55, 2, some (.iload 4)), (57, 3, some (.invokestatic 427)), (60, 3, some (.goto 4)), (63, 1, some (.iload_n 3)), (64, 1, some (.ireturn))] _ 46 rfl (by decide +kernel)
theorem dX9_stopper_46 : decode cX9_stopper 46 = .ok (.iload_n 1, 1) := dq_g239.1
theorem dX9_stopper_47 : decode cX9_stopper 47 = .ok (.iload_n 2, 1) := dq_g239.2.1
theorem dX9_stopper_48 : decode cX9_stopper 48 = .ok (.iload_n 3, 1) := dq_g239.2.2.1
theorem dX9_stopper_49 : decode cX9_stopper 49 = .ok (.idiv, 1) := dq_g239.2.2.2.1
theorem dX9_stopper_50 : decode cX9_stopper 50 = .ok (.isub, 1) := dq_g239.2.2.2.2.1
theorem dX9_stopper_51 : decode cX9_stopper 51 = .ok (.if_icmp .gt 12, 3) := dq_g239.2.2.2.2.2.1
theorem dX9_stopper_54 : decode cX9_stopper 54 = .ok (.iload_n 2, 1) := dq_g239.2.2.2.2.2.2.1
theorem dX9_stopper_55 : decode cX9_stopper 55 = .ok (.iload 4, 2) := dq_g239.2.2.2.2.2.2.2.1
theorem dX9_stopper_57 : decode cX9_stopper 57 = .ok (.invokestatic 427, 3) := dq_g239.2.2.2.2.2.2.2.2.1
theorem dX9_stopper_60 : decode cX9_stopper 60 = .ok (.goto 4, 3) := dq_g239.2.2.2.2.2.2.2.2.2.1
theorem dX9_stopper_63 : decode cX9_stopper 63 = .ok (.iload_n 3, 1) := dq_g239.2.2.2.2.2.2.2.2.2.2.1
theorem dX9_stopper_64 : decode cX9_stopper 64 = .ok (.ireturn, 1) := dq_g239.2.2.2.2.2.2.2.2.2.2.2.1
theorem dq_g240 : decode cX9_fillLowTones 0 = .ok (.iconst 0, 1) ∧ decode cX9_fillLowTones 1 = .ok (.istore_n 1, 1) ∧ decode cX9_fillLowTones 2 = .ok (.iload_n 1, 1) ∧ decode cX9_fillLowTones 3 = .ok (.aload_n 0, 1) ∧ decode cX9_fillLowTones 4 = .ok (.getfield 12, 3) ∧ decode cX9_fillLowTones 7 = .ok (.getfield 64, 3) ∧ decode cX9_fillLowTones 10 = .ok (.if_icmp .ge 29, 3) ∧ decode cX9_fillLowTones 13 = .ok (.aload_n 0, 1) ∧ decode cX9_fillLowTones 14 = .ok (.getfield 55, 3) ∧ decode cX9_fillLowTones 17 = .ok (.iload_n 1, 1) ∧ decode cX9_fillLowTones 18 = .ok (.aload_n 0, 1) ∧ decode cX9_fillLowTones 19 = .ok (.aload_n 0, 1) ∧ decode cX9_fillLowTones 20 = .ok (.getfield 12, 3) ∧ decode cX9_fillLowTones 23 = .ok (.getfield 68, 3) ∧ decode cX9_fillLowTones 26 = .ok (.iload_n 1, 1) ∧ decode cX9_fillLowTones 27 = .ok (.aaload, 1) ∧ decode cX9_fillLowTones 28 = .ok (.iconst 0, 1) ∧ decode cX9_fillLowTones 29 = .ok (.invokevirtual 166, 3) ∧ decode cX9_fillLowTones 32 = .ok (.iastore, 1) ∧ decode cX9_fillLowTones 33 = .ok (.iinc 1 1, 3) ∧ decode cX9_fillLowTones 36 = .ok (.goto (-34), 3) ∧ decode cX9_fillLowTones 39 = .ok (.return_, 1) ∧ True := dqC_ok (c := cX9_fillLowTones) [(0, 1, some (.iconst 0)), (1, 1, some (.istore_n 1)), (2, 1, some (.iload_n 1)), (3, 1, some (.aload_n 0)), (4, 3, some (.getfield 12)), (7, 3, some (.getfield 64)), (10, 3, some (.if_icmp .ge 29)), (13, 1, some (.aload_n 0)), (14, 3, some (.getfield 55)), (17, 1, some (.iload_n 1)), (18, 1, some (.aload_n 0)), (19, 1, some (.aload_n 0)), (20, 3, some (.getfield 12)), (23, 3, some (.getfield 68)), (26, 1, some (.iload_n 1)), (27, 1, some (.aaload)), (28, 1, some (.iconst 0)), (29, 3, some (.invokevirtual 166)), (32, 1, some (.iastore)), (33, 3, some (.iinc 1 1)), (36, 3, some (.goto (-34))), (39, 1, some (.return_))] _ 0 rfl (by decide +kernel)
theorem dX9_fillLowTones_0 : decode cX9_fillLowTones 0 = .ok (.iconst 0, 1) := dq_g240.1
theorem dX9_fillLowTones_1 : decode cX9_fillLowTones 1 = .ok (.istore_n 1, 1) := dq_g240.2.1
theorem dX9_fillLowTones_2 : decode cX9_fillLowTones 2 = .ok (.iload_n 1, 1) := dq_g240.2.2.1
theorem dX9_fillLowTones_3 : decode cX9_fillLowTones 3 = .ok (.aload_n 0, 1) := dq_g240.2.2.2.1
theorem dX9_fillLowTones_4 : decode cX9_fillLowTones 4 = .ok (.getfield 12, 3) := dq_g240.2.2.2.2.1
theorem dX9_fillLowTones_7 : decode cX9_fillLowTones 7 = .ok (.getfield 64, 3) := dq_g240.2.2.2.2.2.1
theorem dX9_fillLowTones_10 : decode cX9_fillLowTones 10 = .ok (.if_icmp .ge 29, 3) := dq_g240.2.2.2.2.2.2.1
theorem dX9_fillLowTones_13 : decode cX9_fillLowTones 13 = .ok (.aload_n 0, 1) := dq_g240.2.2.2.2.2.2.2.1
theorem dX9_fillLowTones_14 : decode cX9_fillLowTones 14 = .ok (.getfield 55, 3) := dq_g240.2.2.2.2.2.2.2.2.1
theorem dX9_fillLowTones_17 : decode cX9_fillLowTones 17 = .ok (.iload_n 1, 1) := dq_g240.2.2.2.2.2.2.2.2.2.1
theorem dX9_fillLowTones_18 : decode cX9_fillLowTones 18 = .ok (.aload_n 0, 1) := dq_g240.2.2.2.2.2.2.2.2.2.2.1
theorem dX9_fillLowTones_19 : decode cX9_fillLowTones 19 = .ok (.aload_n 0, 1) := dq_g240.2.2.2.2.2.2.2.2.2.2.2.1
theorem dX9_fillLowTones_20 : decode cX9_fillLowTones 20 = .ok (.getfield 12, 3) := dq_g240.2.2.2.2.2.2.2.2.2.2.2.2.1
theorem dX9_fillLowTones_23 : decode cX9_fillLowTones 23 = .ok (.getfield 68, 3) := dq_g240.2.2.2.2.2.2.2.2.2.2.2.2.2.1
theorem dX9_fillLowTones_26 : decode cX9_fillLowTones 26 = .ok (.iload_n 1, 1) := dq_g240.2.2.2.2.2.2.2.2.2.2.2.2.2.2.1
theorem dX9_fillLowTones_27 : decode cX9_fillLowTones 27 = .ok (.aaload, 1) := dq_g240.2.2.2.2.2.2.2.2.2.2.2.2.2.2.2.1
theorem dX9_fillLowTones_28 : decode cX9_fillLowTones 28 = .ok (.iconst 0, 1) := dq_g240.2.2.2.2.2.2.2.2.2.2.2.2.2.2.2.2.1
theorem dX9_fillLowTones_29 : decode cX9_fillLowTones 29 = .ok (.invokevirtual 166, 3) := dq_g240.2.2.2.2.2.2.2.2.2.2.2.2.2.2.2.2.2.1
theorem dX9_fillLowTones_32 : decode cX9_fillLowTones 32 = .ok (.iastore, 1) := dq_g240.2.2.2.2.2.2.2.2.2.2.2.2.2.2.2.2.2.2.1
theorem dX9_fillLowTones_33 : decode cX9_fillLowTones 33 = .ok (.iinc 1 1, 3) := dq_g240.2.2.2.2.2.2.2.2.2.2.2.2.2.2.2.2.2.2.2.1
theorem dX9_fillLowTones_36 : decode cX9_fillLowTones 36 = .ok (.goto (-34), 3) := dq_g240.2.2.2.2.2.2.2.2.2.2.2.2.2.2.2.2.2.2.2.2.1
theorem dX9_fillLowTones_39 : decode cX9_fillLowTones 39 = .ok (.return_, 1) := dq_g240.2.2.2.2.2.2.2.2.2.2.2.2.2.2.2.2.2.2.2.2.2.1
theorem dq_g241 : decode cX9_beatIn 0 = .ok (.aload_n 0, 1) ∧ decode cX9_beatIn 1 = .ok (.getfield 12, 3) ∧ decode cX9_beatIn 4 = .ok (.getfield 68, 3) ∧ decode cX9_beatIn 7 = .ok (.iload_n 2, 1) ∧ decode cX9_beatIn 8 = .ok (.aaload, 1) ∧ decode cX9_beatIn 9 = .ok (.iload_n 3, 1) ∧ decode cX9_beatIn 10 = .ok (.aload_n 0, 1) ∧ decode cX9_beatIn 11 = .ok (.getfield 12, 3) ∧ decode cX9_beatIn 14 = .ok (.getfield 296, 3) ∧ decode cX9_beatIn 17 = .ok (.iload_n 1, 1) ∧ decode cX9_beatIn 18 = .ok (.iaload, 1) ∧ decode cX9_beatIn 19 = .ok (.aload_n 0, 1) ∧ decode cX9_beatIn 20 = .ok (.getfield 55, 3) ∧ decode cX9_beatIn 23 = .ok (.iload_n 2, 1) ∧ decode cX9_beatIn 24 = .ok (.iaload, 1) ∧ decode cX9_beatIn 25 = .ok (.iload 4, 2) ∧ decode cX9_beatIn 27 = .ok (.invokestatic 283, 3) ∧ decode cX9_beatIn 30 = .ok (.invokestatic 286, 3) ∧ decode cX9_beatIn 33 = .ok (.ireturn, 1) ∧ True := dqC_ok (c := cX9_beatIn) [(0, 1, some (.aload_n 0)), (1, 3, some (.getfield 12)), (4, 3, some (.getfield 68)), (7, 1, some (.iload_n 2)), (8, 1, some (.aaload)), (9, 1, some (.iload_n 3)), (10, 1, some (.aload_n 0)), (11, 3, some (.getfield 12)), (14, 3, some (.getfield 296)), (17, 1, some (.iload_n 1)), (18, 1, some (.iaload)), (19, 1, some (.aload_n 0)), (20, 3, some (.getfield 55)), (23, 1, some (.iload_n 2)), (24, 1, some (.iaload)), (25, 2, some (.iload 4)), (27, 3, some (.invokestatic 283)), (30, 3, some (.invokestatic 286)), (33, 1, some (.ireturn))] _ 0 rfl (by decide +kernel)
theorem dX9_beatIn_0 : decode cX9_beatIn 0 = .ok (.aload_n 0, 1) := dq_g241.1
theorem dX9_beatIn_1 : decode cX9_beatIn 1 = .ok (.getfield 12, 3) := dq_g241.2.1
theorem dX9_beatIn_4 : decode cX9_beatIn 4 = .ok (.getfield 68, 3) := dq_g241.2.2.1
theorem dX9_beatIn_7 : decode cX9_beatIn 7 = .ok (.iload_n 2, 1) := dq_g241.2.2.2.1
theorem dX9_beatIn_8 : decode cX9_beatIn 8 = .ok (.aaload, 1) := dq_g241.2.2.2.2.1
theorem dX9_beatIn_9 : decode cX9_beatIn 9 = .ok (.iload_n 3, 1) := dq_g241.2.2.2.2.2.1
theorem dX9_beatIn_10 : decode cX9_beatIn 10 = .ok (.aload_n 0, 1) := dq_g241.2.2.2.2.2.2.1
theorem dX9_beatIn_11 : decode cX9_beatIn 11 = .ok (.getfield 12, 3) := dq_g241.2.2.2.2.2.2.2.1
theorem dX9_beatIn_14 : decode cX9_beatIn 14 = .ok (.getfield 296, 3) := dq_g241.2.2.2.2.2.2.2.2.1
theorem dX9_beatIn_17 : decode cX9_beatIn 17 = .ok (.iload_n 1, 1) := dq_g241.2.2.2.2.2.2.2.2.2.1
theorem dX9_beatIn_18 : decode cX9_beatIn 18 = .ok (.iaload, 1) := dq_g241.2.2.2.2.2.2.2.2.2.2.1
theorem dX9_beatIn_19 : decode cX9_beatIn 19 = .ok (.aload_n 0, 1) := dq_g241.2.2.2.2.2.2.2.2.2.2.2.1
theorem dX9_beatIn_20 : decode cX9_beatIn 20 = .ok (.getfield 55, 3) := dq_g241.2.2.2.2.2.2.2.2.2.2.2.2.1
theorem dX9_beatIn_23 : decode cX9_beatIn 23 = .ok (.iload_n 2, 1) := dq_g241.2.2.2.2.2.2.2.2.2.2.2.2.2.1
theorem dX9_beatIn_24 : decode cX9_beatIn 24 = .ok (.iaload, 1) := dq_g241.2.2.2.2.2.2.2.2.2.2.2.2.2.2.1
theorem dX9_beatIn_25 : decode cX9_beatIn 25 = .ok (.iload 4, 2) := dq_g241.2.2.2.2.2.2.2.2.2.2.2.2.2.2.2.1
theorem dX9_beatIn_27 : decode cX9_beatIn 27 = .ok (.invokestatic 283, 3) := dq_g241.2.2.2.2.2.2.2.2.2.2.2.2.2.2.2.2.1
theorem dX9_beatIn_30 : decode cX9_beatIn 30 = .ok (.invokestatic 286, 3) := dq_g241.2.2.2.2.2.2.2.2.2.2.2.2.2.2.2.2.2.1
theorem dX9_beatIn_33 : decode cX9_beatIn 33 = .ok (.ireturn, 1) := dq_g241.2.2.2.2.2.2.2.2.2.2.2.2.2.2.2.2.2.2.1
theorem dq_g242 : decode cX9_worst 0 = .ok (.aload_n 0, 1) ∧ decode cX9_worst 1 = .ok (.aload_n 0, 1) ∧ decode cX9_worst 2 = .ok (.getfield 12, 3) ∧ decode cX9_worst 5 = .ok (.getfield 296, 3) ∧ decode cX9_worst 8 = .ok (.iload_n 1, 1) ∧ decode cX9_worst 9 = .ok (.iaload, 1) ∧ decode cX9_worst 10 = .ok (.aload_n 0, 1) ∧ decode cX9_worst 11 = .ok (.getfield 12, 3) ∧ decode cX9_worst 14 = .ok (.getfield 299, 3) ∧ decode cX9_worst 17 = .ok (.iload_n 1, 1) ∧ decode cX9_worst 18 = .ok (.iaload, 1) ∧ decode cX9_worst 19 = .ok (.invokevirtual 279, 3) ∧ decode cX9_worst 22 = .ok (.istore_n 3, 1) ∧ decode cX9_worst 23 = .ok (.iconst (-1), 1) ∧ decode cX9_worst 24 = .ok (.istore 4, 2) ∧ decode cX9_worst 26 = .ok (.iconst (-1), 1) ∧ decode cX9_worst 27 = .ok (.istore 5, 2) ∧ decode cX9_worst 29 = .ok (.iconst 0, 1) ∧ decode cX9_worst 30 = .ok (.istore 6, 2) ∧ decode cX9_worst 32 = .ok (.iload 6, 2) ∧ decode cX9_worst 34 = .ok (.aload_n 0, 1) ∧ decode cX9_worst 35 = .ok (.getfield 12, 3) ∧ decode cX9_worst 38 = .ok (.getfield 64, 3) ∧ decode cX9_worst 41 = .ok (.if_icmp .ge 35, 3) ∧ decode cX9_worst 44 = .ok (.aload_n 0, 1) ∧ decode cX9_worst 45 = .ok (.iload_n 1, 1) ∧ decode cX9_worst 46 = .ok (.iload 6, 2) ∧ decode cX9_worst 48 = .ok (.iload_n 2, 1) ∧ decode cX9_worst 49 = .ok (.iload_n 3, 1) ∧ decode cX9_worst 50 = .ok (.invokevirtual 430, 3) ∧ True := dqC_ok (c := cX9_worst) [(0, 1, some (.aload_n 0)), (1, 1, some (.aload_n 0)), (2, 3, some (.getfield 12)), (5, 3, some (.getfield 296)), (8, 1, some (.iload_n 1)), (9, 1, some (.iaload)), (10, 1, some (.aload_n 0)), (11, 3, some (.getfield 12)), (14, 3, some (.getfield 299)), (17, 1, some (.iload_n 1)), (18, 1, some (.iaload)), (19, 3, some (.invokevirtual 279)), (22, 1, some (.istore_n 3)), (23, 1, some (.iconst (-1))), (24, 2, some (.istore 4)), (26, 1, some (.iconst (-1))), (27, 2, some (.istore 5)), (29, 1, some (.iconst 0)), (30, 2, some (.istore 6)), (32, 2, some (.iload 6)), (34, 1, some (.aload_n 0)), (35, 3, some (.getfield 12)), (38, 3, some (.getfield 64)), (41, 3, some (.if_icmp .ge 35)), (44, 1, some (.aload_n 0)), (45, 1, some (.iload_n 1)), (46, 2, some (.iload 6)), (48, 1, some (.iload_n 2)), (49, 1, some (.iload_n 3)), (50, 3, some (.invokevirtual 430))] _ 0 rfl (by decide +kernel)
theorem dX9_worst_0 : decode cX9_worst 0 = .ok (.aload_n 0, 1) := dq_g242.1
theorem dX9_worst_1 : decode cX9_worst 1 = .ok (.aload_n 0, 1) := dq_g242.2.1
theorem dX9_worst_2 : decode cX9_worst 2 = .ok (.getfield 12, 3) := dq_g242.2.2.1
theorem dX9_worst_5 : decode cX9_worst 5 = .ok (.getfield 296, 3) := dq_g242.2.2.2.1
theorem dX9_worst_8 : decode cX9_worst 8 = .ok (.iload_n 1, 1) := dq_g242.2.2.2.2.1
theorem dX9_worst_9 : decode cX9_worst 9 = .ok (.iaload, 1) := dq_g242.2.2.2.2.2.1
theorem dX9_worst_10 : decode cX9_worst 10 = .ok (.aload_n 0, 1) := dq_g242.2.2.2.2.2.2.1
theorem dX9_worst_11 : decode cX9_worst 11 = .ok (.getfield 12, 3) := dq_g242.2.2.2.2.2.2.2.1
theorem dX9_worst_14 : decode cX9_worst 14 = .ok (.getfield 299, 3) := dq_g242.2.2.2.2.2.2.2.2.1
theorem dX9_worst_17 : decode cX9_worst 17 = .ok (.iload_n 1, 1) := dq_g242.2.2.2.2.2.2.2.2.2.1
theorem dX9_worst_18 : decode cX9_worst 18 = .ok (.iaload, 1) := dq_g242.2.2.2.2.2.2.2.2.2.2.1
theorem dX9_worst_19 : decode cX9_worst 19 = .ok (.invokevirtual 279, 3) := dq_g242.2.2.2.2.2.2.2.2.2.2.2.1
theorem dX9_worst_22 : decode cX9_worst 22 = .ok (.istore_n 3, 1) := dq_g242.2.2.2.2.2.2.2.2.2.2.2.2.1
theorem dX9_worst_23 : decode cX9_worst 23 = .ok (.iconst (-1), 1) := dq_g242.2.2.2.2.2.2.2.2.2.2.2.2.2.1
theorem dX9_worst_24 : decode cX9_worst 24 = .ok (.istore 4, 2) := dq_g242.2.2.2.2.2.2.2.2.2.2.2.2.2.2.1
theorem dX9_worst_26 : decode cX9_worst 26 = .ok (.iconst (-1), 1) := dq_g242.2.2.2.2.2.2.2.2.2.2.2.2.2.2.2.1
theorem dX9_worst_27 : decode cX9_worst 27 = .ok (.istore 5, 2) := dq_g242.2.2.2.2.2.2.2.2.2.2.2.2.2.2.2.2.1
theorem dX9_worst_29 : decode cX9_worst 29 = .ok (.iconst 0, 1) := dq_g242.2.2.2.2.2.2.2.2.2.2.2.2.2.2.2.2.2.1
theorem dX9_worst_30 : decode cX9_worst 30 = .ok (.istore 6, 2) := dq_g242.2.2.2.2.2.2.2.2.2.2.2.2.2.2.2.2.2.2.1
theorem dX9_worst_32 : decode cX9_worst 32 = .ok (.iload 6, 2) := dq_g242.2.2.2.2.2.2.2.2.2.2.2.2.2.2.2.2.2.2.2.1
theorem dX9_worst_34 : decode cX9_worst 34 = .ok (.aload_n 0, 1) := dq_g242.2.2.2.2.2.2.2.2.2.2.2.2.2.2.2.2.2.2.2.2.1
theorem dX9_worst_35 : decode cX9_worst 35 = .ok (.getfield 12, 3) := dq_g242.2.2.2.2.2.2.2.2.2.2.2.2.2.2.2.2.2.2.2.2.2.1
theorem dX9_worst_38 : decode cX9_worst 38 = .ok (.getfield 64, 3) := dq_g242.2.2.2.2.2.2.2.2.2.2.2.2.2.2.2.2.2.2.2.2.2.2.1
theorem dX9_worst_41 : decode cX9_worst 41 = .ok (.if_icmp .ge 35, 3) := dq_g242.2.2.2.2.2.2.2.2.2.2.2.2.2.2.2.2.2.2.2.2.2.2.2.1
theorem dX9_worst_44 : decode cX9_worst 44 = .ok (.aload_n 0, 1) := dq_g242.2.2.2.2.2.2.2.2.2.2.2.2.2.2.2.2.2.2.2.2.2.2.2.2.1
theorem dX9_worst_45 : decode cX9_worst 45 = .ok (.iload_n 1, 1) := dq_g242.2.2.2.2.2.2.2.2.2.2.2.2.2.2.2.2.2.2.2.2.2.2.2.2.2.1
theorem dX9_worst_46 : decode cX9_worst 46 = .ok (.iload 6, 2) := dq_g242.2.2.2.2.2.2.2.2.2.2.2.2.2.2.2.2.2.2.2.2.2.2.2.2.2.2.1
theorem dX9_worst_48 : decode cX9_worst 48 = .ok (.iload_n 2, 1) := dq_g242.2.2.2.2.2.2.2.2.2.2.2.2.2.2.2.2.2.2.2.2.2.2.2.2.2.2.2.1
theorem dX9_worst_49 : decode cX9_worst 49 = .ok (.iload_n 3, 1) := dq_g242.2.2.2.2.2.2.2.2.2.2.2.2.2.2.2.2.2.2.2.2.2.2.2.2.2.2.2.2.1
theorem dX9_worst_50 : decode cX9_worst 50 = .ok (.invokevirtual 430, 3) := dq_g242.2.2.2.2.2.2.2.2.2.2.2.2.2.2.2.2.2.2.2.2.2.2.2.2.2.2.2.2.2.1
theorem dq_g243 : decode cX9_worst 53 = .ok (.istore 7, 2) ∧ decode cX9_worst 55 = .ok (.iload 7, 2) ∧ decode cX9_worst 57 = .ok (.iload 5, 2) ∧ decode cX9_worst 59 = .ok (.if_icmp .le 11, 3) ∧ decode cX9_worst 62 = .ok (.iload 7, 2) ∧ decode cX9_worst 64 = .ok (.istore 5, 2) ∧ decode cX9_worst 66 = .ok (.iload 6, 2) ∧ decode cX9_worst 68 = .ok (.istore 4, 2) ∧ decode cX9_worst 70 = .ok (.iinc 6 1, 3) ∧ decode cX9_worst 73 = .ok (.goto (-41), 3) ∧ decode cX9_worst 76 = .ok (.iload 4, 2) ∧ decode cX9_worst 78 = .ok (.ireturn, 1) ∧ True := dqC_ok (c := cX9_worst) [(53, 2, some (.istore 7)), (55, 2, some (.iload 7)), (57, 2, some (.iload 5)), (59, 3, some (.if_icmp .le 11)), (62, 2, some (.iload 7)), (64, 2, some (.istore 5)), (66, 2, some (.iload 6)), (68, 2, some (.istore 4)), (70, 3, some (.iinc 6 1)), (73, 3, some (.goto (-41))), (76, 2, some (.iload 4)), (78, 1, some (.ireturn))] _ 53 rfl (by decide +kernel)
theorem dX9_worst_53 : decode cX9_worst 53 = .ok (.istore 7, 2) := dq_g243.1
theorem dX9_worst_55 : decode cX9_worst 55 = .ok (.iload 7, 2) := dq_g243.2.1
theorem dX9_worst_57 : decode cX9_worst 57 = .ok (.iload 5, 2) := dq_g243.2.2.1
theorem dX9_worst_59 : decode cX9_worst 59 = .ok (.if_icmp .le 11, 3) := dq_g243.2.2.2.1
theorem dX9_worst_62 : decode cX9_worst 62 = .ok (.iload 7, 2) := dq_g243.2.2.2.2.1
theorem dX9_worst_64 : decode cX9_worst 64 = .ok (.istore 5, 2) := dq_g243.2.2.2.2.2.1
theorem dX9_worst_66 : decode cX9_worst 66 = .ok (.iload 6, 2) := dq_g243.2.2.2.2.2.2.1
theorem dX9_worst_68 : decode cX9_worst 68 = .ok (.istore 4, 2) := dq_g243.2.2.2.2.2.2.2.1
theorem dX9_worst_70 : decode cX9_worst 70 = .ok (.iinc 6 1, 3) := dq_g243.2.2.2.2.2.2.2.2.1
theorem dX9_worst_73 : decode cX9_worst 73 = .ok (.goto (-41), 3) := dq_g243.2.2.2.2.2.2.2.2.2.1
theorem dX9_worst_76 : decode cX9_worst 76 = .ok (.iload 4, 2) := dq_g243.2.2.2.2.2.2.2.2.2.2.1
theorem dX9_worst_78 : decode cX9_worst 78 = .ok (.ireturn, 1) := dq_g243.2.2.2.2.2.2.2.2.2.2.2.1
theorem dq_g244 : decode cX9_suiting 0 = .ok (.aload_n 0, 1) ∧ decode cX9_suiting 1 = .ok (.iload_n 1, 1) ∧ decode cX9_suiting 2 = .ok (.iconst 0, 1) ∧ decode cX9_suiting 3 = .ok (.invokevirtual 308, 3) ∧ decode cX9_suiting 6 = .ok (.istore_n 2, 1) ∧ decode cX9_suiting 7 = .ok (.aload_n 0, 1) ∧ decode cX9_suiting 8 = .ok (.iload_n 1, 1) ∧ decode cX9_suiting 9 = .ok (.iconst 1, 1) ∧ decode cX9_suiting 10 = .ok (.invokevirtual 308, 3) ∧ decode cX9_suiting 13 = .ok (.istore_n 3, 1) ∧ decode cX9_suiting 14 = .ok (.iload_n 2, 1) ∧ decode cX9_suiting 15 = .ok (.iconst (-1), 1) ∧ decode cX9_suiting 16 = .ok (.if_icmp .eq 8, 3) ∧ decode cX9_suiting 19 = .ok (.iload_n 3, 1) ∧ decode cX9_suiting 20 = .ok (.iconst (-1), 1) ∧ decode cX9_suiting 21 = .ok (.if_icmp .ne 5, 3) ∧ decode cX9_suiting 24 = .ok (.iconst 0, 1) ∧ decode cX9_suiting 25 = .ok (.ireturn, 1) ∧ decode cX9_suiting 26 = .ok (.aload_n 0, 1) ∧ decode cX9_suiting 27 = .ok (.aload_n 0, 1) ∧ decode cX9_suiting 28 = .ok (.getfield 12, 3) ∧ decode cX9_suiting 31 = .ok (.getfield 296, 3) ∧ decode cX9_suiting 34 = .ok (.iload_n 1, 1) ∧ decode cX9_suiting 35 = .ok (.iaload, 1) ∧ decode cX9_suiting 36 = .ok (.aload_n 0, 1) ∧ decode cX9_suiting 37 = .ok (.getfield 12, 3) ∧ decode cX9_suiting 40 = .ok (.getfield 299, 3) ∧ decode cX9_suiting 43 = .ok (.iload_n 1, 1) ∧ decode cX9_suiting 44 = .ok (.iaload, 1) ∧ decode cX9_suiting 45 = .ok (.invokevirtual 279, 3) ∧ True := dqC_ok (c := cX9_suiting) [(0, 1, some (.aload_n 0)), (1, 1, some (.iload_n 1)), (2, 1, some (.iconst 0)), (3, 3, some (.invokevirtual 308)), (6, 1, some (.istore_n 2)), (7, 1, some (.aload_n 0)), (8, 1, some (.iload_n 1)), (9, 1, some (.iconst 1)), (10, 3, some (.invokevirtual 308)), (13, 1, some (.istore_n 3)), (14, 1, some (.iload_n 2)), (15, 1, some (.iconst (-1))), (16, 3, some (.if_icmp .eq 8)), (19, 1, some (.iload_n 3)), (20, 1, some (.iconst (-1))), (21, 3, some (.if_icmp .ne 5)), (24, 1, some (.iconst 0)), (25, 1, some (.ireturn)), (26, 1, some (.aload_n 0)), (27, 1, some (.aload_n 0)), (28, 3, some (.getfield 12)), (31, 3, some (.getfield 296)), (34, 1, some (.iload_n 1)), (35, 1, some (.iaload)), (36, 1, some (.aload_n 0)), (37, 3, some (.getfield 12)), (40, 3, some (.getfield 299)), (43, 1, some (.iload_n 1)), (44, 1, some (.iaload)), (45, 3, some (.invokevirtual 279))] _ 0 rfl (by decide +kernel)
theorem dX9_suiting_0 : decode cX9_suiting 0 = .ok (.aload_n 0, 1) := dq_g244.1
theorem dX9_suiting_1 : decode cX9_suiting 1 = .ok (.iload_n 1, 1) := dq_g244.2.1
theorem dX9_suiting_2 : decode cX9_suiting 2 = .ok (.iconst 0, 1) := dq_g244.2.2.1
theorem dX9_suiting_3 : decode cX9_suiting 3 = .ok (.invokevirtual 308, 3) := dq_g244.2.2.2.1
theorem dX9_suiting_6 : decode cX9_suiting 6 = .ok (.istore_n 2, 1) := dq_g244.2.2.2.2.1
theorem dX9_suiting_7 : decode cX9_suiting 7 = .ok (.aload_n 0, 1) := dq_g244.2.2.2.2.2.1
theorem dX9_suiting_8 : decode cX9_suiting 8 = .ok (.iload_n 1, 1) := dq_g244.2.2.2.2.2.2.1
theorem dX9_suiting_9 : decode cX9_suiting 9 = .ok (.iconst 1, 1) := dq_g244.2.2.2.2.2.2.2.1
theorem dX9_suiting_10 : decode cX9_suiting 10 = .ok (.invokevirtual 308, 3) := dq_g244.2.2.2.2.2.2.2.2.1
theorem dX9_suiting_13 : decode cX9_suiting 13 = .ok (.istore_n 3, 1) := dq_g244.2.2.2.2.2.2.2.2.2.1
theorem dX9_suiting_14 : decode cX9_suiting 14 = .ok (.iload_n 2, 1) := dq_g244.2.2.2.2.2.2.2.2.2.2.1
theorem dX9_suiting_15 : decode cX9_suiting 15 = .ok (.iconst (-1), 1) := dq_g244.2.2.2.2.2.2.2.2.2.2.2.1
theorem dX9_suiting_16 : decode cX9_suiting 16 = .ok (.if_icmp .eq 8, 3) := dq_g244.2.2.2.2.2.2.2.2.2.2.2.2.1
theorem dX9_suiting_19 : decode cX9_suiting 19 = .ok (.iload_n 3, 1) := dq_g244.2.2.2.2.2.2.2.2.2.2.2.2.2.1
theorem dX9_suiting_20 : decode cX9_suiting 20 = .ok (.iconst (-1), 1) := dq_g244.2.2.2.2.2.2.2.2.2.2.2.2.2.2.1
theorem dX9_suiting_21 : decode cX9_suiting 21 = .ok (.if_icmp .ne 5, 3) := dq_g244.2.2.2.2.2.2.2.2.2.2.2.2.2.2.2.1
theorem dX9_suiting_24 : decode cX9_suiting 24 = .ok (.iconst 0, 1) := dq_g244.2.2.2.2.2.2.2.2.2.2.2.2.2.2.2.2.1
theorem dX9_suiting_25 : decode cX9_suiting 25 = .ok (.ireturn, 1) := dq_g244.2.2.2.2.2.2.2.2.2.2.2.2.2.2.2.2.2.1
theorem dX9_suiting_26 : decode cX9_suiting 26 = .ok (.aload_n 0, 1) := dq_g244.2.2.2.2.2.2.2.2.2.2.2.2.2.2.2.2.2.2.1
theorem dX9_suiting_27 : decode cX9_suiting 27 = .ok (.aload_n 0, 1) := dq_g244.2.2.2.2.2.2.2.2.2.2.2.2.2.2.2.2.2.2.2.1
theorem dX9_suiting_28 : decode cX9_suiting 28 = .ok (.getfield 12, 3) := dq_g244.2.2.2.2.2.2.2.2.2.2.2.2.2.2.2.2.2.2.2.2.1
theorem dX9_suiting_31 : decode cX9_suiting 31 = .ok (.getfield 296, 3) := dq_g244.2.2.2.2.2.2.2.2.2.2.2.2.2.2.2.2.2.2.2.2.2.1
theorem dX9_suiting_34 : decode cX9_suiting 34 = .ok (.iload_n 1, 1) := dq_g244.2.2.2.2.2.2.2.2.2.2.2.2.2.2.2.2.2.2.2.2.2.2.1
theorem dX9_suiting_35 : decode cX9_suiting 35 = .ok (.iaload, 1) := dq_g244.2.2.2.2.2.2.2.2.2.2.2.2.2.2.2.2.2.2.2.2.2.2.2.1
theorem dX9_suiting_36 : decode cX9_suiting 36 = .ok (.aload_n 0, 1) := dq_g244.2.2.2.2.2.2.2.2.2.2.2.2.2.2.2.2.2.2.2.2.2.2.2.2.1
theorem dX9_suiting_37 : decode cX9_suiting 37 = .ok (.getfield 12, 3) := dq_g244.2.2.2.2.2.2.2.2.2.2.2.2.2.2.2.2.2.2.2.2.2.2.2.2.2.1
theorem dX9_suiting_40 : decode cX9_suiting 40 = .ok (.getfield 299, 3) := dq_g244.2.2.2.2.2.2.2.2.2.2.2.2.2.2.2.2.2.2.2.2.2.2.2.2.2.2.1
theorem dX9_suiting_43 : decode cX9_suiting 43 = .ok (.iload_n 1, 1) := dq_g244.2.2.2.2.2.2.2.2.2.2.2.2.2.2.2.2.2.2.2.2.2.2.2.2.2.2.2.1
theorem dX9_suiting_44 : decode cX9_suiting 44 = .ok (.iaload, 1) := dq_g244.2.2.2.2.2.2.2.2.2.2.2.2.2.2.2.2.2.2.2.2.2.2.2.2.2.2.2.2.1
theorem dX9_suiting_45 : decode cX9_suiting 45 = .ok (.invokevirtual 279, 3) := dq_g244.2.2.2.2.2.2.2.2.2.2.2.2.2.2.2.2.2.2.2.2.2.2.2.2.2.2.2.2.2.1
theorem dq_g245 : decode cX9_suiting 48 = .ok (.istore 4, 2) ∧ decode cX9_suiting 50 = .ok (.aload_n 0, 1) ∧ decode cX9_suiting 51 = .ok (.iload_n 1, 1) ∧ decode cX9_suiting 52 = .ok (.iload_n 3, 1) ∧ decode cX9_suiting 53 = .ok (.iconst 1, 1) ∧ decode cX9_suiting 54 = .ok (.iload 4, 2) ∧ decode cX9_suiting 56 = .ok (.invokevirtual 430, 3) ∧ decode cX9_suiting 59 = .ok (.aload_n 0, 1) ∧ decode cX9_suiting 60 = .ok (.iload_n 1, 1) ∧ decode cX9_suiting 61 = .ok (.iload_n 2, 1) ∧ decode cX9_suiting 62 = .ok (.iconst 0, 1) ∧ decode cX9_suiting 63 = .ok (.iload 4, 2) ∧ decode cX9_suiting 65 = .ok (.invokevirtual 430, 3) ∧ decode cX9_suiting 68 = .ok (.if_icmp .ge 7, 3) ∧ decode cX9_suiting 71 = .ok (.iconst 1, 1) ∧ decode cX9_suiting 72 = .ok (.goto 4, 3) ∧ decode cX9_suiting 75 = .ok (.iconst 0, 1) ∧ decode cX9_suiting 76 = .ok (.ireturn, 1) ∧ True := dqC_ok (c := cX9_suiting) [(48, 2, some (.istore 4)), (50, 1, some (.aload_n 0)), (51, 1, some (.iload_n 1)), (52, 1, some (.iload_n 3)), (53, 1, some (.iconst 1)), (54, 2, some (.iload 4)), (56, 3, some (.invokevirtual 430)), (59, 1, some (.aload_n 0)), (60, 1, some (.iload_n 1)), (61, 1, some (.iload_n 2)), (62, 1, some (.iconst 0)), (63, 2, some (.iload 4)), (65, 3, some (.invokevirtual 430)), (68, 3, some (.if_icmp .ge 7)), (71, 1, some (.iconst 1)), (72, 3, some (.goto 4)), (75, 1, some (.iconst 0)), (76, 1, some (.ireturn))] _ 48 rfl (by decide +kernel)
theorem dX9_suiting_48 : decode cX9_suiting 48 = .ok (.istore 4, 2) := dq_g245.1
theorem dX9_suiting_50 : decode cX9_suiting 50 = .ok (.aload_n 0, 1) := dq_g245.2.1
theorem dX9_suiting_51 : decode cX9_suiting 51 = .ok (.iload_n 1, 1) := dq_g245.2.2.1
theorem dX9_suiting_52 : decode cX9_suiting 52 = .ok (.iload_n 3, 1) := dq_g245.2.2.2.1
theorem dX9_suiting_53 : decode cX9_suiting 53 = .ok (.iconst 1, 1) := dq_g245.2.2.2.2.1
theorem dX9_suiting_54 : decode cX9_suiting 54 = .ok (.iload 4, 2) := dq_g245.2.2.2.2.2.1
theorem dX9_suiting_56 : decode cX9_suiting 56 = .ok (.invokevirtual 430, 3) := dq_g245.2.2.2.2.2.2.1
theorem dX9_suiting_59 : decode cX9_suiting 59 = .ok (.aload_n 0, 1) := dq_g245.2.2.2.2.2.2.2.1
theorem dX9_suiting_60 : decode cX9_suiting 60 = .ok (.iload_n 1, 1) := dq_g245.2.2.2.2.2.2.2.2.1
theorem dX9_suiting_61 : decode cX9_suiting 61 = .ok (.iload_n 2, 1) := dq_g245.2.2.2.2.2.2.2.2.2.1
theorem dX9_suiting_62 : decode cX9_suiting 62 = .ok (.iconst 0, 1) := dq_g245.2.2.2.2.2.2.2.2.2.2.1
theorem dX9_suiting_63 : decode cX9_suiting 63 = .ok (.iload 4, 2) := dq_g245.2.2.2.2.2.2.2.2.2.2.2.1
theorem dX9_suiting_65 : decode cX9_suiting 65 = .ok (.invokevirtual 430, 3) := dq_g245.2.2.2.2.2.2.2.2.2.2.2.2.1
theorem dX9_suiting_68 : decode cX9_suiting 68 = .ok (.if_icmp .ge 7, 3) := dq_g245.2.2.2.2.2.2.2.2.2.2.2.2.2.1
theorem dX9_suiting_71 : decode cX9_suiting 71 = .ok (.iconst 1, 1) := dq_g245.2.2.2.2.2.2.2.2.2.2.2.2.2.2.1
theorem dX9_suiting_72 : decode cX9_suiting 72 = .ok (.goto 4, 3) := dq_g245.2.2.2.2.2.2.2.2.2.2.2.2.2.2.2.1
theorem dX9_suiting_75 : decode cX9_suiting 75 = .ok (.iconst 0, 1) := dq_g245.2.2.2.2.2.2.2.2.2.2.2.2.2.2.2.2.1
theorem dX9_suiting_76 : decode cX9_suiting 76 = .ok (.ireturn, 1) := dq_g245.2.2.2.2.2.2.2.2.2.2.2.2.2.2.2.2.2.1
theorem dq_g246 : decode cX9_apart 0 = .ok (.iconst 0, 1) ∧ decode cX9_apart 1 = .ok (.istore_n 1, 1) ∧ decode cX9_apart 2 = .ok (.iconst 0, 1) ∧ decode cX9_apart 3 = .ok (.istore_n 2, 1) ∧ decode cX9_apart 4 = .ok (.iload_n 2, 1) ∧ decode cX9_apart 5 = .ok (.aload_n 0, 1) ∧ decode cX9_apart 6 = .ok (.getfield 12, 3) ∧ decode cX9_apart 9 = .ok (.getfield 293, 3) ∧ decode cX9_apart 12 = .ok (.if_icmp .ge 17, 3) ∧ decode cX9_apart 15 = .ok (.iload_n 1, 1) ∧ decode cX9_apart 16 = .ok (.aload_n 0, 1) ∧ decode cX9_apart 17 = .ok (.iload_n 2, 1) ∧ decode cX9_apart 18 = .ok (.invokevirtual 311, 3) ∧ decode cX9_apart 21 = .ok (.iadd, 1) ∧ decode cX9_apart 22 = .ok (.istore_n 1, 1) ∧ decode cX9_apart 23 = .ok (.iinc 2 1, 3) ∧ decode cX9_apart 26 = .ok (.goto (-22), 3) ∧ decode cX9_apart 29 = .ok (.iload_n 1, 1) ∧ decode cX9_apart 30 = .ok (.ireturn, 1) ∧ True := dqC_ok (c := cX9_apart) [(0, 1, some (.iconst 0)), (1, 1, some (.istore_n 1)), (2, 1, some (.iconst 0)), (3, 1, some (.istore_n 2)), (4, 1, some (.iload_n 2)), (5, 1, some (.aload_n 0)), (6, 3, some (.getfield 12)), (9, 3, some (.getfield 293)), (12, 3, some (.if_icmp .ge 17)), (15, 1, some (.iload_n 1)), (16, 1, some (.aload_n 0)), (17, 1, some (.iload_n 2)), (18, 3, some (.invokevirtual 311)), (21, 1, some (.iadd)), (22, 1, some (.istore_n 1)), (23, 3, some (.iinc 2 1)), (26, 3, some (.goto (-22))), (29, 1, some (.iload_n 1)), (30, 1, some (.ireturn))] _ 0 rfl (by decide +kernel)
theorem dX9_apart_0 : decode cX9_apart 0 = .ok (.iconst 0, 1) := dq_g246.1
theorem dX9_apart_1 : decode cX9_apart 1 = .ok (.istore_n 1, 1) := dq_g246.2.1
theorem dX9_apart_2 : decode cX9_apart 2 = .ok (.iconst 0, 1) := dq_g246.2.2.1
theorem dX9_apart_3 : decode cX9_apart 3 = .ok (.istore_n 2, 1) := dq_g246.2.2.2.1
theorem dX9_apart_4 : decode cX9_apart 4 = .ok (.iload_n 2, 1) := dq_g246.2.2.2.2.1
theorem dX9_apart_5 : decode cX9_apart 5 = .ok (.aload_n 0, 1) := dq_g246.2.2.2.2.2.1
theorem dX9_apart_6 : decode cX9_apart 6 = .ok (.getfield 12, 3) := dq_g246.2.2.2.2.2.2.1
theorem dX9_apart_9 : decode cX9_apart 9 = .ok (.getfield 293, 3) := dq_g246.2.2.2.2.2.2.2.1
theorem dX9_apart_12 : decode cX9_apart 12 = .ok (.if_icmp .ge 17, 3) := dq_g246.2.2.2.2.2.2.2.2.1
theorem dX9_apart_15 : decode cX9_apart 15 = .ok (.iload_n 1, 1) := dq_g246.2.2.2.2.2.2.2.2.2.1
theorem dX9_apart_16 : decode cX9_apart 16 = .ok (.aload_n 0, 1) := dq_g246.2.2.2.2.2.2.2.2.2.2.1
theorem dX9_apart_17 : decode cX9_apart 17 = .ok (.iload_n 2, 1) := dq_g246.2.2.2.2.2.2.2.2.2.2.2.1
theorem dX9_apart_18 : decode cX9_apart 18 = .ok (.invokevirtual 311, 3) := dq_g246.2.2.2.2.2.2.2.2.2.2.2.2.1
theorem dX9_apart_21 : decode cX9_apart 21 = .ok (.iadd, 1) := dq_g246.2.2.2.2.2.2.2.2.2.2.2.2.2.1
theorem dX9_apart_22 : decode cX9_apart 22 = .ok (.istore_n 1, 1) := dq_g246.2.2.2.2.2.2.2.2.2.2.2.2.2.2.1
theorem dX9_apart_23 : decode cX9_apart 23 = .ok (.iinc 2 1, 3) := dq_g246.2.2.2.2.2.2.2.2.2.2.2.2.2.2.2.1
theorem dX9_apart_26 : decode cX9_apart 26 = .ok (.goto (-22), 3) := dq_g246.2.2.2.2.2.2.2.2.2.2.2.2.2.2.2.2.1
theorem dX9_apart_29 : decode cX9_apart 29 = .ok (.iload_n 1, 1) := dq_g246.2.2.2.2.2.2.2.2.2.2.2.2.2.2.2.2.2.1
theorem dX9_apart_30 : decode cX9_apart 30 = .ok (.ireturn, 1) := dq_g246.2.2.2.2.2.2.2.2.2.2.2.2.2.2.2.2.2.2.1
theorem dq_g247 : decode cX9_together 0 = .ok (.aload_n 0, 1) ∧ decode cX9_together 1 = .ok (.aload_n 0, 1) ∧ decode cX9_together 2 = .ok (.getfield 12, 3) ∧ decode cX9_together 5 = .ok (.getfield 296, 3) ∧ decode cX9_together 8 = .ok (.iload_n 1, 1) ∧ decode cX9_together 9 = .ok (.iaload, 1) ∧ decode cX9_together 10 = .ok (.aload_n 0, 1) ∧ decode cX9_together 11 = .ok (.getfield 12, 3) ∧ decode cX9_together 14 = .ok (.getfield 299, 3) ∧ decode cX9_together 17 = .ok (.iload_n 1, 1) ∧ decode cX9_together 18 = .ok (.iaload, 1) ∧ decode cX9_together 19 = .ok (.invokevirtual 279, 3) ∧ decode cX9_together 22 = .ok (.istore_n 2, 1) ∧ decode cX9_together 23 = .ok (.lconst 0, 1) ∧ decode cX9_together 24 = .ok (.lstore_n 3, 1) ∧ decode cX9_together 25 = .ok (.iconst 0, 1) ∧ decode cX9_together 26 = .ok (.istore 5, 2) ∧ decode cX9_together 28 = .ok (.iload 5, 2) ∧ decode cX9_together 30 = .ok (.aload_n 0, 1) ∧ decode cX9_together 31 = .ok (.getfield 12, 3) ∧ decode cX9_together 34 = .ok (.getfield 64, 3) ∧ decode cX9_together 37 = .ok (.if_icmp .ge 92, 3) ∧ decode cX9_together 40 = .ok (.aload_n 0, 1) ∧ decode cX9_together 41 = .ok (.getfield 55, 3) ∧ decode cX9_together 44 = .ok (.iload 5, 2) ∧ decode cX9_together 46 = .ok (.iaload, 1) ∧ decode cX9_together 47 = .ok (.iload_n 2, 1) ∧ decode cX9_together 48 = .ok (.invokestatic 283, 3) ∧ decode cX9_together 51 = .ok (.i2l, 1) ∧ decode cX9_together 52 = .ok (.lstore 6, 2) ∧ True := dqC_ok (c := cX9_together) [(0, 1, some (.aload_n 0)), (1, 1, some (.aload_n 0)), (2, 3, some (.getfield 12)), (5, 3, some (.getfield 296)), (8, 1, some (.iload_n 1)), (9, 1, some (.iaload)), (10, 1, some (.aload_n 0)), (11, 3, some (.getfield 12)), (14, 3, some (.getfield 299)), (17, 1, some (.iload_n 1)), (18, 1, some (.iaload)), (19, 3, some (.invokevirtual 279)), (22, 1, some (.istore_n 2)), (23, 1, some (.lconst 0)), (24, 1, some (.lstore_n 3)), (25, 1, some (.iconst 0)), (26, 2, some (.istore 5)), (28, 2, some (.iload 5)), (30, 1, some (.aload_n 0)), (31, 3, some (.getfield 12)), (34, 3, some (.getfield 64)), (37, 3, some (.if_icmp .ge 92)), (40, 1, some (.aload_n 0)), (41, 3, some (.getfield 55)), (44, 2, some (.iload 5)), (46, 1, some (.iaload)), (47, 1, some (.iload_n 2)), (48, 3, some (.invokestatic 283)), (51, 1, some (.i2l)), (52, 2, some (.lstore 6))] _ 0 rfl (by decide +kernel)
theorem dX9_together_0 : decode cX9_together 0 = .ok (.aload_n 0, 1) := dq_g247.1
theorem dX9_together_1 : decode cX9_together 1 = .ok (.aload_n 0, 1) := dq_g247.2.1
theorem dX9_together_2 : decode cX9_together 2 = .ok (.getfield 12, 3) := dq_g247.2.2.1
theorem dX9_together_5 : decode cX9_together 5 = .ok (.getfield 296, 3) := dq_g247.2.2.2.1
theorem dX9_together_8 : decode cX9_together 8 = .ok (.iload_n 1, 1) := dq_g247.2.2.2.2.1
theorem dX9_together_9 : decode cX9_together 9 = .ok (.iaload, 1) := dq_g247.2.2.2.2.2.1
theorem dX9_together_10 : decode cX9_together 10 = .ok (.aload_n 0, 1) := dq_g247.2.2.2.2.2.2.1
theorem dX9_together_11 : decode cX9_together 11 = .ok (.getfield 12, 3) := dq_g247.2.2.2.2.2.2.2.1
theorem dX9_together_14 : decode cX9_together 14 = .ok (.getfield 299, 3) := dq_g247.2.2.2.2.2.2.2.2.1
theorem dX9_together_17 : decode cX9_together 17 = .ok (.iload_n 1, 1) := dq_g247.2.2.2.2.2.2.2.2.2.1
theorem dX9_together_18 : decode cX9_together 18 = .ok (.iaload, 1) := dq_g247.2.2.2.2.2.2.2.2.2.2.1
theorem dX9_together_19 : decode cX9_together 19 = .ok (.invokevirtual 279, 3) := dq_g247.2.2.2.2.2.2.2.2.2.2.2.1
theorem dX9_together_22 : decode cX9_together 22 = .ok (.istore_n 2, 1) := dq_g247.2.2.2.2.2.2.2.2.2.2.2.2.1
theorem dX9_together_23 : decode cX9_together 23 = .ok (.lconst 0, 1) := dq_g247.2.2.2.2.2.2.2.2.2.2.2.2.2.1
theorem dX9_together_24 : decode cX9_together 24 = .ok (.lstore_n 3, 1) := dq_g247.2.2.2.2.2.2.2.2.2.2.2.2.2.2.1
theorem dX9_together_25 : decode cX9_together 25 = .ok (.iconst 0, 1) := dq_g247.2.2.2.2.2.2.2.2.2.2.2.2.2.2.2.1
theorem dX9_together_26 : decode cX9_together 26 = .ok (.istore 5, 2) := dq_g247.2.2.2.2.2.2.2.2.2.2.2.2.2.2.2.2.1
theorem dX9_together_28 : decode cX9_together 28 = .ok (.iload 5, 2) := dq_g247.2.2.2.2.2.2.2.2.2.2.2.2.2.2.2.2.2.1
theorem dX9_together_30 : decode cX9_together 30 = .ok (.aload_n 0, 1) := dq_g247.2.2.2.2.2.2.2.2.2.2.2.2.2.2.2.2.2.2.1
theorem dX9_together_31 : decode cX9_together 31 = .ok (.getfield 12, 3) := dq_g247.2.2.2.2.2.2.2.2.2.2.2.2.2.2.2.2.2.2.2.1
theorem dX9_together_34 : decode cX9_together 34 = .ok (.getfield 64, 3) := dq_g247.2.2.2.2.2.2.2.2.2.2.2.2.2.2.2.2.2.2.2.2.1
theorem dX9_together_37 : decode cX9_together 37 = .ok (.if_icmp .ge 92, 3) := dq_g247.2.2.2.2.2.2.2.2.2.2.2.2.2.2.2.2.2.2.2.2.2.1
theorem dX9_together_40 : decode cX9_together 40 = .ok (.aload_n 0, 1) := dq_g247.2.2.2.2.2.2.2.2.2.2.2.2.2.2.2.2.2.2.2.2.2.2.1
theorem dX9_together_41 : decode cX9_together 41 = .ok (.getfield 55, 3) := dq_g247.2.2.2.2.2.2.2.2.2.2.2.2.2.2.2.2.2.2.2.2.2.2.2.1
theorem dX9_together_44 : decode cX9_together 44 = .ok (.iload 5, 2) := dq_g247.2.2.2.2.2.2.2.2.2.2.2.2.2.2.2.2.2.2.2.2.2.2.2.2.1
theorem dX9_together_46 : decode cX9_together 46 = .ok (.iaload, 1) := dq_g247.2.2.2.2.2.2.2.2.2.2.2.2.2.2.2.2.2.2.2.2.2.2.2.2.2.1
theorem dX9_together_47 : decode cX9_together 47 = .ok (.iload_n 2, 1) := dq_g247.2.2.2.2.2.2.2.2.2.2.2.2.2.2.2.2.2.2.2.2.2.2.2.2.2.2.1
theorem dX9_together_48 : decode cX9_together 48 = .ok (.invokestatic 283, 3) := dq_g247.2.2.2.2.2.2.2.2.2.2.2.2.2.2.2.2.2.2.2.2.2.2.2.2.2.2.2.1
theorem dX9_together_51 : decode cX9_together 51 = .ok (.i2l, 1) := dq_g247.2.2.2.2.2.2.2.2.2.2.2.2.2.2.2.2.2.2.2.2.2.2.2.2.2.2.2.2.1
theorem dX9_together_52 : decode cX9_together 52 = .ok (.lstore 6, 2) := dq_g247.2.2.2.2.2.2.2.2.2.2.2.2.2.2.2.2.2.2.2.2.2.2.2.2.2.2.2.2.2.1
theorem dq_g248 : decode cX9_together 54 = .ok (.iload 5, 2) ∧ decode cX9_together 56 = .ok (.iconst 1, 1) ∧ decode cX9_together 57 = .ok (.iadd, 1) ∧ decode cX9_together 58 = .ok (.istore 8, 2) ∧ decode cX9_together 60 = .ok (.iload 8, 2) ∧ decode cX9_together 62 = .ok (.aload_n 0, 1) ∧ decode cX9_together 63 = .ok (.getfield 12, 3) ∧ decode cX9_together 66 = .ok (.getfield 64, 3) ∧ decode cX9_together 69 = .ok (.if_icmp .ge 54, 3) ∧ decode cX9_together 72 = .ok (.aload_n 0, 1) ∧ decode cX9_together 73 = .ok (.getfield 55, 3) ∧ decode cX9_together 76 = .ok (.iload 8, 2) ∧ decode cX9_together 78 = .ok (.iaload, 1) ∧ decode cX9_together 79 = .ok (.iload_n 2, 1) ∧ decode cX9_together 80 = .ok (.invokestatic 283, 3) ∧ decode cX9_together 83 = .ok (.i2l, 1) ∧ decode cX9_together 84 = .ok (.lstore 9, 2) ∧ decode cX9_together 86 = .ok (.lload_n 3, 1) ∧ decode cX9_together 87 = .ok (.lload 6, 2) ∧ decode cX9_together 89 = .ok (.aload_n 0, 1) ∧ decode cX9_together 90 = .ok (.getfield 55, 3) ∧ decode cX9_together 93 = .ok (.iload 8, 2) ∧ decode cX9_together 95 = .ok (.iaload, 1) ∧ decode cX9_together 96 = .ok (.i2l, 1) ∧ decode cX9_together 97 = .ok (.lmul, 1) ∧ decode cX9_together 98 = .ok (.lload 9, 2) ∧ decode cX9_together 100 = .ok (.aload_n 0, 1) ∧ decode cX9_together 101 = .ok (.getfield 55, 3) ∧ decode cX9_together 104 = .ok (.iload 5, 2) ∧ decode cX9_together 106 = .ok (.iaload, 1) ∧ True := dqC_ok (c := cX9_together) [(54, 2, some (.iload 5)), (56, 1, some (.iconst 1)), (57, 1, some (.iadd)), (58, 2, some (.istore 8)), (60, 2, some (.iload 8)), (62, 1, some (.aload_n 0)), (63, 3, some (.getfield 12)), (66, 3, some (.getfield 64)), (69, 3, some (.if_icmp .ge 54)), (72, 1, some (.aload_n 0)), (73, 3, some (.getfield 55)), (76, 2, some (.iload 8)), (78, 1, some (.iaload)), (79, 1, some (.iload_n 2)), (80, 3, some (.invokestatic 283)), (83, 1, some (.i2l)), (84, 2, some (.lstore 9)), (86, 1, some (.lload_n 3)), (87, 2, some (.lload 6)), (89, 1, some (.aload_n 0)), (90, 3, some (.getfield 55)), (93, 2, some (.iload 8)), (95, 1, some (.iaload)), (96, 1, some (.i2l)), (97, 1, some (.lmul)), (98, 2, some (.lload 9)), (100, 1, some (.aload_n 0)), (101, 3, some (.getfield 55)), (104, 2, some (.iload 5)), (106, 1, some (.iaload))] _ 54 rfl (by decide +kernel)
theorem dX9_together_54 : decode cX9_together 54 = .ok (.iload 5, 2) := dq_g248.1
theorem dX9_together_56 : decode cX9_together 56 = .ok (.iconst 1, 1) := dq_g248.2.1
theorem dX9_together_57 : decode cX9_together 57 = .ok (.iadd, 1) := dq_g248.2.2.1
theorem dX9_together_58 : decode cX9_together 58 = .ok (.istore 8, 2) := dq_g248.2.2.2.1
theorem dX9_together_60 : decode cX9_together 60 = .ok (.iload 8, 2) := dq_g248.2.2.2.2.1
theorem dX9_together_62 : decode cX9_together 62 = .ok (.aload_n 0, 1) := dq_g248.2.2.2.2.2.1
theorem dX9_together_63 : decode cX9_together 63 = .ok (.getfield 12, 3) := dq_g248.2.2.2.2.2.2.1
theorem dX9_together_66 : decode cX9_together 66 = .ok (.getfield 64, 3) := dq_g248.2.2.2.2.2.2.2.1
theorem dX9_together_69 : decode cX9_together 69 = .ok (.if_icmp .ge 54, 3) := dq_g248.2.2.2.2.2.2.2.2.1
theorem dX9_together_72 : decode cX9_together 72 = .ok (.aload_n 0, 1) := dq_g248.2.2.2.2.2.2.2.2.2.1
theorem dX9_together_73 : decode cX9_together 73 = .ok (.getfield 55, 3) := dq_g248.2.2.2.2.2.2.2.2.2.2.1
theorem dX9_together_76 : decode cX9_together 76 = .ok (.iload 8, 2) := dq_g248.2.2.2.2.2.2.2.2.2.2.2.1
theorem dX9_together_78 : decode cX9_together 78 = .ok (.iaload, 1) := dq_g248.2.2.2.2.2.2.2.2.2.2.2.2.1
theorem dX9_together_79 : decode cX9_together 79 = .ok (.iload_n 2, 1) := dq_g248.2.2.2.2.2.2.2.2.2.2.2.2.2.1
theorem dX9_together_80 : decode cX9_together 80 = .ok (.invokestatic 283, 3) := dq_g248.2.2.2.2.2.2.2.2.2.2.2.2.2.2.1
theorem dX9_together_83 : decode cX9_together 83 = .ok (.i2l, 1) := dq_g248.2.2.2.2.2.2.2.2.2.2.2.2.2.2.2.1
theorem dX9_together_84 : decode cX9_together 84 = .ok (.lstore 9, 2) := dq_g248.2.2.2.2.2.2.2.2.2.2.2.2.2.2.2.2.1
theorem dX9_together_86 : decode cX9_together 86 = .ok (.lload_n 3, 1) := dq_g248.2.2.2.2.2.2.2.2.2.2.2.2.2.2.2.2.2.1
theorem dX9_together_87 : decode cX9_together 87 = .ok (.lload 6, 2) := dq_g248.2.2.2.2.2.2.2.2.2.2.2.2.2.2.2.2.2.2.1
theorem dX9_together_89 : decode cX9_together 89 = .ok (.aload_n 0, 1) := dq_g248.2.2.2.2.2.2.2.2.2.2.2.2.2.2.2.2.2.2.2.1
theorem dX9_together_90 : decode cX9_together 90 = .ok (.getfield 55, 3) := dq_g248.2.2.2.2.2.2.2.2.2.2.2.2.2.2.2.2.2.2.2.2.1
theorem dX9_together_93 : decode cX9_together 93 = .ok (.iload 8, 2) := dq_g248.2.2.2.2.2.2.2.2.2.2.2.2.2.2.2.2.2.2.2.2.2.1
theorem dX9_together_95 : decode cX9_together 95 = .ok (.iaload, 1) := dq_g248.2.2.2.2.2.2.2.2.2.2.2.2.2.2.2.2.2.2.2.2.2.2.1
theorem dX9_together_96 : decode cX9_together 96 = .ok (.i2l, 1) := dq_g248.2.2.2.2.2.2.2.2.2.2.2.2.2.2.2.2.2.2.2.2.2.2.2.1
theorem dX9_together_97 : decode cX9_together 97 = .ok (.lmul, 1) := dq_g248.2.2.2.2.2.2.2.2.2.2.2.2.2.2.2.2.2.2.2.2.2.2.2.2.1
theorem dX9_together_98 : decode cX9_together 98 = .ok (.lload 9, 2) := dq_g248.2.2.2.2.2.2.2.2.2.2.2.2.2.2.2.2.2.2.2.2.2.2.2.2.2.1
theorem dX9_together_100 : decode cX9_together 100 = .ok (.aload_n 0, 1) := dq_g248.2.2.2.2.2.2.2.2.2.2.2.2.2.2.2.2.2.2.2.2.2.2.2.2.2.2.1
theorem dX9_together_101 : decode cX9_together 101 = .ok (.getfield 55, 3) := dq_g248.2.2.2.2.2.2.2.2.2.2.2.2.2.2.2.2.2.2.2.2.2.2.2.2.2.2.2.1
theorem dX9_together_104 : decode cX9_together 104 = .ok (.iload 5, 2) := dq_g248.2.2.2.2.2.2.2.2.2.2.2.2.2.2.2.2.2.2.2.2.2.2.2.2.2.2.2.2.1
theorem dX9_together_106 : decode cX9_together 106 = .ok (.iaload, 1) := dq_g248.2.2.2.2.2.2.2.2.2.2.2.2.2.2.2.2.2.2.2.2.2.2.2.2.2.2.2.2.2.1
theorem dq_g249 : decode cX9_together 107 = .ok (.i2l, 1) ∧ decode cX9_together 108 = .ok (.lmul, 1) ∧ decode cX9_together 109 = .ok (.lsub, 1) ∧ decode cX9_together 110 = .ok (.invokestatic 434, 3) ∧ decode cX9_together 113 = .ok (.invokestatic 421, 3) ∧ decode cX9_together 116 = .ok (.lstore_n 3, 1) ∧ decode cX9_together 117 = .ok (.iinc 8 1, 3) ∧ decode cX9_together 120 = .ok (.goto (-60), 3) ∧ decode cX9_together 123 = .ok (.iinc 5 1, 3) ∧ decode cX9_together 126 = .ok (.goto (-98), 3) ∧ decode cX9_together 129 = .ok (.lload_n 3, 1) ∧ decode cX9_together 130 = .ok (.ldc2_w 360, 3) ∧ decode cX9_together 133 = .ok (.ldiv, 1) ∧ decode cX9_together 134 = .ok (.ldc2_w 411, 3) ∧ decode cX9_together 137 = .ok (.invokestatic 413, 3) ∧ decode cX9_together 140 = .ok (.l2i, 1) ∧ decode cX9_together 141 = .ok (.ireturn, 1) ∧ True := dqC_ok (c := cX9_together) [(107, 1, some (.i2l)), (108, 1, some (.lmul)), (109, 1, some (.lsub)), (110, 3, some (.invokestatic 434)), (113, 3, some (.invokestatic 421)), (116, 1, some (.lstore_n 3)), (117, 3, some (.iinc 8 1)), (120, 3, some (.goto (-60))), (123, 3, some (.iinc 5 1)), (126, 3, some (.goto (-98))), (129, 1, some (.lload_n 3)), (130, 3, some (.ldc2_w 360)), (133, 1, some (.ldiv)), (134, 3, some (.ldc2_w 411)), (137, 3, some (.invokestatic 413)), (140, 1, some (.l2i)), (141, 1, some (.ireturn))] _ 107 rfl (by decide +kernel)
theorem dX9_together_107 : decode cX9_together 107 = .ok (.i2l, 1) := dq_g249.1
theorem dX9_together_108 : decode cX9_together 108 = .ok (.lmul, 1) := dq_g249.2.1
theorem dX9_together_109 : decode cX9_together 109 = .ok (.lsub, 1) := dq_g249.2.2.1
theorem dX9_together_110 : decode cX9_together 110 = .ok (.invokestatic 434, 3) := dq_g249.2.2.2.1
theorem dX9_together_113 : decode cX9_together 113 = .ok (.invokestatic 421, 3) := dq_g249.2.2.2.2.1
theorem dX9_together_116 : decode cX9_together 116 = .ok (.lstore_n 3, 1) := dq_g249.2.2.2.2.2.1
theorem dX9_together_117 : decode cX9_together 117 = .ok (.iinc 8 1, 3) := dq_g249.2.2.2.2.2.2.1
theorem dX9_together_120 : decode cX9_together 120 = .ok (.goto (-60), 3) := dq_g249.2.2.2.2.2.2.2.1
theorem dX9_together_123 : decode cX9_together 123 = .ok (.iinc 5 1, 3) := dq_g249.2.2.2.2.2.2.2.2.1
theorem dX9_together_126 : decode cX9_together 126 = .ok (.goto (-98), 3) := dq_g249.2.2.2.2.2.2.2.2.2.1
theorem dX9_together_129 : decode cX9_together 129 = .ok (.lload_n 3, 1) := dq_g249.2.2.2.2.2.2.2.2.2.2.1
theorem dX9_together_130 : decode cX9_together 130 = .ok (.ldc2_w 360, 3) := dq_g249.2.2.2.2.2.2.2.2.2.2.2.1
theorem dX9_together_133 : decode cX9_together 133 = .ok (.ldiv, 1) := dq_g249.2.2.2.2.2.2.2.2.2.2.2.2.1
theorem dX9_together_134 : decode cX9_together 134 = .ok (.ldc2_w 411, 3) := dq_g249.2.2.2.2.2.2.2.2.2.2.2.2.2.1
theorem dX9_together_137 : decode cX9_together 137 = .ok (.invokestatic 413, 3) := dq_g249.2.2.2.2.2.2.2.2.2.2.2.2.2.2.1
theorem dX9_together_140 : decode cX9_together 140 = .ok (.l2i, 1) := dq_g249.2.2.2.2.2.2.2.2.2.2.2.2.2.2.2.1
theorem dX9_together_141 : decode cX9_together 141 = .ok (.ireturn, 1) := dq_g249.2.2.2.2.2.2.2.2.2.2.2.2.2.2.2.2.1
theorem dq_g250 : decode cX10_init 0 = .ok (.aload_n 0, 1) ∧ decode cX10_init 1 = .ok (.invokespecial 1, 3) ∧ decode cX10_init 4 = .ok (.aload_n 0, 1) ∧ decode cX10_init 5 = .ok (.bipush 10, 2) ∧ decode cX10_init 7 = .ok (.putfield 7, 3) ∧ decode cX10_init 10 = .ok (.aload_n 0, 1) ∧ decode cX10_init 11 = .ok (.bipush 10, 2) ∧ decode cX10_init 15 = .ok (.putfield 13, 3) ∧ decode cX10_init 18 = .ok (.aload_n 0, 1) ∧ decode cX10_init 19 = .ok (.sipush 160, 3) ∧ decode cX10_init 24 = .ok (.putfield 17, 3) ∧ decode cX10_init 27 = .ok (.aload_n 0, 1) ∧ decode cX10_init 28 = .ok (.sipush 160, 3) ∧ decode cX10_init 33 = .ok (.putfield 20, 3) ∧ decode cX10_init 36 = .ok (.aload_n 0, 1) ∧ decode cX10_init 37 = .ok (.sipush 160, 3) ∧ decode cX10_init 42 = .ok (.putfield 23, 3) ∧ decode cX10_init 45 = .ok (.aload_n 0, 1) ∧ decode cX10_init 46 = .ok (.sipush 160, 3) ∧ decode cX10_init 51 = .ok (.putfield 26, 3) ∧ decode cX10_init 54 = .ok (.aload_n 0, 1) ∧ decode cX10_init 55 = .ok (.bipush 30, 2) ∧ decode cX10_init 59 = .ok (.putfield 29, 3) ∧ decode cX10_init 62 = .ok (.aload_n 0, 1) ∧ True := dqC_ok (c := cX10_init) [(0, 1, some (.aload_n 0)), (1, 3, some (.invokespecial 1)), (4, 1, some (.aload_n 0)), (5, 2, some (.bipush 10)), (7, 3, some (.putfield 7)), (10, 1, some (.aload_n 0)), (11, 2, some (.bipush 10)), (13, 2, none), (15, 3, some (.putfield 13)), (18, 1, some (.aload_n 0)), (19, 3, some (.sipush 160)), (22, 2, none), (24, 3, some (.putfield 17)), (27, 1, some (.aload_n 0)), (28, 3, some (.sipush 160)), (31, 2, none), (33, 3, some (.putfield 20)), (36, 1, some (.aload_n 0)), (37, 3, some (.sipush 160)), (40, 2, none), (42, 3, some (.putfield 23)), (45, 1, some (.aload_n 0)), (46, 3, some (.sipush 160)), (49, 2, none), (51, 3, some (.putfield 26)), (54, 1, some (.aload_n 0)), (55, 2, some (.bipush 30)), (57, 2, none), (59, 3, some (.putfield 29)), (62, 1, some (.aload_n 0))] _ 0 rfl (by decide +kernel)
theorem dX10_init_0 : decode cX10_init 0 = .ok (.aload_n 0, 1) := dq_g250.1
theorem dX10_init_1 : decode cX10_init 1 = .ok (.invokespecial 1, 3) := dq_g250.2.1
theorem dX10_init_4 : decode cX10_init 4 = .ok (.aload_n 0, 1) := dq_g250.2.2.1
theorem dX10_init_5 : decode cX10_init 5 = .ok (.bipush 10, 2) := dq_g250.2.2.2.1
theorem dX10_init_7 : decode cX10_init 7 = .ok (.putfield 7, 3) := dq_g250.2.2.2.2.1
theorem dX10_init_10 : decode cX10_init 10 = .ok (.aload_n 0, 1) := dq_g250.2.2.2.2.2.1
theorem dX10_init_11 : decode cX10_init 11 = .ok (.bipush 10, 2) := dq_g250.2.2.2.2.2.2.1
theorem dX10_init_15 : decode cX10_init 15 = .ok (.putfield 13, 3) := dq_g250.2.2.2.2.2.2.2.1
theorem dX10_init_18 : decode cX10_init 18 = .ok (.aload_n 0, 1) := dq_g250.2.2.2.2.2.2.2.2.1
theorem dX10_init_19 : decode cX10_init 19 = .ok (.sipush 160, 3) := dq_g250.2.2.2.2.2.2.2.2.2.1
theorem dX10_init_24 : decode cX10_init 24 = .ok (.putfield 17, 3) := dq_g250.2.2.2.2.2.2.2.2.2.2.1
theorem dX10_init_27 : decode cX10_init 27 = .ok (.aload_n 0, 1) := dq_g250.2.2.2.2.2.2.2.2.2.2.2.1
theorem dX10_init_28 : decode cX10_init 28 = .ok (.sipush 160, 3) := dq_g250.2.2.2.2.2.2.2.2.2.2.2.2.1
theorem dX10_init_33 : decode cX10_init 33 = .ok (.putfield 20, 3) := dq_g250.2.2.2.2.2.2.2.2.2.2.2.2.2.1
theorem dX10_init_36 : decode cX10_init 36 = .ok (.aload_n 0, 1) := dq_g250.2.2.2.2.2.2.2.2.2.2.2.2.2.2.1
theorem dX10_init_37 : decode cX10_init 37 = .ok (.sipush 160, 3) := dq_g250.2.2.2.2.2.2.2.2.2.2.2.2.2.2.2.1
theorem dX10_init_42 : decode cX10_init 42 = .ok (.putfield 23, 3) := dq_g250.2.2.2.2.2.2.2.2.2.2.2.2.2.2.2.2.1
theorem dX10_init_45 : decode cX10_init 45 = .ok (.aload_n 0, 1) := dq_g250.2.2.2.2.2.2.2.2.2.2.2.2.2.2.2.2.2.1
theorem dX10_init_46 : decode cX10_init 46 = .ok (.sipush 160, 3) := dq_g250.2.2.2.2.2.2.2.2.2.2.2.2.2.2.2.2.2.2.1
theorem dX10_init_51 : decode cX10_init 51 = .ok (.putfield 26, 3) := dq_g250.2.2.2.2.2.2.2.2.2.2.2.2.2.2.2.2.2.2.2.1
theorem dX10_init_54 : decode cX10_init 54 = .ok (.aload_n 0, 1) := dq_g250.2.2.2.2.2.2.2.2.2.2.2.2.2.2.2.2.2.2.2.2.1
theorem dX10_init_55 : decode cX10_init 55 = .ok (.bipush 30, 2) := dq_g250.2.2.2.2.2.2.2.2.2.2.2.2.2.2.2.2.2.2.2.2.2.1
theorem dX10_init_59 : decode cX10_init 59 = .ok (.putfield 29, 3) := dq_g250.2.2.2.2.2.2.2.2.2.2.2.2.2.2.2.2.2.2.2.2.2.2.1
theorem dX10_init_62 : decode cX10_init 62 = .ok (.aload_n 0, 1) := dq_g250.2.2.2.2.2.2.2.2.2.2.2.2.2.2.2.2.2.2.2.2.2.2.2.1
theorem dX10_init_13 : decode cX10_init 13 = .ok (.newarray .int, 2) := by decide +kernel
theorem dX10_init_22 : decode cX10_init 22 = .ok (.newarray .int, 2) := by decide +kernel
theorem dX10_init_31 : decode cX10_init 31 = .ok (.newarray .int, 2) := by decide +kernel
theorem dX10_init_40 : decode cX10_init 40 = .ok (.newarray .int, 2) := by decide +kernel
theorem dX10_init_49 : decode cX10_init 49 = .ok (.newarray .int, 2) := by decide +kernel
theorem dX10_init_57 : decode cX10_init 57 = .ok (.newarray .int, 2) := by decide +kernel
theorem dq_g251 : decode cX10_init 63 = .ok (.bipush 10, 2) ∧ decode cX10_init 67 = .ok (.putfield 32, 3) ∧ decode cX10_init 70 = .ok (.aload_n 0, 1) ∧ decode cX10_init 71 = .ok (.sipush 2000, 3) ∧ decode cX10_init 76 = .ok (.putfield 35, 3) ∧ decode cX10_init 79 = .ok (.aload_n 0, 1) ∧ decode cX10_init 80 = .ok (.sipush 2000, 3) ∧ decode cX10_init 85 = .ok (.putfield 38, 3) ∧ decode cX10_init 88 = .ok (.aload_n 0, 1) ∧ decode cX10_init 89 = .ok (.bipush 10, 2) ∧ decode cX10_init 93 = .ok (.putfield 41, 3) ∧ decode cX10_init 96 = .ok (.aload_n 0, 1) ∧ decode cX10_init 97 = .ok (.bipush 10, 2) ∧ decode cX10_init 101 = .ok (.dup, 1) ∧ decode cX10_init 102 = .ok (.iconst 0, 1) ∧ decode cX10_init 103 = .ok (.iconst (-1), 1) ∧ decode cX10_init 104 = .ok (.iastore, 1) ∧ decode cX10_init 105 = .ok (.dup, 1) ∧ decode cX10_init 106 = .ok (.iconst 1, 1) ∧ decode cX10_init 107 = .ok (.iconst (-1), 1) ∧ decode cX10_init 108 = .ok (.iastore, 1) ∧ decode cX10_init 109 = .ok (.dup, 1) ∧ decode cX10_init 110 = .ok (.iconst 2, 1) ∧ decode cX10_init 111 = .ok (.iconst (-1), 1) ∧ decode cX10_init 112 = .ok (.iastore, 1) ∧ True := dqC_ok (c := cX10_init) [(63, 2, some (.bipush 10)), (65, 2, none), (67, 3, some (.putfield 32)), (70, 1, some (.aload_n 0)), (71, 3, some (.sipush 2000)), (74, 2, none), (76, 3, some (.putfield 35)), (79, 1, some (.aload_n 0)), (80, 3, some (.sipush 2000)), (83, 2, none), (85, 3, some (.putfield 38)), (88, 1, some (.aload_n 0)), (89, 2, some (.bipush 10)), (91, 2, none), (93, 3, some (.putfield 41)), (96, 1, some (.aload_n 0)), (97, 2, some (.bipush 10)), (99, 2, none), (101, 1, some (.dup)), (102, 1, some (.iconst 0)), (103, 1, some (.iconst (-1))), (104, 1, some (.iastore)), (105, 1, some (.dup)), (106, 1, some (.iconst 1)), (107, 1, some (.iconst (-1))), (108, 1, some (.iastore)), (109, 1, some (.dup)), (110, 1, some (.iconst 2)), (111, 1, some (.iconst (-1))), (112, 1, some (.iastore))] _ 63 rfl (by decide +kernel)
theorem dX10_init_63 : decode cX10_init 63 = .ok (.bipush 10, 2) := dq_g251.1
theorem dX10_init_67 : decode cX10_init 67 = .ok (.putfield 32, 3) := dq_g251.2.1
theorem dX10_init_70 : decode cX10_init 70 = .ok (.aload_n 0, 1) := dq_g251.2.2.1
theorem dX10_init_71 : decode cX10_init 71 = .ok (.sipush 2000, 3) := dq_g251.2.2.2.1
theorem dX10_init_76 : decode cX10_init 76 = .ok (.putfield 35, 3) := dq_g251.2.2.2.2.1
theorem dX10_init_79 : decode cX10_init 79 = .ok (.aload_n 0, 1) := dq_g251.2.2.2.2.2.1
theorem dX10_init_80 : decode cX10_init 80 = .ok (.sipush 2000, 3) := dq_g251.2.2.2.2.2.2.1
theorem dX10_init_85 : decode cX10_init 85 = .ok (.putfield 38, 3) := dq_g251.2.2.2.2.2.2.2.1
theorem dX10_init_88 : decode cX10_init 88 = .ok (.aload_n 0, 1) := dq_g251.2.2.2.2.2.2.2.2.1
theorem dX10_init_89 : decode cX10_init 89 = .ok (.bipush 10, 2) := dq_g251.2.2.2.2.2.2.2.2.2.1
theorem dX10_init_93 : decode cX10_init 93 = .ok (.putfield 41, 3) := dq_g251.2.2.2.2.2.2.2.2.2.2.1
theorem dX10_init_96 : decode cX10_init 96 = .ok (.aload_n 0, 1) := dq_g251.2.2.2.2.2.2.2.2.2.2.2.1
theorem dX10_init_97 : decode cX10_init 97 = .ok (.bipush 10, 2) := dq_g251.2.2.2.2.2.2.2.2.2.2.2.2.1
theorem dX10_init_101 : decode cX10_init 101 = .ok (.dup, 1) := dq_g251.2.2.2.2.2.2.2.2.2.2.2.2.2.1
theorem dX10_init_102 : decode cX10_init 102 = .ok (.iconst 0, 1) := dq_g251.2.2.2.2.2.2.2.2.2.2.2.2.2.2.1
theorem dX10_init_103 : decode cX10_init 103 = .ok (.iconst (-1), 1) := dq_g251.2.2.2.2.2.2.2.2.2.2.2.2.2.2.2.1
theorem dX10_init_104 : decode cX10_init 104 = .ok (.iastore, 1) := dq_g251.2.2.2.2.2.2.2.2.2.2.2.2.2.2.2.2.1
theorem dX10_init_105 : decode cX10_init 105 = .ok (.dup, 1) := dq_g251.2.2.2.2.2.2.2.2.2.2.2.2.2.2.2.2.2.1
theorem dX10_init_106 : decode cX10_init 106 = .ok (.iconst 1, 1) := dq_g251.2.2.2.2.2.2.2.2.2.2.2.2.2.2.2.2.2.2.1
theorem dX10_init_107 : decode cX10_init 107 = .ok (.iconst (-1), 1) := dq_g251.2.2.2.2.2.2.2.2.2.2.2.2.2.2.2.2.2.2.2.1
theorem dX10_init_108 : decode cX10_init 108 = .ok (.iastore, 1) := dq_g251.2.2.2.2.2.2.2.2.2.2.2.2.2.2.2.2.2.2.2.2.1
theorem dX10_init_109 : decode cX10_init 109 = .ok (.dup, 1) := dq_g251.2.2.2.2.2.2.2.2.2.2.2.2.2.2.2.2.2.2.2.2.2.1
theorem dX10_init_110 : decode cX10_init 110 = .ok (.iconst 2, 1) := dq_g251.2.2.2.2.2.2.2.2.2.2.2.2.2.2.2.2.2.2.2.2.2.2.1
theorem dX10_init_111 : decode cX10_init 111 = .ok (.iconst (-1), 1) := dq_g251.2.2.2.2.2.2.2.2.2.2.2.2.2.2.2.2.2.2.2.2.2.2.2.1
theorem dX10_init_112 : decode cX10_init 112 = .ok (.iastore, 1) := dq_g251.2.2.2.2.2.2.2.2.2.2.2.2.2.2.2.2.2.2.2.2.2.2.2.2.1
theorem dX10_init_65 : decode cX10_init 65 = .ok (.newarray .int, 2) := by decide +kernel
theorem dX10_init_74 : decode cX10_init 74 = .ok (.newarray .int, 2) := by decide +kernel
theorem dX10_init_83 : decode cX10_init 83 = .ok (.newarray .int, 2) := by decide +kernel
theorem dX10_init_91 : decode cX10_init 91 = .ok (.newarray .int, 2) := by decide +kernel
theorem dX10_init_99 : decode cX10_init 99 = .ok (.newarray .int, 2) := by decide +kernel
theorem dq_g252 : decode cX10_init 113 = .ok (.dup, 1) ∧ decode cX10_init 114 = .ok (.iconst 3, 1) ∧ decode cX10_init 115 = .ok (.iconst (-1), 1) ∧ decode cX10_init 116 = .ok (.iastore, 1) ∧ decode cX10_init 117 = .ok (.dup, 1) ∧ decode cX10_init 118 = .ok (.iconst 4, 1) ∧ decode cX10_init 119 = .ok (.iconst (-1), 1) ∧ decode cX10_init 120 = .ok (.iastore, 1) ∧ decode cX10_init 121 = .ok (.dup, 1) ∧ decode cX10_init 122 = .ok (.iconst 5, 1) ∧ decode cX10_init 123 = .ok (.iconst (-1), 1) ∧ decode cX10_init 124 = .ok (.iastore, 1) ∧ decode cX10_init 125 = .ok (.dup, 1) ∧ decode cX10_init 126 = .ok (.bipush 6, 2) ∧ decode cX10_init 128 = .ok (.iconst (-1), 1) ∧ decode cX10_init 129 = .ok (.iastore, 1) ∧ decode cX10_init 130 = .ok (.dup, 1) ∧ decode cX10_init 131 = .ok (.bipush 7, 2) ∧ decode cX10_init 133 = .ok (.iconst (-1), 1) ∧ decode cX10_init 134 = .ok (.iastore, 1) ∧ decode cX10_init 135 = .ok (.dup, 1) ∧ decode cX10_init 136 = .ok (.bipush 8, 2) ∧ decode cX10_init 138 = .ok (.iconst (-1), 1) ∧ decode cX10_init 139 = .ok (.iastore, 1) ∧ decode cX10_init 140 = .ok (.dup, 1) ∧ decode cX10_init 141 = .ok (.bipush 9, 2) ∧ decode cX10_init 143 = .ok (.iconst (-1), 1) ∧ decode cX10_init 144 = .ok (.iastore, 1) ∧ decode cX10_init 145 = .ok (.putfield 44, 3) ∧ decode cX10_init 148 = .ok (.aload_n 0, 1) ∧ True := dqC_ok (c := cX10_init) [(113, 1, some (.dup)), (114, 1, some (.iconst 3)), (115, 1, some (.iconst (-1))), (116, 1, some (.iastore)), (117, 1, some (.dup)), (118, 1, some (.iconst 4)), (119, 1, some (.iconst (-1))), (120, 1, some (.iastore)), (121, 1, some (.dup)), (122, 1, some (.iconst 5)), (123, 1, some (.iconst (-1))), (124, 1, some (.iastore)), (125, 1, some (.dup)), (126, 2, some (.bipush 6)), (128, 1, some (.iconst (-1))), (129, 1, some (.iastore)), (130, 1, some (.dup)), (131, 2, some (.bipush 7)), (133, 1, some (.iconst (-1))), (134, 1, some (.iastore)), (135, 1, some (.dup)), (136, 2, some (.bipush 8)), (138, 1, some (.iconst (-1))), (139, 1, some (.iastore)), (140, 1, some (.dup)), (141, 2, some (.bipush 9)), (143, 1, some (.iconst (-1))), (144, 1, some (.iastore)), (145, 3, some (.putfield 44)), (148, 1, some (.aload_n 0))] _ 113 rfl (by decide +kernel)
theorem dX10_init_113 : decode cX10_init 113 = .ok (.dup, 1) := dq_g252.1
theorem dX10_init_114 : decode cX10_init 114 = .ok (.iconst 3, 1) := dq_g252.2.1
theorem dX10_init_115 : decode cX10_init 115 = .ok (.iconst (-1), 1) := dq_g252.2.2.1
theorem dX10_init_116 : decode cX10_init 116 = .ok (.iastore, 1) := dq_g252.2.2.2.1
theorem dX10_init_117 : decode cX10_init 117 = .ok (.dup, 1) := dq_g252.2.2.2.2.1
theorem dX10_init_118 : decode cX10_init 118 = .ok (.iconst 4, 1) := dq_g252.2.2.2.2.2.1
theorem dX10_init_119 : decode cX10_init 119 = .ok (.iconst (-1), 1) := dq_g252.2.2.2.2.2.2.1
theorem dX10_init_120 : decode cX10_init 120 = .ok (.iastore, 1) := dq_g252.2.2.2.2.2.2.2.1
theorem dX10_init_121 : decode cX10_init 121 = .ok (.dup, 1) := dq_g252.2.2.2.2.2.2.2.2.1
theorem dX10_init_122 : decode cX10_init 122 = .ok (.iconst 5, 1) := dq_g252.2.2.2.2.2.2.2.2.2.1
theorem dX10_init_123 : decode cX10_init 123 = .ok (.iconst (-1), 1) := dq_g252.2.2.2.2.2.2.2.2.2.2.1
theorem dX10_init_124 : decode cX10_init 124 = .ok (.iastore, 1) := dq_g252.2.2.2.2.2.2.2.2.2.2.2.1
theorem dX10_init_125 : decode cX10_init 125 = .ok (.dup, 1) := dq_g252.2.2.2.2.2.2.2.2.2.2.2.2.1
theorem dX10_init_126 : decode cX10_init 126 = .ok (.bipush 6, 2) := dq_g252.2.2.2.2.2.2.2.2.2.2.2.2.2.1
theorem dX10_init_128 : decode cX10_init 128 = .ok (.iconst (-1), 1) := dq_g252.2.2.2.2.2.2.2.2.2.2.2.2.2.2.1
theorem dX10_init_129 : decode cX10_init 129 = .ok (.iastore, 1) := dq_g252.2.2.2.2.2.2.2.2.2.2.2.2.2.2.2.1
theorem dX10_init_130 : decode cX10_init 130 = .ok (.dup, 1) := dq_g252.2.2.2.2.2.2.2.2.2.2.2.2.2.2.2.2.1
theorem dX10_init_131 : decode cX10_init 131 = .ok (.bipush 7, 2) := dq_g252.2.2.2.2.2.2.2.2.2.2.2.2.2.2.2.2.2.1
theorem dX10_init_133 : decode cX10_init 133 = .ok (.iconst (-1), 1) := dq_g252.2.2.2.2.2.2.2.2.2.2.2.2.2.2.2.2.2.2.1
theorem dX10_init_134 : decode cX10_init 134 = .ok (.iastore, 1) := dq_g252.2.2.2.2.2.2.2.2.2.2.2.2.2.2.2.2.2.2.2.1
theorem dX10_init_135 : decode cX10_init 135 = .ok (.dup, 1) := dq_g252.2.2.2.2.2.2.2.2.2.2.2.2.2.2.2.2.2.2.2.2.1
theorem dX10_init_136 : decode cX10_init 136 = .ok (.bipush 8, 2) := dq_g252.2.2.2.2.2.2.2.2.2.2.2.2.2.2.2.2.2.2.2.2.2.1
theorem dX10_init_138 : decode cX10_init 138 = .ok (.iconst (-1), 1) := dq_g252.2.2.2.2.2.2.2.2.2.2.2.2.2.2.2.2.2.2.2.2.2.2.1
theorem dX10_init_139 : decode cX10_init 139 = .ok (.iastore, 1) := dq_g252.2.2.2.2.2.2.2.2.2.2.2.2.2.2.2.2.2.2.2.2.2.2.2.1
theorem dX10_init_140 : decode cX10_init 140 = .ok (.dup, 1) := dq_g252.2.2.2.2.2.2.2.2.2.2.2.2.2.2.2.2.2.2.2.2.2.2.2.2.1
theorem dX10_init_141 : decode cX10_init 141 = .ok (.bipush 9, 2) := dq_g252.2.2.2.2.2.2.2.2.2.2.2.2.2.2.2.2.2.2.2.2.2.2.2.2.2.1
theorem dX10_init_143 : decode cX10_init 143 = .ok (.iconst (-1), 1) := dq_g252.2.2.2.2.2.2.2.2.2.2.2.2.2.2.2.2.2.2.2.2.2.2.2.2.2.2.1
theorem dX10_init_144 : decode cX10_init 144 = .ok (.iastore, 1) := dq_g252.2.2.2.2.2.2.2.2.2.2.2.2.2.2.2.2.2.2.2.2.2.2.2.2.2.2.2.1
theorem dX10_init_145 : decode cX10_init 145 = .ok (.putfield 44, 3) := dq_g252.2.2.2.2.2.2.2.2.2.2.2.2.2.2.2.2.2.2.2.2.2.2.2.2.2.2.2.2.1
theorem dX10_init_148 : decode cX10_init 148 = .ok (.aload_n 0, 1) := dq_g252.2.2.2.2.2.2.2.2.2.2.2.2.2.2.2.2.2.2.2.2.2.2.2.2.2.2.2.2.2.1
theorem dq_g253 : decode cX10_init 149 = .ok (.bipush 10, 2) ∧ decode cX10_init 153 = .ok (.putfield 47, 3) ∧ decode cX10_init 156 = .ok (.aload_n 0, 1) ∧ decode cX10_init 157 = .ok (.bipush 20, 2) ∧ decode cX10_init 161 = .ok (.putfield 50, 3) ∧ decode cX10_init 164 = .ok (.aload_n 0, 1) ∧ decode cX10_init 165 = .ok (.sipush 500, 3) ∧ decode cX10_init 170 = .ok (.putfield 53, 3) ∧ decode cX10_init 173 = .ok (.aload_n 0, 1) ∧ decode cX10_init 174 = .ok (.bipush 115, 2) ∧ decode cX10_init 178 = .ok (.dup, 1) ∧ decode cX10_init 179 = .ok (.iconst 0, 1) ∧ decode cX10_init 180 = .ok (.bipush 32, 2) ∧ decode cX10_init 182 = .ok (.iastore, 1) ∧ decode cX10_init 183 = .ok (.dup, 1) ∧ decode cX10_init 184 = .ok (.iconst 1, 1) ∧ decode cX10_init 185 = .ok (.bipush 98, 2) ∧ decode cX10_init 187 = .ok (.iastore, 1) ∧ decode cX10_init 188 = .ok (.dup, 1) ∧ decode cX10_init 189 = .ok (.iconst 2, 1) ∧ decode cX10_init 190 = .ok (.bipush 101, 2) ∧ decode cX10_init 192 = .ok (.iastore, 1) ∧ decode cX10_init 193 = .ok (.dup, 1) ∧ decode cX10_init 194 = .ok (.iconst 3, 1) ∧ decode cX10_init 195 = .ok (.bipush 110, 2) ∧ decode cX10_init 197 = .ok (.iastore, 1) ∧ True := dqC_ok (c := cX10_init) [(149, 2, some (.bipush 10)), (151, 2, none), (153, 3, some (.putfield 47)), (156, 1, some (.aload_n 0)), (157, 2, some (.bipush 20)), (159, 2, none), (161, 3, some (.putfield 50)), (164, 1, some (.aload_n 0)), (165, 3, some (.sipush 500)), (168, 2, none), (170, 3, some (.putfield 53)), (173, 1, some (.aload_n 0)), (174, 2, some (.bipush 115)), (176, 2, none), (178, 1, some (.dup)), (179, 1, some (.iconst 0)), (180, 2, some (.bipush 32)), (182, 1, some (.iastore)), (183, 1, some (.dup)), (184, 1, some (.iconst 1)), (185, 2, some (.bipush 98)), (187, 1, some (.iastore)), (188, 1, some (.dup)), (189, 1, some (.iconst 2)), (190, 2, some (.bipush 101)), (192, 1, some (.iastore)), (193, 1, some (.dup)), (194, 1, some (.iconst 3)), (195, 2, some (.bipush 110)), (197, 1, some (.iastore))] _ 149 rfl (by decide +kernel)
theorem dX10_init_149 : decode cX10_init 149 = .ok (.bipush 10, 2) := dq_g253.1
theorem dX10_init_153 : decode cX10_init 153 = .ok (.putfield 47, 3) := dq_g253.2.1
theorem dX10_init_156 : decode cX10_init 156 = .ok (.aload_n 0, 1) := dq_g253.2.2.1
theorem dX10_init_157 : decode cX10_init 157 = .ok (.bipush 20, 2) := dq_g253.2.2.2.1
theorem dX10_init_161 : decode cX10_init 161 = .ok (.putfield 50, 3) := dq_g253.2.2.2.2.1
theorem dX10_init_164 : decode cX10_init 164 = .ok (.aload_n 0, 1) := dq_g253.2.2.2.2.2.1
theorem dX10_init_165 : decode cX10_init 165 = .ok (.sipush 500, 3) := dq_g253.2.2.2.2.2.2.1
theorem dX10_init_170 : decode cX10_init 170 = .ok (.putfield 53, 3) := dq_g253.2.2.2.2.2.2.2.1
theorem dX10_init_173 : decode cX10_init 173 = .ok (.aload_n 0, 1) := dq_g253.2.2.2.2.2.2.2.2.1
theorem dX10_init_174 : decode cX10_init 174 = .ok (.bipush 115, 2) := dq_g253.2.2.2.2.2.2.2.2.2.1
theorem dX10_init_178 : decode cX10_init 178 = .ok (.dup, 1) := dq_g253.2.2.2.2.2.2.2.2.2.2.1
theorem dX10_init_179 : decode cX10_init 179 = .ok (.iconst 0, 1) := dq_g253.2.2.2.2.2.2.2.2.2.2.2.1
theorem dX10_init_180 : decode cX10_init 180 = .ok (.bipush 32, 2) := dq_g253.2.2.2.2.2.2.2.2.2.2.2.2.1
theorem dX10_init_182 : decode cX10_init 182 = .ok (.iastore, 1) := dq_g253.2.2.2.2.2.2.2.2.2.2.2.2.2.1
theorem dX10_init_183 : decode cX10_init 183 = .ok (.dup, 1) := dq_g253.2.2.2.2.2.2.2.2.2.2.2.2.2.2.1
theorem dX10_init_184 : decode cX10_init 184 = .ok (.iconst 1, 1) := dq_g253.2.2.2.2.2.2.2.2.2.2.2.2.2.2.2.1
theorem dX10_init_185 : decode cX10_init 185 = .ok (.bipush 98, 2) := dq_g253.2.2.2.2.2.2.2.2.2.2.2.2.2.2.2.2.1
theorem dX10_init_187 : decode cX10_init 187 = .ok (.iastore, 1) := dq_g253.2.2.2.2.2.2.2.2.2.2.2.2.2.2.2.2.2.1
theorem dX10_init_188 : decode cX10_init 188 = .ok (.dup, 1) := dq_g253.2.2.2.2.2.2.2.2.2.2.2.2.2.2.2.2.2.2.1
theorem dX10_init_189 : decode cX10_init 189 = .ok (.iconst 2, 1) := dq_g253.2.2.2.2.2.2.2.2.2.2.2.2.2.2.2.2.2.2.2.1
theorem dX10_init_190 : decode cX10_init 190 = .ok (.bipush 101, 2) := dq_g253.2.2.2.2.2.2.2.2.2.2.2.2.2.2.2.2.2.2.2.2.1
theorem dX10_init_192 : decode cX10_init 192 = .ok (.iastore, 1) := dq_g253.2.2.2.2.2.2.2.2.2.2.2.2.2.2.2.2.2.2.2.2.2.1
theorem dX10_init_193 : decode cX10_init 193 = .ok (.dup, 1) := dq_g253.2.2.2.2.2.2.2.2.2.2.2.2.2.2.2.2.2.2.2.2.2.2.1
theorem dX10_init_194 : decode cX10_init 194 = .ok (.iconst 3, 1) := dq_g253.2.2.2.2.2.2.2.2.2.2.2.2.2.2.2.2.2.2.2.2.2.2.2.1
theorem dX10_init_195 : decode cX10_init 195 = .ok (.bipush 110, 2) := dq_g253.2.2.2.2.2.2.2.2.2.2.2.2.2.2.2.2.2.2.2.2.2.2.2.2.1
theorem dX10_init_197 : decode cX10_init 197 = .ok (.iastore, 1) := dq_g253.2.2.2.2.2.2.2.2.2.2.2.2.2.2.2.2.2.2.2.2.2.2.2.2.2.1
theorem dX10_init_151 : decode cX10_init 151 = .ok (.newarray .int, 2) := by decide +kernel
theorem dX10_init_159 : decode cX10_init 159 = .ok (.newarray .int, 2) := by decide +kernel
theorem dX10_init_168 : decode cX10_init 168 = .ok (.newarray .int, 2) := by decide +kernel
theorem dX10_init_176 : decode cX10_init 176 = .ok (.newarray .int, 2) := by decide +kernel
theorem dq_g254 : decode cX10_init 198 = .ok (.dup, 1) ∧ decode cX10_init 199 = .ok (.iconst 4, 1) ∧ decode cX10_init 200 = .ok (.bipush 100, 2) ∧ decode cX10_init 202 = .ok (.iastore, 1) ∧ decode cX10_init 203 = .ok (.dup, 1) ∧ decode cX10_init 204 = .ok (.iconst 5, 1) ∧ decode cX10_init 205 = .ok (.bipush 32, 2) ∧ decode cX10_init 207 = .ok (.iastore, 1) ∧ decode cX10_init 208 = .ok (.dup, 1) ∧ decode cX10_init 209 = .ok (.bipush 6, 2) ∧ decode cX10_init 211 = .ok (.bipush 109, 2) ∧ decode cX10_init 213 = .ok (.iastore, 1) ∧ decode cX10_init 214 = .ok (.dup, 1) ∧ decode cX10_init 215 = .ok (.bipush 7, 2) ∧ decode cX10_init 217 = .ok (.bipush 97, 2) ∧ decode cX10_init 219 = .ok (.iastore, 1) ∧ decode cX10_init 220 = .ok (.dup, 1) ∧ decode cX10_init 221 = .ok (.bipush 8, 2) ∧ decode cX10_init 223 = .ok (.bipush 115, 2) ∧ decode cX10_init 225 = .ok (.iastore, 1) ∧ decode cX10_init 226 = .ok (.dup, 1) ∧ decode cX10_init 227 = .ok (.bipush 9, 2) ∧ decode cX10_init 229 = .ok (.bipush 115, 2) ∧ decode cX10_init 231 = .ok (.iastore, 1) ∧ decode cX10_init 232 = .ok (.dup, 1) ∧ decode cX10_init 233 = .ok (.bipush 10, 2) ∧ decode cX10_init 235 = .ok (.bipush 32, 2) ∧ decode cX10_init 237 = .ok (.iastore, 1) ∧ decode cX10_init 238 = .ok (.dup, 1) ∧ decode cX10_init 239 = .ok (.bipush 11, 2) ∧ True := dqC_ok (c := cX10_init) [(198, 1, some (.dup)), (199, 1, some (.iconst 4)), (200, 2, some (.bipush 100)), (202, 1, some (.iastore)), (203, 1, some (.dup)), (204, 1, some (.iconst 5)), (205, 2, some (.bipush 32)), (207, 1, some (.iastore)), (208, 1, some (.dup)), (209, 2, some (.bipush 6)), (211, 2, some (.bipush 109)), (213, 1, some (.iastore)), (214, 1, some (.dup)), (215, 2, some (.bipush 7)), (217, 2, some (.bipush 97)), (219, 1, some (.iastore)), (220, 1, some (.dup)), (221, 2, some (.bipush 8)), (223, 2, some (.bipush 115)), (225, 1, some (.iastore)), (226, 1, some (.dup)), (227, 2, some (.bipush 9)), (229, 2, some (.bipush 115)), (231, 1, some (.iastore)), (232, 1, some (.dup)), (233, 2, some (.bipush 10)), (235, 2, some (.bipush 32)), (237, 1, some (.iastore)), (238, 1, some (.dup)), (239, 2, some (.bipush 11))] _ 198 rfl (by decide +kernel)
theorem dX10_init_198 : decode cX10_init 198 = .ok (.dup, 1) := dq_g254.1
theorem dX10_init_199 : decode cX10_init 199 = .ok (.iconst 4, 1) := dq_g254.2.1
theorem dX10_init_200 : decode cX10_init 200 = .ok (.bipush 100, 2) := dq_g254.2.2.1
theorem dX10_init_202 : decode cX10_init 202 = .ok (.iastore, 1) := dq_g254.2.2.2.1
theorem dX10_init_203 : decode cX10_init 203 = .ok (.dup, 1) := dq_g254.2.2.2.2.1
theorem dX10_init_204 : decode cX10_init 204 = .ok (.iconst 5, 1) := dq_g254.2.2.2.2.2.1
theorem dX10_init_205 : decode cX10_init 205 = .ok (.bipush 32, 2) := dq_g254.2.2.2.2.2.2.1
theorem dX10_init_207 : decode cX10_init 207 = .ok (.iastore, 1) := dq_g254.2.2.2.2.2.2.2.1
theorem dX10_init_208 : decode cX10_init 208 = .ok (.dup, 1) := dq_g254.2.2.2.2.2.2.2.2.1
theorem dX10_init_209 : decode cX10_init 209 = .ok (.bipush 6, 2) := dq_g254.2.2.2.2.2.2.2.2.2.1
theorem dX10_init_211 : decode cX10_init 211 = .ok (.bipush 109, 2) := dq_g254.2.2.2.2.2.2.2.2.2.2.1
theorem dX10_init_213 : decode cX10_init 213 = .ok (.iastore, 1) := dq_g254.2.2.2.2.2.2.2.2.2.2.2.1
theorem dX10_init_214 : decode cX10_init 214 = .ok (.dup, 1) := dq_g254.2.2.2.2.2.2.2.2.2.2.2.2.1
theorem dX10_init_215 : decode cX10_init 215 = .ok (.bipush 7, 2) := dq_g254.2.2.2.2.2.2.2.2.2.2.2.2.2.1
theorem dX10_init_217 : decode cX10_init 217 = .ok (.bipush 97, 2) := dq_g254.2.2.2.2.2.2.2.2.2.2.2.2.2.2.1
theorem dX10_init_219 : decode cX10_init 219 = .ok (.iastore, 1) := dq_g254.2.2.2.2.2.2.2.2.2.2.2.2.2.2.2.1
theorem dX10_init_220 : decode cX10_init 220 = .ok (.dup, 1) := dq_g254.2.2.2.2.2.2.2.2.2.2.2.2.2.2.2.2.1
theorem dX10_init_221 : decode cX10_init 221 = .ok (.bipush 8, 2) := dq_g254.2.2.2.2.2.2.2.2.2.2.2.2.2.2.2.2.2.1
theorem dX10_init_223 : decode cX10_init 223 = .ok (.bipush 115, 2) := dq_g254.2.2.2.2.2.2.2.2.2.2.2.2.2.2.2.2.2.2.1
theorem dX10_init_225 : decode cX10_init 225 = .ok (.iastore, 1) := dq_g254.2.2.2.2.2.2.2.2.2.2.2.2.2.2.2.2.2.2.2.1
theorem dX10_init_226 : decode cX10_init 226 = .ok (.dup, 1) := dq_g254.2.2.2.2.2.2.2.2.2.2.2.2.2.2.2.2.2.2.2.2.1
theorem dX10_init_227 : decode cX10_init 227 = .ok (.bipush 9, 2) := dq_g254.2.2.2.2.2.2.2.2.2.2.2.2.2.2.2.2.2.2.2.2.2.1
theorem dX10_init_229 : decode cX10_init 229 = .ok (.bipush 115, 2) := dq_g254.2.2.2.2.2.2.2.2.2.2.2.2.2.2.2.2.2.2.2.2.2.2.1
theorem dX10_init_231 : decode cX10_init 231 = .ok (.iastore, 1) := dq_g254.2.2.2.2.2.2.2.2.2.2.2.2.2.2.2.2.2.2.2.2.2.2.2.1
theorem dX10_init_232 : decode cX10_init 232 = .ok (.dup, 1) := dq_g254.2.2.2.2.2.2.2.2.2.2.2.2.2.2.2.2.2.2.2.2.2.2.2.2.1
theorem dX10_init_233 : decode cX10_init 233 = .ok (.bipush 10, 2) := dq_g254.2.2.2.2.2.2.2.2.2.2.2.2.2.2.2.2.2.2.2.2.2.2.2.2.2.1
theorem dX10_init_235 : decode cX10_init 235 = .ok (.bipush 32, 2) := dq_g254.2.2.2.2.2.2.2.2.2.2.2.2.2.2.2.2.2.2.2.2.2.2.2.2.2.2.1
theorem dX10_init_237 : decode cX10_init 237 = .ok (.iastore, 1) := dq_g254.2.2.2.2.2.2.2.2.2.2.2.2.2.2.2.2.2.2.2.2.2.2.2.2.2.2.2.1
theorem dX10_init_238 : decode cX10_init 238 = .ok (.dup, 1) := dq_g254.2.2.2.2.2.2.2.2.2.2.2.2.2.2.2.2.2.2.2.2.2.2.2.2.2.2.2.2.1
theorem dX10_init_239 : decode cX10_init 239 = .ok (.bipush 11, 2) := dq_g254.2.2.2.2.2.2.2.2.2.2.2.2.2.2.2.2.2.2.2.2.2.2.2.2.2.2.2.2.2.1
theorem dq_g255 : decode cX10_init 241 = .ok (.bipush 115, 2) ∧ decode cX10_init 243 = .ok (.iastore, 1) ∧ decode cX10_init 244 = .ok (.dup, 1) ∧ decode cX10_init 245 = .ok (.bipush 12, 2) ∧ decode cX10_init 247 = .ok (.bipush 119, 2) ∧ decode cX10_init 249 = .ok (.iastore, 1) ∧ decode cX10_init 250 = .ok (.dup, 1) ∧ decode cX10_init 251 = .ok (.bipush 13, 2) ∧ decode cX10_init 253 = .ok (.bipush 97, 2) ∧ decode cX10_init 255 = .ok (.iastore, 1) ∧ decode cX10_init 256 = .ok (.dup, 1) ∧ decode cX10_init 257 = .ok (.bipush 14, 2) ∧ decode cX10_init 259 = .ok (.bipush 121, 2) ∧ decode cX10_init 261 = .ok (.iastore, 1) ∧ decode cX10_init 262 = .ok (.dup, 1) ∧ decode cX10_init 263 = .ok (.bipush 15, 2) ∧ decode cX10_init 265 = .ok (.bipush 32, 2) ∧ decode cX10_init 267 = .ok (.iastore, 1) ∧ decode cX10_init 268 = .ok (.dup, 1) ∧ decode cX10_init 269 = .ok (.bipush 16, 2) ∧ decode cX10_init 271 = .ok (.bipush 100, 2) ∧ decode cX10_init 273 = .ok (.iastore, 1) ∧ decode cX10_init 274 = .ok (.dup, 1) ∧ decode cX10_init 275 = .ok (.bipush 17, 2) ∧ decode cX10_init 277 = .ok (.bipush 114, 2) ∧ decode cX10_init 279 = .ok (.iastore, 1) ∧ decode cX10_init 280 = .ok (.dup, 1) ∧ decode cX10_init 281 = .ok (.bipush 18, 2) ∧ decode cX10_init 283 = .ok (.bipush 105, 2) ∧ decode cX10_init 285 = .ok (.iastore, 1) ∧ True := dqC_ok (c := cX10_init) [(241, 2, some (.bipush 115)), (243, 1, some (.iastore)), (244, 1, some (.dup)), (245, 2, some (.bipush 12)), (247, 2, some (.bipush 119)), (249, 1, some (.iastore)), (250, 1, some (.dup)), (251, 2, some (.bipush 13)), (253, 2, some (.bipush 97)), (255, 1, some (.iastore)), (256, 1, some (.dup)), (257, 2, some (.bipush 14)), (259, 2, some (.bipush 121)), (261, 1, some (.iastore)), (262, 1, some (.dup)), (263, 2, some (.bipush 15)), (265, 2, some (.bipush 32)), (267, 1, some (.iastore)), (268, 1, some (.dup)), (269, 2, some (.bipush 16)), (271, 2, some (.bipush 100)), (273, 1, some (.iastore)), (274, 1, some (.dup)), (275, 2, some (.bipush 17)), (277, 2, some (.bipush 114)), (279, 1, some (.iastore)), (280, 1, some (.dup)), (281, 2, some (.bipush 18)), (283, 2, some (.bipush 105)), (285, 1, some (.iastore))] _ 241 rfl (by decide +kernel)
theorem dX10_init_241 : decode cX10_init 241 = .ok (.bipush 115, 2) := dq_g255.1
theorem dX10_init_243 : decode cX10_init 243 = .ok (.iastore, 1) := dq_g255.2.1
theorem dX10_init_244 : decode cX10_init 244 = .ok (.dup, 1) := dq_g255.2.2.1
theorem dX10_init_245 : decode cX10_init 245 = .ok (.bipush 12, 2) := dq_g255.2.2.2.1
theorem dX10_init_247 : decode cX10_init 247 = .ok (.bipush 119, 2) := dq_g255.2.2.2.2.1
theorem dX10_init_249 : decode cX10_init 249 = .ok (.iastore, 1) := dq_g255.2.2.2.2.2.1
theorem dX10_init_250 : decode cX10_init 250 = .ok (.dup, 1) := dq_g255.2.2.2.2.2.2.1
theorem dX10_init_251 : decode cX10_init 251 = .ok (.bipush 13, 2) := dq_g255.2.2.2.2.2.2.2.1
theorem dX10_init_253 : decode cX10_init 253 = .ok (.bipush 97, 2) := dq_g255.2.2.2.2.2.2.2.2.1
theorem dX10_init_255 : decode cX10_init 255 = .ok (.iastore, 1) := dq_g255.2.2.2.2.2.2.2.2.2.1
theorem dX10_init_256 : decode cX10_init 256 = .ok (.dup, 1) := dq_g255.2.2.2.2.2.2.2.2.2.2.1
theorem dX10_init_257 : decode cX10_init 257 = .ok (.bipush 14, 2) := dq_g255.2.2.2.2.2.2.2.2.2.2.2.1
theorem dX10_init_259 : decode cX10_init 259 = .ok (.bipush 121, 2) := dq_g255.2.2.2.2.2.2.2.2.2.2.2.2.1
theorem dX10_init_261 : decode cX10_init 261 = .ok (.iastore, 1) := dq_g255.2.2.2.2.2.2.2.2.2.2.2.2.2.1
theorem dX10_init_262 : decode cX10_init 262 = .ok (.dup, 1) := dq_g255.2.2.2.2.2.2.2.2.2.2.2.2.2.2.1
theorem dX10_init_263 : decode cX10_init 263 = .ok (.bipush 15, 2) := dq_g255.2.2.2.2.2.2.2.2.2.2.2.2.2.2.2.1
theorem dX10_init_265 : decode cX10_init 265 = .ok (.bipush 32, 2) := dq_g255.2.2.2.2.2.2.2.2.2.2.2.2.2.2.2.2.1
theorem dX10_init_267 : decode cX10_init 267 = .ok (.iastore, 1) := dq_g255.2.2.2.2.2.2.2.2.2.2.2.2.2.2.2.2.2.1
theorem dX10_init_268 : decode cX10_init 268 = .ok (.dup, 1) := dq_g255.2.2.2.2.2.2.2.2.2.2.2.2.2.2.2.2.2.2.1
theorem dX10_init_269 : decode cX10_init 269 = .ok (.bipush 16, 2) := dq_g255.2.2.2.2.2.2.2.2.2.2.2.2.2.2.2.2.2.2.2.1
theorem dX10_init_271 : decode cX10_init 271 = .ok (.bipush 100, 2) := dq_g255.2.2.2.2.2.2.2.2.2.2.2.2.2.2.2.2.2.2.2.2.1
theorem dX10_init_273 : decode cX10_init 273 = .ok (.iastore, 1) := dq_g255.2.2.2.2.2.2.2.2.2.2.2.2.2.2.2.2.2.2.2.2.2.1
theorem dX10_init_274 : decode cX10_init 274 = .ok (.dup, 1) := dq_g255.2.2.2.2.2.2.2.2.2.2.2.2.2.2.2.2.2.2.2.2.2.2.1
theorem dX10_init_275 : decode cX10_init 275 = .ok (.bipush 17, 2) := dq_g255.2.2.2.2.2.2.2.2.2.2.2.2.2.2.2.2.2.2.2.2.2.2.2.1
theorem dX10_init_277 : decode cX10_init 277 = .ok (.bipush 114, 2) := dq_g255.2.2.2.2.2.2.2.2.2.2.2.2.2.2.2.2.2.2.2.2.2.2.2.2.1
theorem dX10_init_279 : decode cX10_init 279 = .ok (.iastore, 1) := dq_g255.2.2.2.2.2.2.2.2.2.2.2.2.2.2.2.2.2.2.2.2.2.2.2.2.2.1
theorem dX10_init_280 : decode cX10_init 280 = .ok (.dup, 1) := dq_g255.2.2.2.2.2.2.2.2.2.2.2.2.2.2.2.2.2.2.2.2.2.2.2.2.2.2.1
theorem dX10_init_281 : decode cX10_init 281 = .ok (.bipush 18, 2) := dq_g255.2.2.2.2.2.2.2.2.2.2.2.2.2.2.2.2.2.2.2.2.2.2.2.2.2.2.2.1
theorem dX10_init_283 : decode cX10_init 283 = .ok (.bipush 105, 2) := dq_g255.2.2.2.2.2.2.2.2.2.2.2.2.2.2.2.2.2.2.2.2.2.2.2.2.2.2.2.2.1
theorem dX10_init_285 : decode cX10_init 285 = .ok (.iastore, 1) := dq_g255.2.2.2.2.2.2.2.2.2.2.2.2.2.2.2.2.2.2.2.2.2.2.2.2.2.2.2.2.2.1
theorem dq_g256 : decode cX10_init 286 = .ok (.dup, 1) ∧ decode cX10_init 287 = .ok (.bipush 19, 2) ∧ decode cX10_init 289 = .ok (.bipush 102, 2) ∧ decode cX10_init 291 = .ok (.iastore, 1) ∧ decode cX10_init 292 = .ok (.dup, 1) ∧ decode cX10_init 293 = .ok (.bipush 20, 2) ∧ decode cX10_init 295 = .ok (.bipush 116, 2) ∧ decode cX10_init 297 = .ok (.iastore, 1) ∧ decode cX10_init 298 = .ok (.dup, 1) ∧ decode cX10_init 299 = .ok (.bipush 21, 2) ∧ decode cX10_init 301 = .ok (.bipush 32, 2) ∧ decode cX10_init 303 = .ok (.iastore, 1) ∧ decode cX10_init 304 = .ok (.dup, 1) ∧ decode cX10_init 305 = .ok (.bipush 22, 2) ∧ decode cX10_init 307 = .ok (.bipush 115, 2) ∧ decode cX10_init 309 = .ok (.iastore, 1) ∧ decode cX10_init 310 = .ok (.dup, 1) ∧ decode cX10_init 311 = .ok (.bipush 23, 2) ∧ decode cX10_init 313 = .ok (.bipush 104, 2) ∧ decode cX10_init 315 = .ok (.iastore, 1) ∧ decode cX10_init 316 = .ok (.dup, 1) ∧ decode cX10_init 317 = .ok (.bipush 24, 2) ∧ decode cX10_init 319 = .ok (.bipush 97, 2) ∧ decode cX10_init 321 = .ok (.iastore, 1) ∧ decode cX10_init 322 = .ok (.dup, 1) ∧ decode cX10_init 323 = .ok (.bipush 25, 2) ∧ decode cX10_init 325 = .ok (.bipush 118, 2) ∧ decode cX10_init 327 = .ok (.iastore, 1) ∧ decode cX10_init 328 = .ok (.dup, 1) ∧ decode cX10_init 329 = .ok (.bipush 26, 2) ∧ True := dqC_ok (c := cX10_init) [(286, 1, some (.dup)), (287, 2, some (.bipush 19)), (289, 2, some (.bipush 102)), (291, 1, some (.iastore)), (292, 1, some (.dup)), (293, 2, some (.bipush 20)), (295, 2, some (.bipush 116)), (297, 1, some (.iastore)), (298, 1, some (.dup)), (299, 2, some (.bipush 21)), (301, 2, some (.bipush 32)), (303, 1, some (.iastore)), (304, 1, some (.dup)), (305, 2, some (.bipush 22)), (307, 2, some (.bipush 115)), (309, 1, some (.iastore)), (310, 1, some (.dup)), (311, 2, some (.bipush 23)), (313, 2, some (.bipush 104)), (315, 1, some (.iastore)), (316, 1, some (.dup)), (317, 2, some (.bipush 24)), (319, 2, some (.bipush 97)), (321, 1, some (.iastore)), (322, 1, some (.dup)), (323, 2, some (.bipush 25)), (325, 2, some (.bipush 118)), (327, 1, some (.iastore)), (328, 1, some (.dup)), (329, 2, some (.bipush 26))] _ 286 rfl (by decide +kernel)
theorem dX10_init_286 : decode cX10_init 286 = .ok (.dup, 1) := dq_g256.1
theorem dX10_init_287 : decode cX10_init 287 = .ok (.bipush 19, 2) := dq_g256.2.1
theorem dX10_init_289 : decode cX10_init 289 = .ok (.bipush 102, 2) := dq_g256.2.2.1
theorem dX10_init_291 : decode cX10_init 291 = .ok (.iastore, 1) := dq_g256.2.2.2.1
theorem dX10_init_292 : decode cX10_init 292 = .ok (.dup, 1) := dq_g256.2.2.2.2.1
theorem dX10_init_293 : decode cX10_init 293 = .ok (.bipush 20, 2) := dq_g256.2.2.2.2.2.1
theorem dX10_init_295 : decode cX10_init 295 = .ok (.bipush 116, 2) := dq_g256.2.2.2.2.2.2.1
theorem dX10_init_297 : decode cX10_init 297 = .ok (.iastore, 1) := dq_g256.2.2.2.2.2.2.2.1
theorem dX10_init_298 : decode cX10_init 298 = .ok (.dup, 1) := dq_g256.2.2.2.2.2.2.2.2.1
theorem dX10_init_299 : decode cX10_init 299 = .ok (.bipush 21, 2) := dq_g256.2.2.2.2.2.2.2.2.2.1
theorem dX10_init_301 : decode cX10_init 301 = .ok (.bipush 32, 2) := dq_g256.2.2.2.2.2.2.2.2.2.2.1
theorem dX10_init_303 : decode cX10_init 303 = .ok (.iastore, 1) := dq_g256.2.2.2.2.2.2.2.2.2.2.2.1
theorem dX10_init_304 : decode cX10_init 304 = .ok (.dup, 1) := dq_g256.2.2.2.2.2.2.2.2.2.2.2.2.1
theorem dX10_init_305 : decode cX10_init 305 = .ok (.bipush 22, 2) := dq_g256.2.2.2.2.2.2.2.2.2.2.2.2.2.1
theorem dX10_init_307 : decode cX10_init 307 = .ok (.bipush 115, 2) := dq_g256.2.2.2.2.2.2.2.2.2.2.2.2.2.2.1
theorem dX10_init_309 : decode cX10_init 309 = .ok (.iastore, 1) := dq_g256.2.2.2.2.2.2.2.2.2.2.2.2.2.2.2.1
theorem dX10_init_310 : decode cX10_init 310 = .ok (.dup, 1) := dq_g256.2.2.2.2.2.2.2.2.2.2.2.2.2.2.2.2.1
theorem dX10_init_311 : decode cX10_init 311 = .ok (.bipush 23, 2) := dq_g256.2.2.2.2.2.2.2.2.2.2.2.2.2.2.2.2.2.1
theorem dX10_init_313 : decode cX10_init 313 = .ok (.bipush 104, 2) := dq_g256.2.2.2.2.2.2.2.2.2.2.2.2.2.2.2.2.2.2.1
theorem dX10_init_315 : decode cX10_init 315 = .ok (.iastore, 1) := dq_g256.2.2.2.2.2.2.2.2.2.2.2.2.2.2.2.2.2.2.2.1
theorem dX10_init_316 : decode cX10_init 316 = .ok (.dup, 1) := dq_g256.2.2.2.2.2.2.2.2.2.2.2.2.2.2.2.2.2.2.2.2.1
theorem dX10_init_317 : decode cX10_init 317 = .ok (.bipush 24, 2) := dq_g256.2.2.2.2.2.2.2.2.2.2.2.2.2.2.2.2.2.2.2.2.2.1
theorem dX10_init_319 : decode cX10_init 319 = .ok (.bipush 97, 2) := dq_g256.2.2.2.2.2.2.2.2.2.2.2.2.2.2.2.2.2.2.2.2.2.2.1
theorem dX10_init_321 : decode cX10_init 321 = .ok (.iastore, 1) := dq_g256.2.2.2.2.2.2.2.2.2.2.2.2.2.2.2.2.2.2.2.2.2.2.2.1
theorem dX10_init_322 : decode cX10_init 322 = .ok (.dup, 1) := dq_g256.2.2.2.2.2.2.2.2.2.2.2.2.2.2.2.2.2.2.2.2.2.2.2.2.1
theorem dX10_init_323 : decode cX10_init 323 = .ok (.bipush 25, 2) := dq_g256.2.2.2.2.2.2.2.2.2.2.2.2.2.2.2.2.2.2.2.2.2.2.2.2.2.1
theorem dX10_init_325 : decode cX10_init 325 = .ok (.bipush 118, 2) := dq_g256.2.2.2.2.2.2.2.2.2.2.2.2.2.2.2.2.2.2.2.2.2.2.2.2.2.2.1
theorem dX10_init_327 : decode cX10_init 327 = .ok (.iastore, 1) := dq_g256.2.2.2.2.2.2.2.2.2.2.2.2.2.2.2.2.2.2.2.2.2.2.2.2.2.2.2.1
theorem dX10_init_328 : decode cX10_init 328 = .ok (.dup, 1) := dq_g256.2.2.2.2.2.2.2.2.2.2.2.2.2.2.2.2.2.2.2.2.2.2.2.2.2.2.2.2.1
theorem dX10_init_329 : decode cX10_init 329 = .ok (.bipush 26, 2) := dq_g256.2.2.2.2.2.2.2.2.2.2.2.2.2.2.2.2.2.2.2.2.2.2.2.2.2.2.2.2.2.1
theorem dq_g257 : decode cX10_init 331 = .ok (.bipush 101, 2) ∧ decode cX10_init 333 = .ok (.iastore, 1) ∧ decode cX10_init 334 = .ok (.dup, 1) ∧ decode cX10_init 335 = .ok (.bipush 27, 2) ∧ decode cX10_init 337 = .ok (.bipush 32, 2) ∧ decode cX10_init 339 = .ok (.iastore, 1) ∧ decode cX10_init 340 = .ok (.dup, 1) ∧ decode cX10_init 341 = .ok (.bipush 28, 2) ∧ decode cX10_init 343 = .ok (.bipush 97, 2) ∧ decode cX10_init 345 = .ok (.iastore, 1) ∧ decode cX10_init 346 = .ok (.dup, 1) ∧ decode cX10_init 347 = .ok (.bipush 29, 2) ∧ decode cX10_init 349 = .ok (.bipush 114, 2) ∧ decode cX10_init 351 = .ok (.iastore, 1) ∧ decode cX10_init 352 = .ok (.dup, 1) ∧ decode cX10_init 353 = .ok (.bipush 30, 2) ∧ decode cX10_init 355 = .ok (.bipush 99, 2) ∧ decode cX10_init 357 = .ok (.iastore, 1) ∧ decode cX10_init 358 = .ok (.dup, 1) ∧ decode cX10_init 359 = .ok (.bipush 31, 2) ∧ decode cX10_init 361 = .ok (.bipush 32, 2) ∧ decode cX10_init 363 = .ok (.iastore, 1) ∧ decode cX10_init 364 = .ok (.dup, 1) ∧ decode cX10_init 365 = .ok (.bipush 32, 2) ∧ decode cX10_init 367 = .ok (.bipush 119, 2) ∧ decode cX10_init 369 = .ok (.iastore, 1) ∧ decode cX10_init 370 = .ok (.dup, 1) ∧ decode cX10_init 371 = .ok (.bipush 33, 2) ∧ decode cX10_init 373 = .ok (.bipush 104, 2) ∧ decode cX10_init 375 = .ok (.iastore, 1) ∧ True := dqC_ok (c := cX10_init) [(331, 2, some (.bipush 101)), (333, 1, some (.iastore)), (334, 1, some (.dup)), (335, 2, some (.bipush 27)), (337, 2, some (.bipush 32)), (339, 1, some (.iastore)), (340, 1, some (.dup)), (341, 2, some (.bipush 28)), (343, 2, some (.bipush 97)), (345, 1, some (.iastore)), (346, 1, some (.dup)), (347, 2, some (.bipush 29)), (349, 2, some (.bipush 114)), (351, 1, some (.iastore)), (352, 1, some (.dup)), (353, 2, some (.bipush 30)), (355, 2, some (.bipush 99)), (357, 1, some (.iastore)), (358, 1, some (.dup)), (359, 2, some (.bipush 31)), (361, 2, some (.bipush 32)), (363, 1, some (.iastore)), (364, 1, some (.dup)), (365, 2, some (.bipush 32)), (367, 2, some (.bipush 119)), (369, 1, some (.iastore)), (370, 1, some (.dup)), (371, 2, some (.bipush 33)), (373, 2, some (.bipush 104)), (375, 1, some (.iastore))] _ 331 rfl (by decide +kernel)
theorem dX10_init_331 : decode cX10_init 331 = .ok (.bipush 101, 2) := dq_g257.1
theorem dX10_init_333 : decode cX10_init 333 = .ok (.iastore, 1) := dq_g257.2.1
theorem dX10_init_334 : decode cX10_init 334 = .ok (.dup, 1) := dq_g257.2.2.1
theorem dX10_init_335 : decode cX10_init 335 = .ok (.bipush 27, 2) := dq_g257.2.2.2.1
theorem dX10_init_337 : decode cX10_init 337 = .ok (.bipush 32, 2) := dq_g257.2.2.2.2.1
theorem dX10_init_339 : decode cX10_init 339 = .ok (.iastore, 1) := dq_g257.2.2.2.2.2.1
theorem dX10_init_340 : decode cX10_init 340 = .ok (.dup, 1) := dq_g257.2.2.2.2.2.2.1
theorem dX10_init_341 : decode cX10_init 341 = .ok (.bipush 28, 2) := dq_g257.2.2.2.2.2.2.2.1
theorem dX10_init_343 : decode cX10_init 343 = .ok (.bipush 97, 2) := dq_g257.2.2.2.2.2.2.2.2.1
theorem dX10_init_345 : decode cX10_init 345 = .ok (.iastore, 1) := dq_g257.2.2.2.2.2.2.2.2.2.1
theorem dX10_init_346 : decode cX10_init 346 = .ok (.dup, 1) := dq_g257.2.2.2.2.2.2.2.2.2.2.1
theorem dX10_init_347 : decode cX10_init 347 = .ok (.bipush 29, 2) := dq_g257.2.2.2.2.2.2.2.2.2.2.2.1
theorem dX10_init_349 : decode cX10_init 349 = .ok (.bipush 114, 2) := dq_g257.2.2.2.2.2.2.2.2.2.2.2.2.1
theorem dX10_init_351 : decode cX10_init 351 = .ok (.iastore, 1) := dq_g257.2.2.2.2.2.2.2.2.2.2.2.2.2.1
theorem dX10_init_352 : decode cX10_init 352 = .ok (.dup, 1) := dq_g257.2.2.2.2.2.2.2.2.2.2.2.2.2.2.1
theorem dX10_init_353 : decode cX10_init 353 = .ok (.bipush 30, 2) := dq_g257.2.2.2.2.2.2.2.2.2.2.2.2.2.2.2.1
theorem dX10_init_355 : decode cX10_init 355 = .ok (.bipush 99, 2) := dq_g257.2.2.2.2.2.2.2.2.2.2.2.2.2.2.2.2.1
theorem dX10_init_357 : decode cX10_init 357 = .ok (.iastore, 1) := dq_g257.2.2.2.2.2.2.2.2.2.2.2.2.2.2.2.2.2.1
theorem dX10_init_358 : decode cX10_init 358 = .ok (.dup, 1) := dq_g257.2.2.2.2.2.2.2.2.2.2.2.2.2.2.2.2.2.2.1
theorem dX10_init_359 : decode cX10_init 359 = .ok (.bipush 31, 2) := dq_g257.2.2.2.2.2.2.2.2.2.2.2.2.2.2.2.2.2.2.2.1
theorem dX10_init_361 : decode cX10_init 361 = .ok (.bipush 32, 2) := dq_g257.2.2.2.2.2.2.2.2.2.2.2.2.2.2.2.2.2.2.2.2.1
theorem dX10_init_363 : decode cX10_init 363 = .ok (.iastore, 1) := dq_g257.2.2.2.2.2.2.2.2.2.2.2.2.2.2.2.2.2.2.2.2.2.1
theorem dX10_init_364 : decode cX10_init 364 = .ok (.dup, 1) := dq_g257.2.2.2.2.2.2.2.2.2.2.2.2.2.2.2.2.2.2.2.2.2.2.1
theorem dX10_init_365 : decode cX10_init 365 = .ok (.bipush 32, 2) := dq_g257.2.2.2.2.2.2.2.2.2.2.2.2.2.2.2.2.2.2.2.2.2.2.2.1
theorem dX10_init_367 : decode cX10_init 367 = .ok (.bipush 119, 2) := dq_g257.2.2.2.2.2.2.2.2.2.2.2.2.2.2.2.2.2.2.2.2.2.2.2.2.1
theorem dX10_init_369 : decode cX10_init 369 = .ok (.iastore, 1) := dq_g257.2.2.2.2.2.2.2.2.2.2.2.2.2.2.2.2.2.2.2.2.2.2.2.2.2.1
theorem dX10_init_370 : decode cX10_init 370 = .ok (.dup, 1) := dq_g257.2.2.2.2.2.2.2.2.2.2.2.2.2.2.2.2.2.2.2.2.2.2.2.2.2.2.1
theorem dX10_init_371 : decode cX10_init 371 = .ok (.bipush 33, 2) := dq_g257.2.2.2.2.2.2.2.2.2.2.2.2.2.2.2.2.2.2.2.2.2.2.2.2.2.2.2.1
theorem dX10_init_373 : decode cX10_init 373 = .ok (.bipush 104, 2) := dq_g257.2.2.2.2.2.2.2.2.2.2.2.2.2.2.2.2.2.2.2.2.2.2.2.2.2.2.2.2.1
theorem dX10_init_375 : decode cX10_init 375 = .ok (.iastore, 1) := dq_g257.2.2.2.2.2.2.2.2.2.2.2.2.2.2.2.2.2.2.2.2.2.2.2.2.2.2.2.2.2.1
theorem dq_g258 : decode cX10_init 376 = .ok (.dup, 1) ∧ decode cX10_init 377 = .ok (.bipush 34, 2) ∧ decode cX10_init 379 = .ok (.bipush 101, 2) ∧ decode cX10_init 381 = .ok (.iastore, 1) ∧ decode cX10_init 382 = .ok (.dup, 1) ∧ decode cX10_init 383 = .ok (.bipush 35, 2) ∧ decode cX10_init 385 = .ok (.bipush 110, 2) ∧ decode cX10_init 387 = .ok (.iastore, 1) ∧ decode cX10_init 388 = .ok (.dup, 1) ∧ decode cX10_init 389 = .ok (.bipush 36, 2) ∧ decode cX10_init 391 = .ok (.bipush 32, 2) ∧ decode cX10_init 393 = .ok (.iastore, 1) ∧ decode cX10_init 394 = .ok (.dup, 1) ∧ decode cX10_init 395 = .ok (.bipush 37, 2) ∧ decode cX10_init 397 = .ok (.bipush 111, 2) ∧ decode cX10_init 399 = .ok (.iastore, 1) ∧ decode cX10_init 400 = .ok (.dup, 1) ∧ decode cX10_init 401 = .ok (.bipush 38, 2) ∧ decode cX10_init 403 = .ok (.bipush 114, 2) ∧ decode cX10_init 405 = .ok (.iastore, 1) ∧ decode cX10_init 406 = .ok (.dup, 1) ∧ decode cX10_init 407 = .ok (.bipush 39, 2) ∧ decode cX10_init 409 = .ok (.bipush 32, 2) ∧ decode cX10_init 411 = .ok (.iastore, 1) ∧ decode cX10_init 412 = .ok (.dup, 1) ∧ decode cX10_init 413 = .ok (.bipush 40, 2) ∧ decode cX10_init 415 = .ok (.bipush 97, 2) ∧ decode cX10_init 417 = .ok (.iastore, 1) ∧ decode cX10_init 418 = .ok (.dup, 1) ∧ decode cX10_init 419 = .ok (.bipush 41, 2) ∧ True := dqC_ok (c := cX10_init) [(376, 1, some (.dup)), (377, 2, some (.bipush 34)), (379, 2, some (.bipush 101)), (381, 1, some (.iastore)), (382, 1, some (.dup)), (383, 2, some (.bipush 35)), (385, 2, some (.bipush 110)), (387, 1, some (.iastore)), (388, 1, some (.dup)), (389, 2, some (.bipush 36)), (391, 2, some (.bipush 32)), (393, 1, some (.iastore)), (394, 1, some (.dup)), (395, 2, some (.bipush 37)), (397, 2, some (.bipush 111)), (399, 1, some (.iastore)), (400, 1, some (.dup)), (401, 2, some (.bipush 38)), (403, 2, some (.bipush 114)), (405, 1, some (.iastore)), (406, 1, some (.dup)), (407, 2, some (.bipush 39)), (409, 2, some (.bipush 32)), (411, 1, some (.iastore)), (412, 1, some (.dup)), (413, 2, some (.bipush 40)), (415, 2, some (.bipush 97)), (417, 1, some (.iastore)), (418, 1, some (.dup)), (419, 2, some (.bipush 41))] _ 376 rfl (by decide +kernel)
theorem dX10_init_376 : decode cX10_init 376 = .ok (.dup, 1) := dq_g258.1
theorem dX10_init_377 : decode cX10_init 377 = .ok (.bipush 34, 2) := dq_g258.2.1
theorem dX10_init_379 : decode cX10_init 379 = .ok (.bipush 101, 2) := dq_g258.2.2.1
theorem dX10_init_381 : decode cX10_init 381 = .ok (.iastore, 1) := dq_g258.2.2.2.1
theorem dX10_init_382 : decode cX10_init 382 = .ok (.dup, 1) := dq_g258.2.2.2.2.1
theorem dX10_init_383 : decode cX10_init 383 = .ok (.bipush 35, 2) := dq_g258.2.2.2.2.2.1
theorem dX10_init_385 : decode cX10_init 385 = .ok (.bipush 110, 2) := dq_g258.2.2.2.2.2.2.1
theorem dX10_init_387 : decode cX10_init 387 = .ok (.iastore, 1) := dq_g258.2.2.2.2.2.2.2.1
theorem dX10_init_388 : decode cX10_init 388 = .ok (.dup, 1) := dq_g258.2.2.2.2.2.2.2.2.1
theorem dX10_init_389 : decode cX10_init 389 = .ok (.bipush 36, 2) := dq_g258.2.2.2.2.2.2.2.2.2.1
theorem dX10_init_391 : decode cX10_init 391 = .ok (.bipush 32, 2) := dq_g258.2.2.2.2.2.2.2.2.2.2.1
theorem dX10_init_393 : decode cX10_init 393 = .ok (.iastore, 1) := dq_g258.2.2.2.2.2.2.2.2.2.2.2.1
theorem dX10_init_394 : decode cX10_init 394 = .ok (.dup, 1) := dq_g258.2.2.2.2.2.2.2.2.2.2.2.2.1
theorem dX10_init_395 : decode cX10_init 395 = .ok (.bipush 37, 2) := dq_g258.2.2.2.2.2.2.2.2.2.2.2.2.2.1
theorem dX10_init_397 : decode cX10_init 397 = .ok (.bipush 111, 2) := dq_g258.2.2.2.2.2.2.2.2.2.2.2.2.2.2.1
theorem dX10_init_399 : decode cX10_init 399 = .ok (.iastore, 1) := dq_g258.2.2.2.2.2.2.2.2.2.2.2.2.2.2.2.1
theorem dX10_init_400 : decode cX10_init 400 = .ok (.dup, 1) := dq_g258.2.2.2.2.2.2.2.2.2.2.2.2.2.2.2.2.1
theorem dX10_init_401 : decode cX10_init 401 = .ok (.bipush 38, 2) := dq_g258.2.2.2.2.2.2.2.2.2.2.2.2.2.2.2.2.2.1
theorem dX10_init_403 : decode cX10_init 403 = .ok (.bipush 114, 2) := dq_g258.2.2.2.2.2.2.2.2.2.2.2.2.2.2.2.2.2.2.1
theorem dX10_init_405 : decode cX10_init 405 = .ok (.iastore, 1) := dq_g258.2.2.2.2.2.2.2.2.2.2.2.2.2.2.2.2.2.2.2.1
theorem dX10_init_406 : decode cX10_init 406 = .ok (.dup, 1) := dq_g258.2.2.2.2.2.2.2.2.2.2.2.2.2.2.2.2.2.2.2.2.1
theorem dX10_init_407 : decode cX10_init 407 = .ok (.bipush 39, 2) := dq_g258.2.2.2.2.2.2.2.2.2.2.2.2.2.2.2.2.2.2.2.2.2.1
theorem dX10_init_409 : decode cX10_init 409 = .ok (.bipush 32, 2) := dq_g258.2.2.2.2.2.2.2.2.2.2.2.2.2.2.2.2.2.2.2.2.2.2.1
theorem dX10_init_411 : decode cX10_init 411 = .ok (.iastore, 1) := dq_g258.2.2.2.2.2.2.2.2.2.2.2.2.2.2.2.2.2.2.2.2.2.2.2.1
theorem dX10_init_412 : decode cX10_init 412 = .ok (.dup, 1) := dq_g258.2.2.2.2.2.2.2.2.2.2.2.2.2.2.2.2.2.2.2.2.2.2.2.2.1
theorem dX10_init_413 : decode cX10_init 413 = .ok (.bipush 40, 2) := dq_g258.2.2.2.2.2.2.2.2.2.2.2.2.2.2.2.2.2.2.2.2.2.2.2.2.2.1
theorem dX10_init_415 : decode cX10_init 415 = .ok (.bipush 97, 2) := dq_g258.2.2.2.2.2.2.2.2.2.2.2.2.2.2.2.2.2.2.2.2.2.2.2.2.2.2.1
theorem dX10_init_417 : decode cX10_init 417 = .ok (.iastore, 1) := dq_g258.2.2.2.2.2.2.2.2.2.2.2.2.2.2.2.2.2.2.2.2.2.2.2.2.2.2.2.1
theorem dX10_init_418 : decode cX10_init 418 = .ok (.dup, 1) := dq_g258.2.2.2.2.2.2.2.2.2.2.2.2.2.2.2.2.2.2.2.2.2.2.2.2.2.2.2.2.1
theorem dX10_init_419 : decode cX10_init 419 = .ok (.bipush 41, 2) := dq_g258.2.2.2.2.2.2.2.2.2.2.2.2.2.2.2.2.2.2.2.2.2.2.2.2.2.2.2.2.2.1
