theorem dq_g423 : decode cX10_unlikeBy 43 = .ok (.if_icmp .ge 106, 3) ∧ decode cX10_unlikeBy 46 = .ok (.iconst 0, 1) ∧ decode cX10_unlikeBy 47 = .ok (.istore 6, 2) ∧ decode cX10_unlikeBy 49 = .ok (.iload 6, 2) ∧ decode cX10_unlikeBy 51 = .ok (.iload 4, 2) ∧ decode cX10_unlikeBy 53 = .ok (.if_icmp .ge 33, 3) ∧ decode cX10_unlikeBy 56 = .ok (.aload_n 0, 1) ∧ decode cX10_unlikeBy 57 = .ok (.getfield 20, 3) ∧ decode cX10_unlikeBy 60 = .ok (.bipush 16, 2) ∧ decode cX10_unlikeBy 62 = .ok (.iload_n 1, 1) ∧ decode cX10_unlikeBy 63 = .ok (.imul, 1) ∧ decode cX10_unlikeBy 64 = .ok (.iload 6, 2) ∧ decode cX10_unlikeBy 66 = .ok (.iadd, 1) ∧ decode cX10_unlikeBy 67 = .ok (.aload_n 0, 1) ∧ decode cX10_unlikeBy 68 = .ok (.getfield 134, 3) ∧ decode cX10_unlikeBy 71 = .ok (.iconst 5, 1) ∧ decode cX10_unlikeBy 72 = .ok (.iload 5, 2) ∧ decode cX10_unlikeBy 74 = .ok (.imul, 1) ∧ decode cX10_unlikeBy 75 = .ok (.iload 6, 2) ∧ decode cX10_unlikeBy 77 = .ok (.iadd, 1) ∧ decode cX10_unlikeBy 78 = .ok (.iaload, 1) ∧ decode cX10_unlikeBy 79 = .ok (.iastore, 1) ∧ decode cX10_unlikeBy 80 = .ok (.iinc 6 1, 3) ∧ decode cX10_unlikeBy 83 = .ok (.goto (-34), 3) ∧ decode cX10_unlikeBy 86 = .ok (.aload_n 0, 1) ∧ decode cX10_unlikeBy 87 = .ok (.iload_n 1, 1) ∧ decode cX10_unlikeBy 88 = .ok (.iconst 0, 1) ∧ decode cX10_unlikeBy 89 = .ok (.invokevirtual 335, 3) ∧ decode cX10_unlikeBy 92 = .ok (.istore 6, 2) ∧ decode cX10_unlikeBy 94 = .ok (.iconst 0, 1) ∧ True := dqC_ok (c := cX10_unlikeBy) [(43, 3, some (.if_icmp .ge 106)), (46, 1, some (.iconst 0)), (47, 2, some (.istore 6)), (49, 2, some (.iload 6)), (51, 2, some (.iload 4)), (53, 3, some (.if_icmp .ge 33)), (56, 1, some (.aload_n 0)), (57, 3, some (.getfield 20)), (60, 2, some (.bipush 16)), (62, 1, some (.iload_n 1)), (63, 1, some (.imul)), (64, 2, some (.iload 6)), (66, 1, some (.iadd)), (67, 1, some (.aload_n 0)), (68, 3, some (.getfield 134)), (71, 1, some (.iconst 5)), (72, 2, some (.iload 5)), (74, 1, some (.imul)), (75, 2, some (.iload 6)), (77, 1, some (.iadd)), (78, 1, some (.iaload)), (79, 1, some (.iastore)), (80, 3, some (.iinc 6 1)), (83, 3, some (.goto (-34))), (86, 1, some (.aload_n 0)), (87, 1, some (.iload_n 1)), (88, 1, some (.iconst 0)), (89, 3, some (.invokevirtual 335)), (92, 2, some (.istore 6)), (94, 1, some (.iconst 0))] _ 43 rfl (by decide +kernel)
theorem dX10_unlikeBy_43 : decode cX10_unlikeBy 43 = .ok (.if_icmp .ge 106, 3) := dq_g423.1
theorem dX10_unlikeBy_46 : decode cX10_unlikeBy 46 = .ok (.iconst 0, 1) := dq_g423.2.1
theorem dX10_unlikeBy_47 : decode cX10_unlikeBy 47 = .ok (.istore 6, 2) := dq_g423.2.2.1
theorem dX10_unlikeBy_49 : decode cX10_unlikeBy 49 = .ok (.iload 6, 2) := dq_g423.2.2.2.1
theorem dX10_unlikeBy_51 : decode cX10_unlikeBy 51 = .ok (.iload 4, 2) := dq_g423.2.2.2.2.1
theorem dX10_unlikeBy_53 : decode cX10_unlikeBy 53 = .ok (.if_icmp .ge 33, 3) := dq_g423.2.2.2.2.2.1
theorem dX10_unlikeBy_56 : decode cX10_unlikeBy 56 = .ok (.aload_n 0, 1) := dq_g423.2.2.2.2.2.2.1
theorem dX10_unlikeBy_57 : decode cX10_unlikeBy 57 = .ok (.getfield 20, 3) := dq_g423.2.2.2.2.2.2.2.1
theorem dX10_unlikeBy_60 : decode cX10_unlikeBy 60 = .ok (.bipush 16, 2) := dq_g423.2.2.2.2.2.2.2.2.1
theorem dX10_unlikeBy_62 : decode cX10_unlikeBy 62 = .ok (.iload_n 1, 1) := dq_g423.2.2.2.2.2.2.2.2.2.1
theorem dX10_unlikeBy_63 : decode cX10_unlikeBy 63 = .ok (.imul, 1) := dq_g423.2.2.2.2.2.2.2.2.2.2.1
theorem dX10_unlikeBy_64 : decode cX10_unlikeBy 64 = .ok (.iload 6, 2) := dq_g423.2.2.2.2.2.2.2.2.2.2.2.1
theorem dX10_unlikeBy_66 : decode cX10_unlikeBy 66 = .ok (.iadd, 1) := dq_g423.2.2.2.2.2.2.2.2.2.2.2.2.1
theorem dX10_unlikeBy_67 : decode cX10_unlikeBy 67 = .ok (.aload_n 0, 1) := dq_g423.2.2.2.2.2.2.2.2.2.2.2.2.2.1
theorem dX10_unlikeBy_68 : decode cX10_unlikeBy 68 = .ok (.getfield 134, 3) := dq_g423.2.2.2.2.2.2.2.2.2.2.2.2.2.2.1
theorem dX10_unlikeBy_71 : decode cX10_unlikeBy 71 = .ok (.iconst 5, 1) := dq_g423.2.2.2.2.2.2.2.2.2.2.2.2.2.2.2.1
theorem dX10_unlikeBy_72 : decode cX10_unlikeBy 72 = .ok (.iload 5, 2) := dq_g423.2.2.2.2.2.2.2.2.2.2.2.2.2.2.2.2.1
theorem dX10_unlikeBy_74 : decode cX10_unlikeBy 74 = .ok (.imul, 1) := dq_g423.2.2.2.2.2.2.2.2.2.2.2.2.2.2.2.2.2.1
theorem dX10_unlikeBy_75 : decode cX10_unlikeBy 75 = .ok (.iload 6, 2) := dq_g423.2.2.2.2.2.2.2.2.2.2.2.2.2.2.2.2.2.2.1
theorem dX10_unlikeBy_77 : decode cX10_unlikeBy 77 = .ok (.iadd, 1) := dq_g423.2.2.2.2.2.2.2.2.2.2.2.2.2.2.2.2.2.2.2.1
theorem dX10_unlikeBy_78 : decode cX10_unlikeBy 78 = .ok (.iaload, 1) := dq_g423.2.2.2.2.2.2.2.2.2.2.2.2.2.2.2.2.2.2.2.2.1
theorem dX10_unlikeBy_79 : decode cX10_unlikeBy 79 = .ok (.iastore, 1) := dq_g423.2.2.2.2.2.2.2.2.2.2.2.2.2.2.2.2.2.2.2.2.2.1
theorem dX10_unlikeBy_80 : decode cX10_unlikeBy 80 = .ok (.iinc 6 1, 3) := dq_g423.2.2.2.2.2.2.2.2.2.2.2.2.2.2.2.2.2.2.2.2.2.2.1
theorem dX10_unlikeBy_83 : decode cX10_unlikeBy 83 = .ok (.goto (-34), 3) := dq_g423.2.2.2.2.2.2.2.2.2.2.2.2.2.2.2.2.2.2.2.2.2.2.2.1
theorem dX10_unlikeBy_86 : decode cX10_unlikeBy 86 = .ok (.aload_n 0, 1) := dq_g423.2.2.2.2.2.2.2.2.2.2.2.2.2.2.2.2.2.2.2.2.2.2.2.2.1
theorem dX10_unlikeBy_87 : decode cX10_unlikeBy 87 = .ok (.iload_n 1, 1) := dq_g423.2.2.2.2.2.2.2.2.2.2.2.2.2.2.2.2.2.2.2.2.2.2.2.2.2.1
theorem dX10_unlikeBy_88 : decode cX10_unlikeBy 88 = .ok (.iconst 0, 1) := dq_g423.2.2.2.2.2.2.2.2.2.2.2.2.2.2.2.2.2.2.2.2.2.2.2.2.2.2.1
theorem dX10_unlikeBy_89 : decode cX10_unlikeBy 89 = .ok (.invokevirtual 335, 3) := dq_g423.2.2.2.2.2.2.2.2.2.2.2.2.2.2.2.2.2.2.2.2.2.2.2.2.2.2.2.1
theorem dX10_unlikeBy_92 : decode cX10_unlikeBy 92 = .ok (.istore 6, 2) := dq_g423.2.2.2.2.2.2.2.2.2.2.2.2.2.2.2.2.2.2.2.2.2.2.2.2.2.2.2.2.1
theorem dX10_unlikeBy_94 : decode cX10_unlikeBy 94 = .ok (.iconst 0, 1) := dq_g423.2.2.2.2.2.2.2.2.2.2.2.2.2.2.2.2.2.2.2.2.2.2.2.2.2.2.2.2.2.1
theorem dq_g424 : decode cX10_unlikeBy 95 = .ok (.istore 7, 2) ∧ decode cX10_unlikeBy 97 = .ok (.iload 7, 2) ∧ decode cX10_unlikeBy 99 = .ok (.iload_n 3, 1) ∧ decode cX10_unlikeBy 100 = .ok (.if_icmp .ge 24, 3) ∧ decode cX10_unlikeBy 103 = .ok (.aload_n 0, 1) ∧ decode cX10_unlikeBy 104 = .ok (.getfield 137, 3) ∧ decode cX10_unlikeBy 107 = .ok (.iload 7, 2) ∧ decode cX10_unlikeBy 109 = .ok (.iaload, 1) ∧ decode cX10_unlikeBy 110 = .ok (.iload 6, 2) ∧ decode cX10_unlikeBy 112 = .ok (.if_icmp .eq 12, 3) ∧ decode cX10_unlikeBy 115 = .ok (.iload 7, 2) ∧ decode cX10_unlikeBy 117 = .ok (.iconst 1, 1) ∧ decode cX10_unlikeBy 118 = .ok (.iadd, 1) ∧ decode cX10_unlikeBy 119 = .ok (.istore 7, 2) ∧ decode cX10_unlikeBy 121 = .ok (.goto (-24), 3) ∧ decode cX10_unlikeBy 124 = .ok (.aload_n 0, 1) ∧ decode cX10_unlikeBy 125 = .ok (.getfield 137, 3) ∧ decode cX10_unlikeBy 128 = .ok (.iload 7, 2) ∧ decode cX10_unlikeBy 130 = .ok (.iload 6, 2) ∧ decode cX10_unlikeBy 132 = .ok (.iastore, 1) ∧ decode cX10_unlikeBy 133 = .ok (.iload 7, 2) ∧ decode cX10_unlikeBy 135 = .ok (.iload_n 3, 1) ∧ decode cX10_unlikeBy 136 = .ok (.if_icmp .ne 7, 3) ∧ decode cX10_unlikeBy 139 = .ok (.iload_n 3, 1) ∧ decode cX10_unlikeBy 140 = .ok (.iconst 1, 1) ∧ decode cX10_unlikeBy 141 = .ok (.iadd, 1) ∧ decode cX10_unlikeBy 142 = .ok (.istore_n 3, 1) ∧ decode cX10_unlikeBy 143 = .ok (.iinc 5 1, 3) ∧ decode cX10_unlikeBy 146 = .ok (.goto (-109), 3) ∧ decode cX10_unlikeBy 149 = .ok (.aload_n 0, 1) ∧ True := dqC_ok (c := cX10_unlikeBy) [(95, 2, some (.istore 7)), (97, 2, some (.iload 7)), (99, 1, some (.iload_n 3)), (100, 3, some (.if_icmp .ge 24)), (103, 1, some (.aload_n 0)), (104, 3, some (.getfield 137)), (107, 2, some (.iload 7)), (109, 1, some (.iaload)), (110, 2, some (.iload 6)), (112, 3, some (.if_icmp .eq 12)), (115, 2, some (.iload 7)), (117, 1, some (.iconst 1)), (118, 1, some (.iadd)), (119, 2, some (.istore 7)), (121, 3, some (.goto (-24))), (124, 1, some (.aload_n 0)), (125, 3, some (.getfield 137)), (128, 2, some (.iload 7)), (130, 2, some (.iload 6)), (132, 1, some (.iastore)), (133, 2, some (.iload 7)), (135, 1, some (.iload_n 3)), (136, 3, some (.if_icmp .ne 7)), (139, 1, some (.iload_n 3)), (140, 1, some (.iconst 1)), (141, 1, some (.iadd)), (142, 1, some (.istore_n 3)), (143, 3, some (.iinc 5 1)), (146, 3, some (.goto (-109))), (149, 1, some (.aload_n 0))] _ 95 rfl (by decide +kernel)
theorem dX10_unlikeBy_95 : decode cX10_unlikeBy 95 = .ok (.istore 7, 2) := dq_g424.1
theorem dX10_unlikeBy_97 : decode cX10_unlikeBy 97 = .ok (.iload 7, 2) := dq_g424.2.1
theorem dX10_unlikeBy_99 : decode cX10_unlikeBy 99 = .ok (.iload_n 3, 1) := dq_g424.2.2.1
theorem dX10_unlikeBy_100 : decode cX10_unlikeBy 100 = .ok (.if_icmp .ge 24, 3) := dq_g424.2.2.2.1
theorem dX10_unlikeBy_103 : decode cX10_unlikeBy 103 = .ok (.aload_n 0, 1) := dq_g424.2.2.2.2.1
theorem dX10_unlikeBy_104 : decode cX10_unlikeBy 104 = .ok (.getfield 137, 3) := dq_g424.2.2.2.2.2.1
theorem dX10_unlikeBy_107 : decode cX10_unlikeBy 107 = .ok (.iload 7, 2) := dq_g424.2.2.2.2.2.2.1
theorem dX10_unlikeBy_109 : decode cX10_unlikeBy 109 = .ok (.iaload, 1) := dq_g424.2.2.2.2.2.2.2.1
theorem dX10_unlikeBy_110 : decode cX10_unlikeBy 110 = .ok (.iload 6, 2) := dq_g424.2.2.2.2.2.2.2.2.1
theorem dX10_unlikeBy_112 : decode cX10_unlikeBy 112 = .ok (.if_icmp .eq 12, 3) := dq_g424.2.2.2.2.2.2.2.2.2.1
theorem dX10_unlikeBy_115 : decode cX10_unlikeBy 115 = .ok (.iload 7, 2) := dq_g424.2.2.2.2.2.2.2.2.2.2.1
theorem dX10_unlikeBy_117 : decode cX10_unlikeBy 117 = .ok (.iconst 1, 1) := dq_g424.2.2.2.2.2.2.2.2.2.2.2.1
theorem dX10_unlikeBy_118 : decode cX10_unlikeBy 118 = .ok (.iadd, 1) := dq_g424.2.2.2.2.2.2.2.2.2.2.2.2.1
theorem dX10_unlikeBy_119 : decode cX10_unlikeBy 119 = .ok (.istore 7, 2) := dq_g424.2.2.2.2.2.2.2.2.2.2.2.2.2.1
theorem dX10_unlikeBy_121 : decode cX10_unlikeBy 121 = .ok (.goto (-24), 3) := dq_g424.2.2.2.2.2.2.2.2.2.2.2.2.2.2.1
theorem dX10_unlikeBy_124 : decode cX10_unlikeBy 124 = .ok (.aload_n 0, 1) := dq_g424.2.2.2.2.2.2.2.2.2.2.2.2.2.2.2.1
theorem dX10_unlikeBy_125 : decode cX10_unlikeBy 125 = .ok (.getfield 137, 3) := dq_g424.2.2.2.2.2.2.2.2.2.2.2.2.2.2.2.2.1
theorem dX10_unlikeBy_128 : decode cX10_unlikeBy 128 = .ok (.iload 7, 2) := dq_g424.2.2.2.2.2.2.2.2.2.2.2.2.2.2.2.2.2.1
theorem dX10_unlikeBy_130 : decode cX10_unlikeBy 130 = .ok (.iload 6, 2) := dq_g424.2.2.2.2.2.2.2.2.2.2.2.2.2.2.2.2.2.2.1
theorem dX10_unlikeBy_132 : decode cX10_unlikeBy 132 = .ok (.iastore, 1) := dq_g424.2.2.2.2.2.2.2.2.2.2.2.2.2.2.2.2.2.2.2.1
theorem dX10_unlikeBy_133 : decode cX10_unlikeBy 133 = .ok (.iload 7, 2) := dq_g424.2.2.2.2.2.2.2.2.2.2.2.2.2.2.2.2.2.2.2.2.1
theorem dX10_unlikeBy_135 : decode cX10_unlikeBy 135 = .ok (.iload_n 3, 1) := dq_g424.2.2.2.2.2.2.2.2.2.2.2.2.2.2.2.2.2.2.2.2.2.1
theorem dX10_unlikeBy_136 : decode cX10_unlikeBy 136 = .ok (.if_icmp .ne 7, 3) := dq_g424.2.2.2.2.2.2.2.2.2.2.2.2.2.2.2.2.2.2.2.2.2.2.1
theorem dX10_unlikeBy_139 : decode cX10_unlikeBy 139 = .ok (.iload_n 3, 1) := dq_g424.2.2.2.2.2.2.2.2.2.2.2.2.2.2.2.2.2.2.2.2.2.2.2.1
theorem dX10_unlikeBy_140 : decode cX10_unlikeBy 140 = .ok (.iconst 1, 1) := dq_g424.2.2.2.2.2.2.2.2.2.2.2.2.2.2.2.2.2.2.2.2.2.2.2.2.1
theorem dX10_unlikeBy_141 : decode cX10_unlikeBy 141 = .ok (.iadd, 1) := dq_g424.2.2.2.2.2.2.2.2.2.2.2.2.2.2.2.2.2.2.2.2.2.2.2.2.2.1
theorem dX10_unlikeBy_142 : decode cX10_unlikeBy 142 = .ok (.istore_n 3, 1) := dq_g424.2.2.2.2.2.2.2.2.2.2.2.2.2.2.2.2.2.2.2.2.2.2.2.2.2.2.1
theorem dX10_unlikeBy_143 : decode cX10_unlikeBy 143 = .ok (.iinc 5 1, 3) := dq_g424.2.2.2.2.2.2.2.2.2.2.2.2.2.2.2.2.2.2.2.2.2.2.2.2.2.2.2.1
theorem dX10_unlikeBy_146 : decode cX10_unlikeBy 146 = .ok (.goto (-109), 3) := dq_g424.2.2.2.2.2.2.2.2.2.2.2.2.2.2.2.2.2.2.2.2.2.2.2.2.2.2.2.2.1
theorem dX10_unlikeBy_149 : decode cX10_unlikeBy 149 = .ok (.aload_n 0, 1) := dq_g424.2.2.2.2.2.2.2.2.2.2.2.2.2.2.2.2.2.2.2.2.2.2.2.2.2.2.2.2.2.1
theorem dq_g425 : decode cX10_unlikeBy 150 = .ok (.getfield 17, 3) ∧ decode cX10_unlikeBy 153 = .ok (.bipush 16, 2) ∧ decode cX10_unlikeBy 155 = .ok (.iload_n 1, 1) ∧ decode cX10_unlikeBy 156 = .ok (.imul, 1) ∧ decode cX10_unlikeBy 157 = .ok (.iload_n 2, 1) ∧ decode cX10_unlikeBy 158 = .ok (.iadd, 1) ∧ decode cX10_unlikeBy 159 = .ok (.aload_n 0, 1) ∧ decode cX10_unlikeBy 160 = .ok (.getfield 17, 3) ∧ decode cX10_unlikeBy 163 = .ok (.bipush 16, 2) ∧ decode cX10_unlikeBy 165 = .ok (.iload_n 1, 1) ∧ decode cX10_unlikeBy 166 = .ok (.imul, 1) ∧ decode cX10_unlikeBy 167 = .ok (.iload_n 2, 1) ∧ decode cX10_unlikeBy 168 = .ok (.iadd, 1) ∧ decode cX10_unlikeBy 169 = .ok (.iaload, 1) ∧ decode cX10_unlikeBy 170 = .ok (.iconst 1, 1) ∧ decode cX10_unlikeBy 171 = .ok (.iadd, 1) ∧ decode cX10_unlikeBy 172 = .ok (.iastore, 1) ∧ decode cX10_unlikeBy 173 = .ok (.iconst 0, 1) ∧ decode cX10_unlikeBy 174 = .ok (.istore 5, 2) ∧ decode cX10_unlikeBy 176 = .ok (.iload 5, 2) ∧ decode cX10_unlikeBy 178 = .ok (.iload 4, 2) ∧ decode cX10_unlikeBy 180 = .ok (.if_icmp .ge 28, 3) ∧ decode cX10_unlikeBy 183 = .ok (.aload_n 0, 1) ∧ decode cX10_unlikeBy 184 = .ok (.getfield 20, 3) ∧ decode cX10_unlikeBy 187 = .ok (.bipush 16, 2) ∧ decode cX10_unlikeBy 189 = .ok (.iload_n 1, 1) ∧ decode cX10_unlikeBy 190 = .ok (.imul, 1) ∧ decode cX10_unlikeBy 191 = .ok (.iload 5, 2) ∧ decode cX10_unlikeBy 193 = .ok (.iadd, 1) ∧ decode cX10_unlikeBy 194 = .ok (.aload_n 0, 1) ∧ True := dqC_ok (c := cX10_unlikeBy) [(150, 3, some (.getfield 17)), (153, 2, some (.bipush 16)), (155, 1, some (.iload_n 1)), (156, 1, some (.imul)), (157, 1, some (.iload_n 2)), (158, 1, some (.iadd)), (159, 1, some (.aload_n 0)), (160, 3, some (.getfield 17)), (163, 2, some (.bipush 16)), (165, 1, some (.iload_n 1)), (166, 1, some (.imul)), (167, 1, some (.iload_n 2)), (168, 1, some (.iadd)), (169, 1, some (.iaload)), (170, 1, some (.iconst 1)), (171, 1, some (.iadd)), (172, 1, some (.iastore)), (173, 1, some (.iconst 0)), (174, 2, some (.istore 5)), (176, 2, some (.iload 5)), (178, 2, some (.iload 4)), (180, 3, some (.if_icmp .ge 28)), (183, 1, some (.aload_n 0)), (184, 3, some (.getfield 20)), (187, 2, some (.bipush 16)), (189, 1, some (.iload_n 1)), (190, 1, some (.imul)), (191, 2, some (.iload 5)), (193, 1, some (.iadd)), (194, 1, some (.aload_n 0))] _ 150 rfl (by decide +kernel)
theorem dX10_unlikeBy_150 : decode cX10_unlikeBy 150 = .ok (.getfield 17, 3) := dq_g425.1
theorem dX10_unlikeBy_153 : decode cX10_unlikeBy 153 = .ok (.bipush 16, 2) := dq_g425.2.1
theorem dX10_unlikeBy_155 : decode cX10_unlikeBy 155 = .ok (.iload_n 1, 1) := dq_g425.2.2.1
theorem dX10_unlikeBy_156 : decode cX10_unlikeBy 156 = .ok (.imul, 1) := dq_g425.2.2.2.1
theorem dX10_unlikeBy_157 : decode cX10_unlikeBy 157 = .ok (.iload_n 2, 1) := dq_g425.2.2.2.2.1
theorem dX10_unlikeBy_158 : decode cX10_unlikeBy 158 = .ok (.iadd, 1) := dq_g425.2.2.2.2.2.1
theorem dX10_unlikeBy_159 : decode cX10_unlikeBy 159 = .ok (.aload_n 0, 1) := dq_g425.2.2.2.2.2.2.1
theorem dX10_unlikeBy_160 : decode cX10_unlikeBy 160 = .ok (.getfield 17, 3) := dq_g425.2.2.2.2.2.2.2.1
theorem dX10_unlikeBy_163 : decode cX10_unlikeBy 163 = .ok (.bipush 16, 2) := dq_g425.2.2.2.2.2.2.2.2.1
theorem dX10_unlikeBy_165 : decode cX10_unlikeBy 165 = .ok (.iload_n 1, 1) := dq_g425.2.2.2.2.2.2.2.2.2.1
theorem dX10_unlikeBy_166 : decode cX10_unlikeBy 166 = .ok (.imul, 1) := dq_g425.2.2.2.2.2.2.2.2.2.2.1
theorem dX10_unlikeBy_167 : decode cX10_unlikeBy 167 = .ok (.iload_n 2, 1) := dq_g425.2.2.2.2.2.2.2.2.2.2.2.1
theorem dX10_unlikeBy_168 : decode cX10_unlikeBy 168 = .ok (.iadd, 1) := dq_g425.2.2.2.2.2.2.2.2.2.2.2.2.1
theorem dX10_unlikeBy_169 : decode cX10_unlikeBy 169 = .ok (.iaload, 1) := dq_g425.2.2.2.2.2.2.2.2.2.2.2.2.2.1
theorem dX10_unlikeBy_170 : decode cX10_unlikeBy 170 = .ok (.iconst 1, 1) := dq_g425.2.2.2.2.2.2.2.2.2.2.2.2.2.2.1
theorem dX10_unlikeBy_171 : decode cX10_unlikeBy 171 = .ok (.iadd, 1) := dq_g425.2.2.2.2.2.2.2.2.2.2.2.2.2.2.2.1
theorem dX10_unlikeBy_172 : decode cX10_unlikeBy 172 = .ok (.iastore, 1) := dq_g425.2.2.2.2.2.2.2.2.2.2.2.2.2.2.2.2.1
theorem dX10_unlikeBy_173 : decode cX10_unlikeBy 173 = .ok (.iconst 0, 1) := dq_g425.2.2.2.2.2.2.2.2.2.2.2.2.2.2.2.2.2.1
theorem dX10_unlikeBy_174 : decode cX10_unlikeBy 174 = .ok (.istore 5, 2) := dq_g425.2.2.2.2.2.2.2.2.2.2.2.2.2.2.2.2.2.2.1
theorem dX10_unlikeBy_176 : decode cX10_unlikeBy 176 = .ok (.iload 5, 2) := dq_g425.2.2.2.2.2.2.2.2.2.2.2.2.2.2.2.2.2.2.2.1
theorem dX10_unlikeBy_178 : decode cX10_unlikeBy 178 = .ok (.iload 4, 2) := dq_g425.2.2.2.2.2.2.2.2.2.2.2.2.2.2.2.2.2.2.2.2.1
theorem dX10_unlikeBy_180 : decode cX10_unlikeBy 180 = .ok (.if_icmp .ge 28, 3) := dq_g425.2.2.2.2.2.2.2.2.2.2.2.2.2.2.2.2.2.2.2.2.2.1
theorem dX10_unlikeBy_183 : decode cX10_unlikeBy 183 = .ok (.aload_n 0, 1) := dq_g425.2.2.2.2.2.2.2.2.2.2.2.2.2.2.2.2.2.2.2.2.2.2.1
theorem dX10_unlikeBy_184 : decode cX10_unlikeBy 184 = .ok (.getfield 20, 3) := dq_g425.2.2.2.2.2.2.2.2.2.2.2.2.2.2.2.2.2.2.2.2.2.2.2.1
theorem dX10_unlikeBy_187 : decode cX10_unlikeBy 187 = .ok (.bipush 16, 2) := dq_g425.2.2.2.2.2.2.2.2.2.2.2.2.2.2.2.2.2.2.2.2.2.2.2.2.1
theorem dX10_unlikeBy_189 : decode cX10_unlikeBy 189 = .ok (.iload_n 1, 1) := dq_g425.2.2.2.2.2.2.2.2.2.2.2.2.2.2.2.2.2.2.2.2.2.2.2.2.2.1
theorem dX10_unlikeBy_190 : decode cX10_unlikeBy 190 = .ok (.imul, 1) := dq_g425.2.2.2.2.2.2.2.2.2.2.2.2.2.2.2.2.2.2.2.2.2.2.2.2.2.2.1
theorem dX10_unlikeBy_191 : decode cX10_unlikeBy 191 = .ok (.iload 5, 2) := dq_g425.2.2.2.2.2.2.2.2.2.2.2.2.2.2.2.2.2.2.2.2.2.2.2.2.2.2.2.1
theorem dX10_unlikeBy_193 : decode cX10_unlikeBy 193 = .ok (.iadd, 1) := dq_g425.2.2.2.2.2.2.2.2.2.2.2.2.2.2.2.2.2.2.2.2.2.2.2.2.2.2.2.2.1
theorem dX10_unlikeBy_194 : decode cX10_unlikeBy 194 = .ok (.aload_n 0, 1) := dq_g425.2.2.2.2.2.2.2.2.2.2.2.2.2.2.2.2.2.2.2.2.2.2.2.2.2.2.2.2.2.1
theorem dq_g426 : decode cX10_unlikeBy 195 = .ok (.getfield 131, 3) ∧ decode cX10_unlikeBy 198 = .ok (.iload 5, 2) ∧ decode cX10_unlikeBy 200 = .ok (.iaload, 1) ∧ decode cX10_unlikeBy 201 = .ok (.iastore, 1) ∧ decode cX10_unlikeBy 202 = .ok (.iinc 5 1, 3) ∧ decode cX10_unlikeBy 205 = .ok (.goto (-29), 3) ∧ decode cX10_unlikeBy 208 = .ok (.iload_n 3, 1) ∧ decode cX10_unlikeBy 209 = .ok (.ireturn, 1) ∧ True := dqC_ok (c := cX10_unlikeBy) [(195, 3, some (.getfield 131)), (198, 2, some (.iload 5)), (200, 1, some (.iaload)), (201, 1, some (.iastore)), (202, 3, some (.iinc 5 1)), (205, 3, some (.goto (-29))), (208, 1, some (.iload_n 3)), (209, 1, some (.ireturn))] _ 195 rfl (by decide +kernel)
theorem dX10_unlikeBy_195 : decode cX10_unlikeBy 195 = .ok (.getfield 131, 3) := dq_g426.1
theorem dX10_unlikeBy_198 : decode cX10_unlikeBy 198 = .ok (.iload 5, 2) := dq_g426.2.1
theorem dX10_unlikeBy_200 : decode cX10_unlikeBy 200 = .ok (.iaload, 1) := dq_g426.2.2.1
theorem dX10_unlikeBy_201 : decode cX10_unlikeBy 201 = .ok (.iastore, 1) := dq_g426.2.2.2.1
theorem dX10_unlikeBy_202 : decode cX10_unlikeBy 202 = .ok (.iinc 5 1, 3) := dq_g426.2.2.2.2.1
theorem dX10_unlikeBy_205 : decode cX10_unlikeBy 205 = .ok (.goto (-29), 3) := dq_g426.2.2.2.2.2.1
theorem dX10_unlikeBy_208 : decode cX10_unlikeBy 208 = .ok (.iload_n 3, 1) := dq_g426.2.2.2.2.2.2.1
theorem dX10_unlikeBy_209 : decode cX10_unlikeBy 209 = .ok (.ireturn, 1) := dq_g426.2.2.2.2.2.2.2.1
theorem dq_g427 : decode cX10_nextPass 0 = .ok (.iconst (-1), 1) ∧ decode cX10_nextPass 1 = .ok (.istore_n 2, 1) ∧ decode cX10_nextPass 2 = .ok (.iconst 0, 1) ∧ decode cX10_nextPass 3 = .ok (.istore_n 3, 1) ∧ decode cX10_nextPass 4 = .ok (.iconst 0, 1) ∧ decode cX10_nextPass 5 = .ok (.istore 4, 2) ∧ decode cX10_nextPass 7 = .ok (.iload 4, 2) ∧ decode cX10_nextPass 9 = .ok (.aload_n 0, 1) ∧ decode cX10_nextPass 10 = .ok (.getfield 13, 3) ∧ decode cX10_nextPass 13 = .ok (.iload_n 1, 1) ∧ decode cX10_nextPass 14 = .ok (.iaload, 1) ∧ decode cX10_nextPass 15 = .ok (.if_icmp .ge 52, 3) ∧ decode cX10_nextPass 18 = .ok (.aload_n 0, 1) ∧ decode cX10_nextPass 19 = .ok (.getfield 17, 3) ∧ decode cX10_nextPass 22 = .ok (.bipush 16, 2) ∧ decode cX10_nextPass 24 = .ok (.iload_n 1, 1) ∧ decode cX10_nextPass 25 = .ok (.imul, 1) ∧ decode cX10_nextPass 26 = .ok (.iload 4, 2) ∧ decode cX10_nextPass 28 = .ok (.iadd, 1) ∧ decode cX10_nextPass 29 = .ok (.iaload, 1) ∧ decode cX10_nextPass 30 = .ok (.iconst 1, 1) ∧ decode cX10_nextPass 31 = .ok (.if_icmp .gt 6, 3) ∧ decode cX10_nextPass 34 = .ok (.goto 27, 3) ∧ decode cX10_nextPass 37 = .ok (.aload_n 0, 1) ∧ decode cX10_nextPass 38 = .ok (.iload_n 1, 1) ∧ decode cX10_nextPass 39 = .ok (.iload 4, 2) ∧ decode cX10_nextPass 41 = .ok (.invokevirtual 384, 3) ∧ decode cX10_nextPass 44 = .ok (.istore 5, 2) ∧ decode cX10_nextPass 46 = .ok (.iload 5, 2) ∧ decode cX10_nextPass 48 = .ok (.iload_n 3, 1) ∧ True := dqC_ok (c := cX10_nextPass) [(0, 1, some (.iconst (-1))), (1, 1, some (.istore_n 2)), (2, 1, some (.iconst 0)), (3, 1, some (.istore_n 3)), (4, 1, some (.iconst 0)), (5, 2, some (.istore 4)), (7, 2, some (.iload 4)), (9, 1, some (.aload_n 0)), (10, 3, some (.getfield 13)), (13, 1, some (.iload_n 1)), (14, 1, some (.iaload)), (15, 3, some (.if_icmp .ge 52)), (18, 1, some (.aload_n 0)), (19, 3, some (.getfield 17)), (22, 2, some (.bipush 16)), (24, 1, some (.iload_n 1)), (25, 1, some (.imul)), (26, 2, some (.iload 4)), (28, 1, some (.iadd)), (29, 1, some (.iaload)), (30, 1, some (.iconst 1)), (31, 3, some (.if_icmp .gt 6)), (34, 3, some (.goto 27)), (37, 1, some (.aload_n 0)), (38, 1, some (.iload_n 1)), (39, 2, some (.iload 4)), (41, 3, some (.invokevirtual 384)), (44, 2, some (.istore 5)), (46, 2, some (.iload 5)), (48, 1, some (.iload_n 3))] _ 0 rfl (by decide +kernel)
theorem dX10_nextPass_0 : decode cX10_nextPass 0 = .ok (.iconst (-1), 1) := dq_g427.1
theorem dX10_nextPass_1 : decode cX10_nextPass 1 = .ok (.istore_n 2, 1) := dq_g427.2.1
theorem dX10_nextPass_2 : decode cX10_nextPass 2 = .ok (.iconst 0, 1) := dq_g427.2.2.1
theorem dX10_nextPass_3 : decode cX10_nextPass 3 = .ok (.istore_n 3, 1) := dq_g427.2.2.2.1
theorem dX10_nextPass_4 : decode cX10_nextPass 4 = .ok (.iconst 0, 1) := dq_g427.2.2.2.2.1
theorem dX10_nextPass_5 : decode cX10_nextPass 5 = .ok (.istore 4, 2) := dq_g427.2.2.2.2.2.1
theorem dX10_nextPass_7 : decode cX10_nextPass 7 = .ok (.iload 4, 2) := dq_g427.2.2.2.2.2.2.1
theorem dX10_nextPass_9 : decode cX10_nextPass 9 = .ok (.aload_n 0, 1) := dq_g427.2.2.2.2.2.2.2.1
theorem dX10_nextPass_10 : decode cX10_nextPass 10 = .ok (.getfield 13, 3) := dq_g427.2.2.2.2.2.2.2.2.1
theorem dX10_nextPass_13 : decode cX10_nextPass 13 = .ok (.iload_n 1, 1) := dq_g427.2.2.2.2.2.2.2.2.2.1
theorem dX10_nextPass_14 : decode cX10_nextPass 14 = .ok (.iaload, 1) := dq_g427.2.2.2.2.2.2.2.2.2.2.1
theorem dX10_nextPass_15 : decode cX10_nextPass 15 = .ok (.if_icmp .ge 52, 3) := dq_g427.2.2.2.2.2.2.2.2.2.2.2.1
theorem dX10_nextPass_18 : decode cX10_nextPass 18 = .ok (.aload_n 0, 1) := dq_g427.2.2.2.2.2.2.2.2.2.2.2.2.1
theorem dX10_nextPass_19 : decode cX10_nextPass 19 = .ok (.getfield 17, 3) := dq_g427.2.2.2.2.2.2.2.2.2.2.2.2.2.1
theorem dX10_nextPass_22 : decode cX10_nextPass 22 = .ok (.bipush 16, 2) := dq_g427.2.2.2.2.2.2.2.2.2.2.2.2.2.2.1
theorem dX10_nextPass_24 : decode cX10_nextPass 24 = .ok (.iload_n 1, 1) := dq_g427.2.2.2.2.2.2.2.2.2.2.2.2.2.2.2.1
theorem dX10_nextPass_25 : decode cX10_nextPass 25 = .ok (.imul, 1) := dq_g427.2.2.2.2.2.2.2.2.2.2.2.2.2.2.2.2.1
theorem dX10_nextPass_26 : decode cX10_nextPass 26 = .ok (.iload 4, 2) := dq_g427.2.2.2.2.2.2.2.2.2.2.2.2.2.2.2.2.2.1
theorem dX10_nextPass_28 : decode cX10_nextPass 28 = .ok (.iadd, 1) := dq_g427.2.2.2.2.2.2.2.2.2.2.2.2.2.2.2.2.2.2.1
theorem dX10_nextPass_29 : decode cX10_nextPass 29 = .ok (.iaload, 1) := dq_g427.2.2.2.2.2.2.2.2.2.2.2.2.2.2.2.2.2.2.2.1
theorem dX10_nextPass_30 : decode cX10_nextPass 30 = .ok (.iconst 1, 1) := dq_g427.2.2.2.2.2.2.2.2.2.2.2.2.2.2.2.2.2.2.2.2.1
theorem dX10_nextPass_31 : decode cX10_nextPass 31 = .ok (.if_icmp .gt 6, 3) := dq_g427.2.2.2.2.2.2.2.2.2.2.2.2.2.2.2.2.2.2.2.2.2.1
theorem dX10_nextPass_34 : decode cX10_nextPass 34 = .ok (.goto 27, 3) := dq_g427.2.2.2.2.2.2.2.2.2.2.2.2.2.2.2.2.2.2.2.2.2.2.1
theorem dX10_nextPass_37 : decode cX10_nextPass 37 = .ok (.aload_n 0, 1) := dq_g427.2.2.2.2.2.2.2.2.2.2.2.2.2.2.2.2.2.2.2.2.2.2.2.1
theorem dX10_nextPass_38 : decode cX10_nextPass 38 = .ok (.iload_n 1, 1) := dq_g427.2.2.2.2.2.2.2.2.2.2.2.2.2.2.2.2.2.2.2.2.2.2.2.2.1
theorem dX10_nextPass_39 : decode cX10_nextPass 39 = .ok (.iload 4, 2) := dq_g427.2.2.2.2.2.2.2.2.2.2.2.2.2.2.2.2.2.2.2.2.2.2.2.2.2.1
theorem dX10_nextPass_41 : decode cX10_nextPass 41 = .ok (.invokevirtual 384, 3) := dq_g427.2.2.2.2.2.2.2.2.2.2.2.2.2.2.2.2.2.2.2.2.2.2.2.2.2.2.1
theorem dX10_nextPass_44 : decode cX10_nextPass 44 = .ok (.istore 5, 2) := dq_g427.2.2.2.2.2.2.2.2.2.2.2.2.2.2.2.2.2.2.2.2.2.2.2.2.2.2.2.1
theorem dX10_nextPass_46 : decode cX10_nextPass 46 = .ok (.iload 5, 2) := dq_g427.2.2.2.2.2.2.2.2.2.2.2.2.2.2.2.2.2.2.2.2.2.2.2.2.2.2.2.2.1
theorem dX10_nextPass_48 : decode cX10_nextPass 48 = .ok (.iload_n 3, 1) := dq_g427.2.2.2.2.2.2.2.2.2.2.2.2.2.2.2.2.2.2.2.2.2.2.2.2.2.2.2.2.2.1
theorem dq_g428 : decode cX10_nextPass 49 = .ok (.if_icmp .gt 6, 3) ∧ decode cX10_nextPass 52 = .ok (.goto 9, 3) ∧ decode cX10_nextPass 55 = .ok (.iload 4, 2) ∧ decode cX10_nextPass 57 = .ok (.istore_n 2, 1) ∧ decode cX10_nextPass 58 = .ok (.iload 5, 2) ∧ decode cX10_nextPass 60 = .ok (.istore_n 3, 1) ∧ decode cX10_nextPass 61 = .ok (.iinc 4 1, 3) ∧ decode cX10_nextPass 64 = .ok (.goto (-57), 3) ∧ decode cX10_nextPass 67 = .ok (.iload_n 2, 1) ∧ decode cX10_nextPass 68 = .ok (.ireturn, 1) ∧ True := dqC_ok (c := cX10_nextPass) [(49, 3, some (.if_icmp .gt 6)), (52, 3, some (.goto 9)), (55, 2, some (.iload 4)), (57, 1, some (.istore_n 2)), (58, 2, some (.iload 5)), (60, 1, some (.istore_n 3)), (61, 3, some (.iinc 4 1)), (64, 3, some (.goto (-57))), (67, 1, some (.iload_n 2)), (68, 1, some (.ireturn))] _ 49 rfl (by decide +kernel)
theorem dX10_nextPass_49 : decode cX10_nextPass 49 = .ok (.if_icmp .gt 6, 3) := dq_g428.1
theorem dX10_nextPass_52 : decode cX10_nextPass 52 = .ok (.goto 9, 3) := dq_g428.2.1
theorem dX10_nextPass_55 : decode cX10_nextPass 55 = .ok (.iload 4, 2) := dq_g428.2.2.1
theorem dX10_nextPass_57 : decode cX10_nextPass 57 = .ok (.istore_n 2, 1) := dq_g428.2.2.2.1
theorem dX10_nextPass_58 : decode cX10_nextPass 58 = .ok (.iload 5, 2) := dq_g428.2.2.2.2.1
theorem dX10_nextPass_60 : decode cX10_nextPass 60 = .ok (.istore_n 3, 1) := dq_g428.2.2.2.2.2.1
theorem dX10_nextPass_61 : decode cX10_nextPass 61 = .ok (.iinc 4 1, 3) := dq_g428.2.2.2.2.2.2.1
theorem dX10_nextPass_64 : decode cX10_nextPass 64 = .ok (.goto (-57), 3) := dq_g428.2.2.2.2.2.2.2.1
theorem dX10_nextPass_67 : decode cX10_nextPass 67 = .ok (.iload_n 2, 1) := dq_g428.2.2.2.2.2.2.2.2.1
theorem dX10_nextPass_68 : decode cX10_nextPass 68 = .ok (.ireturn, 1) := dq_g428.2.2.2.2.2.2.2.2.2.1
theorem dq_g429 : decode cX10_sureOf 0 = .ok (.iconst 1, 1) ∧ decode cX10_sureOf 1 = .ok (.istore_n 2, 1) ∧ decode cX10_sureOf 2 = .ok (.iload_n 2, 1) ∧ decode cX10_sureOf 3 = .ok (.aload_n 0, 1) ∧ decode cX10_sureOf 4 = .ok (.getfield 378, 3) ∧ decode cX10_sureOf 7 = .ok (.if_icmp .ge 30, 3) ∧ decode cX10_sureOf 10 = .ok (.aload_n 0, 1) ∧ decode cX10_sureOf 11 = .ok (.getfield 134, 3) ∧ decode cX10_sureOf 14 = .ok (.iconst 5, 1) ∧ decode cX10_sureOf 15 = .ok (.iload_n 2, 1) ∧ decode cX10_sureOf 16 = .ok (.imul, 1) ∧ decode cX10_sureOf 17 = .ok (.iload_n 1, 1) ∧ decode cX10_sureOf 18 = .ok (.iadd, 1) ∧ decode cX10_sureOf 19 = .ok (.iaload, 1) ∧ decode cX10_sureOf 20 = .ok (.aload_n 0, 1) ∧ decode cX10_sureOf 21 = .ok (.getfield 134, 3) ∧ decode cX10_sureOf 24 = .ok (.iload_n 1, 1) ∧ decode cX10_sureOf 25 = .ok (.iaload, 1) ∧ decode cX10_sureOf 26 = .ok (.if_icmp .eq 5, 3) ∧ decode cX10_sureOf 29 = .ok (.iconst (-1), 1) ∧ decode cX10_sureOf 30 = .ok (.ireturn, 1) ∧ decode cX10_sureOf 31 = .ok (.iinc 2 1, 3) ∧ decode cX10_sureOf 34 = .ok (.goto (-32), 3) ∧ decode cX10_sureOf 37 = .ok (.aload_n 0, 1) ∧ decode cX10_sureOf 38 = .ok (.getfield 378, 3) ∧ decode cX10_sureOf 41 = .ok (.ifCond .ne 7, 3) ∧ decode cX10_sureOf 44 = .ok (.iconst (-1), 1) ∧ decode cX10_sureOf 45 = .ok (.goto 9, 3) ∧ decode cX10_sureOf 48 = .ok (.aload_n 0, 1) ∧ decode cX10_sureOf 49 = .ok (.getfield 134, 3) ∧ True := dqC_ok (c := cX10_sureOf) [(0, 1, some (.iconst 1)), (1, 1, some (.istore_n 2)), (2, 1, some (.iload_n 2)), (3, 1, some (.aload_n 0)), (4, 3, some (.getfield 378)), (7, 3, some (.if_icmp .ge 30)), (10, 1, some (.aload_n 0)), (11, 3, some (.getfield 134)), (14, 1, some (.iconst 5)), (15, 1, some (.iload_n 2)), (16, 1, some (.imul)), (17, 1, some (.iload_n 1)), (18, 1, some (.iadd)), (19, 1, some (.iaload)), (20, 1, some (.aload_n 0)), (21, 3, some (.getfield 134)), (24, 1, some (.iload_n 1)), (25, 1, some (.iaload)), (26, 3, some (.if_icmp .eq 5)), (29, 1, some (.iconst (-1))), (30, 1, some (.ireturn)), (31, 3, some (.iinc 2 1)), (34, 3, some (.goto (-32))), (37, 1, some (.aload_n 0)), (38, 3, some (.getfield 378)), (41, 3, some (.ifCond .ne 7)), (44, 1, some (.iconst (-1))), (45, 3, some (.goto 9)), (48, 1, some (.aload_n 0)), (49, 3, some (.getfield 134))] _ 0 rfl (by decide +kernel)
theorem dX10_sureOf_0 : decode cX10_sureOf 0 = .ok (.iconst 1, 1) := dq_g429.1
theorem dX10_sureOf_1 : decode cX10_sureOf 1 = .ok (.istore_n 2, 1) := dq_g429.2.1
theorem dX10_sureOf_2 : decode cX10_sureOf 2 = .ok (.iload_n 2, 1) := dq_g429.2.2.1
theorem dX10_sureOf_3 : decode cX10_sureOf 3 = .ok (.aload_n 0, 1) := dq_g429.2.2.2.1
theorem dX10_sureOf_4 : decode cX10_sureOf 4 = .ok (.getfield 378, 3) := dq_g429.2.2.2.2.1
theorem dX10_sureOf_7 : decode cX10_sureOf 7 = .ok (.if_icmp .ge 30, 3) := dq_g429.2.2.2.2.2.1
theorem dX10_sureOf_10 : decode cX10_sureOf 10 = .ok (.aload_n 0, 1) := dq_g429.2.2.2.2.2.2.1
theorem dX10_sureOf_11 : decode cX10_sureOf 11 = .ok (.getfield 134, 3) := dq_g429.2.2.2.2.2.2.2.1
theorem dX10_sureOf_14 : decode cX10_sureOf 14 = .ok (.iconst 5, 1) := dq_g429.2.2.2.2.2.2.2.2.1
theorem dX10_sureOf_15 : decode cX10_sureOf 15 = .ok (.iload_n 2, 1) := dq_g429.2.2.2.2.2.2.2.2.2.1
theorem dX10_sureOf_16 : decode cX10_sureOf 16 = .ok (.imul, 1) := dq_g429.2.2.2.2.2.2.2.2.2.2.1
theorem dX10_sureOf_17 : decode cX10_sureOf 17 = .ok (.iload_n 1, 1) := dq_g429.2.2.2.2.2.2.2.2.2.2.2.1
theorem dX10_sureOf_18 : decode cX10_sureOf 18 = .ok (.iadd, 1) := dq_g429.2.2.2.2.2.2.2.2.2.2.2.2.1
theorem dX10_sureOf_19 : decode cX10_sureOf 19 = .ok (.iaload, 1) := dq_g429.2.2.2.2.2.2.2.2.2.2.2.2.2.1
theorem dX10_sureOf_20 : decode cX10_sureOf 20 = .ok (.aload_n 0, 1) := dq_g429.2.2.2.2.2.2.2.2.2.2.2.2.2.2.1
theorem dX10_sureOf_21 : decode cX10_sureOf 21 = .ok (.getfield 134, 3) := dq_g429.2.2.2.2.2.2.2.2.2.2.2.2.2.2.2.1
theorem dX10_sureOf_24 : decode cX10_sureOf 24 = .ok (.iload_n 1, 1) := dq_g429.2.2.2.2.2.2.2.2.2.2.2.2.2.2.2.2.1
theorem dX10_sureOf_25 : decode cX10_sureOf 25 = .ok (.iaload, 1) := dq_g429.2.2.2.2.2.2.2.2.2.2.2.2.2.2.2.2.2.1
theorem dX10_sureOf_26 : decode cX10_sureOf 26 = .ok (.if_icmp .eq 5, 3) := dq_g429.2.2.2.2.2.2.2.2.2.2.2.2.2.2.2.2.2.2.1
theorem dX10_sureOf_29 : decode cX10_sureOf 29 = .ok (.iconst (-1), 1) := dq_g429.2.2.2.2.2.2.2.2.2.2.2.2.2.2.2.2.2.2.2.1
theorem dX10_sureOf_30 : decode cX10_sureOf 30 = .ok (.ireturn, 1) := dq_g429.2.2.2.2.2.2.2.2.2.2.2.2.2.2.2.2.2.2.2.2.1
theorem dX10_sureOf_31 : decode cX10_sureOf 31 = .ok (.iinc 2 1, 3) := dq_g429.2.2.2.2.2.2.2.2.2.2.2.2.2.2.2.2.2.2.2.2.2.1
theorem dX10_sureOf_34 : decode cX10_sureOf 34 = .ok (.goto (-32), 3) := dq_g429.2.2.2.2.2.2.2.2.2.2.2.2.2.2.2.2.2.2.2.2.2.2.1
theorem dX10_sureOf_37 : decode cX10_sureOf 37 = .ok (.aload_n 0, 1) := dq_g429.2.2.2.2.2.2.2.2.2.2.2.2.2.2.2.2.2.2.2.2.2.2.2.1
theorem dX10_sureOf_38 : decode cX10_sureOf 38 = .ok (.getfield 378, 3) := dq_g429.2.2.2.2.2.2.2.2.2.2.2.2.2.2.2.2.2.2.2.2.2.2.2.2.1
theorem dX10_sureOf_41 : decode cX10_sureOf 41 = .ok (.ifCond .ne 7, 3) := dq_g429.2.2.2.2.2.2.2.2.2.2.2.2.2.2.2.2.2.2.2.2.2.2.2.2.2.1
theorem dX10_sureOf_44 : decode cX10_sureOf 44 = .ok (.iconst (-1), 1) := dq_g429.2.2.2.2.2.2.2.2.2.2.2.2.2.2.2.2.2.2.2.2.2.2.2.2.2.2.1
theorem dX10_sureOf_45 : decode cX10_sureOf 45 = .ok (.goto 9, 3) := dq_g429.2.2.2.2.2.2.2.2.2.2.2.2.2.2.2.2.2.2.2.2.2.2.2.2.2.2.2.1
theorem dX10_sureOf_48 : decode cX10_sureOf 48 = .ok (.aload_n 0, 1) := dq_g429.2.2.2.2.2.2.2.2.2.2.2.2.2.2.2.2.2.2.2.2.2.2.2.2.2.2.2.2.1
theorem dX10_sureOf_49 : decode cX10_sureOf 49 = .ok (.getfield 134, 3) := dq_g429.2.2.2.2.2.2.2.2.2.2.2.2.2.2.2.2.2.2.2.2.2.2.2.2.2.2.2.2.2.1
theorem dq_g430 : decode cX10_sureOf 52 = .ok (.iload_n 1, 1) ∧ decode cX10_sureOf 53 = .ok (.iaload, 1) ∧ decode cX10_sureOf 54 = .ok (.ireturn, 1) ∧ True := dqC_ok (c := cX10_sureOf) [(52, 1, some (.iload_n 1)), (53, 1, some (.iaload)), (54, 1, some (.ireturn))] _ 52 rfl (by decide +kernel)
theorem dX10_sureOf_52 : decode cX10_sureOf 52 = .ok (.iload_n 1, 1) := dq_g430.1
theorem dX10_sureOf_53 : decode cX10_sureOf 53 = .ok (.iaload, 1) := dq_g430.2.1
theorem dX10_sureOf_54 : decode cX10_sureOf 54 = .ok (.ireturn, 1) := dq_g430.2.2.1
theorem dq_g431 : decode cX10_fits 0 = .ok (.aload_n 0, 1) ∧ decode cX10_fits 1 = .ok (.iconst 0, 1) ∧ decode cX10_fits 2 = .ok (.putfield 167, 3) ∧ decode cX10_fits 5 = .ok (.aload_n 0, 1) ∧ decode cX10_fits 6 = .ok (.iload_n 1, 1) ∧ decode cX10_fits 7 = .ok (.invokevirtual 173, 3) ∧ decode cX10_fits 10 = .ok (.ifCond .eq 66, 3) ∧ decode cX10_fits 13 = .ok (.aload_n 0, 1) ∧ decode cX10_fits 14 = .ok (.getfield 13, 3) ∧ decode cX10_fits 17 = .ok (.iload_n 1, 1) ∧ decode cX10_fits 18 = .ok (.iaload, 1) ∧ decode cX10_fits 19 = .ok (.iconst 5, 1) ∧ decode cX10_fits 20 = .ok (.if_icmp .gt 56, 3) ∧ decode cX10_fits 23 = .ok (.aload_n 0, 1) ∧ decode cX10_fits 24 = .ok (.iload_n 2, 1) ∧ decode cX10_fits 25 = .ok (.iconst 1, 1) ∧ decode cX10_fits 26 = .ok (.iconst 4, 1) ∧ decode cX10_fits 27 = .ok (.invokevirtual 177, 3) ∧ decode cX10_fits 30 = .ok (.ifCond .eq 46, 3) ∧ decode cX10_fits 33 = .ok (.aload_n 0, 1) ∧ decode cX10_fits 34 = .ok (.iload_n 3, 1) ∧ decode cX10_fits 35 = .ok (.iconst 0, 1) ∧ decode cX10_fits 36 = .ok (.ldc_w 308, 3) ∧ decode cX10_fits 39 = .ok (.invokevirtual 177, 3) ∧ decode cX10_fits 42 = .ok (.ifCond .eq 34, 3) ∧ decode cX10_fits 45 = .ok (.aload_n 0, 1) ∧ decode cX10_fits 46 = .ok (.iload 4, 2) ∧ decode cX10_fits 48 = .ok (.iconst 0, 1) ∧ decode cX10_fits 49 = .ok (.iconst 1, 1) ∧ decode cX10_fits 50 = .ok (.invokevirtual 177, 3) ∧ True := dqC_ok (c := cX10_fits) [(0, 1, some (.aload_n 0)), (1, 1, some (.iconst 0)), (2, 3, some (.putfield 167)), (5, 1, some (.aload_n 0)), (6, 1, some (.iload_n 1)), (7, 3, some (.invokevirtual 173)), (10, 3, some (.ifCond .eq 66)), (13, 1, some (.aload_n 0)), (14, 3, some (.getfield 13)), (17, 1, some (.iload_n 1)), (18, 1, some (.iaload)), (19, 1, some (.iconst 5)), (20, 3, some (.if_icmp .gt 56)), (23, 1, some (.aload_n 0)), (24, 1, some (.iload_n 2)), (25, 1, some (.iconst 1)), (26, 1, some (.iconst 4)), (27, 3, some (.invokevirtual 177)), (30, 3, some (.ifCond .eq 46)), (33, 1, some (.aload_n 0)), (34, 1, some (.iload_n 3)), (35, 1, some (.iconst 0)), (36, 3, some (.ldc_w 308)), (39, 3, some (.invokevirtual 177)), (42, 3, some (.ifCond .eq 34)), (45, 1, some (.aload_n 0)), (46, 2, some (.iload 4)), (48, 1, some (.iconst 0)), (49, 1, some (.iconst 1)), (50, 3, some (.invokevirtual 177))] _ 0 rfl (by decide +kernel)
theorem dX10_fits_0 : decode cX10_fits 0 = .ok (.aload_n 0, 1) := dq_g431.1
theorem dX10_fits_1 : decode cX10_fits 1 = .ok (.iconst 0, 1) := dq_g431.2.1
theorem dX10_fits_2 : decode cX10_fits 2 = .ok (.putfield 167, 3) := dq_g431.2.2.1
theorem dX10_fits_5 : decode cX10_fits 5 = .ok (.aload_n 0, 1) := dq_g431.2.2.2.1
theorem dX10_fits_6 : decode cX10_fits 6 = .ok (.iload_n 1, 1) := dq_g431.2.2.2.2.1
theorem dX10_fits_7 : decode cX10_fits 7 = .ok (.invokevirtual 173, 3) := dq_g431.2.2.2.2.2.1
theorem dX10_fits_10 : decode cX10_fits 10 = .ok (.ifCond .eq 66, 3) := dq_g431.2.2.2.2.2.2.1
theorem dX10_fits_13 : decode cX10_fits 13 = .ok (.aload_n 0, 1) := dq_g431.2.2.2.2.2.2.2.1
theorem dX10_fits_14 : decode cX10_fits 14 = .ok (.getfield 13, 3) := dq_g431.2.2.2.2.2.2.2.2.1
theorem dX10_fits_17 : decode cX10_fits 17 = .ok (.iload_n 1, 1) := dq_g431.2.2.2.2.2.2.2.2.2.1
theorem dX10_fits_18 : decode cX10_fits 18 = .ok (.iaload, 1) := dq_g431.2.2.2.2.2.2.2.2.2.2.1
theorem dX10_fits_19 : decode cX10_fits 19 = .ok (.iconst 5, 1) := dq_g431.2.2.2.2.2.2.2.2.2.2.2.1
theorem dX10_fits_20 : decode cX10_fits 20 = .ok (.if_icmp .gt 56, 3) := dq_g431.2.2.2.2.2.2.2.2.2.2.2.2.1
theorem dX10_fits_23 : decode cX10_fits 23 = .ok (.aload_n 0, 1) := dq_g431.2.2.2.2.2.2.2.2.2.2.2.2.2.1
theorem dX10_fits_24 : decode cX10_fits 24 = .ok (.iload_n 2, 1) := dq_g431.2.2.2.2.2.2.2.2.2.2.2.2.2.2.1
theorem dX10_fits_25 : decode cX10_fits 25 = .ok (.iconst 1, 1) := dq_g431.2.2.2.2.2.2.2.2.2.2.2.2.2.2.2.1
theorem dX10_fits_26 : decode cX10_fits 26 = .ok (.iconst 4, 1) := dq_g431.2.2.2.2.2.2.2.2.2.2.2.2.2.2.2.2.1
theorem dX10_fits_27 : decode cX10_fits 27 = .ok (.invokevirtual 177, 3) := dq_g431.2.2.2.2.2.2.2.2.2.2.2.2.2.2.2.2.2.1
theorem dX10_fits_30 : decode cX10_fits 30 = .ok (.ifCond .eq 46, 3) := dq_g431.2.2.2.2.2.2.2.2.2.2.2.2.2.2.2.2.2.2.1
theorem dX10_fits_33 : decode cX10_fits 33 = .ok (.aload_n 0, 1) := dq_g431.2.2.2.2.2.2.2.2.2.2.2.2.2.2.2.2.2.2.2.1
theorem dX10_fits_34 : decode cX10_fits 34 = .ok (.iload_n 3, 1) := dq_g431.2.2.2.2.2.2.2.2.2.2.2.2.2.2.2.2.2.2.2.2.1
theorem dX10_fits_35 : decode cX10_fits 35 = .ok (.iconst 0, 1) := dq_g431.2.2.2.2.2.2.2.2.2.2.2.2.2.2.2.2.2.2.2.2.2.1
theorem dX10_fits_36 : decode cX10_fits 36 = .ok (.ldc_w 308, 3) := dq_g431.2.2.2.2.2.2.2.2.2.2.2.2.2.2.2.2.2.2.2.2.2.2.1
theorem dX10_fits_39 : decode cX10_fits 39 = .ok (.invokevirtual 177, 3) := dq_g431.2.2.2.2.2.2.2.2.2.2.2.2.2.2.2.2.2.2.2.2.2.2.2.1
theorem dX10_fits_42 : decode cX10_fits 42 = .ok (.ifCond .eq 34, 3) := dq_g431.2.2.2.2.2.2.2.2.2.2.2.2.2.2.2.2.2.2.2.2.2.2.2.2.1
theorem dX10_fits_45 : decode cX10_fits 45 = .ok (.aload_n 0, 1) := dq_g431.2.2.2.2.2.2.2.2.2.2.2.2.2.2.2.2.2.2.2.2.2.2.2.2.2.1
theorem dX10_fits_46 : decode cX10_fits 46 = .ok (.iload 4, 2) := dq_g431.2.2.2.2.2.2.2.2.2.2.2.2.2.2.2.2.2.2.2.2.2.2.2.2.2.2.1
theorem dX10_fits_48 : decode cX10_fits 48 = .ok (.iconst 0, 1) := dq_g431.2.2.2.2.2.2.2.2.2.2.2.2.2.2.2.2.2.2.2.2.2.2.2.2.2.2.2.1
theorem dX10_fits_49 : decode cX10_fits 49 = .ok (.iconst 1, 1) := dq_g431.2.2.2.2.2.2.2.2.2.2.2.2.2.2.2.2.2.2.2.2.2.2.2.2.2.2.2.2.1
theorem dX10_fits_50 : decode cX10_fits 50 = .ok (.invokevirtual 177, 3) := dq_g431.2.2.2.2.2.2.2.2.2.2.2.2.2.2.2.2.2.2.2.2.2.2.2.2.2.2.2.2.2.1
theorem dq_g432 : decode cX10_fits 53 = .ok (.ifCond .ne 25, 3) ∧ decode cX10_fits 56 = .ok (.aload_n 0, 1) ∧ decode cX10_fits 57 = .ok (.iload 4, 2) ∧ decode cX10_fits 59 = .ok (.bipush 10, 2) ∧ decode cX10_fits 61 = .ok (.bipush 9, 2) ∧ decode cX10_fits 63 = .ok (.aload_n 0, 1) ∧ decode cX10_fits 64 = .ok (.getfield 13, 3) ∧ decode cX10_fits 67 = .ok (.iload_n 1, 1) ∧ decode cX10_fits 68 = .ok (.iaload, 1) ∧ decode cX10_fits 69 = .ok (.iadd, 1) ∧ decode cX10_fits 70 = .ok (.invokevirtual 177, 3) ∧ decode cX10_fits 73 = .ok (.ifCond .ne 5, 3) ∧ decode cX10_fits 76 = .ok (.iconst (-1), 1) ∧ decode cX10_fits 77 = .ok (.ireturn, 1) ∧ decode cX10_fits 78 = .ok (.aload_n 0, 1) ∧ decode cX10_fits 79 = .ok (.iload_n 1, 1) ∧ decode cX10_fits 80 = .ok (.iload_n 2, 1) ∧ decode cX10_fits 81 = .ok (.iload_n 3, 1) ∧ decode cX10_fits 82 = .ok (.invokevirtual 387, 3) ∧ decode cX10_fits 85 = .ok (.iload 4, 2) ∧ decode cX10_fits 87 = .ok (.ifCond .ne 8, 3) ∧ decode cX10_fits 90 = .ok (.aload_n 0, 1) ∧ decode cX10_fits 91 = .ok (.getfield 378, 3) ∧ decode cX10_fits 94 = .ok (.ireturn, 1) ∧ decode cX10_fits 95 = .ok (.iload 4, 2) ∧ decode cX10_fits 97 = .ok (.iconst 1, 1) ∧ decode cX10_fits 98 = .ok (.if_icmp .ne 11, 3) ∧ decode cX10_fits 101 = .ok (.aload_n 0, 1) ∧ decode cX10_fits 102 = .ok (.iload_n 1, 1) ∧ decode cX10_fits 103 = .ok (.invokevirtual 390, 3) ∧ True := dqC_ok (c := cX10_fits) [(53, 3, some (.ifCond .ne 25)), (56, 1, some (.aload_n 0)), (57, 2, some (.iload 4)), (59, 2, some (.bipush 10)), (61, 2, some (.bipush 9)), (63, 1, some (.aload_n 0)), (64, 3, some (.getfield 13)), (67, 1, some (.iload_n 1)), (68, 1, some (.iaload)), (69, 1, some (.iadd)), (70, 3, some (.invokevirtual 177)), (73, 3, some (.ifCond .ne 5)), (76, 1, some (.iconst (-1))), (77, 1, some (.ireturn)), (78, 1, some (.aload_n 0)), (79, 1, some (.iload_n 1)), (80, 1, some (.iload_n 2)), (81, 1, some (.iload_n 3)), (82, 3, some (.invokevirtual 387)), (85, 2, some (.iload 4)), (87, 3, some (.ifCond .ne 8)), (90, 1, some (.aload_n 0)), (91, 3, some (.getfield 378)), (94, 1, some (.ireturn)), (95, 2, some (.iload 4)), (97, 1, some (.iconst 1)), (98, 3, some (.if_icmp .ne 11)), (101, 1, some (.aload_n 0)), (102, 1, some (.iload_n 1)), (103, 3, some (.invokevirtual 390))] _ 53 rfl (by decide +kernel)
theorem dX10_fits_53 : decode cX10_fits 53 = .ok (.ifCond .ne 25, 3) := dq_g432.1
theorem dX10_fits_56 : decode cX10_fits 56 = .ok (.aload_n 0, 1) := dq_g432.2.1
theorem dX10_fits_57 : decode cX10_fits 57 = .ok (.iload 4, 2) := dq_g432.2.2.1
theorem dX10_fits_59 : decode cX10_fits 59 = .ok (.bipush 10, 2) := dq_g432.2.2.2.1
theorem dX10_fits_61 : decode cX10_fits 61 = .ok (.bipush 9, 2) := dq_g432.2.2.2.2.1
theorem dX10_fits_63 : decode cX10_fits 63 = .ok (.aload_n 0, 1) := dq_g432.2.2.2.2.2.1
theorem dX10_fits_64 : decode cX10_fits 64 = .ok (.getfield 13, 3) := dq_g432.2.2.2.2.2.2.1
theorem dX10_fits_67 : decode cX10_fits 67 = .ok (.iload_n 1, 1) := dq_g432.2.2.2.2.2.2.2.1
theorem dX10_fits_68 : decode cX10_fits 68 = .ok (.iaload, 1) := dq_g432.2.2.2.2.2.2.2.2.1
theorem dX10_fits_69 : decode cX10_fits 69 = .ok (.iadd, 1) := dq_g432.2.2.2.2.2.2.2.2.2.1
theorem dX10_fits_70 : decode cX10_fits 70 = .ok (.invokevirtual 177, 3) := dq_g432.2.2.2.2.2.2.2.2.2.2.1
theorem dX10_fits_73 : decode cX10_fits 73 = .ok (.ifCond .ne 5, 3) := dq_g432.2.2.2.2.2.2.2.2.2.2.2.1
theorem dX10_fits_76 : decode cX10_fits 76 = .ok (.iconst (-1), 1) := dq_g432.2.2.2.2.2.2.2.2.2.2.2.2.1
theorem dX10_fits_77 : decode cX10_fits 77 = .ok (.ireturn, 1) := dq_g432.2.2.2.2.2.2.2.2.2.2.2.2.2.1
theorem dX10_fits_78 : decode cX10_fits 78 = .ok (.aload_n 0, 1) := dq_g432.2.2.2.2.2.2.2.2.2.2.2.2.2.2.1
theorem dX10_fits_79 : decode cX10_fits 79 = .ok (.iload_n 1, 1) := dq_g432.2.2.2.2.2.2.2.2.2.2.2.2.2.2.2.1
theorem dX10_fits_80 : decode cX10_fits 80 = .ok (.iload_n 2, 1) := dq_g432.2.2.2.2.2.2.2.2.2.2.2.2.2.2.2.2.1
theorem dX10_fits_81 : decode cX10_fits 81 = .ok (.iload_n 3, 1) := dq_g432.2.2.2.2.2.2.2.2.2.2.2.2.2.2.2.2.2.1
theorem dX10_fits_82 : decode cX10_fits 82 = .ok (.invokevirtual 387, 3) := dq_g432.2.2.2.2.2.2.2.2.2.2.2.2.2.2.2.2.2.2.1
theorem dX10_fits_85 : decode cX10_fits 85 = .ok (.iload 4, 2) := dq_g432.2.2.2.2.2.2.2.2.2.2.2.2.2.2.2.2.2.2.2.1
theorem dX10_fits_87 : decode cX10_fits 87 = .ok (.ifCond .ne 8, 3) := dq_g432.2.2.2.2.2.2.2.2.2.2.2.2.2.2.2.2.2.2.2.2.1
theorem dX10_fits_90 : decode cX10_fits 90 = .ok (.aload_n 0, 1) := dq_g432.2.2.2.2.2.2.2.2.2.2.2.2.2.2.2.2.2.2.2.2.2.1
theorem dX10_fits_91 : decode cX10_fits 91 = .ok (.getfield 378, 3) := dq_g432.2.2.2.2.2.2.2.2.2.2.2.2.2.2.2.2.2.2.2.2.2.2.1
theorem dX10_fits_94 : decode cX10_fits 94 = .ok (.ireturn, 1) := dq_g432.2.2.2.2.2.2.2.2.2.2.2.2.2.2.2.2.2.2.2.2.2.2.2.1
theorem dX10_fits_95 : decode cX10_fits 95 = .ok (.iload 4, 2) := dq_g432.2.2.2.2.2.2.2.2.2.2.2.2.2.2.2.2.2.2.2.2.2.2.2.2.1
theorem dX10_fits_97 : decode cX10_fits 97 = .ok (.iconst 1, 1) := dq_g432.2.2.2.2.2.2.2.2.2.2.2.2.2.2.2.2.2.2.2.2.2.2.2.2.2.1
theorem dX10_fits_98 : decode cX10_fits 98 = .ok (.if_icmp .ne 11, 3) := dq_g432.2.2.2.2.2.2.2.2.2.2.2.2.2.2.2.2.2.2.2.2.2.2.2.2.2.2.1
theorem dX10_fits_101 : decode cX10_fits 101 = .ok (.aload_n 0, 1) := dq_g432.2.2.2.2.2.2.2.2.2.2.2.2.2.2.2.2.2.2.2.2.2.2.2.2.2.2.2.1
theorem dX10_fits_102 : decode cX10_fits 102 = .ok (.iload_n 1, 1) := dq_g432.2.2.2.2.2.2.2.2.2.2.2.2.2.2.2.2.2.2.2.2.2.2.2.2.2.2.2.2.1
theorem dX10_fits_103 : decode cX10_fits 103 = .ok (.invokevirtual 390, 3) := dq_g432.2.2.2.2.2.2.2.2.2.2.2.2.2.2.2.2.2.2.2.2.2.2.2.2.2.2.2.2.2.1
theorem dq_g433 : decode cX10_fits 106 = .ok (.goto 12, 3) ∧ decode cX10_fits 109 = .ok (.aload_n 0, 1) ∧ decode cX10_fits 110 = .ok (.iload 4, 2) ∧ decode cX10_fits 112 = .ok (.bipush 10, 2) ∧ decode cX10_fits 114 = .ok (.isub, 1) ∧ decode cX10_fits 115 = .ok (.invokevirtual 393, 3) ∧ decode cX10_fits 118 = .ok (.ireturn, 1) ∧ True := dqC_ok (c := cX10_fits) [(106, 3, some (.goto 12)), (109, 1, some (.aload_n 0)), (110, 2, some (.iload 4)), (112, 2, some (.bipush 10)), (114, 1, some (.isub)), (115, 3, some (.invokevirtual 393)), (118, 1, some (.ireturn))] _ 106 rfl (by decide +kernel)
theorem dX10_fits_106 : decode cX10_fits 106 = .ok (.goto 12, 3) := dq_g433.1
theorem dX10_fits_109 : decode cX10_fits 109 = .ok (.aload_n 0, 1) := dq_g433.2.1
theorem dX10_fits_110 : decode cX10_fits 110 = .ok (.iload 4, 2) := dq_g433.2.2.1
theorem dX10_fits_112 : decode cX10_fits 112 = .ok (.bipush 10, 2) := dq_g433.2.2.2.1
theorem dX10_fits_114 : decode cX10_fits 114 = .ok (.isub, 1) := dq_g433.2.2.2.2.1
theorem dX10_fits_115 : decode cX10_fits 115 = .ok (.invokevirtual 393, 3) := dq_g433.2.2.2.2.2.1
theorem dX10_fits_118 : decode cX10_fits 118 = .ok (.ireturn, 1) := dq_g433.2.2.2.2.2.2.1
theorem dq_g434 : decode cX10_offOf 0 = .ok (.lconst 0, 1) ∧ decode cX10_offOf 1 = .ok (.lstore_n 2, 1) ∧ decode cX10_offOf 2 = .ok (.iconst 0, 1) ∧ decode cX10_offOf 3 = .ok (.istore 4, 2) ∧ decode cX10_offOf 5 = .ok (.iload 4, 2) ∧ decode cX10_offOf 7 = .ok (.aload_n 0, 1) ∧ decode cX10_offOf 8 = .ok (.getfield 170, 3) ∧ decode cX10_offOf 11 = .ok (.if_icmp .ge 65, 3) ∧ decode cX10_offOf 14 = .ok (.bipush 12, 2) ∧ decode cX10_offOf 16 = .ok (.iload 4, 2) ∧ decode cX10_offOf 18 = .ok (.imul, 1) ∧ decode cX10_offOf 19 = .ok (.istore 5, 2) ∧ decode cX10_offOf 21 = .ok (.iload 5, 2) ∧ decode cX10_offOf 23 = .ok (.bipush 12, 2) ∧ decode cX10_offOf 25 = .ok (.iload 4, 2) ∧ decode cX10_offOf 27 = .ok (.imul, 1) ∧ decode cX10_offOf 28 = .ok (.aload_n 0, 1) ∧ decode cX10_offOf 29 = .ok (.getfield 116, 3) ∧ decode cX10_offOf 32 = .ok (.iload 4, 2) ∧ decode cX10_offOf 34 = .ok (.iaload, 1) ∧ decode cX10_offOf 35 = .ok (.iadd, 1) ∧ decode cX10_offOf 36 = .ok (.if_icmp .ge 34, 3) ∧ decode cX10_offOf 39 = .ok (.lload_n 2, 1) ∧ decode cX10_offOf 40 = .ok (.aload_n 0, 1) ∧ decode cX10_offOf 41 = .ok (.aload_n 0, 1) ∧ decode cX10_offOf 42 = .ok (.iload_n 1, 1) ∧ decode cX10_offOf 43 = .ok (.iload 4, 2) ∧ decode cX10_offOf 45 = .ok (.iload 5, 2) ∧ decode cX10_offOf 47 = .ok (.invokevirtual 375, 3) ∧ decode cX10_offOf 50 = .ok (.aload_n 0, 1) ∧ True := dqC_ok (c := cX10_offOf) [(0, 1, some (.lconst 0)), (1, 1, some (.lstore_n 2)), (2, 1, some (.iconst 0)), (3, 2, some (.istore 4)), (5, 2, some (.iload 4)), (7, 1, some (.aload_n 0)), (8, 3, some (.getfield 170)), (11, 3, some (.if_icmp .ge 65)), (14, 2, some (.bipush 12)), (16, 2, some (.iload 4)), (18, 1, some (.imul)), (19, 2, some (.istore 5)), (21, 2, some (.iload 5)), (23, 2, some (.bipush 12)), (25, 2, some (.iload 4)), (27, 1, some (.imul)), (28, 1, some (.aload_n 0)), (29, 3, some (.getfield 116)), (32, 2, some (.iload 4)), (34, 1, some (.iaload)), (35, 1, some (.iadd)), (36, 3, some (.if_icmp .ge 34)), (39, 1, some (.lload_n 2)), (40, 1, some (.aload_n 0)), (41, 1, some (.aload_n 0)), (42, 1, some (.iload_n 1)), (43, 2, some (.iload 4)), (45, 2, some (.iload 5)), (47, 3, some (.invokevirtual 375)), (50, 1, some (.aload_n 0))] _ 0 rfl (by decide +kernel)
theorem dX10_offOf_0 : decode cX10_offOf 0 = .ok (.lconst 0, 1) := dq_g434.1
theorem dX10_offOf_1 : decode cX10_offOf 1 = .ok (.lstore_n 2, 1) := dq_g434.2.1
theorem dX10_offOf_2 : decode cX10_offOf 2 = .ok (.iconst 0, 1) := dq_g434.2.2.1
theorem dX10_offOf_3 : decode cX10_offOf 3 = .ok (.istore 4, 2) := dq_g434.2.2.2.1
theorem dX10_offOf_5 : decode cX10_offOf 5 = .ok (.iload 4, 2) := dq_g434.2.2.2.2.1
theorem dX10_offOf_7 : decode cX10_offOf 7 = .ok (.aload_n 0, 1) := dq_g434.2.2.2.2.2.1
theorem dX10_offOf_8 : decode cX10_offOf 8 = .ok (.getfield 170, 3) := dq_g434.2.2.2.2.2.2.1
theorem dX10_offOf_11 : decode cX10_offOf 11 = .ok (.if_icmp .ge 65, 3) := dq_g434.2.2.2.2.2.2.2.1
theorem dX10_offOf_14 : decode cX10_offOf 14 = .ok (.bipush 12, 2) := dq_g434.2.2.2.2.2.2.2.2.1
theorem dX10_offOf_16 : decode cX10_offOf 16 = .ok (.iload 4, 2) := dq_g434.2.2.2.2.2.2.2.2.2.1
theorem dX10_offOf_18 : decode cX10_offOf 18 = .ok (.imul, 1) := dq_g434.2.2.2.2.2.2.2.2.2.2.1
theorem dX10_offOf_19 : decode cX10_offOf 19 = .ok (.istore 5, 2) := dq_g434.2.2.2.2.2.2.2.2.2.2.2.1
theorem dX10_offOf_21 : decode cX10_offOf 21 = .ok (.iload 5, 2) := dq_g434.2.2.2.2.2.2.2.2.2.2.2.2.1
theorem dX10_offOf_23 : decode cX10_offOf 23 = .ok (.bipush 12, 2) := dq_g434.2.2.2.2.2.2.2.2.2.2.2.2.2.1
theorem dX10_offOf_25 : decode cX10_offOf 25 = .ok (.iload 4, 2) := dq_g434.2.2.2.2.2.2.2.2.2.2.2.2.2.2.1
theorem dX10_offOf_27 : decode cX10_offOf 27 = .ok (.imul, 1) := dq_g434.2.2.2.2.2.2.2.2.2.2.2.2.2.2.2.1
theorem dX10_offOf_28 : decode cX10_offOf 28 = .ok (.aload_n 0, 1) := dq_g434.2.2.2.2.2.2.2.2.2.2.2.2.2.2.2.2.1
theorem dX10_offOf_29 : decode cX10_offOf 29 = .ok (.getfield 116, 3) := dq_g434.2.2.2.2.2.2.2.2.2.2.2.2.2.2.2.2.2.1
theorem dX10_offOf_32 : decode cX10_offOf 32 = .ok (.iload 4, 2) := dq_g434.2.2.2.2.2.2.2.2.2.2.2.2.2.2.2.2.2.2.1
theorem dX10_offOf_34 : decode cX10_offOf 34 = .ok (.iaload, 1) := dq_g434.2.2.2.2.2.2.2.2.2.2.2.2.2.2.2.2.2.2.2.1
theorem dX10_offOf_35 : decode cX10_offOf 35 = .ok (.iadd, 1) := dq_g434.2.2.2.2.2.2.2.2.2.2.2.2.2.2.2.2.2.2.2.2.1
theorem dX10_offOf_36 : decode cX10_offOf 36 = .ok (.if_icmp .ge 34, 3) := dq_g434.2.2.2.2.2.2.2.2.2.2.2.2.2.2.2.2.2.2.2.2.2.1
theorem dX10_offOf_39 : decode cX10_offOf 39 = .ok (.lload_n 2, 1) := dq_g434.2.2.2.2.2.2.2.2.2.2.2.2.2.2.2.2.2.2.2.2.2.2.1
theorem dX10_offOf_40 : decode cX10_offOf 40 = .ok (.aload_n 0, 1) := dq_g434.2.2.2.2.2.2.2.2.2.2.2.2.2.2.2.2.2.2.2.2.2.2.2.1
theorem dX10_offOf_41 : decode cX10_offOf 41 = .ok (.aload_n 0, 1) := dq_g434.2.2.2.2.2.2.2.2.2.2.2.2.2.2.2.2.2.2.2.2.2.2.2.2.1
theorem dX10_offOf_42 : decode cX10_offOf 42 = .ok (.iload_n 1, 1) := dq_g434.2.2.2.2.2.2.2.2.2.2.2.2.2.2.2.2.2.2.2.2.2.2.2.2.2.1
theorem dX10_offOf_43 : decode cX10_offOf 43 = .ok (.iload 4, 2) := dq_g434.2.2.2.2.2.2.2.2.2.2.2.2.2.2.2.2.2.2.2.2.2.2.2.2.2.2.1
theorem dX10_offOf_45 : decode cX10_offOf 45 = .ok (.iload 5, 2) := dq_g434.2.2.2.2.2.2.2.2.2.2.2.2.2.2.2.2.2.2.2.2.2.2.2.2.2.2.2.1
theorem dX10_offOf_47 : decode cX10_offOf 47 = .ok (.invokevirtual 375, 3) := dq_g434.2.2.2.2.2.2.2.2.2.2.2.2.2.2.2.2.2.2.2.2.2.2.2.2.2.2.2.2.1
theorem dX10_offOf_50 : decode cX10_offOf 50 = .ok (.aload_n 0, 1) := dq_g434.2.2.2.2.2.2.2.2.2.2.2.2.2.2.2.2.2.2.2.2.2.2.2.2.2.2.2.2.2.1
theorem dq_g435 : decode cX10_offOf 51 = .ok (.getfield 122, 3) ∧ decode cX10_offOf 54 = .ok (.iload 5, 2) ∧ decode cX10_offOf 56 = .ok (.iaload, 1) ∧ decode cX10_offOf 57 = .ok (.isub, 1) ∧ decode cX10_offOf 58 = .ok (.invokevirtual 309, 3) ∧ decode cX10_offOf 61 = .ok (.i2l, 1) ∧ decode cX10_offOf 62 = .ok (.ladd, 1) ∧ decode cX10_offOf 63 = .ok (.lstore_n 2, 1) ∧ decode cX10_offOf 64 = .ok (.iinc 5 1, 3) ∧ decode cX10_offOf 67 = .ok (.goto (-46), 3) ∧ decode cX10_offOf 70 = .ok (.iinc 4 1, 3) ∧ decode cX10_offOf 73 = .ok (.goto (-68), 3) ∧ decode cX10_offOf 76 = .ok (.lload_n 2, 1) ∧ decode cX10_offOf 77 = .ok (.ldc2_w 396, 3) ∧ decode cX10_offOf 80 = .ok (.lcmp, 1) ∧ decode cX10_offOf 81 = .ok (.ifCond .le 9, 3) ∧ decode cX10_offOf 84 = .ok (.ldc_w 398, 3) ∧ decode cX10_offOf 87 = .ok (.goto 5, 3) ∧ decode cX10_offOf 90 = .ok (.lload_n 2, 1) ∧ decode cX10_offOf 91 = .ok (.l2i, 1) ∧ decode cX10_offOf 92 = .ok (.ireturn, 1) ∧ True := dqC_ok (c := cX10_offOf) [(51, 3, some (.getfield 122)), (54, 2, some (.iload 5)), (56, 1, some (.iaload)), (57, 1, some (.isub)), (58, 3, some (.invokevirtual 309)), (61, 1, some (.i2l)), (62, 1, some (.ladd)), (63, 1, some (.lstore_n 2)), (64, 3, some (.iinc 5 1)), (67, 3, some (.goto (-46))), (70, 3, some (.iinc 4 1)), (73, 3, some (.goto (-68))), (76, 1, some (.lload_n 2)), (77, 3, some (.ldc2_w 396)), (80, 1, some (.lcmp)), (81, 3, some (.ifCond .le 9)), (84, 3, some (.ldc_w 398)), (87, 3, some (.goto 5)), (90, 1, some (.lload_n 2)), (91, 1, some (.l2i)), (92, 1, some (.ireturn))] _ 51 rfl (by decide +kernel)
theorem dX10_offOf_51 : decode cX10_offOf 51 = .ok (.getfield 122, 3) := dq_g435.1
theorem dX10_offOf_54 : decode cX10_offOf 54 = .ok (.iload 5, 2) := dq_g435.2.1
theorem dX10_offOf_56 : decode cX10_offOf 56 = .ok (.iaload, 1) := dq_g435.2.2.1
theorem dX10_offOf_57 : decode cX10_offOf 57 = .ok (.isub, 1) := dq_g435.2.2.2.1
theorem dX10_offOf_58 : decode cX10_offOf 58 = .ok (.invokevirtual 309, 3) := dq_g435.2.2.2.2.1
theorem dX10_offOf_61 : decode cX10_offOf 61 = .ok (.i2l, 1) := dq_g435.2.2.2.2.2.1
theorem dX10_offOf_62 : decode cX10_offOf 62 = .ok (.ladd, 1) := dq_g435.2.2.2.2.2.2.1
theorem dX10_offOf_63 : decode cX10_offOf 63 = .ok (.lstore_n 2, 1) := dq_g435.2.2.2.2.2.2.2.1
theorem dX10_offOf_64 : decode cX10_offOf 64 = .ok (.iinc 5 1, 3) := dq_g435.2.2.2.2.2.2.2.2.1
theorem dX10_offOf_67 : decode cX10_offOf 67 = .ok (.goto (-46), 3) := dq_g435.2.2.2.2.2.2.2.2.2.1
theorem dX10_offOf_70 : decode cX10_offOf 70 = .ok (.iinc 4 1, 3) := dq_g435.2.2.2.2.2.2.2.2.2.2.1
theorem dX10_offOf_73 : decode cX10_offOf 73 = .ok (.goto (-68), 3) := dq_g435.2.2.2.2.2.2.2.2.2.2.2.1
theorem dX10_offOf_76 : decode cX10_offOf 76 = .ok (.lload_n 2, 1) := dq_g435.2.2.2.2.2.2.2.2.2.2.2.2.1
theorem dX10_offOf_77 : decode cX10_offOf 77 = .ok (.ldc2_w 396, 3) := dq_g435.2.2.2.2.2.2.2.2.2.2.2.2.2.1
theorem dX10_offOf_80 : decode cX10_offOf 80 = .ok (.lcmp, 1) := dq_g435.2.2.2.2.2.2.2.2.2.2.2.2.2.2.1
theorem dX10_offOf_81 : decode cX10_offOf 81 = .ok (.ifCond .le 9, 3) := dq_g435.2.2.2.2.2.2.2.2.2.2.2.2.2.2.2.1
theorem dX10_offOf_84 : decode cX10_offOf 84 = .ok (.ldc_w 398, 3) := dq_g435.2.2.2.2.2.2.2.2.2.2.2.2.2.2.2.2.1
theorem dX10_offOf_87 : decode cX10_offOf 87 = .ok (.goto 5, 3) := dq_g435.2.2.2.2.2.2.2.2.2.2.2.2.2.2.2.2.2.1
theorem dX10_offOf_90 : decode cX10_offOf 90 = .ok (.lload_n 2, 1) := dq_g435.2.2.2.2.2.2.2.2.2.2.2.2.2.2.2.2.2.2.1
theorem dX10_offOf_91 : decode cX10_offOf 91 = .ok (.l2i, 1) := dq_g435.2.2.2.2.2.2.2.2.2.2.2.2.2.2.2.2.2.2.2.1
theorem dX10_offOf_92 : decode cX10_offOf 92 = .ok (.ireturn, 1) := dq_g435.2.2.2.2.2.2.2.2.2.2.2.2.2.2.2.2.2.2.2.2.1
theorem dq_g436 : decode cX10_off 0 = .ok (.aload_n 0, 1) ∧ decode cX10_off 1 = .ok (.iconst 0, 1) ∧ decode cX10_off 2 = .ok (.putfield 167, 3) ∧ decode cX10_off 5 = .ok (.iload_n 1, 1) ∧ decode cX10_off 6 = .ok (.iconst (-1), 1) ∧ decode cX10_off 7 = .ok (.if_icmp .ne 22, 3) ∧ decode cX10_off 10 = .ok (.aload_n 0, 1) ∧ decode cX10_off 11 = .ok (.iconst 1, 1) ∧ decode cX10_off 12 = .ok (.invokevirtual 399, 3) ∧ decode cX10_off 15 = .ok (.aload_n 0, 1) ∧ decode cX10_off 16 = .ok (.iconst 0, 1) ∧ decode cX10_off 17 = .ok (.invokevirtual 399, 3) ∧ decode cX10_off 20 = .ok (.if_icmp .ge 7, 3) ∧ decode cX10_off 23 = .ok (.iconst 1, 1) ∧ decode cX10_off 24 = .ok (.goto 4, 3) ∧ decode cX10_off 27 = .ok (.iconst 0, 1) ∧ decode cX10_off 28 = .ok (.ireturn, 1) ∧ decode cX10_off 29 = .ok (.aload_n 0, 1) ∧ decode cX10_off 30 = .ok (.iload_n 1, 1) ∧ decode cX10_off 31 = .ok (.invokevirtual 328, 3) ∧ decode cX10_off 34 = .ok (.ifCond .eq 11, 3) ∧ decode cX10_off 37 = .ok (.aload_n 0, 1) ∧ decode cX10_off 38 = .ok (.iload_n 1, 1) ∧ decode cX10_off 39 = .ok (.invokevirtual 399, 3) ∧ decode cX10_off 42 = .ok (.goto 4, 3) ∧ decode cX10_off 45 = .ok (.iconst (-1), 1) ∧ decode cX10_off 46 = .ok (.ireturn, 1) ∧ True := dqC_ok (c := cX10_off) [(0, 1, some (.aload_n 0)), (1, 1, some (.iconst 0)), (2, 3, some (.putfield 167)), (5, 1, some (.iload_n 1)), (6, 1, some (.iconst (-1))), (7, 3, some (.if_icmp .ne 22)), (10, 1, some (.aload_n 0)), (11, 1, some (.iconst 1)), (12, 3, some (.invokevirtual 399)), (15, 1, some (.aload_n 0)), (16, 1, some (.iconst 0)), (17, 3, some (.invokevirtual 399)), (20, 3, some (.if_icmp .ge 7)), (23, 1, some (.iconst 1)), (24, 3, some (.goto 4)), (27, 1, some (.iconst 0)), (28, 1, some (.ireturn)), (29, 1, some (.aload_n 0)), (30, 1, some (.iload_n 1)), (31, 3, some (.invokevirtual 328)), (34, 3, some (.ifCond .eq 11)), (37, 1, some (.aload_n 0)), (38, 1, some (.iload_n 1)), (39, 3, some (.invokevirtual 399)), (42, 3, some (.goto 4)), (45, 1, some (.iconst (-1))), (46, 1, some (.ireturn))] _ 0 rfl (by decide +kernel)
theorem dX10_off_0 : decode cX10_off 0 = .ok (.aload_n 0, 1) := dq_g436.1
theorem dX10_off_1 : decode cX10_off 1 = .ok (.iconst 0, 1) := dq_g436.2.1
theorem dX10_off_2 : decode cX10_off 2 = .ok (.putfield 167, 3) := dq_g436.2.2.1
theorem dX10_off_5 : decode cX10_off 5 = .ok (.iload_n 1, 1) := dq_g436.2.2.2.1
theorem dX10_off_6 : decode cX10_off 6 = .ok (.iconst (-1), 1) := dq_g436.2.2.2.2.1
theorem dX10_off_7 : decode cX10_off 7 = .ok (.if_icmp .ne 22, 3) := dq_g436.2.2.2.2.2.1
theorem dX10_off_10 : decode cX10_off 10 = .ok (.aload_n 0, 1) := dq_g436.2.2.2.2.2.2.1
theorem dX10_off_11 : decode cX10_off 11 = .ok (.iconst 1, 1) := dq_g436.2.2.2.2.2.2.2.1
theorem dX10_off_12 : decode cX10_off 12 = .ok (.invokevirtual 399, 3) := dq_g436.2.2.2.2.2.2.2.2.1
theorem dX10_off_15 : decode cX10_off 15 = .ok (.aload_n 0, 1) := dq_g436.2.2.2.2.2.2.2.2.2.1
theorem dX10_off_16 : decode cX10_off 16 = .ok (.iconst 0, 1) := dq_g436.2.2.2.2.2.2.2.2.2.2.1
theorem dX10_off_17 : decode cX10_off 17 = .ok (.invokevirtual 399, 3) := dq_g436.2.2.2.2.2.2.2.2.2.2.2.1
theorem dX10_off_20 : decode cX10_off 20 = .ok (.if_icmp .ge 7, 3) := dq_g436.2.2.2.2.2.2.2.2.2.2.2.2.1
theorem dX10_off_23 : decode cX10_off 23 = .ok (.iconst 1, 1) := dq_g436.2.2.2.2.2.2.2.2.2.2.2.2.2.1
theorem dX10_off_24 : decode cX10_off 24 = .ok (.goto 4, 3) := dq_g436.2.2.2.2.2.2.2.2.2.2.2.2.2.2.1
theorem dX10_off_27 : decode cX10_off 27 = .ok (.iconst 0, 1) := dq_g436.2.2.2.2.2.2.2.2.2.2.2.2.2.2.2.1
theorem dX10_off_28 : decode cX10_off 28 = .ok (.ireturn, 1) := dq_g436.2.2.2.2.2.2.2.2.2.2.2.2.2.2.2.2.1
theorem dX10_off_29 : decode cX10_off 29 = .ok (.aload_n 0, 1) := dq_g436.2.2.2.2.2.2.2.2.2.2.2.2.2.2.2.2.2.1
theorem dX10_off_30 : decode cX10_off 30 = .ok (.iload_n 1, 1) := dq_g436.2.2.2.2.2.2.2.2.2.2.2.2.2.2.2.2.2.2.1
theorem dX10_off_31 : decode cX10_off 31 = .ok (.invokevirtual 328, 3) := dq_g436.2.2.2.2.2.2.2.2.2.2.2.2.2.2.2.2.2.2.2.1
theorem dX10_off_34 : decode cX10_off 34 = .ok (.ifCond .eq 11, 3) := dq_g436.2.2.2.2.2.2.2.2.2.2.2.2.2.2.2.2.2.2.2.2.1
theorem dX10_off_37 : decode cX10_off 37 = .ok (.aload_n 0, 1) := dq_g436.2.2.2.2.2.2.2.2.2.2.2.2.2.2.2.2.2.2.2.2.2.1
theorem dX10_off_38 : decode cX10_off 38 = .ok (.iload_n 1, 1) := dq_g436.2.2.2.2.2.2.2.2.2.2.2.2.2.2.2.2.2.2.2.2.2.2.1
theorem dX10_off_39 : decode cX10_off 39 = .ok (.invokevirtual 399, 3) := dq_g436.2.2.2.2.2.2.2.2.2.2.2.2.2.2.2.2.2.2.2.2.2.2.2.1
theorem dX10_off_42 : decode cX10_off 42 = .ok (.goto 4, 3) := dq_g436.2.2.2.2.2.2.2.2.2.2.2.2.2.2.2.2.2.2.2.2.2.2.2.2.1
theorem dX10_off_45 : decode cX10_off 45 = .ok (.iconst (-1), 1) := dq_g436.2.2.2.2.2.2.2.2.2.2.2.2.2.2.2.2.2.2.2.2.2.2.2.2.2.1
theorem dX10_off_46 : decode cX10_off 46 = .ok (.ireturn, 1) := dq_g436.2.2.2.2.2.2.2.2.2.2.2.2.2.2.2.2.2.2.2.2.2.2.2.2.2.2.1
theorem dq_g437 : decode cX10_sways 0 = .ok (.aload_n 0, 1) ∧ decode cX10_sways 1 = .ok (.iload_n 1, 1) ∧ decode cX10_sways 2 = .ok (.iload_n 2, 1) ∧ decode cX10_sways 3 = .ok (.invokevirtual 316, 3) ∧ decode cX10_sways 6 = .ok (.aload_n 0, 1) ∧ decode cX10_sways 7 = .ok (.aload_n 0, 1) ∧ decode cX10_sways 8 = .ok (.getfield 322, 3) ∧ decode cX10_sways 11 = .ok (.iconst 2, 1) ∧ decode cX10_sways 12 = .ok (.iload_n 3, 1) ∧ decode cX10_sways 13 = .ok (.invokevirtual 319, 3) ∧ decode cX10_sways 16 = .ok (.ifCond .ge 7, 3) ∧ decode cX10_sways 19 = .ok (.iconst 1, 1) ∧ decode cX10_sways 20 = .ok (.goto 4, 3) ∧ decode cX10_sways 23 = .ok (.iconst 0, 1) ∧ decode cX10_sways 24 = .ok (.ireturn, 1) ∧ True := dqC_ok (c := cX10_sways) [(0, 1, some (.aload_n 0)), (1, 1, some (.iload_n 1)), (2, 1, some (.iload_n 2)), (3, 3, some (.invokevirtual 316)), (6, 1, some (.aload_n 0)), (7, 1, some (.aload_n 0)), (8, 3, some (.getfield 322)), (11, 1, some (.iconst 2)), (12, 1, some (.iload_n 3)), (13, 3, some (.invokevirtual 319)), (16, 3, some (.ifCond .ge 7)), (19, 1, some (.iconst 1)), (20, 3, some (.goto 4)), (23, 1, some (.iconst 0)), (24, 1, some (.ireturn))] _ 0 rfl (by decide +kernel)
theorem dX10_sways_0 : decode cX10_sways 0 = .ok (.aload_n 0, 1) := dq_g437.1
theorem dX10_sways_1 : decode cX10_sways 1 = .ok (.iload_n 1, 1) := dq_g437.2.1
theorem dX10_sways_2 : decode cX10_sways 2 = .ok (.iload_n 2, 1) := dq_g437.2.2.1
theorem dX10_sways_3 : decode cX10_sways 3 = .ok (.invokevirtual 316, 3) := dq_g437.2.2.2.1
theorem dX10_sways_6 : decode cX10_sways 6 = .ok (.aload_n 0, 1) := dq_g437.2.2.2.2.1
theorem dX10_sways_7 : decode cX10_sways 7 = .ok (.aload_n 0, 1) := dq_g437.2.2.2.2.2.1
theorem dX10_sways_8 : decode cX10_sways 8 = .ok (.getfield 322, 3) := dq_g437.2.2.2.2.2.2.1
theorem dX10_sways_11 : decode cX10_sways 11 = .ok (.iconst 2, 1) := dq_g437.2.2.2.2.2.2.2.1
theorem dX10_sways_12 : decode cX10_sways 12 = .ok (.iload_n 3, 1) := dq_g437.2.2.2.2.2.2.2.2.1
theorem dX10_sways_13 : decode cX10_sways 13 = .ok (.invokevirtual 319, 3) := dq_g437.2.2.2.2.2.2.2.2.2.1
theorem dX10_sways_16 : decode cX10_sways 16 = .ok (.ifCond .ge 7, 3) := dq_g437.2.2.2.2.2.2.2.2.2.2.1
theorem dX10_sways_19 : decode cX10_sways 19 = .ok (.iconst 1, 1) := dq_g437.2.2.2.2.2.2.2.2.2.2.2.1
theorem dX10_sways_20 : decode cX10_sways 20 = .ok (.goto 4, 3) := dq_g437.2.2.2.2.2.2.2.2.2.2.2.2.1
theorem dX10_sways_23 : decode cX10_sways 23 = .ok (.iconst 0, 1) := dq_g437.2.2.2.2.2.2.2.2.2.2.2.2.2.1
theorem dX10_sways_24 : decode cX10_sways 24 = .ok (.ireturn, 1) := dq_g437.2.2.2.2.2.2.2.2.2.2.2.2.2.2.1
theorem dq_g438 : decode cX10_isStill 0 = .ok (.iload_n 2, 1) ∧ decode cX10_isStill 1 = .ok (.iconst 1, 1) ∧ decode cX10_isStill 2 = .ok (.iadd, 1) ∧ decode cX10_isStill 3 = .ok (.aload_n 0, 1) ∧ decode cX10_isStill 4 = .ok (.getfield 13, 3) ∧ decode cX10_isStill 7 = .ok (.iload_n 1, 1) ∧ decode cX10_isStill 8 = .ok (.iaload, 1) ∧ decode cX10_isStill 9 = .ok (.if_icmp .ge 26, 3) ∧ decode cX10_isStill 12 = .ok (.aload_n 0, 1) ∧ decode cX10_isStill 13 = .ok (.iload_n 1, 1) ∧ decode cX10_isStill 14 = .ok (.iload_n 2, 1) ∧ decode cX10_isStill 15 = .ok (.iload_n 3, 1) ∧ decode cX10_isStill 16 = .ok (.invokevirtual 402, 3) ∧ decode cX10_isStill 19 = .ok (.aload_n 0, 1) ∧ decode cX10_isStill 20 = .ok (.iload_n 1, 1) ∧ decode cX10_isStill 21 = .ok (.iload_n 2, 1) ∧ decode cX10_isStill 22 = .ok (.iconst 1, 1) ∧ decode cX10_isStill 23 = .ok (.iadd, 1) ∧ decode cX10_isStill 24 = .ok (.iload_n 3, 1) ∧ decode cX10_isStill 25 = .ok (.invokevirtual 402, 3) ∧ decode cX10_isStill 28 = .ok (.if_icmp .eq 7, 3) ∧ decode cX10_isStill 31 = .ok (.iconst 1, 1) ∧ decode cX10_isStill 32 = .ok (.goto 4, 3) ∧ decode cX10_isStill 35 = .ok (.iconst 0, 1) ∧ decode cX10_isStill 36 = .ok (.ireturn, 1) ∧ True := dqC_ok (c := cX10_isStill) [(0, 1, some (.iload_n 2)), (1, 1, some (.iconst 1)), (2, 1, some (.iadd)), (3, 1, some (.aload_n 0)), (4, 3, some (.getfield 13)), (7, 1, some (.iload_n 1)), (8, 1, some (.iaload)), (9, 3, some (.if_icmp .ge 26)), (12, 1, some (.aload_n 0)), (13, 1, some (.iload_n 1)), (14, 1, some (.iload_n 2)), (15, 1, some (.iload_n 3)), (16, 3, some (.invokevirtual 402)), (19, 1, some (.aload_n 0)), (20, 1, some (.iload_n 1)), (21, 1, some (.iload_n 2)), (22, 1, some (.iconst 1)), (23, 1, some (.iadd)), (24, 1, some (.iload_n 3)), (25, 3, some (.invokevirtual 402)), (28, 3, some (.if_icmp .eq 7)), (31, 1, some (.iconst 1)), (32, 3, some (.goto 4)), (35, 1, some (.iconst 0)), (36, 1, some (.ireturn))] _ 0 rfl (by decide +kernel)
theorem dX10_isStill_0 : decode cX10_isStill 0 = .ok (.iload_n 2, 1) := dq_g438.1
theorem dX10_isStill_1 : decode cX10_isStill 1 = .ok (.iconst 1, 1) := dq_g438.2.1
theorem dX10_isStill_2 : decode cX10_isStill 2 = .ok (.iadd, 1) := dq_g438.2.2.1
theorem dX10_isStill_3 : decode cX10_isStill 3 = .ok (.aload_n 0, 1) := dq_g438.2.2.2.1
theorem dX10_isStill_4 : decode cX10_isStill 4 = .ok (.getfield 13, 3) := dq_g438.2.2.2.2.1
theorem dX10_isStill_7 : decode cX10_isStill 7 = .ok (.iload_n 1, 1) := dq_g438.2.2.2.2.2.1
theorem dX10_isStill_8 : decode cX10_isStill 8 = .ok (.iaload, 1) := dq_g438.2.2.2.2.2.2.1
theorem dX10_isStill_9 : decode cX10_isStill 9 = .ok (.if_icmp .ge 26, 3) := dq_g438.2.2.2.2.2.2.2.1
theorem dX10_isStill_12 : decode cX10_isStill 12 = .ok (.aload_n 0, 1) := dq_g438.2.2.2.2.2.2.2.2.1
theorem dX10_isStill_13 : decode cX10_isStill 13 = .ok (.iload_n 1, 1) := dq_g438.2.2.2.2.2.2.2.2.2.1
theorem dX10_isStill_14 : decode cX10_isStill 14 = .ok (.iload_n 2, 1) := dq_g438.2.2.2.2.2.2.2.2.2.2.1
theorem dX10_isStill_15 : decode cX10_isStill 15 = .ok (.iload_n 3, 1) := dq_g438.2.2.2.2.2.2.2.2.2.2.2.1
theorem dX10_isStill_16 : decode cX10_isStill 16 = .ok (.invokevirtual 402, 3) := dq_g438.2.2.2.2.2.2.2.2.2.2.2.2.1
theorem dX10_isStill_19 : decode cX10_isStill 19 = .ok (.aload_n 0, 1) := dq_g438.2.2.2.2.2.2.2.2.2.2.2.2.2.1
theorem dX10_isStill_20 : decode cX10_isStill 20 = .ok (.iload_n 1, 1) := dq_g438.2.2.2.2.2.2.2.2.2.2.2.2.2.2.1
theorem dX10_isStill_21 : decode cX10_isStill 21 = .ok (.iload_n 2, 1) := dq_g438.2.2.2.2.2.2.2.2.2.2.2.2.2.2.2.1
theorem dX10_isStill_22 : decode cX10_isStill 22 = .ok (.iconst 1, 1) := dq_g438.2.2.2.2.2.2.2.2.2.2.2.2.2.2.2.2.1
theorem dX10_isStill_23 : decode cX10_isStill 23 = .ok (.iadd, 1) := dq_g438.2.2.2.2.2.2.2.2.2.2.2.2.2.2.2.2.2.1
theorem dX10_isStill_24 : decode cX10_isStill 24 = .ok (.iload_n 3, 1) := dq_g438.2.2.2.2.2.2.2.2.2.2.2.2.2.2.2.2.2.2.1
theorem dX10_isStill_25 : decode cX10_isStill 25 = .ok (.invokevirtual 402, 3) := dq_g438.2.2.2.2.2.2.2.2.2.2.2.2.2.2.2.2.2.2.2.1
theorem dX10_isStill_28 : decode cX10_isStill 28 = .ok (.if_icmp .eq 7, 3) := dq_g438.2.2.2.2.2.2.2.2.2.2.2.2.2.2.2.2.2.2.2.2.1
theorem dX10_isStill_31 : decode cX10_isStill 31 = .ok (.iconst 1, 1) := dq_g438.2.2.2.2.2.2.2.2.2.2.2.2.2.2.2.2.2.2.2.2.2.1
theorem dX10_isStill_32 : decode cX10_isStill 32 = .ok (.goto 4, 3) := dq_g438.2.2.2.2.2.2.2.2.2.2.2.2.2.2.2.2.2.2.2.2.2.2.1
theorem dX10_isStill_35 : decode cX10_isStill 35 = .ok (.iconst 0, 1) := dq_g438.2.2.2.2.2.2.2.2.2.2.2.2.2.2.2.2.2.2.2.2.2.2.2.1
theorem dX10_isStill_36 : decode cX10_isStill 36 = .ok (.ireturn, 1) := dq_g438.2.2.2.2.2.2.2.2.2.2.2.2.2.2.2.2.2.2.2.2.2.2.2.2.1
theorem dq_g439 : decode cX10_stillAt 0 = .ok (.iconst 0, 1) ∧ decode cX10_stillAt 1 = .ok (.istore 4, 2) ∧ decode cX10_stillAt 3 = .ok (.iconst 0, 1) ∧ decode cX10_stillAt 4 = .ok (.istore 5, 2) ∧ decode cX10_stillAt 6 = .ok (.iload 5, 2) ∧ decode cX10_stillAt 8 = .ok (.aload_n 0, 1) ∧ decode cX10_stillAt 9 = .ok (.getfield 13, 3) ∧ decode cX10_stillAt 12 = .ok (.iload_n 1, 1) ∧ decode cX10_stillAt 13 = .ok (.iaload, 1) ∧ decode cX10_stillAt 14 = .ok (.if_icmp .ge 38, 3) ∧ decode cX10_stillAt 17 = .ok (.aload_n 0, 1) ∧ decode cX10_stillAt 18 = .ok (.iload_n 1, 1) ∧ decode cX10_stillAt 19 = .ok (.iload 5, 2) ∧ decode cX10_stillAt 21 = .ok (.iload_n 2, 1) ∧ decode cX10_stillAt 22 = .ok (.invokevirtual 405, 3) ∧ decode cX10_stillAt 25 = .ok (.ifCond .ne 6, 3) ∧ decode cX10_stillAt 28 = .ok (.goto 18, 3) ∧ decode cX10_stillAt 31 = .ok (.iload 4, 2) ∧ decode cX10_stillAt 33 = .ok (.iload_n 3, 1) ∧ decode cX10_stillAt 34 = .ok (.if_icmp .ne 6, 3) ∧ decode cX10_stillAt 37 = .ok (.iload 5, 2) ∧ decode cX10_stillAt 39 = .ok (.ireturn, 1) ∧ decode cX10_stillAt 40 = .ok (.iload 4, 2) ∧ decode cX10_stillAt 42 = .ok (.iconst 1, 1) ∧ decode cX10_stillAt 43 = .ok (.iadd, 1) ∧ decode cX10_stillAt 44 = .ok (.istore 4, 2) ∧ decode cX10_stillAt 46 = .ok (.iinc 5 1, 3) ∧ decode cX10_stillAt 49 = .ok (.goto (-43), 3) ∧ decode cX10_stillAt 52 = .ok (.iconst (-1), 1) ∧ decode cX10_stillAt 53 = .ok (.ireturn, 1) ∧ True := dqC_ok (c := cX10_stillAt) [(0, 1, some (.iconst 0)), (1, 2, some (.istore 4)), (3, 1, some (.iconst 0)), (4, 2, some (.istore 5)), (6, 2, some (.iload 5)), (8, 1, some (.aload_n 0)), (9, 3, some (.getfield 13)), (12, 1, some (.iload_n 1)), (13, 1, some (.iaload)), (14, 3, some (.if_icmp .ge 38)), (17, 1, some (.aload_n 0)), (18, 1, some (.iload_n 1)), (19, 2, some (.iload 5)), (21, 1, some (.iload_n 2)), (22, 3, some (.invokevirtual 405)), (25, 3, some (.ifCond .ne 6)), (28, 3, some (.goto 18)), (31, 2, some (.iload 4)), (33, 1, some (.iload_n 3)), (34, 3, some (.if_icmp .ne 6)), (37, 2, some (.iload 5)), (39, 1, some (.ireturn)), (40, 2, some (.iload 4)), (42, 1, some (.iconst 1)), (43, 1, some (.iadd)), (44, 2, some (.istore 4)), (46, 3, some (.iinc 5 1)), (49, 3, some (.goto (-43))), (52, 1, some (.iconst (-1))), (53, 1, some (.ireturn))] _ 0 rfl (by decide +kernel)
theorem dX10_stillAt_0 : decode cX10_stillAt 0 = .ok (.iconst 0, 1) := dq_g439.1
theorem dX10_stillAt_1 : decode cX10_stillAt 1 = .ok (.istore 4, 2) := dq_g439.2.1
theorem dX10_stillAt_3 : decode cX10_stillAt 3 = .ok (.iconst 0, 1) := dq_g439.2.2.1
theorem dX10_stillAt_4 : decode cX10_stillAt 4 = .ok (.istore 5, 2) := dq_g439.2.2.2.1
theorem dX10_stillAt_6 : decode cX10_stillAt 6 = .ok (.iload 5, 2) := dq_g439.2.2.2.2.1
theorem dX10_stillAt_8 : decode cX10_stillAt 8 = .ok (.aload_n 0, 1) := dq_g439.2.2.2.2.2.1
theorem dX10_stillAt_9 : decode cX10_stillAt 9 = .ok (.getfield 13, 3) := dq_g439.2.2.2.2.2.2.1
theorem dX10_stillAt_12 : decode cX10_stillAt 12 = .ok (.iload_n 1, 1) := dq_g439.2.2.2.2.2.2.2.1
theorem dX10_stillAt_13 : decode cX10_stillAt 13 = .ok (.iaload, 1) := dq_g439.2.2.2.2.2.2.2.2.1
theorem dX10_stillAt_14 : decode cX10_stillAt 14 = .ok (.if_icmp .ge 38, 3) := dq_g439.2.2.2.2.2.2.2.2.2.1
theorem dX10_stillAt_17 : decode cX10_stillAt 17 = .ok (.aload_n 0, 1) := dq_g439.2.2.2.2.2.2.2.2.2.2.1
theorem dX10_stillAt_18 : decode cX10_stillAt 18 = .ok (.iload_n 1, 1) := dq_g439.2.2.2.2.2.2.2.2.2.2.2.1
theorem dX10_stillAt_19 : decode cX10_stillAt 19 = .ok (.iload 5, 2) := dq_g439.2.2.2.2.2.2.2.2.2.2.2.2.1
theorem dX10_stillAt_21 : decode cX10_stillAt 21 = .ok (.iload_n 2, 1) := dq_g439.2.2.2.2.2.2.2.2.2.2.2.2.2.1
theorem dX10_stillAt_22 : decode cX10_stillAt 22 = .ok (.invokevirtual 405, 3) := dq_g439.2.2.2.2.2.2.2.2.2.2.2.2.2.2.1
theorem dX10_stillAt_25 : decode cX10_stillAt 25 = .ok (.ifCond .ne 6, 3) := dq_g439.2.2.2.2.2.2.2.2.2.2.2.2.2.2.2.1
theorem dX10_stillAt_28 : decode cX10_stillAt 28 = .ok (.goto 18, 3) := dq_g439.2.2.2.2.2.2.2.2.2.2.2.2.2.2.2.2.1
theorem dX10_stillAt_31 : decode cX10_stillAt 31 = .ok (.iload 4, 2) := dq_g439.2.2.2.2.2.2.2.2.2.2.2.2.2.2.2.2.2.1
theorem dX10_stillAt_33 : decode cX10_stillAt 33 = .ok (.iload_n 3, 1) := dq_g439.2.2.2.2.2.2.2.2.2.2.2.2.2.2.2.2.2.2.1
theorem dX10_stillAt_34 : decode cX10_stillAt 34 = .ok (.if_icmp .ne 6, 3) := dq_g439.2.2.2.2.2.2.2.2.2.2.2.2.2.2.2.2.2.2.2.1
theorem dX10_stillAt_37 : decode cX10_stillAt 37 = .ok (.iload 5, 2) := dq_g439.2.2.2.2.2.2.2.2.2.2.2.2.2.2.2.2.2.2.2.2.1
theorem dX10_stillAt_39 : decode cX10_stillAt 39 = .ok (.ireturn, 1) := dq_g439.2.2.2.2.2.2.2.2.2.2.2.2.2.2.2.2.2.2.2.2.2.1
theorem dX10_stillAt_40 : decode cX10_stillAt 40 = .ok (.iload 4, 2) := dq_g439.2.2.2.2.2.2.2.2.2.2.2.2.2.2.2.2.2.2.2.2.2.2.1
theorem dX10_stillAt_42 : decode cX10_stillAt 42 = .ok (.iconst 1, 1) := dq_g439.2.2.2.2.2.2.2.2.2.2.2.2.2.2.2.2.2.2.2.2.2.2.2.1
theorem dX10_stillAt_43 : decode cX10_stillAt 43 = .ok (.iadd, 1) := dq_g439.2.2.2.2.2.2.2.2.2.2.2.2.2.2.2.2.2.2.2.2.2.2.2.2.1
theorem dX10_stillAt_44 : decode cX10_stillAt 44 = .ok (.istore 4, 2) := dq_g439.2.2.2.2.2.2.2.2.2.2.2.2.2.2.2.2.2.2.2.2.2.2.2.2.2.1
theorem dX10_stillAt_46 : decode cX10_stillAt 46 = .ok (.iinc 5 1, 3) := dq_g439.2.2.2.2.2.2.2.2.2.2.2.2.2.2.2.2.2.2.2.2.2.2.2.2.2.2.1
theorem dX10_stillAt_49 : decode cX10_stillAt 49 = .ok (.goto (-43), 3) := dq_g439.2.2.2.2.2.2.2.2.2.2.2.2.2.2.2.2.2.2.2.2.2.2.2.2.2.2.2.1
theorem dX10_stillAt_52 : decode cX10_stillAt 52 = .ok (.iconst (-1), 1) := dq_g439.2.2.2.2.2.2.2.2.2.2.2.2.2.2.2.2.2.2.2.2.2.2.2.2.2.2.2.2.1
theorem dX10_stillAt_53 : decode cX10_stillAt 53 = .ok (.ireturn, 1) := dq_g439.2.2.2.2.2.2.2.2.2.2.2.2.2.2.2.2.2.2.2.2.2.2.2.2.2.2.2.2.2.1
theorem dq_g440 : decode cX10_stills 0 = .ok (.iconst 0, 1) ∧ decode cX10_stills 1 = .ok (.istore_n 3, 1) ∧ decode cX10_stills 2 = .ok (.iconst 0, 1) ∧ decode cX10_stills 3 = .ok (.istore 4, 2) ∧ decode cX10_stills 5 = .ok (.iload 4, 2) ∧ decode cX10_stills 7 = .ok (.aload_n 0, 1) ∧ decode cX10_stills 8 = .ok (.getfield 13, 3) ∧ decode cX10_stills 11 = .ok (.iload_n 1, 1) ∧ decode cX10_stills 12 = .ok (.iaload, 1) ∧ decode cX10_stills 13 = .ok (.if_icmp .ge 24, 3) ∧ decode cX10_stills 16 = .ok (.aload_n 0, 1) ∧ decode cX10_stills 17 = .ok (.iload_n 1, 1) ∧ decode cX10_stills 18 = .ok (.iload 4, 2) ∧ decode cX10_stills 20 = .ok (.iload_n 2, 1) ∧ decode cX10_stills 21 = .ok (.invokevirtual 405, 3) ∧ decode cX10_stills 24 = .ok (.ifCond .eq 7, 3) ∧ decode cX10_stills 27 = .ok (.iload_n 3, 1) ∧ decode cX10_stills 28 = .ok (.iconst 1, 1) ∧ decode cX10_stills 29 = .ok (.iadd, 1) ∧ decode cX10_stills 30 = .ok (.istore_n 3, 1) ∧ decode cX10_stills 31 = .ok (.iinc 4 1, 3) ∧ decode cX10_stills 34 = .ok (.goto (-29), 3) ∧ decode cX10_stills 37 = .ok (.iload_n 3, 1) ∧ decode cX10_stills 38 = .ok (.ireturn, 1) ∧ True := dqC_ok (c := cX10_stills) [(0, 1, some (.iconst 0)), (1, 1, some (.istore_n 3)), (2, 1, some (.iconst 0)), (3, 2, some (.istore 4)), (5, 2, some (.iload 4)), (7, 1, some (.aload_n 0)), (8, 3, some (.getfield 13)), (11, 1, some (.iload_n 1)), (12, 1, some (.iaload)), (13, 3, some (.if_icmp .ge 24)), (16, 1, some (.aload_n 0)), (17, 1, some (.iload_n 1)), (18, 2, some (.iload 4)), (20, 1, some (.iload_n 2)), (21, 3, some (.invokevirtual 405)), (24, 3, some (.ifCond .eq 7)), (27, 1, some (.iload_n 3)), (28, 1, some (.iconst 1)), (29, 1, some (.iadd)), (30, 1, some (.istore_n 3)), (31, 3, some (.iinc 4 1)), (34, 3, some (.goto (-29))), (37, 1, some (.iload_n 3)), (38, 1, some (.ireturn))] _ 0 rfl (by decide +kernel)
theorem dX10_stills_0 : decode cX10_stills 0 = .ok (.iconst 0, 1) := dq_g440.1
theorem dX10_stills_1 : decode cX10_stills 1 = .ok (.istore_n 3, 1) := dq_g440.2.1
theorem dX10_stills_2 : decode cX10_stills 2 = .ok (.iconst 0, 1) := dq_g440.2.2.1
theorem dX10_stills_3 : decode cX10_stills 3 = .ok (.istore 4, 2) := dq_g440.2.2.2.1
theorem dX10_stills_5 : decode cX10_stills 5 = .ok (.iload 4, 2) := dq_g440.2.2.2.2.1
theorem dX10_stills_7 : decode cX10_stills 7 = .ok (.aload_n 0, 1) := dq_g440.2.2.2.2.2.1
theorem dX10_stills_8 : decode cX10_stills 8 = .ok (.getfield 13, 3) := dq_g440.2.2.2.2.2.2.1
theorem dX10_stills_11 : decode cX10_stills 11 = .ok (.iload_n 1, 1) := dq_g440.2.2.2.2.2.2.2.1
theorem dX10_stills_12 : decode cX10_stills 12 = .ok (.iaload, 1) := dq_g440.2.2.2.2.2.2.2.2.1
theorem dX10_stills_13 : decode cX10_stills 13 = .ok (.if_icmp .ge 24, 3) := dq_g440.2.2.2.2.2.2.2.2.2.1
theorem dX10_stills_16 : decode cX10_stills 16 = .ok (.aload_n 0, 1) := dq_g440.2.2.2.2.2.2.2.2.2.2.1
theorem dX10_stills_17 : decode cX10_stills 17 = .ok (.iload_n 1, 1) := dq_g440.2.2.2.2.2.2.2.2.2.2.2.1
theorem dX10_stills_18 : decode cX10_stills 18 = .ok (.iload 4, 2) := dq_g440.2.2.2.2.2.2.2.2.2.2.2.2.1
theorem dX10_stills_20 : decode cX10_stills 20 = .ok (.iload_n 2, 1) := dq_g440.2.2.2.2.2.2.2.2.2.2.2.2.2.1
theorem dX10_stills_21 : decode cX10_stills 21 = .ok (.invokevirtual 405, 3) := dq_g440.2.2.2.2.2.2.2.2.2.2.2.2.2.2.1
theorem dX10_stills_24 : decode cX10_stills 24 = .ok (.ifCond .eq 7, 3) := dq_g440.2.2.2.2.2.2.2.2.2.2.2.2.2.2.2.1
theorem dX10_stills_27 : decode cX10_stills 27 = .ok (.iload_n 3, 1) := dq_g440.2.2.2.2.2.2.2.2.2.2.2.2.2.2.2.2.1
theorem dX10_stills_28 : decode cX10_stills 28 = .ok (.iconst 1, 1) := dq_g440.2.2.2.2.2.2.2.2.2.2.2.2.2.2.2.2.2.1
theorem dX10_stills_29 : decode cX10_stills 29 = .ok (.iadd, 1) := dq_g440.2.2.2.2.2.2.2.2.2.2.2.2.2.2.2.2.2.2.1
theorem dX10_stills_30 : decode cX10_stills 30 = .ok (.istore_n 3, 1) := dq_g440.2.2.2.2.2.2.2.2.2.2.2.2.2.2.2.2.2.2.2.1
theorem dX10_stills_31 : decode cX10_stills 31 = .ok (.iinc 4 1, 3) := dq_g440.2.2.2.2.2.2.2.2.2.2.2.2.2.2.2.2.2.2.2.2.1
theorem dX10_stills_34 : decode cX10_stills 34 = .ok (.goto (-29), 3) := dq_g440.2.2.2.2.2.2.2.2.2.2.2.2.2.2.2.2.2.2.2.2.2.1
theorem dX10_stills_37 : decode cX10_stills 37 = .ok (.iload_n 3, 1) := dq_g440.2.2.2.2.2.2.2.2.2.2.2.2.2.2.2.2.2.2.2.2.2.2.1
theorem dX10_stills_38 : decode cX10_stills 38 = .ok (.ireturn, 1) := dq_g440.2.2.2.2.2.2.2.2.2.2.2.2.2.2.2.2.2.2.2.2.2.2.2.1
theorem dq_g441 : decode cX10_still 0 = .ok (.aload_n 0, 1) ∧ decode cX10_still 1 = .ok (.iconst 0, 1) ∧ decode cX10_still 2 = .ok (.putfield 167, 3) ∧ decode cX10_still 5 = .ok (.aload_n 0, 1) ∧ decode cX10_still 6 = .ok (.iload_n 1, 1) ∧ decode cX10_still 7 = .ok (.invokevirtual 173, 3) ∧ decode cX10_still 10 = .ok (.ifCond .eq 15, 3) ∧ decode cX10_still 13 = .ok (.aload_n 0, 1) ∧ decode cX10_still 14 = .ok (.iload_n 2, 1) ∧ decode cX10_still 15 = .ok (.invokevirtual 331, 3) ∧ decode cX10_still 18 = .ok (.ifCond .eq 7, 3) ∧ decode cX10_still 21 = .ok (.iload_n 3, 1) ∧ decode cX10_still 22 = .ok (.ifCond .ge 5, 3) ∧ decode cX10_still 25 = .ok (.iconst (-1), 1) ∧ decode cX10_still 26 = .ok (.ireturn, 1) ∧ decode cX10_still 27 = .ok (.iload_n 3, 1) ∧ decode cX10_still 28 = .ok (.ifCond .ne 12, 3) ∧ decode cX10_still 31 = .ok (.aload_n 0, 1) ∧ decode cX10_still 32 = .ok (.iload_n 1, 1) ∧ decode cX10_still 33 = .ok (.iload_n 2, 1) ∧ decode cX10_still 34 = .ok (.invokevirtual 408, 3) ∧ decode cX10_still 37 = .ok (.goto 12, 3) ∧ decode cX10_still 40 = .ok (.aload_n 0, 1) ∧ decode cX10_still 41 = .ok (.iload_n 1, 1) ∧ decode cX10_still 42 = .ok (.iload_n 2, 1) ∧ decode cX10_still 43 = .ok (.iload_n 3, 1) ∧ decode cX10_still 44 = .ok (.iconst 1, 1) ∧ decode cX10_still 45 = .ok (.isub, 1) ∧ decode cX10_still 46 = .ok (.invokevirtual 411, 3) ∧ decode cX10_still 49 = .ok (.ireturn, 1) ∧ True := dqC_ok (c := cX10_still) [(0, 1, some (.aload_n 0)), (1, 1, some (.iconst 0)), (2, 3, some (.putfield 167)), (5, 1, some (.aload_n 0)), (6, 1, some (.iload_n 1)), (7, 3, some (.invokevirtual 173)), (10, 3, some (.ifCond .eq 15)), (13, 1, some (.aload_n 0)), (14, 1, some (.iload_n 2)), (15, 3, some (.invokevirtual 331)), (18, 3, some (.ifCond .eq 7)), (21, 1, some (.iload_n 3)), (22, 3, some (.ifCond .ge 5)), (25, 1, some (.iconst (-1))), (26, 1, some (.ireturn)), (27, 1, some (.iload_n 3)), (28, 3, some (.ifCond .ne 12)), (31, 1, some (.aload_n 0)), (32, 1, some (.iload_n 1)), (33, 1, some (.iload_n 2)), (34, 3, some (.invokevirtual 408)), (37, 3, some (.goto 12)), (40, 1, some (.aload_n 0)), (41, 1, some (.iload_n 1)), (42, 1, some (.iload_n 2)), (43, 1, some (.iload_n 3)), (44, 1, some (.iconst 1)), (45, 1, some (.isub)), (46, 3, some (.invokevirtual 411)), (49, 1, some (.ireturn))] _ 0 rfl (by decide +kernel)
theorem dX10_still_0 : decode cX10_still 0 = .ok (.aload_n 0, 1) := dq_g441.1
theorem dX10_still_1 : decode cX10_still 1 = .ok (.iconst 0, 1) := dq_g441.2.1
theorem dX10_still_2 : decode cX10_still 2 = .ok (.putfield 167, 3) := dq_g441.2.2.1
theorem dX10_still_5 : decode cX10_still 5 = .ok (.aload_n 0, 1) := dq_g441.2.2.2.1
theorem dX10_still_6 : decode cX10_still 6 = .ok (.iload_n 1, 1) := dq_g441.2.2.2.2.1
theorem dX10_still_7 : decode cX10_still 7 = .ok (.invokevirtual 173, 3) := dq_g441.2.2.2.2.2.1
theorem dX10_still_10 : decode cX10_still 10 = .ok (.ifCond .eq 15, 3) := dq_g441.2.2.2.2.2.2.1
theorem dX10_still_13 : decode cX10_still 13 = .ok (.aload_n 0, 1) := dq_g441.2.2.2.2.2.2.2.1
theorem dX10_still_14 : decode cX10_still 14 = .ok (.iload_n 2, 1) := dq_g441.2.2.2.2.2.2.2.2.1
theorem dX10_still_15 : decode cX10_still 15 = .ok (.invokevirtual 331, 3) := dq_g441.2.2.2.2.2.2.2.2.2.1
theorem dX10_still_18 : decode cX10_still 18 = .ok (.ifCond .eq 7, 3) := dq_g441.2.2.2.2.2.2.2.2.2.2.1
theorem dX10_still_21 : decode cX10_still 21 = .ok (.iload_n 3, 1) := dq_g441.2.2.2.2.2.2.2.2.2.2.2.1
theorem dX10_still_22 : decode cX10_still 22 = .ok (.ifCond .ge 5, 3) := dq_g441.2.2.2.2.2.2.2.2.2.2.2.2.1
theorem dX10_still_25 : decode cX10_still 25 = .ok (.iconst (-1), 1) := dq_g441.2.2.2.2.2.2.2.2.2.2.2.2.2.1
theorem dX10_still_26 : decode cX10_still 26 = .ok (.ireturn, 1) := dq_g441.2.2.2.2.2.2.2.2.2.2.2.2.2.2.1
theorem dX10_still_27 : decode cX10_still 27 = .ok (.iload_n 3, 1) := dq_g441.2.2.2.2.2.2.2.2.2.2.2.2.2.2.2.1
theorem dX10_still_28 : decode cX10_still 28 = .ok (.ifCond .ne 12, 3) := dq_g441.2.2.2.2.2.2.2.2.2.2.2.2.2.2.2.2.1
theorem dX10_still_31 : decode cX10_still 31 = .ok (.aload_n 0, 1) := dq_g441.2.2.2.2.2.2.2.2.2.2.2.2.2.2.2.2.2.1
theorem dX10_still_32 : decode cX10_still 32 = .ok (.iload_n 1, 1) := dq_g441.2.2.2.2.2.2.2.2.2.2.2.2.2.2.2.2.2.2.1
theorem dX10_still_33 : decode cX10_still 33 = .ok (.iload_n 2, 1) := dq_g441.2.2.2.2.2.2.2.2.2.2.2.2.2.2.2.2.2.2.2.1
theorem dX10_still_34 : decode cX10_still 34 = .ok (.invokevirtual 408, 3) := dq_g441.2.2.2.2.2.2.2.2.2.2.2.2.2.2.2.2.2.2.2.2.1
theorem dX10_still_37 : decode cX10_still 37 = .ok (.goto 12, 3) := dq_g441.2.2.2.2.2.2.2.2.2.2.2.2.2.2.2.2.2.2.2.2.2.1
theorem dX10_still_40 : decode cX10_still 40 = .ok (.aload_n 0, 1) := dq_g441.2.2.2.2.2.2.2.2.2.2.2.2.2.2.2.2.2.2.2.2.2.2.1
theorem dX10_still_41 : decode cX10_still 41 = .ok (.iload_n 1, 1) := dq_g441.2.2.2.2.2.2.2.2.2.2.2.2.2.2.2.2.2.2.2.2.2.2.2.1
theorem dX10_still_42 : decode cX10_still 42 = .ok (.iload_n 2, 1) := dq_g441.2.2.2.2.2.2.2.2.2.2.2.2.2.2.2.2.2.2.2.2.2.2.2.2.1
theorem dX10_still_43 : decode cX10_still 43 = .ok (.iload_n 3, 1) := dq_g441.2.2.2.2.2.2.2.2.2.2.2.2.2.2.2.2.2.2.2.2.2.2.2.2.2.1
theorem dX10_still_44 : decode cX10_still 44 = .ok (.iconst 1, 1) := dq_g441.2.2.2.2.2.2.2.2.2.2.2.2.2.2.2.2.2.2.2.2.2.2.2.2.2.2.1
theorem dX10_still_45 : decode cX10_still 45 = .ok (.isub, 1) := dq_g441.2.2.2.2.2.2.2.2.2.2.2.2.2.2.2.2.2.2.2.2.2.2.2.2.2.2.2.1
theorem dX10_still_46 : decode cX10_still 46 = .ok (.invokevirtual 411, 3) := dq_g441.2.2.2.2.2.2.2.2.2.2.2.2.2.2.2.2.2.2.2.2.2.2.2.2.2.2.2.2.1
theorem dX10_still_49 : decode cX10_still 49 = .ok (.ireturn, 1) := dq_g441.2.2.2.2.2.2.2.2.2.2.2.2.2.2.2.2.2.2.2.2.2.2.2.2.2.2.2.2.2.1
theorem dq_g442 : decode cX10_holes 0 = .ok (.aload_n 0, 1) ∧ decode cX10_holes 1 = .ok (.iconst 0, 1) ∧ decode cX10_holes 2 = .ok (.putfield 167, 3) ∧ decode cX10_holes 5 = .ok (.aload_n 0, 1) ∧ decode cX10_holes 6 = .ok (.iload_n 1, 1) ∧ decode cX10_holes 7 = .ok (.iload_n 2, 1) ∧ decode cX10_holes 8 = .ok (.invokevirtual 181, 3) ∧ decode cX10_holes 11 = .ok (.ifCond .eq 17, 3) ∧ decode cX10_holes 14 = .ok (.aload_n 0, 1) ∧ decode cX10_holes 15 = .ok (.iload_n 1, 1) ∧ decode cX10_holes 16 = .ok (.iload_n 3, 1) ∧ decode cX10_holes 17 = .ok (.invokevirtual 181, 3) ∧ decode cX10_holes 20 = .ok (.ifCond .eq 8, 3) ∧ decode cX10_holes 23 = .ok (.iload_n 2, 1) ∧ decode cX10_holes 24 = .ok (.iload_n 3, 1) ∧ decode cX10_holes 25 = .ok (.if_icmp .lt 5, 3) ∧ decode cX10_holes 28 = .ok (.iconst 0, 1) ∧ decode cX10_holes 29 = .ok (.ireturn, 1) ∧ decode cX10_holes 30 = .ok (.aload_n 0, 1) ∧ decode cX10_holes 31 = .ok (.getfield 44, 3) ∧ decode cX10_holes 34 = .ok (.iload_n 1, 1) ∧ decode cX10_holes 35 = .ok (.iload_n 2, 1) ∧ decode cX10_holes 36 = .ok (.iastore, 1) ∧ decode cX10_holes 37 = .ok (.aload_n 0, 1) ∧ decode cX10_holes 38 = .ok (.getfield 47, 3) ∧ decode cX10_holes 41 = .ok (.iload_n 1, 1) ∧ decode cX10_holes 42 = .ok (.iload_n 3, 1) ∧ decode cX10_holes 43 = .ok (.iastore, 1) ∧ decode cX10_holes 44 = .ok (.iconst 1, 1) ∧ decode cX10_holes 45 = .ok (.ireturn, 1) ∧ True := dqC_ok (c := cX10_holes) [(0, 1, some (.aload_n 0)), (1, 1, some (.iconst 0)), (2, 3, some (.putfield 167)), (5, 1, some (.aload_n 0)), (6, 1, some (.iload_n 1)), (7, 1, some (.iload_n 2)), (8, 3, some (.invokevirtual 181)), (11, 3, some (.ifCond .eq 17)), (14, 1, some (.aload_n 0)), (15, 1, some (.iload_n 1)), (16, 1, some (.iload_n 3)), (17, 3, some (.invokevirtual 181)), (20, 3, some (.ifCond .eq 8)), (23, 1, some (.iload_n 2)), (24, 1, some (.iload_n 3)), (25, 3, some (.if_icmp .lt 5)), (28, 1, some (.iconst 0)), (29, 1, some (.ireturn)), (30, 1, some (.aload_n 0)), (31, 3, some (.getfield 44)), (34, 1, some (.iload_n 1)), (35, 1, some (.iload_n 2)), (36, 1, some (.iastore)), (37, 1, some (.aload_n 0)), (38, 3, some (.getfield 47)), (41, 1, some (.iload_n 1)), (42, 1, some (.iload_n 3)), (43, 1, some (.iastore)), (44, 1, some (.iconst 1)), (45, 1, some (.ireturn))] _ 0 rfl (by decide +kernel)
theorem dX10_holes_0 : decode cX10_holes 0 = .ok (.aload_n 0, 1) := dq_g442.1
theorem dX10_holes_1 : decode cX10_holes 1 = .ok (.iconst 0, 1) := dq_g442.2.1
theorem dX10_holes_2 : decode cX10_holes 2 = .ok (.putfield 167, 3) := dq_g442.2.2.1
theorem dX10_holes_5 : decode cX10_holes 5 = .ok (.aload_n 0, 1) := dq_g442.2.2.2.1
theorem dX10_holes_6 : decode cX10_holes 6 = .ok (.iload_n 1, 1) := dq_g442.2.2.2.2.1
theorem dX10_holes_7 : decode cX10_holes 7 = .ok (.iload_n 2, 1) := dq_g442.2.2.2.2.2.1
theorem dX10_holes_8 : decode cX10_holes 8 = .ok (.invokevirtual 181, 3) := dq_g442.2.2.2.2.2.2.1
theorem dX10_holes_11 : decode cX10_holes 11 = .ok (.ifCond .eq 17, 3) := dq_g442.2.2.2.2.2.2.2.1
theorem dX10_holes_14 : decode cX10_holes 14 = .ok (.aload_n 0, 1) := dq_g442.2.2.2.2.2.2.2.2.1
theorem dX10_holes_15 : decode cX10_holes 15 = .ok (.iload_n 1, 1) := dq_g442.2.2.2.2.2.2.2.2.2.1
theorem dX10_holes_16 : decode cX10_holes 16 = .ok (.iload_n 3, 1) := dq_g442.2.2.2.2.2.2.2.2.2.2.1
theorem dX10_holes_17 : decode cX10_holes 17 = .ok (.invokevirtual 181, 3) := dq_g442.2.2.2.2.2.2.2.2.2.2.2.1
theorem dX10_holes_20 : decode cX10_holes 20 = .ok (.ifCond .eq 8, 3) := dq_g442.2.2.2.2.2.2.2.2.2.2.2.2.1
theorem dX10_holes_23 : decode cX10_holes 23 = .ok (.iload_n 2, 1) := dq_g442.2.2.2.2.2.2.2.2.2.2.2.2.2.1
theorem dX10_holes_24 : decode cX10_holes 24 = .ok (.iload_n 3, 1) := dq_g442.2.2.2.2.2.2.2.2.2.2.2.2.2.2.1
theorem dX10_holes_25 : decode cX10_holes 25 = .ok (.if_icmp .lt 5, 3) := dq_g442.2.2.2.2.2.2.2.2.2.2.2.2.2.2.2.1
theorem dX10_holes_28 : decode cX10_holes 28 = .ok (.iconst 0, 1) := dq_g442.2.2.2.2.2.2.2.2.2.2.2.2.2.2.2.2.1
theorem dX10_holes_29 : decode cX10_holes 29 = .ok (.ireturn, 1) := dq_g442.2.2.2.2.2.2.2.2.2.2.2.2.2.2.2.2.2.1
theorem dX10_holes_30 : decode cX10_holes 30 = .ok (.aload_n 0, 1) := dq_g442.2.2.2.2.2.2.2.2.2.2.2.2.2.2.2.2.2.2.1
theorem dX10_holes_31 : decode cX10_holes 31 = .ok (.getfield 44, 3) := dq_g442.2.2.2.2.2.2.2.2.2.2.2.2.2.2.2.2.2.2.2.1
theorem dX10_holes_34 : decode cX10_holes 34 = .ok (.iload_n 1, 1) := dq_g442.2.2.2.2.2.2.2.2.2.2.2.2.2.2.2.2.2.2.2.2.1
theorem dX10_holes_35 : decode cX10_holes 35 = .ok (.iload_n 2, 1) := dq_g442.2.2.2.2.2.2.2.2.2.2.2.2.2.2.2.2.2.2.2.2.2.1
theorem dX10_holes_36 : decode cX10_holes 36 = .ok (.iastore, 1) := dq_g442.2.2.2.2.2.2.2.2.2.2.2.2.2.2.2.2.2.2.2.2.2.2.1
theorem dX10_holes_37 : decode cX10_holes 37 = .ok (.aload_n 0, 1) := dq_g442.2.2.2.2.2.2.2.2.2.2.2.2.2.2.2.2.2.2.2.2.2.2.2.1
theorem dX10_holes_38 : decode cX10_holes 38 = .ok (.getfield 47, 3) := dq_g442.2.2.2.2.2.2.2.2.2.2.2.2.2.2.2.2.2.2.2.2.2.2.2.2.1
theorem dX10_holes_41 : decode cX10_holes 41 = .ok (.iload_n 1, 1) := dq_g442.2.2.2.2.2.2.2.2.2.2.2.2.2.2.2.2.2.2.2.2.2.2.2.2.2.1
theorem dX10_holes_42 : decode cX10_holes 42 = .ok (.iload_n 3, 1) := dq_g442.2.2.2.2.2.2.2.2.2.2.2.2.2.2.2.2.2.2.2.2.2.2.2.2.2.2.1
theorem dX10_holes_43 : decode cX10_holes 43 = .ok (.iastore, 1) := dq_g442.2.2.2.2.2.2.2.2.2.2.2.2.2.2.2.2.2.2.2.2.2.2.2.2.2.2.2.1
theorem dX10_holes_44 : decode cX10_holes 44 = .ok (.iconst 1, 1) := dq_g442.2.2.2.2.2.2.2.2.2.2.2.2.2.2.2.2.2.2.2.2.2.2.2.2.2.2.2.2.1
theorem dX10_holes_45 : decode cX10_holes 45 = .ok (.ireturn, 1) := dq_g442.2.2.2.2.2.2.2.2.2.2.2.2.2.2.2.2.2.2.2.2.2.2.2.2.2.2.2.2.2.1
theorem dq_g443 : decode cX10_amiss 0 = .ok (.aload_n 0, 1) ∧ decode cX10_amiss 1 = .ok (.iload_n 1, 1) ∧ decode cX10_amiss 2 = .ok (.iconst 0, 1) ∧ decode cX10_amiss 3 = .ok (.invokevirtual 408, 3) ∧ decode cX10_amiss 6 = .ok (.istore_n 2, 1) ∧ decode cX10_amiss 7 = .ok (.aload_n 0, 1) ∧ decode cX10_amiss 8 = .ok (.getfield 44, 3) ∧ decode cX10_amiss 11 = .ok (.iload_n 1, 1) ∧ decode cX10_amiss 12 = .ok (.iaload, 1) ∧ decode cX10_amiss 13 = .ok (.iconst (-1), 1) ∧ decode cX10_amiss 14 = .ok (.if_icmp .eq 7, 3) ∧ decode cX10_amiss 17 = .ok (.iload_n 2, 1) ∧ decode cX10_amiss 18 = .ok (.ifCond .ne 5, 3) ∧ decode cX10_amiss 21 = .ok (.iconst (-1), 1) ∧ decode cX10_amiss 22 = .ok (.ireturn, 1) ∧ decode cX10_amiss 23 = .ok (.aload_n 0, 1) ∧ decode cX10_amiss 24 = .ok (.aload_n 0, 1) ∧ decode cX10_amiss 25 = .ok (.getfield 44, 3) ∧ decode cX10_amiss 28 = .ok (.iload_n 1, 1) ∧ decode cX10_amiss 29 = .ok (.iaload, 1) ∧ decode cX10_amiss 30 = .ok (.aload_n 0, 1) ∧ decode cX10_amiss 31 = .ok (.iload_n 1, 1) ∧ decode cX10_amiss 32 = .ok (.iconst 0, 1) ∧ decode cX10_amiss 33 = .ok (.iconst 0, 1) ∧ decode cX10_amiss 34 = .ok (.invokevirtual 411, 3) ∧ decode cX10_amiss 37 = .ok (.isub, 1) ∧ decode cX10_amiss 38 = .ok (.invokevirtual 309, 3) ∧ decode cX10_amiss 41 = .ok (.aload_n 0, 1) ∧ decode cX10_amiss 42 = .ok (.aload_n 0, 1) ∧ decode cX10_amiss 43 = .ok (.getfield 47, 3) ∧ True := dqC_ok (c := cX10_amiss) [(0, 1, some (.aload_n 0)), (1, 1, some (.iload_n 1)), (2, 1, some (.iconst 0)), (3, 3, some (.invokevirtual 408)), (6, 1, some (.istore_n 2)), (7, 1, some (.aload_n 0)), (8, 3, some (.getfield 44)), (11, 1, some (.iload_n 1)), (12, 1, some (.iaload)), (13, 1, some (.iconst (-1))), (14, 3, some (.if_icmp .eq 7)), (17, 1, some (.iload_n 2)), (18, 3, some (.ifCond .ne 5)), (21, 1, some (.iconst (-1))), (22, 1, some (.ireturn)), (23, 1, some (.aload_n 0)), (24, 1, some (.aload_n 0)), (25, 3, some (.getfield 44)), (28, 1, some (.iload_n 1)), (29, 1, some (.iaload)), (30, 1, some (.aload_n 0)), (31, 1, some (.iload_n 1)), (32, 1, some (.iconst 0)), (33, 1, some (.iconst 0)), (34, 3, some (.invokevirtual 411)), (37, 1, some (.isub)), (38, 3, some (.invokevirtual 309)), (41, 1, some (.aload_n 0)), (42, 1, some (.aload_n 0)), (43, 3, some (.getfield 47))] _ 0 rfl (by decide +kernel)
theorem dX10_amiss_0 : decode cX10_amiss 0 = .ok (.aload_n 0, 1) := dq_g443.1
theorem dX10_amiss_1 : decode cX10_amiss 1 = .ok (.iload_n 1, 1) := dq_g443.2.1
theorem dX10_amiss_2 : decode cX10_amiss 2 = .ok (.iconst 0, 1) := dq_g443.2.2.1
theorem dX10_amiss_3 : decode cX10_amiss 3 = .ok (.invokevirtual 408, 3) := dq_g443.2.2.2.1
theorem dX10_amiss_6 : decode cX10_amiss 6 = .ok (.istore_n 2, 1) := dq_g443.2.2.2.2.1
theorem dX10_amiss_7 : decode cX10_amiss 7 = .ok (.aload_n 0, 1) := dq_g443.2.2.2.2.2.1
theorem dX10_amiss_8 : decode cX10_amiss 8 = .ok (.getfield 44, 3) := dq_g443.2.2.2.2.2.2.1
theorem dX10_amiss_11 : decode cX10_amiss 11 = .ok (.iload_n 1, 1) := dq_g443.2.2.2.2.2.2.2.1
theorem dX10_amiss_12 : decode cX10_amiss 12 = .ok (.iaload, 1) := dq_g443.2.2.2.2.2.2.2.2.1
theorem dX10_amiss_13 : decode cX10_amiss 13 = .ok (.iconst (-1), 1) := dq_g443.2.2.2.2.2.2.2.2.2.1
theorem dX10_amiss_14 : decode cX10_amiss 14 = .ok (.if_icmp .eq 7, 3) := dq_g443.2.2.2.2.2.2.2.2.2.2.1
theorem dX10_amiss_17 : decode cX10_amiss 17 = .ok (.iload_n 2, 1) := dq_g443.2.2.2.2.2.2.2.2.2.2.2.1
theorem dX10_amiss_18 : decode cX10_amiss 18 = .ok (.ifCond .ne 5, 3) := dq_g443.2.2.2.2.2.2.2.2.2.2.2.2.1
theorem dX10_amiss_21 : decode cX10_amiss 21 = .ok (.iconst (-1), 1) := dq_g443.2.2.2.2.2.2.2.2.2.2.2.2.2.1
theorem dX10_amiss_22 : decode cX10_amiss 22 = .ok (.ireturn, 1) := dq_g443.2.2.2.2.2.2.2.2.2.2.2.2.2.2.1
theorem dX10_amiss_23 : decode cX10_amiss 23 = .ok (.aload_n 0, 1) := dq_g443.2.2.2.2.2.2.2.2.2.2.2.2.2.2.2.1
theorem dX10_amiss_24 : decode cX10_amiss 24 = .ok (.aload_n 0, 1) := dq_g443.2.2.2.2.2.2.2.2.2.2.2.2.2.2.2.2.1
theorem dX10_amiss_25 : decode cX10_amiss 25 = .ok (.getfield 44, 3) := dq_g443.2.2.2.2.2.2.2.2.2.2.2.2.2.2.2.2.2.1
theorem dX10_amiss_28 : decode cX10_amiss 28 = .ok (.iload_n 1, 1) := dq_g443.2.2.2.2.2.2.2.2.2.2.2.2.2.2.2.2.2.2.1
theorem dX10_amiss_29 : decode cX10_amiss 29 = .ok (.iaload, 1) := dq_g443.2.2.2.2.2.2.2.2.2.2.2.2.2.2.2.2.2.2.2.1
theorem dX10_amiss_30 : decode cX10_amiss 30 = .ok (.aload_n 0, 1) := dq_g443.2.2.2.2.2.2.2.2.2.2.2.2.2.2.2.2.2.2.2.2.1
theorem dX10_amiss_31 : decode cX10_amiss 31 = .ok (.iload_n 1, 1) := dq_g443.2.2.2.2.2.2.2.2.2.2.2.2.2.2.2.2.2.2.2.2.2.1
theorem dX10_amiss_32 : decode cX10_amiss 32 = .ok (.iconst 0, 1) := dq_g443.2.2.2.2.2.2.2.2.2.2.2.2.2.2.2.2.2.2.2.2.2.2.1
theorem dX10_amiss_33 : decode cX10_amiss 33 = .ok (.iconst 0, 1) := dq_g443.2.2.2.2.2.2.2.2.2.2.2.2.2.2.2.2.2.2.2.2.2.2.2.1
theorem dX10_amiss_34 : decode cX10_amiss 34 = .ok (.invokevirtual 411, 3) := dq_g443.2.2.2.2.2.2.2.2.2.2.2.2.2.2.2.2.2.2.2.2.2.2.2.2.1
theorem dX10_amiss_37 : decode cX10_amiss 37 = .ok (.isub, 1) := dq_g443.2.2.2.2.2.2.2.2.2.2.2.2.2.2.2.2.2.2.2.2.2.2.2.2.2.1
theorem dX10_amiss_38 : decode cX10_amiss 38 = .ok (.invokevirtual 309, 3) := dq_g443.2.2.2.2.2.2.2.2.2.2.2.2.2.2.2.2.2.2.2.2.2.2.2.2.2.2.1
theorem dX10_amiss_41 : decode cX10_amiss 41 = .ok (.aload_n 0, 1) := dq_g443.2.2.2.2.2.2.2.2.2.2.2.2.2.2.2.2.2.2.2.2.2.2.2.2.2.2.2.1
theorem dX10_amiss_42 : decode cX10_amiss 42 = .ok (.aload_n 0, 1) := dq_g443.2.2.2.2.2.2.2.2.2.2.2.2.2.2.2.2.2.2.2.2.2.2.2.2.2.2.2.2.1
theorem dX10_amiss_43 : decode cX10_amiss 43 = .ok (.getfield 47, 3) := dq_g443.2.2.2.2.2.2.2.2.2.2.2.2.2.2.2.2.2.2.2.2.2.2.2.2.2.2.2.2.2.1
theorem dq_g444 : decode cX10_amiss 46 = .ok (.iload_n 1, 1) ∧ decode cX10_amiss 47 = .ok (.iaload, 1) ∧ decode cX10_amiss 48 = .ok (.aload_n 0, 1) ∧ decode cX10_amiss 49 = .ok (.iload_n 1, 1) ∧ decode cX10_amiss 50 = .ok (.iconst 0, 1) ∧ decode cX10_amiss 51 = .ok (.iload_n 2, 1) ∧ decode cX10_amiss 52 = .ok (.iconst 1, 1) ∧ decode cX10_amiss 53 = .ok (.isub, 1) ∧ decode cX10_amiss 54 = .ok (.invokevirtual 411, 3) ∧ decode cX10_amiss 57 = .ok (.isub, 1) ∧ decode cX10_amiss 58 = .ok (.invokevirtual 309, 3) ∧ decode cX10_amiss 61 = .ok (.iadd, 1) ∧ decode cX10_amiss 62 = .ok (.ireturn, 1) ∧ True := dqC_ok (c := cX10_amiss) [(46, 1, some (.iload_n 1)), (47, 1, some (.iaload)), (48, 1, some (.aload_n 0)), (49, 1, some (.iload_n 1)), (50, 1, some (.iconst 0)), (51, 1, some (.iload_n 2)), (52, 1, some (.iconst 1)), (53, 1, some (.isub)), (54, 3, some (.invokevirtual 411)), (57, 1, some (.isub)), (58, 3, some (.invokevirtual 309)), (61, 1, some (.iadd)), (62, 1, some (.ireturn))] _ 46 rfl (by decide +kernel)
theorem dX10_amiss_46 : decode cX10_amiss 46 = .ok (.iload_n 1, 1) := dq_g444.1
theorem dX10_amiss_47 : decode cX10_amiss 47 = .ok (.iaload, 1) := dq_g444.2.1
theorem dX10_amiss_48 : decode cX10_amiss 48 = .ok (.aload_n 0, 1) := dq_g444.2.2.1
theorem dX10_amiss_49 : decode cX10_amiss 49 = .ok (.iload_n 1, 1) := dq_g444.2.2.2.1
theorem dX10_amiss_50 : decode cX10_amiss 50 = .ok (.iconst 0, 1) := dq_g444.2.2.2.2.1
theorem dX10_amiss_51 : decode cX10_amiss 51 = .ok (.iload_n 2, 1) := dq_g444.2.2.2.2.2.1
theorem dX10_amiss_52 : decode cX10_amiss 52 = .ok (.iconst 1, 1) := dq_g444.2.2.2.2.2.2.1
theorem dX10_amiss_53 : decode cX10_amiss 53 = .ok (.isub, 1) := dq_g444.2.2.2.2.2.2.2.1
theorem dX10_amiss_54 : decode cX10_amiss 54 = .ok (.invokevirtual 411, 3) := dq_g444.2.2.2.2.2.2.2.2.1
theorem dX10_amiss_57 : decode cX10_amiss 57 = .ok (.isub, 1) := dq_g444.2.2.2.2.2.2.2.2.2.1
theorem dX10_amiss_58 : decode cX10_amiss 58 = .ok (.invokevirtual 309, 3) := dq_g444.2.2.2.2.2.2.2.2.2.2.1
theorem dX10_amiss_61 : decode cX10_amiss 61 = .ok (.iadd, 1) := dq_g444.2.2.2.2.2.2.2.2.2.2.2.1
theorem dX10_amiss_62 : decode cX10_amiss 62 = .ok (.ireturn, 1) := dq_g444.2.2.2.2.2.2.2.2.2.2.2.2.1
theorem dq_g445 : decode cX10_state 0 = .ok (.aload_n 0, 1) ∧ decode cX10_state 1 = .ok (.iconst 0, 1) ∧ decode cX10_state 2 = .ok (.putfield 167, 3) ∧ decode cX10_state 5 = .ok (.aload_n 0, 1) ∧ decode cX10_state 6 = .ok (.iload_n 1, 1) ∧ decode cX10_state 7 = .ok (.invokevirtual 173, 3) ∧ decode cX10_state 10 = .ok (.ifCond .ne 6, 3) ∧ decode cX10_state 13 = .ok (.bipush (-2), 2) ∧ decode cX10_state 15 = .ok (.ireturn, 1) ∧ decode cX10_state 16 = .ok (.iload_n 2, 1) ∧ decode cX10_state 17 = .ok (.ifCond .ne 10, 3) ∧ decode cX10_state 20 = .ok (.aload_n 0, 1) ∧ decode cX10_state 21 = .ok (.getfield 13, 3) ∧ decode cX10_state 24 = .ok (.iload_n 1, 1) ∧ decode cX10_state 25 = .ok (.iaload, 1) ∧ decode cX10_state 26 = .ok (.ireturn, 1) ∧ decode cX10_state 27 = .ok (.iload_n 2, 1) ∧ decode cX10_state 28 = .ok (.iconst 1, 1) ∧ decode cX10_state 29 = .ok (.if_icmp .ne 10, 3) ∧ decode cX10_state 32 = .ok (.aload_n 0, 1) ∧ decode cX10_state 33 = .ok (.getfield 32, 3) ∧ decode cX10_state 36 = .ok (.iload_n 1, 1) ∧ decode cX10_state 37 = .ok (.iaload, 1) ∧ decode cX10_state 38 = .ok (.ireturn, 1) ∧ decode cX10_state 39 = .ok (.iload_n 2, 1) ∧ decode cX10_state 40 = .ok (.iconst 2, 1) ∧ decode cX10_state 41 = .ok (.if_icmp .ne 17, 3) ∧ decode cX10_state 44 = .ok (.aload_n 0, 1) ∧ decode cX10_state 45 = .ok (.iload_n 1, 1) ∧ decode cX10_state 46 = .ok (.invokevirtual 338, 3) ∧ True := dqC_ok (c := cX10_state) [(0, 1, some (.aload_n 0)), (1, 1, some (.iconst 0)), (2, 3, some (.putfield 167)), (5, 1, some (.aload_n 0)), (6, 1, some (.iload_n 1)), (7, 3, some (.invokevirtual 173)), (10, 3, some (.ifCond .ne 6)), (13, 2, some (.bipush (-2))), (15, 1, some (.ireturn)), (16, 1, some (.iload_n 2)), (17, 3, some (.ifCond .ne 10)), (20, 1, some (.aload_n 0)), (21, 3, some (.getfield 13)), (24, 1, some (.iload_n 1)), (25, 1, some (.iaload)), (26, 1, some (.ireturn)), (27, 1, some (.iload_n 2)), (28, 1, some (.iconst 1)), (29, 3, some (.if_icmp .ne 10)), (32, 1, some (.aload_n 0)), (33, 3, some (.getfield 32)), (36, 1, some (.iload_n 1)), (37, 1, some (.iaload)), (38, 1, some (.ireturn)), (39, 1, some (.iload_n 2)), (40, 1, some (.iconst 2)), (41, 3, some (.if_icmp .ne 17)), (44, 1, some (.aload_n 0)), (45, 1, some (.iload_n 1)), (46, 3, some (.invokevirtual 338))] _ 0 rfl (by decide +kernel)
theorem dX10_state_0 : decode cX10_state 0 = .ok (.aload_n 0, 1) := dq_g445.1
theorem dX10_state_1 : decode cX10_state 1 = .ok (.iconst 0, 1) := dq_g445.2.1
theorem dX10_state_2 : decode cX10_state 2 = .ok (.putfield 167, 3) := dq_g445.2.2.1
theorem dX10_state_5 : decode cX10_state 5 = .ok (.aload_n 0, 1) := dq_g445.2.2.2.1
theorem dX10_state_6 : decode cX10_state 6 = .ok (.iload_n 1, 1) := dq_g445.2.2.2.2.1
theorem dX10_state_7 : decode cX10_state 7 = .ok (.invokevirtual 173, 3) := dq_g445.2.2.2.2.2.1
theorem dX10_state_10 : decode cX10_state 10 = .ok (.ifCond .ne 6, 3) := dq_g445.2.2.2.2.2.2.1
theorem dX10_state_13 : decode cX10_state 13 = .ok (.bipush (-2), 2) := dq_g445.2.2.2.2.2.2.2.1
theorem dX10_state_15 : decode cX10_state 15 = .ok (.ireturn, 1) := dq_g445.2.2.2.2.2.2.2.2.1
theorem dX10_state_16 : decode cX10_state 16 = .ok (.iload_n 2, 1) := dq_g445.2.2.2.2.2.2.2.2.2.1
theorem dX10_state_17 : decode cX10_state 17 = .ok (.ifCond .ne 10, 3) := dq_g445.2.2.2.2.2.2.2.2.2.2.1
theorem dX10_state_20 : decode cX10_state 20 = .ok (.aload_n 0, 1) := dq_g445.2.2.2.2.2.2.2.2.2.2.2.1
theorem dX10_state_21 : decode cX10_state 21 = .ok (.getfield 13, 3) := dq_g445.2.2.2.2.2.2.2.2.2.2.2.2.1
theorem dX10_state_24 : decode cX10_state 24 = .ok (.iload_n 1, 1) := dq_g445.2.2.2.2.2.2.2.2.2.2.2.2.2.1
theorem dX10_state_25 : decode cX10_state 25 = .ok (.iaload, 1) := dq_g445.2.2.2.2.2.2.2.2.2.2.2.2.2.2.1
theorem dX10_state_26 : decode cX10_state 26 = .ok (.ireturn, 1) := dq_g445.2.2.2.2.2.2.2.2.2.2.2.2.2.2.2.1
theorem dX10_state_27 : decode cX10_state 27 = .ok (.iload_n 2, 1) := dq_g445.2.2.2.2.2.2.2.2.2.2.2.2.2.2.2.2.1
theorem dX10_state_28 : decode cX10_state 28 = .ok (.iconst 1, 1) := dq_g445.2.2.2.2.2.2.2.2.2.2.2.2.2.2.2.2.2.1
theorem dX10_state_29 : decode cX10_state 29 = .ok (.if_icmp .ne 10, 3) := dq_g445.2.2.2.2.2.2.2.2.2.2.2.2.2.2.2.2.2.2.1
theorem dX10_state_32 : decode cX10_state 32 = .ok (.aload_n 0, 1) := dq_g445.2.2.2.2.2.2.2.2.2.2.2.2.2.2.2.2.2.2.2.1
theorem dX10_state_33 : decode cX10_state 33 = .ok (.getfield 32, 3) := dq_g445.2.2.2.2.2.2.2.2.2.2.2.2.2.2.2.2.2.2.2.2.1
theorem dX10_state_36 : decode cX10_state 36 = .ok (.iload_n 1, 1) := dq_g445.2.2.2.2.2.2.2.2.2.2.2.2.2.2.2.2.2.2.2.2.2.1
theorem dX10_state_37 : decode cX10_state 37 = .ok (.iaload, 1) := dq_g445.2.2.2.2.2.2.2.2.2.2.2.2.2.2.2.2.2.2.2.2.2.2.1
theorem dX10_state_38 : decode cX10_state 38 = .ok (.ireturn, 1) := dq_g445.2.2.2.2.2.2.2.2.2.2.2.2.2.2.2.2.2.2.2.2.2.2.2.1
theorem dX10_state_39 : decode cX10_state 39 = .ok (.iload_n 2, 1) := dq_g445.2.2.2.2.2.2.2.2.2.2.2.2.2.2.2.2.2.2.2.2.2.2.2.2.1
theorem dX10_state_40 : decode cX10_state 40 = .ok (.iconst 2, 1) := dq_g445.2.2.2.2.2.2.2.2.2.2.2.2.2.2.2.2.2.2.2.2.2.2.2.2.2.1
theorem dX10_state_41 : decode cX10_state 41 = .ok (.if_icmp .ne 17, 3) := dq_g445.2.2.2.2.2.2.2.2.2.2.2.2.2.2.2.2.2.2.2.2.2.2.2.2.2.2.1
theorem dX10_state_44 : decode cX10_state 44 = .ok (.aload_n 0, 1) := dq_g445.2.2.2.2.2.2.2.2.2.2.2.2.2.2.2.2.2.2.2.2.2.2.2.2.2.2.2.1
theorem dX10_state_45 : decode cX10_state 45 = .ok (.iload_n 1, 1) := dq_g445.2.2.2.2.2.2.2.2.2.2.2.2.2.2.2.2.2.2.2.2.2.2.2.2.2.2.2.2.1
theorem dX10_state_46 : decode cX10_state 46 = .ok (.invokevirtual 338, 3) := dq_g445.2.2.2.2.2.2.2.2.2.2.2.2.2.2.2.2.2.2.2.2.2.2.2.2.2.2.2.2.2.1
theorem dq_g446 : decode cX10_state 49 = .ok (.ifCond .eq 7, 3) ∧ decode cX10_state 52 = .ok (.iconst 1, 1) ∧ decode cX10_state 53 = .ok (.goto 4, 3) ∧ decode cX10_state 56 = .ok (.iconst 0, 1) ∧ decode cX10_state 57 = .ok (.ireturn, 1) ∧ decode cX10_state 58 = .ok (.iload_n 2, 1) ∧ decode cX10_state 59 = .ok (.iconst 3, 1) ∧ decode cX10_state 60 = .ok (.if_icmp .ne 17, 3) ∧ decode cX10_state 63 = .ok (.aload_n 0, 1) ∧ decode cX10_state 64 = .ok (.iload_n 1, 1) ∧ decode cX10_state 65 = .ok (.invokevirtual 414, 3) ∧ decode cX10_state 68 = .ok (.ifCond .eq 7, 3) ∧ decode cX10_state 71 = .ok (.iconst 1, 1) ∧ decode cX10_state 72 = .ok (.goto 4, 3) ∧ decode cX10_state 75 = .ok (.iconst 0, 1) ∧ decode cX10_state 76 = .ok (.ireturn, 1) ∧ decode cX10_state 77 = .ok (.iload_n 2, 1) ∧ decode cX10_state 78 = .ok (.iconst 4, 1) ∧ decode cX10_state 79 = .ok (.if_icmp .ne 10, 3) ∧ decode cX10_state 82 = .ok (.aload_n 0, 1) ∧ decode cX10_state 83 = .ok (.getfield 41, 3) ∧ decode cX10_state 86 = .ok (.iload_n 1, 1) ∧ decode cX10_state 87 = .ok (.iaload, 1) ∧ decode cX10_state 88 = .ok (.ireturn, 1) ∧ decode cX10_state 89 = .ok (.aload_n 0, 1) ∧ decode cX10_state 90 = .ok (.iload_n 2, 1) ∧ decode cX10_state 91 = .ok (.iconst 5, 1) ∧ decode cX10_state 92 = .ok (.bipush 7, 2) ∧ decode cX10_state 94 = .ok (.invokevirtual 177, 3) ∧ decode cX10_state 97 = .ok (.ifCond .eq 16, 3) ∧ True := dqC_ok (c := cX10_state) [(49, 3, some (.ifCond .eq 7)), (52, 1, some (.iconst 1)), (53, 3, some (.goto 4)), (56, 1, some (.iconst 0)), (57, 1, some (.ireturn)), (58, 1, some (.iload_n 2)), (59, 1, some (.iconst 3)), (60, 3, some (.if_icmp .ne 17)), (63, 1, some (.aload_n 0)), (64, 1, some (.iload_n 1)), (65, 3, some (.invokevirtual 414)), (68, 3, some (.ifCond .eq 7)), (71, 1, some (.iconst 1)), (72, 3, some (.goto 4)), (75, 1, some (.iconst 0)), (76, 1, some (.ireturn)), (77, 1, some (.iload_n 2)), (78, 1, some (.iconst 4)), (79, 3, some (.if_icmp .ne 10)), (82, 1, some (.aload_n 0)), (83, 3, some (.getfield 41)), (86, 1, some (.iload_n 1)), (87, 1, some (.iaload)), (88, 1, some (.ireturn)), (89, 1, some (.aload_n 0)), (90, 1, some (.iload_n 2)), (91, 1, some (.iconst 5)), (92, 2, some (.bipush 7)), (94, 3, some (.invokevirtual 177)), (97, 3, some (.ifCond .eq 16))] _ 49 rfl (by decide +kernel)
theorem dX10_state_49 : decode cX10_state 49 = .ok (.ifCond .eq 7, 3) := dq_g446.1
theorem dX10_state_52 : decode cX10_state 52 = .ok (.iconst 1, 1) := dq_g446.2.1
theorem dX10_state_53 : decode cX10_state 53 = .ok (.goto 4, 3) := dq_g446.2.2.1
theorem dX10_state_56 : decode cX10_state 56 = .ok (.iconst 0, 1) := dq_g446.2.2.2.1
theorem dX10_state_57 : decode cX10_state 57 = .ok (.ireturn, 1) := dq_g446.2.2.2.2.1
theorem dX10_state_58 : decode cX10_state 58 = .ok (.iload_n 2, 1) := dq_g446.2.2.2.2.2.1
theorem dX10_state_59 : decode cX10_state 59 = .ok (.iconst 3, 1) := dq_g446.2.2.2.2.2.2.1
theorem dX10_state_60 : decode cX10_state 60 = .ok (.if_icmp .ne 17, 3) := dq_g446.2.2.2.2.2.2.2.1
theorem dX10_state_63 : decode cX10_state 63 = .ok (.aload_n 0, 1) := dq_g446.2.2.2.2.2.2.2.2.1
theorem dX10_state_64 : decode cX10_state 64 = .ok (.iload_n 1, 1) := dq_g446.2.2.2.2.2.2.2.2.2.1
theorem dX10_state_65 : decode cX10_state 65 = .ok (.invokevirtual 414, 3) := dq_g446.2.2.2.2.2.2.2.2.2.2.1
theorem dX10_state_68 : decode cX10_state 68 = .ok (.ifCond .eq 7, 3) := dq_g446.2.2.2.2.2.2.2.2.2.2.2.1
theorem dX10_state_71 : decode cX10_state 71 = .ok (.iconst 1, 1) := dq_g446.2.2.2.2.2.2.2.2.2.2.2.2.1
theorem dX10_state_72 : decode cX10_state 72 = .ok (.goto 4, 3) := dq_g446.2.2.2.2.2.2.2.2.2.2.2.2.2.1
theorem dX10_state_75 : decode cX10_state 75 = .ok (.iconst 0, 1) := dq_g446.2.2.2.2.2.2.2.2.2.2.2.2.2.2.1
theorem dX10_state_76 : decode cX10_state 76 = .ok (.ireturn, 1) := dq_g446.2.2.2.2.2.2.2.2.2.2.2.2.2.2.2.1
theorem dX10_state_77 : decode cX10_state 77 = .ok (.iload_n 2, 1) := dq_g446.2.2.2.2.2.2.2.2.2.2.2.2.2.2.2.2.1
theorem dX10_state_78 : decode cX10_state 78 = .ok (.iconst 4, 1) := dq_g446.2.2.2.2.2.2.2.2.2.2.2.2.2.2.2.2.2.1
theorem dX10_state_79 : decode cX10_state 79 = .ok (.if_icmp .ne 10, 3) := dq_g446.2.2.2.2.2.2.2.2.2.2.2.2.2.2.2.2.2.2.1
theorem dX10_state_82 : decode cX10_state 82 = .ok (.aload_n 0, 1) := dq_g446.2.2.2.2.2.2.2.2.2.2.2.2.2.2.2.2.2.2.2.1
theorem dX10_state_83 : decode cX10_state 83 = .ok (.getfield 41, 3) := dq_g446.2.2.2.2.2.2.2.2.2.2.2.2.2.2.2.2.2.2.2.2.1
theorem dX10_state_86 : decode cX10_state 86 = .ok (.iload_n 1, 1) := dq_g446.2.2.2.2.2.2.2.2.2.2.2.2.2.2.2.2.2.2.2.2.2.1
theorem dX10_state_87 : decode cX10_state 87 = .ok (.iaload, 1) := dq_g446.2.2.2.2.2.2.2.2.2.2.2.2.2.2.2.2.2.2.2.2.2.2.1
theorem dX10_state_88 : decode cX10_state 88 = .ok (.ireturn, 1) := dq_g446.2.2.2.2.2.2.2.2.2.2.2.2.2.2.2.2.2.2.2.2.2.2.2.1
theorem dX10_state_89 : decode cX10_state 89 = .ok (.aload_n 0, 1) := dq_g446.2.2.2.2.2.2.2.2.2.2.2.2.2.2.2.2.2.2.2.2.2.2.2.2.1
theorem dX10_state_90 : decode cX10_state 90 = .ok (.iload_n 2, 1) := dq_g446.2.2.2.2.2.2.2.2.2.2.2.2.2.2.2.2.2.2.2.2.2.2.2.2.2.1
theorem dX10_state_91 : decode cX10_state 91 = .ok (.iconst 5, 1) := dq_g446.2.2.2.2.2.2.2.2.2.2.2.2.2.2.2.2.2.2.2.2.2.2.2.2.2.2.1
theorem dX10_state_92 : decode cX10_state 92 = .ok (.bipush 7, 2) := dq_g446.2.2.2.2.2.2.2.2.2.2.2.2.2.2.2.2.2.2.2.2.2.2.2.2.2.2.2.1
theorem dX10_state_94 : decode cX10_state 94 = .ok (.invokevirtual 177, 3) := dq_g446.2.2.2.2.2.2.2.2.2.2.2.2.2.2.2.2.2.2.2.2.2.2.2.2.2.2.2.2.1
theorem dX10_state_97 : decode cX10_state 97 = .ok (.ifCond .eq 16, 3) := dq_g446.2.2.2.2.2.2.2.2.2.2.2.2.2.2.2.2.2.2.2.2.2.2.2.2.2.2.2.2.2.1
theorem dq_g447 : decode cX10_state 100 = .ok (.aload_n 0, 1) ∧ decode cX10_state 101 = .ok (.getfield 29, 3) ∧ decode cX10_state 104 = .ok (.iconst 3, 1) ∧ decode cX10_state 105 = .ok (.iload_n 1, 1) ∧ decode cX10_state 106 = .ok (.imul, 1) ∧ decode cX10_state 107 = .ok (.iload_n 2, 1) ∧ decode cX10_state 108 = .ok (.iadd, 1) ∧ decode cX10_state 109 = .ok (.iconst 5, 1) ∧ decode cX10_state 110 = .ok (.isub, 1) ∧ decode cX10_state 111 = .ok (.iaload, 1) ∧ decode cX10_state 112 = .ok (.ireturn, 1) ∧ decode cX10_state 113 = .ok (.iload_n 2, 1) ∧ decode cX10_state 114 = .ok (.bipush 8, 2) ∧ decode cX10_state 116 = .ok (.if_icmp .ne 12, 3) ∧ decode cX10_state 119 = .ok (.aload_n 0, 1) ∧ decode cX10_state 120 = .ok (.getfield 116, 3) ∧ decode cX10_state 123 = .ok (.iload_n 1, 1) ∧ decode cX10_state 124 = .ok (.iaload, 1) ∧ decode cX10_state 125 = .ok (.goto 19, 3) ∧ decode cX10_state 128 = .ok (.iload_n 2, 1) ∧ decode cX10_state 129 = .ok (.bipush 9, 2) ∧ decode cX10_state 131 = .ok (.if_icmp .ne 11, 3) ∧ decode cX10_state 134 = .ok (.aload_n 0, 1) ∧ decode cX10_state 135 = .ok (.iload_n 1, 1) ∧ decode cX10_state 136 = .ok (.invokevirtual 417, 3) ∧ decode cX10_state 139 = .ok (.goto 5, 3) ∧ decode cX10_state 142 = .ok (.bipush (-2), 2) ∧ decode cX10_state 144 = .ok (.ireturn, 1) ∧ True := dqC_ok (c := cX10_state) [(100, 1, some (.aload_n 0)), (101, 3, some (.getfield 29)), (104, 1, some (.iconst 3)), (105, 1, some (.iload_n 1)), (106, 1, some (.imul)), (107, 1, some (.iload_n 2)), (108, 1, some (.iadd)), (109, 1, some (.iconst 5)), (110, 1, some (.isub)), (111, 1, some (.iaload)), (112, 1, some (.ireturn)), (113, 1, some (.iload_n 2)), (114, 2, some (.bipush 8)), (116, 3, some (.if_icmp .ne 12)), (119, 1, some (.aload_n 0)), (120, 3, some (.getfield 116)), (123, 1, some (.iload_n 1)), (124, 1, some (.iaload)), (125, 3, some (.goto 19)), (128, 1, some (.iload_n 2)), (129, 2, some (.bipush 9)), (131, 3, some (.if_icmp .ne 11)), (134, 1, some (.aload_n 0)), (135, 1, some (.iload_n 1)), (136, 3, some (.invokevirtual 417)), (139, 3, some (.goto 5)), (142, 2, some (.bipush (-2))), (144, 1, some (.ireturn))] _ 100 rfl (by decide +kernel)
theorem dX10_state_100 : decode cX10_state 100 = .ok (.aload_n 0, 1) := dq_g447.1
theorem dX10_state_101 : decode cX10_state 101 = .ok (.getfield 29, 3) := dq_g447.2.1
theorem dX10_state_104 : decode cX10_state 104 = .ok (.iconst 3, 1) := dq_g447.2.2.1
theorem dX10_state_105 : decode cX10_state 105 = .ok (.iload_n 1, 1) := dq_g447.2.2.2.1
theorem dX10_state_106 : decode cX10_state 106 = .ok (.imul, 1) := dq_g447.2.2.2.2.1
theorem dX10_state_107 : decode cX10_state 107 = .ok (.iload_n 2, 1) := dq_g447.2.2.2.2.2.1
theorem dX10_state_108 : decode cX10_state 108 = .ok (.iadd, 1) := dq_g447.2.2.2.2.2.2.1
theorem dX10_state_109 : decode cX10_state 109 = .ok (.iconst 5, 1) := dq_g447.2.2.2.2.2.2.2.1
theorem dX10_state_110 : decode cX10_state 110 = .ok (.isub, 1) := dq_g447.2.2.2.2.2.2.2.2.1
theorem dX10_state_111 : decode cX10_state 111 = .ok (.iaload, 1) := dq_g447.2.2.2.2.2.2.2.2.2.1
theorem dX10_state_112 : decode cX10_state 112 = .ok (.ireturn, 1) := dq_g447.2.2.2.2.2.2.2.2.2.2.1
theorem dX10_state_113 : decode cX10_state 113 = .ok (.iload_n 2, 1) := dq_g447.2.2.2.2.2.2.2.2.2.2.2.1
theorem dX10_state_114 : decode cX10_state 114 = .ok (.bipush 8, 2) := dq_g447.2.2.2.2.2.2.2.2.2.2.2.2.1
theorem dX10_state_116 : decode cX10_state 116 = .ok (.if_icmp .ne 12, 3) := dq_g447.2.2.2.2.2.2.2.2.2.2.2.2.2.1
theorem dX10_state_119 : decode cX10_state 119 = .ok (.aload_n 0, 1) := dq_g447.2.2.2.2.2.2.2.2.2.2.2.2.2.2.1
theorem dX10_state_120 : decode cX10_state 120 = .ok (.getfield 116, 3) := dq_g447.2.2.2.2.2.2.2.2.2.2.2.2.2.2.2.1
theorem dX10_state_123 : decode cX10_state 123 = .ok (.iload_n 1, 1) := dq_g447.2.2.2.2.2.2.2.2.2.2.2.2.2.2.2.2.1
theorem dX10_state_124 : decode cX10_state 124 = .ok (.iaload, 1) := dq_g447.2.2.2.2.2.2.2.2.2.2.2.2.2.2.2.2.2.1
theorem dX10_state_125 : decode cX10_state 125 = .ok (.goto 19, 3) := dq_g447.2.2.2.2.2.2.2.2.2.2.2.2.2.2.2.2.2.2.1
theorem dX10_state_128 : decode cX10_state 128 = .ok (.iload_n 2, 1) := dq_g447.2.2.2.2.2.2.2.2.2.2.2.2.2.2.2.2.2.2.2.1
theorem dX10_state_129 : decode cX10_state 129 = .ok (.bipush 9, 2) := dq_g447.2.2.2.2.2.2.2.2.2.2.2.2.2.2.2.2.2.2.2.2.1
theorem dX10_state_131 : decode cX10_state 131 = .ok (.if_icmp .ne 11, 3) := dq_g447.2.2.2.2.2.2.2.2.2.2.2.2.2.2.2.2.2.2.2.2.2.1
theorem dX10_state_134 : decode cX10_state 134 = .ok (.aload_n 0, 1) := dq_g447.2.2.2.2.2.2.2.2.2.2.2.2.2.2.2.2.2.2.2.2.2.2.1
theorem dX10_state_135 : decode cX10_state 135 = .ok (.iload_n 1, 1) := dq_g447.2.2.2.2.2.2.2.2.2.2.2.2.2.2.2.2.2.2.2.2.2.2.2.1
theorem dX10_state_136 : decode cX10_state 136 = .ok (.invokevirtual 417, 3) := dq_g447.2.2.2.2.2.2.2.2.2.2.2.2.2.2.2.2.2.2.2.2.2.2.2.2.1
theorem dX10_state_139 : decode cX10_state 139 = .ok (.goto 5, 3) := dq_g447.2.2.2.2.2.2.2.2.2.2.2.2.2.2.2.2.2.2.2.2.2.2.2.2.2.1
theorem dX10_state_142 : decode cX10_state 142 = .ok (.bipush (-2), 2) := dq_g447.2.2.2.2.2.2.2.2.2.2.2.2.2.2.2.2.2.2.2.2.2.2.2.2.2.2.1
theorem dX10_state_144 : decode cX10_state 144 = .ok (.ireturn, 1) := dq_g447.2.2.2.2.2.2.2.2.2.2.2.2.2.2.2.2.2.2.2.2.2.2.2.2.2.2.2.1
theorem dq_g448 : decode cX10_isHeat 0 = .ok (.aload_n 0, 1) ∧ decode cX10_isHeat 1 = .ok (.iload_n 1, 1) ∧ decode cX10_isHeat 2 = .ok (.bipush (-20), 2) ∧ decode cX10_isHeat 4 = .ok (.bipush 50, 2) ∧ decode cX10_isHeat 6 = .ok (.invokevirtual 177, 3) ∧ decode cX10_isHeat 9 = .ok (.ireturn, 1) ∧ True := dqC_ok (c := cX10_isHeat) [(0, 1, some (.aload_n 0)), (1, 1, some (.iload_n 1)), (2, 2, some (.bipush (-20))), (4, 2, some (.bipush 50)), (6, 3, some (.invokevirtual 177)), (9, 1, some (.ireturn))] _ 0 rfl (by decide +kernel)
theorem dX10_isHeat_0 : decode cX10_isHeat 0 = .ok (.aload_n 0, 1) := dq_g448.1
theorem dX10_isHeat_1 : decode cX10_isHeat 1 = .ok (.iload_n 1, 1) := dq_g448.2.1
theorem dX10_isHeat_2 : decode cX10_isHeat 2 = .ok (.bipush (-20), 2) := dq_g448.2.2.1
theorem dX10_isHeat_4 : decode cX10_isHeat 4 = .ok (.bipush 50, 2) := dq_g448.2.2.2.1
theorem dX10_isHeat_6 : decode cX10_isHeat 6 = .ok (.invokevirtual 177, 3) := dq_g448.2.2.2.2.1
theorem dX10_isHeat_9 : decode cX10_isHeat 9 = .ok (.ireturn, 1) := dq_g448.2.2.2.2.2.1
theorem dq_g449 : decode cX10_isWet 0 = .ok (.aload_n 0, 1) ∧ decode cX10_isWet 1 = .ok (.iload_n 1, 1) ∧ decode cX10_isWet 2 = .ok (.iconst 0, 1) ∧ decode cX10_isWet 3 = .ok (.bipush 99, 2) ∧ decode cX10_isWet 5 = .ok (.invokevirtual 177, 3) ∧ decode cX10_isWet 8 = .ok (.ireturn, 1) ∧ True := dqC_ok (c := cX10_isWet) [(0, 1, some (.aload_n 0)), (1, 1, some (.iload_n 1)), (2, 1, some (.iconst 0)), (3, 2, some (.bipush 99)), (5, 3, some (.invokevirtual 177)), (8, 1, some (.ireturn))] _ 0 rfl (by decide +kernel)
theorem dX10_isWet_0 : decode cX10_isWet 0 = .ok (.aload_n 0, 1) := dq_g449.1
theorem dX10_isWet_1 : decode cX10_isWet 1 = .ok (.iload_n 1, 1) := dq_g449.2.1
theorem dX10_isWet_2 : decode cX10_isWet 2 = .ok (.iconst 0, 1) := dq_g449.2.2.1
theorem dX10_isWet_3 : decode cX10_isWet 3 = .ok (.bipush 99, 2) := dq_g449.2.2.2.1
theorem dX10_isWet_5 : decode cX10_isWet 5 = .ok (.invokevirtual 177, 3) := dq_g449.2.2.2.2.1
theorem dX10_isWet_8 : decode cX10_isWet 8 = .ok (.ireturn, 1) := dq_g449.2.2.2.2.2.1
theorem dq_g450 : decode cX10_drifted 0 = .ok (.aload_n 0, 1) ∧ decode cX10_drifted 1 = .ok (.iload_n 1, 1) ∧ decode cX10_drifted 2 = .ok (.iconst 0, 1) ∧ decode cX10_drifted 3 = .ok (.invokevirtual 335, 3) ∧ decode cX10_drifted 6 = .ok (.istore 4, 2) ∧ decode cX10_drifted 8 = .ok (.iconst 0, 1) ∧ decode cX10_drifted 9 = .ok (.istore 5, 2) ∧ decode cX10_drifted 11 = .ok (.iload 5, 2) ∧ decode cX10_drifted 13 = .ok (.bipush 14, 2) ∧ decode cX10_drifted 15 = .ok (.if_icmp .ge 17, 3) ∧ decode cX10_drifted 18 = .ok (.aload_n 0, 1) ∧ decode cX10_drifted 19 = .ok (.getfield 95, 3) ∧ decode cX10_drifted 22 = .ok (.iload 5, 2) ∧ decode cX10_drifted 24 = .ok (.iconst 0, 1) ∧ decode cX10_drifted 25 = .ok (.iastore, 1) ∧ decode cX10_drifted 26 = .ok (.iinc 5 1, 3) ∧ decode cX10_drifted 29 = .ok (.goto (-18), 3) ∧ decode cX10_drifted 32 = .ok (.aload_n 0, 1) ∧ decode cX10_drifted 33 = .ok (.getfield 95, 3) ∧ decode cX10_drifted 36 = .ok (.bipush 8, 2) ∧ decode cX10_drifted 38 = .ok (.iload_n 2, 1) ∧ decode cX10_drifted 39 = .ok (.iastore, 1) ∧ decode cX10_drifted 40 = .ok (.aload_n 0, 1) ∧ decode cX10_drifted 41 = .ok (.getfield 95, 3) ∧ decode cX10_drifted 44 = .ok (.bipush 9, 2) ∧ decode cX10_drifted 46 = .ok (.iload_n 3, 1) ∧ decode cX10_drifted 47 = .ok (.iastore, 1) ∧ decode cX10_drifted 48 = .ok (.aload_n 0, 1) ∧ decode cX10_drifted 49 = .ok (.aload_n 0, 1) ∧ decode cX10_drifted 50 = .ok (.getfield 322, 3) ∧ True := dqC_ok (c := cX10_drifted) [(0, 1, some (.aload_n 0)), (1, 1, some (.iload_n 1)), (2, 1, some (.iconst 0)), (3, 3, some (.invokevirtual 335)), (6, 2, some (.istore 4)), (8, 1, some (.iconst 0)), (9, 2, some (.istore 5)), (11, 2, some (.iload 5)), (13, 2, some (.bipush 14)), (15, 3, some (.if_icmp .ge 17)), (18, 1, some (.aload_n 0)), (19, 3, some (.getfield 95)), (22, 2, some (.iload 5)), (24, 1, some (.iconst 0)), (25, 1, some (.iastore)), (26, 3, some (.iinc 5 1)), (29, 3, some (.goto (-18))), (32, 1, some (.aload_n 0)), (33, 3, some (.getfield 95)), (36, 2, some (.bipush 8)), (38, 1, some (.iload_n 2)), (39, 1, some (.iastore)), (40, 1, some (.aload_n 0)), (41, 3, some (.getfield 95)), (44, 2, some (.bipush 9)), (46, 1, some (.iload_n 3)), (47, 1, some (.iastore)), (48, 1, some (.aload_n 0)), (49, 1, some (.aload_n 0)), (50, 3, some (.getfield 322))] _ 0 rfl (by decide +kernel)
theorem dX10_drifted_0 : decode cX10_drifted 0 = .ok (.aload_n 0, 1) := dq_g450.1
theorem dX10_drifted_1 : decode cX10_drifted 1 = .ok (.iload_n 1, 1) := dq_g450.2.1
theorem dX10_drifted_2 : decode cX10_drifted 2 = .ok (.iconst 0, 1) := dq_g450.2.2.1
theorem dX10_drifted_3 : decode cX10_drifted 3 = .ok (.invokevirtual 335, 3) := dq_g450.2.2.2.1
theorem dX10_drifted_6 : decode cX10_drifted 6 = .ok (.istore 4, 2) := dq_g450.2.2.2.2.1
theorem dX10_drifted_8 : decode cX10_drifted 8 = .ok (.iconst 0, 1) := dq_g450.2.2.2.2.2.1
theorem dX10_drifted_9 : decode cX10_drifted 9 = .ok (.istore 5, 2) := dq_g450.2.2.2.2.2.2.1
theorem dX10_drifted_11 : decode cX10_drifted 11 = .ok (.iload 5, 2) := dq_g450.2.2.2.2.2.2.2.1
theorem dX10_drifted_13 : decode cX10_drifted 13 = .ok (.bipush 14, 2) := dq_g450.2.2.2.2.2.2.2.2.1
theorem dX10_drifted_15 : decode cX10_drifted 15 = .ok (.if_icmp .ge 17, 3) := dq_g450.2.2.2.2.2.2.2.2.2.1
theorem dX10_drifted_18 : decode cX10_drifted 18 = .ok (.aload_n 0, 1) := dq_g450.2.2.2.2.2.2.2.2.2.2.1
theorem dX10_drifted_19 : decode cX10_drifted 19 = .ok (.getfield 95, 3) := dq_g450.2.2.2.2.2.2.2.2.2.2.2.1
theorem dX10_drifted_22 : decode cX10_drifted 22 = .ok (.iload 5, 2) := dq_g450.2.2.2.2.2.2.2.2.2.2.2.2.1
theorem dX10_drifted_24 : decode cX10_drifted 24 = .ok (.iconst 0, 1) := dq_g450.2.2.2.2.2.2.2.2.2.2.2.2.2.1
theorem dX10_drifted_25 : decode cX10_drifted 25 = .ok (.iastore, 1) := dq_g450.2.2.2.2.2.2.2.2.2.2.2.2.2.2.1
theorem dX10_drifted_26 : decode cX10_drifted 26 = .ok (.iinc 5 1, 3) := dq_g450.2.2.2.2.2.2.2.2.2.2.2.2.2.2.2.1
theorem dX10_drifted_29 : decode cX10_drifted 29 = .ok (.goto (-18), 3) := dq_g450.2.2.2.2.2.2.2.2.2.2.2.2.2.2.2.2.1
theorem dX10_drifted_32 : decode cX10_drifted 32 = .ok (.aload_n 0, 1) := dq_g450.2.2.2.2.2.2.2.2.2.2.2.2.2.2.2.2.2.1
theorem dX10_drifted_33 : decode cX10_drifted 33 = .ok (.getfield 95, 3) := dq_g450.2.2.2.2.2.2.2.2.2.2.2.2.2.2.2.2.2.2.1
theorem dX10_drifted_36 : decode cX10_drifted 36 = .ok (.bipush 8, 2) := dq_g450.2.2.2.2.2.2.2.2.2.2.2.2.2.2.2.2.2.2.2.1
theorem dX10_drifted_38 : decode cX10_drifted 38 = .ok (.iload_n 2, 1) := dq_g450.2.2.2.2.2.2.2.2.2.2.2.2.2.2.2.2.2.2.2.2.1
theorem dX10_drifted_39 : decode cX10_drifted 39 = .ok (.iastore, 1) := dq_g450.2.2.2.2.2.2.2.2.2.2.2.2.2.2.2.2.2.2.2.2.2.1
theorem dX10_drifted_40 : decode cX10_drifted 40 = .ok (.aload_n 0, 1) := dq_g450.2.2.2.2.2.2.2.2.2.2.2.2.2.2.2.2.2.2.2.2.2.2.1
theorem dX10_drifted_41 : decode cX10_drifted 41 = .ok (.getfield 95, 3) := dq_g450.2.2.2.2.2.2.2.2.2.2.2.2.2.2.2.2.2.2.2.2.2.2.2.1
theorem dX10_drifted_44 : decode cX10_drifted 44 = .ok (.bipush 9, 2) := dq_g450.2.2.2.2.2.2.2.2.2.2.2.2.2.2.2.2.2.2.2.2.2.2.2.2.1
theorem dX10_drifted_46 : decode cX10_drifted 46 = .ok (.iload_n 3, 1) := dq_g450.2.2.2.2.2.2.2.2.2.2.2.2.2.2.2.2.2.2.2.2.2.2.2.2.2.1
theorem dX10_drifted_47 : decode cX10_drifted 47 = .ok (.iastore, 1) := dq_g450.2.2.2.2.2.2.2.2.2.2.2.2.2.2.2.2.2.2.2.2.2.2.2.2.2.2.1
theorem dX10_drifted_48 : decode cX10_drifted 48 = .ok (.aload_n 0, 1) := dq_g450.2.2.2.2.2.2.2.2.2.2.2.2.2.2.2.2.2.2.2.2.2.2.2.2.2.2.2.1
theorem dX10_drifted_49 : decode cX10_drifted 49 = .ok (.aload_n 0, 1) := dq_g450.2.2.2.2.2.2.2.2.2.2.2.2.2.2.2.2.2.2.2.2.2.2.2.2.2.2.2.2.1
theorem dX10_drifted_50 : decode cX10_drifted 50 = .ok (.getfield 322, 3) := dq_g450.2.2.2.2.2.2.2.2.2.2.2.2.2.2.2.2.2.2.2.2.2.2.2.2.2.2.2.2.2.1
theorem dq_g451 : decode cX10_drifted 53 = .ok (.iconst 3, 1) ∧ decode cX10_drifted 54 = .ok (.iconst 0, 1) ∧ decode cX10_drifted 55 = .ok (.invokevirtual 319, 3) ∧ decode cX10_drifted 58 = .ok (.istore 5, 2) ∧ decode cX10_drifted 60 = .ok (.iload 4, 2) ∧ decode cX10_drifted 62 = .ok (.i2l, 1) ∧ decode cX10_drifted 63 = .ok (.sipush 10000, 3) ∧ decode cX10_drifted 66 = .ok (.iload 5, 2) ∧ decode cX10_drifted 68 = .ok (.isub, 1) ∧ decode cX10_drifted 69 = .ok (.i2l, 1) ∧ decode cX10_drifted 70 = .ok (.lmul, 1) ∧ decode cX10_drifted 71 = .ok (.ldc2_w 420, 3) ∧ decode cX10_drifted 74 = .ok (.ldiv, 1) ∧ decode cX10_drifted 75 = .ok (.lstore 6, 2) ∧ decode cX10_drifted 77 = .ok (.lload 6, 2) ∧ decode cX10_drifted 79 = .ok (.ldc2_w 396, 3) ∧ decode cX10_drifted 82 = .ok (.lcmp, 1) ∧ decode cX10_drifted 83 = .ok (.ifCond .le 9, 3) ∧ decode cX10_drifted 86 = .ok (.ldc_w 398, 3) ∧ decode cX10_drifted 89 = .ok (.goto 6, 3) ∧ decode cX10_drifted 92 = .ok (.lload 6, 2) ∧ decode cX10_drifted 94 = .ok (.l2i, 1) ∧ decode cX10_drifted 95 = .ok (.ireturn, 1) ∧ True := dqC_ok (c := cX10_drifted) [(53, 1, some (.iconst 3)), (54, 1, some (.iconst 0)), (55, 3, some (.invokevirtual 319)), (58, 2, some (.istore 5)), (60, 2, some (.iload 4)), (62, 1, some (.i2l)), (63, 3, some (.sipush 10000)), (66, 2, some (.iload 5)), (68, 1, some (.isub)), (69, 1, some (.i2l)), (70, 1, some (.lmul)), (71, 3, some (.ldc2_w 420)), (74, 1, some (.ldiv)), (75, 2, some (.lstore 6)), (77, 2, some (.lload 6)), (79, 3, some (.ldc2_w 396)), (82, 1, some (.lcmp)), (83, 3, some (.ifCond .le 9)), (86, 3, some (.ldc_w 398)), (89, 3, some (.goto 6)), (92, 2, some (.lload 6)), (94, 1, some (.l2i)), (95, 1, some (.ireturn))] _ 53 rfl (by decide +kernel)
theorem dX10_drifted_53 : decode cX10_drifted 53 = .ok (.iconst 3, 1) := dq_g451.1
theorem dX10_drifted_54 : decode cX10_drifted 54 = .ok (.iconst 0, 1) := dq_g451.2.1
theorem dX10_drifted_55 : decode cX10_drifted 55 = .ok (.invokevirtual 319, 3) := dq_g451.2.2.1
theorem dX10_drifted_58 : decode cX10_drifted 58 = .ok (.istore 5, 2) := dq_g451.2.2.2.1
theorem dX10_drifted_60 : decode cX10_drifted 60 = .ok (.iload 4, 2) := dq_g451.2.2.2.2.1
theorem dX10_drifted_62 : decode cX10_drifted 62 = .ok (.i2l, 1) := dq_g451.2.2.2.2.2.1
theorem dX10_drifted_63 : decode cX10_drifted 63 = .ok (.sipush 10000, 3) := dq_g451.2.2.2.2.2.2.1
theorem dX10_drifted_66 : decode cX10_drifted 66 = .ok (.iload 5, 2) := dq_g451.2.2.2.2.2.2.2.1
theorem dX10_drifted_68 : decode cX10_drifted 68 = .ok (.isub, 1) := dq_g451.2.2.2.2.2.2.2.2.1
theorem dX10_drifted_69 : decode cX10_drifted 69 = .ok (.i2l, 1) := dq_g451.2.2.2.2.2.2.2.2.2.1
theorem dX10_drifted_70 : decode cX10_drifted 70 = .ok (.lmul, 1) := dq_g451.2.2.2.2.2.2.2.2.2.2.1
theorem dX10_drifted_71 : decode cX10_drifted 71 = .ok (.ldc2_w 420, 3) := dq_g451.2.2.2.2.2.2.2.2.2.2.2.1
theorem dX10_drifted_74 : decode cX10_drifted 74 = .ok (.ldiv, 1) := dq_g451.2.2.2.2.2.2.2.2.2.2.2.2.1
theorem dX10_drifted_75 : decode cX10_drifted 75 = .ok (.lstore 6, 2) := dq_g451.2.2.2.2.2.2.2.2.2.2.2.2.2.1
theorem dX10_drifted_77 : decode cX10_drifted 77 = .ok (.lload 6, 2) := dq_g451.2.2.2.2.2.2.2.2.2.2.2.2.2.2.1
theorem dX10_drifted_79 : decode cX10_drifted 79 = .ok (.ldc2_w 396, 3) := dq_g451.2.2.2.2.2.2.2.2.2.2.2.2.2.2.2.1
theorem dX10_drifted_82 : decode cX10_drifted 82 = .ok (.lcmp, 1) := dq_g451.2.2.2.2.2.2.2.2.2.2.2.2.2.2.2.2.1
theorem dX10_drifted_83 : decode cX10_drifted 83 = .ok (.ifCond .le 9, 3) := dq_g451.2.2.2.2.2.2.2.2.2.2.2.2.2.2.2.2.2.1
theorem dX10_drifted_86 : decode cX10_drifted 86 = .ok (.ldc_w 398, 3) := dq_g451.2.2.2.2.2.2.2.2.2.2.2.2.2.2.2.2.2.2.1
theorem dX10_drifted_89 : decode cX10_drifted 89 = .ok (.goto 6, 3) := dq_g451.2.2.2.2.2.2.2.2.2.2.2.2.2.2.2.2.2.2.2.1
theorem dX10_drifted_92 : decode cX10_drifted 92 = .ok (.lload 6, 2) := dq_g451.2.2.2.2.2.2.2.2.2.2.2.2.2.2.2.2.2.2.2.2.1
theorem dX10_drifted_94 : decode cX10_drifted 94 = .ok (.l2i, 1) := dq_g451.2.2.2.2.2.2.2.2.2.2.2.2.2.2.2.2.2.2.2.2.2.1
theorem dX10_drifted_95 : decode cX10_drifted 95 = .ok (.ireturn, 1) := dq_g451.2.2.2.2.2.2.2.2.2.2.2.2.2.2.2.2.2.2.2.2.2.2.1
theorem dq_g452 : decode cX10_sounds 0 = .ok (.sipush 1000, 3) ∧ decode cX10_sounds 3 = .ok (.sipush 3310, 3) ∧ decode cX10_sounds 6 = .ok (.bipush 6, 2) ∧ decode cX10_sounds 8 = .ok (.iload_n 2, 1) ∧ decode cX10_sounds 9 = .ok (.imul, 1) ∧ decode cX10_sounds 10 = .ok (.iadd, 1) ∧ decode cX10_sounds 11 = .ok (.imul, 1) ∧ decode cX10_sounds 12 = .ok (.iload_n 1, 1) ∧ decode cX10_sounds 13 = .ok (.idiv, 1) ∧ decode cX10_sounds 14 = .ok (.ireturn, 1) ∧ True := dqC_ok (c := cX10_sounds) [(0, 3, some (.sipush 1000)), (3, 3, some (.sipush 3310)), (6, 2, some (.bipush 6)), (8, 1, some (.iload_n 2)), (9, 1, some (.imul)), (10, 1, some (.iadd)), (11, 1, some (.imul)), (12, 1, some (.iload_n 1)), (13, 1, some (.idiv)), (14, 1, some (.ireturn))] _ 0 rfl (by decide +kernel)
theorem dX10_sounds_0 : decode cX10_sounds 0 = .ok (.sipush 1000, 3) := dq_g452.1
theorem dX10_sounds_3 : decode cX10_sounds 3 = .ok (.sipush 3310, 3) := dq_g452.2.1
theorem dX10_sounds_6 : decode cX10_sounds 6 = .ok (.bipush 6, 2) := dq_g452.2.2.1
theorem dX10_sounds_8 : decode cX10_sounds 8 = .ok (.iload_n 2, 1) := dq_g452.2.2.2.1
theorem dX10_sounds_9 : decode cX10_sounds 9 = .ok (.imul, 1) := dq_g452.2.2.2.2.1
theorem dX10_sounds_10 : decode cX10_sounds 10 = .ok (.iadd, 1) := dq_g452.2.2.2.2.2.1
theorem dX10_sounds_11 : decode cX10_sounds 11 = .ok (.imul, 1) := dq_g452.2.2.2.2.2.2.1
theorem dX10_sounds_12 : decode cX10_sounds 12 = .ok (.iload_n 1, 1) := dq_g452.2.2.2.2.2.2.2.1
theorem dX10_sounds_13 : decode cX10_sounds 13 = .ok (.idiv, 1) := dq_g452.2.2.2.2.2.2.2.2.1
theorem dX10_sounds_14 : decode cX10_sounds 14 = .ok (.ireturn, 1) := dq_g452.2.2.2.2.2.2.2.2.2.1
theorem dq_g453 : decode cX10_beatOf 0 = .ok (.aload_n 0, 1) ∧ decode cX10_beatOf 1 = .ok (.aload_n 0, 1) ∧ decode cX10_beatOf 2 = .ok (.aload_n 0, 1) ∧ decode cX10_beatOf 3 = .ok (.getfield 50, 3) ∧ decode cX10_beatOf 6 = .ok (.iconst 2, 1) ∧ decode cX10_beatOf 7 = .ok (.iload_n 1, 1) ∧ decode cX10_beatOf 8 = .ok (.imul, 1) ∧ decode cX10_beatOf 9 = .ok (.iload 4, 2) ∧ decode cX10_beatOf 11 = .ok (.iadd, 1) ∧ decode cX10_beatOf 12 = .ok (.iaload, 1) ∧ decode cX10_beatOf 13 = .ok (.iload_n 2, 1) ∧ decode cX10_beatOf 14 = .ok (.invokevirtual 422, 3) ∧ decode cX10_beatOf 17 = .ok (.aload_n 0, 1) ∧ decode cX10_beatOf 18 = .ok (.iload_n 1, 1) ∧ decode cX10_beatOf 19 = .ok (.iload_n 2, 1) ∧ decode cX10_beatOf 20 = .ok (.iload_n 3, 1) ∧ decode cX10_beatOf 21 = .ok (.invokevirtual 425, 3) ∧ decode cX10_beatOf 24 = .ok (.isub, 1) ∧ decode cX10_beatOf 25 = .ok (.invokevirtual 309, 3) ∧ decode cX10_beatOf 28 = .ok (.ireturn, 1) ∧ True := dqC_ok (c := cX10_beatOf) [(0, 1, some (.aload_n 0)), (1, 1, some (.aload_n 0)), (2, 1, some (.aload_n 0)), (3, 3, some (.getfield 50)), (6, 1, some (.iconst 2)), (7, 1, some (.iload_n 1)), (8, 1, some (.imul)), (9, 2, some (.iload 4)), (11, 1, some (.iadd)), (12, 1, some (.iaload)), (13, 1, some (.iload_n 2)), (14, 3, some (.invokevirtual 422)), (17, 1, some (.aload_n 0)), (18, 1, some (.iload_n 1)), (19, 1, some (.iload_n 2)), (20, 1, some (.iload_n 3)), (21, 3, some (.invokevirtual 425)), (24, 1, some (.isub)), (25, 3, some (.invokevirtual 309)), (28, 1, some (.ireturn))] _ 0 rfl (by decide +kernel)
theorem dX10_beatOf_0 : decode cX10_beatOf 0 = .ok (.aload_n 0, 1) := dq_g453.1
theorem dX10_beatOf_1 : decode cX10_beatOf 1 = .ok (.aload_n 0, 1) := dq_g453.2.1
theorem dX10_beatOf_2 : decode cX10_beatOf 2 = .ok (.aload_n 0, 1) := dq_g453.2.2.1
theorem dX10_beatOf_3 : decode cX10_beatOf 3 = .ok (.getfield 50, 3) := dq_g453.2.2.2.1
theorem dX10_beatOf_6 : decode cX10_beatOf 6 = .ok (.iconst 2, 1) := dq_g453.2.2.2.2.1
theorem dX10_beatOf_7 : decode cX10_beatOf 7 = .ok (.iload_n 1, 1) := dq_g453.2.2.2.2.2.1
theorem dX10_beatOf_8 : decode cX10_beatOf 8 = .ok (.imul, 1) := dq_g453.2.2.2.2.2.2.1
theorem dX10_beatOf_9 : decode cX10_beatOf 9 = .ok (.iload 4, 2) := dq_g453.2.2.2.2.2.2.2.1
theorem dX10_beatOf_11 : decode cX10_beatOf 11 = .ok (.iadd, 1) := dq_g453.2.2.2.2.2.2.2.2.1
theorem dX10_beatOf_12 : decode cX10_beatOf 12 = .ok (.iaload, 1) := dq_g453.2.2.2.2.2.2.2.2.2.1
theorem dX10_beatOf_13 : decode cX10_beatOf 13 = .ok (.iload_n 2, 1) := dq_g453.2.2.2.2.2.2.2.2.2.2.1
theorem dX10_beatOf_14 : decode cX10_beatOf 14 = .ok (.invokevirtual 422, 3) := dq_g453.2.2.2.2.2.2.2.2.2.2.2.1
theorem dX10_beatOf_17 : decode cX10_beatOf 17 = .ok (.aload_n 0, 1) := dq_g453.2.2.2.2.2.2.2.2.2.2.2.2.1
theorem dX10_beatOf_18 : decode cX10_beatOf 18 = .ok (.iload_n 1, 1) := dq_g453.2.2.2.2.2.2.2.2.2.2.2.2.2.1
theorem dX10_beatOf_19 : decode cX10_beatOf 19 = .ok (.iload_n 2, 1) := dq_g453.2.2.2.2.2.2.2.2.2.2.2.2.2.2.1
theorem dX10_beatOf_20 : decode cX10_beatOf 20 = .ok (.iload_n 3, 1) := dq_g453.2.2.2.2.2.2.2.2.2.2.2.2.2.2.2.1
theorem dX10_beatOf_21 : decode cX10_beatOf 21 = .ok (.invokevirtual 425, 3) := dq_g453.2.2.2.2.2.2.2.2.2.2.2.2.2.2.2.2.1
theorem dX10_beatOf_24 : decode cX10_beatOf 24 = .ok (.isub, 1) := dq_g453.2.2.2.2.2.2.2.2.2.2.2.2.2.2.2.2.2.1
theorem dX10_beatOf_25 : decode cX10_beatOf 25 = .ok (.invokevirtual 309, 3) := dq_g453.2.2.2.2.2.2.2.2.2.2.2.2.2.2.2.2.2.2.1
theorem dX10_beatOf_28 : decode cX10_beatOf 28 = .ok (.ireturn, 1) := dq_g453.2.2.2.2.2.2.2.2.2.2.2.2.2.2.2.2.2.2.2.1
theorem dq_g454 : decode cX10_tube 0 = .ok (.aload_n 0, 1) ∧ decode cX10_tube 1 = .ok (.iconst 0, 1) ∧ decode cX10_tube 2 = .ok (.putfield 167, 3) ∧ decode cX10_tube 5 = .ok (.aload_n 0, 1) ∧ decode cX10_tube 6 = .ok (.iload_n 1, 1) ∧ decode cX10_tube 7 = .ok (.invokevirtual 173, 3) ∧ decode cX10_tube 10 = .ok (.ifCond .eq 25, 3) ∧ decode cX10_tube 13 = .ok (.aload_n 0, 1) ∧ decode cX10_tube 14 = .ok (.iload_n 2, 1) ∧ decode cX10_tube 15 = .ok (.iconst 0, 1) ∧ decode cX10_tube 16 = .ok (.iconst 1, 1) ∧ decode cX10_tube 17 = .ok (.invokevirtual 177, 3) ∧ decode cX10_tube 20 = .ok (.ifCond .eq 15, 3) ∧ decode cX10_tube 23 = .ok (.aload_n 0, 1) ∧ decode cX10_tube 24 = .ok (.iload_n 3, 1) ∧ decode cX10_tube 25 = .ok (.iconst 1, 1) ∧ decode cX10_tube 26 = .ok (.sipush 9999, 3) ∧ decode cX10_tube 29 = .ok (.invokevirtual 177, 3) ∧ decode cX10_tube 32 = .ok (.ifCond .ne 5, 3) ∧ decode cX10_tube 35 = .ok (.iconst 0, 1) ∧ decode cX10_tube 36 = .ok (.ireturn, 1) ∧ decode cX10_tube 37 = .ok (.aload_n 0, 1) ∧ decode cX10_tube 38 = .ok (.getfield 50, 3) ∧ decode cX10_tube 41 = .ok (.iconst 2, 1) ∧ decode cX10_tube 42 = .ok (.iload_n 1, 1) ∧ decode cX10_tube 43 = .ok (.imul, 1) ∧ decode cX10_tube 44 = .ok (.iload_n 2, 1) ∧ decode cX10_tube 45 = .ok (.iadd, 1) ∧ decode cX10_tube 46 = .ok (.iload_n 3, 1) ∧ decode cX10_tube 47 = .ok (.iastore, 1) ∧ True := dqC_ok (c := cX10_tube) [(0, 1, some (.aload_n 0)), (1, 1, some (.iconst 0)), (2, 3, some (.putfield 167)), (5, 1, some (.aload_n 0)), (6, 1, some (.iload_n 1)), (7, 3, some (.invokevirtual 173)), (10, 3, some (.ifCond .eq 25)), (13, 1, some (.aload_n 0)), (14, 1, some (.iload_n 2)), (15, 1, some (.iconst 0)), (16, 1, some (.iconst 1)), (17, 3, some (.invokevirtual 177)), (20, 3, some (.ifCond .eq 15)), (23, 1, some (.aload_n 0)), (24, 1, some (.iload_n 3)), (25, 1, some (.iconst 1)), (26, 3, some (.sipush 9999)), (29, 3, some (.invokevirtual 177)), (32, 3, some (.ifCond .ne 5)), (35, 1, some (.iconst 0)), (36, 1, some (.ireturn)), (37, 1, some (.aload_n 0)), (38, 3, some (.getfield 50)), (41, 1, some (.iconst 2)), (42, 1, some (.iload_n 1)), (43, 1, some (.imul)), (44, 1, some (.iload_n 2)), (45, 1, some (.iadd)), (46, 1, some (.iload_n 3)), (47, 1, some (.iastore))] _ 0 rfl (by decide +kernel)
theorem dX10_tube_0 : decode cX10_tube 0 = .ok (.aload_n 0, 1) := dq_g454.1
theorem dX10_tube_1 : decode cX10_tube 1 = .ok (.iconst 0, 1) := dq_g454.2.1
theorem dX10_tube_2 : decode cX10_tube 2 = .ok (.putfield 167, 3) := dq_g454.2.2.1
theorem dX10_tube_5 : decode cX10_tube 5 = .ok (.aload_n 0, 1) := dq_g454.2.2.2.1
theorem dX10_tube_6 : decode cX10_tube 6 = .ok (.iload_n 1, 1) := dq_g454.2.2.2.2.1
theorem dX10_tube_7 : decode cX10_tube 7 = .ok (.invokevirtual 173, 3) := dq_g454.2.2.2.2.2.1
theorem dX10_tube_10 : decode cX10_tube 10 = .ok (.ifCond .eq 25, 3) := dq_g454.2.2.2.2.2.2.1
theorem dX10_tube_13 : decode cX10_tube 13 = .ok (.aload_n 0, 1) := dq_g454.2.2.2.2.2.2.2.1
theorem dX10_tube_14 : decode cX10_tube 14 = .ok (.iload_n 2, 1) := dq_g454.2.2.2.2.2.2.2.2.1
theorem dX10_tube_15 : decode cX10_tube 15 = .ok (.iconst 0, 1) := dq_g454.2.2.2.2.2.2.2.2.2.1
theorem dX10_tube_16 : decode cX10_tube 16 = .ok (.iconst 1, 1) := dq_g454.2.2.2.2.2.2.2.2.2.2.1
theorem dX10_tube_17 : decode cX10_tube 17 = .ok (.invokevirtual 177, 3) := dq_g454.2.2.2.2.2.2.2.2.2.2.2.1
theorem dX10_tube_20 : decode cX10_tube 20 = .ok (.ifCond .eq 15, 3) := dq_g454.2.2.2.2.2.2.2.2.2.2.2.2.1
theorem dX10_tube_23 : decode cX10_tube 23 = .ok (.aload_n 0, 1) := dq_g454.2.2.2.2.2.2.2.2.2.2.2.2.2.1
theorem dX10_tube_24 : decode cX10_tube 24 = .ok (.iload_n 3, 1) := dq_g454.2.2.2.2.2.2.2.2.2.2.2.2.2.2.1
theorem dX10_tube_25 : decode cX10_tube 25 = .ok (.iconst 1, 1) := dq_g454.2.2.2.2.2.2.2.2.2.2.2.2.2.2.2.1
theorem dX10_tube_26 : decode cX10_tube 26 = .ok (.sipush 9999, 3) := dq_g454.2.2.2.2.2.2.2.2.2.2.2.2.2.2.2.2.1
theorem dX10_tube_29 : decode cX10_tube 29 = .ok (.invokevirtual 177, 3) := dq_g454.2.2.2.2.2.2.2.2.2.2.2.2.2.2.2.2.2.1
theorem dX10_tube_32 : decode cX10_tube 32 = .ok (.ifCond .ne 5, 3) := dq_g454.2.2.2.2.2.2.2.2.2.2.2.2.2.2.2.2.2.2.1
theorem dX10_tube_35 : decode cX10_tube 35 = .ok (.iconst 0, 1) := dq_g454.2.2.2.2.2.2.2.2.2.2.2.2.2.2.2.2.2.2.2.1
theorem dX10_tube_36 : decode cX10_tube 36 = .ok (.ireturn, 1) := dq_g454.2.2.2.2.2.2.2.2.2.2.2.2.2.2.2.2.2.2.2.2.1
theorem dX10_tube_37 : decode cX10_tube 37 = .ok (.aload_n 0, 1) := dq_g454.2.2.2.2.2.2.2.2.2.2.2.2.2.2.2.2.2.2.2.2.2.1
theorem dX10_tube_38 : decode cX10_tube 38 = .ok (.getfield 50, 3) := dq_g454.2.2.2.2.2.2.2.2.2.2.2.2.2.2.2.2.2.2.2.2.2.2.1
theorem dX10_tube_41 : decode cX10_tube 41 = .ok (.iconst 2, 1) := dq_g454.2.2.2.2.2.2.2.2.2.2.2.2.2.2.2.2.2.2.2.2.2.2.2.1
theorem dX10_tube_42 : decode cX10_tube 42 = .ok (.iload_n 1, 1) := dq_g454.2.2.2.2.2.2.2.2.2.2.2.2.2.2.2.2.2.2.2.2.2.2.2.2.1
theorem dX10_tube_43 : decode cX10_tube 43 = .ok (.imul, 1) := dq_g454.2.2.2.2.2.2.2.2.2.2.2.2.2.2.2.2.2.2.2.2.2.2.2.2.2.1
theorem dX10_tube_44 : decode cX10_tube 44 = .ok (.iload_n 2, 1) := dq_g454.2.2.2.2.2.2.2.2.2.2.2.2.2.2.2.2.2.2.2.2.2.2.2.2.2.2.1
theorem dX10_tube_45 : decode cX10_tube 45 = .ok (.iadd, 1) := dq_g454.2.2.2.2.2.2.2.2.2.2.2.2.2.2.2.2.2.2.2.2.2.2.2.2.2.2.2.1
theorem dX10_tube_46 : decode cX10_tube 46 = .ok (.iload_n 3, 1) := dq_g454.2.2.2.2.2.2.2.2.2.2.2.2.2.2.2.2.2.2.2.2.2.2.2.2.2.2.2.2.1
theorem dX10_tube_47 : decode cX10_tube 47 = .ok (.iastore, 1) := dq_g454.2.2.2.2.2.2.2.2.2.2.2.2.2.2.2.2.2.2.2.2.2.2.2.2.2.2.2.2.2.1
theorem dq_g455 : decode cX10_tube 48 = .ok (.iconst 1, 1) ∧ decode cX10_tube 49 = .ok (.ireturn, 1) ∧ True := dqC_ok (c := cX10_tube) [(48, 1, some (.iconst 1)), (49, 1, some (.ireturn))] _ 48 rfl (by decide +kernel)
theorem dX10_tube_48 : decode cX10_tube 48 = .ok (.iconst 1, 1) := dq_g455.1
theorem dX10_tube_49 : decode cX10_tube 49 = .ok (.ireturn, 1) := dq_g455.2.1
theorem dq_g456 : decode cX10_in 0 = .ok (.aload_n 0, 1) ∧ decode cX10_in 1 = .ok (.iconst 0, 1) ∧ decode cX10_in 2 = .ok (.putfield 167, 3) ∧ decode cX10_in 5 = .ok (.aload_n 0, 1) ∧ decode cX10_in 6 = .ok (.iload_n 1, 1) ∧ decode cX10_in 7 = .ok (.invokevirtual 173, 3) ∧ decode cX10_in 10 = .ok (.ifCond .eq 30, 3) ∧ decode cX10_in 13 = .ok (.aload_n 0, 1) ∧ decode cX10_in 14 = .ok (.iload_n 2, 1) ∧ decode cX10_in 15 = .ok (.invokevirtual 428, 3) ∧ decode cX10_in 18 = .ok (.ifCond .eq 22, 3) ∧ decode cX10_in 21 = .ok (.aload_n 0, 1) ∧ decode cX10_in 22 = .ok (.iload_n 3, 1) ∧ decode cX10_in 23 = .ok (.invokevirtual 431, 3) ∧ decode cX10_in 26 = .ok (.ifCond .eq 14, 3) ∧ decode cX10_in 29 = .ok (.aload_n 0, 1) ∧ decode cX10_in 30 = .ok (.iload 4, 2) ∧ decode cX10_in 32 = .ok (.iconst 0, 1) ∧ decode cX10_in 33 = .ok (.iconst 3, 1) ∧ decode cX10_in 34 = .ok (.invokevirtual 177, 3) ∧ decode cX10_in 37 = .ok (.ifCond .ne 5, 3) ∧ decode cX10_in 40 = .ok (.iconst (-1), 1) ∧ decode cX10_in 41 = .ok (.ireturn, 1) ∧ decode cX10_in 42 = .ok (.iload 4, 2) ∧ decode cX10_in 44 = .ok (.iconst 1, 1) ∧ decode cX10_in 45 = .ok (.if_icmp .eq 9, 3) ∧ decode cX10_in 48 = .ok (.iload 4, 2) ∧ decode cX10_in 50 = .ok (.iconst 2, 1) ∧ decode cX10_in 51 = .ok (.if_icmp .ne 15, 3) ∧ decode cX10_in 54 = .ok (.aload_n 0, 1) ∧ True := dqC_ok (c := cX10_in) [(0, 1, some (.aload_n 0)), (1, 1, some (.iconst 0)), (2, 3, some (.putfield 167)), (5, 1, some (.aload_n 0)), (6, 1, some (.iload_n 1)), (7, 3, some (.invokevirtual 173)), (10, 3, some (.ifCond .eq 30)), (13, 1, some (.aload_n 0)), (14, 1, some (.iload_n 2)), (15, 3, some (.invokevirtual 428)), (18, 3, some (.ifCond .eq 22)), (21, 1, some (.aload_n 0)), (22, 1, some (.iload_n 3)), (23, 3, some (.invokevirtual 431)), (26, 3, some (.ifCond .eq 14)), (29, 1, some (.aload_n 0)), (30, 2, some (.iload 4)), (32, 1, some (.iconst 0)), (33, 1, some (.iconst 3)), (34, 3, some (.invokevirtual 177)), (37, 3, some (.ifCond .ne 5)), (40, 1, some (.iconst (-1))), (41, 1, some (.ireturn)), (42, 2, some (.iload 4)), (44, 1, some (.iconst 1)), (45, 3, some (.if_icmp .eq 9)), (48, 2, some (.iload 4)), (50, 1, some (.iconst 2)), (51, 3, some (.if_icmp .ne 15)), (54, 1, some (.aload_n 0))] _ 0 rfl (by decide +kernel)
theorem dX10_in_0 : decode cX10_in 0 = .ok (.aload_n 0, 1) := dq_g456.1
theorem dX10_in_1 : decode cX10_in 1 = .ok (.iconst 0, 1) := dq_g456.2.1
theorem dX10_in_2 : decode cX10_in 2 = .ok (.putfield 167, 3) := dq_g456.2.2.1
theorem dX10_in_5 : decode cX10_in 5 = .ok (.aload_n 0, 1) := dq_g456.2.2.2.1
theorem dX10_in_6 : decode cX10_in 6 = .ok (.iload_n 1, 1) := dq_g456.2.2.2.2.1
theorem dX10_in_7 : decode cX10_in 7 = .ok (.invokevirtual 173, 3) := dq_g456.2.2.2.2.2.1
theorem dX10_in_10 : decode cX10_in 10 = .ok (.ifCond .eq 30, 3) := dq_g456.2.2.2.2.2.2.1
theorem dX10_in_13 : decode cX10_in 13 = .ok (.aload_n 0, 1) := dq_g456.2.2.2.2.2.2.2.1
theorem dX10_in_14 : decode cX10_in 14 = .ok (.iload_n 2, 1) := dq_g456.2.2.2.2.2.2.2.2.1
theorem dX10_in_15 : decode cX10_in 15 = .ok (.invokevirtual 428, 3) := dq_g456.2.2.2.2.2.2.2.2.2.1
theorem dX10_in_18 : decode cX10_in 18 = .ok (.ifCond .eq 22, 3) := dq_g456.2.2.2.2.2.2.2.2.2.2.1
theorem dX10_in_21 : decode cX10_in 21 = .ok (.aload_n 0, 1) := dq_g456.2.2.2.2.2.2.2.2.2.2.2.1
theorem dX10_in_22 : decode cX10_in 22 = .ok (.iload_n 3, 1) := dq_g456.2.2.2.2.2.2.2.2.2.2.2.2.1
theorem dX10_in_23 : decode cX10_in 23 = .ok (.invokevirtual 431, 3) := dq_g456.2.2.2.2.2.2.2.2.2.2.2.2.2.1
theorem dX10_in_26 : decode cX10_in 26 = .ok (.ifCond .eq 14, 3) := dq_g456.2.2.2.2.2.2.2.2.2.2.2.2.2.2.1
theorem dX10_in_29 : decode cX10_in 29 = .ok (.aload_n 0, 1) := dq_g456.2.2.2.2.2.2.2.2.2.2.2.2.2.2.2.1
theorem dX10_in_30 : decode cX10_in 30 = .ok (.iload 4, 2) := dq_g456.2.2.2.2.2.2.2.2.2.2.2.2.2.2.2.2.1
theorem dX10_in_32 : decode cX10_in 32 = .ok (.iconst 0, 1) := dq_g456.2.2.2.2.2.2.2.2.2.2.2.2.2.2.2.2.2.1
theorem dX10_in_33 : decode cX10_in 33 = .ok (.iconst 3, 1) := dq_g456.2.2.2.2.2.2.2.2.2.2.2.2.2.2.2.2.2.2.1
theorem dX10_in_34 : decode cX10_in 34 = .ok (.invokevirtual 177, 3) := dq_g456.2.2.2.2.2.2.2.2.2.2.2.2.2.2.2.2.2.2.2.1
theorem dX10_in_37 : decode cX10_in 37 = .ok (.ifCond .ne 5, 3) := dq_g456.2.2.2.2.2.2.2.2.2.2.2.2.2.2.2.2.2.2.2.2.1
theorem dX10_in_40 : decode cX10_in 40 = .ok (.iconst (-1), 1) := dq_g456.2.2.2.2.2.2.2.2.2.2.2.2.2.2.2.2.2.2.2.2.2.1
theorem dX10_in_41 : decode cX10_in 41 = .ok (.ireturn, 1) := dq_g456.2.2.2.2.2.2.2.2.2.2.2.2.2.2.2.2.2.2.2.2.2.2.1
theorem dX10_in_42 : decode cX10_in 42 = .ok (.iload 4, 2) := dq_g456.2.2.2.2.2.2.2.2.2.2.2.2.2.2.2.2.2.2.2.2.2.2.2.1
theorem dX10_in_44 : decode cX10_in 44 = .ok (.iconst 1, 1) := dq_g456.2.2.2.2.2.2.2.2.2.2.2.2.2.2.2.2.2.2.2.2.2.2.2.2.1
theorem dX10_in_45 : decode cX10_in 45 = .ok (.if_icmp .eq 9, 3) := dq_g456.2.2.2.2.2.2.2.2.2.2.2.2.2.2.2.2.2.2.2.2.2.2.2.2.2.1
theorem dX10_in_48 : decode cX10_in 48 = .ok (.iload 4, 2) := dq_g456.2.2.2.2.2.2.2.2.2.2.2.2.2.2.2.2.2.2.2.2.2.2.2.2.2.2.1
theorem dX10_in_50 : decode cX10_in 50 = .ok (.iconst 2, 1) := dq_g456.2.2.2.2.2.2.2.2.2.2.2.2.2.2.2.2.2.2.2.2.2.2.2.2.2.2.2.1
theorem dX10_in_51 : decode cX10_in 51 = .ok (.if_icmp .ne 15, 3) := dq_g456.2.2.2.2.2.2.2.2.2.2.2.2.2.2.2.2.2.2.2.2.2.2.2.2.2.2.2.2.1
theorem dX10_in_54 : decode cX10_in 54 = .ok (.aload_n 0, 1) := dq_g456.2.2.2.2.2.2.2.2.2.2.2.2.2.2.2.2.2.2.2.2.2.2.2.2.2.2.2.2.2.1
theorem dq_g457 : decode cX10_in 55 = .ok (.iload_n 1, 1) ∧ decode cX10_in 56 = .ok (.iload_n 2, 1) ∧ decode cX10_in 57 = .ok (.iload_n 3, 1) ∧ decode cX10_in 58 = .ok (.iload 4, 2) ∧ decode cX10_in 60 = .ok (.iconst 1, 1) ∧ decode cX10_in 61 = .ok (.isub, 1) ∧ decode cX10_in 62 = .ok (.invokevirtual 434, 3) ∧ decode cX10_in 65 = .ok (.ireturn, 1) ∧ decode cX10_in 66 = .ok (.aload_n 0, 1) ∧ decode cX10_in 67 = .ok (.iload_n 1, 1) ∧ decode cX10_in 68 = .ok (.iload_n 2, 1) ∧ decode cX10_in 69 = .ok (.iload_n 3, 1) ∧ decode cX10_in 70 = .ok (.invokevirtual 425, 3) ∧ decode cX10_in 73 = .ok (.istore 5, 2) ∧ decode cX10_in 75 = .ok (.iload 4, 2) ∧ decode cX10_in 77 = .ok (.ifCond .ne 6, 3) ∧ decode cX10_in 80 = .ok (.iload 5, 2) ∧ decode cX10_in 82 = .ok (.ireturn, 1) ∧ decode cX10_in 83 = .ok (.iconst 1, 1) ∧ decode cX10_in 84 = .ok (.istore 6, 2) ∧ decode cX10_in 86 = .ok (.iconst 2, 1) ∧ decode cX10_in 87 = .ok (.istore 7, 2) ∧ decode cX10_in 89 = .ok (.iload 7, 2) ∧ decode cX10_in 91 = .ok (.sipush 9999, 3) ∧ decode cX10_in 94 = .ok (.if_icmp .gt 44, 3) ∧ decode cX10_in 97 = .ok (.aload_n 0, 1) ∧ decode cX10_in 98 = .ok (.aload_n 0, 1) ∧ decode cX10_in 99 = .ok (.iload 7, 2) ∧ decode cX10_in 101 = .ok (.iload_n 2, 1) ∧ decode cX10_in 102 = .ok (.invokevirtual 422, 3) ∧ True := dqC_ok (c := cX10_in) [(55, 1, some (.iload_n 1)), (56, 1, some (.iload_n 2)), (57, 1, some (.iload_n 3)), (58, 2, some (.iload 4)), (60, 1, some (.iconst 1)), (61, 1, some (.isub)), (62, 3, some (.invokevirtual 434)), (65, 1, some (.ireturn)), (66, 1, some (.aload_n 0)), (67, 1, some (.iload_n 1)), (68, 1, some (.iload_n 2)), (69, 1, some (.iload_n 3)), (70, 3, some (.invokevirtual 425)), (73, 2, some (.istore 5)), (75, 2, some (.iload 4)), (77, 3, some (.ifCond .ne 6)), (80, 2, some (.iload 5)), (82, 1, some (.ireturn)), (83, 1, some (.iconst 1)), (84, 2, some (.istore 6)), (86, 1, some (.iconst 2)), (87, 2, some (.istore 7)), (89, 2, some (.iload 7)), (91, 3, some (.sipush 9999)), (94, 3, some (.if_icmp .gt 44)), (97, 1, some (.aload_n 0)), (98, 1, some (.aload_n 0)), (99, 2, some (.iload 7)), (101, 1, some (.iload_n 2)), (102, 3, some (.invokevirtual 422))] _ 55 rfl (by decide +kernel)
theorem dX10_in_55 : decode cX10_in 55 = .ok (.iload_n 1, 1) := dq_g457.1
theorem dX10_in_56 : decode cX10_in 56 = .ok (.iload_n 2, 1) := dq_g457.2.1
theorem dX10_in_57 : decode cX10_in 57 = .ok (.iload_n 3, 1) := dq_g457.2.2.1
theorem dX10_in_58 : decode cX10_in 58 = .ok (.iload 4, 2) := dq_g457.2.2.2.1
theorem dX10_in_60 : decode cX10_in 60 = .ok (.iconst 1, 1) := dq_g457.2.2.2.2.1
theorem dX10_in_61 : decode cX10_in 61 = .ok (.isub, 1) := dq_g457.2.2.2.2.2.1
theorem dX10_in_62 : decode cX10_in 62 = .ok (.invokevirtual 434, 3) := dq_g457.2.2.2.2.2.2.1
theorem dX10_in_65 : decode cX10_in 65 = .ok (.ireturn, 1) := dq_g457.2.2.2.2.2.2.2.1
theorem dX10_in_66 : decode cX10_in 66 = .ok (.aload_n 0, 1) := dq_g457.2.2.2.2.2.2.2.2.1
theorem dX10_in_67 : decode cX10_in 67 = .ok (.iload_n 1, 1) := dq_g457.2.2.2.2.2.2.2.2.2.1
theorem dX10_in_68 : decode cX10_in 68 = .ok (.iload_n 2, 1) := dq_g457.2.2.2.2.2.2.2.2.2.2.1
theorem dX10_in_69 : decode cX10_in 69 = .ok (.iload_n 3, 1) := dq_g457.2.2.2.2.2.2.2.2.2.2.2.1
theorem dX10_in_70 : decode cX10_in 70 = .ok (.invokevirtual 425, 3) := dq_g457.2.2.2.2.2.2.2.2.2.2.2.2.1
theorem dX10_in_73 : decode cX10_in 73 = .ok (.istore 5, 2) := dq_g457.2.2.2.2.2.2.2.2.2.2.2.2.2.1
theorem dX10_in_75 : decode cX10_in 75 = .ok (.iload 4, 2) := dq_g457.2.2.2.2.2.2.2.2.2.2.2.2.2.2.1
theorem dX10_in_77 : decode cX10_in 77 = .ok (.ifCond .ne 6, 3) := dq_g457.2.2.2.2.2.2.2.2.2.2.2.2.2.2.2.1
theorem dX10_in_80 : decode cX10_in 80 = .ok (.iload 5, 2) := dq_g457.2.2.2.2.2.2.2.2.2.2.2.2.2.2.2.2.1
theorem dX10_in_82 : decode cX10_in 82 = .ok (.ireturn, 1) := dq_g457.2.2.2.2.2.2.2.2.2.2.2.2.2.2.2.2.2.1
theorem dX10_in_83 : decode cX10_in 83 = .ok (.iconst 1, 1) := dq_g457.2.2.2.2.2.2.2.2.2.2.2.2.2.2.2.2.2.2.1
theorem dX10_in_84 : decode cX10_in 84 = .ok (.istore 6, 2) := dq_g457.2.2.2.2.2.2.2.2.2.2.2.2.2.2.2.2.2.2.2.1
theorem dX10_in_86 : decode cX10_in 86 = .ok (.iconst 2, 1) := dq_g457.2.2.2.2.2.2.2.2.2.2.2.2.2.2.2.2.2.2.2.2.1
theorem dX10_in_87 : decode cX10_in 87 = .ok (.istore 7, 2) := dq_g457.2.2.2.2.2.2.2.2.2.2.2.2.2.2.2.2.2.2.2.2.2.1
theorem dX10_in_89 : decode cX10_in 89 = .ok (.iload 7, 2) := dq_g457.2.2.2.2.2.2.2.2.2.2.2.2.2.2.2.2.2.2.2.2.2.2.1
theorem dX10_in_91 : decode cX10_in 91 = .ok (.sipush 9999, 3) := dq_g457.2.2.2.2.2.2.2.2.2.2.2.2.2.2.2.2.2.2.2.2.2.2.2.1
theorem dX10_in_94 : decode cX10_in 94 = .ok (.if_icmp .gt 44, 3) := dq_g457.2.2.2.2.2.2.2.2.2.2.2.2.2.2.2.2.2.2.2.2.2.2.2.2.1
theorem dX10_in_97 : decode cX10_in 97 = .ok (.aload_n 0, 1) := dq_g457.2.2.2.2.2.2.2.2.2.2.2.2.2.2.2.2.2.2.2.2.2.2.2.2.2.1
theorem dX10_in_98 : decode cX10_in 98 = .ok (.aload_n 0, 1) := dq_g457.2.2.2.2.2.2.2.2.2.2.2.2.2.2.2.2.2.2.2.2.2.2.2.2.2.2.1
theorem dX10_in_99 : decode cX10_in 99 = .ok (.iload 7, 2) := dq_g457.2.2.2.2.2.2.2.2.2.2.2.2.2.2.2.2.2.2.2.2.2.2.2.2.2.2.2.1
theorem dX10_in_101 : decode cX10_in 101 = .ok (.iload_n 2, 1) := dq_g457.2.2.2.2.2.2.2.2.2.2.2.2.2.2.2.2.2.2.2.2.2.2.2.2.2.2.2.2.1
theorem dX10_in_102 : decode cX10_in 102 = .ok (.invokevirtual 422, 3) := dq_g457.2.2.2.2.2.2.2.2.2.2.2.2.2.2.2.2.2.2.2.2.2.2.2.2.2.2.2.2.2.1
theorem dq_g458 : decode cX10_in 105 = .ok (.iload 5, 2) ∧ decode cX10_in 107 = .ok (.isub, 1) ∧ decode cX10_in 108 = .ok (.invokevirtual 309, 3) ∧ decode cX10_in 111 = .ok (.aload_n 0, 1) ∧ decode cX10_in 112 = .ok (.aload_n 0, 1) ∧ decode cX10_in 113 = .ok (.iload 6, 2) ∧ decode cX10_in 115 = .ok (.iload_n 2, 1) ∧ decode cX10_in 116 = .ok (.invokevirtual 422, 3) ∧ decode cX10_in 119 = .ok (.iload 5, 2) ∧ decode cX10_in 121 = .ok (.isub, 1) ∧ decode cX10_in 122 = .ok (.invokevirtual 309, 3) ∧ decode cX10_in 125 = .ok (.if_icmp .ge 7, 3) ∧ decode cX10_in 128 = .ok (.iload 7, 2) ∧ decode cX10_in 130 = .ok (.istore 6, 2) ∧ decode cX10_in 132 = .ok (.iinc 7 1, 3) ∧ decode cX10_in 135 = .ok (.goto (-46), 3) ∧ decode cX10_in 138 = .ok (.iload 6, 2) ∧ decode cX10_in 140 = .ok (.ireturn, 1) ∧ True := dqC_ok (c := cX10_in) [(105, 2, some (.iload 5)), (107, 1, some (.isub)), (108, 3, some (.invokevirtual 309)), (111, 1, some (.aload_n 0)), (112, 1, some (.aload_n 0)), (113, 2, some (.iload 6)), (115, 1, some (.iload_n 2)), (116, 3, some (.invokevirtual 422)), (119, 2, some (.iload 5)), (121, 1, some (.isub)), (122, 3, some (.invokevirtual 309)), (125, 3, some (.if_icmp .ge 7)), (128, 2, some (.iload 7)), (130, 2, some (.istore 6)), (132, 3, some (.iinc 7 1)), (135, 3, some (.goto (-46))), (138, 2, some (.iload 6)), (140, 1, some (.ireturn))] _ 105 rfl (by decide +kernel)
theorem dX10_in_105 : decode cX10_in 105 = .ok (.iload 5, 2) := dq_g458.1
theorem dX10_in_107 : decode cX10_in 107 = .ok (.isub, 1) := dq_g458.2.1
theorem dX10_in_108 : decode cX10_in 108 = .ok (.invokevirtual 309, 3) := dq_g458.2.2.1
theorem dX10_in_111 : decode cX10_in 111 = .ok (.aload_n 0, 1) := dq_g458.2.2.2.1
theorem dX10_in_112 : decode cX10_in 112 = .ok (.aload_n 0, 1) := dq_g458.2.2.2.2.1
theorem dX10_in_113 : decode cX10_in 113 = .ok (.iload 6, 2) := dq_g458.2.2.2.2.2.1
theorem dX10_in_115 : decode cX10_in 115 = .ok (.iload_n 2, 1) := dq_g458.2.2.2.2.2.2.1
theorem dX10_in_116 : decode cX10_in 116 = .ok (.invokevirtual 422, 3) := dq_g458.2.2.2.2.2.2.2.1
theorem dX10_in_119 : decode cX10_in 119 = .ok (.iload 5, 2) := dq_g458.2.2.2.2.2.2.2.2.1
theorem dX10_in_121 : decode cX10_in 121 = .ok (.isub, 1) := dq_g458.2.2.2.2.2.2.2.2.2.1
theorem dX10_in_122 : decode cX10_in 122 = .ok (.invokevirtual 309, 3) := dq_g458.2.2.2.2.2.2.2.2.2.2.1
theorem dX10_in_125 : decode cX10_in 125 = .ok (.if_icmp .ge 7, 3) := dq_g458.2.2.2.2.2.2.2.2.2.2.2.1
theorem dX10_in_128 : decode cX10_in 128 = .ok (.iload 7, 2) := dq_g458.2.2.2.2.2.2.2.2.2.2.2.2.1
theorem dX10_in_130 : decode cX10_in 130 = .ok (.istore 6, 2) := dq_g458.2.2.2.2.2.2.2.2.2.2.2.2.2.1
theorem dX10_in_132 : decode cX10_in 132 = .ok (.iinc 7 1, 3) := dq_g458.2.2.2.2.2.2.2.2.2.2.2.2.2.2.1
theorem dX10_in_135 : decode cX10_in 135 = .ok (.goto (-46), 3) := dq_g458.2.2.2.2.2.2.2.2.2.2.2.2.2.2.2.1
theorem dX10_in_138 : decode cX10_in 138 = .ok (.iload 6, 2) := dq_g458.2.2.2.2.2.2.2.2.2.2.2.2.2.2.2.2.1
theorem dX10_in_140 : decode cX10_in 140 = .ok (.ireturn, 1) := dq_g458.2.2.2.2.2.2.2.2.2.2.2.2.2.2.2.2.2.1
theorem dq_g459 : decode cX10_night 0 = .ok (.aload_n 0, 1) ∧ decode cX10_night 1 = .ok (.iconst 0, 1) ∧ decode cX10_night 2 = .ok (.putfield 167, 3) ∧ decode cX10_night 5 = .ok (.aload_n 0, 1) ∧ decode cX10_night 6 = .ok (.iload_n 1, 1) ∧ decode cX10_night 7 = .ok (.invokevirtual 428, 3) ∧ decode cX10_night 10 = .ok (.ifCond .eq 20, 3) ∧ decode cX10_night 13 = .ok (.aload_n 0, 1) ∧ decode cX10_night 14 = .ok (.iload_n 2, 1) ∧ decode cX10_night 15 = .ok (.invokevirtual 431, 3) ∧ decode cX10_night 18 = .ok (.ifCond .eq 12, 3) ∧ decode cX10_night 21 = .ok (.aload_n 0, 1) ∧ decode cX10_night 22 = .ok (.getfield 438, 3) ∧ decode cX10_night 25 = .ok (.bipush 20, 2) ∧ decode cX10_night 27 = .ok (.if_icmp .ne 5, 3) ∧ decode cX10_night 30 = .ok (.iconst (-1), 1) ∧ decode cX10_night 31 = .ok (.ireturn, 1) ∧ decode cX10_night 32 = .ok (.aload_n 0, 1) ∧ decode cX10_night 33 = .ok (.getfield 140, 3) ∧ decode cX10_night 36 = .ok (.aload_n 0, 1) ∧ decode cX10_night 37 = .ok (.getfield 438, 3) ∧ decode cX10_night 40 = .ok (.iload_n 1, 1) ∧ decode cX10_night 41 = .ok (.iastore, 1) ∧ decode cX10_night 42 = .ok (.aload_n 0, 1) ∧ decode cX10_night 43 = .ok (.getfield 143, 3) ∧ decode cX10_night 46 = .ok (.aload_n 0, 1) ∧ decode cX10_night 47 = .ok (.getfield 438, 3) ∧ decode cX10_night 50 = .ok (.iload_n 2, 1) ∧ decode cX10_night 51 = .ok (.iastore, 1) ∧ decode cX10_night 52 = .ok (.aload_n 0, 1) ∧ True := dqC_ok (c := cX10_night) [(0, 1, some (.aload_n 0)), (1, 1, some (.iconst 0)), (2, 3, some (.putfield 167)), (5, 1, some (.aload_n 0)), (6, 1, some (.iload_n 1)), (7, 3, some (.invokevirtual 428)), (10, 3, some (.ifCond .eq 20)), (13, 1, some (.aload_n 0)), (14, 1, some (.iload_n 2)), (15, 3, some (.invokevirtual 431)), (18, 3, some (.ifCond .eq 12)), (21, 1, some (.aload_n 0)), (22, 3, some (.getfield 438)), (25, 2, some (.bipush 20)), (27, 3, some (.if_icmp .ne 5)), (30, 1, some (.iconst (-1))), (31, 1, some (.ireturn)), (32, 1, some (.aload_n 0)), (33, 3, some (.getfield 140)), (36, 1, some (.aload_n 0)), (37, 3, some (.getfield 438)), (40, 1, some (.iload_n 1)), (41, 1, some (.iastore)), (42, 1, some (.aload_n 0)), (43, 3, some (.getfield 143)), (46, 1, some (.aload_n 0)), (47, 3, some (.getfield 438)), (50, 1, some (.iload_n 2)), (51, 1, some (.iastore)), (52, 1, some (.aload_n 0))] _ 0 rfl (by decide +kernel)
theorem dX10_night_0 : decode cX10_night 0 = .ok (.aload_n 0, 1) := dq_g459.1
theorem dX10_night_1 : decode cX10_night 1 = .ok (.iconst 0, 1) := dq_g459.2.1
theorem dX10_night_2 : decode cX10_night 2 = .ok (.putfield 167, 3) := dq_g459.2.2.1
theorem dX10_night_5 : decode cX10_night 5 = .ok (.aload_n 0, 1) := dq_g459.2.2.2.1
theorem dX10_night_6 : decode cX10_night 6 = .ok (.iload_n 1, 1) := dq_g459.2.2.2.2.1
theorem dX10_night_7 : decode cX10_night 7 = .ok (.invokevirtual 428, 3) := dq_g459.2.2.2.2.2.1
theorem dX10_night_10 : decode cX10_night 10 = .ok (.ifCond .eq 20, 3) := dq_g459.2.2.2.2.2.2.1
theorem dX10_night_13 : decode cX10_night 13 = .ok (.aload_n 0, 1) := dq_g459.2.2.2.2.2.2.2.1
theorem dX10_night_14 : decode cX10_night 14 = .ok (.iload_n 2, 1) := dq_g459.2.2.2.2.2.2.2.2.1
theorem dX10_night_15 : decode cX10_night 15 = .ok (.invokevirtual 431, 3) := dq_g459.2.2.2.2.2.2.2.2.2.1
theorem dX10_night_18 : decode cX10_night 18 = .ok (.ifCond .eq 12, 3) := dq_g459.2.2.2.2.2.2.2.2.2.2.1
theorem dX10_night_21 : decode cX10_night 21 = .ok (.aload_n 0, 1) := dq_g459.2.2.2.2.2.2.2.2.2.2.2.1
theorem dX10_night_22 : decode cX10_night 22 = .ok (.getfield 438, 3) := dq_g459.2.2.2.2.2.2.2.2.2.2.2.2.1
theorem dX10_night_25 : decode cX10_night 25 = .ok (.bipush 20, 2) := dq_g459.2.2.2.2.2.2.2.2.2.2.2.2.2.1
theorem dX10_night_27 : decode cX10_night 27 = .ok (.if_icmp .ne 5, 3) := dq_g459.2.2.2.2.2.2.2.2.2.2.2.2.2.2.1
theorem dX10_night_30 : decode cX10_night 30 = .ok (.iconst (-1), 1) := dq_g459.2.2.2.2.2.2.2.2.2.2.2.2.2.2.2.1
theorem dX10_night_31 : decode cX10_night 31 = .ok (.ireturn, 1) := dq_g459.2.2.2.2.2.2.2.2.2.2.2.2.2.2.2.2.1
theorem dX10_night_32 : decode cX10_night 32 = .ok (.aload_n 0, 1) := dq_g459.2.2.2.2.2.2.2.2.2.2.2.2.2.2.2.2.2.1
theorem dX10_night_33 : decode cX10_night 33 = .ok (.getfield 140, 3) := dq_g459.2.2.2.2.2.2.2.2.2.2.2.2.2.2.2.2.2.2.1
theorem dX10_night_36 : decode cX10_night 36 = .ok (.aload_n 0, 1) := dq_g459.2.2.2.2.2.2.2.2.2.2.2.2.2.2.2.2.2.2.2.1
theorem dX10_night_37 : decode cX10_night 37 = .ok (.getfield 438, 3) := dq_g459.2.2.2.2.2.2.2.2.2.2.2.2.2.2.2.2.2.2.2.2.1
theorem dX10_night_40 : decode cX10_night 40 = .ok (.iload_n 1, 1) := dq_g459.2.2.2.2.2.2.2.2.2.2.2.2.2.2.2.2.2.2.2.2.2.1
theorem dX10_night_41 : decode cX10_night 41 = .ok (.iastore, 1) := dq_g459.2.2.2.2.2.2.2.2.2.2.2.2.2.2.2.2.2.2.2.2.2.2.1
theorem dX10_night_42 : decode cX10_night 42 = .ok (.aload_n 0, 1) := dq_g459.2.2.2.2.2.2.2.2.2.2.2.2.2.2.2.2.2.2.2.2.2.2.2.1
theorem dX10_night_43 : decode cX10_night 43 = .ok (.getfield 143, 3) := dq_g459.2.2.2.2.2.2.2.2.2.2.2.2.2.2.2.2.2.2.2.2.2.2.2.2.1
theorem dX10_night_46 : decode cX10_night 46 = .ok (.aload_n 0, 1) := dq_g459.2.2.2.2.2.2.2.2.2.2.2.2.2.2.2.2.2.2.2.2.2.2.2.2.2.1
theorem dX10_night_47 : decode cX10_night 47 = .ok (.getfield 438, 3) := dq_g459.2.2.2.2.2.2.2.2.2.2.2.2.2.2.2.2.2.2.2.2.2.2.2.2.2.2.1
theorem dX10_night_50 : decode cX10_night 50 = .ok (.iload_n 2, 1) := dq_g459.2.2.2.2.2.2.2.2.2.2.2.2.2.2.2.2.2.2.2.2.2.2.2.2.2.2.2.1
theorem dX10_night_51 : decode cX10_night 51 = .ok (.iastore, 1) := dq_g459.2.2.2.2.2.2.2.2.2.2.2.2.2.2.2.2.2.2.2.2.2.2.2.2.2.2.2.2.1
theorem dX10_night_52 : decode cX10_night 52 = .ok (.aload_n 0, 1) := dq_g459.2.2.2.2.2.2.2.2.2.2.2.2.2.2.2.2.2.2.2.2.2.2.2.2.2.2.2.2.2.1
theorem dq_g460 : decode cX10_night 53 = .ok (.aload_n 0, 1) ∧ decode cX10_night 54 = .ok (.getfield 438, 3) ∧ decode cX10_night 57 = .ok (.iconst 1, 1) ∧ decode cX10_night 58 = .ok (.iadd, 1) ∧ decode cX10_night 59 = .ok (.putfield 438, 3) ∧ decode cX10_night 62 = .ok (.aload_n 0, 1) ∧ decode cX10_night 63 = .ok (.getfield 438, 3) ∧ decode cX10_night 66 = .ok (.iconst 1, 1) ∧ decode cX10_night 67 = .ok (.isub, 1) ∧ decode cX10_night 68 = .ok (.ireturn, 1) ∧ True := dqC_ok (c := cX10_night) [(53, 1, some (.aload_n 0)), (54, 3, some (.getfield 438)), (57, 1, some (.iconst 1)), (58, 1, some (.iadd)), (59, 3, some (.putfield 438)), (62, 1, some (.aload_n 0)), (63, 3, some (.getfield 438)), (66, 1, some (.iconst 1)), (67, 1, some (.isub)), (68, 1, some (.ireturn))] _ 53 rfl (by decide +kernel)
theorem dX10_night_53 : decode cX10_night 53 = .ok (.aload_n 0, 1) := dq_g460.1
theorem dX10_night_54 : decode cX10_night 54 = .ok (.getfield 438, 3) := dq_g460.2.1
theorem dX10_night_57 : decode cX10_night 57 = .ok (.iconst 1, 1) := dq_g460.2.2.1
theorem dX10_night_58 : decode cX10_night 58 = .ok (.iadd, 1) := dq_g460.2.2.2.1
theorem dX10_night_59 : decode cX10_night 59 = .ok (.putfield 438, 3) := dq_g460.2.2.2.2.1
theorem dX10_night_62 : decode cX10_night 62 = .ok (.aload_n 0, 1) := dq_g460.2.2.2.2.2.1
theorem dX10_night_63 : decode cX10_night 63 = .ok (.getfield 438, 3) := dq_g460.2.2.2.2.2.2.1
theorem dX10_night_66 : decode cX10_night 66 = .ok (.iconst 1, 1) := dq_g460.2.2.2.2.2.2.2.1
theorem dX10_night_67 : decode cX10_night 67 = .ok (.isub, 1) := dq_g460.2.2.2.2.2.2.2.2.1
theorem dX10_night_68 : decode cX10_night 68 = .ok (.ireturn, 1) := dq_g460.2.2.2.2.2.2.2.2.2.1
theorem dq_g461 : decode cX10_worstOf 0 = .ok (.iconst (-1), 1) ∧ decode cX10_worstOf 1 = .ok (.istore_n 3, 1) ∧ decode cX10_worstOf 2 = .ok (.iconst (-1), 1) ∧ decode cX10_worstOf 3 = .ok (.istore 4, 2) ∧ decode cX10_worstOf 5 = .ok (.iconst 0, 1) ∧ decode cX10_worstOf 6 = .ok (.istore 5, 2) ∧ decode cX10_worstOf 8 = .ok (.iload 5, 2) ∧ decode cX10_worstOf 10 = .ok (.aload_n 0, 1) ∧ decode cX10_worstOf 11 = .ok (.getfield 170, 3) ∧ decode cX10_worstOf 14 = .ok (.if_icmp .ge 47, 3) ∧ decode cX10_worstOf 17 = .ok (.aload_n 0, 1) ∧ decode cX10_worstOf 18 = .ok (.iload 5, 2) ∧ decode cX10_worstOf 20 = .ok (.aload_n 0, 1) ∧ decode cX10_worstOf 21 = .ok (.getfield 140, 3) ∧ decode cX10_worstOf 24 = .ok (.iload_n 1, 1) ∧ decode cX10_worstOf 25 = .ok (.iaload, 1) ∧ decode cX10_worstOf 26 = .ok (.aload_n 0, 1) ∧ decode cX10_worstOf 27 = .ok (.getfield 143, 3) ∧ decode cX10_worstOf 30 = .ok (.iload_n 1, 1) ∧ decode cX10_worstOf 31 = .ok (.iaload, 1) ∧ decode cX10_worstOf 32 = .ok (.iload_n 2, 1) ∧ decode cX10_worstOf 33 = .ok (.invokevirtual 434, 3) ∧ decode cX10_worstOf 36 = .ok (.istore 6, 2) ∧ decode cX10_worstOf 38 = .ok (.iload 6, 2) ∧ decode cX10_worstOf 40 = .ok (.iload 4, 2) ∧ decode cX10_worstOf 42 = .ok (.if_icmp .gt 6, 3) ∧ decode cX10_worstOf 45 = .ok (.goto 10, 3) ∧ decode cX10_worstOf 48 = .ok (.iload 5, 2) ∧ decode cX10_worstOf 50 = .ok (.istore_n 3, 1) ∧ decode cX10_worstOf 51 = .ok (.iload 6, 2) ∧ True := dqC_ok (c := cX10_worstOf) [(0, 1, some (.iconst (-1))), (1, 1, some (.istore_n 3)), (2, 1, some (.iconst (-1))), (3, 2, some (.istore 4)), (5, 1, some (.iconst 0)), (6, 2, some (.istore 5)), (8, 2, some (.iload 5)), (10, 1, some (.aload_n 0)), (11, 3, some (.getfield 170)), (14, 3, some (.if_icmp .ge 47)), (17, 1, some (.aload_n 0)), (18, 2, some (.iload 5)), (20, 1, some (.aload_n 0)), (21, 3, some (.getfield 140)), (24, 1, some (.iload_n 1)), (25, 1, some (.iaload)), (26, 1, some (.aload_n 0)), (27, 3, some (.getfield 143)), (30, 1, some (.iload_n 1)), (31, 1, some (.iaload)), (32, 1, some (.iload_n 2)), (33, 3, some (.invokevirtual 434)), (36, 2, some (.istore 6)), (38, 2, some (.iload 6)), (40, 2, some (.iload 4)), (42, 3, some (.if_icmp .gt 6)), (45, 3, some (.goto 10)), (48, 2, some (.iload 5)), (50, 1, some (.istore_n 3)), (51, 2, some (.iload 6))] _ 0 rfl (by decide +kernel)
theorem dX10_worstOf_0 : decode cX10_worstOf 0 = .ok (.iconst (-1), 1) := dq_g461.1
theorem dX10_worstOf_1 : decode cX10_worstOf 1 = .ok (.istore_n 3, 1) := dq_g461.2.1
theorem dX10_worstOf_2 : decode cX10_worstOf 2 = .ok (.iconst (-1), 1) := dq_g461.2.2.1
theorem dX10_worstOf_3 : decode cX10_worstOf 3 = .ok (.istore 4, 2) := dq_g461.2.2.2.1
theorem dX10_worstOf_5 : decode cX10_worstOf 5 = .ok (.iconst 0, 1) := dq_g461.2.2.2.2.1
theorem dX10_worstOf_6 : decode cX10_worstOf 6 = .ok (.istore 5, 2) := dq_g461.2.2.2.2.2.1
theorem dX10_worstOf_8 : decode cX10_worstOf 8 = .ok (.iload 5, 2) := dq_g461.2.2.2.2.2.2.1
theorem dX10_worstOf_10 : decode cX10_worstOf 10 = .ok (.aload_n 0, 1) := dq_g461.2.2.2.2.2.2.2.1
theorem dX10_worstOf_11 : decode cX10_worstOf 11 = .ok (.getfield 170, 3) := dq_g461.2.2.2.2.2.2.2.2.1
theorem dX10_worstOf_14 : decode cX10_worstOf 14 = .ok (.if_icmp .ge 47, 3) := dq_g461.2.2.2.2.2.2.2.2.2.1
theorem dX10_worstOf_17 : decode cX10_worstOf 17 = .ok (.aload_n 0, 1) := dq_g461.2.2.2.2.2.2.2.2.2.2.1
theorem dX10_worstOf_18 : decode cX10_worstOf 18 = .ok (.iload 5, 2) := dq_g461.2.2.2.2.2.2.2.2.2.2.2.1
theorem dX10_worstOf_20 : decode cX10_worstOf 20 = .ok (.aload_n 0, 1) := dq_g461.2.2.2.2.2.2.2.2.2.2.2.2.1
theorem dX10_worstOf_21 : decode cX10_worstOf 21 = .ok (.getfield 140, 3) := dq_g461.2.2.2.2.2.2.2.2.2.2.2.2.2.1
theorem dX10_worstOf_24 : decode cX10_worstOf 24 = .ok (.iload_n 1, 1) := dq_g461.2.2.2.2.2.2.2.2.2.2.2.2.2.2.1
theorem dX10_worstOf_25 : decode cX10_worstOf 25 = .ok (.iaload, 1) := dq_g461.2.2.2.2.2.2.2.2.2.2.2.2.2.2.2.1
theorem dX10_worstOf_26 : decode cX10_worstOf 26 = .ok (.aload_n 0, 1) := dq_g461.2.2.2.2.2.2.2.2.2.2.2.2.2.2.2.2.1
theorem dX10_worstOf_27 : decode cX10_worstOf 27 = .ok (.getfield 143, 3) := dq_g461.2.2.2.2.2.2.2.2.2.2.2.2.2.2.2.2.2.1
theorem dX10_worstOf_30 : decode cX10_worstOf 30 = .ok (.iload_n 1, 1) := dq_g461.2.2.2.2.2.2.2.2.2.2.2.2.2.2.2.2.2.2.1
theorem dX10_worstOf_31 : decode cX10_worstOf 31 = .ok (.iaload, 1) := dq_g461.2.2.2.2.2.2.2.2.2.2.2.2.2.2.2.2.2.2.2.1
theorem dX10_worstOf_32 : decode cX10_worstOf 32 = .ok (.iload_n 2, 1) := dq_g461.2.2.2.2.2.2.2.2.2.2.2.2.2.2.2.2.2.2.2.2.1
theorem dX10_worstOf_33 : decode cX10_worstOf 33 = .ok (.invokevirtual 434, 3) := dq_g461.2.2.2.2.2.2.2.2.2.2.2.2.2.2.2.2.2.2.2.2.2.1
theorem dX10_worstOf_36 : decode cX10_worstOf 36 = .ok (.istore 6, 2) := dq_g461.2.2.2.2.2.2.2.2.2.2.2.2.2.2.2.2.2.2.2.2.2.2.1
theorem dX10_worstOf_38 : decode cX10_worstOf 38 = .ok (.iload 6, 2) := dq_g461.2.2.2.2.2.2.2.2.2.2.2.2.2.2.2.2.2.2.2.2.2.2.2.1
theorem dX10_worstOf_40 : decode cX10_worstOf 40 = .ok (.iload 4, 2) := dq_g461.2.2.2.2.2.2.2.2.2.2.2.2.2.2.2.2.2.2.2.2.2.2.2.2.1
theorem dX10_worstOf_42 : decode cX10_worstOf 42 = .ok (.if_icmp .gt 6, 3) := dq_g461.2.2.2.2.2.2.2.2.2.2.2.2.2.2.2.2.2.2.2.2.2.2.2.2.2.1
theorem dX10_worstOf_45 : decode cX10_worstOf 45 = .ok (.goto 10, 3) := dq_g461.2.2.2.2.2.2.2.2.2.2.2.2.2.2.2.2.2.2.2.2.2.2.2.2.2.2.1
theorem dX10_worstOf_48 : decode cX10_worstOf 48 = .ok (.iload 5, 2) := dq_g461.2.2.2.2.2.2.2.2.2.2.2.2.2.2.2.2.2.2.2.2.2.2.2.2.2.2.2.1
theorem dX10_worstOf_50 : decode cX10_worstOf 50 = .ok (.istore_n 3, 1) := dq_g461.2.2.2.2.2.2.2.2.2.2.2.2.2.2.2.2.2.2.2.2.2.2.2.2.2.2.2.2.1
theorem dX10_worstOf_51 : decode cX10_worstOf 51 = .ok (.iload 6, 2) := dq_g461.2.2.2.2.2.2.2.2.2.2.2.2.2.2.2.2.2.2.2.2.2.2.2.2.2.2.2.2.2.1
theorem dq_g462 : decode cX10_worstOf 53 = .ok (.istore 4, 2) ∧ decode cX10_worstOf 55 = .ok (.iinc 5 1, 3) ∧ decode cX10_worstOf 58 = .ok (.goto (-50), 3) ∧ decode cX10_worstOf 61 = .ok (.iload_n 3, 1) ∧ decode cX10_worstOf 62 = .ok (.ireturn, 1) ∧ True := dqC_ok (c := cX10_worstOf) [(53, 2, some (.istore 4)), (55, 3, some (.iinc 5 1)), (58, 3, some (.goto (-50))), (61, 1, some (.iload_n 3)), (62, 1, some (.ireturn))] _ 53 rfl (by decide +kernel)
theorem dX10_worstOf_53 : decode cX10_worstOf 53 = .ok (.istore 4, 2) := dq_g462.1
theorem dX10_worstOf_55 : decode cX10_worstOf 55 = .ok (.iinc 5 1, 3) := dq_g462.2.1
theorem dX10_worstOf_58 : decode cX10_worstOf 58 = .ok (.goto (-50), 3) := dq_g462.2.2.1
theorem dX10_worstOf_61 : decode cX10_worstOf 61 = .ok (.iload_n 3, 1) := dq_g462.2.2.2.1
theorem dX10_worstOf_62 : decode cX10_worstOf 62 = .ok (.ireturn, 1) := dq_g462.2.2.2.2.1
theorem dq_g463 : decode cX10_worstBeat 0 = .ok (.aload_n 0, 1) ∧ decode cX10_worstBeat 1 = .ok (.iload_n 1, 1) ∧ decode cX10_worstBeat 2 = .ok (.iload_n 2, 1) ∧ decode cX10_worstBeat 3 = .ok (.invokevirtual 441, 3) ∧ decode cX10_worstBeat 6 = .ok (.istore_n 3, 1) ∧ decode cX10_worstBeat 7 = .ok (.iload_n 3, 1) ∧ decode cX10_worstBeat 8 = .ok (.iconst (-1), 1) ∧ decode cX10_worstBeat 9 = .ok (.if_icmp .ne 7, 3) ∧ decode cX10_worstBeat 12 = .ok (.iconst 0, 1) ∧ decode cX10_worstBeat 13 = .ok (.goto 21, 3) ∧ decode cX10_worstBeat 16 = .ok (.aload_n 0, 1) ∧ decode cX10_worstBeat 17 = .ok (.iload_n 3, 1) ∧ decode cX10_worstBeat 18 = .ok (.aload_n 0, 1) ∧ decode cX10_worstBeat 19 = .ok (.getfield 140, 3) ∧ decode cX10_worstBeat 22 = .ok (.iload_n 1, 1) ∧ decode cX10_worstBeat 23 = .ok (.iaload, 1) ∧ decode cX10_worstBeat 24 = .ok (.aload_n 0, 1) ∧ decode cX10_worstBeat 25 = .ok (.getfield 143, 3) ∧ decode cX10_worstBeat 28 = .ok (.iload_n 1, 1) ∧ decode cX10_worstBeat 29 = .ok (.iaload, 1) ∧ decode cX10_worstBeat 30 = .ok (.iload_n 2, 1) ∧ decode cX10_worstBeat 31 = .ok (.invokevirtual 434, 3) ∧ decode cX10_worstBeat 34 = .ok (.ireturn, 1) ∧ True := dqC_ok (c := cX10_worstBeat) [(0, 1, some (.aload_n 0)), (1, 1, some (.iload_n 1)), (2, 1, some (.iload_n 2)), (3, 3, some (.invokevirtual 441)), (6, 1, some (.istore_n 3)), (7, 1, some (.iload_n 3)), (8, 1, some (.iconst (-1))), (9, 3, some (.if_icmp .ne 7)), (12, 1, some (.iconst 0)), (13, 3, some (.goto 21)), (16, 1, some (.aload_n 0)), (17, 1, some (.iload_n 3)), (18, 1, some (.aload_n 0)), (19, 3, some (.getfield 140)), (22, 1, some (.iload_n 1)), (23, 1, some (.iaload)), (24, 1, some (.aload_n 0)), (25, 3, some (.getfield 143)), (28, 1, some (.iload_n 1)), (29, 1, some (.iaload)), (30, 1, some (.iload_n 2)), (31, 3, some (.invokevirtual 434)), (34, 1, some (.ireturn))] _ 0 rfl (by decide +kernel)
theorem dX10_worstBeat_0 : decode cX10_worstBeat 0 = .ok (.aload_n 0, 1) := dq_g463.1
theorem dX10_worstBeat_1 : decode cX10_worstBeat 1 = .ok (.iload_n 1, 1) := dq_g463.2.1
theorem dX10_worstBeat_2 : decode cX10_worstBeat 2 = .ok (.iload_n 2, 1) := dq_g463.2.2.1
theorem dX10_worstBeat_3 : decode cX10_worstBeat 3 = .ok (.invokevirtual 441, 3) := dq_g463.2.2.2.1
theorem dX10_worstBeat_6 : decode cX10_worstBeat 6 = .ok (.istore_n 3, 1) := dq_g463.2.2.2.2.1
theorem dX10_worstBeat_7 : decode cX10_worstBeat 7 = .ok (.iload_n 3, 1) := dq_g463.2.2.2.2.2.1
theorem dX10_worstBeat_8 : decode cX10_worstBeat 8 = .ok (.iconst (-1), 1) := dq_g463.2.2.2.2.2.2.1
theorem dX10_worstBeat_9 : decode cX10_worstBeat 9 = .ok (.if_icmp .ne 7, 3) := dq_g463.2.2.2.2.2.2.2.1
theorem dX10_worstBeat_12 : decode cX10_worstBeat 12 = .ok (.iconst 0, 1) := dq_g463.2.2.2.2.2.2.2.2.1
theorem dX10_worstBeat_13 : decode cX10_worstBeat 13 = .ok (.goto 21, 3) := dq_g463.2.2.2.2.2.2.2.2.2.1
theorem dX10_worstBeat_16 : decode cX10_worstBeat 16 = .ok (.aload_n 0, 1) := dq_g463.2.2.2.2.2.2.2.2.2.2.1
theorem dX10_worstBeat_17 : decode cX10_worstBeat 17 = .ok (.iload_n 3, 1) := dq_g463.2.2.2.2.2.2.2.2.2.2.2.1
theorem dX10_worstBeat_18 : decode cX10_worstBeat 18 = .ok (.aload_n 0, 1) := dq_g463.2.2.2.2.2.2.2.2.2.2.2.2.1
theorem dX10_worstBeat_19 : decode cX10_worstBeat 19 = .ok (.getfield 140, 3) := dq_g463.2.2.2.2.2.2.2.2.2.2.2.2.2.1
theorem dX10_worstBeat_22 : decode cX10_worstBeat 22 = .ok (.iload_n 1, 1) := dq_g463.2.2.2.2.2.2.2.2.2.2.2.2.2.2.1
theorem dX10_worstBeat_23 : decode cX10_worstBeat 23 = .ok (.iaload, 1) := dq_g463.2.2.2.2.2.2.2.2.2.2.2.2.2.2.2.1
theorem dX10_worstBeat_24 : decode cX10_worstBeat 24 = .ok (.aload_n 0, 1) := dq_g463.2.2.2.2.2.2.2.2.2.2.2.2.2.2.2.2.1
theorem dX10_worstBeat_25 : decode cX10_worstBeat 25 = .ok (.getfield 143, 3) := dq_g463.2.2.2.2.2.2.2.2.2.2.2.2.2.2.2.2.2.1
theorem dX10_worstBeat_28 : decode cX10_worstBeat 28 = .ok (.iload_n 1, 1) := dq_g463.2.2.2.2.2.2.2.2.2.2.2.2.2.2.2.2.2.2.1
theorem dX10_worstBeat_29 : decode cX10_worstBeat 29 = .ok (.iaload, 1) := dq_g463.2.2.2.2.2.2.2.2.2.2.2.2.2.2.2.2.2.2.2.1
theorem dX10_worstBeat_30 : decode cX10_worstBeat 30 = .ok (.iload_n 2, 1) := dq_g463.2.2.2.2.2.2.2.2.2.2.2.2.2.2.2.2.2.2.2.2.1
theorem dX10_worstBeat_31 : decode cX10_worstBeat 31 = .ok (.invokevirtual 434, 3) := dq_g463.2.2.2.2.2.2.2.2.2.2.2.2.2.2.2.2.2.2.2.2.2.1
theorem dX10_worstBeat_34 : decode cX10_worstBeat 34 = .ok (.ireturn, 1) := dq_g463.2.2.2.2.2.2.2.2.2.2.2.2.2.2.2.2.2.2.2.2.2.2.1
theorem dq_g464 : decode cX10_suits 0 = .ok (.aload_n 0, 1) ∧ decode cX10_suits 1 = .ok (.iload_n 1, 1) ∧ decode cX10_suits 2 = .ok (.iconst 1, 1) ∧ decode cX10_suits 3 = .ok (.invokevirtual 444, 3) ∧ decode cX10_suits 6 = .ok (.aload_n 0, 1) ∧ decode cX10_suits 7 = .ok (.iload_n 1, 1) ∧ decode cX10_suits 8 = .ok (.iconst 0, 1) ∧ decode cX10_suits 9 = .ok (.invokevirtual 444, 3) ∧ decode cX10_suits 12 = .ok (.if_icmp .ge 7, 3) ∧ decode cX10_suits 15 = .ok (.iconst 1, 1) ∧ decode cX10_suits 16 = .ok (.goto 4, 3) ∧ decode cX10_suits 19 = .ok (.iconst 0, 1) ∧ decode cX10_suits 20 = .ok (.ireturn, 1) ∧ True := dqC_ok (c := cX10_suits) [(0, 1, some (.aload_n 0)), (1, 1, some (.iload_n 1)), (2, 1, some (.iconst 1)), (3, 3, some (.invokevirtual 444)), (6, 1, some (.aload_n 0)), (7, 1, some (.iload_n 1)), (8, 1, some (.iconst 0)), (9, 3, some (.invokevirtual 444)), (12, 3, some (.if_icmp .ge 7)), (15, 1, some (.iconst 1)), (16, 3, some (.goto 4)), (19, 1, some (.iconst 0)), (20, 1, some (.ireturn))] _ 0 rfl (by decide +kernel)
theorem dX10_suits_0 : decode cX10_suits 0 = .ok (.aload_n 0, 1) := dq_g464.1
theorem dX10_suits_1 : decode cX10_suits 1 = .ok (.iload_n 1, 1) := dq_g464.2.1
theorem dX10_suits_2 : decode cX10_suits 2 = .ok (.iconst 1, 1) := dq_g464.2.2.1
theorem dX10_suits_3 : decode cX10_suits 3 = .ok (.invokevirtual 444, 3) := dq_g464.2.2.2.1
theorem dX10_suits_6 : decode cX10_suits 6 = .ok (.aload_n 0, 1) := dq_g464.2.2.2.2.1
theorem dX10_suits_7 : decode cX10_suits 7 = .ok (.iload_n 1, 1) := dq_g464.2.2.2.2.2.1
theorem dX10_suits_8 : decode cX10_suits 8 = .ok (.iconst 0, 1) := dq_g464.2.2.2.2.2.2.1
theorem dX10_suits_9 : decode cX10_suits 9 = .ok (.invokevirtual 444, 3) := dq_g464.2.2.2.2.2.2.2.1
theorem dX10_suits_12 : decode cX10_suits 12 = .ok (.if_icmp .ge 7, 3) := dq_g464.2.2.2.2.2.2.2.2.1
theorem dX10_suits_15 : decode cX10_suits 15 = .ok (.iconst 1, 1) := dq_g464.2.2.2.2.2.2.2.2.2.1
theorem dX10_suits_16 : decode cX10_suits 16 = .ok (.goto 4, 3) := dq_g464.2.2.2.2.2.2.2.2.2.2.1
theorem dX10_suits_19 : decode cX10_suits 19 = .ok (.iconst 0, 1) := dq_g464.2.2.2.2.2.2.2.2.2.2.2.1
theorem dX10_suits_20 : decode cX10_suits 20 = .ok (.ireturn, 1) := dq_g464.2.2.2.2.2.2.2.2.2.2.2.2.1
theorem dq_g465 : decode cX10_together 0 = .ok (.lconst 0, 1) ∧ decode cX10_together 1 = .ok (.lstore_n 2, 1) ∧ decode cX10_together 2 = .ok (.iconst 0, 1) ∧ decode cX10_together 3 = .ok (.istore 4, 2) ∧ decode cX10_together 5 = .ok (.iload 4, 2) ∧ decode cX10_together 7 = .ok (.aload_n 0, 1) ∧ decode cX10_together 8 = .ok (.getfield 170, 3) ∧ decode cX10_together 11 = .ok (.if_icmp .ge 128, 3) ∧ decode cX10_together 14 = .ok (.iload 4, 2) ∧ decode cX10_together 16 = .ok (.iconst 1, 1) ∧ decode cX10_together 17 = .ok (.iadd, 1) ∧ decode cX10_together 18 = .ok (.istore 5, 2) ∧ decode cX10_together 20 = .ok (.iload 5, 2) ∧ decode cX10_together 22 = .ok (.aload_n 0, 1) ∧ decode cX10_together 23 = .ok (.getfield 170, 3) ∧ decode cX10_together 26 = .ok (.if_icmp .ge 107, 3) ∧ decode cX10_together 29 = .ok (.aload_n 0, 1) ∧ decode cX10_together 30 = .ok (.iload 4, 2) ∧ decode cX10_together 32 = .ok (.aload_n 0, 1) ∧ decode cX10_together 33 = .ok (.getfield 140, 3) ∧ decode cX10_together 36 = .ok (.iload_n 1, 1) ∧ decode cX10_together 37 = .ok (.iaload, 1) ∧ decode cX10_together 38 = .ok (.aload_n 0, 1) ∧ decode cX10_together 39 = .ok (.getfield 143, 3) ∧ decode cX10_together 42 = .ok (.iload_n 1, 1) ∧ decode cX10_together 43 = .ok (.iaload, 1) ∧ decode cX10_together 44 = .ok (.invokevirtual 425, 3) ∧ decode cX10_together 47 = .ok (.i2l, 1) ∧ decode cX10_together 48 = .ok (.aload_n 0, 1) ∧ decode cX10_together 49 = .ok (.iload 5, 2) ∧ True := dqC_ok (c := cX10_together) [(0, 1, some (.lconst 0)), (1, 1, some (.lstore_n 2)), (2, 1, some (.iconst 0)), (3, 2, some (.istore 4)), (5, 2, some (.iload 4)), (7, 1, some (.aload_n 0)), (8, 3, some (.getfield 170)), (11, 3, some (.if_icmp .ge 128)), (14, 2, some (.iload 4)), (16, 1, some (.iconst 1)), (17, 1, some (.iadd)), (18, 2, some (.istore 5)), (20, 2, some (.iload 5)), (22, 1, some (.aload_n 0)), (23, 3, some (.getfield 170)), (26, 3, some (.if_icmp .ge 107)), (29, 1, some (.aload_n 0)), (30, 2, some (.iload 4)), (32, 1, some (.aload_n 0)), (33, 3, some (.getfield 140)), (36, 1, some (.iload_n 1)), (37, 1, some (.iaload)), (38, 1, some (.aload_n 0)), (39, 3, some (.getfield 143)), (42, 1, some (.iload_n 1)), (43, 1, some (.iaload)), (44, 3, some (.invokevirtual 425)), (47, 1, some (.i2l)), (48, 1, some (.aload_n 0)), (49, 2, some (.iload 5))] _ 0 rfl (by decide +kernel)
theorem dX10_together_0 : decode cX10_together 0 = .ok (.lconst 0, 1) := dq_g465.1
theorem dX10_together_1 : decode cX10_together 1 = .ok (.lstore_n 2, 1) := dq_g465.2.1
theorem dX10_together_2 : decode cX10_together 2 = .ok (.iconst 0, 1) := dq_g465.2.2.1
theorem dX10_together_3 : decode cX10_together 3 = .ok (.istore 4, 2) := dq_g465.2.2.2.1
theorem dX10_together_5 : decode cX10_together 5 = .ok (.iload 4, 2) := dq_g465.2.2.2.2.1
theorem dX10_together_7 : decode cX10_together 7 = .ok (.aload_n 0, 1) := dq_g465.2.2.2.2.2.1
theorem dX10_together_8 : decode cX10_together 8 = .ok (.getfield 170, 3) := dq_g465.2.2.2.2.2.2.1
theorem dX10_together_11 : decode cX10_together 11 = .ok (.if_icmp .ge 128, 3) := dq_g465.2.2.2.2.2.2.2.1
theorem dX10_together_14 : decode cX10_together 14 = .ok (.iload 4, 2) := dq_g465.2.2.2.2.2.2.2.2.1
theorem dX10_together_16 : decode cX10_together 16 = .ok (.iconst 1, 1) := dq_g465.2.2.2.2.2.2.2.2.2.1
theorem dX10_together_17 : decode cX10_together 17 = .ok (.iadd, 1) := dq_g465.2.2.2.2.2.2.2.2.2.2.1
theorem dX10_together_18 : decode cX10_together 18 = .ok (.istore 5, 2) := dq_g465.2.2.2.2.2.2.2.2.2.2.2.1
theorem dX10_together_20 : decode cX10_together 20 = .ok (.iload 5, 2) := dq_g465.2.2.2.2.2.2.2.2.2.2.2.2.1
theorem dX10_together_22 : decode cX10_together 22 = .ok (.aload_n 0, 1) := dq_g465.2.2.2.2.2.2.2.2.2.2.2.2.2.1
theorem dX10_together_23 : decode cX10_together 23 = .ok (.getfield 170, 3) := dq_g465.2.2.2.2.2.2.2.2.2.2.2.2.2.2.1
theorem dX10_together_26 : decode cX10_together 26 = .ok (.if_icmp .ge 107, 3) := dq_g465.2.2.2.2.2.2.2.2.2.2.2.2.2.2.2.1
theorem dX10_together_29 : decode cX10_together 29 = .ok (.aload_n 0, 1) := dq_g465.2.2.2.2.2.2.2.2.2.2.2.2.2.2.2.2.1
theorem dX10_together_30 : decode cX10_together 30 = .ok (.iload 4, 2) := dq_g465.2.2.2.2.2.2.2.2.2.2.2.2.2.2.2.2.2.1
theorem dX10_together_32 : decode cX10_together 32 = .ok (.aload_n 0, 1) := dq_g465.2.2.2.2.2.2.2.2.2.2.2.2.2.2.2.2.2.2.1
theorem dX10_together_33 : decode cX10_together 33 = .ok (.getfield 140, 3) := dq_g465.2.2.2.2.2.2.2.2.2.2.2.2.2.2.2.2.2.2.2.1
theorem dX10_together_36 : decode cX10_together 36 = .ok (.iload_n 1, 1) := dq_g465.2.2.2.2.2.2.2.2.2.2.2.2.2.2.2.2.2.2.2.2.1
theorem dX10_together_37 : decode cX10_together 37 = .ok (.iaload, 1) := dq_g465.2.2.2.2.2.2.2.2.2.2.2.2.2.2.2.2.2.2.2.2.2.1
theorem dX10_together_38 : decode cX10_together 38 = .ok (.aload_n 0, 1) := dq_g465.2.2.2.2.2.2.2.2.2.2.2.2.2.2.2.2.2.2.2.2.2.2.1
theorem dX10_together_39 : decode cX10_together 39 = .ok (.getfield 143, 3) := dq_g465.2.2.2.2.2.2.2.2.2.2.2.2.2.2.2.2.2.2.2.2.2.2.2.1
theorem dX10_together_42 : decode cX10_together 42 = .ok (.iload_n 1, 1) := dq_g465.2.2.2.2.2.2.2.2.2.2.2.2.2.2.2.2.2.2.2.2.2.2.2.2.1
theorem dX10_together_43 : decode cX10_together 43 = .ok (.iaload, 1) := dq_g465.2.2.2.2.2.2.2.2.2.2.2.2.2.2.2.2.2.2.2.2.2.2.2.2.2.1
theorem dX10_together_44 : decode cX10_together 44 = .ok (.invokevirtual 425, 3) := dq_g465.2.2.2.2.2.2.2.2.2.2.2.2.2.2.2.2.2.2.2.2.2.2.2.2.2.2.1
theorem dX10_together_47 : decode cX10_together 47 = .ok (.i2l, 1) := dq_g465.2.2.2.2.2.2.2.2.2.2.2.2.2.2.2.2.2.2.2.2.2.2.2.2.2.2.2.1
theorem dX10_together_48 : decode cX10_together 48 = .ok (.aload_n 0, 1) := dq_g465.2.2.2.2.2.2.2.2.2.2.2.2.2.2.2.2.2.2.2.2.2.2.2.2.2.2.2.2.1
theorem dX10_together_49 : decode cX10_together 49 = .ok (.iload 5, 2) := dq_g465.2.2.2.2.2.2.2.2.2.2.2.2.2.2.2.2.2.2.2.2.2.2.2.2.2.2.2.2.2.1
theorem dq_g466 : decode cX10_together 51 = .ok (.iconst 0, 1) ∧ decode cX10_together 52 = .ok (.invokevirtual 335, 3) ∧ decode cX10_together 55 = .ok (.i2l, 1) ∧ decode cX10_together 56 = .ok (.lmul, 1) ∧ decode cX10_together 57 = .ok (.aload_n 0, 1) ∧ decode cX10_together 58 = .ok (.iload 5, 2) ∧ decode cX10_together 60 = .ok (.aload_n 0, 1) ∧ decode cX10_together 61 = .ok (.getfield 140, 3) ∧ decode cX10_together 64 = .ok (.iload_n 1, 1) ∧ decode cX10_together 65 = .ok (.iaload, 1) ∧ decode cX10_together 66 = .ok (.aload_n 0, 1) ∧ decode cX10_together 67 = .ok (.getfield 143, 3) ∧ decode cX10_together 70 = .ok (.iload_n 1, 1) ∧ decode cX10_together 71 = .ok (.iaload, 1) ∧ decode cX10_together 72 = .ok (.invokevirtual 425, 3) ∧ decode cX10_together 75 = .ok (.i2l, 1) ∧ decode cX10_together 76 = .ok (.aload_n 0, 1) ∧ decode cX10_together 77 = .ok (.iload 4, 2) ∧ decode cX10_together 79 = .ok (.iconst 0, 1) ∧ decode cX10_together 80 = .ok (.invokevirtual 335, 3) ∧ decode cX10_together 83 = .ok (.i2l, 1) ∧ decode cX10_together 84 = .ok (.lmul, 1) ∧ decode cX10_together 85 = .ok (.lsub, 1) ∧ decode cX10_together 86 = .ok (.lstore 6, 2) ∧ decode cX10_together 88 = .ok (.lload 6, 2) ∧ decode cX10_together 90 = .ok (.lconst 0, 1) ∧ decode cX10_together 91 = .ok (.lcmp, 1) ∧ decode cX10_together 92 = .ok (.ifCond .ge 13, 3) ∧ decode cX10_together 95 = .ok (.lload 6, 2) ∧ decode cX10_together 97 = .ok (.lneg, 1) ∧ True := dqC_ok (c := cX10_together) [(51, 1, some (.iconst 0)), (52, 3, some (.invokevirtual 335)), (55, 1, some (.i2l)), (56, 1, some (.lmul)), (57, 1, some (.aload_n 0)), (58, 2, some (.iload 5)), (60, 1, some (.aload_n 0)), (61, 3, some (.getfield 140)), (64, 1, some (.iload_n 1)), (65, 1, some (.iaload)), (66, 1, some (.aload_n 0)), (67, 3, some (.getfield 143)), (70, 1, some (.iload_n 1)), (71, 1, some (.iaload)), (72, 3, some (.invokevirtual 425)), (75, 1, some (.i2l)), (76, 1, some (.aload_n 0)), (77, 2, some (.iload 4)), (79, 1, some (.iconst 0)), (80, 3, some (.invokevirtual 335)), (83, 1, some (.i2l)), (84, 1, some (.lmul)), (85, 1, some (.lsub)), (86, 2, some (.lstore 6)), (88, 2, some (.lload 6)), (90, 1, some (.lconst 0)), (91, 1, some (.lcmp)), (92, 3, some (.ifCond .ge 13)), (95, 2, some (.lload 6)), (97, 1, some (.lneg))] _ 51 rfl (by decide +kernel)
theorem dX10_together_51 : decode cX10_together 51 = .ok (.iconst 0, 1) := dq_g466.1
theorem dX10_together_52 : decode cX10_together 52 = .ok (.invokevirtual 335, 3) := dq_g466.2.1
theorem dX10_together_55 : decode cX10_together 55 = .ok (.i2l, 1) := dq_g466.2.2.1
theorem dX10_together_56 : decode cX10_together 56 = .ok (.lmul, 1) := dq_g466.2.2.2.1
theorem dX10_together_57 : decode cX10_together 57 = .ok (.aload_n 0, 1) := dq_g466.2.2.2.2.1
theorem dX10_together_58 : decode cX10_together 58 = .ok (.iload 5, 2) := dq_g466.2.2.2.2.2.1
theorem dX10_together_60 : decode cX10_together 60 = .ok (.aload_n 0, 1) := dq_g466.2.2.2.2.2.2.1
theorem dX10_together_61 : decode cX10_together 61 = .ok (.getfield 140, 3) := dq_g466.2.2.2.2.2.2.2.1
theorem dX10_together_64 : decode cX10_together 64 = .ok (.iload_n 1, 1) := dq_g466.2.2.2.2.2.2.2.2.1
theorem dX10_together_65 : decode cX10_together 65 = .ok (.iaload, 1) := dq_g466.2.2.2.2.2.2.2.2.2.1
theorem dX10_together_66 : decode cX10_together 66 = .ok (.aload_n 0, 1) := dq_g466.2.2.2.2.2.2.2.2.2.2.1
theorem dX10_together_67 : decode cX10_together 67 = .ok (.getfield 143, 3) := dq_g466.2.2.2.2.2.2.2.2.2.2.2.1
theorem dX10_together_70 : decode cX10_together 70 = .ok (.iload_n 1, 1) := dq_g466.2.2.2.2.2.2.2.2.2.2.2.2.1
theorem dX10_together_71 : decode cX10_together 71 = .ok (.iaload, 1) := dq_g466.2.2.2.2.2.2.2.2.2.2.2.2.2.1
theorem dX10_together_72 : decode cX10_together 72 = .ok (.invokevirtual 425, 3) := dq_g466.2.2.2.2.2.2.2.2.2.2.2.2.2.2.1
theorem dX10_together_75 : decode cX10_together 75 = .ok (.i2l, 1) := dq_g466.2.2.2.2.2.2.2.2.2.2.2.2.2.2.2.1
theorem dX10_together_76 : decode cX10_together 76 = .ok (.aload_n 0, 1) := dq_g466.2.2.2.2.2.2.2.2.2.2.2.2.2.2.2.2.1
theorem dX10_together_77 : decode cX10_together 77 = .ok (.iload 4, 2) := dq_g466.2.2.2.2.2.2.2.2.2.2.2.2.2.2.2.2.2.1
theorem dX10_together_79 : decode cX10_together 79 = .ok (.iconst 0, 1) := dq_g466.2.2.2.2.2.2.2.2.2.2.2.2.2.2.2.2.2.2.1
theorem dX10_together_80 : decode cX10_together 80 = .ok (.invokevirtual 335, 3) := dq_g466.2.2.2.2.2.2.2.2.2.2.2.2.2.2.2.2.2.2.2.1
theorem dX10_together_83 : decode cX10_together 83 = .ok (.i2l, 1) := dq_g466.2.2.2.2.2.2.2.2.2.2.2.2.2.2.2.2.2.2.2.2.1
theorem dX10_together_84 : decode cX10_together 84 = .ok (.lmul, 1) := dq_g466.2.2.2.2.2.2.2.2.2.2.2.2.2.2.2.2.2.2.2.2.2.1
theorem dX10_together_85 : decode cX10_together 85 = .ok (.lsub, 1) := dq_g466.2.2.2.2.2.2.2.2.2.2.2.2.2.2.2.2.2.2.2.2.2.2.1
theorem dX10_together_86 : decode cX10_together 86 = .ok (.lstore 6, 2) := dq_g466.2.2.2.2.2.2.2.2.2.2.2.2.2.2.2.2.2.2.2.2.2.2.2.1
theorem dX10_together_88 : decode cX10_together 88 = .ok (.lload 6, 2) := dq_g466.2.2.2.2.2.2.2.2.2.2.2.2.2.2.2.2.2.2.2.2.2.2.2.2.1
theorem dX10_together_90 : decode cX10_together 90 = .ok (.lconst 0, 1) := dq_g466.2.2.2.2.2.2.2.2.2.2.2.2.2.2.2.2.2.2.2.2.2.2.2.2.2.1
theorem dX10_together_91 : decode cX10_together 91 = .ok (.lcmp, 1) := dq_g466.2.2.2.2.2.2.2.2.2.2.2.2.2.2.2.2.2.2.2.2.2.2.2.2.2.2.1
theorem dX10_together_92 : decode cX10_together 92 = .ok (.ifCond .ge 13, 3) := dq_g466.2.2.2.2.2.2.2.2.2.2.2.2.2.2.2.2.2.2.2.2.2.2.2.2.2.2.2.1
theorem dX10_together_95 : decode cX10_together 95 = .ok (.lload 6, 2) := dq_g466.2.2.2.2.2.2.2.2.2.2.2.2.2.2.2.2.2.2.2.2.2.2.2.2.2.2.2.2.1
theorem dX10_together_97 : decode cX10_together 97 = .ok (.lneg, 1) := dq_g466.2.2.2.2.2.2.2.2.2.2.2.2.2.2.2.2.2.2.2.2.2.2.2.2.2.2.2.2.2.1
theorem dq_g467 : decode cX10_together 98 = .ok (.ldc2_w 447, 3) ∧ decode cX10_together 101 = .ok (.ldiv, 1) ∧ decode cX10_together 102 = .ok (.goto 9, 3) ∧ decode cX10_together 105 = .ok (.lload 6, 2) ∧ decode cX10_together 107 = .ok (.ldc2_w 447, 3) ∧ decode cX10_together 110 = .ok (.ldiv, 1) ∧ decode cX10_together 111 = .ok (.lstore 6, 2) ∧ decode cX10_together 113 = .ok (.lload 6, 2) ∧ decode cX10_together 115 = .ok (.lload_n 2, 1) ∧ decode cX10_together 116 = .ok (.lcmp, 1) ∧ decode cX10_together 117 = .ok (.ifCond .le 8, 3) ∧ decode cX10_together 120 = .ok (.lload 6, 2) ∧ decode cX10_together 122 = .ok (.goto 4, 3) ∧ decode cX10_together 125 = .ok (.lload_n 2, 1) ∧ decode cX10_together 126 = .ok (.lstore_n 2, 1) ∧ decode cX10_together 127 = .ok (.iinc 5 1, 3) ∧ decode cX10_together 130 = .ok (.goto (-110), 3) ∧ decode cX10_together 133 = .ok (.iinc 4 1, 3) ∧ decode cX10_together 136 = .ok (.goto (-131), 3) ∧ decode cX10_together 139 = .ok (.lload_n 2, 1) ∧ decode cX10_together 140 = .ok (.ldc2_w 396, 3) ∧ decode cX10_together 143 = .ok (.lcmp, 1) ∧ decode cX10_together 144 = .ok (.ifCond .le 9, 3) ∧ decode cX10_together 147 = .ok (.ldc_w 398, 3) ∧ decode cX10_together 150 = .ok (.goto 5, 3) ∧ decode cX10_together 153 = .ok (.lload_n 2, 1) ∧ decode cX10_together 154 = .ok (.l2i, 1) ∧ decode cX10_together 155 = .ok (.ireturn, 1) ∧ True := dqC_ok (c := cX10_together) [(98, 3, some (.ldc2_w 447)), (101, 1, some (.ldiv)), (102, 3, some (.goto 9)), (105, 2, some (.lload 6)), (107, 3, some (.ldc2_w 447)), (110, 1, some (.ldiv)), (111, 2, some (.lstore 6)), (113, 2, some (.lload 6)), (115, 1, some (.lload_n 2)), (116, 1, some (.lcmp)), (117, 3, some (.ifCond .le 8)), (120, 2, some (.lload 6)), (122, 3, some (.goto 4)), (125, 1, some (.lload_n 2)), (126, 1, some (.lstore_n 2)), (127, 3, some (.iinc 5 1)), (130, 3, some (.goto (-110))), (133, 3, some (.iinc 4 1)), (136, 3, some (.goto (-131))), (139, 1, some (.lload_n 2)), (140, 3, some (.ldc2_w 396)), (143, 1, some (.lcmp)), (144, 3, some (.ifCond .le 9)), (147, 3, some (.ldc_w 398)), (150, 3, some (.goto 5)), (153, 1, some (.lload_n 2)), (154, 1, some (.l2i)), (155, 1, some (.ireturn))] _ 98 rfl (by decide +kernel)
theorem dX10_together_98 : decode cX10_together 98 = .ok (.ldc2_w 447, 3) := dq_g467.1
theorem dX10_together_101 : decode cX10_together 101 = .ok (.ldiv, 1) := dq_g467.2.1
theorem dX10_together_102 : decode cX10_together 102 = .ok (.goto 9, 3) := dq_g467.2.2.1
theorem dX10_together_105 : decode cX10_together 105 = .ok (.lload 6, 2) := dq_g467.2.2.2.1
theorem dX10_together_107 : decode cX10_together 107 = .ok (.ldc2_w 447, 3) := dq_g467.2.2.2.2.1
theorem dX10_together_110 : decode cX10_together 110 = .ok (.ldiv, 1) := dq_g467.2.2.2.2.2.1
theorem dX10_together_111 : decode cX10_together 111 = .ok (.lstore 6, 2) := dq_g467.2.2.2.2.2.2.1
theorem dX10_together_113 : decode cX10_together 113 = .ok (.lload 6, 2) := dq_g467.2.2.2.2.2.2.2.1
theorem dX10_together_115 : decode cX10_together 115 = .ok (.lload_n 2, 1) := dq_g467.2.2.2.2.2.2.2.2.1
theorem dX10_together_116 : decode cX10_together 116 = .ok (.lcmp, 1) := dq_g467.2.2.2.2.2.2.2.2.2.1
theorem dX10_together_117 : decode cX10_together 117 = .ok (.ifCond .le 8, 3) := dq_g467.2.2.2.2.2.2.2.2.2.2.1
theorem dX10_together_120 : decode cX10_together 120 = .ok (.lload 6, 2) := dq_g467.2.2.2.2.2.2.2.2.2.2.2.1
theorem dX10_together_122 : decode cX10_together 122 = .ok (.goto 4, 3) := dq_g467.2.2.2.2.2.2.2.2.2.2.2.2.1
theorem dX10_together_125 : decode cX10_together 125 = .ok (.lload_n 2, 1) := dq_g467.2.2.2.2.2.2.2.2.2.2.2.2.2.1
theorem dX10_together_126 : decode cX10_together 126 = .ok (.lstore_n 2, 1) := dq_g467.2.2.2.2.2.2.2.2.2.2.2.2.2.2.1
theorem dX10_together_127 : decode cX10_together 127 = .ok (.iinc 5 1, 3) := dq_g467.2.2.2.2.2.2.2.2.2.2.2.2.2.2.2.1
theorem dX10_together_130 : decode cX10_together 130 = .ok (.goto (-110), 3) := dq_g467.2.2.2.2.2.2.2.2.2.2.2.2.2.2.2.2.1
theorem dX10_together_133 : decode cX10_together 133 = .ok (.iinc 4 1, 3) := dq_g467.2.2.2.2.2.2.2.2.2.2.2.2.2.2.2.2.2.1
theorem dX10_together_136 : decode cX10_together 136 = .ok (.goto (-131), 3) := dq_g467.2.2.2.2.2.2.2.2.2.2.2.2.2.2.2.2.2.2.1
theorem dX10_together_139 : decode cX10_together 139 = .ok (.lload_n 2, 1) := dq_g467.2.2.2.2.2.2.2.2.2.2.2.2.2.2.2.2.2.2.2.1
theorem dX10_together_140 : decode cX10_together 140 = .ok (.ldc2_w 396, 3) := dq_g467.2.2.2.2.2.2.2.2.2.2.2.2.2.2.2.2.2.2.2.2.1
theorem dX10_together_143 : decode cX10_together 143 = .ok (.lcmp, 1) := dq_g467.2.2.2.2.2.2.2.2.2.2.2.2.2.2.2.2.2.2.2.2.2.1
theorem dX10_together_144 : decode cX10_together 144 = .ok (.ifCond .le 9, 3) := dq_g467.2.2.2.2.2.2.2.2.2.2.2.2.2.2.2.2.2.2.2.2.2.2.1
theorem dX10_together_147 : decode cX10_together 147 = .ok (.ldc_w 398, 3) := dq_g467.2.2.2.2.2.2.2.2.2.2.2.2.2.2.2.2.2.2.2.2.2.2.2.1
theorem dX10_together_150 : decode cX10_together 150 = .ok (.goto 5, 3) := dq_g467.2.2.2.2.2.2.2.2.2.2.2.2.2.2.2.2.2.2.2.2.2.2.2.2.1
theorem dX10_together_153 : decode cX10_together 153 = .ok (.lload_n 2, 1) := dq_g467.2.2.2.2.2.2.2.2.2.2.2.2.2.2.2.2.2.2.2.2.2.2.2.2.2.1
theorem dX10_together_154 : decode cX10_together 154 = .ok (.l2i, 1) := dq_g467.2.2.2.2.2.2.2.2.2.2.2.2.2.2.2.2.2.2.2.2.2.2.2.2.2.2.1
theorem dX10_together_155 : decode cX10_together 155 = .ok (.ireturn, 1) := dq_g467.2.2.2.2.2.2.2.2.2.2.2.2.2.2.2.2.2.2.2.2.2.2.2.2.2.2.2.1
theorem dq_g468 : decode cX10_nights 0 = .ok (.aload_n 0, 1) ∧ decode cX10_nights 1 = .ok (.iconst 0, 1) ∧ decode cX10_nights 2 = .ok (.putfield 167, 3) ∧ decode cX10_nights 5 = .ok (.iload_n 1, 1) ∧ decode cX10_nights 6 = .ok (.iconst (-1), 1) ∧ decode cX10_nights 7 = .ok (.if_icmp .ne 34, 3) ∧ decode cX10_nights 10 = .ok (.iconst 0, 1) ∧ decode cX10_nights 11 = .ok (.istore_n 3, 1) ∧ decode cX10_nights 12 = .ok (.iconst 0, 1) ∧ decode cX10_nights 13 = .ok (.istore 4, 2) ∧ decode cX10_nights 15 = .ok (.iload 4, 2) ∧ decode cX10_nights 17 = .ok (.aload_n 0, 1) ∧ decode cX10_nights 18 = .ok (.getfield 438, 3) ∧ decode cX10_nights 21 = .ok (.if_icmp .ge 18, 3) ∧ decode cX10_nights 24 = .ok (.iload_n 3, 1) ∧ decode cX10_nights 25 = .ok (.aload_n 0, 1) ∧ decode cX10_nights 26 = .ok (.iload 4, 2) ∧ decode cX10_nights 28 = .ok (.invokevirtual 449, 3) ∧ decode cX10_nights 31 = .ok (.iadd, 1) ∧ decode cX10_nights 32 = .ok (.istore_n 3, 1) ∧ decode cX10_nights 33 = .ok (.iinc 4 1, 3) ∧ decode cX10_nights 36 = .ok (.goto (-21), 3) ∧ decode cX10_nights 39 = .ok (.iload_n 3, 1) ∧ decode cX10_nights 40 = .ok (.ireturn, 1) ∧ decode cX10_nights 41 = .ok (.aload_n 0, 1) ∧ decode cX10_nights 42 = .ok (.iload_n 1, 1) ∧ decode cX10_nights 43 = .ok (.iconst 0, 1) ∧ decode cX10_nights 44 = .ok (.aload_n 0, 1) ∧ decode cX10_nights 45 = .ok (.getfield 438, 3) ∧ decode cX10_nights 48 = .ok (.iconst 1, 1) ∧ True := dqC_ok (c := cX10_nights) [(0, 1, some (.aload_n 0)), (1, 1, some (.iconst 0)), (2, 3, some (.putfield 167)), (5, 1, some (.iload_n 1)), (6, 1, some (.iconst (-1))), (7, 3, some (.if_icmp .ne 34)), (10, 1, some (.iconst 0)), (11, 1, some (.istore_n 3)), (12, 1, some (.iconst 0)), (13, 2, some (.istore 4)), (15, 2, some (.iload 4)), (17, 1, some (.aload_n 0)), (18, 3, some (.getfield 438)), (21, 3, some (.if_icmp .ge 18)), (24, 1, some (.iload_n 3)), (25, 1, some (.aload_n 0)), (26, 2, some (.iload 4)), (28, 3, some (.invokevirtual 449)), (31, 1, some (.iadd)), (32, 1, some (.istore_n 3)), (33, 3, some (.iinc 4 1)), (36, 3, some (.goto (-21))), (39, 1, some (.iload_n 3)), (40, 1, some (.ireturn)), (41, 1, some (.aload_n 0)), (42, 1, some (.iload_n 1)), (43, 1, some (.iconst 0)), (44, 1, some (.aload_n 0)), (45, 3, some (.getfield 438)), (48, 1, some (.iconst 1))] _ 0 rfl (by decide +kernel)
theorem dX10_nights_0 : decode cX10_nights 0 = .ok (.aload_n 0, 1) := dq_g468.1
theorem dX10_nights_1 : decode cX10_nights 1 = .ok (.iconst 0, 1) := dq_g468.2.1
theorem dX10_nights_2 : decode cX10_nights 2 = .ok (.putfield 167, 3) := dq_g468.2.2.1
theorem dX10_nights_5 : decode cX10_nights 5 = .ok (.iload_n 1, 1) := dq_g468.2.2.2.1
theorem dX10_nights_6 : decode cX10_nights 6 = .ok (.iconst (-1), 1) := dq_g468.2.2.2.2.1
theorem dX10_nights_7 : decode cX10_nights 7 = .ok (.if_icmp .ne 34, 3) := dq_g468.2.2.2.2.2.1
theorem dX10_nights_10 : decode cX10_nights 10 = .ok (.iconst 0, 1) := dq_g468.2.2.2.2.2.2.1
theorem dX10_nights_11 : decode cX10_nights 11 = .ok (.istore_n 3, 1) := dq_g468.2.2.2.2.2.2.2.1
theorem dX10_nights_12 : decode cX10_nights 12 = .ok (.iconst 0, 1) := dq_g468.2.2.2.2.2.2.2.2.1
theorem dX10_nights_13 : decode cX10_nights 13 = .ok (.istore 4, 2) := dq_g468.2.2.2.2.2.2.2.2.2.1
theorem dX10_nights_15 : decode cX10_nights 15 = .ok (.iload 4, 2) := dq_g468.2.2.2.2.2.2.2.2.2.2.1
theorem dX10_nights_17 : decode cX10_nights 17 = .ok (.aload_n 0, 1) := dq_g468.2.2.2.2.2.2.2.2.2.2.2.1
theorem dX10_nights_18 : decode cX10_nights 18 = .ok (.getfield 438, 3) := dq_g468.2.2.2.2.2.2.2.2.2.2.2.2.1
theorem dX10_nights_21 : decode cX10_nights 21 = .ok (.if_icmp .ge 18, 3) := dq_g468.2.2.2.2.2.2.2.2.2.2.2.2.2.1
theorem dX10_nights_24 : decode cX10_nights 24 = .ok (.iload_n 3, 1) := dq_g468.2.2.2.2.2.2.2.2.2.2.2.2.2.2.1
theorem dX10_nights_25 : decode cX10_nights 25 = .ok (.aload_n 0, 1) := dq_g468.2.2.2.2.2.2.2.2.2.2.2.2.2.2.2.1
theorem dX10_nights_26 : decode cX10_nights 26 = .ok (.iload 4, 2) := dq_g468.2.2.2.2.2.2.2.2.2.2.2.2.2.2.2.2.1
theorem dX10_nights_28 : decode cX10_nights 28 = .ok (.invokevirtual 449, 3) := dq_g468.2.2.2.2.2.2.2.2.2.2.2.2.2.2.2.2.2.1
theorem dX10_nights_31 : decode cX10_nights 31 = .ok (.iadd, 1) := dq_g468.2.2.2.2.2.2.2.2.2.2.2.2.2.2.2.2.2.2.1
theorem dX10_nights_32 : decode cX10_nights 32 = .ok (.istore_n 3, 1) := dq_g468.2.2.2.2.2.2.2.2.2.2.2.2.2.2.2.2.2.2.2.1
theorem dX10_nights_33 : decode cX10_nights 33 = .ok (.iinc 4 1, 3) := dq_g468.2.2.2.2.2.2.2.2.2.2.2.2.2.2.2.2.2.2.2.2.1
theorem dX10_nights_36 : decode cX10_nights 36 = .ok (.goto (-21), 3) := dq_g468.2.2.2.2.2.2.2.2.2.2.2.2.2.2.2.2.2.2.2.2.2.1
theorem dX10_nights_39 : decode cX10_nights 39 = .ok (.iload_n 3, 1) := dq_g468.2.2.2.2.2.2.2.2.2.2.2.2.2.2.2.2.2.2.2.2.2.2.1
theorem dX10_nights_40 : decode cX10_nights 40 = .ok (.ireturn, 1) := dq_g468.2.2.2.2.2.2.2.2.2.2.2.2.2.2.2.2.2.2.2.2.2.2.2.1
theorem dX10_nights_41 : decode cX10_nights 41 = .ok (.aload_n 0, 1) := dq_g468.2.2.2.2.2.2.2.2.2.2.2.2.2.2.2.2.2.2.2.2.2.2.2.2.1
theorem dX10_nights_42 : decode cX10_nights 42 = .ok (.iload_n 1, 1) := dq_g468.2.2.2.2.2.2.2.2.2.2.2.2.2.2.2.2.2.2.2.2.2.2.2.2.2.1
theorem dX10_nights_43 : decode cX10_nights 43 = .ok (.iconst 0, 1) := dq_g468.2.2.2.2.2.2.2.2.2.2.2.2.2.2.2.2.2.2.2.2.2.2.2.2.2.2.1
theorem dX10_nights_44 : decode cX10_nights 44 = .ok (.aload_n 0, 1) := dq_g468.2.2.2.2.2.2.2.2.2.2.2.2.2.2.2.2.2.2.2.2.2.2.2.2.2.2.2.1
theorem dX10_nights_45 : decode cX10_nights 45 = .ok (.getfield 438, 3) := dq_g468.2.2.2.2.2.2.2.2.2.2.2.2.2.2.2.2.2.2.2.2.2.2.2.2.2.2.2.2.1
theorem dX10_nights_48 : decode cX10_nights 48 = .ok (.iconst 1, 1) := dq_g468.2.2.2.2.2.2.2.2.2.2.2.2.2.2.2.2.2.2.2.2.2.2.2.2.2.2.2.2.2.1
theorem dq_g469 : decode cX10_nights 49 = .ok (.isub, 1) ∧ decode cX10_nights 50 = .ok (.invokevirtual 177, 3) ∧ decode cX10_nights 53 = .ok (.ifCond .ne 6, 3) ∧ decode cX10_nights 56 = .ok (.bipush (-2), 2) ∧ decode cX10_nights 58 = .ok (.ireturn, 1) ∧ decode cX10_nights 59 = .ok (.iload_n 2, 1) ∧ decode cX10_nights 60 = .ok (.ifCond .eq 8, 3) ∧ decode cX10_nights 63 = .ok (.iload_n 2, 1) ∧ decode cX10_nights 64 = .ok (.iconst 1, 1) ∧ decode cX10_nights 65 = .ok (.if_icmp .ne 10, 3) ∧ decode cX10_nights 68 = .ok (.aload_n 0, 1) ∧ decode cX10_nights 69 = .ok (.iload_n 1, 1) ∧ decode cX10_nights 70 = .ok (.iload_n 2, 1) ∧ decode cX10_nights 71 = .ok (.invokevirtual 441, 3) ∧ decode cX10_nights 74 = .ok (.ireturn, 1) ∧ decode cX10_nights 75 = .ok (.iload_n 2, 1) ∧ decode cX10_nights 76 = .ok (.iconst 2, 1) ∧ decode cX10_nights 77 = .ok (.if_icmp .ne 11, 3) ∧ decode cX10_nights 80 = .ok (.aload_n 0, 1) ∧ decode cX10_nights 81 = .ok (.iload_n 1, 1) ∧ decode cX10_nights 82 = .ok (.invokevirtual 449, 3) ∧ decode cX10_nights 85 = .ok (.goto 18, 3) ∧ decode cX10_nights 88 = .ok (.iload_n 2, 1) ∧ decode cX10_nights 89 = .ok (.iconst 3, 1) ∧ decode cX10_nights 90 = .ok (.if_icmp .ne 11, 3) ∧ decode cX10_nights 93 = .ok (.aload_n 0, 1) ∧ decode cX10_nights 94 = .ok (.iload_n 1, 1) ∧ decode cX10_nights 95 = .ok (.invokevirtual 452, 3) ∧ decode cX10_nights 98 = .ok (.goto 5, 3) ∧ decode cX10_nights 101 = .ok (.bipush (-2), 2) ∧ True := dqC_ok (c := cX10_nights) [(49, 1, some (.isub)), (50, 3, some (.invokevirtual 177)), (53, 3, some (.ifCond .ne 6)), (56, 2, some (.bipush (-2))), (58, 1, some (.ireturn)), (59, 1, some (.iload_n 2)), (60, 3, some (.ifCond .eq 8)), (63, 1, some (.iload_n 2)), (64, 1, some (.iconst 1)), (65, 3, some (.if_icmp .ne 10)), (68, 1, some (.aload_n 0)), (69, 1, some (.iload_n 1)), (70, 1, some (.iload_n 2)), (71, 3, some (.invokevirtual 441)), (74, 1, some (.ireturn)), (75, 1, some (.iload_n 2)), (76, 1, some (.iconst 2)), (77, 3, some (.if_icmp .ne 11)), (80, 1, some (.aload_n 0)), (81, 1, some (.iload_n 1)), (82, 3, some (.invokevirtual 449)), (85, 3, some (.goto 18)), (88, 1, some (.iload_n 2)), (89, 1, some (.iconst 3)), (90, 3, some (.if_icmp .ne 11)), (93, 1, some (.aload_n 0)), (94, 1, some (.iload_n 1)), (95, 3, some (.invokevirtual 452)), (98, 3, some (.goto 5)), (101, 2, some (.bipush (-2)))] _ 49 rfl (by decide +kernel)
theorem dX10_nights_49 : decode cX10_nights 49 = .ok (.isub, 1) := dq_g469.1
theorem dX10_nights_50 : decode cX10_nights 50 = .ok (.invokevirtual 177, 3) := dq_g469.2.1
theorem dX10_nights_53 : decode cX10_nights 53 = .ok (.ifCond .ne 6, 3) := dq_g469.2.2.1
theorem dX10_nights_56 : decode cX10_nights 56 = .ok (.bipush (-2), 2) := dq_g469.2.2.2.1
theorem dX10_nights_58 : decode cX10_nights 58 = .ok (.ireturn, 1) := dq_g469.2.2.2.2.1
theorem dX10_nights_59 : decode cX10_nights 59 = .ok (.iload_n 2, 1) := dq_g469.2.2.2.2.2.1
theorem dX10_nights_60 : decode cX10_nights 60 = .ok (.ifCond .eq 8, 3) := dq_g469.2.2.2.2.2.2.1
theorem dX10_nights_63 : decode cX10_nights 63 = .ok (.iload_n 2, 1) := dq_g469.2.2.2.2.2.2.2.1
theorem dX10_nights_64 : decode cX10_nights 64 = .ok (.iconst 1, 1) := dq_g469.2.2.2.2.2.2.2.2.1
theorem dX10_nights_65 : decode cX10_nights 65 = .ok (.if_icmp .ne 10, 3) := dq_g469.2.2.2.2.2.2.2.2.2.1
theorem dX10_nights_68 : decode cX10_nights 68 = .ok (.aload_n 0, 1) := dq_g469.2.2.2.2.2.2.2.2.2.2.1
theorem dX10_nights_69 : decode cX10_nights 69 = .ok (.iload_n 1, 1) := dq_g469.2.2.2.2.2.2.2.2.2.2.2.1
theorem dX10_nights_70 : decode cX10_nights 70 = .ok (.iload_n 2, 1) := dq_g469.2.2.2.2.2.2.2.2.2.2.2.2.1
theorem dX10_nights_71 : decode cX10_nights 71 = .ok (.invokevirtual 441, 3) := dq_g469.2.2.2.2.2.2.2.2.2.2.2.2.2.1
theorem dX10_nights_74 : decode cX10_nights 74 = .ok (.ireturn, 1) := dq_g469.2.2.2.2.2.2.2.2.2.2.2.2.2.2.1
theorem dX10_nights_75 : decode cX10_nights 75 = .ok (.iload_n 2, 1) := dq_g469.2.2.2.2.2.2.2.2.2.2.2.2.2.2.2.1
theorem dX10_nights_76 : decode cX10_nights 76 = .ok (.iconst 2, 1) := dq_g469.2.2.2.2.2.2.2.2.2.2.2.2.2.2.2.2.1
theorem dX10_nights_77 : decode cX10_nights 77 = .ok (.if_icmp .ne 11, 3) := dq_g469.2.2.2.2.2.2.2.2.2.2.2.2.2.2.2.2.2.1
theorem dX10_nights_80 : decode cX10_nights 80 = .ok (.aload_n 0, 1) := dq_g469.2.2.2.2.2.2.2.2.2.2.2.2.2.2.2.2.2.2.1
theorem dX10_nights_81 : decode cX10_nights 81 = .ok (.iload_n 1, 1) := dq_g469.2.2.2.2.2.2.2.2.2.2.2.2.2.2.2.2.2.2.2.1
theorem dX10_nights_82 : decode cX10_nights 82 = .ok (.invokevirtual 449, 3) := dq_g469.2.2.2.2.2.2.2.2.2.2.2.2.2.2.2.2.2.2.2.2.1
theorem dX10_nights_85 : decode cX10_nights 85 = .ok (.goto 18, 3) := dq_g469.2.2.2.2.2.2.2.2.2.2.2.2.2.2.2.2.2.2.2.2.2.1
theorem dX10_nights_88 : decode cX10_nights 88 = .ok (.iload_n 2, 1) := dq_g469.2.2.2.2.2.2.2.2.2.2.2.2.2.2.2.2.2.2.2.2.2.2.1
theorem dX10_nights_89 : decode cX10_nights 89 = .ok (.iconst 3, 1) := dq_g469.2.2.2.2.2.2.2.2.2.2.2.2.2.2.2.2.2.2.2.2.2.2.2.1
theorem dX10_nights_90 : decode cX10_nights 90 = .ok (.if_icmp .ne 11, 3) := dq_g469.2.2.2.2.2.2.2.2.2.2.2.2.2.2.2.2.2.2.2.2.2.2.2.2.1
theorem dX10_nights_93 : decode cX10_nights 93 = .ok (.aload_n 0, 1) := dq_g469.2.2.2.2.2.2.2.2.2.2.2.2.2.2.2.2.2.2.2.2.2.2.2.2.2.1
theorem dX10_nights_94 : decode cX10_nights 94 = .ok (.iload_n 1, 1) := dq_g469.2.2.2.2.2.2.2.2.2.2.2.2.2.2.2.2.2.2.2.2.2.2.2.2.2.2.1
theorem dX10_nights_95 : decode cX10_nights 95 = .ok (.invokevirtual 452, 3) := dq_g469.2.2.2.2.2.2.2.2.2.2.2.2.2.2.2.2.2.2.2.2.2.2.2.2.2.2.2.1
theorem dX10_nights_98 : decode cX10_nights 98 = .ok (.goto 5, 3) := dq_g469.2.2.2.2.2.2.2.2.2.2.2.2.2.2.2.2.2.2.2.2.2.2.2.2.2.2.2.2.1
theorem dX10_nights_101 : decode cX10_nights 101 = .ok (.bipush (-2), 2) := dq_g469.2.2.2.2.2.2.2.2.2.2.2.2.2.2.2.2.2.2.2.2.2.2.2.2.2.2.2.2.2.1
theorem dq_g470 : decode cX10_nights 103 = .ok (.ireturn, 1) ∧ True := dqC_ok (c := cX10_nights) [(103, 1, some (.ireturn))] _ 103 rfl (by decide +kernel)
theorem dX10_nights_103 : decode cX10_nights 103 = .ok (.ireturn, 1) := dq_g470.1
theorem dq_g471 : decode cX10_note 0 = .ok (.aload_n 0, 1) ∧ decode cX10_note 1 = .ok (.iconst 0, 1) ∧ decode cX10_note 2 = .ok (.putfield 167, 3) ∧ decode cX10_note 5 = .ok (.aload_n 0, 1) ∧ decode cX10_note 6 = .ok (.iload_n 1, 1) ∧ decode cX10_note 7 = .ok (.iconst 1, 1) ∧ decode cX10_note 8 = .ok (.ldc_w 348, 3) ∧ decode cX10_note 11 = .ok (.invokevirtual 177, 3) ∧ decode cX10_note 14 = .ok (.ifCond .eq 23, 3) ∧ decode cX10_note 17 = .ok (.aload_n 0, 1) ∧ decode cX10_note 18 = .ok (.iload_n 2, 1) ∧ decode cX10_note 19 = .ok (.iconst 1, 1) ∧ decode cX10_note 20 = .ok (.bipush 99, 2) ∧ decode cX10_note 22 = .ok (.invokevirtual 177, 3) ∧ decode cX10_note 25 = .ok (.ifCond .eq 12, 3) ∧ decode cX10_note 28 = .ok (.aload_n 0, 1) ∧ decode cX10_note 29 = .ok (.getfield 455, 3) ∧ decode cX10_note 32 = .ok (.bipush 8, 2) ∧ decode cX10_note 34 = .ok (.if_icmp .ne 5, 3) ∧ decode cX10_note 37 = .ok (.iconst (-1), 1) ∧ decode cX10_note 38 = .ok (.ireturn, 1) ∧ decode cX10_note 39 = .ok (.aload_n 0, 1) ∧ decode cX10_note 40 = .ok (.getfield 146, 3) ∧ decode cX10_note 43 = .ok (.aload_n 0, 1) ∧ decode cX10_note 44 = .ok (.getfield 455, 3) ∧ decode cX10_note 47 = .ok (.iload_n 1, 1) ∧ decode cX10_note 48 = .ok (.iastore, 1) ∧ decode cX10_note 49 = .ok (.aload_n 0, 1) ∧ decode cX10_note 50 = .ok (.getfield 149, 3) ∧ decode cX10_note 53 = .ok (.aload_n 0, 1) ∧ True := dqC_ok (c := cX10_note) [(0, 1, some (.aload_n 0)), (1, 1, some (.iconst 0)), (2, 3, some (.putfield 167)), (5, 1, some (.aload_n 0)), (6, 1, some (.iload_n 1)), (7, 1, some (.iconst 1)), (8, 3, some (.ldc_w 348)), (11, 3, some (.invokevirtual 177)), (14, 3, some (.ifCond .eq 23)), (17, 1, some (.aload_n 0)), (18, 1, some (.iload_n 2)), (19, 1, some (.iconst 1)), (20, 2, some (.bipush 99)), (22, 3, some (.invokevirtual 177)), (25, 3, some (.ifCond .eq 12)), (28, 1, some (.aload_n 0)), (29, 3, some (.getfield 455)), (32, 2, some (.bipush 8)), (34, 3, some (.if_icmp .ne 5)), (37, 1, some (.iconst (-1))), (38, 1, some (.ireturn)), (39, 1, some (.aload_n 0)), (40, 3, some (.getfield 146)), (43, 1, some (.aload_n 0)), (44, 3, some (.getfield 455)), (47, 1, some (.iload_n 1)), (48, 1, some (.iastore)), (49, 1, some (.aload_n 0)), (50, 3, some (.getfield 149)), (53, 1, some (.aload_n 0))] _ 0 rfl (by decide +kernel)
theorem dX10_note_0 : decode cX10_note 0 = .ok (.aload_n 0, 1) := dq_g471.1
theorem dX10_note_1 : decode cX10_note 1 = .ok (.iconst 0, 1) := dq_g471.2.1
theorem dX10_note_2 : decode cX10_note 2 = .ok (.putfield 167, 3) := dq_g471.2.2.1
theorem dX10_note_5 : decode cX10_note 5 = .ok (.aload_n 0, 1) := dq_g471.2.2.2.1
theorem dX10_note_6 : decode cX10_note 6 = .ok (.iload_n 1, 1) := dq_g471.2.2.2.2.1
theorem dX10_note_7 : decode cX10_note 7 = .ok (.iconst 1, 1) := dq_g471.2.2.2.2.2.1
theorem dX10_note_8 : decode cX10_note 8 = .ok (.ldc_w 348, 3) := dq_g471.2.2.2.2.2.2.1
theorem dX10_note_11 : decode cX10_note 11 = .ok (.invokevirtual 177, 3) := dq_g471.2.2.2.2.2.2.2.1
theorem dX10_note_14 : decode cX10_note 14 = .ok (.ifCond .eq 23, 3) := dq_g471.2.2.2.2.2.2.2.2.1
theorem dX10_note_17 : decode cX10_note 17 = .ok (.aload_n 0, 1) := dq_g471.2.2.2.2.2.2.2.2.2.1
theorem dX10_note_18 : decode cX10_note 18 = .ok (.iload_n 2, 1) := dq_g471.2.2.2.2.2.2.2.2.2.2.1
theorem dX10_note_19 : decode cX10_note 19 = .ok (.iconst 1, 1) := dq_g471.2.2.2.2.2.2.2.2.2.2.2.1
theorem dX10_note_20 : decode cX10_note 20 = .ok (.bipush 99, 2) := dq_g471.2.2.2.2.2.2.2.2.2.2.2.2.1
theorem dX10_note_22 : decode cX10_note 22 = .ok (.invokevirtual 177, 3) := dq_g471.2.2.2.2.2.2.2.2.2.2.2.2.2.1
theorem dX10_note_25 : decode cX10_note 25 = .ok (.ifCond .eq 12, 3) := dq_g471.2.2.2.2.2.2.2.2.2.2.2.2.2.2.1
theorem dX10_note_28 : decode cX10_note 28 = .ok (.aload_n 0, 1) := dq_g471.2.2.2.2.2.2.2.2.2.2.2.2.2.2.2.1
theorem dX10_note_29 : decode cX10_note 29 = .ok (.getfield 455, 3) := dq_g471.2.2.2.2.2.2.2.2.2.2.2.2.2.2.2.2.1
theorem dX10_note_32 : decode cX10_note 32 = .ok (.bipush 8, 2) := dq_g471.2.2.2.2.2.2.2.2.2.2.2.2.2.2.2.2.2.1
theorem dX10_note_34 : decode cX10_note 34 = .ok (.if_icmp .ne 5, 3) := dq_g471.2.2.2.2.2.2.2.2.2.2.2.2.2.2.2.2.2.2.1
theorem dX10_note_37 : decode cX10_note 37 = .ok (.iconst (-1), 1) := dq_g471.2.2.2.2.2.2.2.2.2.2.2.2.2.2.2.2.2.2.2.1
theorem dX10_note_38 : decode cX10_note 38 = .ok (.ireturn, 1) := dq_g471.2.2.2.2.2.2.2.2.2.2.2.2.2.2.2.2.2.2.2.2.1
theorem dX10_note_39 : decode cX10_note 39 = .ok (.aload_n 0, 1) := dq_g471.2.2.2.2.2.2.2.2.2.2.2.2.2.2.2.2.2.2.2.2.2.1
theorem dX10_note_40 : decode cX10_note 40 = .ok (.getfield 146, 3) := dq_g471.2.2.2.2.2.2.2.2.2.2.2.2.2.2.2.2.2.2.2.2.2.2.1
theorem dX10_note_43 : decode cX10_note 43 = .ok (.aload_n 0, 1) := dq_g471.2.2.2.2.2.2.2.2.2.2.2.2.2.2.2.2.2.2.2.2.2.2.2.1
theorem dX10_note_44 : decode cX10_note 44 = .ok (.getfield 455, 3) := dq_g471.2.2.2.2.2.2.2.2.2.2.2.2.2.2.2.2.2.2.2.2.2.2.2.2.1
theorem dX10_note_47 : decode cX10_note 47 = .ok (.iload_n 1, 1) := dq_g471.2.2.2.2.2.2.2.2.2.2.2.2.2.2.2.2.2.2.2.2.2.2.2.2.2.1
theorem dX10_note_48 : decode cX10_note 48 = .ok (.iastore, 1) := dq_g471.2.2.2.2.2.2.2.2.2.2.2.2.2.2.2.2.2.2.2.2.2.2.2.2.2.2.1
theorem dX10_note_49 : decode cX10_note 49 = .ok (.aload_n 0, 1) := dq_g471.2.2.2.2.2.2.2.2.2.2.2.2.2.2.2.2.2.2.2.2.2.2.2.2.2.2.2.1
theorem dX10_note_50 : decode cX10_note 50 = .ok (.getfield 149, 3) := dq_g471.2.2.2.2.2.2.2.2.2.2.2.2.2.2.2.2.2.2.2.2.2.2.2.2.2.2.2.2.1
theorem dX10_note_53 : decode cX10_note 53 = .ok (.aload_n 0, 1) := dq_g471.2.2.2.2.2.2.2.2.2.2.2.2.2.2.2.2.2.2.2.2.2.2.2.2.2.2.2.2.2.1
theorem dq_g472 : decode cX10_note 54 = .ok (.getfield 455, 3) ∧ decode cX10_note 57 = .ok (.iload_n 2, 1) ∧ decode cX10_note 58 = .ok (.iastore, 1) ∧ decode cX10_note 59 = .ok (.aload_n 0, 1) ∧ decode cX10_note 60 = .ok (.aload_n 0, 1) ∧ decode cX10_note 61 = .ok (.getfield 455, 3) ∧ decode cX10_note 64 = .ok (.iconst 1, 1) ∧ decode cX10_note 65 = .ok (.iadd, 1) ∧ decode cX10_note 66 = .ok (.putfield 455, 3) ∧ decode cX10_note 69 = .ok (.aload_n 0, 1) ∧ decode cX10_note 70 = .ok (.getfield 455, 3) ∧ decode cX10_note 73 = .ok (.iconst 1, 1) ∧ decode cX10_note 74 = .ok (.isub, 1) ∧ decode cX10_note 75 = .ok (.ireturn, 1) ∧ True := dqC_ok (c := cX10_note) [(54, 3, some (.getfield 455)), (57, 1, some (.iload_n 2)), (58, 1, some (.iastore)), (59, 1, some (.aload_n 0)), (60, 1, some (.aload_n 0)), (61, 3, some (.getfield 455)), (64, 1, some (.iconst 1)), (65, 1, some (.iadd)), (66, 3, some (.putfield 455)), (69, 1, some (.aload_n 0)), (70, 3, some (.getfield 455)), (73, 1, some (.iconst 1)), (74, 1, some (.isub)), (75, 1, some (.ireturn))] _ 54 rfl (by decide +kernel)
theorem dX10_note_54 : decode cX10_note 54 = .ok (.getfield 455, 3) := dq_g472.1
theorem dX10_note_57 : decode cX10_note 57 = .ok (.iload_n 2, 1) := dq_g472.2.1
theorem dX10_note_58 : decode cX10_note 58 = .ok (.iastore, 1) := dq_g472.2.2.1
theorem dX10_note_59 : decode cX10_note 59 = .ok (.aload_n 0, 1) := dq_g472.2.2.2.1
theorem dX10_note_60 : decode cX10_note 60 = .ok (.aload_n 0, 1) := dq_g472.2.2.2.2.1
theorem dX10_note_61 : decode cX10_note 61 = .ok (.getfield 455, 3) := dq_g472.2.2.2.2.2.1
theorem dX10_note_64 : decode cX10_note 64 = .ok (.iconst 1, 1) := dq_g472.2.2.2.2.2.2.1
theorem dX10_note_65 : decode cX10_note 65 = .ok (.iadd, 1) := dq_g472.2.2.2.2.2.2.2.1
theorem dX10_note_66 : decode cX10_note 66 = .ok (.putfield 455, 3) := dq_g472.2.2.2.2.2.2.2.2.1
theorem dX10_note_69 : decode cX10_note 69 = .ok (.aload_n 0, 1) := dq_g472.2.2.2.2.2.2.2.2.2.1
theorem dX10_note_70 : decode cX10_note 70 = .ok (.getfield 455, 3) := dq_g472.2.2.2.2.2.2.2.2.2.2.1
theorem dX10_note_73 : decode cX10_note 73 = .ok (.iconst 1, 1) := dq_g472.2.2.2.2.2.2.2.2.2.2.2.1
theorem dX10_note_74 : decode cX10_note 74 = .ok (.isub, 1) := dq_g472.2.2.2.2.2.2.2.2.2.2.2.2.1
theorem dX10_note_75 : decode cX10_note 75 = .ok (.ireturn, 1) := dq_g472.2.2.2.2.2.2.2.2.2.2.2.2.2.1
theorem dq_g473 : decode cX10_blank 0 = .ok (.aload_n 0, 1) ∧ decode cX10_blank 1 = .ok (.iconst 0, 1) ∧ decode cX10_blank 2 = .ok (.putfield 167, 3) ∧ decode cX10_blank 5 = .ok (.aload_n 0, 1) ∧ decode cX10_blank 6 = .ok (.iload_n 1, 1) ∧ decode cX10_blank 7 = .ok (.iconst 1, 1) ∧ decode cX10_blank 8 = .ok (.bipush 99, 2) ∧ decode cX10_blank 10 = .ok (.invokevirtual 177, 3) ∧ decode cX10_blank 13 = .ok (.ifCond .eq 23, 3) ∧ decode cX10_blank 16 = .ok (.aload_n 0, 1) ∧ decode cX10_blank 17 = .ok (.iload_n 2, 1) ∧ decode cX10_blank 18 = .ok (.iconst 0, 1) ∧ decode cX10_blank 19 = .ok (.bipush 99, 2) ∧ decode cX10_blank 21 = .ok (.invokevirtual 177, 3) ∧ decode cX10_blank 24 = .ok (.ifCond .eq 12, 3) ∧ decode cX10_blank 27 = .ok (.aload_n 0, 1) ∧ decode cX10_blank 28 = .ok (.getfield 458, 3) ∧ decode cX10_blank 31 = .ok (.bipush 8, 2) ∧ decode cX10_blank 33 = .ok (.if_icmp .ne 5, 3) ∧ decode cX10_blank 36 = .ok (.iconst (-1), 1) ∧ decode cX10_blank 37 = .ok (.ireturn, 1) ∧ decode cX10_blank 38 = .ok (.aload_n 0, 1) ∧ decode cX10_blank 39 = .ok (.getfield 152, 3) ∧ decode cX10_blank 42 = .ok (.aload_n 0, 1) ∧ decode cX10_blank 43 = .ok (.getfield 458, 3) ∧ decode cX10_blank 46 = .ok (.iload_n 1, 1) ∧ decode cX10_blank 47 = .ok (.iastore, 1) ∧ decode cX10_blank 48 = .ok (.aload_n 0, 1) ∧ decode cX10_blank 49 = .ok (.getfield 155, 3) ∧ decode cX10_blank 52 = .ok (.aload_n 0, 1) ∧ True := dqC_ok (c := cX10_blank) [(0, 1, some (.aload_n 0)), (1, 1, some (.iconst 0)), (2, 3, some (.putfield 167)), (5, 1, some (.aload_n 0)), (6, 1, some (.iload_n 1)), (7, 1, some (.iconst 1)), (8, 2, some (.bipush 99)), (10, 3, some (.invokevirtual 177)), (13, 3, some (.ifCond .eq 23)), (16, 1, some (.aload_n 0)), (17, 1, some (.iload_n 2)), (18, 1, some (.iconst 0)), (19, 2, some (.bipush 99)), (21, 3, some (.invokevirtual 177)), (24, 3, some (.ifCond .eq 12)), (27, 1, some (.aload_n 0)), (28, 3, some (.getfield 458)), (31, 2, some (.bipush 8)), (33, 3, some (.if_icmp .ne 5)), (36, 1, some (.iconst (-1))), (37, 1, some (.ireturn)), (38, 1, some (.aload_n 0)), (39, 3, some (.getfield 152)), (42, 1, some (.aload_n 0)), (43, 3, some (.getfield 458)), (46, 1, some (.iload_n 1)), (47, 1, some (.iastore)), (48, 1, some (.aload_n 0)), (49, 3, some (.getfield 155)), (52, 1, some (.aload_n 0))] _ 0 rfl (by decide +kernel)
theorem dX10_blank_0 : decode cX10_blank 0 = .ok (.aload_n 0, 1) := dq_g473.1
theorem dX10_blank_1 : decode cX10_blank 1 = .ok (.iconst 0, 1) := dq_g473.2.1
theorem dX10_blank_2 : decode cX10_blank 2 = .ok (.putfield 167, 3) := dq_g473.2.2.1
theorem dX10_blank_5 : decode cX10_blank 5 = .ok (.aload_n 0, 1) := dq_g473.2.2.2.1
theorem dX10_blank_6 : decode cX10_blank 6 = .ok (.iload_n 1, 1) := dq_g473.2.2.2.2.1
theorem dX10_blank_7 : decode cX10_blank 7 = .ok (.iconst 1, 1) := dq_g473.2.2.2.2.2.1
theorem dX10_blank_8 : decode cX10_blank 8 = .ok (.bipush 99, 2) := dq_g473.2.2.2.2.2.2.1
theorem dX10_blank_10 : decode cX10_blank 10 = .ok (.invokevirtual 177, 3) := dq_g473.2.2.2.2.2.2.2.1
theorem dX10_blank_13 : decode cX10_blank 13 = .ok (.ifCond .eq 23, 3) := dq_g473.2.2.2.2.2.2.2.2.1
theorem dX10_blank_16 : decode cX10_blank 16 = .ok (.aload_n 0, 1) := dq_g473.2.2.2.2.2.2.2.2.2.1
theorem dX10_blank_17 : decode cX10_blank 17 = .ok (.iload_n 2, 1) := dq_g473.2.2.2.2.2.2.2.2.2.2.1
theorem dX10_blank_18 : decode cX10_blank 18 = .ok (.iconst 0, 1) := dq_g473.2.2.2.2.2.2.2.2.2.2.2.1
theorem dX10_blank_19 : decode cX10_blank 19 = .ok (.bipush 99, 2) := dq_g473.2.2.2.2.2.2.2.2.2.2.2.2.1
theorem dX10_blank_21 : decode cX10_blank 21 = .ok (.invokevirtual 177, 3) := dq_g473.2.2.2.2.2.2.2.2.2.2.2.2.2.1
theorem dX10_blank_24 : decode cX10_blank 24 = .ok (.ifCond .eq 12, 3) := dq_g473.2.2.2.2.2.2.2.2.2.2.2.2.2.2.1
theorem dX10_blank_27 : decode cX10_blank 27 = .ok (.aload_n 0, 1) := dq_g473.2.2.2.2.2.2.2.2.2.2.2.2.2.2.2.1
theorem dX10_blank_28 : decode cX10_blank 28 = .ok (.getfield 458, 3) := dq_g473.2.2.2.2.2.2.2.2.2.2.2.2.2.2.2.2.1
theorem dX10_blank_31 : decode cX10_blank 31 = .ok (.bipush 8, 2) := dq_g473.2.2.2.2.2.2.2.2.2.2.2.2.2.2.2.2.2.1
theorem dX10_blank_33 : decode cX10_blank 33 = .ok (.if_icmp .ne 5, 3) := dq_g473.2.2.2.2.2.2.2.2.2.2.2.2.2.2.2.2.2.2.1
theorem dX10_blank_36 : decode cX10_blank 36 = .ok (.iconst (-1), 1) := dq_g473.2.2.2.2.2.2.2.2.2.2.2.2.2.2.2.2.2.2.2.1
theorem dX10_blank_37 : decode cX10_blank 37 = .ok (.ireturn, 1) := dq_g473.2.2.2.2.2.2.2.2.2.2.2.2.2.2.2.2.2.2.2.2.1
theorem dX10_blank_38 : decode cX10_blank 38 = .ok (.aload_n 0, 1) := dq_g473.2.2.2.2.2.2.2.2.2.2.2.2.2.2.2.2.2.2.2.2.2.1
theorem dX10_blank_39 : decode cX10_blank 39 = .ok (.getfield 152, 3) := dq_g473.2.2.2.2.2.2.2.2.2.2.2.2.2.2.2.2.2.2.2.2.2.2.1
theorem dX10_blank_42 : decode cX10_blank 42 = .ok (.aload_n 0, 1) := dq_g473.2.2.2.2.2.2.2.2.2.2.2.2.2.2.2.2.2.2.2.2.2.2.2.1
theorem dX10_blank_43 : decode cX10_blank 43 = .ok (.getfield 458, 3) := dq_g473.2.2.2.2.2.2.2.2.2.2.2.2.2.2.2.2.2.2.2.2.2.2.2.2.1
theorem dX10_blank_46 : decode cX10_blank 46 = .ok (.iload_n 1, 1) := dq_g473.2.2.2.2.2.2.2.2.2.2.2.2.2.2.2.2.2.2.2.2.2.2.2.2.2.1
theorem dX10_blank_47 : decode cX10_blank 47 = .ok (.iastore, 1) := dq_g473.2.2.2.2.2.2.2.2.2.2.2.2.2.2.2.2.2.2.2.2.2.2.2.2.2.2.1
theorem dX10_blank_48 : decode cX10_blank 48 = .ok (.aload_n 0, 1) := dq_g473.2.2.2.2.2.2.2.2.2.2.2.2.2.2.2.2.2.2.2.2.2.2.2.2.2.2.2.1
theorem dX10_blank_49 : decode cX10_blank 49 = .ok (.getfield 155, 3) := dq_g473.2.2.2.2.2.2.2.2.2.2.2.2.2.2.2.2.2.2.2.2.2.2.2.2.2.2.2.2.1
theorem dX10_blank_52 : decode cX10_blank 52 = .ok (.aload_n 0, 1) := dq_g473.2.2.2.2.2.2.2.2.2.2.2.2.2.2.2.2.2.2.2.2.2.2.2.2.2.2.2.2.2.1
theorem dq_g474 : decode cX10_blank 53 = .ok (.getfield 458, 3) ∧ decode cX10_blank 56 = .ok (.iload_n 2, 1) ∧ decode cX10_blank 57 = .ok (.iastore, 1) ∧ decode cX10_blank 58 = .ok (.aload_n 0, 1) ∧ decode cX10_blank 59 = .ok (.aload_n 0, 1) ∧ decode cX10_blank 60 = .ok (.getfield 458, 3) ∧ decode cX10_blank 63 = .ok (.iconst 1, 1) ∧ decode cX10_blank 64 = .ok (.iadd, 1) ∧ decode cX10_blank 65 = .ok (.putfield 458, 3) ∧ decode cX10_blank 68 = .ok (.aload_n 0, 1) ∧ decode cX10_blank 69 = .ok (.getfield 458, 3) ∧ decode cX10_blank 72 = .ok (.iconst 1, 1) ∧ decode cX10_blank 73 = .ok (.isub, 1) ∧ decode cX10_blank 74 = .ok (.ireturn, 1) ∧ True := dqC_ok (c := cX10_blank) [(53, 3, some (.getfield 458)), (56, 1, some (.iload_n 2)), (57, 1, some (.iastore)), (58, 1, some (.aload_n 0)), (59, 1, some (.aload_n 0)), (60, 3, some (.getfield 458)), (63, 1, some (.iconst 1)), (64, 1, some (.iadd)), (65, 3, some (.putfield 458)), (68, 1, some (.aload_n 0)), (69, 3, some (.getfield 458)), (72, 1, some (.iconst 1)), (73, 1, some (.isub)), (74, 1, some (.ireturn))] _ 53 rfl (by decide +kernel)
theorem dX10_blank_53 : decode cX10_blank 53 = .ok (.getfield 458, 3) := dq_g474.1
theorem dX10_blank_56 : decode cX10_blank 56 = .ok (.iload_n 2, 1) := dq_g474.2.1
theorem dX10_blank_57 : decode cX10_blank 57 = .ok (.iastore, 1) := dq_g474.2.2.1
theorem dX10_blank_58 : decode cX10_blank 58 = .ok (.aload_n 0, 1) := dq_g474.2.2.2.1
theorem dX10_blank_59 : decode cX10_blank 59 = .ok (.aload_n 0, 1) := dq_g474.2.2.2.2.1
theorem dX10_blank_60 : decode cX10_blank 60 = .ok (.getfield 458, 3) := dq_g474.2.2.2.2.2.1
theorem dX10_blank_63 : decode cX10_blank 63 = .ok (.iconst 1, 1) := dq_g474.2.2.2.2.2.2.1
theorem dX10_blank_64 : decode cX10_blank 64 = .ok (.iadd, 1) := dq_g474.2.2.2.2.2.2.2.1
theorem dX10_blank_65 : decode cX10_blank 65 = .ok (.putfield 458, 3) := dq_g474.2.2.2.2.2.2.2.2.1
theorem dX10_blank_68 : decode cX10_blank 68 = .ok (.aload_n 0, 1) := dq_g474.2.2.2.2.2.2.2.2.2.1
theorem dX10_blank_69 : decode cX10_blank 69 = .ok (.getfield 458, 3) := dq_g474.2.2.2.2.2.2.2.2.2.2.1
theorem dX10_blank_72 : decode cX10_blank 72 = .ok (.iconst 1, 1) := dq_g474.2.2.2.2.2.2.2.2.2.2.2.1
theorem dX10_blank_73 : decode cX10_blank 73 = .ok (.isub, 1) := dq_g474.2.2.2.2.2.2.2.2.2.2.2.2.1
theorem dX10_blank_74 : decode cX10_blank 74 = .ok (.ireturn, 1) := dq_g474.2.2.2.2.2.2.2.2.2.2.2.2.2.1
theorem dq_g475 : decode cX10_canHave 0 = .ok (.aload_n 0, 1) ∧ decode cX10_canHave 1 = .ok (.getfield 158, 3) ∧ decode cX10_canHave 4 = .ok (.iload_n 1, 1) ∧ decode cX10_canHave 5 = .ok (.iaload, 1) ∧ decode cX10_canHave 6 = .ok (.istore_n 3, 1) ∧ decode cX10_canHave 7 = .ok (.aload_n 0, 1) ∧ decode cX10_canHave 8 = .ok (.getfield 152, 3) ∧ decode cX10_canHave 11 = .ok (.iload_n 3, 1) ∧ decode cX10_canHave 12 = .ok (.iaload, 1) ∧ decode cX10_canHave 13 = .ok (.aload_n 0, 1) ∧ decode cX10_canHave 14 = .ok (.getfield 149, 3) ∧ decode cX10_canHave 17 = .ok (.iload_n 1, 1) ∧ decode cX10_canHave 18 = .ok (.iaload, 1) ∧ decode cX10_canHave 19 = .ok (.if_icmp .ge 5, 3) ∧ decode cX10_canHave 22 = .ok (.iconst 0, 1) ∧ decode cX10_canHave 23 = .ok (.ireturn, 1) ∧ decode cX10_canHave 24 = .ok (.iconst 0, 1) ∧ decode cX10_canHave 25 = .ok (.istore 4, 2) ∧ decode cX10_canHave 27 = .ok (.iload 4, 2) ∧ decode cX10_canHave 29 = .ok (.iload_n 1, 1) ∧ decode cX10_canHave 30 = .ok (.if_icmp .ge 49, 3) ∧ decode cX10_canHave 33 = .ok (.aload_n 0, 1) ∧ decode cX10_canHave 34 = .ok (.getfield 158, 3) ∧ decode cX10_canHave 37 = .ok (.iload 4, 2) ∧ decode cX10_canHave 39 = .ok (.iaload, 1) ∧ decode cX10_canHave 40 = .ok (.iload_n 3, 1) ∧ decode cX10_canHave 41 = .ok (.if_icmp .eq 30, 3) ∧ decode cX10_canHave 44 = .ok (.aload_n 0, 1) ∧ decode cX10_canHave 45 = .ok (.aload_n 0, 1) ∧ decode cX10_canHave 46 = .ok (.getfield 155, 3) ∧ True := dqC_ok (c := cX10_canHave) [(0, 1, some (.aload_n 0)), (1, 3, some (.getfield 158)), (4, 1, some (.iload_n 1)), (5, 1, some (.iaload)), (6, 1, some (.istore_n 3)), (7, 1, some (.aload_n 0)), (8, 3, some (.getfield 152)), (11, 1, some (.iload_n 3)), (12, 1, some (.iaload)), (13, 1, some (.aload_n 0)), (14, 3, some (.getfield 149)), (17, 1, some (.iload_n 1)), (18, 1, some (.iaload)), (19, 3, some (.if_icmp .ge 5)), (22, 1, some (.iconst 0)), (23, 1, some (.ireturn)), (24, 1, some (.iconst 0)), (25, 2, some (.istore 4)), (27, 2, some (.iload 4)), (29, 1, some (.iload_n 1)), (30, 3, some (.if_icmp .ge 49)), (33, 1, some (.aload_n 0)), (34, 3, some (.getfield 158)), (37, 2, some (.iload 4)), (39, 1, some (.iaload)), (40, 1, some (.iload_n 3)), (41, 3, some (.if_icmp .eq 30)), (44, 1, some (.aload_n 0)), (45, 1, some (.aload_n 0)), (46, 3, some (.getfield 155))] _ 0 rfl (by decide +kernel)
theorem dX10_canHave_0 : decode cX10_canHave 0 = .ok (.aload_n 0, 1) := dq_g475.1
theorem dX10_canHave_1 : decode cX10_canHave 1 = .ok (.getfield 158, 3) := dq_g475.2.1
theorem dX10_canHave_4 : decode cX10_canHave 4 = .ok (.iload_n 1, 1) := dq_g475.2.2.1
theorem dX10_canHave_5 : decode cX10_canHave 5 = .ok (.iaload, 1) := dq_g475.2.2.2.1
theorem dX10_canHave_6 : decode cX10_canHave 6 = .ok (.istore_n 3, 1) := dq_g475.2.2.2.2.1
theorem dX10_canHave_7 : decode cX10_canHave 7 = .ok (.aload_n 0, 1) := dq_g475.2.2.2.2.2.1
theorem dX10_canHave_8 : decode cX10_canHave 8 = .ok (.getfield 152, 3) := dq_g475.2.2.2.2.2.2.1
theorem dX10_canHave_11 : decode cX10_canHave 11 = .ok (.iload_n 3, 1) := dq_g475.2.2.2.2.2.2.2.1
theorem dX10_canHave_12 : decode cX10_canHave 12 = .ok (.iaload, 1) := dq_g475.2.2.2.2.2.2.2.2.1
theorem dX10_canHave_13 : decode cX10_canHave 13 = .ok (.aload_n 0, 1) := dq_g475.2.2.2.2.2.2.2.2.2.1
theorem dX10_canHave_14 : decode cX10_canHave 14 = .ok (.getfield 149, 3) := dq_g475.2.2.2.2.2.2.2.2.2.2.1
theorem dX10_canHave_17 : decode cX10_canHave 17 = .ok (.iload_n 1, 1) := dq_g475.2.2.2.2.2.2.2.2.2.2.2.1
theorem dX10_canHave_18 : decode cX10_canHave 18 = .ok (.iaload, 1) := dq_g475.2.2.2.2.2.2.2.2.2.2.2.2.1
theorem dX10_canHave_19 : decode cX10_canHave 19 = .ok (.if_icmp .ge 5, 3) := dq_g475.2.2.2.2.2.2.2.2.2.2.2.2.2.1
theorem dX10_canHave_22 : decode cX10_canHave 22 = .ok (.iconst 0, 1) := dq_g475.2.2.2.2.2.2.2.2.2.2.2.2.2.2.1
theorem dX10_canHave_23 : decode cX10_canHave 23 = .ok (.ireturn, 1) := dq_g475.2.2.2.2.2.2.2.2.2.2.2.2.2.2.2.1
theorem dX10_canHave_24 : decode cX10_canHave 24 = .ok (.iconst 0, 1) := dq_g475.2.2.2.2.2.2.2.2.2.2.2.2.2.2.2.2.1
theorem dX10_canHave_25 : decode cX10_canHave 25 = .ok (.istore 4, 2) := dq_g475.2.2.2.2.2.2.2.2.2.2.2.2.2.2.2.2.2.1
theorem dX10_canHave_27 : decode cX10_canHave 27 = .ok (.iload 4, 2) := dq_g475.2.2.2.2.2.2.2.2.2.2.2.2.2.2.2.2.2.2.1
theorem dX10_canHave_29 : decode cX10_canHave 29 = .ok (.iload_n 1, 1) := dq_g475.2.2.2.2.2.2.2.2.2.2.2.2.2.2.2.2.2.2.2.1
theorem dX10_canHave_30 : decode cX10_canHave 30 = .ok (.if_icmp .ge 49, 3) := dq_g475.2.2.2.2.2.2.2.2.2.2.2.2.2.2.2.2.2.2.2.2.1
theorem dX10_canHave_33 : decode cX10_canHave 33 = .ok (.aload_n 0, 1) := dq_g475.2.2.2.2.2.2.2.2.2.2.2.2.2.2.2.2.2.2.2.2.2.1
theorem dX10_canHave_34 : decode cX10_canHave 34 = .ok (.getfield 158, 3) := dq_g475.2.2.2.2.2.2.2.2.2.2.2.2.2.2.2.2.2.2.2.2.2.2.1
theorem dX10_canHave_37 : decode cX10_canHave 37 = .ok (.iload 4, 2) := dq_g475.2.2.2.2.2.2.2.2.2.2.2.2.2.2.2.2.2.2.2.2.2.2.2.1
theorem dX10_canHave_39 : decode cX10_canHave 39 = .ok (.iaload, 1) := dq_g475.2.2.2.2.2.2.2.2.2.2.2.2.2.2.2.2.2.2.2.2.2.2.2.2.1
theorem dX10_canHave_40 : decode cX10_canHave 40 = .ok (.iload_n 3, 1) := dq_g475.2.2.2.2.2.2.2.2.2.2.2.2.2.2.2.2.2.2.2.2.2.2.2.2.2.1
theorem dX10_canHave_41 : decode cX10_canHave 41 = .ok (.if_icmp .eq 30, 3) := dq_g475.2.2.2.2.2.2.2.2.2.2.2.2.2.2.2.2.2.2.2.2.2.2.2.2.2.2.1
theorem dX10_canHave_44 : decode cX10_canHave 44 = .ok (.aload_n 0, 1) := dq_g475.2.2.2.2.2.2.2.2.2.2.2.2.2.2.2.2.2.2.2.2.2.2.2.2.2.2.2.1
theorem dX10_canHave_45 : decode cX10_canHave 45 = .ok (.aload_n 0, 1) := dq_g475.2.2.2.2.2.2.2.2.2.2.2.2.2.2.2.2.2.2.2.2.2.2.2.2.2.2.2.2.1
theorem dX10_canHave_46 : decode cX10_canHave 46 = .ok (.getfield 155, 3) := dq_g475.2.2.2.2.2.2.2.2.2.2.2.2.2.2.2.2.2.2.2.2.2.2.2.2.2.2.2.2.2.1
theorem dq_g476 : decode cX10_canHave 49 = .ok (.aload_n 0, 1) ∧ decode cX10_canHave 50 = .ok (.getfield 158, 3) ∧ decode cX10_canHave 53 = .ok (.iload 4, 2) ∧ decode cX10_canHave 55 = .ok (.iaload, 1) ∧ decode cX10_canHave 56 = .ok (.iaload, 1) ∧ decode cX10_canHave 57 = .ok (.aload_n 0, 1) ∧ decode cX10_canHave 58 = .ok (.getfield 155, 3) ∧ decode cX10_canHave 61 = .ok (.iload_n 3, 1) ∧ decode cX10_canHave 62 = .ok (.iaload, 1) ∧ decode cX10_canHave 63 = .ok (.isub, 1) ∧ decode cX10_canHave 64 = .ok (.invokevirtual 309, 3) ∧ decode cX10_canHave 67 = .ok (.iload_n 2, 1) ∧ decode cX10_canHave 68 = .ok (.if_icmp .le 5, 3) ∧ decode cX10_canHave 71 = .ok (.iconst 0, 1) ∧ decode cX10_canHave 72 = .ok (.ireturn, 1) ∧ decode cX10_canHave 73 = .ok (.iinc 4 1, 3) ∧ decode cX10_canHave 76 = .ok (.goto (-49), 3) ∧ decode cX10_canHave 79 = .ok (.iconst 1, 1) ∧ decode cX10_canHave 80 = .ok (.ireturn, 1) ∧ True := dqC_ok (c := cX10_canHave) [(49, 1, some (.aload_n 0)), (50, 3, some (.getfield 158)), (53, 2, some (.iload 4)), (55, 1, some (.iaload)), (56, 1, some (.iaload)), (57, 1, some (.aload_n 0)), (58, 3, some (.getfield 155)), (61, 1, some (.iload_n 3)), (62, 1, some (.iaload)), (63, 1, some (.isub)), (64, 3, some (.invokevirtual 309)), (67, 1, some (.iload_n 2)), (68, 3, some (.if_icmp .le 5)), (71, 1, some (.iconst 0)), (72, 1, some (.ireturn)), (73, 3, some (.iinc 4 1)), (76, 3, some (.goto (-49))), (79, 1, some (.iconst 1)), (80, 1, some (.ireturn))] _ 49 rfl (by decide +kernel)
theorem dX10_canHave_49 : decode cX10_canHave 49 = .ok (.aload_n 0, 1) := dq_g476.1
theorem dX10_canHave_50 : decode cX10_canHave 50 = .ok (.getfield 158, 3) := dq_g476.2.1
theorem dX10_canHave_53 : decode cX10_canHave 53 = .ok (.iload 4, 2) := dq_g476.2.2.1
theorem dX10_canHave_55 : decode cX10_canHave 55 = .ok (.iaload, 1) := dq_g476.2.2.2.1
theorem dX10_canHave_56 : decode cX10_canHave 56 = .ok (.iaload, 1) := dq_g476.2.2.2.2.1
theorem dX10_canHave_57 : decode cX10_canHave 57 = .ok (.aload_n 0, 1) := dq_g476.2.2.2.2.2.1
theorem dX10_canHave_58 : decode cX10_canHave 58 = .ok (.getfield 155, 3) := dq_g476.2.2.2.2.2.2.1
theorem dX10_canHave_61 : decode cX10_canHave 61 = .ok (.iload_n 3, 1) := dq_g476.2.2.2.2.2.2.2.1
theorem dX10_canHave_62 : decode cX10_canHave 62 = .ok (.iaload, 1) := dq_g476.2.2.2.2.2.2.2.2.1
theorem dX10_canHave_63 : decode cX10_canHave 63 = .ok (.isub, 1) := dq_g476.2.2.2.2.2.2.2.2.2.1
theorem dX10_canHave_64 : decode cX10_canHave 64 = .ok (.invokevirtual 309, 3) := dq_g476.2.2.2.2.2.2.2.2.2.2.1
theorem dX10_canHave_67 : decode cX10_canHave 67 = .ok (.iload_n 2, 1) := dq_g476.2.2.2.2.2.2.2.2.2.2.2.1
theorem dX10_canHave_68 : decode cX10_canHave 68 = .ok (.if_icmp .le 5, 3) := dq_g476.2.2.2.2.2.2.2.2.2.2.2.2.1
theorem dX10_canHave_71 : decode cX10_canHave 71 = .ok (.iconst 0, 1) := dq_g476.2.2.2.2.2.2.2.2.2.2.2.2.2.1
theorem dX10_canHave_72 : decode cX10_canHave 72 = .ok (.ireturn, 1) := dq_g476.2.2.2.2.2.2.2.2.2.2.2.2.2.2.1
theorem dX10_canHave_73 : decode cX10_canHave 73 = .ok (.iinc 4 1, 3) := dq_g476.2.2.2.2.2.2.2.2.2.2.2.2.2.2.2.1
theorem dX10_canHave_76 : decode cX10_canHave 76 = .ok (.goto (-49), 3) := dq_g476.2.2.2.2.2.2.2.2.2.2.2.2.2.2.2.2.1
theorem dX10_canHave_79 : decode cX10_canHave 79 = .ok (.iconst 1, 1) := dq_g476.2.2.2.2.2.2.2.2.2.2.2.2.2.2.2.2.2.1
theorem dX10_canHave_80 : decode cX10_canHave 80 = .ok (.ireturn, 1) := dq_g476.2.2.2.2.2.2.2.2.2.2.2.2.2.2.2.2.2.2.1
theorem dq_g477 : decode cX10_leastWaste 0 = .ok (.iconst (-1), 1) ∧ decode cX10_leastWaste 1 = .ok (.istore_n 2, 1) ∧ decode cX10_leastWaste 2 = .ok (.iconst 0, 1) ∧ decode cX10_leastWaste 3 = .ok (.istore_n 3, 1) ∧ decode cX10_leastWaste 4 = .ok (.iconst 0, 1) ∧ decode cX10_leastWaste 5 = .ok (.istore 4, 2) ∧ decode cX10_leastWaste 7 = .ok (.iload 4, 2) ∧ decode cX10_leastWaste 9 = .ok (.bipush 8, 2) ∧ decode cX10_leastWaste 11 = .ok (.if_icmp .ge 17, 3) ∧ decode cX10_leastWaste 14 = .ok (.aload_n 0, 1) ∧ decode cX10_leastWaste 15 = .ok (.getfield 158, 3) ∧ decode cX10_leastWaste 18 = .ok (.iload 4, 2) ∧ decode cX10_leastWaste 20 = .ok (.iconst (-1), 1) ∧ decode cX10_leastWaste 21 = .ok (.iastore, 1) ∧ decode cX10_leastWaste 22 = .ok (.iinc 4 1, 3) ∧ decode cX10_leastWaste 25 = .ok (.goto (-18), 3) ∧ decode cX10_leastWaste 28 = .ok (.aload_n 0, 1) ∧ decode cX10_leastWaste 29 = .ok (.getfield 455, 3) ∧ decode cX10_leastWaste 32 = .ok (.ifCond .ne 5, 3) ∧ decode cX10_leastWaste 35 = .ok (.iconst 0, 1) ∧ decode cX10_leastWaste 36 = .ok (.ireturn, 1) ∧ decode cX10_leastWaste 37 = .ok (.iload_n 3, 1) ∧ decode cX10_leastWaste 38 = .ok (.ifCond .lt 171, 3) ∧ decode cX10_leastWaste 41 = .ok (.aload_n 0, 1) ∧ decode cX10_leastWaste 42 = .ok (.getfield 158, 3) ∧ decode cX10_leastWaste 45 = .ok (.iload_n 3, 1) ∧ decode cX10_leastWaste 46 = .ok (.aload_n 0, 1) ∧ decode cX10_leastWaste 47 = .ok (.getfield 158, 3) ∧ decode cX10_leastWaste 50 = .ok (.iload_n 3, 1) ∧ decode cX10_leastWaste 51 = .ok (.iaload, 1) ∧ True := dqC_ok (c := cX10_leastWaste) [(0, 1, some (.iconst (-1))), (1, 1, some (.istore_n 2)), (2, 1, some (.iconst 0)), (3, 1, some (.istore_n 3)), (4, 1, some (.iconst 0)), (5, 2, some (.istore 4)), (7, 2, some (.iload 4)), (9, 2, some (.bipush 8)), (11, 3, some (.if_icmp .ge 17)), (14, 1, some (.aload_n 0)), (15, 3, some (.getfield 158)), (18, 2, some (.iload 4)), (20, 1, some (.iconst (-1))), (21, 1, some (.iastore)), (22, 3, some (.iinc 4 1)), (25, 3, some (.goto (-18))), (28, 1, some (.aload_n 0)), (29, 3, some (.getfield 455)), (32, 3, some (.ifCond .ne 5)), (35, 1, some (.iconst 0)), (36, 1, some (.ireturn)), (37, 1, some (.iload_n 3)), (38, 3, some (.ifCond .lt 171)), (41, 1, some (.aload_n 0)), (42, 3, some (.getfield 158)), (45, 1, some (.iload_n 3)), (46, 1, some (.aload_n 0)), (47, 3, some (.getfield 158)), (50, 1, some (.iload_n 3)), (51, 1, some (.iaload))] _ 0 rfl (by decide +kernel)
theorem dX10_leastWaste_0 : decode cX10_leastWaste 0 = .ok (.iconst (-1), 1) := dq_g477.1
theorem dX10_leastWaste_1 : decode cX10_leastWaste 1 = .ok (.istore_n 2, 1) := dq_g477.2.1
theorem dX10_leastWaste_2 : decode cX10_leastWaste 2 = .ok (.iconst 0, 1) := dq_g477.2.2.1
theorem dX10_leastWaste_3 : decode cX10_leastWaste 3 = .ok (.istore_n 3, 1) := dq_g477.2.2.2.1
theorem dX10_leastWaste_4 : decode cX10_leastWaste 4 = .ok (.iconst 0, 1) := dq_g477.2.2.2.2.1
theorem dX10_leastWaste_5 : decode cX10_leastWaste 5 = .ok (.istore 4, 2) := dq_g477.2.2.2.2.2.1
theorem dX10_leastWaste_7 : decode cX10_leastWaste 7 = .ok (.iload 4, 2) := dq_g477.2.2.2.2.2.2.1
theorem dX10_leastWaste_9 : decode cX10_leastWaste 9 = .ok (.bipush 8, 2) := dq_g477.2.2.2.2.2.2.2.1
theorem dX10_leastWaste_11 : decode cX10_leastWaste 11 = .ok (.if_icmp .ge 17, 3) := dq_g477.2.2.2.2.2.2.2.2.1
theorem dX10_leastWaste_14 : decode cX10_leastWaste 14 = .ok (.aload_n 0, 1) := dq_g477.2.2.2.2.2.2.2.2.2.1
theorem dX10_leastWaste_15 : decode cX10_leastWaste 15 = .ok (.getfield 158, 3) := dq_g477.2.2.2.2.2.2.2.2.2.2.1
theorem dX10_leastWaste_18 : decode cX10_leastWaste 18 = .ok (.iload 4, 2) := dq_g477.2.2.2.2.2.2.2.2.2.2.2.1
theorem dX10_leastWaste_20 : decode cX10_leastWaste 20 = .ok (.iconst (-1), 1) := dq_g477.2.2.2.2.2.2.2.2.2.2.2.2.1
theorem dX10_leastWaste_21 : decode cX10_leastWaste 21 = .ok (.iastore, 1) := dq_g477.2.2.2.2.2.2.2.2.2.2.2.2.2.1
theorem dX10_leastWaste_22 : decode cX10_leastWaste 22 = .ok (.iinc 4 1, 3) := dq_g477.2.2.2.2.2.2.2.2.2.2.2.2.2.2.1
theorem dX10_leastWaste_25 : decode cX10_leastWaste 25 = .ok (.goto (-18), 3) := dq_g477.2.2.2.2.2.2.2.2.2.2.2.2.2.2.2.1
theorem dX10_leastWaste_28 : decode cX10_leastWaste 28 = .ok (.aload_n 0, 1) := dq_g477.2.2.2.2.2.2.2.2.2.2.2.2.2.2.2.2.1
theorem dX10_leastWaste_29 : decode cX10_leastWaste 29 = .ok (.getfield 455, 3) := dq_g477.2.2.2.2.2.2.2.2.2.2.2.2.2.2.2.2.2.1
theorem dX10_leastWaste_32 : decode cX10_leastWaste 32 = .ok (.ifCond .ne 5, 3) := dq_g477.2.2.2.2.2.2.2.2.2.2.2.2.2.2.2.2.2.2.1
theorem dX10_leastWaste_35 : decode cX10_leastWaste 35 = .ok (.iconst 0, 1) := dq_g477.2.2.2.2.2.2.2.2.2.2.2.2.2.2.2.2.2.2.2.1
theorem dX10_leastWaste_36 : decode cX10_leastWaste 36 = .ok (.ireturn, 1) := dq_g477.2.2.2.2.2.2.2.2.2.2.2.2.2.2.2.2.2.2.2.2.1
theorem dX10_leastWaste_37 : decode cX10_leastWaste 37 = .ok (.iload_n 3, 1) := dq_g477.2.2.2.2.2.2.2.2.2.2.2.2.2.2.2.2.2.2.2.2.2.1
theorem dX10_leastWaste_38 : decode cX10_leastWaste 38 = .ok (.ifCond .lt 171, 3) := dq_g477.2.2.2.2.2.2.2.2.2.2.2.2.2.2.2.2.2.2.2.2.2.2.1
theorem dX10_leastWaste_41 : decode cX10_leastWaste 41 = .ok (.aload_n 0, 1) := dq_g477.2.2.2.2.2.2.2.2.2.2.2.2.2.2.2.2.2.2.2.2.2.2.2.1
theorem dX10_leastWaste_42 : decode cX10_leastWaste 42 = .ok (.getfield 158, 3) := dq_g477.2.2.2.2.2.2.2.2.2.2.2.2.2.2.2.2.2.2.2.2.2.2.2.2.1
theorem dX10_leastWaste_45 : decode cX10_leastWaste 45 = .ok (.iload_n 3, 1) := dq_g477.2.2.2.2.2.2.2.2.2.2.2.2.2.2.2.2.2.2.2.2.2.2.2.2.2.1
theorem dX10_leastWaste_46 : decode cX10_leastWaste 46 = .ok (.aload_n 0, 1) := dq_g477.2.2.2.2.2.2.2.2.2.2.2.2.2.2.2.2.2.2.2.2.2.2.2.2.2.2.1
theorem dX10_leastWaste_47 : decode cX10_leastWaste 47 = .ok (.getfield 158, 3) := dq_g477.2.2.2.2.2.2.2.2.2.2.2.2.2.2.2.2.2.2.2.2.2.2.2.2.2.2.2.1
theorem dX10_leastWaste_50 : decode cX10_leastWaste 50 = .ok (.iload_n 3, 1) := dq_g477.2.2.2.2.2.2.2.2.2.2.2.2.2.2.2.2.2.2.2.2.2.2.2.2.2.2.2.2.1
theorem dX10_leastWaste_51 : decode cX10_leastWaste 51 = .ok (.iaload, 1) := dq_g477.2.2.2.2.2.2.2.2.2.2.2.2.2.2.2.2.2.2.2.2.2.2.2.2.2.2.2.2.2.1
theorem dq_g478 : decode cX10_leastWaste 52 = .ok (.iconst 1, 1) ∧ decode cX10_leastWaste 53 = .ok (.iadd, 1) ∧ decode cX10_leastWaste 54 = .ok (.iastore, 1) ∧ decode cX10_leastWaste 55 = .ok (.aload_n 0, 1) ∧ decode cX10_leastWaste 56 = .ok (.getfield 158, 3) ∧ decode cX10_leastWaste 59 = .ok (.iload_n 3, 1) ∧ decode cX10_leastWaste 60 = .ok (.iaload, 1) ∧ decode cX10_leastWaste 61 = .ok (.aload_n 0, 1) ∧ decode cX10_leastWaste 62 = .ok (.getfield 458, 3) ∧ decode cX10_leastWaste 65 = .ok (.if_icmp .lt 17, 3) ∧ decode cX10_leastWaste 68 = .ok (.aload_n 0, 1) ∧ decode cX10_leastWaste 69 = .ok (.getfield 158, 3) ∧ decode cX10_leastWaste 72 = .ok (.iload_n 3, 1) ∧ decode cX10_leastWaste 73 = .ok (.iconst (-1), 1) ∧ decode cX10_leastWaste 74 = .ok (.iastore, 1) ∧ decode cX10_leastWaste 75 = .ok (.iload_n 3, 1) ∧ decode cX10_leastWaste 76 = .ok (.iconst 1, 1) ∧ decode cX10_leastWaste 77 = .ok (.isub, 1) ∧ decode cX10_leastWaste 78 = .ok (.istore_n 3, 1) ∧ decode cX10_leastWaste 79 = .ok (.goto (-42), 3) ∧ decode cX10_leastWaste 82 = .ok (.aload_n 0, 1) ∧ decode cX10_leastWaste 83 = .ok (.iload_n 3, 1) ∧ decode cX10_leastWaste 84 = .ok (.iload_n 1, 1) ∧ decode cX10_leastWaste 85 = .ok (.invokevirtual 461, 3) ∧ decode cX10_leastWaste 88 = .ok (.ifCond .ne 6, 3) ∧ decode cX10_leastWaste 91 = .ok (.goto (-54), 3) ∧ decode cX10_leastWaste 94 = .ok (.iload_n 3, 1) ∧ decode cX10_leastWaste 95 = .ok (.aload_n 0, 1) ∧ decode cX10_leastWaste 96 = .ok (.getfield 455, 3) ∧ decode cX10_leastWaste 99 = .ok (.iconst 1, 1) ∧ True := dqC_ok (c := cX10_leastWaste) [(52, 1, some (.iconst 1)), (53, 1, some (.iadd)), (54, 1, some (.iastore)), (55, 1, some (.aload_n 0)), (56, 3, some (.getfield 158)), (59, 1, some (.iload_n 3)), (60, 1, some (.iaload)), (61, 1, some (.aload_n 0)), (62, 3, some (.getfield 458)), (65, 3, some (.if_icmp .lt 17)), (68, 1, some (.aload_n 0)), (69, 3, some (.getfield 158)), (72, 1, some (.iload_n 3)), (73, 1, some (.iconst (-1))), (74, 1, some (.iastore)), (75, 1, some (.iload_n 3)), (76, 1, some (.iconst 1)), (77, 1, some (.isub)), (78, 1, some (.istore_n 3)), (79, 3, some (.goto (-42))), (82, 1, some (.aload_n 0)), (83, 1, some (.iload_n 3)), (84, 1, some (.iload_n 1)), (85, 3, some (.invokevirtual 461)), (88, 3, some (.ifCond .ne 6)), (91, 3, some (.goto (-54))), (94, 1, some (.iload_n 3)), (95, 1, some (.aload_n 0)), (96, 3, some (.getfield 455)), (99, 1, some (.iconst 1))] _ 52 rfl (by decide +kernel)
theorem dX10_leastWaste_52 : decode cX10_leastWaste 52 = .ok (.iconst 1, 1) := dq_g478.1
theorem dX10_leastWaste_53 : decode cX10_leastWaste 53 = .ok (.iadd, 1) := dq_g478.2.1
theorem dX10_leastWaste_54 : decode cX10_leastWaste 54 = .ok (.iastore, 1) := dq_g478.2.2.1
theorem dX10_leastWaste_55 : decode cX10_leastWaste 55 = .ok (.aload_n 0, 1) := dq_g478.2.2.2.1
theorem dX10_leastWaste_56 : decode cX10_leastWaste 56 = .ok (.getfield 158, 3) := dq_g478.2.2.2.2.1
theorem dX10_leastWaste_59 : decode cX10_leastWaste 59 = .ok (.iload_n 3, 1) := dq_g478.2.2.2.2.2.1
theorem dX10_leastWaste_60 : decode cX10_leastWaste 60 = .ok (.iaload, 1) := dq_g478.2.2.2.2.2.2.1
theorem dX10_leastWaste_61 : decode cX10_leastWaste 61 = .ok (.aload_n 0, 1) := dq_g478.2.2.2.2.2.2.2.1
theorem dX10_leastWaste_62 : decode cX10_leastWaste 62 = .ok (.getfield 458, 3) := dq_g478.2.2.2.2.2.2.2.2.1
theorem dX10_leastWaste_65 : decode cX10_leastWaste 65 = .ok (.if_icmp .lt 17, 3) := dq_g478.2.2.2.2.2.2.2.2.2.1
theorem dX10_leastWaste_68 : decode cX10_leastWaste 68 = .ok (.aload_n 0, 1) := dq_g478.2.2.2.2.2.2.2.2.2.2.1
theorem dX10_leastWaste_69 : decode cX10_leastWaste 69 = .ok (.getfield 158, 3) := dq_g478.2.2.2.2.2.2.2.2.2.2.2.1
theorem dX10_leastWaste_72 : decode cX10_leastWaste 72 = .ok (.iload_n 3, 1) := dq_g478.2.2.2.2.2.2.2.2.2.2.2.2.1
theorem dX10_leastWaste_73 : decode cX10_leastWaste 73 = .ok (.iconst (-1), 1) := dq_g478.2.2.2.2.2.2.2.2.2.2.2.2.2.1
theorem dX10_leastWaste_74 : decode cX10_leastWaste 74 = .ok (.iastore, 1) := dq_g478.2.2.2.2.2.2.2.2.2.2.2.2.2.2.1
theorem dX10_leastWaste_75 : decode cX10_leastWaste 75 = .ok (.iload_n 3, 1) := dq_g478.2.2.2.2.2.2.2.2.2.2.2.2.2.2.2.1
theorem dX10_leastWaste_76 : decode cX10_leastWaste 76 = .ok (.iconst 1, 1) := dq_g478.2.2.2.2.2.2.2.2.2.2.2.2.2.2.2.2.1
theorem dX10_leastWaste_77 : decode cX10_leastWaste 77 = .ok (.isub, 1) := dq_g478.2.2.2.2.2.2.2.2.2.2.2.2.2.2.2.2.2.1
theorem dX10_leastWaste_78 : decode cX10_leastWaste 78 = .ok (.istore_n 3, 1) := dq_g478.2.2.2.2.2.2.2.2.2.2.2.2.2.2.2.2.2.2.1
theorem dX10_leastWaste_79 : decode cX10_leastWaste 79 = .ok (.goto (-42), 3) := dq_g478.2.2.2.2.2.2.2.2.2.2.2.2.2.2.2.2.2.2.2.1
theorem dX10_leastWaste_82 : decode cX10_leastWaste 82 = .ok (.aload_n 0, 1) := dq_g478.2.2.2.2.2.2.2.2.2.2.2.2.2.2.2.2.2.2.2.2.1
theorem dX10_leastWaste_83 : decode cX10_leastWaste 83 = .ok (.iload_n 3, 1) := dq_g478.2.2.2.2.2.2.2.2.2.2.2.2.2.2.2.2.2.2.2.2.2.1
theorem dX10_leastWaste_84 : decode cX10_leastWaste 84 = .ok (.iload_n 1, 1) := dq_g478.2.2.2.2.2.2.2.2.2.2.2.2.2.2.2.2.2.2.2.2.2.2.1
theorem dX10_leastWaste_85 : decode cX10_leastWaste 85 = .ok (.invokevirtual 461, 3) := dq_g478.2.2.2.2.2.2.2.2.2.2.2.2.2.2.2.2.2.2.2.2.2.2.2.1
theorem dX10_leastWaste_88 : decode cX10_leastWaste 88 = .ok (.ifCond .ne 6, 3) := dq_g478.2.2.2.2.2.2.2.2.2.2.2.2.2.2.2.2.2.2.2.2.2.2.2.2.1
theorem dX10_leastWaste_91 : decode cX10_leastWaste 91 = .ok (.goto (-54), 3) := dq_g478.2.2.2.2.2.2.2.2.2.2.2.2.2.2.2.2.2.2.2.2.2.2.2.2.2.1
theorem dX10_leastWaste_94 : decode cX10_leastWaste 94 = .ok (.iload_n 3, 1) := dq_g478.2.2.2.2.2.2.2.2.2.2.2.2.2.2.2.2.2.2.2.2.2.2.2.2.2.2.1
theorem dX10_leastWaste_95 : decode cX10_leastWaste 95 = .ok (.aload_n 0, 1) := dq_g478.2.2.2.2.2.2.2.2.2.2.2.2.2.2.2.2.2.2.2.2.2.2.2.2.2.2.2.1
theorem dX10_leastWaste_96 : decode cX10_leastWaste 96 = .ok (.getfield 455, 3) := dq_g478.2.2.2.2.2.2.2.2.2.2.2.2.2.2.2.2.2.2.2.2.2.2.2.2.2.2.2.2.1
theorem dX10_leastWaste_99 : decode cX10_leastWaste 99 = .ok (.iconst 1, 1) := dq_g478.2.2.2.2.2.2.2.2.2.2.2.2.2.2.2.2.2.2.2.2.2.2.2.2.2.2.2.2.2.1
theorem dq_g479 : decode cX10_leastWaste 100 = .ok (.isub, 1) ∧ decode cX10_leastWaste 101 = .ok (.if_icmp .ge 10, 3) ∧ decode cX10_leastWaste 104 = .ok (.iload_n 3, 1) ∧ decode cX10_leastWaste 105 = .ok (.iconst 1, 1) ∧ decode cX10_leastWaste 106 = .ok (.iadd, 1) ∧ decode cX10_leastWaste 107 = .ok (.istore_n 3, 1) ∧ decode cX10_leastWaste 108 = .ok (.goto (-71), 3) ∧ decode cX10_leastWaste 111 = .ok (.iconst 0, 1) ∧ decode cX10_leastWaste 112 = .ok (.istore 4, 2) ∧ decode cX10_leastWaste 114 = .ok (.iconst 0, 1) ∧ decode cX10_leastWaste 115 = .ok (.istore 5, 2) ∧ decode cX10_leastWaste 117 = .ok (.iload 5, 2) ∧ decode cX10_leastWaste 119 = .ok (.aload_n 0, 1) ∧ decode cX10_leastWaste 120 = .ok (.getfield 455, 3) ∧ decode cX10_leastWaste 123 = .ok (.if_icmp .ge 34, 3) ∧ decode cX10_leastWaste 126 = .ok (.iload 4, 2) ∧ decode cX10_leastWaste 128 = .ok (.aload_n 0, 1) ∧ decode cX10_leastWaste 129 = .ok (.getfield 152, 3) ∧ decode cX10_leastWaste 132 = .ok (.aload_n 0, 1) ∧ decode cX10_leastWaste 133 = .ok (.getfield 158, 3) ∧ decode cX10_leastWaste 136 = .ok (.iload 5, 2) ∧ decode cX10_leastWaste 138 = .ok (.iaload, 1) ∧ decode cX10_leastWaste 139 = .ok (.iaload, 1) ∧ decode cX10_leastWaste 140 = .ok (.iadd, 1) ∧ decode cX10_leastWaste 141 = .ok (.aload_n 0, 1) ∧ decode cX10_leastWaste 142 = .ok (.getfield 149, 3) ∧ decode cX10_leastWaste 145 = .ok (.iload 5, 2) ∧ decode cX10_leastWaste 147 = .ok (.iaload, 1) ∧ decode cX10_leastWaste 148 = .ok (.isub, 1) ∧ decode cX10_leastWaste 149 = .ok (.istore 4, 2) ∧ True := dqC_ok (c := cX10_leastWaste) [(100, 1, some (.isub)), (101, 3, some (.if_icmp .ge 10)), (104, 1, some (.iload_n 3)), (105, 1, some (.iconst 1)), (106, 1, some (.iadd)), (107, 1, some (.istore_n 3)), (108, 3, some (.goto (-71))), (111, 1, some (.iconst 0)), (112, 2, some (.istore 4)), (114, 1, some (.iconst 0)), (115, 2, some (.istore 5)), (117, 2, some (.iload 5)), (119, 1, some (.aload_n 0)), (120, 3, some (.getfield 455)), (123, 3, some (.if_icmp .ge 34)), (126, 2, some (.iload 4)), (128, 1, some (.aload_n 0)), (129, 3, some (.getfield 152)), (132, 1, some (.aload_n 0)), (133, 3, some (.getfield 158)), (136, 2, some (.iload 5)), (138, 1, some (.iaload)), (139, 1, some (.iaload)), (140, 1, some (.iadd)), (141, 1, some (.aload_n 0)), (142, 3, some (.getfield 149)), (145, 2, some (.iload 5)), (147, 1, some (.iaload)), (148, 1, some (.isub)), (149, 2, some (.istore 4))] _ 100 rfl (by decide +kernel)
theorem dX10_leastWaste_100 : decode cX10_leastWaste 100 = .ok (.isub, 1) := dq_g479.1
theorem dX10_leastWaste_101 : decode cX10_leastWaste 101 = .ok (.if_icmp .ge 10, 3) := dq_g479.2.1
theorem dX10_leastWaste_104 : decode cX10_leastWaste 104 = .ok (.iload_n 3, 1) := dq_g479.2.2.1
theorem dX10_leastWaste_105 : decode cX10_leastWaste 105 = .ok (.iconst 1, 1) := dq_g479.2.2.2.1
theorem dX10_leastWaste_106 : decode cX10_leastWaste 106 = .ok (.iadd, 1) := dq_g479.2.2.2.2.1
theorem dX10_leastWaste_107 : decode cX10_leastWaste 107 = .ok (.istore_n 3, 1) := dq_g479.2.2.2.2.2.1
theorem dX10_leastWaste_108 : decode cX10_leastWaste 108 = .ok (.goto (-71), 3) := dq_g479.2.2.2.2.2.2.1
theorem dX10_leastWaste_111 : decode cX10_leastWaste 111 = .ok (.iconst 0, 1) := dq_g479.2.2.2.2.2.2.2.1
theorem dX10_leastWaste_112 : decode cX10_leastWaste 112 = .ok (.istore 4, 2) := dq_g479.2.2.2.2.2.2.2.2.1
theorem dX10_leastWaste_114 : decode cX10_leastWaste 114 = .ok (.iconst 0, 1) := dq_g479.2.2.2.2.2.2.2.2.2.1
theorem dX10_leastWaste_115 : decode cX10_leastWaste 115 = .ok (.istore 5, 2) := dq_g479.2.2.2.2.2.2.2.2.2.2.1
theorem dX10_leastWaste_117 : decode cX10_leastWaste 117 = .ok (.iload 5, 2) := dq_g479.2.2.2.2.2.2.2.2.2.2.2.1
theorem dX10_leastWaste_119 : decode cX10_leastWaste 119 = .ok (.aload_n 0, 1) := dq_g479.2.2.2.2.2.2.2.2.2.2.2.2.1
theorem dX10_leastWaste_120 : decode cX10_leastWaste 120 = .ok (.getfield 455, 3) := dq_g479.2.2.2.2.2.2.2.2.2.2.2.2.2.1
theorem dX10_leastWaste_123 : decode cX10_leastWaste 123 = .ok (.if_icmp .ge 34, 3) := dq_g479.2.2.2.2.2.2.2.2.2.2.2.2.2.2.1
theorem dX10_leastWaste_126 : decode cX10_leastWaste 126 = .ok (.iload 4, 2) := dq_g479.2.2.2.2.2.2.2.2.2.2.2.2.2.2.2.1
theorem dX10_leastWaste_128 : decode cX10_leastWaste 128 = .ok (.aload_n 0, 1) := dq_g479.2.2.2.2.2.2.2.2.2.2.2.2.2.2.2.2.1
theorem dX10_leastWaste_129 : decode cX10_leastWaste 129 = .ok (.getfield 152, 3) := dq_g479.2.2.2.2.2.2.2.2.2.2.2.2.2.2.2.2.2.1
theorem dX10_leastWaste_132 : decode cX10_leastWaste 132 = .ok (.aload_n 0, 1) := dq_g479.2.2.2.2.2.2.2.2.2.2.2.2.2.2.2.2.2.2.1
theorem dX10_leastWaste_133 : decode cX10_leastWaste 133 = .ok (.getfield 158, 3) := dq_g479.2.2.2.2.2.2.2.2.2.2.2.2.2.2.2.2.2.2.2.1
theorem dX10_leastWaste_136 : decode cX10_leastWaste 136 = .ok (.iload 5, 2) := dq_g479.2.2.2.2.2.2.2.2.2.2.2.2.2.2.2.2.2.2.2.2.1
theorem dX10_leastWaste_138 : decode cX10_leastWaste 138 = .ok (.iaload, 1) := dq_g479.2.2.2.2.2.2.2.2.2.2.2.2.2.2.2.2.2.2.2.2.2.1
theorem dX10_leastWaste_139 : decode cX10_leastWaste 139 = .ok (.iaload, 1) := dq_g479.2.2.2.2.2.2.2.2.2.2.2.2.2.2.2.2.2.2.2.2.2.2.1
theorem dX10_leastWaste_140 : decode cX10_leastWaste 140 = .ok (.iadd, 1) := dq_g479.2.2.2.2.2.2.2.2.2.2.2.2.2.2.2.2.2.2.2.2.2.2.2.1
theorem dX10_leastWaste_141 : decode cX10_leastWaste 141 = .ok (.aload_n 0, 1) := dq_g479.2.2.2.2.2.2.2.2.2.2.2.2.2.2.2.2.2.2.2.2.2.2.2.2.1
theorem dX10_leastWaste_142 : decode cX10_leastWaste 142 = .ok (.getfield 149, 3) := dq_g479.2.2.2.2.2.2.2.2.2.2.2.2.2.2.2.2.2.2.2.2.2.2.2.2.2.1
theorem dX10_leastWaste_145 : decode cX10_leastWaste 145 = .ok (.iload 5, 2) := dq_g479.2.2.2.2.2.2.2.2.2.2.2.2.2.2.2.2.2.2.2.2.2.2.2.2.2.2.1
theorem dX10_leastWaste_147 : decode cX10_leastWaste 147 = .ok (.iaload, 1) := dq_g479.2.2.2.2.2.2.2.2.2.2.2.2.2.2.2.2.2.2.2.2.2.2.2.2.2.2.2.1
theorem dX10_leastWaste_148 : decode cX10_leastWaste 148 = .ok (.isub, 1) := dq_g479.2.2.2.2.2.2.2.2.2.2.2.2.2.2.2.2.2.2.2.2.2.2.2.2.2.2.2.2.1
theorem dX10_leastWaste_149 : decode cX10_leastWaste 149 = .ok (.istore 4, 2) := dq_g479.2.2.2.2.2.2.2.2.2.2.2.2.2.2.2.2.2.2.2.2.2.2.2.2.2.2.2.2.2.1
theorem dq_g480 : decode cX10_leastWaste 151 = .ok (.iinc 5 1, 3) ∧ decode cX10_leastWaste 154 = .ok (.goto (-37), 3) ∧ decode cX10_leastWaste 157 = .ok (.iload_n 2, 1) ∧ decode cX10_leastWaste 158 = .ok (.iconst (-1), 1) ∧ decode cX10_leastWaste 159 = .ok (.if_icmp .eq 12, 3) ∧ decode cX10_leastWaste 162 = .ok (.iload 4, 2) ∧ decode cX10_leastWaste 164 = .ok (.iload_n 2, 1) ∧ decode cX10_leastWaste 165 = .ok (.if_icmp .lt 6, 3) ∧ decode cX10_leastWaste 168 = .ok (.goto (-131), 3) ∧ decode cX10_leastWaste 171 = .ok (.iload 4, 2) ∧ decode cX10_leastWaste 173 = .ok (.istore_n 2, 1) ∧ decode cX10_leastWaste 174 = .ok (.iconst 0, 1) ∧ decode cX10_leastWaste 175 = .ok (.istore 5, 2) ∧ decode cX10_leastWaste 177 = .ok (.iload 5, 2) ∧ decode cX10_leastWaste 179 = .ok (.aload_n 0, 1) ∧ decode cX10_leastWaste 180 = .ok (.getfield 455, 3) ∧ decode cX10_leastWaste 183 = .ok (.if_icmp .ge 23, 3) ∧ decode cX10_leastWaste 186 = .ok (.aload_n 0, 1) ∧ decode cX10_leastWaste 187 = .ok (.getfield 161, 3) ∧ decode cX10_leastWaste 190 = .ok (.iload 5, 2) ∧ decode cX10_leastWaste 192 = .ok (.aload_n 0, 1) ∧ decode cX10_leastWaste 193 = .ok (.getfield 158, 3) ∧ decode cX10_leastWaste 196 = .ok (.iload 5, 2) ∧ decode cX10_leastWaste 198 = .ok (.iaload, 1) ∧ decode cX10_leastWaste 199 = .ok (.iastore, 1) ∧ decode cX10_leastWaste 200 = .ok (.iinc 5 1, 3) ∧ decode cX10_leastWaste 203 = .ok (.goto (-26), 3) ∧ decode cX10_leastWaste 206 = .ok (.goto (-169), 3) ∧ decode cX10_leastWaste 209 = .ok (.iload_n 2, 1) ∧ decode cX10_leastWaste 210 = .ok (.ireturn, 1) ∧ True := dqC_ok (c := cX10_leastWaste) [(151, 3, some (.iinc 5 1)), (154, 3, some (.goto (-37))), (157, 1, some (.iload_n 2)), (158, 1, some (.iconst (-1))), (159, 3, some (.if_icmp .eq 12)), (162, 2, some (.iload 4)), (164, 1, some (.iload_n 2)), (165, 3, some (.if_icmp .lt 6)), (168, 3, some (.goto (-131))), (171, 2, some (.iload 4)), (173, 1, some (.istore_n 2)), (174, 1, some (.iconst 0)), (175, 2, some (.istore 5)), (177, 2, some (.iload 5)), (179, 1, some (.aload_n 0)), (180, 3, some (.getfield 455)), (183, 3, some (.if_icmp .ge 23)), (186, 1, some (.aload_n 0)), (187, 3, some (.getfield 161)), (190, 2, some (.iload 5)), (192, 1, some (.aload_n 0)), (193, 3, some (.getfield 158)), (196, 2, some (.iload 5)), (198, 1, some (.iaload)), (199, 1, some (.iastore)), (200, 3, some (.iinc 5 1)), (203, 3, some (.goto (-26))), (206, 3, some (.goto (-169))), (209, 1, some (.iload_n 2)), (210, 1, some (.ireturn))] _ 151 rfl (by decide +kernel)
theorem dX10_leastWaste_151 : decode cX10_leastWaste 151 = .ok (.iinc 5 1, 3) := dq_g480.1
theorem dX10_leastWaste_154 : decode cX10_leastWaste 154 = .ok (.goto (-37), 3) := dq_g480.2.1
theorem dX10_leastWaste_157 : decode cX10_leastWaste 157 = .ok (.iload_n 2, 1) := dq_g480.2.2.1
theorem dX10_leastWaste_158 : decode cX10_leastWaste 158 = .ok (.iconst (-1), 1) := dq_g480.2.2.2.1
theorem dX10_leastWaste_159 : decode cX10_leastWaste 159 = .ok (.if_icmp .eq 12, 3) := dq_g480.2.2.2.2.1
theorem dX10_leastWaste_162 : decode cX10_leastWaste 162 = .ok (.iload 4, 2) := dq_g480.2.2.2.2.2.1
theorem dX10_leastWaste_164 : decode cX10_leastWaste 164 = .ok (.iload_n 2, 1) := dq_g480.2.2.2.2.2.2.1
theorem dX10_leastWaste_165 : decode cX10_leastWaste 165 = .ok (.if_icmp .lt 6, 3) := dq_g480.2.2.2.2.2.2.2.1
theorem dX10_leastWaste_168 : decode cX10_leastWaste 168 = .ok (.goto (-131), 3) := dq_g480.2.2.2.2.2.2.2.2.1
theorem dX10_leastWaste_171 : decode cX10_leastWaste 171 = .ok (.iload 4, 2) := dq_g480.2.2.2.2.2.2.2.2.2.1
theorem dX10_leastWaste_173 : decode cX10_leastWaste 173 = .ok (.istore_n 2, 1) := dq_g480.2.2.2.2.2.2.2.2.2.2.1
theorem dX10_leastWaste_174 : decode cX10_leastWaste 174 = .ok (.iconst 0, 1) := dq_g480.2.2.2.2.2.2.2.2.2.2.2.1
theorem dX10_leastWaste_175 : decode cX10_leastWaste 175 = .ok (.istore 5, 2) := dq_g480.2.2.2.2.2.2.2.2.2.2.2.2.1
theorem dX10_leastWaste_177 : decode cX10_leastWaste 177 = .ok (.iload 5, 2) := dq_g480.2.2.2.2.2.2.2.2.2.2.2.2.2.1
theorem dX10_leastWaste_179 : decode cX10_leastWaste 179 = .ok (.aload_n 0, 1) := dq_g480.2.2.2.2.2.2.2.2.2.2.2.2.2.2.1
theorem dX10_leastWaste_180 : decode cX10_leastWaste 180 = .ok (.getfield 455, 3) := dq_g480.2.2.2.2.2.2.2.2.2.2.2.2.2.2.2.1
theorem dX10_leastWaste_183 : decode cX10_leastWaste 183 = .ok (.if_icmp .ge 23, 3) := dq_g480.2.2.2.2.2.2.2.2.2.2.2.2.2.2.2.2.1
theorem dX10_leastWaste_186 : decode cX10_leastWaste 186 = .ok (.aload_n 0, 1) := dq_g480.2.2.2.2.2.2.2.2.2.2.2.2.2.2.2.2.2.1
theorem dX10_leastWaste_187 : decode cX10_leastWaste 187 = .ok (.getfield 161, 3) := dq_g480.2.2.2.2.2.2.2.2.2.2.2.2.2.2.2.2.2.2.1
theorem dX10_leastWaste_190 : decode cX10_leastWaste 190 = .ok (.iload 5, 2) := dq_g480.2.2.2.2.2.2.2.2.2.2.2.2.2.2.2.2.2.2.2.1
theorem dX10_leastWaste_192 : decode cX10_leastWaste 192 = .ok (.aload_n 0, 1) := dq_g480.2.2.2.2.2.2.2.2.2.2.2.2.2.2.2.2.2.2.2.2.1
theorem dX10_leastWaste_193 : decode cX10_leastWaste 193 = .ok (.getfield 158, 3) := dq_g480.2.2.2.2.2.2.2.2.2.2.2.2.2.2.2.2.2.2.2.2.2.1
theorem dX10_leastWaste_196 : decode cX10_leastWaste 196 = .ok (.iload 5, 2) := dq_g480.2.2.2.2.2.2.2.2.2.2.2.2.2.2.2.2.2.2.2.2.2.2.1
theorem dX10_leastWaste_198 : decode cX10_leastWaste 198 = .ok (.iaload, 1) := dq_g480.2.2.2.2.2.2.2.2.2.2.2.2.2.2.2.2.2.2.2.2.2.2.2.1
theorem dX10_leastWaste_199 : decode cX10_leastWaste 199 = .ok (.iastore, 1) := dq_g480.2.2.2.2.2.2.2.2.2.2.2.2.2.2.2.2.2.2.2.2.2.2.2.2.1
theorem dX10_leastWaste_200 : decode cX10_leastWaste 200 = .ok (.iinc 5 1, 3) := dq_g480.2.2.2.2.2.2.2.2.2.2.2.2.2.2.2.2.2.2.2.2.2.2.2.2.2.1
theorem dX10_leastWaste_203 : decode cX10_leastWaste 203 = .ok (.goto (-26), 3) := dq_g480.2.2.2.2.2.2.2.2.2.2.2.2.2.2.2.2.2.2.2.2.2.2.2.2.2.2.1
theorem dX10_leastWaste_206 : decode cX10_leastWaste 206 = .ok (.goto (-169), 3) := dq_g480.2.2.2.2.2.2.2.2.2.2.2.2.2.2.2.2.2.2.2.2.2.2.2.2.2.2.2.1
theorem dX10_leastWaste_209 : decode cX10_leastWaste 209 = .ok (.iload_n 2, 1) := dq_g480.2.2.2.2.2.2.2.2.2.2.2.2.2.2.2.2.2.2.2.2.2.2.2.2.2.2.2.2.1
theorem dX10_leastWaste_210 : decode cX10_leastWaste 210 = .ok (.ireturn, 1) := dq_g480.2.2.2.2.2.2.2.2.2.2.2.2.2.2.2.2.2.2.2.2.2.2.2.2.2.2.2.2.2.1
theorem dq_g481 : decode cX10_set 0 = .ok (.aload_n 0, 1) ∧ decode cX10_set 1 = .ok (.iconst 0, 1) ∧ decode cX10_set 2 = .ok (.putfield 167, 3) ∧ decode cX10_set 5 = .ok (.aload_n 0, 1) ∧ decode cX10_set 6 = .ok (.iload_n 1, 1) ∧ decode cX10_set 7 = .ok (.iconst 0, 1) ∧ decode cX10_set 8 = .ok (.bipush 99, 2) ∧ decode cX10_set 10 = .ok (.invokevirtual 177, 3) ∧ decode cX10_set 13 = .ok (.ifCond .eq 16, 3) ∧ decode cX10_set 16 = .ok (.aload_n 0, 1) ∧ decode cX10_set 17 = .ok (.iload_n 2, 1) ∧ decode cX10_set 18 = .ok (.iconst 0, 1) ∧ decode cX10_set 19 = .ok (.aload_n 0, 1) ∧ decode cX10_set 20 = .ok (.getfield 455, 3) ∧ decode cX10_set 23 = .ok (.invokevirtual 177, 3) ∧ decode cX10_set 26 = .ok (.ifCond .ne 5, 3) ∧ decode cX10_set 29 = .ok (.iconst (-1), 1) ∧ decode cX10_set 30 = .ok (.ireturn, 1) ∧ decode cX10_set 31 = .ok (.aload_n 0, 1) ∧ decode cX10_set 32 = .ok (.iload_n 1, 1) ∧ decode cX10_set 33 = .ok (.invokevirtual 464, 3) ∧ decode cX10_set 36 = .ok (.istore_n 3, 1) ∧ decode cX10_set 37 = .ok (.iload_n 2, 1) ∧ decode cX10_set 38 = .ok (.ifCond .eq 8, 3) ∧ decode cX10_set 41 = .ok (.iload_n 3, 1) ∧ decode cX10_set 42 = .ok (.iconst (-1), 1) ∧ decode cX10_set 43 = .ok (.if_icmp .ne 7, 3) ∧ decode cX10_set 46 = .ok (.iload_n 3, 1) ∧ decode cX10_set 47 = .ok (.goto 11, 3) ∧ decode cX10_set 50 = .ok (.aload_n 0, 1) ∧ True := dqC_ok (c := cX10_set) [(0, 1, some (.aload_n 0)), (1, 1, some (.iconst 0)), (2, 3, some (.putfield 167)), (5, 1, some (.aload_n 0)), (6, 1, some (.iload_n 1)), (7, 1, some (.iconst 0)), (8, 2, some (.bipush 99)), (10, 3, some (.invokevirtual 177)), (13, 3, some (.ifCond .eq 16)), (16, 1, some (.aload_n 0)), (17, 1, some (.iload_n 2)), (18, 1, some (.iconst 0)), (19, 1, some (.aload_n 0)), (20, 3, some (.getfield 455)), (23, 3, some (.invokevirtual 177)), (26, 3, some (.ifCond .ne 5)), (29, 1, some (.iconst (-1))), (30, 1, some (.ireturn)), (31, 1, some (.aload_n 0)), (32, 1, some (.iload_n 1)), (33, 3, some (.invokevirtual 464)), (36, 1, some (.istore_n 3)), (37, 1, some (.iload_n 2)), (38, 3, some (.ifCond .eq 8)), (41, 1, some (.iload_n 3)), (42, 1, some (.iconst (-1))), (43, 3, some (.if_icmp .ne 7)), (46, 1, some (.iload_n 3)), (47, 3, some (.goto 11)), (50, 1, some (.aload_n 0))] _ 0 rfl (by decide +kernel)
theorem dX10_set_0 : decode cX10_set 0 = .ok (.aload_n 0, 1) := dq_g481.1
theorem dX10_set_1 : decode cX10_set 1 = .ok (.iconst 0, 1) := dq_g481.2.1
theorem dX10_set_2 : decode cX10_set 2 = .ok (.putfield 167, 3) := dq_g481.2.2.1
theorem dX10_set_5 : decode cX10_set 5 = .ok (.aload_n 0, 1) := dq_g481.2.2.2.1
theorem dX10_set_6 : decode cX10_set 6 = .ok (.iload_n 1, 1) := dq_g481.2.2.2.2.1
theorem dX10_set_7 : decode cX10_set 7 = .ok (.iconst 0, 1) := dq_g481.2.2.2.2.2.1
theorem dX10_set_8 : decode cX10_set 8 = .ok (.bipush 99, 2) := dq_g481.2.2.2.2.2.2.1
theorem dX10_set_10 : decode cX10_set 10 = .ok (.invokevirtual 177, 3) := dq_g481.2.2.2.2.2.2.2.1
theorem dX10_set_13 : decode cX10_set 13 = .ok (.ifCond .eq 16, 3) := dq_g481.2.2.2.2.2.2.2.2.1
theorem dX10_set_16 : decode cX10_set 16 = .ok (.aload_n 0, 1) := dq_g481.2.2.2.2.2.2.2.2.2.1
theorem dX10_set_17 : decode cX10_set 17 = .ok (.iload_n 2, 1) := dq_g481.2.2.2.2.2.2.2.2.2.2.1
theorem dX10_set_18 : decode cX10_set 18 = .ok (.iconst 0, 1) := dq_g481.2.2.2.2.2.2.2.2.2.2.2.1
theorem dX10_set_19 : decode cX10_set 19 = .ok (.aload_n 0, 1) := dq_g481.2.2.2.2.2.2.2.2.2.2.2.2.1
theorem dX10_set_20 : decode cX10_set 20 = .ok (.getfield 455, 3) := dq_g481.2.2.2.2.2.2.2.2.2.2.2.2.2.1
theorem dX10_set_23 : decode cX10_set 23 = .ok (.invokevirtual 177, 3) := dq_g481.2.2.2.2.2.2.2.2.2.2.2.2.2.2.1
theorem dX10_set_26 : decode cX10_set 26 = .ok (.ifCond .ne 5, 3) := dq_g481.2.2.2.2.2.2.2.2.2.2.2.2.2.2.2.1
theorem dX10_set_29 : decode cX10_set 29 = .ok (.iconst (-1), 1) := dq_g481.2.2.2.2.2.2.2.2.2.2.2.2.2.2.2.2.1
theorem dX10_set_30 : decode cX10_set 30 = .ok (.ireturn, 1) := dq_g481.2.2.2.2.2.2.2.2.2.2.2.2.2.2.2.2.2.1
theorem dX10_set_31 : decode cX10_set 31 = .ok (.aload_n 0, 1) := dq_g481.2.2.2.2.2.2.2.2.2.2.2.2.2.2.2.2.2.2.1
theorem dX10_set_32 : decode cX10_set 32 = .ok (.iload_n 1, 1) := dq_g481.2.2.2.2.2.2.2.2.2.2.2.2.2.2.2.2.2.2.2.1
theorem dX10_set_33 : decode cX10_set 33 = .ok (.invokevirtual 464, 3) := dq_g481.2.2.2.2.2.2.2.2.2.2.2.2.2.2.2.2.2.2.2.2.1
theorem dX10_set_36 : decode cX10_set 36 = .ok (.istore_n 3, 1) := dq_g481.2.2.2.2.2.2.2.2.2.2.2.2.2.2.2.2.2.2.2.2.2.1
theorem dX10_set_37 : decode cX10_set 37 = .ok (.iload_n 2, 1) := dq_g481.2.2.2.2.2.2.2.2.2.2.2.2.2.2.2.2.2.2.2.2.2.2.1
theorem dX10_set_38 : decode cX10_set 38 = .ok (.ifCond .eq 8, 3) := dq_g481.2.2.2.2.2.2.2.2.2.2.2.2.2.2.2.2.2.2.2.2.2.2.2.1
theorem dX10_set_41 : decode cX10_set 41 = .ok (.iload_n 3, 1) := dq_g481.2.2.2.2.2.2.2.2.2.2.2.2.2.2.2.2.2.2.2.2.2.2.2.2.1
theorem dX10_set_42 : decode cX10_set 42 = .ok (.iconst (-1), 1) := dq_g481.2.2.2.2.2.2.2.2.2.2.2.2.2.2.2.2.2.2.2.2.2.2.2.2.2.1
theorem dX10_set_43 : decode cX10_set 43 = .ok (.if_icmp .ne 7, 3) := dq_g481.2.2.2.2.2.2.2.2.2.2.2.2.2.2.2.2.2.2.2.2.2.2.2.2.2.2.1
theorem dX10_set_46 : decode cX10_set 46 = .ok (.iload_n 3, 1) := dq_g481.2.2.2.2.2.2.2.2.2.2.2.2.2.2.2.2.2.2.2.2.2.2.2.2.2.2.2.1
theorem dX10_set_47 : decode cX10_set 47 = .ok (.goto 11, 3) := dq_g481.2.2.2.2.2.2.2.2.2.2.2.2.2.2.2.2.2.2.2.2.2.2.2.2.2.2.2.2.1
theorem dX10_set_50 : decode cX10_set 50 = .ok (.aload_n 0, 1) := dq_g481.2.2.2.2.2.2.2.2.2.2.2.2.2.2.2.2.2.2.2.2.2.2.2.2.2.2.2.2.2.1
theorem dq_g482 : decode cX10_set 51 = .ok (.getfield 161, 3) ∧ decode cX10_set 54 = .ok (.iload_n 2, 1) ∧ decode cX10_set 55 = .ok (.iconst 1, 1) ∧ decode cX10_set 56 = .ok (.isub, 1) ∧ decode cX10_set 57 = .ok (.iaload, 1) ∧ decode cX10_set 58 = .ok (.ireturn, 1) ∧ True := dqC_ok (c := cX10_set) [(51, 3, some (.getfield 161)), (54, 1, some (.iload_n 2)), (55, 1, some (.iconst 1)), (56, 1, some (.isub)), (57, 1, some (.iaload)), (58, 1, some (.ireturn))] _ 51 rfl (by decide +kernel)
theorem dX10_set_51 : decode cX10_set 51 = .ok (.getfield 161, 3) := dq_g482.1
theorem dX10_set_54 : decode cX10_set 54 = .ok (.iload_n 2, 1) := dq_g482.2.1
theorem dX10_set_55 : decode cX10_set 55 = .ok (.iconst 1, 1) := dq_g482.2.2.1
theorem dX10_set_56 : decode cX10_set 56 = .ok (.isub, 1) := dq_g482.2.2.2.1
theorem dX10_set_57 : decode cX10_set 57 = .ok (.iaload, 1) := dq_g482.2.2.2.2.1
theorem dX10_set_58 : decode cX10_set 58 = .ok (.ireturn, 1) := dq_g482.2.2.2.2.2.1
theorem dq_g483 : decode cX10_down 0 = .ok (.aload_n 0, 1) ∧ decode cX10_down 1 = .ok (.iconst 0, 1) ∧ decode cX10_down 2 = .ok (.putfield 167, 3) ∧ decode cX10_down 5 = .ok (.aload_n 0, 1) ∧ decode cX10_down 6 = .ok (.iload_n 1, 1) ∧ decode cX10_down 7 = .ok (.invokevirtual 173, 3) ∧ decode cX10_down 10 = .ok (.ifCond .ne 5, 3) ∧ decode cX10_down 13 = .ok (.iconst (-1), 1) ∧ decode cX10_down 14 = .ok (.ireturn, 1) ∧ decode cX10_down 15 = .ok (.aload_n 0, 1) ∧ decode cX10_down 16 = .ok (.iload_n 1, 1) ∧ decode cX10_down 17 = .ok (.iconst 0, 1) ∧ decode cX10_down 18 = .ok (.invokevirtual 335, 3) ∧ decode cX10_down 21 = .ok (.istore_n 2, 1) ∧ decode cX10_down 22 = .ok (.iconst (-1), 1) ∧ decode cX10_down 23 = .ok (.istore_n 3, 1) ∧ decode cX10_down 24 = .ok (.iconst 0, 1) ∧ decode cX10_down 25 = .ok (.istore 4, 2) ∧ decode cX10_down 27 = .ok (.iload 4, 2) ∧ decode cX10_down 29 = .ok (.aload_n 0, 1) ∧ decode cX10_down 30 = .ok (.getfield 455, 3) ∧ decode cX10_down 33 = .ok (.if_icmp .ge 49, 3) ∧ decode cX10_down 36 = .ok (.aload_n 0, 1) ∧ decode cX10_down 37 = .ok (.getfield 146, 3) ∧ decode cX10_down 40 = .ok (.iload 4, 2) ∧ decode cX10_down 42 = .ok (.iaload, 1) ∧ decode cX10_down 43 = .ok (.iload_n 2, 1) ∧ decode cX10_down 44 = .ok (.aload_n 0, 1) ∧ decode cX10_down 45 = .ok (.getfield 7, 3) ∧ decode cX10_down 48 = .ok (.iadd, 1) ∧ True := dqC_ok (c := cX10_down) [(0, 1, some (.aload_n 0)), (1, 1, some (.iconst 0)), (2, 3, some (.putfield 167)), (5, 1, some (.aload_n 0)), (6, 1, some (.iload_n 1)), (7, 3, some (.invokevirtual 173)), (10, 3, some (.ifCond .ne 5)), (13, 1, some (.iconst (-1))), (14, 1, some (.ireturn)), (15, 1, some (.aload_n 0)), (16, 1, some (.iload_n 1)), (17, 1, some (.iconst 0)), (18, 3, some (.invokevirtual 335)), (21, 1, some (.istore_n 2)), (22, 1, some (.iconst (-1))), (23, 1, some (.istore_n 3)), (24, 1, some (.iconst 0)), (25, 2, some (.istore 4)), (27, 2, some (.iload 4)), (29, 1, some (.aload_n 0)), (30, 3, some (.getfield 455)), (33, 3, some (.if_icmp .ge 49)), (36, 1, some (.aload_n 0)), (37, 3, some (.getfield 146)), (40, 2, some (.iload 4)), (42, 1, some (.iaload)), (43, 1, some (.iload_n 2)), (44, 1, some (.aload_n 0)), (45, 3, some (.getfield 7)), (48, 1, some (.iadd))] _ 0 rfl (by decide +kernel)
theorem dX10_down_0 : decode cX10_down 0 = .ok (.aload_n 0, 1) := dq_g483.1
theorem dX10_down_1 : decode cX10_down 1 = .ok (.iconst 0, 1) := dq_g483.2.1
theorem dX10_down_2 : decode cX10_down 2 = .ok (.putfield 167, 3) := dq_g483.2.2.1
theorem dX10_down_5 : decode cX10_down 5 = .ok (.aload_n 0, 1) := dq_g483.2.2.2.1
theorem dX10_down_6 : decode cX10_down 6 = .ok (.iload_n 1, 1) := dq_g483.2.2.2.2.1
theorem dX10_down_7 : decode cX10_down 7 = .ok (.invokevirtual 173, 3) := dq_g483.2.2.2.2.2.1
theorem dX10_down_10 : decode cX10_down 10 = .ok (.ifCond .ne 5, 3) := dq_g483.2.2.2.2.2.2.1
theorem dX10_down_13 : decode cX10_down 13 = .ok (.iconst (-1), 1) := dq_g483.2.2.2.2.2.2.2.1
theorem dX10_down_14 : decode cX10_down 14 = .ok (.ireturn, 1) := dq_g483.2.2.2.2.2.2.2.2.1
theorem dX10_down_15 : decode cX10_down 15 = .ok (.aload_n 0, 1) := dq_g483.2.2.2.2.2.2.2.2.2.1
theorem dX10_down_16 : decode cX10_down 16 = .ok (.iload_n 1, 1) := dq_g483.2.2.2.2.2.2.2.2.2.2.1
theorem dX10_down_17 : decode cX10_down 17 = .ok (.iconst 0, 1) := dq_g483.2.2.2.2.2.2.2.2.2.2.2.1
theorem dX10_down_18 : decode cX10_down 18 = .ok (.invokevirtual 335, 3) := dq_g483.2.2.2.2.2.2.2.2.2.2.2.2.1
theorem dX10_down_21 : decode cX10_down 21 = .ok (.istore_n 2, 1) := dq_g483.2.2.2.2.2.2.2.2.2.2.2.2.2.1
theorem dX10_down_22 : decode cX10_down 22 = .ok (.iconst (-1), 1) := dq_g483.2.2.2.2.2.2.2.2.2.2.2.2.2.2.1
theorem dX10_down_23 : decode cX10_down 23 = .ok (.istore_n 3, 1) := dq_g483.2.2.2.2.2.2.2.2.2.2.2.2.2.2.2.1
theorem dX10_down_24 : decode cX10_down 24 = .ok (.iconst 0, 1) := dq_g483.2.2.2.2.2.2.2.2.2.2.2.2.2.2.2.2.1
theorem dX10_down_25 : decode cX10_down 25 = .ok (.istore 4, 2) := dq_g483.2.2.2.2.2.2.2.2.2.2.2.2.2.2.2.2.2.1
theorem dX10_down_27 : decode cX10_down 27 = .ok (.iload 4, 2) := dq_g483.2.2.2.2.2.2.2.2.2.2.2.2.2.2.2.2.2.2.1
theorem dX10_down_29 : decode cX10_down 29 = .ok (.aload_n 0, 1) := dq_g483.2.2.2.2.2.2.2.2.2.2.2.2.2.2.2.2.2.2.2.1
theorem dX10_down_30 : decode cX10_down 30 = .ok (.getfield 455, 3) := dq_g483.2.2.2.2.2.2.2.2.2.2.2.2.2.2.2.2.2.2.2.2.1
theorem dX10_down_33 : decode cX10_down 33 = .ok (.if_icmp .ge 49, 3) := dq_g483.2.2.2.2.2.2.2.2.2.2.2.2.2.2.2.2.2.2.2.2.2.1
theorem dX10_down_36 : decode cX10_down 36 = .ok (.aload_n 0, 1) := dq_g483.2.2.2.2.2.2.2.2.2.2.2.2.2.2.2.2.2.2.2.2.2.2.1
theorem dX10_down_37 : decode cX10_down 37 = .ok (.getfield 146, 3) := dq_g483.2.2.2.2.2.2.2.2.2.2.2.2.2.2.2.2.2.2.2.2.2.2.2.1
theorem dX10_down_40 : decode cX10_down 40 = .ok (.iload 4, 2) := dq_g483.2.2.2.2.2.2.2.2.2.2.2.2.2.2.2.2.2.2.2.2.2.2.2.2.1
theorem dX10_down_42 : decode cX10_down 42 = .ok (.iaload, 1) := dq_g483.2.2.2.2.2.2.2.2.2.2.2.2.2.2.2.2.2.2.2.2.2.2.2.2.2.1
theorem dX10_down_43 : decode cX10_down 43 = .ok (.iload_n 2, 1) := dq_g483.2.2.2.2.2.2.2.2.2.2.2.2.2.2.2.2.2.2.2.2.2.2.2.2.2.2.1
theorem dX10_down_44 : decode cX10_down 44 = .ok (.aload_n 0, 1) := dq_g483.2.2.2.2.2.2.2.2.2.2.2.2.2.2.2.2.2.2.2.2.2.2.2.2.2.2.2.1
theorem dX10_down_45 : decode cX10_down 45 = .ok (.getfield 7, 3) := dq_g483.2.2.2.2.2.2.2.2.2.2.2.2.2.2.2.2.2.2.2.2.2.2.2.2.2.2.2.2.1
theorem dX10_down_48 : decode cX10_down 48 = .ok (.iadd, 1) := dq_g483.2.2.2.2.2.2.2.2.2.2.2.2.2.2.2.2.2.2.2.2.2.2.2.2.2.2.2.2.2.1
theorem dq_g484 : decode cX10_down 49 = .ok (.if_icmp .gt 27, 3) ∧ decode cX10_down 52 = .ok (.iload_n 3, 1) ∧ decode cX10_down 53 = .ok (.iconst (-1), 1) ∧ decode cX10_down 54 = .ok (.if_icmp .eq 19, 3) ∧ decode cX10_down 57 = .ok (.aload_n 0, 1) ∧ decode cX10_down 58 = .ok (.getfield 146, 3) ∧ decode cX10_down 61 = .ok (.iload 4, 2) ∧ decode cX10_down 63 = .ok (.iaload, 1) ∧ decode cX10_down 64 = .ok (.aload_n 0, 1) ∧ decode cX10_down 65 = .ok (.getfield 146, 3) ∧ decode cX10_down 68 = .ok (.iload_n 3, 1) ∧ decode cX10_down 69 = .ok (.iaload, 1) ∧ decode cX10_down 70 = .ok (.if_icmp .le 6, 3) ∧ decode cX10_down 73 = .ok (.iload 4, 2) ∧ decode cX10_down 75 = .ok (.istore_n 3, 1) ∧ decode cX10_down 76 = .ok (.iinc 4 1, 3) ∧ decode cX10_down 79 = .ok (.goto (-52), 3) ∧ decode cX10_down 82 = .ok (.iload_n 3, 1) ∧ decode cX10_down 83 = .ok (.ireturn, 1) ∧ True := dqC_ok (c := cX10_down) [(49, 3, some (.if_icmp .gt 27)), (52, 1, some (.iload_n 3)), (53, 1, some (.iconst (-1))), (54, 3, some (.if_icmp .eq 19)), (57, 1, some (.aload_n 0)), (58, 3, some (.getfield 146)), (61, 2, some (.iload 4)), (63, 1, some (.iaload)), (64, 1, some (.aload_n 0)), (65, 3, some (.getfield 146)), (68, 1, some (.iload_n 3)), (69, 1, some (.iaload)), (70, 3, some (.if_icmp .le 6)), (73, 2, some (.iload 4)), (75, 1, some (.istore_n 3)), (76, 3, some (.iinc 4 1)), (79, 3, some (.goto (-52))), (82, 1, some (.iload_n 3)), (83, 1, some (.ireturn))] _ 49 rfl (by decide +kernel)
theorem dX10_down_49 : decode cX10_down 49 = .ok (.if_icmp .gt 27, 3) := dq_g484.1
theorem dX10_down_52 : decode cX10_down 52 = .ok (.iload_n 3, 1) := dq_g484.2.1
theorem dX10_down_53 : decode cX10_down 53 = .ok (.iconst (-1), 1) := dq_g484.2.2.1
theorem dX10_down_54 : decode cX10_down 54 = .ok (.if_icmp .eq 19, 3) := dq_g484.2.2.2.1
theorem dX10_down_57 : decode cX10_down 57 = .ok (.aload_n 0, 1) := dq_g484.2.2.2.2.1
theorem dX10_down_58 : decode cX10_down 58 = .ok (.getfield 146, 3) := dq_g484.2.2.2.2.2.1
theorem dX10_down_61 : decode cX10_down 61 = .ok (.iload 4, 2) := dq_g484.2.2.2.2.2.2.1
theorem dX10_down_63 : decode cX10_down 63 = .ok (.iaload, 1) := dq_g484.2.2.2.2.2.2.2.1
theorem dX10_down_64 : decode cX10_down 64 = .ok (.aload_n 0, 1) := dq_g484.2.2.2.2.2.2.2.2.1
theorem dX10_down_65 : decode cX10_down 65 = .ok (.getfield 146, 3) := dq_g484.2.2.2.2.2.2.2.2.2.1
theorem dX10_down_68 : decode cX10_down 68 = .ok (.iload_n 3, 1) := dq_g484.2.2.2.2.2.2.2.2.2.2.1
theorem dX10_down_69 : decode cX10_down 69 = .ok (.iaload, 1) := dq_g484.2.2.2.2.2.2.2.2.2.2.2.1
theorem dX10_down_70 : decode cX10_down 70 = .ok (.if_icmp .le 6, 3) := dq_g484.2.2.2.2.2.2.2.2.2.2.2.2.1
theorem dX10_down_73 : decode cX10_down 73 = .ok (.iload 4, 2) := dq_g484.2.2.2.2.2.2.2.2.2.2.2.2.2.1
theorem dX10_down_75 : decode cX10_down 75 = .ok (.istore_n 3, 1) := dq_g484.2.2.2.2.2.2.2.2.2.2.2.2.2.2.1
theorem dX10_down_76 : decode cX10_down 76 = .ok (.iinc 4 1, 3) := dq_g484.2.2.2.2.2.2.2.2.2.2.2.2.2.2.2.1
theorem dX10_down_79 : decode cX10_down 79 = .ok (.goto (-52), 3) := dq_g484.2.2.2.2.2.2.2.2.2.2.2.2.2.2.2.2.1
theorem dX10_down_82 : decode cX10_down 82 = .ok (.iload_n 3, 1) := dq_g484.2.2.2.2.2.2.2.2.2.2.2.2.2.2.2.2.2.1
theorem dX10_down_83 : decode cX10_down 83 = .ok (.ireturn, 1) := dq_g484.2.2.2.2.2.2.2.2.2.2.2.2.2.2.2.2.2.2.1
theorem dq_g485 : decode cX10_enough 0 = .ok (.aload_n 0, 1) ∧ decode cX10_enough 1 = .ok (.iconst 0, 1) ∧ decode cX10_enough 2 = .ok (.putfield 167, 3) ∧ decode cX10_enough 5 = .ok (.aload_n 0, 1) ∧ decode cX10_enough 6 = .ok (.iload_n 1, 1) ∧ decode cX10_enough 7 = .ok (.iload_n 2, 1) ∧ decode cX10_enough 8 = .ok (.invokevirtual 181, 3) ∧ decode cX10_enough 11 = .ok (.ifCond .eq 24, 3) ∧ decode cX10_enough 14 = .ok (.aload_n 0, 1) ∧ decode cX10_enough 15 = .ok (.iload_n 3, 1) ∧ decode cX10_enough 16 = .ok (.invokevirtual 331, 3) ∧ decode cX10_enough 19 = .ok (.ifCond .eq 16, 3) ∧ decode cX10_enough 22 = .ok (.aload_n 0, 1) ∧ decode cX10_enough 23 = .ok (.getfield 29, 3) ∧ decode cX10_enough 26 = .ok (.iconst 3, 1) ∧ decode cX10_enough 27 = .ok (.iload_n 1, 1) ∧ decode cX10_enough 28 = .ok (.imul, 1) ∧ decode cX10_enough 29 = .ok (.iload_n 3, 1) ∧ decode cX10_enough 30 = .ok (.iadd, 1) ∧ decode cX10_enough 31 = .ok (.iaload, 1) ∧ decode cX10_enough 32 = .ok (.ifCond .ne 5, 3) ∧ decode cX10_enough 35 = .ok (.iconst (-1), 1) ∧ decode cX10_enough 36 = .ok (.ireturn, 1) ∧ decode cX10_enough 37 = .ok (.aload_n 0, 1) ∧ decode cX10_enough 38 = .ok (.getfield 26, 3) ∧ decode cX10_enough 41 = .ok (.bipush 16, 2) ∧ decode cX10_enough 43 = .ok (.iload_n 1, 1) ∧ decode cX10_enough 44 = .ok (.imul, 1) ∧ decode cX10_enough 45 = .ok (.iload_n 2, 1) ∧ decode cX10_enough 46 = .ok (.iadd, 1) ∧ True := dqC_ok (c := cX10_enough) [(0, 1, some (.aload_n 0)), (1, 1, some (.iconst 0)), (2, 3, some (.putfield 167)), (5, 1, some (.aload_n 0)), (6, 1, some (.iload_n 1)), (7, 1, some (.iload_n 2)), (8, 3, some (.invokevirtual 181)), (11, 3, some (.ifCond .eq 24)), (14, 1, some (.aload_n 0)), (15, 1, some (.iload_n 3)), (16, 3, some (.invokevirtual 331)), (19, 3, some (.ifCond .eq 16)), (22, 1, some (.aload_n 0)), (23, 3, some (.getfield 29)), (26, 1, some (.iconst 3)), (27, 1, some (.iload_n 1)), (28, 1, some (.imul)), (29, 1, some (.iload_n 3)), (30, 1, some (.iadd)), (31, 1, some (.iaload)), (32, 3, some (.ifCond .ne 5)), (35, 1, some (.iconst (-1))), (36, 1, some (.ireturn)), (37, 1, some (.aload_n 0)), (38, 3, some (.getfield 26)), (41, 2, some (.bipush 16)), (43, 1, some (.iload_n 1)), (44, 1, some (.imul)), (45, 1, some (.iload_n 2)), (46, 1, some (.iadd))] _ 0 rfl (by decide +kernel)
theorem dX10_enough_0 : decode cX10_enough 0 = .ok (.aload_n 0, 1) := dq_g485.1
theorem dX10_enough_1 : decode cX10_enough 1 = .ok (.iconst 0, 1) := dq_g485.2.1
theorem dX10_enough_2 : decode cX10_enough 2 = .ok (.putfield 167, 3) := dq_g485.2.2.1
theorem dX10_enough_5 : decode cX10_enough 5 = .ok (.aload_n 0, 1) := dq_g485.2.2.2.1
theorem dX10_enough_6 : decode cX10_enough 6 = .ok (.iload_n 1, 1) := dq_g485.2.2.2.2.1
theorem dX10_enough_7 : decode cX10_enough 7 = .ok (.iload_n 2, 1) := dq_g485.2.2.2.2.2.1
theorem dX10_enough_8 : decode cX10_enough 8 = .ok (.invokevirtual 181, 3) := dq_g485.2.2.2.2.2.2.1
theorem dX10_enough_11 : decode cX10_enough 11 = .ok (.ifCond .eq 24, 3) := dq_g485.2.2.2.2.2.2.2.1
theorem dX10_enough_14 : decode cX10_enough 14 = .ok (.aload_n 0, 1) := dq_g485.2.2.2.2.2.2.2.2.1
theorem dX10_enough_15 : decode cX10_enough 15 = .ok (.iload_n 3, 1) := dq_g485.2.2.2.2.2.2.2.2.2.1
theorem dX10_enough_16 : decode cX10_enough 16 = .ok (.invokevirtual 331, 3) := dq_g485.2.2.2.2.2.2.2.2.2.2.1
theorem dX10_enough_19 : decode cX10_enough 19 = .ok (.ifCond .eq 16, 3) := dq_g485.2.2.2.2.2.2.2.2.2.2.2.1
theorem dX10_enough_22 : decode cX10_enough 22 = .ok (.aload_n 0, 1) := dq_g485.2.2.2.2.2.2.2.2.2.2.2.2.1
theorem dX10_enough_23 : decode cX10_enough 23 = .ok (.getfield 29, 3) := dq_g485.2.2.2.2.2.2.2.2.2.2.2.2.2.1
theorem dX10_enough_26 : decode cX10_enough 26 = .ok (.iconst 3, 1) := dq_g485.2.2.2.2.2.2.2.2.2.2.2.2.2.2.1
theorem dX10_enough_27 : decode cX10_enough 27 = .ok (.iload_n 1, 1) := dq_g485.2.2.2.2.2.2.2.2.2.2.2.2.2.2.2.1
theorem dX10_enough_28 : decode cX10_enough 28 = .ok (.imul, 1) := dq_g485.2.2.2.2.2.2.2.2.2.2.2.2.2.2.2.2.1
theorem dX10_enough_29 : decode cX10_enough 29 = .ok (.iload_n 3, 1) := dq_g485.2.2.2.2.2.2.2.2.2.2.2.2.2.2.2.2.2.1
theorem dX10_enough_30 : decode cX10_enough 30 = .ok (.iadd, 1) := dq_g485.2.2.2.2.2.2.2.2.2.2.2.2.2.2.2.2.2.2.1
theorem dX10_enough_31 : decode cX10_enough 31 = .ok (.iaload, 1) := dq_g485.2.2.2.2.2.2.2.2.2.2.2.2.2.2.2.2.2.2.2.1
theorem dX10_enough_32 : decode cX10_enough 32 = .ok (.ifCond .ne 5, 3) := dq_g485.2.2.2.2.2.2.2.2.2.2.2.2.2.2.2.2.2.2.2.2.1
theorem dX10_enough_35 : decode cX10_enough 35 = .ok (.iconst (-1), 1) := dq_g485.2.2.2.2.2.2.2.2.2.2.2.2.2.2.2.2.2.2.2.2.2.1
theorem dX10_enough_36 : decode cX10_enough 36 = .ok (.ireturn, 1) := dq_g485.2.2.2.2.2.2.2.2.2.2.2.2.2.2.2.2.2.2.2.2.2.2.1
theorem dX10_enough_37 : decode cX10_enough 37 = .ok (.aload_n 0, 1) := dq_g485.2.2.2.2.2.2.2.2.2.2.2.2.2.2.2.2.2.2.2.2.2.2.2.1
theorem dX10_enough_38 : decode cX10_enough 38 = .ok (.getfield 26, 3) := dq_g485.2.2.2.2.2.2.2.2.2.2.2.2.2.2.2.2.2.2.2.2.2.2.2.2.1
theorem dX10_enough_41 : decode cX10_enough 41 = .ok (.bipush 16, 2) := dq_g485.2.2.2.2.2.2.2.2.2.2.2.2.2.2.2.2.2.2.2.2.2.2.2.2.2.1
theorem dX10_enough_43 : decode cX10_enough 43 = .ok (.iload_n 1, 1) := dq_g485.2.2.2.2.2.2.2.2.2.2.2.2.2.2.2.2.2.2.2.2.2.2.2.2.2.2.1
theorem dX10_enough_44 : decode cX10_enough 44 = .ok (.imul, 1) := dq_g485.2.2.2.2.2.2.2.2.2.2.2.2.2.2.2.2.2.2.2.2.2.2.2.2.2.2.2.1
theorem dX10_enough_45 : decode cX10_enough 45 = .ok (.iload_n 2, 1) := dq_g485.2.2.2.2.2.2.2.2.2.2.2.2.2.2.2.2.2.2.2.2.2.2.2.2.2.2.2.2.1
theorem dX10_enough_46 : decode cX10_enough 46 = .ok (.iadd, 1) := dq_g485.2.2.2.2.2.2.2.2.2.2.2.2.2.2.2.2.2.2.2.2.2.2.2.2.2.2.2.2.2.1
theorem dq_g486 : decode cX10_enough 47 = .ok (.iaload, 1) ∧ decode cX10_enough 48 = .ok (.istore 4, 2) ∧ decode cX10_enough 50 = .ok (.iload 4, 2) ∧ decode cX10_enough 52 = .ok (.istore 5, 2) ∧ decode cX10_enough 54 = .ok (.iconst (-1), 1) ∧ decode cX10_enough 55 = .ok (.istore 6, 2) ∧ decode cX10_enough 57 = .ok (.iload 5, 2) ∧ decode cX10_enough 59 = .ok (.bipush 99, 2) ∧ decode cX10_enough 61 = .ok (.if_icmp .gt 59, 3) ∧ decode cX10_enough 64 = .ok (.iload 6, 2) ∧ decode cX10_enough 66 = .ok (.iconst (-1), 1) ∧ decode cX10_enough 67 = .ok (.if_icmp .ne 53, 3) ∧ decode cX10_enough 70 = .ok (.aload_n 0, 1) ∧ decode cX10_enough 71 = .ok (.getfield 26, 3) ∧ decode cX10_enough 74 = .ok (.bipush 16, 2) ∧ decode cX10_enough 76 = .ok (.iload_n 1, 1) ∧ decode cX10_enough 77 = .ok (.imul, 1) ∧ decode cX10_enough 78 = .ok (.iload_n 2, 1) ∧ decode cX10_enough 79 = .ok (.iadd, 1) ∧ decode cX10_enough 80 = .ok (.iload 5, 2) ∧ decode cX10_enough 82 = .ok (.iastore, 1) ∧ decode cX10_enough 83 = .ok (.aload_n 0, 1) ∧ decode cX10_enough 84 = .ok (.iload_n 1, 1) ∧ decode cX10_enough 85 = .ok (.iload_n 3, 1) ∧ decode cX10_enough 86 = .ok (.invokevirtual 335, 3) ∧ decode cX10_enough 89 = .ok (.aload_n 0, 1) ∧ decode cX10_enough 90 = .ok (.getfield 29, 3) ∧ decode cX10_enough 93 = .ok (.iconst 3, 1) ∧ decode cX10_enough 94 = .ok (.iload_n 1, 1) ∧ decode cX10_enough 95 = .ok (.imul, 1) ∧ True := dqC_ok (c := cX10_enough) [(47, 1, some (.iaload)), (48, 2, some (.istore 4)), (50, 2, some (.iload 4)), (52, 2, some (.istore 5)), (54, 1, some (.iconst (-1))), (55, 2, some (.istore 6)), (57, 2, some (.iload 5)), (59, 2, some (.bipush 99)), (61, 3, some (.if_icmp .gt 59)), (64, 2, some (.iload 6)), (66, 1, some (.iconst (-1))), (67, 3, some (.if_icmp .ne 53)), (70, 1, some (.aload_n 0)), (71, 3, some (.getfield 26)), (74, 2, some (.bipush 16)), (76, 1, some (.iload_n 1)), (77, 1, some (.imul)), (78, 1, some (.iload_n 2)), (79, 1, some (.iadd)), (80, 2, some (.iload 5)), (82, 1, some (.iastore)), (83, 1, some (.aload_n 0)), (84, 1, some (.iload_n 1)), (85, 1, some (.iload_n 3)), (86, 3, some (.invokevirtual 335)), (89, 1, some (.aload_n 0)), (90, 3, some (.getfield 29)), (93, 1, some (.iconst 3)), (94, 1, some (.iload_n 1)), (95, 1, some (.imul))] _ 47 rfl (by decide +kernel)
theorem dX10_enough_47 : decode cX10_enough 47 = .ok (.iaload, 1) := dq_g486.1
theorem dX10_enough_48 : decode cX10_enough 48 = .ok (.istore 4, 2) := dq_g486.2.1
theorem dX10_enough_50 : decode cX10_enough 50 = .ok (.iload 4, 2) := dq_g486.2.2.1
theorem dX10_enough_52 : decode cX10_enough 52 = .ok (.istore 5, 2) := dq_g486.2.2.2.1
theorem dX10_enough_54 : decode cX10_enough 54 = .ok (.iconst (-1), 1) := dq_g486.2.2.2.2.1
theorem dX10_enough_55 : decode cX10_enough 55 = .ok (.istore 6, 2) := dq_g486.2.2.2.2.2.1
theorem dX10_enough_57 : decode cX10_enough 57 = .ok (.iload 5, 2) := dq_g486.2.2.2.2.2.2.1
theorem dX10_enough_59 : decode cX10_enough 59 = .ok (.bipush 99, 2) := dq_g486.2.2.2.2.2.2.2.1
theorem dX10_enough_61 : decode cX10_enough 61 = .ok (.if_icmp .gt 59, 3) := dq_g486.2.2.2.2.2.2.2.2.1
theorem dX10_enough_64 : decode cX10_enough 64 = .ok (.iload 6, 2) := dq_g486.2.2.2.2.2.2.2.2.2.1
theorem dX10_enough_66 : decode cX10_enough 66 = .ok (.iconst (-1), 1) := dq_g486.2.2.2.2.2.2.2.2.2.2.1
theorem dX10_enough_67 : decode cX10_enough 67 = .ok (.if_icmp .ne 53, 3) := dq_g486.2.2.2.2.2.2.2.2.2.2.2.1
theorem dX10_enough_70 : decode cX10_enough 70 = .ok (.aload_n 0, 1) := dq_g486.2.2.2.2.2.2.2.2.2.2.2.2.1
theorem dX10_enough_71 : decode cX10_enough 71 = .ok (.getfield 26, 3) := dq_g486.2.2.2.2.2.2.2.2.2.2.2.2.2.1
theorem dX10_enough_74 : decode cX10_enough 74 = .ok (.bipush 16, 2) := dq_g486.2.2.2.2.2.2.2.2.2.2.2.2.2.2.1
theorem dX10_enough_76 : decode cX10_enough 76 = .ok (.iload_n 1, 1) := dq_g486.2.2.2.2.2.2.2.2.2.2.2.2.2.2.2.1
theorem dX10_enough_77 : decode cX10_enough 77 = .ok (.imul, 1) := dq_g486.2.2.2.2.2.2.2.2.2.2.2.2.2.2.2.2.1
theorem dX10_enough_78 : decode cX10_enough 78 = .ok (.iload_n 2, 1) := dq_g486.2.2.2.2.2.2.2.2.2.2.2.2.2.2.2.2.2.1
theorem dX10_enough_79 : decode cX10_enough 79 = .ok (.iadd, 1) := dq_g486.2.2.2.2.2.2.2.2.2.2.2.2.2.2.2.2.2.2.1
theorem dX10_enough_80 : decode cX10_enough 80 = .ok (.iload 5, 2) := dq_g486.2.2.2.2.2.2.2.2.2.2.2.2.2.2.2.2.2.2.2.1
theorem dX10_enough_82 : decode cX10_enough 82 = .ok (.iastore, 1) := dq_g486.2.2.2.2.2.2.2.2.2.2.2.2.2.2.2.2.2.2.2.2.1
theorem dX10_enough_83 : decode cX10_enough 83 = .ok (.aload_n 0, 1) := dq_g486.2.2.2.2.2.2.2.2.2.2.2.2.2.2.2.2.2.2.2.2.2.1
theorem dX10_enough_84 : decode cX10_enough 84 = .ok (.iload_n 1, 1) := dq_g486.2.2.2.2.2.2.2.2.2.2.2.2.2.2.2.2.2.2.2.2.2.2.1
theorem dX10_enough_85 : decode cX10_enough 85 = .ok (.iload_n 3, 1) := dq_g486.2.2.2.2.2.2.2.2.2.2.2.2.2.2.2.2.2.2.2.2.2.2.2.1
theorem dX10_enough_86 : decode cX10_enough 86 = .ok (.invokevirtual 335, 3) := dq_g486.2.2.2.2.2.2.2.2.2.2.2.2.2.2.2.2.2.2.2.2.2.2.2.2.1
theorem dX10_enough_89 : decode cX10_enough 89 = .ok (.aload_n 0, 1) := dq_g486.2.2.2.2.2.2.2.2.2.2.2.2.2.2.2.2.2.2.2.2.2.2.2.2.2.1
theorem dX10_enough_90 : decode cX10_enough 90 = .ok (.getfield 29, 3) := dq_g486.2.2.2.2.2.2.2.2.2.2.2.2.2.2.2.2.2.2.2.2.2.2.2.2.2.2.1
theorem dX10_enough_93 : decode cX10_enough 93 = .ok (.iconst 3, 1) := dq_g486.2.2.2.2.2.2.2.2.2.2.2.2.2.2.2.2.2.2.2.2.2.2.2.2.2.2.2.1
theorem dX10_enough_94 : decode cX10_enough 94 = .ok (.iload_n 1, 1) := dq_g486.2.2.2.2.2.2.2.2.2.2.2.2.2.2.2.2.2.2.2.2.2.2.2.2.2.2.2.2.1
theorem dX10_enough_95 : decode cX10_enough 95 = .ok (.imul, 1) := dq_g486.2.2.2.2.2.2.2.2.2.2.2.2.2.2.2.2.2.2.2.2.2.2.2.2.2.2.2.2.2.1
theorem dq_g487 : decode cX10_enough 96 = .ok (.iload_n 3, 1) ∧ decode cX10_enough 97 = .ok (.iadd, 1) ∧ decode cX10_enough 98 = .ok (.iaload, 1) ∧ decode cX10_enough 99 = .ok (.aload_n 0, 1) ∧ decode cX10_enough 100 = .ok (.getfield 7, 3) ∧ decode cX10_enough 103 = .ok (.iadd, 1) ∧ decode cX10_enough 104 = .ok (.if_icmp .gt 7, 3) ∧ decode cX10_enough 107 = .ok (.iload 5, 2) ∧ decode cX10_enough 109 = .ok (.istore 6, 2) ∧ decode cX10_enough 111 = .ok (.iload 5, 2) ∧ decode cX10_enough 113 = .ok (.iconst 1, 1) ∧ decode cX10_enough 114 = .ok (.iadd, 1) ∧ decode cX10_enough 115 = .ok (.istore 5, 2) ∧ decode cX10_enough 117 = .ok (.goto (-60), 3) ∧ decode cX10_enough 120 = .ok (.aload_n 0, 1) ∧ decode cX10_enough 121 = .ok (.getfield 26, 3) ∧ decode cX10_enough 124 = .ok (.bipush 16, 2) ∧ decode cX10_enough 126 = .ok (.iload_n 1, 1) ∧ decode cX10_enough 127 = .ok (.imul, 1) ∧ decode cX10_enough 128 = .ok (.iload_n 2, 1) ∧ decode cX10_enough 129 = .ok (.iadd, 1) ∧ decode cX10_enough 130 = .ok (.iload 4, 2) ∧ decode cX10_enough 132 = .ok (.iastore, 1) ∧ decode cX10_enough 133 = .ok (.iload 6, 2) ∧ decode cX10_enough 135 = .ok (.ireturn, 1) ∧ True := dqC_ok (c := cX10_enough) [(96, 1, some (.iload_n 3)), (97, 1, some (.iadd)), (98, 1, some (.iaload)), (99, 1, some (.aload_n 0)), (100, 3, some (.getfield 7)), (103, 1, some (.iadd)), (104, 3, some (.if_icmp .gt 7)), (107, 2, some (.iload 5)), (109, 2, some (.istore 6)), (111, 2, some (.iload 5)), (113, 1, some (.iconst 1)), (114, 1, some (.iadd)), (115, 2, some (.istore 5)), (117, 3, some (.goto (-60))), (120, 1, some (.aload_n 0)), (121, 3, some (.getfield 26)), (124, 2, some (.bipush 16)), (126, 1, some (.iload_n 1)), (127, 1, some (.imul)), (128, 1, some (.iload_n 2)), (129, 1, some (.iadd)), (130, 2, some (.iload 4)), (132, 1, some (.iastore)), (133, 2, some (.iload 6)), (135, 1, some (.ireturn))] _ 96 rfl (by decide +kernel)
theorem dX10_enough_96 : decode cX10_enough 96 = .ok (.iload_n 3, 1) := dq_g487.1
theorem dX10_enough_97 : decode cX10_enough 97 = .ok (.iadd, 1) := dq_g487.2.1
theorem dX10_enough_98 : decode cX10_enough 98 = .ok (.iaload, 1) := dq_g487.2.2.1
theorem dX10_enough_99 : decode cX10_enough 99 = .ok (.aload_n 0, 1) := dq_g487.2.2.2.1
theorem dX10_enough_100 : decode cX10_enough 100 = .ok (.getfield 7, 3) := dq_g487.2.2.2.2.1
theorem dX10_enough_103 : decode cX10_enough 103 = .ok (.iadd, 1) := dq_g487.2.2.2.2.2.1
theorem dX10_enough_104 : decode cX10_enough 104 = .ok (.if_icmp .gt 7, 3) := dq_g487.2.2.2.2.2.2.1
theorem dX10_enough_107 : decode cX10_enough 107 = .ok (.iload 5, 2) := dq_g487.2.2.2.2.2.2.2.1
theorem dX10_enough_109 : decode cX10_enough 109 = .ok (.istore 6, 2) := dq_g487.2.2.2.2.2.2.2.2.1
theorem dX10_enough_111 : decode cX10_enough 111 = .ok (.iload 5, 2) := dq_g487.2.2.2.2.2.2.2.2.2.1
theorem dX10_enough_113 : decode cX10_enough 113 = .ok (.iconst 1, 1) := dq_g487.2.2.2.2.2.2.2.2.2.2.1
theorem dX10_enough_114 : decode cX10_enough 114 = .ok (.iadd, 1) := dq_g487.2.2.2.2.2.2.2.2.2.2.2.1
theorem dX10_enough_115 : decode cX10_enough 115 = .ok (.istore 5, 2) := dq_g487.2.2.2.2.2.2.2.2.2.2.2.2.1
theorem dX10_enough_117 : decode cX10_enough 117 = .ok (.goto (-60), 3) := dq_g487.2.2.2.2.2.2.2.2.2.2.2.2.2.1
theorem dX10_enough_120 : decode cX10_enough 120 = .ok (.aload_n 0, 1) := dq_g487.2.2.2.2.2.2.2.2.2.2.2.2.2.2.1
theorem dX10_enough_121 : decode cX10_enough 121 = .ok (.getfield 26, 3) := dq_g487.2.2.2.2.2.2.2.2.2.2.2.2.2.2.2.1
theorem dX10_enough_124 : decode cX10_enough 124 = .ok (.bipush 16, 2) := dq_g487.2.2.2.2.2.2.2.2.2.2.2.2.2.2.2.2.1
theorem dX10_enough_126 : decode cX10_enough 126 = .ok (.iload_n 1, 1) := dq_g487.2.2.2.2.2.2.2.2.2.2.2.2.2.2.2.2.2.1
theorem dX10_enough_127 : decode cX10_enough 127 = .ok (.imul, 1) := dq_g487.2.2.2.2.2.2.2.2.2.2.2.2.2.2.2.2.2.2.1
theorem dX10_enough_128 : decode cX10_enough 128 = .ok (.iload_n 2, 1) := dq_g487.2.2.2.2.2.2.2.2.2.2.2.2.2.2.2.2.2.2.2.1
theorem dX10_enough_129 : decode cX10_enough 129 = .ok (.iadd, 1) := dq_g487.2.2.2.2.2.2.2.2.2.2.2.2.2.2.2.2.2.2.2.2.1
theorem dX10_enough_130 : decode cX10_enough 130 = .ok (.iload 4, 2) := dq_g487.2.2.2.2.2.2.2.2.2.2.2.2.2.2.2.2.2.2.2.2.2.1
theorem dX10_enough_132 : decode cX10_enough 132 = .ok (.iastore, 1) := dq_g487.2.2.2.2.2.2.2.2.2.2.2.2.2.2.2.2.2.2.2.2.2.2.1
theorem dX10_enough_133 : decode cX10_enough 133 = .ok (.iload 6, 2) := dq_g487.2.2.2.2.2.2.2.2.2.2.2.2.2.2.2.2.2.2.2.2.2.2.2.1
theorem dX10_enough_135 : decode cX10_enough 135 = .ok (.ireturn, 1) := dq_g487.2.2.2.2.2.2.2.2.2.2.2.2.2.2.2.2.2.2.2.2.2.2.2.2.1
theorem dq_g488 : decode cX10_kept 0 = .ok (.aload_n 0, 1) ∧ decode cX10_kept 1 = .ok (.aload_n 0, 1) ∧ decode cX10_kept 2 = .ok (.getfield 467, 3) ∧ decode cX10_kept 5 = .ok (.iconst 1, 1) ∧ decode cX10_kept 6 = .ok (.iadd, 1) ∧ decode cX10_kept 7 = .ok (.putfield 467, 3) ∧ decode cX10_kept 10 = .ok (.aload_n 0, 1) ∧ decode cX10_kept 11 = .ok (.getfield 470, 3) ∧ decode cX10_kept 14 = .ok (.ifCond .ne 15, 3) ∧ decode cX10_kept 17 = .ok (.aload_n 0, 1) ∧ decode cX10_kept 18 = .ok (.getfield 164, 3) ∧ decode cX10_kept 21 = .ok (.aload_n 0, 1) ∧ decode cX10_kept 22 = .ok (.getfield 467, 3) ∧ decode cX10_kept 25 = .ok (.iconst 1, 1) ∧ decode cX10_kept 26 = .ok (.isub, 1) ∧ decode cX10_kept 27 = .ok (.iaload, 1) ∧ decode cX10_kept 28 = .ok (.ireturn, 1) ∧ decode cX10_kept 29 = .ok (.aload_n 0, 1) ∧ decode cX10_kept 30 = .ok (.getfield 164, 3) ∧ decode cX10_kept 33 = .ok (.aload_n 0, 1) ∧ decode cX10_kept 34 = .ok (.getfield 467, 3) ∧ decode cX10_kept 37 = .ok (.iconst 1, 1) ∧ decode cX10_kept 38 = .ok (.isub, 1) ∧ decode cX10_kept 39 = .ok (.iload_n 1, 1) ∧ decode cX10_kept 40 = .ok (.iastore, 1) ∧ decode cX10_kept 41 = .ok (.iload_n 1, 1) ∧ decode cX10_kept 42 = .ok (.ireturn, 1) ∧ True := dqC_ok (c := cX10_kept) [(0, 1, some (.aload_n 0)), (1, 1, some (.aload_n 0)), (2, 3, some (.getfield 467)), (5, 1, some (.iconst 1)), (6, 1, some (.iadd)), (7, 3, some (.putfield 467)), (10, 1, some (.aload_n 0)), (11, 3, some (.getfield 470)), (14, 3, some (.ifCond .ne 15)), (17, 1, some (.aload_n 0)), (18, 3, some (.getfield 164)), (21, 1, some (.aload_n 0)), (22, 3, some (.getfield 467)), (25, 1, some (.iconst 1)), (26, 1, some (.isub)), (27, 1, some (.iaload)), (28, 1, some (.ireturn)), (29, 1, some (.aload_n 0)), (30, 3, some (.getfield 164)), (33, 1, some (.aload_n 0)), (34, 3, some (.getfield 467)), (37, 1, some (.iconst 1)), (38, 1, some (.isub)), (39, 1, some (.iload_n 1)), (40, 1, some (.iastore)), (41, 1, some (.iload_n 1)), (42, 1, some (.ireturn))] _ 0 rfl (by decide +kernel)
theorem dX10_kept_0 : decode cX10_kept 0 = .ok (.aload_n 0, 1) := dq_g488.1
theorem dX10_kept_1 : decode cX10_kept 1 = .ok (.aload_n 0, 1) := dq_g488.2.1
theorem dX10_kept_2 : decode cX10_kept 2 = .ok (.getfield 467, 3) := dq_g488.2.2.1
theorem dX10_kept_5 : decode cX10_kept 5 = .ok (.iconst 1, 1) := dq_g488.2.2.2.1
theorem dX10_kept_6 : decode cX10_kept 6 = .ok (.iadd, 1) := dq_g488.2.2.2.2.1
theorem dX10_kept_7 : decode cX10_kept 7 = .ok (.putfield 467, 3) := dq_g488.2.2.2.2.2.1
theorem dX10_kept_10 : decode cX10_kept 10 = .ok (.aload_n 0, 1) := dq_g488.2.2.2.2.2.2.1
theorem dX10_kept_11 : decode cX10_kept 11 = .ok (.getfield 470, 3) := dq_g488.2.2.2.2.2.2.2.1
theorem dX10_kept_14 : decode cX10_kept 14 = .ok (.ifCond .ne 15, 3) := dq_g488.2.2.2.2.2.2.2.2.1
theorem dX10_kept_17 : decode cX10_kept 17 = .ok (.aload_n 0, 1) := dq_g488.2.2.2.2.2.2.2.2.2.1
theorem dX10_kept_18 : decode cX10_kept 18 = .ok (.getfield 164, 3) := dq_g488.2.2.2.2.2.2.2.2.2.2.1
theorem dX10_kept_21 : decode cX10_kept 21 = .ok (.aload_n 0, 1) := dq_g488.2.2.2.2.2.2.2.2.2.2.2.1
theorem dX10_kept_22 : decode cX10_kept 22 = .ok (.getfield 467, 3) := dq_g488.2.2.2.2.2.2.2.2.2.2.2.2.1
theorem dX10_kept_25 : decode cX10_kept 25 = .ok (.iconst 1, 1) := dq_g488.2.2.2.2.2.2.2.2.2.2.2.2.2.1
theorem dX10_kept_26 : decode cX10_kept 26 = .ok (.isub, 1) := dq_g488.2.2.2.2.2.2.2.2.2.2.2.2.2.2.1
theorem dX10_kept_27 : decode cX10_kept 27 = .ok (.iaload, 1) := dq_g488.2.2.2.2.2.2.2.2.2.2.2.2.2.2.2.1
theorem dX10_kept_28 : decode cX10_kept 28 = .ok (.ireturn, 1) := dq_g488.2.2.2.2.2.2.2.2.2.2.2.2.2.2.2.2.1
theorem dX10_kept_29 : decode cX10_kept 29 = .ok (.aload_n 0, 1) := dq_g488.2.2.2.2.2.2.2.2.2.2.2.2.2.2.2.2.2.1
theorem dX10_kept_30 : decode cX10_kept 30 = .ok (.getfield 164, 3) := dq_g488.2.2.2.2.2.2.2.2.2.2.2.2.2.2.2.2.2.2.1
theorem dX10_kept_33 : decode cX10_kept 33 = .ok (.aload_n 0, 1) := dq_g488.2.2.2.2.2.2.2.2.2.2.2.2.2.2.2.2.2.2.2.1
theorem dX10_kept_34 : decode cX10_kept 34 = .ok (.getfield 467, 3) := dq_g488.2.2.2.2.2.2.2.2.2.2.2.2.2.2.2.2.2.2.2.2.1
theorem dX10_kept_37 : decode cX10_kept 37 = .ok (.iconst 1, 1) := dq_g488.2.2.2.2.2.2.2.2.2.2.2.2.2.2.2.2.2.2.2.2.2.1
theorem dX10_kept_38 : decode cX10_kept 38 = .ok (.isub, 1) := dq_g488.2.2.2.2.2.2.2.2.2.2.2.2.2.2.2.2.2.2.2.2.2.2.1
theorem dX10_kept_39 : decode cX10_kept 39 = .ok (.iload_n 1, 1) := dq_g488.2.2.2.2.2.2.2.2.2.2.2.2.2.2.2.2.2.2.2.2.2.2.2.1
theorem dX10_kept_40 : decode cX10_kept 40 = .ok (.iastore, 1) := dq_g488.2.2.2.2.2.2.2.2.2.2.2.2.2.2.2.2.2.2.2.2.2.2.2.2.1
theorem dX10_kept_41 : decode cX10_kept 41 = .ok (.iload_n 1, 1) := dq_g488.2.2.2.2.2.2.2.2.2.2.2.2.2.2.2.2.2.2.2.2.2.2.2.2.2.1
theorem dX10_kept_42 : decode cX10_kept 42 = .ok (.ireturn, 1) := dq_g488.2.2.2.2.2.2.2.2.2.2.2.2.2.2.2.2.2.2.2.2.2.2.2.2.2.2.1
theorem dq_g489 : decode cX10_keepsBars 0 = .ok (.iconst 0, 1) ∧ decode cX10_keepsBars 1 = .ok (.istore_n 1, 1) ∧ decode cX10_keepsBars 2 = .ok (.iload_n 1, 1) ∧ decode cX10_keepsBars 3 = .ok (.bipush 10, 2) ∧ decode cX10_keepsBars 5 = .ok (.if_icmp .ge 105, 3) ∧ decode cX10_keepsBars 8 = .ok (.aload_n 0, 1) ∧ decode cX10_keepsBars 9 = .ok (.getfield 13, 3) ∧ decode cX10_keepsBars 12 = .ok (.iload_n 1, 1) ∧ decode cX10_keepsBars 13 = .ok (.aload_n 0, 1) ∧ decode cX10_keepsBars 14 = .ok (.aload_n 0, 1) ∧ decode cX10_keepsBars 15 = .ok (.getfield 13, 3) ∧ decode cX10_keepsBars 18 = .ok (.iload_n 1, 1) ∧ decode cX10_keepsBars 19 = .ok (.iaload, 1) ∧ decode cX10_keepsBars 20 = .ok (.invokevirtual 473, 3) ∧ decode cX10_keepsBars 23 = .ok (.iastore, 1) ∧ decode cX10_keepsBars 24 = .ok (.aload_n 0, 1) ∧ decode cX10_keepsBars 25 = .ok (.getfield 32, 3) ∧ decode cX10_keepsBars 28 = .ok (.iload_n 1, 1) ∧ decode cX10_keepsBars 29 = .ok (.aload_n 0, 1) ∧ decode cX10_keepsBars 30 = .ok (.aload_n 0, 1) ∧ decode cX10_keepsBars 31 = .ok (.getfield 32, 3) ∧ decode cX10_keepsBars 34 = .ok (.iload_n 1, 1) ∧ decode cX10_keepsBars 35 = .ok (.iaload, 1) ∧ decode cX10_keepsBars 36 = .ok (.invokevirtual 473, 3) ∧ decode cX10_keepsBars 39 = .ok (.iastore, 1) ∧ decode cX10_keepsBars 40 = .ok (.aload_n 0, 1) ∧ decode cX10_keepsBars 41 = .ok (.getfield 41, 3) ∧ decode cX10_keepsBars 44 = .ok (.iload_n 1, 1) ∧ decode cX10_keepsBars 45 = .ok (.aload_n 0, 1) ∧ decode cX10_keepsBars 46 = .ok (.aload_n 0, 1) ∧ True := dqC_ok (c := cX10_keepsBars) [(0, 1, some (.iconst 0)), (1, 1, some (.istore_n 1)), (2, 1, some (.iload_n 1)), (3, 2, some (.bipush 10)), (5, 3, some (.if_icmp .ge 105)), (8, 1, some (.aload_n 0)), (9, 3, some (.getfield 13)), (12, 1, some (.iload_n 1)), (13, 1, some (.aload_n 0)), (14, 1, some (.aload_n 0)), (15, 3, some (.getfield 13)), (18, 1, some (.iload_n 1)), (19, 1, some (.iaload)), (20, 3, some (.invokevirtual 473)), (23, 1, some (.iastore)), (24, 1, some (.aload_n 0)), (25, 3, some (.getfield 32)), (28, 1, some (.iload_n 1)), (29, 1, some (.aload_n 0)), (30, 1, some (.aload_n 0)), (31, 3, some (.getfield 32)), (34, 1, some (.iload_n 1)), (35, 1, some (.iaload)), (36, 3, some (.invokevirtual 473)), (39, 1, some (.iastore)), (40, 1, some (.aload_n 0)), (41, 3, some (.getfield 41)), (44, 1, some (.iload_n 1)), (45, 1, some (.aload_n 0)), (46, 1, some (.aload_n 0))] _ 0 rfl (by decide +kernel)
theorem dX10_keepsBars_0 : decode cX10_keepsBars 0 = .ok (.iconst 0, 1) := dq_g489.1
theorem dX10_keepsBars_1 : decode cX10_keepsBars 1 = .ok (.istore_n 1, 1) := dq_g489.2.1
theorem dX10_keepsBars_2 : decode cX10_keepsBars 2 = .ok (.iload_n 1, 1) := dq_g489.2.2.1
theorem dX10_keepsBars_3 : decode cX10_keepsBars 3 = .ok (.bipush 10, 2) := dq_g489.2.2.2.1
theorem dX10_keepsBars_5 : decode cX10_keepsBars 5 = .ok (.if_icmp .ge 105, 3) := dq_g489.2.2.2.2.1
theorem dX10_keepsBars_8 : decode cX10_keepsBars 8 = .ok (.aload_n 0, 1) := dq_g489.2.2.2.2.2.1
theorem dX10_keepsBars_9 : decode cX10_keepsBars 9 = .ok (.getfield 13, 3) := dq_g489.2.2.2.2.2.2.1
theorem dX10_keepsBars_12 : decode cX10_keepsBars 12 = .ok (.iload_n 1, 1) := dq_g489.2.2.2.2.2.2.2.1
theorem dX10_keepsBars_13 : decode cX10_keepsBars 13 = .ok (.aload_n 0, 1) := dq_g489.2.2.2.2.2.2.2.2.1
theorem dX10_keepsBars_14 : decode cX10_keepsBars 14 = .ok (.aload_n 0, 1) := dq_g489.2.2.2.2.2.2.2.2.2.1
theorem dX10_keepsBars_15 : decode cX10_keepsBars 15 = .ok (.getfield 13, 3) := dq_g489.2.2.2.2.2.2.2.2.2.2.1
theorem dX10_keepsBars_18 : decode cX10_keepsBars 18 = .ok (.iload_n 1, 1) := dq_g489.2.2.2.2.2.2.2.2.2.2.2.1
theorem dX10_keepsBars_19 : decode cX10_keepsBars 19 = .ok (.iaload, 1) := dq_g489.2.2.2.2.2.2.2.2.2.2.2.2.1
theorem dX10_keepsBars_20 : decode cX10_keepsBars 20 = .ok (.invokevirtual 473, 3) := dq_g489.2.2.2.2.2.2.2.2.2.2.2.2.2.1
theorem dX10_keepsBars_23 : decode cX10_keepsBars 23 = .ok (.iastore, 1) := dq_g489.2.2.2.2.2.2.2.2.2.2.2.2.2.2.1
theorem dX10_keepsBars_24 : decode cX10_keepsBars 24 = .ok (.aload_n 0, 1) := dq_g489.2.2.2.2.2.2.2.2.2.2.2.2.2.2.2.1
theorem dX10_keepsBars_25 : decode cX10_keepsBars 25 = .ok (.getfield 32, 3) := dq_g489.2.2.2.2.2.2.2.2.2.2.2.2.2.2.2.2.1
theorem dX10_keepsBars_28 : decode cX10_keepsBars 28 = .ok (.iload_n 1, 1) := dq_g489.2.2.2.2.2.2.2.2.2.2.2.2.2.2.2.2.2.1
theorem dX10_keepsBars_29 : decode cX10_keepsBars 29 = .ok (.aload_n 0, 1) := dq_g489.2.2.2.2.2.2.2.2.2.2.2.2.2.2.2.2.2.2.1
theorem dX10_keepsBars_30 : decode cX10_keepsBars 30 = .ok (.aload_n 0, 1) := dq_g489.2.2.2.2.2.2.2.2.2.2.2.2.2.2.2.2.2.2.2.1
theorem dX10_keepsBars_31 : decode cX10_keepsBars 31 = .ok (.getfield 32, 3) := dq_g489.2.2.2.2.2.2.2.2.2.2.2.2.2.2.2.2.2.2.2.2.1
theorem dX10_keepsBars_34 : decode cX10_keepsBars 34 = .ok (.iload_n 1, 1) := dq_g489.2.2.2.2.2.2.2.2.2.2.2.2.2.2.2.2.2.2.2.2.2.1
theorem dX10_keepsBars_35 : decode cX10_keepsBars 35 = .ok (.iaload, 1) := dq_g489.2.2.2.2.2.2.2.2.2.2.2.2.2.2.2.2.2.2.2.2.2.2.1
theorem dX10_keepsBars_36 : decode cX10_keepsBars 36 = .ok (.invokevirtual 473, 3) := dq_g489.2.2.2.2.2.2.2.2.2.2.2.2.2.2.2.2.2.2.2.2.2.2.2.1
theorem dX10_keepsBars_39 : decode cX10_keepsBars 39 = .ok (.iastore, 1) := dq_g489.2.2.2.2.2.2.2.2.2.2.2.2.2.2.2.2.2.2.2.2.2.2.2.2.1
theorem dX10_keepsBars_40 : decode cX10_keepsBars 40 = .ok (.aload_n 0, 1) := dq_g489.2.2.2.2.2.2.2.2.2.2.2.2.2.2.2.2.2.2.2.2.2.2.2.2.2.1
theorem dX10_keepsBars_41 : decode cX10_keepsBars 41 = .ok (.getfield 41, 3) := dq_g489.2.2.2.2.2.2.2.2.2.2.2.2.2.2.2.2.2.2.2.2.2.2.2.2.2.2.1
theorem dX10_keepsBars_44 : decode cX10_keepsBars 44 = .ok (.iload_n 1, 1) := dq_g489.2.2.2.2.2.2.2.2.2.2.2.2.2.2.2.2.2.2.2.2.2.2.2.2.2.2.2.1
theorem dX10_keepsBars_45 : decode cX10_keepsBars 45 = .ok (.aload_n 0, 1) := dq_g489.2.2.2.2.2.2.2.2.2.2.2.2.2.2.2.2.2.2.2.2.2.2.2.2.2.2.2.2.1
theorem dX10_keepsBars_46 : decode cX10_keepsBars 46 = .ok (.aload_n 0, 1) := dq_g489.2.2.2.2.2.2.2.2.2.2.2.2.2.2.2.2.2.2.2.2.2.2.2.2.2.2.2.2.2.1
theorem dq_g490 : decode cX10_keepsBars 47 = .ok (.getfield 41, 3) ∧ decode cX10_keepsBars 50 = .ok (.iload_n 1, 1) ∧ decode cX10_keepsBars 51 = .ok (.iaload, 1) ∧ decode cX10_keepsBars 52 = .ok (.invokevirtual 473, 3) ∧ decode cX10_keepsBars 55 = .ok (.iastore, 1) ∧ decode cX10_keepsBars 56 = .ok (.aload_n 0, 1) ∧ decode cX10_keepsBars 57 = .ok (.getfield 44, 3) ∧ decode cX10_keepsBars 60 = .ok (.iload_n 1, 1) ∧ decode cX10_keepsBars 61 = .ok (.aload_n 0, 1) ∧ decode cX10_keepsBars 62 = .ok (.aload_n 0, 1) ∧ decode cX10_keepsBars 63 = .ok (.getfield 44, 3) ∧ decode cX10_keepsBars 66 = .ok (.iload_n 1, 1) ∧ decode cX10_keepsBars 67 = .ok (.iaload, 1) ∧ decode cX10_keepsBars 68 = .ok (.invokevirtual 473, 3) ∧ decode cX10_keepsBars 71 = .ok (.iastore, 1) ∧ decode cX10_keepsBars 72 = .ok (.aload_n 0, 1) ∧ decode cX10_keepsBars 73 = .ok (.getfield 47, 3) ∧ decode cX10_keepsBars 76 = .ok (.iload_n 1, 1) ∧ decode cX10_keepsBars 77 = .ok (.aload_n 0, 1) ∧ decode cX10_keepsBars 78 = .ok (.aload_n 0, 1) ∧ decode cX10_keepsBars 79 = .ok (.getfield 47, 3) ∧ decode cX10_keepsBars 82 = .ok (.iload_n 1, 1) ∧ decode cX10_keepsBars 83 = .ok (.iaload, 1) ∧ decode cX10_keepsBars 84 = .ok (.invokevirtual 473, 3) ∧ decode cX10_keepsBars 87 = .ok (.iastore, 1) ∧ decode cX10_keepsBars 88 = .ok (.aload_n 0, 1) ∧ decode cX10_keepsBars 89 = .ok (.getfield 116, 3) ∧ decode cX10_keepsBars 92 = .ok (.iload_n 1, 1) ∧ decode cX10_keepsBars 93 = .ok (.aload_n 0, 1) ∧ decode cX10_keepsBars 94 = .ok (.aload_n 0, 1) ∧ True := dqC_ok (c := cX10_keepsBars) [(47, 3, some (.getfield 41)), (50, 1, some (.iload_n 1)), (51, 1, some (.iaload)), (52, 3, some (.invokevirtual 473)), (55, 1, some (.iastore)), (56, 1, some (.aload_n 0)), (57, 3, some (.getfield 44)), (60, 1, some (.iload_n 1)), (61, 1, some (.aload_n 0)), (62, 1, some (.aload_n 0)), (63, 3, some (.getfield 44)), (66, 1, some (.iload_n 1)), (67, 1, some (.iaload)), (68, 3, some (.invokevirtual 473)), (71, 1, some (.iastore)), (72, 1, some (.aload_n 0)), (73, 3, some (.getfield 47)), (76, 1, some (.iload_n 1)), (77, 1, some (.aload_n 0)), (78, 1, some (.aload_n 0)), (79, 3, some (.getfield 47)), (82, 1, some (.iload_n 1)), (83, 1, some (.iaload)), (84, 3, some (.invokevirtual 473)), (87, 1, some (.iastore)), (88, 1, some (.aload_n 0)), (89, 3, some (.getfield 116)), (92, 1, some (.iload_n 1)), (93, 1, some (.aload_n 0)), (94, 1, some (.aload_n 0))] _ 47 rfl (by decide +kernel)
theorem dX10_keepsBars_47 : decode cX10_keepsBars 47 = .ok (.getfield 41, 3) := dq_g490.1
theorem dX10_keepsBars_50 : decode cX10_keepsBars 50 = .ok (.iload_n 1, 1) := dq_g490.2.1
theorem dX10_keepsBars_51 : decode cX10_keepsBars 51 = .ok (.iaload, 1) := dq_g490.2.2.1
theorem dX10_keepsBars_52 : decode cX10_keepsBars 52 = .ok (.invokevirtual 473, 3) := dq_g490.2.2.2.1
theorem dX10_keepsBars_55 : decode cX10_keepsBars 55 = .ok (.iastore, 1) := dq_g490.2.2.2.2.1
theorem dX10_keepsBars_56 : decode cX10_keepsBars 56 = .ok (.aload_n 0, 1) := dq_g490.2.2.2.2.2.1
theorem dX10_keepsBars_57 : decode cX10_keepsBars 57 = .ok (.getfield 44, 3) := dq_g490.2.2.2.2.2.2.1
theorem dX10_keepsBars_60 : decode cX10_keepsBars 60 = .ok (.iload_n 1, 1) := dq_g490.2.2.2.2.2.2.2.1
theorem dX10_keepsBars_61 : decode cX10_keepsBars 61 = .ok (.aload_n 0, 1) := dq_g490.2.2.2.2.2.2.2.2.1
theorem dX10_keepsBars_62 : decode cX10_keepsBars 62 = .ok (.aload_n 0, 1) := dq_g490.2.2.2.2.2.2.2.2.2.1
theorem dX10_keepsBars_63 : decode cX10_keepsBars 63 = .ok (.getfield 44, 3) := dq_g490.2.2.2.2.2.2.2.2.2.2.1
theorem dX10_keepsBars_66 : decode cX10_keepsBars 66 = .ok (.iload_n 1, 1) := dq_g490.2.2.2.2.2.2.2.2.2.2.2.1
theorem dX10_keepsBars_67 : decode cX10_keepsBars 67 = .ok (.iaload, 1) := dq_g490.2.2.2.2.2.2.2.2.2.2.2.2.1
theorem dX10_keepsBars_68 : decode cX10_keepsBars 68 = .ok (.invokevirtual 473, 3) := dq_g490.2.2.2.2.2.2.2.2.2.2.2.2.2.1
theorem dX10_keepsBars_71 : decode cX10_keepsBars 71 = .ok (.iastore, 1) := dq_g490.2.2.2.2.2.2.2.2.2.2.2.2.2.2.1
theorem dX10_keepsBars_72 : decode cX10_keepsBars 72 = .ok (.aload_n 0, 1) := dq_g490.2.2.2.2.2.2.2.2.2.2.2.2.2.2.2.1
theorem dX10_keepsBars_73 : decode cX10_keepsBars 73 = .ok (.getfield 47, 3) := dq_g490.2.2.2.2.2.2.2.2.2.2.2.2.2.2.2.2.1
theorem dX10_keepsBars_76 : decode cX10_keepsBars 76 = .ok (.iload_n 1, 1) := dq_g490.2.2.2.2.2.2.2.2.2.2.2.2.2.2.2.2.2.1
theorem dX10_keepsBars_77 : decode cX10_keepsBars 77 = .ok (.aload_n 0, 1) := dq_g490.2.2.2.2.2.2.2.2.2.2.2.2.2.2.2.2.2.2.1
theorem dX10_keepsBars_78 : decode cX10_keepsBars 78 = .ok (.aload_n 0, 1) := dq_g490.2.2.2.2.2.2.2.2.2.2.2.2.2.2.2.2.2.2.2.1
theorem dX10_keepsBars_79 : decode cX10_keepsBars 79 = .ok (.getfield 47, 3) := dq_g490.2.2.2.2.2.2.2.2.2.2.2.2.2.2.2.2.2.2.2.2.1
theorem dX10_keepsBars_82 : decode cX10_keepsBars 82 = .ok (.iload_n 1, 1) := dq_g490.2.2.2.2.2.2.2.2.2.2.2.2.2.2.2.2.2.2.2.2.2.1
theorem dX10_keepsBars_83 : decode cX10_keepsBars 83 = .ok (.iaload, 1) := dq_g490.2.2.2.2.2.2.2.2.2.2.2.2.2.2.2.2.2.2.2.2.2.2.1
theorem dX10_keepsBars_84 : decode cX10_keepsBars 84 = .ok (.invokevirtual 473, 3) := dq_g490.2.2.2.2.2.2.2.2.2.2.2.2.2.2.2.2.2.2.2.2.2.2.2.1
theorem dX10_keepsBars_87 : decode cX10_keepsBars 87 = .ok (.iastore, 1) := dq_g490.2.2.2.2.2.2.2.2.2.2.2.2.2.2.2.2.2.2.2.2.2.2.2.2.1
theorem dX10_keepsBars_88 : decode cX10_keepsBars 88 = .ok (.aload_n 0, 1) := dq_g490.2.2.2.2.2.2.2.2.2.2.2.2.2.2.2.2.2.2.2.2.2.2.2.2.2.1
theorem dX10_keepsBars_89 : decode cX10_keepsBars 89 = .ok (.getfield 116, 3) := dq_g490.2.2.2.2.2.2.2.2.2.2.2.2.2.2.2.2.2.2.2.2.2.2.2.2.2.2.1
theorem dX10_keepsBars_92 : decode cX10_keepsBars 92 = .ok (.iload_n 1, 1) := dq_g490.2.2.2.2.2.2.2.2.2.2.2.2.2.2.2.2.2.2.2.2.2.2.2.2.2.2.2.1
theorem dX10_keepsBars_93 : decode cX10_keepsBars 93 = .ok (.aload_n 0, 1) := dq_g490.2.2.2.2.2.2.2.2.2.2.2.2.2.2.2.2.2.2.2.2.2.2.2.2.2.2.2.2.1
theorem dX10_keepsBars_94 : decode cX10_keepsBars 94 = .ok (.aload_n 0, 1) := dq_g490.2.2.2.2.2.2.2.2.2.2.2.2.2.2.2.2.2.2.2.2.2.2.2.2.2.2.2.2.2.1
theorem dq_g491 : decode cX10_keepsBars 95 = .ok (.getfield 116, 3) ∧ decode cX10_keepsBars 98 = .ok (.iload_n 1, 1) ∧ decode cX10_keepsBars 99 = .ok (.iaload, 1) ∧ decode cX10_keepsBars 100 = .ok (.invokevirtual 473, 3) ∧ decode cX10_keepsBars 103 = .ok (.iastore, 1) ∧ decode cX10_keepsBars 104 = .ok (.iinc 1 1, 3) ∧ decode cX10_keepsBars 107 = .ok (.goto (-105), 3) ∧ decode cX10_keepsBars 110 = .ok (.iconst 0, 1) ∧ decode cX10_keepsBars 111 = .ok (.istore_n 1, 1) ∧ decode cX10_keepsBars 112 = .ok (.iload_n 1, 1) ∧ decode cX10_keepsBars 113 = .ok (.sipush 160, 3) ∧ decode cX10_keepsBars 116 = .ok (.if_icmp .ge 73, 3) ∧ decode cX10_keepsBars 119 = .ok (.aload_n 0, 1) ∧ decode cX10_keepsBars 120 = .ok (.getfield 17, 3) ∧ decode cX10_keepsBars 123 = .ok (.iload_n 1, 1) ∧ decode cX10_keepsBars 124 = .ok (.aload_n 0, 1) ∧ decode cX10_keepsBars 125 = .ok (.aload_n 0, 1) ∧ decode cX10_keepsBars 126 = .ok (.getfield 17, 3) ∧ decode cX10_keepsBars 129 = .ok (.iload_n 1, 1) ∧ decode cX10_keepsBars 130 = .ok (.iaload, 1) ∧ decode cX10_keepsBars 131 = .ok (.invokevirtual 473, 3) ∧ decode cX10_keepsBars 134 = .ok (.iastore, 1) ∧ decode cX10_keepsBars 135 = .ok (.aload_n 0, 1) ∧ decode cX10_keepsBars 136 = .ok (.getfield 20, 3) ∧ decode cX10_keepsBars 139 = .ok (.iload_n 1, 1) ∧ decode cX10_keepsBars 140 = .ok (.aload_n 0, 1) ∧ decode cX10_keepsBars 141 = .ok (.aload_n 0, 1) ∧ decode cX10_keepsBars 142 = .ok (.getfield 20, 3) ∧ decode cX10_keepsBars 145 = .ok (.iload_n 1, 1) ∧ decode cX10_keepsBars 146 = .ok (.iaload, 1) ∧ True := dqC_ok (c := cX10_keepsBars) [(95, 3, some (.getfield 116)), (98, 1, some (.iload_n 1)), (99, 1, some (.iaload)), (100, 3, some (.invokevirtual 473)), (103, 1, some (.iastore)), (104, 3, some (.iinc 1 1)), (107, 3, some (.goto (-105))), (110, 1, some (.iconst 0)), (111, 1, some (.istore_n 1)), (112, 1, some (.iload_n 1)), (113, 3, some (.sipush 160)), (116, 3, some (.if_icmp .ge 73)), (119, 1, some (.aload_n 0)), (120, 3, some (.getfield 17)), (123, 1, some (.iload_n 1)), (124, 1, some (.aload_n 0)), (125, 1, some (.aload_n 0)), (126, 3, some (.getfield 17)), (129, 1, some (.iload_n 1)), (130, 1, some (.iaload)), (131, 3, some (.invokevirtual 473)), (134, 1, some (.iastore)), (135, 1, some (.aload_n 0)), (136, 3, some (.getfield 20)), (139, 1, some (.iload_n 1)), (140, 1, some (.aload_n 0)), (141, 1, some (.aload_n 0)), (142, 3, some (.getfield 20)), (145, 1, some (.iload_n 1)), (146, 1, some (.iaload))] _ 95 rfl (by decide +kernel)
theorem dX10_keepsBars_95 : decode cX10_keepsBars 95 = .ok (.getfield 116, 3) := dq_g491.1
theorem dX10_keepsBars_98 : decode cX10_keepsBars 98 = .ok (.iload_n 1, 1) := dq_g491.2.1
theorem dX10_keepsBars_99 : decode cX10_keepsBars 99 = .ok (.iaload, 1) := dq_g491.2.2.1
theorem dX10_keepsBars_100 : decode cX10_keepsBars 100 = .ok (.invokevirtual 473, 3) := dq_g491.2.2.2.1
theorem dX10_keepsBars_103 : decode cX10_keepsBars 103 = .ok (.iastore, 1) := dq_g491.2.2.2.2.1
theorem dX10_keepsBars_104 : decode cX10_keepsBars 104 = .ok (.iinc 1 1, 3) := dq_g491.2.2.2.2.2.1
theorem dX10_keepsBars_107 : decode cX10_keepsBars 107 = .ok (.goto (-105), 3) := dq_g491.2.2.2.2.2.2.1
theorem dX10_keepsBars_110 : decode cX10_keepsBars 110 = .ok (.iconst 0, 1) := dq_g491.2.2.2.2.2.2.2.1
theorem dX10_keepsBars_111 : decode cX10_keepsBars 111 = .ok (.istore_n 1, 1) := dq_g491.2.2.2.2.2.2.2.2.1
theorem dX10_keepsBars_112 : decode cX10_keepsBars 112 = .ok (.iload_n 1, 1) := dq_g491.2.2.2.2.2.2.2.2.2.1
theorem dX10_keepsBars_113 : decode cX10_keepsBars 113 = .ok (.sipush 160, 3) := dq_g491.2.2.2.2.2.2.2.2.2.2.1
theorem dX10_keepsBars_116 : decode cX10_keepsBars 116 = .ok (.if_icmp .ge 73, 3) := dq_g491.2.2.2.2.2.2.2.2.2.2.2.1
theorem dX10_keepsBars_119 : decode cX10_keepsBars 119 = .ok (.aload_n 0, 1) := dq_g491.2.2.2.2.2.2.2.2.2.2.2.2.1
theorem dX10_keepsBars_120 : decode cX10_keepsBars 120 = .ok (.getfield 17, 3) := dq_g491.2.2.2.2.2.2.2.2.2.2.2.2.2.1
theorem dX10_keepsBars_123 : decode cX10_keepsBars 123 = .ok (.iload_n 1, 1) := dq_g491.2.2.2.2.2.2.2.2.2.2.2.2.2.2.1
theorem dX10_keepsBars_124 : decode cX10_keepsBars 124 = .ok (.aload_n 0, 1) := dq_g491.2.2.2.2.2.2.2.2.2.2.2.2.2.2.2.1
theorem dX10_keepsBars_125 : decode cX10_keepsBars 125 = .ok (.aload_n 0, 1) := dq_g491.2.2.2.2.2.2.2.2.2.2.2.2.2.2.2.2.1
theorem dX10_keepsBars_126 : decode cX10_keepsBars 126 = .ok (.getfield 17, 3) := dq_g491.2.2.2.2.2.2.2.2.2.2.2.2.2.2.2.2.2.1
theorem dX10_keepsBars_129 : decode cX10_keepsBars 129 = .ok (.iload_n 1, 1) := dq_g491.2.2.2.2.2.2.2.2.2.2.2.2.2.2.2.2.2.2.1
theorem dX10_keepsBars_130 : decode cX10_keepsBars 130 = .ok (.iaload, 1) := dq_g491.2.2.2.2.2.2.2.2.2.2.2.2.2.2.2.2.2.2.2.1
theorem dX10_keepsBars_131 : decode cX10_keepsBars 131 = .ok (.invokevirtual 473, 3) := dq_g491.2.2.2.2.2.2.2.2.2.2.2.2.2.2.2.2.2.2.2.2.1
theorem dX10_keepsBars_134 : decode cX10_keepsBars 134 = .ok (.iastore, 1) := dq_g491.2.2.2.2.2.2.2.2.2.2.2.2.2.2.2.2.2.2.2.2.2.1
theorem dX10_keepsBars_135 : decode cX10_keepsBars 135 = .ok (.aload_n 0, 1) := dq_g491.2.2.2.2.2.2.2.2.2.2.2.2.2.2.2.2.2.2.2.2.2.2.1
theorem dX10_keepsBars_136 : decode cX10_keepsBars 136 = .ok (.getfield 20, 3) := dq_g491.2.2.2.2.2.2.2.2.2.2.2.2.2.2.2.2.2.2.2.2.2.2.2.1
theorem dX10_keepsBars_139 : decode cX10_keepsBars 139 = .ok (.iload_n 1, 1) := dq_g491.2.2.2.2.2.2.2.2.2.2.2.2.2.2.2.2.2.2.2.2.2.2.2.2.1
theorem dX10_keepsBars_140 : decode cX10_keepsBars 140 = .ok (.aload_n 0, 1) := dq_g491.2.2.2.2.2.2.2.2.2.2.2.2.2.2.2.2.2.2.2.2.2.2.2.2.2.1
theorem dX10_keepsBars_141 : decode cX10_keepsBars 141 = .ok (.aload_n 0, 1) := dq_g491.2.2.2.2.2.2.2.2.2.2.2.2.2.2.2.2.2.2.2.2.2.2.2.2.2.2.1
theorem dX10_keepsBars_142 : decode cX10_keepsBars 142 = .ok (.getfield 20, 3) := dq_g491.2.2.2.2.2.2.2.2.2.2.2.2.2.2.2.2.2.2.2.2.2.2.2.2.2.2.2.1
theorem dX10_keepsBars_145 : decode cX10_keepsBars 145 = .ok (.iload_n 1, 1) := dq_g491.2.2.2.2.2.2.2.2.2.2.2.2.2.2.2.2.2.2.2.2.2.2.2.2.2.2.2.2.1
theorem dX10_keepsBars_146 : decode cX10_keepsBars 146 = .ok (.iaload, 1) := dq_g491.2.2.2.2.2.2.2.2.2.2.2.2.2.2.2.2.2.2.2.2.2.2.2.2.2.2.2.2.2.1
theorem dq_g492 : decode cX10_keepsBars 147 = .ok (.invokevirtual 473, 3) ∧ decode cX10_keepsBars 150 = .ok (.iastore, 1) ∧ decode cX10_keepsBars 151 = .ok (.aload_n 0, 1) ∧ decode cX10_keepsBars 152 = .ok (.getfield 23, 3) ∧ decode cX10_keepsBars 155 = .ok (.iload_n 1, 1) ∧ decode cX10_keepsBars 156 = .ok (.aload_n 0, 1) ∧ decode cX10_keepsBars 157 = .ok (.aload_n 0, 1) ∧ decode cX10_keepsBars 158 = .ok (.getfield 23, 3) ∧ decode cX10_keepsBars 161 = .ok (.iload_n 1, 1) ∧ decode cX10_keepsBars 162 = .ok (.iaload, 1) ∧ decode cX10_keepsBars 163 = .ok (.invokevirtual 473, 3) ∧ decode cX10_keepsBars 166 = .ok (.iastore, 1) ∧ decode cX10_keepsBars 167 = .ok (.aload_n 0, 1) ∧ decode cX10_keepsBars 168 = .ok (.getfield 26, 3) ∧ decode cX10_keepsBars 171 = .ok (.iload_n 1, 1) ∧ decode cX10_keepsBars 172 = .ok (.aload_n 0, 1) ∧ decode cX10_keepsBars 173 = .ok (.aload_n 0, 1) ∧ decode cX10_keepsBars 174 = .ok (.getfield 26, 3) ∧ decode cX10_keepsBars 177 = .ok (.iload_n 1, 1) ∧ decode cX10_keepsBars 178 = .ok (.iaload, 1) ∧ decode cX10_keepsBars 179 = .ok (.invokevirtual 473, 3) ∧ decode cX10_keepsBars 182 = .ok (.iastore, 1) ∧ decode cX10_keepsBars 183 = .ok (.iinc 1 1, 3) ∧ decode cX10_keepsBars 186 = .ok (.goto (-74), 3) ∧ decode cX10_keepsBars 189 = .ok (.iconst 0, 1) ∧ decode cX10_keepsBars 190 = .ok (.istore_n 1, 1) ∧ decode cX10_keepsBars 191 = .ok (.iload_n 1, 1) ∧ decode cX10_keepsBars 192 = .ok (.bipush 30, 2) ∧ decode cX10_keepsBars 194 = .ok (.if_icmp .ge 25, 3) ∧ decode cX10_keepsBars 197 = .ok (.aload_n 0, 1) ∧ True := dqC_ok (c := cX10_keepsBars) [(147, 3, some (.invokevirtual 473)), (150, 1, some (.iastore)), (151, 1, some (.aload_n 0)), (152, 3, some (.getfield 23)), (155, 1, some (.iload_n 1)), (156, 1, some (.aload_n 0)), (157, 1, some (.aload_n 0)), (158, 3, some (.getfield 23)), (161, 1, some (.iload_n 1)), (162, 1, some (.iaload)), (163, 3, some (.invokevirtual 473)), (166, 1, some (.iastore)), (167, 1, some (.aload_n 0)), (168, 3, some (.getfield 26)), (171, 1, some (.iload_n 1)), (172, 1, some (.aload_n 0)), (173, 1, some (.aload_n 0)), (174, 3, some (.getfield 26)), (177, 1, some (.iload_n 1)), (178, 1, some (.iaload)), (179, 3, some (.invokevirtual 473)), (182, 1, some (.iastore)), (183, 3, some (.iinc 1 1)), (186, 3, some (.goto (-74))), (189, 1, some (.iconst 0)), (190, 1, some (.istore_n 1)), (191, 1, some (.iload_n 1)), (192, 2, some (.bipush 30)), (194, 3, some (.if_icmp .ge 25)), (197, 1, some (.aload_n 0))] _ 147 rfl (by decide +kernel)
theorem dX10_keepsBars_147 : decode cX10_keepsBars 147 = .ok (.invokevirtual 473, 3) := dq_g492.1
theorem dX10_keepsBars_150 : decode cX10_keepsBars 150 = .ok (.iastore, 1) := dq_g492.2.1
theorem dX10_keepsBars_151 : decode cX10_keepsBars 151 = .ok (.aload_n 0, 1) := dq_g492.2.2.1
theorem dX10_keepsBars_152 : decode cX10_keepsBars 152 = .ok (.getfield 23, 3) := dq_g492.2.2.2.1
theorem dX10_keepsBars_155 : decode cX10_keepsBars 155 = .ok (.iload_n 1, 1) := dq_g492.2.2.2.2.1
theorem dX10_keepsBars_156 : decode cX10_keepsBars 156 = .ok (.aload_n 0, 1) := dq_g492.2.2.2.2.2.1
theorem dX10_keepsBars_157 : decode cX10_keepsBars 157 = .ok (.aload_n 0, 1) := dq_g492.2.2.2.2.2.2.1
theorem dX10_keepsBars_158 : decode cX10_keepsBars 158 = .ok (.getfield 23, 3) := dq_g492.2.2.2.2.2.2.2.1
theorem dX10_keepsBars_161 : decode cX10_keepsBars 161 = .ok (.iload_n 1, 1) := dq_g492.2.2.2.2.2.2.2.2.1
theorem dX10_keepsBars_162 : decode cX10_keepsBars 162 = .ok (.iaload, 1) := dq_g492.2.2.2.2.2.2.2.2.2.1
theorem dX10_keepsBars_163 : decode cX10_keepsBars 163 = .ok (.invokevirtual 473, 3) := dq_g492.2.2.2.2.2.2.2.2.2.2.1
theorem dX10_keepsBars_166 : decode cX10_keepsBars 166 = .ok (.iastore, 1) := dq_g492.2.2.2.2.2.2.2.2.2.2.2.1
theorem dX10_keepsBars_167 : decode cX10_keepsBars 167 = .ok (.aload_n 0, 1) := dq_g492.2.2.2.2.2.2.2.2.2.2.2.2.1
theorem dX10_keepsBars_168 : decode cX10_keepsBars 168 = .ok (.getfield 26, 3) := dq_g492.2.2.2.2.2.2.2.2.2.2.2.2.2.1
theorem dX10_keepsBars_171 : decode cX10_keepsBars 171 = .ok (.iload_n 1, 1) := dq_g492.2.2.2.2.2.2.2.2.2.2.2.2.2.2.1
theorem dX10_keepsBars_172 : decode cX10_keepsBars 172 = .ok (.aload_n 0, 1) := dq_g492.2.2.2.2.2.2.2.2.2.2.2.2.2.2.2.1
theorem dX10_keepsBars_173 : decode cX10_keepsBars 173 = .ok (.aload_n 0, 1) := dq_g492.2.2.2.2.2.2.2.2.2.2.2.2.2.2.2.2.1
theorem dX10_keepsBars_174 : decode cX10_keepsBars 174 = .ok (.getfield 26, 3) := dq_g492.2.2.2.2.2.2.2.2.2.2.2.2.2.2.2.2.2.1
theorem dX10_keepsBars_177 : decode cX10_keepsBars 177 = .ok (.iload_n 1, 1) := dq_g492.2.2.2.2.2.2.2.2.2.2.2.2.2.2.2.2.2.2.1
theorem dX10_keepsBars_178 : decode cX10_keepsBars 178 = .ok (.iaload, 1) := dq_g492.2.2.2.2.2.2.2.2.2.2.2.2.2.2.2.2.2.2.2.1
theorem dX10_keepsBars_179 : decode cX10_keepsBars 179 = .ok (.invokevirtual 473, 3) := dq_g492.2.2.2.2.2.2.2.2.2.2.2.2.2.2.2.2.2.2.2.2.1
theorem dX10_keepsBars_182 : decode cX10_keepsBars 182 = .ok (.iastore, 1) := dq_g492.2.2.2.2.2.2.2.2.2.2.2.2.2.2.2.2.2.2.2.2.2.1
theorem dX10_keepsBars_183 : decode cX10_keepsBars 183 = .ok (.iinc 1 1, 3) := dq_g492.2.2.2.2.2.2.2.2.2.2.2.2.2.2.2.2.2.2.2.2.2.2.1
theorem dX10_keepsBars_186 : decode cX10_keepsBars 186 = .ok (.goto (-74), 3) := dq_g492.2.2.2.2.2.2.2.2.2.2.2.2.2.2.2.2.2.2.2.2.2.2.2.1
theorem dX10_keepsBars_189 : decode cX10_keepsBars 189 = .ok (.iconst 0, 1) := dq_g492.2.2.2.2.2.2.2.2.2.2.2.2.2.2.2.2.2.2.2.2.2.2.2.2.1
theorem dX10_keepsBars_190 : decode cX10_keepsBars 190 = .ok (.istore_n 1, 1) := dq_g492.2.2.2.2.2.2.2.2.2.2.2.2.2.2.2.2.2.2.2.2.2.2.2.2.2.1
theorem dX10_keepsBars_191 : decode cX10_keepsBars 191 = .ok (.iload_n 1, 1) := dq_g492.2.2.2.2.2.2.2.2.2.2.2.2.2.2.2.2.2.2.2.2.2.2.2.2.2.2.1
theorem dX10_keepsBars_192 : decode cX10_keepsBars 192 = .ok (.bipush 30, 2) := dq_g492.2.2.2.2.2.2.2.2.2.2.2.2.2.2.2.2.2.2.2.2.2.2.2.2.2.2.2.1
theorem dX10_keepsBars_194 : decode cX10_keepsBars 194 = .ok (.if_icmp .ge 25, 3) := dq_g492.2.2.2.2.2.2.2.2.2.2.2.2.2.2.2.2.2.2.2.2.2.2.2.2.2.2.2.2.1
theorem dX10_keepsBars_197 : decode cX10_keepsBars 197 = .ok (.aload_n 0, 1) := dq_g492.2.2.2.2.2.2.2.2.2.2.2.2.2.2.2.2.2.2.2.2.2.2.2.2.2.2.2.2.2.1
theorem dq_g493 : decode cX10_keepsBars 198 = .ok (.getfield 29, 3) ∧ decode cX10_keepsBars 201 = .ok (.iload_n 1, 1) ∧ decode cX10_keepsBars 202 = .ok (.aload_n 0, 1) ∧ decode cX10_keepsBars 203 = .ok (.aload_n 0, 1) ∧ decode cX10_keepsBars 204 = .ok (.getfield 29, 3) ∧ decode cX10_keepsBars 207 = .ok (.iload_n 1, 1) ∧ decode cX10_keepsBars 208 = .ok (.iaload, 1) ∧ decode cX10_keepsBars 209 = .ok (.invokevirtual 473, 3) ∧ decode cX10_keepsBars 212 = .ok (.iastore, 1) ∧ decode cX10_keepsBars 213 = .ok (.iinc 1 1, 3) ∧ decode cX10_keepsBars 216 = .ok (.goto (-25), 3) ∧ decode cX10_keepsBars 219 = .ok (.iconst 0, 1) ∧ decode cX10_keepsBars 220 = .ok (.istore_n 1, 1) ∧ decode cX10_keepsBars 221 = .ok (.iload_n 1, 1) ∧ decode cX10_keepsBars 222 = .ok (.bipush 20, 2) ∧ decode cX10_keepsBars 224 = .ok (.if_icmp .ge 57, 3) ∧ decode cX10_keepsBars 227 = .ok (.aload_n 0, 1) ∧ decode cX10_keepsBars 228 = .ok (.getfield 50, 3) ∧ decode cX10_keepsBars 231 = .ok (.iload_n 1, 1) ∧ decode cX10_keepsBars 232 = .ok (.aload_n 0, 1) ∧ decode cX10_keepsBars 233 = .ok (.aload_n 0, 1) ∧ decode cX10_keepsBars 234 = .ok (.getfield 50, 3) ∧ decode cX10_keepsBars 237 = .ok (.iload_n 1, 1) ∧ decode cX10_keepsBars 238 = .ok (.iaload, 1) ∧ decode cX10_keepsBars 239 = .ok (.invokevirtual 473, 3) ∧ decode cX10_keepsBars 242 = .ok (.iastore, 1) ∧ decode cX10_keepsBars 243 = .ok (.aload_n 0, 1) ∧ decode cX10_keepsBars 244 = .ok (.getfield 140, 3) ∧ decode cX10_keepsBars 247 = .ok (.iload_n 1, 1) ∧ decode cX10_keepsBars 248 = .ok (.aload_n 0, 1) ∧ True := dqC_ok (c := cX10_keepsBars) [(198, 3, some (.getfield 29)), (201, 1, some (.iload_n 1)), (202, 1, some (.aload_n 0)), (203, 1, some (.aload_n 0)), (204, 3, some (.getfield 29)), (207, 1, some (.iload_n 1)), (208, 1, some (.iaload)), (209, 3, some (.invokevirtual 473)), (212, 1, some (.iastore)), (213, 3, some (.iinc 1 1)), (216, 3, some (.goto (-25))), (219, 1, some (.iconst 0)), (220, 1, some (.istore_n 1)), (221, 1, some (.iload_n 1)), (222, 2, some (.bipush 20)), (224, 3, some (.if_icmp .ge 57)), (227, 1, some (.aload_n 0)), (228, 3, some (.getfield 50)), (231, 1, some (.iload_n 1)), (232, 1, some (.aload_n 0)), (233, 1, some (.aload_n 0)), (234, 3, some (.getfield 50)), (237, 1, some (.iload_n 1)), (238, 1, some (.iaload)), (239, 3, some (.invokevirtual 473)), (242, 1, some (.iastore)), (243, 1, some (.aload_n 0)), (244, 3, some (.getfield 140)), (247, 1, some (.iload_n 1)), (248, 1, some (.aload_n 0))] _ 198 rfl (by decide +kernel)
theorem dX10_keepsBars_198 : decode cX10_keepsBars 198 = .ok (.getfield 29, 3) := dq_g493.1
theorem dX10_keepsBars_201 : decode cX10_keepsBars 201 = .ok (.iload_n 1, 1) := dq_g493.2.1
theorem dX10_keepsBars_202 : decode cX10_keepsBars 202 = .ok (.aload_n 0, 1) := dq_g493.2.2.1
theorem dX10_keepsBars_203 : decode cX10_keepsBars 203 = .ok (.aload_n 0, 1) := dq_g493.2.2.2.1
theorem dX10_keepsBars_204 : decode cX10_keepsBars 204 = .ok (.getfield 29, 3) := dq_g493.2.2.2.2.1
theorem dX10_keepsBars_207 : decode cX10_keepsBars 207 = .ok (.iload_n 1, 1) := dq_g493.2.2.2.2.2.1
theorem dX10_keepsBars_208 : decode cX10_keepsBars 208 = .ok (.iaload, 1) := dq_g493.2.2.2.2.2.2.1
theorem dX10_keepsBars_209 : decode cX10_keepsBars 209 = .ok (.invokevirtual 473, 3) := dq_g493.2.2.2.2.2.2.2.1
theorem dX10_keepsBars_212 : decode cX10_keepsBars 212 = .ok (.iastore, 1) := dq_g493.2.2.2.2.2.2.2.2.1
theorem dX10_keepsBars_213 : decode cX10_keepsBars 213 = .ok (.iinc 1 1, 3) := dq_g493.2.2.2.2.2.2.2.2.2.1
theorem dX10_keepsBars_216 : decode cX10_keepsBars 216 = .ok (.goto (-25), 3) := dq_g493.2.2.2.2.2.2.2.2.2.2.1
theorem dX10_keepsBars_219 : decode cX10_keepsBars 219 = .ok (.iconst 0, 1) := dq_g493.2.2.2.2.2.2.2.2.2.2.2.1
theorem dX10_keepsBars_220 : decode cX10_keepsBars 220 = .ok (.istore_n 1, 1) := dq_g493.2.2.2.2.2.2.2.2.2.2.2.2.1
theorem dX10_keepsBars_221 : decode cX10_keepsBars 221 = .ok (.iload_n 1, 1) := dq_g493.2.2.2.2.2.2.2.2.2.2.2.2.2.1
theorem dX10_keepsBars_222 : decode cX10_keepsBars 222 = .ok (.bipush 20, 2) := dq_g493.2.2.2.2.2.2.2.2.2.2.2.2.2.2.1
theorem dX10_keepsBars_224 : decode cX10_keepsBars 224 = .ok (.if_icmp .ge 57, 3) := dq_g493.2.2.2.2.2.2.2.2.2.2.2.2.2.2.2.1
theorem dX10_keepsBars_227 : decode cX10_keepsBars 227 = .ok (.aload_n 0, 1) := dq_g493.2.2.2.2.2.2.2.2.2.2.2.2.2.2.2.2.1
theorem dX10_keepsBars_228 : decode cX10_keepsBars 228 = .ok (.getfield 50, 3) := dq_g493.2.2.2.2.2.2.2.2.2.2.2.2.2.2.2.2.2.1
theorem dX10_keepsBars_231 : decode cX10_keepsBars 231 = .ok (.iload_n 1, 1) := dq_g493.2.2.2.2.2.2.2.2.2.2.2.2.2.2.2.2.2.2.1
theorem dX10_keepsBars_232 : decode cX10_keepsBars 232 = .ok (.aload_n 0, 1) := dq_g493.2.2.2.2.2.2.2.2.2.2.2.2.2.2.2.2.2.2.2.1
theorem dX10_keepsBars_233 : decode cX10_keepsBars 233 = .ok (.aload_n 0, 1) := dq_g493.2.2.2.2.2.2.2.2.2.2.2.2.2.2.2.2.2.2.2.2.1
theorem dX10_keepsBars_234 : decode cX10_keepsBars 234 = .ok (.getfield 50, 3) := dq_g493.2.2.2.2.2.2.2.2.2.2.2.2.2.2.2.2.2.2.2.2.2.1
theorem dX10_keepsBars_237 : decode cX10_keepsBars 237 = .ok (.iload_n 1, 1) := dq_g493.2.2.2.2.2.2.2.2.2.2.2.2.2.2.2.2.2.2.2.2.2.2.1
theorem dX10_keepsBars_238 : decode cX10_keepsBars 238 = .ok (.iaload, 1) := dq_g493.2.2.2.2.2.2.2.2.2.2.2.2.2.2.2.2.2.2.2.2.2.2.2.1
theorem dX10_keepsBars_239 : decode cX10_keepsBars 239 = .ok (.invokevirtual 473, 3) := dq_g493.2.2.2.2.2.2.2.2.2.2.2.2.2.2.2.2.2.2.2.2.2.2.2.2.1
theorem dX10_keepsBars_242 : decode cX10_keepsBars 242 = .ok (.iastore, 1) := dq_g493.2.2.2.2.2.2.2.2.2.2.2.2.2.2.2.2.2.2.2.2.2.2.2.2.2.1
theorem dX10_keepsBars_243 : decode cX10_keepsBars 243 = .ok (.aload_n 0, 1) := dq_g493.2.2.2.2.2.2.2.2.2.2.2.2.2.2.2.2.2.2.2.2.2.2.2.2.2.2.1
theorem dX10_keepsBars_244 : decode cX10_keepsBars 244 = .ok (.getfield 140, 3) := dq_g493.2.2.2.2.2.2.2.2.2.2.2.2.2.2.2.2.2.2.2.2.2.2.2.2.2.2.2.1
theorem dX10_keepsBars_247 : decode cX10_keepsBars 247 = .ok (.iload_n 1, 1) := dq_g493.2.2.2.2.2.2.2.2.2.2.2.2.2.2.2.2.2.2.2.2.2.2.2.2.2.2.2.2.1
theorem dX10_keepsBars_248 : decode cX10_keepsBars 248 = .ok (.aload_n 0, 1) := dq_g493.2.2.2.2.2.2.2.2.2.2.2.2.2.2.2.2.2.2.2.2.2.2.2.2.2.2.2.2.2.1
theorem dq_g494 : decode cX10_keepsBars 249 = .ok (.aload_n 0, 1) ∧ decode cX10_keepsBars 250 = .ok (.getfield 140, 3) ∧ decode cX10_keepsBars 253 = .ok (.iload_n 1, 1) ∧ decode cX10_keepsBars 254 = .ok (.iaload, 1) ∧ decode cX10_keepsBars 255 = .ok (.invokevirtual 473, 3) ∧ decode cX10_keepsBars 258 = .ok (.iastore, 1) ∧ decode cX10_keepsBars 259 = .ok (.aload_n 0, 1) ∧ decode cX10_keepsBars 260 = .ok (.getfield 143, 3) ∧ decode cX10_keepsBars 263 = .ok (.iload_n 1, 1) ∧ decode cX10_keepsBars 264 = .ok (.aload_n 0, 1) ∧ decode cX10_keepsBars 265 = .ok (.aload_n 0, 1) ∧ decode cX10_keepsBars 266 = .ok (.getfield 143, 3) ∧ decode cX10_keepsBars 269 = .ok (.iload_n 1, 1) ∧ decode cX10_keepsBars 270 = .ok (.iaload, 1) ∧ decode cX10_keepsBars 271 = .ok (.invokevirtual 473, 3) ∧ decode cX10_keepsBars 274 = .ok (.iastore, 1) ∧ decode cX10_keepsBars 275 = .ok (.iinc 1 1, 3) ∧ decode cX10_keepsBars 278 = .ok (.goto (-57), 3) ∧ decode cX10_keepsBars 281 = .ok (.iconst 0, 1) ∧ decode cX10_keepsBars 282 = .ok (.istore_n 1, 1) ∧ decode cX10_keepsBars 283 = .ok (.iload_n 1, 1) ∧ decode cX10_keepsBars 284 = .ok (.sipush 2000, 3) ∧ decode cX10_keepsBars 287 = .ok (.if_icmp .ge 41, 3) ∧ decode cX10_keepsBars 290 = .ok (.aload_n 0, 1) ∧ decode cX10_keepsBars 291 = .ok (.getfield 35, 3) ∧ decode cX10_keepsBars 294 = .ok (.iload_n 1, 1) ∧ decode cX10_keepsBars 295 = .ok (.aload_n 0, 1) ∧ decode cX10_keepsBars 296 = .ok (.aload_n 0, 1) ∧ decode cX10_keepsBars 297 = .ok (.getfield 35, 3) ∧ decode cX10_keepsBars 300 = .ok (.iload_n 1, 1) ∧ True := dqC_ok (c := cX10_keepsBars) [(249, 1, some (.aload_n 0)), (250, 3, some (.getfield 140)), (253, 1, some (.iload_n 1)), (254, 1, some (.iaload)), (255, 3, some (.invokevirtual 473)), (258, 1, some (.iastore)), (259, 1, some (.aload_n 0)), (260, 3, some (.getfield 143)), (263, 1, some (.iload_n 1)), (264, 1, some (.aload_n 0)), (265, 1, some (.aload_n 0)), (266, 3, some (.getfield 143)), (269, 1, some (.iload_n 1)), (270, 1, some (.iaload)), (271, 3, some (.invokevirtual 473)), (274, 1, some (.iastore)), (275, 3, some (.iinc 1 1)), (278, 3, some (.goto (-57))), (281, 1, some (.iconst 0)), (282, 1, some (.istore_n 1)), (283, 1, some (.iload_n 1)), (284, 3, some (.sipush 2000)), (287, 3, some (.if_icmp .ge 41)), (290, 1, some (.aload_n 0)), (291, 3, some (.getfield 35)), (294, 1, some (.iload_n 1)), (295, 1, some (.aload_n 0)), (296, 1, some (.aload_n 0)), (297, 3, some (.getfield 35)), (300, 1, some (.iload_n 1))] _ 249 rfl (by decide +kernel)
theorem dX10_keepsBars_249 : decode cX10_keepsBars 249 = .ok (.aload_n 0, 1) := dq_g494.1
theorem dX10_keepsBars_250 : decode cX10_keepsBars 250 = .ok (.getfield 140, 3) := dq_g494.2.1
theorem dX10_keepsBars_253 : decode cX10_keepsBars 253 = .ok (.iload_n 1, 1) := dq_g494.2.2.1
theorem dX10_keepsBars_254 : decode cX10_keepsBars 254 = .ok (.iaload, 1) := dq_g494.2.2.2.1
theorem dX10_keepsBars_255 : decode cX10_keepsBars 255 = .ok (.invokevirtual 473, 3) := dq_g494.2.2.2.2.1
theorem dX10_keepsBars_258 : decode cX10_keepsBars 258 = .ok (.iastore, 1) := dq_g494.2.2.2.2.2.1
theorem dX10_keepsBars_259 : decode cX10_keepsBars 259 = .ok (.aload_n 0, 1) := dq_g494.2.2.2.2.2.2.1
theorem dX10_keepsBars_260 : decode cX10_keepsBars 260 = .ok (.getfield 143, 3) := dq_g494.2.2.2.2.2.2.2.1
theorem dX10_keepsBars_263 : decode cX10_keepsBars 263 = .ok (.iload_n 1, 1) := dq_g494.2.2.2.2.2.2.2.2.1
theorem dX10_keepsBars_264 : decode cX10_keepsBars 264 = .ok (.aload_n 0, 1) := dq_g494.2.2.2.2.2.2.2.2.2.1
theorem dX10_keepsBars_265 : decode cX10_keepsBars 265 = .ok (.aload_n 0, 1) := dq_g494.2.2.2.2.2.2.2.2.2.2.1
theorem dX10_keepsBars_266 : decode cX10_keepsBars 266 = .ok (.getfield 143, 3) := dq_g494.2.2.2.2.2.2.2.2.2.2.2.1
theorem dX10_keepsBars_269 : decode cX10_keepsBars 269 = .ok (.iload_n 1, 1) := dq_g494.2.2.2.2.2.2.2.2.2.2.2.2.1
theorem dX10_keepsBars_270 : decode cX10_keepsBars 270 = .ok (.iaload, 1) := dq_g494.2.2.2.2.2.2.2.2.2.2.2.2.2.1
theorem dX10_keepsBars_271 : decode cX10_keepsBars 271 = .ok (.invokevirtual 473, 3) := dq_g494.2.2.2.2.2.2.2.2.2.2.2.2.2.2.1
theorem dX10_keepsBars_274 : decode cX10_keepsBars 274 = .ok (.iastore, 1) := dq_g494.2.2.2.2.2.2.2.2.2.2.2.2.2.2.2.1
theorem dX10_keepsBars_275 : decode cX10_keepsBars 275 = .ok (.iinc 1 1, 3) := dq_g494.2.2.2.2.2.2.2.2.2.2.2.2.2.2.2.2.1
theorem dX10_keepsBars_278 : decode cX10_keepsBars 278 = .ok (.goto (-57), 3) := dq_g494.2.2.2.2.2.2.2.2.2.2.2.2.2.2.2.2.2.1
theorem dX10_keepsBars_281 : decode cX10_keepsBars 281 = .ok (.iconst 0, 1) := dq_g494.2.2.2.2.2.2.2.2.2.2.2.2.2.2.2.2.2.2.1
theorem dX10_keepsBars_282 : decode cX10_keepsBars 282 = .ok (.istore_n 1, 1) := dq_g494.2.2.2.2.2.2.2.2.2.2.2.2.2.2.2.2.2.2.2.1
theorem dX10_keepsBars_283 : decode cX10_keepsBars 283 = .ok (.iload_n 1, 1) := dq_g494.2.2.2.2.2.2.2.2.2.2.2.2.2.2.2.2.2.2.2.2.1
theorem dX10_keepsBars_284 : decode cX10_keepsBars 284 = .ok (.sipush 2000, 3) := dq_g494.2.2.2.2.2.2.2.2.2.2.2.2.2.2.2.2.2.2.2.2.2.1
theorem dX10_keepsBars_287 : decode cX10_keepsBars 287 = .ok (.if_icmp .ge 41, 3) := dq_g494.2.2.2.2.2.2.2.2.2.2.2.2.2.2.2.2.2.2.2.2.2.2.1
theorem dX10_keepsBars_290 : decode cX10_keepsBars 290 = .ok (.aload_n 0, 1) := dq_g494.2.2.2.2.2.2.2.2.2.2.2.2.2.2.2.2.2.2.2.2.2.2.2.1
theorem dX10_keepsBars_291 : decode cX10_keepsBars 291 = .ok (.getfield 35, 3) := dq_g494.2.2.2.2.2.2.2.2.2.2.2.2.2.2.2.2.2.2.2.2.2.2.2.2.1
theorem dX10_keepsBars_294 : decode cX10_keepsBars 294 = .ok (.iload_n 1, 1) := dq_g494.2.2.2.2.2.2.2.2.2.2.2.2.2.2.2.2.2.2.2.2.2.2.2.2.2.1
theorem dX10_keepsBars_295 : decode cX10_keepsBars 295 = .ok (.aload_n 0, 1) := dq_g494.2.2.2.2.2.2.2.2.2.2.2.2.2.2.2.2.2.2.2.2.2.2.2.2.2.2.1
theorem dX10_keepsBars_296 : decode cX10_keepsBars 296 = .ok (.aload_n 0, 1) := dq_g494.2.2.2.2.2.2.2.2.2.2.2.2.2.2.2.2.2.2.2.2.2.2.2.2.2.2.2.1
theorem dX10_keepsBars_297 : decode cX10_keepsBars 297 = .ok (.getfield 35, 3) := dq_g494.2.2.2.2.2.2.2.2.2.2.2.2.2.2.2.2.2.2.2.2.2.2.2.2.2.2.2.2.1
theorem dX10_keepsBars_300 : decode cX10_keepsBars 300 = .ok (.iload_n 1, 1) := dq_g494.2.2.2.2.2.2.2.2.2.2.2.2.2.2.2.2.2.2.2.2.2.2.2.2.2.2.2.2.2.1
theorem dq_g495 : decode cX10_keepsBars 301 = .ok (.iaload, 1) ∧ decode cX10_keepsBars 302 = .ok (.invokevirtual 473, 3) ∧ decode cX10_keepsBars 305 = .ok (.iastore, 1) ∧ decode cX10_keepsBars 306 = .ok (.aload_n 0, 1) ∧ decode cX10_keepsBars 307 = .ok (.getfield 38, 3) ∧ decode cX10_keepsBars 310 = .ok (.iload_n 1, 1) ∧ decode cX10_keepsBars 311 = .ok (.aload_n 0, 1) ∧ decode cX10_keepsBars 312 = .ok (.aload_n 0, 1) ∧ decode cX10_keepsBars 313 = .ok (.getfield 38, 3) ∧ decode cX10_keepsBars 316 = .ok (.iload_n 1, 1) ∧ decode cX10_keepsBars 317 = .ok (.iaload, 1) ∧ decode cX10_keepsBars 318 = .ok (.invokevirtual 473, 3) ∧ decode cX10_keepsBars 321 = .ok (.iastore, 1) ∧ decode cX10_keepsBars 322 = .ok (.iinc 1 1, 3) ∧ decode cX10_keepsBars 325 = .ok (.goto (-42), 3) ∧ decode cX10_keepsBars 328 = .ok (.return_, 1) ∧ True := dqC_ok (c := cX10_keepsBars) [(301, 1, some (.iaload)), (302, 3, some (.invokevirtual 473)), (305, 1, some (.iastore)), (306, 1, some (.aload_n 0)), (307, 3, some (.getfield 38)), (310, 1, some (.iload_n 1)), (311, 1, some (.aload_n 0)), (312, 1, some (.aload_n 0)), (313, 3, some (.getfield 38)), (316, 1, some (.iload_n 1)), (317, 1, some (.iaload)), (318, 3, some (.invokevirtual 473)), (321, 1, some (.iastore)), (322, 3, some (.iinc 1 1)), (325, 3, some (.goto (-42))), (328, 1, some (.return_))] _ 301 rfl (by decide +kernel)
theorem dX10_keepsBars_301 : decode cX10_keepsBars 301 = .ok (.iaload, 1) := dq_g495.1
theorem dX10_keepsBars_302 : decode cX10_keepsBars 302 = .ok (.invokevirtual 473, 3) := dq_g495.2.1
theorem dX10_keepsBars_305 : decode cX10_keepsBars 305 = .ok (.iastore, 1) := dq_g495.2.2.1
theorem dX10_keepsBars_306 : decode cX10_keepsBars 306 = .ok (.aload_n 0, 1) := dq_g495.2.2.2.1
theorem dX10_keepsBars_307 : decode cX10_keepsBars 307 = .ok (.getfield 38, 3) := dq_g495.2.2.2.2.1
theorem dX10_keepsBars_310 : decode cX10_keepsBars 310 = .ok (.iload_n 1, 1) := dq_g495.2.2.2.2.2.1
theorem dX10_keepsBars_311 : decode cX10_keepsBars 311 = .ok (.aload_n 0, 1) := dq_g495.2.2.2.2.2.2.1
theorem dX10_keepsBars_312 : decode cX10_keepsBars 312 = .ok (.aload_n 0, 1) := dq_g495.2.2.2.2.2.2.2.1
theorem dX10_keepsBars_313 : decode cX10_keepsBars 313 = .ok (.getfield 38, 3) := dq_g495.2.2.2.2.2.2.2.2.1
theorem dX10_keepsBars_316 : decode cX10_keepsBars 316 = .ok (.iload_n 1, 1) := dq_g495.2.2.2.2.2.2.2.2.2.1
theorem dX10_keepsBars_317 : decode cX10_keepsBars 317 = .ok (.iaload, 1) := dq_g495.2.2.2.2.2.2.2.2.2.2.1
theorem dX10_keepsBars_318 : decode cX10_keepsBars 318 = .ok (.invokevirtual 473, 3) := dq_g495.2.2.2.2.2.2.2.2.2.2.2.1
theorem dX10_keepsBars_321 : decode cX10_keepsBars 321 = .ok (.iastore, 1) := dq_g495.2.2.2.2.2.2.2.2.2.2.2.2.1
theorem dX10_keepsBars_322 : decode cX10_keepsBars 322 = .ok (.iinc 1 1, 3) := dq_g495.2.2.2.2.2.2.2.2.2.2.2.2.2.1
theorem dX10_keepsBars_325 : decode cX10_keepsBars 325 = .ok (.goto (-42), 3) := dq_g495.2.2.2.2.2.2.2.2.2.2.2.2.2.2.1
theorem dX10_keepsBars_328 : decode cX10_keepsBars 328 = .ok (.return_, 1) := dq_g495.2.2.2.2.2.2.2.2.2.2.2.2.2.2.2.1
theorem dq_g496 : decode cX10_keepsTaps 0 = .ok (.iconst 0, 1) ∧ decode cX10_keepsTaps 1 = .ok (.istore_n 1, 1) ∧ decode cX10_keepsTaps 2 = .ok (.iload_n 1, 1) ∧ decode cX10_keepsTaps 3 = .ok (.bipush 120, 2) ∧ decode cX10_keepsTaps 5 = .ok (.if_icmp .ge 41, 3) ∧ decode cX10_keepsTaps 8 = .ok (.aload_n 0, 1) ∧ decode cX10_keepsTaps 9 = .ok (.getfield 119, 3) ∧ decode cX10_keepsTaps 12 = .ok (.iload_n 1, 1) ∧ decode cX10_keepsTaps 13 = .ok (.aload_n 0, 1) ∧ decode cX10_keepsTaps 14 = .ok (.aload_n 0, 1) ∧ decode cX10_keepsTaps 15 = .ok (.getfield 119, 3) ∧ decode cX10_keepsTaps 18 = .ok (.iload_n 1, 1) ∧ decode cX10_keepsTaps 19 = .ok (.iaload, 1) ∧ decode cX10_keepsTaps 20 = .ok (.invokevirtual 473, 3) ∧ decode cX10_keepsTaps 23 = .ok (.iastore, 1) ∧ decode cX10_keepsTaps 24 = .ok (.aload_n 0, 1) ∧ decode cX10_keepsTaps 25 = .ok (.getfield 122, 3) ∧ decode cX10_keepsTaps 28 = .ok (.iload_n 1, 1) ∧ decode cX10_keepsTaps 29 = .ok (.aload_n 0, 1) ∧ decode cX10_keepsTaps 30 = .ok (.aload_n 0, 1) ∧ decode cX10_keepsTaps 31 = .ok (.getfield 122, 3) ∧ decode cX10_keepsTaps 34 = .ok (.iload_n 1, 1) ∧ decode cX10_keepsTaps 35 = .ok (.iaload, 1) ∧ decode cX10_keepsTaps 36 = .ok (.invokevirtual 473, 3) ∧ decode cX10_keepsTaps 39 = .ok (.iastore, 1) ∧ decode cX10_keepsTaps 40 = .ok (.iinc 1 1, 3) ∧ decode cX10_keepsTaps 43 = .ok (.goto (-41), 3) ∧ decode cX10_keepsTaps 46 = .ok (.iconst 0, 1) ∧ decode cX10_keepsTaps 47 = .ok (.istore_n 1, 1) ∧ decode cX10_keepsTaps 48 = .ok (.iload_n 1, 1) ∧ True := dqC_ok (c := cX10_keepsTaps) [(0, 1, some (.iconst 0)), (1, 1, some (.istore_n 1)), (2, 1, some (.iload_n 1)), (3, 2, some (.bipush 120)), (5, 3, some (.if_icmp .ge 41)), (8, 1, some (.aload_n 0)), (9, 3, some (.getfield 119)), (12, 1, some (.iload_n 1)), (13, 1, some (.aload_n 0)), (14, 1, some (.aload_n 0)), (15, 3, some (.getfield 119)), (18, 1, some (.iload_n 1)), (19, 1, some (.iaload)), (20, 3, some (.invokevirtual 473)), (23, 1, some (.iastore)), (24, 1, some (.aload_n 0)), (25, 3, some (.getfield 122)), (28, 1, some (.iload_n 1)), (29, 1, some (.aload_n 0)), (30, 1, some (.aload_n 0)), (31, 3, some (.getfield 122)), (34, 1, some (.iload_n 1)), (35, 1, some (.iaload)), (36, 3, some (.invokevirtual 473)), (39, 1, some (.iastore)), (40, 3, some (.iinc 1 1)), (43, 3, some (.goto (-41))), (46, 1, some (.iconst 0)), (47, 1, some (.istore_n 1)), (48, 1, some (.iload_n 1))] _ 0 rfl (by decide +kernel)
theorem dX10_keepsTaps_0 : decode cX10_keepsTaps 0 = .ok (.iconst 0, 1) := dq_g496.1
theorem dX10_keepsTaps_1 : decode cX10_keepsTaps 1 = .ok (.istore_n 1, 1) := dq_g496.2.1
theorem dX10_keepsTaps_2 : decode cX10_keepsTaps 2 = .ok (.iload_n 1, 1) := dq_g496.2.2.1
theorem dX10_keepsTaps_3 : decode cX10_keepsTaps 3 = .ok (.bipush 120, 2) := dq_g496.2.2.2.1
theorem dX10_keepsTaps_5 : decode cX10_keepsTaps 5 = .ok (.if_icmp .ge 41, 3) := dq_g496.2.2.2.2.1
theorem dX10_keepsTaps_8 : decode cX10_keepsTaps 8 = .ok (.aload_n 0, 1) := dq_g496.2.2.2.2.2.1
theorem dX10_keepsTaps_9 : decode cX10_keepsTaps 9 = .ok (.getfield 119, 3) := dq_g496.2.2.2.2.2.2.1
theorem dX10_keepsTaps_12 : decode cX10_keepsTaps 12 = .ok (.iload_n 1, 1) := dq_g496.2.2.2.2.2.2.2.1
theorem dX10_keepsTaps_13 : decode cX10_keepsTaps 13 = .ok (.aload_n 0, 1) := dq_g496.2.2.2.2.2.2.2.2.1
theorem dX10_keepsTaps_14 : decode cX10_keepsTaps 14 = .ok (.aload_n 0, 1) := dq_g496.2.2.2.2.2.2.2.2.2.1
theorem dX10_keepsTaps_15 : decode cX10_keepsTaps 15 = .ok (.getfield 119, 3) := dq_g496.2.2.2.2.2.2.2.2.2.2.1
theorem dX10_keepsTaps_18 : decode cX10_keepsTaps 18 = .ok (.iload_n 1, 1) := dq_g496.2.2.2.2.2.2.2.2.2.2.2.1
theorem dX10_keepsTaps_19 : decode cX10_keepsTaps 19 = .ok (.iaload, 1) := dq_g496.2.2.2.2.2.2.2.2.2.2.2.2.1
theorem dX10_keepsTaps_20 : decode cX10_keepsTaps 20 = .ok (.invokevirtual 473, 3) := dq_g496.2.2.2.2.2.2.2.2.2.2.2.2.2.1
theorem dX10_keepsTaps_23 : decode cX10_keepsTaps 23 = .ok (.iastore, 1) := dq_g496.2.2.2.2.2.2.2.2.2.2.2.2.2.2.1
theorem dX10_keepsTaps_24 : decode cX10_keepsTaps 24 = .ok (.aload_n 0, 1) := dq_g496.2.2.2.2.2.2.2.2.2.2.2.2.2.2.2.1
theorem dX10_keepsTaps_25 : decode cX10_keepsTaps 25 = .ok (.getfield 122, 3) := dq_g496.2.2.2.2.2.2.2.2.2.2.2.2.2.2.2.2.1
theorem dX10_keepsTaps_28 : decode cX10_keepsTaps 28 = .ok (.iload_n 1, 1) := dq_g496.2.2.2.2.2.2.2.2.2.2.2.2.2.2.2.2.2.1
theorem dX10_keepsTaps_29 : decode cX10_keepsTaps 29 = .ok (.aload_n 0, 1) := dq_g496.2.2.2.2.2.2.2.2.2.2.2.2.2.2.2.2.2.2.1
theorem dX10_keepsTaps_30 : decode cX10_keepsTaps 30 = .ok (.aload_n 0, 1) := dq_g496.2.2.2.2.2.2.2.2.2.2.2.2.2.2.2.2.2.2.2.1
theorem dX10_keepsTaps_31 : decode cX10_keepsTaps 31 = .ok (.getfield 122, 3) := dq_g496.2.2.2.2.2.2.2.2.2.2.2.2.2.2.2.2.2.2.2.2.1
theorem dX10_keepsTaps_34 : decode cX10_keepsTaps 34 = .ok (.iload_n 1, 1) := dq_g496.2.2.2.2.2.2.2.2.2.2.2.2.2.2.2.2.2.2.2.2.2.1
theorem dX10_keepsTaps_35 : decode cX10_keepsTaps 35 = .ok (.iaload, 1) := dq_g496.2.2.2.2.2.2.2.2.2.2.2.2.2.2.2.2.2.2.2.2.2.2.1
theorem dX10_keepsTaps_36 : decode cX10_keepsTaps 36 = .ok (.invokevirtual 473, 3) := dq_g496.2.2.2.2.2.2.2.2.2.2.2.2.2.2.2.2.2.2.2.2.2.2.2.1
theorem dX10_keepsTaps_39 : decode cX10_keepsTaps 39 = .ok (.iastore, 1) := dq_g496.2.2.2.2.2.2.2.2.2.2.2.2.2.2.2.2.2.2.2.2.2.2.2.2.1
theorem dX10_keepsTaps_40 : decode cX10_keepsTaps 40 = .ok (.iinc 1 1, 3) := dq_g496.2.2.2.2.2.2.2.2.2.2.2.2.2.2.2.2.2.2.2.2.2.2.2.2.2.1
theorem dX10_keepsTaps_43 : decode cX10_keepsTaps 43 = .ok (.goto (-41), 3) := dq_g496.2.2.2.2.2.2.2.2.2.2.2.2.2.2.2.2.2.2.2.2.2.2.2.2.2.2.1
theorem dX10_keepsTaps_46 : decode cX10_keepsTaps 46 = .ok (.iconst 0, 1) := dq_g496.2.2.2.2.2.2.2.2.2.2.2.2.2.2.2.2.2.2.2.2.2.2.2.2.2.2.2.1
theorem dX10_keepsTaps_47 : decode cX10_keepsTaps 47 = .ok (.istore_n 1, 1) := dq_g496.2.2.2.2.2.2.2.2.2.2.2.2.2.2.2.2.2.2.2.2.2.2.2.2.2.2.2.2.1
theorem dX10_keepsTaps_48 : decode cX10_keepsTaps 48 = .ok (.iload_n 1, 1) := dq_g496.2.2.2.2.2.2.2.2.2.2.2.2.2.2.2.2.2.2.2.2.2.2.2.2.2.2.2.2.2.1
theorem dq_g497 : decode cX10_keepsTaps 49 = .ok (.sipush 1920, 3) ∧ decode cX10_keepsTaps 52 = .ok (.if_icmp .ge 41, 3) ∧ decode cX10_keepsTaps 55 = .ok (.aload_n 0, 1) ∧ decode cX10_keepsTaps 56 = .ok (.getfield 125, 3) ∧ decode cX10_keepsTaps 59 = .ok (.iload_n 1, 1) ∧ decode cX10_keepsTaps 60 = .ok (.aload_n 0, 1) ∧ decode cX10_keepsTaps 61 = .ok (.aload_n 0, 1) ∧ decode cX10_keepsTaps 62 = .ok (.getfield 125, 3) ∧ decode cX10_keepsTaps 65 = .ok (.iload_n 1, 1) ∧ decode cX10_keepsTaps 66 = .ok (.iaload, 1) ∧ decode cX10_keepsTaps 67 = .ok (.invokevirtual 473, 3) ∧ decode cX10_keepsTaps 70 = .ok (.iastore, 1) ∧ decode cX10_keepsTaps 71 = .ok (.aload_n 0, 1) ∧ decode cX10_keepsTaps 72 = .ok (.getfield 128, 3) ∧ decode cX10_keepsTaps 75 = .ok (.iload_n 1, 1) ∧ decode cX10_keepsTaps 76 = .ok (.aload_n 0, 1) ∧ decode cX10_keepsTaps 77 = .ok (.aload_n 0, 1) ∧ decode cX10_keepsTaps 78 = .ok (.getfield 128, 3) ∧ decode cX10_keepsTaps 81 = .ok (.iload_n 1, 1) ∧ decode cX10_keepsTaps 82 = .ok (.iaload, 1) ∧ decode cX10_keepsTaps 83 = .ok (.invokevirtual 473, 3) ∧ decode cX10_keepsTaps 86 = .ok (.iastore, 1) ∧ decode cX10_keepsTaps 87 = .ok (.iinc 1 1, 3) ∧ decode cX10_keepsTaps 90 = .ok (.goto (-42), 3) ∧ decode cX10_keepsTaps 93 = .ok (.iconst 0, 1) ∧ decode cX10_keepsTaps 94 = .ok (.istore_n 1, 1) ∧ decode cX10_keepsTaps 95 = .ok (.iload_n 1, 1) ∧ decode cX10_keepsTaps 96 = .ok (.bipush 8, 2) ∧ decode cX10_keepsTaps 98 = .ok (.if_icmp .ge 73, 3) ∧ decode cX10_keepsTaps 101 = .ok (.aload_n 0, 1) ∧ True := dqC_ok (c := cX10_keepsTaps) [(49, 3, some (.sipush 1920)), (52, 3, some (.if_icmp .ge 41)), (55, 1, some (.aload_n 0)), (56, 3, some (.getfield 125)), (59, 1, some (.iload_n 1)), (60, 1, some (.aload_n 0)), (61, 1, some (.aload_n 0)), (62, 3, some (.getfield 125)), (65, 1, some (.iload_n 1)), (66, 1, some (.iaload)), (67, 3, some (.invokevirtual 473)), (70, 1, some (.iastore)), (71, 1, some (.aload_n 0)), (72, 3, some (.getfield 128)), (75, 1, some (.iload_n 1)), (76, 1, some (.aload_n 0)), (77, 1, some (.aload_n 0)), (78, 3, some (.getfield 128)), (81, 1, some (.iload_n 1)), (82, 1, some (.iaload)), (83, 3, some (.invokevirtual 473)), (86, 1, some (.iastore)), (87, 3, some (.iinc 1 1)), (90, 3, some (.goto (-42))), (93, 1, some (.iconst 0)), (94, 1, some (.istore_n 1)), (95, 1, some (.iload_n 1)), (96, 2, some (.bipush 8)), (98, 3, some (.if_icmp .ge 73)), (101, 1, some (.aload_n 0))] _ 49 rfl (by decide +kernel)
theorem dX10_keepsTaps_49 : decode cX10_keepsTaps 49 = .ok (.sipush 1920, 3) := dq_g497.1
theorem dX10_keepsTaps_52 : decode cX10_keepsTaps 52 = .ok (.if_icmp .ge 41, 3) := dq_g497.2.1
theorem dX10_keepsTaps_55 : decode cX10_keepsTaps 55 = .ok (.aload_n 0, 1) := dq_g497.2.2.1
theorem dX10_keepsTaps_56 : decode cX10_keepsTaps 56 = .ok (.getfield 125, 3) := dq_g497.2.2.2.1
theorem dX10_keepsTaps_59 : decode cX10_keepsTaps 59 = .ok (.iload_n 1, 1) := dq_g497.2.2.2.2.1
theorem dX10_keepsTaps_60 : decode cX10_keepsTaps 60 = .ok (.aload_n 0, 1) := dq_g497.2.2.2.2.2.1
theorem dX10_keepsTaps_61 : decode cX10_keepsTaps 61 = .ok (.aload_n 0, 1) := dq_g497.2.2.2.2.2.2.1
theorem dX10_keepsTaps_62 : decode cX10_keepsTaps 62 = .ok (.getfield 125, 3) := dq_g497.2.2.2.2.2.2.2.1
theorem dX10_keepsTaps_65 : decode cX10_keepsTaps 65 = .ok (.iload_n 1, 1) := dq_g497.2.2.2.2.2.2.2.2.1
theorem dX10_keepsTaps_66 : decode cX10_keepsTaps 66 = .ok (.iaload, 1) := dq_g497.2.2.2.2.2.2.2.2.2.1
theorem dX10_keepsTaps_67 : decode cX10_keepsTaps 67 = .ok (.invokevirtual 473, 3) := dq_g497.2.2.2.2.2.2.2.2.2.2.1
theorem dX10_keepsTaps_70 : decode cX10_keepsTaps 70 = .ok (.iastore, 1) := dq_g497.2.2.2.2.2.2.2.2.2.2.2.1
theorem dX10_keepsTaps_71 : decode cX10_keepsTaps 71 = .ok (.aload_n 0, 1) := dq_g497.2.2.2.2.2.2.2.2.2.2.2.2.1
theorem dX10_keepsTaps_72 : decode cX10_keepsTaps 72 = .ok (.getfield 128, 3) := dq_g497.2.2.2.2.2.2.2.2.2.2.2.2.2.1
theorem dX10_keepsTaps_75 : decode cX10_keepsTaps 75 = .ok (.iload_n 1, 1) := dq_g497.2.2.2.2.2.2.2.2.2.2.2.2.2.2.1
theorem dX10_keepsTaps_76 : decode cX10_keepsTaps 76 = .ok (.aload_n 0, 1) := dq_g497.2.2.2.2.2.2.2.2.2.2.2.2.2.2.2.1
theorem dX10_keepsTaps_77 : decode cX10_keepsTaps 77 = .ok (.aload_n 0, 1) := dq_g497.2.2.2.2.2.2.2.2.2.2.2.2.2.2.2.2.1
theorem dX10_keepsTaps_78 : decode cX10_keepsTaps 78 = .ok (.getfield 128, 3) := dq_g497.2.2.2.2.2.2.2.2.2.2.2.2.2.2.2.2.2.1
theorem dX10_keepsTaps_81 : decode cX10_keepsTaps 81 = .ok (.iload_n 1, 1) := dq_g497.2.2.2.2.2.2.2.2.2.2.2.2.2.2.2.2.2.2.1
theorem dX10_keepsTaps_82 : decode cX10_keepsTaps 82 = .ok (.iaload, 1) := dq_g497.2.2.2.2.2.2.2.2.2.2.2.2.2.2.2.2.2.2.2.1
theorem dX10_keepsTaps_83 : decode cX10_keepsTaps 83 = .ok (.invokevirtual 473, 3) := dq_g497.2.2.2.2.2.2.2.2.2.2.2.2.2.2.2.2.2.2.2.2.1
theorem dX10_keepsTaps_86 : decode cX10_keepsTaps 86 = .ok (.iastore, 1) := dq_g497.2.2.2.2.2.2.2.2.2.2.2.2.2.2.2.2.2.2.2.2.2.1
theorem dX10_keepsTaps_87 : decode cX10_keepsTaps 87 = .ok (.iinc 1 1, 3) := dq_g497.2.2.2.2.2.2.2.2.2.2.2.2.2.2.2.2.2.2.2.2.2.2.1
theorem dX10_keepsTaps_90 : decode cX10_keepsTaps 90 = .ok (.goto (-42), 3) := dq_g497.2.2.2.2.2.2.2.2.2.2.2.2.2.2.2.2.2.2.2.2.2.2.2.1
theorem dX10_keepsTaps_93 : decode cX10_keepsTaps 93 = .ok (.iconst 0, 1) := dq_g497.2.2.2.2.2.2.2.2.2.2.2.2.2.2.2.2.2.2.2.2.2.2.2.2.1
theorem dX10_keepsTaps_94 : decode cX10_keepsTaps 94 = .ok (.istore_n 1, 1) := dq_g497.2.2.2.2.2.2.2.2.2.2.2.2.2.2.2.2.2.2.2.2.2.2.2.2.2.1
theorem dX10_keepsTaps_95 : decode cX10_keepsTaps 95 = .ok (.iload_n 1, 1) := dq_g497.2.2.2.2.2.2.2.2.2.2.2.2.2.2.2.2.2.2.2.2.2.2.2.2.2.2.1
theorem dX10_keepsTaps_96 : decode cX10_keepsTaps 96 = .ok (.bipush 8, 2) := dq_g497.2.2.2.2.2.2.2.2.2.2.2.2.2.2.2.2.2.2.2.2.2.2.2.2.2.2.2.1
theorem dX10_keepsTaps_98 : decode cX10_keepsTaps 98 = .ok (.if_icmp .ge 73, 3) := dq_g497.2.2.2.2.2.2.2.2.2.2.2.2.2.2.2.2.2.2.2.2.2.2.2.2.2.2.2.2.1
theorem dX10_keepsTaps_101 : decode cX10_keepsTaps 101 = .ok (.aload_n 0, 1) := dq_g497.2.2.2.2.2.2.2.2.2.2.2.2.2.2.2.2.2.2.2.2.2.2.2.2.2.2.2.2.2.1
theorem dq_g498 : decode cX10_keepsTaps 102 = .ok (.getfield 146, 3) ∧ decode cX10_keepsTaps 105 = .ok (.iload_n 1, 1) ∧ decode cX10_keepsTaps 106 = .ok (.aload_n 0, 1) ∧ decode cX10_keepsTaps 107 = .ok (.aload_n 0, 1) ∧ decode cX10_keepsTaps 108 = .ok (.getfield 146, 3) ∧ decode cX10_keepsTaps 111 = .ok (.iload_n 1, 1) ∧ decode cX10_keepsTaps 112 = .ok (.iaload, 1) ∧ decode cX10_keepsTaps 113 = .ok (.invokevirtual 473, 3) ∧ decode cX10_keepsTaps 116 = .ok (.iastore, 1) ∧ decode cX10_keepsTaps 117 = .ok (.aload_n 0, 1) ∧ decode cX10_keepsTaps 118 = .ok (.getfield 149, 3) ∧ decode cX10_keepsTaps 121 = .ok (.iload_n 1, 1) ∧ decode cX10_keepsTaps 122 = .ok (.aload_n 0, 1) ∧ decode cX10_keepsTaps 123 = .ok (.aload_n 0, 1) ∧ decode cX10_keepsTaps 124 = .ok (.getfield 149, 3) ∧ decode cX10_keepsTaps 127 = .ok (.iload_n 1, 1) ∧ decode cX10_keepsTaps 128 = .ok (.iaload, 1) ∧ decode cX10_keepsTaps 129 = .ok (.invokevirtual 473, 3) ∧ decode cX10_keepsTaps 132 = .ok (.iastore, 1) ∧ decode cX10_keepsTaps 133 = .ok (.aload_n 0, 1) ∧ decode cX10_keepsTaps 134 = .ok (.getfield 152, 3) ∧ decode cX10_keepsTaps 137 = .ok (.iload_n 1, 1) ∧ decode cX10_keepsTaps 138 = .ok (.aload_n 0, 1) ∧ decode cX10_keepsTaps 139 = .ok (.aload_n 0, 1) ∧ decode cX10_keepsTaps 140 = .ok (.getfield 152, 3) ∧ decode cX10_keepsTaps 143 = .ok (.iload_n 1, 1) ∧ decode cX10_keepsTaps 144 = .ok (.iaload, 1) ∧ decode cX10_keepsTaps 145 = .ok (.invokevirtual 473, 3) ∧ decode cX10_keepsTaps 148 = .ok (.iastore, 1) ∧ decode cX10_keepsTaps 149 = .ok (.aload_n 0, 1) ∧ True := dqC_ok (c := cX10_keepsTaps) [(102, 3, some (.getfield 146)), (105, 1, some (.iload_n 1)), (106, 1, some (.aload_n 0)), (107, 1, some (.aload_n 0)), (108, 3, some (.getfield 146)), (111, 1, some (.iload_n 1)), (112, 1, some (.iaload)), (113, 3, some (.invokevirtual 473)), (116, 1, some (.iastore)), (117, 1, some (.aload_n 0)), (118, 3, some (.getfield 149)), (121, 1, some (.iload_n 1)), (122, 1, some (.aload_n 0)), (123, 1, some (.aload_n 0)), (124, 3, some (.getfield 149)), (127, 1, some (.iload_n 1)), (128, 1, some (.iaload)), (129, 3, some (.invokevirtual 473)), (132, 1, some (.iastore)), (133, 1, some (.aload_n 0)), (134, 3, some (.getfield 152)), (137, 1, some (.iload_n 1)), (138, 1, some (.aload_n 0)), (139, 1, some (.aload_n 0)), (140, 3, some (.getfield 152)), (143, 1, some (.iload_n 1)), (144, 1, some (.iaload)), (145, 3, some (.invokevirtual 473)), (148, 1, some (.iastore)), (149, 1, some (.aload_n 0))] _ 102 rfl (by decide +kernel)
theorem dX10_keepsTaps_102 : decode cX10_keepsTaps 102 = .ok (.getfield 146, 3) := dq_g498.1
theorem dX10_keepsTaps_105 : decode cX10_keepsTaps 105 = .ok (.iload_n 1, 1) := dq_g498.2.1
theorem dX10_keepsTaps_106 : decode cX10_keepsTaps 106 = .ok (.aload_n 0, 1) := dq_g498.2.2.1
theorem dX10_keepsTaps_107 : decode cX10_keepsTaps 107 = .ok (.aload_n 0, 1) := dq_g498.2.2.2.1
theorem dX10_keepsTaps_108 : decode cX10_keepsTaps 108 = .ok (.getfield 146, 3) := dq_g498.2.2.2.2.1
theorem dX10_keepsTaps_111 : decode cX10_keepsTaps 111 = .ok (.iload_n 1, 1) := dq_g498.2.2.2.2.2.1
theorem dX10_keepsTaps_112 : decode cX10_keepsTaps 112 = .ok (.iaload, 1) := dq_g498.2.2.2.2.2.2.1
theorem dX10_keepsTaps_113 : decode cX10_keepsTaps 113 = .ok (.invokevirtual 473, 3) := dq_g498.2.2.2.2.2.2.2.1
theorem dX10_keepsTaps_116 : decode cX10_keepsTaps 116 = .ok (.iastore, 1) := dq_g498.2.2.2.2.2.2.2.2.1
theorem dX10_keepsTaps_117 : decode cX10_keepsTaps 117 = .ok (.aload_n 0, 1) := dq_g498.2.2.2.2.2.2.2.2.2.1
theorem dX10_keepsTaps_118 : decode cX10_keepsTaps 118 = .ok (.getfield 149, 3) := dq_g498.2.2.2.2.2.2.2.2.2.2.1
theorem dX10_keepsTaps_121 : decode cX10_keepsTaps 121 = .ok (.iload_n 1, 1) := dq_g498.2.2.2.2.2.2.2.2.2.2.2.1
theorem dX10_keepsTaps_122 : decode cX10_keepsTaps 122 = .ok (.aload_n 0, 1) := dq_g498.2.2.2.2.2.2.2.2.2.2.2.2.1
theorem dX10_keepsTaps_123 : decode cX10_keepsTaps 123 = .ok (.aload_n 0, 1) := dq_g498.2.2.2.2.2.2.2.2.2.2.2.2.2.1
theorem dX10_keepsTaps_124 : decode cX10_keepsTaps 124 = .ok (.getfield 149, 3) := dq_g498.2.2.2.2.2.2.2.2.2.2.2.2.2.2.1
theorem dX10_keepsTaps_127 : decode cX10_keepsTaps 127 = .ok (.iload_n 1, 1) := dq_g498.2.2.2.2.2.2.2.2.2.2.2.2.2.2.2.1
theorem dX10_keepsTaps_128 : decode cX10_keepsTaps 128 = .ok (.iaload, 1) := dq_g498.2.2.2.2.2.2.2.2.2.2.2.2.2.2.2.2.1
theorem dX10_keepsTaps_129 : decode cX10_keepsTaps 129 = .ok (.invokevirtual 473, 3) := dq_g498.2.2.2.2.2.2.2.2.2.2.2.2.2.2.2.2.2.1
theorem dX10_keepsTaps_132 : decode cX10_keepsTaps 132 = .ok (.iastore, 1) := dq_g498.2.2.2.2.2.2.2.2.2.2.2.2.2.2.2.2.2.2.1
theorem dX10_keepsTaps_133 : decode cX10_keepsTaps 133 = .ok (.aload_n 0, 1) := dq_g498.2.2.2.2.2.2.2.2.2.2.2.2.2.2.2.2.2.2.2.1
theorem dX10_keepsTaps_134 : decode cX10_keepsTaps 134 = .ok (.getfield 152, 3) := dq_g498.2.2.2.2.2.2.2.2.2.2.2.2.2.2.2.2.2.2.2.2.1
theorem dX10_keepsTaps_137 : decode cX10_keepsTaps 137 = .ok (.iload_n 1, 1) := dq_g498.2.2.2.2.2.2.2.2.2.2.2.2.2.2.2.2.2.2.2.2.2.1
theorem dX10_keepsTaps_138 : decode cX10_keepsTaps 138 = .ok (.aload_n 0, 1) := dq_g498.2.2.2.2.2.2.2.2.2.2.2.2.2.2.2.2.2.2.2.2.2.2.1
theorem dX10_keepsTaps_139 : decode cX10_keepsTaps 139 = .ok (.aload_n 0, 1) := dq_g498.2.2.2.2.2.2.2.2.2.2.2.2.2.2.2.2.2.2.2.2.2.2.2.1
theorem dX10_keepsTaps_140 : decode cX10_keepsTaps 140 = .ok (.getfield 152, 3) := dq_g498.2.2.2.2.2.2.2.2.2.2.2.2.2.2.2.2.2.2.2.2.2.2.2.2.1
theorem dX10_keepsTaps_143 : decode cX10_keepsTaps 143 = .ok (.iload_n 1, 1) := dq_g498.2.2.2.2.2.2.2.2.2.2.2.2.2.2.2.2.2.2.2.2.2.2.2.2.2.1
theorem dX10_keepsTaps_144 : decode cX10_keepsTaps 144 = .ok (.iaload, 1) := dq_g498.2.2.2.2.2.2.2.2.2.2.2.2.2.2.2.2.2.2.2.2.2.2.2.2.2.2.1
theorem dX10_keepsTaps_145 : decode cX10_keepsTaps 145 = .ok (.invokevirtual 473, 3) := dq_g498.2.2.2.2.2.2.2.2.2.2.2.2.2.2.2.2.2.2.2.2.2.2.2.2.2.2.2.1
theorem dX10_keepsTaps_148 : decode cX10_keepsTaps 148 = .ok (.iastore, 1) := dq_g498.2.2.2.2.2.2.2.2.2.2.2.2.2.2.2.2.2.2.2.2.2.2.2.2.2.2.2.2.1
theorem dX10_keepsTaps_149 : decode cX10_keepsTaps 149 = .ok (.aload_n 0, 1) := dq_g498.2.2.2.2.2.2.2.2.2.2.2.2.2.2.2.2.2.2.2.2.2.2.2.2.2.2.2.2.2.1
theorem dq_g499 : decode cX10_keepsTaps 150 = .ok (.getfield 155, 3) ∧ decode cX10_keepsTaps 153 = .ok (.iload_n 1, 1) ∧ decode cX10_keepsTaps 154 = .ok (.aload_n 0, 1) ∧ decode cX10_keepsTaps 155 = .ok (.aload_n 0, 1) ∧ decode cX10_keepsTaps 156 = .ok (.getfield 155, 3) ∧ decode cX10_keepsTaps 159 = .ok (.iload_n 1, 1) ∧ decode cX10_keepsTaps 160 = .ok (.iaload, 1) ∧ decode cX10_keepsTaps 161 = .ok (.invokevirtual 473, 3) ∧ decode cX10_keepsTaps 164 = .ok (.iastore, 1) ∧ decode cX10_keepsTaps 165 = .ok (.iinc 1 1, 3) ∧ decode cX10_keepsTaps 168 = .ok (.goto (-73), 3) ∧ decode cX10_keepsTaps 171 = .ok (.return_, 1) ∧ True := dqC_ok (c := cX10_keepsTaps) [(150, 3, some (.getfield 155)), (153, 1, some (.iload_n 1)), (154, 1, some (.aload_n 0)), (155, 1, some (.aload_n 0)), (156, 3, some (.getfield 155)), (159, 1, some (.iload_n 1)), (160, 1, some (.iaload)), (161, 3, some (.invokevirtual 473)), (164, 1, some (.iastore)), (165, 3, some (.iinc 1 1)), (168, 3, some (.goto (-73))), (171, 1, some (.return_))] _ 150 rfl (by decide +kernel)
theorem dX10_keepsTaps_150 : decode cX10_keepsTaps 150 = .ok (.getfield 155, 3) := dq_g499.1
theorem dX10_keepsTaps_153 : decode cX10_keepsTaps 153 = .ok (.iload_n 1, 1) := dq_g499.2.1
theorem dX10_keepsTaps_154 : decode cX10_keepsTaps 154 = .ok (.aload_n 0, 1) := dq_g499.2.2.1
theorem dX10_keepsTaps_155 : decode cX10_keepsTaps 155 = .ok (.aload_n 0, 1) := dq_g499.2.2.2.1
theorem dX10_keepsTaps_156 : decode cX10_keepsTaps 156 = .ok (.getfield 155, 3) := dq_g499.2.2.2.2.1
theorem dX10_keepsTaps_159 : decode cX10_keepsTaps 159 = .ok (.iload_n 1, 1) := dq_g499.2.2.2.2.2.1
theorem dX10_keepsTaps_160 : decode cX10_keepsTaps 160 = .ok (.iaload, 1) := dq_g499.2.2.2.2.2.2.1
theorem dX10_keepsTaps_161 : decode cX10_keepsTaps 161 = .ok (.invokevirtual 473, 3) := dq_g499.2.2.2.2.2.2.2.1
theorem dX10_keepsTaps_164 : decode cX10_keepsTaps 164 = .ok (.iastore, 1) := dq_g499.2.2.2.2.2.2.2.2.1
theorem dX10_keepsTaps_165 : decode cX10_keepsTaps 165 = .ok (.iinc 1 1, 3) := dq_g499.2.2.2.2.2.2.2.2.2.1
theorem dX10_keepsTaps_168 : decode cX10_keepsTaps 168 = .ok (.goto (-73), 3) := dq_g499.2.2.2.2.2.2.2.2.2.2.1
theorem dX10_keepsTaps_171 : decode cX10_keepsTaps 171 = .ok (.return_, 1) := dq_g499.2.2.2.2.2.2.2.2.2.2.2.1
theorem dq_g500 : decode cX10_keepsTexts 0 = .ok (.iconst 0, 1) ∧ decode cX10_keepsTexts 1 = .ok (.istore_n 1, 1) ∧ decode cX10_keepsTexts 2 = .ok (.iload_n 1, 1) ∧ decode cX10_keepsTexts 3 = .ok (.bipush 6, 2) ∧ decode cX10_keepsTexts 5 = .ok (.if_icmp .ge 25, 3) ∧ decode cX10_keepsTexts 8 = .ok (.aload_n 0, 1) ∧ decode cX10_keepsTexts 9 = .ok (.getfield 59, 3) ∧ decode cX10_keepsTexts 12 = .ok (.iload_n 1, 1) ∧ decode cX10_keepsTexts 13 = .ok (.aload_n 0, 1) ∧ decode cX10_keepsTexts 14 = .ok (.aload_n 0, 1) ∧ decode cX10_keepsTexts 15 = .ok (.getfield 59, 3) ∧ decode cX10_keepsTexts 18 = .ok (.iload_n 1, 1) ∧ decode cX10_keepsTexts 19 = .ok (.iaload, 1) ∧ decode cX10_keepsTexts 20 = .ok (.invokevirtual 473, 3) ∧ decode cX10_keepsTexts 23 = .ok (.iastore, 1) ∧ decode cX10_keepsTexts 24 = .ok (.iinc 1 1, 3) ∧ decode cX10_keepsTexts 27 = .ok (.goto (-25), 3) ∧ decode cX10_keepsTexts 30 = .ok (.iconst 0, 1) ∧ decode cX10_keepsTexts 31 = .ok (.istore_n 1, 1) ∧ decode cX10_keepsTexts 32 = .ok (.iload_n 1, 1) ∧ decode cX10_keepsTexts 33 = .ok (.bipush 96, 2) ∧ decode cX10_keepsTexts 35 = .ok (.if_icmp .ge 121, 3) ∧ decode cX10_keepsTexts 38 = .ok (.aload_n 0, 1) ∧ decode cX10_keepsTexts 39 = .ok (.getfield 62, 3) ∧ decode cX10_keepsTexts 42 = .ok (.iload_n 1, 1) ∧ decode cX10_keepsTexts 43 = .ok (.aload_n 0, 1) ∧ decode cX10_keepsTexts 44 = .ok (.aload_n 0, 1) ∧ decode cX10_keepsTexts 45 = .ok (.getfield 62, 3) ∧ decode cX10_keepsTexts 48 = .ok (.iload_n 1, 1) ∧ decode cX10_keepsTexts 49 = .ok (.iaload, 1) ∧ True := dqC_ok (c := cX10_keepsTexts) [(0, 1, some (.iconst 0)), (1, 1, some (.istore_n 1)), (2, 1, some (.iload_n 1)), (3, 2, some (.bipush 6)), (5, 3, some (.if_icmp .ge 25)), (8, 1, some (.aload_n 0)), (9, 3, some (.getfield 59)), (12, 1, some (.iload_n 1)), (13, 1, some (.aload_n 0)), (14, 1, some (.aload_n 0)), (15, 3, some (.getfield 59)), (18, 1, some (.iload_n 1)), (19, 1, some (.iaload)), (20, 3, some (.invokevirtual 473)), (23, 1, some (.iastore)), (24, 3, some (.iinc 1 1)), (27, 3, some (.goto (-25))), (30, 1, some (.iconst 0)), (31, 1, some (.istore_n 1)), (32, 1, some (.iload_n 1)), (33, 2, some (.bipush 96)), (35, 3, some (.if_icmp .ge 121)), (38, 1, some (.aload_n 0)), (39, 3, some (.getfield 62)), (42, 1, some (.iload_n 1)), (43, 1, some (.aload_n 0)), (44, 1, some (.aload_n 0)), (45, 3, some (.getfield 62)), (48, 1, some (.iload_n 1)), (49, 1, some (.iaload))] _ 0 rfl (by decide +kernel)
theorem dX10_keepsTexts_0 : decode cX10_keepsTexts 0 = .ok (.iconst 0, 1) := dq_g500.1
theorem dX10_keepsTexts_1 : decode cX10_keepsTexts 1 = .ok (.istore_n 1, 1) := dq_g500.2.1
theorem dX10_keepsTexts_2 : decode cX10_keepsTexts 2 = .ok (.iload_n 1, 1) := dq_g500.2.2.1
theorem dX10_keepsTexts_3 : decode cX10_keepsTexts 3 = .ok (.bipush 6, 2) := dq_g500.2.2.2.1
theorem dX10_keepsTexts_5 : decode cX10_keepsTexts 5 = .ok (.if_icmp .ge 25, 3) := dq_g500.2.2.2.2.1
theorem dX10_keepsTexts_8 : decode cX10_keepsTexts 8 = .ok (.aload_n 0, 1) := dq_g500.2.2.2.2.2.1
theorem dX10_keepsTexts_9 : decode cX10_keepsTexts 9 = .ok (.getfield 59, 3) := dq_g500.2.2.2.2.2.2.1
theorem dX10_keepsTexts_12 : decode cX10_keepsTexts 12 = .ok (.iload_n 1, 1) := dq_g500.2.2.2.2.2.2.2.1
theorem dX10_keepsTexts_13 : decode cX10_keepsTexts 13 = .ok (.aload_n 0, 1) := dq_g500.2.2.2.2.2.2.2.2.1
theorem dX10_keepsTexts_14 : decode cX10_keepsTexts 14 = .ok (.aload_n 0, 1) := dq_g500.2.2.2.2.2.2.2.2.2.1
theorem dX10_keepsTexts_15 : decode cX10_keepsTexts 15 = .ok (.getfield 59, 3) := dq_g500.2.2.2.2.2.2.2.2.2.2.1
theorem dX10_keepsTexts_18 : decode cX10_keepsTexts 18 = .ok (.iload_n 1, 1) := dq_g500.2.2.2.2.2.2.2.2.2.2.2.1
theorem dX10_keepsTexts_19 : decode cX10_keepsTexts 19 = .ok (.iaload, 1) := dq_g500.2.2.2.2.2.2.2.2.2.2.2.2.1
theorem dX10_keepsTexts_20 : decode cX10_keepsTexts 20 = .ok (.invokevirtual 473, 3) := dq_g500.2.2.2.2.2.2.2.2.2.2.2.2.2.1
theorem dX10_keepsTexts_23 : decode cX10_keepsTexts 23 = .ok (.iastore, 1) := dq_g500.2.2.2.2.2.2.2.2.2.2.2.2.2.2.1
theorem dX10_keepsTexts_24 : decode cX10_keepsTexts 24 = .ok (.iinc 1 1, 3) := dq_g500.2.2.2.2.2.2.2.2.2.2.2.2.2.2.2.1
theorem dX10_keepsTexts_27 : decode cX10_keepsTexts 27 = .ok (.goto (-25), 3) := dq_g500.2.2.2.2.2.2.2.2.2.2.2.2.2.2.2.2.1
theorem dX10_keepsTexts_30 : decode cX10_keepsTexts 30 = .ok (.iconst 0, 1) := dq_g500.2.2.2.2.2.2.2.2.2.2.2.2.2.2.2.2.2.1
theorem dX10_keepsTexts_31 : decode cX10_keepsTexts 31 = .ok (.istore_n 1, 1) := dq_g500.2.2.2.2.2.2.2.2.2.2.2.2.2.2.2.2.2.2.1
theorem dX10_keepsTexts_32 : decode cX10_keepsTexts 32 = .ok (.iload_n 1, 1) := dq_g500.2.2.2.2.2.2.2.2.2.2.2.2.2.2.2.2.2.2.2.1
theorem dX10_keepsTexts_33 : decode cX10_keepsTexts 33 = .ok (.bipush 96, 2) := dq_g500.2.2.2.2.2.2.2.2.2.2.2.2.2.2.2.2.2.2.2.2.1
theorem dX10_keepsTexts_35 : decode cX10_keepsTexts 35 = .ok (.if_icmp .ge 121, 3) := dq_g500.2.2.2.2.2.2.2.2.2.2.2.2.2.2.2.2.2.2.2.2.2.1
theorem dX10_keepsTexts_38 : decode cX10_keepsTexts 38 = .ok (.aload_n 0, 1) := dq_g500.2.2.2.2.2.2.2.2.2.2.2.2.2.2.2.2.2.2.2.2.2.2.1
theorem dX10_keepsTexts_39 : decode cX10_keepsTexts 39 = .ok (.getfield 62, 3) := dq_g500.2.2.2.2.2.2.2.2.2.2.2.2.2.2.2.2.2.2.2.2.2.2.2.1
theorem dX10_keepsTexts_42 : decode cX10_keepsTexts 42 = .ok (.iload_n 1, 1) := dq_g500.2.2.2.2.2.2.2.2.2.2.2.2.2.2.2.2.2.2.2.2.2.2.2.2.1
theorem dX10_keepsTexts_43 : decode cX10_keepsTexts 43 = .ok (.aload_n 0, 1) := dq_g500.2.2.2.2.2.2.2.2.2.2.2.2.2.2.2.2.2.2.2.2.2.2.2.2.2.1
theorem dX10_keepsTexts_44 : decode cX10_keepsTexts 44 = .ok (.aload_n 0, 1) := dq_g500.2.2.2.2.2.2.2.2.2.2.2.2.2.2.2.2.2.2.2.2.2.2.2.2.2.2.1
theorem dX10_keepsTexts_45 : decode cX10_keepsTexts 45 = .ok (.getfield 62, 3) := dq_g500.2.2.2.2.2.2.2.2.2.2.2.2.2.2.2.2.2.2.2.2.2.2.2.2.2.2.2.1
theorem dX10_keepsTexts_48 : decode cX10_keepsTexts 48 = .ok (.iload_n 1, 1) := dq_g500.2.2.2.2.2.2.2.2.2.2.2.2.2.2.2.2.2.2.2.2.2.2.2.2.2.2.2.2.1
theorem dX10_keepsTexts_49 : decode cX10_keepsTexts 49 = .ok (.iaload, 1) := dq_g500.2.2.2.2.2.2.2.2.2.2.2.2.2.2.2.2.2.2.2.2.2.2.2.2.2.2.2.2.2.1
theorem dq_g501 : decode cX10_keepsTexts 50 = .ok (.invokevirtual 473, 3) ∧ decode cX10_keepsTexts 53 = .ok (.iastore, 1) ∧ decode cX10_keepsTexts 54 = .ok (.aload_n 0, 1) ∧ decode cX10_keepsTexts 55 = .ok (.getfield 65, 3) ∧ decode cX10_keepsTexts 58 = .ok (.iload_n 1, 1) ∧ decode cX10_keepsTexts 59 = .ok (.aload_n 0, 1) ∧ decode cX10_keepsTexts 60 = .ok (.aload_n 0, 1) ∧ decode cX10_keepsTexts 61 = .ok (.getfield 65, 3) ∧ decode cX10_keepsTexts 64 = .ok (.iload_n 1, 1) ∧ decode cX10_keepsTexts 65 = .ok (.iaload, 1) ∧ decode cX10_keepsTexts 66 = .ok (.invokevirtual 473, 3) ∧ decode cX10_keepsTexts 69 = .ok (.iastore, 1) ∧ decode cX10_keepsTexts 70 = .ok (.aload_n 0, 1) ∧ decode cX10_keepsTexts 71 = .ok (.getfield 68, 3) ∧ decode cX10_keepsTexts 74 = .ok (.iload_n 1, 1) ∧ decode cX10_keepsTexts 75 = .ok (.aload_n 0, 1) ∧ decode cX10_keepsTexts 76 = .ok (.aload_n 0, 1) ∧ decode cX10_keepsTexts 77 = .ok (.getfield 68, 3) ∧ decode cX10_keepsTexts 80 = .ok (.iload_n 1, 1) ∧ decode cX10_keepsTexts 81 = .ok (.iaload, 1) ∧ decode cX10_keepsTexts 82 = .ok (.invokevirtual 473, 3) ∧ decode cX10_keepsTexts 85 = .ok (.iastore, 1) ∧ decode cX10_keepsTexts 86 = .ok (.aload_n 0, 1) ∧ decode cX10_keepsTexts 87 = .ok (.getfield 71, 3) ∧ decode cX10_keepsTexts 90 = .ok (.iload_n 1, 1) ∧ decode cX10_keepsTexts 91 = .ok (.aload_n 0, 1) ∧ decode cX10_keepsTexts 92 = .ok (.aload_n 0, 1) ∧ decode cX10_keepsTexts 93 = .ok (.getfield 71, 3) ∧ decode cX10_keepsTexts 96 = .ok (.iload_n 1, 1) ∧ decode cX10_keepsTexts 97 = .ok (.iaload, 1) ∧ True := dqC_ok (c := cX10_keepsTexts) [(50, 3, some (.invokevirtual 473)), (53, 1, some (.iastore)), (54, 1, some (.aload_n 0)), (55, 3, some (.getfield 65)), (58, 1, some (.iload_n 1)), (59, 1, some (.aload_n 0)), (60, 1, some (.aload_n 0)), (61, 3, some (.getfield 65)), (64, 1, some (.iload_n 1)), (65, 1, some (.iaload)), (66, 3, some (.invokevirtual 473)), (69, 1, some (.iastore)), (70, 1, some (.aload_n 0)), (71, 3, some (.getfield 68)), (74, 1, some (.iload_n 1)), (75, 1, some (.aload_n 0)), (76, 1, some (.aload_n 0)), (77, 3, some (.getfield 68)), (80, 1, some (.iload_n 1)), (81, 1, some (.iaload)), (82, 3, some (.invokevirtual 473)), (85, 1, some (.iastore)), (86, 1, some (.aload_n 0)), (87, 3, some (.getfield 71)), (90, 1, some (.iload_n 1)), (91, 1, some (.aload_n 0)), (92, 1, some (.aload_n 0)), (93, 3, some (.getfield 71)), (96, 1, some (.iload_n 1)), (97, 1, some (.iaload))] _ 50 rfl (by decide +kernel)
theorem dX10_keepsTexts_50 : decode cX10_keepsTexts 50 = .ok (.invokevirtual 473, 3) := dq_g501.1
theorem dX10_keepsTexts_53 : decode cX10_keepsTexts 53 = .ok (.iastore, 1) := dq_g501.2.1
theorem dX10_keepsTexts_54 : decode cX10_keepsTexts 54 = .ok (.aload_n 0, 1) := dq_g501.2.2.1
theorem dX10_keepsTexts_55 : decode cX10_keepsTexts 55 = .ok (.getfield 65, 3) := dq_g501.2.2.2.1
theorem dX10_keepsTexts_58 : decode cX10_keepsTexts 58 = .ok (.iload_n 1, 1) := dq_g501.2.2.2.2.1
theorem dX10_keepsTexts_59 : decode cX10_keepsTexts 59 = .ok (.aload_n 0, 1) := dq_g501.2.2.2.2.2.1
theorem dX10_keepsTexts_60 : decode cX10_keepsTexts 60 = .ok (.aload_n 0, 1) := dq_g501.2.2.2.2.2.2.1
theorem dX10_keepsTexts_61 : decode cX10_keepsTexts 61 = .ok (.getfield 65, 3) := dq_g501.2.2.2.2.2.2.2.1
theorem dX10_keepsTexts_64 : decode cX10_keepsTexts 64 = .ok (.iload_n 1, 1) := dq_g501.2.2.2.2.2.2.2.2.1
theorem dX10_keepsTexts_65 : decode cX10_keepsTexts 65 = .ok (.iaload, 1) := dq_g501.2.2.2.2.2.2.2.2.2.1
theorem dX10_keepsTexts_66 : decode cX10_keepsTexts 66 = .ok (.invokevirtual 473, 3) := dq_g501.2.2.2.2.2.2.2.2.2.2.1
theorem dX10_keepsTexts_69 : decode cX10_keepsTexts 69 = .ok (.iastore, 1) := dq_g501.2.2.2.2.2.2.2.2.2.2.2.1
theorem dX10_keepsTexts_70 : decode cX10_keepsTexts 70 = .ok (.aload_n 0, 1) := dq_g501.2.2.2.2.2.2.2.2.2.2.2.2.1
theorem dX10_keepsTexts_71 : decode cX10_keepsTexts 71 = .ok (.getfield 68, 3) := dq_g501.2.2.2.2.2.2.2.2.2.2.2.2.2.1
theorem dX10_keepsTexts_74 : decode cX10_keepsTexts 74 = .ok (.iload_n 1, 1) := dq_g501.2.2.2.2.2.2.2.2.2.2.2.2.2.2.1
theorem dX10_keepsTexts_75 : decode cX10_keepsTexts 75 = .ok (.aload_n 0, 1) := dq_g501.2.2.2.2.2.2.2.2.2.2.2.2.2.2.2.1
theorem dX10_keepsTexts_76 : decode cX10_keepsTexts 76 = .ok (.aload_n 0, 1) := dq_g501.2.2.2.2.2.2.2.2.2.2.2.2.2.2.2.2.1
theorem dX10_keepsTexts_77 : decode cX10_keepsTexts 77 = .ok (.getfield 68, 3) := dq_g501.2.2.2.2.2.2.2.2.2.2.2.2.2.2.2.2.2.1
theorem dX10_keepsTexts_80 : decode cX10_keepsTexts 80 = .ok (.iload_n 1, 1) := dq_g501.2.2.2.2.2.2.2.2.2.2.2.2.2.2.2.2.2.2.1
theorem dX10_keepsTexts_81 : decode cX10_keepsTexts 81 = .ok (.iaload, 1) := dq_g501.2.2.2.2.2.2.2.2.2.2.2.2.2.2.2.2.2.2.2.1
theorem dX10_keepsTexts_82 : decode cX10_keepsTexts 82 = .ok (.invokevirtual 473, 3) := dq_g501.2.2.2.2.2.2.2.2.2.2.2.2.2.2.2.2.2.2.2.2.1
theorem dX10_keepsTexts_85 : decode cX10_keepsTexts 85 = .ok (.iastore, 1) := dq_g501.2.2.2.2.2.2.2.2.2.2.2.2.2.2.2.2.2.2.2.2.2.1
theorem dX10_keepsTexts_86 : decode cX10_keepsTexts 86 = .ok (.aload_n 0, 1) := dq_g501.2.2.2.2.2.2.2.2.2.2.2.2.2.2.2.2.2.2.2.2.2.2.1
theorem dX10_keepsTexts_87 : decode cX10_keepsTexts 87 = .ok (.getfield 71, 3) := dq_g501.2.2.2.2.2.2.2.2.2.2.2.2.2.2.2.2.2.2.2.2.2.2.2.1
theorem dX10_keepsTexts_90 : decode cX10_keepsTexts 90 = .ok (.iload_n 1, 1) := dq_g501.2.2.2.2.2.2.2.2.2.2.2.2.2.2.2.2.2.2.2.2.2.2.2.2.1
theorem dX10_keepsTexts_91 : decode cX10_keepsTexts 91 = .ok (.aload_n 0, 1) := dq_g501.2.2.2.2.2.2.2.2.2.2.2.2.2.2.2.2.2.2.2.2.2.2.2.2.2.1
theorem dX10_keepsTexts_92 : decode cX10_keepsTexts 92 = .ok (.aload_n 0, 1) := dq_g501.2.2.2.2.2.2.2.2.2.2.2.2.2.2.2.2.2.2.2.2.2.2.2.2.2.2.1
theorem dX10_keepsTexts_93 : decode cX10_keepsTexts 93 = .ok (.getfield 71, 3) := dq_g501.2.2.2.2.2.2.2.2.2.2.2.2.2.2.2.2.2.2.2.2.2.2.2.2.2.2.2.1
theorem dX10_keepsTexts_96 : decode cX10_keepsTexts 96 = .ok (.iload_n 1, 1) := dq_g501.2.2.2.2.2.2.2.2.2.2.2.2.2.2.2.2.2.2.2.2.2.2.2.2.2.2.2.2.1
theorem dX10_keepsTexts_97 : decode cX10_keepsTexts 97 = .ok (.iaload, 1) := dq_g501.2.2.2.2.2.2.2.2.2.2.2.2.2.2.2.2.2.2.2.2.2.2.2.2.2.2.2.2.2.1
theorem dq_g502 : decode cX10_keepsTexts 98 = .ok (.invokevirtual 473, 3) ∧ decode cX10_keepsTexts 101 = .ok (.iastore, 1) ∧ decode cX10_keepsTexts 102 = .ok (.aload_n 0, 1) ∧ decode cX10_keepsTexts 103 = .ok (.getfield 74, 3) ∧ decode cX10_keepsTexts 106 = .ok (.iload_n 1, 1) ∧ decode cX10_keepsTexts 107 = .ok (.aload_n 0, 1) ∧ decode cX10_keepsTexts 108 = .ok (.aload_n 0, 1) ∧ decode cX10_keepsTexts 109 = .ok (.getfield 74, 3) ∧ decode cX10_keepsTexts 112 = .ok (.iload_n 1, 1) ∧ decode cX10_keepsTexts 113 = .ok (.iaload, 1) ∧ decode cX10_keepsTexts 114 = .ok (.invokevirtual 473, 3) ∧ decode cX10_keepsTexts 117 = .ok (.iastore, 1) ∧ decode cX10_keepsTexts 118 = .ok (.aload_n 0, 1) ∧ decode cX10_keepsTexts 119 = .ok (.getfield 77, 3) ∧ decode cX10_keepsTexts 122 = .ok (.iload_n 1, 1) ∧ decode cX10_keepsTexts 123 = .ok (.aload_n 0, 1) ∧ decode cX10_keepsTexts 124 = .ok (.aload_n 0, 1) ∧ decode cX10_keepsTexts 125 = .ok (.getfield 77, 3) ∧ decode cX10_keepsTexts 128 = .ok (.iload_n 1, 1) ∧ decode cX10_keepsTexts 129 = .ok (.iaload, 1) ∧ decode cX10_keepsTexts 130 = .ok (.invokevirtual 473, 3) ∧ decode cX10_keepsTexts 133 = .ok (.iastore, 1) ∧ decode cX10_keepsTexts 134 = .ok (.aload_n 0, 1) ∧ decode cX10_keepsTexts 135 = .ok (.getfield 80, 3) ∧ decode cX10_keepsTexts 138 = .ok (.iload_n 1, 1) ∧ decode cX10_keepsTexts 139 = .ok (.aload_n 0, 1) ∧ decode cX10_keepsTexts 140 = .ok (.aload_n 0, 1) ∧ decode cX10_keepsTexts 141 = .ok (.getfield 80, 3) ∧ decode cX10_keepsTexts 144 = .ok (.iload_n 1, 1) ∧ decode cX10_keepsTexts 145 = .ok (.iaload, 1) ∧ True := dqC_ok (c := cX10_keepsTexts) [(98, 3, some (.invokevirtual 473)), (101, 1, some (.iastore)), (102, 1, some (.aload_n 0)), (103, 3, some (.getfield 74)), (106, 1, some (.iload_n 1)), (107, 1, some (.aload_n 0)), (108, 1, some (.aload_n 0)), (109, 3, some (.getfield 74)), (112, 1, some (.iload_n 1)), (113, 1, some (.iaload)), (114, 3, some (.invokevirtual 473)), (117, 1, some (.iastore)), (118, 1, some (.aload_n 0)), (119, 3, some (.getfield 77)), (122, 1, some (.iload_n 1)), (123, 1, some (.aload_n 0)), (124, 1, some (.aload_n 0)), (125, 3, some (.getfield 77)), (128, 1, some (.iload_n 1)), (129, 1, some (.iaload)), (130, 3, some (.invokevirtual 473)), (133, 1, some (.iastore)), (134, 1, some (.aload_n 0)), (135, 3, some (.getfield 80)), (138, 1, some (.iload_n 1)), (139, 1, some (.aload_n 0)), (140, 1, some (.aload_n 0)), (141, 3, some (.getfield 80)), (144, 1, some (.iload_n 1)), (145, 1, some (.iaload))] _ 98 rfl (by decide +kernel)
theorem dX10_keepsTexts_98 : decode cX10_keepsTexts 98 = .ok (.invokevirtual 473, 3) := dq_g502.1
theorem dX10_keepsTexts_101 : decode cX10_keepsTexts 101 = .ok (.iastore, 1) := dq_g502.2.1
theorem dX10_keepsTexts_102 : decode cX10_keepsTexts 102 = .ok (.aload_n 0, 1) := dq_g502.2.2.1
theorem dX10_keepsTexts_103 : decode cX10_keepsTexts 103 = .ok (.getfield 74, 3) := dq_g502.2.2.2.1
theorem dX10_keepsTexts_106 : decode cX10_keepsTexts 106 = .ok (.iload_n 1, 1) := dq_g502.2.2.2.2.1
theorem dX10_keepsTexts_107 : decode cX10_keepsTexts 107 = .ok (.aload_n 0, 1) := dq_g502.2.2.2.2.2.1
theorem dX10_keepsTexts_108 : decode cX10_keepsTexts 108 = .ok (.aload_n 0, 1) := dq_g502.2.2.2.2.2.2.1
theorem dX10_keepsTexts_109 : decode cX10_keepsTexts 109 = .ok (.getfield 74, 3) := dq_g502.2.2.2.2.2.2.2.1
theorem dX10_keepsTexts_112 : decode cX10_keepsTexts 112 = .ok (.iload_n 1, 1) := dq_g502.2.2.2.2.2.2.2.2.1
theorem dX10_keepsTexts_113 : decode cX10_keepsTexts 113 = .ok (.iaload, 1) := dq_g502.2.2.2.2.2.2.2.2.2.1
theorem dX10_keepsTexts_114 : decode cX10_keepsTexts 114 = .ok (.invokevirtual 473, 3) := dq_g502.2.2.2.2.2.2.2.2.2.2.1
theorem dX10_keepsTexts_117 : decode cX10_keepsTexts 117 = .ok (.iastore, 1) := dq_g502.2.2.2.2.2.2.2.2.2.2.2.1
theorem dX10_keepsTexts_118 : decode cX10_keepsTexts 118 = .ok (.aload_n 0, 1) := dq_g502.2.2.2.2.2.2.2.2.2.2.2.2.1
theorem dX10_keepsTexts_119 : decode cX10_keepsTexts 119 = .ok (.getfield 77, 3) := dq_g502.2.2.2.2.2.2.2.2.2.2.2.2.2.1
theorem dX10_keepsTexts_122 : decode cX10_keepsTexts 122 = .ok (.iload_n 1, 1) := dq_g502.2.2.2.2.2.2.2.2.2.2.2.2.2.2.1
theorem dX10_keepsTexts_123 : decode cX10_keepsTexts 123 = .ok (.aload_n 0, 1) := dq_g502.2.2.2.2.2.2.2.2.2.2.2.2.2.2.2.1
theorem dX10_keepsTexts_124 : decode cX10_keepsTexts 124 = .ok (.aload_n 0, 1) := dq_g502.2.2.2.2.2.2.2.2.2.2.2.2.2.2.2.2.1
theorem dX10_keepsTexts_125 : decode cX10_keepsTexts 125 = .ok (.getfield 77, 3) := dq_g502.2.2.2.2.2.2.2.2.2.2.2.2.2.2.2.2.2.1
theorem dX10_keepsTexts_128 : decode cX10_keepsTexts 128 = .ok (.iload_n 1, 1) := dq_g502.2.2.2.2.2.2.2.2.2.2.2.2.2.2.2.2.2.2.1
theorem dX10_keepsTexts_129 : decode cX10_keepsTexts 129 = .ok (.iaload, 1) := dq_g502.2.2.2.2.2.2.2.2.2.2.2.2.2.2.2.2.2.2.2.1
theorem dX10_keepsTexts_130 : decode cX10_keepsTexts 130 = .ok (.invokevirtual 473, 3) := dq_g502.2.2.2.2.2.2.2.2.2.2.2.2.2.2.2.2.2.2.2.2.1
theorem dX10_keepsTexts_133 : decode cX10_keepsTexts 133 = .ok (.iastore, 1) := dq_g502.2.2.2.2.2.2.2.2.2.2.2.2.2.2.2.2.2.2.2.2.2.1
theorem dX10_keepsTexts_134 : decode cX10_keepsTexts 134 = .ok (.aload_n 0, 1) := dq_g502.2.2.2.2.2.2.2.2.2.2.2.2.2.2.2.2.2.2.2.2.2.2.1
theorem dX10_keepsTexts_135 : decode cX10_keepsTexts 135 = .ok (.getfield 80, 3) := dq_g502.2.2.2.2.2.2.2.2.2.2.2.2.2.2.2.2.2.2.2.2.2.2.2.1
theorem dX10_keepsTexts_138 : decode cX10_keepsTexts 138 = .ok (.iload_n 1, 1) := dq_g502.2.2.2.2.2.2.2.2.2.2.2.2.2.2.2.2.2.2.2.2.2.2.2.2.1
theorem dX10_keepsTexts_139 : decode cX10_keepsTexts 139 = .ok (.aload_n 0, 1) := dq_g502.2.2.2.2.2.2.2.2.2.2.2.2.2.2.2.2.2.2.2.2.2.2.2.2.2.1
theorem dX10_keepsTexts_140 : decode cX10_keepsTexts 140 = .ok (.aload_n 0, 1) := dq_g502.2.2.2.2.2.2.2.2.2.2.2.2.2.2.2.2.2.2.2.2.2.2.2.2.2.2.1
theorem dX10_keepsTexts_141 : decode cX10_keepsTexts 141 = .ok (.getfield 80, 3) := dq_g502.2.2.2.2.2.2.2.2.2.2.2.2.2.2.2.2.2.2.2.2.2.2.2.2.2.2.2.1
theorem dX10_keepsTexts_144 : decode cX10_keepsTexts 144 = .ok (.iload_n 1, 1) := dq_g502.2.2.2.2.2.2.2.2.2.2.2.2.2.2.2.2.2.2.2.2.2.2.2.2.2.2.2.2.1
theorem dX10_keepsTexts_145 : decode cX10_keepsTexts 145 = .ok (.iaload, 1) := dq_g502.2.2.2.2.2.2.2.2.2.2.2.2.2.2.2.2.2.2.2.2.2.2.2.2.2.2.2.2.2.1
theorem dq_g503 : decode cX10_keepsTexts 146 = .ok (.invokevirtual 473, 3) ∧ decode cX10_keepsTexts 149 = .ok (.iastore, 1) ∧ decode cX10_keepsTexts 150 = .ok (.iinc 1 1, 3) ∧ decode cX10_keepsTexts 153 = .ok (.goto (-121), 3) ∧ decode cX10_keepsTexts 156 = .ok (.iconst 0, 1) ∧ decode cX10_keepsTexts 157 = .ok (.istore_n 1, 1) ∧ decode cX10_keepsTexts 158 = .ok (.iload_n 1, 1) ∧ decode cX10_keepsTexts 159 = .ok (.sipush 3000, 3) ∧ decode cX10_keepsTexts 162 = .ok (.if_icmp .ge 41, 3) ∧ decode cX10_keepsTexts 165 = .ok (.aload_n 0, 1) ∧ decode cX10_keepsTexts 166 = .ok (.getfield 83, 3) ∧ decode cX10_keepsTexts 169 = .ok (.iload_n 1, 1) ∧ decode cX10_keepsTexts 170 = .ok (.aload_n 0, 1) ∧ decode cX10_keepsTexts 171 = .ok (.aload_n 0, 1) ∧ decode cX10_keepsTexts 172 = .ok (.getfield 83, 3) ∧ decode cX10_keepsTexts 175 = .ok (.iload_n 1, 1) ∧ decode cX10_keepsTexts 176 = .ok (.iaload, 1) ∧ decode cX10_keepsTexts 177 = .ok (.invokevirtual 473, 3) ∧ decode cX10_keepsTexts 180 = .ok (.iastore, 1) ∧ decode cX10_keepsTexts 181 = .ok (.aload_n 0, 1) ∧ decode cX10_keepsTexts 182 = .ok (.getfield 86, 3) ∧ decode cX10_keepsTexts 185 = .ok (.iload_n 1, 1) ∧ decode cX10_keepsTexts 186 = .ok (.aload_n 0, 1) ∧ decode cX10_keepsTexts 187 = .ok (.aload_n 0, 1) ∧ decode cX10_keepsTexts 188 = .ok (.getfield 86, 3) ∧ decode cX10_keepsTexts 191 = .ok (.iload_n 1, 1) ∧ decode cX10_keepsTexts 192 = .ok (.iaload, 1) ∧ decode cX10_keepsTexts 193 = .ok (.invokevirtual 473, 3) ∧ decode cX10_keepsTexts 196 = .ok (.iastore, 1) ∧ decode cX10_keepsTexts 197 = .ok (.iinc 1 1, 3) ∧ True := dqC_ok (c := cX10_keepsTexts) [(146, 3, some (.invokevirtual 473)), (149, 1, some (.iastore)), (150, 3, some (.iinc 1 1)), (153, 3, some (.goto (-121))), (156, 1, some (.iconst 0)), (157, 1, some (.istore_n 1)), (158, 1, some (.iload_n 1)), (159, 3, some (.sipush 3000)), (162, 3, some (.if_icmp .ge 41)), (165, 1, some (.aload_n 0)), (166, 3, some (.getfield 83)), (169, 1, some (.iload_n 1)), (170, 1, some (.aload_n 0)), (171, 1, some (.aload_n 0)), (172, 3, some (.getfield 83)), (175, 1, some (.iload_n 1)), (176, 1, some (.iaload)), (177, 3, some (.invokevirtual 473)), (180, 1, some (.iastore)), (181, 1, some (.aload_n 0)), (182, 3, some (.getfield 86)), (185, 1, some (.iload_n 1)), (186, 1, some (.aload_n 0)), (187, 1, some (.aload_n 0)), (188, 3, some (.getfield 86)), (191, 1, some (.iload_n 1)), (192, 1, some (.iaload)), (193, 3, some (.invokevirtual 473)), (196, 1, some (.iastore)), (197, 3, some (.iinc 1 1))] _ 146 rfl (by decide +kernel)
theorem dX10_keepsTexts_146 : decode cX10_keepsTexts 146 = .ok (.invokevirtual 473, 3) := dq_g503.1
theorem dX10_keepsTexts_149 : decode cX10_keepsTexts 149 = .ok (.iastore, 1) := dq_g503.2.1
theorem dX10_keepsTexts_150 : decode cX10_keepsTexts 150 = .ok (.iinc 1 1, 3) := dq_g503.2.2.1
theorem dX10_keepsTexts_153 : decode cX10_keepsTexts 153 = .ok (.goto (-121), 3) := dq_g503.2.2.2.1
theorem dX10_keepsTexts_156 : decode cX10_keepsTexts 156 = .ok (.iconst 0, 1) := dq_g503.2.2.2.2.1
theorem dX10_keepsTexts_157 : decode cX10_keepsTexts 157 = .ok (.istore_n 1, 1) := dq_g503.2.2.2.2.2.1
theorem dX10_keepsTexts_158 : decode cX10_keepsTexts 158 = .ok (.iload_n 1, 1) := dq_g503.2.2.2.2.2.2.1
theorem dX10_keepsTexts_159 : decode cX10_keepsTexts 159 = .ok (.sipush 3000, 3) := dq_g503.2.2.2.2.2.2.2.1
theorem dX10_keepsTexts_162 : decode cX10_keepsTexts 162 = .ok (.if_icmp .ge 41, 3) := dq_g503.2.2.2.2.2.2.2.2.1
theorem dX10_keepsTexts_165 : decode cX10_keepsTexts 165 = .ok (.aload_n 0, 1) := dq_g503.2.2.2.2.2.2.2.2.2.1
theorem dX10_keepsTexts_166 : decode cX10_keepsTexts 166 = .ok (.getfield 83, 3) := dq_g503.2.2.2.2.2.2.2.2.2.2.1
theorem dX10_keepsTexts_169 : decode cX10_keepsTexts 169 = .ok (.iload_n 1, 1) := dq_g503.2.2.2.2.2.2.2.2.2.2.2.1
theorem dX10_keepsTexts_170 : decode cX10_keepsTexts 170 = .ok (.aload_n 0, 1) := dq_g503.2.2.2.2.2.2.2.2.2.2.2.2.1
theorem dX10_keepsTexts_171 : decode cX10_keepsTexts 171 = .ok (.aload_n 0, 1) := dq_g503.2.2.2.2.2.2.2.2.2.2.2.2.2.1
theorem dX10_keepsTexts_172 : decode cX10_keepsTexts 172 = .ok (.getfield 83, 3) := dq_g503.2.2.2.2.2.2.2.2.2.2.2.2.2.2.1
theorem dX10_keepsTexts_175 : decode cX10_keepsTexts 175 = .ok (.iload_n 1, 1) := dq_g503.2.2.2.2.2.2.2.2.2.2.2.2.2.2.2.1
theorem dX10_keepsTexts_176 : decode cX10_keepsTexts 176 = .ok (.iaload, 1) := dq_g503.2.2.2.2.2.2.2.2.2.2.2.2.2.2.2.2.1
theorem dX10_keepsTexts_177 : decode cX10_keepsTexts 177 = .ok (.invokevirtual 473, 3) := dq_g503.2.2.2.2.2.2.2.2.2.2.2.2.2.2.2.2.2.1
theorem dX10_keepsTexts_180 : decode cX10_keepsTexts 180 = .ok (.iastore, 1) := dq_g503.2.2.2.2.2.2.2.2.2.2.2.2.2.2.2.2.2.2.1
theorem dX10_keepsTexts_181 : decode cX10_keepsTexts 181 = .ok (.aload_n 0, 1) := dq_g503.2.2.2.2.2.2.2.2.2.2.2.2.2.2.2.2.2.2.2.1
theorem dX10_keepsTexts_182 : decode cX10_keepsTexts 182 = .ok (.getfield 86, 3) := dq_g503.2.2.2.2.2.2.2.2.2.2.2.2.2.2.2.2.2.2.2.2.1
theorem dX10_keepsTexts_185 : decode cX10_keepsTexts 185 = .ok (.iload_n 1, 1) := dq_g503.2.2.2.2.2.2.2.2.2.2.2.2.2.2.2.2.2.2.2.2.2.1
theorem dX10_keepsTexts_186 : decode cX10_keepsTexts 186 = .ok (.aload_n 0, 1) := dq_g503.2.2.2.2.2.2.2.2.2.2.2.2.2.2.2.2.2.2.2.2.2.2.1
theorem dX10_keepsTexts_187 : decode cX10_keepsTexts 187 = .ok (.aload_n 0, 1) := dq_g503.2.2.2.2.2.2.2.2.2.2.2.2.2.2.2.2.2.2.2.2.2.2.2.1
theorem dX10_keepsTexts_188 : decode cX10_keepsTexts 188 = .ok (.getfield 86, 3) := dq_g503.2.2.2.2.2.2.2.2.2.2.2.2.2.2.2.2.2.2.2.2.2.2.2.2.1
theorem dX10_keepsTexts_191 : decode cX10_keepsTexts 191 = .ok (.iload_n 1, 1) := dq_g503.2.2.2.2.2.2.2.2.2.2.2.2.2.2.2.2.2.2.2.2.2.2.2.2.2.1
theorem dX10_keepsTexts_192 : decode cX10_keepsTexts 192 = .ok (.iaload, 1) := dq_g503.2.2.2.2.2.2.2.2.2.2.2.2.2.2.2.2.2.2.2.2.2.2.2.2.2.2.1
theorem dX10_keepsTexts_193 : decode cX10_keepsTexts 193 = .ok (.invokevirtual 473, 3) := dq_g503.2.2.2.2.2.2.2.2.2.2.2.2.2.2.2.2.2.2.2.2.2.2.2.2.2.2.2.1
theorem dX10_keepsTexts_196 : decode cX10_keepsTexts 196 = .ok (.iastore, 1) := dq_g503.2.2.2.2.2.2.2.2.2.2.2.2.2.2.2.2.2.2.2.2.2.2.2.2.2.2.2.2.1
theorem dX10_keepsTexts_197 : decode cX10_keepsTexts 197 = .ok (.iinc 1 1, 3) := dq_g503.2.2.2.2.2.2.2.2.2.2.2.2.2.2.2.2.2.2.2.2.2.2.2.2.2.2.2.2.2.1
