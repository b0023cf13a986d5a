theorem dX10_offOf_90 : decode cX10_offOf 90 = .ok (.lload_n 2, 1) := by decide +kernel
theorem dX10_offOf_91 : decode cX10_offOf 91 = .ok (.l2i, 1) := by decide +kernel
theorem dX10_offOf_92 : decode cX10_offOf 92 = .ok (.ireturn, 1) := by decide +kernel
theorem dX10_off_0 : decode cX10_off 0 = .ok (.aload_n 0, 1) := by decide +kernel
theorem dX10_off_1 : decode cX10_off 1 = .ok (.iconst 0, 1) := by decide +kernel
theorem dX10_off_2 : decode cX10_off 2 = .ok (.putfield 167, 3) := by decide +kernel
theorem dX10_off_5 : decode cX10_off 5 = .ok (.iload_n 1, 1) := by decide +kernel
theorem dX10_off_6 : decode cX10_off 6 = .ok (.iconst (-1), 1) := by decide +kernel
theorem dX10_off_7 : decode cX10_off 7 = .ok (.if_icmp .ne 22, 3) := by decide +kernel
theorem dX10_off_10 : decode cX10_off 10 = .ok (.aload_n 0, 1) := by decide +kernel
theorem dX10_off_11 : decode cX10_off 11 = .ok (.iconst 1, 1) := by decide +kernel
theorem dX10_off_12 : decode cX10_off 12 = .ok (.invokevirtual 399, 3) := by decide +kernel
theorem dX10_off_15 : decode cX10_off 15 = .ok (.aload_n 0, 1) := by decide +kernel
theorem dX10_off_16 : decode cX10_off 16 = .ok (.iconst 0, 1) := by decide +kernel
theorem dX10_off_17 : decode cX10_off 17 = .ok (.invokevirtual 399, 3) := by decide +kernel
theorem dX10_off_20 : decode cX10_off 20 = .ok (.if_icmp .ge 7, 3) := by decide +kernel
theorem dX10_off_23 : decode cX10_off 23 = .ok (.iconst 1, 1) := by decide +kernel
theorem dX10_off_24 : decode cX10_off 24 = .ok (.goto 4, 3) := by decide +kernel
theorem dX10_off_27 : decode cX10_off 27 = .ok (.iconst 0, 1) := by decide +kernel
theorem dX10_off_28 : decode cX10_off 28 = .ok (.ireturn, 1) := by decide +kernel
theorem dX10_off_29 : decode cX10_off 29 = .ok (.aload_n 0, 1) := by decide +kernel
theorem dX10_off_30 : decode cX10_off 30 = .ok (.iload_n 1, 1) := by decide +kernel
theorem dX10_off_31 : decode cX10_off 31 = .ok (.invokevirtual 328, 3) := by decide +kernel
theorem dX10_off_34 : decode cX10_off 34 = .ok (.ifCond .eq 11, 3) := by decide +kernel
theorem dX10_off_37 : decode cX10_off 37 = .ok (.aload_n 0, 1) := by decide +kernel
theorem dX10_off_38 : decode cX10_off 38 = .ok (.iload_n 1, 1) := by decide +kernel
theorem dX10_off_39 : decode cX10_off 39 = .ok (.invokevirtual 399, 3) := by decide +kernel
theorem dX10_off_42 : decode cX10_off 42 = .ok (.goto 4, 3) := by decide +kernel
theorem dX10_off_45 : decode cX10_off 45 = .ok (.iconst (-1), 1) := by decide +kernel
theorem dX10_off_46 : decode cX10_off 46 = .ok (.ireturn, 1) := by decide +kernel
theorem dX10_still_0 : decode cX10_still 0 = .ok (.aload_n 0, 1) := by decide +kernel
theorem dX10_still_1 : decode cX10_still 1 = .ok (.iconst 0, 1) := by decide +kernel
theorem dX10_still_2 : decode cX10_still 2 = .ok (.putfield 167, 3) := by decide +kernel
theorem dX10_still_5 : decode cX10_still 5 = .ok (.aload_n 0, 1) := by decide +kernel
theorem dX10_still_6 : decode cX10_still 6 = .ok (.iload_n 1, 1) := by decide +kernel
theorem dX10_still_7 : decode cX10_still 7 = .ok (.invokevirtual 173, 3) := by decide +kernel
theorem dX10_still_10 : decode cX10_still 10 = .ok (.ifCond .eq 15, 3) := by decide +kernel
theorem dX10_still_13 : decode cX10_still 13 = .ok (.aload_n 0, 1) := by decide +kernel
theorem dX10_still_14 : decode cX10_still 14 = .ok (.iload_n 2, 1) := by decide +kernel
theorem dX10_still_15 : decode cX10_still 15 = .ok (.invokevirtual 331, 3) := by decide +kernel
theorem dX10_still_18 : decode cX10_still 18 = .ok (.ifCond .eq 7, 3) := by decide +kernel
theorem dX10_still_21 : decode cX10_still 21 = .ok (.iload_n 3, 1) := by decide +kernel
theorem dX10_still_22 : decode cX10_still 22 = .ok (.ifCond .ge 5, 3) := by decide +kernel
theorem dX10_still_25 : decode cX10_still 25 = .ok (.iconst (-1), 1) := by decide +kernel
theorem dX10_still_26 : decode cX10_still 26 = .ok (.ireturn, 1) := by decide +kernel
theorem dX10_still_27 : decode cX10_still 27 = .ok (.iload_n 3, 1) := by decide +kernel
theorem dX10_still_28 : decode cX10_still 28 = .ok (.ifCond .ne 12, 3) := by decide +kernel
theorem dX10_still_31 : decode cX10_still 31 = .ok (.aload_n 0, 1) := by decide +kernel
theorem dX10_still_32 : decode cX10_still 32 = .ok (.iload_n 1, 1) := by decide +kernel
theorem dX10_still_33 : decode cX10_still 33 = .ok (.iload_n 2, 1) := by decide +kernel
theorem dX10_still_34 : decode cX10_still 34 = .ok (.invokevirtual 408, 3) := by decide +kernel
theorem dX10_still_37 : decode cX10_still 37 = .ok (.goto 12, 3) := by decide +kernel
theorem dX10_still_40 : decode cX10_still 40 = .ok (.aload_n 0, 1) := by decide +kernel
theorem dX10_still_41 : decode cX10_still 41 = .ok (.iload_n 1, 1) := by decide +kernel
theorem dX10_still_42 : decode cX10_still 42 = .ok (.iload_n 2, 1) := by decide +kernel
theorem dX10_still_43 : decode cX10_still 43 = .ok (.iload_n 3, 1) := by decide +kernel
theorem dX10_still_44 : decode cX10_still 44 = .ok (.iconst 1, 1) := by decide +kernel
theorem dX10_still_45 : decode cX10_still 45 = .ok (.isub, 1) := by decide +kernel
theorem dX10_still_46 : decode cX10_still 46 = .ok (.invokevirtual 411, 3) := by decide +kernel
theorem dX10_still_49 : decode cX10_still 49 = .ok (.ireturn, 1) := by decide +kernel
theorem dX10_holes_0 : decode cX10_holes 0 = .ok (.aload_n 0, 1) := by decide +kernel
theorem dX10_holes_1 : decode cX10_holes 1 = .ok (.iconst 0, 1) := by decide +kernel
theorem dX10_holes_2 : decode cX10_holes 2 = .ok (.putfield 167, 3) := by decide +kernel
theorem dX10_holes_5 : decode cX10_holes 5 = .ok (.aload_n 0, 1) := by decide +kernel
theorem dX10_holes_6 : decode cX10_holes 6 = .ok (.iload_n 1, 1) := by decide +kernel
theorem dX10_holes_7 : decode cX10_holes 7 = .ok (.iload_n 2, 1) := by decide +kernel
theorem dX10_holes_8 : decode cX10_holes 8 = .ok (.invokevirtual 181, 3) := by decide +kernel
theorem dX10_holes_11 : decode cX10_holes 11 = .ok (.ifCond .eq 17, 3) := by decide +kernel
theorem dX10_holes_14 : decode cX10_holes 14 = .ok (.aload_n 0, 1) := by decide +kernel
theorem dX10_holes_15 : decode cX10_holes 15 = .ok (.iload_n 1, 1) := by decide +kernel
theorem dX10_holes_16 : decode cX10_holes 16 = .ok (.iload_n 3, 1) := by decide +kernel
theorem dX10_holes_17 : decode cX10_holes 17 = .ok (.invokevirtual 181, 3) := by decide +kernel
theorem dX10_holes_20 : decode cX10_holes 20 = .ok (.ifCond .eq 8, 3) := by decide +kernel
theorem dX10_holes_23 : decode cX10_holes 23 = .ok (.iload_n 2, 1) := by decide +kernel
theorem dX10_holes_24 : decode cX10_holes 24 = .ok (.iload_n 3, 1) := by decide +kernel
theorem dX10_holes_25 : decode cX10_holes 25 = .ok (.if_icmp .lt 5, 3) := by decide +kernel
theorem dX10_holes_28 : decode cX10_holes 28 = .ok (.iconst 0, 1) := by decide +kernel
theorem dX10_holes_29 : decode cX10_holes 29 = .ok (.ireturn, 1) := by decide +kernel
theorem dX10_holes_30 : decode cX10_holes 30 = .ok (.aload_n 0, 1) := by decide +kernel
theorem dX10_holes_31 : decode cX10_holes 31 = .ok (.getfield 44, 3) := by decide +kernel
theorem dX10_holes_34 : decode cX10_holes 34 = .ok (.iload_n 1, 1) := by decide +kernel
theorem dX10_holes_35 : decode cX10_holes 35 = .ok (.iload_n 2, 1) := by decide +kernel
theorem dX10_holes_36 : decode cX10_holes 36 = .ok (.iastore, 1) := by decide +kernel
theorem dX10_holes_37 : decode cX10_holes 37 = .ok (.aload_n 0, 1) := by decide +kernel
theorem dX10_holes_38 : decode cX10_holes 38 = .ok (.getfield 47, 3) := by decide +kernel
theorem dX10_holes_41 : decode cX10_holes 41 = .ok (.iload_n 1, 1) := by decide +kernel
theorem dX10_holes_42 : decode cX10_holes 42 = .ok (.iload_n 3, 1) := by decide +kernel
theorem dX10_holes_43 : decode cX10_holes 43 = .ok (.iastore, 1) := by decide +kernel
theorem dX10_holes_44 : decode cX10_holes 44 = .ok (.iconst 1, 1) := by decide +kernel
theorem dX10_holes_45 : decode cX10_holes 45 = .ok (.ireturn, 1) := by decide +kernel
theorem dX10_state_0 : decode cX10_state 0 = .ok (.aload_n 0, 1) := by decide +kernel
theorem dX10_state_1 : decode cX10_state 1 = .ok (.iconst 0, 1) := by decide +kernel
theorem dX10_state_2 : decode cX10_state 2 = .ok (.putfield 167, 3) := by decide +kernel
theorem dX10_state_5 : decode cX10_state 5 = .ok (.aload_n 0, 1) := by decide +kernel
theorem dX10_state_6 : decode cX10_state 6 = .ok (.iload_n 1, 1) := by decide +kernel
theorem dX10_state_7 : decode cX10_state 7 = .ok (.invokevirtual 173, 3) := by decide +kernel
theorem dX10_state_10 : decode cX10_state 10 = .ok (.ifCond .ne 6, 3) := by decide +kernel
theorem dX10_state_13 : decode cX10_state 13 = .ok (.bipush (-2), 2) := by decide +kernel
theorem dX10_state_15 : decode cX10_state 15 = .ok (.ireturn, 1) := by decide +kernel
theorem dX10_state_16 : decode cX10_state 16 = .ok (.iload_n 2, 1) := by decide +kernel
theorem dX10_state_17 : decode cX10_state 17 = .ok (.ifCond .ne 10, 3) := by decide +kernel
theorem dX10_state_20 : decode cX10_state 20 = .ok (.aload_n 0, 1) := by decide +kernel
theorem dX10_state_21 : decode cX10_state 21 = .ok (.getfield 13, 3) := by decide +kernel
theorem dX10_state_24 : decode cX10_state 24 = .ok (.iload_n 1, 1) := by decide +kernel
theorem dX10_state_25 : decode cX10_state 25 = .ok (.iaload, 1) := by decide +kernel
theorem dX10_state_26 : decode cX10_state 26 = .ok (.ireturn, 1) := by decide +kernel
theorem dX10_state_27 : decode cX10_state 27 = .ok (.iload_n 2, 1) := by decide +kernel
theorem dX10_state_28 : decode cX10_state 28 = .ok (.iconst 1, 1) := by decide +kernel
theorem dX10_state_29 : decode cX10_state 29 = .ok (.if_icmp .ne 10, 3) := by decide +kernel
theorem dX10_state_32 : decode cX10_state 32 = .ok (.aload_n 0, 1) := by decide +kernel
theorem dX10_state_33 : decode cX10_state 33 = .ok (.getfield 32, 3) := by decide +kernel
theorem dX10_state_36 : decode cX10_state 36 = .ok (.iload_n 1, 1) := by decide +kernel
theorem dX10_state_37 : decode cX10_state 37 = .ok (.iaload, 1) := by decide +kernel
theorem dX10_state_38 : decode cX10_state 38 = .ok (.ireturn, 1) := by decide +kernel
theorem dX10_state_39 : decode cX10_state 39 = .ok (.iload_n 2, 1) := by decide +kernel
theorem dX10_state_40 : decode cX10_state 40 = .ok (.iconst 2, 1) := by decide +kernel
theorem dX10_state_41 : decode cX10_state 41 = .ok (.if_icmp .ne 17, 3) := by decide +kernel
theorem dX10_state_44 : decode cX10_state 44 = .ok (.aload_n 0, 1) := by decide +kernel
theorem dX10_state_45 : decode cX10_state 45 = .ok (.iload_n 1, 1) := by decide +kernel
theorem dX10_state_46 : decode cX10_state 46 = .ok (.invokevirtual 338, 3) := by decide +kernel
theorem dX10_state_49 : decode cX10_state 49 = .ok (.ifCond .eq 7, 3) := by decide +kernel
theorem dX10_state_52 : decode cX10_state 52 = .ok (.iconst 1, 1) := by decide +kernel
theorem dX10_state_53 : decode cX10_state 53 = .ok (.goto 4, 3) := by decide +kernel
theorem dX10_state_56 : decode cX10_state 56 = .ok (.iconst 0, 1) := by decide +kernel
theorem dX10_state_57 : decode cX10_state 57 = .ok (.ireturn, 1) := by decide +kernel
theorem dX10_state_58 : decode cX10_state 58 = .ok (.iload_n 2, 1) := by decide +kernel
theorem dX10_state_59 : decode cX10_state 59 = .ok (.iconst 3, 1) := by decide +kernel
theorem dX10_state_60 : decode cX10_state 60 = .ok (.if_icmp .ne 17, 3) := by decide +kernel
theorem dX10_state_63 : decode cX10_state 63 = .ok (.aload_n 0, 1) := by decide +kernel
theorem dX10_state_64 : decode cX10_state 64 = .ok (.iload_n 1, 1) := by decide +kernel
theorem dX10_state_65 : decode cX10_state 65 = .ok (.invokevirtual 414, 3) := by decide +kernel
theorem dX10_state_68 : decode cX10_state 68 = .ok (.ifCond .eq 7, 3) := by decide +kernel
theorem dX10_state_71 : decode cX10_state 71 = .ok (.iconst 1, 1) := by decide +kernel
theorem dX10_state_72 : decode cX10_state 72 = .ok (.goto 4, 3) := by decide +kernel
theorem dX10_state_75 : decode cX10_state 75 = .ok (.iconst 0, 1) := by decide +kernel
theorem dX10_state_76 : decode cX10_state 76 = .ok (.ireturn, 1) := by decide +kernel
theorem dX10_state_77 : decode cX10_state 77 = .ok (.iload_n 2, 1) := by decide +kernel
theorem dX10_state_78 : decode cX10_state 78 = .ok (.iconst 4, 1) := by decide +kernel
theorem dX10_state_79 : decode cX10_state 79 = .ok (.if_icmp .ne 10, 3) := by decide +kernel
theorem dX10_state_82 : decode cX10_state 82 = .ok (.aload_n 0, 1) := by decide +kernel
theorem dX10_state_83 : decode cX10_state 83 = .ok (.getfield 41, 3) := by decide +kernel
theorem dX10_state_86 : decode cX10_state 86 = .ok (.iload_n 1, 1) := by decide +kernel
theorem dX10_state_87 : decode cX10_state 87 = .ok (.iaload, 1) := by decide +kernel
theorem dX10_state_88 : decode cX10_state 88 = .ok (.ireturn, 1) := by decide +kernel
theorem dX10_state_89 : decode cX10_state 89 = .ok (.aload_n 0, 1) := by decide +kernel
theorem dX10_state_90 : decode cX10_state 90 = .ok (.iload_n 2, 1) := by decide +kernel
theorem dX10_state_91 : decode cX10_state 91 = .ok (.iconst 5, 1) := by decide +kernel
theorem dX10_state_92 : decode cX10_state 92 = .ok (.bipush 7, 2) := by decide +kernel
theorem dX10_state_94 : decode cX10_state 94 = .ok (.invokevirtual 177, 3) := by decide +kernel
theorem dX10_state_97 : decode cX10_state 97 = .ok (.ifCond .eq 16, 3) := by decide +kernel
theorem dX10_state_100 : decode cX10_state 100 = .ok (.aload_n 0, 1) := by decide +kernel
theorem dX10_state_101 : decode cX10_state 101 = .ok (.getfield 29, 3) := by decide +kernel
theorem dX10_state_104 : decode cX10_state 104 = .ok (.iconst 3, 1) := by decide +kernel
theorem dX10_state_105 : decode cX10_state 105 = .ok (.iload_n 1, 1) := by decide +kernel
theorem dX10_state_106 : decode cX10_state 106 = .ok (.imul, 1) := by decide +kernel
theorem dX10_state_107 : decode cX10_state 107 = .ok (.iload_n 2, 1) := by decide +kernel
theorem dX10_state_108 : decode cX10_state 108 = .ok (.iadd, 1) := by decide +kernel
theorem dX10_state_109 : decode cX10_state 109 = .ok (.iconst 5, 1) := by decide +kernel
theorem dX10_state_110 : decode cX10_state 110 = .ok (.isub, 1) := by decide +kernel
theorem dX10_state_111 : decode cX10_state 111 = .ok (.iaload, 1) := by decide +kernel
theorem dX10_state_112 : decode cX10_state 112 = .ok (.ireturn, 1) := by decide +kernel
theorem dX10_state_113 : decode cX10_state 113 = .ok (.iload_n 2, 1) := by decide +kernel
theorem dX10_state_114 : decode cX10_state 114 = .ok (.bipush 8, 2) := by decide +kernel
theorem dX10_state_116 : decode cX10_state 116 = .ok (.if_icmp .ne 12, 3) := by decide +kernel
theorem dX10_state_119 : decode cX10_state 119 = .ok (.aload_n 0, 1) := by decide +kernel
theorem dX10_state_120 : decode cX10_state 120 = .ok (.getfield 116, 3) := by decide +kernel
theorem dX10_state_123 : decode cX10_state 123 = .ok (.iload_n 1, 1) := by decide +kernel
theorem dX10_state_124 : decode cX10_state 124 = .ok (.iaload, 1) := by decide +kernel
theorem dX10_state_125 : decode cX10_state 125 = .ok (.goto 19, 3) := by decide +kernel
theorem dX10_state_128 : decode cX10_state 128 = .ok (.iload_n 2, 1) := by decide +kernel
theorem dX10_state_129 : decode cX10_state 129 = .ok (.bipush 9, 2) := by decide +kernel
theorem dX10_state_131 : decode cX10_state 131 = .ok (.if_icmp .ne 11, 3) := by decide +kernel
theorem dX10_state_134 : decode cX10_state 134 = .ok (.aload_n 0, 1) := by decide +kernel
theorem dX10_state_135 : decode cX10_state 135 = .ok (.iload_n 1, 1) := by decide +kernel
theorem dX10_state_136 : decode cX10_state 136 = .ok (.invokevirtual 417, 3) := by decide +kernel
theorem dX10_state_139 : decode cX10_state 139 = .ok (.goto 5, 3) := by decide +kernel
theorem dX10_state_142 : decode cX10_state 142 = .ok (.bipush (-2), 2) := by decide +kernel
theorem dX10_state_144 : decode cX10_state 144 = .ok (.ireturn, 1) := by decide +kernel
theorem dX10_tube_0 : decode cX10_tube 0 = .ok (.aload_n 0, 1) := by decide +kernel
theorem dX10_tube_1 : decode cX10_tube 1 = .ok (.iconst 0, 1) := by decide +kernel
theorem dX10_tube_2 : decode cX10_tube 2 = .ok (.putfield 167, 3) := by decide +kernel
theorem dX10_tube_5 : decode cX10_tube 5 = .ok (.aload_n 0, 1) := by decide +kernel
theorem dX10_tube_6 : decode cX10_tube 6 = .ok (.iload_n 1, 1) := by decide +kernel
theorem dX10_tube_7 : decode cX10_tube 7 = .ok (.invokevirtual 173, 3) := by decide +kernel
theorem dX10_tube_10 : decode cX10_tube 10 = .ok (.ifCond .eq 25, 3) := by decide +kernel
theorem dX10_tube_13 : decode cX10_tube 13 = .ok (.aload_n 0, 1) := by decide +kernel
theorem dX10_tube_14 : decode cX10_tube 14 = .ok (.iload_n 2, 1) := by decide +kernel
theorem dX10_tube_15 : decode cX10_tube 15 = .ok (.iconst 0, 1) := by decide +kernel
theorem dX10_tube_16 : decode cX10_tube 16 = .ok (.iconst 1, 1) := by decide +kernel
theorem dX10_tube_17 : decode cX10_tube 17 = .ok (.invokevirtual 177, 3) := by decide +kernel
theorem dX10_tube_20 : decode cX10_tube 20 = .ok (.ifCond .eq 15, 3) := by decide +kernel
theorem dX10_tube_23 : decode cX10_tube 23 = .ok (.aload_n 0, 1) := by decide +kernel
theorem dX10_tube_24 : decode cX10_tube 24 = .ok (.iload_n 3, 1) := by decide +kernel
theorem dX10_tube_25 : decode cX10_tube 25 = .ok (.iconst 1, 1) := by decide +kernel
theorem dX10_tube_26 : decode cX10_tube 26 = .ok (.sipush 9999, 3) := by decide +kernel
theorem dX10_tube_29 : decode cX10_tube 29 = .ok (.invokevirtual 177, 3) := by decide +kernel
theorem dX10_tube_32 : decode cX10_tube 32 = .ok (.ifCond .ne 5, 3) := by decide +kernel
theorem dX10_tube_35 : decode cX10_tube 35 = .ok (.iconst 0, 1) := by decide +kernel
theorem dX10_tube_36 : decode cX10_tube 36 = .ok (.ireturn, 1) := by decide +kernel
theorem dX10_tube_37 : decode cX10_tube 37 = .ok (.aload_n 0, 1) := by decide +kernel
theorem dX10_tube_38 : decode cX10_tube 38 = .ok (.getfield 50, 3) := by decide +kernel
theorem dX10_tube_41 : decode cX10_tube 41 = .ok (.iconst 2, 1) := by decide +kernel
theorem dX10_tube_42 : decode cX10_tube 42 = .ok (.iload_n 1, 1) := by decide +kernel
theorem dX10_tube_43 : decode cX10_tube 43 = .ok (.imul, 1) := by decide +kernel
theorem dX10_tube_44 : decode cX10_tube 44 = .ok (.iload_n 2, 1) := by decide +kernel
theorem dX10_tube_45 : decode cX10_tube 45 = .ok (.iadd, 1) := by decide +kernel
theorem dX10_tube_46 : decode cX10_tube 46 = .ok (.iload_n 3, 1) := by decide +kernel
theorem dX10_tube_47 : decode cX10_tube 47 = .ok (.iastore, 1) := by decide +kernel
theorem dX10_tube_48 : decode cX10_tube 48 = .ok (.iconst 1, 1) := by decide +kernel
theorem dX10_tube_49 : decode cX10_tube 49 = .ok (.ireturn, 1) := by decide +kernel
theorem dX10_in_0 : decode cX10_in 0 = .ok (.aload_n 0, 1) := by decide +kernel
theorem dX10_in_1 : decode cX10_in 1 = .ok (.iconst 0, 1) := by decide +kernel
theorem dX10_in_2 : decode cX10_in 2 = .ok (.putfield 167, 3) := by decide +kernel
theorem dX10_in_5 : decode cX10_in 5 = .ok (.aload_n 0, 1) := by decide +kernel
theorem dX10_in_6 : decode cX10_in 6 = .ok (.iload_n 1, 1) := by decide +kernel
theorem dX10_in_7 : decode cX10_in 7 = .ok (.invokevirtual 173, 3) := by decide +kernel
theorem dX10_in_10 : decode cX10_in 10 = .ok (.ifCond .eq 30, 3) := by decide +kernel
theorem dX10_in_13 : decode cX10_in 13 = .ok (.aload_n 0, 1) := by decide +kernel
theorem dX10_in_14 : decode cX10_in 14 = .ok (.iload_n 2, 1) := by decide +kernel
theorem dX10_in_15 : decode cX10_in 15 = .ok (.invokevirtual 428, 3) := by decide +kernel
theorem dX10_in_18 : decode cX10_in 18 = .ok (.ifCond .eq 22, 3) := by decide +kernel
theorem dX10_in_21 : decode cX10_in 21 = .ok (.aload_n 0, 1) := by decide +kernel
theorem dX10_in_22 : decode cX10_in 22 = .ok (.iload_n 3, 1) := by decide +kernel
theorem dX10_in_23 : decode cX10_in 23 = .ok (.invokevirtual 431, 3) := by decide +kernel
theorem dX10_in_26 : decode cX10_in 26 = .ok (.ifCond .eq 14, 3) := by decide +kernel
theorem dX10_in_29 : decode cX10_in 29 = .ok (.aload_n 0, 1) := by decide +kernel
theorem dX10_in_30 : decode cX10_in 30 = .ok (.iload 4, 2) := by decide +kernel
theorem dX10_in_32 : decode cX10_in 32 = .ok (.iconst 0, 1) := by decide +kernel
theorem dX10_in_33 : decode cX10_in 33 = .ok (.iconst 3, 1) := by decide +kernel
theorem dX10_in_34 : decode cX10_in 34 = .ok (.invokevirtual 177, 3) := by decide +kernel
theorem dX10_in_37 : decode cX10_in 37 = .ok (.ifCond .ne 5, 3) := by decide +kernel
theorem dX10_in_40 : decode cX10_in 40 = .ok (.iconst (-1), 1) := by decide +kernel
theorem dX10_in_41 : decode cX10_in 41 = .ok (.ireturn, 1) := by decide +kernel
theorem dX10_in_42 : decode cX10_in 42 = .ok (.iload 4, 2) := by decide +kernel
theorem dX10_in_44 : decode cX10_in 44 = .ok (.iconst 1, 1) := by decide +kernel
theorem dX10_in_45 : decode cX10_in 45 = .ok (.if_icmp .eq 9, 3) := by decide +kernel
theorem dX10_in_48 : decode cX10_in 48 = .ok (.iload 4, 2) := by decide +kernel
theorem dX10_in_50 : decode cX10_in 50 = .ok (.iconst 2, 1) := by decide +kernel
theorem dX10_in_51 : decode cX10_in 51 = .ok (.if_icmp .ne 15, 3) := by decide +kernel
theorem dX10_in_54 : decode cX10_in 54 = .ok (.aload_n 0, 1) := by decide +kernel
theorem dX10_in_55 : decode cX10_in 55 = .ok (.iload_n 1, 1) := by decide +kernel
theorem dX10_in_56 : decode cX10_in 56 = .ok (.iload_n 2, 1) := by decide +kernel
theorem dX10_in_57 : decode cX10_in 57 = .ok (.iload_n 3, 1) := by decide +kernel
theorem dX10_in_58 : decode cX10_in 58 = .ok (.iload 4, 2) := by decide +kernel
theorem dX10_in_60 : decode cX10_in 60 = .ok (.iconst 1, 1) := by decide +kernel
theorem dX10_in_61 : decode cX10_in 61 = .ok (.isub, 1) := by decide +kernel
theorem dX10_in_62 : decode cX10_in 62 = .ok (.invokevirtual 434, 3) := by decide +kernel
theorem dX10_in_65 : decode cX10_in 65 = .ok (.ireturn, 1) := by decide +kernel
theorem dX10_in_66 : decode cX10_in 66 = .ok (.aload_n 0, 1) := by decide +kernel
theorem dX10_in_67 : decode cX10_in 67 = .ok (.iload_n 1, 1) := by decide +kernel
theorem dX10_in_68 : decode cX10_in 68 = .ok (.iload_n 2, 1) := by decide +kernel
theorem dX10_in_69 : decode cX10_in 69 = .ok (.iload_n 3, 1) := by decide +kernel
theorem dX10_in_70 : decode cX10_in 70 = .ok (.invokevirtual 425, 3) := by decide +kernel
theorem dX10_in_73 : decode cX10_in 73 = .ok (.istore 5, 2) := by decide +kernel
theorem dX10_in_75 : decode cX10_in 75 = .ok (.iload 4, 2) := by decide +kernel
theorem dX10_in_77 : decode cX10_in 77 = .ok (.ifCond .ne 6, 3) := by decide +kernel
theorem dX10_in_80 : decode cX10_in 80 = .ok (.iload 5, 2) := by decide +kernel
theorem dX10_in_82 : decode cX10_in 82 = .ok (.ireturn, 1) := by decide +kernel
theorem dX10_in_83 : decode cX10_in 83 = .ok (.iconst 1, 1) := by decide +kernel
theorem dX10_in_84 : decode cX10_in 84 = .ok (.istore 6, 2) := by decide +kernel
theorem dX10_in_86 : decode cX10_in 86 = .ok (.iconst 2, 1) := by decide +kernel
theorem dX10_in_87 : decode cX10_in 87 = .ok (.istore 7, 2) := by decide +kernel
theorem dX10_in_89 : decode cX10_in 89 = .ok (.iload 7, 2) := by decide +kernel
theorem dX10_in_91 : decode cX10_in 91 = .ok (.sipush 9999, 3) := by decide +kernel
theorem dX10_in_94 : decode cX10_in 94 = .ok (.if_icmp .gt 44, 3) := by decide +kernel
theorem dX10_in_97 : decode cX10_in 97 = .ok (.aload_n 0, 1) := by decide +kernel
theorem dX10_in_98 : decode cX10_in 98 = .ok (.aload_n 0, 1) := by decide +kernel
theorem dX10_in_99 : decode cX10_in 99 = .ok (.iload 7, 2) := by decide +kernel
theorem dX10_in_101 : decode cX10_in 101 = .ok (.iload_n 2, 1) := by decide +kernel
theorem dX10_in_102 : decode cX10_in 102 = .ok (.invokevirtual 422, 3) := by decide +kernel
theorem dX10_in_105 : decode cX10_in 105 = .ok (.iload 5, 2) := by decide +kernel
theorem dX10_in_107 : decode cX10_in 107 = .ok (.isub, 1) := by decide +kernel
theorem dX10_in_108 : decode cX10_in 108 = .ok (.invokevirtual 309, 3) := by decide +kernel
theorem dX10_in_111 : decode cX10_in 111 = .ok (.aload_n 0, 1) := by decide +kernel
theorem dX10_in_112 : decode cX10_in 112 = .ok (.aload_n 0, 1) := by decide +kernel
theorem dX10_in_113 : decode cX10_in 113 = .ok (.iload 6, 2) := by decide +kernel
theorem dX10_in_115 : decode cX10_in 115 = .ok (.iload_n 2, 1) := by decide +kernel
theorem dX10_in_116 : decode cX10_in 116 = .ok (.invokevirtual 422, 3) := by decide +kernel
theorem dX10_in_119 : decode cX10_in 119 = .ok (.iload 5, 2) := by decide +kernel
theorem dX10_in_121 : decode cX10_in 121 = .ok (.isub, 1) := by decide +kernel
theorem dX10_in_122 : decode cX10_in 122 = .ok (.invokevirtual 309, 3) := by decide +kernel
theorem dX10_in_125 : decode cX10_in 125 = .ok (.if_icmp .ge 7, 3) := by decide +kernel
theorem dX10_in_128 : decode cX10_in 128 = .ok (.iload 7, 2) := by decide +kernel
theorem dX10_in_130 : decode cX10_in 130 = .ok (.istore 6, 2) := by decide +kernel
theorem dX10_in_132 : decode cX10_in 132 = .ok (.iinc 7 1, 3) := by decide +kernel
theorem dX10_in_135 : decode cX10_in 135 = .ok (.goto (-46), 3) := by decide +kernel
theorem dX10_in_138 : decode cX10_in 138 = .ok (.iload 6, 2) := by decide +kernel
theorem dX10_in_140 : decode cX10_in 140 = .ok (.ireturn, 1) := by decide +kernel
theorem dX10_night_0 : decode cX10_night 0 = .ok (.aload_n 0, 1) := by decide +kernel
theorem dX10_night_1 : decode cX10_night 1 = .ok (.iconst 0, 1) := by decide +kernel
theorem dX10_night_2 : decode cX10_night 2 = .ok (.putfield 167, 3) := by decide +kernel
theorem dX10_night_5 : decode cX10_night 5 = .ok (.aload_n 0, 1) := by decide +kernel
theorem dX10_night_6 : decode cX10_night 6 = .ok (.iload_n 1, 1) := by decide +kernel
theorem dX10_night_7 : decode cX10_night 7 = .ok (.invokevirtual 428, 3) := by decide +kernel
theorem dX10_night_10 : decode cX10_night 10 = .ok (.ifCond .eq 20, 3) := by decide +kernel
theorem dX10_night_13 : decode cX10_night 13 = .ok (.aload_n 0, 1) := by decide +kernel
theorem dX10_night_14 : decode cX10_night 14 = .ok (.iload_n 2, 1) := by decide +kernel
theorem dX10_night_15 : decode cX10_night 15 = .ok (.invokevirtual 431, 3) := by decide +kernel
theorem dX10_night_18 : decode cX10_night 18 = .ok (.ifCond .eq 12, 3) := by decide +kernel
theorem dX10_night_21 : decode cX10_night 21 = .ok (.aload_n 0, 1) := by decide +kernel
theorem dX10_night_22 : decode cX10_night 22 = .ok (.getfield 438, 3) := by decide +kernel
theorem dX10_night_25 : decode cX10_night 25 = .ok (.bipush 20, 2) := by decide +kernel
theorem dX10_night_27 : decode cX10_night 27 = .ok (.if_icmp .ne 5, 3) := by decide +kernel
theorem dX10_night_30 : decode cX10_night 30 = .ok (.iconst (-1), 1) := by decide +kernel
theorem dX10_night_31 : decode cX10_night 31 = .ok (.ireturn, 1) := by decide +kernel
theorem dX10_night_32 : decode cX10_night 32 = .ok (.aload_n 0, 1) := by decide +kernel
theorem dX10_night_33 : decode cX10_night 33 = .ok (.getfield 140, 3) := by decide +kernel
theorem dX10_night_36 : decode cX10_night 36 = .ok (.aload_n 0, 1) := by decide +kernel
theorem dX10_night_37 : decode cX10_night 37 = .ok (.getfield 438, 3) := by decide +kernel
theorem dX10_night_40 : decode cX10_night 40 = .ok (.iload_n 1, 1) := by decide +kernel
theorem dX10_night_41 : decode cX10_night 41 = .ok (.iastore, 1) := by decide +kernel
theorem dX10_night_42 : decode cX10_night 42 = .ok (.aload_n 0, 1) := by decide +kernel
theorem dX10_night_43 : decode cX10_night 43 = .ok (.getfield 143, 3) := by decide +kernel
theorem dX10_night_46 : decode cX10_night 46 = .ok (.aload_n 0, 1) := by decide +kernel
theorem dX10_night_47 : decode cX10_night 47 = .ok (.getfield 438, 3) := by decide +kernel
theorem dX10_night_50 : decode cX10_night 50 = .ok (.iload_n 2, 1) := by decide +kernel
theorem dX10_night_51 : decode cX10_night 51 = .ok (.iastore, 1) := by decide +kernel
theorem dX10_night_52 : decode cX10_night 52 = .ok (.aload_n 0, 1) := by decide +kernel
theorem dX10_night_53 : decode cX10_night 53 = .ok (.aload_n 0, 1) := by decide +kernel
theorem dX10_night_54 : decode cX10_night 54 = .ok (.getfield 438, 3) := by decide +kernel
theorem dX10_night_57 : decode cX10_night 57 = .ok (.iconst 1, 1) := by decide +kernel
theorem dX10_night_58 : decode cX10_night 58 = .ok (.iadd, 1) := by decide +kernel
theorem dX10_night_59 : decode cX10_night 59 = .ok (.putfield 438, 3) := by decide +kernel
theorem dX10_night_62 : decode cX10_night 62 = .ok (.aload_n 0, 1) := by decide +kernel
theorem dX10_night_63 : decode cX10_night 63 = .ok (.getfield 438, 3) := by decide +kernel
theorem dX10_night_66 : decode cX10_night 66 = .ok (.iconst 1, 1) := by decide +kernel
theorem dX10_night_67 : decode cX10_night 67 = .ok (.isub, 1) := by decide +kernel
theorem dX10_night_68 : decode cX10_night 68 = .ok (.ireturn, 1) := by decide +kernel
theorem dX10_nights_0 : decode cX10_nights 0 = .ok (.aload_n 0, 1) := by decide +kernel
theorem dX10_nights_1 : decode cX10_nights 1 = .ok (.iconst 0, 1) := by decide +kernel
theorem dX10_nights_2 : decode cX10_nights 2 = .ok (.putfield 167, 3) := by decide +kernel
theorem dX10_nights_5 : decode cX10_nights 5 = .ok (.iload_n 1, 1) := by decide +kernel
theorem dX10_nights_6 : decode cX10_nights 6 = .ok (.iconst (-1), 1) := by decide +kernel
theorem dX10_nights_7 : decode cX10_nights 7 = .ok (.if_icmp .ne 34, 3) := by decide +kernel
theorem dX10_nights_10 : decode cX10_nights 10 = .ok (.iconst 0, 1) := by decide +kernel
theorem dX10_nights_11 : decode cX10_nights 11 = .ok (.istore_n 3, 1) := by decide +kernel
theorem dX10_nights_12 : decode cX10_nights 12 = .ok (.iconst 0, 1) := by decide +kernel
theorem dX10_nights_13 : decode cX10_nights 13 = .ok (.istore 4, 2) := by decide +kernel
theorem dX10_nights_15 : decode cX10_nights 15 = .ok (.iload 4, 2) := by decide +kernel
theorem dX10_nights_17 : decode cX10_nights 17 = .ok (.aload_n 0, 1) := by decide +kernel
theorem dX10_nights_18 : decode cX10_nights 18 = .ok (.getfield 438, 3) := by decide +kernel
theorem dX10_nights_21 : decode cX10_nights 21 = .ok (.if_icmp .ge 18, 3) := by decide +kernel
theorem dX10_nights_24 : decode cX10_nights 24 = .ok (.iload_n 3, 1) := by decide +kernel
theorem dX10_nights_25 : decode cX10_nights 25 = .ok (.aload_n 0, 1) := by decide +kernel
theorem dX10_nights_26 : decode cX10_nights 26 = .ok (.iload 4, 2) := by decide +kernel
theorem dX10_nights_28 : decode cX10_nights 28 = .ok (.invokevirtual 449, 3) := by decide +kernel
theorem dX10_nights_31 : decode cX10_nights 31 = .ok (.iadd, 1) := by decide +kernel
theorem dX10_nights_32 : decode cX10_nights 32 = .ok (.istore_n 3, 1) := by decide +kernel
theorem dX10_nights_33 : decode cX10_nights 33 = .ok (.iinc 4 1, 3) := by decide +kernel
theorem dX10_nights_36 : decode cX10_nights 36 = .ok (.goto (-21), 3) := by decide +kernel
theorem dX10_nights_39 : decode cX10_nights 39 = .ok (.iload_n 3, 1) := by decide +kernel
theorem dX10_nights_40 : decode cX10_nights 40 = .ok (.ireturn, 1) := by decide +kernel
theorem dX10_nights_41 : decode cX10_nights 41 = .ok (.aload_n 0, 1) := by decide +kernel
theorem dX10_nights_42 : decode cX10_nights 42 = .ok (.iload_n 1, 1) := by decide +kernel
theorem dX10_nights_43 : decode cX10_nights 43 = .ok (.iconst 0, 1) := by decide +kernel
theorem dX10_nights_44 : decode cX10_nights 44 = .ok (.aload_n 0, 1) := by decide +kernel
theorem dX10_nights_45 : decode cX10_nights 45 = .ok (.getfield 438, 3) := by decide +kernel
theorem dX10_nights_48 : decode cX10_nights 48 = .ok (.iconst 1, 1) := by decide +kernel
theorem dX10_nights_49 : decode cX10_nights 49 = .ok (.isub, 1) := by decide +kernel
theorem dX10_nights_50 : decode cX10_nights 50 = .ok (.invokevirtual 177, 3) := by decide +kernel
theorem dX10_nights_53 : decode cX10_nights 53 = .ok (.ifCond .ne 6, 3) := by decide +kernel
theorem dX10_nights_56 : decode cX10_nights 56 = .ok (.bipush (-2), 2) := by decide +kernel
theorem dX10_nights_58 : decode cX10_nights 58 = .ok (.ireturn, 1) := by decide +kernel
theorem dX10_nights_59 : decode cX10_nights 59 = .ok (.iload_n 2, 1) := by decide +kernel
theorem dX10_nights_60 : decode cX10_nights 60 = .ok (.ifCond .eq 8, 3) := by decide +kernel
theorem dX10_nights_63 : decode cX10_nights 63 = .ok (.iload_n 2, 1) := by decide +kernel
theorem dX10_nights_64 : decode cX10_nights 64 = .ok (.iconst 1, 1) := by decide +kernel
theorem dX10_nights_65 : decode cX10_nights 65 = .ok (.if_icmp .ne 10, 3) := by decide +kernel
theorem dX10_nights_68 : decode cX10_nights 68 = .ok (.aload_n 0, 1) := by decide +kernel
theorem dX10_nights_69 : decode cX10_nights 69 = .ok (.iload_n 1, 1) := by decide +kernel
theorem dX10_nights_70 : decode cX10_nights 70 = .ok (.iload_n 2, 1) := by decide +kernel
theorem dX10_nights_71 : decode cX10_nights 71 = .ok (.invokevirtual 441, 3) := by decide +kernel
theorem dX10_nights_74 : decode cX10_nights 74 = .ok (.ireturn, 1) := by decide +kernel
theorem dX10_nights_75 : decode cX10_nights 75 = .ok (.iload_n 2, 1) := by decide +kernel
theorem dX10_nights_76 : decode cX10_nights 76 = .ok (.iconst 2, 1) := by decide +kernel
theorem dX10_nights_77 : decode cX10_nights 77 = .ok (.if_icmp .ne 11, 3) := by decide +kernel
theorem dX10_nights_80 : decode cX10_nights 80 = .ok (.aload_n 0, 1) := by decide +kernel
theorem dX10_nights_81 : decode cX10_nights 81 = .ok (.iload_n 1, 1) := by decide +kernel
theorem dX10_nights_82 : decode cX10_nights 82 = .ok (.invokevirtual 449, 3) := by decide +kernel
theorem dX10_nights_85 : decode cX10_nights 85 = .ok (.goto 18, 3) := by decide +kernel
theorem dX10_nights_88 : decode cX10_nights 88 = .ok (.iload_n 2, 1) := by decide +kernel
theorem dX10_nights_89 : decode cX10_nights 89 = .ok (.iconst 3, 1) := by decide +kernel
theorem dX10_nights_90 : decode cX10_nights 90 = .ok (.if_icmp .ne 11, 3) := by decide +kernel
theorem dX10_nights_93 : decode cX10_nights 93 = .ok (.aload_n 0, 1) := by decide +kernel
theorem dX10_nights_94 : decode cX10_nights 94 = .ok (.iload_n 1, 1) := by decide +kernel
theorem dX10_nights_95 : decode cX10_nights 95 = .ok (.invokevirtual 452, 3) := by decide +kernel
theorem dX10_nights_98 : decode cX10_nights 98 = .ok (.goto 5, 3) := by decide +kernel
theorem dX10_nights_101 : decode cX10_nights 101 = .ok (.bipush (-2), 2) := by decide +kernel
theorem dX10_nights_103 : decode cX10_nights 103 = .ok (.ireturn, 1) := by decide +kernel
theorem dX10_note_0 : decode cX10_note 0 = .ok (.aload_n 0, 1) := by decide +kernel
theorem dX10_note_1 : decode cX10_note 1 = .ok (.iconst 0, 1) := by decide +kernel
theorem dX10_note_2 : decode cX10_note 2 = .ok (.putfield 167, 3) := by decide +kernel
theorem dX10_note_5 : decode cX10_note 5 = .ok (.aload_n 0, 1) := by decide +kernel
theorem dX10_note_6 : decode cX10_note 6 = .ok (.iload_n 1, 1) := by decide +kernel
theorem dX10_note_7 : decode cX10_note 7 = .ok (.iconst 1, 1) := by decide +kernel
theorem dX10_note_8 : decode cX10_note 8 = .ok (.ldc_w 348, 3) := by decide +kernel
theorem dX10_note_11 : decode cX10_note 11 = .ok (.invokevirtual 177, 3) := by decide +kernel
theorem dX10_note_14 : decode cX10_note 14 = .ok (.ifCond .eq 23, 3) := by decide +kernel
theorem dX10_note_17 : decode cX10_note 17 = .ok (.aload_n 0, 1) := by decide +kernel
theorem dX10_note_18 : decode cX10_note 18 = .ok (.iload_n 2, 1) := by decide +kernel
theorem dX10_note_19 : decode cX10_note 19 = .ok (.iconst 1, 1) := by decide +kernel
theorem dX10_note_20 : decode cX10_note 20 = .ok (.bipush 99, 2) := by decide +kernel
theorem dX10_note_22 : decode cX10_note 22 = .ok (.invokevirtual 177, 3) := by decide +kernel
theorem dX10_note_25 : decode cX10_note 25 = .ok (.ifCond .eq 12, 3) := by decide +kernel
theorem dX10_note_28 : decode cX10_note 28 = .ok (.aload_n 0, 1) := by decide +kernel
theorem dX10_note_29 : decode cX10_note 29 = .ok (.getfield 455, 3) := by decide +kernel
theorem dX10_note_32 : decode cX10_note 32 = .ok (.bipush 8, 2) := by decide +kernel
theorem dX10_note_34 : decode cX10_note 34 = .ok (.if_icmp .ne 5, 3) := by decide +kernel
theorem dX10_note_37 : decode cX10_note 37 = .ok (.iconst (-1), 1) := by decide +kernel
theorem dX10_note_38 : decode cX10_note 38 = .ok (.ireturn, 1) := by decide +kernel
theorem dX10_note_39 : decode cX10_note 39 = .ok (.aload_n 0, 1) := by decide +kernel
theorem dX10_note_40 : decode cX10_note 40 = .ok (.getfield 146, 3) := by decide +kernel
theorem dX10_note_43 : decode cX10_note 43 = .ok (.aload_n 0, 1) := by decide +kernel
theorem dX10_note_44 : decode cX10_note 44 = .ok (.getfield 455, 3) := by decide +kernel
theorem dX10_note_47 : decode cX10_note 47 = .ok (.iload_n 1, 1) := by decide +kernel
theorem dX10_note_48 : decode cX10_note 48 = .ok (.iastore, 1) := by decide +kernel
theorem dX10_note_49 : decode cX10_note 49 = .ok (.aload_n 0, 1) := by decide +kernel
theorem dX10_note_50 : decode cX10_note 50 = .ok (.getfield 149, 3) := by decide +kernel
theorem dX10_note_53 : decode cX10_note 53 = .ok (.aload_n 0, 1) := by decide +kernel
theorem dX10_note_54 : decode cX10_note 54 = .ok (.getfield 455, 3) := by decide +kernel
theorem dX10_note_57 : decode cX10_note 57 = .ok (.iload_n 2, 1) := by decide +kernel
theorem dX10_note_58 : decode cX10_note 58 = .ok (.iastore, 1) := by decide +kernel
theorem dX10_note_59 : decode cX10_note 59 = .ok (.aload_n 0, 1) := by decide +kernel
theorem dX10_note_60 : decode cX10_note 60 = .ok (.aload_n 0, 1) := by decide +kernel
theorem dX10_note_61 : decode cX10_note 61 = .ok (.getfield 455, 3) := by decide +kernel
theorem dX10_note_64 : decode cX10_note 64 = .ok (.iconst 1, 1) := by decide +kernel
theorem dX10_note_65 : decode cX10_note 65 = .ok (.iadd, 1) := by decide +kernel
theorem dX10_note_66 : decode cX10_note 66 = .ok (.putfield 455, 3) := by decide +kernel
theorem dX10_note_69 : decode cX10_note 69 = .ok (.aload_n 0, 1) := by decide +kernel
theorem dX10_note_70 : decode cX10_note 70 = .ok (.getfield 455, 3) := by decide +kernel
theorem dX10_note_73 : decode cX10_note 73 = .ok (.iconst 1, 1) := by decide +kernel
theorem dX10_note_74 : decode cX10_note 74 = .ok (.isub, 1) := by decide +kernel
theorem dX10_note_75 : decode cX10_note 75 = .ok (.ireturn, 1) := by decide +kernel
theorem dX10_blank_0 : decode cX10_blank 0 = .ok (.aload_n 0, 1) := by decide +kernel
theorem dX10_blank_1 : decode cX10_blank 1 = .ok (.iconst 0, 1) := by decide +kernel
theorem dX10_blank_2 : decode cX10_blank 2 = .ok (.putfield 167, 3) := by decide +kernel
theorem dX10_blank_5 : decode cX10_blank 5 = .ok (.aload_n 0, 1) := by decide +kernel
theorem dX10_blank_6 : decode cX10_blank 6 = .ok (.iload_n 1, 1) := by decide +kernel
theorem dX10_blank_7 : decode cX10_blank 7 = .ok (.iconst 1, 1) := by decide +kernel
theorem dX10_blank_8 : decode cX10_blank 8 = .ok (.bipush 99, 2) := by decide +kernel
theorem dX10_blank_10 : decode cX10_blank 10 = .ok (.invokevirtual 177, 3) := by decide +kernel
theorem dX10_blank_13 : decode cX10_blank 13 = .ok (.ifCond .eq 23, 3) := by decide +kernel
theorem dX10_blank_16 : decode cX10_blank 16 = .ok (.aload_n 0, 1) := by decide +kernel
theorem dX10_blank_17 : decode cX10_blank 17 = .ok (.iload_n 2, 1) := by decide +kernel
theorem dX10_blank_18 : decode cX10_blank 18 = .ok (.iconst 0, 1) := by decide +kernel
theorem dX10_blank_19 : decode cX10_blank 19 = .ok (.bipush 99, 2) := by decide +kernel
theorem dX10_blank_21 : decode cX10_blank 21 = .ok (.invokevirtual 177, 3) := by decide +kernel
theorem dX10_blank_24 : decode cX10_blank 24 = .ok (.ifCond .eq 12, 3) := by decide +kernel
theorem dX10_blank_27 : decode cX10_blank 27 = .ok (.aload_n 0, 1) := by decide +kernel
theorem dX10_blank_28 : decode cX10_blank 28 = .ok (.getfield 458, 3) := by decide +kernel
theorem dX10_blank_31 : decode cX10_blank 31 = .ok (.bipush 8, 2) := by decide +kernel
theorem dX10_blank_33 : decode cX10_blank 33 = .ok (.if_icmp .ne 5, 3) := by decide +kernel
theorem dX10_blank_36 : decode cX10_blank 36 = .ok (.iconst (-1), 1) := by decide +kernel
theorem dX10_blank_37 : decode cX10_blank 37 = .ok (.ireturn, 1) := by decide +kernel
theorem dX10_blank_38 : decode cX10_blank 38 = .ok (.aload_n 0, 1) := by decide +kernel
theorem dX10_blank_39 : decode cX10_blank 39 = .ok (.getfield 152, 3) := by decide +kernel
theorem dX10_blank_42 : decode cX10_blank 42 = .ok (.aload_n 0, 1) := by decide +kernel
theorem dX10_blank_43 : decode cX10_blank 43 = .ok (.getfield 458, 3) := by decide +kernel
theorem dX10_blank_46 : decode cX10_blank 46 = .ok (.iload_n 1, 1) := by decide +kernel
theorem dX10_blank_47 : decode cX10_blank 47 = .ok (.iastore, 1) := by decide +kernel
theorem dX10_blank_48 : decode cX10_blank 48 = .ok (.aload_n 0, 1) := by decide +kernel
theorem dX10_blank_49 : decode cX10_blank 49 = .ok (.getfield 155, 3) := by decide +kernel
theorem dX10_blank_52 : decode cX10_blank 52 = .ok (.aload_n 0, 1) := by decide +kernel
theorem dX10_blank_53 : decode cX10_blank 53 = .ok (.getfield 458, 3) := by decide +kernel
theorem dX10_blank_56 : decode cX10_blank 56 = .ok (.iload_n 2, 1) := by decide +kernel
theorem dX10_blank_57 : decode cX10_blank 57 = .ok (.iastore, 1) := by decide +kernel
theorem dX10_blank_58 : decode cX10_blank 58 = .ok (.aload_n 0, 1) := by decide +kernel
theorem dX10_blank_59 : decode cX10_blank 59 = .ok (.aload_n 0, 1) := by decide +kernel
theorem dX10_blank_60 : decode cX10_blank 60 = .ok (.getfield 458, 3) := by decide +kernel
theorem dX10_blank_63 : decode cX10_blank 63 = .ok (.iconst 1, 1) := by decide +kernel
theorem dX10_blank_64 : decode cX10_blank 64 = .ok (.iadd, 1) := by decide +kernel
theorem dX10_blank_65 : decode cX10_blank 65 = .ok (.putfield 458, 3) := by decide +kernel
theorem dX10_blank_68 : decode cX10_blank 68 = .ok (.aload_n 0, 1) := by decide +kernel
theorem dX10_blank_69 : decode cX10_blank 69 = .ok (.getfield 458, 3) := by decide +kernel
theorem dX10_blank_72 : decode cX10_blank 72 = .ok (.iconst 1, 1) := by decide +kernel
theorem dX10_blank_73 : decode cX10_blank 73 = .ok (.isub, 1) := by decide +kernel
theorem dX10_blank_74 : decode cX10_blank 74 = .ok (.ireturn, 1) := by decide +kernel
theorem dX10_leastWaste_0 : decode cX10_leastWaste 0 = .ok (.iconst (-1), 1) := by decide +kernel
theorem dX10_leastWaste_1 : decode cX10_leastWaste 1 = .ok (.istore_n 2, 1) := by decide +kernel
theorem dX10_leastWaste_2 : decode cX10_leastWaste 2 = .ok (.iconst 0, 1) := by decide +kernel
theorem dX10_leastWaste_3 : decode cX10_leastWaste 3 = .ok (.istore_n 3, 1) := by decide +kernel
theorem dX10_leastWaste_4 : decode cX10_leastWaste 4 = .ok (.iconst 0, 1) := by decide +kernel
theorem dX10_leastWaste_5 : decode cX10_leastWaste 5 = .ok (.istore 4, 2) := by decide +kernel
theorem dX10_leastWaste_7 : decode cX10_leastWaste 7 = .ok (.iload 4, 2) := by decide +kernel
theorem dX10_leastWaste_9 : decode cX10_leastWaste 9 = .ok (.bipush 8, 2) := by decide +kernel
theorem dX10_leastWaste_11 : decode cX10_leastWaste 11 = .ok (.if_icmp .ge 17, 3) := by decide +kernel
theorem dX10_leastWaste_14 : decode cX10_leastWaste 14 = .ok (.aload_n 0, 1) := by decide +kernel
theorem dX10_leastWaste_15 : decode cX10_leastWaste 15 = .ok (.getfield 158, 3) := by decide +kernel
theorem dX10_leastWaste_18 : decode cX10_leastWaste 18 = .ok (.iload 4, 2) := by decide +kernel
theorem dX10_leastWaste_20 : decode cX10_leastWaste 20 = .ok (.iconst (-1), 1) := by decide +kernel
theorem dX10_leastWaste_21 : decode cX10_leastWaste 21 = .ok (.iastore, 1) := by decide +kernel
theorem dX10_leastWaste_22 : decode cX10_leastWaste 22 = .ok (.iinc 4 1, 3) := by decide +kernel
theorem dX10_leastWaste_25 : decode cX10_leastWaste 25 = .ok (.goto (-18), 3) := by decide +kernel
theorem dX10_leastWaste_28 : decode cX10_leastWaste 28 = .ok (.aload_n 0, 1) := by decide +kernel
theorem dX10_leastWaste_29 : decode cX10_leastWaste 29 = .ok (.getfield 455, 3) := by decide +kernel
theorem dX10_leastWaste_32 : decode cX10_leastWaste 32 = .ok (.ifCond .ne 5, 3) := by decide +kernel
theorem dX10_leastWaste_35 : decode cX10_leastWaste 35 = .ok (.iconst 0, 1) := by decide +kernel
theorem dX10_leastWaste_36 : decode cX10_leastWaste 36 = .ok (.ireturn, 1) := by decide +kernel
theorem dX10_leastWaste_37 : decode cX10_leastWaste 37 = .ok (.iload_n 3, 1) := by decide +kernel
theorem dX10_leastWaste_38 : decode cX10_leastWaste 38 = .ok (.ifCond .lt 171, 3) := by decide +kernel
theorem dX10_leastWaste_41 : decode cX10_leastWaste 41 = .ok (.aload_n 0, 1) := by decide +kernel
theorem dX10_leastWaste_42 : decode cX10_leastWaste 42 = .ok (.getfield 158, 3) := by decide +kernel
theorem dX10_leastWaste_45 : decode cX10_leastWaste 45 = .ok (.iload_n 3, 1) := by decide +kernel
theorem dX10_leastWaste_46 : decode cX10_leastWaste 46 = .ok (.aload_n 0, 1) := by decide +kernel
theorem dX10_leastWaste_47 : decode cX10_leastWaste 47 = .ok (.getfield 158, 3) := by decide +kernel
theorem dX10_leastWaste_50 : decode cX10_leastWaste 50 = .ok (.iload_n 3, 1) := by decide +kernel
theorem dX10_leastWaste_51 : decode cX10_leastWaste 51 = .ok (.iaload, 1) := by decide +kernel
theorem dX10_leastWaste_52 : decode cX10_leastWaste 52 = .ok (.iconst 1, 1) := by decide +kernel
theorem dX10_leastWaste_53 : decode cX10_leastWaste 53 = .ok (.iadd, 1) := by decide +kernel
theorem dX10_leastWaste_54 : decode cX10_leastWaste 54 = .ok (.iastore, 1) := by decide +kernel
theorem dX10_leastWaste_55 : decode cX10_leastWaste 55 = .ok (.aload_n 0, 1) := by decide +kernel
theorem dX10_leastWaste_56 : decode cX10_leastWaste 56 = .ok (.getfield 158, 3) := by decide +kernel
theorem dX10_leastWaste_59 : decode cX10_leastWaste 59 = .ok (.iload_n 3, 1) := by decide +kernel
theorem dX10_leastWaste_60 : decode cX10_leastWaste 60 = .ok (.iaload, 1) := by decide +kernel
theorem dX10_leastWaste_61 : decode cX10_leastWaste 61 = .ok (.aload_n 0, 1) := by decide +kernel
theorem dX10_leastWaste_62 : decode cX10_leastWaste 62 = .ok (.getfield 458, 3) := by decide +kernel
theorem dX10_leastWaste_65 : decode cX10_leastWaste 65 = .ok (.if_icmp .lt 17, 3) := by decide +kernel
theorem dX10_leastWaste_68 : decode cX10_leastWaste 68 = .ok (.aload_n 0, 1) := by decide +kernel
theorem dX10_leastWaste_69 : decode cX10_leastWaste 69 = .ok (.getfield 158, 3) := by decide +kernel
theorem dX10_leastWaste_72 : decode cX10_leastWaste 72 = .ok (.iload_n 3, 1) := by decide +kernel
theorem dX10_leastWaste_73 : decode cX10_leastWaste 73 = .ok (.iconst (-1), 1) := by decide +kernel
theorem dX10_leastWaste_74 : decode cX10_leastWaste 74 = .ok (.iastore, 1) := by decide +kernel
theorem dX10_leastWaste_75 : decode cX10_leastWaste 75 = .ok (.iload_n 3, 1) := by decide +kernel
theorem dX10_leastWaste_76 : decode cX10_leastWaste 76 = .ok (.iconst 1, 1) := by decide +kernel
theorem dX10_leastWaste_77 : decode cX10_leastWaste 77 = .ok (.isub, 1) := by decide +kernel
theorem dX10_leastWaste_78 : decode cX10_leastWaste 78 = .ok (.istore_n 3, 1) := by decide +kernel
theorem dX10_leastWaste_79 : decode cX10_leastWaste 79 = .ok (.goto (-42), 3) := by decide +kernel
theorem dX10_leastWaste_82 : decode cX10_leastWaste 82 = .ok (.aload_n 0, 1) := by decide +kernel
theorem dX10_leastWaste_83 : decode cX10_leastWaste 83 = .ok (.iload_n 3, 1) := by decide +kernel
theorem dX10_leastWaste_84 : decode cX10_leastWaste 84 = .ok (.iload_n 1, 1) := by decide +kernel
theorem dX10_leastWaste_85 : decode cX10_leastWaste 85 = .ok (.invokevirtual 461, 3) := by decide +kernel
theorem dX10_leastWaste_88 : decode cX10_leastWaste 88 = .ok (.ifCond .ne 6, 3) := by decide +kernel
theorem dX10_leastWaste_91 : decode cX10_leastWaste 91 = .ok (.goto (-54), 3) := by decide +kernel
theorem dX10_leastWaste_94 : decode cX10_leastWaste 94 = .ok (.iload_n 3, 1) := by decide +kernel
theorem dX10_leastWaste_95 : decode cX10_leastWaste 95 = .ok (.aload_n 0, 1) := by decide +kernel
theorem dX10_leastWaste_96 : decode cX10_leastWaste 96 = .ok (.getfield 455, 3) := by decide +kernel
theorem dX10_leastWaste_99 : decode cX10_leastWaste 99 = .ok (.iconst 1, 1) := by decide +kernel
theorem dX10_leastWaste_100 : decode cX10_leastWaste 100 = .ok (.isub, 1) := by decide +kernel
theorem dX10_leastWaste_101 : decode cX10_leastWaste 101 = .ok (.if_icmp .ge 10, 3) := by decide +kernel
theorem dX10_leastWaste_104 : decode cX10_leastWaste 104 = .ok (.iload_n 3, 1) := by decide +kernel
theorem dX10_leastWaste_105 : decode cX10_leastWaste 105 = .ok (.iconst 1, 1) := by decide +kernel
theorem dX10_leastWaste_106 : decode cX10_leastWaste 106 = .ok (.iadd, 1) := by decide +kernel
theorem dX10_leastWaste_107 : decode cX10_leastWaste 107 = .ok (.istore_n 3, 1) := by decide +kernel
theorem dX10_leastWaste_108 : decode cX10_leastWaste 108 = .ok (.goto (-71), 3) := by decide +kernel
theorem dX10_leastWaste_111 : decode cX10_leastWaste 111 = .ok (.iconst 0, 1) := by decide +kernel
theorem dX10_leastWaste_112 : decode cX10_leastWaste 112 = .ok (.istore 4, 2) := by decide +kernel
theorem dX10_leastWaste_114 : decode cX10_leastWaste 114 = .ok (.iconst 0, 1) := by decide +kernel
theorem dX10_leastWaste_115 : decode cX10_leastWaste 115 = .ok (.istore 5, 2) := by decide +kernel
theorem dX10_leastWaste_117 : decode cX10_leastWaste 117 = .ok (.iload 5, 2) := by decide +kernel
theorem dX10_leastWaste_119 : decode cX10_leastWaste 119 = .ok (.aload_n 0, 1) := by decide +kernel
theorem dX10_leastWaste_120 : decode cX10_leastWaste 120 = .ok (.getfield 455, 3) := by decide +kernel
theorem dX10_leastWaste_123 : decode cX10_leastWaste 123 = .ok (.if_icmp .ge 34, 3) := by decide +kernel
theorem dX10_leastWaste_126 : decode cX10_leastWaste 126 = .ok (.iload 4, 2) := by decide +kernel
theorem dX10_leastWaste_128 : decode cX10_leastWaste 128 = .ok (.aload_n 0, 1) := by decide +kernel
theorem dX10_leastWaste_129 : decode cX10_leastWaste 129 = .ok (.getfield 152, 3) := by decide +kernel
theorem dX10_leastWaste_132 : decode cX10_leastWaste 132 = .ok (.aload_n 0, 1) := by decide +kernel
theorem dX10_leastWaste_133 : decode cX10_leastWaste 133 = .ok (.getfield 158, 3) := by decide +kernel
theorem dX10_leastWaste_136 : decode cX10_leastWaste 136 = .ok (.iload 5, 2) := by decide +kernel
theorem dX10_leastWaste_138 : decode cX10_leastWaste 138 = .ok (.iaload, 1) := by decide +kernel
theorem dX10_leastWaste_139 : decode cX10_leastWaste 139 = .ok (.iaload, 1) := by decide +kernel
theorem dX10_leastWaste_140 : decode cX10_leastWaste 140 = .ok (.iadd, 1) := by decide +kernel
theorem dX10_leastWaste_141 : decode cX10_leastWaste 141 = .ok (.aload_n 0, 1) := by decide +kernel
theorem dX10_leastWaste_142 : decode cX10_leastWaste 142 = .ok (.getfield 149, 3) := by decide +kernel
theorem dX10_leastWaste_145 : decode cX10_leastWaste 145 = .ok (.iload 5, 2) := by decide +kernel
theorem dX10_leastWaste_147 : decode cX10_leastWaste 147 = .ok (.iaload, 1) := by decide +kernel
theorem dX10_leastWaste_148 : decode cX10_leastWaste 148 = .ok (.isub, 1) := by decide +kernel
theorem dX10_leastWaste_149 : decode cX10_leastWaste 149 = .ok (.istore 4, 2) := by decide +kernel
theorem dX10_leastWaste_151 : decode cX10_leastWaste 151 = .ok (.iinc 5 1, 3) := by decide +kernel
theorem dX10_leastWaste_154 : decode cX10_leastWaste 154 = .ok (.goto (-37), 3) := by decide +kernel
theorem dX10_leastWaste_157 : decode cX10_leastWaste 157 = .ok (.iload_n 2, 1) := by decide +kernel
theorem dX10_leastWaste_158 : decode cX10_leastWaste 158 = .ok (.iconst (-1), 1) := by decide +kernel
theorem dX10_leastWaste_159 : decode cX10_leastWaste 159 = .ok (.if_icmp .eq 12, 3) := by decide +kernel
theorem dX10_leastWaste_162 : decode cX10_leastWaste 162 = .ok (.iload 4, 2) := by decide +kernel
theorem dX10_leastWaste_164 : decode cX10_leastWaste 164 = .ok (.iload_n 2, 1) := by decide +kernel
theorem dX10_leastWaste_165 : decode cX10_leastWaste 165 = .ok (.if_icmp .lt 6, 3) := by decide +kernel
theorem dX10_leastWaste_168 : decode cX10_leastWaste 168 = .ok (.goto (-131), 3) := by decide +kernel
theorem dX10_leastWaste_171 : decode cX10_leastWaste 171 = .ok (.iload 4, 2) := by decide +kernel
theorem dX10_leastWaste_173 : decode cX10_leastWaste 173 = .ok (.istore_n 2, 1) := by decide +kernel
theorem dX10_leastWaste_174 : decode cX10_leastWaste 174 = .ok (.iconst 0, 1) := by decide +kernel
theorem dX10_leastWaste_175 : decode cX10_leastWaste 175 = .ok (.istore 5, 2) := by decide +kernel
theorem dX10_leastWaste_177 : decode cX10_leastWaste 177 = .ok (.iload 5, 2) := by decide +kernel
theorem dX10_leastWaste_179 : decode cX10_leastWaste 179 = .ok (.aload_n 0, 1) := by decide +kernel
theorem dX10_leastWaste_180 : decode cX10_leastWaste 180 = .ok (.getfield 455, 3) := by decide +kernel
theorem dX10_leastWaste_183 : decode cX10_leastWaste 183 = .ok (.if_icmp .ge 23, 3) := by decide +kernel
theorem dX10_leastWaste_186 : decode cX10_leastWaste 186 = .ok (.aload_n 0, 1) := by decide +kernel
theorem dX10_leastWaste_187 : decode cX10_leastWaste 187 = .ok (.getfield 161, 3) := by decide +kernel
theorem dX10_leastWaste_190 : decode cX10_leastWaste 190 = .ok (.iload 5, 2) := by decide +kernel
theorem dX10_leastWaste_192 : decode cX10_leastWaste 192 = .ok (.aload_n 0, 1) := by decide +kernel
theorem dX10_leastWaste_193 : decode cX10_leastWaste 193 = .ok (.getfield 158, 3) := by decide +kernel
theorem dX10_leastWaste_196 : decode cX10_leastWaste 196 = .ok (.iload 5, 2) := by decide +kernel
theorem dX10_leastWaste_198 : decode cX10_leastWaste 198 = .ok (.iaload, 1) := by decide +kernel
theorem dX10_leastWaste_199 : decode cX10_leastWaste 199 = .ok (.iastore, 1) := by decide +kernel
theorem dX10_leastWaste_200 : decode cX10_leastWaste 200 = .ok (.iinc 5 1, 3) := by decide +kernel
theorem dX10_leastWaste_203 : decode cX10_leastWaste 203 = .ok (.goto (-26), 3) := by decide +kernel
theorem dX10_leastWaste_206 : decode cX10_leastWaste 206 = .ok (.goto (-169), 3) := by decide +kernel
theorem dX10_leastWaste_209 : decode cX10_leastWaste 209 = .ok (.iload_n 2, 1) := by decide +kernel
theorem dX10_leastWaste_210 : decode cX10_leastWaste 210 = .ok (.ireturn, 1) := by decide +kernel
theorem dX10_set_0 : decode cX10_set 0 = .ok (.aload_n 0, 1) := by decide +kernel
theorem dX10_set_1 : decode cX10_set 1 = .ok (.iconst 0, 1) := by decide +kernel
theorem dX10_set_2 : decode cX10_set 2 = .ok (.putfield 167, 3) := by decide +kernel
theorem dX10_set_5 : decode cX10_set 5 = .ok (.aload_n 0, 1) := by decide +kernel
theorem dX10_set_6 : decode cX10_set 6 = .ok (.iload_n 1, 1) := by decide +kernel
theorem dX10_set_7 : decode cX10_set 7 = .ok (.iconst 0, 1) := by decide +kernel
theorem dX10_set_8 : decode cX10_set 8 = .ok (.bipush 99, 2) := by decide +kernel
theorem dX10_set_10 : decode cX10_set 10 = .ok (.invokevirtual 177, 3) := by decide +kernel
theorem dX10_set_13 : decode cX10_set 13 = .ok (.ifCond .eq 16, 3) := by decide +kernel
theorem dX10_set_16 : decode cX10_set 16 = .ok (.aload_n 0, 1) := by decide +kernel
theorem dX10_set_17 : decode cX10_set 17 = .ok (.iload_n 2, 1) := by decide +kernel
theorem dX10_set_18 : decode cX10_set 18 = .ok (.iconst 0, 1) := by decide +kernel
theorem dX10_set_19 : decode cX10_set 19 = .ok (.aload_n 0, 1) := by decide +kernel
theorem dX10_set_20 : decode cX10_set 20 = .ok (.getfield 455, 3) := by decide +kernel
theorem dX10_set_23 : decode cX10_set 23 = .ok (.invokevirtual 177, 3) := by decide +kernel
theorem dX10_set_26 : decode cX10_set 26 = .ok (.ifCond .ne 5, 3) := by decide +kernel
theorem dX10_set_29 : decode cX10_set 29 = .ok (.iconst (-1), 1) := by decide +kernel
theorem dX10_set_30 : decode cX10_set 30 = .ok (.ireturn, 1) := by decide +kernel
theorem dX10_set_31 : decode cX10_set 31 = .ok (.aload_n 0, 1) := by decide +kernel
theorem dX10_set_32 : decode cX10_set 32 = .ok (.iload_n 1, 1) := by decide +kernel
theorem dX10_set_33 : decode cX10_set 33 = .ok (.invokevirtual 464, 3) := by decide +kernel
theorem dX10_set_36 : decode cX10_set 36 = .ok (.istore_n 3, 1) := by decide +kernel
theorem dX10_set_37 : decode cX10_set 37 = .ok (.iload_n 2, 1) := by decide +kernel
theorem dX10_set_38 : decode cX10_set 38 = .ok (.ifCond .eq 8, 3) := by decide +kernel
theorem dX10_set_41 : decode cX10_set 41 = .ok (.iload_n 3, 1) := by decide +kernel
theorem dX10_set_42 : decode cX10_set 42 = .ok (.iconst (-1), 1) := by decide +kernel
theorem dX10_set_43 : decode cX10_set 43 = .ok (.if_icmp .ne 7, 3) := by decide +kernel
theorem dX10_set_46 : decode cX10_set 46 = .ok (.iload_n 3, 1) := by decide +kernel
theorem dX10_set_47 : decode cX10_set 47 = .ok (.goto 11, 3) := by decide +kernel
theorem dX10_set_50 : decode cX10_set 50 = .ok (.aload_n 0, 1) := by decide +kernel
theorem dX10_set_51 : decode cX10_set 51 = .ok (.getfield 161, 3) := by decide +kernel
theorem dX10_set_54 : decode cX10_set 54 = .ok (.iload_n 2, 1) := by decide +kernel
theorem dX10_set_55 : decode cX10_set 55 = .ok (.iconst 1, 1) := by decide +kernel
theorem dX10_set_56 : decode cX10_set 56 = .ok (.isub, 1) := by decide +kernel
theorem dX10_set_57 : decode cX10_set 57 = .ok (.iaload, 1) := by decide +kernel
theorem dX10_set_58 : decode cX10_set 58 = .ok (.ireturn, 1) := by decide +kernel
theorem dX10_down_0 : decode cX10_down 0 = .ok (.aload_n 0, 1) := by decide +kernel
theorem dX10_down_1 : decode cX10_down 1 = .ok (.iconst 0, 1) := by decide +kernel
theorem dX10_down_2 : decode cX10_down 2 = .ok (.putfield 167, 3) := by decide +kernel
theorem dX10_down_5 : decode cX10_down 5 = .ok (.aload_n 0, 1) := by decide +kernel
theorem dX10_down_6 : decode cX10_down 6 = .ok (.iload_n 1, 1) := by decide +kernel
theorem dX10_down_7 : decode cX10_down 7 = .ok (.invokevirtual 173, 3) := by decide +kernel
theorem dX10_down_10 : decode cX10_down 10 = .ok (.ifCond .ne 5, 3) := by decide +kernel
theorem dX10_down_13 : decode cX10_down 13 = .ok (.iconst (-1), 1) := by decide +kernel
theorem dX10_down_14 : decode cX10_down 14 = .ok (.ireturn, 1) := by decide +kernel
theorem dX10_down_15 : decode cX10_down 15 = .ok (.aload_n 0, 1) := by decide +kernel
theorem dX10_down_16 : decode cX10_down 16 = .ok (.iload_n 1, 1) := by decide +kernel
theorem dX10_down_17 : decode cX10_down 17 = .ok (.iconst 0, 1) := by decide +kernel
theorem dX10_down_18 : decode cX10_down 18 = .ok (.invokevirtual 335, 3) := by decide +kernel
theorem dX10_down_21 : decode cX10_down 21 = .ok (.istore_n 2, 1) := by decide +kernel
theorem dX10_down_22 : decode cX10_down 22 = .ok (.iconst (-1), 1) := by decide +kernel
theorem dX10_down_23 : decode cX10_down 23 = .ok (.istore_n 3, 1) := by decide +kernel
theorem dX10_down_24 : decode cX10_down 24 = .ok (.iconst 0, 1) := by decide +kernel
theorem dX10_down_25 : decode cX10_down 25 = .ok (.istore 4, 2) := by decide +kernel
theorem dX10_down_27 : decode cX10_down 27 = .ok (.iload 4, 2) := by decide +kernel
theorem dX10_down_29 : decode cX10_down 29 = .ok (.aload_n 0, 1) := by decide +kernel
theorem dX10_down_30 : decode cX10_down 30 = .ok (.getfield 455, 3) := by decide +kernel
theorem dX10_down_33 : decode cX10_down 33 = .ok (.if_icmp .ge 49, 3) := by decide +kernel
theorem dX10_down_36 : decode cX10_down 36 = .ok (.aload_n 0, 1) := by decide +kernel
theorem dX10_down_37 : decode cX10_down 37 = .ok (.getfield 146, 3) := by decide +kernel
theorem dX10_down_40 : decode cX10_down 40 = .ok (.iload 4, 2) := by decide +kernel
theorem dX10_down_42 : decode cX10_down 42 = .ok (.iaload, 1) := by decide +kernel
theorem dX10_down_43 : decode cX10_down 43 = .ok (.iload_n 2, 1) := by decide +kernel
theorem dX10_down_44 : decode cX10_down 44 = .ok (.aload_n 0, 1) := by decide +kernel
theorem dX10_down_45 : decode cX10_down 45 = .ok (.getfield 7, 3) := by decide +kernel
theorem dX10_down_48 : decode cX10_down 48 = .ok (.iadd, 1) := by decide +kernel
theorem dX10_down_49 : decode cX10_down 49 = .ok (.if_icmp .gt 27, 3) := by decide +kernel
theorem dX10_down_52 : decode cX10_down 52 = .ok (.iload_n 3, 1) := by decide +kernel
theorem dX10_down_53 : decode cX10_down 53 = .ok (.iconst (-1), 1) := by decide +kernel
theorem dX10_down_54 : decode cX10_down 54 = .ok (.if_icmp .eq 19, 3) := by decide +kernel
theorem dX10_down_57 : decode cX10_down 57 = .ok (.aload_n 0, 1) := by decide +kernel
theorem dX10_down_58 : decode cX10_down 58 = .ok (.getfield 146, 3) := by decide +kernel
theorem dX10_down_61 : decode cX10_down 61 = .ok (.iload 4, 2) := by decide +kernel
theorem dX10_down_63 : decode cX10_down 63 = .ok (.iaload, 1) := by decide +kernel
theorem dX10_down_64 : decode cX10_down 64 = .ok (.aload_n 0, 1) := by decide +kernel
theorem dX10_down_65 : decode cX10_down 65 = .ok (.getfield 146, 3) := by decide +kernel
theorem dX10_down_68 : decode cX10_down 68 = .ok (.iload_n 3, 1) := by decide +kernel
theorem dX10_down_69 : decode cX10_down 69 = .ok (.iaload, 1) := by decide +kernel
theorem dX10_down_70 : decode cX10_down 70 = .ok (.if_icmp .le 6, 3) := by decide +kernel
theorem dX10_down_73 : decode cX10_down 73 = .ok (.iload 4, 2) := by decide +kernel
theorem dX10_down_75 : decode cX10_down 75 = .ok (.istore_n 3, 1) := by decide +kernel
theorem dX10_down_76 : decode cX10_down 76 = .ok (.iinc 4 1, 3) := by decide +kernel
theorem dX10_down_79 : decode cX10_down 79 = .ok (.goto (-52), 3) := by decide +kernel
theorem dX10_down_82 : decode cX10_down 82 = .ok (.iload_n 3, 1) := by decide +kernel
theorem dX10_down_83 : decode cX10_down 83 = .ok (.ireturn, 1) := by decide +kernel
theorem dX10_enough_0 : decode cX10_enough 0 = .ok (.aload_n 0, 1) := by decide +kernel
theorem dX10_enough_1 : decode cX10_enough 1 = .ok (.iconst 0, 1) := by decide +kernel
theorem dX10_enough_2 : decode cX10_enough 2 = .ok (.putfield 167, 3) := by decide +kernel
theorem dX10_enough_5 : decode cX10_enough 5 = .ok (.aload_n 0, 1) := by decide +kernel
theorem dX10_enough_6 : decode cX10_enough 6 = .ok (.iload_n 1, 1) := by decide +kernel
theorem dX10_enough_7 : decode cX10_enough 7 = .ok (.iload_n 2, 1) := by decide +kernel
theorem dX10_enough_8 : decode cX10_enough 8 = .ok (.invokevirtual 181, 3) := by decide +kernel
theorem dX10_enough_11 : decode cX10_enough 11 = .ok (.ifCond .eq 24, 3) := by decide +kernel
theorem dX10_enough_14 : decode cX10_enough 14 = .ok (.aload_n 0, 1) := by decide +kernel
theorem dX10_enough_15 : decode cX10_enough 15 = .ok (.iload_n 3, 1) := by decide +kernel
theorem dX10_enough_16 : decode cX10_enough 16 = .ok (.invokevirtual 331, 3) := by decide +kernel
theorem dX10_enough_19 : decode cX10_enough 19 = .ok (.ifCond .eq 16, 3) := by decide +kernel
theorem dX10_enough_22 : decode cX10_enough 22 = .ok (.aload_n 0, 1) := by decide +kernel
theorem dX10_enough_23 : decode cX10_enough 23 = .ok (.getfield 29, 3) := by decide +kernel
theorem dX10_enough_26 : decode cX10_enough 26 = .ok (.iconst 3, 1) := by decide +kernel
theorem dX10_enough_27 : decode cX10_enough 27 = .ok (.iload_n 1, 1) := by decide +kernel
theorem dX10_enough_28 : decode cX10_enough 28 = .ok (.imul, 1) := by decide +kernel
theorem dX10_enough_29 : decode cX10_enough 29 = .ok (.iload_n 3, 1) := by decide +kernel
