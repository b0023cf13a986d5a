theorem dX10_worstOf_25 : decode cX10_worstOf 25 = .ok (.iaload, 1) := by decide +kernel
theorem dX10_worstOf_26 : decode cX10_worstOf 26 = .ok (.aload_n 0, 1) := by decide +kernel
theorem dX10_worstOf_27 : decode cX10_worstOf 27 = .ok (.getfield 143, 3) := by decide +kernel
theorem dX10_worstOf_30 : decode cX10_worstOf 30 = .ok (.iload_n 1, 1) := by decide +kernel
theorem dX10_worstOf_31 : decode cX10_worstOf 31 = .ok (.iaload, 1) := by decide +kernel
theorem dX10_worstOf_32 : decode cX10_worstOf 32 = .ok (.iload_n 2, 1) := by decide +kernel
theorem dX10_worstOf_33 : decode cX10_worstOf 33 = .ok (.invokevirtual 434, 3) := by decide +kernel
theorem dX10_worstOf_36 : decode cX10_worstOf 36 = .ok (.istore 6, 2) := by decide +kernel
theorem dX10_worstOf_38 : decode cX10_worstOf 38 = .ok (.iload 6, 2) := by decide +kernel
theorem dX10_worstOf_40 : decode cX10_worstOf 40 = .ok (.iload 4, 2) := by decide +kernel
theorem dX10_worstOf_42 : decode cX10_worstOf 42 = .ok (.if_icmp .gt 6, 3) := by decide +kernel
theorem dX10_worstOf_45 : decode cX10_worstOf 45 = .ok (.goto 10, 3) := by decide +kernel
theorem dX10_worstOf_48 : decode cX10_worstOf 48 = .ok (.iload 5, 2) := by decide +kernel
theorem dX10_worstOf_50 : decode cX10_worstOf 50 = .ok (.istore_n 3, 1) := by decide +kernel
theorem dX10_worstOf_51 : decode cX10_worstOf 51 = .ok (.iload 6, 2) := by decide +kernel
theorem dX10_worstOf_53 : decode cX10_worstOf 53 = .ok (.istore 4, 2) := by decide +kernel
theorem dX10_worstOf_55 : decode cX10_worstOf 55 = .ok (.iinc 5 1, 3) := by decide +kernel
theorem dX10_worstOf_58 : decode cX10_worstOf 58 = .ok (.goto (-50), 3) := by decide +kernel
theorem dX10_worstOf_61 : decode cX10_worstOf 61 = .ok (.iload_n 3, 1) := by decide +kernel
theorem dX10_worstOf_62 : decode cX10_worstOf 62 = .ok (.ireturn, 1) := by decide +kernel
theorem dX10_worstBeat_0 : decode cX10_worstBeat 0 = .ok (.aload_n 0, 1) := by decide +kernel
theorem dX10_worstBeat_1 : decode cX10_worstBeat 1 = .ok (.iload_n 1, 1) := by decide +kernel
theorem dX10_worstBeat_2 : decode cX10_worstBeat 2 = .ok (.iload_n 2, 1) := by decide +kernel
theorem dX10_worstBeat_3 : decode cX10_worstBeat 3 = .ok (.invokevirtual 441, 3) := by decide +kernel
theorem dX10_worstBeat_6 : decode cX10_worstBeat 6 = .ok (.istore_n 3, 1) := by decide +kernel
theorem dX10_worstBeat_7 : decode cX10_worstBeat 7 = .ok (.iload_n 3, 1) := by decide +kernel
theorem dX10_worstBeat_8 : decode cX10_worstBeat 8 = .ok (.iconst (-1), 1) := by decide +kernel
theorem dX10_worstBeat_9 : decode cX10_worstBeat 9 = .ok (.if_icmp .ne 7, 3) := by decide +kernel
theorem dX10_worstBeat_12 : decode cX10_worstBeat 12 = .ok (.iconst 0, 1) := by decide +kernel
theorem dX10_worstBeat_13 : decode cX10_worstBeat 13 = .ok (.goto 21, 3) := by decide +kernel
theorem dX10_worstBeat_16 : decode cX10_worstBeat 16 = .ok (.aload_n 0, 1) := by decide +kernel
theorem dX10_worstBeat_17 : decode cX10_worstBeat 17 = .ok (.iload_n 3, 1) := by decide +kernel
theorem dX10_worstBeat_18 : decode cX10_worstBeat 18 = .ok (.aload_n 0, 1) := by decide +kernel
theorem dX10_worstBeat_19 : decode cX10_worstBeat 19 = .ok (.getfield 140, 3) := by decide +kernel
theorem dX10_worstBeat_22 : decode cX10_worstBeat 22 = .ok (.iload_n 1, 1) := by decide +kernel
theorem dX10_worstBeat_23 : decode cX10_worstBeat 23 = .ok (.iaload, 1) := by decide +kernel
theorem dX10_worstBeat_24 : decode cX10_worstBeat 24 = .ok (.aload_n 0, 1) := by decide +kernel
theorem dX10_worstBeat_25 : decode cX10_worstBeat 25 = .ok (.getfield 143, 3) := by decide +kernel
theorem dX10_worstBeat_28 : decode cX10_worstBeat 28 = .ok (.iload_n 1, 1) := by decide +kernel
theorem dX10_worstBeat_29 : decode cX10_worstBeat 29 = .ok (.iaload, 1) := by decide +kernel
theorem dX10_worstBeat_30 : decode cX10_worstBeat 30 = .ok (.iload_n 2, 1) := by decide +kernel
theorem dX10_worstBeat_31 : decode cX10_worstBeat 31 = .ok (.invokevirtual 434, 3) := by decide +kernel
theorem dX10_worstBeat_34 : decode cX10_worstBeat 34 = .ok (.ireturn, 1) := by decide +kernel
theorem dX10_suits_0 : decode cX10_suits 0 = .ok (.aload_n 0, 1) := by decide +kernel
theorem dX10_suits_1 : decode cX10_suits 1 = .ok (.iload_n 1, 1) := by decide +kernel
theorem dX10_suits_2 : decode cX10_suits 2 = .ok (.iconst 1, 1) := by decide +kernel
theorem dX10_suits_3 : decode cX10_suits 3 = .ok (.invokevirtual 444, 3) := by decide +kernel
theorem dX10_suits_6 : decode cX10_suits 6 = .ok (.aload_n 0, 1) := by decide +kernel
theorem dX10_suits_7 : decode cX10_suits 7 = .ok (.iload_n 1, 1) := by decide +kernel
theorem dX10_suits_8 : decode cX10_suits 8 = .ok (.iconst 0, 1) := by decide +kernel
theorem dX10_suits_9 : decode cX10_suits 9 = .ok (.invokevirtual 444, 3) := by decide +kernel
theorem dX10_suits_12 : decode cX10_suits 12 = .ok (.if_icmp .ge 7, 3) := by decide +kernel
theorem dX10_suits_15 : decode cX10_suits 15 = .ok (.iconst 1, 1) := by decide +kernel
theorem dX10_suits_16 : decode cX10_suits 16 = .ok (.goto 4, 3) := by decide +kernel
theorem dX10_suits_19 : decode cX10_suits 19 = .ok (.iconst 0, 1) := by decide +kernel
theorem dX10_suits_20 : decode cX10_suits 20 = .ok (.ireturn, 1) := by decide +kernel
theorem dX10_together_0 : decode cX10_together 0 = .ok (.lconst 0, 1) := by decide +kernel
theorem dX10_together_1 : decode cX10_together 1 = .ok (.lstore_n 2, 1) := by decide +kernel
theorem dX10_together_2 : decode cX10_together 2 = .ok (.iconst 0, 1) := by decide +kernel
theorem dX10_together_3 : decode cX10_together 3 = .ok (.istore 4, 2) := by decide +kernel
theorem dX10_together_5 : decode cX10_together 5 = .ok (.iload 4, 2) := by decide +kernel
theorem dX10_together_7 : decode cX10_together 7 = .ok (.aload_n 0, 1) := by decide +kernel
theorem dX10_together_8 : decode cX10_together 8 = .ok (.getfield 170, 3) := by decide +kernel
theorem dX10_together_11 : decode cX10_together 11 = .ok (.if_icmp .ge 128, 3) := by decide +kernel
theorem dX10_together_14 : decode cX10_together 14 = .ok (.iload 4, 2) := by decide +kernel
theorem dX10_together_16 : decode cX10_together 16 = .ok (.iconst 1, 1) := by decide +kernel
theorem dX10_together_17 : decode cX10_together 17 = .ok (.iadd, 1) := by decide +kernel
theorem dX10_together_18 : decode cX10_together 18 = .ok (.istore 5, 2) := by decide +kernel
theorem dX10_together_20 : decode cX10_together 20 = .ok (.iload 5, 2) := by decide +kernel
theorem dX10_together_22 : decode cX10_together 22 = .ok (.aload_n 0, 1) := by decide +kernel
theorem dX10_together_23 : decode cX10_together 23 = .ok (.getfield 170, 3) := by decide +kernel
theorem dX10_together_26 : decode cX10_together 26 = .ok (.if_icmp .ge 107, 3) := by decide +kernel
theorem dX10_together_29 : decode cX10_together 29 = .ok (.aload_n 0, 1) := by decide +kernel
theorem dX10_together_30 : decode cX10_together 30 = .ok (.iload 4, 2) := by decide +kernel
theorem dX10_together_32 : decode cX10_together 32 = .ok (.aload_n 0, 1) := by decide +kernel
theorem dX10_together_33 : decode cX10_together 33 = .ok (.getfield 140, 3) := by decide +kernel
theorem dX10_together_36 : decode cX10_together 36 = .ok (.iload_n 1, 1) := by decide +kernel
theorem dX10_together_37 : decode cX10_together 37 = .ok (.iaload, 1) := by decide +kernel
theorem dX10_together_38 : decode cX10_together 38 = .ok (.aload_n 0, 1) := by decide +kernel
theorem dX10_together_39 : decode cX10_together 39 = .ok (.getfield 143, 3) := by decide +kernel
theorem dX10_together_42 : decode cX10_together 42 = .ok (.iload_n 1, 1) := by decide +kernel
theorem dX10_together_43 : decode cX10_together 43 = .ok (.iaload, 1) := by decide +kernel
theorem dX10_together_44 : decode cX10_together 44 = .ok (.invokevirtual 425, 3) := by decide +kernel
theorem dX10_together_47 : decode cX10_together 47 = .ok (.i2l, 1) := by decide +kernel
theorem dX10_together_48 : decode cX10_together 48 = .ok (.aload_n 0, 1) := by decide +kernel
theorem dX10_together_49 : decode cX10_together 49 = .ok (.iload 5, 2) := by decide +kernel
theorem dX10_together_51 : decode cX10_together 51 = .ok (.iconst 0, 1) := by decide +kernel
theorem dX10_together_52 : decode cX10_together 52 = .ok (.invokevirtual 335, 3) := by decide +kernel
theorem dX10_together_55 : decode cX10_together 55 = .ok (.i2l, 1) := by decide +kernel
theorem dX10_together_56 : decode cX10_together 56 = .ok (.lmul, 1) := by decide +kernel
theorem dX10_together_57 : decode cX10_together 57 = .ok (.aload_n 0, 1) := by decide +kernel
theorem dX10_together_58 : decode cX10_together 58 = .ok (.iload 5, 2) := by decide +kernel
theorem dX10_together_60 : decode cX10_together 60 = .ok (.aload_n 0, 1) := by decide +kernel
theorem dX10_together_61 : decode cX10_together 61 = .ok (.getfield 140, 3) := by decide +kernel
theorem dX10_together_64 : decode cX10_together 64 = .ok (.iload_n 1, 1) := by decide +kernel
theorem dX10_together_65 : decode cX10_together 65 = .ok (.iaload, 1) := by decide +kernel
theorem dX10_together_66 : decode cX10_together 66 = .ok (.aload_n 0, 1) := by decide +kernel
theorem dX10_together_67 : decode cX10_together 67 = .ok (.getfield 143, 3) := by decide +kernel
theorem dX10_together_70 : decode cX10_together 70 = .ok (.iload_n 1, 1) := by decide +kernel
theorem dX10_together_71 : decode cX10_together 71 = .ok (.iaload, 1) := by decide +kernel
theorem dX10_together_72 : decode cX10_together 72 = .ok (.invokevirtual 425, 3) := by decide +kernel
theorem dX10_together_75 : decode cX10_together 75 = .ok (.i2l, 1) := by decide +kernel
theorem dX10_together_76 : decode cX10_together 76 = .ok (.aload_n 0, 1) := by decide +kernel
theorem dX10_together_77 : decode cX10_together 77 = .ok (.iload 4, 2) := by decide +kernel
theorem dX10_together_79 : decode cX10_together 79 = .ok (.iconst 0, 1) := by decide +kernel
theorem dX10_together_80 : decode cX10_together 80 = .ok (.invokevirtual 335, 3) := by decide +kernel
theorem dX10_together_83 : decode cX10_together 83 = .ok (.i2l, 1) := by decide +kernel
theorem dX10_together_84 : decode cX10_together 84 = .ok (.lmul, 1) := by decide +kernel
theorem dX10_together_85 : decode cX10_together 85 = .ok (.lsub, 1) := by decide +kernel
theorem dX10_together_86 : decode cX10_together 86 = .ok (.lstore 6, 2) := by decide +kernel
theorem dX10_together_88 : decode cX10_together 88 = .ok (.lload 6, 2) := by decide +kernel
theorem dX10_together_90 : decode cX10_together 90 = .ok (.lconst 0, 1) := by decide +kernel
theorem dX10_together_91 : decode cX10_together 91 = .ok (.lcmp, 1) := by decide +kernel
theorem dX10_together_92 : decode cX10_together 92 = .ok (.ifCond .ge 13, 3) := by decide +kernel
theorem dX10_together_95 : decode cX10_together 95 = .ok (.lload 6, 2) := by decide +kernel
theorem dX10_together_97 : decode cX10_together 97 = .ok (.lneg, 1) := by decide +kernel
theorem dX10_together_98 : decode cX10_together 98 = .ok (.ldc2_w 447, 3) := by decide +kernel
theorem dX10_together_101 : decode cX10_together 101 = .ok (.ldiv, 1) := by decide +kernel
theorem dX10_together_102 : decode cX10_together 102 = .ok (.goto 9, 3) := by decide +kernel
theorem dX10_together_105 : decode cX10_together 105 = .ok (.lload 6, 2) := by decide +kernel
theorem dX10_together_107 : decode cX10_together 107 = .ok (.ldc2_w 447, 3) := by decide +kernel
theorem dX10_together_110 : decode cX10_together 110 = .ok (.ldiv, 1) := by decide +kernel
theorem dX10_together_111 : decode cX10_together 111 = .ok (.lstore 6, 2) := by decide +kernel
theorem dX10_together_113 : decode cX10_together 113 = .ok (.lload 6, 2) := by decide +kernel
theorem dX10_together_115 : decode cX10_together 115 = .ok (.lload_n 2, 1) := by decide +kernel
theorem dX10_together_116 : decode cX10_together 116 = .ok (.lcmp, 1) := by decide +kernel
theorem dX10_together_117 : decode cX10_together 117 = .ok (.ifCond .le 8, 3) := by decide +kernel
theorem dX10_together_120 : decode cX10_together 120 = .ok (.lload 6, 2) := by decide +kernel
theorem dX10_together_122 : decode cX10_together 122 = .ok (.goto 4, 3) := by decide +kernel
theorem dX10_together_125 : decode cX10_together 125 = .ok (.lload_n 2, 1) := by decide +kernel
theorem dX10_together_126 : decode cX10_together 126 = .ok (.lstore_n 2, 1) := by decide +kernel
theorem dX10_together_127 : decode cX10_together 127 = .ok (.iinc 5 1, 3) := by decide +kernel
theorem dX10_together_130 : decode cX10_together 130 = .ok (.goto (-110), 3) := by decide +kernel
theorem dX10_together_133 : decode cX10_together 133 = .ok (.iinc 4 1, 3) := by decide +kernel
theorem dX10_together_136 : decode cX10_together 136 = .ok (.goto (-131), 3) := by decide +kernel
theorem dX10_together_139 : decode cX10_together 139 = .ok (.lload_n 2, 1) := by decide +kernel
theorem dX10_together_140 : decode cX10_together 140 = .ok (.ldc2_w 396, 3) := by decide +kernel
theorem dX10_together_143 : decode cX10_together 143 = .ok (.lcmp, 1) := by decide +kernel
theorem dX10_together_144 : decode cX10_together 144 = .ok (.ifCond .le 9, 3) := by decide +kernel
theorem dX10_together_147 : decode cX10_together 147 = .ok (.ldc_w 398, 3) := by decide +kernel
theorem dX10_together_150 : decode cX10_together 150 = .ok (.goto 5, 3) := by decide +kernel
theorem dX10_together_153 : decode cX10_together 153 = .ok (.lload_n 2, 1) := by decide +kernel
theorem dX10_together_154 : decode cX10_together 154 = .ok (.l2i, 1) := by decide +kernel
theorem dX10_together_155 : decode cX10_together 155 = .ok (.ireturn, 1) := by decide +kernel
theorem dX10_nights_0 : decode cX10_nights 0 = .ok (.aload_n 0, 1) := by decide +kernel
theorem dX10_nights_1 : decode cX10_nights 1 = .ok (.iconst 0, 1) := by decide +kernel
theorem dX10_nights_2 : decode cX10_nights 2 = .ok (.putfield 167, 3) := by decide +kernel
theorem dX10_nights_5 : decode cX10_nights 5 = .ok (.iload_n 1, 1) := by decide +kernel
theorem dX10_nights_6 : decode cX10_nights 6 = .ok (.iconst (-1), 1) := by decide +kernel
theorem dX10_nights_7 : decode cX10_nights 7 = .ok (.if_icmp .ne 34, 3) := by decide +kernel
theorem dX10_nights_10 : decode cX10_nights 10 = .ok (.iconst 0, 1) := by decide +kernel
theorem dX10_nights_11 : decode cX10_nights 11 = .ok (.istore_n 3, 1) := by decide +kernel
theorem dX10_nights_12 : decode cX10_nights 12 = .ok (.iconst 0, 1) := by decide +kernel
theorem dX10_nights_13 : decode cX10_nights 13 = .ok (.istore 4, 2) := by decide +kernel
theorem dX10_nights_15 : decode cX10_nights 15 = .ok (.iload 4, 2) := by decide +kernel
theorem dX10_nights_17 : decode cX10_nights 17 = .ok (.aload_n 0, 1) := by decide +kernel
theorem dX10_nights_18 : decode cX10_nights 18 = .ok (.getfield 438, 3) := by decide +kernel
theorem dX10_nights_21 : decode cX10_nights 21 = .ok (.if_icmp .ge 18, 3) := by decide +kernel
theorem dX10_nights_24 : decode cX10_nights 24 = .ok (.iload_n 3, 1) := by decide +kernel
theorem dX10_nights_25 : decode cX10_nights 25 = .ok (.aload_n 0, 1) := by decide +kernel
theorem dX10_nights_26 : decode cX10_nights 26 = .ok (.iload 4, 2) := by decide +kernel
theorem dX10_nights_28 : decode cX10_nights 28 = .ok (.invokevirtual 449, 3) := by decide +kernel
theorem dX10_nights_31 : decode cX10_nights 31 = .ok (.iadd, 1) := by decide +kernel
theorem dX10_nights_32 : decode cX10_nights 32 = .ok (.istore_n 3, 1) := by decide +kernel
theorem dX10_nights_33 : decode cX10_nights 33 = .ok (.iinc 4 1, 3) := by decide +kernel
theorem dX10_nights_36 : decode cX10_nights 36 = .ok (.goto (-21), 3) := by decide +kernel
theorem dX10_nights_39 : decode cX10_nights 39 = .ok (.iload_n 3, 1) := by decide +kernel
theorem dX10_nights_40 : decode cX10_nights 40 = .ok (.ireturn, 1) := by decide +kernel
theorem dX10_nights_41 : decode cX10_nights 41 = .ok (.aload_n 0, 1) := by decide +kernel
theorem dX10_nights_42 : decode cX10_nights 42 = .ok (.iload_n 1, 1) := by decide +kernel
theorem dX10_nights_43 : decode cX10_nights 43 = .ok (.iconst 0, 1) := by decide +kernel
theorem dX10_nights_44 : decode cX10_nights 44 = .ok (.aload_n 0, 1) := by decide +kernel
theorem dX10_nights_45 : decode cX10_nights 45 = .ok (.getfield 438, 3) := by decide +kernel
theorem dX10_nights_48 : decode cX10_nights 48 = .ok (.iconst 1, 1) := by decide +kernel
theorem dX10_nights_49 : decode cX10_nights 49 = .ok (.isub, 1) := by decide +kernel
theorem dX10_nights_50 : decode cX10_nights 50 = .ok (.invokevirtual 177, 3) := by decide +kernel
theorem dX10_nights_53 : decode cX10_nights 53 = .ok (.ifCond .ne 6, 3) := by decide +kernel
theorem dX10_nights_56 : decode cX10_nights 56 = .ok (.bipush (-2), 2) := by decide +kernel
theorem dX10_nights_58 : decode cX10_nights 58 = .ok (.ireturn, 1) := by decide +kernel
theorem dX10_nights_59 : decode cX10_nights 59 = .ok (.iload_n 2, 1) := by decide +kernel
theorem dX10_nights_60 : decode cX10_nights 60 = .ok (.ifCond .eq 8, 3) := by decide +kernel
theorem dX10_nights_63 : decode cX10_nights 63 = .ok (.iload_n 2, 1) := by decide +kernel
theorem dX10_nights_64 : decode cX10_nights 64 = .ok (.iconst 1, 1) := by decide +kernel
theorem dX10_nights_65 : decode cX10_nights 65 = .ok (.if_icmp .ne 10, 3) := by decide +kernel
theorem dX10_nights_68 : decode cX10_nights 68 = .ok (.aload_n 0, 1) := by decide +kernel
theorem dX10_nights_69 : decode cX10_nights 69 = .ok (.iload_n 1, 1) := by decide +kernel
theorem dX10_nights_70 : decode cX10_nights 70 = .ok (.iload_n 2, 1) := by decide +kernel
theorem dX10_nights_71 : decode cX10_nights 71 = .ok (.invokevirtual 441, 3) := by decide +kernel
theorem dX10_nights_74 : decode cX10_nights 74 = .ok (.ireturn, 1) := by decide +kernel
theorem dX10_nights_75 : decode cX10_nights 75 = .ok (.iload_n 2, 1) := by decide +kernel
theorem dX10_nights_76 : decode cX10_nights 76 = .ok (.iconst 2, 1) := by decide +kernel
theorem dX10_nights_77 : decode cX10_nights 77 = .ok (.if_icmp .ne 11, 3) := by decide +kernel
theorem dX10_nights_80 : decode cX10_nights 80 = .ok (.aload_n 0, 1) := by decide +kernel
theorem dX10_nights_81 : decode cX10_nights 81 = .ok (.iload_n 1, 1) := by decide +kernel
theorem dX10_nights_82 : decode cX10_nights 82 = .ok (.invokevirtual 449, 3) := by decide +kernel
theorem dX10_nights_85 : decode cX10_nights 85 = .ok (.goto 18, 3) := by decide +kernel
theorem dX10_nights_88 : decode cX10_nights 88 = .ok (.iload_n 2, 1) := by decide +kernel
theorem dX10_nights_89 : decode cX10_nights 89 = .ok (.iconst 3, 1) := by decide +kernel
theorem dX10_nights_90 : decode cX10_nights 90 = .ok (.if_icmp .ne 11, 3) := by decide +kernel
theorem dX10_nights_93 : decode cX10_nights 93 = .ok (.aload_n 0, 1) := by decide +kernel
theorem dX10_nights_94 : decode cX10_nights 94 = .ok (.iload_n 1, 1) := by decide +kernel
theorem dX10_nights_95 : decode cX10_nights 95 = .ok (.invokevirtual 452, 3) := by decide +kernel
theorem dX10_nights_98 : decode cX10_nights 98 = .ok (.goto 5, 3) := by decide +kernel
theorem dX10_nights_101 : decode cX10_nights 101 = .ok (.bipush (-2), 2) := by decide +kernel
theorem dX10_nights_103 : decode cX10_nights 103 = .ok (.ireturn, 1) := by decide +kernel
theorem dX10_note_0 : decode cX10_note 0 = .ok (.aload_n 0, 1) := by decide +kernel
theorem dX10_note_1 : decode cX10_note 1 = .ok (.iconst 0, 1) := by decide +kernel
theorem dX10_note_2 : decode cX10_note 2 = .ok (.putfield 167, 3) := by decide +kernel
theorem dX10_note_5 : decode cX10_note 5 = .ok (.aload_n 0, 1) := by decide +kernel
theorem dX10_note_6 : decode cX10_note 6 = .ok (.iload_n 1, 1) := by decide +kernel
theorem dX10_note_7 : decode cX10_note 7 = .ok (.iconst 1, 1) := by decide +kernel
theorem dX10_note_8 : decode cX10_note 8 = .ok (.ldc_w 348, 3) := by decide +kernel
theorem dX10_note_11 : decode cX10_note 11 = .ok (.invokevirtual 177, 3) := by decide +kernel
theorem dX10_note_14 : decode cX10_note 14 = .ok (.ifCond .eq 23, 3) := by decide +kernel
theorem dX10_note_17 : decode cX10_note 17 = .ok (.aload_n 0, 1) := by decide +kernel
theorem dX10_note_18 : decode cX10_note 18 = .ok (.iload_n 2, 1) := by decide +kernel
theorem dX10_note_19 : decode cX10_note 19 = .ok (.iconst 1, 1) := by decide +kernel
theorem dX10_note_20 : decode cX10_note 20 = .ok (.bipush 99, 2) := by decide +kernel
theorem dX10_note_22 : decode cX10_note 22 = .ok (.invokevirtual 177, 3) := by decide +kernel
theorem dX10_note_25 : decode cX10_note 25 = .ok (.ifCond .eq 12, 3) := by decide +kernel
theorem dX10_note_28 : decode cX10_note 28 = .ok (.aload_n 0, 1) := by decide +kernel
theorem dX10_note_29 : decode cX10_note 29 = .ok (.getfield 455, 3) := by decide +kernel
theorem dX10_note_32 : decode cX10_note 32 = .ok (.bipush 8, 2) := by decide +kernel
theorem dX10_note_34 : decode cX10_note 34 = .ok (.if_icmp .ne 5, 3) := by decide +kernel
theorem dX10_note_37 : decode cX10_note 37 = .ok (.iconst (-1), 1) := by decide +kernel
theorem dX10_note_38 : decode cX10_note 38 = .ok (.ireturn, 1) := by decide +kernel
theorem dX10_note_39 : decode cX10_note 39 = .ok (.aload_n 0, 1) := by decide +kernel
theorem dX10_note_40 : decode cX10_note 40 = .ok (.getfield 146, 3) := by decide +kernel
theorem dX10_note_43 : decode cX10_note 43 = .ok (.aload_n 0, 1) := by decide +kernel
theorem dX10_note_44 : decode cX10_note 44 = .ok (.getfield 455, 3) := by decide +kernel
theorem dX10_note_47 : decode cX10_note 47 = .ok (.iload_n 1, 1) := by decide +kernel
theorem dX10_note_48 : decode cX10_note 48 = .ok (.iastore, 1) := by decide +kernel
theorem dX10_note_49 : decode cX10_note 49 = .ok (.aload_n 0, 1) := by decide +kernel
theorem dX10_note_50 : decode cX10_note 50 = .ok (.getfield 149, 3) := by decide +kernel
theorem dX10_note_53 : decode cX10_note 53 = .ok (.aload_n 0, 1) := by decide +kernel
theorem dX10_note_54 : decode cX10_note 54 = .ok (.getfield 455, 3) := by decide +kernel
theorem dX10_note_57 : decode cX10_note 57 = .ok (.iload_n 2, 1) := by decide +kernel
theorem dX10_note_58 : decode cX10_note 58 = .ok (.iastore, 1) := by decide +kernel
theorem dX10_note_59 : decode cX10_note 59 = .ok (.aload_n 0, 1) := by decide +kernel
theorem dX10_note_60 : decode cX10_note 60 = .ok (.aload_n 0, 1) := by decide +kernel
theorem dX10_note_61 : decode cX10_note 61 = .ok (.getfield 455, 3) := by decide +kernel
theorem dX10_note_64 : decode cX10_note 64 = .ok (.iconst 1, 1) := by decide +kernel
theorem dX10_note_65 : decode cX10_note 65 = .ok (.iadd, 1) := by decide +kernel
theorem dX10_note_66 : decode cX10_note 66 = .ok (.putfield 455, 3) := by decide +kernel
theorem dX10_note_69 : decode cX10_note 69 = .ok (.aload_n 0, 1) := by decide +kernel
theorem dX10_note_70 : decode cX10_note 70 = .ok (.getfield 455, 3) := by decide +kernel
theorem dX10_note_73 : decode cX10_note 73 = .ok (.iconst 1, 1) := by decide +kernel
theorem dX10_note_74 : decode cX10_note 74 = .ok (.isub, 1) := by decide +kernel
theorem dX10_note_75 : decode cX10_note 75 = .ok (.ireturn, 1) := by decide +kernel
theorem dX10_blank_0 : decode cX10_blank 0 = .ok (.aload_n 0, 1) := by decide +kernel
theorem dX10_blank_1 : decode cX10_blank 1 = .ok (.iconst 0, 1) := by decide +kernel
theorem dX10_blank_2 : decode cX10_blank 2 = .ok (.putfield 167, 3) := by decide +kernel
theorem dX10_blank_5 : decode cX10_blank 5 = .ok (.aload_n 0, 1) := by decide +kernel
theorem dX10_blank_6 : decode cX10_blank 6 = .ok (.iload_n 1, 1) := by decide +kernel
theorem dX10_blank_7 : decode cX10_blank 7 = .ok (.iconst 1, 1) := by decide +kernel
theorem dX10_blank_8 : decode cX10_blank 8 = .ok (.bipush 99, 2) := by decide +kernel
theorem dX10_blank_10 : decode cX10_blank 10 = .ok (.invokevirtual 177, 3) := by decide +kernel
theorem dX10_blank_13 : decode cX10_blank 13 = .ok (.ifCond .eq 23, 3) := by decide +kernel
theorem dX10_blank_16 : decode cX10_blank 16 = .ok (.aload_n 0, 1) := by decide +kernel
theorem dX10_blank_17 : decode cX10_blank 17 = .ok (.iload_n 2, 1) := by decide +kernel
theorem dX10_blank_18 : decode cX10_blank 18 = .ok (.iconst 0, 1) := by decide +kernel
theorem dX10_blank_19 : decode cX10_blank 19 = .ok (.bipush 99, 2) := by decide +kernel
theorem dX10_blank_21 : decode cX10_blank 21 = .ok (.invokevirtual 177, 3) := by decide +kernel
theorem dX10_blank_24 : decode cX10_blank 24 = .ok (.ifCond .eq 12, 3) := by decide +kernel
theorem dX10_blank_27 : decode cX10_blank 27 = .ok (.aload_n 0, 1) := by decide +kernel
theorem dX10_blank_28 : decode cX10_blank 28 = .ok (.getfield 458, 3) := by decide +kernel
theorem dX10_blank_31 : decode cX10_blank 31 = .ok (.bipush 8, 2) := by decide +kernel
theorem dX10_blank_33 : decode cX10_blank 33 = .ok (.if_icmp .ne 5, 3) := by decide +kernel
theorem dX10_blank_36 : decode cX10_blank 36 = .ok (.iconst (-1), 1) := by decide +kernel
theorem dX10_blank_37 : decode cX10_blank 37 = .ok (.ireturn, 1) := by decide +kernel
theorem dX10_blank_38 : decode cX10_blank 38 = .ok (.aload_n 0, 1) := by decide +kernel
theorem dX10_blank_39 : decode cX10_blank 39 = .ok (.getfield 152, 3) := by decide +kernel
theorem dX10_blank_42 : decode cX10_blank 42 = .ok (.aload_n 0, 1) := by decide +kernel
theorem dX10_blank_43 : decode cX10_blank 43 = .ok (.getfield 458, 3) := by decide +kernel
theorem dX10_blank_46 : decode cX10_blank 46 = .ok (.iload_n 1, 1) := by decide +kernel
theorem dX10_blank_47 : decode cX10_blank 47 = .ok (.iastore, 1) := by decide +kernel
theorem dX10_blank_48 : decode cX10_blank 48 = .ok (.aload_n 0, 1) := by decide +kernel
theorem dX10_blank_49 : decode cX10_blank 49 = .ok (.getfield 155, 3) := by decide +kernel
theorem dX10_blank_52 : decode cX10_blank 52 = .ok (.aload_n 0, 1) := by decide +kernel
theorem dX10_blank_53 : decode cX10_blank 53 = .ok (.getfield 458, 3) := by decide +kernel
theorem dX10_blank_56 : decode cX10_blank 56 = .ok (.iload_n 2, 1) := by decide +kernel
theorem dX10_blank_57 : decode cX10_blank 57 = .ok (.iastore, 1) := by decide +kernel
theorem dX10_blank_58 : decode cX10_blank 58 = .ok (.aload_n 0, 1) := by decide +kernel
theorem dX10_blank_59 : decode cX10_blank 59 = .ok (.aload_n 0, 1) := by decide +kernel
theorem dX10_blank_60 : decode cX10_blank 60 = .ok (.getfield 458, 3) := by decide +kernel
theorem dX10_blank_63 : decode cX10_blank 63 = .ok (.iconst 1, 1) := by decide +kernel
theorem dX10_blank_64 : decode cX10_blank 64 = .ok (.iadd, 1) := by decide +kernel
theorem dX10_blank_65 : decode cX10_blank 65 = .ok (.putfield 458, 3) := by decide +kernel
theorem dX10_blank_68 : decode cX10_blank 68 = .ok (.aload_n 0, 1) := by decide +kernel
theorem dX10_blank_69 : decode cX10_blank 69 = .ok (.getfield 458, 3) := by decide +kernel
theorem dX10_blank_72 : decode cX10_blank 72 = .ok (.iconst 1, 1) := by decide +kernel
theorem dX10_blank_73 : decode cX10_blank 73 = .ok (.isub, 1) := by decide +kernel
theorem dX10_blank_74 : decode cX10_blank 74 = .ok (.ireturn, 1) := by decide +kernel
theorem dX10_canHave_0 : decode cX10_canHave 0 = .ok (.aload_n 0, 1) := by decide +kernel
theorem dX10_canHave_1 : decode cX10_canHave 1 = .ok (.getfield 158, 3) := by decide +kernel
theorem dX10_canHave_4 : decode cX10_canHave 4 = .ok (.iload_n 1, 1) := by decide +kernel
theorem dX10_canHave_5 : decode cX10_canHave 5 = .ok (.iaload, 1) := by decide +kernel
theorem dX10_canHave_6 : decode cX10_canHave 6 = .ok (.istore_n 3, 1) := by decide +kernel
theorem dX10_canHave_7 : decode cX10_canHave 7 = .ok (.aload_n 0, 1) := by decide +kernel
theorem dX10_canHave_8 : decode cX10_canHave 8 = .ok (.getfield 152, 3) := by decide +kernel
theorem dX10_canHave_11 : decode cX10_canHave 11 = .ok (.iload_n 3, 1) := by decide +kernel
theorem dX10_canHave_12 : decode cX10_canHave 12 = .ok (.iaload, 1) := by decide +kernel
theorem dX10_canHave_13 : decode cX10_canHave 13 = .ok (.aload_n 0, 1) := by decide +kernel
theorem dX10_canHave_14 : decode cX10_canHave 14 = .ok (.getfield 149, 3) := by decide +kernel
theorem dX10_canHave_17 : decode cX10_canHave 17 = .ok (.iload_n 1, 1) := by decide +kernel
theorem dX10_canHave_18 : decode cX10_canHave 18 = .ok (.iaload, 1) := by decide +kernel
theorem dX10_canHave_19 : decode cX10_canHave 19 = .ok (.if_icmp .ge 5, 3) := by decide +kernel
theorem dX10_canHave_22 : decode cX10_canHave 22 = .ok (.iconst 0, 1) := by decide +kernel
theorem dX10_canHave_23 : decode cX10_canHave 23 = .ok (.ireturn, 1) := by decide +kernel
theorem dX10_canHave_24 : decode cX10_canHave 24 = .ok (.iconst 0, 1) := by decide +kernel
theorem dX10_canHave_25 : decode cX10_canHave 25 = .ok (.istore 4, 2) := by decide +kernel
theorem dX10_canHave_27 : decode cX10_canHave 27 = .ok (.iload 4, 2) := by decide +kernel
theorem dX10_canHave_29 : decode cX10_canHave 29 = .ok (.iload_n 1, 1) := by decide +kernel
theorem dX10_canHave_30 : decode cX10_canHave 30 = .ok (.if_icmp .ge 49, 3) := by decide +kernel
theorem dX10_canHave_33 : decode cX10_canHave 33 = .ok (.aload_n 0, 1) := by decide +kernel
theorem dX10_canHave_34 : decode cX10_canHave 34 = .ok (.getfield 158, 3) := by decide +kernel
theorem dX10_canHave_37 : decode cX10_canHave 37 = .ok (.iload 4, 2) := by decide +kernel
theorem dX10_canHave_39 : decode cX10_canHave 39 = .ok (.iaload, 1) := by decide +kernel
theorem dX10_canHave_40 : decode cX10_canHave 40 = .ok (.iload_n 3, 1) := by decide +kernel
theorem dX10_canHave_41 : decode cX10_canHave 41 = .ok (.if_icmp .eq 30, 3) := by decide +kernel
theorem dX10_canHave_44 : decode cX10_canHave 44 = .ok (.aload_n 0, 1) := by decide +kernel
theorem dX10_canHave_45 : decode cX10_canHave 45 = .ok (.aload_n 0, 1) := by decide +kernel
theorem dX10_canHave_46 : decode cX10_canHave 46 = .ok (.getfield 155, 3) := by decide +kernel
theorem dX10_canHave_49 : decode cX10_canHave 49 = .ok (.aload_n 0, 1) := by decide +kernel
theorem dX10_canHave_50 : decode cX10_canHave 50 = .ok (.getfield 158, 3) := by decide +kernel
theorem dX10_canHave_53 : decode cX10_canHave 53 = .ok (.iload 4, 2) := by decide +kernel
theorem dX10_canHave_55 : decode cX10_canHave 55 = .ok (.iaload, 1) := by decide +kernel
theorem dX10_canHave_56 : decode cX10_canHave 56 = .ok (.iaload, 1) := by decide +kernel
theorem dX10_canHave_57 : decode cX10_canHave 57 = .ok (.aload_n 0, 1) := by decide +kernel
theorem dX10_canHave_58 : decode cX10_canHave 58 = .ok (.getfield 155, 3) := by decide +kernel
theorem dX10_canHave_61 : decode cX10_canHave 61 = .ok (.iload_n 3, 1) := by decide +kernel
theorem dX10_canHave_62 : decode cX10_canHave 62 = .ok (.iaload, 1) := by decide +kernel
theorem dX10_canHave_63 : decode cX10_canHave 63 = .ok (.isub, 1) := by decide +kernel
theorem dX10_canHave_64 : decode cX10_canHave 64 = .ok (.invokevirtual 309, 3) := by decide +kernel
theorem dX10_canHave_67 : decode cX10_canHave 67 = .ok (.iload_n 2, 1) := by decide +kernel
theorem dX10_canHave_68 : decode cX10_canHave 68 = .ok (.if_icmp .le 5, 3) := by decide +kernel
theorem dX10_canHave_71 : decode cX10_canHave 71 = .ok (.iconst 0, 1) := by decide +kernel
theorem dX10_canHave_72 : decode cX10_canHave 72 = .ok (.ireturn, 1) := by decide +kernel
theorem dX10_canHave_73 : decode cX10_canHave 73 = .ok (.iinc 4 1, 3) := by decide +kernel
theorem dX10_canHave_76 : decode cX10_canHave 76 = .ok (.goto (-49), 3) := by decide +kernel
theorem dX10_canHave_79 : decode cX10_canHave 79 = .ok (.iconst 1, 1) := by decide +kernel
theorem dX10_canHave_80 : decode cX10_canHave 80 = .ok (.ireturn, 1) := by decide +kernel
theorem dX10_leastWaste_0 : decode cX10_leastWaste 0 = .ok (.iconst (-1), 1) := by decide +kernel
theorem dX10_leastWaste_1 : decode cX10_leastWaste 1 = .ok (.istore_n 2, 1) := by decide +kernel
theorem dX10_leastWaste_2 : decode cX10_leastWaste 2 = .ok (.iconst 0, 1) := by decide +kernel
theorem dX10_leastWaste_3 : decode cX10_leastWaste 3 = .ok (.istore_n 3, 1) := by decide +kernel
theorem dX10_leastWaste_4 : decode cX10_leastWaste 4 = .ok (.iconst 0, 1) := by decide +kernel
theorem dX10_leastWaste_5 : decode cX10_leastWaste 5 = .ok (.istore 4, 2) := by decide +kernel
theorem dX10_leastWaste_7 : decode cX10_leastWaste 7 = .ok (.iload 4, 2) := by decide +kernel
theorem dX10_leastWaste_9 : decode cX10_leastWaste 9 = .ok (.bipush 8, 2) := by decide +kernel
theorem dX10_leastWaste_11 : decode cX10_leastWaste 11 = .ok (.if_icmp .ge 17, 3) := by decide +kernel
theorem dX10_leastWaste_14 : decode cX10_leastWaste 14 = .ok (.aload_n 0, 1) := by decide +kernel
theorem dX10_leastWaste_15 : decode cX10_leastWaste 15 = .ok (.getfield 158, 3) := by decide +kernel
theorem dX10_leastWaste_18 : decode cX10_leastWaste 18 = .ok (.iload 4, 2) := by decide +kernel
theorem dX10_leastWaste_20 : decode cX10_leastWaste 20 = .ok (.iconst (-1), 1) := by decide +kernel
theorem dX10_leastWaste_21 : decode cX10_leastWaste 21 = .ok (.iastore, 1) := by decide +kernel
theorem dX10_leastWaste_22 : decode cX10_leastWaste 22 = .ok (.iinc 4 1, 3) := by decide +kernel
theorem dX10_leastWaste_25 : decode cX10_leastWaste 25 = .ok (.goto (-18), 3) := by decide +kernel
theorem dX10_leastWaste_28 : decode cX10_leastWaste 28 = .ok (.aload_n 0, 1) := by decide +kernel
theorem dX10_leastWaste_29 : decode cX10_leastWaste 29 = .ok (.getfield 455, 3) := by decide +kernel
theorem dX10_leastWaste_32 : decode cX10_leastWaste 32 = .ok (.ifCond .ne 5, 3) := by decide +kernel
theorem dX10_leastWaste_35 : decode cX10_leastWaste 35 = .ok (.iconst 0, 1) := by decide +kernel
theorem dX10_leastWaste_36 : decode cX10_leastWaste 36 = .ok (.ireturn, 1) := by decide +kernel
theorem dX10_leastWaste_37 : decode cX10_leastWaste 37 = .ok (.iload_n 3, 1) := by decide +kernel
theorem dX10_leastWaste_38 : decode cX10_leastWaste 38 = .ok (.ifCond .lt 171, 3) := by decide +kernel
theorem dX10_leastWaste_41 : decode cX10_leastWaste 41 = .ok (.aload_n 0, 1) := by decide +kernel
theorem dX10_leastWaste_42 : decode cX10_leastWaste 42 = .ok (.getfield 158, 3) := by decide +kernel
theorem dX10_leastWaste_45 : decode cX10_leastWaste 45 = .ok (.iload_n 3, 1) := by decide +kernel
theorem dX10_leastWaste_46 : decode cX10_leastWaste 46 = .ok (.aload_n 0, 1) := by decide +kernel
theorem dX10_leastWaste_47 : decode cX10_leastWaste 47 = .ok (.getfield 158, 3) := by decide +kernel
theorem dX10_leastWaste_50 : decode cX10_leastWaste 50 = .ok (.iload_n 3, 1) := by decide +kernel
theorem dX10_leastWaste_51 : decode cX10_leastWaste 51 = .ok (.iaload, 1) := by decide +kernel
theorem dX10_leastWaste_52 : decode cX10_leastWaste 52 = .ok (.iconst 1, 1) := by decide +kernel
theorem dX10_leastWaste_53 : decode cX10_leastWaste 53 = .ok (.iadd, 1) := by decide +kernel
theorem dX10_leastWaste_54 : decode cX10_leastWaste 54 = .ok (.iastore, 1) := by decide +kernel
theorem dX10_leastWaste_55 : decode cX10_leastWaste 55 = .ok (.aload_n 0, 1) := by decide +kernel
theorem dX10_leastWaste_56 : decode cX10_leastWaste 56 = .ok (.getfield 158, 3) := by decide +kernel
theorem dX10_leastWaste_59 : decode cX10_leastWaste 59 = .ok (.iload_n 3, 1) := by decide +kernel
theorem dX10_leastWaste_60 : decode cX10_leastWaste 60 = .ok (.iaload, 1) := by decide +kernel
theorem dX10_leastWaste_61 : decode cX10_leastWaste 61 = .ok (.aload_n 0, 1) := by decide +kernel
theorem dX10_leastWaste_62 : decode cX10_leastWaste 62 = .ok (.getfield 458, 3) := by decide +kernel
theorem dX10_leastWaste_65 : decode cX10_leastWaste 65 = .ok (.if_icmp .lt 17, 3) := by decide +kernel
theorem dX10_leastWaste_68 : decode cX10_leastWaste 68 = .ok (.aload_n 0, 1) := by decide +kernel
theorem dX10_leastWaste_69 : decode cX10_leastWaste 69 = .ok (.getfield 158, 3) := by decide +kernel
theorem dX10_leastWaste_72 : decode cX10_leastWaste 72 = .ok (.iload_n 3, 1) := by decide +kernel
theorem dX10_leastWaste_73 : decode cX10_leastWaste 73 = .ok (.iconst (-1), 1) := by decide +kernel
theorem dX10_leastWaste_74 : decode cX10_leastWaste 74 = .ok (.iastore, 1) := by decide +kernel
theorem dX10_leastWaste_75 : decode cX10_leastWaste 75 = .ok (.iload_n 3, 1) := by decide +kernel
theorem dX10_leastWaste_76 : decode cX10_leastWaste 76 = .ok (.iconst 1, 1) := by decide +kernel
theorem dX10_leastWaste_77 : decode cX10_leastWaste 77 = .ok (.isub, 1) := by decide +kernel
theorem dX10_leastWaste_78 : decode cX10_leastWaste 78 = .ok (.istore_n 3, 1) := by decide +kernel
theorem dX10_leastWaste_79 : decode cX10_leastWaste 79 = .ok (.goto (-42), 3) := by decide +kernel
theorem dX10_leastWaste_82 : decode cX10_leastWaste 82 = .ok (.aload_n 0, 1) := by decide +kernel
theorem dX10_leastWaste_83 : decode cX10_leastWaste 83 = .ok (.iload_n 3, 1) := by decide +kernel
theorem dX10_leastWaste_84 : decode cX10_leastWaste 84 = .ok (.iload_n 1, 1) := by decide +kernel
theorem dX10_leastWaste_85 : decode cX10_leastWaste 85 = .ok (.invokevirtual 461, 3) := by decide +kernel
theorem dX10_leastWaste_88 : decode cX10_leastWaste 88 = .ok (.ifCond .ne 6, 3) := by decide +kernel
theorem dX10_leastWaste_91 : decode cX10_leastWaste 91 = .ok (.goto (-54), 3) := by decide +kernel
theorem dX10_leastWaste_94 : decode cX10_leastWaste 94 = .ok (.iload_n 3, 1) := by decide +kernel
theorem dX10_leastWaste_95 : decode cX10_leastWaste 95 = .ok (.aload_n 0, 1) := by decide +kernel
theorem dX10_leastWaste_96 : decode cX10_leastWaste 96 = .ok (.getfield 455, 3) := by decide +kernel
theorem dX10_leastWaste_99 : decode cX10_leastWaste 99 = .ok (.iconst 1, 1) := by decide +kernel
theorem dX10_leastWaste_100 : decode cX10_leastWaste 100 = .ok (.isub, 1) := by decide +kernel
theorem dX10_leastWaste_101 : decode cX10_leastWaste 101 = .ok (.if_icmp .ge 10, 3) := by decide +kernel
theorem dX10_leastWaste_104 : decode cX10_leastWaste 104 = .ok (.iload_n 3, 1) := by decide +kernel
theorem dX10_leastWaste_105 : decode cX10_leastWaste 105 = .ok (.iconst 1, 1) := by decide +kernel
theorem dX10_leastWaste_106 : decode cX10_leastWaste 106 = .ok (.iadd, 1) := by decide +kernel
theorem dX10_leastWaste_107 : decode cX10_leastWaste 107 = .ok (.istore_n 3, 1) := by decide +kernel
theorem dX10_leastWaste_108 : decode cX10_leastWaste 108 = .ok (.goto (-71), 3) := by decide +kernel
theorem dX10_leastWaste_111 : decode cX10_leastWaste 111 = .ok (.iconst 0, 1) := by decide +kernel
theorem dX10_leastWaste_112 : decode cX10_leastWaste 112 = .ok (.istore 4, 2) := by decide +kernel
theorem dX10_leastWaste_114 : decode cX10_leastWaste 114 = .ok (.iconst 0, 1) := by decide +kernel
theorem dX10_leastWaste_115 : decode cX10_leastWaste 115 = .ok (.istore 5, 2) := by decide +kernel
theorem dX10_leastWaste_117 : decode cX10_leastWaste 117 = .ok (.iload 5, 2) := by decide +kernel
theorem dX10_leastWaste_119 : decode cX10_leastWaste 119 = .ok (.aload_n 0, 1) := by decide +kernel
theorem dX10_leastWaste_120 : decode cX10_leastWaste 120 = .ok (.getfield 455, 3) := by decide +kernel
theorem dX10_leastWaste_123 : decode cX10_leastWaste 123 = .ok (.if_icmp .ge 34, 3) := by decide +kernel
theorem dX10_leastWaste_126 : decode cX10_leastWaste 126 = .ok (.iload 4, 2) := by decide +kernel
theorem dX10_leastWaste_128 : decode cX10_leastWaste 128 = .ok (.aload_n 0, 1) := by decide +kernel
theorem dX10_leastWaste_129 : decode cX10_leastWaste 129 = .ok (.getfield 152, 3) := by decide +kernel
theorem dX10_leastWaste_132 : decode cX10_leastWaste 132 = .ok (.aload_n 0, 1) := by decide +kernel
theorem dX10_leastWaste_133 : decode cX10_leastWaste 133 = .ok (.getfield 158, 3) := by decide +kernel
theorem dX10_leastWaste_136 : decode cX10_leastWaste 136 = .ok (.iload 5, 2) := by decide +kernel
theorem dX10_leastWaste_138 : decode cX10_leastWaste 138 = .ok (.iaload, 1) := by decide +kernel
theorem dX10_leastWaste_139 : decode cX10_leastWaste 139 = .ok (.iaload, 1) := by decide +kernel
theorem dX10_leastWaste_140 : decode cX10_leastWaste 140 = .ok (.iadd, 1) := by decide +kernel
theorem dX10_leastWaste_141 : decode cX10_leastWaste 141 = .ok (.aload_n 0, 1) := by decide +kernel
theorem dX10_leastWaste_142 : decode cX10_leastWaste 142 = .ok (.getfield 149, 3) := by decide +kernel
theorem dX10_leastWaste_145 : decode cX10_leastWaste 145 = .ok (.iload 5, 2) := by decide +kernel
theorem dX10_leastWaste_147 : decode cX10_leastWaste 147 = .ok (.iaload, 1) := by decide +kernel
theorem dX10_leastWaste_148 : decode cX10_leastWaste 148 = .ok (.isub, 1) := by decide +kernel
theorem dX10_leastWaste_149 : decode cX10_leastWaste 149 = .ok (.istore 4, 2) := by decide +kernel
theorem dX10_leastWaste_151 : decode cX10_leastWaste 151 = .ok (.iinc 5 1, 3) := by decide +kernel
theorem dX10_leastWaste_154 : decode cX10_leastWaste 154 = .ok (.goto (-37), 3) := by decide +kernel
theorem dX10_leastWaste_157 : decode cX10_leastWaste 157 = .ok (.iload_n 2, 1) := by decide +kernel
theorem dX10_leastWaste_158 : decode cX10_leastWaste 158 = .ok (.iconst (-1), 1) := by decide +kernel
theorem dX10_leastWaste_159 : decode cX10_leastWaste 159 = .ok (.if_icmp .eq 12, 3) := by decide +kernel
theorem dX10_leastWaste_162 : decode cX10_leastWaste 162 = .ok (.iload 4, 2) := by decide +kernel
theorem dX10_leastWaste_164 : decode cX10_leastWaste 164 = .ok (.iload_n 2, 1) := by decide +kernel
theorem dX10_leastWaste_165 : decode cX10_leastWaste 165 = .ok (.if_icmp .lt 6, 3) := by decide +kernel
theorem dX10_leastWaste_168 : decode cX10_leastWaste 168 = .ok (.goto (-131), 3) := by decide +kernel
theorem dX10_leastWaste_171 : decode cX10_leastWaste 171 = .ok (.iload 4, 2) := by decide +kernel
theorem dX10_leastWaste_173 : decode cX10_leastWaste 173 = .ok (.istore_n 2, 1) := by decide +kernel
theorem dX10_leastWaste_174 : decode cX10_leastWaste 174 = .ok (.iconst 0, 1) := by decide +kernel
theorem dX10_leastWaste_175 : decode cX10_leastWaste 175 = .ok (.istore 5, 2) := by decide +kernel
theorem dX10_leastWaste_177 : decode cX10_leastWaste 177 = .ok (.iload 5, 2) := by decide +kernel
theorem dX10_leastWaste_179 : decode cX10_leastWaste 179 = .ok (.aload_n 0, 1) := by decide +kernel
theorem dX10_leastWaste_180 : decode cX10_leastWaste 180 = .ok (.getfield 455, 3) := by decide +kernel
theorem dX10_leastWaste_183 : decode cX10_leastWaste 183 = .ok (.if_icmp .ge 23, 3) := by decide +kernel
theorem dX10_leastWaste_186 : decode cX10_leastWaste 186 = .ok (.aload_n 0, 1) := by decide +kernel
theorem dX10_leastWaste_187 : decode cX10_leastWaste 187 = .ok (.getfield 161, 3) := by decide +kernel
theorem dX10_leastWaste_190 : decode cX10_leastWaste 190 = .ok (.iload 5, 2) := by decide +kernel
theorem dX10_leastWaste_192 : decode cX10_leastWaste 192 = .ok (.aload_n 0, 1) := by decide +kernel
theorem dX10_leastWaste_193 : decode cX10_leastWaste 193 = .ok (.getfield 158, 3) := by decide +kernel
theorem dX10_leastWaste_196 : decode cX10_leastWaste 196 = .ok (.iload 5, 2) := by decide +kernel
theorem dX10_leastWaste_198 : decode cX10_leastWaste 198 = .ok (.iaload, 1) := by decide +kernel
theorem dX10_leastWaste_199 : decode cX10_leastWaste 199 = .ok (.iastore, 1) := by decide +kernel
theorem dX10_leastWaste_200 : decode cX10_leastWaste 200 = .ok (.iinc 5 1, 3) := by decide +kernel
theorem dX10_leastWaste_203 : decode cX10_leastWaste 203 = .ok (.goto (-26), 3) := by decide +kernel
theorem dX10_leastWaste_206 : decode cX10_leastWaste 206 = .ok (.goto (-169), 3) := by decide +kernel
theorem dX10_leastWaste_209 : decode cX10_leastWaste 209 = .ok (.iload_n 2, 1) := by decide +kernel
theorem dX10_leastWaste_210 : decode cX10_leastWaste 210 = .ok (.ireturn, 1) := by decide +kernel
theorem dX10_set_0 : decode cX10_set 0 = .ok (.aload_n 0, 1) := by decide +kernel
theorem dX10_set_1 : decode cX10_set 1 = .ok (.iconst 0, 1) := by decide +kernel
theorem dX10_set_2 : decode cX10_set 2 = .ok (.putfield 167, 3) := by decide +kernel
theorem dX10_set_5 : decode cX10_set 5 = .ok (.aload_n 0, 1) := by decide +kernel
theorem dX10_set_6 : decode cX10_set 6 = .ok (.iload_n 1, 1) := by decide +kernel
theorem dX10_set_7 : decode cX10_set 7 = .ok (.iconst 0, 1) := by decide +kernel
theorem dX10_set_8 : decode cX10_set 8 = .ok (.bipush 99, 2) := by decide +kernel
theorem dX10_set_10 : decode cX10_set 10 = .ok (.invokevirtual 177, 3) := by decide +kernel
theorem dX10_set_13 : decode cX10_set 13 = .ok (.ifCond .eq 16, 3) := by decide +kernel
theorem dX10_set_16 : decode cX10_set 16 = .ok (.aload_n 0, 1) := by decide +kernel
theorem dX10_set_17 : decode cX10_set 17 = .ok (.iload_n 2, 1) := by decide +kernel
theorem dX10_set_18 : decode cX10_set 18 = .ok (.iconst 0, 1) := by decide +kernel
theorem dX10_set_19 : decode cX10_set 19 = .ok (.aload_n 0, 1) := by decide +kernel
theorem dX10_set_20 : decode cX10_set 20 = .ok (.getfield 455, 3) := by decide +kernel
theorem dX10_set_23 : decode cX10_set 23 = .ok (.invokevirtual 177, 3) := by decide +kernel
theorem dX10_set_26 : decode cX10_set 26 = .ok (.ifCond .ne 5, 3) := by decide +kernel
theorem dX10_set_29 : decode cX10_set 29 = .ok (.iconst (-1), 1) := by decide +kernel
theorem dX10_set_30 : decode cX10_set 30 = .ok (.ireturn, 1) := by decide +kernel
theorem dX10_set_31 : decode cX10_set 31 = .ok (.aload_n 0, 1) := by decide +kernel
theorem dX10_set_32 : decode cX10_set 32 = .ok (.iload_n 1, 1) := by decide +kernel
theorem dX10_set_33 : decode cX10_set 33 = .ok (.invokevirtual 464, 3) := by decide +kernel
theorem dX10_set_36 : decode cX10_set 36 = .ok (.istore_n 3, 1) := by decide +kernel
theorem dX10_set_37 : decode cX10_set 37 = .ok (.iload_n 2, 1) := by decide +kernel
theorem dX10_set_38 : decode cX10_set 38 = .ok (.ifCond .eq 8, 3) := by decide +kernel
theorem dX10_set_41 : decode cX10_set 41 = .ok (.iload_n 3, 1) := by decide +kernel
theorem dX10_set_42 : decode cX10_set 42 = .ok (.iconst (-1), 1) := by decide +kernel
theorem dX10_set_43 : decode cX10_set 43 = .ok (.if_icmp .ne 7, 3) := by decide +kernel
theorem dX10_set_46 : decode cX10_set 46 = .ok (.iload_n 3, 1) := by decide +kernel
theorem dX10_set_47 : decode cX10_set 47 = .ok (.goto 11, 3) := by decide +kernel
theorem dX10_set_50 : decode cX10_set 50 = .ok (.aload_n 0, 1) := by decide +kernel
theorem dX10_set_51 : decode cX10_set 51 = .ok (.getfield 161, 3) := by decide +kernel
theorem dX10_set_54 : decode cX10_set 54 = .ok (.iload_n 2, 1) := by decide +kernel
theorem dX10_set_55 : decode cX10_set 55 = .ok (.iconst 1, 1) := by decide +kernel
theorem dX10_set_56 : decode cX10_set 56 = .ok (.isub, 1) := by decide +kernel
theorem dX10_set_57 : decode cX10_set 57 = .ok (.iaload, 1) := by decide +kernel
theorem dX10_set_58 : decode cX10_set 58 = .ok (.ireturn, 1) := by decide +kernel
theorem dX10_down_0 : decode cX10_down 0 = .ok (.aload_n 0, 1) := by decide +kernel
theorem dX10_down_1 : decode cX10_down 1 = .ok (.iconst 0, 1) := by decide +kernel
theorem dX10_down_2 : decode cX10_down 2 = .ok (.putfield 167, 3) := by decide +kernel
theorem dX10_down_5 : decode cX10_down 5 = .ok (.aload_n 0, 1) := by decide +kernel
theorem dX10_down_6 : decode cX10_down 6 = .ok (.iload_n 1, 1) := by decide +kernel
theorem dX10_down_7 : decode cX10_down 7 = .ok (.invokevirtual 173, 3) := by decide +kernel
theorem dX10_down_10 : decode cX10_down 10 = .ok (.ifCond .ne 5, 3) := by decide +kernel
theorem dX10_down_13 : decode cX10_down 13 = .ok (.iconst (-1), 1) := by decide +kernel
theorem dX10_down_14 : decode cX10_down 14 = .ok (.ireturn, 1) := by decide +kernel
theorem dX10_down_15 : decode cX10_down 15 = .ok (.aload_n 0, 1) := by decide +kernel
theorem dX10_down_16 : decode cX10_down 16 = .ok (.iload_n 1, 1) := by decide +kernel
theorem dX10_down_17 : decode cX10_down 17 = .ok (.iconst 0, 1) := by decide +kernel
theorem dX10_down_18 : decode cX10_down 18 = .ok (.invokevirtual 335, 3) := by decide +kernel
theorem dX10_down_21 : decode cX10_down 21 = .ok (.istore_n 2, 1) := by decide +kernel
theorem dX10_down_22 : decode cX10_down 22 = .ok (.iconst (-1), 1) := by decide +kernel
theorem dX10_down_23 : decode cX10_down 23 = .ok (.istore_n 3, 1) := by decide +kernel
theorem dX10_down_24 : decode cX10_down 24 = .ok (.iconst 0, 1) := by decide +kernel
theorem dX10_down_25 : decode cX10_down 25 = .ok (.istore 4, 2) := by decide +kernel
theorem dX10_down_27 : decode cX10_down 27 = .ok (.iload 4, 2) := by decide +kernel
theorem dX10_down_29 : decode cX10_down 29 = .ok (.aload_n 0, 1) := by decide +kernel
theorem dX10_down_30 : decode cX10_down 30 = .ok (.getfield 455, 3) := by decide +kernel
theorem dX10_down_33 : decode cX10_down 33 = .ok (.if_icmp .ge 49, 3) := by decide +kernel
theorem dX10_down_36 : decode cX10_down 36 = .ok (.aload_n 0, 1) := by decide +kernel
theorem dX10_down_37 : decode cX10_down 37 = .ok (.getfield 146, 3) := by decide +kernel
theorem dX10_down_40 : decode cX10_down 40 = .ok (.iload 4, 2) := by decide +kernel
theorem dX10_down_42 : decode cX10_down 42 = .ok (.iaload, 1) := by decide +kernel
theorem dX10_down_43 : decode cX10_down 43 = .ok (.iload_n 2, 1) := by decide +kernel
theorem dX10_down_44 : decode cX10_down 44 = .ok (.aload_n 0, 1) := by decide +kernel
theorem dX10_down_45 : decode cX10_down 45 = .ok (.getfield 7, 3) := by decide +kernel
theorem dX10_down_48 : decode cX10_down 48 = .ok (.iadd, 1) := by decide +kernel
theorem dX10_down_49 : decode cX10_down 49 = .ok (.if_icmp .gt 27, 3) := by decide +kernel
theorem dX10_down_52 : decode cX10_down 52 = .ok (.iload_n 3, 1) := by decide +kernel
theorem dX10_down_53 : decode cX10_down 53 = .ok (.iconst (-1), 1) := by decide +kernel
theorem dX10_down_54 : decode cX10_down 54 = .ok (.if_icmp .eq 19, 3) := by decide +kernel
theorem dX10_down_57 : decode cX10_down 57 = .ok (.aload_n 0, 1) := by decide +kernel
theorem dX10_down_58 : decode cX10_down 58 = .ok (.getfield 146, 3) := by decide +kernel
theorem dX10_down_61 : decode cX10_down 61 = .ok (.iload 4, 2) := by decide +kernel
theorem dX10_down_63 : decode cX10_down 63 = .ok (.iaload, 1) := by decide +kernel
theorem dX10_down_64 : decode cX10_down 64 = .ok (.aload_n 0, 1) := by decide +kernel
theorem dX10_down_65 : decode cX10_down 65 = .ok (.getfield 146, 3) := by decide +kernel
theorem dX10_down_68 : decode cX10_down 68 = .ok (.iload_n 3, 1) := by decide +kernel
theorem dX10_down_69 : decode cX10_down 69 = .ok (.iaload, 1) := by decide +kernel
theorem dX10_down_70 : decode cX10_down 70 = .ok (.if_icmp .le 6, 3) := by decide +kernel
theorem dX10_down_73 : decode cX10_down 73 = .ok (.iload 4, 2) := by decide +kernel
theorem dX10_down_75 : decode cX10_down 75 = .ok (.istore_n 3, 1) := by decide +kernel
theorem dX10_down_76 : decode cX10_down 76 = .ok (.iinc 4 1, 3) := by decide +kernel
theorem dX10_down_79 : decode cX10_down 79 = .ok (.goto (-52), 3) := by decide +kernel
theorem dX10_down_82 : decode cX10_down 82 = .ok (.iload_n 3, 1) := by decide +kernel
theorem dX10_down_83 : decode cX10_down 83 = .ok (.ireturn, 1) := by decide +kernel
theorem dX10_enough_0 : decode cX10_enough 0 = .ok (.aload_n 0, 1) := by decide +kernel
theorem dX10_enough_1 : decode cX10_enough 1 = .ok (.iconst 0, 1) := by decide +kernel
theorem dX10_enough_2 : decode cX10_enough 2 = .ok (.putfield 167, 3) := by decide +kernel
theorem dX10_enough_5 : decode cX10_enough 5 = .ok (.aload_n 0, 1) := by decide +kernel
theorem dX10_enough_6 : decode cX10_enough 6 = .ok (.iload_n 1, 1) := by decide +kernel
theorem dX10_enough_7 : decode cX10_enough 7 = .ok (.iload_n 2, 1) := by decide +kernel
theorem dX10_enough_8 : decode cX10_enough 8 = .ok (.invokevirtual 181, 3) := by decide +kernel
theorem dX10_enough_11 : decode cX10_enough 11 = .ok (.ifCond .eq 24, 3) := by decide +kernel
theorem dX10_enough_14 : decode cX10_enough 14 = .ok (.aload_n 0, 1) := by decide +kernel
theorem dX10_enough_15 : decode cX10_enough 15 = .ok (.iload_n 3, 1) := by decide +kernel
theorem dX10_enough_16 : decode cX10_enough 16 = .ok (.invokevirtual 331, 3) := by decide +kernel
theorem dX10_enough_19 : decode cX10_enough 19 = .ok (.ifCond .eq 16, 3) := by decide +kernel
theorem dX10_enough_22 : decode cX10_enough 22 = .ok (.aload_n 0, 1) := by decide +kernel
theorem dX10_enough_23 : decode cX10_enough 23 = .ok (.getfield 29, 3) := by decide +kernel
theorem dX10_enough_26 : decode cX10_enough 26 = .ok (.iconst 3, 1) := by decide +kernel
theorem dX10_enough_27 : decode cX10_enough 27 = .ok (.iload_n 1, 1) := by decide +kernel
theorem dX10_enough_28 : decode cX10_enough 28 = .ok (.imul, 1) := by decide +kernel
theorem dX10_enough_29 : decode cX10_enough 29 = .ok (.iload_n 3, 1) := by decide +kernel
theorem dX10_enough_30 : decode cX10_enough 30 = .ok (.iadd, 1) := by decide +kernel
theorem dX10_enough_31 : decode cX10_enough 31 = .ok (.iaload, 1) := by decide +kernel
theorem dX10_enough_32 : decode cX10_enough 32 = .ok (.ifCond .ne 5, 3) := by decide +kernel
theorem dX10_enough_35 : decode cX10_enough 35 = .ok (.iconst (-1), 1) := by decide +kernel
theorem dX10_enough_36 : decode cX10_enough 36 = .ok (.ireturn, 1) := by decide +kernel
theorem dX10_enough_37 : decode cX10_enough 37 = .ok (.aload_n 0, 1) := by decide +kernel
theorem dX10_enough_38 : decode cX10_enough 38 = .ok (.getfield 26, 3) := by decide +kernel
theorem dX10_enough_41 : decode cX10_enough 41 = .ok (.bipush 16, 2) := by decide +kernel
theorem dX10_enough_43 : decode cX10_enough 43 = .ok (.iload_n 1, 1) := by decide +kernel
theorem dX10_enough_44 : decode cX10_enough 44 = .ok (.imul, 1) := by decide +kernel
theorem dX10_enough_45 : decode cX10_enough 45 = .ok (.iload_n 2, 1) := by decide +kernel
theorem dX10_enough_46 : decode cX10_enough 46 = .ok (.iadd, 1) := by decide +kernel
theorem dX10_enough_47 : decode cX10_enough 47 = .ok (.iaload, 1) := by decide +kernel
theorem dX10_enough_48 : decode cX10_enough 48 = .ok (.istore 4, 2) := by decide +kernel
theorem dX10_enough_50 : decode cX10_enough 50 = .ok (.iload 4, 2) := by decide +kernel
theorem dX10_enough_52 : decode cX10_enough 52 = .ok (.istore 5, 2) := by decide +kernel
theorem dX10_enough_54 : decode cX10_enough 54 = .ok (.iconst (-1), 1) := by decide +kernel
theorem dX10_enough_55 : decode cX10_enough 55 = .ok (.istore 6, 2) := by decide +kernel
theorem dX10_enough_57 : decode cX10_enough 57 = .ok (.iload 5, 2) := by decide +kernel
theorem dX10_enough_59 : decode cX10_enough 59 = .ok (.bipush 99, 2) := by decide +kernel
theorem dX10_enough_61 : decode cX10_enough 61 = .ok (.if_icmp .gt 59, 3) := by decide +kernel
theorem dX10_enough_64 : decode cX10_enough 64 = .ok (.iload 6, 2) := by decide +kernel
theorem dX10_enough_66 : decode cX10_enough 66 = .ok (.iconst (-1), 1) := by decide +kernel
theorem dX10_enough_67 : decode cX10_enough 67 = .ok (.if_icmp .ne 53, 3) := by decide +kernel
theorem dX10_enough_70 : decode cX10_enough 70 = .ok (.aload_n 0, 1) := by decide +kernel
theorem dX10_enough_71 : decode cX10_enough 71 = .ok (.getfield 26, 3) := by decide +kernel
theorem dX10_enough_74 : decode cX10_enough 74 = .ok (.bipush 16, 2) := by decide +kernel
theorem dX10_enough_76 : decode cX10_enough 76 = .ok (.iload_n 1, 1) := by decide +kernel
theorem dX10_enough_77 : decode cX10_enough 77 = .ok (.imul, 1) := by decide +kernel
theorem dX10_enough_78 : decode cX10_enough 78 = .ok (.iload_n 2, 1) := by decide +kernel
theorem dX10_enough_79 : decode cX10_enough 79 = .ok (.iadd, 1) := by decide +kernel
theorem dX10_enough_80 : decode cX10_enough 80 = .ok (.iload 5, 2) := by decide +kernel
theorem dX10_enough_82 : decode cX10_enough 82 = .ok (.iastore, 1) := by decide +kernel
theorem dX10_enough_83 : decode cX10_enough 83 = .ok (.aload_n 0, 1) := by decide +kernel
theorem dX10_enough_84 : decode cX10_enough 84 = .ok (.iload_n 1, 1) := by decide +kernel
theorem dX10_enough_85 : decode cX10_enough 85 = .ok (.iload_n 3, 1) := by decide +kernel
theorem dX10_enough_86 : decode cX10_enough 86 = .ok (.invokevirtual 335, 3) := by decide +kernel
theorem dX10_enough_89 : decode cX10_enough 89 = .ok (.aload_n 0, 1) := by decide +kernel
theorem dX10_enough_90 : decode cX10_enough 90 = .ok (.getfield 29, 3) := by decide +kernel
theorem dX10_enough_93 : decode cX10_enough 93 = .ok (.iconst 3, 1) := by decide +kernel
theorem dX10_enough_94 : decode cX10_enough 94 = .ok (.iload_n 1, 1) := by decide +kernel
theorem dX10_enough_95 : decode cX10_enough 95 = .ok (.imul, 1) := by decide +kernel
theorem dX10_enough_96 : decode cX10_enough 96 = .ok (.iload_n 3, 1) := by decide +kernel
theorem dX10_enough_97 : decode cX10_enough 97 = .ok (.iadd, 1) := by decide +kernel
theorem dX10_enough_98 : decode cX10_enough 98 = .ok (.iaload, 1) := by decide +kernel
theorem dX10_enough_99 : decode cX10_enough 99 = .ok (.aload_n 0, 1) := by decide +kernel
theorem dX10_enough_100 : decode cX10_enough 100 = .ok (.getfield 7, 3) := by decide +kernel
theorem dX10_enough_103 : decode cX10_enough 103 = .ok (.iadd, 1) := by decide +kernel
theorem dX10_enough_104 : decode cX10_enough 104 = .ok (.if_icmp .gt 7, 3) := by decide +kernel
theorem dX10_enough_107 : decode cX10_enough 107 = .ok (.iload 5, 2) := by decide +kernel
theorem dX10_enough_109 : decode cX10_enough 109 = .ok (.istore 6, 2) := by decide +kernel
theorem dX10_enough_111 : decode cX10_enough 111 = .ok (.iload 5, 2) := by decide +kernel
theorem dX10_enough_113 : decode cX10_enough 113 = .ok (.iconst 1, 1) := by decide +kernel
theorem dX10_enough_114 : decode cX10_enough 114 = .ok (.iadd, 1) := by decide +kernel
theorem dX10_enough_115 : decode cX10_enough 115 = .ok (.istore 5, 2) := by decide +kernel
theorem dX10_enough_117 : decode cX10_enough 117 = .ok (.goto (-60), 3) := by decide +kernel
theorem dX10_enough_120 : decode cX10_enough 120 = .ok (.aload_n 0, 1) := by decide +kernel
theorem dX10_enough_121 : decode cX10_enough 121 = .ok (.getfield 26, 3) := by decide +kernel
theorem dX10_enough_124 : decode cX10_enough 124 = .ok (.bipush 16, 2) := by decide +kernel
theorem dX10_enough_126 : decode cX10_enough 126 = .ok (.iload_n 1, 1) := by decide +kernel
theorem dX10_enough_127 : decode cX10_enough 127 = .ok (.imul, 1) := by decide +kernel
theorem dX10_enough_128 : decode cX10_enough 128 = .ok (.iload_n 2, 1) := by decide +kernel
theorem dX10_enough_129 : decode cX10_enough 129 = .ok (.iadd, 1) := by decide +kernel
theorem dX10_enough_130 : decode cX10_enough 130 = .ok (.iload 4, 2) := by decide +kernel
theorem dX10_enough_132 : decode cX10_enough 132 = .ok (.iastore, 1) := by decide +kernel
theorem dX10_enough_133 : decode cX10_enough 133 = .ok (.iload 6, 2) := by decide +kernel
theorem dX10_enough_135 : decode cX10_enough 135 = .ok (.ireturn, 1) := by decide +kernel
theorem dX10_kept_0 : decode cX10_kept 0 = .ok (.aload_n 0, 1) := by decide +kernel
theorem dX10_kept_1 : decode cX10_kept 1 = .ok (.aload_n 0, 1) := by decide +kernel
theorem dX10_kept_2 : decode cX10_kept 2 = .ok (.getfield 467, 3) := by decide +kernel
theorem dX10_kept_5 : decode cX10_kept 5 = .ok (.iconst 1, 1) := by decide +kernel
theorem dX10_kept_6 : decode cX10_kept 6 = .ok (.iadd, 1) := by decide +kernel
theorem dX10_kept_7 : decode cX10_kept 7 = .ok (.putfield 467, 3) := by decide +kernel
theorem dX10_kept_10 : decode cX10_kept 10 = .ok (.aload_n 0, 1) := by decide +kernel
theorem dX10_kept_11 : decode cX10_kept 11 = .ok (.getfield 470, 3) := by decide +kernel
theorem dX10_kept_14 : decode cX10_kept 14 = .ok (.ifCond .ne 15, 3) := by decide +kernel
theorem dX10_kept_17 : decode cX10_kept 17 = .ok (.aload_n 0, 1) := by decide +kernel
theorem dX10_kept_18 : decode cX10_kept 18 = .ok (.getfield 164, 3) := by decide +kernel
theorem dX10_kept_21 : decode cX10_kept 21 = .ok (.aload_n 0, 1) := by decide +kernel
theorem dX10_kept_22 : decode cX10_kept 22 = .ok (.getfield 467, 3) := by decide +kernel
theorem dX10_kept_25 : decode cX10_kept 25 = .ok (.iconst 1, 1) := by decide +kernel
theorem dX10_kept_26 : decode cX10_kept 26 = .ok (.isub, 1) := by decide +kernel
theorem dX10_kept_27 : decode cX10_kept 27 = .ok (.iaload, 1) := by decide +kernel
theorem dX10_kept_28 : decode cX10_kept 28 = .ok (.ireturn, 1) := by decide +kernel
theorem dX10_kept_29 : decode cX10_kept 29 = .ok (.aload_n 0, 1) := by decide +kernel
theorem dX10_kept_30 : decode cX10_kept 30 = .ok (.getfield 164, 3) := by decide +kernel
theorem dX10_kept_33 : decode cX10_kept 33 = .ok (.aload_n 0, 1) := by decide +kernel
theorem dX10_kept_34 : decode cX10_kept 34 = .ok (.getfield 467, 3) := by decide +kernel
theorem dX10_kept_37 : decode cX10_kept 37 = .ok (.iconst 1, 1) := by decide +kernel
theorem dX10_kept_38 : decode cX10_kept 38 = .ok (.isub, 1) := by decide +kernel
theorem dX10_kept_39 : decode cX10_kept 39 = .ok (.iload_n 1, 1) := by decide +kernel
theorem dX10_kept_40 : decode cX10_kept 40 = .ok (.iastore, 1) := by decide +kernel
theorem dX10_kept_41 : decode cX10_kept 41 = .ok (.iload_n 1, 1) := by decide +kernel
theorem dX10_kept_42 : decode cX10_kept 42 = .ok (.ireturn, 1) := by decide +kernel
theorem dX10_keepsBars_0 : decode cX10_keepsBars 0 = .ok (.iconst 0, 1) := by decide +kernel
theorem dX10_keepsBars_1 : decode cX10_keepsBars 1 = .ok (.istore_n 1, 1) := by decide +kernel
theorem dX10_keepsBars_2 : decode cX10_keepsBars 2 = .ok (.iload_n 1, 1) := by decide +kernel
theorem dX10_keepsBars_3 : decode cX10_keepsBars 3 = .ok (.bipush 10, 2) := by decide +kernel
theorem dX10_keepsBars_5 : decode cX10_keepsBars 5 = .ok (.if_icmp .ge 105, 3) := by decide +kernel
theorem dX10_keepsBars_8 : decode cX10_keepsBars 8 = .ok (.aload_n 0, 1) := by decide +kernel
theorem dX10_keepsBars_9 : decode cX10_keepsBars 9 = .ok (.getfield 13, 3) := by decide +kernel
theorem dX10_keepsBars_12 : decode cX10_keepsBars 12 = .ok (.iload_n 1, 1) := by decide +kernel
theorem dX10_keepsBars_13 : decode cX10_keepsBars 13 = .ok (.aload_n 0, 1) := by decide +kernel
theorem dX10_keepsBars_14 : decode cX10_keepsBars 14 = .ok (.aload_n 0, 1) := by decide +kernel
theorem dX10_keepsBars_15 : decode cX10_keepsBars 15 = .ok (.getfield 13, 3) := by decide +kernel
theorem dX10_keepsBars_18 : decode cX10_keepsBars 18 = .ok (.iload_n 1, 1) := by decide +kernel
theorem dX10_keepsBars_19 : decode cX10_keepsBars 19 = .ok (.iaload, 1) := by decide +kernel
theorem dX10_keepsBars_20 : decode cX10_keepsBars 20 = .ok (.invokevirtual 473, 3) := by decide +kernel
theorem dX10_keepsBars_23 : decode cX10_keepsBars 23 = .ok (.iastore, 1) := by decide +kernel
theorem dX10_keepsBars_24 : decode cX10_keepsBars 24 = .ok (.aload_n 0, 1) := by decide +kernel
theorem dX10_keepsBars_25 : decode cX10_keepsBars 25 = .ok (.getfield 32, 3) := by decide +kernel
theorem dX10_keepsBars_28 : decode cX10_keepsBars 28 = .ok (.iload_n 1, 1) := by decide +kernel
theorem dX10_keepsBars_29 : decode cX10_keepsBars 29 = .ok (.aload_n 0, 1) := by decide +kernel
theorem dX10_keepsBars_30 : decode cX10_keepsBars 30 = .ok (.aload_n 0, 1) := by decide +kernel
theorem dX10_keepsBars_31 : decode cX10_keepsBars 31 = .ok (.getfield 32, 3) := by decide +kernel
theorem dX10_keepsBars_34 : decode cX10_keepsBars 34 = .ok (.iload_n 1, 1) := by decide +kernel
theorem dX10_keepsBars_35 : decode cX10_keepsBars 35 = .ok (.iaload, 1) := by decide +kernel
theorem dX10_keepsBars_36 : decode cX10_keepsBars 36 = .ok (.invokevirtual 473, 3) := by decide +kernel
theorem dX10_keepsBars_39 : decode cX10_keepsBars 39 = .ok (.iastore, 1) := by decide +kernel
theorem dX10_keepsBars_40 : decode cX10_keepsBars 40 = .ok (.aload_n 0, 1) := by decide +kernel
theorem dX10_keepsBars_41 : decode cX10_keepsBars 41 = .ok (.getfield 41, 3) := by decide +kernel
theorem dX10_keepsBars_44 : decode cX10_keepsBars 44 = .ok (.iload_n 1, 1) := by decide +kernel
theorem dX10_keepsBars_45 : decode cX10_keepsBars 45 = .ok (.aload_n 0, 1) := by decide +kernel
theorem dX10_keepsBars_46 : decode cX10_keepsBars 46 = .ok (.aload_n 0, 1) := by decide +kernel
theorem dX10_keepsBars_47 : decode cX10_keepsBars 47 = .ok (.getfield 41, 3) := by decide +kernel
theorem dX10_keepsBars_50 : decode cX10_keepsBars 50 = .ok (.iload_n 1, 1) := by decide +kernel
theorem dX10_keepsBars_51 : decode cX10_keepsBars 51 = .ok (.iaload, 1) := by decide +kernel
theorem dX10_keepsBars_52 : decode cX10_keepsBars 52 = .ok (.invokevirtual 473, 3) := by decide +kernel
theorem dX10_keepsBars_55 : decode cX10_keepsBars 55 = .ok (.iastore, 1) := by decide +kernel
theorem dX10_keepsBars_56 : decode cX10_keepsBars 56 = .ok (.aload_n 0, 1) := by decide +kernel
theorem dX10_keepsBars_57 : decode cX10_keepsBars 57 = .ok (.getfield 44, 3) := by decide +kernel
theorem dX10_keepsBars_60 : decode cX10_keepsBars 60 = .ok (.iload_n 1, 1) := by decide +kernel
theorem dX10_keepsBars_61 : decode cX10_keepsBars 61 = .ok (.aload_n 0, 1) := by decide +kernel
theorem dX10_keepsBars_62 : decode cX10_keepsBars 62 = .ok (.aload_n 0, 1) := by decide +kernel
theorem dX10_keepsBars_63 : decode cX10_keepsBars 63 = .ok (.getfield 44, 3) := by decide +kernel
