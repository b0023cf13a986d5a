theorem dX4_sum_73 : decode cX4_sum 73 = .ok (.iconst 1, 1) := by decide +kernel
theorem dX4_sum_74 : decode cX4_sum 74 = .ok (.ireturn, 1) := by decide +kernel
theorem dX4_term_0 : decode cX4_term 0 = .ok (.iconst 0, 1) := by decide +kernel
theorem dX4_term_1 : decode cX4_term 1 = .ok (.istore_n 1, 1) := by decide +kernel
theorem dX4_term_2 : decode cX4_term 2 = .ok (.iconst 0, 1) := by decide +kernel
theorem dX4_term_3 : decode cX4_term 3 = .ok (.istore_n 2, 1) := by decide +kernel
theorem dX4_term_4 : decode cX4_term 4 = .ok (.iload_n 2, 1) := by decide +kernel
theorem dX4_term_5 : decode cX4_term 5 = .ok (.sipush 500, 3) := by decide +kernel
theorem dX4_term_8 : decode cX4_term 8 = .ok (.if_icmp .ge 161, 3) := by decide +kernel
theorem dX4_term_11 : decode cX4_term 11 = .ok (.aload_n 0, 1) := by decide +kernel
theorem dX4_term_12 : decode cX4_term 12 = .ok (.getfield 18, 3) := by decide +kernel
theorem dX4_term_15 : decode cX4_term 15 = .ok (.aload_n 0, 1) := by decide +kernel
theorem dX4_term_16 : decode cX4_term 16 = .ok (.getfield 42, 3) := by decide +kernel
theorem dX4_term_19 : decode cX4_term 19 = .ok (.iaload, 1) := by decide +kernel
theorem dX4_term_20 : decode cX4_term 20 = .ok (.istore_n 3, 1) := by decide +kernel
theorem dX4_term_21 : decode cX4_term 21 = .ok (.aload_n 0, 1) := by decide +kernel
theorem dX4_term_22 : decode cX4_term 22 = .ok (.getfield 22, 3) := by decide +kernel
theorem dX4_term_25 : decode cX4_term 25 = .ok (.aload_n 0, 1) := by decide +kernel
theorem dX4_term_26 : decode cX4_term 26 = .ok (.getfield 42, 3) := by decide +kernel
theorem dX4_term_29 : decode cX4_term 29 = .ok (.iaload, 1) := by decide +kernel
theorem dX4_term_30 : decode cX4_term 30 = .ok (.istore 4, 2) := by decide +kernel
theorem dX4_term_32 : decode cX4_term 32 = .ok (.iload_n 3, 1) := by decide +kernel
theorem dX4_term_33 : decode cX4_term 33 = .ok (.bipush 24, 2) := by decide +kernel
theorem dX4_term_35 : decode cX4_term 35 = .ok (.if_icmp .eq 23, 3) := by decide +kernel
theorem dX4_term_38 : decode cX4_term 38 = .ok (.iload_n 1, 1) := by decide +kernel
theorem dX4_term_39 : decode cX4_term 39 = .ok (.bipush 47, 2) := by decide +kernel
theorem dX4_term_41 : decode cX4_term 41 = .ok (.if_icmp .eq 11, 3) := by decide +kernel
theorem dX4_term_44 : decode cX4_term 44 = .ok (.aload_n 0, 1) := by decide +kernel
theorem dX4_term_45 : decode cX4_term 45 = .ok (.iload_n 3, 1) := by decide +kernel
theorem dX4_term_46 : decode cX4_term 46 = .ok (.invokevirtual 144, 3) := by decide +kernel
theorem dX4_term_49 : decode cX4_term 49 = .ok (.ifCond .ne 9, 3) := by decide +kernel
theorem dX4_term_52 : decode cX4_term 52 = .ok (.aload_n 0, 1) := by decide +kernel
theorem dX4_term_53 : decode cX4_term 53 = .ok (.iconst 1, 1) := by decide +kernel
theorem dX4_term_54 : decode cX4_term 54 = .ok (.invokevirtual 81, 3) := by decide +kernel
theorem dX4_term_57 : decode cX4_term 57 = .ok (.ireturn, 1) := by decide +kernel
theorem dX4_term_58 : decode cX4_term 58 = .ok (.iload_n 1, 1) := by decide +kernel
theorem dX4_term_59 : decode cX4_term 59 = .ok (.bipush 47, 2) := by decide +kernel
theorem dX4_term_61 : decode cX4_term 61 = .ok (.if_icmp .ne 14, 3) := by decide +kernel
theorem dX4_term_64 : decode cX4_term 64 = .ok (.iload 4, 2) := by decide +kernel
theorem dX4_term_66 : decode cX4_term 66 = .ok (.ifCond .ne 9, 3) := by decide +kernel
theorem dX4_term_69 : decode cX4_term 69 = .ok (.aload_n 0, 1) := by decide +kernel
theorem dX4_term_70 : decode cX4_term 70 = .ok (.iconst 2, 1) := by decide +kernel
theorem dX4_term_71 : decode cX4_term 71 = .ok (.invokevirtual 81, 3) := by decide +kernel
theorem dX4_term_74 : decode cX4_term 74 = .ok (.ireturn, 1) := by decide +kernel
theorem dX4_term_75 : decode cX4_term 75 = .ok (.iload_n 1, 1) := by decide +kernel
theorem dX4_term_76 : decode cX4_term 76 = .ok (.bipush 47, 2) := by decide +kernel
theorem dX4_term_78 : decode cX4_term 78 = .ok (.if_icmp .ne 16, 3) := by decide +kernel
theorem dX4_term_81 : decode cX4_term 81 = .ok (.aload_n 0, 1) := by decide +kernel
theorem dX4_term_82 : decode cX4_term 82 = .ok (.getfield 12, 3) := by decide +kernel
theorem dX4_term_85 : decode cX4_term 85 = .ok (.iload_n 1, 1) := by decide +kernel
theorem dX4_term_86 : decode cX4_term 86 = .ok (.iload 4, 2) := by decide +kernel
theorem dX4_term_88 : decode cX4_term 88 = .ok (.invokevirtual 131, 3) := by decide +kernel
theorem dX4_term_91 : decode cX4_term 91 = .ok (.goto 13, 3) := by decide +kernel
theorem dX4_term_94 : decode cX4_term 94 = .ok (.aload_n 0, 1) := by decide +kernel
theorem dX4_term_95 : decode cX4_term 95 = .ok (.getfield 12, 3) := by decide +kernel
theorem dX4_term_98 : decode cX4_term 98 = .ok (.iload_n 3, 1) := by decide +kernel
theorem dX4_term_99 : decode cX4_term 99 = .ok (.iload 4, 2) := by decide +kernel
theorem dX4_term_101 : decode cX4_term 101 = .ok (.invokevirtual 131, 3) := by decide +kernel
theorem dX4_term_104 : decode cX4_term 104 = .ok (.iload_n 1, 1) := by decide +kernel
theorem dX4_term_105 : decode cX4_term 105 = .ok (.bipush 42, 2) := by decide +kernel
theorem dX4_term_107 : decode cX4_term 107 = .ok (.if_icmp .ne 12, 3) := by decide +kernel
theorem dX4_term_110 : decode cX4_term 110 = .ok (.aload_n 0, 1) := by decide +kernel
theorem dX4_term_111 : decode cX4_term 111 = .ok (.getfield 12, 3) := by decide +kernel
theorem dX4_term_114 : decode cX4_term 114 = .ok (.iload_n 1, 1) := by decide +kernel
theorem dX4_term_115 : decode cX4_term 115 = .ok (.iconst 0, 1) := by decide +kernel
theorem dX4_term_116 : decode cX4_term 116 = .ok (.invokevirtual 131, 3) := by decide +kernel
theorem dX4_term_119 : decode cX4_term 119 = .ok (.aload_n 0, 1) := by decide +kernel
theorem dX4_term_120 : decode cX4_term 120 = .ok (.dup, 1) := by decide +kernel
theorem dX4_term_121 : decode cX4_term 121 = .ok (.getfield 42, 3) := by decide +kernel
theorem dX4_term_124 : decode cX4_term 124 = .ok (.iconst 1, 1) := by decide +kernel
theorem dX4_term_125 : decode cX4_term 125 = .ok (.iadd, 1) := by decide +kernel
theorem dX4_term_126 : decode cX4_term 126 = .ok (.putfield 42, 3) := by decide +kernel
theorem dX4_term_129 : decode cX4_term 129 = .ok (.aload_n 0, 1) := by decide +kernel
theorem dX4_term_130 : decode cX4_term 130 = .ok (.getfield 18, 3) := by decide +kernel
theorem dX4_term_133 : decode cX4_term 133 = .ok (.aload_n 0, 1) := by decide +kernel
theorem dX4_term_134 : decode cX4_term 134 = .ok (.getfield 42, 3) := by decide +kernel
theorem dX4_term_137 : decode cX4_term 137 = .ok (.iaload, 1) := by decide +kernel
theorem dX4_term_138 : decode cX4_term 138 = .ok (.istore_n 1, 1) := by decide +kernel
theorem dX4_term_139 : decode cX4_term 139 = .ok (.iload_n 1, 1) := by decide +kernel
theorem dX4_term_140 : decode cX4_term 140 = .ok (.bipush 42, 2) := by decide +kernel
theorem dX4_term_142 : decode cX4_term 142 = .ok (.if_icmp .eq 11, 3) := by decide +kernel
theorem dX4_term_145 : decode cX4_term 145 = .ok (.iload_n 1, 1) := by decide +kernel
theorem dX4_term_146 : decode cX4_term 146 = .ok (.bipush 47, 2) := by decide +kernel
theorem dX4_term_148 : decode cX4_term 148 = .ok (.if_icmp .eq 5, 3) := by decide +kernel
theorem dX4_term_151 : decode cX4_term 151 = .ok (.iconst 1, 1) := by decide +kernel
theorem dX4_term_152 : decode cX4_term 152 = .ok (.ireturn, 1) := by decide +kernel
theorem dX4_term_153 : decode cX4_term 153 = .ok (.aload_n 0, 1) := by decide +kernel
theorem dX4_term_154 : decode cX4_term 154 = .ok (.dup, 1) := by decide +kernel
theorem dX4_term_155 : decode cX4_term 155 = .ok (.getfield 42, 3) := by decide +kernel
theorem dX4_term_158 : decode cX4_term 158 = .ok (.iconst 1, 1) := by decide +kernel
theorem dX4_term_159 : decode cX4_term 159 = .ok (.iadd, 1) := by decide +kernel
theorem dX4_term_160 : decode cX4_term 160 = .ok (.putfield 42, 3) := by decide +kernel
theorem dX4_term_163 : decode cX4_term 163 = .ok (.iinc 2 1, 3) := by decide +kernel
theorem dX4_term_166 : decode cX4_term 166 = .ok (.goto (-162), 3) := by decide +kernel
theorem dX4_term_169 : decode cX4_term 169 = .ok (.iconst 1, 1) := by decide +kernel
theorem dX4_term_170 : decode cX4_term 170 = .ok (.ireturn, 1) := by decide +kernel
theorem dX4_isUnit_0 : decode cX4_isUnit 0 = .ok (.aload_n 0, 1) := by decide +kernel
theorem dX4_isUnit_1 : decode cX4_isUnit 1 = .ok (.getfield 28, 3) := by decide +kernel
theorem dX4_isUnit_4 : decode cX4_isUnit 4 = .ok (.ifCond .eq 29, 3) := by decide +kernel
theorem dX4_isUnit_7 : decode cX4_isUnit 7 = .ok (.iload_n 1, 1) := by decide +kernel
theorem dX4_isUnit_8 : decode cX4_isUnit 8 = .ok (.bipush 6, 2) := by decide +kernel
theorem dX4_isUnit_10 : decode cX4_isUnit 10 = .ok (.if_icmp .eq 15, 3) := by decide +kernel
theorem dX4_isUnit_13 : decode cX4_isUnit 13 = .ok (.iload_n 1, 1) := by decide +kernel
theorem dX4_isUnit_14 : decode cX4_isUnit 14 = .ok (.bipush 11, 2) := by decide +kernel
theorem dX4_isUnit_16 : decode cX4_isUnit 16 = .ok (.if_icmp .lt 13, 3) := by decide +kernel
theorem dX4_isUnit_19 : decode cX4_isUnit 19 = .ok (.iload_n 1, 1) := by decide +kernel
theorem dX4_isUnit_20 : decode cX4_isUnit 20 = .ok (.bipush 19, 2) := by decide +kernel
theorem dX4_isUnit_22 : decode cX4_isUnit 22 = .ok (.if_icmp .gt 7, 3) := by decide +kernel
theorem dX4_isUnit_25 : decode cX4_isUnit 25 = .ok (.iconst 1, 1) := by decide +kernel
theorem dX4_isUnit_26 : decode cX4_isUnit 26 = .ok (.goto 24, 3) := by decide +kernel
theorem dX4_isUnit_29 : decode cX4_isUnit 29 = .ok (.iconst 0, 1) := by decide +kernel
theorem dX4_isUnit_30 : decode cX4_isUnit 30 = .ok (.goto 20, 3) := by decide +kernel
theorem dX4_isUnit_33 : decode cX4_isUnit 33 = .ok (.iload_n 1, 1) := by decide +kernel
theorem dX4_isUnit_34 : decode cX4_isUnit 34 = .ok (.bipush 20, 2) := by decide +kernel
theorem dX4_isUnit_36 : decode cX4_isUnit 36 = .ok (.if_icmp .lt 13, 3) := by decide +kernel
theorem dX4_isUnit_39 : decode cX4_isUnit 39 = .ok (.iload_n 1, 1) := by decide +kernel
theorem dX4_isUnit_40 : decode cX4_isUnit 40 = .ok (.bipush 23, 2) := by decide +kernel
theorem dX4_isUnit_42 : decode cX4_isUnit 42 = .ok (.if_icmp .gt 7, 3) := by decide +kernel
theorem dX4_isUnit_45 : decode cX4_isUnit 45 = .ok (.iconst 1, 1) := by decide +kernel
theorem dX4_isUnit_46 : decode cX4_isUnit 46 = .ok (.goto 4, 3) := by decide +kernel
theorem dX4_isUnit_49 : decode cX4_isUnit 49 = .ok (.iconst 0, 1) := by decide +kernel
theorem dX4_isUnit_50 : decode cX4_isUnit 50 = .ok (.ireturn, 1) := by decide +kernel
theorem dX5_init_0 : decode cX5_init 0 = .ok (.aload_n 0, 1) := by decide +kernel
theorem dX5_init_1 : decode cX5_init 1 = .ok (.invokespecial 3, 3) := by decide +kernel
theorem dX5_init_4 : decode cX5_init 4 = .ok (.aload_n 0, 1) := by decide +kernel
theorem dX5_init_5 : decode cX5_init 5 = .ok (.bipush 8, 2) := by decide +kernel
theorem dX5_init_7 : decode cX5_init 7 = .ok (.newarray .int, 2) := by decide +kernel
theorem dX5_init_9 : decode cX5_init 9 = .ok (.putfield 9, 3) := by decide +kernel
theorem dX5_init_12 : decode cX5_init 12 = .ok (.aload_n 0, 1) := by decide +kernel
theorem dX5_init_13 : decode cX5_init 13 = .ok (.bipush 8, 2) := by decide +kernel
theorem dX5_init_15 : decode cX5_init 15 = .ok (.newarray .int, 2) := by decide +kernel
theorem dX5_init_17 : decode cX5_init 17 = .ok (.putfield 15, 3) := by decide +kernel
theorem dX5_init_20 : decode cX5_init 20 = .ok (.aload_n 0, 1) := by decide +kernel
theorem dX5_init_21 : decode cX5_init 21 = .ok (.sipush 256, 3) := by decide +kernel
theorem dX5_init_24 : decode cX5_init 24 = .ok (.newarray .int, 2) := by decide +kernel
theorem dX5_init_26 : decode cX5_init 26 = .ok (.putfield 18, 3) := by decide +kernel
theorem dX5_init_29 : decode cX5_init 29 = .ok (.return_, 1) := by decide +kernel
theorem dX5_find_0 : decode cX5_find 0 = .ok (.aload_n 0, 1) := by decide +kernel
theorem dX5_find_1 : decode cX5_find 1 = .ok (.getfield 18, 3) := by decide +kernel
theorem dX5_find_4 : decode cX5_find 4 = .ok (.iconst 0, 1) := by decide +kernel
theorem dX5_find_5 : decode cX5_find 5 = .ok (.invokestatic 21, 3) := by decide +kernel
theorem dX5_find_8 : decode cX5_find 8 = .ok (.aload_n 0, 1) := by decide +kernel
theorem dX5_find_9 : decode cX5_find 9 = .ok (.iconst (-1), 1) := by decide +kernel
theorem dX5_find_10 : decode cX5_find 10 = .ok (.putfield 27, 3) := by decide +kernel
theorem dX5_find_13 : decode cX5_find 13 = .ok (.aload_n 0, 1) := by decide +kernel
theorem dX5_find_14 : decode cX5_find 14 = .ok (.iload_n 2, 1) := by decide +kernel
theorem dX5_find_15 : decode cX5_find 15 = .ok (.putfield 31, 3) := by decide +kernel
theorem dX5_find_18 : decode cX5_find 18 = .ok (.aload_n 0, 1) := by decide +kernel
theorem dX5_find_19 : decode cX5_find 19 = .ok (.aload_n 1, 1) := by decide +kernel
theorem dX5_find_20 : decode cX5_find 20 = .ok (.iconst 0, 1) := by decide +kernel
theorem dX5_find_21 : decode cX5_find 21 = .ok (.iconst 0, 1) := by decide +kernel
theorem dX5_find_22 : decode cX5_find 22 = .ok (.iconst 0, 1) := by decide +kernel
theorem dX5_find_23 : decode cX5_find 23 = .ok (.invokevirtual 34, 3) := by decide +kernel
theorem dX5_find_26 : decode cX5_find 26 = .ok (.aload_n 0, 1) := by decide +kernel
theorem dX5_find_27 : decode cX5_find 27 = .ok (.getfield 27, 3) := by decide +kernel
theorem dX5_find_30 : decode cX5_find 30 = .ok (.ireturn, 1) := by decide +kernel
theorem dX5_goOn_0 : decode cX5_goOn 0 = .ok (.iload_n 2, 1) := by decide +kernel
theorem dX5_goOn_1 : decode cX5_goOn 1 = .ok (.aload_n 1, 1) := by decide +kernel
theorem dX5_goOn_2 : decode cX5_goOn 2 = .ok (.getfield 38, 3) := by decide +kernel
theorem dX5_goOn_5 : decode cX5_goOn 5 = .ok (.if_icmp .ge 9, 3) := by decide +kernel
theorem dX5_goOn_8 : decode cX5_goOn 8 = .ok (.iload_n 2, 1) := by decide +kernel
theorem dX5_goOn_9 : decode cX5_goOn 9 = .ok (.bipush 8, 2) := by decide +kernel
theorem dX5_goOn_11 : decode cX5_goOn 11 = .ok (.if_icmp .lt 42, 3) := by decide +kernel
theorem dX5_goOn_14 : decode cX5_goOn 14 = .ok (.aload_n 0, 1) := by decide +kernel
theorem dX5_goOn_15 : decode cX5_goOn 15 = .ok (.getfield 27, 3) := by decide +kernel
theorem dX5_goOn_18 : decode cX5_goOn 18 = .ok (.iconst (-1), 1) := by decide +kernel
theorem dX5_goOn_19 : decode cX5_goOn 19 = .ok (.if_icmp .eq 12, 3) := by decide +kernel
theorem dX5_goOn_22 : decode cX5_goOn 22 = .ok (.iload 4, 2) := by decide +kernel
theorem dX5_goOn_24 : decode cX5_goOn 24 = .ok (.aload_n 0, 1) := by decide +kernel
theorem dX5_goOn_25 : decode cX5_goOn 25 = .ok (.getfield 27, 3) := by decide +kernel
theorem dX5_goOn_28 : decode cX5_goOn 28 = .ok (.if_icmp .ge 24, 3) := by decide +kernel
theorem dX5_goOn_31 : decode cX5_goOn 31 = .ok (.aload_n 0, 1) := by decide +kernel
theorem dX5_goOn_32 : decode cX5_goOn 32 = .ok (.iload 4, 2) := by decide +kernel
theorem dX5_goOn_34 : decode cX5_goOn 34 = .ok (.putfield 27, 3) := by decide +kernel
theorem dX5_goOn_37 : decode cX5_goOn 37 = .ok (.aload_n 0, 1) := by decide +kernel
theorem dX5_goOn_38 : decode cX5_goOn 38 = .ok (.getfield 15, 3) := by decide +kernel
theorem dX5_goOn_41 : decode cX5_goOn 41 = .ok (.iconst 0, 1) := by decide +kernel
theorem dX5_goOn_42 : decode cX5_goOn 42 = .ok (.aload_n 0, 1) := by decide +kernel
theorem dX5_goOn_43 : decode cX5_goOn 43 = .ok (.getfield 9, 3) := by decide +kernel
theorem dX5_goOn_46 : decode cX5_goOn 46 = .ok (.iconst 0, 1) := by decide +kernel
theorem dX5_goOn_47 : decode cX5_goOn 47 = .ok (.bipush 8, 2) := by decide +kernel
theorem dX5_goOn_49 : decode cX5_goOn 49 = .ok (.invokestatic 43, 3) := by decide +kernel
theorem dX5_goOn_52 : decode cX5_goOn 52 = .ok (.return_, 1) := by decide +kernel
theorem dX5_goOn_53 : decode cX5_goOn 53 = .ok (.iconst 0, 1) := by decide +kernel
theorem dX5_goOn_54 : decode cX5_goOn 54 = .ok (.istore 5, 2) := by decide +kernel
theorem dX5_goOn_56 : decode cX5_goOn 56 = .ok (.iload 5, 2) := by decide +kernel
theorem dX5_goOn_58 : decode cX5_goOn 58 = .ok (.aload_n 1, 1) := by decide +kernel
theorem dX5_goOn_59 : decode cX5_goOn 59 = .ok (.getfield 49, 3) := by decide +kernel
theorem dX5_goOn_62 : decode cX5_goOn 62 = .ok (.if_icmp .ge 96, 3) := by decide +kernel
theorem dX5_goOn_65 : decode cX5_goOn 65 = .ok (.aload_n 1, 1) := by decide +kernel
theorem dX5_goOn_66 : decode cX5_goOn 66 = .ok (.getfield 52, 3) := by decide +kernel
theorem dX5_goOn_69 : decode cX5_goOn 69 = .ok (.iload 5, 2) := by decide +kernel
theorem dX5_goOn_71 : decode cX5_goOn 71 = .ok (.iaload, 1) := by decide +kernel
theorem dX5_goOn_72 : decode cX5_goOn 72 = .ok (.aload_n 1, 1) := by decide +kernel
theorem dX5_goOn_73 : decode cX5_goOn 73 = .ok (.getfield 55, 3) := by decide +kernel
theorem dX5_goOn_76 : decode cX5_goOn 76 = .ok (.iload_n 2, 1) := by decide +kernel
theorem dX5_goOn_77 : decode cX5_goOn 77 = .ok (.iaload, 1) := by decide +kernel
theorem dX5_goOn_78 : decode cX5_goOn 78 = .ok (.isub, 1) := by decide +kernel
theorem dX5_goOn_79 : decode cX5_goOn 79 = .ok (.istore 6, 2) := by decide +kernel
theorem dX5_goOn_81 : decode cX5_goOn 81 = .ok (.iload_n 3, 1) := by decide +kernel
theorem dX5_goOn_82 : decode cX5_goOn 82 = .ok (.iconst 1, 1) := by decide +kernel
theorem dX5_goOn_83 : decode cX5_goOn 83 = .ok (.iload 5, 2) := by decide +kernel
theorem dX5_goOn_85 : decode cX5_goOn 85 = .ok (.ishl, 1) := by decide +kernel
theorem dX5_goOn_86 : decode cX5_goOn 86 = .ok (.ior, 1) := by decide +kernel
theorem dX5_goOn_87 : decode cX5_goOn 87 = .ok (.istore 7, 2) := by decide +kernel
theorem dX5_goOn_89 : decode cX5_goOn 89 = .ok (.iload 7, 2) := by decide +kernel
theorem dX5_goOn_91 : decode cX5_goOn 91 = .ok (.iload_n 3, 1) := by decide +kernel
theorem dX5_goOn_92 : decode cX5_goOn 92 = .ok (.if_icmp .eq 60, 3) := by decide +kernel
theorem dX5_goOn_95 : decode cX5_goOn 95 = .ok (.iload 6, 2) := by decide +kernel
theorem dX5_goOn_97 : decode cX5_goOn 97 = .ok (.ifCond .lt 55, 3) := by decide +kernel
theorem dX5_goOn_100 : decode cX5_goOn 100 = .ok (.aload_n 0, 1) := by decide +kernel
theorem dX5_goOn_101 : decode cX5_goOn 101 = .ok (.getfield 18, 3) := by decide +kernel
theorem dX5_goOn_104 : decode cX5_goOn 104 = .ok (.iload 7, 2) := by decide +kernel
theorem dX5_goOn_106 : decode cX5_goOn 106 = .ok (.iaload, 1) := by decide +kernel
theorem dX5_goOn_107 : decode cX5_goOn 107 = .ok (.ifCond .ne 45, 3) := by decide +kernel
theorem dX5_goOn_110 : decode cX5_goOn 110 = .ok (.aload_n 0, 1) := by decide +kernel
theorem dX5_goOn_111 : decode cX5_goOn 111 = .ok (.aload_n 1, 1) := by decide +kernel
theorem dX5_goOn_112 : decode cX5_goOn 112 = .ok (.iload_n 3, 1) := by decide +kernel
theorem dX5_goOn_113 : decode cX5_goOn 113 = .ok (.iload 5, 2) := by decide +kernel
theorem dX5_goOn_115 : decode cX5_goOn 115 = .ok (.invokevirtual 58, 3) := by decide +kernel
theorem dX5_goOn_118 : decode cX5_goOn 118 = .ok (.ifCond .eq 34, 3) := by decide +kernel
theorem dX5_goOn_121 : decode cX5_goOn 121 = .ok (.aload_n 0, 1) := by decide +kernel
theorem dX5_goOn_122 : decode cX5_goOn 122 = .ok (.getfield 18, 3) := by decide +kernel
theorem dX5_goOn_125 : decode cX5_goOn 125 = .ok (.iload 7, 2) := by decide +kernel
theorem dX5_goOn_127 : decode cX5_goOn 127 = .ok (.iconst 1, 1) := by decide +kernel
theorem dX5_goOn_128 : decode cX5_goOn 128 = .ok (.iastore, 1) := by decide +kernel
theorem dX5_goOn_129 : decode cX5_goOn 129 = .ok (.aload_n 0, 1) := by decide +kernel
theorem dX5_goOn_130 : decode cX5_goOn 130 = .ok (.getfield 15, 3) := by decide +kernel
theorem dX5_goOn_133 : decode cX5_goOn 133 = .ok (.iload_n 2, 1) := by decide +kernel
theorem dX5_goOn_134 : decode cX5_goOn 134 = .ok (.iload 5, 2) := by decide +kernel
theorem dX5_goOn_136 : decode cX5_goOn 136 = .ok (.iastore, 1) := by decide +kernel
theorem dX5_goOn_137 : decode cX5_goOn 137 = .ok (.aload_n 0, 1) := by decide +kernel
theorem dX5_goOn_138 : decode cX5_goOn 138 = .ok (.aload_n 1, 1) := by decide +kernel
theorem dX5_goOn_139 : decode cX5_goOn 139 = .ok (.iload_n 2, 1) := by decide +kernel
theorem dX5_goOn_140 : decode cX5_goOn 140 = .ok (.iconst 1, 1) := by decide +kernel
theorem dX5_goOn_141 : decode cX5_goOn 141 = .ok (.iadd, 1) := by decide +kernel
theorem dX5_goOn_142 : decode cX5_goOn 142 = .ok (.iload 7, 2) := by decide +kernel
theorem dX5_goOn_144 : decode cX5_goOn 144 = .ok (.iload 4, 2) := by decide +kernel
theorem dX5_goOn_146 : decode cX5_goOn 146 = .ok (.iload 6, 2) := by decide +kernel
theorem dX5_goOn_148 : decode cX5_goOn 148 = .ok (.iadd, 1) := by decide +kernel
theorem dX5_goOn_149 : decode cX5_goOn 149 = .ok (.invokevirtual 34, 3) := by decide +kernel
theorem dX5_goOn_152 : decode cX5_goOn 152 = .ok (.iinc 5 1, 3) := by decide +kernel
theorem dX5_goOn_155 : decode cX5_goOn 155 = .ok (.goto (-99), 3) := by decide +kernel
theorem dX5_goOn_158 : decode cX5_goOn 158 = .ok (.return_, 1) := by decide +kernel
theorem dX5_ringsTogether_0 : decode cX5_ringsTogether 0 = .ok (.iconst 0, 1) := by decide +kernel
theorem dX5_ringsTogether_1 : decode cX5_ringsTogether 1 = .ok (.istore 4, 2) := by decide +kernel
theorem dX5_ringsTogether_3 : decode cX5_ringsTogether 3 = .ok (.iload 4, 2) := by decide +kernel
theorem dX5_ringsTogether_5 : decode cX5_ringsTogether 5 = .ok (.aload_n 1, 1) := by decide +kernel
theorem dX5_ringsTogether_6 : decode cX5_ringsTogether 6 = .ok (.getfield 49, 3) := by decide +kernel
theorem dX5_ringsTogether_9 : decode cX5_ringsTogether 9 = .ok (.if_icmp .ge 45, 3) := by decide +kernel
theorem dX5_ringsTogether_12 : decode cX5_ringsTogether 12 = .ok (.iload_n 2, 1) := by decide +kernel
theorem dX5_ringsTogether_13 : decode cX5_ringsTogether 13 = .ok (.iload 4, 2) := by decide +kernel
theorem dX5_ringsTogether_15 : decode cX5_ringsTogether 15 = .ok (.ishr, 1) := by decide +kernel
theorem dX5_ringsTogether_16 : decode cX5_ringsTogether 16 = .ok (.iconst 1, 1) := by decide +kernel
theorem dX5_ringsTogether_17 : decode cX5_ringsTogether 17 = .ok (.iand, 1) := by decide +kernel
theorem dX5_ringsTogether_18 : decode cX5_ringsTogether 18 = .ok (.iconst 1, 1) := by decide +kernel
theorem dX5_ringsTogether_19 : decode cX5_ringsTogether 19 = .ok (.if_icmp .ne 29, 3) := by decide +kernel
theorem dX5_ringsTogether_22 : decode cX5_ringsTogether 22 = .ok (.aload_n 1, 1) := by decide +kernel
theorem dX5_ringsTogether_23 : decode cX5_ringsTogether 23 = .ok (.getfield 62, 3) := by decide +kernel
theorem dX5_ringsTogether_26 : decode cX5_ringsTogether 26 = .ok (.iload 4, 2) := by decide +kernel
theorem dX5_ringsTogether_28 : decode cX5_ringsTogether 28 = .ok (.iaload, 1) := by decide +kernel
theorem dX5_ringsTogether_29 : decode cX5_ringsTogether 29 = .ok (.aload_n 1, 1) := by decide +kernel
theorem dX5_ringsTogether_30 : decode cX5_ringsTogether 30 = .ok (.getfield 62, 3) := by decide +kernel
theorem dX5_ringsTogether_33 : decode cX5_ringsTogether 33 = .ok (.iload_n 3, 1) := by decide +kernel
theorem dX5_ringsTogether_34 : decode cX5_ringsTogether 34 = .ok (.iaload, 1) := by decide +kernel
theorem dX5_ringsTogether_35 : decode cX5_ringsTogether 35 = .ok (.isub, 1) := by decide +kernel
theorem dX5_ringsTogether_36 : decode cX5_ringsTogether 36 = .ok (.invokestatic 65, 3) := by decide +kernel
theorem dX5_ringsTogether_39 : decode cX5_ringsTogether 39 = .ok (.aload_n 0, 1) := by decide +kernel
theorem dX5_ringsTogether_40 : decode cX5_ringsTogether 40 = .ok (.getfield 31, 3) := by decide +kernel
theorem dX5_ringsTogether_43 : decode cX5_ringsTogether 43 = .ok (.if_icmp .le 5, 3) := by decide +kernel
theorem dX5_ringsTogether_46 : decode cX5_ringsTogether 46 = .ok (.iconst 0, 1) := by decide +kernel
theorem dX5_ringsTogether_47 : decode cX5_ringsTogether 47 = .ok (.ireturn, 1) := by decide +kernel
theorem dX5_ringsTogether_48 : decode cX5_ringsTogether 48 = .ok (.iinc 4 1, 3) := by decide +kernel
theorem dX5_ringsTogether_51 : decode cX5_ringsTogether 51 = .ok (.goto (-48), 3) := by decide +kernel
theorem dX5_ringsTogether_54 : decode cX5_ringsTogether 54 = .ok (.iconst 1, 1) := by decide +kernel
theorem dX5_ringsTogether_55 : decode cX5_ringsTogether 55 = .ok (.ireturn, 1) := by decide +kernel
theorem dX6_init_0 : decode cX6_init 0 = .ok (.aload_n 0, 1) := by decide +kernel
theorem dX6_init_1 : decode cX6_init 1 = .ok (.invokespecial 3, 3) := by decide +kernel
theorem dX6_init_4 : decode cX6_init 4 = .ok (.aload_n 0, 1) := by decide +kernel
theorem dX6_init_5 : decode cX6_init 5 = .ok (.bipush 24, 2) := by decide +kernel
theorem dX6_init_7 : decode cX6_init 7 = .ok (.newarray .int, 2) := by decide +kernel
theorem dX6_init_9 : decode cX6_init 9 = .ok (.putfield 9, 3) := by decide +kernel
theorem dX6_init_12 : decode cX6_init 12 = .ok (.aload_n 0, 1) := by decide +kernel
theorem dX6_init_13 : decode cX6_init 13 = .ok (.bipush 40, 2) := by decide +kernel
theorem dX6_init_15 : decode cX6_init 15 = .ok (.newarray .int, 2) := by decide +kernel
theorem dX6_init_17 : decode cX6_init 17 = .ok (.putfield 15, 3) := by decide +kernel
theorem dX6_init_20 : decode cX6_init 20 = .ok (.return_, 1) := by decide +kernel
theorem dX6_seeSlice_0 : decode cX6_seeSlice 0 = .ok (.aload_n 0, 1) := by decide +kernel
theorem dX6_seeSlice_1 : decode cX6_seeSlice 1 = .ok (.getfield 9, 3) := by decide +kernel
theorem dX6_seeSlice_4 : decode cX6_seeSlice 4 = .ok (.bipush 11, 2) := by decide +kernel
theorem dX6_seeSlice_6 : decode cX6_seeSlice 6 = .ok (.iload_n 2, 1) := by decide +kernel
theorem dX6_seeSlice_7 : decode cX6_seeSlice 7 = .ok (.iastore, 1) := by decide +kernel
theorem dX6_seeSlice_8 : decode cX6_seeSlice 8 = .ok (.aload_n 0, 1) := by decide +kernel
theorem dX6_seeSlice_9 : decode cX6_seeSlice 9 = .ok (.getfield 9, 3) := by decide +kernel
theorem dX6_seeSlice_12 : decode cX6_seeSlice 12 = .ok (.bipush 12, 2) := by decide +kernel
theorem dX6_seeSlice_14 : decode cX6_seeSlice 14 = .ok (.aload_n 1, 1) := by decide +kernel
theorem dX6_seeSlice_15 : decode cX6_seeSlice 15 = .ok (.getfield 18, 3) := by decide +kernel
theorem dX6_seeSlice_18 : decode cX6_seeSlice 18 = .ok (.iastore, 1) := by decide +kernel
theorem dX6_seeSlice_19 : decode cX6_seeSlice 19 = .ok (.aload_n 0, 1) := by decide +kernel
theorem dX6_seeSlice_20 : decode cX6_seeSlice 20 = .ok (.getfield 9, 3) := by decide +kernel
theorem dX6_seeSlice_23 : decode cX6_seeSlice 23 = .ok (.bipush 13, 2) := by decide +kernel
theorem dX6_seeSlice_25 : decode cX6_seeSlice 25 = .ok (.iconst 2, 1) := by decide +kernel
theorem dX6_seeSlice_26 : decode cX6_seeSlice 26 = .ok (.iload_n 2, 1) := by decide +kernel
theorem dX6_seeSlice_27 : decode cX6_seeSlice 27 = .ok (.imul, 1) := by decide +kernel
theorem dX6_seeSlice_28 : decode cX6_seeSlice 28 = .ok (.iconst 1, 1) := by decide +kernel
theorem dX6_seeSlice_29 : decode cX6_seeSlice 29 = .ok (.iadd, 1) := by decide +kernel
theorem dX6_seeSlice_30 : decode cX6_seeSlice 30 = .ok (.aload_n 1, 1) := by decide +kernel
theorem dX6_seeSlice_31 : decode cX6_seeSlice 31 = .ok (.getfield 18, 3) := by decide +kernel
theorem dX6_seeSlice_34 : decode cX6_seeSlice 34 = .ok (.isub, 1) := by decide +kernel
theorem dX6_seeSlice_35 : decode cX6_seeSlice 35 = .ok (.invokestatic 24, 3) := by decide +kernel
theorem dX6_seeSlice_38 : decode cX6_seeSlice 38 = .ok (.iastore, 1) := by decide +kernel
theorem dX6_seeSlice_39 : decode cX6_seeSlice 39 = .ok (.aload_n 0, 1) := by decide +kernel
theorem dX6_seeSlice_40 : decode cX6_seeSlice 40 = .ok (.getfield 9, 3) := by decide +kernel
theorem dX6_seeSlice_43 : decode cX6_seeSlice 43 = .ok (.bipush 14, 2) := by decide +kernel
theorem dX6_seeSlice_45 : decode cX6_seeSlice 45 = .ok (.iload_n 2, 1) := by decide +kernel
theorem dX6_seeSlice_46 : decode cX6_seeSlice 46 = .ok (.aload_n 1, 1) := by decide +kernel
theorem dX6_seeSlice_47 : decode cX6_seeSlice 47 = .ok (.getfield 18, 3) := by decide +kernel
theorem dX6_seeSlice_50 : decode cX6_seeSlice 50 = .ok (.iconst 1, 1) := by decide +kernel
theorem dX6_seeSlice_51 : decode cX6_seeSlice 51 = .ok (.isub, 1) := by decide +kernel
theorem dX6_seeSlice_52 : decode cX6_seeSlice 52 = .ok (.iload_n 2, 1) := by decide +kernel
theorem dX6_seeSlice_53 : decode cX6_seeSlice 53 = .ok (.isub, 1) := by decide +kernel
theorem dX6_seeSlice_54 : decode cX6_seeSlice 54 = .ok (.invokestatic 30, 3) := by decide +kernel
theorem dX6_seeSlice_57 : decode cX6_seeSlice 57 = .ok (.iastore, 1) := by decide +kernel
theorem dX6_seeSlice_58 : decode cX6_seeSlice 58 = .ok (.aload_n 0, 1) := by decide +kernel
theorem dX6_seeSlice_59 : decode cX6_seeSlice 59 = .ok (.getfield 9, 3) := by decide +kernel
theorem dX6_seeSlice_62 : decode cX6_seeSlice 62 = .ok (.bipush 15, 2) := by decide +kernel
theorem dX6_seeSlice_64 : decode cX6_seeSlice 64 = .ok (.iload_n 3, 1) := by decide +kernel
theorem dX6_seeSlice_65 : decode cX6_seeSlice 65 = .ok (.iastore, 1) := by decide +kernel
theorem dX6_seeSlice_66 : decode cX6_seeSlice 66 = .ok (.aload_n 0, 1) := by decide +kernel
theorem dX6_seeSlice_67 : decode cX6_seeSlice 67 = .ok (.getfield 9, 3) := by decide +kernel
theorem dX6_seeSlice_70 : decode cX6_seeSlice 70 = .ok (.bipush 16, 2) := by decide +kernel
theorem dX6_seeSlice_72 : decode cX6_seeSlice 72 = .ok (.iload 4, 2) := by decide +kernel
theorem dX6_seeSlice_74 : decode cX6_seeSlice 74 = .ok (.iastore, 1) := by decide +kernel
theorem dX6_seeSlice_75 : decode cX6_seeSlice 75 = .ok (.aload_n 0, 1) := by decide +kernel
theorem dX6_seeSlice_76 : decode cX6_seeSlice 76 = .ok (.getfield 9, 3) := by decide +kernel
theorem dX6_seeSlice_79 : decode cX6_seeSlice 79 = .ok (.bipush 17, 2) := by decide +kernel
theorem dX6_seeSlice_81 : decode cX6_seeSlice 81 = .ok (.aload_n 1, 1) := by decide +kernel
theorem dX6_seeSlice_82 : decode cX6_seeSlice 82 = .ok (.getfield 34, 3) := by decide +kernel
theorem dX6_seeSlice_85 : decode cX6_seeSlice 85 = .ok (.iload_n 2, 1) := by decide +kernel
theorem dX6_seeSlice_86 : decode cX6_seeSlice 86 = .ok (.iaload, 1) := by decide +kernel
theorem dX6_seeSlice_87 : decode cX6_seeSlice 87 = .ok (.iastore, 1) := by decide +kernel
theorem dX6_seeSlice_88 : decode cX6_seeSlice 88 = .ok (.aload_n 0, 1) := by decide +kernel
theorem dX6_seeSlice_89 : decode cX6_seeSlice 89 = .ok (.getfield 9, 3) := by decide +kernel
theorem dX6_seeSlice_92 : decode cX6_seeSlice 92 = .ok (.bipush 6, 2) := by decide +kernel
theorem dX6_seeSlice_94 : decode cX6_seeSlice 94 = .ok (.iload 5, 2) := by decide +kernel
theorem dX6_seeSlice_96 : decode cX6_seeSlice 96 = .ok (.iastore, 1) := by decide +kernel
theorem dX6_seeSlice_97 : decode cX6_seeSlice 97 = .ok (.aload_n 0, 1) := by decide +kernel
theorem dX6_seeSlice_98 : decode cX6_seeSlice 98 = .ok (.getfield 9, 3) := by decide +kernel
theorem dX6_seeSlice_101 : decode cX6_seeSlice 101 = .ok (.bipush 18, 2) := by decide +kernel
theorem dX6_seeSlice_103 : decode cX6_seeSlice 103 = .ok (.iconst 0, 1) := by decide +kernel
theorem dX6_seeSlice_104 : decode cX6_seeSlice 104 = .ok (.iastore, 1) := by decide +kernel
theorem dX6_seeSlice_105 : decode cX6_seeSlice 105 = .ok (.aload_n 0, 1) := by decide +kernel
theorem dX6_seeSlice_106 : decode cX6_seeSlice 106 = .ok (.getfield 9, 3) := by decide +kernel
theorem dX6_seeSlice_109 : decode cX6_seeSlice 109 = .ok (.bipush 19, 2) := by decide +kernel
theorem dX6_seeSlice_111 : decode cX6_seeSlice 111 = .ok (.iconst 0, 1) := by decide +kernel
theorem dX6_seeSlice_112 : decode cX6_seeSlice 112 = .ok (.iastore, 1) := by decide +kernel
theorem dX6_seeSlice_113 : decode cX6_seeSlice 113 = .ok (.return_, 1) := by decide +kernel
theorem dX6_seeAir_0 : decode cX6_seeAir 0 = .ok (.aload_n 0, 1) := by decide +kernel
theorem dX6_seeAir_1 : decode cX6_seeAir 1 = .ok (.getfield 9, 3) := by decide +kernel
theorem dX6_seeAir_4 : decode cX6_seeAir 4 = .ok (.iconst 0, 1) := by decide +kernel
theorem dX6_seeAir_5 : decode cX6_seeAir 5 = .ok (.invokestatic 37, 3) := by decide +kernel
theorem dX6_seeAir_8 : decode cX6_seeAir 8 = .ok (.aload_n 0, 1) := by decide +kernel
theorem dX6_seeAir_9 : decode cX6_seeAir 9 = .ok (.getfield 9, 3) := by decide +kernel
theorem dX6_seeAir_12 : decode cX6_seeAir 12 = .ok (.bipush 18, 2) := by decide +kernel
theorem dX6_seeAir_14 : decode cX6_seeAir 14 = .ok (.iload_n 1, 1) := by decide +kernel
theorem dX6_seeAir_15 : decode cX6_seeAir 15 = .ok (.iastore, 1) := by decide +kernel
theorem dX6_seeAir_16 : decode cX6_seeAir 16 = .ok (.aload_n 0, 1) := by decide +kernel
theorem dX6_seeAir_17 : decode cX6_seeAir 17 = .ok (.getfield 9, 3) := by decide +kernel
theorem dX6_seeAir_20 : decode cX6_seeAir 20 = .ok (.bipush 19, 2) := by decide +kernel
theorem dX6_seeAir_22 : decode cX6_seeAir 22 = .ok (.iload_n 2, 1) := by decide +kernel
theorem dX6_seeAir_23 : decode cX6_seeAir 23 = .ok (.iastore, 1) := by decide +kernel
theorem dX6_seeAir_24 : decode cX6_seeAir 24 = .ok (.return_, 1) := by decide +kernel
theorem dX6_seeBar_0 : decode cX6_seeBar 0 = .ok (.aload_n 0, 1) := by decide +kernel
theorem dX6_seeBar_1 : decode cX6_seeBar 1 = .ok (.getfield 9, 3) := by decide +kernel
theorem dX6_seeBar_4 : decode cX6_seeBar 4 = .ok (.bipush 20, 2) := by decide +kernel
theorem dX6_seeBar_6 : decode cX6_seeBar 6 = .ok (.iload_n 1, 1) := by decide +kernel
theorem dX6_seeBar_7 : decode cX6_seeBar 7 = .ok (.iastore, 1) := by decide +kernel
theorem dX6_seeBar_8 : decode cX6_seeBar 8 = .ok (.aload_n 0, 1) := by decide +kernel
theorem dX6_seeBar_9 : decode cX6_seeBar 9 = .ok (.getfield 9, 3) := by decide +kernel
theorem dX6_seeBar_12 : decode cX6_seeBar 12 = .ok (.bipush 21, 2) := by decide +kernel
theorem dX6_seeBar_14 : decode cX6_seeBar 14 = .ok (.iload_n 2, 1) := by decide +kernel
theorem dX6_seeBar_15 : decode cX6_seeBar 15 = .ok (.iastore, 1) := by decide +kernel
theorem dX6_seeBar_16 : decode cX6_seeBar 16 = .ok (.aload_n 0, 1) := by decide +kernel
theorem dX6_seeBar_17 : decode cX6_seeBar 17 = .ok (.getfield 9, 3) := by decide +kernel
theorem dX6_seeBar_20 : decode cX6_seeBar 20 = .ok (.bipush 22, 2) := by decide +kernel
theorem dX6_seeBar_22 : decode cX6_seeBar 22 = .ok (.iload_n 3, 1) := by decide +kernel
theorem dX6_seeBar_23 : decode cX6_seeBar 23 = .ok (.iastore, 1) := by decide +kernel
theorem dX6_seeBar_24 : decode cX6_seeBar 24 = .ok (.aload_n 0, 1) := by decide +kernel
theorem dX6_seeBar_25 : decode cX6_seeBar 25 = .ok (.getfield 9, 3) := by decide +kernel
theorem dX6_seeBar_28 : decode cX6_seeBar 28 = .ok (.bipush 23, 2) := by decide +kernel
theorem dX6_seeBar_30 : decode cX6_seeBar 30 = .ok (.iload 4, 2) := by decide +kernel
theorem dX6_seeBar_32 : decode cX6_seeBar 32 = .ok (.iastore, 1) := by decide +kernel
theorem dX6_seeBar_33 : decode cX6_seeBar 33 = .ok (.return_, 1) := by decide +kernel
theorem dX6_told_0 : decode cX6_told 0 = .ok (.iconst 0, 1) := by decide +kernel
theorem dX6_told_1 : decode cX6_told 1 = .ok (.istore 4, 2) := by decide +kernel
theorem dX6_told_3 : decode cX6_told 3 = .ok (.iload 4, 2) := by decide +kernel
theorem dX6_told_5 : decode cX6_told 5 = .ok (.aload_n 1, 1) := by decide +kernel
theorem dX6_told_6 : decode cX6_told 6 = .ok (.getfield 43, 3) := by decide +kernel
theorem dX6_told_9 : decode cX6_told 9 = .ok (.if_icmp .ge 117, 3) := by decide +kernel
theorem dX6_told_12 : decode cX6_told 12 = .ok (.aload_n 1, 1) := by decide +kernel
theorem dX6_told_13 : decode cX6_told 13 = .ok (.getfield 48, 3) := by decide +kernel
theorem dX6_told_16 : decode cX6_told 16 = .ok (.iload 4, 2) := by decide +kernel
theorem dX6_told_18 : decode cX6_told 18 = .ok (.iaload, 1) := by decide +kernel
theorem dX6_told_19 : decode cX6_told 19 = .ok (.iload_n 2, 1) := by decide +kernel
theorem dX6_told_20 : decode cX6_told 20 = .ok (.if_icmp .ne 100, 3) := by decide +kernel
theorem dX6_told_23 : decode cX6_told 23 = .ok (.aload_n 1, 1) := by decide +kernel
theorem dX6_told_24 : decode cX6_told 24 = .ok (.getfield 51, 3) := by decide +kernel
theorem dX6_told_27 : decode cX6_told 27 = .ok (.iload 4, 2) := by decide +kernel
theorem dX6_told_29 : decode cX6_told 29 = .ok (.iaload, 1) := by decide +kernel
theorem dX6_told_30 : decode cX6_told 30 = .ok (.iload_n 3, 1) := by decide +kernel
theorem dX6_told_31 : decode cX6_told 31 = .ok (.if_icmp .ne 89, 3) := by decide +kernel
theorem dX6_told_34 : decode cX6_told 34 = .ok (.aload_n 1, 1) := by decide +kernel
theorem dX6_told_35 : decode cX6_told 35 = .ok (.iload 4, 2) := by decide +kernel
theorem dX6_told_37 : decode cX6_told 37 = .ok (.invokevirtual 54, 3) := by decide +kernel
theorem dX6_told_40 : decode cX6_told 40 = .ok (.ifCond .eq 25, 3) := by decide +kernel
theorem dX6_told_43 : decode cX6_told 43 = .ok (.aload_n 0, 1) := by decide +kernel
theorem dX6_told_44 : decode cX6_told 44 = .ok (.aload_n 1, 1) := by decide +kernel
theorem dX6_told_45 : decode cX6_told 45 = .ok (.aload_n 1, 1) := by decide +kernel
theorem dX6_told_46 : decode cX6_told 46 = .ok (.getfield 58, 3) := by decide +kernel
theorem dX6_told_49 : decode cX6_told 49 = .ok (.iload 4, 2) := by decide +kernel
theorem dX6_told_51 : decode cX6_told 51 = .ok (.iaload, 1) := by decide +kernel
theorem dX6_told_52 : decode cX6_told 52 = .ok (.aload_n 1, 1) := by decide +kernel
theorem dX6_told_53 : decode cX6_told 53 = .ok (.getfield 61, 3) := by decide +kernel
theorem dX6_told_56 : decode cX6_told 56 = .ok (.iload 4, 2) := by decide +kernel
theorem dX6_told_58 : decode cX6_told 58 = .ok (.iaload, 1) := by decide +kernel
theorem dX6_told_59 : decode cX6_told 59 = .ok (.invokevirtual 64, 3) := by decide +kernel
theorem dX6_told_62 : decode cX6_told 62 = .ok (.ifCond .eq 58, 3) := by decide +kernel
theorem dX6_told_65 : decode cX6_told 65 = .ok (.aload_n 0, 1) := by decide +kernel
theorem dX6_told_66 : decode cX6_told 66 = .ok (.aload_n 1, 1) := by decide +kernel
theorem dX6_told_67 : decode cX6_told 67 = .ok (.aload_n 1, 1) := by decide +kernel
theorem dX6_told_68 : decode cX6_told 68 = .ok (.getfield 68, 3) := by decide +kernel
theorem dX6_told_71 : decode cX6_told 71 = .ok (.iload 4, 2) := by decide +kernel
theorem dX6_told_73 : decode cX6_told 73 = .ok (.iaload, 1) := by decide +kernel
theorem dX6_told_74 : decode cX6_told 74 = .ok (.aload_n 1, 1) := by decide +kernel
theorem dX6_told_75 : decode cX6_told 75 = .ok (.getfield 58, 3) := by decide +kernel
theorem dX6_told_78 : decode cX6_told 78 = .ok (.iload 4, 2) := by decide +kernel
theorem dX6_told_80 : decode cX6_told 80 = .ok (.iaload, 1) := by decide +kernel
theorem dX6_told_81 : decode cX6_told 81 = .ok (.invokevirtual 64, 3) := by decide +kernel
theorem dX6_told_84 : decode cX6_told 84 = .ok (.istore 5, 2) := by decide +kernel
theorem dX6_told_86 : decode cX6_told 86 = .ok (.iload_n 2, 1) := by decide +kernel
theorem dX6_told_87 : decode cX6_told 87 = .ok (.iconst 1, 1) := by decide +kernel
theorem dX6_told_88 : decode cX6_told 88 = .ok (.if_icmp .gt 17, 3) := by decide +kernel
theorem dX6_told_91 : decode cX6_told 91 = .ok (.iconst 0, 1) := by decide +kernel
theorem dX6_told_92 : decode cX6_told 92 = .ok (.iload 5, 2) := by decide +kernel
theorem dX6_told_94 : decode cX6_told 94 = .ok (.ldc 71, 2) := by decide +kernel
theorem dX6_told_96 : decode cX6_told 96 = .ok (.invokestatic 30, 3) := by decide +kernel
theorem dX6_told_99 : decode cX6_told 99 = .ok (.invokestatic 72, 3) := by decide +kernel
theorem dX6_told_102 : decode cX6_told 102 = .ok (.goto 17, 3) := by decide +kernel
theorem dX6_told_105 : decode cX6_told 105 = .ok (.sipush (-9999), 3) := by decide +kernel
theorem dX6_told_108 : decode cX6_told 108 = .ok (.iload 5, 2) := by decide +kernel
theorem dX6_told_110 : decode cX6_told 110 = .ok (.sipush 9999, 3) := by decide +kernel
theorem dX6_told_113 : decode cX6_told 113 = .ok (.invokestatic 30, 3) := by decide +kernel
theorem dX6_told_116 : decode cX6_told 116 = .ok (.invokestatic 72, 3) := by decide +kernel
theorem dX6_told_119 : decode cX6_told 119 = .ok (.ireturn, 1) := by decide +kernel
theorem dX6_told_120 : decode cX6_told 120 = .ok (.iinc 4 1, 3) := by decide +kernel
theorem dX6_told_123 : decode cX6_told 123 = .ok (.goto (-120), 3) := by decide +kernel
theorem dX6_told_126 : decode cX6_told 126 = .ok (.iconst 0, 1) := by decide +kernel
theorem dX6_told_127 : decode cX6_told 127 = .ok (.ireturn, 1) := by decide +kernel
theorem dX6_toneOf_0 : decode cX6_toneOf 0 = .ok (.iconst 0, 1) := by decide +kernel
theorem dX6_toneOf_1 : decode cX6_toneOf 1 = .ok (.istore 7, 2) := by decide +kernel
theorem dX6_toneOf_3 : decode cX6_toneOf 3 = .ok (.iconst 0, 1) := by decide +kernel
theorem dX6_toneOf_4 : decode cX6_toneOf 4 = .ok (.istore 8, 2) := by decide +kernel
theorem dX6_toneOf_6 : decode cX6_toneOf 6 = .ok (.iconst 0, 1) := by decide +kernel
theorem dX6_toneOf_7 : decode cX6_toneOf 7 = .ok (.istore 9, 2) := by decide +kernel
theorem dX6_toneOf_9 : decode cX6_toneOf 9 = .ok (.iload 9, 2) := by decide +kernel
theorem dX6_toneOf_11 : decode cX6_toneOf 11 = .ok (.aload_n 3, 1) := by decide +kernel
theorem dX6_toneOf_12 : decode cX6_toneOf 12 = .ok (.getfield 18, 3) := by decide +kernel
theorem dX6_toneOf_15 : decode cX6_toneOf 15 = .ok (.if_icmp .ge 55, 3) := by decide +kernel
theorem dX6_toneOf_18 : decode cX6_toneOf 18 = .ok (.aload_n 0, 1) := by decide +kernel
theorem dX6_toneOf_19 : decode cX6_toneOf 19 = .ok (.aload_n 3, 1) := by decide +kernel
theorem dX6_toneOf_20 : decode cX6_toneOf 20 = .ok (.iload 9, 2) := by decide +kernel
theorem dX6_toneOf_22 : decode cX6_toneOf 22 = .ok (.aload 4, 2) := by decide +kernel
theorem dX6_toneOf_24 : decode cX6_toneOf 24 = .ok (.iload 9, 2) := by decide +kernel
theorem dX6_toneOf_26 : decode cX6_toneOf 26 = .ok (.iaload, 1) := by decide +kernel
theorem dX6_toneOf_27 : decode cX6_toneOf 27 = .ok (.aload 5, 2) := by decide +kernel
theorem dX6_toneOf_29 : decode cX6_toneOf 29 = .ok (.iload 9, 2) := by decide +kernel
theorem dX6_toneOf_31 : decode cX6_toneOf 31 = .ok (.iaload, 1) := by decide +kernel
theorem dX6_toneOf_32 : decode cX6_toneOf 32 = .ok (.aload 6, 2) := by decide +kernel
theorem dX6_toneOf_34 : decode cX6_toneOf 34 = .ok (.iload 9, 2) := by decide +kernel
theorem dX6_toneOf_36 : decode cX6_toneOf 36 = .ok (.iaload, 1) := by decide +kernel
theorem dX6_toneOf_37 : decode cX6_toneOf 37 = .ok (.invokevirtual 75, 3) := by decide +kernel
theorem dX6_toneOf_40 : decode cX6_toneOf 40 = .ok (.iload 7, 2) := by decide +kernel
theorem dX6_toneOf_42 : decode cX6_toneOf 42 = .ok (.aload_n 0, 1) := by decide +kernel
theorem dX6_toneOf_43 : decode cX6_toneOf 43 = .ok (.aload_n 1, 1) := by decide +kernel
theorem dX6_toneOf_44 : decode cX6_toneOf 44 = .ok (.iconst 0, 1) := by decide +kernel
theorem dX6_toneOf_45 : decode cX6_toneOf 45 = .ok (.iload_n 2, 1) := by decide +kernel
theorem dX6_toneOf_46 : decode cX6_toneOf 46 = .ok (.invokevirtual 79, 3) := by decide +kernel
theorem dX6_toneOf_49 : decode cX6_toneOf 49 = .ok (.iadd, 1) := by decide +kernel
theorem dX6_toneOf_50 : decode cX6_toneOf 50 = .ok (.istore 7, 2) := by decide +kernel
theorem dX6_toneOf_52 : decode cX6_toneOf 52 = .ok (.iload 8, 2) := by decide +kernel
theorem dX6_toneOf_54 : decode cX6_toneOf 54 = .ok (.aload_n 0, 1) := by decide +kernel
theorem dX6_toneOf_55 : decode cX6_toneOf 55 = .ok (.aload_n 1, 1) := by decide +kernel
theorem dX6_toneOf_56 : decode cX6_toneOf 56 = .ok (.iconst 1, 1) := by decide +kernel
theorem dX6_toneOf_57 : decode cX6_toneOf 57 = .ok (.iload_n 2, 1) := by decide +kernel
theorem dX6_toneOf_58 : decode cX6_toneOf 58 = .ok (.invokevirtual 79, 3) := by decide +kernel
theorem dX6_toneOf_61 : decode cX6_toneOf 61 = .ok (.iadd, 1) := by decide +kernel
theorem dX6_toneOf_62 : decode cX6_toneOf 62 = .ok (.istore 8, 2) := by decide +kernel
theorem dX6_toneOf_64 : decode cX6_toneOf 64 = .ok (.iinc 9 1, 3) := by decide +kernel
theorem dX6_toneOf_67 : decode cX6_toneOf 67 = .ok (.goto (-58), 3) := by decide +kernel
theorem dX6_toneOf_70 : decode cX6_toneOf 70 = .ok (.iload 7, 2) := by decide +kernel
theorem dX6_toneOf_72 : decode cX6_toneOf 72 = .ok (.iload 8, 2) := by decide +kernel
theorem dX6_toneOf_74 : decode cX6_toneOf 74 = .ok (.invokestatic 82, 3) := by decide +kernel
theorem dX6_toneOf_77 : decode cX6_toneOf 77 = .ok (.ireturn, 1) := by decide +kernel
theorem dX6_sumOf_0 : decode cX6_sumOf 0 = .ok (.iconst 0, 1) := by decide +kernel
theorem dX6_sumOf_1 : decode cX6_sumOf 1 = .ok (.istore 6, 2) := by decide +kernel
theorem dX6_sumOf_3 : decode cX6_sumOf 3 = .ok (.iconst 0, 1) := by decide +kernel
theorem dX6_sumOf_4 : decode cX6_sumOf 4 = .ok (.istore 7, 2) := by decide +kernel
theorem dX6_sumOf_6 : decode cX6_sumOf 6 = .ok (.iload 7, 2) := by decide +kernel
theorem dX6_sumOf_8 : decode cX6_sumOf 8 = .ok (.aload 4, 2) := by decide +kernel
theorem dX6_sumOf_10 : decode cX6_sumOf 10 = .ok (.getfield 18, 3) := by decide +kernel
theorem dX6_sumOf_13 : decode cX6_sumOf 13 = .ok (.if_icmp .ge 60, 3) := by decide +kernel
theorem dX6_sumOf_16 : decode cX6_sumOf 16 = .ok (.iload 7, 2) := by decide +kernel
theorem dX6_sumOf_18 : decode cX6_sumOf 18 = .ok (.iload 5, 2) := by decide +kernel
theorem dX6_sumOf_20 : decode cX6_sumOf 20 = .ok (.if_icmp .eq 47, 3) := by decide +kernel
theorem dX6_sumOf_23 : decode cX6_sumOf 23 = .ok (.aload_n 0, 1) := by decide +kernel
theorem dX6_sumOf_24 : decode cX6_sumOf 24 = .ok (.aload 4, 2) := by decide +kernel
theorem dX6_sumOf_26 : decode cX6_sumOf 26 = .ok (.iload 7, 2) := by decide +kernel
theorem dX6_sumOf_28 : decode cX6_sumOf 28 = .ok (.aload 4, 2) := by decide +kernel
theorem dX6_sumOf_30 : decode cX6_sumOf 30 = .ok (.getfield 85, 3) := by decide +kernel
theorem dX6_sumOf_33 : decode cX6_sumOf 33 = .ok (.iload 7, 2) := by decide +kernel
theorem dX6_sumOf_35 : decode cX6_sumOf 35 = .ok (.iaload, 1) := by decide +kernel
theorem dX6_sumOf_36 : decode cX6_sumOf 36 = .ok (.aload 4, 2) := by decide +kernel
theorem dX6_sumOf_38 : decode cX6_sumOf 38 = .ok (.getfield 88, 3) := by decide +kernel
theorem dX6_sumOf_41 : decode cX6_sumOf 41 = .ok (.iload 7, 2) := by decide +kernel
theorem dX6_sumOf_43 : decode cX6_sumOf 43 = .ok (.iaload, 1) := by decide +kernel
theorem dX6_sumOf_44 : decode cX6_sumOf 44 = .ok (.aload 4, 2) := by decide +kernel
theorem dX6_sumOf_46 : decode cX6_sumOf 46 = .ok (.getfield 91, 3) := by decide +kernel
theorem dX6_sumOf_49 : decode cX6_sumOf 49 = .ok (.iload 7, 2) := by decide +kernel
theorem dX6_sumOf_51 : decode cX6_sumOf 51 = .ok (.iaload, 1) := by decide +kernel
theorem dX6_sumOf_52 : decode cX6_sumOf 52 = .ok (.invokevirtual 75, 3) := by decide +kernel
theorem dX6_sumOf_55 : decode cX6_sumOf 55 = .ok (.iload 6, 2) := by decide +kernel
theorem dX6_sumOf_57 : decode cX6_sumOf 57 = .ok (.aload_n 0, 1) := by decide +kernel
theorem dX6_sumOf_58 : decode cX6_sumOf 58 = .ok (.aload_n 1, 1) := by decide +kernel
theorem dX6_sumOf_59 : decode cX6_sumOf 59 = .ok (.iload_n 2, 1) := by decide +kernel
theorem dX6_sumOf_60 : decode cX6_sumOf 60 = .ok (.iload_n 3, 1) := by decide +kernel
theorem dX6_sumOf_61 : decode cX6_sumOf 61 = .ok (.invokevirtual 79, 3) := by decide +kernel
theorem dX6_sumOf_64 : decode cX6_sumOf 64 = .ok (.iadd, 1) := by decide +kernel
theorem dX6_sumOf_65 : decode cX6_sumOf 65 = .ok (.istore 6, 2) := by decide +kernel
theorem dX6_sumOf_67 : decode cX6_sumOf 67 = .ok (.iinc 7 1, 3) := by decide +kernel
theorem dX6_sumOf_70 : decode cX6_sumOf 70 = .ok (.goto (-64), 3) := by decide +kernel
theorem dX6_sumOf_73 : decode cX6_sumOf 73 = .ok (.iload 6, 2) := by decide +kernel
theorem dX6_sumOf_75 : decode cX6_sumOf 75 = .ok (.ireturn, 1) := by decide +kernel
theorem dX6_value_0 : decode cX6_value 0 = .ok (.iconst 0, 1) := by decide +kernel
theorem dX6_value_1 : decode cX6_value 1 = .ok (.istore 4, 2) := by decide +kernel
theorem dX6_value_3 : decode cX6_value 3 = .ok (.aload_n 0, 1) := by decide +kernel
theorem dX6_value_4 : decode cX6_value 4 = .ok (.getfield 15, 3) := by decide +kernel
theorem dX6_value_7 : decode cX6_value 7 = .ok (.iconst 0, 1) := by decide +kernel
theorem dX6_value_8 : decode cX6_value 8 = .ok (.iconst 0, 1) := by decide +kernel
theorem dX6_value_9 : decode cX6_value 9 = .ok (.iastore, 1) := by decide +kernel
theorem dX6_value_10 : decode cX6_value 10 = .ok (.iload_n 2, 1) := by decide +kernel
theorem dX6_value_11 : decode cX6_value 11 = .ok (.istore 5, 2) := by decide +kernel
theorem dX6_value_13 : decode cX6_value 13 = .ok (.iload 5, 2) := by decide +kernel
theorem dX6_value_15 : decode cX6_value 15 = .ok (.iload_n 3, 1) := by decide +kernel
theorem dX6_value_16 : decode cX6_value 16 = .ok (.if_icmp .ge 230, 3) := by decide +kernel
theorem dX6_value_19 : decode cX6_value 19 = .ok (.iload 5, 2) := by decide +kernel
theorem dX6_value_21 : decode cX6_value 21 = .ok (.sipush 500, 3) := by decide +kernel
theorem dX6_value_24 : decode cX6_value 24 = .ok (.if_icmp .ge 222, 3) := by decide +kernel
theorem dX6_value_27 : decode cX6_value 27 = .ok (.aload_n 1, 1) := by decide +kernel
theorem dX6_value_28 : decode cX6_value 28 = .ok (.getfield 94, 3) := by decide +kernel
theorem dX6_value_31 : decode cX6_value 31 = .ok (.iload 5, 2) := by decide +kernel
theorem dX6_value_33 : decode cX6_value 33 = .ok (.iaload, 1) := by decide +kernel
theorem dX6_value_34 : decode cX6_value 34 = .ok (.ldc 97, 2) := by decide +kernel
theorem dX6_value_36 : decode cX6_value 36 = .ok (.idiv, 1) := by decide +kernel
theorem dX6_value_37 : decode cX6_value 37 = .ok (.istore 6, 2) := by decide +kernel
theorem dX6_value_39 : decode cX6_value 39 = .ok (.aload_n 1, 1) := by decide +kernel
theorem dX6_value_40 : decode cX6_value 40 = .ok (.getfield 94, 3) := by decide +kernel
theorem dX6_value_43 : decode cX6_value 43 = .ok (.iload 5, 2) := by decide +kernel
theorem dX6_value_45 : decode cX6_value 45 = .ok (.iaload, 1) := by decide +kernel
theorem dX6_value_46 : decode cX6_value 46 = .ok (.ldc 97, 2) := by decide +kernel
theorem dX6_value_48 : decode cX6_value 48 = .ok (.irem, 1) := by decide +kernel
theorem dX6_value_49 : decode cX6_value 49 = .ok (.istore 7, 2) := by decide +kernel
theorem dX6_value_51 : decode cX6_value 51 = .ok (.iload 6, 2) := by decide +kernel
theorem dX6_value_53 : decode cX6_value 53 = .ok (.bipush 24, 2) := by decide +kernel
theorem dX6_value_55 : decode cX6_value 55 = .ok (.if_icmp .eq 24, 3) := by decide +kernel
theorem dX6_value_58 : decode cX6_value 58 = .ok (.iload 6, 2) := by decide +kernel
theorem dX6_value_60 : decode cX6_value 60 = .ok (.bipush 6, 2) := by decide +kernel
theorem dX6_value_62 : decode cX6_value 62 = .ok (.if_icmp .eq 17, 3) := by decide +kernel
theorem dX6_value_65 : decode cX6_value 65 = .ok (.iload 6, 2) := by decide +kernel
theorem dX6_value_67 : decode cX6_value 67 = .ok (.bipush 11, 2) := by decide +kernel
theorem dX6_value_69 : decode cX6_value 69 = .ok (.if_icmp .lt 14, 3) := by decide +kernel
theorem dX6_value_72 : decode cX6_value 72 = .ok (.iload 6, 2) := by decide +kernel
theorem dX6_value_74 : decode cX6_value 74 = .ok (.bipush 23, 2) := by decide +kernel
theorem dX6_value_76 : decode cX6_value 76 = .ok (.if_icmp .gt 7, 3) := by decide +kernel
theorem dX6_value_79 : decode cX6_value 79 = .ok (.iconst 1, 1) := by decide +kernel
theorem dX6_value_80 : decode cX6_value 80 = .ok (.goto 4, 3) := by decide +kernel
theorem dX6_value_83 : decode cX6_value 83 = .ok (.iconst 0, 1) := by decide +kernel
theorem dX6_value_84 : decode cX6_value 84 = .ok (.istore 8, 2) := by decide +kernel
theorem dX6_value_86 : decode cX6_value 86 = .ok (.iload 8, 2) := by decide +kernel
theorem dX6_value_88 : decode cX6_value 88 = .ok (.ifCond .eq 42, 3) := by decide +kernel
theorem dX6_value_91 : decode cX6_value 91 = .ok (.iload 4, 2) := by decide +kernel
theorem dX6_value_93 : decode cX6_value 93 = .ok (.bipush 40, 2) := by decide +kernel
theorem dX6_value_95 : decode cX6_value 95 = .ok (.if_icmp .ge 35, 3) := by decide +kernel
theorem dX6_value_98 : decode cX6_value 98 = .ok (.aload_n 0, 1) := by decide +kernel
theorem dX6_value_99 : decode cX6_value 99 = .ok (.getfield 15, 3) := by decide +kernel
theorem dX6_value_102 : decode cX6_value 102 = .ok (.iload 4, 2) := by decide +kernel
theorem dX6_value_104 : decode cX6_value 104 = .ok (.iload 6, 2) := by decide +kernel
theorem dX6_value_106 : decode cX6_value 106 = .ok (.bipush 24, 2) := by decide +kernel
theorem dX6_value_108 : decode cX6_value 108 = .ok (.if_icmp .ne 8, 3) := by decide +kernel
theorem dX6_value_111 : decode cX6_value 111 = .ok (.iload 7, 2) := by decide +kernel
theorem dX6_value_113 : decode cX6_value 113 = .ok (.goto 10, 3) := by decide +kernel
theorem dX6_value_116 : decode cX6_value 116 = .ok (.aload_n 0, 1) := by decide +kernel
theorem dX6_value_117 : decode cX6_value 117 = .ok (.getfield 9, 3) := by decide +kernel
theorem dX6_value_120 : decode cX6_value 120 = .ok (.iload 6, 2) := by decide +kernel
theorem dX6_value_122 : decode cX6_value 122 = .ok (.iaload, 1) := by decide +kernel
theorem dX6_value_123 : decode cX6_value 123 = .ok (.iastore, 1) := by decide +kernel
theorem dX6_value_124 : decode cX6_value 124 = .ok (.iinc 4 1, 3) := by decide +kernel
theorem dX6_value_127 : decode cX6_value 127 = .ok (.goto 113, 3) := by decide +kernel
theorem dX6_value_130 : decode cX6_value 130 = .ok (.iload 6, 2) := by decide +kernel
theorem dX6_value_132 : decode cX6_value 132 = .ok (.bipush 10, 2) := by decide +kernel
theorem dX6_value_134 : decode cX6_value 134 = .ok (.if_icmp .ne 32, 3) := by decide +kernel
theorem dX6_value_137 : decode cX6_value 137 = .ok (.iload 4, 2) := by decide +kernel
theorem dX6_value_139 : decode cX6_value 139 = .ok (.iconst 1, 1) := by decide +kernel
theorem dX6_value_140 : decode cX6_value 140 = .ok (.if_icmp .lt 26, 3) := by decide +kernel
theorem dX6_value_143 : decode cX6_value 143 = .ok (.aload_n 0, 1) := by decide +kernel
theorem dX6_value_144 : decode cX6_value 144 = .ok (.getfield 15, 3) := by decide +kernel
theorem dX6_value_147 : decode cX6_value 147 = .ok (.iload 4, 2) := by decide +kernel
theorem dX6_value_149 : decode cX6_value 149 = .ok (.iconst 1, 1) := by decide +kernel
theorem dX6_value_150 : decode cX6_value 150 = .ok (.isub, 1) := by decide +kernel
theorem dX6_value_151 : decode cX6_value 151 = .ok (.iconst 1, 1) := by decide +kernel
theorem dX6_value_152 : decode cX6_value 152 = .ok (.aload_n 0, 1) := by decide +kernel
theorem dX6_value_153 : decode cX6_value 153 = .ok (.getfield 15, 3) := by decide +kernel
theorem dX6_value_156 : decode cX6_value 156 = .ok (.iload 4, 2) := by decide +kernel
theorem dX6_value_158 : decode cX6_value 158 = .ok (.iconst 1, 1) := by decide +kernel
theorem dX6_value_159 : decode cX6_value 159 = .ok (.isub, 1) := by decide +kernel
theorem dX6_value_160 : decode cX6_value 160 = .ok (.iaload, 1) := by decide +kernel
theorem dX6_value_161 : decode cX6_value 161 = .ok (.isub, 1) := by decide +kernel
theorem dX6_value_162 : decode cX6_value 162 = .ok (.iastore, 1) := by decide +kernel
theorem dX6_value_163 : decode cX6_value 163 = .ok (.goto 77, 3) := by decide +kernel
theorem dX6_value_166 : decode cX6_value 166 = .ok (.iload 6, 2) := by decide +kernel
theorem dX6_value_168 : decode cX6_value 168 = .ok (.bipush 47, 2) := by decide +kernel
theorem dX6_value_170 : decode cX6_value 170 = .ok (.if_icmp .ne 31, 3) := by decide +kernel
theorem dX6_value_173 : decode cX6_value 173 = .ok (.iload 4, 2) := by decide +kernel
theorem dX6_value_175 : decode cX6_value 175 = .ok (.iconst 1, 1) := by decide +kernel
theorem dX6_value_176 : decode cX6_value 176 = .ok (.if_icmp .lt 25, 3) := by decide +kernel
theorem dX6_value_179 : decode cX6_value 179 = .ok (.iload 7, 2) := by decide +kernel
theorem dX6_value_181 : decode cX6_value 181 = .ok (.ifCond .le 20, 3) := by decide +kernel
theorem dX6_value_184 : decode cX6_value 184 = .ok (.aload_n 0, 1) := by decide +kernel
theorem dX6_value_185 : decode cX6_value 185 = .ok (.getfield 15, 3) := by decide +kernel
theorem dX6_value_188 : decode cX6_value 188 = .ok (.iload 4, 2) := by decide +kernel
theorem dX6_value_190 : decode cX6_value 190 = .ok (.iconst 1, 1) := by decide +kernel
theorem dX6_value_191 : decode cX6_value 191 = .ok (.isub, 1) := by decide +kernel
theorem dX6_value_192 : decode cX6_value 192 = .ok (.dup2, 1) := by decide +kernel
theorem dX6_value_193 : decode cX6_value 193 = .ok (.iaload, 1) := by decide +kernel
theorem dX6_value_194 : decode cX6_value 194 = .ok (.iload 7, 2) := by decide +kernel
theorem dX6_value_196 : decode cX6_value 196 = .ok (.idiv, 1) := by decide +kernel
theorem dX6_value_197 : decode cX6_value 197 = .ok (.iastore, 1) := by decide +kernel
theorem dX6_value_198 : decode cX6_value 198 = .ok (.goto 42, 3) := by decide +kernel
theorem dX6_value_201 : decode cX6_value 201 = .ok (.iload 4, 2) := by decide +kernel
theorem dX6_value_203 : decode cX6_value 203 = .ok (.iconst 2, 1) := by decide +kernel
theorem dX6_value_204 : decode cX6_value 204 = .ok (.if_icmp .lt 36, 3) := by decide +kernel
theorem dX6_value_207 : decode cX6_value 207 = .ok (.iinc 4 (-1), 3) := by decide +kernel
theorem dX6_value_210 : decode cX6_value 210 = .ok (.aload_n 0, 1) := by decide +kernel
theorem dX6_value_211 : decode cX6_value 211 = .ok (.getfield 15, 3) := by decide +kernel
theorem dX6_value_214 : decode cX6_value 214 = .ok (.iload 4, 2) := by decide +kernel
theorem dX6_value_216 : decode cX6_value 216 = .ok (.iconst 1, 1) := by decide +kernel
theorem dX6_value_217 : decode cX6_value 217 = .ok (.isub, 1) := by decide +kernel
theorem dX6_value_218 : decode cX6_value 218 = .ok (.iload 6, 2) := by decide +kernel
theorem dX6_value_220 : decode cX6_value 220 = .ok (.aload_n 0, 1) := by decide +kernel
theorem dX6_value_221 : decode cX6_value 221 = .ok (.getfield 15, 3) := by decide +kernel
theorem dX6_value_224 : decode cX6_value 224 = .ok (.iload 4, 2) := by decide +kernel
theorem dX6_value_226 : decode cX6_value 226 = .ok (.iconst 1, 1) := by decide +kernel
theorem dX6_value_227 : decode cX6_value 227 = .ok (.isub, 1) := by decide +kernel
theorem dX6_value_228 : decode cX6_value 228 = .ok (.iaload, 1) := by decide +kernel
theorem dX6_value_229 : decode cX6_value 229 = .ok (.aload_n 0, 1) := by decide +kernel
theorem dX6_value_230 : decode cX6_value 230 = .ok (.getfield 15, 3) := by decide +kernel
theorem dX6_value_233 : decode cX6_value 233 = .ok (.iload 4, 2) := by decide +kernel
theorem dX6_value_235 : decode cX6_value 235 = .ok (.iaload, 1) := by decide +kernel
theorem dX6_value_236 : decode cX6_value 236 = .ok (.invokestatic 98, 3) := by decide +kernel
theorem dX6_value_239 : decode cX6_value 239 = .ok (.iastore, 1) := by decide +kernel
theorem dX6_value_240 : decode cX6_value 240 = .ok (.iinc 5 1, 3) := by decide +kernel
theorem dX6_value_243 : decode cX6_value 243 = .ok (.goto (-230), 3) := by decide +kernel
theorem dX6_value_246 : decode cX6_value 246 = .ok (.aload_n 0, 1) := by decide +kernel
theorem dX6_value_247 : decode cX6_value 247 = .ok (.getfield 15, 3) := by decide +kernel
theorem dX6_value_250 : decode cX6_value 250 = .ok (.iconst 0, 1) := by decide +kernel
theorem dX6_value_251 : decode cX6_value 251 = .ok (.iaload, 1) := by decide +kernel
theorem dX6_value_252 : decode cX6_value 252 = .ok (.ireturn, 1) := by decide +kernel
theorem dX6_joined_0 : decode cX6_joined 0 = .ok (.iload_n 0, 1) := by decide +kernel
theorem dX6_joined_1 : decode cX6_joined 1 = .ok (.lookupswitch 116 #[(9, 112), (42, 75), (43, 67), (45, 71), (60, 79), (61, 90), (62, 101)], 67) := by decide +kernel
theorem dX6_joined_68 : decode cX6_joined 68 = .ok (.iload_n 1, 1) := by decide +kernel
theorem dX6_joined_69 : decode cX6_joined 69 = .ok (.iload_n 2, 1) := by decide +kernel
theorem dX6_joined_70 : decode cX6_joined 70 = .ok (.iadd, 1) := by decide +kernel
theorem dX6_joined_71 : decode cX6_joined 71 = .ok (.ireturn, 1) := by decide +kernel
theorem dX6_joined_72 : decode cX6_joined 72 = .ok (.iload_n 1, 1) := by decide +kernel
theorem dX6_joined_73 : decode cX6_joined 73 = .ok (.iload_n 2, 1) := by decide +kernel
theorem dX6_joined_74 : decode cX6_joined 74 = .ok (.isub, 1) := by decide +kernel
theorem dX6_joined_75 : decode cX6_joined 75 = .ok (.ireturn, 1) := by decide +kernel
theorem dX6_joined_76 : decode cX6_joined 76 = .ok (.iload_n 1, 1) := by decide +kernel
theorem dX6_joined_77 : decode cX6_joined 77 = .ok (.iload_n 2, 1) := by decide +kernel
theorem dX6_joined_78 : decode cX6_joined 78 = .ok (.imul, 1) := by decide +kernel
theorem dX6_joined_79 : decode cX6_joined 79 = .ok (.ireturn, 1) := by decide +kernel
theorem dX6_joined_80 : decode cX6_joined 80 = .ok (.iload_n 1, 1) := by decide +kernel
theorem dX6_joined_81 : decode cX6_joined 81 = .ok (.iload_n 2, 1) := by decide +kernel
theorem dX6_joined_82 : decode cX6_joined 82 = .ok (.if_icmp .ge 7, 3) := by decide +kernel
theorem dX6_joined_85 : decode cX6_joined 85 = .ok (.iconst 1, 1) := by decide +kernel
theorem dX6_joined_86 : decode cX6_joined 86 = .ok (.goto 4, 3) := by decide +kernel
theorem dX6_joined_89 : decode cX6_joined 89 = .ok (.iconst 0, 1) := by decide +kernel
theorem dX6_joined_90 : decode cX6_joined 90 = .ok (.ireturn, 1) := by decide +kernel
theorem dX6_joined_91 : decode cX6_joined 91 = .ok (.iload_n 1, 1) := by decide +kernel
theorem dX6_joined_92 : decode cX6_joined 92 = .ok (.iload_n 2, 1) := by decide +kernel
theorem dX6_joined_93 : decode cX6_joined 93 = .ok (.if_icmp .ne 7, 3) := by decide +kernel
