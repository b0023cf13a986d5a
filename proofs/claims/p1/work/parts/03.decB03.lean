theorem dX10_enough_30 : decode cX10_enough 30 = .ok (.iadd, 1) := by decide +kernel
theorem dX10_enough_31 : decode cX10_enough 31 = .ok (.iaload, 1) := by decide +kernel
theorem dX10_enough_32 : decode cX10_enough 32 = .ok (.ifCond .ne 5, 3) := by decide +kernel
theorem dX10_enough_35 : decode cX10_enough 35 = .ok (.iconst (-1), 1) := by decide +kernel
theorem dX10_enough_36 : decode cX10_enough 36 = .ok (.ireturn, 1) := by decide +kernel
theorem dX10_enough_37 : decode cX10_enough 37 = .ok (.aload_n 0, 1) := by decide +kernel
theorem dX10_enough_38 : decode cX10_enough 38 = .ok (.getfield 26, 3) := by decide +kernel
theorem dX10_enough_41 : decode cX10_enough 41 = .ok (.bipush 16, 2) := by decide +kernel
theorem dX10_enough_43 : decode cX10_enough 43 = .ok (.iload_n 1, 1) := by decide +kernel
theorem dX10_enough_44 : decode cX10_enough 44 = .ok (.imul, 1) := by decide +kernel
theorem dX10_enough_45 : decode cX10_enough 45 = .ok (.iload_n 2, 1) := by decide +kernel
theorem dX10_enough_46 : decode cX10_enough 46 = .ok (.iadd, 1) := by decide +kernel
theorem dX10_enough_47 : decode cX10_enough 47 = .ok (.iaload, 1) := by decide +kernel
theorem dX10_enough_48 : decode cX10_enough 48 = .ok (.istore 4, 2) := by decide +kernel
theorem dX10_enough_50 : decode cX10_enough 50 = .ok (.iload 4, 2) := by decide +kernel
theorem dX10_enough_52 : decode cX10_enough 52 = .ok (.istore 5, 2) := by decide +kernel
theorem dX10_enough_54 : decode cX10_enough 54 = .ok (.iconst (-1), 1) := by decide +kernel
theorem dX10_enough_55 : decode cX10_enough 55 = .ok (.istore 6, 2) := by decide +kernel
theorem dX10_enough_57 : decode cX10_enough 57 = .ok (.iload 5, 2) := by decide +kernel
theorem dX10_enough_59 : decode cX10_enough 59 = .ok (.bipush 99, 2) := by decide +kernel
theorem dX10_enough_61 : decode cX10_enough 61 = .ok (.if_icmp .gt 59, 3) := by decide +kernel
theorem dX10_enough_64 : decode cX10_enough 64 = .ok (.iload 6, 2) := by decide +kernel
theorem dX10_enough_66 : decode cX10_enough 66 = .ok (.iconst (-1), 1) := by decide +kernel
theorem dX10_enough_67 : decode cX10_enough 67 = .ok (.if_icmp .ne 53, 3) := by decide +kernel
theorem dX10_enough_70 : decode cX10_enough 70 = .ok (.aload_n 0, 1) := by decide +kernel
theorem dX10_enough_71 : decode cX10_enough 71 = .ok (.getfield 26, 3) := by decide +kernel
theorem dX10_enough_74 : decode cX10_enough 74 = .ok (.bipush 16, 2) := by decide +kernel
theorem dX10_enough_76 : decode cX10_enough 76 = .ok (.iload_n 1, 1) := by decide +kernel
theorem dX10_enough_77 : decode cX10_enough 77 = .ok (.imul, 1) := by decide +kernel
theorem dX10_enough_78 : decode cX10_enough 78 = .ok (.iload_n 2, 1) := by decide +kernel
theorem dX10_enough_79 : decode cX10_enough 79 = .ok (.iadd, 1) := by decide +kernel
theorem dX10_enough_80 : decode cX10_enough 80 = .ok (.iload 5, 2) := by decide +kernel
theorem dX10_enough_82 : decode cX10_enough 82 = .ok (.iastore, 1) := by decide +kernel
theorem dX10_enough_83 : decode cX10_enough 83 = .ok (.aload_n 0, 1) := by decide +kernel
theorem dX10_enough_84 : decode cX10_enough 84 = .ok (.iload_n 1, 1) := by decide +kernel
theorem dX10_enough_85 : decode cX10_enough 85 = .ok (.iload_n 3, 1) := by decide +kernel
theorem dX10_enough_86 : decode cX10_enough 86 = .ok (.invokevirtual 335, 3) := by decide +kernel
theorem dX10_enough_89 : decode cX10_enough 89 = .ok (.aload_n 0, 1) := by decide +kernel
theorem dX10_enough_90 : decode cX10_enough 90 = .ok (.getfield 29, 3) := by decide +kernel
theorem dX10_enough_93 : decode cX10_enough 93 = .ok (.iconst 3, 1) := by decide +kernel
theorem dX10_enough_94 : decode cX10_enough 94 = .ok (.iload_n 1, 1) := by decide +kernel
theorem dX10_enough_95 : decode cX10_enough 95 = .ok (.imul, 1) := by decide +kernel
theorem dX10_enough_96 : decode cX10_enough 96 = .ok (.iload_n 3, 1) := by decide +kernel
theorem dX10_enough_97 : decode cX10_enough 97 = .ok (.iadd, 1) := by decide +kernel
theorem dX10_enough_98 : decode cX10_enough 98 = .ok (.iaload, 1) := by decide +kernel
theorem dX10_enough_99 : decode cX10_enough 99 = .ok (.aload_n 0, 1) := by decide +kernel
theorem dX10_enough_100 : decode cX10_enough 100 = .ok (.getfield 7, 3) := by decide +kernel
theorem dX10_enough_103 : decode cX10_enough 103 = .ok (.iadd, 1) := by decide +kernel
theorem dX10_enough_104 : decode cX10_enough 104 = .ok (.if_icmp .gt 7, 3) := by decide +kernel
theorem dX10_enough_107 : decode cX10_enough 107 = .ok (.iload 5, 2) := by decide +kernel
theorem dX10_enough_109 : decode cX10_enough 109 = .ok (.istore 6, 2) := by decide +kernel
theorem dX10_enough_111 : decode cX10_enough 111 = .ok (.iload 5, 2) := by decide +kernel
theorem dX10_enough_113 : decode cX10_enough 113 = .ok (.iconst 1, 1) := by decide +kernel
theorem dX10_enough_114 : decode cX10_enough 114 = .ok (.iadd, 1) := by decide +kernel
theorem dX10_enough_115 : decode cX10_enough 115 = .ok (.istore 5, 2) := by decide +kernel
theorem dX10_enough_117 : decode cX10_enough 117 = .ok (.goto (-60), 3) := by decide +kernel
theorem dX10_enough_120 : decode cX10_enough 120 = .ok (.aload_n 0, 1) := by decide +kernel
theorem dX10_enough_121 : decode cX10_enough 121 = .ok (.getfield 26, 3) := by decide +kernel
theorem dX10_enough_124 : decode cX10_enough 124 = .ok (.bipush 16, 2) := by decide +kernel
theorem dX10_enough_126 : decode cX10_enough 126 = .ok (.iload_n 1, 1) := by decide +kernel
theorem dX10_enough_127 : decode cX10_enough 127 = .ok (.imul, 1) := by decide +kernel
theorem dX10_enough_128 : decode cX10_enough 128 = .ok (.iload_n 2, 1) := by decide +kernel
theorem dX10_enough_129 : decode cX10_enough 129 = .ok (.iadd, 1) := by decide +kernel
theorem dX10_enough_130 : decode cX10_enough 130 = .ok (.iload 4, 2) := by decide +kernel
theorem dX10_enough_132 : decode cX10_enough 132 = .ok (.iastore, 1) := by decide +kernel
theorem dX10_enough_133 : decode cX10_enough 133 = .ok (.iload 6, 2) := by decide +kernel
theorem dX10_enough_135 : decode cX10_enough 135 = .ok (.ireturn, 1) := by decide +kernel
theorem dX10_kept_0 : decode cX10_kept 0 = .ok (.aload_n 0, 1) := by decide +kernel
theorem dX10_kept_1 : decode cX10_kept 1 = .ok (.aload_n 0, 1) := by decide +kernel
theorem dX10_kept_2 : decode cX10_kept 2 = .ok (.getfield 467, 3) := by decide +kernel
theorem dX10_kept_5 : decode cX10_kept 5 = .ok (.iconst 1, 1) := by decide +kernel
theorem dX10_kept_6 : decode cX10_kept 6 = .ok (.iadd, 1) := by decide +kernel
theorem dX10_kept_7 : decode cX10_kept 7 = .ok (.putfield 467, 3) := by decide +kernel
theorem dX10_kept_10 : decode cX10_kept 10 = .ok (.aload_n 0, 1) := by decide +kernel
theorem dX10_kept_11 : decode cX10_kept 11 = .ok (.getfield 470, 3) := by decide +kernel
theorem dX10_kept_14 : decode cX10_kept 14 = .ok (.ifCond .ne 15, 3) := by decide +kernel
theorem dX10_kept_17 : decode cX10_kept 17 = .ok (.aload_n 0, 1) := by decide +kernel
theorem dX10_kept_18 : decode cX10_kept 18 = .ok (.getfield 164, 3) := by decide +kernel
theorem dX10_kept_21 : decode cX10_kept 21 = .ok (.aload_n 0, 1) := by decide +kernel
theorem dX10_kept_22 : decode cX10_kept 22 = .ok (.getfield 467, 3) := by decide +kernel
theorem dX10_kept_25 : decode cX10_kept 25 = .ok (.iconst 1, 1) := by decide +kernel
theorem dX10_kept_26 : decode cX10_kept 26 = .ok (.isub, 1) := by decide +kernel
theorem dX10_kept_27 : decode cX10_kept 27 = .ok (.iaload, 1) := by decide +kernel
theorem dX10_kept_28 : decode cX10_kept 28 = .ok (.ireturn, 1) := by decide +kernel
theorem dX10_kept_29 : decode cX10_kept 29 = .ok (.aload_n 0, 1) := by decide +kernel
theorem dX10_kept_30 : decode cX10_kept 30 = .ok (.getfield 164, 3) := by decide +kernel
theorem dX10_kept_33 : decode cX10_kept 33 = .ok (.aload_n 0, 1) := by decide +kernel
theorem dX10_kept_34 : decode cX10_kept 34 = .ok (.getfield 467, 3) := by decide +kernel
theorem dX10_kept_37 : decode cX10_kept 37 = .ok (.iconst 1, 1) := by decide +kernel
theorem dX10_kept_38 : decode cX10_kept 38 = .ok (.isub, 1) := by decide +kernel
theorem dX10_kept_39 : decode cX10_kept 39 = .ok (.iload_n 1, 1) := by decide +kernel
theorem dX10_kept_40 : decode cX10_kept 40 = .ok (.iastore, 1) := by decide +kernel
theorem dX10_kept_41 : decode cX10_kept 41 = .ok (.iload_n 1, 1) := by decide +kernel
theorem dX10_kept_42 : decode cX10_kept 42 = .ok (.ireturn, 1) := by decide +kernel
theorem dX10_keepsBars_0 : decode cX10_keepsBars 0 = .ok (.iconst 0, 1) := by decide +kernel
theorem dX10_keepsBars_1 : decode cX10_keepsBars 1 = .ok (.istore_n 1, 1) := by decide +kernel
theorem dX10_keepsBars_2 : decode cX10_keepsBars 2 = .ok (.iload_n 1, 1) := by decide +kernel
theorem dX10_keepsBars_3 : decode cX10_keepsBars 3 = .ok (.bipush 10, 2) := by decide +kernel
theorem dX10_keepsBars_5 : decode cX10_keepsBars 5 = .ok (.if_icmp .ge 105, 3) := by decide +kernel
theorem dX10_keepsBars_8 : decode cX10_keepsBars 8 = .ok (.aload_n 0, 1) := by decide +kernel
theorem dX10_keepsBars_9 : decode cX10_keepsBars 9 = .ok (.getfield 13, 3) := by decide +kernel
theorem dX10_keepsBars_12 : decode cX10_keepsBars 12 = .ok (.iload_n 1, 1) := by decide +kernel
theorem dX10_keepsBars_13 : decode cX10_keepsBars 13 = .ok (.aload_n 0, 1) := by decide +kernel
theorem dX10_keepsBars_14 : decode cX10_keepsBars 14 = .ok (.aload_n 0, 1) := by decide +kernel
theorem dX10_keepsBars_15 : decode cX10_keepsBars 15 = .ok (.getfield 13, 3) := by decide +kernel
theorem dX10_keepsBars_18 : decode cX10_keepsBars 18 = .ok (.iload_n 1, 1) := by decide +kernel
theorem dX10_keepsBars_19 : decode cX10_keepsBars 19 = .ok (.iaload, 1) := by decide +kernel
theorem dX10_keepsBars_20 : decode cX10_keepsBars 20 = .ok (.invokevirtual 473, 3) := by decide +kernel
theorem dX10_keepsBars_23 : decode cX10_keepsBars 23 = .ok (.iastore, 1) := by decide +kernel
theorem dX10_keepsBars_24 : decode cX10_keepsBars 24 = .ok (.aload_n 0, 1) := by decide +kernel
theorem dX10_keepsBars_25 : decode cX10_keepsBars 25 = .ok (.getfield 32, 3) := by decide +kernel
theorem dX10_keepsBars_28 : decode cX10_keepsBars 28 = .ok (.iload_n 1, 1) := by decide +kernel
theorem dX10_keepsBars_29 : decode cX10_keepsBars 29 = .ok (.aload_n 0, 1) := by decide +kernel
theorem dX10_keepsBars_30 : decode cX10_keepsBars 30 = .ok (.aload_n 0, 1) := by decide +kernel
theorem dX10_keepsBars_31 : decode cX10_keepsBars 31 = .ok (.getfield 32, 3) := by decide +kernel
theorem dX10_keepsBars_34 : decode cX10_keepsBars 34 = .ok (.iload_n 1, 1) := by decide +kernel
theorem dX10_keepsBars_35 : decode cX10_keepsBars 35 = .ok (.iaload, 1) := by decide +kernel
theorem dX10_keepsBars_36 : decode cX10_keepsBars 36 = .ok (.invokevirtual 473, 3) := by decide +kernel
theorem dX10_keepsBars_39 : decode cX10_keepsBars 39 = .ok (.iastore, 1) := by decide +kernel
theorem dX10_keepsBars_40 : decode cX10_keepsBars 40 = .ok (.aload_n 0, 1) := by decide +kernel
theorem dX10_keepsBars_41 : decode cX10_keepsBars 41 = .ok (.getfield 41, 3) := by decide +kernel
theorem dX10_keepsBars_44 : decode cX10_keepsBars 44 = .ok (.iload_n 1, 1) := by decide +kernel
theorem dX10_keepsBars_45 : decode cX10_keepsBars 45 = .ok (.aload_n 0, 1) := by decide +kernel
theorem dX10_keepsBars_46 : decode cX10_keepsBars 46 = .ok (.aload_n 0, 1) := by decide +kernel
theorem dX10_keepsBars_47 : decode cX10_keepsBars 47 = .ok (.getfield 41, 3) := by decide +kernel
theorem dX10_keepsBars_50 : decode cX10_keepsBars 50 = .ok (.iload_n 1, 1) := by decide +kernel
theorem dX10_keepsBars_51 : decode cX10_keepsBars 51 = .ok (.iaload, 1) := by decide +kernel
theorem dX10_keepsBars_52 : decode cX10_keepsBars 52 = .ok (.invokevirtual 473, 3) := by decide +kernel
theorem dX10_keepsBars_55 : decode cX10_keepsBars 55 = .ok (.iastore, 1) := by decide +kernel
theorem dX10_keepsBars_56 : decode cX10_keepsBars 56 = .ok (.aload_n 0, 1) := by decide +kernel
theorem dX10_keepsBars_57 : decode cX10_keepsBars 57 = .ok (.getfield 44, 3) := by decide +kernel
theorem dX10_keepsBars_60 : decode cX10_keepsBars 60 = .ok (.iload_n 1, 1) := by decide +kernel
theorem dX10_keepsBars_61 : decode cX10_keepsBars 61 = .ok (.aload_n 0, 1) := by decide +kernel
theorem dX10_keepsBars_62 : decode cX10_keepsBars 62 = .ok (.aload_n 0, 1) := by decide +kernel
theorem dX10_keepsBars_63 : decode cX10_keepsBars 63 = .ok (.getfield 44, 3) := by decide +kernel
theorem dX10_keepsBars_66 : decode cX10_keepsBars 66 = .ok (.iload_n 1, 1) := by decide +kernel
theorem dX10_keepsBars_67 : decode cX10_keepsBars 67 = .ok (.iaload, 1) := by decide +kernel
theorem dX10_keepsBars_68 : decode cX10_keepsBars 68 = .ok (.invokevirtual 473, 3) := by decide +kernel
theorem dX10_keepsBars_71 : decode cX10_keepsBars 71 = .ok (.iastore, 1) := by decide +kernel
theorem dX10_keepsBars_72 : decode cX10_keepsBars 72 = .ok (.aload_n 0, 1) := by decide +kernel
theorem dX10_keepsBars_73 : decode cX10_keepsBars 73 = .ok (.getfield 47, 3) := by decide +kernel
theorem dX10_keepsBars_76 : decode cX10_keepsBars 76 = .ok (.iload_n 1, 1) := by decide +kernel
theorem dX10_keepsBars_77 : decode cX10_keepsBars 77 = .ok (.aload_n 0, 1) := by decide +kernel
theorem dX10_keepsBars_78 : decode cX10_keepsBars 78 = .ok (.aload_n 0, 1) := by decide +kernel
theorem dX10_keepsBars_79 : decode cX10_keepsBars 79 = .ok (.getfield 47, 3) := by decide +kernel
theorem dX10_keepsBars_82 : decode cX10_keepsBars 82 = .ok (.iload_n 1, 1) := by decide +kernel
theorem dX10_keepsBars_83 : decode cX10_keepsBars 83 = .ok (.iaload, 1) := by decide +kernel
theorem dX10_keepsBars_84 : decode cX10_keepsBars 84 = .ok (.invokevirtual 473, 3) := by decide +kernel
theorem dX10_keepsBars_87 : decode cX10_keepsBars 87 = .ok (.iastore, 1) := by decide +kernel
theorem dX10_keepsBars_88 : decode cX10_keepsBars 88 = .ok (.aload_n 0, 1) := by decide +kernel
theorem dX10_keepsBars_89 : decode cX10_keepsBars 89 = .ok (.getfield 116, 3) := by decide +kernel
theorem dX10_keepsBars_92 : decode cX10_keepsBars 92 = .ok (.iload_n 1, 1) := by decide +kernel
theorem dX10_keepsBars_93 : decode cX10_keepsBars 93 = .ok (.aload_n 0, 1) := by decide +kernel
theorem dX10_keepsBars_94 : decode cX10_keepsBars 94 = .ok (.aload_n 0, 1) := by decide +kernel
theorem dX10_keepsBars_95 : decode cX10_keepsBars 95 = .ok (.getfield 116, 3) := by decide +kernel
theorem dX10_keepsBars_98 : decode cX10_keepsBars 98 = .ok (.iload_n 1, 1) := by decide +kernel
theorem dX10_keepsBars_99 : decode cX10_keepsBars 99 = .ok (.iaload, 1) := by decide +kernel
theorem dX10_keepsBars_100 : decode cX10_keepsBars 100 = .ok (.invokevirtual 473, 3) := by decide +kernel
theorem dX10_keepsBars_103 : decode cX10_keepsBars 103 = .ok (.iastore, 1) := by decide +kernel
theorem dX10_keepsBars_104 : decode cX10_keepsBars 104 = .ok (.iinc 1 1, 3) := by decide +kernel
theorem dX10_keepsBars_107 : decode cX10_keepsBars 107 = .ok (.goto (-105), 3) := by decide +kernel
theorem dX10_keepsBars_110 : decode cX10_keepsBars 110 = .ok (.iconst 0, 1) := by decide +kernel
theorem dX10_keepsBars_111 : decode cX10_keepsBars 111 = .ok (.istore_n 1, 1) := by decide +kernel
theorem dX10_keepsBars_112 : decode cX10_keepsBars 112 = .ok (.iload_n 1, 1) := by decide +kernel
theorem dX10_keepsBars_113 : decode cX10_keepsBars 113 = .ok (.sipush 160, 3) := by decide +kernel
theorem dX10_keepsBars_116 : decode cX10_keepsBars 116 = .ok (.if_icmp .ge 73, 3) := by decide +kernel
theorem dX10_keepsBars_119 : decode cX10_keepsBars 119 = .ok (.aload_n 0, 1) := by decide +kernel
theorem dX10_keepsBars_120 : decode cX10_keepsBars 120 = .ok (.getfield 17, 3) := by decide +kernel
theorem dX10_keepsBars_123 : decode cX10_keepsBars 123 = .ok (.iload_n 1, 1) := by decide +kernel
theorem dX10_keepsBars_124 : decode cX10_keepsBars 124 = .ok (.aload_n 0, 1) := by decide +kernel
theorem dX10_keepsBars_125 : decode cX10_keepsBars 125 = .ok (.aload_n 0, 1) := by decide +kernel
theorem dX10_keepsBars_126 : decode cX10_keepsBars 126 = .ok (.getfield 17, 3) := by decide +kernel
theorem dX10_keepsBars_129 : decode cX10_keepsBars 129 = .ok (.iload_n 1, 1) := by decide +kernel
theorem dX10_keepsBars_130 : decode cX10_keepsBars 130 = .ok (.iaload, 1) := by decide +kernel
theorem dX10_keepsBars_131 : decode cX10_keepsBars 131 = .ok (.invokevirtual 473, 3) := by decide +kernel
theorem dX10_keepsBars_134 : decode cX10_keepsBars 134 = .ok (.iastore, 1) := by decide +kernel
theorem dX10_keepsBars_135 : decode cX10_keepsBars 135 = .ok (.aload_n 0, 1) := by decide +kernel
theorem dX10_keepsBars_136 : decode cX10_keepsBars 136 = .ok (.getfield 20, 3) := by decide +kernel
theorem dX10_keepsBars_139 : decode cX10_keepsBars 139 = .ok (.iload_n 1, 1) := by decide +kernel
theorem dX10_keepsBars_140 : decode cX10_keepsBars 140 = .ok (.aload_n 0, 1) := by decide +kernel
theorem dX10_keepsBars_141 : decode cX10_keepsBars 141 = .ok (.aload_n 0, 1) := by decide +kernel
theorem dX10_keepsBars_142 : decode cX10_keepsBars 142 = .ok (.getfield 20, 3) := by decide +kernel
theorem dX10_keepsBars_145 : decode cX10_keepsBars 145 = .ok (.iload_n 1, 1) := by decide +kernel
theorem dX10_keepsBars_146 : decode cX10_keepsBars 146 = .ok (.iaload, 1) := by decide +kernel
theorem dX10_keepsBars_147 : decode cX10_keepsBars 147 = .ok (.invokevirtual 473, 3) := by decide +kernel
theorem dX10_keepsBars_150 : decode cX10_keepsBars 150 = .ok (.iastore, 1) := by decide +kernel
theorem dX10_keepsBars_151 : decode cX10_keepsBars 151 = .ok (.aload_n 0, 1) := by decide +kernel
theorem dX10_keepsBars_152 : decode cX10_keepsBars 152 = .ok (.getfield 23, 3) := by decide +kernel
theorem dX10_keepsBars_155 : decode cX10_keepsBars 155 = .ok (.iload_n 1, 1) := by decide +kernel
theorem dX10_keepsBars_156 : decode cX10_keepsBars 156 = .ok (.aload_n 0, 1) := by decide +kernel
theorem dX10_keepsBars_157 : decode cX10_keepsBars 157 = .ok (.aload_n 0, 1) := by decide +kernel
theorem dX10_keepsBars_158 : decode cX10_keepsBars 158 = .ok (.getfield 23, 3) := by decide +kernel
theorem dX10_keepsBars_161 : decode cX10_keepsBars 161 = .ok (.iload_n 1, 1) := by decide +kernel
theorem dX10_keepsBars_162 : decode cX10_keepsBars 162 = .ok (.iaload, 1) := by decide +kernel
theorem dX10_keepsBars_163 : decode cX10_keepsBars 163 = .ok (.invokevirtual 473, 3) := by decide +kernel
theorem dX10_keepsBars_166 : decode cX10_keepsBars 166 = .ok (.iastore, 1) := by decide +kernel
theorem dX10_keepsBars_167 : decode cX10_keepsBars 167 = .ok (.aload_n 0, 1) := by decide +kernel
theorem dX10_keepsBars_168 : decode cX10_keepsBars 168 = .ok (.getfield 26, 3) := by decide +kernel
theorem dX10_keepsBars_171 : decode cX10_keepsBars 171 = .ok (.iload_n 1, 1) := by decide +kernel
theorem dX10_keepsBars_172 : decode cX10_keepsBars 172 = .ok (.aload_n 0, 1) := by decide +kernel
theorem dX10_keepsBars_173 : decode cX10_keepsBars 173 = .ok (.aload_n 0, 1) := by decide +kernel
theorem dX10_keepsBars_174 : decode cX10_keepsBars 174 = .ok (.getfield 26, 3) := by decide +kernel
theorem dX10_keepsBars_177 : decode cX10_keepsBars 177 = .ok (.iload_n 1, 1) := by decide +kernel
theorem dX10_keepsBars_178 : decode cX10_keepsBars 178 = .ok (.iaload, 1) := by decide +kernel
theorem dX10_keepsBars_179 : decode cX10_keepsBars 179 = .ok (.invokevirtual 473, 3) := by decide +kernel
theorem dX10_keepsBars_182 : decode cX10_keepsBars 182 = .ok (.iastore, 1) := by decide +kernel
theorem dX10_keepsBars_183 : decode cX10_keepsBars 183 = .ok (.iinc 1 1, 3) := by decide +kernel
theorem dX10_keepsBars_186 : decode cX10_keepsBars 186 = .ok (.goto (-74), 3) := by decide +kernel
theorem dX10_keepsBars_189 : decode cX10_keepsBars 189 = .ok (.iconst 0, 1) := by decide +kernel
theorem dX10_keepsBars_190 : decode cX10_keepsBars 190 = .ok (.istore_n 1, 1) := by decide +kernel
theorem dX10_keepsBars_191 : decode cX10_keepsBars 191 = .ok (.iload_n 1, 1) := by decide +kernel
theorem dX10_keepsBars_192 : decode cX10_keepsBars 192 = .ok (.bipush 30, 2) := by decide +kernel
theorem dX10_keepsBars_194 : decode cX10_keepsBars 194 = .ok (.if_icmp .ge 25, 3) := by decide +kernel
theorem dX10_keepsBars_197 : decode cX10_keepsBars 197 = .ok (.aload_n 0, 1) := by decide +kernel
theorem dX10_keepsBars_198 : decode cX10_keepsBars 198 = .ok (.getfield 29, 3) := by decide +kernel
theorem dX10_keepsBars_201 : decode cX10_keepsBars 201 = .ok (.iload_n 1, 1) := by decide +kernel
theorem dX10_keepsBars_202 : decode cX10_keepsBars 202 = .ok (.aload_n 0, 1) := by decide +kernel
theorem dX10_keepsBars_203 : decode cX10_keepsBars 203 = .ok (.aload_n 0, 1) := by decide +kernel
theorem dX10_keepsBars_204 : decode cX10_keepsBars 204 = .ok (.getfield 29, 3) := by decide +kernel
theorem dX10_keepsBars_207 : decode cX10_keepsBars 207 = .ok (.iload_n 1, 1) := by decide +kernel
theorem dX10_keepsBars_208 : decode cX10_keepsBars 208 = .ok (.iaload, 1) := by decide +kernel
theorem dX10_keepsBars_209 : decode cX10_keepsBars 209 = .ok (.invokevirtual 473, 3) := by decide +kernel
theorem dX10_keepsBars_212 : decode cX10_keepsBars 212 = .ok (.iastore, 1) := by decide +kernel
theorem dX10_keepsBars_213 : decode cX10_keepsBars 213 = .ok (.iinc 1 1, 3) := by decide +kernel
theorem dX10_keepsBars_216 : decode cX10_keepsBars 216 = .ok (.goto (-25), 3) := by decide +kernel
theorem dX10_keepsBars_219 : decode cX10_keepsBars 219 = .ok (.iconst 0, 1) := by decide +kernel
theorem dX10_keepsBars_220 : decode cX10_keepsBars 220 = .ok (.istore_n 1, 1) := by decide +kernel
theorem dX10_keepsBars_221 : decode cX10_keepsBars 221 = .ok (.iload_n 1, 1) := by decide +kernel
theorem dX10_keepsBars_222 : decode cX10_keepsBars 222 = .ok (.bipush 20, 2) := by decide +kernel
theorem dX10_keepsBars_224 : decode cX10_keepsBars 224 = .ok (.if_icmp .ge 57, 3) := by decide +kernel
theorem dX10_keepsBars_227 : decode cX10_keepsBars 227 = .ok (.aload_n 0, 1) := by decide +kernel
theorem dX10_keepsBars_228 : decode cX10_keepsBars 228 = .ok (.getfield 50, 3) := by decide +kernel
theorem dX10_keepsBars_231 : decode cX10_keepsBars 231 = .ok (.iload_n 1, 1) := by decide +kernel
theorem dX10_keepsBars_232 : decode cX10_keepsBars 232 = .ok (.aload_n 0, 1) := by decide +kernel
theorem dX10_keepsBars_233 : decode cX10_keepsBars 233 = .ok (.aload_n 0, 1) := by decide +kernel
theorem dX10_keepsBars_234 : decode cX10_keepsBars 234 = .ok (.getfield 50, 3) := by decide +kernel
theorem dX10_keepsBars_237 : decode cX10_keepsBars 237 = .ok (.iload_n 1, 1) := by decide +kernel
theorem dX10_keepsBars_238 : decode cX10_keepsBars 238 = .ok (.iaload, 1) := by decide +kernel
theorem dX10_keepsBars_239 : decode cX10_keepsBars 239 = .ok (.invokevirtual 473, 3) := by decide +kernel
theorem dX10_keepsBars_242 : decode cX10_keepsBars 242 = .ok (.iastore, 1) := by decide +kernel
theorem dX10_keepsBars_243 : decode cX10_keepsBars 243 = .ok (.aload_n 0, 1) := by decide +kernel
theorem dX10_keepsBars_244 : decode cX10_keepsBars 244 = .ok (.getfield 140, 3) := by decide +kernel
theorem dX10_keepsBars_247 : decode cX10_keepsBars 247 = .ok (.iload_n 1, 1) := by decide +kernel
theorem dX10_keepsBars_248 : decode cX10_keepsBars 248 = .ok (.aload_n 0, 1) := by decide +kernel
theorem dX10_keepsBars_249 : decode cX10_keepsBars 249 = .ok (.aload_n 0, 1) := by decide +kernel
theorem dX10_keepsBars_250 : decode cX10_keepsBars 250 = .ok (.getfield 140, 3) := by decide +kernel
theorem dX10_keepsBars_253 : decode cX10_keepsBars 253 = .ok (.iload_n 1, 1) := by decide +kernel
theorem dX10_keepsBars_254 : decode cX10_keepsBars 254 = .ok (.iaload, 1) := by decide +kernel
theorem dX10_keepsBars_255 : decode cX10_keepsBars 255 = .ok (.invokevirtual 473, 3) := by decide +kernel
theorem dX10_keepsBars_258 : decode cX10_keepsBars 258 = .ok (.iastore, 1) := by decide +kernel
theorem dX10_keepsBars_259 : decode cX10_keepsBars 259 = .ok (.aload_n 0, 1) := by decide +kernel
theorem dX10_keepsBars_260 : decode cX10_keepsBars 260 = .ok (.getfield 143, 3) := by decide +kernel
theorem dX10_keepsBars_263 : decode cX10_keepsBars 263 = .ok (.iload_n 1, 1) := by decide +kernel
theorem dX10_keepsBars_264 : decode cX10_keepsBars 264 = .ok (.aload_n 0, 1) := by decide +kernel
theorem dX10_keepsBars_265 : decode cX10_keepsBars 265 = .ok (.aload_n 0, 1) := by decide +kernel
theorem dX10_keepsBars_266 : decode cX10_keepsBars 266 = .ok (.getfield 143, 3) := by decide +kernel
theorem dX10_keepsBars_269 : decode cX10_keepsBars 269 = .ok (.iload_n 1, 1) := by decide +kernel
theorem dX10_keepsBars_270 : decode cX10_keepsBars 270 = .ok (.iaload, 1) := by decide +kernel
theorem dX10_keepsBars_271 : decode cX10_keepsBars 271 = .ok (.invokevirtual 473, 3) := by decide +kernel
theorem dX10_keepsBars_274 : decode cX10_keepsBars 274 = .ok (.iastore, 1) := by decide +kernel
theorem dX10_keepsBars_275 : decode cX10_keepsBars 275 = .ok (.iinc 1 1, 3) := by decide +kernel
theorem dX10_keepsBars_278 : decode cX10_keepsBars 278 = .ok (.goto (-57), 3) := by decide +kernel
theorem dX10_keepsBars_281 : decode cX10_keepsBars 281 = .ok (.iconst 0, 1) := by decide +kernel
theorem dX10_keepsBars_282 : decode cX10_keepsBars 282 = .ok (.istore_n 1, 1) := by decide +kernel
theorem dX10_keepsBars_283 : decode cX10_keepsBars 283 = .ok (.iload_n 1, 1) := by decide +kernel
theorem dX10_keepsBars_284 : decode cX10_keepsBars 284 = .ok (.sipush 2000, 3) := by decide +kernel
theorem dX10_keepsBars_287 : decode cX10_keepsBars 287 = .ok (.if_icmp .ge 41, 3) := by decide +kernel
theorem dX10_keepsBars_290 : decode cX10_keepsBars 290 = .ok (.aload_n 0, 1) := by decide +kernel
theorem dX10_keepsBars_291 : decode cX10_keepsBars 291 = .ok (.getfield 35, 3) := by decide +kernel
theorem dX10_keepsBars_294 : decode cX10_keepsBars 294 = .ok (.iload_n 1, 1) := by decide +kernel
theorem dX10_keepsBars_295 : decode cX10_keepsBars 295 = .ok (.aload_n 0, 1) := by decide +kernel
theorem dX10_keepsBars_296 : decode cX10_keepsBars 296 = .ok (.aload_n 0, 1) := by decide +kernel
theorem dX10_keepsBars_297 : decode cX10_keepsBars 297 = .ok (.getfield 35, 3) := by decide +kernel
theorem dX10_keepsBars_300 : decode cX10_keepsBars 300 = .ok (.iload_n 1, 1) := by decide +kernel
theorem dX10_keepsBars_301 : decode cX10_keepsBars 301 = .ok (.iaload, 1) := by decide +kernel
theorem dX10_keepsBars_302 : decode cX10_keepsBars 302 = .ok (.invokevirtual 473, 3) := by decide +kernel
theorem dX10_keepsBars_305 : decode cX10_keepsBars 305 = .ok (.iastore, 1) := by decide +kernel
theorem dX10_keepsBars_306 : decode cX10_keepsBars 306 = .ok (.aload_n 0, 1) := by decide +kernel
theorem dX10_keepsBars_307 : decode cX10_keepsBars 307 = .ok (.getfield 38, 3) := by decide +kernel
theorem dX10_keepsBars_310 : decode cX10_keepsBars 310 = .ok (.iload_n 1, 1) := by decide +kernel
theorem dX10_keepsBars_311 : decode cX10_keepsBars 311 = .ok (.aload_n 0, 1) := by decide +kernel
theorem dX10_keepsBars_312 : decode cX10_keepsBars 312 = .ok (.aload_n 0, 1) := by decide +kernel
theorem dX10_keepsBars_313 : decode cX10_keepsBars 313 = .ok (.getfield 38, 3) := by decide +kernel
theorem dX10_keepsBars_316 : decode cX10_keepsBars 316 = .ok (.iload_n 1, 1) := by decide +kernel
theorem dX10_keepsBars_317 : decode cX10_keepsBars 317 = .ok (.iaload, 1) := by decide +kernel
theorem dX10_keepsBars_318 : decode cX10_keepsBars 318 = .ok (.invokevirtual 473, 3) := by decide +kernel
theorem dX10_keepsBars_321 : decode cX10_keepsBars 321 = .ok (.iastore, 1) := by decide +kernel
theorem dX10_keepsBars_322 : decode cX10_keepsBars 322 = .ok (.iinc 1 1, 3) := by decide +kernel
theorem dX10_keepsBars_325 : decode cX10_keepsBars 325 = .ok (.goto (-42), 3) := by decide +kernel
theorem dX10_keepsBars_328 : decode cX10_keepsBars 328 = .ok (.return_, 1) := by decide +kernel
theorem dX10_keepsTaps_0 : decode cX10_keepsTaps 0 = .ok (.iconst 0, 1) := by decide +kernel
theorem dX10_keepsTaps_1 : decode cX10_keepsTaps 1 = .ok (.istore_n 1, 1) := by decide +kernel
theorem dX10_keepsTaps_2 : decode cX10_keepsTaps 2 = .ok (.iload_n 1, 1) := by decide +kernel
theorem dX10_keepsTaps_3 : decode cX10_keepsTaps 3 = .ok (.bipush 120, 2) := by decide +kernel
theorem dX10_keepsTaps_5 : decode cX10_keepsTaps 5 = .ok (.if_icmp .ge 41, 3) := by decide +kernel
theorem dX10_keepsTaps_8 : decode cX10_keepsTaps 8 = .ok (.aload_n 0, 1) := by decide +kernel
theorem dX10_keepsTaps_9 : decode cX10_keepsTaps 9 = .ok (.getfield 119, 3) := by decide +kernel
theorem dX10_keepsTaps_12 : decode cX10_keepsTaps 12 = .ok (.iload_n 1, 1) := by decide +kernel
theorem dX10_keepsTaps_13 : decode cX10_keepsTaps 13 = .ok (.aload_n 0, 1) := by decide +kernel
theorem dX10_keepsTaps_14 : decode cX10_keepsTaps 14 = .ok (.aload_n 0, 1) := by decide +kernel
theorem dX10_keepsTaps_15 : decode cX10_keepsTaps 15 = .ok (.getfield 119, 3) := by decide +kernel
theorem dX10_keepsTaps_18 : decode cX10_keepsTaps 18 = .ok (.iload_n 1, 1) := by decide +kernel
theorem dX10_keepsTaps_19 : decode cX10_keepsTaps 19 = .ok (.iaload, 1) := by decide +kernel
theorem dX10_keepsTaps_20 : decode cX10_keepsTaps 20 = .ok (.invokevirtual 473, 3) := by decide +kernel
theorem dX10_keepsTaps_23 : decode cX10_keepsTaps 23 = .ok (.iastore, 1) := by decide +kernel
theorem dX10_keepsTaps_24 : decode cX10_keepsTaps 24 = .ok (.aload_n 0, 1) := by decide +kernel
theorem dX10_keepsTaps_25 : decode cX10_keepsTaps 25 = .ok (.getfield 122, 3) := by decide +kernel
theorem dX10_keepsTaps_28 : decode cX10_keepsTaps 28 = .ok (.iload_n 1, 1) := by decide +kernel
theorem dX10_keepsTaps_29 : decode cX10_keepsTaps 29 = .ok (.aload_n 0, 1) := by decide +kernel
theorem dX10_keepsTaps_30 : decode cX10_keepsTaps 30 = .ok (.aload_n 0, 1) := by decide +kernel
theorem dX10_keepsTaps_31 : decode cX10_keepsTaps 31 = .ok (.getfield 122, 3) := by decide +kernel
theorem dX10_keepsTaps_34 : decode cX10_keepsTaps 34 = .ok (.iload_n 1, 1) := by decide +kernel
theorem dX10_keepsTaps_35 : decode cX10_keepsTaps 35 = .ok (.iaload, 1) := by decide +kernel
theorem dX10_keepsTaps_36 : decode cX10_keepsTaps 36 = .ok (.invokevirtual 473, 3) := by decide +kernel
theorem dX10_keepsTaps_39 : decode cX10_keepsTaps 39 = .ok (.iastore, 1) := by decide +kernel
theorem dX10_keepsTaps_40 : decode cX10_keepsTaps 40 = .ok (.iinc 1 1, 3) := by decide +kernel
theorem dX10_keepsTaps_43 : decode cX10_keepsTaps 43 = .ok (.goto (-41), 3) := by decide +kernel
theorem dX10_keepsTaps_46 : decode cX10_keepsTaps 46 = .ok (.iconst 0, 1) := by decide +kernel
theorem dX10_keepsTaps_47 : decode cX10_keepsTaps 47 = .ok (.istore_n 1, 1) := by decide +kernel
theorem dX10_keepsTaps_48 : decode cX10_keepsTaps 48 = .ok (.iload_n 1, 1) := by decide +kernel
theorem dX10_keepsTaps_49 : decode cX10_keepsTaps 49 = .ok (.sipush 1920, 3) := by decide +kernel
theorem dX10_keepsTaps_52 : decode cX10_keepsTaps 52 = .ok (.if_icmp .ge 41, 3) := by decide +kernel
theorem dX10_keepsTaps_55 : decode cX10_keepsTaps 55 = .ok (.aload_n 0, 1) := by decide +kernel
theorem dX10_keepsTaps_56 : decode cX10_keepsTaps 56 = .ok (.getfield 125, 3) := by decide +kernel
theorem dX10_keepsTaps_59 : decode cX10_keepsTaps 59 = .ok (.iload_n 1, 1) := by decide +kernel
theorem dX10_keepsTaps_60 : decode cX10_keepsTaps 60 = .ok (.aload_n 0, 1) := by decide +kernel
theorem dX10_keepsTaps_61 : decode cX10_keepsTaps 61 = .ok (.aload_n 0, 1) := by decide +kernel
theorem dX10_keepsTaps_62 : decode cX10_keepsTaps 62 = .ok (.getfield 125, 3) := by decide +kernel
theorem dX10_keepsTaps_65 : decode cX10_keepsTaps 65 = .ok (.iload_n 1, 1) := by decide +kernel
theorem dX10_keepsTaps_66 : decode cX10_keepsTaps 66 = .ok (.iaload, 1) := by decide +kernel
theorem dX10_keepsTaps_67 : decode cX10_keepsTaps 67 = .ok (.invokevirtual 473, 3) := by decide +kernel
theorem dX10_keepsTaps_70 : decode cX10_keepsTaps 70 = .ok (.iastore, 1) := by decide +kernel
theorem dX10_keepsTaps_71 : decode cX10_keepsTaps 71 = .ok (.aload_n 0, 1) := by decide +kernel
theorem dX10_keepsTaps_72 : decode cX10_keepsTaps 72 = .ok (.getfield 128, 3) := by decide +kernel
theorem dX10_keepsTaps_75 : decode cX10_keepsTaps 75 = .ok (.iload_n 1, 1) := by decide +kernel
theorem dX10_keepsTaps_76 : decode cX10_keepsTaps 76 = .ok (.aload_n 0, 1) := by decide +kernel
theorem dX10_keepsTaps_77 : decode cX10_keepsTaps 77 = .ok (.aload_n 0, 1) := by decide +kernel
theorem dX10_keepsTaps_78 : decode cX10_keepsTaps 78 = .ok (.getfield 128, 3) := by decide +kernel
theorem dX10_keepsTaps_81 : decode cX10_keepsTaps 81 = .ok (.iload_n 1, 1) := by decide +kernel
theorem dX10_keepsTaps_82 : decode cX10_keepsTaps 82 = .ok (.iaload, 1) := by decide +kernel
theorem dX10_keepsTaps_83 : decode cX10_keepsTaps 83 = .ok (.invokevirtual 473, 3) := by decide +kernel
theorem dX10_keepsTaps_86 : decode cX10_keepsTaps 86 = .ok (.iastore, 1) := by decide +kernel
theorem dX10_keepsTaps_87 : decode cX10_keepsTaps 87 = .ok (.iinc 1 1, 3) := by decide +kernel
theorem dX10_keepsTaps_90 : decode cX10_keepsTaps 90 = .ok (.goto (-42), 3) := by decide +kernel
theorem dX10_keepsTaps_93 : decode cX10_keepsTaps 93 = .ok (.iconst 0, 1) := by decide +kernel
theorem dX10_keepsTaps_94 : decode cX10_keepsTaps 94 = .ok (.istore_n 1, 1) := by decide +kernel
theorem dX10_keepsTaps_95 : decode cX10_keepsTaps 95 = .ok (.iload_n 1, 1) := by decide +kernel
theorem dX10_keepsTaps_96 : decode cX10_keepsTaps 96 = .ok (.bipush 8, 2) := by decide +kernel
theorem dX10_keepsTaps_98 : decode cX10_keepsTaps 98 = .ok (.if_icmp .ge 73, 3) := by decide +kernel
theorem dX10_keepsTaps_101 : decode cX10_keepsTaps 101 = .ok (.aload_n 0, 1) := by decide +kernel
theorem dX10_keepsTaps_102 : decode cX10_keepsTaps 102 = .ok (.getfield 146, 3) := by decide +kernel
theorem dX10_keepsTaps_105 : decode cX10_keepsTaps 105 = .ok (.iload_n 1, 1) := by decide +kernel
theorem dX10_keepsTaps_106 : decode cX10_keepsTaps 106 = .ok (.aload_n 0, 1) := by decide +kernel
theorem dX10_keepsTaps_107 : decode cX10_keepsTaps 107 = .ok (.aload_n 0, 1) := by decide +kernel
theorem dX10_keepsTaps_108 : decode cX10_keepsTaps 108 = .ok (.getfield 146, 3) := by decide +kernel
theorem dX10_keepsTaps_111 : decode cX10_keepsTaps 111 = .ok (.iload_n 1, 1) := by decide +kernel
theorem dX10_keepsTaps_112 : decode cX10_keepsTaps 112 = .ok (.iaload, 1) := by decide +kernel
theorem dX10_keepsTaps_113 : decode cX10_keepsTaps 113 = .ok (.invokevirtual 473, 3) := by decide +kernel
theorem dX10_keepsTaps_116 : decode cX10_keepsTaps 116 = .ok (.iastore, 1) := by decide +kernel
theorem dX10_keepsTaps_117 : decode cX10_keepsTaps 117 = .ok (.aload_n 0, 1) := by decide +kernel
theorem dX10_keepsTaps_118 : decode cX10_keepsTaps 118 = .ok (.getfield 149, 3) := by decide +kernel
theorem dX10_keepsTaps_121 : decode cX10_keepsTaps 121 = .ok (.iload_n 1, 1) := by decide +kernel
theorem dX10_keepsTaps_122 : decode cX10_keepsTaps 122 = .ok (.aload_n 0, 1) := by decide +kernel
theorem dX10_keepsTaps_123 : decode cX10_keepsTaps 123 = .ok (.aload_n 0, 1) := by decide +kernel
theorem dX10_keepsTaps_124 : decode cX10_keepsTaps 124 = .ok (.getfield 149, 3) := by decide +kernel
theorem dX10_keepsTaps_127 : decode cX10_keepsTaps 127 = .ok (.iload_n 1, 1) := by decide +kernel
theorem dX10_keepsTaps_128 : decode cX10_keepsTaps 128 = .ok (.iaload, 1) := by decide +kernel
theorem dX10_keepsTaps_129 : decode cX10_keepsTaps 129 = .ok (.invokevirtual 473, 3) := by decide +kernel
theorem dX10_keepsTaps_132 : decode cX10_keepsTaps 132 = .ok (.iastore, 1) := by decide +kernel
theorem dX10_keepsTaps_133 : decode cX10_keepsTaps 133 = .ok (.aload_n 0, 1) := by decide +kernel
theorem dX10_keepsTaps_134 : decode cX10_keepsTaps 134 = .ok (.getfield 152, 3) := by decide +kernel
theorem dX10_keepsTaps_137 : decode cX10_keepsTaps 137 = .ok (.iload_n 1, 1) := by decide +kernel
theorem dX10_keepsTaps_138 : decode cX10_keepsTaps 138 = .ok (.aload_n 0, 1) := by decide +kernel
theorem dX10_keepsTaps_139 : decode cX10_keepsTaps 139 = .ok (.aload_n 0, 1) := by decide +kernel
theorem dX10_keepsTaps_140 : decode cX10_keepsTaps 140 = .ok (.getfield 152, 3) := by decide +kernel
theorem dX10_keepsTaps_143 : decode cX10_keepsTaps 143 = .ok (.iload_n 1, 1) := by decide +kernel
theorem dX10_keepsTaps_144 : decode cX10_keepsTaps 144 = .ok (.iaload, 1) := by decide +kernel
theorem dX10_keepsTaps_145 : decode cX10_keepsTaps 145 = .ok (.invokevirtual 473, 3) := by decide +kernel
theorem dX10_keepsTaps_148 : decode cX10_keepsTaps 148 = .ok (.iastore, 1) := by decide +kernel
theorem dX10_keepsTaps_149 : decode cX10_keepsTaps 149 = .ok (.aload_n 0, 1) := by decide +kernel
theorem dX10_keepsTaps_150 : decode cX10_keepsTaps 150 = .ok (.getfield 155, 3) := by decide +kernel
theorem dX10_keepsTaps_153 : decode cX10_keepsTaps 153 = .ok (.iload_n 1, 1) := by decide +kernel
theorem dX10_keepsTaps_154 : decode cX10_keepsTaps 154 = .ok (.aload_n 0, 1) := by decide +kernel
theorem dX10_keepsTaps_155 : decode cX10_keepsTaps 155 = .ok (.aload_n 0, 1) := by decide +kernel
theorem dX10_keepsTaps_156 : decode cX10_keepsTaps 156 = .ok (.getfield 155, 3) := by decide +kernel
theorem dX10_keepsTaps_159 : decode cX10_keepsTaps 159 = .ok (.iload_n 1, 1) := by decide +kernel
theorem dX10_keepsTaps_160 : decode cX10_keepsTaps 160 = .ok (.iaload, 1) := by decide +kernel
theorem dX10_keepsTaps_161 : decode cX10_keepsTaps 161 = .ok (.invokevirtual 473, 3) := by decide +kernel
theorem dX10_keepsTaps_164 : decode cX10_keepsTaps 164 = .ok (.iastore, 1) := by decide +kernel
theorem dX10_keepsTaps_165 : decode cX10_keepsTaps 165 = .ok (.iinc 1 1, 3) := by decide +kernel
theorem dX10_keepsTaps_168 : decode cX10_keepsTaps 168 = .ok (.goto (-73), 3) := by decide +kernel
theorem dX10_keepsTaps_171 : decode cX10_keepsTaps 171 = .ok (.return_, 1) := by decide +kernel
theorem dX10_keepsTexts_0 : decode cX10_keepsTexts 0 = .ok (.iconst 0, 1) := by decide +kernel
theorem dX10_keepsTexts_1 : decode cX10_keepsTexts 1 = .ok (.istore_n 1, 1) := by decide +kernel
theorem dX10_keepsTexts_2 : decode cX10_keepsTexts 2 = .ok (.iload_n 1, 1) := by decide +kernel
theorem dX10_keepsTexts_3 : decode cX10_keepsTexts 3 = .ok (.bipush 6, 2) := by decide +kernel
theorem dX10_keepsTexts_5 : decode cX10_keepsTexts 5 = .ok (.if_icmp .ge 25, 3) := by decide +kernel
theorem dX10_keepsTexts_8 : decode cX10_keepsTexts 8 = .ok (.aload_n 0, 1) := by decide +kernel
theorem dX10_keepsTexts_9 : decode cX10_keepsTexts 9 = .ok (.getfield 59, 3) := by decide +kernel
theorem dX10_keepsTexts_12 : decode cX10_keepsTexts 12 = .ok (.iload_n 1, 1) := by decide +kernel
theorem dX10_keepsTexts_13 : decode cX10_keepsTexts 13 = .ok (.aload_n 0, 1) := by decide +kernel
theorem dX10_keepsTexts_14 : decode cX10_keepsTexts 14 = .ok (.aload_n 0, 1) := by decide +kernel
theorem dX10_keepsTexts_15 : decode cX10_keepsTexts 15 = .ok (.getfield 59, 3) := by decide +kernel
theorem dX10_keepsTexts_18 : decode cX10_keepsTexts 18 = .ok (.iload_n 1, 1) := by decide +kernel
theorem dX10_keepsTexts_19 : decode cX10_keepsTexts 19 = .ok (.iaload, 1) := by decide +kernel
theorem dX10_keepsTexts_20 : decode cX10_keepsTexts 20 = .ok (.invokevirtual 473, 3) := by decide +kernel
theorem dX10_keepsTexts_23 : decode cX10_keepsTexts 23 = .ok (.iastore, 1) := by decide +kernel
theorem dX10_keepsTexts_24 : decode cX10_keepsTexts 24 = .ok (.iinc 1 1, 3) := by decide +kernel
theorem dX10_keepsTexts_27 : decode cX10_keepsTexts 27 = .ok (.goto (-25), 3) := by decide +kernel
theorem dX10_keepsTexts_30 : decode cX10_keepsTexts 30 = .ok (.iconst 0, 1) := by decide +kernel
theorem dX10_keepsTexts_31 : decode cX10_keepsTexts 31 = .ok (.istore_n 1, 1) := by decide +kernel
theorem dX10_keepsTexts_32 : decode cX10_keepsTexts 32 = .ok (.iload_n 1, 1) := by decide +kernel
theorem dX10_keepsTexts_33 : decode cX10_keepsTexts 33 = .ok (.bipush 96, 2) := by decide +kernel
theorem dX10_keepsTexts_35 : decode cX10_keepsTexts 35 = .ok (.if_icmp .ge 121, 3) := by decide +kernel
theorem dX10_keepsTexts_38 : decode cX10_keepsTexts 38 = .ok (.aload_n 0, 1) := by decide +kernel
theorem dX10_keepsTexts_39 : decode cX10_keepsTexts 39 = .ok (.getfield 62, 3) := by decide +kernel
theorem dX10_keepsTexts_42 : decode cX10_keepsTexts 42 = .ok (.iload_n 1, 1) := by decide +kernel
theorem dX10_keepsTexts_43 : decode cX10_keepsTexts 43 = .ok (.aload_n 0, 1) := by decide +kernel
theorem dX10_keepsTexts_44 : decode cX10_keepsTexts 44 = .ok (.aload_n 0, 1) := by decide +kernel
theorem dX10_keepsTexts_45 : decode cX10_keepsTexts 45 = .ok (.getfield 62, 3) := by decide +kernel
theorem dX10_keepsTexts_48 : decode cX10_keepsTexts 48 = .ok (.iload_n 1, 1) := by decide +kernel
theorem dX10_keepsTexts_49 : decode cX10_keepsTexts 49 = .ok (.iaload, 1) := by decide +kernel
theorem dX10_keepsTexts_50 : decode cX10_keepsTexts 50 = .ok (.invokevirtual 473, 3) := by decide +kernel
theorem dX10_keepsTexts_53 : decode cX10_keepsTexts 53 = .ok (.iastore, 1) := by decide +kernel
theorem dX10_keepsTexts_54 : decode cX10_keepsTexts 54 = .ok (.aload_n 0, 1) := by decide +kernel
theorem dX10_keepsTexts_55 : decode cX10_keepsTexts 55 = .ok (.getfield 65, 3) := by decide +kernel
theorem dX10_keepsTexts_58 : decode cX10_keepsTexts 58 = .ok (.iload_n 1, 1) := by decide +kernel
theorem dX10_keepsTexts_59 : decode cX10_keepsTexts 59 = .ok (.aload_n 0, 1) := by decide +kernel
theorem dX10_keepsTexts_60 : decode cX10_keepsTexts 60 = .ok (.aload_n 0, 1) := by decide +kernel
theorem dX10_keepsTexts_61 : decode cX10_keepsTexts 61 = .ok (.getfield 65, 3) := by decide +kernel
theorem dX10_keepsTexts_64 : decode cX10_keepsTexts 64 = .ok (.iload_n 1, 1) := by decide +kernel
theorem dX10_keepsTexts_65 : decode cX10_keepsTexts 65 = .ok (.iaload, 1) := by decide +kernel
theorem dX10_keepsTexts_66 : decode cX10_keepsTexts 66 = .ok (.invokevirtual 473, 3) := by decide +kernel
theorem dX10_keepsTexts_69 : decode cX10_keepsTexts 69 = .ok (.iastore, 1) := by decide +kernel
theorem dX10_keepsTexts_70 : decode cX10_keepsTexts 70 = .ok (.aload_n 0, 1) := by decide +kernel
theorem dX10_keepsTexts_71 : decode cX10_keepsTexts 71 = .ok (.getfield 68, 3) := by decide +kernel
theorem dX10_keepsTexts_74 : decode cX10_keepsTexts 74 = .ok (.iload_n 1, 1) := by decide +kernel
theorem dX10_keepsTexts_75 : decode cX10_keepsTexts 75 = .ok (.aload_n 0, 1) := by decide +kernel
theorem dX10_keepsTexts_76 : decode cX10_keepsTexts 76 = .ok (.aload_n 0, 1) := by decide +kernel
theorem dX10_keepsTexts_77 : decode cX10_keepsTexts 77 = .ok (.getfield 68, 3) := by decide +kernel
theorem dX10_keepsTexts_80 : decode cX10_keepsTexts 80 = .ok (.iload_n 1, 1) := by decide +kernel
theorem dX10_keepsTexts_81 : decode cX10_keepsTexts 81 = .ok (.iaload, 1) := by decide +kernel
theorem dX10_keepsTexts_82 : decode cX10_keepsTexts 82 = .ok (.invokevirtual 473, 3) := by decide +kernel
theorem dX10_keepsTexts_85 : decode cX10_keepsTexts 85 = .ok (.iastore, 1) := by decide +kernel
theorem dX10_keepsTexts_86 : decode cX10_keepsTexts 86 = .ok (.aload_n 0, 1) := by decide +kernel
theorem dX10_keepsTexts_87 : decode cX10_keepsTexts 87 = .ok (.getfield 71, 3) := by decide +kernel
theorem dX10_keepsTexts_90 : decode cX10_keepsTexts 90 = .ok (.iload_n 1, 1) := by decide +kernel
theorem dX10_keepsTexts_91 : decode cX10_keepsTexts 91 = .ok (.aload_n 0, 1) := by decide +kernel
theorem dX10_keepsTexts_92 : decode cX10_keepsTexts 92 = .ok (.aload_n 0, 1) := by decide +kernel
theorem dX10_keepsTexts_93 : decode cX10_keepsTexts 93 = .ok (.getfield 71, 3) := by decide +kernel
theorem dX10_keepsTexts_96 : decode cX10_keepsTexts 96 = .ok (.iload_n 1, 1) := by decide +kernel
theorem dX10_keepsTexts_97 : decode cX10_keepsTexts 97 = .ok (.iaload, 1) := by decide +kernel
theorem dX10_keepsTexts_98 : decode cX10_keepsTexts 98 = .ok (.invokevirtual 473, 3) := by decide +kernel
theorem dX10_keepsTexts_101 : decode cX10_keepsTexts 101 = .ok (.iastore, 1) := by decide +kernel
theorem dX10_keepsTexts_102 : decode cX10_keepsTexts 102 = .ok (.aload_n 0, 1) := by decide +kernel
theorem dX10_keepsTexts_103 : decode cX10_keepsTexts 103 = .ok (.getfield 74, 3) := by decide +kernel
theorem dX10_keepsTexts_106 : decode cX10_keepsTexts 106 = .ok (.iload_n 1, 1) := by decide +kernel
theorem dX10_keepsTexts_107 : decode cX10_keepsTexts 107 = .ok (.aload_n 0, 1) := by decide +kernel
theorem dX10_keepsTexts_108 : decode cX10_keepsTexts 108 = .ok (.aload_n 0, 1) := by decide +kernel
theorem dX10_keepsTexts_109 : decode cX10_keepsTexts 109 = .ok (.getfield 74, 3) := by decide +kernel
theorem dX10_keepsTexts_112 : decode cX10_keepsTexts 112 = .ok (.iload_n 1, 1) := by decide +kernel
theorem dX10_keepsTexts_113 : decode cX10_keepsTexts 113 = .ok (.iaload, 1) := by decide +kernel
theorem dX10_keepsTexts_114 : decode cX10_keepsTexts 114 = .ok (.invokevirtual 473, 3) := by decide +kernel
theorem dX10_keepsTexts_117 : decode cX10_keepsTexts 117 = .ok (.iastore, 1) := by decide +kernel
theorem dX10_keepsTexts_118 : decode cX10_keepsTexts 118 = .ok (.aload_n 0, 1) := by decide +kernel
theorem dX10_keepsTexts_119 : decode cX10_keepsTexts 119 = .ok (.getfield 77, 3) := by decide +kernel
theorem dX10_keepsTexts_122 : decode cX10_keepsTexts 122 = .ok (.iload_n 1, 1) := by decide +kernel
theorem dX10_keepsTexts_123 : decode cX10_keepsTexts 123 = .ok (.aload_n 0, 1) := by decide +kernel
theorem dX10_keepsTexts_124 : decode cX10_keepsTexts 124 = .ok (.aload_n 0, 1) := by decide +kernel
theorem dX10_keepsTexts_125 : decode cX10_keepsTexts 125 = .ok (.getfield 77, 3) := by decide +kernel
theorem dX10_keepsTexts_128 : decode cX10_keepsTexts 128 = .ok (.iload_n 1, 1) := by decide +kernel
theorem dX10_keepsTexts_129 : decode cX10_keepsTexts 129 = .ok (.iaload, 1) := by decide +kernel
theorem dX10_keepsTexts_130 : decode cX10_keepsTexts 130 = .ok (.invokevirtual 473, 3) := by decide +kernel
theorem dX10_keepsTexts_133 : decode cX10_keepsTexts 133 = .ok (.iastore, 1) := by decide +kernel
theorem dX10_keepsTexts_134 : decode cX10_keepsTexts 134 = .ok (.aload_n 0, 1) := by decide +kernel
theorem dX10_keepsTexts_135 : decode cX10_keepsTexts 135 = .ok (.getfield 80, 3) := by decide +kernel
theorem dX10_keepsTexts_138 : decode cX10_keepsTexts 138 = .ok (.iload_n 1, 1) := by decide +kernel
theorem dX10_keepsTexts_139 : decode cX10_keepsTexts 139 = .ok (.aload_n 0, 1) := by decide +kernel
theorem dX10_keepsTexts_140 : decode cX10_keepsTexts 140 = .ok (.aload_n 0, 1) := by decide +kernel
theorem dX10_keepsTexts_141 : decode cX10_keepsTexts 141 = .ok (.getfield 80, 3) := by decide +kernel
theorem dX10_keepsTexts_144 : decode cX10_keepsTexts 144 = .ok (.iload_n 1, 1) := by decide +kernel
theorem dX10_keepsTexts_145 : decode cX10_keepsTexts 145 = .ok (.iaload, 1) := by decide +kernel
theorem dX10_keepsTexts_146 : decode cX10_keepsTexts 146 = .ok (.invokevirtual 473, 3) := by decide +kernel
theorem dX10_keepsTexts_149 : decode cX10_keepsTexts 149 = .ok (.iastore, 1) := by decide +kernel
theorem dX10_keepsTexts_150 : decode cX10_keepsTexts 150 = .ok (.iinc 1 1, 3) := by decide +kernel
theorem dX10_keepsTexts_153 : decode cX10_keepsTexts 153 = .ok (.goto (-121), 3) := by decide +kernel
theorem dX10_keepsTexts_156 : decode cX10_keepsTexts 156 = .ok (.iconst 0, 1) := by decide +kernel
theorem dX10_keepsTexts_157 : decode cX10_keepsTexts 157 = .ok (.istore_n 1, 1) := by decide +kernel
theorem dX10_keepsTexts_158 : decode cX10_keepsTexts 158 = .ok (.iload_n 1, 1) := by decide +kernel
theorem dX10_keepsTexts_159 : decode cX10_keepsTexts 159 = .ok (.sipush 3000, 3) := by decide +kernel
theorem dX10_keepsTexts_162 : decode cX10_keepsTexts 162 = .ok (.if_icmp .ge 41, 3) := by decide +kernel
theorem dX10_keepsTexts_165 : decode cX10_keepsTexts 165 = .ok (.aload_n 0, 1) := by decide +kernel
theorem dX10_keepsTexts_166 : decode cX10_keepsTexts 166 = .ok (.getfield 83, 3) := by decide +kernel
theorem dX10_keepsTexts_169 : decode cX10_keepsTexts 169 = .ok (.iload_n 1, 1) := by decide +kernel
theorem dX10_keepsTexts_170 : decode cX10_keepsTexts 170 = .ok (.aload_n 0, 1) := by decide +kernel
theorem dX10_keepsTexts_171 : decode cX10_keepsTexts 171 = .ok (.aload_n 0, 1) := by decide +kernel
theorem dX10_keepsTexts_172 : decode cX10_keepsTexts 172 = .ok (.getfield 83, 3) := by decide +kernel
theorem dX10_keepsTexts_175 : decode cX10_keepsTexts 175 = .ok (.iload_n 1, 1) := by decide +kernel
theorem dX10_keepsTexts_176 : decode cX10_keepsTexts 176 = .ok (.iaload, 1) := by decide +kernel
theorem dX10_keepsTexts_177 : decode cX10_keepsTexts 177 = .ok (.invokevirtual 473, 3) := by decide +kernel
theorem dX10_keepsTexts_180 : decode cX10_keepsTexts 180 = .ok (.iastore, 1) := by decide +kernel
theorem dX10_keepsTexts_181 : decode cX10_keepsTexts 181 = .ok (.aload_n 0, 1) := by decide +kernel
theorem dX10_keepsTexts_182 : decode cX10_keepsTexts 182 = .ok (.getfield 86, 3) := by decide +kernel
theorem dX10_keepsTexts_185 : decode cX10_keepsTexts 185 = .ok (.iload_n 1, 1) := by decide +kernel
theorem dX10_keepsTexts_186 : decode cX10_keepsTexts 186 = .ok (.aload_n 0, 1) := by decide +kernel
theorem dX10_keepsTexts_187 : decode cX10_keepsTexts 187 = .ok (.aload_n 0, 1) := by decide +kernel
theorem dX10_keepsTexts_188 : decode cX10_keepsTexts 188 = .ok (.getfield 86, 3) := by decide +kernel
theorem dX10_keepsTexts_191 : decode cX10_keepsTexts 191 = .ok (.iload_n 1, 1) := by decide +kernel
theorem dX10_keepsTexts_192 : decode cX10_keepsTexts 192 = .ok (.iaload, 1) := by decide +kernel
theorem dX10_keepsTexts_193 : decode cX10_keepsTexts 193 = .ok (.invokevirtual 473, 3) := by decide +kernel
theorem dX10_keepsTexts_196 : decode cX10_keepsTexts 196 = .ok (.iastore, 1) := by decide +kernel
theorem dX10_keepsTexts_197 : decode cX10_keepsTexts 197 = .ok (.iinc 1 1, 3) := by decide +kernel
theorem dX10_keepsTexts_200 : decode cX10_keepsTexts 200 = .ok (.goto (-42), 3) := by decide +kernel
theorem dX10_keepsTexts_203 : decode cX10_keepsTexts 203 = .ok (.return_, 1) := by decide +kernel
theorem dX10_image_0 : decode cX10_image 0 = .ok (.aload_n 0, 1) := by decide +kernel
theorem dX10_image_1 : decode cX10_image 1 = .ok (.iconst 0, 1) := by decide +kernel
theorem dX10_image_2 : decode cX10_image 2 = .ok (.putfield 167, 3) := by decide +kernel
theorem dX10_image_5 : decode cX10_image 5 = .ok (.iload_n 1, 1) := by decide +kernel
theorem dX10_image_6 : decode cX10_image 6 = .ok (.ifCond .ne 12, 3) := by decide +kernel
theorem dX10_image_9 : decode cX10_image 9 = .ok (.aload_n 0, 1) := by decide +kernel
theorem dX10_image_10 : decode cX10_image 10 = .ok (.getfield 476, 3) := by decide +kernel
theorem dX10_image_13 : decode cX10_image 13 = .ok (.ifCond .ne 5, 3) := by decide +kernel
theorem dX10_image_16 : decode cX10_image 16 = .ok (.iconst 0, 1) := by decide +kernel
theorem dX10_image_17 : decode cX10_image 17 = .ok (.ireturn, 1) := by decide +kernel
theorem dX10_image_18 : decode cX10_image 18 = .ok (.aload_n 0, 1) := by decide +kernel
theorem dX10_image_19 : decode cX10_image 19 = .ok (.iload_n 1, 1) := by decide +kernel
theorem dX10_image_20 : decode cX10_image 20 = .ok (.putfield 470, 3) := by decide +kernel
theorem dX10_image_23 : decode cX10_image 23 = .ok (.aload_n 0, 1) := by decide +kernel
theorem dX10_image_24 : decode cX10_image 24 = .ok (.iconst 1, 1) := by decide +kernel
theorem dX10_image_25 : decode cX10_image 25 = .ok (.putfield 476, 3) := by decide +kernel
theorem dX10_image_28 : decode cX10_image 28 = .ok (.aload_n 0, 1) := by decide +kernel
theorem dX10_image_29 : decode cX10_image 29 = .ok (.iconst 0, 1) := by decide +kernel
theorem dX10_image_30 : decode cX10_image 30 = .ok (.putfield 467, 3) := by decide +kernel
theorem dX10_image_33 : decode cX10_image 33 = .ok (.aload_n 0, 1) := by decide +kernel
theorem dX10_image_34 : decode cX10_image 34 = .ok (.aload_n 0, 1) := by decide +kernel
theorem dX10_image_35 : decode cX10_image 35 = .ok (.aload_n 0, 1) := by decide +kernel
theorem dX10_image_36 : decode cX10_image 36 = .ok (.getfield 170, 3) := by decide +kernel
theorem dX10_image_39 : decode cX10_image 39 = .ok (.invokevirtual 473, 3) := by decide +kernel
theorem dX10_image_42 : decode cX10_image 42 = .ok (.putfield 170, 3) := by decide +kernel
theorem dX10_image_45 : decode cX10_image 45 = .ok (.aload_n 0, 1) := by decide +kernel
theorem dX10_image_46 : decode cX10_image 46 = .ok (.aload_n 0, 1) := by decide +kernel
theorem dX10_image_47 : decode cX10_image 47 = .ok (.aload_n 0, 1) := by decide +kernel
theorem dX10_image_48 : decode cX10_image 48 = .ok (.getfield 322, 3) := by decide +kernel
theorem dX10_image_51 : decode cX10_image 51 = .ok (.invokevirtual 473, 3) := by decide +kernel
theorem dX10_image_54 : decode cX10_image 54 = .ok (.putfield 322, 3) := by decide +kernel
theorem dX10_image_57 : decode cX10_image 57 = .ok (.aload_n 0, 1) := by decide +kernel
theorem dX10_image_58 : decode cX10_image 58 = .ok (.aload_n 0, 1) := by decide +kernel
theorem dX10_image_59 : decode cX10_image 59 = .ok (.aload_n 0, 1) := by decide +kernel
theorem dX10_image_60 : decode cX10_image 60 = .ok (.getfield 7, 3) := by decide +kernel
theorem dX10_image_63 : decode cX10_image 63 = .ok (.invokevirtual 473, 3) := by decide +kernel
theorem dX10_image_66 : decode cX10_image 66 = .ok (.putfield 7, 3) := by decide +kernel
theorem dX10_image_69 : decode cX10_image 69 = .ok (.aload_n 0, 1) := by decide +kernel
theorem dX10_image_70 : decode cX10_image 70 = .ok (.aload_n 0, 1) := by decide +kernel
theorem dX10_image_71 : decode cX10_image 71 = .ok (.aload_n 0, 1) := by decide +kernel
theorem dX10_image_72 : decode cX10_image 72 = .ok (.getfield 438, 3) := by decide +kernel
theorem dX10_image_75 : decode cX10_image 75 = .ok (.invokevirtual 473, 3) := by decide +kernel
theorem dX10_image_78 : decode cX10_image 78 = .ok (.putfield 438, 3) := by decide +kernel
theorem dX10_image_81 : decode cX10_image 81 = .ok (.aload_n 0, 1) := by decide +kernel
theorem dX10_image_82 : decode cX10_image 82 = .ok (.aload_n 0, 1) := by decide +kernel
theorem dX10_image_83 : decode cX10_image 83 = .ok (.aload_n 0, 1) := by decide +kernel
theorem dX10_image_84 : decode cX10_image 84 = .ok (.getfield 455, 3) := by decide +kernel
theorem dX10_image_87 : decode cX10_image 87 = .ok (.invokevirtual 473, 3) := by decide +kernel
theorem dX10_image_90 : decode cX10_image 90 = .ok (.putfield 455, 3) := by decide +kernel
theorem dX10_image_93 : decode cX10_image 93 = .ok (.aload_n 0, 1) := by decide +kernel
theorem dX10_image_94 : decode cX10_image 94 = .ok (.aload_n 0, 1) := by decide +kernel
theorem dX10_image_95 : decode cX10_image 95 = .ok (.aload_n 0, 1) := by decide +kernel
theorem dX10_image_96 : decode cX10_image 96 = .ok (.getfield 458, 3) := by decide +kernel
theorem dX10_image_99 : decode cX10_image 99 = .ok (.invokevirtual 473, 3) := by decide +kernel
theorem dX10_image_102 : decode cX10_image 102 = .ok (.putfield 458, 3) := by decide +kernel
theorem dX10_image_105 : decode cX10_image 105 = .ok (.aload_n 0, 1) := by decide +kernel
theorem dX10_image_106 : decode cX10_image 106 = .ok (.invokevirtual 479, 3) := by decide +kernel
theorem dX10_image_109 : decode cX10_image 109 = .ok (.aload_n 0, 1) := by decide +kernel
theorem dX10_image_110 : decode cX10_image 110 = .ok (.invokevirtual 482, 3) := by decide +kernel
theorem dX10_image_113 : decode cX10_image 113 = .ok (.aload_n 0, 1) := by decide +kernel
theorem dX10_image_114 : decode cX10_image 114 = .ok (.invokevirtual 485, 3) := by decide +kernel
theorem dX10_image_117 : decode cX10_image 117 = .ok (.iconst 1, 1) := by decide +kernel
theorem dX10_image_118 : decode cX10_image 118 = .ok (.ireturn, 1) := by decide +kernel
theorem dX10_barsThat_0 : decode cX10_barsThat 0 = .ok (.iconst 0, 1) := by decide +kernel
theorem dX10_barsThat_1 : decode cX10_barsThat 1 = .ok (.istore_n 2, 1) := by decide +kernel
theorem dX10_barsThat_2 : decode cX10_barsThat 2 = .ok (.iconst 0, 1) := by decide +kernel
theorem dX10_barsThat_3 : decode cX10_barsThat 3 = .ok (.istore_n 3, 1) := by decide +kernel
theorem dX10_barsThat_4 : decode cX10_barsThat 4 = .ok (.iload_n 3, 1) := by decide +kernel
theorem dX10_barsThat_5 : decode cX10_barsThat 5 = .ok (.aload_n 0, 1) := by decide +kernel
theorem dX10_barsThat_6 : decode cX10_barsThat 6 = .ok (.getfield 170, 3) := by decide +kernel
theorem dX10_barsThat_9 : decode cX10_barsThat 9 = .ok (.if_icmp .ge 36, 3) := by decide +kernel
theorem dX10_barsThat_12 : decode cX10_barsThat 12 = .ok (.iload_n 1, 1) := by decide +kernel
theorem dX10_barsThat_13 : decode cX10_barsThat 13 = .ok (.ifCond .eq 14, 3) := by decide +kernel
theorem dX10_barsThat_16 : decode cX10_barsThat 16 = .ok (.aload_n 0, 1) := by decide +kernel
theorem dX10_barsThat_17 : decode cX10_barsThat 17 = .ok (.iload_n 3, 1) := by decide +kernel
theorem dX10_barsThat_18 : decode cX10_barsThat 18 = .ok (.invokevirtual 338, 3) := by decide +kernel
theorem dX10_barsThat_21 : decode cX10_barsThat 21 = .ok (.ifCond .eq 18, 3) := by decide +kernel
theorem dX10_barsThat_24 : decode cX10_barsThat 24 = .ok (.goto 11, 3) := by decide +kernel
theorem dX10_barsThat_27 : decode cX10_barsThat 27 = .ok (.aload_n 0, 1) := by decide +kernel
theorem dX10_barsThat_28 : decode cX10_barsThat 28 = .ok (.iload_n 3, 1) := by decide +kernel
theorem dX10_barsThat_29 : decode cX10_barsThat 29 = .ok (.invokevirtual 414, 3) := by decide +kernel
theorem dX10_barsThat_32 : decode cX10_barsThat 32 = .ok (.ifCond .eq 7, 3) := by decide +kernel
theorem dX10_barsThat_35 : decode cX10_barsThat 35 = .ok (.iload_n 2, 1) := by decide +kernel
theorem dX10_barsThat_36 : decode cX10_barsThat 36 = .ok (.iconst 1, 1) := by decide +kernel
theorem dX10_barsThat_37 : decode cX10_barsThat 37 = .ok (.iadd, 1) := by decide +kernel
theorem dX10_barsThat_38 : decode cX10_barsThat 38 = .ok (.istore_n 2, 1) := by decide +kernel
theorem dX10_barsThat_39 : decode cX10_barsThat 39 = .ok (.iinc 3 1, 3) := by decide +kernel
theorem dX10_barsThat_42 : decode cX10_barsThat 42 = .ok (.goto (-38), 3) := by decide +kernel
theorem dX10_barsThat_45 : decode cX10_barsThat 45 = .ok (.iload_n 2, 1) := by decide +kernel
theorem dX10_barsThat_46 : decode cX10_barsThat 46 = .ok (.ireturn, 1) := by decide +kernel
theorem dX10_look_0 : decode cX10_look 0 = .ok (.aload_n 0, 1) := by decide +kernel
theorem dX10_look_1 : decode cX10_look 1 = .ok (.iconst 0, 1) := by decide +kernel
theorem dX10_look_2 : decode cX10_look 2 = .ok (.putfield 167, 3) := by decide +kernel
theorem dX10_look_5 : decode cX10_look 5 = .ok (.iload_n 1, 1) := by decide +kernel
theorem dX10_look_6 : decode cX10_look 6 = .ok (.ifCond .ne 8, 3) := by decide +kernel
theorem dX10_look_9 : decode cX10_look 9 = .ok (.aload_n 0, 1) := by decide +kernel
theorem dX10_look_10 : decode cX10_look 10 = .ok (.getfield 170, 3) := by decide +kernel
theorem dX10_look_13 : decode cX10_look 13 = .ok (.ireturn, 1) := by decide +kernel
theorem dX10_look_14 : decode cX10_look 14 = .ok (.iload_n 1, 1) := by decide +kernel
theorem dX10_look_15 : decode cX10_look 15 = .ok (.iconst 1, 1) := by decide +kernel
theorem dX10_look_16 : decode cX10_look 16 = .ok (.if_icmp .ne 8, 3) := by decide +kernel
theorem dX10_look_19 : decode cX10_look 19 = .ok (.aload_n 0, 1) := by decide +kernel
theorem dX10_look_20 : decode cX10_look 20 = .ok (.getfield 438, 3) := by decide +kernel
theorem dX10_look_23 : decode cX10_look 23 = .ok (.ireturn, 1) := by decide +kernel
theorem dX10_look_24 : decode cX10_look 24 = .ok (.iload_n 1, 1) := by decide +kernel
theorem dX10_look_25 : decode cX10_look 25 = .ok (.iconst 2, 1) := by decide +kernel
theorem dX10_look_26 : decode cX10_look 26 = .ok (.if_icmp .ne 8, 3) := by decide +kernel
theorem dX10_look_29 : decode cX10_look 29 = .ok (.aload_n 0, 1) := by decide +kernel
theorem dX10_look_30 : decode cX10_look 30 = .ok (.getfield 455, 3) := by decide +kernel
theorem dX10_look_33 : decode cX10_look 33 = .ok (.ireturn, 1) := by decide +kernel
theorem dX10_look_34 : decode cX10_look 34 = .ok (.iload_n 1, 1) := by decide +kernel
theorem dX10_look_35 : decode cX10_look 35 = .ok (.iconst 3, 1) := by decide +kernel
theorem dX10_look_36 : decode cX10_look 36 = .ok (.if_icmp .ne 8, 3) := by decide +kernel
theorem dX10_look_39 : decode cX10_look 39 = .ok (.aload_n 0, 1) := by decide +kernel
theorem dX10_look_40 : decode cX10_look 40 = .ok (.getfield 458, 3) := by decide +kernel
theorem dX10_look_43 : decode cX10_look 43 = .ok (.ireturn, 1) := by decide +kernel
theorem dX10_look_44 : decode cX10_look 44 = .ok (.iload_n 1, 1) := by decide +kernel
theorem dX10_look_45 : decode cX10_look 45 = .ok (.iconst 4, 1) := by decide +kernel
theorem dX10_look_46 : decode cX10_look 46 = .ok (.if_icmp .ne 8, 3) := by decide +kernel
theorem dX10_look_49 : decode cX10_look 49 = .ok (.aload_n 0, 1) := by decide +kernel
theorem dX10_look_50 : decode cX10_look 50 = .ok (.getfield 7, 3) := by decide +kernel
theorem dX10_look_53 : decode cX10_look 53 = .ok (.ireturn, 1) := by decide +kernel
theorem dX10_look_54 : decode cX10_look 54 = .ok (.iload_n 1, 1) := by decide +kernel
theorem dX10_look_55 : decode cX10_look 55 = .ok (.iconst 5, 1) := by decide +kernel
theorem dX10_look_56 : decode cX10_look 56 = .ok (.if_icmp .ne 8, 3) := by decide +kernel
theorem dX10_look_59 : decode cX10_look 59 = .ok (.aload_n 0, 1) := by decide +kernel
theorem dX10_look_60 : decode cX10_look 60 = .ok (.getfield 322, 3) := by decide +kernel
theorem dX10_look_63 : decode cX10_look 63 = .ok (.ireturn, 1) := by decide +kernel
theorem dX10_look_64 : decode cX10_look 64 = .ok (.iload_n 1, 1) := by decide +kernel
theorem dX10_look_65 : decode cX10_look 65 = .ok (.bipush 6, 2) := by decide +kernel
theorem dX10_look_67 : decode cX10_look 67 = .ok (.if_icmp .eq 9, 3) := by decide +kernel
theorem dX10_look_70 : decode cX10_look 70 = .ok (.iload_n 1, 1) := by decide +kernel
theorem dX10_look_71 : decode cX10_look 71 = .ok (.bipush 7, 2) := by decide +kernel
theorem dX10_look_73 : decode cX10_look 73 = .ok (.if_icmp .ne 21, 3) := by decide +kernel
theorem dX10_look_76 : decode cX10_look 76 = .ok (.aload_n 0, 1) := by decide +kernel
theorem dX10_look_77 : decode cX10_look 77 = .ok (.iload_n 1, 1) := by decide +kernel
theorem dX10_look_78 : decode cX10_look 78 = .ok (.bipush 6, 2) := by decide +kernel
theorem dX10_look_80 : decode cX10_look 80 = .ok (.if_icmp .ne 7, 3) := by decide +kernel
theorem dX10_look_83 : decode cX10_look 83 = .ok (.iconst 1, 1) := by decide +kernel
theorem dX10_look_84 : decode cX10_look 84 = .ok (.goto 4, 3) := by decide +kernel
theorem dX10_look_87 : decode cX10_look 87 = .ok (.iconst 0, 1) := by decide +kernel
theorem dX10_look_88 : decode cX10_look 88 = .ok (.invokevirtual 488, 3) := by decide +kernel
theorem dX10_look_91 : decode cX10_look 91 = .ok (.goto 4, 3) := by decide +kernel
theorem dX10_look_94 : decode cX10_look 94 = .ok (.iconst (-1), 1) := by decide +kernel
theorem dX10_look_95 : decode cX10_look 95 = .ok (.ireturn, 1) := by decide +kernel
