theorem dX2_clear_8 : decode cX2_clear 8 = .ok (.getfield 9, 3) := by decide +kernel
theorem dX2_clear_11 : decode cX2_clear 11 = .ok (.iconst 0, 1) := by decide +kernel
theorem dX2_clear_12 : decode cX2_clear 12 = .ok (.invokestatic 17, 3) := by decide +kernel
theorem dX2_clear_15 : decode cX2_clear 15 = .ok (.aload_n 0, 1) := by decide +kernel
theorem dX2_clear_16 : decode cX2_clear 16 = .ok (.iconst 0, 1) := by decide +kernel
theorem dX2_clear_17 : decode cX2_clear 17 = .ok (.putfield 13, 3) := by decide +kernel
theorem dX2_clear_20 : decode cX2_clear 20 = .ok (.return_, 1) := by decide +kernel
theorem dX2_add_0 : decode cX2_add 0 = .ok (.iload_n 1, 1) := by decide +kernel
theorem dX2_add_1 : decode cX2_add 1 = .ok (.ldc 23, 2) := by decide +kernel
theorem dX2_add_3 : decode cX2_add 3 = .ok (.imul, 1) := by decide +kernel
theorem dX2_add_4 : decode cX2_add 4 = .ok (.bipush 21, 2) := by decide +kernel
theorem dX2_add_6 : decode cX2_add 6 = .ok (.iushr, 1) := by decide +kernel
theorem dX2_add_7 : decode cX2_add 7 = .ok (.istore_n 2, 1) := by decide +kernel
theorem dX2_add_8 : decode cX2_add 8 = .ok (.iconst 0, 1) := by decide +kernel
theorem dX2_add_9 : decode cX2_add 9 = .ok (.istore_n 3, 1) := by decide +kernel
theorem dX2_add_10 : decode cX2_add 10 = .ok (.iload_n 3, 1) := by decide +kernel
theorem dX2_add_11 : decode cX2_add 11 = .ok (.sipush 2048, 3) := by decide +kernel
theorem dX2_add_14 : decode cX2_add 14 = .ok (.if_icmp .ge 61, 3) := by decide +kernel
theorem dX2_add_17 : decode cX2_add 17 = .ok (.aload_n 0, 1) := by decide +kernel
theorem dX2_add_18 : decode cX2_add 18 = .ok (.getfield 9, 3) := by decide +kernel
theorem dX2_add_21 : decode cX2_add 21 = .ok (.iload_n 2, 1) := by decide +kernel
theorem dX2_add_22 : decode cX2_add 22 = .ok (.iaload, 1) := by decide +kernel
theorem dX2_add_23 : decode cX2_add 23 = .ok (.iload_n 1, 1) := by decide +kernel
theorem dX2_add_24 : decode cX2_add 24 = .ok (.iconst 1, 1) := by decide +kernel
theorem dX2_add_25 : decode cX2_add 25 = .ok (.iadd, 1) := by decide +kernel
theorem dX2_add_26 : decode cX2_add 26 = .ok (.if_icmp .ne 5, 3) := by decide +kernel
theorem dX2_add_29 : decode cX2_add 29 = .ok (.iconst 0, 1) := by decide +kernel
theorem dX2_add_30 : decode cX2_add 30 = .ok (.ireturn, 1) := by decide +kernel
theorem dX2_add_31 : decode cX2_add 31 = .ok (.aload_n 0, 1) := by decide +kernel
theorem dX2_add_32 : decode cX2_add 32 = .ok (.getfield 9, 3) := by decide +kernel
theorem dX2_add_35 : decode cX2_add 35 = .ok (.iload_n 2, 1) := by decide +kernel
theorem dX2_add_36 : decode cX2_add 36 = .ok (.iaload, 1) := by decide +kernel
theorem dX2_add_37 : decode cX2_add 37 = .ok (.ifCond .ne 24, 3) := by decide +kernel
theorem dX2_add_40 : decode cX2_add 40 = .ok (.aload_n 0, 1) := by decide +kernel
theorem dX2_add_41 : decode cX2_add 41 = .ok (.getfield 9, 3) := by decide +kernel
theorem dX2_add_44 : decode cX2_add 44 = .ok (.iload_n 2, 1) := by decide +kernel
theorem dX2_add_45 : decode cX2_add 45 = .ok (.iload_n 1, 1) := by decide +kernel
theorem dX2_add_46 : decode cX2_add 46 = .ok (.iconst 1, 1) := by decide +kernel
theorem dX2_add_47 : decode cX2_add 47 = .ok (.iadd, 1) := by decide +kernel
theorem dX2_add_48 : decode cX2_add 48 = .ok (.iastore, 1) := by decide +kernel
theorem dX2_add_49 : decode cX2_add 49 = .ok (.aload_n 0, 1) := by decide +kernel
theorem dX2_add_50 : decode cX2_add 50 = .ok (.dup, 1) := by decide +kernel
theorem dX2_add_51 : decode cX2_add 51 = .ok (.getfield 13, 3) := by decide +kernel
theorem dX2_add_54 : decode cX2_add 54 = .ok (.iconst 1, 1) := by decide +kernel
theorem dX2_add_55 : decode cX2_add 55 = .ok (.iadd, 1) := by decide +kernel
theorem dX2_add_56 : decode cX2_add 56 = .ok (.putfield 13, 3) := by decide +kernel
theorem dX2_add_59 : decode cX2_add 59 = .ok (.iconst 1, 1) := by decide +kernel
theorem dX2_add_60 : decode cX2_add 60 = .ok (.ireturn, 1) := by decide +kernel
theorem dX2_add_61 : decode cX2_add 61 = .ok (.iload_n 2, 1) := by decide +kernel
theorem dX2_add_62 : decode cX2_add 62 = .ok (.iconst 1, 1) := by decide +kernel
theorem dX2_add_63 : decode cX2_add 63 = .ok (.iadd, 1) := by decide +kernel
theorem dX2_add_64 : decode cX2_add 64 = .ok (.sipush 2048, 3) := by decide +kernel
theorem dX2_add_67 : decode cX2_add 67 = .ok (.irem, 1) := by decide +kernel
theorem dX2_add_68 : decode cX2_add 68 = .ok (.istore_n 2, 1) := by decide +kernel
theorem dX2_add_69 : decode cX2_add 69 = .ok (.iinc 3 1, 3) := by decide +kernel
theorem dX2_add_72 : decode cX2_add 72 = .ok (.goto (-62), 3) := by decide +kernel
theorem dX2_add_75 : decode cX2_add 75 = .ok (.iconst 0, 1) := by decide +kernel
theorem dX2_add_76 : decode cX2_add 76 = .ok (.ireturn, 1) := by decide +kernel
theorem dX3_init_0 : decode cX3_init 0 = .ok (.aload_n 0, 1) := by decide +kernel
theorem dX3_init_1 : decode cX3_init 1 = .ok (.invokespecial 5, 3) := by decide +kernel
theorem dX3_init_4 : decode cX3_init 4 = .ok (.aload_n 0, 1) := by decide +kernel
theorem dX3_init_5 : decode cX3_init 5 = .ok (.iconst 5, 1) := by decide +kernel
theorem dX3_init_6 : decode cX3_init 6 = .ok (.newarray .int, 2) := by decide +kernel
theorem dX3_init_8 : decode cX3_init 8 = .ok (.putfield 11, 3) := by decide +kernel
theorem dX3_init_11 : decode cX3_init 11 = .ok (.aload_n 0, 1) := by decide +kernel
theorem dX3_init_12 : decode cX3_init 12 = .ok (.sipush 144, 3) := by decide +kernel
theorem dX3_init_15 : decode cX3_init 15 = .ok (.newarray .int, 2) := by decide +kernel
theorem dX3_init_17 : decode cX3_init 17 = .ok (.putfield 15, 3) := by decide +kernel
theorem dX3_init_20 : decode cX3_init 20 = .ok (.aload_n 0, 1) := by decide +kernel
theorem dX3_init_21 : decode cX3_init 21 = .ok (.sipush 144, 3) := by decide +kernel
theorem dX3_init_24 : decode cX3_init 24 = .ok (.newarray .int, 2) := by decide +kernel
theorem dX3_init_26 : decode cX3_init 26 = .ok (.putfield 18, 3) := by decide +kernel
theorem dX3_init_29 : decode cX3_init 29 = .ok (.aload_n 0, 1) := by decide +kernel
theorem dX3_init_30 : decode cX3_init 30 = .ok (.iconst 3, 1) := by decide +kernel
theorem dX3_init_31 : decode cX3_init 31 = .ok (.newarray .int, 2) := by decide +kernel
theorem dX3_init_33 : decode cX3_init 33 = .ok (.putfield 21, 3) := by decide +kernel
theorem dX3_init_36 : decode cX3_init 36 = .ok (.aload_n 0, 1) := by decide +kernel
theorem dX3_init_37 : decode cX3_init 37 = .ok (.iconst 3, 1) := by decide +kernel
theorem dX3_init_38 : decode cX3_init 38 = .ok (.newarray .int, 2) := by decide +kernel
theorem dX3_init_40 : decode cX3_init 40 = .ok (.putfield 24, 3) := by decide +kernel
theorem dX3_init_43 : decode cX3_init 43 = .ok (.aload_n 0, 1) := by decide +kernel
theorem dX3_init_44 : decode cX3_init 44 = .ok (.iconst 3, 1) := by decide +kernel
theorem dX3_init_45 : decode cX3_init 45 = .ok (.newarray .int, 2) := by decide +kernel
theorem dX3_init_47 : decode cX3_init 47 = .ok (.putfield 27, 3) := by decide +kernel
theorem dX3_init_50 : decode cX3_init 50 = .ok (.aload_n 0, 1) := by decide +kernel
theorem dX3_init_51 : decode cX3_init 51 = .ok (.bipush 8, 2) := by decide +kernel
theorem dX3_init_53 : decode cX3_init 53 = .ok (.newarray .int, 2) := by decide +kernel
theorem dX3_init_55 : decode cX3_init 55 = .ok (.putfield 30, 3) := by decide +kernel
theorem dX3_init_58 : decode cX3_init 58 = .ok (.aload_n 0, 1) := by decide +kernel
theorem dX3_init_59 : decode cX3_init 59 = .ok (.bipush 8, 2) := by decide +kernel
theorem dX3_init_61 : decode cX3_init 61 = .ok (.newarray .int, 2) := by decide +kernel
theorem dX3_init_63 : decode cX3_init 63 = .ok (.putfield 33, 3) := by decide +kernel
theorem dX3_init_66 : decode cX3_init 66 = .ok (.aload_n 0, 1) := by decide +kernel
theorem dX3_init_67 : decode cX3_init 67 = .ok (.new 36, 3) := by decide +kernel
theorem dX3_init_70 : decode cX3_init 70 = .ok (.dup, 1) := by decide +kernel
theorem dX3_init_71 : decode cX3_init 71 = .ok (.invokespecial 38, 3) := by decide +kernel
theorem dX3_init_74 : decode cX3_init 74 = .ok (.putfield 39, 3) := by decide +kernel
theorem dX3_init_77 : decode cX3_init 77 = .ok (.return_, 1) := by decide +kernel
theorem dX3_prepare_0 : decode cX3_prepare 0 = .ok (.aload_n 0, 1) := by decide +kernel
theorem dX3_prepare_1 : decode cX3_prepare 1 = .ok (.aload_n 3, 1) := by decide +kernel
theorem dX3_prepare_2 : decode cX3_prepare 2 = .ok (.getfield 43, 3) := by decide +kernel
theorem dX3_prepare_5 : decode cX3_prepare 5 = .ok (.bipush 8, 2) := by decide +kernel
theorem dX3_prepare_7 : decode cX3_prepare 7 = .ok (.invokestatic 49, 3) := by decide +kernel
theorem dX3_prepare_10 : decode cX3_prepare 10 = .ok (.putfield 55, 3) := by decide +kernel
theorem dX3_prepare_13 : decode cX3_prepare 13 = .ok (.aload_n 0, 1) := by decide +kernel
theorem dX3_prepare_14 : decode cX3_prepare 14 = .ok (.iload 4, 2) := by decide +kernel
theorem dX3_prepare_16 : decode cX3_prepare 16 = .ok (.putfield 56, 3) := by decide +kernel
theorem dX3_prepare_19 : decode cX3_prepare 19 = .ok (.aload_n 0, 1) := by decide +kernel
theorem dX3_prepare_20 : decode cX3_prepare 20 = .ok (.iconst 0, 1) := by decide +kernel
theorem dX3_prepare_21 : decode cX3_prepare 21 = .ok (.putfield 59, 3) := by decide +kernel
theorem dX3_prepare_24 : decode cX3_prepare 24 = .ok (.iconst 0, 1) := by decide +kernel
theorem dX3_prepare_25 : decode cX3_prepare 25 = .ok (.istore 5, 2) := by decide +kernel
theorem dX3_prepare_27 : decode cX3_prepare 27 = .ok (.iload 5, 2) := by decide +kernel
theorem dX3_prepare_29 : decode cX3_prepare 29 = .ok (.iconst 3, 1) := by decide +kernel
theorem dX3_prepare_30 : decode cX3_prepare 30 = .ok (.if_icmp .ge 39, 3) := by decide +kernel
theorem dX3_prepare_33 : decode cX3_prepare 33 = .ok (.aload_n 0, 1) := by decide +kernel
theorem dX3_prepare_34 : decode cX3_prepare 34 = .ok (.getfield 27, 3) := by decide +kernel
theorem dX3_prepare_37 : decode cX3_prepare 37 = .ok (.iload 5, 2) := by decide +kernel
theorem dX3_prepare_39 : decode cX3_prepare 39 = .ok (.aload_n 3, 1) := by decide +kernel
theorem dX3_prepare_40 : decode cX3_prepare 40 = .ok (.getfield 62, 3) := by decide +kernel
theorem dX3_prepare_43 : decode cX3_prepare 43 = .ok (.iload 5, 2) := by decide +kernel
theorem dX3_prepare_45 : decode cX3_prepare 45 = .ok (.iaload, 1) := by decide +kernel
theorem dX3_prepare_46 : decode cX3_prepare 46 = .ok (.iastore, 1) := by decide +kernel
theorem dX3_prepare_47 : decode cX3_prepare 47 = .ok (.aload_n 0, 1) := by decide +kernel
theorem dX3_prepare_48 : decode cX3_prepare 48 = .ok (.getfield 21, 3) := by decide +kernel
theorem dX3_prepare_51 : decode cX3_prepare 51 = .ok (.iload 5, 2) := by decide +kernel
theorem dX3_prepare_53 : decode cX3_prepare 53 = .ok (.iconst 0, 1) := by decide +kernel
theorem dX3_prepare_54 : decode cX3_prepare 54 = .ok (.iastore, 1) := by decide +kernel
theorem dX3_prepare_55 : decode cX3_prepare 55 = .ok (.aload_n 0, 1) := by decide +kernel
theorem dX3_prepare_56 : decode cX3_prepare 56 = .ok (.getfield 24, 3) := by decide +kernel
theorem dX3_prepare_59 : decode cX3_prepare 59 = .ok (.iload 5, 2) := by decide +kernel
theorem dX3_prepare_61 : decode cX3_prepare 61 = .ok (.iconst 0, 1) := by decide +kernel
theorem dX3_prepare_62 : decode cX3_prepare 62 = .ok (.iastore, 1) := by decide +kernel
theorem dX3_prepare_63 : decode cX3_prepare 63 = .ok (.iinc 5 1, 3) := by decide +kernel
theorem dX3_prepare_66 : decode cX3_prepare 66 = .ok (.goto (-39), 3) := by decide +kernel
theorem dX3_prepare_69 : decode cX3_prepare 69 = .ok (.iconst 0, 1) := by decide +kernel
theorem dX3_prepare_70 : decode cX3_prepare 70 = .ok (.istore 5, 2) := by decide +kernel
theorem dX3_prepare_72 : decode cX3_prepare 72 = .ok (.iload 5, 2) := by decide +kernel
theorem dX3_prepare_74 : decode cX3_prepare 74 = .ok (.aload_n 0, 1) := by decide +kernel
theorem dX3_prepare_75 : decode cX3_prepare 75 = .ok (.getfield 55, 3) := by decide +kernel
theorem dX3_prepare_78 : decode cX3_prepare 78 = .ok (.if_icmp .ge 170, 3) := by decide +kernel
theorem dX3_prepare_81 : decode cX3_prepare 81 = .ok (.aload_n 0, 1) := by decide +kernel
theorem dX3_prepare_82 : decode cX3_prepare 82 = .ok (.getfield 30, 3) := by decide +kernel
theorem dX3_prepare_85 : decode cX3_prepare 85 = .ok (.iload 5, 2) := by decide +kernel
theorem dX3_prepare_87 : decode cX3_prepare 87 = .ok (.iconst 0, 1) := by decide +kernel
theorem dX3_prepare_88 : decode cX3_prepare 88 = .ok (.iastore, 1) := by decide +kernel
theorem dX3_prepare_89 : decode cX3_prepare 89 = .ok (.aload_n 0, 1) := by decide +kernel
theorem dX3_prepare_90 : decode cX3_prepare 90 = .ok (.getfield 33, 3) := by decide +kernel
theorem dX3_prepare_93 : decode cX3_prepare 93 = .ok (.iload 5, 2) := by decide +kernel
theorem dX3_prepare_95 : decode cX3_prepare 95 = .ok (.iconst 5, 1) := by decide +kernel
theorem dX3_prepare_96 : decode cX3_prepare 96 = .ok (.aload_n 3, 1) := by decide +kernel
theorem dX3_prepare_97 : decode cX3_prepare 97 = .ok (.getfield 63, 3) := by decide +kernel
theorem dX3_prepare_100 : decode cX3_prepare 100 = .ok (.iload 5, 2) := by decide +kernel
theorem dX3_prepare_102 : decode cX3_prepare 102 = .ok (.iaload, 1) := by decide +kernel
theorem dX3_prepare_103 : decode cX3_prepare 103 = .ok (.iconst 1, 1) := by decide +kernel
theorem dX3_prepare_104 : decode cX3_prepare 104 = .ok (.isub, 1) := by decide +kernel
theorem dX3_prepare_105 : decode cX3_prepare 105 = .ok (.invokestatic 49, 3) := by decide +kernel
theorem dX3_prepare_108 : decode cX3_prepare 108 = .ok (.iastore, 1) := by decide +kernel
theorem dX3_prepare_109 : decode cX3_prepare 109 = .ok (.iconst 0, 1) := by decide +kernel
theorem dX3_prepare_110 : decode cX3_prepare 110 = .ok (.istore 6, 2) := by decide +kernel
theorem dX3_prepare_112 : decode cX3_prepare 112 = .ok (.iload 6, 2) := by decide +kernel
theorem dX3_prepare_114 : decode cX3_prepare 114 = .ok (.aload_n 0, 1) := by decide +kernel
theorem dX3_prepare_115 : decode cX3_prepare 115 = .ok (.getfield 33, 3) := by decide +kernel
theorem dX3_prepare_118 : decode cX3_prepare 118 = .ok (.iload 5, 2) := by decide +kernel
theorem dX3_prepare_120 : decode cX3_prepare 120 = .ok (.iaload, 1) := by decide +kernel
theorem dX3_prepare_121 : decode cX3_prepare 121 = .ok (.if_icmp .gt 50, 3) := by decide +kernel
theorem dX3_prepare_124 : decode cX3_prepare 124 = .ok (.aload_n 1, 1) := by decide +kernel
theorem dX3_prepare_125 : decode cX3_prepare 125 = .ok (.aload_n 3, 1) := by decide +kernel
theorem dX3_prepare_126 : decode cX3_prepare 126 = .ok (.iload 5, 2) := by decide +kernel
theorem dX3_prepare_128 : decode cX3_prepare 128 = .ok (.aload_n 3, 1) := by decide +kernel
theorem dX3_prepare_129 : decode cX3_prepare 129 = .ok (.getfield 63, 3) := by decide +kernel
theorem dX3_prepare_132 : decode cX3_prepare 132 = .ok (.iload 5, 2) := by decide +kernel
theorem dX3_prepare_134 : decode cX3_prepare 134 = .ok (.iaload, 1) := by decide +kernel
theorem dX3_prepare_135 : decode cX3_prepare 135 = .ok (.iload 6, 2) := by decide +kernel
theorem dX3_prepare_137 : decode cX3_prepare 137 = .ok (.isub, 1) := by decide +kernel
theorem dX3_prepare_138 : decode cX3_prepare 138 = .ok (.aload_n 3, 1) := by decide +kernel
theorem dX3_prepare_139 : decode cX3_prepare 139 = .ok (.getfield 66, 3) := by decide +kernel
theorem dX3_prepare_142 : decode cX3_prepare 142 = .ok (.iload 5, 2) := by decide +kernel
theorem dX3_prepare_144 : decode cX3_prepare 144 = .ok (.iaload, 1) := by decide +kernel
theorem dX3_prepare_145 : decode cX3_prepare 145 = .ok (.aload_n 3, 1) := by decide +kernel
theorem dX3_prepare_146 : decode cX3_prepare 146 = .ok (.getfield 69, 3) := by decide +kernel
theorem dX3_prepare_149 : decode cX3_prepare 149 = .ok (.iload 5, 2) := by decide +kernel
theorem dX3_prepare_151 : decode cX3_prepare 151 = .ok (.iaload, 1) := by decide +kernel
theorem dX3_prepare_152 : decode cX3_prepare 152 = .ok (.invokevirtual 72, 3) := by decide +kernel
theorem dX3_prepare_155 : decode cX3_prepare 155 = .ok (.aload_n 0, 1) := by decide +kernel
theorem dX3_prepare_156 : decode cX3_prepare 156 = .ok (.aload_n 1, 1) := by decide +kernel
theorem dX3_prepare_157 : decode cX3_prepare 157 = .ok (.aload_n 2, 1) := by decide +kernel
theorem dX3_prepare_158 : decode cX3_prepare 158 = .ok (.iload 5, 2) := by decide +kernel
theorem dX3_prepare_160 : decode cX3_prepare 160 = .ok (.iload 6, 2) := by decide +kernel
theorem dX3_prepare_162 : decode cX3_prepare 162 = .ok (.invokevirtual 78, 3) := by decide +kernel
theorem dX3_prepare_165 : decode cX3_prepare 165 = .ok (.iinc 6 1, 3) := by decide +kernel
theorem dX3_prepare_168 : decode cX3_prepare 168 = .ok (.goto (-56), 3) := by decide +kernel
theorem dX3_prepare_171 : decode cX3_prepare 171 = .ok (.iconst 0, 1) := by decide +kernel
theorem dX3_prepare_172 : decode cX3_prepare 172 = .ok (.istore 6, 2) := by decide +kernel
theorem dX3_prepare_174 : decode cX3_prepare 174 = .ok (.iload 6, 2) := by decide +kernel
theorem dX3_prepare_176 : decode cX3_prepare 176 = .ok (.iconst 3, 1) := by decide +kernel
theorem dX3_prepare_177 : decode cX3_prepare 177 = .ok (.if_icmp .ge 65, 3) := by decide +kernel
theorem dX3_prepare_180 : decode cX3_prepare 180 = .ok (.aload_n 0, 1) := by decide +kernel
theorem dX3_prepare_181 : decode cX3_prepare 181 = .ok (.getfield 27, 3) := by decide +kernel
theorem dX3_prepare_184 : decode cX3_prepare 184 = .ok (.iload 6, 2) := by decide +kernel
theorem dX3_prepare_186 : decode cX3_prepare 186 = .ok (.iaload, 1) := by decide +kernel
theorem dX3_prepare_187 : decode cX3_prepare 187 = .ok (.ifCond .eq 49, 3) := by decide +kernel
theorem dX3_prepare_190 : decode cX3_prepare 190 = .ok (.aload_n 0, 1) := by decide +kernel
theorem dX3_prepare_191 : decode cX3_prepare 191 = .ok (.getfield 21, 3) := by decide +kernel
theorem dX3_prepare_194 : decode cX3_prepare 194 = .ok (.iload 6, 2) := by decide +kernel
theorem dX3_prepare_196 : decode cX3_prepare 196 = .ok (.dup2, 1) := by decide +kernel
theorem dX3_prepare_197 : decode cX3_prepare 197 = .ok (.iaload, 1) := by decide +kernel
theorem dX3_prepare_198 : decode cX3_prepare 198 = .ok (.aload_n 0, 1) := by decide +kernel
theorem dX3_prepare_199 : decode cX3_prepare 199 = .ok (.getfield 15, 3) := by decide +kernel
theorem dX3_prepare_202 : decode cX3_prepare 202 = .ok (.iload 6, 2) := by decide +kernel
theorem dX3_prepare_204 : decode cX3_prepare 204 = .ok (.iload 5, 2) := by decide +kernel
theorem dX3_prepare_206 : decode cX3_prepare 206 = .ok (.iconst 0, 1) := by decide +kernel
theorem dX3_prepare_207 : decode cX3_prepare 207 = .ok (.invokestatic 82, 3) := by decide +kernel
theorem dX3_prepare_210 : decode cX3_prepare 210 = .ok (.iaload, 1) := by decide +kernel
theorem dX3_prepare_211 : decode cX3_prepare 211 = .ok (.iadd, 1) := by decide +kernel
theorem dX3_prepare_212 : decode cX3_prepare 212 = .ok (.iastore, 1) := by decide +kernel
theorem dX3_prepare_213 : decode cX3_prepare 213 = .ok (.aload_n 0, 1) := by decide +kernel
theorem dX3_prepare_214 : decode cX3_prepare 214 = .ok (.getfield 24, 3) := by decide +kernel
theorem dX3_prepare_217 : decode cX3_prepare 217 = .ok (.iload 6, 2) := by decide +kernel
theorem dX3_prepare_219 : decode cX3_prepare 219 = .ok (.dup2, 1) := by decide +kernel
theorem dX3_prepare_220 : decode cX3_prepare 220 = .ok (.iaload, 1) := by decide +kernel
theorem dX3_prepare_221 : decode cX3_prepare 221 = .ok (.aload_n 0, 1) := by decide +kernel
theorem dX3_prepare_222 : decode cX3_prepare 222 = .ok (.getfield 18, 3) := by decide +kernel
theorem dX3_prepare_225 : decode cX3_prepare 225 = .ok (.iload 6, 2) := by decide +kernel
theorem dX3_prepare_227 : decode cX3_prepare 227 = .ok (.iload 5, 2) := by decide +kernel
theorem dX3_prepare_229 : decode cX3_prepare 229 = .ok (.iconst 0, 1) := by decide +kernel
theorem dX3_prepare_230 : decode cX3_prepare 230 = .ok (.invokestatic 82, 3) := by decide +kernel
theorem dX3_prepare_233 : decode cX3_prepare 233 = .ok (.iaload, 1) := by decide +kernel
theorem dX3_prepare_234 : decode cX3_prepare 234 = .ok (.iadd, 1) := by decide +kernel
theorem dX3_prepare_235 : decode cX3_prepare 235 = .ok (.iastore, 1) := by decide +kernel
theorem dX3_prepare_236 : decode cX3_prepare 236 = .ok (.iinc 6 1, 3) := by decide +kernel
theorem dX3_prepare_239 : decode cX3_prepare 239 = .ok (.goto (-65), 3) := by decide +kernel
theorem dX3_prepare_242 : decode cX3_prepare 242 = .ok (.iinc 5 1, 3) := by decide +kernel
theorem dX3_prepare_245 : decode cX3_prepare 245 = .ok (.goto (-173), 3) := by decide +kernel
theorem dX3_prepare_248 : decode cX3_prepare 248 = .ok (.return_, 1) := by decide +kernel
theorem dX3_fill_0 : decode cX3_fill 0 = .ok (.iconst 0, 1) := by decide +kernel
theorem dX3_fill_1 : decode cX3_fill 1 = .ok (.istore 5, 2) := by decide +kernel
theorem dX3_fill_3 : decode cX3_fill 3 = .ok (.iload 5, 2) := by decide +kernel
theorem dX3_fill_5 : decode cX3_fill 5 = .ok (.iconst 3, 1) := by decide +kernel
theorem dX3_fill_6 : decode cX3_fill 6 = .ok (.if_icmp .ge 61, 3) := by decide +kernel
theorem dX3_fill_9 : decode cX3_fill 9 = .ok (.aload_n 0, 1) := by decide +kernel
theorem dX3_fill_10 : decode cX3_fill 10 = .ok (.getfield 27, 3) := by decide +kernel
theorem dX3_fill_13 : decode cX3_fill 13 = .ok (.iload 5, 2) := by decide +kernel
theorem dX3_fill_15 : decode cX3_fill 15 = .ok (.iaload, 1) := by decide +kernel
theorem dX3_fill_16 : decode cX3_fill 16 = .ok (.ifCond .eq 45, 3) := by decide +kernel
theorem dX3_fill_19 : decode cX3_fill 19 = .ok (.aload_n 0, 1) := by decide +kernel
theorem dX3_fill_20 : decode cX3_fill 20 = .ok (.getfield 15, 3) := by decide +kernel
theorem dX3_fill_23 : decode cX3_fill 23 = .ok (.iload 5, 2) := by decide +kernel
theorem dX3_fill_25 : decode cX3_fill 25 = .ok (.iload_n 3, 1) := by decide +kernel
theorem dX3_fill_26 : decode cX3_fill 26 = .ok (.iload 4, 2) := by decide +kernel
theorem dX3_fill_28 : decode cX3_fill 28 = .ok (.invokestatic 82, 3) := by decide +kernel
theorem dX3_fill_31 : decode cX3_fill 31 = .ok (.aload_n 1, 1) := by decide +kernel
theorem dX3_fill_32 : decode cX3_fill 32 = .ok (.aload_n 2, 1) := by decide +kernel
theorem dX3_fill_33 : decode cX3_fill 33 = .ok (.iconst 0, 1) := by decide +kernel
theorem dX3_fill_34 : decode cX3_fill 34 = .ok (.iload 5, 2) := by decide +kernel
theorem dX3_fill_36 : decode cX3_fill 36 = .ok (.invokevirtual 86, 3) := by decide +kernel
theorem dX3_fill_39 : decode cX3_fill 39 = .ok (.iastore, 1) := by decide +kernel
theorem dX3_fill_40 : decode cX3_fill 40 = .ok (.aload_n 0, 1) := by decide +kernel
theorem dX3_fill_41 : decode cX3_fill 41 = .ok (.getfield 18, 3) := by decide +kernel
theorem dX3_fill_44 : decode cX3_fill 44 = .ok (.iload 5, 2) := by decide +kernel
theorem dX3_fill_46 : decode cX3_fill 46 = .ok (.iload_n 3, 1) := by decide +kernel
theorem dX3_fill_47 : decode cX3_fill 47 = .ok (.iload 4, 2) := by decide +kernel
theorem dX3_fill_49 : decode cX3_fill 49 = .ok (.invokestatic 82, 3) := by decide +kernel
theorem dX3_fill_52 : decode cX3_fill 52 = .ok (.aload_n 1, 1) := by decide +kernel
theorem dX3_fill_53 : decode cX3_fill 53 = .ok (.aload_n 2, 1) := by decide +kernel
theorem dX3_fill_54 : decode cX3_fill 54 = .ok (.iconst 1, 1) := by decide +kernel
theorem dX3_fill_55 : decode cX3_fill 55 = .ok (.iload 5, 2) := by decide +kernel
theorem dX3_fill_57 : decode cX3_fill 57 = .ok (.invokevirtual 86, 3) := by decide +kernel
theorem dX3_fill_60 : decode cX3_fill 60 = .ok (.iastore, 1) := by decide +kernel
theorem dX3_fill_61 : decode cX3_fill 61 = .ok (.iinc 5 1, 3) := by decide +kernel
theorem dX3_fill_64 : decode cX3_fill 64 = .ok (.goto (-61), 3) := by decide +kernel
theorem dX3_fill_67 : decode cX3_fill 67 = .ok (.return_, 1) := by decide +kernel
theorem dX3_place_0 : decode cX3_place 0 = .ok (.iload_n 0, 1) := by decide +kernel
theorem dX3_place_1 : decode cX3_place 1 = .ok (.bipush 8, 2) := by decide +kernel
theorem dX3_place_3 : decode cX3_place 3 = .ok (.imul, 1) := by decide +kernel
theorem dX3_place_4 : decode cX3_place 4 = .ok (.iload_n 1, 1) := by decide +kernel
theorem dX3_place_5 : decode cX3_place 5 = .ok (.iadd, 1) := by decide +kernel
theorem dX3_place_6 : decode cX3_place 6 = .ok (.bipush 6, 2) := by decide +kernel
theorem dX3_place_8 : decode cX3_place 8 = .ok (.imul, 1) := by decide +kernel
theorem dX3_place_9 : decode cX3_place 9 = .ok (.iload_n 2, 1) := by decide +kernel
theorem dX3_place_10 : decode cX3_place 10 = .ok (.iadd, 1) := by decide +kernel
theorem dX3_place_11 : decode cX3_place 11 = .ok (.ireturn, 1) := by decide +kernel
theorem dX3_find_0 : decode cX3_find 0 = .ok (.aload_n 0, 1) := by decide +kernel
theorem dX3_find_1 : decode cX3_find 1 = .ok (.invokevirtual 90, 3) := by decide +kernel
theorem dX3_find_4 : decode cX3_find 4 = .ok (.ifCond .eq 5, 3) := by decide +kernel
theorem dX3_find_7 : decode cX3_find 7 = .ok (.iconst 0, 1) := by decide +kernel
theorem dX3_find_8 : decode cX3_find 8 = .ok (.ireturn, 1) := by decide +kernel
theorem dX3_find_9 : decode cX3_find 9 = .ok (.iconst 1, 1) := by decide +kernel
theorem dX3_find_10 : decode cX3_find 10 = .ok (.istore_n 1, 1) := by decide +kernel
theorem dX3_find_11 : decode cX3_find 11 = .ok (.iload_n 1, 1) := by decide +kernel
theorem dX3_find_12 : decode cX3_find 12 = .ok (.iconst 5, 1) := by decide +kernel
theorem dX3_find_13 : decode cX3_find 13 = .ok (.if_icmp .gt 27, 3) := by decide +kernel
theorem dX3_find_16 : decode cX3_find 16 = .ok (.aload_n 0, 1) := by decide +kernel
theorem dX3_find_17 : decode cX3_find 17 = .ok (.getfield 39, 3) := by decide +kernel
theorem dX3_find_20 : decode cX3_find 20 = .ok (.invokevirtual 94, 3) := by decide +kernel
theorem dX3_find_23 : decode cX3_find 23 = .ok (.aload_n 0, 1) := by decide +kernel
theorem dX3_find_24 : decode cX3_find 24 = .ok (.iconst 0, 1) := by decide +kernel
theorem dX3_find_25 : decode cX3_find 25 = .ok (.iload_n 1, 1) := by decide +kernel
theorem dX3_find_26 : decode cX3_find 26 = .ok (.invokevirtual 97, 3) := by decide +kernel
theorem dX3_find_29 : decode cX3_find 29 = .ok (.ifCond .eq 5, 3) := by decide +kernel
theorem dX3_find_32 : decode cX3_find 32 = .ok (.iload_n 1, 1) := by decide +kernel
theorem dX3_find_33 : decode cX3_find 33 = .ok (.ireturn, 1) := by decide +kernel
theorem dX3_find_34 : decode cX3_find 34 = .ok (.iinc 1 1, 3) := by decide +kernel
theorem dX3_find_37 : decode cX3_find 37 = .ok (.goto (-26), 3) := by decide +kernel
theorem dX3_find_40 : decode cX3_find 40 = .ok (.iconst (-1), 1) := by decide +kernel
theorem dX3_find_41 : decode cX3_find 41 = .ok (.ireturn, 1) := by decide +kernel
theorem dX3_goOn_0 : decode cX3_goOn 0 = .ok (.iload_n 1, 1) := by decide +kernel
theorem dX3_goOn_1 : decode cX3_goOn 1 = .ok (.iload_n 2, 1) := by decide +kernel
theorem dX3_goOn_2 : decode cX3_goOn 2 = .ok (.if_icmp .ge 8, 3) := by decide +kernel
theorem dX3_goOn_5 : decode cX3_goOn 5 = .ok (.iload_n 1, 1) := by decide +kernel
theorem dX3_goOn_6 : decode cX3_goOn 6 = .ok (.iconst 5, 1) := by decide +kernel
theorem dX3_goOn_7 : decode cX3_goOn 7 = .ok (.if_icmp .lt 5, 3) := by decide +kernel
theorem dX3_goOn_10 : decode cX3_goOn 10 = .ok (.iconst 0, 1) := by decide +kernel
theorem dX3_goOn_11 : decode cX3_goOn 11 = .ok (.ireturn, 1) := by decide +kernel
theorem dX3_goOn_12 : decode cX3_goOn 12 = .ok (.iload_n 1, 1) := by decide +kernel
theorem dX3_goOn_13 : decode cX3_goOn 13 = .ok (.iconst 1, 1) := by decide +kernel
theorem dX3_goOn_14 : decode cX3_goOn 14 = .ok (.iadd, 1) := by decide +kernel
theorem dX3_goOn_15 : decode cX3_goOn 15 = .ok (.iload_n 2, 1) := by decide +kernel
theorem dX3_goOn_16 : decode cX3_goOn 16 = .ok (.if_icmp .ne 7, 3) := by decide +kernel
theorem dX3_goOn_19 : decode cX3_goOn 19 = .ok (.iconst 1, 1) := by decide +kernel
theorem dX3_goOn_20 : decode cX3_goOn 20 = .ok (.goto 4, 3) := by decide +kernel
theorem dX3_goOn_23 : decode cX3_goOn 23 = .ok (.iconst 0, 1) := by decide +kernel
theorem dX3_goOn_24 : decode cX3_goOn 24 = .ok (.istore_n 3, 1) := by decide +kernel
theorem dX3_goOn_25 : decode cX3_goOn 25 = .ok (.iconst 0, 1) := by decide +kernel
theorem dX3_goOn_26 : decode cX3_goOn 26 = .ok (.istore 4, 2) := by decide +kernel
theorem dX3_goOn_28 : decode cX3_goOn 28 = .ok (.iload 4, 2) := by decide +kernel
theorem dX3_goOn_30 : decode cX3_goOn 30 = .ok (.aload_n 0, 1) := by decide +kernel
theorem dX3_goOn_31 : decode cX3_goOn 31 = .ok (.getfield 55, 3) := by decide +kernel
theorem dX3_goOn_34 : decode cX3_goOn 34 = .ok (.if_icmp .ge 61, 3) := by decide +kernel
theorem dX3_goOn_37 : decode cX3_goOn 37 = .ok (.aload_n 0, 1) := by decide +kernel
theorem dX3_goOn_38 : decode cX3_goOn 38 = .ok (.getfield 30, 3) := by decide +kernel
theorem dX3_goOn_41 : decode cX3_goOn 41 = .ok (.iload 4, 2) := by decide +kernel
theorem dX3_goOn_43 : decode cX3_goOn 43 = .ok (.iaload, 1) := by decide +kernel
theorem dX3_goOn_44 : decode cX3_goOn 44 = .ok (.aload_n 0, 1) := by decide +kernel
theorem dX3_goOn_45 : decode cX3_goOn 45 = .ok (.getfield 33, 3) := by decide +kernel
theorem dX3_goOn_48 : decode cX3_goOn 48 = .ok (.iload 4, 2) := by decide +kernel
theorem dX3_goOn_50 : decode cX3_goOn 50 = .ok (.iaload, 1) := by decide +kernel
theorem dX3_goOn_51 : decode cX3_goOn 51 = .ok (.if_icmp .ge 38, 3) := by decide +kernel
theorem dX3_goOn_54 : decode cX3_goOn 54 = .ok (.aload_n 0, 1) := by decide +kernel
theorem dX3_goOn_55 : decode cX3_goOn 55 = .ok (.iload 4, 2) := by decide +kernel
theorem dX3_goOn_57 : decode cX3_goOn 57 = .ok (.iload_n 3, 1) := by decide +kernel
theorem dX3_goOn_58 : decode cX3_goOn 58 = .ok (.invokevirtual 101, 3) := by decide +kernel
theorem dX3_goOn_61 : decode cX3_goOn 61 = .ok (.ifCond .eq 28, 3) := by decide +kernel
theorem dX3_goOn_64 : decode cX3_goOn 64 = .ok (.aload_n 0, 1) := by decide +kernel
theorem dX3_goOn_65 : decode cX3_goOn 65 = .ok (.getfield 11, 3) := by decide +kernel
theorem dX3_goOn_68 : decode cX3_goOn 68 = .ok (.iload_n 1, 1) := by decide +kernel
theorem dX3_goOn_69 : decode cX3_goOn 69 = .ok (.iload 4, 2) := by decide +kernel
theorem dX3_goOn_71 : decode cX3_goOn 71 = .ok (.iastore, 1) := by decide +kernel
theorem dX3_goOn_72 : decode cX3_goOn 72 = .ok (.iload_n 3, 1) := by decide +kernel
theorem dX3_goOn_73 : decode cX3_goOn 73 = .ok (.ifCond .ne 14, 3) := by decide +kernel
theorem dX3_goOn_76 : decode cX3_goOn 76 = .ok (.aload_n 0, 1) := by decide +kernel
theorem dX3_goOn_77 : decode cX3_goOn 77 = .ok (.iload 4, 2) := by decide +kernel
theorem dX3_goOn_79 : decode cX3_goOn 79 = .ok (.iload_n 1, 1) := by decide +kernel
theorem dX3_goOn_80 : decode cX3_goOn 80 = .ok (.iload_n 2, 1) := by decide +kernel
theorem dX3_goOn_81 : decode cX3_goOn 81 = .ok (.invokevirtual 105, 3) := by decide +kernel
theorem dX3_goOn_84 : decode cX3_goOn 84 = .ok (.ifCond .eq 5, 3) := by decide +kernel
theorem dX3_goOn_87 : decode cX3_goOn 87 = .ok (.iconst 1, 1) := by decide +kernel
theorem dX3_goOn_88 : decode cX3_goOn 88 = .ok (.ireturn, 1) := by decide +kernel
theorem dX3_goOn_89 : decode cX3_goOn 89 = .ok (.iinc 4 1, 3) := by decide +kernel
theorem dX3_goOn_92 : decode cX3_goOn 92 = .ok (.goto (-64), 3) := by decide +kernel
theorem dX3_goOn_95 : decode cX3_goOn 95 = .ok (.iconst 0, 1) := by decide +kernel
theorem dX3_goOn_96 : decode cX3_goOn 96 = .ok (.ireturn, 1) := by decide +kernel
theorem dX3_isReached_0 : decode cX3_isReached 0 = .ok (.aload_n 0, 1) := by decide +kernel
theorem dX3_isReached_1 : decode cX3_isReached 1 = .ok (.iload_n 1, 1) := by decide +kernel
theorem dX3_isReached_2 : decode cX3_isReached 2 = .ok (.iconst 1, 1) := by decide +kernel
theorem dX3_isReached_3 : decode cX3_isReached 3 = .ok (.invokevirtual 109, 3) := by decide +kernel
theorem dX3_isReached_6 : decode cX3_isReached 6 = .ok (.aload_n 0, 1) := by decide +kernel
theorem dX3_isReached_7 : decode cX3_isReached 7 = .ok (.getfield 39, 3) := by decide +kernel
theorem dX3_isReached_10 : decode cX3_isReached 10 = .ok (.aload_n 0, 1) := by decide +kernel
theorem dX3_isReached_11 : decode cX3_isReached 11 = .ok (.getfield 59, 3) := by decide +kernel
theorem dX3_isReached_14 : decode cX3_isReached 14 = .ok (.invokevirtual 113, 3) := by decide +kernel
theorem dX3_isReached_17 : decode cX3_isReached 17 = .ok (.ifCond .eq 18, 3) := by decide +kernel
theorem dX3_isReached_20 : decode cX3_isReached 20 = .ok (.aload_n 0, 1) := by decide +kernel
theorem dX3_isReached_21 : decode cX3_isReached 21 = .ok (.iload_n 2, 1) := by decide +kernel
theorem dX3_isReached_22 : decode cX3_isReached 22 = .ok (.iconst 1, 1) := by decide +kernel
theorem dX3_isReached_23 : decode cX3_isReached 23 = .ok (.iadd, 1) := by decide +kernel
theorem dX3_isReached_24 : decode cX3_isReached 24 = .ok (.iload_n 3, 1) := by decide +kernel
theorem dX3_isReached_25 : decode cX3_isReached 25 = .ok (.invokevirtual 97, 3) := by decide +kernel
theorem dX3_isReached_28 : decode cX3_isReached 28 = .ok (.ifCond .eq 7, 3) := by decide +kernel
theorem dX3_isReached_31 : decode cX3_isReached 31 = .ok (.iconst 1, 1) := by decide +kernel
theorem dX3_isReached_32 : decode cX3_isReached 32 = .ok (.goto 4, 3) := by decide +kernel
theorem dX3_isReached_35 : decode cX3_isReached 35 = .ok (.iconst 0, 1) := by decide +kernel
theorem dX3_isReached_36 : decode cX3_isReached 36 = .ok (.istore 4, 2) := by decide +kernel
theorem dX3_isReached_38 : decode cX3_isReached 38 = .ok (.aload_n 0, 1) := by decide +kernel
theorem dX3_isReached_39 : decode cX3_isReached 39 = .ok (.iload_n 1, 1) := by decide +kernel
theorem dX3_isReached_40 : decode cX3_isReached 40 = .ok (.iconst (-1), 1) := by decide +kernel
theorem dX3_isReached_41 : decode cX3_isReached 41 = .ok (.invokevirtual 109, 3) := by decide +kernel
theorem dX3_isReached_44 : decode cX3_isReached 44 = .ok (.iload 4, 2) := by decide +kernel
theorem dX3_isReached_46 : decode cX3_isReached 46 = .ok (.ireturn, 1) := by decide +kernel
theorem dX3_move_0 : decode cX3_move 0 = .ok (.aload_n 0, 1) := by decide +kernel
theorem dX3_move_1 : decode cX3_move 1 = .ok (.getfield 30, 3) := by decide +kernel
theorem dX3_move_4 : decode cX3_move 4 = .ok (.iload_n 1, 1) := by decide +kernel
theorem dX3_move_5 : decode cX3_move 5 = .ok (.iaload, 1) := by decide +kernel
theorem dX3_move_6 : decode cX3_move 6 = .ok (.istore_n 3, 1) := by decide +kernel
theorem dX3_move_7 : decode cX3_move 7 = .ok (.aload_n 0, 1) := by decide +kernel
theorem dX3_move_8 : decode cX3_move 8 = .ok (.getfield 30, 3) := by decide +kernel
theorem dX3_move_11 : decode cX3_move 11 = .ok (.iload_n 1, 1) := by decide +kernel
theorem dX3_move_12 : decode cX3_move 12 = .ok (.dup2, 1) := by decide +kernel
theorem dX3_move_13 : decode cX3_move 13 = .ok (.iaload, 1) := by decide +kernel
theorem dX3_move_14 : decode cX3_move 14 = .ok (.iload_n 2, 1) := by decide +kernel
theorem dX3_move_15 : decode cX3_move 15 = .ok (.iadd, 1) := by decide +kernel
theorem dX3_move_16 : decode cX3_move 16 = .ok (.iastore, 1) := by decide +kernel
theorem dX3_move_17 : decode cX3_move 17 = .ok (.aload_n 0, 1) := by decide +kernel
theorem dX3_move_18 : decode cX3_move 18 = .ok (.dup, 1) := by decide +kernel
theorem dX3_move_19 : decode cX3_move 19 = .ok (.getfield 59, 3) := by decide +kernel
theorem dX3_move_22 : decode cX3_move 22 = .ok (.iload_n 2, 1) := by decide +kernel
theorem dX3_move_23 : decode cX3_move 23 = .ok (.iconst 3, 1) := by decide +kernel
theorem dX3_move_24 : decode cX3_move 24 = .ok (.iload_n 1, 1) := by decide +kernel
theorem dX3_move_25 : decode cX3_move 25 = .ok (.imul, 1) := by decide +kernel
theorem dX3_move_26 : decode cX3_move 26 = .ok (.ishl, 1) := by decide +kernel
theorem dX3_move_27 : decode cX3_move 27 = .ok (.iadd, 1) := by decide +kernel
theorem dX3_move_28 : decode cX3_move 28 = .ok (.putfield 59, 3) := by decide +kernel
theorem dX3_move_31 : decode cX3_move 31 = .ok (.iconst 0, 1) := by decide +kernel
theorem dX3_move_32 : decode cX3_move 32 = .ok (.istore 4, 2) := by decide +kernel
theorem dX3_move_34 : decode cX3_move 34 = .ok (.iload 4, 2) := by decide +kernel
theorem dX3_move_36 : decode cX3_move 36 = .ok (.iconst 3, 1) := by decide +kernel
theorem dX3_move_37 : decode cX3_move 37 = .ok (.if_icmp .ge 82, 3) := by decide +kernel
theorem dX3_move_40 : decode cX3_move 40 = .ok (.aload_n 0, 1) := by decide +kernel
theorem dX3_move_41 : decode cX3_move 41 = .ok (.getfield 27, 3) := by decide +kernel
theorem dX3_move_44 : decode cX3_move 44 = .ok (.iload 4, 2) := by decide +kernel
theorem dX3_move_46 : decode cX3_move 46 = .ok (.iaload, 1) := by decide +kernel
theorem dX3_move_47 : decode cX3_move 47 = .ok (.ifCond .eq 66, 3) := by decide +kernel
theorem dX3_move_50 : decode cX3_move 50 = .ok (.iload 4, 2) := by decide +kernel
theorem dX3_move_52 : decode cX3_move 52 = .ok (.iload_n 1, 1) := by decide +kernel
theorem dX3_move_53 : decode cX3_move 53 = .ok (.iload_n 3, 1) := by decide +kernel
theorem dX3_move_54 : decode cX3_move 54 = .ok (.invokestatic 82, 3) := by decide +kernel
theorem dX3_move_57 : decode cX3_move 57 = .ok (.istore 5, 2) := by decide +kernel
theorem dX3_move_59 : decode cX3_move 59 = .ok (.aload_n 0, 1) := by decide +kernel
theorem dX3_move_60 : decode cX3_move 60 = .ok (.getfield 21, 3) := by decide +kernel
theorem dX3_move_63 : decode cX3_move 63 = .ok (.iload 4, 2) := by decide +kernel
theorem dX3_move_65 : decode cX3_move 65 = .ok (.dup2, 1) := by decide +kernel
theorem dX3_move_66 : decode cX3_move 66 = .ok (.iaload, 1) := by decide +kernel
theorem dX3_move_67 : decode cX3_move 67 = .ok (.aload_n 0, 1) := by decide +kernel
theorem dX3_move_68 : decode cX3_move 68 = .ok (.getfield 15, 3) := by decide +kernel
theorem dX3_move_71 : decode cX3_move 71 = .ok (.iload 5, 2) := by decide +kernel
theorem dX3_move_73 : decode cX3_move 73 = .ok (.iload_n 2, 1) := by decide +kernel
theorem dX3_move_74 : decode cX3_move 74 = .ok (.iadd, 1) := by decide +kernel
theorem dX3_move_75 : decode cX3_move 75 = .ok (.iaload, 1) := by decide +kernel
theorem dX3_move_76 : decode cX3_move 76 = .ok (.aload_n 0, 1) := by decide +kernel
theorem dX3_move_77 : decode cX3_move 77 = .ok (.getfield 15, 3) := by decide +kernel
theorem dX3_move_80 : decode cX3_move 80 = .ok (.iload 5, 2) := by decide +kernel
theorem dX3_move_82 : decode cX3_move 82 = .ok (.iaload, 1) := by decide +kernel
theorem dX3_move_83 : decode cX3_move 83 = .ok (.isub, 1) := by decide +kernel
theorem dX3_move_84 : decode cX3_move 84 = .ok (.iadd, 1) := by decide +kernel
theorem dX3_move_85 : decode cX3_move 85 = .ok (.iastore, 1) := by decide +kernel
theorem dX3_move_86 : decode cX3_move 86 = .ok (.aload_n 0, 1) := by decide +kernel
theorem dX3_move_87 : decode cX3_move 87 = .ok (.getfield 24, 3) := by decide +kernel
theorem dX3_move_90 : decode cX3_move 90 = .ok (.iload 4, 2) := by decide +kernel
theorem dX3_move_92 : decode cX3_move 92 = .ok (.dup2, 1) := by decide +kernel
theorem dX3_move_93 : decode cX3_move 93 = .ok (.iaload, 1) := by decide +kernel
theorem dX3_move_94 : decode cX3_move 94 = .ok (.aload_n 0, 1) := by decide +kernel
theorem dX3_move_95 : decode cX3_move 95 = .ok (.getfield 18, 3) := by decide +kernel
theorem dX3_move_98 : decode cX3_move 98 = .ok (.iload 5, 2) := by decide +kernel
theorem dX3_move_100 : decode cX3_move 100 = .ok (.iload_n 2, 1) := by decide +kernel
theorem dX3_move_101 : decode cX3_move 101 = .ok (.iadd, 1) := by decide +kernel
theorem dX3_move_102 : decode cX3_move 102 = .ok (.iaload, 1) := by decide +kernel
theorem dX3_move_103 : decode cX3_move 103 = .ok (.aload_n 0, 1) := by decide +kernel
theorem dX3_move_104 : decode cX3_move 104 = .ok (.getfield 18, 3) := by decide +kernel
theorem dX3_move_107 : decode cX3_move 107 = .ok (.iload 5, 2) := by decide +kernel
theorem dX3_move_109 : decode cX3_move 109 = .ok (.iaload, 1) := by decide +kernel
theorem dX3_move_110 : decode cX3_move 110 = .ok (.isub, 1) := by decide +kernel
theorem dX3_move_111 : decode cX3_move 111 = .ok (.iadd, 1) := by decide +kernel
theorem dX3_move_112 : decode cX3_move 112 = .ok (.iastore, 1) := by decide +kernel
theorem dX3_move_113 : decode cX3_move 113 = .ok (.iinc 4 1, 3) := by decide +kernel
theorem dX3_move_116 : decode cX3_move 116 = .ok (.goto (-82), 3) := by decide +kernel
theorem dX3_move_119 : decode cX3_move 119 = .ok (.return_, 1) := by decide +kernel
theorem dX3_isTrueNow_0 : decode cX3_isTrueNow 0 = .ok (.iconst 0, 1) := by decide +kernel
theorem dX3_isTrueNow_1 : decode cX3_isTrueNow 1 = .ok (.istore_n 1, 1) := by decide +kernel
theorem dX3_isTrueNow_2 : decode cX3_isTrueNow 2 = .ok (.iload_n 1, 1) := by decide +kernel
theorem dX3_isTrueNow_3 : decode cX3_isTrueNow 3 = .ok (.iconst 3, 1) := by decide +kernel
theorem dX3_isTrueNow_4 : decode cX3_isTrueNow 4 = .ok (.if_icmp .ge 41, 3) := by decide +kernel
theorem dX3_isTrueNow_7 : decode cX3_isTrueNow 7 = .ok (.aload_n 0, 1) := by decide +kernel
theorem dX3_isTrueNow_8 : decode cX3_isTrueNow 8 = .ok (.getfield 27, 3) := by decide +kernel
theorem dX3_isTrueNow_11 : decode cX3_isTrueNow 11 = .ok (.iload_n 1, 1) := by decide +kernel
theorem dX3_isTrueNow_12 : decode cX3_isTrueNow 12 = .ok (.iaload, 1) := by decide +kernel
theorem dX3_isTrueNow_13 : decode cX3_isTrueNow 13 = .ok (.ifCond .eq 26, 3) := by decide +kernel
theorem dX3_isTrueNow_16 : decode cX3_isTrueNow 16 = .ok (.aload_n 0, 1) := by decide +kernel
theorem dX3_isTrueNow_17 : decode cX3_isTrueNow 17 = .ok (.iload_n 1, 1) := by decide +kernel
theorem dX3_isTrueNow_18 : decode cX3_isTrueNow 18 = .ok (.aload_n 0, 1) := by decide +kernel
theorem dX3_isTrueNow_19 : decode cX3_isTrueNow 19 = .ok (.getfield 21, 3) := by decide +kernel
theorem dX3_isTrueNow_22 : decode cX3_isTrueNow 22 = .ok (.iload_n 1, 1) := by decide +kernel
theorem dX3_isTrueNow_23 : decode cX3_isTrueNow 23 = .ok (.iaload, 1) := by decide +kernel
theorem dX3_isTrueNow_24 : decode cX3_isTrueNow 24 = .ok (.aload_n 0, 1) := by decide +kernel
theorem dX3_isTrueNow_25 : decode cX3_isTrueNow 25 = .ok (.getfield 24, 3) := by decide +kernel
theorem dX3_isTrueNow_28 : decode cX3_isTrueNow 28 = .ok (.iload_n 1, 1) := by decide +kernel
theorem dX3_isTrueNow_29 : decode cX3_isTrueNow 29 = .ok (.iaload, 1) := by decide +kernel
theorem dX3_isTrueNow_30 : decode cX3_isTrueNow 30 = .ok (.iconst 1, 1) := by decide +kernel
theorem dX3_isTrueNow_31 : decode cX3_isTrueNow 31 = .ok (.invokevirtual 117, 3) := by decide +kernel
theorem dX3_isTrueNow_34 : decode cX3_isTrueNow 34 = .ok (.ifCond .ne 5, 3) := by decide +kernel
theorem dX3_isTrueNow_37 : decode cX3_isTrueNow 37 = .ok (.iconst 0, 1) := by decide +kernel
theorem dX3_isTrueNow_38 : decode cX3_isTrueNow 38 = .ok (.ireturn, 1) := by decide +kernel
theorem dX3_isTrueNow_39 : decode cX3_isTrueNow 39 = .ok (.iinc 1 1, 3) := by decide +kernel
theorem dX3_isTrueNow_42 : decode cX3_isTrueNow 42 = .ok (.goto (-40), 3) := by decide +kernel
theorem dX3_isTrueNow_45 : decode cX3_isTrueNow 45 = .ok (.iconst 1, 1) := by decide +kernel
theorem dX3_isTrueNow_46 : decode cX3_isTrueNow 46 = .ok (.ireturn, 1) := by decide +kernel
theorem dX3_isNearBehind_0 : decode cX3_isNearBehind 0 = .ok (.iconst 0, 1) := by decide +kernel
theorem dX3_isNearBehind_1 : decode cX3_isNearBehind 1 = .ok (.istore_n 3, 1) := by decide +kernel
theorem dX3_isNearBehind_2 : decode cX3_isNearBehind 2 = .ok (.iload_n 3, 1) := by decide +kernel
theorem dX3_isNearBehind_3 : decode cX3_isNearBehind 3 = .ok (.iconst 3, 1) := by decide +kernel
theorem dX3_isNearBehind_4 : decode cX3_isNearBehind 4 = .ok (.if_icmp .ge 98, 3) := by decide +kernel
theorem dX3_isNearBehind_7 : decode cX3_isNearBehind 7 = .ok (.aload_n 0, 1) := by decide +kernel
theorem dX3_isNearBehind_8 : decode cX3_isNearBehind 8 = .ok (.getfield 27, 3) := by decide +kernel
theorem dX3_isNearBehind_11 : decode cX3_isNearBehind 11 = .ok (.iload_n 3, 1) := by decide +kernel
theorem dX3_isNearBehind_12 : decode cX3_isNearBehind 12 = .ok (.iaload, 1) := by decide +kernel
theorem dX3_isNearBehind_13 : decode cX3_isNearBehind 13 = .ok (.ifCond .eq 83, 3) := by decide +kernel
theorem dX3_isNearBehind_16 : decode cX3_isNearBehind 16 = .ok (.iload_n 3, 1) := by decide +kernel
theorem dX3_isNearBehind_17 : decode cX3_isNearBehind 17 = .ok (.iload_n 1, 1) := by decide +kernel
theorem dX3_isNearBehind_18 : decode cX3_isNearBehind 18 = .ok (.aload_n 0, 1) := by decide +kernel
theorem dX3_isNearBehind_19 : decode cX3_isNearBehind 19 = .ok (.getfield 30, 3) := by decide +kernel
theorem dX3_isNearBehind_22 : decode cX3_isNearBehind 22 = .ok (.iload_n 1, 1) := by decide +kernel
theorem dX3_isNearBehind_23 : decode cX3_isNearBehind 23 = .ok (.iaload, 1) := by decide +kernel
theorem dX3_isNearBehind_24 : decode cX3_isNearBehind 24 = .ok (.invokestatic 82, 3) := by decide +kernel
theorem dX3_isNearBehind_27 : decode cX3_isNearBehind 27 = .ok (.istore 4, 2) := by decide +kernel
theorem dX3_isNearBehind_29 : decode cX3_isNearBehind 29 = .ok (.aload_n 0, 1) := by decide +kernel
theorem dX3_isNearBehind_30 : decode cX3_isNearBehind 30 = .ok (.getfield 21, 3) := by decide +kernel
theorem dX3_isNearBehind_33 : decode cX3_isNearBehind 33 = .ok (.iload_n 3, 1) := by decide +kernel
theorem dX3_isNearBehind_34 : decode cX3_isNearBehind 34 = .ok (.iaload, 1) := by decide +kernel
theorem dX3_isNearBehind_35 : decode cX3_isNearBehind 35 = .ok (.aload_n 0, 1) := by decide +kernel
theorem dX3_isNearBehind_36 : decode cX3_isNearBehind 36 = .ok (.getfield 15, 3) := by decide +kernel
theorem dX3_isNearBehind_39 : decode cX3_isNearBehind 39 = .ok (.iload 4, 2) := by decide +kernel
theorem dX3_isNearBehind_41 : decode cX3_isNearBehind 41 = .ok (.iconst 1, 1) := by decide +kernel
theorem dX3_isNearBehind_42 : decode cX3_isNearBehind 42 = .ok (.iadd, 1) := by decide +kernel
theorem dX3_isNearBehind_43 : decode cX3_isNearBehind 43 = .ok (.iaload, 1) := by decide +kernel
theorem dX3_isNearBehind_44 : decode cX3_isNearBehind 44 = .ok (.iadd, 1) := by decide +kernel
theorem dX3_isNearBehind_45 : decode cX3_isNearBehind 45 = .ok (.aload_n 0, 1) := by decide +kernel
theorem dX3_isNearBehind_46 : decode cX3_isNearBehind 46 = .ok (.getfield 15, 3) := by decide +kernel
theorem dX3_isNearBehind_49 : decode cX3_isNearBehind 49 = .ok (.iload 4, 2) := by decide +kernel
theorem dX3_isNearBehind_51 : decode cX3_isNearBehind 51 = .ok (.iaload, 1) := by decide +kernel
theorem dX3_isNearBehind_52 : decode cX3_isNearBehind 52 = .ok (.isub, 1) := by decide +kernel
theorem dX3_isNearBehind_53 : decode cX3_isNearBehind 53 = .ok (.istore 5, 2) := by decide +kernel
theorem dX3_isNearBehind_55 : decode cX3_isNearBehind 55 = .ok (.aload_n 0, 1) := by decide +kernel
theorem dX3_isNearBehind_56 : decode cX3_isNearBehind 56 = .ok (.getfield 24, 3) := by decide +kernel
theorem dX3_isNearBehind_59 : decode cX3_isNearBehind 59 = .ok (.iload_n 3, 1) := by decide +kernel
theorem dX3_isNearBehind_60 : decode cX3_isNearBehind 60 = .ok (.iaload, 1) := by decide +kernel
theorem dX3_isNearBehind_61 : decode cX3_isNearBehind 61 = .ok (.aload_n 0, 1) := by decide +kernel
theorem dX3_isNearBehind_62 : decode cX3_isNearBehind 62 = .ok (.getfield 18, 3) := by decide +kernel
theorem dX3_isNearBehind_65 : decode cX3_isNearBehind 65 = .ok (.iload 4, 2) := by decide +kernel
theorem dX3_isNearBehind_67 : decode cX3_isNearBehind 67 = .ok (.iconst 1, 1) := by decide +kernel
theorem dX3_isNearBehind_68 : decode cX3_isNearBehind 68 = .ok (.iadd, 1) := by decide +kernel
theorem dX3_isNearBehind_69 : decode cX3_isNearBehind 69 = .ok (.iaload, 1) := by decide +kernel
theorem dX3_isNearBehind_70 : decode cX3_isNearBehind 70 = .ok (.iadd, 1) := by decide +kernel
theorem dX3_isNearBehind_71 : decode cX3_isNearBehind 71 = .ok (.aload_n 0, 1) := by decide +kernel
theorem dX3_isNearBehind_72 : decode cX3_isNearBehind 72 = .ok (.getfield 18, 3) := by decide +kernel
theorem dX3_isNearBehind_75 : decode cX3_isNearBehind 75 = .ok (.iload 4, 2) := by decide +kernel
theorem dX3_isNearBehind_77 : decode cX3_isNearBehind 77 = .ok (.iaload, 1) := by decide +kernel
theorem dX3_isNearBehind_78 : decode cX3_isNearBehind 78 = .ok (.isub, 1) := by decide +kernel
theorem dX3_isNearBehind_79 : decode cX3_isNearBehind 79 = .ok (.istore 6, 2) := by decide +kernel
theorem dX3_isNearBehind_81 : decode cX3_isNearBehind 81 = .ok (.aload_n 0, 1) := by decide +kernel
theorem dX3_isNearBehind_82 : decode cX3_isNearBehind 82 = .ok (.iload_n 3, 1) := by decide +kernel
theorem dX3_isNearBehind_83 : decode cX3_isNearBehind 83 = .ok (.iload 5, 2) := by decide +kernel
theorem dX3_isNearBehind_85 : decode cX3_isNearBehind 85 = .ok (.iload 6, 2) := by decide +kernel
theorem dX3_isNearBehind_87 : decode cX3_isNearBehind 87 = .ok (.iload_n 2, 1) := by decide +kernel
theorem dX3_isNearBehind_88 : decode cX3_isNearBehind 88 = .ok (.invokevirtual 117, 3) := by decide +kernel
theorem dX3_isNearBehind_91 : decode cX3_isNearBehind 91 = .ok (.ifCond .ne 5, 3) := by decide +kernel
theorem dX3_isNearBehind_94 : decode cX3_isNearBehind 94 = .ok (.iconst 0, 1) := by decide +kernel
theorem dX3_isNearBehind_95 : decode cX3_isNearBehind 95 = .ok (.ireturn, 1) := by decide +kernel
theorem dX3_isNearBehind_96 : decode cX3_isNearBehind 96 = .ok (.iinc 3 1, 3) := by decide +kernel
theorem dX3_isNearBehind_99 : decode cX3_isNearBehind 99 = .ok (.goto (-97), 3) := by decide +kernel
theorem dX3_isNearBehind_102 : decode cX3_isNearBehind 102 = .ok (.iconst 1, 1) := by decide +kernel
theorem dX3_isNearBehind_103 : decode cX3_isNearBehind 103 = .ok (.ireturn, 1) := by decide +kernel
theorem dX3_isNear_0 : decode cX3_isNear 0 = .ok (.iload_n 2, 1) := by decide +kernel
theorem dX3_isNear_1 : decode cX3_isNear 1 = .ok (.iload_n 3, 1) := by decide +kernel
theorem dX3_isNear_2 : decode cX3_isNear 2 = .ok (.invokestatic 121, 3) := by decide +kernel
theorem dX3_isNear_5 : decode cX3_isNear 5 = .ok (.aload_n 0, 1) := by decide +kernel
theorem dX3_isNear_6 : decode cX3_isNear 6 = .ok (.getfield 27, 3) := by decide +kernel
theorem dX3_isNear_9 : decode cX3_isNear 9 = .ok (.iload_n 1, 1) := by decide +kernel
theorem dX3_isNear_10 : decode cX3_isNear 10 = .ok (.iaload, 1) := by decide +kernel
theorem dX3_isNear_11 : decode cX3_isNear 11 = .ok (.isub, 1) := by decide +kernel
theorem dX3_isNear_12 : decode cX3_isNear 12 = .ok (.istore 5, 2) := by decide +kernel
theorem dX3_isNear_14 : decode cX3_isNear 14 = .ok (.iload 5, 2) := by decide +kernel
theorem dX3_isNear_16 : decode cX3_isNear 16 = .ok (.aload_n 0, 1) := by decide +kernel
theorem dX3_isNear_17 : decode cX3_isNear 17 = .ok (.getfield 56, 3) := by decide +kernel
theorem dX3_isNear_20 : decode cX3_isNear 20 = .ok (.ineg, 1) := by decide +kernel
theorem dX3_isNear_21 : decode cX3_isNear 21 = .ok (.if_icmp .lt 21, 3) := by decide +kernel
theorem dX3_isNear_24 : decode cX3_isNear 24 = .ok (.iload 4, 2) := by decide +kernel
theorem dX3_isNear_26 : decode cX3_isNear 26 = .ok (.ifCond .eq 12, 3) := by decide +kernel
theorem dX3_isNear_29 : decode cX3_isNear 29 = .ok (.iload 5, 2) := by decide +kernel
theorem dX3_isNear_31 : decode cX3_isNear 31 = .ok (.aload_n 0, 1) := by decide +kernel
theorem dX3_isNear_32 : decode cX3_isNear 32 = .ok (.getfield 56, 3) := by decide +kernel
theorem dX3_isNear_35 : decode cX3_isNear 35 = .ok (.if_icmp .gt 7, 3) := by decide +kernel
theorem dX3_isNear_38 : decode cX3_isNear 38 = .ok (.iconst 1, 1) := by decide +kernel
theorem dX3_isNear_39 : decode cX3_isNear 39 = .ok (.goto 4, 3) := by decide +kernel
theorem dX3_isNear_42 : decode cX3_isNear 42 = .ok (.iconst 0, 1) := by decide +kernel
theorem dX3_isNear_43 : decode cX3_isNear 43 = .ok (.ireturn, 1) := by decide +kernel
theorem dX4_init_0 : decode cX4_init 0 = .ok (.aload_n 0, 1) := by decide +kernel
theorem dX4_init_1 : decode cX4_init 1 = .ok (.invokespecial 3, 3) := by decide +kernel
theorem dX4_init_4 : decode cX4_init 4 = .ok (.aload_n 0, 1) := by decide +kernel
theorem dX4_init_5 : decode cX4_init 5 = .ok (.new 9, 3) := by decide +kernel
theorem dX4_init_8 : decode cX4_init 8 = .ok (.dup, 1) := by decide +kernel
theorem dX4_init_9 : decode cX4_init 9 = .ok (.invokespecial 11, 3) := by decide +kernel
theorem dX4_init_12 : decode cX4_init 12 = .ok (.putfield 12, 3) := by decide +kernel
theorem dX4_init_15 : decode cX4_init 15 = .ok (.aload_n 0, 1) := by decide +kernel
theorem dX4_init_16 : decode cX4_init 16 = .ok (.sipush 501, 3) := by decide +kernel
theorem dX4_init_19 : decode cX4_init 19 = .ok (.newarray .int, 2) := by decide +kernel
theorem dX4_init_21 : decode cX4_init 21 = .ok (.putfield 18, 3) := by decide +kernel
theorem dX4_init_24 : decode cX4_init 24 = .ok (.aload_n 0, 1) := by decide +kernel
theorem dX4_init_25 : decode cX4_init 25 = .ok (.sipush 501, 3) := by decide +kernel
theorem dX4_init_28 : decode cX4_init 28 = .ok (.newarray .int, 2) := by decide +kernel
theorem dX4_init_30 : decode cX4_init 30 = .ok (.putfield 22, 3) := by decide +kernel
theorem dX4_init_33 : decode cX4_init 33 = .ok (.aload_n 0, 1) := by decide +kernel
theorem dX4_init_34 : decode cX4_init 34 = .ok (.sipush 501, 3) := by decide +kernel
theorem dX4_init_37 : decode cX4_init 37 = .ok (.newarray .int, 2) := by decide +kernel
theorem dX4_init_39 : decode cX4_init 39 = .ok (.putfield 25, 3) := by decide +kernel
theorem dX4_init_42 : decode cX4_init 42 = .ok (.return_, 1) := by decide +kernel
theorem dX4_start_0 : decode cX4_start 0 = .ok (.aload_n 0, 1) := by decide +kernel
theorem dX4_start_1 : decode cX4_start 1 = .ok (.iload_n 3, 1) := by decide +kernel
theorem dX4_start_2 : decode cX4_start 2 = .ok (.putfield 28, 3) := by decide +kernel
theorem dX4_start_5 : decode cX4_start 5 = .ok (.aload_n 0, 1) := by decide +kernel
theorem dX4_start_6 : decode cX4_start 6 = .ok (.iconst 0, 1) := by decide +kernel
theorem dX4_start_7 : decode cX4_start 7 = .ok (.putfield 32, 3) := by decide +kernel
theorem dX4_start_10 : decode cX4_start 10 = .ok (.aload_n 0, 1) := by decide +kernel
theorem dX4_start_11 : decode cX4_start 11 = .ok (.iconst (-1), 1) := by decide +kernel
theorem dX4_start_12 : decode cX4_start 12 = .ok (.putfield 36, 3) := by decide +kernel
theorem dX4_start_15 : decode cX4_start 15 = .ok (.aload_n 0, 1) := by decide +kernel
theorem dX4_start_16 : decode cX4_start 16 = .ok (.getfield 12, 3) := by decide +kernel
theorem dX4_start_19 : decode cX4_start 19 = .ok (.invokevirtual 39, 3) := by decide +kernel
theorem dX4_start_22 : decode cX4_start 22 = .ok (.aload_n 0, 1) := by decide +kernel
theorem dX4_start_23 : decode cX4_start 23 = .ok (.iconst 0, 1) := by decide +kernel
theorem dX4_start_24 : decode cX4_start 24 = .ok (.putfield 42, 3) := by decide +kernel
theorem dX4_start_27 : decode cX4_start 27 = .ok (.aload_n 0, 1) := by decide +kernel
theorem dX4_start_28 : decode cX4_start 28 = .ok (.iconst 0, 1) := by decide +kernel
theorem dX4_start_29 : decode cX4_start 29 = .ok (.putfield 45, 3) := by decide +kernel
theorem dX4_start_32 : decode cX4_start 32 = .ok (.iconst 0, 1) := by decide +kernel
theorem dX4_start_33 : decode cX4_start 33 = .ok (.istore 4, 2) := by decide +kernel
theorem dX4_start_35 : decode cX4_start 35 = .ok (.iload 4, 2) := by decide +kernel
theorem dX4_start_37 : decode cX4_start 37 = .ok (.iload_n 2, 1) := by decide +kernel
theorem dX4_start_38 : decode cX4_start 38 = .ok (.if_icmp .ge 166, 3) := by decide +kernel
theorem dX4_start_41 : decode cX4_start 41 = .ok (.iload 4, 2) := by decide +kernel
theorem dX4_start_43 : decode cX4_start 43 = .ok (.istore 5, 2) := by decide +kernel
theorem dX4_start_45 : decode cX4_start 45 = .ok (.aload_n 1, 1) := by decide +kernel
theorem dX4_start_46 : decode cX4_start 46 = .ok (.iload 4, 2) := by decide +kernel
theorem dX4_start_48 : decode cX4_start 48 = .ok (.iaload, 1) := by decide +kernel
theorem dX4_start_49 : decode cX4_start 49 = .ok (.istore 6, 2) := by decide +kernel
theorem dX4_start_51 : decode cX4_start 51 = .ok (.iinc 4 1, 3) := by decide +kernel
theorem dX4_start_54 : decode cX4_start 54 = .ok (.iload 6, 2) := by decide +kernel
theorem dX4_start_56 : decode cX4_start 56 = .ok (.invokestatic 48, 3) := by decide +kernel
theorem dX4_start_59 : decode cX4_start 59 = .ok (.ifCond .eq 43, 3) := by decide +kernel
theorem dX4_start_62 : decode cX4_start 62 = .ok (.iload 4, 2) := by decide +kernel
theorem dX4_start_64 : decode cX4_start 64 = .ok (.iload_n 2, 1) := by decide +kernel
theorem dX4_start_65 : decode cX4_start 65 = .ok (.if_icmp .ge 19, 3) := by decide +kernel
theorem dX4_start_68 : decode cX4_start 68 = .ok (.aload_n 1, 1) := by decide +kernel
theorem dX4_start_69 : decode cX4_start 69 = .ok (.iload 4, 2) := by decide +kernel
theorem dX4_start_71 : decode cX4_start 71 = .ok (.iaload, 1) := by decide +kernel
theorem dX4_start_72 : decode cX4_start 72 = .ok (.invokestatic 48, 3) := by decide +kernel
theorem dX4_start_75 : decode cX4_start 75 = .ok (.ifCond .eq 9, 3) := by decide +kernel
theorem dX4_start_78 : decode cX4_start 78 = .ok (.iinc 4 1, 3) := by decide +kernel
theorem dX4_start_81 : decode cX4_start 81 = .ok (.goto (-19), 3) := by decide +kernel
theorem dX4_start_84 : decode cX4_start 84 = .ok (.aload_n 0, 1) := by decide +kernel
theorem dX4_start_85 : decode cX4_start 85 = .ok (.aload_n 1, 1) := by decide +kernel
theorem dX4_start_86 : decode cX4_start 86 = .ok (.iload 5, 2) := by decide +kernel
theorem dX4_start_88 : decode cX4_start 88 = .ok (.iload 4, 2) := by decide +kernel
theorem dX4_start_90 : decode cX4_start 90 = .ok (.invokestatic 52, 3) := by decide +kernel
theorem dX4_start_93 : decode cX4_start 93 = .ok (.iconst 0, 1) := by decide +kernel
theorem dX4_start_94 : decode cX4_start 94 = .ok (.iload 5, 2) := by decide +kernel
theorem dX4_start_96 : decode cX4_start 96 = .ok (.invokevirtual 56, 3) := by decide +kernel
theorem dX4_start_99 : decode cX4_start 99 = .ok (.goto 102, 3) := by decide +kernel
theorem dX4_start_102 : decode cX4_start 102 = .ok (.iload 6, 2) := by decide +kernel
theorem dX4_start_104 : decode cX4_start 104 = .ok (.invokestatic 60, 3) := by decide +kernel
theorem dX4_start_107 : decode cX4_start 107 = .ok (.ifCond .eq 58, 3) := by decide +kernel
theorem dX4_start_110 : decode cX4_start 110 = .ok (.iload 4, 2) := by decide +kernel
theorem dX4_start_112 : decode cX4_start 112 = .ok (.iload_n 2, 1) := by decide +kernel
theorem dX4_start_113 : decode cX4_start 113 = .ok (.if_icmp .ge 19, 3) := by decide +kernel
theorem dX4_start_116 : decode cX4_start 116 = .ok (.aload_n 1, 1) := by decide +kernel
theorem dX4_start_117 : decode cX4_start 117 = .ok (.iload 4, 2) := by decide +kernel
theorem dX4_start_119 : decode cX4_start 119 = .ok (.iaload, 1) := by decide +kernel
theorem dX4_start_120 : decode cX4_start 120 = .ok (.invokestatic 60, 3) := by decide +kernel
theorem dX4_start_123 : decode cX4_start 123 = .ok (.ifCond .eq 9, 3) := by decide +kernel
theorem dX4_start_126 : decode cX4_start 126 = .ok (.iinc 4 1, 3) := by decide +kernel
theorem dX4_start_129 : decode cX4_start 129 = .ok (.goto (-19), 3) := by decide +kernel
theorem dX4_start_132 : decode cX4_start 132 = .ok (.aload_n 0, 1) := by decide +kernel
theorem dX4_start_133 : decode cX4_start 133 = .ok (.iload 4, 2) := by decide +kernel
theorem dX4_start_135 : decode cX4_start 135 = .ok (.iload 5, 2) := by decide +kernel
theorem dX4_start_137 : decode cX4_start 137 = .ok (.isub, 1) := by decide +kernel
theorem dX4_start_138 : decode cX4_start 138 = .ok (.iconst 5, 1) := by decide +kernel
theorem dX4_start_139 : decode cX4_start 139 = .ok (.if_icmp .gt 8, 3) := by decide +kernel
theorem dX4_start_142 : decode cX4_start 142 = .ok (.bipush 24, 2) := by decide +kernel
theorem dX4_start_144 : decode cX4_start 144 = .ok (.goto 5, 3) := by decide +kernel
theorem dX4_start_147 : decode cX4_start 147 = .ok (.bipush 25, 2) := by decide +kernel
theorem dX4_start_149 : decode cX4_start 149 = .ok (.aload_n 1, 1) := by decide +kernel
theorem dX4_start_150 : decode cX4_start 150 = .ok (.iload 5, 2) := by decide +kernel
theorem dX4_start_152 : decode cX4_start 152 = .ok (.iload 4, 2) := by decide +kernel
theorem dX4_start_154 : decode cX4_start 154 = .ok (.invokestatic 63, 3) := by decide +kernel
theorem dX4_start_157 : decode cX4_start 157 = .ok (.iload 5, 2) := by decide +kernel
theorem dX4_start_159 : decode cX4_start 159 = .ok (.invokevirtual 56, 3) := by decide +kernel
theorem dX4_start_162 : decode cX4_start 162 = .ok (.goto 39, 3) := by decide +kernel
theorem dX4_start_165 : decode cX4_start 165 = .ok (.iload 6, 2) := by decide +kernel
theorem dX4_start_167 : decode cX4_start 167 = .ok (.bipush 32, 2) := by decide +kernel
theorem dX4_start_169 : decode cX4_start 169 = .ok (.if_icmp .eq 32, 3) := by decide +kernel
theorem dX4_start_172 : decode cX4_start 172 = .ok (.iload 6, 2) := by decide +kernel
theorem dX4_start_174 : decode cX4_start 174 = .ok (.bipush 10, 2) := by decide +kernel
theorem dX4_start_176 : decode cX4_start 176 = .ok (.if_icmp .eq 25, 3) := by decide +kernel
theorem dX4_start_179 : decode cX4_start 179 = .ok (.aload_n 0, 1) := by decide +kernel
theorem dX4_start_180 : decode cX4_start 180 = .ok (.iload 6, 2) := by decide +kernel
theorem dX4_start_182 : decode cX4_start 182 = .ok (.invokestatic 66, 3) := by decide +kernel
theorem dX4_start_185 : decode cX4_start 185 = .ok (.ifCond .eq 8, 3) := by decide +kernel
theorem dX4_start_188 : decode cX4_start 188 = .ok (.iload 6, 2) := by decide +kernel
theorem dX4_start_190 : decode cX4_start 190 = .ok (.goto 5, 3) := by decide +kernel
theorem dX4_start_193 : decode cX4_start 193 = .ok (.bipush 25, 2) := by decide +kernel
theorem dX4_start_195 : decode cX4_start 195 = .ok (.iconst 0, 1) := by decide +kernel
theorem dX4_start_196 : decode cX4_start 196 = .ok (.iload 5, 2) := by decide +kernel
