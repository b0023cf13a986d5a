theorem dX8_copyFrom_46 : decode cX8_copyFrom 46 = .ok (.aload_n 0, 1) := by decide +kernel
theorem dX8_copyFrom_47 : decode cX8_copyFrom 47 = .ok (.getfield 19, 3) := by decide +kernel
theorem dX8_copyFrom_50 : decode cX8_copyFrom 50 = .ok (.iload_n 2, 1) := by decide +kernel
theorem dX8_copyFrom_51 : decode cX8_copyFrom 51 = .ok (.aaload, 1) := by decide +kernel
theorem dX8_copyFrom_52 : decode cX8_copyFrom 52 = .ok (.aload_n 1, 1) := by decide +kernel
theorem dX8_copyFrom_53 : decode cX8_copyFrom 53 = .ok (.getfield 19, 3) := by decide +kernel
theorem dX8_copyFrom_56 : decode cX8_copyFrom 56 = .ok (.iload_n 2, 1) := by decide +kernel
theorem dX8_copyFrom_57 : decode cX8_copyFrom 57 = .ok (.aaload, 1) := by decide +kernel
theorem dX8_copyFrom_58 : decode cX8_copyFrom 58 = .ok (.invokevirtual 64, 3) := by decide +kernel
theorem dX8_copyFrom_61 : decode cX8_copyFrom 61 = .ok (.iinc 2 1, 3) := by decide +kernel
theorem dX8_copyFrom_64 : decode cX8_copyFrom 64 = .ok (.goto (-23), 3) := by decide +kernel
theorem dX8_copyFrom_67 : decode cX8_copyFrom 67 = .ok (.iconst 0, 1) := by decide +kernel
theorem dX8_copyFrom_68 : decode cX8_copyFrom 68 = .ok (.istore_n 2, 1) := by decide +kernel
theorem dX8_copyFrom_69 : decode cX8_copyFrom 69 = .ok (.iload_n 2, 1) := by decide +kernel
theorem dX8_copyFrom_70 : decode cX8_copyFrom 70 = .ok (.iconst 4, 1) := by decide +kernel
theorem dX8_copyFrom_71 : decode cX8_copyFrom 71 = .ok (.if_icmp .ge 24, 3) := by decide +kernel
theorem dX8_copyFrom_74 : decode cX8_copyFrom 74 = .ok (.aload_n 0, 1) := by decide +kernel
theorem dX8_copyFrom_75 : decode cX8_copyFrom 75 = .ok (.getfield 23, 3) := by decide +kernel
theorem dX8_copyFrom_78 : decode cX8_copyFrom 78 = .ok (.iload_n 2, 1) := by decide +kernel
theorem dX8_copyFrom_79 : decode cX8_copyFrom 79 = .ok (.aaload, 1) := by decide +kernel
theorem dX8_copyFrom_80 : decode cX8_copyFrom 80 = .ok (.aload_n 1, 1) := by decide +kernel
theorem dX8_copyFrom_81 : decode cX8_copyFrom 81 = .ok (.getfield 23, 3) := by decide +kernel
theorem dX8_copyFrom_84 : decode cX8_copyFrom 84 = .ok (.iload_n 2, 1) := by decide +kernel
theorem dX8_copyFrom_85 : decode cX8_copyFrom 85 = .ok (.aaload, 1) := by decide +kernel
theorem dX8_copyFrom_86 : decode cX8_copyFrom 86 = .ok (.invokevirtual 64, 3) := by decide +kernel
theorem dX8_copyFrom_89 : decode cX8_copyFrom 89 = .ok (.iinc 2 1, 3) := by decide +kernel
theorem dX8_copyFrom_92 : decode cX8_copyFrom 92 = .ok (.goto (-23), 3) := by decide +kernel
theorem dX8_copyFrom_95 : decode cX8_copyFrom 95 = .ok (.aload_n 0, 1) := by decide +kernel
theorem dX8_copyFrom_96 : decode cX8_copyFrom 96 = .ok (.aload_n 1, 1) := by decide +kernel
theorem dX8_copyFrom_97 : decode cX8_copyFrom 97 = .ok (.getfield 54, 3) := by decide +kernel
theorem dX8_copyFrom_100 : decode cX8_copyFrom 100 = .ok (.putfield 54, 3) := by decide +kernel
theorem dX8_copyFrom_103 : decode cX8_copyFrom 103 = .ok (.aload_n 0, 1) := by decide +kernel
theorem dX8_copyFrom_104 : decode cX8_copyFrom 104 = .ok (.aload_n 1, 1) := by decide +kernel
theorem dX8_copyFrom_105 : decode cX8_copyFrom 105 = .ok (.getfield 26, 3) := by decide +kernel
theorem dX8_copyFrom_108 : decode cX8_copyFrom 108 = .ok (.putfield 26, 3) := by decide +kernel
theorem dX8_copyFrom_111 : decode cX8_copyFrom 111 = .ok (.aload_n 0, 1) := by decide +kernel
theorem dX8_copyFrom_112 : decode cX8_copyFrom 112 = .ok (.aload_n 1, 1) := by decide +kernel
theorem dX8_copyFrom_113 : decode cX8_copyFrom 113 = .ok (.getfield 67, 3) := by decide +kernel
theorem dX8_copyFrom_116 : decode cX8_copyFrom 116 = .ok (.putfield 67, 3) := by decide +kernel
theorem dX8_copyFrom_119 : decode cX8_copyFrom 119 = .ok (.aload_n 0, 1) := by decide +kernel
theorem dX8_copyFrom_120 : decode cX8_copyFrom 120 = .ok (.aload_n 1, 1) := by decide +kernel
theorem dX8_copyFrom_121 : decode cX8_copyFrom 121 = .ok (.getfield 30, 3) := by decide +kernel
theorem dX8_copyFrom_124 : decode cX8_copyFrom 124 = .ok (.putfield 30, 3) := by decide +kernel
theorem dX8_copyFrom_127 : decode cX8_copyFrom 127 = .ok (.aload_n 1, 1) := by decide +kernel
theorem dX8_copyFrom_128 : decode cX8_copyFrom 128 = .ok (.getfield 33, 3) := by decide +kernel
theorem dX8_copyFrom_131 : decode cX8_copyFrom 131 = .ok (.iconst 0, 1) := by decide +kernel
theorem dX8_copyFrom_132 : decode cX8_copyFrom 132 = .ok (.aload_n 0, 1) := by decide +kernel
theorem dX8_copyFrom_133 : decode cX8_copyFrom 133 = .ok (.getfield 33, 3) := by decide +kernel
theorem dX8_copyFrom_136 : decode cX8_copyFrom 136 = .ok (.iconst 0, 1) := by decide +kernel
theorem dX8_copyFrom_137 : decode cX8_copyFrom 137 = .ok (.bipush 20, 2) := by decide +kernel
theorem dX8_copyFrom_139 : decode cX8_copyFrom 139 = .ok (.invokestatic 70, 3) := by decide +kernel
theorem dX8_copyFrom_142 : decode cX8_copyFrom 142 = .ok (.aload_n 1, 1) := by decide +kernel
theorem dX8_copyFrom_143 : decode cX8_copyFrom 143 = .ok (.getfield 37, 3) := by decide +kernel
theorem dX8_copyFrom_146 : decode cX8_copyFrom 146 = .ok (.iconst 0, 1) := by decide +kernel
theorem dX8_copyFrom_147 : decode cX8_copyFrom 147 = .ok (.aload_n 0, 1) := by decide +kernel
theorem dX8_copyFrom_148 : decode cX8_copyFrom 148 = .ok (.getfield 37, 3) := by decide +kernel
theorem dX8_copyFrom_151 : decode cX8_copyFrom 151 = .ok (.iconst 0, 1) := by decide +kernel
theorem dX8_copyFrom_152 : decode cX8_copyFrom 152 = .ok (.bipush 20, 2) := by decide +kernel
theorem dX8_copyFrom_154 : decode cX8_copyFrom 154 = .ok (.invokestatic 70, 3) := by decide +kernel
theorem dX8_copyFrom_157 : decode cX8_copyFrom 157 = .ok (.aload_n 0, 1) := by decide +kernel
theorem dX8_copyFrom_158 : decode cX8_copyFrom 158 = .ok (.aload_n 1, 1) := by decide +kernel
theorem dX8_copyFrom_159 : decode cX8_copyFrom 159 = .ok (.getfield 76, 3) := by decide +kernel
theorem dX8_copyFrom_162 : decode cX8_copyFrom 162 = .ok (.putfield 76, 3) := by decide +kernel
theorem dX8_copyFrom_165 : decode cX8_copyFrom 165 = .ok (.aload_n 1, 1) := by decide +kernel
theorem dX8_copyFrom_166 : decode cX8_copyFrom 166 = .ok (.getfield 40, 3) := by decide +kernel
theorem dX8_copyFrom_169 : decode cX8_copyFrom 169 = .ok (.iconst 0, 1) := by decide +kernel
theorem dX8_copyFrom_170 : decode cX8_copyFrom 170 = .ok (.aload_n 0, 1) := by decide +kernel
theorem dX8_copyFrom_171 : decode cX8_copyFrom 171 = .ok (.getfield 40, 3) := by decide +kernel
theorem dX8_copyFrom_174 : decode cX8_copyFrom 174 = .ok (.iconst 0, 1) := by decide +kernel
theorem dX8_copyFrom_175 : decode cX8_copyFrom 175 = .ok (.bipush 8, 2) := by decide +kernel
theorem dX8_copyFrom_177 : decode cX8_copyFrom 177 = .ok (.invokestatic 70, 3) := by decide +kernel
theorem dX8_copyFrom_180 : decode cX8_copyFrom 180 = .ok (.aload_n 1, 1) := by decide +kernel
theorem dX8_copyFrom_181 : decode cX8_copyFrom 181 = .ok (.getfield 43, 3) := by decide +kernel
theorem dX8_copyFrom_184 : decode cX8_copyFrom 184 = .ok (.iconst 0, 1) := by decide +kernel
theorem dX8_copyFrom_185 : decode cX8_copyFrom 185 = .ok (.aload_n 0, 1) := by decide +kernel
theorem dX8_copyFrom_186 : decode cX8_copyFrom 186 = .ok (.getfield 43, 3) := by decide +kernel
theorem dX8_copyFrom_189 : decode cX8_copyFrom 189 = .ok (.iconst 0, 1) := by decide +kernel
theorem dX8_copyFrom_190 : decode cX8_copyFrom 190 = .ok (.bipush 8, 2) := by decide +kernel
theorem dX8_copyFrom_192 : decode cX8_copyFrom 192 = .ok (.invokestatic 70, 3) := by decide +kernel
theorem dX8_copyFrom_195 : decode cX8_copyFrom 195 = .ok (.aload_n 0, 1) := by decide +kernel
theorem dX8_copyFrom_196 : decode cX8_copyFrom 196 = .ok (.aload_n 1, 1) := by decide +kernel
theorem dX8_copyFrom_197 : decode cX8_copyFrom 197 = .ok (.getfield 79, 3) := by decide +kernel
theorem dX8_copyFrom_200 : decode cX8_copyFrom 200 = .ok (.putfield 79, 3) := by decide +kernel
theorem dX8_copyFrom_203 : decode cX8_copyFrom 203 = .ok (.aload_n 1, 1) := by decide +kernel
theorem dX8_copyFrom_204 : decode cX8_copyFrom 204 = .ok (.getfield 46, 3) := by decide +kernel
theorem dX8_copyFrom_207 : decode cX8_copyFrom 207 = .ok (.iconst 0, 1) := by decide +kernel
theorem dX8_copyFrom_208 : decode cX8_copyFrom 208 = .ok (.aload_n 0, 1) := by decide +kernel
theorem dX8_copyFrom_209 : decode cX8_copyFrom 209 = .ok (.getfield 46, 3) := by decide +kernel
theorem dX8_copyFrom_212 : decode cX8_copyFrom 212 = .ok (.iconst 0, 1) := by decide +kernel
theorem dX8_copyFrom_213 : decode cX8_copyFrom 213 = .ok (.bipush 8, 2) := by decide +kernel
theorem dX8_copyFrom_215 : decode cX8_copyFrom 215 = .ok (.invokestatic 70, 3) := by decide +kernel
theorem dX8_copyFrom_218 : decode cX8_copyFrom 218 = .ok (.aload_n 1, 1) := by decide +kernel
theorem dX8_copyFrom_219 : decode cX8_copyFrom 219 = .ok (.getfield 49, 3) := by decide +kernel
theorem dX8_copyFrom_222 : decode cX8_copyFrom 222 = .ok (.iconst 0, 1) := by decide +kernel
theorem dX8_copyFrom_223 : decode cX8_copyFrom 223 = .ok (.aload_n 0, 1) := by decide +kernel
theorem dX8_copyFrom_224 : decode cX8_copyFrom 224 = .ok (.getfield 49, 3) := by decide +kernel
theorem dX8_copyFrom_227 : decode cX8_copyFrom 227 = .ok (.iconst 0, 1) := by decide +kernel
theorem dX8_copyFrom_228 : decode cX8_copyFrom 228 = .ok (.bipush 8, 2) := by decide +kernel
theorem dX8_copyFrom_230 : decode cX8_copyFrom 230 = .ok (.invokestatic 70, 3) := by decide +kernel
theorem dX8_copyFrom_233 : decode cX8_copyFrom 233 = .ok (.aload_n 0, 1) := by decide +kernel
theorem dX8_copyFrom_234 : decode cX8_copyFrom 234 = .ok (.aload_n 1, 1) := by decide +kernel
theorem dX8_copyFrom_235 : decode cX8_copyFrom 235 = .ok (.getfield 82, 3) := by decide +kernel
theorem dX8_copyFrom_238 : decode cX8_copyFrom 238 = .ok (.putfield 82, 3) := by decide +kernel
theorem dX8_copyFrom_241 : decode cX8_copyFrom 241 = .ok (.return_, 1) := by decide +kernel
theorem dX9_init_0 : decode cX9_init 0 = .ok (.aload_n 0, 1) := by decide +kernel
theorem dX9_init_1 : decode cX9_init 1 = .ok (.invokespecial 3, 3) := by decide +kernel
theorem dX9_init_4 : decode cX9_init 4 = .ok (.aload_n 0, 1) := by decide +kernel
theorem dX9_init_5 : decode cX9_init 5 = .ok (.new 9, 3) := by decide +kernel
theorem dX9_init_8 : decode cX9_init 8 = .ok (.dup, 1) := by decide +kernel
theorem dX9_init_9 : decode cX9_init 9 = .ok (.invokespecial 11, 3) := by decide +kernel
theorem dX9_init_12 : decode cX9_init 12 = .ok (.putfield 12, 3) := by decide +kernel
theorem dX9_init_15 : decode cX9_init 15 = .ok (.aload_n 0, 1) := by decide +kernel
theorem dX9_init_16 : decode cX9_init 16 = .ok (.sipush 500, 3) := by decide +kernel
theorem dX9_init_19 : decode cX9_init 19 = .ok (.newarray .int, 2) := by decide +kernel
theorem dX9_init_21 : decode cX9_init 21 = .ok (.putfield 16, 3) := by decide +kernel
theorem dX9_init_24 : decode cX9_init 24 = .ok (.aload_n 0, 1) := by decide +kernel
theorem dX9_init_25 : decode cX9_init 25 = .ok (.new 20, 3) := by decide +kernel
theorem dX9_init_28 : decode cX9_init 28 = .ok (.dup, 1) := by decide +kernel
theorem dX9_init_29 : decode cX9_init 29 = .ok (.invokespecial 22, 3) := by decide +kernel
theorem dX9_init_32 : decode cX9_init 32 = .ok (.putfield 23, 3) := by decide +kernel
theorem dX9_init_35 : decode cX9_init 35 = .ok (.aload_n 0, 1) := by decide +kernel
theorem dX9_init_36 : decode cX9_init 36 = .ok (.new 27, 3) := by decide +kernel
theorem dX9_init_39 : decode cX9_init 39 = .ok (.dup, 1) := by decide +kernel
theorem dX9_init_40 : decode cX9_init 40 = .ok (.invokespecial 29, 3) := by decide +kernel
theorem dX9_init_43 : decode cX9_init 43 = .ok (.putfield 30, 3) := by decide +kernel
theorem dX9_init_46 : decode cX9_init 46 = .ok (.aload_n 0, 1) := by decide +kernel
theorem dX9_init_47 : decode cX9_init 47 = .ok (.new 34, 3) := by decide +kernel
theorem dX9_init_50 : decode cX9_init 50 = .ok (.dup, 1) := by decide +kernel
theorem dX9_init_51 : decode cX9_init 51 = .ok (.invokespecial 36, 3) := by decide +kernel
theorem dX9_init_54 : decode cX9_init 54 = .ok (.putfield 37, 3) := by decide +kernel
theorem dX9_init_57 : decode cX9_init 57 = .ok (.aload_n 0, 1) := by decide +kernel
theorem dX9_init_58 : decode cX9_init 58 = .ok (.new 41, 3) := by decide +kernel
theorem dX9_init_61 : decode cX9_init 61 = .ok (.dup, 1) := by decide +kernel
theorem dX9_init_62 : decode cX9_init 62 = .ok (.invokespecial 43, 3) := by decide +kernel
theorem dX9_init_65 : decode cX9_init 65 = .ok (.putfield 44, 3) := by decide +kernel
theorem dX9_init_68 : decode cX9_init 68 = .ok (.aload_n 0, 1) := by decide +kernel
theorem dX9_init_69 : decode cX9_init 69 = .ok (.new 48, 3) := by decide +kernel
theorem dX9_init_72 : decode cX9_init 72 = .ok (.dup, 1) := by decide +kernel
theorem dX9_init_73 : decode cX9_init 73 = .ok (.invokespecial 50, 3) := by decide +kernel
theorem dX9_init_76 : decode cX9_init 76 = .ok (.putfield 51, 3) := by decide +kernel
theorem dX9_init_79 : decode cX9_init 79 = .ok (.aload_n 0, 1) := by decide +kernel
theorem dX9_init_80 : decode cX9_init 80 = .ok (.bipush 10, 2) := by decide +kernel
theorem dX9_init_82 : decode cX9_init 82 = .ok (.newarray .int, 2) := by decide +kernel
theorem dX9_init_84 : decode cX9_init 84 = .ok (.putfield 55, 3) := by decide +kernel
theorem dX9_init_87 : decode cX9_init 87 = .ok (.aload_n 0, 1) := by decide +kernel
theorem dX9_init_88 : decode cX9_init 88 = .ok (.bipush 16, 2) := by decide +kernel
theorem dX9_init_90 : decode cX9_init 90 = .ok (.newarray .int, 2) := by decide +kernel
theorem dX9_init_92 : decode cX9_init 92 = .ok (.putfield 58, 3) := by decide +kernel
theorem dX9_init_95 : decode cX9_init 95 = .ok (.aload_n 0, 1) := by decide +kernel
theorem dX9_init_96 : decode cX9_init 96 = .ok (.bipush 16, 2) := by decide +kernel
theorem dX9_init_98 : decode cX9_init 98 = .ok (.newarray .int, 2) := by decide +kernel
theorem dX9_init_100 : decode cX9_init 100 = .ok (.putfield 61, 3) := by decide +kernel
theorem dX9_init_103 : decode cX9_init 103 = .ok (.return_, 1) := by decide +kernel
theorem dX9_bar_0 : decode cX9_bar 0 = .ok (.iload_n 1, 1) := by decide +kernel
theorem dX9_bar_1 : decode cX9_bar 1 = .ok (.iconst 3, 1) := by decide +kernel
theorem dX9_bar_2 : decode cX9_bar 2 = .ok (.if_icmp .lt 21, 3) := by decide +kernel
theorem dX9_bar_5 : decode cX9_bar 5 = .ok (.iload_n 1, 1) := by decide +kernel
theorem dX9_bar_6 : decode cX9_bar 6 = .ok (.bipush 16, 2) := by decide +kernel
theorem dX9_bar_8 : decode cX9_bar 8 = .ok (.if_icmp .gt 15, 3) := by decide +kernel
theorem dX9_bar_11 : decode cX9_bar 11 = .ok (.aload_n 0, 1) := by decide +kernel
theorem dX9_bar_12 : decode cX9_bar 12 = .ok (.getfield 12, 3) := by decide +kernel
theorem dX9_bar_15 : decode cX9_bar 15 = .ok (.getfield 64, 3) := by decide +kernel
theorem dX9_bar_18 : decode cX9_bar 18 = .ok (.bipush 10, 2) := by decide +kernel
theorem dX9_bar_20 : decode cX9_bar 20 = .ok (.if_icmp .lt 5, 3) := by decide +kernel
theorem dX9_bar_23 : decode cX9_bar 23 = .ok (.iconst (-1), 1) := by decide +kernel
theorem dX9_bar_24 : decode cX9_bar 24 = .ok (.ireturn, 1) := by decide +kernel
theorem dX9_bar_25 : decode cX9_bar 25 = .ok (.aload_n 0, 1) := by decide +kernel
theorem dX9_bar_26 : decode cX9_bar 26 = .ok (.getfield 12, 3) := by decide +kernel
theorem dX9_bar_29 : decode cX9_bar 29 = .ok (.getfield 68, 3) := by decide +kernel
theorem dX9_bar_32 : decode cX9_bar 32 = .ok (.aload_n 0, 1) := by decide +kernel
theorem dX9_bar_33 : decode cX9_bar 33 = .ok (.getfield 12, 3) := by decide +kernel
theorem dX9_bar_36 : decode cX9_bar 36 = .ok (.getfield 64, 3) := by decide +kernel
theorem dX9_bar_39 : decode cX9_bar 39 = .ok (.aaload, 1) := by decide +kernel
theorem dX9_bar_40 : decode cX9_bar 40 = .ok (.iload_n 1, 1) := by decide +kernel
theorem dX9_bar_41 : decode cX9_bar 41 = .ok (.invokevirtual 72, 3) := by decide +kernel
theorem dX9_bar_44 : decode cX9_bar 44 = .ok (.aload_n 0, 1) := by decide +kernel
theorem dX9_bar_45 : decode cX9_bar 45 = .ok (.getfield 12, 3) := by decide +kernel
theorem dX9_bar_48 : decode cX9_bar 48 = .ok (.dup, 1) := by decide +kernel
theorem dX9_bar_49 : decode cX9_bar 49 = .ok (.getfield 64, 3) := by decide +kernel
theorem dX9_bar_52 : decode cX9_bar 52 = .ok (.iconst 1, 1) := by decide +kernel
theorem dX9_bar_53 : decode cX9_bar 53 = .ok (.iadd, 1) := by decide +kernel
theorem dX9_bar_54 : decode cX9_bar 54 = .ok (.putfield 64, 3) := by decide +kernel
theorem dX9_bar_57 : decode cX9_bar 57 = .ok (.aload_n 0, 1) := by decide +kernel
theorem dX9_bar_58 : decode cX9_bar 58 = .ok (.getfield 12, 3) := by decide +kernel
theorem dX9_bar_61 : decode cX9_bar 61 = .ok (.getfield 64, 3) := by decide +kernel
theorem dX9_bar_64 : decode cX9_bar 64 = .ok (.iconst 1, 1) := by decide +kernel
theorem dX9_bar_65 : decode cX9_bar 65 = .ok (.isub, 1) := by decide +kernel
theorem dX9_bar_66 : decode cX9_bar 66 = .ok (.ireturn, 1) := by decide +kernel
theorem dX9_slice_0 : decode cX9_slice 0 = .ok (.aload_n 0, 1) := by decide +kernel
theorem dX9_slice_1 : decode cX9_slice 1 = .ok (.iload_n 1, 1) := by decide +kernel
theorem dX9_slice_2 : decode cX9_slice 2 = .ok (.invokevirtual 78, 3) := by decide +kernel
theorem dX9_slice_5 : decode cX9_slice 5 = .ok (.astore 6, 2) := by decide +kernel
theorem dX9_slice_7 : decode cX9_slice 7 = .ok (.aload 6, 2) := by decide +kernel
theorem dX9_slice_9 : decode cX9_slice 9 = .ok (.ifnull 52, 3) := by decide +kernel
theorem dX9_slice_12 : decode cX9_slice 12 = .ok (.aload 6, 2) := by decide +kernel
theorem dX9_slice_14 : decode cX9_slice 14 = .ok (.iload_n 2, 1) := by decide +kernel
theorem dX9_slice_15 : decode cX9_slice 15 = .ok (.invokevirtual 82, 3) := by decide +kernel
theorem dX9_slice_18 : decode cX9_slice 18 = .ok (.ifCond .eq 43, 3) := by decide +kernel
theorem dX9_slice_21 : decode cX9_slice 21 = .ok (.aload 6, 2) := by decide +kernel
theorem dX9_slice_23 : decode cX9_slice 23 = .ok (.getfield 86, 3) := by decide +kernel
theorem dX9_slice_26 : decode cX9_slice 26 = .ok (.ifCond .gt 35, 3) := by decide +kernel
theorem dX9_slice_29 : decode cX9_slice 29 = .ok (.iload_n 3, 1) := by decide +kernel
theorem dX9_slice_30 : decode cX9_slice 30 = .ok (.iconst 1, 1) := by decide +kernel
theorem dX9_slice_31 : decode cX9_slice 31 = .ok (.bipush 99, 2) := by decide +kernel
theorem dX9_slice_33 : decode cX9_slice 33 = .ok (.invokestatic 89, 3) := by decide +kernel
theorem dX9_slice_36 : decode cX9_slice 36 = .ok (.ifCond .eq 25, 3) := by decide +kernel
theorem dX9_slice_39 : decode cX9_slice 39 = .ok (.iload 4, 2) := by decide +kernel
theorem dX9_slice_41 : decode cX9_slice 41 = .ok (.iconst 1, 1) := by decide +kernel
theorem dX9_slice_42 : decode cX9_slice 42 = .ok (.bipush 9, 2) := by decide +kernel
theorem dX9_slice_44 : decode cX9_slice 44 = .ok (.invokestatic 89, 3) := by decide +kernel
theorem dX9_slice_47 : decode cX9_slice 47 = .ok (.ifCond .eq 14, 3) := by decide +kernel
theorem dX9_slice_50 : decode cX9_slice 50 = .ok (.iload 5, 2) := by decide +kernel
theorem dX9_slice_52 : decode cX9_slice 52 = .ok (.iconst 1, 1) := by decide +kernel
theorem dX9_slice_53 : decode cX9_slice 53 = .ok (.bipush 9, 2) := by decide +kernel
theorem dX9_slice_55 : decode cX9_slice 55 = .ok (.invokestatic 89, 3) := by decide +kernel
theorem dX9_slice_58 : decode cX9_slice 58 = .ok (.ifCond .ne 5, 3) := by decide +kernel
theorem dX9_slice_61 : decode cX9_slice 61 = .ok (.iconst 0, 1) := by decide +kernel
theorem dX9_slice_62 : decode cX9_slice 62 = .ok (.ireturn, 1) := by decide +kernel
theorem dX9_slice_63 : decode cX9_slice 63 = .ok (.aload 6, 2) := by decide +kernel
theorem dX9_slice_65 : decode cX9_slice 65 = .ok (.getfield 93, 3) := by decide +kernel
theorem dX9_slice_68 : decode cX9_slice 68 = .ok (.iload_n 2, 1) := by decide +kernel
theorem dX9_slice_69 : decode cX9_slice 69 = .ok (.iload_n 3, 1) := by decide +kernel
theorem dX9_slice_70 : decode cX9_slice 70 = .ok (.iastore, 1) := by decide +kernel
theorem dX9_slice_71 : decode cX9_slice 71 = .ok (.aload 6, 2) := by decide +kernel
theorem dX9_slice_73 : decode cX9_slice 73 = .ok (.getfield 96, 3) := by decide +kernel
theorem dX9_slice_76 : decode cX9_slice 76 = .ok (.iload_n 2, 1) := by decide +kernel
theorem dX9_slice_77 : decode cX9_slice 77 = .ok (.iload 4, 2) := by decide +kernel
theorem dX9_slice_79 : decode cX9_slice 79 = .ok (.iastore, 1) := by decide +kernel
theorem dX9_slice_80 : decode cX9_slice 80 = .ok (.aload 6, 2) := by decide +kernel
theorem dX9_slice_82 : decode cX9_slice 82 = .ok (.getfield 99, 3) := by decide +kernel
theorem dX9_slice_85 : decode cX9_slice 85 = .ok (.iload_n 2, 1) := by decide +kernel
theorem dX9_slice_86 : decode cX9_slice 86 = .ok (.iload 5, 2) := by decide +kernel
theorem dX9_slice_88 : decode cX9_slice 88 = .ok (.iastore, 1) := by decide +kernel
theorem dX9_slice_89 : decode cX9_slice 89 = .ok (.iconst 1, 1) := by decide +kernel
theorem dX9_slice_90 : decode cX9_slice 90 = .ok (.ireturn, 1) := by decide +kernel
theorem dX9_wax_0 : decode cX9_wax 0 = .ok (.aload_n 0, 1) := by decide +kernel
theorem dX9_wax_1 : decode cX9_wax 1 = .ok (.iload_n 1, 1) := by decide +kernel
theorem dX9_wax_2 : decode cX9_wax 2 = .ok (.invokevirtual 78, 3) := by decide +kernel
theorem dX9_wax_5 : decode cX9_wax 5 = .ok (.astore 4, 2) := by decide +kernel
theorem dX9_wax_7 : decode cX9_wax 7 = .ok (.aload 4, 2) := by decide +kernel
theorem dX9_wax_9 : decode cX9_wax 9 = .ok (.ifnull 22, 3) := by decide +kernel
theorem dX9_wax_12 : decode cX9_wax 12 = .ok (.aload 4, 2) := by decide +kernel
theorem dX9_wax_14 : decode cX9_wax 14 = .ok (.iload_n 2, 1) := by decide +kernel
theorem dX9_wax_15 : decode cX9_wax 15 = .ok (.invokevirtual 82, 3) := by decide +kernel
theorem dX9_wax_18 : decode cX9_wax 18 = .ok (.ifCond .eq 13, 3) := by decide +kernel
theorem dX9_wax_21 : decode cX9_wax 21 = .ok (.iload_n 3, 1) := by decide +kernel
theorem dX9_wax_22 : decode cX9_wax 22 = .ok (.iconst 0, 1) := by decide +kernel
theorem dX9_wax_23 : decode cX9_wax 23 = .ok (.bipush 99, 2) := by decide +kernel
theorem dX9_wax_25 : decode cX9_wax 25 = .ok (.invokestatic 89, 3) := by decide +kernel
theorem dX9_wax_28 : decode cX9_wax 28 = .ok (.ifCond .ne 5, 3) := by decide +kernel
theorem dX9_wax_31 : decode cX9_wax 31 = .ok (.iconst 0, 1) := by decide +kernel
theorem dX9_wax_32 : decode cX9_wax 32 = .ok (.ireturn, 1) := by decide +kernel
theorem dX9_wax_33 : decode cX9_wax 33 = .ok (.aload 4, 2) := by decide +kernel
theorem dX9_wax_35 : decode cX9_wax 35 = .ok (.getfield 102, 3) := by decide +kernel
theorem dX9_wax_38 : decode cX9_wax 38 = .ok (.iload_n 2, 1) := by decide +kernel
theorem dX9_wax_39 : decode cX9_wax 39 = .ok (.iload_n 3, 1) := by decide +kernel
theorem dX9_wax_40 : decode cX9_wax 40 = .ok (.iastore, 1) := by decide +kernel
theorem dX9_wax_41 : decode cX9_wax 41 = .ok (.iconst 1, 1) := by decide +kernel
theorem dX9_wax_42 : decode cX9_wax 42 = .ok (.ireturn, 1) := by decide +kernel
theorem dX9_of_0 : decode cX9_of 0 = .ok (.aload_n 0, 1) := by decide +kernel
theorem dX9_of_1 : decode cX9_of 1 = .ok (.iload_n 1, 1) := by decide +kernel
theorem dX9_of_2 : decode cX9_of 2 = .ok (.invokevirtual 78, 3) := by decide +kernel
theorem dX9_of_5 : decode cX9_of 5 = .ok (.astore 4, 2) := by decide +kernel
theorem dX9_of_7 : decode cX9_of 7 = .ok (.aload 4, 2) := by decide +kernel
theorem dX9_of_9 : decode cX9_of 9 = .ok (.ifnull 12, 3) := by decide +kernel
theorem dX9_of_12 : decode cX9_of 12 = .ok (.aload 4, 2) := by decide +kernel
theorem dX9_of_14 : decode cX9_of 14 = .ok (.iload_n 2, 1) := by decide +kernel
theorem dX9_of_15 : decode cX9_of 15 = .ok (.invokevirtual 82, 3) := by decide +kernel
theorem dX9_of_18 : decode cX9_of 18 = .ok (.ifCond .ne 5, 3) := by decide +kernel
theorem dX9_of_21 : decode cX9_of 21 = .ok (.iconst (-1), 1) := by decide +kernel
theorem dX9_of_22 : decode cX9_of 22 = .ok (.ireturn, 1) := by decide +kernel
theorem dX9_of_23 : decode cX9_of 23 = .ok (.iload_n 3, 1) := by decide +kernel
theorem dX9_of_24 : decode cX9_of 24 = .ok (.tableswitch 64 0 3 #[32, 40, 48, 56], 32) := by decide +kernel
theorem dX9_of_56 : decode cX9_of 56 = .ok (.aload 4, 2) := by decide +kernel
theorem dX9_of_58 : decode cX9_of 58 = .ok (.getfield 93, 3) := by decide +kernel
theorem dX9_of_61 : decode cX9_of 61 = .ok (.iload_n 2, 1) := by decide +kernel
theorem dX9_of_62 : decode cX9_of 62 = .ok (.iaload, 1) := by decide +kernel
theorem dX9_of_63 : decode cX9_of 63 = .ok (.ireturn, 1) := by decide +kernel
theorem dX9_of_64 : decode cX9_of 64 = .ok (.aload 4, 2) := by decide +kernel
theorem dX9_of_66 : decode cX9_of 66 = .ok (.getfield 96, 3) := by decide +kernel
theorem dX9_of_69 : decode cX9_of 69 = .ok (.iload_n 2, 1) := by decide +kernel
theorem dX9_of_70 : decode cX9_of 70 = .ok (.iaload, 1) := by decide +kernel
theorem dX9_of_71 : decode cX9_of 71 = .ok (.ireturn, 1) := by decide +kernel
theorem dX9_of_72 : decode cX9_of 72 = .ok (.aload 4, 2) := by decide +kernel
theorem dX9_of_74 : decode cX9_of 74 = .ok (.getfield 99, 3) := by decide +kernel
theorem dX9_of_77 : decode cX9_of 77 = .ok (.iload_n 2, 1) := by decide +kernel
theorem dX9_of_78 : decode cX9_of 78 = .ok (.iaload, 1) := by decide +kernel
theorem dX9_of_79 : decode cX9_of 79 = .ok (.ireturn, 1) := by decide +kernel
theorem dX9_of_80 : decode cX9_of 80 = .ok (.aload 4, 2) := by decide +kernel
theorem dX9_of_82 : decode cX9_of 82 = .ok (.getfield 102, 3) := by decide +kernel
theorem dX9_of_85 : decode cX9_of 85 = .ok (.iload_n 2, 1) := by decide +kernel
theorem dX9_of_86 : decode cX9_of 86 = .ok (.iaload, 1) := by decide +kernel
theorem dX9_of_87 : decode cX9_of 87 = .ok (.ireturn, 1) := by decide +kernel
theorem dX9_of_88 : decode cX9_of 88 = .ok (.iconst (-1), 1) := by decide +kernel
theorem dX9_of_89 : decode cX9_of 89 = .ok (.ireturn, 1) := by decide +kernel
theorem dX9_feed_0 : decode cX9_feed 0 = .ok (.aload_n 0, 1) := by decide +kernel
theorem dX9_feed_1 : decode cX9_feed 1 = .ok (.getfield 105, 3) := by decide +kernel
theorem dX9_feed_4 : decode cX9_feed 4 = .ok (.bipush 20, 2) := by decide +kernel
theorem dX9_feed_6 : decode cX9_feed 6 = .ok (.iadd, 1) := by decide +kernel
theorem dX9_feed_7 : decode cX9_feed 7 = .ok (.sipush 500, 3) := by decide +kernel
theorem dX9_feed_10 : decode cX9_feed 10 = .ok (.if_icmp .le 5, 3) := by decide +kernel
theorem dX9_feed_13 : decode cX9_feed 13 = .ok (.iconst (-1), 1) := by decide +kernel
theorem dX9_feed_14 : decode cX9_feed 14 = .ok (.ireturn, 1) := by decide +kernel
theorem dX9_feed_15 : decode cX9_feed 15 = .ok (.aload_n 0, 1) := by decide +kernel
theorem dX9_feed_16 : decode cX9_feed 16 = .ok (.iload_n 1, 1) := by decide +kernel
theorem dX9_feed_17 : decode cX9_feed 17 = .ok (.invokevirtual 108, 3) := by decide +kernel
theorem dX9_feed_20 : decode cX9_feed 20 = .ok (.aload_n 0, 1) := by decide +kernel
theorem dX9_feed_21 : decode cX9_feed 21 = .ok (.iload_n 2, 1) := by decide +kernel
theorem dX9_feed_22 : decode cX9_feed 22 = .ok (.invokevirtual 108, 3) := by decide +kernel
theorem dX9_feed_25 : decode cX9_feed 25 = .ok (.aload_n 0, 1) := by decide +kernel
theorem dX9_feed_26 : decode cX9_feed 26 = .ok (.iload_n 3, 1) := by decide +kernel
theorem dX9_feed_27 : decode cX9_feed 27 = .ok (.invokevirtual 108, 3) := by decide +kernel
theorem dX9_feed_30 : decode cX9_feed 30 = .ok (.aload_n 0, 1) := by decide +kernel
theorem dX9_feed_31 : decode cX9_feed 31 = .ok (.iload 4, 2) := by decide +kernel
theorem dX9_feed_33 : decode cX9_feed 33 = .ok (.invokevirtual 108, 3) := by decide +kernel
theorem dX9_feed_36 : decode cX9_feed 36 = .ok (.aload_n 0, 1) := by decide +kernel
theorem dX9_feed_37 : decode cX9_feed 37 = .ok (.iload 5, 2) := by decide +kernel
theorem dX9_feed_39 : decode cX9_feed 39 = .ok (.invokevirtual 108, 3) := by decide +kernel
theorem dX9_feed_42 : decode cX9_feed 42 = .ok (.aload_n 0, 1) := by decide +kernel
theorem dX9_feed_43 : decode cX9_feed 43 = .ok (.getfield 105, 3) := by decide +kernel
theorem dX9_feed_46 : decode cX9_feed 46 = .ok (.ireturn, 1) := by decide +kernel
theorem dX9_end_0 : decode cX9_end 0 = .ok (.iload_n 1, 1) := by decide +kernel
theorem dX9_end_1 : decode cX9_end 1 = .ok (.ifCond .lt 11, 3) := by decide +kernel
theorem dX9_end_4 : decode cX9_end 4 = .ok (.iload_n 1, 1) := by decide +kernel
theorem dX9_end_5 : decode cX9_end 5 = .ok (.aload_n 0, 1) := by decide +kernel
theorem dX9_end_6 : decode cX9_end 6 = .ok (.getfield 105, 3) := by decide +kernel
theorem dX9_end_9 : decode cX9_end 9 = .ok (.if_icmp .le 5, 3) := by decide +kernel
theorem dX9_end_12 : decode cX9_end 12 = .ok (.iconst 0, 1) := by decide +kernel
theorem dX9_end_13 : decode cX9_end 13 = .ok (.ireturn, 1) := by decide +kernel
theorem dX9_end_14 : decode cX9_end 14 = .ok (.aload_n 0, 1) := by decide +kernel
theorem dX9_end_15 : decode cX9_end 15 = .ok (.iload_n 1, 1) := by decide +kernel
theorem dX9_end_16 : decode cX9_end 16 = .ok (.putfield 105, 3) := by decide +kernel
theorem dX9_end_19 : decode cX9_end 19 = .ok (.iconst 1, 1) := by decide +kernel
theorem dX9_end_20 : decode cX9_end 20 = .ok (.ireturn, 1) := by decide +kernel
theorem dX9_text_0 : decode cX9_text 0 = .ok (.aload_n 0, 1) := by decide +kernel
theorem dX9_text_1 : decode cX9_text 1 = .ok (.getfield 105, 3) := by decide +kernel
theorem dX9_text_4 : decode cX9_text 4 = .ok (.istore_n 3, 1) := by decide +kernel
theorem dX9_text_5 : decode cX9_text 5 = .ok (.aload_n 0, 1) := by decide +kernel
theorem dX9_text_6 : decode cX9_text 6 = .ok (.iconst 0, 1) := by decide +kernel
theorem dX9_text_7 : decode cX9_text 7 = .ok (.putfield 105, 3) := by decide +kernel
theorem dX9_text_10 : decode cX9_text 10 = .ok (.aload_n 0, 1) := by decide +kernel
theorem dX9_text_11 : decode cX9_text 11 = .ok (.getfield 12, 3) := by decide +kernel
theorem dX9_text_14 : decode cX9_text 14 = .ok (.iconst 0, 1) := by decide +kernel
theorem dX9_text_15 : decode cX9_text 15 = .ok (.putfield 111, 3) := by decide +kernel
theorem dX9_text_18 : decode cX9_text 18 = .ok (.aload_n 0, 1) := by decide +kernel
theorem dX9_text_19 : decode cX9_text 19 = .ok (.getfield 12, 3) := by decide +kernel
theorem dX9_text_22 : decode cX9_text 22 = .ok (.iconst (-1), 1) := by decide +kernel
theorem dX9_text_23 : decode cX9_text 23 = .ok (.putfield 114, 3) := by decide +kernel
theorem dX9_text_26 : decode cX9_text 26 = .ok (.aload_n 0, 1) := by decide +kernel
theorem dX9_text_27 : decode cX9_text 27 = .ok (.iload_n 1, 1) := by decide +kernel
theorem dX9_text_28 : decode cX9_text 28 = .ok (.iload_n 2, 1) := by decide +kernel
theorem dX9_text_29 : decode cX9_text 29 = .ok (.invokevirtual 117, 3) := by decide +kernel
theorem dX9_text_32 : decode cX9_text 32 = .ok (.astore 4, 2) := by decide +kernel
theorem dX9_text_34 : decode cX9_text 34 = .ok (.aload 4, 2) := by decide +kernel
theorem dX9_text_36 : decode cX9_text 36 = .ok (.ifnonnull 5, 3) := by decide +kernel
theorem dX9_text_39 : decode cX9_text 39 = .ok (.iconst (-1), 1) := by decide +kernel
theorem dX9_text_40 : decode cX9_text 40 = .ok (.ireturn, 1) := by decide +kernel
theorem dX9_text_41 : decode cX9_text 41 = .ok (.aload_n 0, 1) := by decide +kernel
theorem dX9_text_42 : decode cX9_text 42 = .ok (.getfield 23, 3) := by decide +kernel
theorem dX9_text_45 : decode cX9_text 45 = .ok (.aload_n 0, 1) := by decide +kernel
theorem dX9_text_46 : decode cX9_text 46 = .ok (.getfield 16, 3) := by decide +kernel
theorem dX9_text_49 : decode cX9_text 49 = .ok (.iload_n 3, 1) := by decide +kernel
theorem dX9_text_50 : decode cX9_text 50 = .ok (.iload_n 1, 1) := by decide +kernel
theorem dX9_text_51 : decode cX9_text 51 = .ok (.ifCond .ne 7, 3) := by decide +kernel
theorem dX9_text_54 : decode cX9_text 54 = .ok (.iconst 1, 1) := by decide +kernel
theorem dX9_text_55 : decode cX9_text 55 = .ok (.goto 4, 3) := by decide +kernel
theorem dX9_text_58 : decode cX9_text 58 = .ok (.iconst 0, 1) := by decide +kernel
theorem dX9_text_59 : decode cX9_text 59 = .ok (.invokevirtual 121, 3) := by decide +kernel
theorem dX9_text_62 : decode cX9_text 62 = .ok (.iconst 0, 1) := by decide +kernel
theorem dX9_text_63 : decode cX9_text 63 = .ok (.istore 5, 2) := by decide +kernel
theorem dX9_text_65 : decode cX9_text 65 = .ok (.iload 5, 2) := by decide +kernel
theorem dX9_text_67 : decode cX9_text 67 = .ok (.bipush 16, 2) := by decide +kernel
theorem dX9_text_69 : decode cX9_text 69 = .ok (.if_icmp .gt 27, 3) := by decide +kernel
theorem dX9_text_72 : decode cX9_text 72 = .ok (.aload_n 0, 1) := by decide +kernel
theorem dX9_text_73 : decode cX9_text 73 = .ok (.getfield 23, 3) := by decide +kernel
theorem dX9_text_76 : decode cX9_text 76 = .ok (.invokevirtual 125, 3) := by decide +kernel
theorem dX9_text_79 : decode cX9_text 79 = .ok (.ifCond .eq 17, 3) := by decide +kernel
theorem dX9_text_82 : decode cX9_text 82 = .ok (.aload_n 0, 1) := by decide +kernel
theorem dX9_text_83 : decode cX9_text 83 = .ok (.getfield 23, 3) := by decide +kernel
theorem dX9_text_86 : decode cX9_text 86 = .ok (.invokevirtual 129, 3) := by decide +kernel
theorem dX9_text_89 : decode cX9_text 89 = .ok (.pop, 1) := by decide +kernel
theorem dX9_text_90 : decode cX9_text 90 = .ok (.iinc 5 1, 3) := by decide +kernel
theorem dX9_text_93 : decode cX9_text 93 = .ok (.goto (-28), 3) := by decide +kernel
theorem dX9_text_96 : decode cX9_text 96 = .ok (.aload_n 0, 1) := by decide +kernel
theorem dX9_text_97 : decode cX9_text 97 = .ok (.getfield 23, 3) := by decide +kernel
theorem dX9_text_100 : decode cX9_text 100 = .ok (.getfield 132, 3) := by decide +kernel
theorem dX9_text_103 : decode cX9_text 103 = .ok (.ifCond .eq 33, 3) := by decide +kernel
theorem dX9_text_106 : decode cX9_text 106 = .ok (.aload_n 0, 1) := by decide +kernel
theorem dX9_text_107 : decode cX9_text 107 = .ok (.getfield 12, 3) := by decide +kernel
theorem dX9_text_110 : decode cX9_text 110 = .ok (.aload_n 0, 1) := by decide +kernel
theorem dX9_text_111 : decode cX9_text 111 = .ok (.getfield 23, 3) := by decide +kernel
theorem dX9_text_114 : decode cX9_text 114 = .ok (.getfield 132, 3) := by decide +kernel
theorem dX9_text_117 : decode cX9_text 117 = .ok (.putfield 111, 3) := by decide +kernel
theorem dX9_text_120 : decode cX9_text 120 = .ok (.aload_n 0, 1) := by decide +kernel
theorem dX9_text_121 : decode cX9_text 121 = .ok (.getfield 12, 3) := by decide +kernel
theorem dX9_text_124 : decode cX9_text 124 = .ok (.aload_n 0, 1) := by decide +kernel
theorem dX9_text_125 : decode cX9_text 125 = .ok (.getfield 23, 3) := by decide +kernel
theorem dX9_text_128 : decode cX9_text 128 = .ok (.getfield 133, 3) := by decide +kernel
theorem dX9_text_131 : decode cX9_text 131 = .ok (.putfield 114, 3) := by decide +kernel
theorem dX9_text_134 : decode cX9_text 134 = .ok (.iconst (-1), 1) := by decide +kernel
theorem dX9_text_135 : decode cX9_text 135 = .ok (.ireturn, 1) := by decide +kernel
theorem dX9_text_136 : decode cX9_text 136 = .ok (.aload 4, 2) := by decide +kernel
theorem dX9_text_138 : decode cX9_text 138 = .ok (.aload_n 0, 1) := by decide +kernel
theorem dX9_text_139 : decode cX9_text 139 = .ok (.getfield 23, 3) := by decide +kernel
theorem dX9_text_142 : decode cX9_text 142 = .ok (.getfield 134, 3) := by decide +kernel
theorem dX9_text_145 : decode cX9_text 145 = .ok (.invokevirtual 138, 3) := by decide +kernel
theorem dX9_text_148 : decode cX9_text 148 = .ok (.aload 4, 2) := by decide +kernel
theorem dX9_text_150 : decode cX9_text 150 = .ok (.getfield 144, 3) := by decide +kernel
theorem dX9_text_153 : decode cX9_text 153 = .ok (.ireturn, 1) := by decide +kernel
theorem dX9_fault_0 : decode cX9_fault 0 = .ok (.iload_n 1, 1) := by decide +kernel
theorem dX9_fault_1 : decode cX9_fault 1 = .ok (.lookupswitch 43 #[(0, 27), (1, 35)], 27) := by decide +kernel
theorem dX9_fault_28 : decode cX9_fault 28 = .ok (.aload_n 0, 1) := by decide +kernel
theorem dX9_fault_29 : decode cX9_fault 29 = .ok (.getfield 12, 3) := by decide +kernel
theorem dX9_fault_32 : decode cX9_fault 32 = .ok (.getfield 111, 3) := by decide +kernel
theorem dX9_fault_35 : decode cX9_fault 35 = .ok (.ireturn, 1) := by decide +kernel
theorem dX9_fault_36 : decode cX9_fault 36 = .ok (.aload_n 0, 1) := by decide +kernel
theorem dX9_fault_37 : decode cX9_fault 37 = .ok (.getfield 12, 3) := by decide +kernel
theorem dX9_fault_40 : decode cX9_fault 40 = .ok (.getfield 114, 3) := by decide +kernel
theorem dX9_fault_43 : decode cX9_fault 43 = .ok (.ireturn, 1) := by decide +kernel
theorem dX9_fault_44 : decode cX9_fault 44 = .ok (.iconst (-1), 1) := by decide +kernel
theorem dX9_fault_45 : decode cX9_fault 45 = .ok (.ireturn, 1) := by decide +kernel
theorem dX9_force_0 : decode cX9_force 0 = .ok (.iload_n 1, 1) := by decide +kernel
theorem dX9_force_1 : decode cX9_force 1 = .ok (.iconst 0, 1) := by decide +kernel
theorem dX9_force_2 : decode cX9_force 2 = .ok (.iconst 1, 1) := by decide +kernel
theorem dX9_force_3 : decode cX9_force 3 = .ok (.invokestatic 89, 3) := by decide +kernel
theorem dX9_force_6 : decode cX9_force 6 = .ok (.ifCond .ne 5, 3) := by decide +kernel
theorem dX9_force_9 : decode cX9_force 9 = .ok (.iconst (-1), 1) := by decide +kernel
theorem dX9_force_10 : decode cX9_force 10 = .ok (.ireturn, 1) := by decide +kernel
theorem dX9_force_11 : decode cX9_force 11 = .ok (.aload_n 0, 1) := by decide +kernel
theorem dX9_force_12 : decode cX9_force 12 = .ok (.getfield 12, 3) := by decide +kernel
theorem dX9_force_15 : decode cX9_force 15 = .ok (.getfield 147, 3) := by decide +kernel
theorem dX9_force_18 : decode cX9_force 18 = .ok (.istore_n 2, 1) := by decide +kernel
theorem dX9_force_19 : decode cX9_force 19 = .ok (.aload_n 0, 1) := by decide +kernel
theorem dX9_force_20 : decode cX9_force 20 = .ok (.getfield 12, 3) := by decide +kernel
theorem dX9_force_23 : decode cX9_force 23 = .ok (.iload_n 1, 1) := by decide +kernel
theorem dX9_force_24 : decode cX9_force 24 = .ok (.putfield 147, 3) := by decide +kernel
theorem dX9_force_27 : decode cX9_force 27 = .ok (.iload_n 2, 1) := by decide +kernel
theorem dX9_force_28 : decode cX9_force 28 = .ok (.ireturn, 1) := by decide +kernel
theorem dX9_tells_0 : decode cX9_tells 0 = .ok (.aload_n 0, 1) := by decide +kernel
theorem dX9_tells_1 : decode cX9_tells 1 = .ok (.iload 4, 2) := by decide +kernel
theorem dX9_tells_3 : decode cX9_tells 3 = .ok (.invokevirtual 78, 3) := by decide +kernel
theorem dX9_tells_6 : decode cX9_tells 6 = .ok (.astore 6, 2) := by decide +kernel
theorem dX9_tells_8 : decode cX9_tells 8 = .ok (.aload 6, 2) := by decide +kernel
theorem dX9_tells_10 : decode cX9_tells 10 = .ok (.ifnull 38, 3) := by decide +kernel
theorem dX9_tells_13 : decode cX9_tells 13 = .ok (.aload 6, 2) := by decide +kernel
theorem dX9_tells_15 : decode cX9_tells 15 = .ok (.iload 5, 2) := by decide +kernel
theorem dX9_tells_17 : decode cX9_tells 17 = .ok (.invokevirtual 82, 3) := by decide +kernel
theorem dX9_tells_20 : decode cX9_tells 20 = .ok (.ifCond .eq 28, 3) := by decide +kernel
theorem dX9_tells_23 : decode cX9_tells 23 = .ok (.iload_n 1, 1) := by decide +kernel
theorem dX9_tells_24 : decode cX9_tells 24 = .ok (.iconst 0, 1) := by decide +kernel
theorem dX9_tells_25 : decode cX9_tells 25 = .ok (.iconst 1, 1) := by decide +kernel
theorem dX9_tells_26 : decode cX9_tells 26 = .ok (.invokestatic 89, 3) := by decide +kernel
theorem dX9_tells_29 : decode cX9_tells 29 = .ok (.ifCond .eq 19, 3) := by decide +kernel
theorem dX9_tells_32 : decode cX9_tells 32 = .ok (.iload_n 2, 1) := by decide +kernel
theorem dX9_tells_33 : decode cX9_tells 33 = .ok (.iconst 0, 1) := by decide +kernel
theorem dX9_tells_34 : decode cX9_tells 34 = .ok (.iconst 2, 1) := by decide +kernel
theorem dX9_tells_35 : decode cX9_tells 35 = .ok (.invokestatic 89, 3) := by decide +kernel
theorem dX9_tells_38 : decode cX9_tells 38 = .ok (.ifCond .eq 10, 3) := by decide +kernel
theorem dX9_tells_41 : decode cX9_tells 41 = .ok (.iload_n 3, 1) := by decide +kernel
theorem dX9_tells_42 : decode cX9_tells 42 = .ok (.invokestatic 150, 3) := by decide +kernel
theorem dX9_tells_45 : decode cX9_tells 45 = .ok (.ifCond .ne 6, 3) := by decide +kernel
theorem dX9_tells_48 : decode cX9_tells 48 = .ok (.ldc 153, 2) := by decide +kernel
theorem dX9_tells_50 : decode cX9_tells 50 = .ok (.ireturn, 1) := by decide +kernel
theorem dX9_tells_51 : decode cX9_tells 51 = .ok (.aload_n 0, 1) := by decide +kernel
theorem dX9_tells_52 : decode cX9_tells 52 = .ok (.getfield 30, 3) := by decide +kernel
theorem dX9_tells_55 : decode cX9_tells 55 = .ok (.aload 6, 2) := by decide +kernel
theorem dX9_tells_57 : decode cX9_tells 57 = .ok (.iload 5, 2) := by decide +kernel
theorem dX9_tells_59 : decode cX9_tells 59 = .ok (.aload 6, 2) := by decide +kernel
theorem dX9_tells_61 : decode cX9_tells 61 = .ok (.getfield 93, 3) := by decide +kernel
theorem dX9_tells_64 : decode cX9_tells 64 = .ok (.iload 5, 2) := by decide +kernel
theorem dX9_tells_66 : decode cX9_tells 66 = .ok (.iaload, 1) := by decide +kernel
theorem dX9_tells_67 : decode cX9_tells 67 = .ok (.aload 6, 2) := by decide +kernel
theorem dX9_tells_69 : decode cX9_tells 69 = .ok (.getfield 96, 3) := by decide +kernel
theorem dX9_tells_72 : decode cX9_tells 72 = .ok (.iload 5, 2) := by decide +kernel
theorem dX9_tells_74 : decode cX9_tells 74 = .ok (.iaload, 1) := by decide +kernel
theorem dX9_tells_75 : decode cX9_tells 75 = .ok (.aload 6, 2) := by decide +kernel
theorem dX9_tells_77 : decode cX9_tells 77 = .ok (.getfield 102, 3) := by decide +kernel
theorem dX9_tells_80 : decode cX9_tells 80 = .ok (.iload 5, 2) := by decide +kernel
theorem dX9_tells_82 : decode cX9_tells 82 = .ok (.iaload, 1) := by decide +kernel
theorem dX9_tells_83 : decode cX9_tells 83 = .ok (.invokevirtual 154, 3) := by decide +kernel
theorem dX9_tells_86 : decode cX9_tells 86 = .ok (.aload_n 0, 1) := by decide +kernel
theorem dX9_tells_87 : decode cX9_tells 87 = .ok (.getfield 30, 3) := by decide +kernel
theorem dX9_tells_90 : decode cX9_tells 90 = .ok (.aload_n 0, 1) := by decide +kernel
theorem dX9_tells_91 : decode cX9_tells 91 = .ok (.getfield 12, 3) := by decide +kernel
theorem dX9_tells_94 : decode cX9_tells 94 = .ok (.getfield 158, 3) := by decide +kernel
theorem dX9_tells_97 : decode cX9_tells 97 = .ok (.iload_n 1, 1) := by decide +kernel
theorem dX9_tells_98 : decode cX9_tells 98 = .ok (.aaload, 1) := by decide +kernel
theorem dX9_tells_99 : decode cX9_tells 99 = .ok (.iload_n 2, 1) := by decide +kernel
theorem dX9_tells_100 : decode cX9_tells 100 = .ok (.iload_n 3, 1) := by decide +kernel
theorem dX9_tells_101 : decode cX9_tells 101 = .ok (.invokevirtual 162, 3) := by decide +kernel
theorem dX9_tells_104 : decode cX9_tells 104 = .ok (.ireturn, 1) := by decide +kernel
theorem dX9_tone_0 : decode cX9_tone 0 = .ok (.aload_n 0, 1) := by decide +kernel
theorem dX9_tone_1 : decode cX9_tone 1 = .ok (.iload_n 1, 1) := by decide +kernel
theorem dX9_tone_2 : decode cX9_tone 2 = .ok (.invokevirtual 78, 3) := by decide +kernel
theorem dX9_tone_5 : decode cX9_tone 5 = .ok (.astore_n 3, 1) := by decide +kernel
theorem dX9_tone_6 : decode cX9_tone 6 = .ok (.aload_n 3, 1) := by decide +kernel
theorem dX9_tone_7 : decode cX9_tone 7 = .ok (.ifnull 10, 3) := by decide +kernel
theorem dX9_tone_10 : decode cX9_tone 10 = .ok (.iload_n 2, 1) := by decide +kernel
theorem dX9_tone_11 : decode cX9_tone 11 = .ok (.invokestatic 150, 3) := by decide +kernel
theorem dX9_tone_14 : decode cX9_tone 14 = .ok (.ifCond .ne 5, 3) := by decide +kernel
theorem dX9_tone_17 : decode cX9_tone 17 = .ok (.iconst (-1), 1) := by decide +kernel
theorem dX9_tone_18 : decode cX9_tone 18 = .ok (.ireturn, 1) := by decide +kernel
theorem dX9_tone_19 : decode cX9_tone 19 = .ok (.aload_n 0, 1) := by decide +kernel
theorem dX9_tone_20 : decode cX9_tone 20 = .ok (.aload_n 3, 1) := by decide +kernel
theorem dX9_tone_21 : decode cX9_tone 21 = .ok (.iload_n 2, 1) := by decide +kernel
theorem dX9_tone_22 : decode cX9_tone 22 = .ok (.invokevirtual 166, 3) := by decide +kernel
theorem dX9_tone_25 : decode cX9_tone 25 = .ok (.ireturn, 1) := by decide +kernel
theorem dX9_shave_0 : decode cX9_shave 0 = .ok (.aload_n 0, 1) := by decide +kernel
theorem dX9_shave_1 : decode cX9_shave 1 = .ok (.iload_n 1, 1) := by decide +kernel
theorem dX9_shave_2 : decode cX9_shave 2 = .ok (.invokevirtual 78, 3) := by decide +kernel
theorem dX9_shave_5 : decode cX9_shave 5 = .ok (.astore 4, 2) := by decide +kernel
theorem dX9_shave_7 : decode cX9_shave 7 = .ok (.aload 4, 2) := by decide +kernel
theorem dX9_shave_9 : decode cX9_shave 9 = .ok (.ifnonnull 5, 3) := by decide +kernel
theorem dX9_shave_12 : decode cX9_shave 12 = .ok (.iconst (-1), 1) := by decide +kernel
theorem dX9_shave_13 : decode cX9_shave 13 = .ok (.ireturn, 1) := by decide +kernel
theorem dX9_shave_14 : decode cX9_shave 14 = .ok (.aload_n 0, 1) := by decide +kernel
theorem dX9_shave_15 : decode cX9_shave 15 = .ok (.aload 4, 2) := by decide +kernel
theorem dX9_shave_17 : decode cX9_shave 17 = .ok (.iload_n 2, 1) := by decide +kernel
theorem dX9_shave_18 : decode cX9_shave 18 = .ok (.iload_n 3, 1) := by decide +kernel
theorem dX9_shave_19 : decode cX9_shave 19 = .ok (.invokevirtual 170, 3) := by decide +kernel
theorem dX9_shave_22 : decode cX9_shave 22 = .ok (.ireturn, 1) := by decide +kernel
theorem dX9_pass_0 : decode cX9_pass 0 = .ok (.aload_n 0, 1) := by decide +kernel
theorem dX9_pass_1 : decode cX9_pass 1 = .ok (.iload_n 1, 1) := by decide +kernel
theorem dX9_pass_2 : decode cX9_pass 2 = .ok (.invokevirtual 78, 3) := by decide +kernel
theorem dX9_pass_5 : decode cX9_pass 5 = .ok (.astore 4, 2) := by decide +kernel
theorem dX9_pass_7 : decode cX9_pass 7 = .ok (.aload 4, 2) := by decide +kernel
theorem dX9_pass_9 : decode cX9_pass 9 = .ok (.ifnull 16, 3) := by decide +kernel
theorem dX9_pass_12 : decode cX9_pass 12 = .ok (.iload_n 2, 1) := by decide +kernel
theorem dX9_pass_13 : decode cX9_pass 13 = .ok (.iconst 1, 1) := by decide +kernel
theorem dX9_pass_14 : decode cX9_pass 14 = .ok (.aload 4, 2) := by decide +kernel
theorem dX9_pass_16 : decode cX9_pass 16 = .ok (.getfield 86, 3) := by decide +kernel
theorem dX9_pass_19 : decode cX9_pass 19 = .ok (.invokestatic 89, 3) := by decide +kernel
theorem dX9_pass_22 : decode cX9_pass 22 = .ok (.ifCond .ne 5, 3) := by decide +kernel
theorem dX9_pass_25 : decode cX9_pass 25 = .ok (.iconst (-1), 1) := by decide +kernel
theorem dX9_pass_26 : decode cX9_pass 26 = .ok (.ireturn, 1) := by decide +kernel
theorem dX9_pass_27 : decode cX9_pass 27 = .ok (.iload_n 3, 1) := by decide +kernel
theorem dX9_pass_28 : decode cX9_pass 28 = .ok (.lookupswitch 48 #[(0, 28), (1, 38)], 28) := by decide +kernel
theorem dX9_pass_56 : decode cX9_pass 56 = .ok (.aload 4, 2) := by decide +kernel
theorem dX9_pass_58 : decode cX9_pass 58 = .ok (.getfield 174, 3) := by decide +kernel
theorem dX9_pass_61 : decode cX9_pass 61 = .ok (.iload_n 2, 1) := by decide +kernel
theorem dX9_pass_62 : decode cX9_pass 62 = .ok (.iconst 1, 1) := by decide +kernel
theorem dX9_pass_63 : decode cX9_pass 63 = .ok (.isub, 1) := by decide +kernel
theorem dX9_pass_64 : decode cX9_pass 64 = .ok (.iaload, 1) := by decide +kernel
theorem dX9_pass_65 : decode cX9_pass 65 = .ok (.ireturn, 1) := by decide +kernel
theorem dX9_pass_66 : decode cX9_pass 66 = .ok (.aload 4, 2) := by decide +kernel
theorem dX9_pass_68 : decode cX9_pass 68 = .ok (.getfield 177, 3) := by decide +kernel
theorem dX9_pass_71 : decode cX9_pass 71 = .ok (.iload_n 2, 1) := by decide +kernel
theorem dX9_pass_72 : decode cX9_pass 72 = .ok (.iconst 1, 1) := by decide +kernel
theorem dX9_pass_73 : decode cX9_pass 73 = .ok (.isub, 1) := by decide +kernel
theorem dX9_pass_74 : decode cX9_pass 74 = .ok (.iaload, 1) := by decide +kernel
theorem dX9_pass_75 : decode cX9_pass 75 = .ok (.ireturn, 1) := by decide +kernel
theorem dX9_pass_76 : decode cX9_pass 76 = .ok (.iconst (-1), 1) := by decide +kernel
theorem dX9_pass_77 : decode cX9_pass 77 = .ok (.ireturn, 1) := by decide +kernel
theorem dX9_goal_0 : decode cX9_goal 0 = .ok (.aload_n 0, 1) := by decide +kernel
theorem dX9_goal_1 : decode cX9_goal 1 = .ok (.iload_n 1, 1) := by decide +kernel
theorem dX9_goal_2 : decode cX9_goal 2 = .ok (.invokevirtual 78, 3) := by decide +kernel
theorem dX9_goal_5 : decode cX9_goal 5 = .ok (.astore 4, 2) := by decide +kernel
theorem dX9_goal_7 : decode cX9_goal 7 = .ok (.aload 4, 2) := by decide +kernel
theorem dX9_goal_9 : decode cX9_goal 9 = .ok (.ifnull 20, 3) := by decide +kernel
theorem dX9_goal_12 : decode cX9_goal 12 = .ok (.iload_n 2, 1) := by decide +kernel
theorem dX9_goal_13 : decode cX9_goal 13 = .ok (.invokestatic 150, 3) := by decide +kernel
theorem dX9_goal_16 : decode cX9_goal 16 = .ok (.ifCond .eq 13, 3) := by decide +kernel
theorem dX9_goal_19 : decode cX9_goal 19 = .ok (.iload_n 3, 1) := by decide +kernel
theorem dX9_goal_20 : decode cX9_goal 20 = .ok (.iconst 0, 1) := by decide +kernel
theorem dX9_goal_21 : decode cX9_goal 21 = .ok (.ldc 180, 2) := by decide +kernel
theorem dX9_goal_23 : decode cX9_goal 23 = .ok (.invokestatic 89, 3) := by decide +kernel
theorem dX9_goal_26 : decode cX9_goal 26 = .ok (.ifCond .ne 5, 3) := by decide +kernel
theorem dX9_goal_29 : decode cX9_goal 29 = .ok (.iconst 0, 1) := by decide +kernel
theorem dX9_goal_30 : decode cX9_goal 30 = .ok (.ireturn, 1) := by decide +kernel
theorem dX9_goal_31 : decode cX9_goal 31 = .ok (.aload 4, 2) := by decide +kernel
theorem dX9_goal_33 : decode cX9_goal 33 = .ok (.getfield 181, 3) := by decide +kernel
theorem dX9_goal_36 : decode cX9_goal 36 = .ok (.iload_n 2, 1) := by decide +kernel
theorem dX9_goal_37 : decode cX9_goal 37 = .ok (.iload_n 3, 1) := by decide +kernel
theorem dX9_goal_38 : decode cX9_goal 38 = .ok (.iastore, 1) := by decide +kernel
theorem dX9_goal_39 : decode cX9_goal 39 = .ok (.iconst 1, 1) := by decide +kernel
theorem dX9_goal_40 : decode cX9_goal 40 = .ok (.ireturn, 1) := by decide +kernel
theorem dX9_slack_0 : decode cX9_slack 0 = .ok (.iload_n 1, 1) := by decide +kernel
theorem dX9_slack_1 : decode cX9_slack 1 = .ok (.iconst 0, 1) := by decide +kernel
theorem dX9_slack_2 : decode cX9_slack 2 = .ok (.sipush 9999, 3) := by decide +kernel
theorem dX9_slack_5 : decode cX9_slack 5 = .ok (.invokestatic 89, 3) := by decide +kernel
theorem dX9_slack_8 : decode cX9_slack 8 = .ok (.ifCond .ne 5, 3) := by decide +kernel
theorem dX9_slack_11 : decode cX9_slack 11 = .ok (.iconst 0, 1) := by decide +kernel
theorem dX9_slack_12 : decode cX9_slack 12 = .ok (.ireturn, 1) := by decide +kernel
theorem dX9_slack_13 : decode cX9_slack 13 = .ok (.aload_n 0, 1) := by decide +kernel
theorem dX9_slack_14 : decode cX9_slack 14 = .ok (.getfield 12, 3) := by decide +kernel
theorem dX9_slack_17 : decode cX9_slack 17 = .ok (.iload_n 1, 1) := by decide +kernel
theorem dX9_slack_18 : decode cX9_slack 18 = .ok (.putfield 184, 3) := by decide +kernel
theorem dX9_slack_21 : decode cX9_slack 21 = .ok (.iconst 1, 1) := by decide +kernel
theorem dX9_slack_22 : decode cX9_slack 22 = .ok (.ireturn, 1) := by decide +kernel
theorem dX9_state_0 : decode cX9_state 0 = .ok (.aload_n 0, 1) := by decide +kernel
theorem dX9_state_1 : decode cX9_state 1 = .ok (.iload_n 1, 1) := by decide +kernel
theorem dX9_state_2 : decode cX9_state 2 = .ok (.invokevirtual 78, 3) := by decide +kernel
theorem dX9_state_5 : decode cX9_state 5 = .ok (.astore_n 3, 1) := by decide +kernel
theorem dX9_state_6 : decode cX9_state 6 = .ok (.aload_n 3, 1) := by decide +kernel
theorem dX9_state_7 : decode cX9_state 7 = .ok (.ifnonnull 6, 3) := by decide +kernel
theorem dX9_state_10 : decode cX9_state 10 = .ok (.bipush (-2), 2) := by decide +kernel
theorem dX9_state_12 : decode cX9_state 12 = .ok (.ireturn, 1) := by decide +kernel
theorem dX9_state_13 : decode cX9_state 13 = .ok (.iload_n 2, 1) := by decide +kernel
theorem dX9_state_14 : decode cX9_state 14 = .ok (.tableswitch 129 0 9 #[54, 59, 64, 78, 92, 97, 104, 111, 118, 123], 54) := by decide +kernel
theorem dX9_state_68 : decode cX9_state 68 = .ok (.aload_n 3, 1) := by decide +kernel
theorem dX9_state_69 : decode cX9_state 69 = .ok (.getfield 187, 3) := by decide +kernel
theorem dX9_state_72 : decode cX9_state 72 = .ok (.ireturn, 1) := by decide +kernel
theorem dX9_state_73 : decode cX9_state 73 = .ok (.aload_n 3, 1) := by decide +kernel
theorem dX9_state_74 : decode cX9_state 74 = .ok (.getfield 86, 3) := by decide +kernel
theorem dX9_state_77 : decode cX9_state 77 = .ok (.ireturn, 1) := by decide +kernel
theorem dX9_state_78 : decode cX9_state 78 = .ok (.aload_n 0, 1) := by decide +kernel
theorem dX9_state_79 : decode cX9_state 79 = .ok (.aload_n 3, 1) := by decide +kernel
theorem dX9_state_80 : decode cX9_state 80 = .ok (.invokevirtual 190, 3) := by decide +kernel
theorem dX9_state_83 : decode cX9_state 83 = .ok (.ifCond .eq 7, 3) := by decide +kernel
theorem dX9_state_86 : decode cX9_state 86 = .ok (.iconst 1, 1) := by decide +kernel
theorem dX9_state_87 : decode cX9_state 87 = .ok (.goto 4, 3) := by decide +kernel
theorem dX9_state_90 : decode cX9_state 90 = .ok (.iconst 0, 1) := by decide +kernel
theorem dX9_state_91 : decode cX9_state 91 = .ok (.ireturn, 1) := by decide +kernel
theorem dX9_state_92 : decode cX9_state 92 = .ok (.aload_n 0, 1) := by decide +kernel
theorem dX9_state_93 : decode cX9_state 93 = .ok (.aload_n 3, 1) := by decide +kernel
theorem dX9_state_94 : decode cX9_state 94 = .ok (.invokevirtual 194, 3) := by decide +kernel
theorem dX9_state_97 : decode cX9_state 97 = .ok (.ifCond .eq 7, 3) := by decide +kernel
theorem dX9_state_100 : decode cX9_state 100 = .ok (.iconst 1, 1) := by decide +kernel
theorem dX9_state_101 : decode cX9_state 101 = .ok (.goto 4, 3) := by decide +kernel
theorem dX9_state_104 : decode cX9_state 104 = .ok (.iconst 0, 1) := by decide +kernel
theorem dX9_state_105 : decode cX9_state 105 = .ok (.ireturn, 1) := by decide +kernel
theorem dX9_state_106 : decode cX9_state 106 = .ok (.aload_n 3, 1) := by decide +kernel
theorem dX9_state_107 : decode cX9_state 107 = .ok (.getfield 197, 3) := by decide +kernel
theorem dX9_state_110 : decode cX9_state 110 = .ok (.ireturn, 1) := by decide +kernel
theorem dX9_state_111 : decode cX9_state 111 = .ok (.aload_n 3, 1) := by decide +kernel
theorem dX9_state_112 : decode cX9_state 112 = .ok (.getfield 181, 3) := by decide +kernel
theorem dX9_state_115 : decode cX9_state 115 = .ok (.iconst 0, 1) := by decide +kernel
theorem dX9_state_116 : decode cX9_state 116 = .ok (.iaload, 1) := by decide +kernel
theorem dX9_state_117 : decode cX9_state 117 = .ok (.ireturn, 1) := by decide +kernel
theorem dX9_state_118 : decode cX9_state 118 = .ok (.aload_n 3, 1) := by decide +kernel
theorem dX9_state_119 : decode cX9_state 119 = .ok (.getfield 181, 3) := by decide +kernel
theorem dX9_state_122 : decode cX9_state 122 = .ok (.iconst 1, 1) := by decide +kernel
theorem dX9_state_123 : decode cX9_state 123 = .ok (.iaload, 1) := by decide +kernel
theorem dX9_state_124 : decode cX9_state 124 = .ok (.ireturn, 1) := by decide +kernel
theorem dX9_state_125 : decode cX9_state 125 = .ok (.aload_n 3, 1) := by decide +kernel
theorem dX9_state_126 : decode cX9_state 126 = .ok (.getfield 181, 3) := by decide +kernel
theorem dX9_state_129 : decode cX9_state 129 = .ok (.iconst 2, 1) := by decide +kernel
theorem dX9_state_130 : decode cX9_state 130 = .ok (.iaload, 1) := by decide +kernel
theorem dX9_state_131 : decode cX9_state 131 = .ok (.ireturn, 1) := by decide +kernel
theorem dX9_state_132 : decode cX9_state 132 = .ok (.aload_n 3, 1) := by decide +kernel
theorem dX9_state_133 : decode cX9_state 133 = .ok (.getfield 200, 3) := by decide +kernel
theorem dX9_state_136 : decode cX9_state 136 = .ok (.ireturn, 1) := by decide +kernel
theorem dX9_state_137 : decode cX9_state 137 = .ok (.aload_n 0, 1) := by decide +kernel
theorem dX9_state_138 : decode cX9_state 138 = .ok (.aload_n 3, 1) := by decide +kernel
theorem dX9_state_139 : decode cX9_state 139 = .ok (.invokevirtual 203, 3) := by decide +kernel
theorem dX9_state_142 : decode cX9_state 142 = .ok (.ireturn, 1) := by decide +kernel
theorem dX9_state_143 : decode cX9_state 143 = .ok (.bipush (-2), 2) := by decide +kernel
theorem dX9_state_145 : decode cX9_state 145 = .ok (.ireturn, 1) := by decide +kernel
theorem dX9_takes_0 : decode cX9_takes 0 = .ok (.aload_n 0, 1) := by decide +kernel
theorem dX9_takes_1 : decode cX9_takes 1 = .ok (.iload_n 1, 1) := by decide +kernel
theorem dX9_takes_2 : decode cX9_takes 2 = .ok (.invokevirtual 78, 3) := by decide +kernel
theorem dX9_takes_5 : decode cX9_takes 5 = .ok (.astore 4, 2) := by decide +kernel
theorem dX9_takes_7 : decode cX9_takes 7 = .ok (.aload 4, 2) := by decide +kernel
theorem dX9_takes_9 : decode cX9_takes 9 = .ok (.ifnull 30, 3) := by decide +kernel
theorem dX9_takes_12 : decode cX9_takes 12 = .ok (.aload 4, 2) := by decide +kernel
theorem dX9_takes_14 : decode cX9_takes 14 = .ok (.iload_n 2, 1) := by decide +kernel
theorem dX9_takes_15 : decode cX9_takes 15 = .ok (.invokevirtual 82, 3) := by decide +kernel
theorem dX9_takes_18 : decode cX9_takes 18 = .ok (.ifCond .eq 21, 3) := by decide +kernel
theorem dX9_takes_21 : decode cX9_takes 21 = .ok (.iload_n 3, 1) := by decide +kernel
theorem dX9_takes_22 : decode cX9_takes 22 = .ok (.invokestatic 150, 3) := by decide +kernel
theorem dX9_takes_25 : decode cX9_takes 25 = .ok (.ifCond .eq 14, 3) := by decide +kernel
theorem dX9_takes_28 : decode cX9_takes 28 = .ok (.aload 4, 2) := by decide +kernel
theorem dX9_takes_30 : decode cX9_takes 30 = .ok (.getfield 93, 3) := by decide +kernel
theorem dX9_takes_33 : decode cX9_takes 33 = .ok (.iload_n 2, 1) := by decide +kernel
theorem dX9_takes_34 : decode cX9_takes 34 = .ok (.iaload, 1) := by decide +kernel
theorem dX9_takes_35 : decode cX9_takes 35 = .ok (.iconst 1, 1) := by decide +kernel
theorem dX9_takes_36 : decode cX9_takes 36 = .ok (.if_icmp .gt 6, 3) := by decide +kernel
theorem dX9_takes_39 : decode cX9_takes 39 = .ok (.ldc 207, 2) := by decide +kernel
theorem dX9_takes_41 : decode cX9_takes 41 = .ok (.ireturn, 1) := by decide +kernel
theorem dX9_takes_42 : decode cX9_takes 42 = .ok (.aload 4, 2) := by decide +kernel
theorem dX9_takes_44 : decode cX9_takes 44 = .ok (.aload_n 0, 1) := by decide +kernel
theorem dX9_takes_45 : decode cX9_takes 45 = .ok (.getfield 61, 3) := by decide +kernel
theorem dX9_takes_48 : decode cX9_takes 48 = .ok (.iload_n 2, 1) := by decide +kernel
theorem dX9_takes_49 : decode cX9_takes 49 = .ok (.invokevirtual 208, 3) := by decide +kernel
theorem dX9_takes_52 : decode cX9_takes 52 = .ok (.aload_n 0, 1) := by decide +kernel
theorem dX9_takes_53 : decode cX9_takes 53 = .ok (.aload 4, 2) := by decide +kernel
theorem dX9_takes_55 : decode cX9_takes 55 = .ok (.iload_n 3, 1) := by decide +kernel
theorem dX9_takes_56 : decode cX9_takes 56 = .ok (.invokevirtual 166, 3) := by decide +kernel
theorem dX9_takes_59 : decode cX9_takes 59 = .ok (.aload_n 0, 1) := by decide +kernel
theorem dX9_takes_60 : decode cX9_takes 60 = .ok (.getfield 30, 3) := by decide +kernel
theorem dX9_takes_63 : decode cX9_takes 63 = .ok (.aload_n 0, 1) := by decide +kernel
theorem dX9_takes_64 : decode cX9_takes 64 = .ok (.getfield 12, 3) := by decide +kernel
theorem dX9_takes_67 : decode cX9_takes 67 = .ok (.invokevirtual 212, 3) := by decide +kernel
theorem dX9_takes_70 : decode cX9_takes 70 = .ok (.iload_n 3, 1) := by decide +kernel
theorem dX9_takes_71 : decode cX9_takes 71 = .ok (.aload 4, 2) := by decide +kernel
theorem dX9_takes_73 : decode cX9_takes 73 = .ok (.aload_n 0, 1) := by decide +kernel
theorem dX9_takes_74 : decode cX9_takes 74 = .ok (.getfield 61, 3) := by decide +kernel
theorem dX9_takes_77 : decode cX9_takes 77 = .ok (.aload 4, 2) := by decide +kernel
theorem dX9_takes_79 : decode cX9_takes 79 = .ok (.getfield 96, 3) := by decide +kernel
theorem dX9_takes_82 : decode cX9_takes 82 = .ok (.aload 4, 2) := by decide +kernel
theorem dX9_takes_84 : decode cX9_takes 84 = .ok (.getfield 102, 3) := by decide +kernel
theorem dX9_takes_87 : decode cX9_takes 87 = .ok (.invokevirtual 216, 3) := by decide +kernel
theorem dX9_takes_90 : decode cX9_takes 90 = .ok (.isub, 1) := by decide +kernel
theorem dX9_takes_91 : decode cX9_takes 91 = .ok (.ireturn, 1) := by decide +kernel
theorem dX9_job_0 : decode cX9_job 0 = .ok (.aload_n 0, 1) := by decide +kernel
theorem dX9_job_1 : decode cX9_job 1 = .ok (.iload_n 2, 1) := by decide +kernel
theorem dX9_job_2 : decode cX9_job 2 = .ok (.invokevirtual 78, 3) := by decide +kernel
theorem dX9_job_5 : decode cX9_job 5 = .ok (.astore_n 3, 1) := by decide +kernel
theorem dX9_job_6 : decode cX9_job 6 = .ok (.aload_n 3, 1) := by decide +kernel
theorem dX9_job_7 : decode cX9_job 7 = .ok (.ifnull 12, 3) := by decide +kernel
