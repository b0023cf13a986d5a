theorem dX9_enough_138 : decode cX9_enough 138 = .ok (.iload_n 3, 1) := by decide +kernel
theorem dX9_enough_139 : decode cX9_enough 139 = .ok (.invokevirtual 162, 3) := by decide +kernel
theorem dX9_enough_142 : decode cX9_enough 142 = .ok (.iadd, 1) := by decide +kernel
theorem dX9_enough_143 : decode cX9_enough 143 = .ok (.iload 6, 2) := by decide +kernel
theorem dX9_enough_145 : decode cX9_enough 145 = .ok (.aload_n 0, 1) := by decide +kernel
theorem dX9_enough_146 : decode cX9_enough 146 = .ok (.getfield 30, 3) := by decide +kernel
theorem dX9_enough_149 : decode cX9_enough 149 = .ok (.aload_n 0, 1) := by decide +kernel
theorem dX9_enough_150 : decode cX9_enough 150 = .ok (.getfield 12, 3) := by decide +kernel
theorem dX9_enough_153 : decode cX9_enough 153 = .ok (.invokevirtual 212, 3) := by decide +kernel
theorem dX9_enough_156 : decode cX9_enough 156 = .ok (.iconst 1, 1) := by decide +kernel
theorem dX9_enough_157 : decode cX9_enough 157 = .ok (.iload_n 3, 1) := by decide +kernel
theorem dX9_enough_158 : decode cX9_enough 158 = .ok (.invokevirtual 162, 3) := by decide +kernel
theorem dX9_enough_161 : decode cX9_enough 161 = .ok (.iadd, 1) := by decide +kernel
theorem dX9_enough_162 : decode cX9_enough 162 = .ok (.invokestatic 345, 3) := by decide +kernel
theorem dX9_enough_165 : decode cX9_enough 165 = .ok (.istore 8, 2) := by decide +kernel
theorem dX9_enough_167 : decode cX9_enough 167 = .ok (.iload 8, 2) := by decide +kernel
theorem dX9_enough_169 : decode cX9_enough 169 = .ok (.aload 4, 2) := by decide +kernel
theorem dX9_enough_171 : decode cX9_enough 171 = .ok (.getfield 181, 3) := by decide +kernel
theorem dX9_enough_174 : decode cX9_enough 174 = .ok (.iload_n 3, 1) := by decide +kernel
theorem dX9_enough_175 : decode cX9_enough 175 = .ok (.iaload, 1) := by decide +kernel
theorem dX9_enough_176 : decode cX9_enough 176 = .ok (.aload_n 0, 1) := by decide +kernel
theorem dX9_enough_177 : decode cX9_enough 177 = .ok (.getfield 12, 3) := by decide +kernel
theorem dX9_enough_180 : decode cX9_enough 180 = .ok (.getfield 184, 3) := by decide +kernel
theorem dX9_enough_183 : decode cX9_enough 183 = .ok (.iadd, 1) := by decide +kernel
theorem dX9_enough_184 : decode cX9_enough 184 = .ok (.if_icmp .gt 6, 3) := by decide +kernel
theorem dX9_enough_187 : decode cX9_enough 187 = .ok (.iload 7, 2) := by decide +kernel
theorem dX9_enough_189 : decode cX9_enough 189 = .ok (.ireturn, 1) := by decide +kernel
theorem dX9_enough_190 : decode cX9_enough 190 = .ok (.iinc 7 1, 3) := by decide +kernel
theorem dX9_enough_193 : decode cX9_enough 193 = .ok (.goto (-102), 3) := by decide +kernel
theorem dX9_enough_196 : decode cX9_enough 196 = .ok (.iconst (-1), 1) := by decide +kernel
theorem dX9_enough_197 : decode cX9_enough 197 = .ok (.ireturn, 1) := by decide +kernel
theorem dX9_image_0 : decode cX9_image 0 = .ok (.iload_n 1, 1) := by decide +kernel
theorem dX9_image_1 : decode cX9_image 1 = .ok (.ifCond .eq 35, 3) := by decide +kernel
theorem dX9_image_4 : decode cX9_image 4 = .ok (.aload_n 0, 1) := by decide +kernel
theorem dX9_image_5 : decode cX9_image 5 = .ok (.getfield 348, 3) := by decide +kernel
theorem dX9_image_8 : decode cX9_image 8 = .ok (.ifnonnull 14, 3) := by decide +kernel
theorem dX9_image_11 : decode cX9_image 11 = .ok (.aload_n 0, 1) := by decide +kernel
theorem dX9_image_12 : decode cX9_image 12 = .ok (.new 9, 3) := by decide +kernel
theorem dX9_image_15 : decode cX9_image 15 = .ok (.dup, 1) := by decide +kernel
theorem dX9_image_16 : decode cX9_image 16 = .ok (.invokespecial 11, 3) := by decide +kernel
theorem dX9_image_19 : decode cX9_image 19 = .ok (.putfield 348, 3) := by decide +kernel
theorem dX9_image_22 : decode cX9_image 22 = .ok (.aload_n 0, 1) := by decide +kernel
theorem dX9_image_23 : decode cX9_image 23 = .ok (.getfield 348, 3) := by decide +kernel
theorem dX9_image_26 : decode cX9_image 26 = .ok (.aload_n 0, 1) := by decide +kernel
theorem dX9_image_27 : decode cX9_image 27 = .ok (.getfield 12, 3) := by decide +kernel
theorem dX9_image_30 : decode cX9_image 30 = .ok (.invokevirtual 351, 3) := by decide +kernel
theorem dX9_image_33 : decode cX9_image 33 = .ok (.goto 21, 3) := by decide +kernel
theorem dX9_image_36 : decode cX9_image 36 = .ok (.aload_n 0, 1) := by decide +kernel
theorem dX9_image_37 : decode cX9_image 37 = .ok (.getfield 348, 3) := by decide +kernel
theorem dX9_image_40 : decode cX9_image 40 = .ok (.ifnull 14, 3) := by decide +kernel
theorem dX9_image_43 : decode cX9_image 43 = .ok (.aload_n 0, 1) := by decide +kernel
theorem dX9_image_44 : decode cX9_image 44 = .ok (.getfield 12, 3) := by decide +kernel
theorem dX9_image_47 : decode cX9_image 47 = .ok (.aload_n 0, 1) := by decide +kernel
theorem dX9_image_48 : decode cX9_image 48 = .ok (.getfield 348, 3) := by decide +kernel
theorem dX9_image_51 : decode cX9_image 51 = .ok (.invokevirtual 351, 3) := by decide +kernel
theorem dX9_image_54 : decode cX9_image 54 = .ok (.aload_n 0, 1) := by decide +kernel
theorem dX9_image_55 : decode cX9_image 55 = .ok (.getfield 348, 3) := by decide +kernel
theorem dX9_image_58 : decode cX9_image 58 = .ok (.ifnull 7, 3) := by decide +kernel
theorem dX9_image_61 : decode cX9_image 61 = .ok (.iconst 1, 1) := by decide +kernel
theorem dX9_image_62 : decode cX9_image 62 = .ok (.goto 4, 3) := by decide +kernel
theorem dX9_image_65 : decode cX9_image 65 = .ok (.iconst 0, 1) := by decide +kernel
theorem dX9_image_66 : decode cX9_image 66 = .ok (.ireturn, 1) := by decide +kernel
theorem dX9_look_0 : decode cX9_look 0 = .ok (.iload_n 1, 1) := by decide +kernel
theorem dX9_look_1 : decode cX9_look 1 = .ok (.tableswitch 105 0 7 #[47, 55, 63, 71, 79, 87, 95, 100], 47) := by decide +kernel
theorem dX9_look_48 : decode cX9_look 48 = .ok (.aload_n 0, 1) := by decide +kernel
theorem dX9_look_49 : decode cX9_look 49 = .ok (.getfield 12, 3) := by decide +kernel
theorem dX9_look_52 : decode cX9_look 52 = .ok (.getfield 64, 3) := by decide +kernel
theorem dX9_look_55 : decode cX9_look 55 = .ok (.ireturn, 1) := by decide +kernel
theorem dX9_look_56 : decode cX9_look 56 = .ok (.aload_n 0, 1) := by decide +kernel
theorem dX9_look_57 : decode cX9_look 57 = .ok (.getfield 12, 3) := by decide +kernel
theorem dX9_look_60 : decode cX9_look 60 = .ok (.getfield 293, 3) := by decide +kernel
theorem dX9_look_63 : decode cX9_look 63 = .ok (.ireturn, 1) := by decide +kernel
theorem dX9_look_64 : decode cX9_look 64 = .ok (.aload_n 0, 1) := by decide +kernel
theorem dX9_look_65 : decode cX9_look 65 = .ok (.getfield 12, 3) := by decide +kernel
theorem dX9_look_68 : decode cX9_look 68 = .ok (.getfield 317, 3) := by decide +kernel
theorem dX9_look_71 : decode cX9_look 71 = .ok (.ireturn, 1) := by decide +kernel
theorem dX9_look_72 : decode cX9_look 72 = .ok (.aload_n 0, 1) := by decide +kernel
theorem dX9_look_73 : decode cX9_look 73 = .ok (.getfield 12, 3) := by decide +kernel
theorem dX9_look_76 : decode cX9_look 76 = .ok (.getfield 326, 3) := by decide +kernel
theorem dX9_look_79 : decode cX9_look 79 = .ok (.ireturn, 1) := by decide +kernel
theorem dX9_look_80 : decode cX9_look 80 = .ok (.aload_n 0, 1) := by decide +kernel
theorem dX9_look_81 : decode cX9_look 81 = .ok (.getfield 12, 3) := by decide +kernel
theorem dX9_look_84 : decode cX9_look 84 = .ok (.getfield 184, 3) := by decide +kernel
theorem dX9_look_87 : decode cX9_look 87 = .ok (.ireturn, 1) := by decide +kernel
theorem dX9_look_88 : decode cX9_look 88 = .ok (.aload_n 0, 1) := by decide +kernel
theorem dX9_look_89 : decode cX9_look 89 = .ok (.getfield 12, 3) := by decide +kernel
theorem dX9_look_92 : decode cX9_look 92 = .ok (.getfield 147, 3) := by decide +kernel
theorem dX9_look_95 : decode cX9_look 95 = .ok (.ireturn, 1) := by decide +kernel
theorem dX9_look_96 : decode cX9_look 96 = .ok (.aload_n 0, 1) := by decide +kernel
theorem dX9_look_97 : decode cX9_look 97 = .ok (.invokevirtual 354, 3) := by decide +kernel
theorem dX9_look_100 : decode cX9_look 100 = .ok (.ireturn, 1) := by decide +kernel
theorem dX9_look_101 : decode cX9_look 101 = .ok (.aload_n 0, 1) := by decide +kernel
theorem dX9_look_102 : decode cX9_look 102 = .ok (.invokevirtual 357, 3) := by decide +kernel
theorem dX9_look_105 : decode cX9_look 105 = .ok (.ireturn, 1) := by decide +kernel
theorem dX9_look_106 : decode cX9_look 106 = .ok (.iconst (-1), 1) := by decide +kernel
theorem dX9_look_107 : decode cX9_look 107 = .ok (.ireturn, 1) := by decide +kernel
theorem dX9_within_0 : decode cX9_within 0 = .ok (.iload_n 0, 1) := by decide +kernel
theorem dX9_within_1 : decode cX9_within 1 = .ok (.iload_n 1, 1) := by decide +kernel
theorem dX9_within_2 : decode cX9_within 2 = .ok (.if_icmp .lt 12, 3) := by decide +kernel
theorem dX9_within_5 : decode cX9_within 5 = .ok (.iload_n 0, 1) := by decide +kernel
theorem dX9_within_6 : decode cX9_within 6 = .ok (.iload_n 2, 1) := by decide +kernel
theorem dX9_within_7 : decode cX9_within 7 = .ok (.if_icmp .gt 7, 3) := by decide +kernel
theorem dX9_within_10 : decode cX9_within 10 = .ok (.iconst 1, 1) := by decide +kernel
theorem dX9_within_11 : decode cX9_within 11 = .ok (.goto 4, 3) := by decide +kernel
theorem dX9_within_14 : decode cX9_within 14 = .ok (.iconst 0, 1) := by decide +kernel
theorem dX9_within_15 : decode cX9_within 15 = .ok (.ireturn, 1) := by decide +kernel
theorem dX9_isTone_0 : decode cX9_isTone 0 = .ok (.iload_n 0, 1) := by decide +kernel
theorem dX9_isTone_1 : decode cX9_isTone 1 = .ok (.iconst 0, 1) := by decide +kernel
theorem dX9_isTone_2 : decode cX9_isTone 2 = .ok (.iconst 2, 1) := by decide +kernel
theorem dX9_isTone_3 : decode cX9_isTone 3 = .ok (.invokestatic 89, 3) := by decide +kernel
theorem dX9_isTone_6 : decode cX9_isTone 6 = .ok (.ireturn, 1) := by decide +kernel
theorem dX9_isAir_0 : decode cX9_isAir 0 = .ok (.iload_n 0, 1) := by decide +kernel
theorem dX9_isAir_1 : decode cX9_isAir 1 = .ok (.bipush (-20), 2) := by decide +kernel
theorem dX9_isAir_3 : decode cX9_isAir 3 = .ok (.bipush 50, 2) := by decide +kernel
theorem dX9_isAir_5 : decode cX9_isAir 5 = .ok (.invokestatic 89, 3) := by decide +kernel
theorem dX9_isAir_8 : decode cX9_isAir 8 = .ok (.ifCond .eq 17, 3) := by decide +kernel
theorem dX9_isAir_11 : decode cX9_isAir 11 = .ok (.iload_n 1, 1) := by decide +kernel
theorem dX9_isAir_12 : decode cX9_isAir 12 = .ok (.iconst 0, 1) := by decide +kernel
theorem dX9_isAir_13 : decode cX9_isAir 13 = .ok (.bipush 99, 2) := by decide +kernel
theorem dX9_isAir_15 : decode cX9_isAir 15 = .ok (.invokestatic 89, 3) := by decide +kernel
theorem dX9_isAir_18 : decode cX9_isAir 18 = .ok (.ifCond .eq 7, 3) := by decide +kernel
theorem dX9_isAir_21 : decode cX9_isAir 21 = .ok (.iconst 1, 1) := by decide +kernel
theorem dX9_isAir_22 : decode cX9_isAir 22 = .ok (.goto 4, 3) := by decide +kernel
theorem dX9_isAir_25 : decode cX9_isAir 25 = .ok (.iconst 0, 1) := by decide +kernel
theorem dX9_isAir_26 : decode cX9_isAir 26 = .ok (.ireturn, 1) := by decide +kernel
theorem dX9_barAt_0 : decode cX9_barAt 0 = .ok (.iload_n 1, 1) := by decide +kernel
theorem dX9_barAt_1 : decode cX9_barAt 1 = .ok (.iconst 0, 1) := by decide +kernel
theorem dX9_barAt_2 : decode cX9_barAt 2 = .ok (.aload_n 0, 1) := by decide +kernel
theorem dX9_barAt_3 : decode cX9_barAt 3 = .ok (.getfield 12, 3) := by decide +kernel
theorem dX9_barAt_6 : decode cX9_barAt 6 = .ok (.getfield 64, 3) := by decide +kernel
theorem dX9_barAt_9 : decode cX9_barAt 9 = .ok (.iconst 1, 1) := by decide +kernel
theorem dX9_barAt_10 : decode cX9_barAt 10 = .ok (.isub, 1) := by decide +kernel
theorem dX9_barAt_11 : decode cX9_barAt 11 = .ok (.invokestatic 89, 3) := by decide +kernel
theorem dX9_barAt_14 : decode cX9_barAt 14 = .ok (.ifCond .eq 15, 3) := by decide +kernel
theorem dX9_barAt_17 : decode cX9_barAt 17 = .ok (.aload_n 0, 1) := by decide +kernel
theorem dX9_barAt_18 : decode cX9_barAt 18 = .ok (.getfield 12, 3) := by decide +kernel
theorem dX9_barAt_21 : decode cX9_barAt 21 = .ok (.getfield 68, 3) := by decide +kernel
theorem dX9_barAt_24 : decode cX9_barAt 24 = .ok (.iload_n 1, 1) := by decide +kernel
theorem dX9_barAt_25 : decode cX9_barAt 25 = .ok (.aaload, 1) := by decide +kernel
theorem dX9_barAt_26 : decode cX9_barAt 26 = .ok (.goto 4, 3) := by decide +kernel
theorem dX9_barAt_29 : decode cX9_barAt 29 = .ok (.aconst_null, 1) := by decide +kernel
theorem dX9_barAt_30 : decode cX9_barAt 30 = .ok (.areturn, 1) := by decide +kernel
theorem dX9_textAt_0 : decode cX9_textAt 0 = .ok (.iload_n 1, 1) := by decide +kernel
theorem dX9_textAt_1 : decode cX9_textAt 1 = .ok (.ifCond .ne 22, 3) := by decide +kernel
theorem dX9_textAt_4 : decode cX9_textAt 4 = .ok (.iload_n 2, 1) := by decide +kernel
theorem dX9_textAt_5 : decode cX9_textAt 5 = .ok (.iconst 0, 1) := by decide +kernel
theorem dX9_textAt_6 : decode cX9_textAt 6 = .ok (.iconst 1, 1) := by decide +kernel
theorem dX9_textAt_7 : decode cX9_textAt 7 = .ok (.invokestatic 89, 3) := by decide +kernel
theorem dX9_textAt_10 : decode cX9_textAt 10 = .ok (.ifCond .eq 13, 3) := by decide +kernel
theorem dX9_textAt_13 : decode cX9_textAt 13 = .ok (.aload_n 0, 1) := by decide +kernel
theorem dX9_textAt_14 : decode cX9_textAt 14 = .ok (.getfield 12, 3) := by decide +kernel
theorem dX9_textAt_17 : decode cX9_textAt 17 = .ok (.getfield 158, 3) := by decide +kernel
theorem dX9_textAt_20 : decode cX9_textAt 20 = .ok (.iload_n 2, 1) := by decide +kernel
theorem dX9_textAt_21 : decode cX9_textAt 21 = .ok (.aaload, 1) := by decide +kernel
theorem dX9_textAt_22 : decode cX9_textAt 22 = .ok (.areturn, 1) := by decide +kernel
theorem dX9_textAt_23 : decode cX9_textAt 23 = .ok (.iload_n 1, 1) := by decide +kernel
theorem dX9_textAt_24 : decode cX9_textAt 24 = .ok (.iconst 1, 1) := by decide +kernel
theorem dX9_textAt_25 : decode cX9_textAt 25 = .ok (.if_icmp .ne 24, 3) := by decide +kernel
theorem dX9_textAt_28 : decode cX9_textAt 28 = .ok (.iload_n 2, 1) := by decide +kernel
theorem dX9_textAt_29 : decode cX9_textAt 29 = .ok (.iconst 0, 1) := by decide +kernel
theorem dX9_textAt_30 : decode cX9_textAt 30 = .ok (.iconst 3, 1) := by decide +kernel
theorem dX9_textAt_31 : decode cX9_textAt 31 = .ok (.invokestatic 89, 3) := by decide +kernel
theorem dX9_textAt_34 : decode cX9_textAt 34 = .ok (.ifCond .eq 15, 3) := by decide +kernel
theorem dX9_textAt_37 : decode cX9_textAt 37 = .ok (.aload_n 0, 1) := by decide +kernel
theorem dX9_textAt_38 : decode cX9_textAt 38 = .ok (.getfield 12, 3) := by decide +kernel
theorem dX9_textAt_41 : decode cX9_textAt 41 = .ok (.getfield 220, 3) := by decide +kernel
theorem dX9_textAt_44 : decode cX9_textAt 44 = .ok (.iload_n 2, 1) := by decide +kernel
theorem dX9_textAt_45 : decode cX9_textAt 45 = .ok (.aaload, 1) := by decide +kernel
theorem dX9_textAt_46 : decode cX9_textAt 46 = .ok (.goto 4, 3) := by decide +kernel
theorem dX9_textAt_49 : decode cX9_textAt 49 = .ok (.aconst_null, 1) := by decide +kernel
theorem dX9_textAt_50 : decode cX9_textAt 50 = .ok (.areturn, 1) := by decide +kernel
theorem dX9_addBytes_0 : decode cX9_addBytes 0 = .ok (.bipush 24, 2) := by decide +kernel
theorem dX9_addBytes_2 : decode cX9_addBytes 2 = .ok (.istore_n 2, 1) := by decide +kernel
theorem dX9_addBytes_3 : decode cX9_addBytes 3 = .ok (.iload_n 2, 1) := by decide +kernel
theorem dX9_addBytes_4 : decode cX9_addBytes 4 = .ok (.ifCond .lt 45, 3) := by decide +kernel
theorem dX9_addBytes_7 : decode cX9_addBytes 7 = .ok (.aload_n 0, 1) := by decide +kernel
theorem dX9_addBytes_8 : decode cX9_addBytes 8 = .ok (.getfield 105, 3) := by decide +kernel
theorem dX9_addBytes_11 : decode cX9_addBytes 11 = .ok (.sipush 500, 3) := by decide +kernel
theorem dX9_addBytes_14 : decode cX9_addBytes 14 = .ok (.if_icmp .ge 35, 3) := by decide +kernel
theorem dX9_addBytes_17 : decode cX9_addBytes 17 = .ok (.aload_n 0, 1) := by decide +kernel
theorem dX9_addBytes_18 : decode cX9_addBytes 18 = .ok (.getfield 16, 3) := by decide +kernel
theorem dX9_addBytes_21 : decode cX9_addBytes 21 = .ok (.aload_n 0, 1) := by decide +kernel
theorem dX9_addBytes_22 : decode cX9_addBytes 22 = .ok (.getfield 105, 3) := by decide +kernel
theorem dX9_addBytes_25 : decode cX9_addBytes 25 = .ok (.iload_n 1, 1) := by decide +kernel
theorem dX9_addBytes_26 : decode cX9_addBytes 26 = .ok (.iload_n 2, 1) := by decide +kernel
theorem dX9_addBytes_27 : decode cX9_addBytes 27 = .ok (.iushr, 1) := by decide +kernel
theorem dX9_addBytes_28 : decode cX9_addBytes 28 = .ok (.sipush 255, 3) := by decide +kernel
theorem dX9_addBytes_31 : decode cX9_addBytes 31 = .ok (.iand, 1) := by decide +kernel
theorem dX9_addBytes_32 : decode cX9_addBytes 32 = .ok (.iastore, 1) := by decide +kernel
theorem dX9_addBytes_33 : decode cX9_addBytes 33 = .ok (.aload_n 0, 1) := by decide +kernel
theorem dX9_addBytes_34 : decode cX9_addBytes 34 = .ok (.dup, 1) := by decide +kernel
theorem dX9_addBytes_35 : decode cX9_addBytes 35 = .ok (.getfield 105, 3) := by decide +kernel
theorem dX9_addBytes_38 : decode cX9_addBytes 38 = .ok (.iconst 1, 1) := by decide +kernel
theorem dX9_addBytes_39 : decode cX9_addBytes 39 = .ok (.iadd, 1) := by decide +kernel
theorem dX9_addBytes_40 : decode cX9_addBytes 40 = .ok (.putfield 105, 3) := by decide +kernel
theorem dX9_addBytes_43 : decode cX9_addBytes 43 = .ok (.iinc 2 (-8), 3) := by decide +kernel
theorem dX9_addBytes_46 : decode cX9_addBytes 46 = .ok (.goto (-43), 3) := by decide +kernel
theorem dX9_addBytes_49 : decode cX9_addBytes 49 = .ok (.return_, 1) := by decide +kernel
theorem dX9_countLost_0 : decode cX9_countLost 0 = .ok (.iconst 0, 1) := by decide +kernel
theorem dX9_countLost_1 : decode cX9_countLost 1 = .ok (.istore_n 1, 1) := by decide +kernel
theorem dX9_countLost_2 : decode cX9_countLost 2 = .ok (.iconst 0, 1) := by decide +kernel
theorem dX9_countLost_3 : decode cX9_countLost 3 = .ok (.istore_n 2, 1) := by decide +kernel
theorem dX9_countLost_4 : decode cX9_countLost 4 = .ok (.iload_n 2, 1) := by decide +kernel
theorem dX9_countLost_5 : decode cX9_countLost 5 = .ok (.aload_n 0, 1) := by decide +kernel
theorem dX9_countLost_6 : decode cX9_countLost 6 = .ok (.getfield 12, 3) := by decide +kernel
theorem dX9_countLost_9 : decode cX9_countLost 9 = .ok (.getfield 64, 3) := by decide +kernel
theorem dX9_countLost_12 : decode cX9_countLost 12 = .ok (.if_icmp .ge 33, 3) := by decide +kernel
theorem dX9_countLost_15 : decode cX9_countLost 15 = .ok (.iload_n 1, 1) := by decide +kernel
theorem dX9_countLost_16 : decode cX9_countLost 16 = .ok (.aload_n 0, 1) := by decide +kernel
theorem dX9_countLost_17 : decode cX9_countLost 17 = .ok (.aload_n 0, 1) := by decide +kernel
theorem dX9_countLost_18 : decode cX9_countLost 18 = .ok (.getfield 12, 3) := by decide +kernel
theorem dX9_countLost_21 : decode cX9_countLost 21 = .ok (.getfield 68, 3) := by decide +kernel
theorem dX9_countLost_24 : decode cX9_countLost 24 = .ok (.iload_n 2, 1) := by decide +kernel
theorem dX9_countLost_25 : decode cX9_countLost 25 = .ok (.aaload, 1) := by decide +kernel
theorem dX9_countLost_26 : decode cX9_countLost 26 = .ok (.invokevirtual 190, 3) := by decide +kernel
theorem dX9_countLost_29 : decode cX9_countLost 29 = .ok (.ifCond .eq 7, 3) := by decide +kernel
theorem dX9_countLost_32 : decode cX9_countLost 32 = .ok (.iconst 1, 1) := by decide +kernel
theorem dX9_countLost_33 : decode cX9_countLost 33 = .ok (.goto 4, 3) := by decide +kernel
theorem dX9_countLost_36 : decode cX9_countLost 36 = .ok (.iconst 0, 1) := by decide +kernel
theorem dX9_countLost_37 : decode cX9_countLost 37 = .ok (.iadd, 1) := by decide +kernel
theorem dX9_countLost_38 : decode cX9_countLost 38 = .ok (.istore_n 1, 1) := by decide +kernel
theorem dX9_countLost_39 : decode cX9_countLost 39 = .ok (.iinc 2 1, 3) := by decide +kernel
theorem dX9_countLost_42 : decode cX9_countLost 42 = .ok (.goto (-38), 3) := by decide +kernel
theorem dX9_countLost_45 : decode cX9_countLost 45 = .ok (.iload_n 1, 1) := by decide +kernel
theorem dX9_countLost_46 : decode cX9_countLost 46 = .ok (.ireturn, 1) := by decide +kernel
theorem dX9_countTrue_0 : decode cX9_countTrue 0 = .ok (.iconst 0, 1) := by decide +kernel
theorem dX9_countTrue_1 : decode cX9_countTrue 1 = .ok (.istore_n 1, 1) := by decide +kernel
theorem dX9_countTrue_2 : decode cX9_countTrue 2 = .ok (.iconst 0, 1) := by decide +kernel
theorem dX9_countTrue_3 : decode cX9_countTrue 3 = .ok (.istore_n 2, 1) := by decide +kernel
theorem dX9_countTrue_4 : decode cX9_countTrue 4 = .ok (.iload_n 2, 1) := by decide +kernel
theorem dX9_countTrue_5 : decode cX9_countTrue 5 = .ok (.aload_n 0, 1) := by decide +kernel
theorem dX9_countTrue_6 : decode cX9_countTrue 6 = .ok (.getfield 12, 3) := by decide +kernel
theorem dX9_countTrue_9 : decode cX9_countTrue 9 = .ok (.getfield 64, 3) := by decide +kernel
theorem dX9_countTrue_12 : decode cX9_countTrue 12 = .ok (.if_icmp .ge 33, 3) := by decide +kernel
theorem dX9_countTrue_15 : decode cX9_countTrue 15 = .ok (.iload_n 1, 1) := by decide +kernel
theorem dX9_countTrue_16 : decode cX9_countTrue 16 = .ok (.aload_n 0, 1) := by decide +kernel
theorem dX9_countTrue_17 : decode cX9_countTrue 17 = .ok (.aload_n 0, 1) := by decide +kernel
theorem dX9_countTrue_18 : decode cX9_countTrue 18 = .ok (.getfield 12, 3) := by decide +kernel
theorem dX9_countTrue_21 : decode cX9_countTrue 21 = .ok (.getfield 68, 3) := by decide +kernel
theorem dX9_countTrue_24 : decode cX9_countTrue 24 = .ok (.iload_n 2, 1) := by decide +kernel
theorem dX9_countTrue_25 : decode cX9_countTrue 25 = .ok (.aaload, 1) := by decide +kernel
theorem dX9_countTrue_26 : decode cX9_countTrue 26 = .ok (.invokevirtual 194, 3) := by decide +kernel
theorem dX9_countTrue_29 : decode cX9_countTrue 29 = .ok (.ifCond .eq 7, 3) := by decide +kernel
theorem dX9_countTrue_32 : decode cX9_countTrue 32 = .ok (.iconst 1, 1) := by decide +kernel
theorem dX9_countTrue_33 : decode cX9_countTrue 33 = .ok (.goto 4, 3) := by decide +kernel
theorem dX9_countTrue_36 : decode cX9_countTrue 36 = .ok (.iconst 0, 1) := by decide +kernel
theorem dX9_countTrue_37 : decode cX9_countTrue 37 = .ok (.iadd, 1) := by decide +kernel
theorem dX9_countTrue_38 : decode cX9_countTrue 38 = .ok (.istore_n 1, 1) := by decide +kernel
theorem dX9_countTrue_39 : decode cX9_countTrue 39 = .ok (.iinc 2 1, 3) := by decide +kernel
theorem dX9_countTrue_42 : decode cX9_countTrue 42 = .ok (.goto (-38), 3) := by decide +kernel
theorem dX9_countTrue_45 : decode cX9_countTrue 45 = .ok (.iload_n 1, 1) := by decide +kernel
theorem dX9_countTrue_46 : decode cX9_countTrue 46 = .ok (.ireturn, 1) := by decide +kernel
theorem dX9_offOf_0 : decode cX9_offOf 0 = .ok (.lconst 0, 1) := by decide +kernel
theorem dX9_offOf_1 : decode cX9_offOf 1 = .ok (.lstore_n 2, 1) := by decide +kernel
theorem dX9_offOf_2 : decode cX9_offOf 2 = .ok (.iconst 0, 1) := by decide +kernel
theorem dX9_offOf_3 : decode cX9_offOf 3 = .ok (.istore 4, 2) := by decide +kernel
theorem dX9_offOf_5 : decode cX9_offOf 5 = .ok (.iload 4, 2) := by decide +kernel
theorem dX9_offOf_7 : decode cX9_offOf 7 = .ok (.aload_n 0, 1) := by decide +kernel
theorem dX9_offOf_8 : decode cX9_offOf 8 = .ok (.getfield 12, 3) := by decide +kernel
theorem dX9_offOf_11 : decode cX9_offOf 11 = .ok (.getfield 64, 3) := by decide +kernel
theorem dX9_offOf_14 : decode cX9_offOf 14 = .ok (.if_icmp .ge 99, 3) := by decide +kernel
theorem dX9_offOf_17 : decode cX9_offOf 17 = .ok (.aload_n 0, 1) := by decide +kernel
theorem dX9_offOf_18 : decode cX9_offOf 18 = .ok (.getfield 12, 3) := by decide +kernel
theorem dX9_offOf_21 : decode cX9_offOf 21 = .ok (.getfield 68, 3) := by decide +kernel
theorem dX9_offOf_24 : decode cX9_offOf 24 = .ok (.iload 4, 2) := by decide +kernel
theorem dX9_offOf_26 : decode cX9_offOf 26 = .ok (.aaload, 1) := by decide +kernel
theorem dX9_offOf_27 : decode cX9_offOf 27 = .ok (.astore 5, 2) := by decide +kernel
theorem dX9_offOf_29 : decode cX9_offOf 29 = .ok (.iconst 0, 1) := by decide +kernel
theorem dX9_offOf_30 : decode cX9_offOf 30 = .ok (.istore 6, 2) := by decide +kernel
theorem dX9_offOf_32 : decode cX9_offOf 32 = .ok (.iload 6, 2) := by decide +kernel
theorem dX9_offOf_34 : decode cX9_offOf 34 = .ok (.aload 5, 2) := by decide +kernel
theorem dX9_offOf_36 : decode cX9_offOf 36 = .ok (.getfield 200, 3) := by decide +kernel
theorem dX9_offOf_39 : decode cX9_offOf 39 = .ok (.if_icmp .ge 68, 3) := by decide +kernel
theorem dX9_offOf_42 : decode cX9_offOf 42 = .ok (.aload_n 0, 1) := by decide +kernel
theorem dX9_offOf_43 : decode cX9_offOf 43 = .ok (.getfield 30, 3) := by decide +kernel
theorem dX9_offOf_46 : decode cX9_offOf 46 = .ok (.aload_n 1, 1) := by decide +kernel
theorem dX9_offOf_47 : decode cX9_offOf 47 = .ok (.aload 5, 2) := by decide +kernel
theorem dX9_offOf_49 : decode cX9_offOf 49 = .ok (.getfield 398, 3) := by decide +kernel
theorem dX9_offOf_52 : decode cX9_offOf 52 = .ok (.iload 6, 2) := by decide +kernel
theorem dX9_offOf_54 : decode cX9_offOf 54 = .ok (.iaload, 1) := by decide +kernel
theorem dX9_offOf_55 : decode cX9_offOf 55 = .ok (.aload 5, 2) := by decide +kernel
theorem dX9_offOf_57 : decode cX9_offOf 57 = .ok (.aload 5, 2) := by decide +kernel
theorem dX9_offOf_59 : decode cX9_offOf 59 = .ok (.getfield 401, 3) := by decide +kernel
theorem dX9_offOf_62 : decode cX9_offOf 62 = .ok (.iload 6, 2) := by decide +kernel
theorem dX9_offOf_64 : decode cX9_offOf 64 = .ok (.aaload, 1) := by decide +kernel
theorem dX9_offOf_65 : decode cX9_offOf 65 = .ok (.aload 5, 2) := by decide +kernel
theorem dX9_offOf_67 : decode cX9_offOf 67 = .ok (.getfield 96, 3) := by decide +kernel
theorem dX9_offOf_70 : decode cX9_offOf 70 = .ok (.aload 5, 2) := by decide +kernel
theorem dX9_offOf_72 : decode cX9_offOf 72 = .ok (.getfield 405, 3) := by decide +kernel
theorem dX9_offOf_75 : decode cX9_offOf 75 = .ok (.iload 6, 2) := by decide +kernel
theorem dX9_offOf_77 : decode cX9_offOf 77 = .ok (.aaload, 1) := by decide +kernel
theorem dX9_offOf_78 : decode cX9_offOf 78 = .ok (.invokevirtual 216, 3) := by decide +kernel
theorem dX9_offOf_81 : decode cX9_offOf 81 = .ok (.istore 7, 2) := by decide +kernel
theorem dX9_offOf_83 : decode cX9_offOf 83 = .ok (.lload_n 2, 1) := by decide +kernel
theorem dX9_offOf_84 : decode cX9_offOf 84 = .ok (.iload 7, 2) := by decide +kernel
theorem dX9_offOf_86 : decode cX9_offOf 86 = .ok (.aload 5, 2) := by decide +kernel
theorem dX9_offOf_88 : decode cX9_offOf 88 = .ok (.getfield 408, 3) := by decide +kernel
theorem dX9_offOf_91 : decode cX9_offOf 91 = .ok (.iload 6, 2) := by decide +kernel
theorem dX9_offOf_93 : decode cX9_offOf 93 = .ok (.iaload, 1) := by decide +kernel
theorem dX9_offOf_94 : decode cX9_offOf 94 = .ok (.isub, 1) := by decide +kernel
theorem dX9_offOf_95 : decode cX9_offOf 95 = .ok (.invokestatic 362, 3) := by decide +kernel
theorem dX9_offOf_98 : decode cX9_offOf 98 = .ok (.i2l, 1) := by decide +kernel
theorem dX9_offOf_99 : decode cX9_offOf 99 = .ok (.ladd, 1) := by decide +kernel
theorem dX9_offOf_100 : decode cX9_offOf 100 = .ok (.lstore_n 2, 1) := by decide +kernel
theorem dX9_offOf_101 : decode cX9_offOf 101 = .ok (.iinc 6 1, 3) := by decide +kernel
theorem dX9_offOf_104 : decode cX9_offOf 104 = .ok (.goto (-72), 3) := by decide +kernel
theorem dX9_offOf_107 : decode cX9_offOf 107 = .ok (.iinc 4 1, 3) := by decide +kernel
theorem dX9_offOf_110 : decode cX9_offOf 110 = .ok (.goto (-105), 3) := by decide +kernel
theorem dX9_offOf_113 : decode cX9_offOf 113 = .ok (.lload_n 2, 1) := by decide +kernel
theorem dX9_offOf_114 : decode cX9_offOf 114 = .ok (.ldc2_w 411, 3) := by decide +kernel
theorem dX9_offOf_117 : decode cX9_offOf 117 = .ok (.invokestatic 413, 3) := by decide +kernel
theorem dX9_offOf_120 : decode cX9_offOf 120 = .ok (.l2i, 1) := by decide +kernel
theorem dX9_offOf_121 : decode cX9_offOf 121 = .ok (.ireturn, 1) := by decide +kernel
theorem dX9_fillLowTones_0 : decode cX9_fillLowTones 0 = .ok (.iconst 0, 1) := by decide +kernel
theorem dX9_fillLowTones_1 : decode cX9_fillLowTones 1 = .ok (.istore_n 1, 1) := by decide +kernel
theorem dX9_fillLowTones_2 : decode cX9_fillLowTones 2 = .ok (.iload_n 1, 1) := by decide +kernel
theorem dX9_fillLowTones_3 : decode cX9_fillLowTones 3 = .ok (.aload_n 0, 1) := by decide +kernel
theorem dX9_fillLowTones_4 : decode cX9_fillLowTones 4 = .ok (.getfield 12, 3) := by decide +kernel
theorem dX9_fillLowTones_7 : decode cX9_fillLowTones 7 = .ok (.getfield 64, 3) := by decide +kernel
theorem dX9_fillLowTones_10 : decode cX9_fillLowTones 10 = .ok (.if_icmp .ge 29, 3) := by decide +kernel
theorem dX9_fillLowTones_13 : decode cX9_fillLowTones 13 = .ok (.aload_n 0, 1) := by decide +kernel
theorem dX9_fillLowTones_14 : decode cX9_fillLowTones 14 = .ok (.getfield 55, 3) := by decide +kernel
theorem dX9_fillLowTones_17 : decode cX9_fillLowTones 17 = .ok (.iload_n 1, 1) := by decide +kernel
theorem dX9_fillLowTones_18 : decode cX9_fillLowTones 18 = .ok (.aload_n 0, 1) := by decide +kernel
theorem dX9_fillLowTones_19 : decode cX9_fillLowTones 19 = .ok (.aload_n 0, 1) := by decide +kernel
theorem dX9_fillLowTones_20 : decode cX9_fillLowTones 20 = .ok (.getfield 12, 3) := by decide +kernel
theorem dX9_fillLowTones_23 : decode cX9_fillLowTones 23 = .ok (.getfield 68, 3) := by decide +kernel
theorem dX9_fillLowTones_26 : decode cX9_fillLowTones 26 = .ok (.iload_n 1, 1) := by decide +kernel
theorem dX9_fillLowTones_27 : decode cX9_fillLowTones 27 = .ok (.aaload, 1) := by decide +kernel
theorem dX9_fillLowTones_28 : decode cX9_fillLowTones 28 = .ok (.iconst 0, 1) := by decide +kernel
theorem dX9_fillLowTones_29 : decode cX9_fillLowTones 29 = .ok (.invokevirtual 166, 3) := by decide +kernel
theorem dX9_fillLowTones_32 : decode cX9_fillLowTones 32 = .ok (.iastore, 1) := by decide +kernel
theorem dX9_fillLowTones_33 : decode cX9_fillLowTones 33 = .ok (.iinc 1 1, 3) := by decide +kernel
theorem dX9_fillLowTones_36 : decode cX9_fillLowTones 36 = .ok (.goto (-34), 3) := by decide +kernel
theorem dX9_fillLowTones_39 : decode cX9_fillLowTones 39 = .ok (.return_, 1) := by decide +kernel
theorem dX9_apart_0 : decode cX9_apart 0 = .ok (.iconst 0, 1) := by decide +kernel
theorem dX9_apart_1 : decode cX9_apart 1 = .ok (.istore_n 1, 1) := by decide +kernel
theorem dX9_apart_2 : decode cX9_apart 2 = .ok (.iconst 0, 1) := by decide +kernel
theorem dX9_apart_3 : decode cX9_apart 3 = .ok (.istore_n 2, 1) := by decide +kernel
theorem dX9_apart_4 : decode cX9_apart 4 = .ok (.iload_n 2, 1) := by decide +kernel
theorem dX9_apart_5 : decode cX9_apart 5 = .ok (.aload_n 0, 1) := by decide +kernel
theorem dX9_apart_6 : decode cX9_apart 6 = .ok (.getfield 12, 3) := by decide +kernel
theorem dX9_apart_9 : decode cX9_apart 9 = .ok (.getfield 293, 3) := by decide +kernel
theorem dX9_apart_12 : decode cX9_apart 12 = .ok (.if_icmp .ge 17, 3) := by decide +kernel
theorem dX9_apart_15 : decode cX9_apart 15 = .ok (.iload_n 1, 1) := by decide +kernel
theorem dX9_apart_16 : decode cX9_apart 16 = .ok (.aload_n 0, 1) := by decide +kernel
theorem dX9_apart_17 : decode cX9_apart 17 = .ok (.iload_n 2, 1) := by decide +kernel
theorem dX9_apart_18 : decode cX9_apart 18 = .ok (.invokevirtual 311, 3) := by decide +kernel
theorem dX9_apart_21 : decode cX9_apart 21 = .ok (.iadd, 1) := by decide +kernel
theorem dX9_apart_22 : decode cX9_apart 22 = .ok (.istore_n 1, 1) := by decide +kernel
theorem dX9_apart_23 : decode cX9_apart 23 = .ok (.iinc 2 1, 3) := by decide +kernel
theorem dX9_apart_26 : decode cX9_apart 26 = .ok (.goto (-22), 3) := by decide +kernel
theorem dX9_apart_29 : decode cX9_apart 29 = .ok (.iload_n 1, 1) := by decide +kernel
theorem dX9_apart_30 : decode cX9_apart 30 = .ok (.ireturn, 1) := by decide +kernel
theorem dX10_isIn_0 : decode cX10_isIn 0 = .ok (.iload_n 1, 1) := by decide +kernel
theorem dX10_isIn_1 : decode cX10_isIn 1 = .ok (.iload_n 2, 1) := by decide +kernel
theorem dX10_isIn_2 : decode cX10_isIn 2 = .ok (.if_icmp .lt 12, 3) := by decide +kernel
theorem dX10_isIn_5 : decode cX10_isIn 5 = .ok (.iload_n 1, 1) := by decide +kernel
theorem dX10_isIn_6 : decode cX10_isIn 6 = .ok (.iload_n 3, 1) := by decide +kernel
theorem dX10_isIn_7 : decode cX10_isIn 7 = .ok (.if_icmp .gt 7, 3) := by decide +kernel
theorem dX10_isIn_10 : decode cX10_isIn 10 = .ok (.iconst 1, 1) := by decide +kernel
theorem dX10_isIn_11 : decode cX10_isIn 11 = .ok (.goto 4, 3) := by decide +kernel
theorem dX10_isIn_14 : decode cX10_isIn 14 = .ok (.iconst 0, 1) := by decide +kernel
theorem dX10_isIn_15 : decode cX10_isIn 15 = .ok (.ireturn, 1) := by decide +kernel
theorem dX10_isTone_0 : decode cX10_isTone 0 = .ok (.aload_n 0, 1) := by decide +kernel
theorem dX10_isTone_1 : decode cX10_isTone 1 = .ok (.iload_n 1, 1) := by decide +kernel
theorem dX10_isTone_2 : decode cX10_isTone 2 = .ok (.iconst 0, 1) := by decide +kernel
theorem dX10_isTone_3 : decode cX10_isTone 3 = .ok (.iconst 2, 1) := by decide +kernel
theorem dX10_isTone_4 : decode cX10_isTone 4 = .ok (.invokevirtual 177, 3) := by decide +kernel
theorem dX10_isTone_7 : decode cX10_isTone 7 = .ok (.ireturn, 1) := by decide +kernel
theorem dX10_isLaw_0 : decode cX10_isLaw 0 = .ok (.iload_n 1, 1) := by decide +kernel
theorem dX10_isLaw_1 : decode cX10_isLaw 1 = .ok (.ifCond .eq 8, 3) := by decide +kernel
theorem dX10_isLaw_4 : decode cX10_isLaw 4 = .ok (.iload_n 1, 1) := by decide +kernel
theorem dX10_isLaw_5 : decode cX10_isLaw 5 = .ok (.iconst 1, 1) := by decide +kernel
theorem dX10_isLaw_6 : decode cX10_isLaw 6 = .ok (.if_icmp .ne 7, 3) := by decide +kernel
theorem dX10_isLaw_9 : decode cX10_isLaw 9 = .ok (.iconst 1, 1) := by decide +kernel
theorem dX10_isLaw_10 : decode cX10_isLaw 10 = .ok (.goto 4, 3) := by decide +kernel
theorem dX10_isLaw_13 : decode cX10_isLaw 13 = .ok (.iconst 0, 1) := by decide +kernel
theorem dX10_isLaw_14 : decode cX10_isLaw 14 = .ok (.ireturn, 1) := by decide +kernel
theorem dX10_isHeat_0 : decode cX10_isHeat 0 = .ok (.aload_n 0, 1) := by decide +kernel
theorem dX10_isHeat_1 : decode cX10_isHeat 1 = .ok (.iload_n 1, 1) := by decide +kernel
theorem dX10_isHeat_2 : decode cX10_isHeat 2 = .ok (.bipush (-20), 2) := by decide +kernel
theorem dX10_isHeat_4 : decode cX10_isHeat 4 = .ok (.bipush 50, 2) := by decide +kernel
theorem dX10_isHeat_6 : decode cX10_isHeat 6 = .ok (.invokevirtual 177, 3) := by decide +kernel
theorem dX10_isHeat_9 : decode cX10_isHeat 9 = .ok (.ireturn, 1) := by decide +kernel
theorem dX10_isWet_0 : decode cX10_isWet 0 = .ok (.aload_n 0, 1) := by decide +kernel
theorem dX10_isWet_1 : decode cX10_isWet 1 = .ok (.iload_n 1, 1) := by decide +kernel
theorem dX10_isWet_2 : decode cX10_isWet 2 = .ok (.iconst 0, 1) := by decide +kernel
theorem dX10_isWet_3 : decode cX10_isWet 3 = .ok (.bipush 99, 2) := by decide +kernel
theorem dX10_isWet_5 : decode cX10_isWet 5 = .ok (.invokevirtual 177, 3) := by decide +kernel
theorem dX10_isWet_8 : decode cX10_isWet 8 = .ok (.ireturn, 1) := by decide +kernel
theorem dJ9_max_7cf53_0 : decode cJ9_max_7cf53 0 = .ok (.iload_n 0, 1) := by decide +kernel
theorem dJ9_max_7cf53_1 : decode cJ9_max_7cf53 1 = .ok (.iload_n 1, 1) := by decide +kernel
theorem dJ9_max_7cf53_2 : decode cJ9_max_7cf53 2 = .ok (.if_icmp .lt 7, 3) := by decide +kernel
theorem dJ9_max_7cf53_5 : decode cJ9_max_7cf53 5 = .ok (.iload_n 0, 1) := by decide +kernel
theorem dJ9_max_7cf53_6 : decode cJ9_max_7cf53 6 = .ok (.goto 4, 3) := by decide +kernel
theorem dJ9_max_7cf53_9 : decode cJ9_max_7cf53 9 = .ok (.iload_n 1, 1) := by decide +kernel
theorem dJ9_max_7cf53_10 : decode cJ9_max_7cf53 10 = .ok (.ireturn, 1) := by decide +kernel
theorem dJ9_max_f86c9_0 : decode cJ9_max_f86c9 0 = .ok (.lload_n 0, 1) := by decide +kernel
theorem dJ9_max_f86c9_1 : decode cJ9_max_f86c9 1 = .ok (.lload_n 2, 1) := by decide +kernel
theorem dJ9_max_f86c9_2 : decode cJ9_max_f86c9 2 = .ok (.lcmp, 1) := by decide +kernel
theorem dJ9_max_f86c9_3 : decode cJ9_max_f86c9 3 = .ok (.ifCond .lt 7, 3) := by decide +kernel
theorem dJ9_max_f86c9_6 : decode cJ9_max_f86c9 6 = .ok (.lload_n 0, 1) := by decide +kernel
theorem dJ9_max_f86c9_7 : decode cJ9_max_f86c9 7 = .ok (.goto 4, 3) := by decide +kernel
theorem dJ9_max_f86c9_10 : decode cJ9_max_f86c9 10 = .ok (.lload_n 2, 1) := by decide +kernel
theorem dJ9_max_f86c9_11 : decode cJ9_max_f86c9 11 = .ok (.lreturn, 1) := by decide +kernel
theorem dJ9_min_f86c9_0 : decode cJ9_min_f86c9 0 = .ok (.lload_n 0, 1) := by decide +kernel
theorem dJ9_min_f86c9_1 : decode cJ9_min_f86c9 1 = .ok (.lload_n 2, 1) := by decide +kernel
theorem dJ9_min_f86c9_2 : decode cJ9_min_f86c9 2 = .ok (.lcmp, 1) := by decide +kernel
theorem dJ9_min_f86c9_3 : decode cJ9_min_f86c9 3 = .ok (.ifCond .gt 7, 3) := by decide +kernel
theorem dJ9_min_f86c9_6 : decode cJ9_min_f86c9 6 = .ok (.lload_n 0, 1) := by decide +kernel
theorem dJ9_min_f86c9_7 : decode cJ9_min_f86c9 7 = .ok (.goto 4, 3) := by decide +kernel
theorem dJ9_min_f86c9_10 : decode cJ9_min_f86c9 10 = .ok (.lload_n 2, 1) := by decide +kernel
theorem dJ9_min_f86c9_11 : decode cJ9_min_f86c9 11 = .ok (.lreturn, 1) := by decide +kernel
