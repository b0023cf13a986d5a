theorem dX10_sureOf_37 : decode cX10_sureOf 37 = .ok (.aload_n 0, 1) := by decide +kernel
theorem dX10_sureOf_38 : decode cX10_sureOf 38 = .ok (.getfield 378, 3) := by decide +kernel
theorem dX10_sureOf_41 : decode cX10_sureOf 41 = .ok (.ifCond .ne 7, 3) := by decide +kernel
theorem dX10_sureOf_44 : decode cX10_sureOf 44 = .ok (.iconst (-1), 1) := by decide +kernel
theorem dX10_sureOf_45 : decode cX10_sureOf 45 = .ok (.goto 9, 3) := by decide +kernel
theorem dX10_sureOf_48 : decode cX10_sureOf 48 = .ok (.aload_n 0, 1) := by decide +kernel
theorem dX10_sureOf_49 : decode cX10_sureOf 49 = .ok (.getfield 134, 3) := by decide +kernel
theorem dX10_sureOf_52 : decode cX10_sureOf 52 = .ok (.iload_n 1, 1) := by decide +kernel
theorem dX10_sureOf_53 : decode cX10_sureOf 53 = .ok (.iaload, 1) := by decide +kernel
theorem dX10_sureOf_54 : decode cX10_sureOf 54 = .ok (.ireturn, 1) := by decide +kernel
theorem dX10_fits_0 : decode cX10_fits 0 = .ok (.aload_n 0, 1) := by decide +kernel
theorem dX10_fits_1 : decode cX10_fits 1 = .ok (.iconst 0, 1) := by decide +kernel
theorem dX10_fits_2 : decode cX10_fits 2 = .ok (.putfield 167, 3) := by decide +kernel
theorem dX10_fits_5 : decode cX10_fits 5 = .ok (.aload_n 0, 1) := by decide +kernel
theorem dX10_fits_6 : decode cX10_fits 6 = .ok (.iload_n 1, 1) := by decide +kernel
theorem dX10_fits_7 : decode cX10_fits 7 = .ok (.invokevirtual 173, 3) := by decide +kernel
theorem dX10_fits_10 : decode cX10_fits 10 = .ok (.ifCond .eq 66, 3) := by decide +kernel
theorem dX10_fits_13 : decode cX10_fits 13 = .ok (.aload_n 0, 1) := by decide +kernel
theorem dX10_fits_14 : decode cX10_fits 14 = .ok (.getfield 13, 3) := by decide +kernel
theorem dX10_fits_17 : decode cX10_fits 17 = .ok (.iload_n 1, 1) := by decide +kernel
theorem dX10_fits_18 : decode cX10_fits 18 = .ok (.iaload, 1) := by decide +kernel
theorem dX10_fits_19 : decode cX10_fits 19 = .ok (.iconst 5, 1) := by decide +kernel
theorem dX10_fits_20 : decode cX10_fits 20 = .ok (.if_icmp .gt 56, 3) := by decide +kernel
theorem dX10_fits_23 : decode cX10_fits 23 = .ok (.aload_n 0, 1) := by decide +kernel
theorem dX10_fits_24 : decode cX10_fits 24 = .ok (.iload_n 2, 1) := by decide +kernel
theorem dX10_fits_25 : decode cX10_fits 25 = .ok (.iconst 1, 1) := by decide +kernel
theorem dX10_fits_26 : decode cX10_fits 26 = .ok (.iconst 4, 1) := by decide +kernel
theorem dX10_fits_27 : decode cX10_fits 27 = .ok (.invokevirtual 177, 3) := by decide +kernel
theorem dX10_fits_30 : decode cX10_fits 30 = .ok (.ifCond .eq 46, 3) := by decide +kernel
theorem dX10_fits_33 : decode cX10_fits 33 = .ok (.aload_n 0, 1) := by decide +kernel
theorem dX10_fits_34 : decode cX10_fits 34 = .ok (.iload_n 3, 1) := by decide +kernel
theorem dX10_fits_35 : decode cX10_fits 35 = .ok (.iconst 0, 1) := by decide +kernel
theorem dX10_fits_36 : decode cX10_fits 36 = .ok (.ldc_w 308, 3) := by decide +kernel
theorem dX10_fits_39 : decode cX10_fits 39 = .ok (.invokevirtual 177, 3) := by decide +kernel
theorem dX10_fits_42 : decode cX10_fits 42 = .ok (.ifCond .eq 34, 3) := by decide +kernel
theorem dX10_fits_45 : decode cX10_fits 45 = .ok (.aload_n 0, 1) := by decide +kernel
theorem dX10_fits_46 : decode cX10_fits 46 = .ok (.iload 4, 2) := by decide +kernel
theorem dX10_fits_48 : decode cX10_fits 48 = .ok (.iconst 0, 1) := by decide +kernel
theorem dX10_fits_49 : decode cX10_fits 49 = .ok (.iconst 1, 1) := by decide +kernel
theorem dX10_fits_50 : decode cX10_fits 50 = .ok (.invokevirtual 177, 3) := by decide +kernel
theorem dX10_fits_53 : decode cX10_fits 53 = .ok (.ifCond .ne 25, 3) := by decide +kernel
theorem dX10_fits_56 : decode cX10_fits 56 = .ok (.aload_n 0, 1) := by decide +kernel
theorem dX10_fits_57 : decode cX10_fits 57 = .ok (.iload 4, 2) := by decide +kernel
theorem dX10_fits_59 : decode cX10_fits 59 = .ok (.bipush 10, 2) := by decide +kernel
theorem dX10_fits_61 : decode cX10_fits 61 = .ok (.bipush 9, 2) := by decide +kernel
theorem dX10_fits_63 : decode cX10_fits 63 = .ok (.aload_n 0, 1) := by decide +kernel
theorem dX10_fits_64 : decode cX10_fits 64 = .ok (.getfield 13, 3) := by decide +kernel
theorem dX10_fits_67 : decode cX10_fits 67 = .ok (.iload_n 1, 1) := by decide +kernel
theorem dX10_fits_68 : decode cX10_fits 68 = .ok (.iaload, 1) := by decide +kernel
theorem dX10_fits_69 : decode cX10_fits 69 = .ok (.iadd, 1) := by decide +kernel
theorem dX10_fits_70 : decode cX10_fits 70 = .ok (.invokevirtual 177, 3) := by decide +kernel
theorem dX10_fits_73 : decode cX10_fits 73 = .ok (.ifCond .ne 5, 3) := by decide +kernel
theorem dX10_fits_76 : decode cX10_fits 76 = .ok (.iconst (-1), 1) := by decide +kernel
theorem dX10_fits_77 : decode cX10_fits 77 = .ok (.ireturn, 1) := by decide +kernel
theorem dX10_fits_78 : decode cX10_fits 78 = .ok (.aload_n 0, 1) := by decide +kernel
theorem dX10_fits_79 : decode cX10_fits 79 = .ok (.iload_n 1, 1) := by decide +kernel
theorem dX10_fits_80 : decode cX10_fits 80 = .ok (.iload_n 2, 1) := by decide +kernel
theorem dX10_fits_81 : decode cX10_fits 81 = .ok (.iload_n 3, 1) := by decide +kernel
theorem dX10_fits_82 : decode cX10_fits 82 = .ok (.invokevirtual 387, 3) := by decide +kernel
theorem dX10_fits_85 : decode cX10_fits 85 = .ok (.iload 4, 2) := by decide +kernel
theorem dX10_fits_87 : decode cX10_fits 87 = .ok (.ifCond .ne 8, 3) := by decide +kernel
theorem dX10_fits_90 : decode cX10_fits 90 = .ok (.aload_n 0, 1) := by decide +kernel
theorem dX10_fits_91 : decode cX10_fits 91 = .ok (.getfield 378, 3) := by decide +kernel
theorem dX10_fits_94 : decode cX10_fits 94 = .ok (.ireturn, 1) := by decide +kernel
theorem dX10_fits_95 : decode cX10_fits 95 = .ok (.iload 4, 2) := by decide +kernel
theorem dX10_fits_97 : decode cX10_fits 97 = .ok (.iconst 1, 1) := by decide +kernel
theorem dX10_fits_98 : decode cX10_fits 98 = .ok (.if_icmp .ne 11, 3) := by decide +kernel
theorem dX10_fits_101 : decode cX10_fits 101 = .ok (.aload_n 0, 1) := by decide +kernel
theorem dX10_fits_102 : decode cX10_fits 102 = .ok (.iload_n 1, 1) := by decide +kernel
theorem dX10_fits_103 : decode cX10_fits 103 = .ok (.invokevirtual 390, 3) := by decide +kernel
theorem dX10_fits_106 : decode cX10_fits 106 = .ok (.goto 12, 3) := by decide +kernel
theorem dX10_fits_109 : decode cX10_fits 109 = .ok (.aload_n 0, 1) := by decide +kernel
theorem dX10_fits_110 : decode cX10_fits 110 = .ok (.iload 4, 2) := by decide +kernel
theorem dX10_fits_112 : decode cX10_fits 112 = .ok (.bipush 10, 2) := by decide +kernel
theorem dX10_fits_114 : decode cX10_fits 114 = .ok (.isub, 1) := by decide +kernel
theorem dX10_fits_115 : decode cX10_fits 115 = .ok (.invokevirtual 393, 3) := by decide +kernel
theorem dX10_fits_118 : decode cX10_fits 118 = .ok (.ireturn, 1) := by decide +kernel
theorem dX10_offOf_0 : decode cX10_offOf 0 = .ok (.lconst 0, 1) := by decide +kernel
theorem dX10_offOf_1 : decode cX10_offOf 1 = .ok (.lstore_n 2, 1) := by decide +kernel
theorem dX10_offOf_2 : decode cX10_offOf 2 = .ok (.iconst 0, 1) := by decide +kernel
theorem dX10_offOf_3 : decode cX10_offOf 3 = .ok (.istore 4, 2) := by decide +kernel
theorem dX10_offOf_5 : decode cX10_offOf 5 = .ok (.iload 4, 2) := by decide +kernel
theorem dX10_offOf_7 : decode cX10_offOf 7 = .ok (.aload_n 0, 1) := by decide +kernel
theorem dX10_offOf_8 : decode cX10_offOf 8 = .ok (.getfield 170, 3) := by decide +kernel
theorem dX10_offOf_11 : decode cX10_offOf 11 = .ok (.if_icmp .ge 65, 3) := by decide +kernel
theorem dX10_offOf_14 : decode cX10_offOf 14 = .ok (.bipush 12, 2) := by decide +kernel
theorem dX10_offOf_16 : decode cX10_offOf 16 = .ok (.iload 4, 2) := by decide +kernel
theorem dX10_offOf_18 : decode cX10_offOf 18 = .ok (.imul, 1) := by decide +kernel
theorem dX10_offOf_19 : decode cX10_offOf 19 = .ok (.istore 5, 2) := by decide +kernel
theorem dX10_offOf_21 : decode cX10_offOf 21 = .ok (.iload 5, 2) := by decide +kernel
theorem dX10_offOf_23 : decode cX10_offOf 23 = .ok (.bipush 12, 2) := by decide +kernel
theorem dX10_offOf_25 : decode cX10_offOf 25 = .ok (.iload 4, 2) := by decide +kernel
theorem dX10_offOf_27 : decode cX10_offOf 27 = .ok (.imul, 1) := by decide +kernel
theorem dX10_offOf_28 : decode cX10_offOf 28 = .ok (.aload_n 0, 1) := by decide +kernel
theorem dX10_offOf_29 : decode cX10_offOf 29 = .ok (.getfield 116, 3) := by decide +kernel
theorem dX10_offOf_32 : decode cX10_offOf 32 = .ok (.iload 4, 2) := by decide +kernel
theorem dX10_offOf_34 : decode cX10_offOf 34 = .ok (.iaload, 1) := by decide +kernel
theorem dX10_offOf_35 : decode cX10_offOf 35 = .ok (.iadd, 1) := by decide +kernel
theorem dX10_offOf_36 : decode cX10_offOf 36 = .ok (.if_icmp .ge 34, 3) := by decide +kernel
theorem dX10_offOf_39 : decode cX10_offOf 39 = .ok (.lload_n 2, 1) := by decide +kernel
theorem dX10_offOf_40 : decode cX10_offOf 40 = .ok (.aload_n 0, 1) := by decide +kernel
theorem dX10_offOf_41 : decode cX10_offOf 41 = .ok (.aload_n 0, 1) := by decide +kernel
theorem dX10_offOf_42 : decode cX10_offOf 42 = .ok (.iload_n 1, 1) := by decide +kernel
theorem dX10_offOf_43 : decode cX10_offOf 43 = .ok (.iload 4, 2) := by decide +kernel
theorem dX10_offOf_45 : decode cX10_offOf 45 = .ok (.iload 5, 2) := by decide +kernel
theorem dX10_offOf_47 : decode cX10_offOf 47 = .ok (.invokevirtual 375, 3) := by decide +kernel
theorem dX10_offOf_50 : decode cX10_offOf 50 = .ok (.aload_n 0, 1) := by decide +kernel
theorem dX10_offOf_51 : decode cX10_offOf 51 = .ok (.getfield 122, 3) := by decide +kernel
theorem dX10_offOf_54 : decode cX10_offOf 54 = .ok (.iload 5, 2) := by decide +kernel
theorem dX10_offOf_56 : decode cX10_offOf 56 = .ok (.iaload, 1) := by decide +kernel
theorem dX10_offOf_57 : decode cX10_offOf 57 = .ok (.isub, 1) := by decide +kernel
theorem dX10_offOf_58 : decode cX10_offOf 58 = .ok (.invokevirtual 309, 3) := by decide +kernel
theorem dX10_offOf_61 : decode cX10_offOf 61 = .ok (.i2l, 1) := by decide +kernel
theorem dX10_offOf_62 : decode cX10_offOf 62 = .ok (.ladd, 1) := by decide +kernel
theorem dX10_offOf_63 : decode cX10_offOf 63 = .ok (.lstore_n 2, 1) := by decide +kernel
theorem dX10_offOf_64 : decode cX10_offOf 64 = .ok (.iinc 5 1, 3) := by decide +kernel
theorem dX10_offOf_67 : decode cX10_offOf 67 = .ok (.goto (-46), 3) := by decide +kernel
theorem dX10_offOf_70 : decode cX10_offOf 70 = .ok (.iinc 4 1, 3) := by decide +kernel
theorem dX10_offOf_73 : decode cX10_offOf 73 = .ok (.goto (-68), 3) := by decide +kernel
theorem dX10_offOf_76 : decode cX10_offOf 76 = .ok (.lload_n 2, 1) := by decide +kernel
theorem dX10_offOf_77 : decode cX10_offOf 77 = .ok (.ldc2_w 396, 3) := by decide +kernel
theorem dX10_offOf_80 : decode cX10_offOf 80 = .ok (.lcmp, 1) := by decide +kernel
theorem dX10_offOf_81 : decode cX10_offOf 81 = .ok (.ifCond .le 9, 3) := by decide +kernel
theorem dX10_offOf_84 : decode cX10_offOf 84 = .ok (.ldc_w 398, 3) := by decide +kernel
theorem dX10_offOf_87 : decode cX10_offOf 87 = .ok (.goto 5, 3) := by decide +kernel
theorem dX10_offOf_90 : decode cX10_offOf 90 = .ok (.lload_n 2, 1) := by decide +kernel
theorem dX10_offOf_91 : decode cX10_offOf 91 = .ok (.l2i, 1) := by decide +kernel
theorem dX10_offOf_92 : decode cX10_offOf 92 = .ok (.ireturn, 1) := by decide +kernel
theorem dX10_off_0 : decode cX10_off 0 = .ok (.aload_n 0, 1) := by decide +kernel
theorem dX10_off_1 : decode cX10_off 1 = .ok (.iconst 0, 1) := by decide +kernel
theorem dX10_off_2 : decode cX10_off 2 = .ok (.putfield 167, 3) := by decide +kernel
theorem dX10_off_5 : decode cX10_off 5 = .ok (.iload_n 1, 1) := by decide +kernel
theorem dX10_off_6 : decode cX10_off 6 = .ok (.iconst (-1), 1) := by decide +kernel
theorem dX10_off_7 : decode cX10_off 7 = .ok (.if_icmp .ne 22, 3) := by decide +kernel
theorem dX10_off_10 : decode cX10_off 10 = .ok (.aload_n 0, 1) := by decide +kernel
theorem dX10_off_11 : decode cX10_off 11 = .ok (.iconst 1, 1) := by decide +kernel
theorem dX10_off_12 : decode cX10_off 12 = .ok (.invokevirtual 399, 3) := by decide +kernel
theorem dX10_off_15 : decode cX10_off 15 = .ok (.aload_n 0, 1) := by decide +kernel
theorem dX10_off_16 : decode cX10_off 16 = .ok (.iconst 0, 1) := by decide +kernel
theorem dX10_off_17 : decode cX10_off 17 = .ok (.invokevirtual 399, 3) := by decide +kernel
theorem dX10_off_20 : decode cX10_off 20 = .ok (.if_icmp .ge 7, 3) := by decide +kernel
theorem dX10_off_23 : decode cX10_off 23 = .ok (.iconst 1, 1) := by decide +kernel
theorem dX10_off_24 : decode cX10_off 24 = .ok (.goto 4, 3) := by decide +kernel
theorem dX10_off_27 : decode cX10_off 27 = .ok (.iconst 0, 1) := by decide +kernel
theorem dX10_off_28 : decode cX10_off 28 = .ok (.ireturn, 1) := by decide +kernel
theorem dX10_off_29 : decode cX10_off 29 = .ok (.aload_n 0, 1) := by decide +kernel
theorem dX10_off_30 : decode cX10_off 30 = .ok (.iload_n 1, 1) := by decide +kernel
theorem dX10_off_31 : decode cX10_off 31 = .ok (.invokevirtual 328, 3) := by decide +kernel
theorem dX10_off_34 : decode cX10_off 34 = .ok (.ifCond .eq 11, 3) := by decide +kernel
theorem dX10_off_37 : decode cX10_off 37 = .ok (.aload_n 0, 1) := by decide +kernel
theorem dX10_off_38 : decode cX10_off 38 = .ok (.iload_n 1, 1) := by decide +kernel
theorem dX10_off_39 : decode cX10_off 39 = .ok (.invokevirtual 399, 3) := by decide +kernel
theorem dX10_off_42 : decode cX10_off 42 = .ok (.goto 4, 3) := by decide +kernel
theorem dX10_off_45 : decode cX10_off 45 = .ok (.iconst (-1), 1) := by decide +kernel
theorem dX10_off_46 : decode cX10_off 46 = .ok (.ireturn, 1) := by decide +kernel
theorem dX10_sways_0 : decode cX10_sways 0 = .ok (.aload_n 0, 1) := by decide +kernel
theorem dX10_sways_1 : decode cX10_sways 1 = .ok (.iload_n 1, 1) := by decide +kernel
theorem dX10_sways_2 : decode cX10_sways 2 = .ok (.iload_n 2, 1) := by decide +kernel
theorem dX10_sways_3 : decode cX10_sways 3 = .ok (.invokevirtual 316, 3) := by decide +kernel
theorem dX10_sways_6 : decode cX10_sways 6 = .ok (.aload_n 0, 1) := by decide +kernel
theorem dX10_sways_7 : decode cX10_sways 7 = .ok (.aload_n 0, 1) := by decide +kernel
theorem dX10_sways_8 : decode cX10_sways 8 = .ok (.getfield 322, 3) := by decide +kernel
theorem dX10_sways_11 : decode cX10_sways 11 = .ok (.iconst 2, 1) := by decide +kernel
theorem dX10_sways_12 : decode cX10_sways 12 = .ok (.iload_n 3, 1) := by decide +kernel
theorem dX10_sways_13 : decode cX10_sways 13 = .ok (.invokevirtual 319, 3) := by decide +kernel
theorem dX10_sways_16 : decode cX10_sways 16 = .ok (.ifCond .ge 7, 3) := by decide +kernel
theorem dX10_sways_19 : decode cX10_sways 19 = .ok (.iconst 1, 1) := by decide +kernel
theorem dX10_sways_20 : decode cX10_sways 20 = .ok (.goto 4, 3) := by decide +kernel
theorem dX10_sways_23 : decode cX10_sways 23 = .ok (.iconst 0, 1) := by decide +kernel
theorem dX10_sways_24 : decode cX10_sways 24 = .ok (.ireturn, 1) := by decide +kernel
theorem dX10_isStill_0 : decode cX10_isStill 0 = .ok (.iload_n 2, 1) := by decide +kernel
theorem dX10_isStill_1 : decode cX10_isStill 1 = .ok (.iconst 1, 1) := by decide +kernel
theorem dX10_isStill_2 : decode cX10_isStill 2 = .ok (.iadd, 1) := by decide +kernel
theorem dX10_isStill_3 : decode cX10_isStill 3 = .ok (.aload_n 0, 1) := by decide +kernel
theorem dX10_isStill_4 : decode cX10_isStill 4 = .ok (.getfield 13, 3) := by decide +kernel
theorem dX10_isStill_7 : decode cX10_isStill 7 = .ok (.iload_n 1, 1) := by decide +kernel
theorem dX10_isStill_8 : decode cX10_isStill 8 = .ok (.iaload, 1) := by decide +kernel
theorem dX10_isStill_9 : decode cX10_isStill 9 = .ok (.if_icmp .ge 26, 3) := by decide +kernel
theorem dX10_isStill_12 : decode cX10_isStill 12 = .ok (.aload_n 0, 1) := by decide +kernel
theorem dX10_isStill_13 : decode cX10_isStill 13 = .ok (.iload_n 1, 1) := by decide +kernel
theorem dX10_isStill_14 : decode cX10_isStill 14 = .ok (.iload_n 2, 1) := by decide +kernel
theorem dX10_isStill_15 : decode cX10_isStill 15 = .ok (.iload_n 3, 1) := by decide +kernel
theorem dX10_isStill_16 : decode cX10_isStill 16 = .ok (.invokevirtual 402, 3) := by decide +kernel
theorem dX10_isStill_19 : decode cX10_isStill 19 = .ok (.aload_n 0, 1) := by decide +kernel
theorem dX10_isStill_20 : decode cX10_isStill 20 = .ok (.iload_n 1, 1) := by decide +kernel
theorem dX10_isStill_21 : decode cX10_isStill 21 = .ok (.iload_n 2, 1) := by decide +kernel
theorem dX10_isStill_22 : decode cX10_isStill 22 = .ok (.iconst 1, 1) := by decide +kernel
theorem dX10_isStill_23 : decode cX10_isStill 23 = .ok (.iadd, 1) := by decide +kernel
theorem dX10_isStill_24 : decode cX10_isStill 24 = .ok (.iload_n 3, 1) := by decide +kernel
theorem dX10_isStill_25 : decode cX10_isStill 25 = .ok (.invokevirtual 402, 3) := by decide +kernel
theorem dX10_isStill_28 : decode cX10_isStill 28 = .ok (.if_icmp .eq 7, 3) := by decide +kernel
theorem dX10_isStill_31 : decode cX10_isStill 31 = .ok (.iconst 1, 1) := by decide +kernel
theorem dX10_isStill_32 : decode cX10_isStill 32 = .ok (.goto 4, 3) := by decide +kernel
theorem dX10_isStill_35 : decode cX10_isStill 35 = .ok (.iconst 0, 1) := by decide +kernel
theorem dX10_isStill_36 : decode cX10_isStill 36 = .ok (.ireturn, 1) := by decide +kernel
theorem dX10_stillAt_0 : decode cX10_stillAt 0 = .ok (.iconst 0, 1) := by decide +kernel
theorem dX10_stillAt_1 : decode cX10_stillAt 1 = .ok (.istore 4, 2) := by decide +kernel
theorem dX10_stillAt_3 : decode cX10_stillAt 3 = .ok (.iconst 0, 1) := by decide +kernel
theorem dX10_stillAt_4 : decode cX10_stillAt 4 = .ok (.istore 5, 2) := by decide +kernel
theorem dX10_stillAt_6 : decode cX10_stillAt 6 = .ok (.iload 5, 2) := by decide +kernel
theorem dX10_stillAt_8 : decode cX10_stillAt 8 = .ok (.aload_n 0, 1) := by decide +kernel
theorem dX10_stillAt_9 : decode cX10_stillAt 9 = .ok (.getfield 13, 3) := by decide +kernel
theorem dX10_stillAt_12 : decode cX10_stillAt 12 = .ok (.iload_n 1, 1) := by decide +kernel
theorem dX10_stillAt_13 : decode cX10_stillAt 13 = .ok (.iaload, 1) := by decide +kernel
theorem dX10_stillAt_14 : decode cX10_stillAt 14 = .ok (.if_icmp .ge 38, 3) := by decide +kernel
theorem dX10_stillAt_17 : decode cX10_stillAt 17 = .ok (.aload_n 0, 1) := by decide +kernel
theorem dX10_stillAt_18 : decode cX10_stillAt 18 = .ok (.iload_n 1, 1) := by decide +kernel
theorem dX10_stillAt_19 : decode cX10_stillAt 19 = .ok (.iload 5, 2) := by decide +kernel
theorem dX10_stillAt_21 : decode cX10_stillAt 21 = .ok (.iload_n 2, 1) := by decide +kernel
theorem dX10_stillAt_22 : decode cX10_stillAt 22 = .ok (.invokevirtual 405, 3) := by decide +kernel
theorem dX10_stillAt_25 : decode cX10_stillAt 25 = .ok (.ifCond .ne 6, 3) := by decide +kernel
theorem dX10_stillAt_28 : decode cX10_stillAt 28 = .ok (.goto 18, 3) := by decide +kernel
theorem dX10_stillAt_31 : decode cX10_stillAt 31 = .ok (.iload 4, 2) := by decide +kernel
theorem dX10_stillAt_33 : decode cX10_stillAt 33 = .ok (.iload_n 3, 1) := by decide +kernel
theorem dX10_stillAt_34 : decode cX10_stillAt 34 = .ok (.if_icmp .ne 6, 3) := by decide +kernel
theorem dX10_stillAt_37 : decode cX10_stillAt 37 = .ok (.iload 5, 2) := by decide +kernel
theorem dX10_stillAt_39 : decode cX10_stillAt 39 = .ok (.ireturn, 1) := by decide +kernel
theorem dX10_stillAt_40 : decode cX10_stillAt 40 = .ok (.iload 4, 2) := by decide +kernel
theorem dX10_stillAt_42 : decode cX10_stillAt 42 = .ok (.iconst 1, 1) := by decide +kernel
theorem dX10_stillAt_43 : decode cX10_stillAt 43 = .ok (.iadd, 1) := by decide +kernel
theorem dX10_stillAt_44 : decode cX10_stillAt 44 = .ok (.istore 4, 2) := by decide +kernel
theorem dX10_stillAt_46 : decode cX10_stillAt 46 = .ok (.iinc 5 1, 3) := by decide +kernel
theorem dX10_stillAt_49 : decode cX10_stillAt 49 = .ok (.goto (-43), 3) := by decide +kernel
theorem dX10_stillAt_52 : decode cX10_stillAt 52 = .ok (.iconst (-1), 1) := by decide +kernel
theorem dX10_stillAt_53 : decode cX10_stillAt 53 = .ok (.ireturn, 1) := by decide +kernel
theorem dX10_stills_0 : decode cX10_stills 0 = .ok (.iconst 0, 1) := by decide +kernel
theorem dX10_stills_1 : decode cX10_stills 1 = .ok (.istore_n 3, 1) := by decide +kernel
theorem dX10_stills_2 : decode cX10_stills 2 = .ok (.iconst 0, 1) := by decide +kernel
theorem dX10_stills_3 : decode cX10_stills 3 = .ok (.istore 4, 2) := by decide +kernel
theorem dX10_stills_5 : decode cX10_stills 5 = .ok (.iload 4, 2) := by decide +kernel
theorem dX10_stills_7 : decode cX10_stills 7 = .ok (.aload_n 0, 1) := by decide +kernel
theorem dX10_stills_8 : decode cX10_stills 8 = .ok (.getfield 13, 3) := by decide +kernel
theorem dX10_stills_11 : decode cX10_stills 11 = .ok (.iload_n 1, 1) := by decide +kernel
theorem dX10_stills_12 : decode cX10_stills 12 = .ok (.iaload, 1) := by decide +kernel
theorem dX10_stills_13 : decode cX10_stills 13 = .ok (.if_icmp .ge 24, 3) := by decide +kernel
theorem dX10_stills_16 : decode cX10_stills 16 = .ok (.aload_n 0, 1) := by decide +kernel
theorem dX10_stills_17 : decode cX10_stills 17 = .ok (.iload_n 1, 1) := by decide +kernel
theorem dX10_stills_18 : decode cX10_stills 18 = .ok (.iload 4, 2) := by decide +kernel
theorem dX10_stills_20 : decode cX10_stills 20 = .ok (.iload_n 2, 1) := by decide +kernel
theorem dX10_stills_21 : decode cX10_stills 21 = .ok (.invokevirtual 405, 3) := by decide +kernel
theorem dX10_stills_24 : decode cX10_stills 24 = .ok (.ifCond .eq 7, 3) := by decide +kernel
theorem dX10_stills_27 : decode cX10_stills 27 = .ok (.iload_n 3, 1) := by decide +kernel
theorem dX10_stills_28 : decode cX10_stills 28 = .ok (.iconst 1, 1) := by decide +kernel
theorem dX10_stills_29 : decode cX10_stills 29 = .ok (.iadd, 1) := by decide +kernel
theorem dX10_stills_30 : decode cX10_stills 30 = .ok (.istore_n 3, 1) := by decide +kernel
theorem dX10_stills_31 : decode cX10_stills 31 = .ok (.iinc 4 1, 3) := by decide +kernel
theorem dX10_stills_34 : decode cX10_stills 34 = .ok (.goto (-29), 3) := by decide +kernel
theorem dX10_stills_37 : decode cX10_stills 37 = .ok (.iload_n 3, 1) := by decide +kernel
theorem dX10_stills_38 : decode cX10_stills 38 = .ok (.ireturn, 1) := by decide +kernel
theorem dX10_still_0 : decode cX10_still 0 = .ok (.aload_n 0, 1) := by decide +kernel
theorem dX10_still_1 : decode cX10_still 1 = .ok (.iconst 0, 1) := by decide +kernel
theorem dX10_still_2 : decode cX10_still 2 = .ok (.putfield 167, 3) := by decide +kernel
theorem dX10_still_5 : decode cX10_still 5 = .ok (.aload_n 0, 1) := by decide +kernel
theorem dX10_still_6 : decode cX10_still 6 = .ok (.iload_n 1, 1) := by decide +kernel
theorem dX10_still_7 : decode cX10_still 7 = .ok (.invokevirtual 173, 3) := by decide +kernel
theorem dX10_still_10 : decode cX10_still 10 = .ok (.ifCond .eq 15, 3) := by decide +kernel
theorem dX10_still_13 : decode cX10_still 13 = .ok (.aload_n 0, 1) := by decide +kernel
theorem dX10_still_14 : decode cX10_still 14 = .ok (.iload_n 2, 1) := by decide +kernel
theorem dX10_still_15 : decode cX10_still 15 = .ok (.invokevirtual 331, 3) := by decide +kernel
theorem dX10_still_18 : decode cX10_still 18 = .ok (.ifCond .eq 7, 3) := by decide +kernel
theorem dX10_still_21 : decode cX10_still 21 = .ok (.iload_n 3, 1) := by decide +kernel
theorem dX10_still_22 : decode cX10_still 22 = .ok (.ifCond .ge 5, 3) := by decide +kernel
theorem dX10_still_25 : decode cX10_still 25 = .ok (.iconst (-1), 1) := by decide +kernel
theorem dX10_still_26 : decode cX10_still 26 = .ok (.ireturn, 1) := by decide +kernel
theorem dX10_still_27 : decode cX10_still 27 = .ok (.iload_n 3, 1) := by decide +kernel
theorem dX10_still_28 : decode cX10_still 28 = .ok (.ifCond .ne 12, 3) := by decide +kernel
theorem dX10_still_31 : decode cX10_still 31 = .ok (.aload_n 0, 1) := by decide +kernel
theorem dX10_still_32 : decode cX10_still 32 = .ok (.iload_n 1, 1) := by decide +kernel
theorem dX10_still_33 : decode cX10_still 33 = .ok (.iload_n 2, 1) := by decide +kernel
theorem dX10_still_34 : decode cX10_still 34 = .ok (.invokevirtual 408, 3) := by decide +kernel
theorem dX10_still_37 : decode cX10_still 37 = .ok (.goto 12, 3) := by decide +kernel
theorem dX10_still_40 : decode cX10_still 40 = .ok (.aload_n 0, 1) := by decide +kernel
theorem dX10_still_41 : decode cX10_still 41 = .ok (.iload_n 1, 1) := by decide +kernel
theorem dX10_still_42 : decode cX10_still 42 = .ok (.iload_n 2, 1) := by decide +kernel
theorem dX10_still_43 : decode cX10_still 43 = .ok (.iload_n 3, 1) := by decide +kernel
theorem dX10_still_44 : decode cX10_still 44 = .ok (.iconst 1, 1) := by decide +kernel
theorem dX10_still_45 : decode cX10_still 45 = .ok (.isub, 1) := by decide +kernel
theorem dX10_still_46 : decode cX10_still 46 = .ok (.invokevirtual 411, 3) := by decide +kernel
theorem dX10_still_49 : decode cX10_still 49 = .ok (.ireturn, 1) := by decide +kernel
theorem dX10_holes_0 : decode cX10_holes 0 = .ok (.aload_n 0, 1) := by decide +kernel
theorem dX10_holes_1 : decode cX10_holes 1 = .ok (.iconst 0, 1) := by decide +kernel
theorem dX10_holes_2 : decode cX10_holes 2 = .ok (.putfield 167, 3) := by decide +kernel
theorem dX10_holes_5 : decode cX10_holes 5 = .ok (.aload_n 0, 1) := by decide +kernel
theorem dX10_holes_6 : decode cX10_holes 6 = .ok (.iload_n 1, 1) := by decide +kernel
theorem dX10_holes_7 : decode cX10_holes 7 = .ok (.iload_n 2, 1) := by decide +kernel
theorem dX10_holes_8 : decode cX10_holes 8 = .ok (.invokevirtual 181, 3) := by decide +kernel
theorem dX10_holes_11 : decode cX10_holes 11 = .ok (.ifCond .eq 17, 3) := by decide +kernel
theorem dX10_holes_14 : decode cX10_holes 14 = .ok (.aload_n 0, 1) := by decide +kernel
theorem dX10_holes_15 : decode cX10_holes 15 = .ok (.iload_n 1, 1) := by decide +kernel
theorem dX10_holes_16 : decode cX10_holes 16 = .ok (.iload_n 3, 1) := by decide +kernel
theorem dX10_holes_17 : decode cX10_holes 17 = .ok (.invokevirtual 181, 3) := by decide +kernel
theorem dX10_holes_20 : decode cX10_holes 20 = .ok (.ifCond .eq 8, 3) := by decide +kernel
theorem dX10_holes_23 : decode cX10_holes 23 = .ok (.iload_n 2, 1) := by decide +kernel
theorem dX10_holes_24 : decode cX10_holes 24 = .ok (.iload_n 3, 1) := by decide +kernel
theorem dX10_holes_25 : decode cX10_holes 25 = .ok (.if_icmp .lt 5, 3) := by decide +kernel
theorem dX10_holes_28 : decode cX10_holes 28 = .ok (.iconst 0, 1) := by decide +kernel
theorem dX10_holes_29 : decode cX10_holes 29 = .ok (.ireturn, 1) := by decide +kernel
theorem dX10_holes_30 : decode cX10_holes 30 = .ok (.aload_n 0, 1) := by decide +kernel
theorem dX10_holes_31 : decode cX10_holes 31 = .ok (.getfield 44, 3) := by decide +kernel
theorem dX10_holes_34 : decode cX10_holes 34 = .ok (.iload_n 1, 1) := by decide +kernel
theorem dX10_holes_35 : decode cX10_holes 35 = .ok (.iload_n 2, 1) := by decide +kernel
theorem dX10_holes_36 : decode cX10_holes 36 = .ok (.iastore, 1) := by decide +kernel
theorem dX10_holes_37 : decode cX10_holes 37 = .ok (.aload_n 0, 1) := by decide +kernel
theorem dX10_holes_38 : decode cX10_holes 38 = .ok (.getfield 47, 3) := by decide +kernel
theorem dX10_holes_41 : decode cX10_holes 41 = .ok (.iload_n 1, 1) := by decide +kernel
theorem dX10_holes_42 : decode cX10_holes 42 = .ok (.iload_n 3, 1) := by decide +kernel
theorem dX10_holes_43 : decode cX10_holes 43 = .ok (.iastore, 1) := by decide +kernel
theorem dX10_holes_44 : decode cX10_holes 44 = .ok (.iconst 1, 1) := by decide +kernel
theorem dX10_holes_45 : decode cX10_holes 45 = .ok (.ireturn, 1) := by decide +kernel
theorem dX10_amiss_0 : decode cX10_amiss 0 = .ok (.aload_n 0, 1) := by decide +kernel
theorem dX10_amiss_1 : decode cX10_amiss 1 = .ok (.iload_n 1, 1) := by decide +kernel
theorem dX10_amiss_2 : decode cX10_amiss 2 = .ok (.iconst 0, 1) := by decide +kernel
theorem dX10_amiss_3 : decode cX10_amiss 3 = .ok (.invokevirtual 408, 3) := by decide +kernel
theorem dX10_amiss_6 : decode cX10_amiss 6 = .ok (.istore_n 2, 1) := by decide +kernel
theorem dX10_amiss_7 : decode cX10_amiss 7 = .ok (.aload_n 0, 1) := by decide +kernel
theorem dX10_amiss_8 : decode cX10_amiss 8 = .ok (.getfield 44, 3) := by decide +kernel
theorem dX10_amiss_11 : decode cX10_amiss 11 = .ok (.iload_n 1, 1) := by decide +kernel
theorem dX10_amiss_12 : decode cX10_amiss 12 = .ok (.iaload, 1) := by decide +kernel
theorem dX10_amiss_13 : decode cX10_amiss 13 = .ok (.iconst (-1), 1) := by decide +kernel
theorem dX10_amiss_14 : decode cX10_amiss 14 = .ok (.if_icmp .eq 7, 3) := by decide +kernel
theorem dX10_amiss_17 : decode cX10_amiss 17 = .ok (.iload_n 2, 1) := by decide +kernel
theorem dX10_amiss_18 : decode cX10_amiss 18 = .ok (.ifCond .ne 5, 3) := by decide +kernel
theorem dX10_amiss_21 : decode cX10_amiss 21 = .ok (.iconst (-1), 1) := by decide +kernel
theorem dX10_amiss_22 : decode cX10_amiss 22 = .ok (.ireturn, 1) := by decide +kernel
theorem dX10_amiss_23 : decode cX10_amiss 23 = .ok (.aload_n 0, 1) := by decide +kernel
theorem dX10_amiss_24 : decode cX10_amiss 24 = .ok (.aload_n 0, 1) := by decide +kernel
theorem dX10_amiss_25 : decode cX10_amiss 25 = .ok (.getfield 44, 3) := by decide +kernel
theorem dX10_amiss_28 : decode cX10_amiss 28 = .ok (.iload_n 1, 1) := by decide +kernel
theorem dX10_amiss_29 : decode cX10_amiss 29 = .ok (.iaload, 1) := by decide +kernel
theorem dX10_amiss_30 : decode cX10_amiss 30 = .ok (.aload_n 0, 1) := by decide +kernel
theorem dX10_amiss_31 : decode cX10_amiss 31 = .ok (.iload_n 1, 1) := by decide +kernel
theorem dX10_amiss_32 : decode cX10_amiss 32 = .ok (.iconst 0, 1) := by decide +kernel
theorem dX10_amiss_33 : decode cX10_amiss 33 = .ok (.iconst 0, 1) := by decide +kernel
theorem dX10_amiss_34 : decode cX10_amiss 34 = .ok (.invokevirtual 411, 3) := by decide +kernel
theorem dX10_amiss_37 : decode cX10_amiss 37 = .ok (.isub, 1) := by decide +kernel
theorem dX10_amiss_38 : decode cX10_amiss 38 = .ok (.invokevirtual 309, 3) := by decide +kernel
theorem dX10_amiss_41 : decode cX10_amiss 41 = .ok (.aload_n 0, 1) := by decide +kernel
theorem dX10_amiss_42 : decode cX10_amiss 42 = .ok (.aload_n 0, 1) := by decide +kernel
theorem dX10_amiss_43 : decode cX10_amiss 43 = .ok (.getfield 47, 3) := by decide +kernel
theorem dX10_amiss_46 : decode cX10_amiss 46 = .ok (.iload_n 1, 1) := by decide +kernel
theorem dX10_amiss_47 : decode cX10_amiss 47 = .ok (.iaload, 1) := by decide +kernel
theorem dX10_amiss_48 : decode cX10_amiss 48 = .ok (.aload_n 0, 1) := by decide +kernel
theorem dX10_amiss_49 : decode cX10_amiss 49 = .ok (.iload_n 1, 1) := by decide +kernel
theorem dX10_amiss_50 : decode cX10_amiss 50 = .ok (.iconst 0, 1) := by decide +kernel
theorem dX10_amiss_51 : decode cX10_amiss 51 = .ok (.iload_n 2, 1) := by decide +kernel
theorem dX10_amiss_52 : decode cX10_amiss 52 = .ok (.iconst 1, 1) := by decide +kernel
theorem dX10_amiss_53 : decode cX10_amiss 53 = .ok (.isub, 1) := by decide +kernel
theorem dX10_amiss_54 : decode cX10_amiss 54 = .ok (.invokevirtual 411, 3) := by decide +kernel
theorem dX10_amiss_57 : decode cX10_amiss 57 = .ok (.isub, 1) := by decide +kernel
theorem dX10_amiss_58 : decode cX10_amiss 58 = .ok (.invokevirtual 309, 3) := by decide +kernel
theorem dX10_amiss_61 : decode cX10_amiss 61 = .ok (.iadd, 1) := by decide +kernel
theorem dX10_amiss_62 : decode cX10_amiss 62 = .ok (.ireturn, 1) := by decide +kernel
theorem dX10_state_0 : decode cX10_state 0 = .ok (.aload_n 0, 1) := by decide +kernel
theorem dX10_state_1 : decode cX10_state 1 = .ok (.iconst 0, 1) := by decide +kernel
theorem dX10_state_2 : decode cX10_state 2 = .ok (.putfield 167, 3) := by decide +kernel
theorem dX10_state_5 : decode cX10_state 5 = .ok (.aload_n 0, 1) := by decide +kernel
theorem dX10_state_6 : decode cX10_state 6 = .ok (.iload_n 1, 1) := by decide +kernel
theorem dX10_state_7 : decode cX10_state 7 = .ok (.invokevirtual 173, 3) := by decide +kernel
theorem dX10_state_10 : decode cX10_state 10 = .ok (.ifCond .ne 6, 3) := by decide +kernel
theorem dX10_state_13 : decode cX10_state 13 = .ok (.bipush (-2), 2) := by decide +kernel
theorem dX10_state_15 : decode cX10_state 15 = .ok (.ireturn, 1) := by decide +kernel
theorem dX10_state_16 : decode cX10_state 16 = .ok (.iload_n 2, 1) := by decide +kernel
theorem dX10_state_17 : decode cX10_state 17 = .ok (.ifCond .ne 10, 3) := by decide +kernel
theorem dX10_state_20 : decode cX10_state 20 = .ok (.aload_n 0, 1) := by decide +kernel
theorem dX10_state_21 : decode cX10_state 21 = .ok (.getfield 13, 3) := by decide +kernel
theorem dX10_state_24 : decode cX10_state 24 = .ok (.iload_n 1, 1) := by decide +kernel
theorem dX10_state_25 : decode cX10_state 25 = .ok (.iaload, 1) := by decide +kernel
theorem dX10_state_26 : decode cX10_state 26 = .ok (.ireturn, 1) := by decide +kernel
theorem dX10_state_27 : decode cX10_state 27 = .ok (.iload_n 2, 1) := by decide +kernel
theorem dX10_state_28 : decode cX10_state 28 = .ok (.iconst 1, 1) := by decide +kernel
theorem dX10_state_29 : decode cX10_state 29 = .ok (.if_icmp .ne 10, 3) := by decide +kernel
theorem dX10_state_32 : decode cX10_state 32 = .ok (.aload_n 0, 1) := by decide +kernel
theorem dX10_state_33 : decode cX10_state 33 = .ok (.getfield 32, 3) := by decide +kernel
theorem dX10_state_36 : decode cX10_state 36 = .ok (.iload_n 1, 1) := by decide +kernel
theorem dX10_state_37 : decode cX10_state 37 = .ok (.iaload, 1) := by decide +kernel
theorem dX10_state_38 : decode cX10_state 38 = .ok (.ireturn, 1) := by decide +kernel
theorem dX10_state_39 : decode cX10_state 39 = .ok (.iload_n 2, 1) := by decide +kernel
theorem dX10_state_40 : decode cX10_state 40 = .ok (.iconst 2, 1) := by decide +kernel
theorem dX10_state_41 : decode cX10_state 41 = .ok (.if_icmp .ne 17, 3) := by decide +kernel
theorem dX10_state_44 : decode cX10_state 44 = .ok (.aload_n 0, 1) := by decide +kernel
theorem dX10_state_45 : decode cX10_state 45 = .ok (.iload_n 1, 1) := by decide +kernel
theorem dX10_state_46 : decode cX10_state 46 = .ok (.invokevirtual 338, 3) := by decide +kernel
theorem dX10_state_49 : decode cX10_state 49 = .ok (.ifCond .eq 7, 3) := by decide +kernel
theorem dX10_state_52 : decode cX10_state 52 = .ok (.iconst 1, 1) := by decide +kernel
theorem dX10_state_53 : decode cX10_state 53 = .ok (.goto 4, 3) := by decide +kernel
theorem dX10_state_56 : decode cX10_state 56 = .ok (.iconst 0, 1) := by decide +kernel
theorem dX10_state_57 : decode cX10_state 57 = .ok (.ireturn, 1) := by decide +kernel
theorem dX10_state_58 : decode cX10_state 58 = .ok (.iload_n 2, 1) := by decide +kernel
theorem dX10_state_59 : decode cX10_state 59 = .ok (.iconst 3, 1) := by decide +kernel
theorem dX10_state_60 : decode cX10_state 60 = .ok (.if_icmp .ne 17, 3) := by decide +kernel
theorem dX10_state_63 : decode cX10_state 63 = .ok (.aload_n 0, 1) := by decide +kernel
theorem dX10_state_64 : decode cX10_state 64 = .ok (.iload_n 1, 1) := by decide +kernel
theorem dX10_state_65 : decode cX10_state 65 = .ok (.invokevirtual 414, 3) := by decide +kernel
theorem dX10_state_68 : decode cX10_state 68 = .ok (.ifCond .eq 7, 3) := by decide +kernel
theorem dX10_state_71 : decode cX10_state 71 = .ok (.iconst 1, 1) := by decide +kernel
theorem dX10_state_72 : decode cX10_state 72 = .ok (.goto 4, 3) := by decide +kernel
theorem dX10_state_75 : decode cX10_state 75 = .ok (.iconst 0, 1) := by decide +kernel
theorem dX10_state_76 : decode cX10_state 76 = .ok (.ireturn, 1) := by decide +kernel
theorem dX10_state_77 : decode cX10_state 77 = .ok (.iload_n 2, 1) := by decide +kernel
theorem dX10_state_78 : decode cX10_state 78 = .ok (.iconst 4, 1) := by decide +kernel
theorem dX10_state_79 : decode cX10_state 79 = .ok (.if_icmp .ne 10, 3) := by decide +kernel
theorem dX10_state_82 : decode cX10_state 82 = .ok (.aload_n 0, 1) := by decide +kernel
theorem dX10_state_83 : decode cX10_state 83 = .ok (.getfield 41, 3) := by decide +kernel
theorem dX10_state_86 : decode cX10_state 86 = .ok (.iload_n 1, 1) := by decide +kernel
theorem dX10_state_87 : decode cX10_state 87 = .ok (.iaload, 1) := by decide +kernel
theorem dX10_state_88 : decode cX10_state 88 = .ok (.ireturn, 1) := by decide +kernel
theorem dX10_state_89 : decode cX10_state 89 = .ok (.aload_n 0, 1) := by decide +kernel
theorem dX10_state_90 : decode cX10_state 90 = .ok (.iload_n 2, 1) := by decide +kernel
theorem dX10_state_91 : decode cX10_state 91 = .ok (.iconst 5, 1) := by decide +kernel
theorem dX10_state_92 : decode cX10_state 92 = .ok (.bipush 7, 2) := by decide +kernel
theorem dX10_state_94 : decode cX10_state 94 = .ok (.invokevirtual 177, 3) := by decide +kernel
theorem dX10_state_97 : decode cX10_state 97 = .ok (.ifCond .eq 16, 3) := by decide +kernel
theorem dX10_state_100 : decode cX10_state 100 = .ok (.aload_n 0, 1) := by decide +kernel
theorem dX10_state_101 : decode cX10_state 101 = .ok (.getfield 29, 3) := by decide +kernel
theorem dX10_state_104 : decode cX10_state 104 = .ok (.iconst 3, 1) := by decide +kernel
theorem dX10_state_105 : decode cX10_state 105 = .ok (.iload_n 1, 1) := by decide +kernel
theorem dX10_state_106 : decode cX10_state 106 = .ok (.imul, 1) := by decide +kernel
theorem dX10_state_107 : decode cX10_state 107 = .ok (.iload_n 2, 1) := by decide +kernel
theorem dX10_state_108 : decode cX10_state 108 = .ok (.iadd, 1) := by decide +kernel
theorem dX10_state_109 : decode cX10_state 109 = .ok (.iconst 5, 1) := by decide +kernel
theorem dX10_state_110 : decode cX10_state 110 = .ok (.isub, 1) := by decide +kernel
theorem dX10_state_111 : decode cX10_state 111 = .ok (.iaload, 1) := by decide +kernel
theorem dX10_state_112 : decode cX10_state 112 = .ok (.ireturn, 1) := by decide +kernel
theorem dX10_state_113 : decode cX10_state 113 = .ok (.iload_n 2, 1) := by decide +kernel
theorem dX10_state_114 : decode cX10_state 114 = .ok (.bipush 8, 2) := by decide +kernel
theorem dX10_state_116 : decode cX10_state 116 = .ok (.if_icmp .ne 12, 3) := by decide +kernel
theorem dX10_state_119 : decode cX10_state 119 = .ok (.aload_n 0, 1) := by decide +kernel
theorem dX10_state_120 : decode cX10_state 120 = .ok (.getfield 116, 3) := by decide +kernel
theorem dX10_state_123 : decode cX10_state 123 = .ok (.iload_n 1, 1) := by decide +kernel
theorem dX10_state_124 : decode cX10_state 124 = .ok (.iaload, 1) := by decide +kernel
theorem dX10_state_125 : decode cX10_state 125 = .ok (.goto 19, 3) := by decide +kernel
theorem dX10_state_128 : decode cX10_state 128 = .ok (.iload_n 2, 1) := by decide +kernel
theorem dX10_state_129 : decode cX10_state 129 = .ok (.bipush 9, 2) := by decide +kernel
theorem dX10_state_131 : decode cX10_state 131 = .ok (.if_icmp .ne 11, 3) := by decide +kernel
theorem dX10_state_134 : decode cX10_state 134 = .ok (.aload_n 0, 1) := by decide +kernel
theorem dX10_state_135 : decode cX10_state 135 = .ok (.iload_n 1, 1) := by decide +kernel
theorem dX10_state_136 : decode cX10_state 136 = .ok (.invokevirtual 417, 3) := by decide +kernel
theorem dX10_state_139 : decode cX10_state 139 = .ok (.goto 5, 3) := by decide +kernel
theorem dX10_state_142 : decode cX10_state 142 = .ok (.bipush (-2), 2) := by decide +kernel
theorem dX10_state_144 : decode cX10_state 144 = .ok (.ireturn, 1) := by decide +kernel
theorem dX10_isHeat_0 : decode cX10_isHeat 0 = .ok (.aload_n 0, 1) := by decide +kernel
theorem dX10_isHeat_1 : decode cX10_isHeat 1 = .ok (.iload_n 1, 1) := by decide +kernel
theorem dX10_isHeat_2 : decode cX10_isHeat 2 = .ok (.bipush (-20), 2) := by decide +kernel
theorem dX10_isHeat_4 : decode cX10_isHeat 4 = .ok (.bipush 50, 2) := by decide +kernel
theorem dX10_isHeat_6 : decode cX10_isHeat 6 = .ok (.invokevirtual 177, 3) := by decide +kernel
theorem dX10_isHeat_9 : decode cX10_isHeat 9 = .ok (.ireturn, 1) := by decide +kernel
theorem dX10_isWet_0 : decode cX10_isWet 0 = .ok (.aload_n 0, 1) := by decide +kernel
theorem dX10_isWet_1 : decode cX10_isWet 1 = .ok (.iload_n 1, 1) := by decide +kernel
theorem dX10_isWet_2 : decode cX10_isWet 2 = .ok (.iconst 0, 1) := by decide +kernel
theorem dX10_isWet_3 : decode cX10_isWet 3 = .ok (.bipush 99, 2) := by decide +kernel
theorem dX10_isWet_5 : decode cX10_isWet 5 = .ok (.invokevirtual 177, 3) := by decide +kernel
theorem dX10_isWet_8 : decode cX10_isWet 8 = .ok (.ireturn, 1) := by decide +kernel
theorem dX10_drifted_0 : decode cX10_drifted 0 = .ok (.aload_n 0, 1) := by decide +kernel
theorem dX10_drifted_1 : decode cX10_drifted 1 = .ok (.iload_n 1, 1) := by decide +kernel
theorem dX10_drifted_2 : decode cX10_drifted 2 = .ok (.iconst 0, 1) := by decide +kernel
theorem dX10_drifted_3 : decode cX10_drifted 3 = .ok (.invokevirtual 335, 3) := by decide +kernel
theorem dX10_drifted_6 : decode cX10_drifted 6 = .ok (.istore 4, 2) := by decide +kernel
theorem dX10_drifted_8 : decode cX10_drifted 8 = .ok (.iconst 0, 1) := by decide +kernel
theorem dX10_drifted_9 : decode cX10_drifted 9 = .ok (.istore 5, 2) := by decide +kernel
theorem dX10_drifted_11 : decode cX10_drifted 11 = .ok (.iload 5, 2) := by decide +kernel
theorem dX10_drifted_13 : decode cX10_drifted 13 = .ok (.bipush 14, 2) := by decide +kernel
theorem dX10_drifted_15 : decode cX10_drifted 15 = .ok (.if_icmp .ge 17, 3) := by decide +kernel
theorem dX10_drifted_18 : decode cX10_drifted 18 = .ok (.aload_n 0, 1) := by decide +kernel
theorem dX10_drifted_19 : decode cX10_drifted 19 = .ok (.getfield 95, 3) := by decide +kernel
theorem dX10_drifted_22 : decode cX10_drifted 22 = .ok (.iload 5, 2) := by decide +kernel
theorem dX10_drifted_24 : decode cX10_drifted 24 = .ok (.iconst 0, 1) := by decide +kernel
theorem dX10_drifted_25 : decode cX10_drifted 25 = .ok (.iastore, 1) := by decide +kernel
theorem dX10_drifted_26 : decode cX10_drifted 26 = .ok (.iinc 5 1, 3) := by decide +kernel
theorem dX10_drifted_29 : decode cX10_drifted 29 = .ok (.goto (-18), 3) := by decide +kernel
theorem dX10_drifted_32 : decode cX10_drifted 32 = .ok (.aload_n 0, 1) := by decide +kernel
theorem dX10_drifted_33 : decode cX10_drifted 33 = .ok (.getfield 95, 3) := by decide +kernel
theorem dX10_drifted_36 : decode cX10_drifted 36 = .ok (.bipush 8, 2) := by decide +kernel
theorem dX10_drifted_38 : decode cX10_drifted 38 = .ok (.iload_n 2, 1) := by decide +kernel
theorem dX10_drifted_39 : decode cX10_drifted 39 = .ok (.iastore, 1) := by decide +kernel
theorem dX10_drifted_40 : decode cX10_drifted 40 = .ok (.aload_n 0, 1) := by decide +kernel
theorem dX10_drifted_41 : decode cX10_drifted 41 = .ok (.getfield 95, 3) := by decide +kernel
theorem dX10_drifted_44 : decode cX10_drifted 44 = .ok (.bipush 9, 2) := by decide +kernel
theorem dX10_drifted_46 : decode cX10_drifted 46 = .ok (.iload_n 3, 1) := by decide +kernel
theorem dX10_drifted_47 : decode cX10_drifted 47 = .ok (.iastore, 1) := by decide +kernel
theorem dX10_drifted_48 : decode cX10_drifted 48 = .ok (.aload_n 0, 1) := by decide +kernel
theorem dX10_drifted_49 : decode cX10_drifted 49 = .ok (.aload_n 0, 1) := by decide +kernel
theorem dX10_drifted_50 : decode cX10_drifted 50 = .ok (.getfield 322, 3) := by decide +kernel
theorem dX10_drifted_53 : decode cX10_drifted 53 = .ok (.iconst 3, 1) := by decide +kernel
theorem dX10_drifted_54 : decode cX10_drifted 54 = .ok (.iconst 0, 1) := by decide +kernel
theorem dX10_drifted_55 : decode cX10_drifted 55 = .ok (.invokevirtual 319, 3) := by decide +kernel
theorem dX10_drifted_58 : decode cX10_drifted 58 = .ok (.istore 5, 2) := by decide +kernel
theorem dX10_drifted_60 : decode cX10_drifted 60 = .ok (.iload 4, 2) := by decide +kernel
theorem dX10_drifted_62 : decode cX10_drifted 62 = .ok (.i2l, 1) := by decide +kernel
theorem dX10_drifted_63 : decode cX10_drifted 63 = .ok (.sipush 10000, 3) := by decide +kernel
theorem dX10_drifted_66 : decode cX10_drifted 66 = .ok (.iload 5, 2) := by decide +kernel
theorem dX10_drifted_68 : decode cX10_drifted 68 = .ok (.isub, 1) := by decide +kernel
theorem dX10_drifted_69 : decode cX10_drifted 69 = .ok (.i2l, 1) := by decide +kernel
theorem dX10_drifted_70 : decode cX10_drifted 70 = .ok (.lmul, 1) := by decide +kernel
theorem dX10_drifted_71 : decode cX10_drifted 71 = .ok (.ldc2_w 420, 3) := by decide +kernel
theorem dX10_drifted_74 : decode cX10_drifted 74 = .ok (.ldiv, 1) := by decide +kernel
theorem dX10_drifted_75 : decode cX10_drifted 75 = .ok (.lstore 6, 2) := by decide +kernel
theorem dX10_drifted_77 : decode cX10_drifted 77 = .ok (.lload 6, 2) := by decide +kernel
theorem dX10_drifted_79 : decode cX10_drifted 79 = .ok (.ldc2_w 396, 3) := by decide +kernel
theorem dX10_drifted_82 : decode cX10_drifted 82 = .ok (.lcmp, 1) := by decide +kernel
theorem dX10_drifted_83 : decode cX10_drifted 83 = .ok (.ifCond .le 9, 3) := by decide +kernel
theorem dX10_drifted_86 : decode cX10_drifted 86 = .ok (.ldc_w 398, 3) := by decide +kernel
theorem dX10_drifted_89 : decode cX10_drifted 89 = .ok (.goto 6, 3) := by decide +kernel
theorem dX10_drifted_92 : decode cX10_drifted 92 = .ok (.lload 6, 2) := by decide +kernel
theorem dX10_drifted_94 : decode cX10_drifted 94 = .ok (.l2i, 1) := by decide +kernel
theorem dX10_drifted_95 : decode cX10_drifted 95 = .ok (.ireturn, 1) := by decide +kernel
theorem dX10_sounds_0 : decode cX10_sounds 0 = .ok (.sipush 1000, 3) := by decide +kernel
theorem dX10_sounds_3 : decode cX10_sounds 3 = .ok (.sipush 3310, 3) := by decide +kernel
theorem dX10_sounds_6 : decode cX10_sounds 6 = .ok (.bipush 6, 2) := by decide +kernel
theorem dX10_sounds_8 : decode cX10_sounds 8 = .ok (.iload_n 2, 1) := by decide +kernel
theorem dX10_sounds_9 : decode cX10_sounds 9 = .ok (.imul, 1) := by decide +kernel
theorem dX10_sounds_10 : decode cX10_sounds 10 = .ok (.iadd, 1) := by decide +kernel
theorem dX10_sounds_11 : decode cX10_sounds 11 = .ok (.imul, 1) := by decide +kernel
theorem dX10_sounds_12 : decode cX10_sounds 12 = .ok (.iload_n 1, 1) := by decide +kernel
theorem dX10_sounds_13 : decode cX10_sounds 13 = .ok (.idiv, 1) := by decide +kernel
theorem dX10_sounds_14 : decode cX10_sounds 14 = .ok (.ireturn, 1) := by decide +kernel
theorem dX10_beatOf_0 : decode cX10_beatOf 0 = .ok (.aload_n 0, 1) := by decide +kernel
theorem dX10_beatOf_1 : decode cX10_beatOf 1 = .ok (.aload_n 0, 1) := by decide +kernel
theorem dX10_beatOf_2 : decode cX10_beatOf 2 = .ok (.aload_n 0, 1) := by decide +kernel
theorem dX10_beatOf_3 : decode cX10_beatOf 3 = .ok (.getfield 50, 3) := by decide +kernel
theorem dX10_beatOf_6 : decode cX10_beatOf 6 = .ok (.iconst 2, 1) := by decide +kernel
theorem dX10_beatOf_7 : decode cX10_beatOf 7 = .ok (.iload_n 1, 1) := by decide +kernel
theorem dX10_beatOf_8 : decode cX10_beatOf 8 = .ok (.imul, 1) := by decide +kernel
theorem dX10_beatOf_9 : decode cX10_beatOf 9 = .ok (.iload 4, 2) := by decide +kernel
theorem dX10_beatOf_11 : decode cX10_beatOf 11 = .ok (.iadd, 1) := by decide +kernel
theorem dX10_beatOf_12 : decode cX10_beatOf 12 = .ok (.iaload, 1) := by decide +kernel
theorem dX10_beatOf_13 : decode cX10_beatOf 13 = .ok (.iload_n 2, 1) := by decide +kernel
theorem dX10_beatOf_14 : decode cX10_beatOf 14 = .ok (.invokevirtual 422, 3) := by decide +kernel
theorem dX10_beatOf_17 : decode cX10_beatOf 17 = .ok (.aload_n 0, 1) := by decide +kernel
theorem dX10_beatOf_18 : decode cX10_beatOf 18 = .ok (.iload_n 1, 1) := by decide +kernel
theorem dX10_beatOf_19 : decode cX10_beatOf 19 = .ok (.iload_n 2, 1) := by decide +kernel
theorem dX10_beatOf_20 : decode cX10_beatOf 20 = .ok (.iload_n 3, 1) := by decide +kernel
theorem dX10_beatOf_21 : decode cX10_beatOf 21 = .ok (.invokevirtual 425, 3) := by decide +kernel
theorem dX10_beatOf_24 : decode cX10_beatOf 24 = .ok (.isub, 1) := by decide +kernel
theorem dX10_beatOf_25 : decode cX10_beatOf 25 = .ok (.invokevirtual 309, 3) := by decide +kernel
theorem dX10_beatOf_28 : decode cX10_beatOf 28 = .ok (.ireturn, 1) := by decide +kernel
theorem dX10_tube_0 : decode cX10_tube 0 = .ok (.aload_n 0, 1) := by decide +kernel
theorem dX10_tube_1 : decode cX10_tube 1 = .ok (.iconst 0, 1) := by decide +kernel
theorem dX10_tube_2 : decode cX10_tube 2 = .ok (.putfield 167, 3) := by decide +kernel
theorem dX10_tube_5 : decode cX10_tube 5 = .ok (.aload_n 0, 1) := by decide +kernel
theorem dX10_tube_6 : decode cX10_tube 6 = .ok (.iload_n 1, 1) := by decide +kernel
theorem dX10_tube_7 : decode cX10_tube 7 = .ok (.invokevirtual 173, 3) := by decide +kernel
theorem dX10_tube_10 : decode cX10_tube 10 = .ok (.ifCond .eq 25, 3) := by decide +kernel
theorem dX10_tube_13 : decode cX10_tube 13 = .ok (.aload_n 0, 1) := by decide +kernel
theorem dX10_tube_14 : decode cX10_tube 14 = .ok (.iload_n 2, 1) := by decide +kernel
theorem dX10_tube_15 : decode cX10_tube 15 = .ok (.iconst 0, 1) := by decide +kernel
theorem dX10_tube_16 : decode cX10_tube 16 = .ok (.iconst 1, 1) := by decide +kernel
theorem dX10_tube_17 : decode cX10_tube 17 = .ok (.invokevirtual 177, 3) := by decide +kernel
theorem dX10_tube_20 : decode cX10_tube 20 = .ok (.ifCond .eq 15, 3) := by decide +kernel
theorem dX10_tube_23 : decode cX10_tube 23 = .ok (.aload_n 0, 1) := by decide +kernel
theorem dX10_tube_24 : decode cX10_tube 24 = .ok (.iload_n 3, 1) := by decide +kernel
theorem dX10_tube_25 : decode cX10_tube 25 = .ok (.iconst 1, 1) := by decide +kernel
theorem dX10_tube_26 : decode cX10_tube 26 = .ok (.sipush 9999, 3) := by decide +kernel
theorem dX10_tube_29 : decode cX10_tube 29 = .ok (.invokevirtual 177, 3) := by decide +kernel
theorem dX10_tube_32 : decode cX10_tube 32 = .ok (.ifCond .ne 5, 3) := by decide +kernel
theorem dX10_tube_35 : decode cX10_tube 35 = .ok (.iconst 0, 1) := by decide +kernel
theorem dX10_tube_36 : decode cX10_tube 36 = .ok (.ireturn, 1) := by decide +kernel
theorem dX10_tube_37 : decode cX10_tube 37 = .ok (.aload_n 0, 1) := by decide +kernel
theorem dX10_tube_38 : decode cX10_tube 38 = .ok (.getfield 50, 3) := by decide +kernel
theorem dX10_tube_41 : decode cX10_tube 41 = .ok (.iconst 2, 1) := by decide +kernel
theorem dX10_tube_42 : decode cX10_tube 42 = .ok (.iload_n 1, 1) := by decide +kernel
theorem dX10_tube_43 : decode cX10_tube 43 = .ok (.imul, 1) := by decide +kernel
theorem dX10_tube_44 : decode cX10_tube 44 = .ok (.iload_n 2, 1) := by decide +kernel
theorem dX10_tube_45 : decode cX10_tube 45 = .ok (.iadd, 1) := by decide +kernel
theorem dX10_tube_46 : decode cX10_tube 46 = .ok (.iload_n 3, 1) := by decide +kernel
theorem dX10_tube_47 : decode cX10_tube 47 = .ok (.iastore, 1) := by decide +kernel
theorem dX10_tube_48 : decode cX10_tube 48 = .ok (.iconst 1, 1) := by decide +kernel
theorem dX10_tube_49 : decode cX10_tube 49 = .ok (.ireturn, 1) := by decide +kernel
theorem dX10_in_0 : decode cX10_in 0 = .ok (.aload_n 0, 1) := by decide +kernel
theorem dX10_in_1 : decode cX10_in 1 = .ok (.iconst 0, 1) := by decide +kernel
theorem dX10_in_2 : decode cX10_in 2 = .ok (.putfield 167, 3) := by decide +kernel
theorem dX10_in_5 : decode cX10_in 5 = .ok (.aload_n 0, 1) := by decide +kernel
theorem dX10_in_6 : decode cX10_in 6 = .ok (.iload_n 1, 1) := by decide +kernel
theorem dX10_in_7 : decode cX10_in 7 = .ok (.invokevirtual 173, 3) := by decide +kernel
theorem dX10_in_10 : decode cX10_in 10 = .ok (.ifCond .eq 30, 3) := by decide +kernel
theorem dX10_in_13 : decode cX10_in 13 = .ok (.aload_n 0, 1) := by decide +kernel
theorem dX10_in_14 : decode cX10_in 14 = .ok (.iload_n 2, 1) := by decide +kernel
theorem dX10_in_15 : decode cX10_in 15 = .ok (.invokevirtual 428, 3) := by decide +kernel
theorem dX10_in_18 : decode cX10_in 18 = .ok (.ifCond .eq 22, 3) := by decide +kernel
theorem dX10_in_21 : decode cX10_in 21 = .ok (.aload_n 0, 1) := by decide +kernel
theorem dX10_in_22 : decode cX10_in 22 = .ok (.iload_n 3, 1) := by decide +kernel
theorem dX10_in_23 : decode cX10_in 23 = .ok (.invokevirtual 431, 3) := by decide +kernel
theorem dX10_in_26 : decode cX10_in 26 = .ok (.ifCond .eq 14, 3) := by decide +kernel
theorem dX10_in_29 : decode cX10_in 29 = .ok (.aload_n 0, 1) := by decide +kernel
theorem dX10_in_30 : decode cX10_in 30 = .ok (.iload 4, 2) := by decide +kernel
theorem dX10_in_32 : decode cX10_in 32 = .ok (.iconst 0, 1) := by decide +kernel
theorem dX10_in_33 : decode cX10_in 33 = .ok (.iconst 3, 1) := by decide +kernel
theorem dX10_in_34 : decode cX10_in 34 = .ok (.invokevirtual 177, 3) := by decide +kernel
theorem dX10_in_37 : decode cX10_in 37 = .ok (.ifCond .ne 5, 3) := by decide +kernel
theorem dX10_in_40 : decode cX10_in 40 = .ok (.iconst (-1), 1) := by decide +kernel
theorem dX10_in_41 : decode cX10_in 41 = .ok (.ireturn, 1) := by decide +kernel
theorem dX10_in_42 : decode cX10_in 42 = .ok (.iload 4, 2) := by decide +kernel
theorem dX10_in_44 : decode cX10_in 44 = .ok (.iconst 1, 1) := by decide +kernel
theorem dX10_in_45 : decode cX10_in 45 = .ok (.if_icmp .eq 9, 3) := by decide +kernel
theorem dX10_in_48 : decode cX10_in 48 = .ok (.iload 4, 2) := by decide +kernel
theorem dX10_in_50 : decode cX10_in 50 = .ok (.iconst 2, 1) := by decide +kernel
theorem dX10_in_51 : decode cX10_in 51 = .ok (.if_icmp .ne 15, 3) := by decide +kernel
theorem dX10_in_54 : decode cX10_in 54 = .ok (.aload_n 0, 1) := by decide +kernel
theorem dX10_in_55 : decode cX10_in 55 = .ok (.iload_n 1, 1) := by decide +kernel
theorem dX10_in_56 : decode cX10_in 56 = .ok (.iload_n 2, 1) := by decide +kernel
theorem dX10_in_57 : decode cX10_in 57 = .ok (.iload_n 3, 1) := by decide +kernel
theorem dX10_in_58 : decode cX10_in 58 = .ok (.iload 4, 2) := by decide +kernel
theorem dX10_in_60 : decode cX10_in 60 = .ok (.iconst 1, 1) := by decide +kernel
theorem dX10_in_61 : decode cX10_in 61 = .ok (.isub, 1) := by decide +kernel
theorem dX10_in_62 : decode cX10_in 62 = .ok (.invokevirtual 434, 3) := by decide +kernel
theorem dX10_in_65 : decode cX10_in 65 = .ok (.ireturn, 1) := by decide +kernel
theorem dX10_in_66 : decode cX10_in 66 = .ok (.aload_n 0, 1) := by decide +kernel
theorem dX10_in_67 : decode cX10_in 67 = .ok (.iload_n 1, 1) := by decide +kernel
theorem dX10_in_68 : decode cX10_in 68 = .ok (.iload_n 2, 1) := by decide +kernel
theorem dX10_in_69 : decode cX10_in 69 = .ok (.iload_n 3, 1) := by decide +kernel
theorem dX10_in_70 : decode cX10_in 70 = .ok (.invokevirtual 425, 3) := by decide +kernel
theorem dX10_in_73 : decode cX10_in 73 = .ok (.istore 5, 2) := by decide +kernel
theorem dX10_in_75 : decode cX10_in 75 = .ok (.iload 4, 2) := by decide +kernel
theorem dX10_in_77 : decode cX10_in 77 = .ok (.ifCond .ne 6, 3) := by decide +kernel
theorem dX10_in_80 : decode cX10_in 80 = .ok (.iload 5, 2) := by decide +kernel
theorem dX10_in_82 : decode cX10_in 82 = .ok (.ireturn, 1) := by decide +kernel
theorem dX10_in_83 : decode cX10_in 83 = .ok (.iconst 1, 1) := by decide +kernel
theorem dX10_in_84 : decode cX10_in 84 = .ok (.istore 6, 2) := by decide +kernel
theorem dX10_in_86 : decode cX10_in 86 = .ok (.iconst 2, 1) := by decide +kernel
theorem dX10_in_87 : decode cX10_in 87 = .ok (.istore 7, 2) := by decide +kernel
theorem dX10_in_89 : decode cX10_in 89 = .ok (.iload 7, 2) := by decide +kernel
theorem dX10_in_91 : decode cX10_in 91 = .ok (.sipush 9999, 3) := by decide +kernel
theorem dX10_in_94 : decode cX10_in 94 = .ok (.if_icmp .gt 44, 3) := by decide +kernel
theorem dX10_in_97 : decode cX10_in 97 = .ok (.aload_n 0, 1) := by decide +kernel
theorem dX10_in_98 : decode cX10_in 98 = .ok (.aload_n 0, 1) := by decide +kernel
theorem dX10_in_99 : decode cX10_in 99 = .ok (.iload 7, 2) := by decide +kernel
theorem dX10_in_101 : decode cX10_in 101 = .ok (.iload_n 2, 1) := by decide +kernel
theorem dX10_in_102 : decode cX10_in 102 = .ok (.invokevirtual 422, 3) := by decide +kernel
theorem dX10_in_105 : decode cX10_in 105 = .ok (.iload 5, 2) := by decide +kernel
theorem dX10_in_107 : decode cX10_in 107 = .ok (.isub, 1) := by decide +kernel
theorem dX10_in_108 : decode cX10_in 108 = .ok (.invokevirtual 309, 3) := by decide +kernel
theorem dX10_in_111 : decode cX10_in 111 = .ok (.aload_n 0, 1) := by decide +kernel
theorem dX10_in_112 : decode cX10_in 112 = .ok (.aload_n 0, 1) := by decide +kernel
theorem dX10_in_113 : decode cX10_in 113 = .ok (.iload 6, 2) := by decide +kernel
theorem dX10_in_115 : decode cX10_in 115 = .ok (.iload_n 2, 1) := by decide +kernel
theorem dX10_in_116 : decode cX10_in 116 = .ok (.invokevirtual 422, 3) := by decide +kernel
theorem dX10_in_119 : decode cX10_in 119 = .ok (.iload 5, 2) := by decide +kernel
theorem dX10_in_121 : decode cX10_in 121 = .ok (.isub, 1) := by decide +kernel
theorem dX10_in_122 : decode cX10_in 122 = .ok (.invokevirtual 309, 3) := by decide +kernel
theorem dX10_in_125 : decode cX10_in 125 = .ok (.if_icmp .ge 7, 3) := by decide +kernel
theorem dX10_in_128 : decode cX10_in 128 = .ok (.iload 7, 2) := by decide +kernel
theorem dX10_in_130 : decode cX10_in 130 = .ok (.istore 6, 2) := by decide +kernel
theorem dX10_in_132 : decode cX10_in 132 = .ok (.iinc 7 1, 3) := by decide +kernel
theorem dX10_in_135 : decode cX10_in 135 = .ok (.goto (-46), 3) := by decide +kernel
theorem dX10_in_138 : decode cX10_in 138 = .ok (.iload 6, 2) := by decide +kernel
theorem dX10_in_140 : decode cX10_in 140 = .ok (.ireturn, 1) := by decide +kernel
theorem dX10_night_0 : decode cX10_night 0 = .ok (.aload_n 0, 1) := by decide +kernel
theorem dX10_night_1 : decode cX10_night 1 = .ok (.iconst 0, 1) := by decide +kernel
theorem dX10_night_2 : decode cX10_night 2 = .ok (.putfield 167, 3) := by decide +kernel
theorem dX10_night_5 : decode cX10_night 5 = .ok (.aload_n 0, 1) := by decide +kernel
theorem dX10_night_6 : decode cX10_night 6 = .ok (.iload_n 1, 1) := by decide +kernel
theorem dX10_night_7 : decode cX10_night 7 = .ok (.invokevirtual 428, 3) := by decide +kernel
theorem dX10_night_10 : decode cX10_night 10 = .ok (.ifCond .eq 20, 3) := by decide +kernel
theorem dX10_night_13 : decode cX10_night 13 = .ok (.aload_n 0, 1) := by decide +kernel
theorem dX10_night_14 : decode cX10_night 14 = .ok (.iload_n 2, 1) := by decide +kernel
theorem dX10_night_15 : decode cX10_night 15 = .ok (.invokevirtual 431, 3) := by decide +kernel
theorem dX10_night_18 : decode cX10_night 18 = .ok (.ifCond .eq 12, 3) := by decide +kernel
theorem dX10_night_21 : decode cX10_night 21 = .ok (.aload_n 0, 1) := by decide +kernel
theorem dX10_night_22 : decode cX10_night 22 = .ok (.getfield 438, 3) := by decide +kernel
theorem dX10_night_25 : decode cX10_night 25 = .ok (.bipush 20, 2) := by decide +kernel
theorem dX10_night_27 : decode cX10_night 27 = .ok (.if_icmp .ne 5, 3) := by decide +kernel
theorem dX10_night_30 : decode cX10_night 30 = .ok (.iconst (-1), 1) := by decide +kernel
theorem dX10_night_31 : decode cX10_night 31 = .ok (.ireturn, 1) := by decide +kernel
theorem dX10_night_32 : decode cX10_night 32 = .ok (.aload_n 0, 1) := by decide +kernel
theorem dX10_night_33 : decode cX10_night 33 = .ok (.getfield 140, 3) := by decide +kernel
theorem dX10_night_36 : decode cX10_night 36 = .ok (.aload_n 0, 1) := by decide +kernel
theorem dX10_night_37 : decode cX10_night 37 = .ok (.getfield 438, 3) := by decide +kernel
theorem dX10_night_40 : decode cX10_night 40 = .ok (.iload_n 1, 1) := by decide +kernel
theorem dX10_night_41 : decode cX10_night 41 = .ok (.iastore, 1) := by decide +kernel
theorem dX10_night_42 : decode cX10_night 42 = .ok (.aload_n 0, 1) := by decide +kernel
theorem dX10_night_43 : decode cX10_night 43 = .ok (.getfield 143, 3) := by decide +kernel
theorem dX10_night_46 : decode cX10_night 46 = .ok (.aload_n 0, 1) := by decide +kernel
theorem dX10_night_47 : decode cX10_night 47 = .ok (.getfield 438, 3) := by decide +kernel
theorem dX10_night_50 : decode cX10_night 50 = .ok (.iload_n 2, 1) := by decide +kernel
theorem dX10_night_51 : decode cX10_night 51 = .ok (.iastore, 1) := by decide +kernel
theorem dX10_night_52 : decode cX10_night 52 = .ok (.aload_n 0, 1) := by decide +kernel
theorem dX10_night_53 : decode cX10_night 53 = .ok (.aload_n 0, 1) := by decide +kernel
theorem dX10_night_54 : decode cX10_night 54 = .ok (.getfield 438, 3) := by decide +kernel
theorem dX10_night_57 : decode cX10_night 57 = .ok (.iconst 1, 1) := by decide +kernel
theorem dX10_night_58 : decode cX10_night 58 = .ok (.iadd, 1) := by decide +kernel
theorem dX10_night_59 : decode cX10_night 59 = .ok (.putfield 438, 3) := by decide +kernel
theorem dX10_night_62 : decode cX10_night 62 = .ok (.aload_n 0, 1) := by decide +kernel
theorem dX10_night_63 : decode cX10_night 63 = .ok (.getfield 438, 3) := by decide +kernel
theorem dX10_night_66 : decode cX10_night 66 = .ok (.iconst 1, 1) := by decide +kernel
theorem dX10_night_67 : decode cX10_night 67 = .ok (.isub, 1) := by decide +kernel
theorem dX10_night_68 : decode cX10_night 68 = .ok (.ireturn, 1) := by decide +kernel
theorem dX10_worstOf_0 : decode cX10_worstOf 0 = .ok (.iconst (-1), 1) := by decide +kernel
theorem dX10_worstOf_1 : decode cX10_worstOf 1 = .ok (.istore_n 3, 1) := by decide +kernel
theorem dX10_worstOf_2 : decode cX10_worstOf 2 = .ok (.iconst (-1), 1) := by decide +kernel
theorem dX10_worstOf_3 : decode cX10_worstOf 3 = .ok (.istore 4, 2) := by decide +kernel
theorem dX10_worstOf_5 : decode cX10_worstOf 5 = .ok (.iconst 0, 1) := by decide +kernel
theorem dX10_worstOf_6 : decode cX10_worstOf 6 = .ok (.istore 5, 2) := by decide +kernel
theorem dX10_worstOf_8 : decode cX10_worstOf 8 = .ok (.iload 5, 2) := by decide +kernel
theorem dX10_worstOf_10 : decode cX10_worstOf 10 = .ok (.aload_n 0, 1) := by decide +kernel
theorem dX10_worstOf_11 : decode cX10_worstOf 11 = .ok (.getfield 170, 3) := by decide +kernel
theorem dX10_worstOf_14 : decode cX10_worstOf 14 = .ok (.if_icmp .ge 47, 3) := by decide +kernel
theorem dX10_worstOf_17 : decode cX10_worstOf 17 = .ok (.aload_n 0, 1) := by decide +kernel
theorem dX10_worstOf_18 : decode cX10_worstOf 18 = .ok (.iload 5, 2) := by decide +kernel
theorem dX10_worstOf_20 : decode cX10_worstOf 20 = .ok (.aload_n 0, 1) := by decide +kernel
theorem dX10_worstOf_21 : decode cX10_worstOf 21 = .ok (.getfield 140, 3) := by decide +kernel
theorem dX10_worstOf_24 : decode cX10_worstOf 24 = .ok (.iload_n 1, 1) := by decide +kernel
