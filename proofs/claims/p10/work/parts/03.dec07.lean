theorem dX9_comesTrue_2 : decode cX9_comesTrue 2 = .ok (.invokevirtual 367, 3) := by decide +kernel
theorem dX9_comesTrue_5 : decode cX9_comesTrue 5 = .ok (.ifCond .ne 5, 3) := by decide +kernel
theorem dX9_comesTrue_8 : decode cX9_comesTrue 8 = .ok (.iconst 1, 1) := by decide +kernel
theorem dX9_comesTrue_9 : decode cX9_comesTrue 9 = .ok (.ireturn, 1) := by decide +kernel
theorem dX9_comesTrue_10 : decode cX9_comesTrue 10 = .ok (.aload_n 0, 1) := by decide +kernel
theorem dX9_comesTrue_11 : decode cX9_comesTrue 11 = .ok (.aload_n 3, 1) := by decide +kernel
theorem dX9_comesTrue_12 : decode cX9_comesTrue 12 = .ok (.iconst 0, 1) := by decide +kernel
theorem dX9_comesTrue_13 : decode cX9_comesTrue 13 = .ok (.invokevirtual 166, 3) := by decide +kernel
theorem dX9_comesTrue_16 : decode cX9_comesTrue 16 = .ok (.istore 4, 2) := by decide +kernel
theorem dX9_comesTrue_18 : decode cX9_comesTrue 18 = .ok (.aload_n 0, 1) := by decide +kernel
theorem dX9_comesTrue_19 : decode cX9_comesTrue 19 = .ok (.aload_n 3, 1) := by decide +kernel
theorem dX9_comesTrue_20 : decode cX9_comesTrue 20 = .ok (.iconst 1, 1) := by decide +kernel
theorem dX9_comesTrue_21 : decode cX9_comesTrue 21 = .ok (.invokevirtual 166, 3) := by decide +kernel
theorem dX9_comesTrue_24 : decode cX9_comesTrue 24 = .ok (.istore 5, 2) := by decide +kernel
theorem dX9_comesTrue_26 : decode cX9_comesTrue 26 = .ok (.aload_n 0, 1) := by decide +kernel
theorem dX9_comesTrue_27 : decode cX9_comesTrue 27 = .ok (.aload_n 3, 1) := by decide +kernel
theorem dX9_comesTrue_28 : decode cX9_comesTrue 28 = .ok (.iconst 2, 1) := by decide +kernel
theorem dX9_comesTrue_29 : decode cX9_comesTrue 29 = .ok (.invokevirtual 166, 3) := by decide +kernel
theorem dX9_comesTrue_32 : decode cX9_comesTrue 32 = .ok (.istore 6, 2) := by decide +kernel
theorem dX9_comesTrue_34 : decode cX9_comesTrue 34 = .ok (.aload_n 0, 1) := by decide +kernel
theorem dX9_comesTrue_35 : decode cX9_comesTrue 35 = .ok (.getfield 30, 3) := by decide +kernel
theorem dX9_comesTrue_38 : decode cX9_comesTrue 38 = .ok (.iload 4, 2) := by decide +kernel
theorem dX9_comesTrue_40 : decode cX9_comesTrue 40 = .ok (.iload 5, 2) := by decide +kernel
theorem dX9_comesTrue_42 : decode cX9_comesTrue 42 = .ok (.iload 6, 2) := by decide +kernel
theorem dX9_comesTrue_44 : decode cX9_comesTrue 44 = .ok (.aload_n 3, 1) := by decide +kernel
theorem dX9_comesTrue_45 : decode cX9_comesTrue 45 = .ok (.getfield 86, 3) := by decide +kernel
theorem dX9_comesTrue_48 : decode cX9_comesTrue 48 = .ok (.invokevirtual 370, 3) := by decide +kernel
theorem dX9_comesTrue_51 : decode cX9_comesTrue 51 = .ok (.aload_n 0, 1) := by decide +kernel
theorem dX9_comesTrue_52 : decode cX9_comesTrue 52 = .ok (.getfield 30, 3) := by decide +kernel
theorem dX9_comesTrue_55 : decode cX9_comesTrue 55 = .ok (.aload_n 1, 1) := by decide +kernel
theorem dX9_comesTrue_56 : decode cX9_comesTrue 56 = .ok (.aload_n 1, 1) := by decide +kernel
theorem dX9_comesTrue_57 : decode cX9_comesTrue 57 = .ok (.getfield 374, 3) := by decide +kernel
theorem dX9_comesTrue_60 : decode cX9_comesTrue 60 = .ok (.iload_n 2, 1) := by decide +kernel
theorem dX9_comesTrue_61 : decode cX9_comesTrue 61 = .ok (.iaload, 1) := by decide +kernel
theorem dX9_comesTrue_62 : decode cX9_comesTrue 62 = .ok (.aload_n 1, 1) := by decide +kernel
theorem dX9_comesTrue_63 : decode cX9_comesTrue 63 = .ok (.getfield 377, 3) := by decide +kernel
theorem dX9_comesTrue_66 : decode cX9_comesTrue 66 = .ok (.iload_n 2, 1) := by decide +kernel
theorem dX9_comesTrue_67 : decode cX9_comesTrue 67 = .ok (.iaload, 1) := by decide +kernel
theorem dX9_comesTrue_68 : decode cX9_comesTrue 68 = .ok (.invokevirtual 380, 3) := by decide +kernel
theorem dX9_comesTrue_71 : decode cX9_comesTrue 71 = .ok (.ifCond .eq 7, 3) := by decide +kernel
theorem dX9_comesTrue_74 : decode cX9_comesTrue 74 = .ok (.iconst 1, 1) := by decide +kernel
theorem dX9_comesTrue_75 : decode cX9_comesTrue 75 = .ok (.goto 4, 3) := by decide +kernel
theorem dX9_comesTrue_78 : decode cX9_comesTrue 78 = .ok (.iconst 0, 1) := by decide +kernel
theorem dX9_comesTrue_79 : decode cX9_comesTrue 79 = .ok (.ireturn, 1) := by decide +kernel
theorem dX9_doLine_0 : decode cX9_doLine 0 = .ok (.aload_n 1, 1) := by decide +kernel
theorem dX9_doLine_1 : decode cX9_doLine 1 = .ok (.getfield 383, 3) := by decide +kernel
theorem dX9_doLine_4 : decode cX9_doLine 4 = .ok (.iload_n 2, 1) := by decide +kernel
theorem dX9_doLine_5 : decode cX9_doLine 5 = .ok (.iaload, 1) := by decide +kernel
theorem dX9_doLine_6 : decode cX9_doLine 6 = .ok (.istore 4, 2) := by decide +kernel
theorem dX9_doLine_8 : decode cX9_doLine 8 = .ok (.aload_n 1, 1) := by decide +kernel
theorem dX9_doLine_9 : decode cX9_doLine 9 = .ok (.getfield 386, 3) := by decide +kernel
theorem dX9_doLine_12 : decode cX9_doLine 12 = .ok (.iload_n 2, 1) := by decide +kernel
theorem dX9_doLine_13 : decode cX9_doLine 13 = .ok (.iaload, 1) := by decide +kernel
theorem dX9_doLine_14 : decode cX9_doLine 14 = .ok (.istore 5, 2) := by decide +kernel
theorem dX9_doLine_16 : decode cX9_doLine 16 = .ok (.aload_n 1, 1) := by decide +kernel
theorem dX9_doLine_17 : decode cX9_doLine 17 = .ok (.getfield 389, 3) := by decide +kernel
theorem dX9_doLine_20 : decode cX9_doLine 20 = .ok (.iload_n 2, 1) := by decide +kernel
theorem dX9_doLine_21 : decode cX9_doLine 21 = .ok (.iaload, 1) := by decide +kernel
theorem dX9_doLine_22 : decode cX9_doLine 22 = .ok (.bipush 6, 2) := by decide +kernel
theorem dX9_doLine_24 : decode cX9_doLine 24 = .ok (.if_icmp .ne 24, 3) := by decide +kernel
theorem dX9_doLine_27 : decode cX9_doLine 27 = .ok (.aload_n 3, 1) := by decide +kernel
theorem dX9_doLine_28 : decode cX9_doLine 28 = .ok (.iload 4, 2) := by decide +kernel
theorem dX9_doLine_30 : decode cX9_doLine 30 = .ok (.invokevirtual 82, 3) := by decide +kernel
theorem dX9_doLine_33 : decode cX9_doLine 33 = .ok (.ifCond .eq 104, 3) := by decide +kernel
theorem dX9_doLine_36 : decode cX9_doLine 36 = .ok (.aload_n 3, 1) := by decide +kernel
theorem dX9_doLine_37 : decode cX9_doLine 37 = .ok (.getfield 102, 3) := by decide +kernel
theorem dX9_doLine_40 : decode cX9_doLine 40 = .ok (.iload 4, 2) := by decide +kernel
theorem dX9_doLine_42 : decode cX9_doLine 42 = .ok (.iload 5, 2) := by decide +kernel
theorem dX9_doLine_44 : decode cX9_doLine 44 = .ok (.iastore, 1) := by decide +kernel
theorem dX9_doLine_45 : decode cX9_doLine 45 = .ok (.goto 92, 3) := by decide +kernel
theorem dX9_doLine_48 : decode cX9_doLine 48 = .ok (.aload_n 1, 1) := by decide +kernel
theorem dX9_doLine_49 : decode cX9_doLine 49 = .ok (.getfield 389, 3) := by decide +kernel
theorem dX9_doLine_52 : decode cX9_doLine 52 = .ok (.iload_n 2, 1) := by decide +kernel
theorem dX9_doLine_53 : decode cX9_doLine 53 = .ok (.iaload, 1) := by decide +kernel
theorem dX9_doLine_54 : decode cX9_doLine 54 = .ok (.iconst 4, 1) := by decide +kernel
theorem dX9_doLine_55 : decode cX9_doLine 55 = .ok (.if_icmp .ne 16, 3) := by decide +kernel
theorem dX9_doLine_58 : decode cX9_doLine 58 = .ok (.aload_n 0, 1) := by decide +kernel
theorem dX9_doLine_59 : decode cX9_doLine 59 = .ok (.aload_n 3, 1) := by decide +kernel
theorem dX9_doLine_60 : decode cX9_doLine 60 = .ok (.iload 4, 2) := by decide +kernel
theorem dX9_doLine_62 : decode cX9_doLine 62 = .ok (.iload 5, 2) := by decide +kernel
theorem dX9_doLine_64 : decode cX9_doLine 64 = .ok (.invokevirtual 170, 3) := by decide +kernel
theorem dX9_doLine_67 : decode cX9_doLine 67 = .ok (.pop, 1) := by decide +kernel
theorem dX9_doLine_68 : decode cX9_doLine 68 = .ok (.goto 69, 3) := by decide +kernel
theorem dX9_doLine_71 : decode cX9_doLine 71 = .ok (.aload_n 1, 1) := by decide +kernel
theorem dX9_doLine_72 : decode cX9_doLine 72 = .ok (.getfield 392, 3) := by decide +kernel
theorem dX9_doLine_75 : decode cX9_doLine 75 = .ok (.iload_n 2, 1) := by decide +kernel
theorem dX9_doLine_76 : decode cX9_doLine 76 = .ok (.iaload, 1) := by decide +kernel
theorem dX9_doLine_77 : decode cX9_doLine 77 = .ok (.aload_n 3, 1) := by decide +kernel
theorem dX9_doLine_78 : decode cX9_doLine 78 = .ok (.getfield 187, 3) := by decide +kernel
theorem dX9_doLine_81 : decode cX9_doLine 81 = .ok (.iconst 1, 1) := by decide +kernel
theorem dX9_doLine_82 : decode cX9_doLine 82 = .ok (.isub, 1) := by decide +kernel
theorem dX9_doLine_83 : decode cX9_doLine 83 = .ok (.invokestatic 395, 3) := by decide +kernel
theorem dX9_doLine_86 : decode cX9_doLine 86 = .ok (.istore 6, 2) := by decide +kernel
theorem dX9_doLine_88 : decode cX9_doLine 88 = .ok (.iload 4, 2) := by decide +kernel
theorem dX9_doLine_90 : decode cX9_doLine 90 = .ok (.aload_n 1, 1) := by decide +kernel
theorem dX9_doLine_91 : decode cX9_doLine 91 = .ok (.getfield 392, 3) := by decide +kernel
theorem dX9_doLine_94 : decode cX9_doLine 94 = .ok (.iload_n 2, 1) := by decide +kernel
theorem dX9_doLine_95 : decode cX9_doLine 95 = .ok (.iaload, 1) := by decide +kernel
theorem dX9_doLine_96 : decode cX9_doLine 96 = .ok (.iadd, 1) := by decide +kernel
theorem dX9_doLine_97 : decode cX9_doLine 97 = .ok (.iconst 2, 1) := by decide +kernel
theorem dX9_doLine_98 : decode cX9_doLine 98 = .ok (.idiv, 1) := by decide +kernel
theorem dX9_doLine_99 : decode cX9_doLine 99 = .ok (.istore 7, 2) := by decide +kernel
theorem dX9_doLine_101 : decode cX9_doLine 101 = .ok (.iload 4, 2) := by decide +kernel
theorem dX9_doLine_103 : decode cX9_doLine 103 = .ok (.istore 8, 2) := by decide +kernel
theorem dX9_doLine_105 : decode cX9_doLine 105 = .ok (.iload 8, 2) := by decide +kernel
theorem dX9_doLine_107 : decode cX9_doLine 107 = .ok (.iload 6, 2) := by decide +kernel
theorem dX9_doLine_109 : decode cX9_doLine 109 = .ok (.if_icmp .gt 28, 3) := by decide +kernel
theorem dX9_doLine_112 : decode cX9_doLine 112 = .ok (.aload_n 0, 1) := by decide +kernel
theorem dX9_doLine_113 : decode cX9_doLine 113 = .ok (.aload_n 3, 1) := by decide +kernel
theorem dX9_doLine_114 : decode cX9_doLine 114 = .ok (.iload 8, 2) := by decide +kernel
theorem dX9_doLine_116 : decode cX9_doLine 116 = .ok (.iload 5, 2) := by decide +kernel
theorem dX9_doLine_118 : decode cX9_doLine 118 = .ok (.iload 8, 2) := by decide +kernel
theorem dX9_doLine_120 : decode cX9_doLine 120 = .ok (.iload 7, 2) := by decide +kernel
theorem dX9_doLine_122 : decode cX9_doLine 122 = .ok (.isub, 1) := by decide +kernel
theorem dX9_doLine_123 : decode cX9_doLine 123 = .ok (.invokestatic 362, 3) := by decide +kernel
theorem dX9_doLine_126 : decode cX9_doLine 126 = .ok (.isub, 1) := by decide +kernel
theorem dX9_doLine_127 : decode cX9_doLine 127 = .ok (.invokevirtual 170, 3) := by decide +kernel
theorem dX9_doLine_130 : decode cX9_doLine 130 = .ok (.pop, 1) := by decide +kernel
theorem dX9_doLine_131 : decode cX9_doLine 131 = .ok (.iinc 8 1, 3) := by decide +kernel
theorem dX9_doLine_134 : decode cX9_doLine 134 = .ok (.goto (-29), 3) := by decide +kernel
theorem dX9_doLine_137 : decode cX9_doLine 137 = .ok (.return_, 1) := by decide +kernel
theorem dX9_offOf_0 : decode cX9_offOf 0 = .ok (.lconst 0, 1) := by decide +kernel
theorem dX9_offOf_1 : decode cX9_offOf 1 = .ok (.lstore_n 2, 1) := by decide +kernel
theorem dX9_offOf_2 : decode cX9_offOf 2 = .ok (.iconst 0, 1) := by decide +kernel
theorem dX9_offOf_3 : decode cX9_offOf 3 = .ok (.istore 4, 2) := by decide +kernel
theorem dX9_offOf_5 : decode cX9_offOf 5 = .ok (.iload 4, 2) := by decide +kernel
theorem dX9_offOf_7 : decode cX9_offOf 7 = .ok (.aload_n 0, 1) := by decide +kernel
theorem dX9_offOf_8 : decode cX9_offOf 8 = .ok (.getfield 12, 3) := by decide +kernel
theorem dX9_offOf_11 : decode cX9_offOf 11 = .ok (.getfield 64, 3) := by decide +kernel
theorem dX9_offOf_14 : decode cX9_offOf 14 = .ok (.if_icmp .ge 99, 3) := by decide +kernel
theorem dX9_offOf_17 : decode cX9_offOf 17 = .ok (.aload_n 0, 1) := by decide +kernel
theorem dX9_offOf_18 : decode cX9_offOf 18 = .ok (.getfield 12, 3) := by decide +kernel
theorem dX9_offOf_21 : decode cX9_offOf 21 = .ok (.getfield 68, 3) := by decide +kernel
theorem dX9_offOf_24 : decode cX9_offOf 24 = .ok (.iload 4, 2) := by decide +kernel
theorem dX9_offOf_26 : decode cX9_offOf 26 = .ok (.aaload, 1) := by decide +kernel
theorem dX9_offOf_27 : decode cX9_offOf 27 = .ok (.astore 5, 2) := by decide +kernel
theorem dX9_offOf_29 : decode cX9_offOf 29 = .ok (.iconst 0, 1) := by decide +kernel
theorem dX9_offOf_30 : decode cX9_offOf 30 = .ok (.istore 6, 2) := by decide +kernel
theorem dX9_offOf_32 : decode cX9_offOf 32 = .ok (.iload 6, 2) := by decide +kernel
theorem dX9_offOf_34 : decode cX9_offOf 34 = .ok (.aload 5, 2) := by decide +kernel
theorem dX9_offOf_36 : decode cX9_offOf 36 = .ok (.getfield 200, 3) := by decide +kernel
theorem dX9_offOf_39 : decode cX9_offOf 39 = .ok (.if_icmp .ge 68, 3) := by decide +kernel
theorem dX9_offOf_42 : decode cX9_offOf 42 = .ok (.aload_n 0, 1) := by decide +kernel
theorem dX9_offOf_43 : decode cX9_offOf 43 = .ok (.getfield 30, 3) := by decide +kernel
theorem dX9_offOf_46 : decode cX9_offOf 46 = .ok (.aload_n 1, 1) := by decide +kernel
theorem dX9_offOf_47 : decode cX9_offOf 47 = .ok (.aload 5, 2) := by decide +kernel
theorem dX9_offOf_49 : decode cX9_offOf 49 = .ok (.getfield 398, 3) := by decide +kernel
theorem dX9_offOf_52 : decode cX9_offOf 52 = .ok (.iload 6, 2) := by decide +kernel
theorem dX9_offOf_54 : decode cX9_offOf 54 = .ok (.iaload, 1) := by decide +kernel
theorem dX9_offOf_55 : decode cX9_offOf 55 = .ok (.aload 5, 2) := by decide +kernel
theorem dX9_offOf_57 : decode cX9_offOf 57 = .ok (.aload 5, 2) := by decide +kernel
theorem dX9_offOf_59 : decode cX9_offOf 59 = .ok (.getfield 401, 3) := by decide +kernel
theorem dX9_offOf_62 : decode cX9_offOf 62 = .ok (.iload 6, 2) := by decide +kernel
theorem dX9_offOf_64 : decode cX9_offOf 64 = .ok (.aaload, 1) := by decide +kernel
theorem dX9_offOf_65 : decode cX9_offOf 65 = .ok (.aload 5, 2) := by decide +kernel
theorem dX9_offOf_67 : decode cX9_offOf 67 = .ok (.getfield 96, 3) := by decide +kernel
theorem dX9_offOf_70 : decode cX9_offOf 70 = .ok (.aload 5, 2) := by decide +kernel
theorem dX9_offOf_72 : decode cX9_offOf 72 = .ok (.getfield 405, 3) := by decide +kernel
theorem dX9_offOf_75 : decode cX9_offOf 75 = .ok (.iload 6, 2) := by decide +kernel
theorem dX9_offOf_77 : decode cX9_offOf 77 = .ok (.aaload, 1) := by decide +kernel
theorem dX9_offOf_78 : decode cX9_offOf 78 = .ok (.invokevirtual 216, 3) := by decide +kernel
theorem dX9_offOf_81 : decode cX9_offOf 81 = .ok (.istore 7, 2) := by decide +kernel
theorem dX9_offOf_83 : decode cX9_offOf 83 = .ok (.lload_n 2, 1) := by decide +kernel
theorem dX9_offOf_84 : decode cX9_offOf 84 = .ok (.iload 7, 2) := by decide +kernel
theorem dX9_offOf_86 : decode cX9_offOf 86 = .ok (.aload 5, 2) := by decide +kernel
theorem dX9_offOf_88 : decode cX9_offOf 88 = .ok (.getfield 408, 3) := by decide +kernel
theorem dX9_offOf_91 : decode cX9_offOf 91 = .ok (.iload 6, 2) := by decide +kernel
theorem dX9_offOf_93 : decode cX9_offOf 93 = .ok (.iaload, 1) := by decide +kernel
theorem dX9_offOf_94 : decode cX9_offOf 94 = .ok (.isub, 1) := by decide +kernel
theorem dX9_offOf_95 : decode cX9_offOf 95 = .ok (.invokestatic 362, 3) := by decide +kernel
theorem dX9_offOf_98 : decode cX9_offOf 98 = .ok (.i2l, 1) := by decide +kernel
theorem dX9_offOf_99 : decode cX9_offOf 99 = .ok (.ladd, 1) := by decide +kernel
theorem dX9_offOf_100 : decode cX9_offOf 100 = .ok (.lstore_n 2, 1) := by decide +kernel
theorem dX9_offOf_101 : decode cX9_offOf 101 = .ok (.iinc 6 1, 3) := by decide +kernel
theorem dX9_offOf_104 : decode cX9_offOf 104 = .ok (.goto (-72), 3) := by decide +kernel
theorem dX9_offOf_107 : decode cX9_offOf 107 = .ok (.iinc 4 1, 3) := by decide +kernel
theorem dX9_offOf_110 : decode cX9_offOf 110 = .ok (.goto (-105), 3) := by decide +kernel
theorem dX9_offOf_113 : decode cX9_offOf 113 = .ok (.lload_n 2, 1) := by decide +kernel
theorem dX9_offOf_114 : decode cX9_offOf 114 = .ok (.ldc2_w 411, 3) := by decide +kernel
theorem dX9_offOf_117 : decode cX9_offOf 117 = .ok (.invokestatic 413, 3) := by decide +kernel
theorem dX9_offOf_120 : decode cX9_offOf 120 = .ok (.l2i, 1) := by decide +kernel
theorem dX9_offOf_121 : decode cX9_offOf 121 = .ok (.ireturn, 1) := by decide +kernel
theorem dX9_findPoints_0 : decode cX9_findPoints 0 = .ok (.iconst 0, 1) := by decide +kernel
theorem dX9_findPoints_1 : decode cX9_findPoints 1 = .ok (.istore_n 3, 1) := by decide +kernel
theorem dX9_findPoints_2 : decode cX9_findPoints 2 = .ok (.iconst 0, 1) := by decide +kernel
theorem dX9_findPoints_3 : decode cX9_findPoints 3 = .ok (.istore 4, 2) := by decide +kernel
theorem dX9_findPoints_5 : decode cX9_findPoints 5 = .ok (.iconst 0, 1) := by decide +kernel
theorem dX9_findPoints_6 : decode cX9_findPoints 6 = .ok (.istore 5, 2) := by decide +kernel
theorem dX9_findPoints_8 : decode cX9_findPoints 8 = .ok (.iload 5, 2) := by decide +kernel
theorem dX9_findPoints_10 : decode cX9_findPoints 10 = .ok (.aload_n 1, 1) := by decide +kernel
theorem dX9_findPoints_11 : decode cX9_findPoints 11 = .ok (.getfield 187, 3) := by decide +kernel
theorem dX9_findPoints_14 : decode cX9_findPoints 14 = .ok (.if_icmp .ge 95, 3) := by decide +kernel
theorem dX9_findPoints_17 : decode cX9_findPoints 17 = .ok (.aload_n 0, 1) := by decide +kernel
theorem dX9_findPoints_18 : decode cX9_findPoints 18 = .ok (.getfield 30, 3) := by decide +kernel
theorem dX9_findPoints_21 : decode cX9_findPoints 21 = .ok (.aload_n 1, 1) := by decide +kernel
theorem dX9_findPoints_22 : decode cX9_findPoints 22 = .ok (.iload 5, 2) := by decide +kernel
theorem dX9_findPoints_24 : decode cX9_findPoints 24 = .ok (.aload_n 1, 1) := by decide +kernel
theorem dX9_findPoints_25 : decode cX9_findPoints 25 = .ok (.getfield 93, 3) := by decide +kernel
theorem dX9_findPoints_28 : decode cX9_findPoints 28 = .ok (.iload 5, 2) := by decide +kernel
theorem dX9_findPoints_30 : decode cX9_findPoints 30 = .ok (.iaload, 1) := by decide +kernel
theorem dX9_findPoints_31 : decode cX9_findPoints 31 = .ok (.aload_n 1, 1) := by decide +kernel
theorem dX9_findPoints_32 : decode cX9_findPoints 32 = .ok (.getfield 96, 3) := by decide +kernel
theorem dX9_findPoints_35 : decode cX9_findPoints 35 = .ok (.iload 5, 2) := by decide +kernel
theorem dX9_findPoints_37 : decode cX9_findPoints 37 = .ok (.iaload, 1) := by decide +kernel
theorem dX9_findPoints_38 : decode cX9_findPoints 38 = .ok (.aload_n 1, 1) := by decide +kernel
theorem dX9_findPoints_39 : decode cX9_findPoints 39 = .ok (.getfield 102, 3) := by decide +kernel
theorem dX9_findPoints_42 : decode cX9_findPoints 42 = .ok (.iload 5, 2) := by decide +kernel
theorem dX9_findPoints_44 : decode cX9_findPoints 44 = .ok (.iaload, 1) := by decide +kernel
theorem dX9_findPoints_45 : decode cX9_findPoints 45 = .ok (.invokevirtual 154, 3) := by decide +kernel
theorem dX9_findPoints_48 : decode cX9_findPoints 48 = .ok (.aload_n 0, 1) := by decide +kernel
theorem dX9_findPoints_49 : decode cX9_findPoints 49 = .ok (.getfield 30, 3) := by decide +kernel
theorem dX9_findPoints_52 : decode cX9_findPoints 52 = .ok (.aload_n 0, 1) := by decide +kernel
theorem dX9_findPoints_53 : decode cX9_findPoints 53 = .ok (.getfield 12, 3) := by decide +kernel
theorem dX9_findPoints_56 : decode cX9_findPoints 56 = .ok (.invokevirtual 212, 3) := by decide +kernel
theorem dX9_findPoints_59 : decode cX9_findPoints 59 = .ok (.iconst 2, 1) := by decide +kernel
theorem dX9_findPoints_60 : decode cX9_findPoints 60 = .ok (.iload_n 2, 1) := by decide +kernel
theorem dX9_findPoints_61 : decode cX9_findPoints 61 = .ok (.invokevirtual 162, 3) := by decide +kernel
theorem dX9_findPoints_64 : decode cX9_findPoints 64 = .ok (.ifCond .ge 7, 3) := by decide +kernel
theorem dX9_findPoints_67 : decode cX9_findPoints 67 = .ok (.iconst 1, 1) := by decide +kernel
theorem dX9_findPoints_68 : decode cX9_findPoints 68 = .ok (.goto 4, 3) := by decide +kernel
theorem dX9_findPoints_71 : decode cX9_findPoints 71 = .ok (.iconst 0, 1) := by decide +kernel
theorem dX9_findPoints_72 : decode cX9_findPoints 72 = .ok (.istore 6, 2) := by decide +kernel
theorem dX9_findPoints_74 : decode cX9_findPoints 74 = .ok (.iload 5, 2) := by decide +kernel
theorem dX9_findPoints_76 : decode cX9_findPoints 76 = .ok (.ifCond .le 23, 3) := by decide +kernel
theorem dX9_findPoints_79 : decode cX9_findPoints 79 = .ok (.iload 6, 2) := by decide +kernel
theorem dX9_findPoints_81 : decode cX9_findPoints 81 = .ok (.iload 4, 2) := by decide +kernel
theorem dX9_findPoints_83 : decode cX9_findPoints 83 = .ok (.if_icmp .eq 16, 3) := by decide +kernel
theorem dX9_findPoints_86 : decode cX9_findPoints 86 = .ok (.aload_n 0, 1) := by decide +kernel
theorem dX9_findPoints_87 : decode cX9_findPoints 87 = .ok (.getfield 58, 3) := by decide +kernel
theorem dX9_findPoints_90 : decode cX9_findPoints 90 = .ok (.iload_n 3, 1) := by decide +kernel
theorem dX9_findPoints_91 : decode cX9_findPoints 91 = .ok (.iload 5, 2) := by decide +kernel
theorem dX9_findPoints_93 : decode cX9_findPoints 93 = .ok (.iconst 1, 1) := by decide +kernel
theorem dX9_findPoints_94 : decode cX9_findPoints 94 = .ok (.isub, 1) := by decide +kernel
theorem dX9_findPoints_95 : decode cX9_findPoints 95 = .ok (.iastore, 1) := by decide +kernel
theorem dX9_findPoints_96 : decode cX9_findPoints 96 = .ok (.iinc 3 1, 3) := by decide +kernel
theorem dX9_findPoints_99 : decode cX9_findPoints 99 = .ok (.iload 6, 2) := by decide +kernel
theorem dX9_findPoints_101 : decode cX9_findPoints 101 = .ok (.istore 4, 2) := by decide +kernel
theorem dX9_findPoints_103 : decode cX9_findPoints 103 = .ok (.iinc 5 1, 3) := by decide +kernel
theorem dX9_findPoints_106 : decode cX9_findPoints 106 = .ok (.goto (-98), 3) := by decide +kernel
theorem dX9_findPoints_109 : decode cX9_findPoints 109 = .ok (.iload_n 3, 1) := by decide +kernel
theorem dX9_findPoints_110 : decode cX9_findPoints 110 = .ok (.ireturn, 1) := by decide +kernel
theorem dX9_amiss_0 : decode cX9_amiss 0 = .ok (.aload_n 0, 1) := by decide +kernel
theorem dX9_amiss_1 : decode cX9_amiss 1 = .ok (.aload_n 1, 1) := by decide +kernel
theorem dX9_amiss_2 : decode cX9_amiss 2 = .ok (.iconst 0, 1) := by decide +kernel
theorem dX9_amiss_3 : decode cX9_amiss 3 = .ok (.invokevirtual 263, 3) := by decide +kernel
theorem dX9_amiss_6 : decode cX9_amiss 6 = .ok (.istore_n 2, 1) := by decide +kernel
theorem dX9_amiss_7 : decode cX9_amiss 7 = .ok (.aload_n 1, 1) := by decide +kernel
theorem dX9_amiss_8 : decode cX9_amiss 8 = .ok (.getfield 266, 3) := by decide +kernel
theorem dX9_amiss_11 : decode cX9_amiss 11 = .ok (.iconst (-1), 1) := by decide +kernel
theorem dX9_amiss_12 : decode cX9_amiss 12 = .ok (.if_icmp .eq 7, 3) := by decide +kernel
theorem dX9_amiss_15 : decode cX9_amiss 15 = .ok (.iload_n 2, 1) := by decide +kernel
theorem dX9_amiss_16 : decode cX9_amiss 16 = .ok (.ifCond .ne 5, 3) := by decide +kernel
theorem dX9_amiss_19 : decode cX9_amiss 19 = .ok (.iconst (-1), 1) := by decide +kernel
theorem dX9_amiss_20 : decode cX9_amiss 20 = .ok (.ireturn, 1) := by decide +kernel
theorem dX9_amiss_21 : decode cX9_amiss 21 = .ok (.aload_n 1, 1) := by decide +kernel
theorem dX9_amiss_22 : decode cX9_amiss 22 = .ok (.getfield 266, 3) := by decide +kernel
theorem dX9_amiss_25 : decode cX9_amiss 25 = .ok (.aload_n 0, 1) := by decide +kernel
theorem dX9_amiss_26 : decode cX9_amiss 26 = .ok (.getfield 58, 3) := by decide +kernel
theorem dX9_amiss_29 : decode cX9_amiss 29 = .ok (.iconst 0, 1) := by decide +kernel
theorem dX9_amiss_30 : decode cX9_amiss 30 = .ok (.iaload, 1) := by decide +kernel
theorem dX9_amiss_31 : decode cX9_amiss 31 = .ok (.isub, 1) := by decide +kernel
theorem dX9_amiss_32 : decode cX9_amiss 32 = .ok (.invokestatic 362, 3) := by decide +kernel
theorem dX9_amiss_35 : decode cX9_amiss 35 = .ok (.aload_n 1, 1) := by decide +kernel
theorem dX9_amiss_36 : decode cX9_amiss 36 = .ok (.getfield 269, 3) := by decide +kernel
theorem dX9_amiss_39 : decode cX9_amiss 39 = .ok (.aload_n 0, 1) := by decide +kernel
theorem dX9_amiss_40 : decode cX9_amiss 40 = .ok (.getfield 58, 3) := by decide +kernel
theorem dX9_amiss_43 : decode cX9_amiss 43 = .ok (.iload_n 2, 1) := by decide +kernel
theorem dX9_amiss_44 : decode cX9_amiss 44 = .ok (.iconst 1, 1) := by decide +kernel
theorem dX9_amiss_45 : decode cX9_amiss 45 = .ok (.isub, 1) := by decide +kernel
theorem dX9_amiss_46 : decode cX9_amiss 46 = .ok (.iaload, 1) := by decide +kernel
theorem dX9_amiss_47 : decode cX9_amiss 47 = .ok (.isub, 1) := by decide +kernel
theorem dX9_amiss_48 : decode cX9_amiss 48 = .ok (.invokestatic 362, 3) := by decide +kernel
theorem dX9_amiss_51 : decode cX9_amiss 51 = .ok (.iadd, 1) := by decide +kernel
theorem dX9_amiss_52 : decode cX9_amiss 52 = .ok (.ireturn, 1) := by decide +kernel
theorem dX9_driftIn_0 : decode cX9_driftIn 0 = .ok (.aload_n 0, 1) := by decide +kernel
theorem dX9_driftIn_1 : decode cX9_driftIn 1 = .ok (.getfield 30, 3) := by decide +kernel
theorem dX9_driftIn_4 : decode cX9_driftIn 4 = .ok (.iload_n 1, 1) := by decide +kernel
theorem dX9_driftIn_5 : decode cX9_driftIn 5 = .ok (.iload_n 2, 1) := by decide +kernel
theorem dX9_driftIn_6 : decode cX9_driftIn 6 = .ok (.invokevirtual 416, 3) := by decide +kernel
theorem dX9_driftIn_9 : decode cX9_driftIn 9 = .ok (.aload_n 0, 1) := by decide +kernel
theorem dX9_driftIn_10 : decode cX9_driftIn 10 = .ok (.getfield 30, 3) := by decide +kernel
theorem dX9_driftIn_13 : decode cX9_driftIn 13 = .ok (.aload_n 0, 1) := by decide +kernel
theorem dX9_driftIn_14 : decode cX9_driftIn 14 = .ok (.getfield 12, 3) := by decide +kernel
theorem dX9_driftIn_17 : decode cX9_driftIn 17 = .ok (.invokevirtual 212, 3) := by decide +kernel
theorem dX9_driftIn_20 : decode cX9_driftIn 20 = .ok (.iconst 3, 1) := by decide +kernel
theorem dX9_driftIn_21 : decode cX9_driftIn 21 = .ok (.iconst 0, 1) := by decide +kernel
theorem dX9_driftIn_22 : decode cX9_driftIn 22 = .ok (.invokevirtual 162, 3) := by decide +kernel
theorem dX9_driftIn_25 : decode cX9_driftIn 25 = .ok (.ireturn, 1) := by decide +kernel
theorem dX9_drifted_0 : decode cX9_drifted 0 = .ok (.iload_n 0, 1) := by decide +kernel
theorem dX9_drifted_1 : decode cX9_drifted 1 = .ok (.i2l, 1) := by decide +kernel
theorem dX9_drifted_2 : decode cX9_drifted 2 = .ok (.ldc2_w 419, 3) := by decide +kernel
theorem dX9_drifted_5 : decode cX9_drifted 5 = .ok (.iload_n 1, 1) := by decide +kernel
theorem dX9_drifted_6 : decode cX9_drifted 6 = .ok (.i2l, 1) := by decide +kernel
theorem dX9_drifted_7 : decode cX9_drifted 7 = .ok (.lsub, 1) := by decide +kernel
theorem dX9_drifted_8 : decode cX9_drifted 8 = .ok (.lmul, 1) := by decide +kernel
theorem dX9_drifted_9 : decode cX9_drifted 9 = .ok (.ldc2_w 419, 3) := by decide +kernel
theorem dX9_drifted_12 : decode cX9_drifted 12 = .ok (.ldiv, 1) := by decide +kernel
theorem dX9_drifted_13 : decode cX9_drifted 13 = .ok (.lstore_n 2, 1) := by decide +kernel
theorem dX9_drifted_14 : decode cX9_drifted 14 = .ok (.lconst 0, 1) := by decide +kernel
theorem dX9_drifted_15 : decode cX9_drifted 15 = .ok (.lload_n 2, 1) := by decide +kernel
theorem dX9_drifted_16 : decode cX9_drifted 16 = .ok (.ldc2_w 411, 3) := by decide +kernel
theorem dX9_drifted_19 : decode cX9_drifted 19 = .ok (.invokestatic 413, 3) := by decide +kernel
theorem dX9_drifted_22 : decode cX9_drifted 22 = .ok (.invokestatic 421, 3) := by decide +kernel
theorem dX9_drifted_25 : decode cX9_drifted 25 = .ok (.l2i, 1) := by decide +kernel
theorem dX9_drifted_26 : decode cX9_drifted 26 = .ok (.ireturn, 1) := by decide +kernel
theorem dX9_air_0 : decode cX9_air 0 = .ok (.sipush 1000, 3) := by decide +kernel
theorem dX9_air_3 : decode cX9_air 3 = .ok (.sipush 3310, 3) := by decide +kernel
theorem dX9_air_6 : decode cX9_air 6 = .ok (.bipush 6, 2) := by decide +kernel
theorem dX9_air_8 : decode cX9_air 8 = .ok (.iload_n 0, 1) := by decide +kernel
theorem dX9_air_9 : decode cX9_air 9 = .ok (.imul, 1) := by decide +kernel
theorem dX9_air_10 : decode cX9_air 10 = .ok (.iadd, 1) := by decide +kernel
theorem dX9_air_11 : decode cX9_air 11 = .ok (.imul, 1) := by decide +kernel
theorem dX9_air_12 : decode cX9_air 12 = .ok (.ireturn, 1) := by decide +kernel
theorem dX9_beat_0 : decode cX9_beat 0 = .ok (.aload_n 0, 1) := by decide +kernel
theorem dX9_beat_1 : decode cX9_beat 1 = .ok (.getfield 272, 3) := by decide +kernel
theorem dX9_beat_4 : decode cX9_beat 4 = .ok (.iload_n 1, 1) := by decide +kernel
theorem dX9_beat_5 : decode cX9_beat 5 = .ok (.iaload, 1) := by decide +kernel
theorem dX9_beat_6 : decode cX9_beat 6 = .ok (.istore 4, 2) := by decide +kernel
theorem dX9_beat_8 : decode cX9_beat 8 = .ok (.iload 4, 2) := by decide +kernel
theorem dX9_beat_10 : decode cX9_beat 10 = .ok (.ifCond .gt 7, 3) := by decide +kernel
theorem dX9_beat_13 : decode cX9_beat 13 = .ok (.iconst 0, 1) := by decide +kernel
theorem dX9_beat_14 : decode cX9_beat 14 = .ok (.goto 15, 3) := by decide +kernel
theorem dX9_beat_17 : decode cX9_beat 17 = .ok (.iload_n 2, 1) := by decide +kernel
theorem dX9_beat_18 : decode cX9_beat 18 = .ok (.invokestatic 424, 3) := by decide +kernel
theorem dX9_beat_21 : decode cX9_beat 21 = .ok (.iload 4, 2) := by decide +kernel
theorem dX9_beat_23 : decode cX9_beat 23 = .ok (.idiv, 1) := by decide +kernel
theorem dX9_beat_24 : decode cX9_beat 24 = .ok (.iload_n 3, 1) := by decide +kernel
theorem dX9_beat_25 : decode cX9_beat 25 = .ok (.isub, 1) := by decide +kernel
theorem dX9_beat_26 : decode cX9_beat 26 = .ok (.invokestatic 362, 3) := by decide +kernel
theorem dX9_beat_29 : decode cX9_beat 29 = .ok (.ireturn, 1) := by decide +kernel
theorem dX9_shortest_0 : decode cX9_shortest 0 = .ok (.iload_n 1, 1) := by decide +kernel
theorem dX9_shortest_1 : decode cX9_shortest 1 = .ok (.ifCond .ge 7, 3) := by decide +kernel
theorem dX9_shortest_4 : decode cX9_shortest 4 = .ok (.iconst 1, 1) := by decide +kernel
theorem dX9_shortest_5 : decode cX9_shortest 5 = .ok (.goto 10, 3) := by decide +kernel
theorem dX9_shortest_8 : decode cX9_shortest 8 = .ok (.iload_n 0, 1) := by decide +kernel
theorem dX9_shortest_9 : decode cX9_shortest 9 = .ok (.iload_n 1, 1) := by decide +kernel
theorem dX9_shortest_10 : decode cX9_shortest 10 = .ok (.iconst 1, 1) := by decide +kernel
theorem dX9_shortest_11 : decode cX9_shortest 11 = .ok (.iadd, 1) := by decide +kernel
theorem dX9_shortest_12 : decode cX9_shortest 12 = .ok (.idiv, 1) := by decide +kernel
theorem dX9_shortest_13 : decode cX9_shortest 13 = .ok (.iconst 1, 1) := by decide +kernel
theorem dX9_shortest_14 : decode cX9_shortest 14 = .ok (.iadd, 1) := by decide +kernel
theorem dX9_shortest_15 : decode cX9_shortest 15 = .ok (.ireturn, 1) := by decide +kernel
theorem dX9_stopper_0 : decode cX9_stopper 0 = .ok (.iload_n 0, 1) := by decide +kernel
theorem dX9_stopper_1 : decode cX9_stopper 1 = .ok (.invokestatic 424, 3) := by decide +kernel
theorem dX9_stopper_4 : decode cX9_stopper 4 = .ok (.istore_n 2, 1) := by decide +kernel
theorem dX9_stopper_5 : decode cX9_stopper 5 = .ok (.iload_n 2, 1) := by decide +kernel
theorem dX9_stopper_6 : decode cX9_stopper 6 = .ok (.iload_n 1, 1) := by decide +kernel
theorem dX9_stopper_7 : decode cX9_stopper 7 = .ok (.invokestatic 427, 3) := by decide +kernel
theorem dX9_stopper_10 : decode cX9_stopper 10 = .ok (.istore_n 3, 1) := by decide +kernel
theorem dX9_stopper_11 : decode cX9_stopper 11 = .ok (.iload_n 3, 1) := by decide +kernel
theorem dX9_stopper_12 : decode cX9_stopper 12 = .ok (.sipush 9999, 3) := by decide +kernel
theorem dX9_stopper_15 : decode cX9_stopper 15 = .ok (.if_icmp .le 13, 3) := by decide +kernel
theorem dX9_stopper_18 : decode cX9_stopper 18 = .ok (.iload_n 2, 1) := by decide +kernel
theorem dX9_stopper_19 : decode cX9_stopper 19 = .ok (.iload_n 2, 1) := by decide +kernel
theorem dX9_stopper_20 : decode cX9_stopper 20 = .ok (.sipush 9999, 3) := by decide +kernel
theorem dX9_stopper_23 : decode cX9_stopper 23 = .ok (.idiv, 1) := by decide +kernel
theorem dX9_stopper_24 : decode cX9_stopper 24 = .ok (.invokestatic 427, 3) := by decide +kernel
theorem dX9_stopper_27 : decode cX9_stopper 27 = .ok (.ireturn, 1) := by decide +kernel
theorem dX9_stopper_28 : decode cX9_stopper 28 = .ok (.iload_n 3, 1) := by decide +kernel
theorem dX9_stopper_29 : decode cX9_stopper 29 = .ok (.iconst 1, 1) := by decide +kernel
theorem dX9_stopper_30 : decode cX9_stopper 30 = .ok (.if_icmp .gt 5, 3) := by decide +kernel
theorem dX9_stopper_33 : decode cX9_stopper 33 = .ok (.iconst 1, 1) := by decide +kernel
theorem dX9_stopper_34 : decode cX9_stopper 34 = .ok (.ireturn, 1) := by decide +kernel
theorem dX9_stopper_35 : decode cX9_stopper 35 = .ok (.iload_n 2, 1) := by decide +kernel
theorem dX9_stopper_36 : decode cX9_stopper 36 = .ok (.iload_n 3, 1) := by decide +kernel
theorem dX9_stopper_37 : decode cX9_stopper 37 = .ok (.iconst 1, 1) := by decide +kernel
theorem dX9_stopper_38 : decode cX9_stopper 38 = .ok (.isub, 1) := by decide +kernel
theorem dX9_stopper_39 : decode cX9_stopper 39 = .ok (.idiv, 1) := by decide +kernel
theorem dX9_stopper_40 : decode cX9_stopper 40 = .ok (.istore 4, 2) := by decide +kernel
theorem dX9_stopper_42 : decode cX9_stopper 42 = .ok (.iload 4, 2) := by decide +kernel
theorem dX9_stopper_44 : decode cX9_stopper 44 = .ok (.iload_n 1, 1) := by decide +kernel
theorem dX9_stopper_45 : decode cX9_stopper 45 = .ok (.isub, 1) := by decide +kernel
theorem dX9_stopper_46 : decode cX9_stopper 46 = .ok (.iload_n 1, 1) := by decide +kernel
theorem dX9_stopper_47 : decode cX9_stopper 47 = .ok (.iload_n 2, 1) := by decide +kernel
theorem dX9_stopper_48 : decode cX9_stopper 48 = .ok (.iload_n 3, 1) := by decide +kernel
theorem dX9_stopper_49 : decode cX9_stopper 49 = .ok (.idiv, 1) := by decide +kernel
theorem dX9_stopper_50 : decode cX9_stopper 50 = .ok (.isub, 1) := by decide +kernel
theorem dX9_stopper_51 : decode cX9_stopper 51 = .ok (.if_icmp .gt 12, 3) := by decide +kernel
theorem dX9_stopper_54 : decode cX9_stopper 54 = .ok (.iload_n 2, 1) := by decide +kernel
theorem dX9_stopper_55 : decode cX9_stopper 55 = .ok (.iload 4, 2) := by decide +kernel
theorem dX9_stopper_57 : decode cX9_stopper 57 = .ok (.invokestatic 427, 3) := by decide +kernel
theorem dX9_stopper_60 : decode cX9_stopper 60 = .ok (.goto 4, 3) := by decide +kernel
theorem dX9_stopper_63 : decode cX9_stopper 63 = .ok (.iload_n 3, 1) := by decide +kernel
theorem dX9_stopper_64 : decode cX9_stopper 64 = .ok (.ireturn, 1) := by decide +kernel
theorem dX9_fillLowTones_0 : decode cX9_fillLowTones 0 = .ok (.iconst 0, 1) := by decide +kernel
theorem dX9_fillLowTones_1 : decode cX9_fillLowTones 1 = .ok (.istore_n 1, 1) := by decide +kernel
theorem dX9_fillLowTones_2 : decode cX9_fillLowTones 2 = .ok (.iload_n 1, 1) := by decide +kernel
theorem dX9_fillLowTones_3 : decode cX9_fillLowTones 3 = .ok (.aload_n 0, 1) := by decide +kernel
theorem dX9_fillLowTones_4 : decode cX9_fillLowTones 4 = .ok (.getfield 12, 3) := by decide +kernel
theorem dX9_fillLowTones_7 : decode cX9_fillLowTones 7 = .ok (.getfield 64, 3) := by decide +kernel
theorem dX9_fillLowTones_10 : decode cX9_fillLowTones 10 = .ok (.if_icmp .ge 29, 3) := by decide +kernel
theorem dX9_fillLowTones_13 : decode cX9_fillLowTones 13 = .ok (.aload_n 0, 1) := by decide +kernel
theorem dX9_fillLowTones_14 : decode cX9_fillLowTones 14 = .ok (.getfield 55, 3) := by decide +kernel
theorem dX9_fillLowTones_17 : decode cX9_fillLowTones 17 = .ok (.iload_n 1, 1) := by decide +kernel
theorem dX9_fillLowTones_18 : decode cX9_fillLowTones 18 = .ok (.aload_n 0, 1) := by decide +kernel
theorem dX9_fillLowTones_19 : decode cX9_fillLowTones 19 = .ok (.aload_n 0, 1) := by decide +kernel
theorem dX9_fillLowTones_20 : decode cX9_fillLowTones 20 = .ok (.getfield 12, 3) := by decide +kernel
theorem dX9_fillLowTones_23 : decode cX9_fillLowTones 23 = .ok (.getfield 68, 3) := by decide +kernel
theorem dX9_fillLowTones_26 : decode cX9_fillLowTones 26 = .ok (.iload_n 1, 1) := by decide +kernel
theorem dX9_fillLowTones_27 : decode cX9_fillLowTones 27 = .ok (.aaload, 1) := by decide +kernel
theorem dX9_fillLowTones_28 : decode cX9_fillLowTones 28 = .ok (.iconst 0, 1) := by decide +kernel
theorem dX9_fillLowTones_29 : decode cX9_fillLowTones 29 = .ok (.invokevirtual 166, 3) := by decide +kernel
theorem dX9_fillLowTones_32 : decode cX9_fillLowTones 32 = .ok (.iastore, 1) := by decide +kernel
theorem dX9_fillLowTones_33 : decode cX9_fillLowTones 33 = .ok (.iinc 1 1, 3) := by decide +kernel
theorem dX9_fillLowTones_36 : decode cX9_fillLowTones 36 = .ok (.goto (-34), 3) := by decide +kernel
theorem dX9_fillLowTones_39 : decode cX9_fillLowTones 39 = .ok (.return_, 1) := by decide +kernel
theorem dX9_beatIn_0 : decode cX9_beatIn 0 = .ok (.aload_n 0, 1) := by decide +kernel
theorem dX9_beatIn_1 : decode cX9_beatIn 1 = .ok (.getfield 12, 3) := by decide +kernel
theorem dX9_beatIn_4 : decode cX9_beatIn 4 = .ok (.getfield 68, 3) := by decide +kernel
theorem dX9_beatIn_7 : decode cX9_beatIn 7 = .ok (.iload_n 2, 1) := by decide +kernel
theorem dX9_beatIn_8 : decode cX9_beatIn 8 = .ok (.aaload, 1) := by decide +kernel
theorem dX9_beatIn_9 : decode cX9_beatIn 9 = .ok (.iload_n 3, 1) := by decide +kernel
theorem dX9_beatIn_10 : decode cX9_beatIn 10 = .ok (.aload_n 0, 1) := by decide +kernel
theorem dX9_beatIn_11 : decode cX9_beatIn 11 = .ok (.getfield 12, 3) := by decide +kernel
theorem dX9_beatIn_14 : decode cX9_beatIn 14 = .ok (.getfield 296, 3) := by decide +kernel
theorem dX9_beatIn_17 : decode cX9_beatIn 17 = .ok (.iload_n 1, 1) := by decide +kernel
theorem dX9_beatIn_18 : decode cX9_beatIn 18 = .ok (.iaload, 1) := by decide +kernel
theorem dX9_beatIn_19 : decode cX9_beatIn 19 = .ok (.aload_n 0, 1) := by decide +kernel
theorem dX9_beatIn_20 : decode cX9_beatIn 20 = .ok (.getfield 55, 3) := by decide +kernel
theorem dX9_beatIn_23 : decode cX9_beatIn 23 = .ok (.iload_n 2, 1) := by decide +kernel
theorem dX9_beatIn_24 : decode cX9_beatIn 24 = .ok (.iaload, 1) := by decide +kernel
theorem dX9_beatIn_25 : decode cX9_beatIn 25 = .ok (.iload 4, 2) := by decide +kernel
theorem dX9_beatIn_27 : decode cX9_beatIn 27 = .ok (.invokestatic 283, 3) := by decide +kernel
theorem dX9_beatIn_30 : decode cX9_beatIn 30 = .ok (.invokestatic 286, 3) := by decide +kernel
theorem dX9_beatIn_33 : decode cX9_beatIn 33 = .ok (.ireturn, 1) := by decide +kernel
theorem dX9_worst_0 : decode cX9_worst 0 = .ok (.aload_n 0, 1) := by decide +kernel
theorem dX9_worst_1 : decode cX9_worst 1 = .ok (.aload_n 0, 1) := by decide +kernel
theorem dX9_worst_2 : decode cX9_worst 2 = .ok (.getfield 12, 3) := by decide +kernel
theorem dX9_worst_5 : decode cX9_worst 5 = .ok (.getfield 296, 3) := by decide +kernel
theorem dX9_worst_8 : decode cX9_worst 8 = .ok (.iload_n 1, 1) := by decide +kernel
theorem dX9_worst_9 : decode cX9_worst 9 = .ok (.iaload, 1) := by decide +kernel
theorem dX9_worst_10 : decode cX9_worst 10 = .ok (.aload_n 0, 1) := by decide +kernel
theorem dX9_worst_11 : decode cX9_worst 11 = .ok (.getfield 12, 3) := by decide +kernel
theorem dX9_worst_14 : decode cX9_worst 14 = .ok (.getfield 299, 3) := by decide +kernel
theorem dX9_worst_17 : decode cX9_worst 17 = .ok (.iload_n 1, 1) := by decide +kernel
theorem dX9_worst_18 : decode cX9_worst 18 = .ok (.iaload, 1) := by decide +kernel
theorem dX9_worst_19 : decode cX9_worst 19 = .ok (.invokevirtual 279, 3) := by decide +kernel
theorem dX9_worst_22 : decode cX9_worst 22 = .ok (.istore_n 3, 1) := by decide +kernel
theorem dX9_worst_23 : decode cX9_worst 23 = .ok (.iconst (-1), 1) := by decide +kernel
theorem dX9_worst_24 : decode cX9_worst 24 = .ok (.istore 4, 2) := by decide +kernel
theorem dX9_worst_26 : decode cX9_worst 26 = .ok (.iconst (-1), 1) := by decide +kernel
theorem dX9_worst_27 : decode cX9_worst 27 = .ok (.istore 5, 2) := by decide +kernel
theorem dX9_worst_29 : decode cX9_worst 29 = .ok (.iconst 0, 1) := by decide +kernel
theorem dX9_worst_30 : decode cX9_worst 30 = .ok (.istore 6, 2) := by decide +kernel
theorem dX9_worst_32 : decode cX9_worst 32 = .ok (.iload 6, 2) := by decide +kernel
theorem dX9_worst_34 : decode cX9_worst 34 = .ok (.aload_n 0, 1) := by decide +kernel
theorem dX9_worst_35 : decode cX9_worst 35 = .ok (.getfield 12, 3) := by decide +kernel
theorem dX9_worst_38 : decode cX9_worst 38 = .ok (.getfield 64, 3) := by decide +kernel
theorem dX9_worst_41 : decode cX9_worst 41 = .ok (.if_icmp .ge 35, 3) := by decide +kernel
theorem dX9_worst_44 : decode cX9_worst 44 = .ok (.aload_n 0, 1) := by decide +kernel
theorem dX9_worst_45 : decode cX9_worst 45 = .ok (.iload_n 1, 1) := by decide +kernel
theorem dX9_worst_46 : decode cX9_worst 46 = .ok (.iload 6, 2) := by decide +kernel
theorem dX9_worst_48 : decode cX9_worst 48 = .ok (.iload_n 2, 1) := by decide +kernel
theorem dX9_worst_49 : decode cX9_worst 49 = .ok (.iload_n 3, 1) := by decide +kernel
theorem dX9_worst_50 : decode cX9_worst 50 = .ok (.invokevirtual 430, 3) := by decide +kernel
theorem dX9_worst_53 : decode cX9_worst 53 = .ok (.istore 7, 2) := by decide +kernel
theorem dX9_worst_55 : decode cX9_worst 55 = .ok (.iload 7, 2) := by decide +kernel
theorem dX9_worst_57 : decode cX9_worst 57 = .ok (.iload 5, 2) := by decide +kernel
theorem dX9_worst_59 : decode cX9_worst 59 = .ok (.if_icmp .le 11, 3) := by decide +kernel
theorem dX9_worst_62 : decode cX9_worst 62 = .ok (.iload 7, 2) := by decide +kernel
theorem dX9_worst_64 : decode cX9_worst 64 = .ok (.istore 5, 2) := by decide +kernel
theorem dX9_worst_66 : decode cX9_worst 66 = .ok (.iload 6, 2) := by decide +kernel
theorem dX9_worst_68 : decode cX9_worst 68 = .ok (.istore 4, 2) := by decide +kernel
theorem dX9_worst_70 : decode cX9_worst 70 = .ok (.iinc 6 1, 3) := by decide +kernel
theorem dX9_worst_73 : decode cX9_worst 73 = .ok (.goto (-41), 3) := by decide +kernel
theorem dX9_worst_76 : decode cX9_worst 76 = .ok (.iload 4, 2) := by decide +kernel
theorem dX9_worst_78 : decode cX9_worst 78 = .ok (.ireturn, 1) := by decide +kernel
theorem dX9_suiting_0 : decode cX9_suiting 0 = .ok (.aload_n 0, 1) := by decide +kernel
theorem dX9_suiting_1 : decode cX9_suiting 1 = .ok (.iload_n 1, 1) := by decide +kernel
theorem dX9_suiting_2 : decode cX9_suiting 2 = .ok (.iconst 0, 1) := by decide +kernel
theorem dX9_suiting_3 : decode cX9_suiting 3 = .ok (.invokevirtual 308, 3) := by decide +kernel
theorem dX9_suiting_6 : decode cX9_suiting 6 = .ok (.istore_n 2, 1) := by decide +kernel
theorem dX9_suiting_7 : decode cX9_suiting 7 = .ok (.aload_n 0, 1) := by decide +kernel
theorem dX9_suiting_8 : decode cX9_suiting 8 = .ok (.iload_n 1, 1) := by decide +kernel
theorem dX9_suiting_9 : decode cX9_suiting 9 = .ok (.iconst 1, 1) := by decide +kernel
theorem dX9_suiting_10 : decode cX9_suiting 10 = .ok (.invokevirtual 308, 3) := by decide +kernel
theorem dX9_suiting_13 : decode cX9_suiting 13 = .ok (.istore_n 3, 1) := by decide +kernel
theorem dX9_suiting_14 : decode cX9_suiting 14 = .ok (.iload_n 2, 1) := by decide +kernel
theorem dX9_suiting_15 : decode cX9_suiting 15 = .ok (.iconst (-1), 1) := by decide +kernel
theorem dX9_suiting_16 : decode cX9_suiting 16 = .ok (.if_icmp .eq 8, 3) := by decide +kernel
theorem dX9_suiting_19 : decode cX9_suiting 19 = .ok (.iload_n 3, 1) := by decide +kernel
theorem dX9_suiting_20 : decode cX9_suiting 20 = .ok (.iconst (-1), 1) := by decide +kernel
theorem dX9_suiting_21 : decode cX9_suiting 21 = .ok (.if_icmp .ne 5, 3) := by decide +kernel
theorem dX9_suiting_24 : decode cX9_suiting 24 = .ok (.iconst 0, 1) := by decide +kernel
theorem dX9_suiting_25 : decode cX9_suiting 25 = .ok (.ireturn, 1) := by decide +kernel
theorem dX9_suiting_26 : decode cX9_suiting 26 = .ok (.aload_n 0, 1) := by decide +kernel
theorem dX9_suiting_27 : decode cX9_suiting 27 = .ok (.aload_n 0, 1) := by decide +kernel
theorem dX9_suiting_28 : decode cX9_suiting 28 = .ok (.getfield 12, 3) := by decide +kernel
theorem dX9_suiting_31 : decode cX9_suiting 31 = .ok (.getfield 296, 3) := by decide +kernel
theorem dX9_suiting_34 : decode cX9_suiting 34 = .ok (.iload_n 1, 1) := by decide +kernel
theorem dX9_suiting_35 : decode cX9_suiting 35 = .ok (.iaload, 1) := by decide +kernel
theorem dX9_suiting_36 : decode cX9_suiting 36 = .ok (.aload_n 0, 1) := by decide +kernel
theorem dX9_suiting_37 : decode cX9_suiting 37 = .ok (.getfield 12, 3) := by decide +kernel
theorem dX9_suiting_40 : decode cX9_suiting 40 = .ok (.getfield 299, 3) := by decide +kernel
theorem dX9_suiting_43 : decode cX9_suiting 43 = .ok (.iload_n 1, 1) := by decide +kernel
theorem dX9_suiting_44 : decode cX9_suiting 44 = .ok (.iaload, 1) := by decide +kernel
theorem dX9_suiting_45 : decode cX9_suiting 45 = .ok (.invokevirtual 279, 3) := by decide +kernel
theorem dX9_suiting_48 : decode cX9_suiting 48 = .ok (.istore 4, 2) := by decide +kernel
theorem dX9_suiting_50 : decode cX9_suiting 50 = .ok (.aload_n 0, 1) := by decide +kernel
theorem dX9_suiting_51 : decode cX9_suiting 51 = .ok (.iload_n 1, 1) := by decide +kernel
theorem dX9_suiting_52 : decode cX9_suiting 52 = .ok (.iload_n 3, 1) := by decide +kernel
theorem dX9_suiting_53 : decode cX9_suiting 53 = .ok (.iconst 1, 1) := by decide +kernel
theorem dX9_suiting_54 : decode cX9_suiting 54 = .ok (.iload 4, 2) := by decide +kernel
theorem dX9_suiting_56 : decode cX9_suiting 56 = .ok (.invokevirtual 430, 3) := by decide +kernel
theorem dX9_suiting_59 : decode cX9_suiting 59 = .ok (.aload_n 0, 1) := by decide +kernel
theorem dX9_suiting_60 : decode cX9_suiting 60 = .ok (.iload_n 1, 1) := by decide +kernel
theorem dX9_suiting_61 : decode cX9_suiting 61 = .ok (.iload_n 2, 1) := by decide +kernel
theorem dX9_suiting_62 : decode cX9_suiting 62 = .ok (.iconst 0, 1) := by decide +kernel
theorem dX9_suiting_63 : decode cX9_suiting 63 = .ok (.iload 4, 2) := by decide +kernel
theorem dX9_suiting_65 : decode cX9_suiting 65 = .ok (.invokevirtual 430, 3) := by decide +kernel
theorem dX9_suiting_68 : decode cX9_suiting 68 = .ok (.if_icmp .ge 7, 3) := by decide +kernel
theorem dX9_suiting_71 : decode cX9_suiting 71 = .ok (.iconst 1, 1) := by decide +kernel
theorem dX9_suiting_72 : decode cX9_suiting 72 = .ok (.goto 4, 3) := by decide +kernel
theorem dX9_suiting_75 : decode cX9_suiting 75 = .ok (.iconst 0, 1) := by decide +kernel
theorem dX9_suiting_76 : decode cX9_suiting 76 = .ok (.ireturn, 1) := by decide +kernel
theorem dX9_apart_0 : decode cX9_apart 0 = .ok (.iconst 0, 1) := by decide +kernel
theorem dX9_apart_1 : decode cX9_apart 1 = .ok (.istore_n 1, 1) := by decide +kernel
theorem dX9_apart_2 : decode cX9_apart 2 = .ok (.iconst 0, 1) := by decide +kernel
theorem dX9_apart_3 : decode cX9_apart 3 = .ok (.istore_n 2, 1) := by decide +kernel
theorem dX9_apart_4 : decode cX9_apart 4 = .ok (.iload_n 2, 1) := by decide +kernel
theorem dX9_apart_5 : decode cX9_apart 5 = .ok (.aload_n 0, 1) := by decide +kernel
theorem dX9_apart_6 : decode cX9_apart 6 = .ok (.getfield 12, 3) := by decide +kernel
theorem dX9_apart_9 : decode cX9_apart 9 = .ok (.getfield 293, 3) := by decide +kernel
theorem dX9_apart_12 : decode cX9_apart 12 = .ok (.if_icmp .ge 17, 3) := by decide +kernel
theorem dX9_apart_15 : decode cX9_apart 15 = .ok (.iload_n 1, 1) := by decide +kernel
theorem dX9_apart_16 : decode cX9_apart 16 = .ok (.aload_n 0, 1) := by decide +kernel
theorem dX9_apart_17 : decode cX9_apart 17 = .ok (.iload_n 2, 1) := by decide +kernel
theorem dX9_apart_18 : decode cX9_apart 18 = .ok (.invokevirtual 311, 3) := by decide +kernel
theorem dX9_apart_21 : decode cX9_apart 21 = .ok (.iadd, 1) := by decide +kernel
theorem dX9_apart_22 : decode cX9_apart 22 = .ok (.istore_n 1, 1) := by decide +kernel
theorem dX9_apart_23 : decode cX9_apart 23 = .ok (.iinc 2 1, 3) := by decide +kernel
theorem dX9_apart_26 : decode cX9_apart 26 = .ok (.goto (-22), 3) := by decide +kernel
theorem dX9_apart_29 : decode cX9_apart 29 = .ok (.iload_n 1, 1) := by decide +kernel
theorem dX9_apart_30 : decode cX9_apart 30 = .ok (.ireturn, 1) := by decide +kernel
theorem dX9_together_0 : decode cX9_together 0 = .ok (.aload_n 0, 1) := by decide +kernel
theorem dX9_together_1 : decode cX9_together 1 = .ok (.aload_n 0, 1) := by decide +kernel
theorem dX9_together_2 : decode cX9_together 2 = .ok (.getfield 12, 3) := by decide +kernel
theorem dX9_together_5 : decode cX9_together 5 = .ok (.getfield 296, 3) := by decide +kernel
theorem dX9_together_8 : decode cX9_together 8 = .ok (.iload_n 1, 1) := by decide +kernel
theorem dX9_together_9 : decode cX9_together 9 = .ok (.iaload, 1) := by decide +kernel
theorem dX9_together_10 : decode cX9_together 10 = .ok (.aload_n 0, 1) := by decide +kernel
theorem dX9_together_11 : decode cX9_together 11 = .ok (.getfield 12, 3) := by decide +kernel
theorem dX9_together_14 : decode cX9_together 14 = .ok (.getfield 299, 3) := by decide +kernel
theorem dX9_together_17 : decode cX9_together 17 = .ok (.iload_n 1, 1) := by decide +kernel
theorem dX9_together_18 : decode cX9_together 18 = .ok (.iaload, 1) := by decide +kernel
theorem dX9_together_19 : decode cX9_together 19 = .ok (.invokevirtual 279, 3) := by decide +kernel
theorem dX9_together_22 : decode cX9_together 22 = .ok (.istore_n 2, 1) := by decide +kernel
theorem dX9_together_23 : decode cX9_together 23 = .ok (.lconst 0, 1) := by decide +kernel
theorem dX9_together_24 : decode cX9_together 24 = .ok (.lstore_n 3, 1) := by decide +kernel
theorem dX9_together_25 : decode cX9_together 25 = .ok (.iconst 0, 1) := by decide +kernel
theorem dX9_together_26 : decode cX9_together 26 = .ok (.istore 5, 2) := by decide +kernel
theorem dX9_together_28 : decode cX9_together 28 = .ok (.iload 5, 2) := by decide +kernel
theorem dX9_together_30 : decode cX9_together 30 = .ok (.aload_n 0, 1) := by decide +kernel
theorem dX9_together_31 : decode cX9_together 31 = .ok (.getfield 12, 3) := by decide +kernel
theorem dX9_together_34 : decode cX9_together 34 = .ok (.getfield 64, 3) := by decide +kernel
theorem dX9_together_37 : decode cX9_together 37 = .ok (.if_icmp .ge 92, 3) := by decide +kernel
theorem dX9_together_40 : decode cX9_together 40 = .ok (.aload_n 0, 1) := by decide +kernel
theorem dX9_together_41 : decode cX9_together 41 = .ok (.getfield 55, 3) := by decide +kernel
theorem dX9_together_44 : decode cX9_together 44 = .ok (.iload 5, 2) := by decide +kernel
theorem dX9_together_46 : decode cX9_together 46 = .ok (.iaload, 1) := by decide +kernel
theorem dX9_together_47 : decode cX9_together 47 = .ok (.iload_n 2, 1) := by decide +kernel
theorem dX9_together_48 : decode cX9_together 48 = .ok (.invokestatic 283, 3) := by decide +kernel
theorem dX9_together_51 : decode cX9_together 51 = .ok (.i2l, 1) := by decide +kernel
theorem dX9_together_52 : decode cX9_together 52 = .ok (.lstore 6, 2) := by decide +kernel
theorem dX9_together_54 : decode cX9_together 54 = .ok (.iload 5, 2) := by decide +kernel
theorem dX9_together_56 : decode cX9_together 56 = .ok (.iconst 1, 1) := by decide +kernel
theorem dX9_together_57 : decode cX9_together 57 = .ok (.iadd, 1) := by decide +kernel
theorem dX9_together_58 : decode cX9_together 58 = .ok (.istore 8, 2) := by decide +kernel
theorem dX9_together_60 : decode cX9_together 60 = .ok (.iload 8, 2) := by decide +kernel
theorem dX9_together_62 : decode cX9_together 62 = .ok (.aload_n 0, 1) := by decide +kernel
theorem dX9_together_63 : decode cX9_together 63 = .ok (.getfield 12, 3) := by decide +kernel
theorem dX9_together_66 : decode cX9_together 66 = .ok (.getfield 64, 3) := by decide +kernel
theorem dX9_together_69 : decode cX9_together 69 = .ok (.if_icmp .ge 54, 3) := by decide +kernel
theorem dX9_together_72 : decode cX9_together 72 = .ok (.aload_n 0, 1) := by decide +kernel
theorem dX9_together_73 : decode cX9_together 73 = .ok (.getfield 55, 3) := by decide +kernel
theorem dX9_together_76 : decode cX9_together 76 = .ok (.iload 8, 2) := by decide +kernel
theorem dX9_together_78 : decode cX9_together 78 = .ok (.iaload, 1) := by decide +kernel
theorem dX9_together_79 : decode cX9_together 79 = .ok (.iload_n 2, 1) := by decide +kernel
theorem dX9_together_80 : decode cX9_together 80 = .ok (.invokestatic 283, 3) := by decide +kernel
theorem dX9_together_83 : decode cX9_together 83 = .ok (.i2l, 1) := by decide +kernel
theorem dX9_together_84 : decode cX9_together 84 = .ok (.lstore 9, 2) := by decide +kernel
theorem dX9_together_86 : decode cX9_together 86 = .ok (.lload_n 3, 1) := by decide +kernel
theorem dX9_together_87 : decode cX9_together 87 = .ok (.lload 6, 2) := by decide +kernel
theorem dX9_together_89 : decode cX9_together 89 = .ok (.aload_n 0, 1) := by decide +kernel
theorem dX9_together_90 : decode cX9_together 90 = .ok (.getfield 55, 3) := by decide +kernel
theorem dX9_together_93 : decode cX9_together 93 = .ok (.iload 8, 2) := by decide +kernel
theorem dX9_together_95 : decode cX9_together 95 = .ok (.iaload, 1) := by decide +kernel
theorem dX9_together_96 : decode cX9_together 96 = .ok (.i2l, 1) := by decide +kernel
theorem dX9_together_97 : decode cX9_together 97 = .ok (.lmul, 1) := by decide +kernel
theorem dX9_together_98 : decode cX9_together 98 = .ok (.lload 9, 2) := by decide +kernel
theorem dX9_together_100 : decode cX9_together 100 = .ok (.aload_n 0, 1) := by decide +kernel
theorem dX9_together_101 : decode cX9_together 101 = .ok (.getfield 55, 3) := by decide +kernel
theorem dX9_together_104 : decode cX9_together 104 = .ok (.iload 5, 2) := by decide +kernel
theorem dX9_together_106 : decode cX9_together 106 = .ok (.iaload, 1) := by decide +kernel
theorem dX9_together_107 : decode cX9_together 107 = .ok (.i2l, 1) := by decide +kernel
theorem dX9_together_108 : decode cX9_together 108 = .ok (.lmul, 1) := by decide +kernel
theorem dX9_together_109 : decode cX9_together 109 = .ok (.lsub, 1) := by decide +kernel
theorem dX9_together_110 : decode cX9_together 110 = .ok (.invokestatic 434, 3) := by decide +kernel
theorem dX9_together_113 : decode cX9_together 113 = .ok (.invokestatic 421, 3) := by decide +kernel
theorem dX9_together_116 : decode cX9_together 116 = .ok (.lstore_n 3, 1) := by decide +kernel
theorem dX9_together_117 : decode cX9_together 117 = .ok (.iinc 8 1, 3) := by decide +kernel
theorem dX9_together_120 : decode cX9_together 120 = .ok (.goto (-60), 3) := by decide +kernel
theorem dX9_together_123 : decode cX9_together 123 = .ok (.iinc 5 1, 3) := by decide +kernel
theorem dX9_together_126 : decode cX9_together 126 = .ok (.goto (-98), 3) := by decide +kernel
theorem dX9_together_129 : decode cX9_together 129 = .ok (.lload_n 3, 1) := by decide +kernel
theorem dX9_together_130 : decode cX9_together 130 = .ok (.ldc2_w 360, 3) := by decide +kernel
theorem dX9_together_133 : decode cX9_together 133 = .ok (.ldiv, 1) := by decide +kernel
theorem dX9_together_134 : decode cX9_together 134 = .ok (.ldc2_w 411, 3) := by decide +kernel
theorem dX9_together_137 : decode cX9_together 137 = .ok (.invokestatic 413, 3) := by decide +kernel
theorem dX9_together_140 : decode cX9_together 140 = .ok (.l2i, 1) := by decide +kernel
theorem dX9_together_141 : decode cX9_together 141 = .ok (.ireturn, 1) := by decide +kernel
theorem dX10_init_0 : decode cX10_init 0 = .ok (.aload_n 0, 1) := by decide +kernel
theorem dX10_init_1 : decode cX10_init 1 = .ok (.invokespecial 1, 3) := by decide +kernel
theorem dX10_init_4 : decode cX10_init 4 = .ok (.aload_n 0, 1) := by decide +kernel
theorem dX10_init_5 : decode cX10_init 5 = .ok (.bipush 10, 2) := by decide +kernel
theorem dX10_init_7 : decode cX10_init 7 = .ok (.putfield 7, 3) := by decide +kernel
theorem dX10_init_10 : decode cX10_init 10 = .ok (.aload_n 0, 1) := by decide +kernel
theorem dX10_init_11 : decode cX10_init 11 = .ok (.bipush 10, 2) := by decide +kernel
theorem dX10_init_13 : decode cX10_init 13 = .ok (.newarray .int, 2) := by decide +kernel
theorem dX10_init_15 : decode cX10_init 15 = .ok (.putfield 13, 3) := by decide +kernel
theorem dX10_init_18 : decode cX10_init 18 = .ok (.aload_n 0, 1) := by decide +kernel
theorem dX10_init_19 : decode cX10_init 19 = .ok (.sipush 160, 3) := by decide +kernel
theorem dX10_init_22 : decode cX10_init 22 = .ok (.newarray .int, 2) := by decide +kernel
theorem dX10_init_24 : decode cX10_init 24 = .ok (.putfield 17, 3) := by decide +kernel
theorem dX10_init_27 : decode cX10_init 27 = .ok (.aload_n 0, 1) := by decide +kernel
theorem dX10_init_28 : decode cX10_init 28 = .ok (.sipush 160, 3) := by decide +kernel
theorem dX10_init_31 : decode cX10_init 31 = .ok (.newarray .int, 2) := by decide +kernel
theorem dX10_init_33 : decode cX10_init 33 = .ok (.putfield 20, 3) := by decide +kernel
theorem dX10_init_36 : decode cX10_init 36 = .ok (.aload_n 0, 1) := by decide +kernel
theorem dX10_init_37 : decode cX10_init 37 = .ok (.sipush 160, 3) := by decide +kernel
theorem dX10_init_40 : decode cX10_init 40 = .ok (.newarray .int, 2) := by decide +kernel
theorem dX10_init_42 : decode cX10_init 42 = .ok (.putfield 23, 3) := by decide +kernel
theorem dX10_init_45 : decode cX10_init 45 = .ok (.aload_n 0, 1) := by decide +kernel
theorem dX10_init_46 : decode cX10_init 46 = .ok (.sipush 160, 3) := by decide +kernel
theorem dX10_init_49 : decode cX10_init 49 = .ok (.newarray .int, 2) := by decide +kernel
theorem dX10_init_51 : decode cX10_init 51 = .ok (.putfield 26, 3) := by decide +kernel
theorem dX10_init_54 : decode cX10_init 54 = .ok (.aload_n 0, 1) := by decide +kernel
theorem dX10_init_55 : decode cX10_init 55 = .ok (.bipush 30, 2) := by decide +kernel
theorem dX10_init_57 : decode cX10_init 57 = .ok (.newarray .int, 2) := by decide +kernel
theorem dX10_init_59 : decode cX10_init 59 = .ok (.putfield 29, 3) := by decide +kernel
theorem dX10_init_62 : decode cX10_init 62 = .ok (.aload_n 0, 1) := by decide +kernel
theorem dX10_init_63 : decode cX10_init 63 = .ok (.bipush 10, 2) := by decide +kernel
theorem dX10_init_65 : decode cX10_init 65 = .ok (.newarray .int, 2) := by decide +kernel
theorem dX10_init_67 : decode cX10_init 67 = .ok (.putfield 32, 3) := by decide +kernel
theorem dX10_init_70 : decode cX10_init 70 = .ok (.aload_n 0, 1) := by decide +kernel
theorem dX10_init_71 : decode cX10_init 71 = .ok (.sipush 2000, 3) := by decide +kernel
theorem dX10_init_74 : decode cX10_init 74 = .ok (.newarray .int, 2) := by decide +kernel
theorem dX10_init_76 : decode cX10_init 76 = .ok (.putfield 35, 3) := by decide +kernel
theorem dX10_init_79 : decode cX10_init 79 = .ok (.aload_n 0, 1) := by decide +kernel
theorem dX10_init_80 : decode cX10_init 80 = .ok (.sipush 2000, 3) := by decide +kernel
theorem dX10_init_83 : decode cX10_init 83 = .ok (.newarray .int, 2) := by decide +kernel
theorem dX10_init_85 : decode cX10_init 85 = .ok (.putfield 38, 3) := by decide +kernel
theorem dX10_init_88 : decode cX10_init 88 = .ok (.aload_n 0, 1) := by decide +kernel
theorem dX10_init_89 : decode cX10_init 89 = .ok (.bipush 10, 2) := by decide +kernel
theorem dX10_init_91 : decode cX10_init 91 = .ok (.newarray .int, 2) := by decide +kernel
theorem dX10_init_93 : decode cX10_init 93 = .ok (.putfield 41, 3) := by decide +kernel
theorem dX10_init_96 : decode cX10_init 96 = .ok (.aload_n 0, 1) := by decide +kernel
theorem dX10_init_97 : decode cX10_init 97 = .ok (.bipush 10, 2) := by decide +kernel
theorem dX10_init_99 : decode cX10_init 99 = .ok (.newarray .int, 2) := by decide +kernel
theorem dX10_init_101 : decode cX10_init 101 = .ok (.dup, 1) := by decide +kernel
theorem dX10_init_102 : decode cX10_init 102 = .ok (.iconst 0, 1) := by decide +kernel
theorem dX10_init_103 : decode cX10_init 103 = .ok (.iconst (-1), 1) := by decide +kernel
theorem dX10_init_104 : decode cX10_init 104 = .ok (.iastore, 1) := by decide +kernel
theorem dX10_init_105 : decode cX10_init 105 = .ok (.dup, 1) := by decide +kernel
theorem dX10_init_106 : decode cX10_init 106 = .ok (.iconst 1, 1) := by decide +kernel
theorem dX10_init_107 : decode cX10_init 107 = .ok (.iconst (-1), 1) := by decide +kernel
theorem dX10_init_108 : decode cX10_init 108 = .ok (.iastore, 1) := by decide +kernel
theorem dX10_init_109 : decode cX10_init 109 = .ok (.dup, 1) := by decide +kernel
theorem dX10_init_110 : decode cX10_init 110 = .ok (.iconst 2, 1) := by decide +kernel
theorem dX10_init_111 : decode cX10_init 111 = .ok (.iconst (-1), 1) := by decide +kernel
theorem dX10_init_112 : decode cX10_init 112 = .ok (.iastore, 1) := by decide +kernel
theorem dX10_init_113 : decode cX10_init 113 = .ok (.dup, 1) := by decide +kernel
theorem dX10_init_114 : decode cX10_init 114 = .ok (.iconst 3, 1) := by decide +kernel
theorem dX10_init_115 : decode cX10_init 115 = .ok (.iconst (-1), 1) := by decide +kernel
theorem dX10_init_116 : decode cX10_init 116 = .ok (.iastore, 1) := by decide +kernel
theorem dX10_init_117 : decode cX10_init 117 = .ok (.dup, 1) := by decide +kernel
theorem dX10_init_118 : decode cX10_init 118 = .ok (.iconst 4, 1) := by decide +kernel
theorem dX10_init_119 : decode cX10_init 119 = .ok (.iconst (-1), 1) := by decide +kernel
theorem dX10_init_120 : decode cX10_init 120 = .ok (.iastore, 1) := by decide +kernel
theorem dX10_init_121 : decode cX10_init 121 = .ok (.dup, 1) := by decide +kernel
theorem dX10_init_122 : decode cX10_init 122 = .ok (.iconst 5, 1) := by decide +kernel
theorem dX10_init_123 : decode cX10_init 123 = .ok (.iconst (-1), 1) := by decide +kernel
theorem dX10_init_124 : decode cX10_init 124 = .ok (.iastore, 1) := by decide +kernel
theorem dX10_init_125 : decode cX10_init 125 = .ok (.dup, 1) := by decide +kernel
theorem dX10_init_126 : decode cX10_init 126 = .ok (.bipush 6, 2) := by decide +kernel
theorem dX10_init_128 : decode cX10_init 128 = .ok (.iconst (-1), 1) := by decide +kernel
theorem dX10_init_129 : decode cX10_init 129 = .ok (.iastore, 1) := by decide +kernel
theorem dX10_init_130 : decode cX10_init 130 = .ok (.dup, 1) := by decide +kernel
theorem dX10_init_131 : decode cX10_init 131 = .ok (.bipush 7, 2) := by decide +kernel
theorem dX10_init_133 : decode cX10_init 133 = .ok (.iconst (-1), 1) := by decide +kernel
theorem dX10_init_134 : decode cX10_init 134 = .ok (.iastore, 1) := by decide +kernel
theorem dX10_init_135 : decode cX10_init 135 = .ok (.dup, 1) := by decide +kernel
theorem dX10_init_136 : decode cX10_init 136 = .ok (.bipush 8, 2) := by decide +kernel
theorem dX10_init_138 : decode cX10_init 138 = .ok (.iconst (-1), 1) := by decide +kernel
theorem dX10_init_139 : decode cX10_init 139 = .ok (.iastore, 1) := by decide +kernel
theorem dX10_init_140 : decode cX10_init 140 = .ok (.dup, 1) := by decide +kernel
theorem dX10_init_141 : decode cX10_init 141 = .ok (.bipush 9, 2) := by decide +kernel
theorem dX10_init_143 : decode cX10_init 143 = .ok (.iconst (-1), 1) := by decide +kernel
theorem dX10_init_144 : decode cX10_init 144 = .ok (.iastore, 1) := by decide +kernel
theorem dX10_init_145 : decode cX10_init 145 = .ok (.putfield 44, 3) := by decide +kernel
