theorem dX10_does_36 : decode cX10_does 36 = .ok (.aload_n 0, 1) := by decide +kernel
theorem dX10_does_37 : decode cX10_does 37 = .ok (.getfield 101, 3) := by decide +kernel
theorem dX10_does_40 : decode cX10_does 40 = .ok (.iload 4, 2) := by decide +kernel
theorem dX10_does_42 : decode cX10_does 42 = .ok (.iaload, 1) := by decide +kernel
theorem dX10_does_43 : decode cX10_does 43 = .ok (.istore 5, 2) := by decide +kernel
theorem dX10_does_45 : decode cX10_does 45 = .ok (.aload_n 0, 1) := by decide +kernel
theorem dX10_does_46 : decode cX10_does 46 = .ok (.getfield 113, 3) := by decide +kernel
theorem dX10_does_49 : decode cX10_does 49 = .ok (.iload 5, 2) := by decide +kernel
theorem dX10_does_51 : decode cX10_does 51 = .ok (.aload_n 0, 1) := by decide +kernel
theorem dX10_does_52 : decode cX10_does 52 = .ok (.getfield 113, 3) := by decide +kernel
theorem dX10_does_55 : decode cX10_does 55 = .ok (.iload 5, 2) := by decide +kernel
theorem dX10_does_57 : decode cX10_does 57 = .ok (.iaload, 1) := by decide +kernel
theorem dX10_does_58 : decode cX10_does 58 = .ok (.iconst 1, 1) := by decide +kernel
theorem dX10_does_59 : decode cX10_does 59 = .ok (.iadd, 1) := by decide +kernel
theorem dX10_does_60 : decode cX10_does 60 = .ok (.iastore, 1) := by decide +kernel
theorem dX10_does_61 : decode cX10_does 61 = .ok (.aload_n 0, 1) := by decide +kernel
theorem dX10_does_62 : decode cX10_does 62 = .ok (.getfield 17, 3) := by decide +kernel
theorem dX10_does_65 : decode cX10_does 65 = .ok (.bipush 16, 2) := by decide +kernel
theorem dX10_does_67 : decode cX10_does 67 = .ok (.iload_n 1, 1) := by decide +kernel
theorem dX10_does_68 : decode cX10_does 68 = .ok (.imul, 1) := by decide +kernel
theorem dX10_does_69 : decode cX10_does 69 = .ok (.iload 5, 2) := by decide +kernel
theorem dX10_does_71 : decode cX10_does 71 = .ok (.iadd, 1) := by decide +kernel
theorem dX10_does_72 : decode cX10_does 72 = .ok (.iaload, 1) := by decide +kernel
theorem dX10_does_73 : decode cX10_does 73 = .ok (.aload_n 0, 1) := by decide +kernel
theorem dX10_does_74 : decode cX10_does 74 = .ok (.getfield 113, 3) := by decide +kernel
theorem dX10_does_77 : decode cX10_does 77 = .ok (.iload 5, 2) := by decide +kernel
theorem dX10_does_79 : decode cX10_does 79 = .ok (.iaload, 1) := by decide +kernel
theorem dX10_does_80 : decode cX10_does 80 = .ok (.if_icmp .gt 5, 3) := by decide +kernel
theorem dX10_does_83 : decode cX10_does 83 = .ok (.iconst 0, 1) := by decide +kernel
theorem dX10_does_84 : decode cX10_does 84 = .ok (.ireturn, 1) := by decide +kernel
theorem dX10_does_85 : decode cX10_does 85 = .ok (.aload_n 0, 1) := by decide +kernel
theorem dX10_does_86 : decode cX10_does 86 = .ok (.iload_n 1, 1) := by decide +kernel
theorem dX10_does_87 : decode cX10_does 87 = .ok (.invokevirtual 359, 3) := by decide +kernel
theorem dX10_does_90 : decode cX10_does 90 = .ok (.istore_n 3, 1) := by decide +kernel
theorem dX10_does_91 : decode cX10_does 91 = .ok (.iload_n 3, 1) := by decide +kernel
theorem dX10_does_92 : decode cX10_does 92 = .ok (.ifCond .ne 5, 3) := by decide +kernel
theorem dX10_does_95 : decode cX10_does 95 = .ok (.iconst 0, 1) := by decide +kernel
theorem dX10_does_96 : decode cX10_does 96 = .ok (.ireturn, 1) := by decide +kernel
theorem dX10_does_97 : decode cX10_does 97 = .ok (.iinc 4 1, 3) := by decide +kernel
theorem dX10_does_100 : decode cX10_does 100 = .ok (.goto (-70), 3) := by decide +kernel
theorem dX10_does_103 : decode cX10_does 103 = .ok (.iload_n 3, 1) := by decide +kernel
theorem dX10_does_104 : decode cX10_does 104 = .ok (.iconst 2, 1) := by decide +kernel
theorem dX10_does_105 : decode cX10_does 105 = .ok (.if_icmp .ne 7, 3) := by decide +kernel
theorem dX10_does_108 : decode cX10_does 108 = .ok (.iconst 1, 1) := by decide +kernel
theorem dX10_does_109 : decode cX10_does 109 = .ok (.goto 4, 3) := by decide +kernel
theorem dX10_does_112 : decode cX10_does 112 = .ok (.iconst 0, 1) := by decide +kernel
theorem dX10_does_113 : decode cX10_does 113 = .ok (.ireturn, 1) := by decide +kernel
theorem dX10_goesOn_0 : decode cX10_goesOn 0 = .ok (.iload_n 1, 1) := by decide +kernel
theorem dX10_goesOn_1 : decode cX10_goesOn 1 = .ok (.iconst 1, 1) := by decide +kernel
theorem dX10_goesOn_2 : decode cX10_goesOn 2 = .ok (.isub, 1) := by decide +kernel
theorem dX10_goesOn_3 : decode cX10_goesOn 3 = .ok (.istore_n 3, 1) := by decide +kernel
theorem dX10_goesOn_4 : decode cX10_goesOn 4 = .ok (.iload_n 3, 1) := by decide +kernel
theorem dX10_goesOn_5 : decode cX10_goesOn 5 = .ok (.ifCond .lt 29, 3) := by decide +kernel
theorem dX10_goesOn_8 : decode cX10_goesOn 8 = .ok (.aload_n 0, 1) := by decide +kernel
theorem dX10_goesOn_9 : decode cX10_goesOn 9 = .ok (.getfield 101, 3) := by decide +kernel
theorem dX10_goesOn_12 : decode cX10_goesOn 12 = .ok (.iload_n 3, 1) := by decide +kernel
theorem dX10_goesOn_13 : decode cX10_goesOn 13 = .ok (.iaload, 1) := by decide +kernel
theorem dX10_goesOn_14 : decode cX10_goesOn 14 = .ok (.iload_n 2, 1) := by decide +kernel
theorem dX10_goesOn_15 : decode cX10_goesOn 15 = .ok (.iconst 1, 1) := by decide +kernel
theorem dX10_goesOn_16 : decode cX10_goesOn 16 = .ok (.isub, 1) := by decide +kernel
theorem dX10_goesOn_17 : decode cX10_goesOn 17 = .ok (.if_icmp .ne 17, 3) := by decide +kernel
theorem dX10_goesOn_20 : decode cX10_goesOn 20 = .ok (.aload_n 0, 1) := by decide +kernel
theorem dX10_goesOn_21 : decode cX10_goesOn 21 = .ok (.getfield 101, 3) := by decide +kernel
theorem dX10_goesOn_24 : decode cX10_goesOn 24 = .ok (.iload_n 3, 1) := by decide +kernel
theorem dX10_goesOn_25 : decode cX10_goesOn 25 = .ok (.iconst 0, 1) := by decide +kernel
theorem dX10_goesOn_26 : decode cX10_goesOn 26 = .ok (.iastore, 1) := by decide +kernel
theorem dX10_goesOn_27 : decode cX10_goesOn 27 = .ok (.iload_n 3, 1) := by decide +kernel
theorem dX10_goesOn_28 : decode cX10_goesOn 28 = .ok (.iconst 1, 1) := by decide +kernel
theorem dX10_goesOn_29 : decode cX10_goesOn 29 = .ok (.isub, 1) := by decide +kernel
theorem dX10_goesOn_30 : decode cX10_goesOn 30 = .ok (.istore_n 3, 1) := by decide +kernel
theorem dX10_goesOn_31 : decode cX10_goesOn 31 = .ok (.goto (-27), 3) := by decide +kernel
theorem dX10_goesOn_34 : decode cX10_goesOn 34 = .ok (.iload_n 3, 1) := by decide +kernel
theorem dX10_goesOn_35 : decode cX10_goesOn 35 = .ok (.ifCond .ge 5, 3) := by decide +kernel
theorem dX10_goesOn_38 : decode cX10_goesOn 38 = .ok (.iconst 0, 1) := by decide +kernel
theorem dX10_goesOn_39 : decode cX10_goesOn 39 = .ok (.ireturn, 1) := by decide +kernel
theorem dX10_goesOn_40 : decode cX10_goesOn 40 = .ok (.aload_n 0, 1) := by decide +kernel
theorem dX10_goesOn_41 : decode cX10_goesOn 41 = .ok (.getfield 101, 3) := by decide +kernel
theorem dX10_goesOn_44 : decode cX10_goesOn 44 = .ok (.iload_n 3, 1) := by decide +kernel
theorem dX10_goesOn_45 : decode cX10_goesOn 45 = .ok (.aload_n 0, 1) := by decide +kernel
theorem dX10_goesOn_46 : decode cX10_goesOn 46 = .ok (.getfield 101, 3) := by decide +kernel
theorem dX10_goesOn_49 : decode cX10_goesOn 49 = .ok (.iload_n 3, 1) := by decide +kernel
theorem dX10_goesOn_50 : decode cX10_goesOn 50 = .ok (.iaload, 1) := by decide +kernel
theorem dX10_goesOn_51 : decode cX10_goesOn 51 = .ok (.iconst 1, 1) := by decide +kernel
theorem dX10_goesOn_52 : decode cX10_goesOn 52 = .ok (.iadd, 1) := by decide +kernel
theorem dX10_goesOn_53 : decode cX10_goesOn 53 = .ok (.iastore, 1) := by decide +kernel
theorem dX10_goesOn_54 : decode cX10_goesOn 54 = .ok (.iconst 1, 1) := by decide +kernel
theorem dX10_goesOn_55 : decode cX10_goesOn 55 = .ok (.ireturn, 1) := by decide +kernel
theorem dX10_findsFewest_0 : decode cX10_findsFewest 0 = .ok (.aload_n 0, 1) := by decide +kernel
theorem dX10_findsFewest_1 : decode cX10_findsFewest 1 = .ok (.iload_n 1, 1) := by decide +kernel
theorem dX10_findsFewest_2 : decode cX10_findsFewest 2 = .ok (.invokevirtual 362, 3) := by decide +kernel
theorem dX10_findsFewest_5 : decode cX10_findsFewest 5 = .ok (.iconst 0, 1) := by decide +kernel
theorem dX10_findsFewest_6 : decode cX10_findsFewest 6 = .ok (.istore_n 2, 1) := by decide +kernel
theorem dX10_findsFewest_7 : decode cX10_findsFewest 7 = .ok (.iload_n 2, 1) := by decide +kernel
theorem dX10_findsFewest_8 : decode cX10_findsFewest 8 = .ok (.iconst 5, 1) := by decide +kernel
theorem dX10_findsFewest_9 : decode cX10_findsFewest 9 = .ok (.if_icmp .gt 61, 3) := by decide +kernel
theorem dX10_findsFewest_12 : decode cX10_findsFewest 12 = .ok (.iconst 0, 1) := by decide +kernel
theorem dX10_findsFewest_13 : decode cX10_findsFewest 13 = .ok (.istore_n 3, 1) := by decide +kernel
theorem dX10_findsFewest_14 : decode cX10_findsFewest 14 = .ok (.iload_n 3, 1) := by decide +kernel
theorem dX10_findsFewest_15 : decode cX10_findsFewest 15 = .ok (.iload_n 2, 1) := by decide +kernel
theorem dX10_findsFewest_16 : decode cX10_findsFewest 16 = .ok (.if_icmp .ge 16, 3) := by decide +kernel
theorem dX10_findsFewest_19 : decode cX10_findsFewest 19 = .ok (.aload_n 0, 1) := by decide +kernel
theorem dX10_findsFewest_20 : decode cX10_findsFewest 20 = .ok (.getfield 101, 3) := by decide +kernel
theorem dX10_findsFewest_23 : decode cX10_findsFewest 23 = .ok (.iload_n 3, 1) := by decide +kernel
theorem dX10_findsFewest_24 : decode cX10_findsFewest 24 = .ok (.iconst 0, 1) := by decide +kernel
theorem dX10_findsFewest_25 : decode cX10_findsFewest 25 = .ok (.iastore, 1) := by decide +kernel
theorem dX10_findsFewest_26 : decode cX10_findsFewest 26 = .ok (.iinc 3 1, 3) := by decide +kernel
theorem dX10_findsFewest_29 : decode cX10_findsFewest 29 = .ok (.goto (-15), 3) := by decide +kernel
theorem dX10_findsFewest_32 : decode cX10_findsFewest 32 = .ok (.iconst 1, 1) := by decide +kernel
theorem dX10_findsFewest_33 : decode cX10_findsFewest 33 = .ok (.istore_n 3, 1) := by decide +kernel
theorem dX10_findsFewest_34 : decode cX10_findsFewest 34 = .ok (.iload_n 3, 1) := by decide +kernel
theorem dX10_findsFewest_35 : decode cX10_findsFewest 35 = .ok (.ifCond .eq 29, 3) := by decide +kernel
theorem dX10_findsFewest_38 : decode cX10_findsFewest 38 = .ok (.aload_n 0, 1) := by decide +kernel
theorem dX10_findsFewest_39 : decode cX10_findsFewest 39 = .ok (.iload_n 1, 1) := by decide +kernel
theorem dX10_findsFewest_40 : decode cX10_findsFewest 40 = .ok (.iload_n 2, 1) := by decide +kernel
theorem dX10_findsFewest_41 : decode cX10_findsFewest 41 = .ok (.invokevirtual 365, 3) := by decide +kernel
theorem dX10_findsFewest_44 : decode cX10_findsFewest 44 = .ok (.ifCond .eq 5, 3) := by decide +kernel
theorem dX10_findsFewest_47 : decode cX10_findsFewest 47 = .ok (.iload_n 2, 1) := by decide +kernel
theorem dX10_findsFewest_48 : decode cX10_findsFewest 48 = .ok (.ireturn, 1) := by decide +kernel
theorem dX10_findsFewest_49 : decode cX10_findsFewest 49 = .ok (.aload_n 0, 1) := by decide +kernel
theorem dX10_findsFewest_50 : decode cX10_findsFewest 50 = .ok (.iload_n 2, 1) := by decide +kernel
theorem dX10_findsFewest_51 : decode cX10_findsFewest 51 = .ok (.aload_n 0, 1) := by decide +kernel
theorem dX10_findsFewest_52 : decode cX10_findsFewest 52 = .ok (.getfield 13, 3) := by decide +kernel
theorem dX10_findsFewest_55 : decode cX10_findsFewest 55 = .ok (.iload_n 1, 1) := by decide +kernel
theorem dX10_findsFewest_56 : decode cX10_findsFewest 56 = .ok (.iaload, 1) := by decide +kernel
theorem dX10_findsFewest_57 : decode cX10_findsFewest 57 = .ok (.invokevirtual 368, 3) := by decide +kernel
theorem dX10_findsFewest_60 : decode cX10_findsFewest 60 = .ok (.istore_n 3, 1) := by decide +kernel
theorem dX10_findsFewest_61 : decode cX10_findsFewest 61 = .ok (.goto (-27), 3) := by decide +kernel
theorem dX10_findsFewest_64 : decode cX10_findsFewest 64 = .ok (.iinc 2 1, 3) := by decide +kernel
theorem dX10_findsFewest_67 : decode cX10_findsFewest 67 = .ok (.goto (-60), 3) := by decide +kernel
theorem dX10_findsFewest_70 : decode cX10_findsFewest 70 = .ok (.iconst (-1), 1) := by decide +kernel
theorem dX10_findsFewest_71 : decode cX10_findsFewest 71 = .ok (.ireturn, 1) := by decide +kernel
theorem dX10_fewest_0 : decode cX10_fewest 0 = .ok (.aload_n 0, 1) := by decide +kernel
theorem dX10_fewest_1 : decode cX10_fewest 1 = .ok (.iconst 0, 1) := by decide +kernel
theorem dX10_fewest_2 : decode cX10_fewest 2 = .ok (.putfield 167, 3) := by decide +kernel
theorem dX10_fewest_5 : decode cX10_fewest 5 = .ok (.aload_n 0, 1) := by decide +kernel
theorem dX10_fewest_6 : decode cX10_fewest 6 = .ok (.iload_n 1, 1) := by decide +kernel
theorem dX10_fewest_7 : decode cX10_fewest 7 = .ok (.invokevirtual 173, 3) := by decide +kernel
theorem dX10_fewest_10 : decode cX10_fewest 10 = .ok (.ifCond .eq 24, 3) := by decide +kernel
theorem dX10_fewest_13 : decode cX10_fewest 13 = .ok (.aload_n 0, 1) := by decide +kernel
theorem dX10_fewest_14 : decode cX10_fewest 14 = .ok (.getfield 13, 3) := by decide +kernel
theorem dX10_fewest_17 : decode cX10_fewest 17 = .ok (.iload_n 1, 1) := by decide +kernel
theorem dX10_fewest_18 : decode cX10_fewest 18 = .ok (.iaload, 1) := by decide +kernel
theorem dX10_fewest_19 : decode cX10_fewest 19 = .ok (.bipush 8, 2) := by decide +kernel
theorem dX10_fewest_21 : decode cX10_fewest 21 = .ok (.if_icmp .gt 13, 3) := by decide +kernel
theorem dX10_fewest_24 : decode cX10_fewest 24 = .ok (.aload_n 0, 1) := by decide +kernel
theorem dX10_fewest_25 : decode cX10_fewest 25 = .ok (.iload_n 2, 1) := by decide +kernel
theorem dX10_fewest_26 : decode cX10_fewest 26 = .ok (.iconst 0, 1) := by decide +kernel
theorem dX10_fewest_27 : decode cX10_fewest 27 = .ok (.iconst 5, 1) := by decide +kernel
theorem dX10_fewest_28 : decode cX10_fewest 28 = .ok (.invokevirtual 177, 3) := by decide +kernel
theorem dX10_fewest_31 : decode cX10_fewest 31 = .ok (.ifCond .ne 5, 3) := by decide +kernel
theorem dX10_fewest_34 : decode cX10_fewest 34 = .ok (.iconst (-1), 1) := by decide +kernel
theorem dX10_fewest_35 : decode cX10_fewest 35 = .ok (.ireturn, 1) := by decide +kernel
theorem dX10_fewest_36 : decode cX10_fewest 36 = .ok (.aload_n 0, 1) := by decide +kernel
theorem dX10_fewest_37 : decode cX10_fewest 37 = .ok (.iload_n 1, 1) := by decide +kernel
theorem dX10_fewest_38 : decode cX10_fewest 38 = .ok (.invokevirtual 371, 3) := by decide +kernel
theorem dX10_fewest_41 : decode cX10_fewest 41 = .ok (.istore_n 3, 1) := by decide +kernel
theorem dX10_fewest_42 : decode cX10_fewest 42 = .ok (.iload_n 2, 1) := by decide +kernel
theorem dX10_fewest_43 : decode cX10_fewest 43 = .ok (.ifCond .eq 8, 3) := by decide +kernel
theorem dX10_fewest_46 : decode cX10_fewest 46 = .ok (.iload_n 3, 1) := by decide +kernel
theorem dX10_fewest_47 : decode cX10_fewest 47 = .ok (.iconst (-1), 1) := by decide +kernel
theorem dX10_fewest_48 : decode cX10_fewest 48 = .ok (.if_icmp .ne 5, 3) := by decide +kernel
theorem dX10_fewest_51 : decode cX10_fewest 51 = .ok (.iload_n 3, 1) := by decide +kernel
theorem dX10_fewest_52 : decode cX10_fewest 52 = .ok (.ireturn, 1) := by decide +kernel
theorem dX10_fewest_53 : decode cX10_fewest 53 = .ok (.iload_n 2, 1) := by decide +kernel
theorem dX10_fewest_54 : decode cX10_fewest 54 = .ok (.iload_n 3, 1) := by decide +kernel
theorem dX10_fewest_55 : decode cX10_fewest 55 = .ok (.if_icmp .gt 14, 3) := by decide +kernel
theorem dX10_fewest_58 : decode cX10_fewest 58 = .ok (.aload_n 0, 1) := by decide +kernel
theorem dX10_fewest_59 : decode cX10_fewest 59 = .ok (.getfield 101, 3) := by decide +kernel
theorem dX10_fewest_62 : decode cX10_fewest 62 = .ok (.iload_n 2, 1) := by decide +kernel
theorem dX10_fewest_63 : decode cX10_fewest 63 = .ok (.iconst 1, 1) := by decide +kernel
theorem dX10_fewest_64 : decode cX10_fewest 64 = .ok (.isub, 1) := by decide +kernel
theorem dX10_fewest_65 : decode cX10_fewest 65 = .ok (.iaload, 1) := by decide +kernel
theorem dX10_fewest_66 : decode cX10_fewest 66 = .ok (.goto 4, 3) := by decide +kernel
theorem dX10_fewest_69 : decode cX10_fewest 69 = .ok (.iconst (-1), 1) := by decide +kernel
theorem dX10_fewest_70 : decode cX10_fewest 70 = .ok (.ireturn, 1) := by decide +kernel
theorem dX10_tap_0 : decode cX10_tap 0 = .ok (.aload_n 0, 1) := by decide +kernel
theorem dX10_tap_1 : decode cX10_tap 1 = .ok (.iconst 0, 1) := by decide +kernel
theorem dX10_tap_2 : decode cX10_tap 2 = .ok (.putfield 167, 3) := by decide +kernel
theorem dX10_tap_5 : decode cX10_tap 5 = .ok (.aload_n 0, 1) := by decide +kernel
theorem dX10_tap_6 : decode cX10_tap 6 = .ok (.iload_n 1, 1) := by decide +kernel
theorem dX10_tap_7 : decode cX10_tap 7 = .ok (.invokevirtual 173, 3) := by decide +kernel
theorem dX10_tap_10 : decode cX10_tap 10 = .ok (.ifCond .eq 34, 3) := by decide +kernel
theorem dX10_tap_13 : decode cX10_tap 13 = .ok (.aload_n 0, 1) := by decide +kernel
theorem dX10_tap_14 : decode cX10_tap 14 = .ok (.iload_n 2, 1) := by decide +kernel
theorem dX10_tap_15 : decode cX10_tap 15 = .ok (.invokevirtual 331, 3) := by decide +kernel
theorem dX10_tap_18 : decode cX10_tap 18 = .ok (.ifCond .eq 26, 3) := by decide +kernel
theorem dX10_tap_21 : decode cX10_tap 21 = .ok (.aload_n 0, 1) := by decide +kernel
theorem dX10_tap_22 : decode cX10_tap 22 = .ok (.iload_n 3, 1) := by decide +kernel
theorem dX10_tap_23 : decode cX10_tap 23 = .ok (.iconst 0, 1) := by decide +kernel
theorem dX10_tap_24 : decode cX10_tap 24 = .ok (.ldc_w 374, 3) := by decide +kernel
theorem dX10_tap_27 : decode cX10_tap 27 = .ok (.invokevirtual 177, 3) := by decide +kernel
theorem dX10_tap_30 : decode cX10_tap 30 = .ok (.ifCond .eq 14, 3) := by decide +kernel
theorem dX10_tap_33 : decode cX10_tap 33 = .ok (.aload_n 0, 1) := by decide +kernel
theorem dX10_tap_34 : decode cX10_tap 34 = .ok (.getfield 116, 3) := by decide +kernel
theorem dX10_tap_37 : decode cX10_tap 37 = .ok (.iload_n 1, 1) := by decide +kernel
theorem dX10_tap_38 : decode cX10_tap 38 = .ok (.iaload, 1) := by decide +kernel
theorem dX10_tap_39 : decode cX10_tap 39 = .ok (.bipush 12, 2) := by decide +kernel
theorem dX10_tap_41 : decode cX10_tap 41 = .ok (.if_icmp .ne 5, 3) := by decide +kernel
theorem dX10_tap_44 : decode cX10_tap 44 = .ok (.iconst (-1), 1) := by decide +kernel
theorem dX10_tap_45 : decode cX10_tap 45 = .ok (.ireturn, 1) := by decide +kernel
theorem dX10_tap_46 : decode cX10_tap 46 = .ok (.bipush 12, 2) := by decide +kernel
theorem dX10_tap_48 : decode cX10_tap 48 = .ok (.iload_n 1, 1) := by decide +kernel
theorem dX10_tap_49 : decode cX10_tap 49 = .ok (.imul, 1) := by decide +kernel
theorem dX10_tap_50 : decode cX10_tap 50 = .ok (.aload_n 0, 1) := by decide +kernel
theorem dX10_tap_51 : decode cX10_tap 51 = .ok (.getfield 116, 3) := by decide +kernel
theorem dX10_tap_54 : decode cX10_tap 54 = .ok (.iload_n 1, 1) := by decide +kernel
theorem dX10_tap_55 : decode cX10_tap 55 = .ok (.iaload, 1) := by decide +kernel
theorem dX10_tap_56 : decode cX10_tap 56 = .ok (.iadd, 1) := by decide +kernel
theorem dX10_tap_57 : decode cX10_tap 57 = .ok (.istore 4, 2) := by decide +kernel
theorem dX10_tap_59 : decode cX10_tap 59 = .ok (.aload_n 0, 1) := by decide +kernel
theorem dX10_tap_60 : decode cX10_tap 60 = .ok (.getfield 119, 3) := by decide +kernel
theorem dX10_tap_63 : decode cX10_tap 63 = .ok (.iload 4, 2) := by decide +kernel
theorem dX10_tap_65 : decode cX10_tap 65 = .ok (.iload_n 2, 1) := by decide +kernel
theorem dX10_tap_66 : decode cX10_tap 66 = .ok (.iastore, 1) := by decide +kernel
theorem dX10_tap_67 : decode cX10_tap 67 = .ok (.aload_n 0, 1) := by decide +kernel
theorem dX10_tap_68 : decode cX10_tap 68 = .ok (.getfield 122, 3) := by decide +kernel
theorem dX10_tap_71 : decode cX10_tap 71 = .ok (.iload 4, 2) := by decide +kernel
theorem dX10_tap_73 : decode cX10_tap 73 = .ok (.iload_n 3, 1) := by decide +kernel
theorem dX10_tap_74 : decode cX10_tap 74 = .ok (.iastore, 1) := by decide +kernel
theorem dX10_tap_75 : decode cX10_tap 75 = .ok (.iconst 0, 1) := by decide +kernel
theorem dX10_tap_76 : decode cX10_tap 76 = .ok (.istore 5, 2) := by decide +kernel
theorem dX10_tap_78 : decode cX10_tap 78 = .ok (.iload 5, 2) := by decide +kernel
theorem dX10_tap_80 : decode cX10_tap 80 = .ok (.bipush 16, 2) := by decide +kernel
theorem dX10_tap_82 : decode cX10_tap 82 = .ok (.if_icmp .ge 59, 3) := by decide +kernel
theorem dX10_tap_85 : decode cX10_tap 85 = .ok (.aload_n 0, 1) := by decide +kernel
theorem dX10_tap_86 : decode cX10_tap 86 = .ok (.getfield 125, 3) := by decide +kernel
theorem dX10_tap_89 : decode cX10_tap 89 = .ok (.bipush 16, 2) := by decide +kernel
theorem dX10_tap_91 : decode cX10_tap 91 = .ok (.iload 4, 2) := by decide +kernel
theorem dX10_tap_93 : decode cX10_tap 93 = .ok (.imul, 1) := by decide +kernel
theorem dX10_tap_94 : decode cX10_tap 94 = .ok (.iload 5, 2) := by decide +kernel
theorem dX10_tap_96 : decode cX10_tap 96 = .ok (.iadd, 1) := by decide +kernel
theorem dX10_tap_97 : decode cX10_tap 97 = .ok (.aload_n 0, 1) := by decide +kernel
theorem dX10_tap_98 : decode cX10_tap 98 = .ok (.getfield 17, 3) := by decide +kernel
theorem dX10_tap_101 : decode cX10_tap 101 = .ok (.bipush 16, 2) := by decide +kernel
theorem dX10_tap_103 : decode cX10_tap 103 = .ok (.iload_n 1, 1) := by decide +kernel
theorem dX10_tap_104 : decode cX10_tap 104 = .ok (.imul, 1) := by decide +kernel
theorem dX10_tap_105 : decode cX10_tap 105 = .ok (.iload 5, 2) := by decide +kernel
theorem dX10_tap_107 : decode cX10_tap 107 = .ok (.iadd, 1) := by decide +kernel
theorem dX10_tap_108 : decode cX10_tap 108 = .ok (.iaload, 1) := by decide +kernel
theorem dX10_tap_109 : decode cX10_tap 109 = .ok (.iastore, 1) := by decide +kernel
theorem dX10_tap_110 : decode cX10_tap 110 = .ok (.aload_n 0, 1) := by decide +kernel
theorem dX10_tap_111 : decode cX10_tap 111 = .ok (.getfield 128, 3) := by decide +kernel
theorem dX10_tap_114 : decode cX10_tap 114 = .ok (.bipush 16, 2) := by decide +kernel
theorem dX10_tap_116 : decode cX10_tap 116 = .ok (.iload 4, 2) := by decide +kernel
theorem dX10_tap_118 : decode cX10_tap 118 = .ok (.imul, 1) := by decide +kernel
theorem dX10_tap_119 : decode cX10_tap 119 = .ok (.iload 5, 2) := by decide +kernel
theorem dX10_tap_121 : decode cX10_tap 121 = .ok (.iadd, 1) := by decide +kernel
theorem dX10_tap_122 : decode cX10_tap 122 = .ok (.aload_n 0, 1) := by decide +kernel
theorem dX10_tap_123 : decode cX10_tap 123 = .ok (.getfield 26, 3) := by decide +kernel
theorem dX10_tap_126 : decode cX10_tap 126 = .ok (.bipush 16, 2) := by decide +kernel
theorem dX10_tap_128 : decode cX10_tap 128 = .ok (.iload_n 1, 1) := by decide +kernel
theorem dX10_tap_129 : decode cX10_tap 129 = .ok (.imul, 1) := by decide +kernel
theorem dX10_tap_130 : decode cX10_tap 130 = .ok (.iload 5, 2) := by decide +kernel
theorem dX10_tap_132 : decode cX10_tap 132 = .ok (.iadd, 1) := by decide +kernel
theorem dX10_tap_133 : decode cX10_tap 133 = .ok (.iaload, 1) := by decide +kernel
theorem dX10_tap_134 : decode cX10_tap 134 = .ok (.iastore, 1) := by decide +kernel
theorem dX10_tap_135 : decode cX10_tap 135 = .ok (.iinc 5 1, 3) := by decide +kernel
theorem dX10_tap_138 : decode cX10_tap 138 = .ok (.goto (-60), 3) := by decide +kernel
theorem dX10_tap_141 : decode cX10_tap 141 = .ok (.aload_n 0, 1) := by decide +kernel
theorem dX10_tap_142 : decode cX10_tap 142 = .ok (.getfield 116, 3) := by decide +kernel
theorem dX10_tap_145 : decode cX10_tap 145 = .ok (.iload_n 1, 1) := by decide +kernel
theorem dX10_tap_146 : decode cX10_tap 146 = .ok (.aload_n 0, 1) := by decide +kernel
theorem dX10_tap_147 : decode cX10_tap 147 = .ok (.getfield 116, 3) := by decide +kernel
theorem dX10_tap_150 : decode cX10_tap 150 = .ok (.iload_n 1, 1) := by decide +kernel
theorem dX10_tap_151 : decode cX10_tap 151 = .ok (.iaload, 1) := by decide +kernel
theorem dX10_tap_152 : decode cX10_tap 152 = .ok (.iconst 1, 1) := by decide +kernel
theorem dX10_tap_153 : decode cX10_tap 153 = .ok (.iadd, 1) := by decide +kernel
theorem dX10_tap_154 : decode cX10_tap 154 = .ok (.iastore, 1) := by decide +kernel
theorem dX10_tap_155 : decode cX10_tap 155 = .ok (.aload_n 0, 1) := by decide +kernel
theorem dX10_tap_156 : decode cX10_tap 156 = .ok (.getfield 116, 3) := by decide +kernel
theorem dX10_tap_159 : decode cX10_tap 159 = .ok (.iload_n 1, 1) := by decide +kernel
theorem dX10_tap_160 : decode cX10_tap 160 = .ok (.iaload, 1) := by decide +kernel
theorem dX10_tap_161 : decode cX10_tap 161 = .ok (.ireturn, 1) := by decide +kernel
theorem dX10_toneOf_0 : decode cX10_toneOf 0 = .ok (.iconst 0, 1) := by decide +kernel
theorem dX10_toneOf_1 : decode cX10_toneOf 1 = .ok (.istore 4, 2) := by decide +kernel
theorem dX10_toneOf_3 : decode cX10_toneOf 3 = .ok (.iconst 0, 1) := by decide +kernel
theorem dX10_toneOf_4 : decode cX10_toneOf 4 = .ok (.istore 5, 2) := by decide +kernel
theorem dX10_toneOf_6 : decode cX10_toneOf 6 = .ok (.iconst 0, 1) := by decide +kernel
theorem dX10_toneOf_7 : decode cX10_toneOf 7 = .ok (.istore 6, 2) := by decide +kernel
theorem dX10_toneOf_9 : decode cX10_toneOf 9 = .ok (.iload 6, 2) := by decide +kernel
theorem dX10_toneOf_11 : decode cX10_toneOf 11 = .ok (.aload_n 0, 1) := by decide +kernel
theorem dX10_toneOf_12 : decode cX10_toneOf 12 = .ok (.getfield 13, 3) := by decide +kernel
theorem dX10_toneOf_15 : decode cX10_toneOf 15 = .ok (.iload_n 2, 1) := by decide +kernel
theorem dX10_toneOf_16 : decode cX10_toneOf 16 = .ok (.iaload, 1) := by decide +kernel
theorem dX10_toneOf_17 : decode cX10_toneOf 17 = .ok (.if_icmp .ge 103, 3) := by decide +kernel
theorem dX10_toneOf_20 : decode cX10_toneOf 20 = .ok (.aload_n 0, 1) := by decide +kernel
theorem dX10_toneOf_21 : decode cX10_toneOf 21 = .ok (.aload_n 0, 1) := by decide +kernel
theorem dX10_toneOf_22 : decode cX10_toneOf 22 = .ok (.getfield 13, 3) := by decide +kernel
theorem dX10_toneOf_25 : decode cX10_toneOf 25 = .ok (.iload_n 2, 1) := by decide +kernel
theorem dX10_toneOf_26 : decode cX10_toneOf 26 = .ok (.iaload, 1) := by decide +kernel
theorem dX10_toneOf_27 : decode cX10_toneOf 27 = .ok (.iload 6, 2) := by decide +kernel
theorem dX10_toneOf_29 : decode cX10_toneOf 29 = .ok (.aload_n 0, 1) := by decide +kernel
theorem dX10_toneOf_30 : decode cX10_toneOf 30 = .ok (.getfield 125, 3) := by decide +kernel
theorem dX10_toneOf_33 : decode cX10_toneOf 33 = .ok (.bipush 16, 2) := by decide +kernel
theorem dX10_toneOf_35 : decode cX10_toneOf 35 = .ok (.iload_n 3, 1) := by decide +kernel
theorem dX10_toneOf_36 : decode cX10_toneOf 36 = .ok (.imul, 1) := by decide +kernel
theorem dX10_toneOf_37 : decode cX10_toneOf 37 = .ok (.iload 6, 2) := by decide +kernel
theorem dX10_toneOf_39 : decode cX10_toneOf 39 = .ok (.iadd, 1) := by decide +kernel
theorem dX10_toneOf_40 : decode cX10_toneOf 40 = .ok (.iaload, 1) := by decide +kernel
theorem dX10_toneOf_41 : decode cX10_toneOf 41 = .ok (.aload_n 0, 1) := by decide +kernel
theorem dX10_toneOf_42 : decode cX10_toneOf 42 = .ok (.getfield 20, 3) := by decide +kernel
theorem dX10_toneOf_45 : decode cX10_toneOf 45 = .ok (.bipush 16, 2) := by decide +kernel
theorem dX10_toneOf_47 : decode cX10_toneOf 47 = .ok (.iload_n 2, 1) := by decide +kernel
theorem dX10_toneOf_48 : decode cX10_toneOf 48 = .ok (.imul, 1) := by decide +kernel
theorem dX10_toneOf_49 : decode cX10_toneOf 49 = .ok (.iload 6, 2) := by decide +kernel
theorem dX10_toneOf_51 : decode cX10_toneOf 51 = .ok (.iadd, 1) := by decide +kernel
theorem dX10_toneOf_52 : decode cX10_toneOf 52 = .ok (.iaload, 1) := by decide +kernel
theorem dX10_toneOf_53 : decode cX10_toneOf 53 = .ok (.aload_n 0, 1) := by decide +kernel
theorem dX10_toneOf_54 : decode cX10_toneOf 54 = .ok (.getfield 23, 3) := by decide +kernel
theorem dX10_toneOf_57 : decode cX10_toneOf 57 = .ok (.bipush 16, 2) := by decide +kernel
theorem dX10_toneOf_59 : decode cX10_toneOf 59 = .ok (.iload_n 2, 1) := by decide +kernel
theorem dX10_toneOf_60 : decode cX10_toneOf 60 = .ok (.imul, 1) := by decide +kernel
theorem dX10_toneOf_61 : decode cX10_toneOf 61 = .ok (.iload 6, 2) := by decide +kernel
theorem dX10_toneOf_63 : decode cX10_toneOf 63 = .ok (.iadd, 1) := by decide +kernel
theorem dX10_toneOf_64 : decode cX10_toneOf 64 = .ok (.iaload, 1) := by decide +kernel
theorem dX10_toneOf_65 : decode cX10_toneOf 65 = .ok (.aload_n 0, 1) := by decide +kernel
theorem dX10_toneOf_66 : decode cX10_toneOf 66 = .ok (.getfield 128, 3) := by decide +kernel
theorem dX10_toneOf_69 : decode cX10_toneOf 69 = .ok (.bipush 16, 2) := by decide +kernel
theorem dX10_toneOf_71 : decode cX10_toneOf 71 = .ok (.iload_n 3, 1) := by decide +kernel
theorem dX10_toneOf_72 : decode cX10_toneOf 72 = .ok (.imul, 1) := by decide +kernel
theorem dX10_toneOf_73 : decode cX10_toneOf 73 = .ok (.iload 6, 2) := by decide +kernel
theorem dX10_toneOf_75 : decode cX10_toneOf 75 = .ok (.iadd, 1) := by decide +kernel
theorem dX10_toneOf_76 : decode cX10_toneOf 76 = .ok (.iaload, 1) := by decide +kernel
theorem dX10_toneOf_77 : decode cX10_toneOf 77 = .ok (.invokevirtual 312, 3) := by decide +kernel
theorem dX10_toneOf_80 : decode cX10_toneOf 80 = .ok (.iload 4, 2) := by decide +kernel
theorem dX10_toneOf_82 : decode cX10_toneOf 82 = .ok (.aload_n 0, 1) := by decide +kernel
theorem dX10_toneOf_83 : decode cX10_toneOf 83 = .ok (.iload_n 1, 1) := by decide +kernel
theorem dX10_toneOf_84 : decode cX10_toneOf 84 = .ok (.iconst 0, 1) := by decide +kernel
theorem dX10_toneOf_85 : decode cX10_toneOf 85 = .ok (.aload_n 0, 1) := by decide +kernel
theorem dX10_toneOf_86 : decode cX10_toneOf 86 = .ok (.getfield 119, 3) := by decide +kernel
theorem dX10_toneOf_89 : decode cX10_toneOf 89 = .ok (.iload_n 3, 1) := by decide +kernel
theorem dX10_toneOf_90 : decode cX10_toneOf 90 = .ok (.iaload, 1) := by decide +kernel
theorem dX10_toneOf_91 : decode cX10_toneOf 91 = .ok (.invokevirtual 319, 3) := by decide +kernel
theorem dX10_toneOf_94 : decode cX10_toneOf 94 = .ok (.iadd, 1) := by decide +kernel
theorem dX10_toneOf_95 : decode cX10_toneOf 95 = .ok (.istore 4, 2) := by decide +kernel
theorem dX10_toneOf_97 : decode cX10_toneOf 97 = .ok (.iload 5, 2) := by decide +kernel
theorem dX10_toneOf_99 : decode cX10_toneOf 99 = .ok (.aload_n 0, 1) := by decide +kernel
theorem dX10_toneOf_100 : decode cX10_toneOf 100 = .ok (.iload_n 1, 1) := by decide +kernel
theorem dX10_toneOf_101 : decode cX10_toneOf 101 = .ok (.iconst 1, 1) := by decide +kernel
theorem dX10_toneOf_102 : decode cX10_toneOf 102 = .ok (.aload_n 0, 1) := by decide +kernel
theorem dX10_toneOf_103 : decode cX10_toneOf 103 = .ok (.getfield 119, 3) := by decide +kernel
theorem dX10_toneOf_106 : decode cX10_toneOf 106 = .ok (.iload_n 3, 1) := by decide +kernel
theorem dX10_toneOf_107 : decode cX10_toneOf 107 = .ok (.iaload, 1) := by decide +kernel
theorem dX10_toneOf_108 : decode cX10_toneOf 108 = .ok (.invokevirtual 319, 3) := by decide +kernel
theorem dX10_toneOf_111 : decode cX10_toneOf 111 = .ok (.iadd, 1) := by decide +kernel
theorem dX10_toneOf_112 : decode cX10_toneOf 112 = .ok (.istore 5, 2) := by decide +kernel
theorem dX10_toneOf_114 : decode cX10_toneOf 114 = .ok (.iinc 6 1, 3) := by decide +kernel
theorem dX10_toneOf_117 : decode cX10_toneOf 117 = .ok (.goto (-108), 3) := by decide +kernel
theorem dX10_toneOf_120 : decode cX10_toneOf 120 = .ok (.iload 5, 2) := by decide +kernel
theorem dX10_toneOf_122 : decode cX10_toneOf 122 = .ok (.ifCond .ne 7, 3) := by decide +kernel
theorem dX10_toneOf_125 : decode cX10_toneOf 125 = .ok (.iconst 0, 1) := by decide +kernel
theorem dX10_toneOf_126 : decode cX10_toneOf 126 = .ok (.goto 12, 3) := by decide +kernel
theorem dX10_toneOf_129 : decode cX10_toneOf 129 = .ok (.sipush 1000, 3) := by decide +kernel
theorem dX10_toneOf_132 : decode cX10_toneOf 132 = .ok (.iload 4, 2) := by decide +kernel
theorem dX10_toneOf_134 : decode cX10_toneOf 134 = .ok (.imul, 1) := by decide +kernel
theorem dX10_toneOf_135 : decode cX10_toneOf 135 = .ok (.iload 5, 2) := by decide +kernel
theorem dX10_toneOf_137 : decode cX10_toneOf 137 = .ok (.idiv, 1) := by decide +kernel
theorem dX10_toneOf_138 : decode cX10_toneOf 138 = .ok (.ireturn, 1) := by decide +kernel
theorem dX10_fitsAll_0 : decode cX10_fitsAll 0 = .ok (.bipush 12, 2) := by decide +kernel
theorem dX10_fitsAll_2 : decode cX10_fitsAll 2 = .ok (.iload_n 1, 1) := by decide +kernel
theorem dX10_fitsAll_3 : decode cX10_fitsAll 3 = .ok (.imul, 1) := by decide +kernel
theorem dX10_fitsAll_4 : decode cX10_fitsAll 4 = .ok (.istore_n 3, 1) := by decide +kernel
theorem dX10_fitsAll_5 : decode cX10_fitsAll 5 = .ok (.iload_n 3, 1) := by decide +kernel
theorem dX10_fitsAll_6 : decode cX10_fitsAll 6 = .ok (.bipush 12, 2) := by decide +kernel
theorem dX10_fitsAll_8 : decode cX10_fitsAll 8 = .ok (.iload_n 1, 1) := by decide +kernel
theorem dX10_fitsAll_9 : decode cX10_fitsAll 9 = .ok (.imul, 1) := by decide +kernel
theorem dX10_fitsAll_10 : decode cX10_fitsAll 10 = .ok (.aload_n 0, 1) := by decide +kernel
theorem dX10_fitsAll_11 : decode cX10_fitsAll 11 = .ok (.getfield 116, 3) := by decide +kernel
theorem dX10_fitsAll_14 : decode cX10_fitsAll 14 = .ok (.iload_n 1, 1) := by decide +kernel
theorem dX10_fitsAll_15 : decode cX10_fitsAll 15 = .ok (.iaload, 1) := by decide +kernel
theorem dX10_fitsAll_16 : decode cX10_fitsAll 16 = .ok (.iadd, 1) := by decide +kernel
theorem dX10_fitsAll_17 : decode cX10_fitsAll 17 = .ok (.if_icmp .ge 36, 3) := by decide +kernel
theorem dX10_fitsAll_20 : decode cX10_fitsAll 20 = .ok (.aload_n 0, 1) := by decide +kernel
theorem dX10_fitsAll_21 : decode cX10_fitsAll 21 = .ok (.aload_n 0, 1) := by decide +kernel
theorem dX10_fitsAll_22 : decode cX10_fitsAll 22 = .ok (.aload_n 0, 1) := by decide +kernel
theorem dX10_fitsAll_23 : decode cX10_fitsAll 23 = .ok (.getfield 322, 3) := by decide +kernel
theorem dX10_fitsAll_26 : decode cX10_fitsAll 26 = .ok (.iload_n 1, 1) := by decide +kernel
theorem dX10_fitsAll_27 : decode cX10_fitsAll 27 = .ok (.iload_n 3, 1) := by decide +kernel
theorem dX10_fitsAll_28 : decode cX10_fitsAll 28 = .ok (.invokevirtual 375, 3) := by decide +kernel
theorem dX10_fitsAll_31 : decode cX10_fitsAll 31 = .ok (.aload_n 0, 1) := by decide +kernel
theorem dX10_fitsAll_32 : decode cX10_fitsAll 32 = .ok (.getfield 122, 3) := by decide +kernel
theorem dX10_fitsAll_35 : decode cX10_fitsAll 35 = .ok (.iload_n 3, 1) := by decide +kernel
theorem dX10_fitsAll_36 : decode cX10_fitsAll 36 = .ok (.iaload, 1) := by decide +kernel
theorem dX10_fitsAll_37 : decode cX10_fitsAll 37 = .ok (.isub, 1) := by decide +kernel
theorem dX10_fitsAll_38 : decode cX10_fitsAll 38 = .ok (.invokevirtual 309, 3) := by decide +kernel
theorem dX10_fitsAll_41 : decode cX10_fitsAll 41 = .ok (.iload_n 2, 1) := by decide +kernel
theorem dX10_fitsAll_42 : decode cX10_fitsAll 42 = .ok (.if_icmp .le 5, 3) := by decide +kernel
theorem dX10_fitsAll_45 : decode cX10_fitsAll 45 = .ok (.iconst 0, 1) := by decide +kernel
theorem dX10_fitsAll_46 : decode cX10_fitsAll 46 = .ok (.ireturn, 1) := by decide +kernel
theorem dX10_fitsAll_47 : decode cX10_fitsAll 47 = .ok (.iinc 3 1, 3) := by decide +kernel
theorem dX10_fitsAll_50 : decode cX10_fitsAll 50 = .ok (.goto (-45), 3) := by decide +kernel
theorem dX10_fitsAll_53 : decode cX10_fitsAll 53 = .ok (.iconst 1, 1) := by decide +kernel
theorem dX10_fitsAll_54 : decode cX10_fitsAll 54 = .ok (.ireturn, 1) := by decide +kernel
theorem dX10_findsFits_0 : decode cX10_findsFits 0 = .ok (.aload_n 0, 1) := by decide +kernel
theorem dX10_findsFits_1 : decode cX10_findsFits 1 = .ok (.getfield 13, 3) := by decide +kernel
theorem dX10_findsFits_4 : decode cX10_findsFits 4 = .ok (.iload_n 1, 1) := by decide +kernel
theorem dX10_findsFits_5 : decode cX10_findsFits 5 = .ok (.iaload, 1) := by decide +kernel
theorem dX10_findsFits_6 : decode cX10_findsFits 6 = .ok (.istore 4, 2) := by decide +kernel
theorem dX10_findsFits_8 : decode cX10_findsFits 8 = .ok (.iconst 0, 1) := by decide +kernel
theorem dX10_findsFits_9 : decode cX10_findsFits 9 = .ok (.istore 5, 2) := by decide +kernel
theorem dX10_findsFits_11 : decode cX10_findsFits 11 = .ok (.iload 5, 2) := by decide +kernel
theorem dX10_findsFits_13 : decode cX10_findsFits 13 = .ok (.iload 4, 2) := by decide +kernel
theorem dX10_findsFits_15 : decode cX10_findsFits 15 = .ok (.if_icmp .ge 36, 3) := by decide +kernel
theorem dX10_findsFits_18 : decode cX10_findsFits 18 = .ok (.aload_n 0, 1) := by decide +kernel
theorem dX10_findsFits_19 : decode cX10_findsFits 19 = .ok (.getfield 131, 3) := by decide +kernel
theorem dX10_findsFits_22 : decode cX10_findsFits 22 = .ok (.iload 5, 2) := by decide +kernel
theorem dX10_findsFits_24 : decode cX10_findsFits 24 = .ok (.aload_n 0, 1) := by decide +kernel
theorem dX10_findsFits_25 : decode cX10_findsFits 25 = .ok (.getfield 20, 3) := by decide +kernel
theorem dX10_findsFits_28 : decode cX10_findsFits 28 = .ok (.bipush 16, 2) := by decide +kernel
theorem dX10_findsFits_30 : decode cX10_findsFits 30 = .ok (.iload_n 1, 1) := by decide +kernel
theorem dX10_findsFits_31 : decode cX10_findsFits 31 = .ok (.imul, 1) := by decide +kernel
theorem dX10_findsFits_32 : decode cX10_findsFits 32 = .ok (.iload 5, 2) := by decide +kernel
theorem dX10_findsFits_34 : decode cX10_findsFits 34 = .ok (.iadd, 1) := by decide +kernel
theorem dX10_findsFits_35 : decode cX10_findsFits 35 = .ok (.iaload, 1) := by decide +kernel
theorem dX10_findsFits_36 : decode cX10_findsFits 36 = .ok (.iastore, 1) := by decide +kernel
theorem dX10_findsFits_37 : decode cX10_findsFits 37 = .ok (.aload_n 0, 1) := by decide +kernel
theorem dX10_findsFits_38 : decode cX10_findsFits 38 = .ok (.getfield 101, 3) := by decide +kernel
theorem dX10_findsFits_41 : decode cX10_findsFits 41 = .ok (.iload 5, 2) := by decide +kernel
theorem dX10_findsFits_43 : decode cX10_findsFits 43 = .ok (.iconst 0, 1) := by decide +kernel
theorem dX10_findsFits_44 : decode cX10_findsFits 44 = .ok (.iastore, 1) := by decide +kernel
theorem dX10_findsFits_45 : decode cX10_findsFits 45 = .ok (.iinc 5 1, 3) := by decide +kernel
theorem dX10_findsFits_48 : decode cX10_findsFits 48 = .ok (.goto (-37), 3) := by decide +kernel
theorem dX10_findsFits_51 : decode cX10_findsFits 51 = .ok (.aload_n 0, 1) := by decide +kernel
theorem dX10_findsFits_52 : decode cX10_findsFits 52 = .ok (.iconst 0, 1) := by decide +kernel
theorem dX10_findsFits_53 : decode cX10_findsFits 53 = .ok (.putfield 378, 3) := by decide +kernel
theorem dX10_findsFits_56 : decode cX10_findsFits 56 = .ok (.iconst 1, 1) := by decide +kernel
theorem dX10_findsFits_57 : decode cX10_findsFits 57 = .ok (.istore 5, 2) := by decide +kernel
theorem dX10_findsFits_59 : decode cX10_findsFits 59 = .ok (.iload 5, 2) := by decide +kernel
theorem dX10_findsFits_61 : decode cX10_findsFits 61 = .ok (.ifCond .eq 110, 3) := by decide +kernel
theorem dX10_findsFits_64 : decode cX10_findsFits 64 = .ok (.iconst 0, 1) := by decide +kernel
theorem dX10_findsFits_65 : decode cX10_findsFits 65 = .ok (.istore 6, 2) := by decide +kernel
theorem dX10_findsFits_67 : decode cX10_findsFits 67 = .ok (.iload 6, 2) := by decide +kernel
theorem dX10_findsFits_69 : decode cX10_findsFits 69 = .ok (.iload 4, 2) := by decide +kernel
theorem dX10_findsFits_71 : decode cX10_findsFits 71 = .ok (.if_icmp .ge 30, 3) := by decide +kernel
theorem dX10_findsFits_74 : decode cX10_findsFits 74 = .ok (.aload_n 0, 1) := by decide +kernel
theorem dX10_findsFits_75 : decode cX10_findsFits 75 = .ok (.getfield 20, 3) := by decide +kernel
theorem dX10_findsFits_78 : decode cX10_findsFits 78 = .ok (.bipush 16, 2) := by decide +kernel
theorem dX10_findsFits_80 : decode cX10_findsFits 80 = .ok (.iload_n 1, 1) := by decide +kernel
theorem dX10_findsFits_81 : decode cX10_findsFits 81 = .ok (.imul, 1) := by decide +kernel
theorem dX10_findsFits_82 : decode cX10_findsFits 82 = .ok (.iload 6, 2) := by decide +kernel
theorem dX10_findsFits_84 : decode cX10_findsFits 84 = .ok (.iadd, 1) := by decide +kernel
theorem dX10_findsFits_85 : decode cX10_findsFits 85 = .ok (.aload_n 0, 1) := by decide +kernel
theorem dX10_findsFits_86 : decode cX10_findsFits 86 = .ok (.getfield 101, 3) := by decide +kernel
theorem dX10_findsFits_89 : decode cX10_findsFits 89 = .ok (.iload 6, 2) := by decide +kernel
theorem dX10_findsFits_91 : decode cX10_findsFits 91 = .ok (.iaload, 1) := by decide +kernel
theorem dX10_findsFits_92 : decode cX10_findsFits 92 = .ok (.iconst 1, 1) := by decide +kernel
theorem dX10_findsFits_93 : decode cX10_findsFits 93 = .ok (.iadd, 1) := by decide +kernel
theorem dX10_findsFits_94 : decode cX10_findsFits 94 = .ok (.iastore, 1) := by decide +kernel
theorem dX10_findsFits_95 : decode cX10_findsFits 95 = .ok (.iinc 6 1, 3) := by decide +kernel
theorem dX10_findsFits_98 : decode cX10_findsFits 98 = .ok (.goto (-31), 3) := by decide +kernel
theorem dX10_findsFits_101 : decode cX10_findsFits 101 = .ok (.aload_n 0, 1) := by decide +kernel
theorem dX10_findsFits_102 : decode cX10_findsFits 102 = .ok (.iload_n 1, 1) := by decide +kernel
theorem dX10_findsFits_103 : decode cX10_findsFits 103 = .ok (.iload_n 3, 1) := by decide +kernel
theorem dX10_findsFits_104 : decode cX10_findsFits 104 = .ok (.invokevirtual 381, 3) := by decide +kernel
theorem dX10_findsFits_107 : decode cX10_findsFits 107 = .ok (.ifCond .eq 52, 3) := by decide +kernel
theorem dX10_findsFits_110 : decode cX10_findsFits 110 = .ok (.iconst 0, 1) := by decide +kernel
theorem dX10_findsFits_111 : decode cX10_findsFits 111 = .ok (.istore 6, 2) := by decide +kernel
theorem dX10_findsFits_113 : decode cX10_findsFits 113 = .ok (.iload 6, 2) := by decide +kernel
theorem dX10_findsFits_115 : decode cX10_findsFits 115 = .ok (.iload 4, 2) := by decide +kernel
theorem dX10_findsFits_117 : decode cX10_findsFits 117 = .ok (.if_icmp .ge 32, 3) := by decide +kernel
theorem dX10_findsFits_120 : decode cX10_findsFits 120 = .ok (.aload_n 0, 1) := by decide +kernel
theorem dX10_findsFits_121 : decode cX10_findsFits 121 = .ok (.getfield 134, 3) := by decide +kernel
theorem dX10_findsFits_124 : decode cX10_findsFits 124 = .ok (.iconst 5, 1) := by decide +kernel
theorem dX10_findsFits_125 : decode cX10_findsFits 125 = .ok (.aload_n 0, 1) := by decide +kernel
theorem dX10_findsFits_126 : decode cX10_findsFits 126 = .ok (.getfield 378, 3) := by decide +kernel
theorem dX10_findsFits_129 : decode cX10_findsFits 129 = .ok (.imul, 1) := by decide +kernel
theorem dX10_findsFits_130 : decode cX10_findsFits 130 = .ok (.iload 6, 2) := by decide +kernel
theorem dX10_findsFits_132 : decode cX10_findsFits 132 = .ok (.iadd, 1) := by decide +kernel
theorem dX10_findsFits_133 : decode cX10_findsFits 133 = .ok (.aload_n 0, 1) := by decide +kernel
theorem dX10_findsFits_134 : decode cX10_findsFits 134 = .ok (.getfield 101, 3) := by decide +kernel
theorem dX10_findsFits_137 : decode cX10_findsFits 137 = .ok (.iload 6, 2) := by decide +kernel
theorem dX10_findsFits_139 : decode cX10_findsFits 139 = .ok (.iaload, 1) := by decide +kernel
theorem dX10_findsFits_140 : decode cX10_findsFits 140 = .ok (.iconst 1, 1) := by decide +kernel
theorem dX10_findsFits_141 : decode cX10_findsFits 141 = .ok (.iadd, 1) := by decide +kernel
theorem dX10_findsFits_142 : decode cX10_findsFits 142 = .ok (.iastore, 1) := by decide +kernel
theorem dX10_findsFits_143 : decode cX10_findsFits 143 = .ok (.iinc 6 1, 3) := by decide +kernel
theorem dX10_findsFits_146 : decode cX10_findsFits 146 = .ok (.goto (-33), 3) := by decide +kernel
theorem dX10_findsFits_149 : decode cX10_findsFits 149 = .ok (.aload_n 0, 1) := by decide +kernel
theorem dX10_findsFits_150 : decode cX10_findsFits 150 = .ok (.aload_n 0, 1) := by decide +kernel
theorem dX10_findsFits_151 : decode cX10_findsFits 151 = .ok (.getfield 378, 3) := by decide +kernel
theorem dX10_findsFits_154 : decode cX10_findsFits 154 = .ok (.iconst 1, 1) := by decide +kernel
theorem dX10_findsFits_155 : decode cX10_findsFits 155 = .ok (.iadd, 1) := by decide +kernel
theorem dX10_findsFits_156 : decode cX10_findsFits 156 = .ok (.putfield 378, 3) := by decide +kernel
theorem dX10_findsFits_159 : decode cX10_findsFits 159 = .ok (.aload_n 0, 1) := by decide +kernel
theorem dX10_findsFits_160 : decode cX10_findsFits 160 = .ok (.iload 4, 2) := by decide +kernel
theorem dX10_findsFits_162 : decode cX10_findsFits 162 = .ok (.iload_n 2, 1) := by decide +kernel
theorem dX10_findsFits_163 : decode cX10_findsFits 163 = .ok (.invokevirtual 368, 3) := by decide +kernel
theorem dX10_findsFits_166 : decode cX10_findsFits 166 = .ok (.istore 5, 2) := by decide +kernel
theorem dX10_findsFits_168 : decode cX10_findsFits 168 = .ok (.goto (-109), 3) := by decide +kernel
theorem dX10_findsFits_171 : decode cX10_findsFits 171 = .ok (.iconst 0, 1) := by decide +kernel
theorem dX10_findsFits_172 : decode cX10_findsFits 172 = .ok (.istore 6, 2) := by decide +kernel
theorem dX10_findsFits_174 : decode cX10_findsFits 174 = .ok (.iload 6, 2) := by decide +kernel
theorem dX10_findsFits_176 : decode cX10_findsFits 176 = .ok (.iload 4, 2) := by decide +kernel
theorem dX10_findsFits_178 : decode cX10_findsFits 178 = .ok (.if_icmp .ge 28, 3) := by decide +kernel
theorem dX10_findsFits_181 : decode cX10_findsFits 181 = .ok (.aload_n 0, 1) := by decide +kernel
theorem dX10_findsFits_182 : decode cX10_findsFits 182 = .ok (.getfield 20, 3) := by decide +kernel
theorem dX10_findsFits_185 : decode cX10_findsFits 185 = .ok (.bipush 16, 2) := by decide +kernel
theorem dX10_findsFits_187 : decode cX10_findsFits 187 = .ok (.iload_n 1, 1) := by decide +kernel
theorem dX10_findsFits_188 : decode cX10_findsFits 188 = .ok (.imul, 1) := by decide +kernel
theorem dX10_findsFits_189 : decode cX10_findsFits 189 = .ok (.iload 6, 2) := by decide +kernel
theorem dX10_findsFits_191 : decode cX10_findsFits 191 = .ok (.iadd, 1) := by decide +kernel
theorem dX10_findsFits_192 : decode cX10_findsFits 192 = .ok (.aload_n 0, 1) := by decide +kernel
theorem dX10_findsFits_193 : decode cX10_findsFits 193 = .ok (.getfield 131, 3) := by decide +kernel
theorem dX10_findsFits_196 : decode cX10_findsFits 196 = .ok (.iload 6, 2) := by decide +kernel
theorem dX10_findsFits_198 : decode cX10_findsFits 198 = .ok (.iaload, 1) := by decide +kernel
theorem dX10_findsFits_199 : decode cX10_findsFits 199 = .ok (.iastore, 1) := by decide +kernel
theorem dX10_findsFits_200 : decode cX10_findsFits 200 = .ok (.iinc 6 1, 3) := by decide +kernel
theorem dX10_findsFits_203 : decode cX10_findsFits 203 = .ok (.goto (-29), 3) := by decide +kernel
theorem dX10_findsFits_206 : decode cX10_findsFits 206 = .ok (.return_, 1) := by decide +kernel
theorem dX10_unlikeBy_0 : decode cX10_unlikeBy 0 = .ok (.iconst 0, 1) := by decide +kernel
theorem dX10_unlikeBy_1 : decode cX10_unlikeBy 1 = .ok (.istore_n 3, 1) := by decide +kernel
theorem dX10_unlikeBy_2 : decode cX10_unlikeBy 2 = .ok (.aload_n 0, 1) := by decide +kernel
theorem dX10_unlikeBy_3 : decode cX10_unlikeBy 3 = .ok (.getfield 13, 3) := by decide +kernel
theorem dX10_unlikeBy_6 : decode cX10_unlikeBy 6 = .ok (.iload_n 1, 1) := by decide +kernel
theorem dX10_unlikeBy_7 : decode cX10_unlikeBy 7 = .ok (.iaload, 1) := by decide +kernel
theorem dX10_unlikeBy_8 : decode cX10_unlikeBy 8 = .ok (.istore 4, 2) := by decide +kernel
theorem dX10_unlikeBy_10 : decode cX10_unlikeBy 10 = .ok (.aload_n 0, 1) := by decide +kernel
theorem dX10_unlikeBy_11 : decode cX10_unlikeBy 11 = .ok (.getfield 17, 3) := by decide +kernel
theorem dX10_unlikeBy_14 : decode cX10_unlikeBy 14 = .ok (.bipush 16, 2) := by decide +kernel
theorem dX10_unlikeBy_16 : decode cX10_unlikeBy 16 = .ok (.iload_n 1, 1) := by decide +kernel
theorem dX10_unlikeBy_17 : decode cX10_unlikeBy 17 = .ok (.imul, 1) := by decide +kernel
theorem dX10_unlikeBy_18 : decode cX10_unlikeBy 18 = .ok (.iload_n 2, 1) := by decide +kernel
theorem dX10_unlikeBy_19 : decode cX10_unlikeBy 19 = .ok (.iadd, 1) := by decide +kernel
theorem dX10_unlikeBy_20 : decode cX10_unlikeBy 20 = .ok (.aload_n 0, 1) := by decide +kernel
theorem dX10_unlikeBy_21 : decode cX10_unlikeBy 21 = .ok (.getfield 17, 3) := by decide +kernel
theorem dX10_unlikeBy_24 : decode cX10_unlikeBy 24 = .ok (.bipush 16, 2) := by decide +kernel
theorem dX10_unlikeBy_26 : decode cX10_unlikeBy 26 = .ok (.iload_n 1, 1) := by decide +kernel
theorem dX10_unlikeBy_27 : decode cX10_unlikeBy 27 = .ok (.imul, 1) := by decide +kernel
theorem dX10_unlikeBy_28 : decode cX10_unlikeBy 28 = .ok (.iload_n 2, 1) := by decide +kernel
theorem dX10_unlikeBy_29 : decode cX10_unlikeBy 29 = .ok (.iadd, 1) := by decide +kernel
theorem dX10_unlikeBy_30 : decode cX10_unlikeBy 30 = .ok (.iaload, 1) := by decide +kernel
theorem dX10_unlikeBy_31 : decode cX10_unlikeBy 31 = .ok (.iconst 1, 1) := by decide +kernel
theorem dX10_unlikeBy_32 : decode cX10_unlikeBy 32 = .ok (.isub, 1) := by decide +kernel
theorem dX10_unlikeBy_33 : decode cX10_unlikeBy 33 = .ok (.iastore, 1) := by decide +kernel
theorem dX10_unlikeBy_34 : decode cX10_unlikeBy 34 = .ok (.iconst 0, 1) := by decide +kernel
theorem dX10_unlikeBy_35 : decode cX10_unlikeBy 35 = .ok (.istore 5, 2) := by decide +kernel
theorem dX10_unlikeBy_37 : decode cX10_unlikeBy 37 = .ok (.iload 5, 2) := by decide +kernel
theorem dX10_unlikeBy_39 : decode cX10_unlikeBy 39 = .ok (.aload_n 0, 1) := by decide +kernel
theorem dX10_unlikeBy_40 : decode cX10_unlikeBy 40 = .ok (.getfield 378, 3) := by decide +kernel
theorem dX10_unlikeBy_43 : decode cX10_unlikeBy 43 = .ok (.if_icmp .ge 106, 3) := by decide +kernel
theorem dX10_unlikeBy_46 : decode cX10_unlikeBy 46 = .ok (.iconst 0, 1) := by decide +kernel
theorem dX10_unlikeBy_47 : decode cX10_unlikeBy 47 = .ok (.istore 6, 2) := by decide +kernel
theorem dX10_unlikeBy_49 : decode cX10_unlikeBy 49 = .ok (.iload 6, 2) := by decide +kernel
theorem dX10_unlikeBy_51 : decode cX10_unlikeBy 51 = .ok (.iload 4, 2) := by decide +kernel
theorem dX10_unlikeBy_53 : decode cX10_unlikeBy 53 = .ok (.if_icmp .ge 33, 3) := by decide +kernel
theorem dX10_unlikeBy_56 : decode cX10_unlikeBy 56 = .ok (.aload_n 0, 1) := by decide +kernel
theorem dX10_unlikeBy_57 : decode cX10_unlikeBy 57 = .ok (.getfield 20, 3) := by decide +kernel
theorem dX10_unlikeBy_60 : decode cX10_unlikeBy 60 = .ok (.bipush 16, 2) := by decide +kernel
theorem dX10_unlikeBy_62 : decode cX10_unlikeBy 62 = .ok (.iload_n 1, 1) := by decide +kernel
theorem dX10_unlikeBy_63 : decode cX10_unlikeBy 63 = .ok (.imul, 1) := by decide +kernel
theorem dX10_unlikeBy_64 : decode cX10_unlikeBy 64 = .ok (.iload 6, 2) := by decide +kernel
theorem dX10_unlikeBy_66 : decode cX10_unlikeBy 66 = .ok (.iadd, 1) := by decide +kernel
theorem dX10_unlikeBy_67 : decode cX10_unlikeBy 67 = .ok (.aload_n 0, 1) := by decide +kernel
theorem dX10_unlikeBy_68 : decode cX10_unlikeBy 68 = .ok (.getfield 134, 3) := by decide +kernel
theorem dX10_unlikeBy_71 : decode cX10_unlikeBy 71 = .ok (.iconst 5, 1) := by decide +kernel
theorem dX10_unlikeBy_72 : decode cX10_unlikeBy 72 = .ok (.iload 5, 2) := by decide +kernel
theorem dX10_unlikeBy_74 : decode cX10_unlikeBy 74 = .ok (.imul, 1) := by decide +kernel
theorem dX10_unlikeBy_75 : decode cX10_unlikeBy 75 = .ok (.iload 6, 2) := by decide +kernel
theorem dX10_unlikeBy_77 : decode cX10_unlikeBy 77 = .ok (.iadd, 1) := by decide +kernel
theorem dX10_unlikeBy_78 : decode cX10_unlikeBy 78 = .ok (.iaload, 1) := by decide +kernel
theorem dX10_unlikeBy_79 : decode cX10_unlikeBy 79 = .ok (.iastore, 1) := by decide +kernel
theorem dX10_unlikeBy_80 : decode cX10_unlikeBy 80 = .ok (.iinc 6 1, 3) := by decide +kernel
theorem dX10_unlikeBy_83 : decode cX10_unlikeBy 83 = .ok (.goto (-34), 3) := by decide +kernel
theorem dX10_unlikeBy_86 : decode cX10_unlikeBy 86 = .ok (.aload_n 0, 1) := by decide +kernel
theorem dX10_unlikeBy_87 : decode cX10_unlikeBy 87 = .ok (.iload_n 1, 1) := by decide +kernel
theorem dX10_unlikeBy_88 : decode cX10_unlikeBy 88 = .ok (.iconst 0, 1) := by decide +kernel
theorem dX10_unlikeBy_89 : decode cX10_unlikeBy 89 = .ok (.invokevirtual 335, 3) := by decide +kernel
theorem dX10_unlikeBy_92 : decode cX10_unlikeBy 92 = .ok (.istore 6, 2) := by decide +kernel
theorem dX10_unlikeBy_94 : decode cX10_unlikeBy 94 = .ok (.iconst 0, 1) := by decide +kernel
theorem dX10_unlikeBy_95 : decode cX10_unlikeBy 95 = .ok (.istore 7, 2) := by decide +kernel
theorem dX10_unlikeBy_97 : decode cX10_unlikeBy 97 = .ok (.iload 7, 2) := by decide +kernel
theorem dX10_unlikeBy_99 : decode cX10_unlikeBy 99 = .ok (.iload_n 3, 1) := by decide +kernel
theorem dX10_unlikeBy_100 : decode cX10_unlikeBy 100 = .ok (.if_icmp .ge 24, 3) := by decide +kernel
theorem dX10_unlikeBy_103 : decode cX10_unlikeBy 103 = .ok (.aload_n 0, 1) := by decide +kernel
theorem dX10_unlikeBy_104 : decode cX10_unlikeBy 104 = .ok (.getfield 137, 3) := by decide +kernel
theorem dX10_unlikeBy_107 : decode cX10_unlikeBy 107 = .ok (.iload 7, 2) := by decide +kernel
theorem dX10_unlikeBy_109 : decode cX10_unlikeBy 109 = .ok (.iaload, 1) := by decide +kernel
theorem dX10_unlikeBy_110 : decode cX10_unlikeBy 110 = .ok (.iload 6, 2) := by decide +kernel
theorem dX10_unlikeBy_112 : decode cX10_unlikeBy 112 = .ok (.if_icmp .eq 12, 3) := by decide +kernel
theorem dX10_unlikeBy_115 : decode cX10_unlikeBy 115 = .ok (.iload 7, 2) := by decide +kernel
theorem dX10_unlikeBy_117 : decode cX10_unlikeBy 117 = .ok (.iconst 1, 1) := by decide +kernel
theorem dX10_unlikeBy_118 : decode cX10_unlikeBy 118 = .ok (.iadd, 1) := by decide +kernel
theorem dX10_unlikeBy_119 : decode cX10_unlikeBy 119 = .ok (.istore 7, 2) := by decide +kernel
theorem dX10_unlikeBy_121 : decode cX10_unlikeBy 121 = .ok (.goto (-24), 3) := by decide +kernel
theorem dX10_unlikeBy_124 : decode cX10_unlikeBy 124 = .ok (.aload_n 0, 1) := by decide +kernel
theorem dX10_unlikeBy_125 : decode cX10_unlikeBy 125 = .ok (.getfield 137, 3) := by decide +kernel
theorem dX10_unlikeBy_128 : decode cX10_unlikeBy 128 = .ok (.iload 7, 2) := by decide +kernel
theorem dX10_unlikeBy_130 : decode cX10_unlikeBy 130 = .ok (.iload 6, 2) := by decide +kernel
theorem dX10_unlikeBy_132 : decode cX10_unlikeBy 132 = .ok (.iastore, 1) := by decide +kernel
theorem dX10_unlikeBy_133 : decode cX10_unlikeBy 133 = .ok (.iload 7, 2) := by decide +kernel
theorem dX10_unlikeBy_135 : decode cX10_unlikeBy 135 = .ok (.iload_n 3, 1) := by decide +kernel
theorem dX10_unlikeBy_136 : decode cX10_unlikeBy 136 = .ok (.if_icmp .ne 7, 3) := by decide +kernel
theorem dX10_unlikeBy_139 : decode cX10_unlikeBy 139 = .ok (.iload_n 3, 1) := by decide +kernel
theorem dX10_unlikeBy_140 : decode cX10_unlikeBy 140 = .ok (.iconst 1, 1) := by decide +kernel
theorem dX10_unlikeBy_141 : decode cX10_unlikeBy 141 = .ok (.iadd, 1) := by decide +kernel
theorem dX10_unlikeBy_142 : decode cX10_unlikeBy 142 = .ok (.istore_n 3, 1) := by decide +kernel
theorem dX10_unlikeBy_143 : decode cX10_unlikeBy 143 = .ok (.iinc 5 1, 3) := by decide +kernel
theorem dX10_unlikeBy_146 : decode cX10_unlikeBy 146 = .ok (.goto (-109), 3) := by decide +kernel
theorem dX10_unlikeBy_149 : decode cX10_unlikeBy 149 = .ok (.aload_n 0, 1) := by decide +kernel
theorem dX10_unlikeBy_150 : decode cX10_unlikeBy 150 = .ok (.getfield 17, 3) := by decide +kernel
theorem dX10_unlikeBy_153 : decode cX10_unlikeBy 153 = .ok (.bipush 16, 2) := by decide +kernel
theorem dX10_unlikeBy_155 : decode cX10_unlikeBy 155 = .ok (.iload_n 1, 1) := by decide +kernel
theorem dX10_unlikeBy_156 : decode cX10_unlikeBy 156 = .ok (.imul, 1) := by decide +kernel
theorem dX10_unlikeBy_157 : decode cX10_unlikeBy 157 = .ok (.iload_n 2, 1) := by decide +kernel
theorem dX10_unlikeBy_158 : decode cX10_unlikeBy 158 = .ok (.iadd, 1) := by decide +kernel
theorem dX10_unlikeBy_159 : decode cX10_unlikeBy 159 = .ok (.aload_n 0, 1) := by decide +kernel
theorem dX10_unlikeBy_160 : decode cX10_unlikeBy 160 = .ok (.getfield 17, 3) := by decide +kernel
theorem dX10_unlikeBy_163 : decode cX10_unlikeBy 163 = .ok (.bipush 16, 2) := by decide +kernel
theorem dX10_unlikeBy_165 : decode cX10_unlikeBy 165 = .ok (.iload_n 1, 1) := by decide +kernel
theorem dX10_unlikeBy_166 : decode cX10_unlikeBy 166 = .ok (.imul, 1) := by decide +kernel
theorem dX10_unlikeBy_167 : decode cX10_unlikeBy 167 = .ok (.iload_n 2, 1) := by decide +kernel
theorem dX10_unlikeBy_168 : decode cX10_unlikeBy 168 = .ok (.iadd, 1) := by decide +kernel
theorem dX10_unlikeBy_169 : decode cX10_unlikeBy 169 = .ok (.iaload, 1) := by decide +kernel
theorem dX10_unlikeBy_170 : decode cX10_unlikeBy 170 = .ok (.iconst 1, 1) := by decide +kernel
theorem dX10_unlikeBy_171 : decode cX10_unlikeBy 171 = .ok (.iadd, 1) := by decide +kernel
theorem dX10_unlikeBy_172 : decode cX10_unlikeBy 172 = .ok (.iastore, 1) := by decide +kernel
theorem dX10_unlikeBy_173 : decode cX10_unlikeBy 173 = .ok (.iconst 0, 1) := by decide +kernel
theorem dX10_unlikeBy_174 : decode cX10_unlikeBy 174 = .ok (.istore 5, 2) := by decide +kernel
theorem dX10_unlikeBy_176 : decode cX10_unlikeBy 176 = .ok (.iload 5, 2) := by decide +kernel
theorem dX10_unlikeBy_178 : decode cX10_unlikeBy 178 = .ok (.iload 4, 2) := by decide +kernel
theorem dX10_unlikeBy_180 : decode cX10_unlikeBy 180 = .ok (.if_icmp .ge 28, 3) := by decide +kernel
theorem dX10_unlikeBy_183 : decode cX10_unlikeBy 183 = .ok (.aload_n 0, 1) := by decide +kernel
theorem dX10_unlikeBy_184 : decode cX10_unlikeBy 184 = .ok (.getfield 20, 3) := by decide +kernel
theorem dX10_unlikeBy_187 : decode cX10_unlikeBy 187 = .ok (.bipush 16, 2) := by decide +kernel
theorem dX10_unlikeBy_189 : decode cX10_unlikeBy 189 = .ok (.iload_n 1, 1) := by decide +kernel
theorem dX10_unlikeBy_190 : decode cX10_unlikeBy 190 = .ok (.imul, 1) := by decide +kernel
theorem dX10_unlikeBy_191 : decode cX10_unlikeBy 191 = .ok (.iload 5, 2) := by decide +kernel
theorem dX10_unlikeBy_193 : decode cX10_unlikeBy 193 = .ok (.iadd, 1) := by decide +kernel
theorem dX10_unlikeBy_194 : decode cX10_unlikeBy 194 = .ok (.aload_n 0, 1) := by decide +kernel
theorem dX10_unlikeBy_195 : decode cX10_unlikeBy 195 = .ok (.getfield 131, 3) := by decide +kernel
theorem dX10_unlikeBy_198 : decode cX10_unlikeBy 198 = .ok (.iload 5, 2) := by decide +kernel
theorem dX10_unlikeBy_200 : decode cX10_unlikeBy 200 = .ok (.iaload, 1) := by decide +kernel
theorem dX10_unlikeBy_201 : decode cX10_unlikeBy 201 = .ok (.iastore, 1) := by decide +kernel
theorem dX10_unlikeBy_202 : decode cX10_unlikeBy 202 = .ok (.iinc 5 1, 3) := by decide +kernel
theorem dX10_unlikeBy_205 : decode cX10_unlikeBy 205 = .ok (.goto (-29), 3) := by decide +kernel
theorem dX10_unlikeBy_208 : decode cX10_unlikeBy 208 = .ok (.iload_n 3, 1) := by decide +kernel
theorem dX10_unlikeBy_209 : decode cX10_unlikeBy 209 = .ok (.ireturn, 1) := by decide +kernel
theorem dX10_nextPass_0 : decode cX10_nextPass 0 = .ok (.iconst (-1), 1) := by decide +kernel
theorem dX10_nextPass_1 : decode cX10_nextPass 1 = .ok (.istore_n 2, 1) := by decide +kernel
theorem dX10_nextPass_2 : decode cX10_nextPass 2 = .ok (.iconst 0, 1) := by decide +kernel
theorem dX10_nextPass_3 : decode cX10_nextPass 3 = .ok (.istore_n 3, 1) := by decide +kernel
theorem dX10_nextPass_4 : decode cX10_nextPass 4 = .ok (.iconst 0, 1) := by decide +kernel
theorem dX10_nextPass_5 : decode cX10_nextPass 5 = .ok (.istore 4, 2) := by decide +kernel
theorem dX10_nextPass_7 : decode cX10_nextPass 7 = .ok (.iload 4, 2) := by decide +kernel
theorem dX10_nextPass_9 : decode cX10_nextPass 9 = .ok (.aload_n 0, 1) := by decide +kernel
theorem dX10_nextPass_10 : decode cX10_nextPass 10 = .ok (.getfield 13, 3) := by decide +kernel
theorem dX10_nextPass_13 : decode cX10_nextPass 13 = .ok (.iload_n 1, 1) := by decide +kernel
theorem dX10_nextPass_14 : decode cX10_nextPass 14 = .ok (.iaload, 1) := by decide +kernel
theorem dX10_nextPass_15 : decode cX10_nextPass 15 = .ok (.if_icmp .ge 52, 3) := by decide +kernel
theorem dX10_nextPass_18 : decode cX10_nextPass 18 = .ok (.aload_n 0, 1) := by decide +kernel
theorem dX10_nextPass_19 : decode cX10_nextPass 19 = .ok (.getfield 17, 3) := by decide +kernel
theorem dX10_nextPass_22 : decode cX10_nextPass 22 = .ok (.bipush 16, 2) := by decide +kernel
theorem dX10_nextPass_24 : decode cX10_nextPass 24 = .ok (.iload_n 1, 1) := by decide +kernel
theorem dX10_nextPass_25 : decode cX10_nextPass 25 = .ok (.imul, 1) := by decide +kernel
theorem dX10_nextPass_26 : decode cX10_nextPass 26 = .ok (.iload 4, 2) := by decide +kernel
theorem dX10_nextPass_28 : decode cX10_nextPass 28 = .ok (.iadd, 1) := by decide +kernel
theorem dX10_nextPass_29 : decode cX10_nextPass 29 = .ok (.iaload, 1) := by decide +kernel
theorem dX10_nextPass_30 : decode cX10_nextPass 30 = .ok (.iconst 1, 1) := by decide +kernel
theorem dX10_nextPass_31 : decode cX10_nextPass 31 = .ok (.if_icmp .gt 6, 3) := by decide +kernel
theorem dX10_nextPass_34 : decode cX10_nextPass 34 = .ok (.goto 27, 3) := by decide +kernel
theorem dX10_nextPass_37 : decode cX10_nextPass 37 = .ok (.aload_n 0, 1) := by decide +kernel
theorem dX10_nextPass_38 : decode cX10_nextPass 38 = .ok (.iload_n 1, 1) := by decide +kernel
theorem dX10_nextPass_39 : decode cX10_nextPass 39 = .ok (.iload 4, 2) := by decide +kernel
theorem dX10_nextPass_41 : decode cX10_nextPass 41 = .ok (.invokevirtual 384, 3) := by decide +kernel
theorem dX10_nextPass_44 : decode cX10_nextPass 44 = .ok (.istore 5, 2) := by decide +kernel
theorem dX10_nextPass_46 : decode cX10_nextPass 46 = .ok (.iload 5, 2) := by decide +kernel
theorem dX10_nextPass_48 : decode cX10_nextPass 48 = .ok (.iload_n 3, 1) := by decide +kernel
theorem dX10_nextPass_49 : decode cX10_nextPass 49 = .ok (.if_icmp .gt 6, 3) := by decide +kernel
theorem dX10_nextPass_52 : decode cX10_nextPass 52 = .ok (.goto 9, 3) := by decide +kernel
theorem dX10_nextPass_55 : decode cX10_nextPass 55 = .ok (.iload 4, 2) := by decide +kernel
theorem dX10_nextPass_57 : decode cX10_nextPass 57 = .ok (.istore_n 2, 1) := by decide +kernel
theorem dX10_nextPass_58 : decode cX10_nextPass 58 = .ok (.iload 5, 2) := by decide +kernel
theorem dX10_nextPass_60 : decode cX10_nextPass 60 = .ok (.istore_n 3, 1) := by decide +kernel
theorem dX10_nextPass_61 : decode cX10_nextPass 61 = .ok (.iinc 4 1, 3) := by decide +kernel
theorem dX10_nextPass_64 : decode cX10_nextPass 64 = .ok (.goto (-57), 3) := by decide +kernel
theorem dX10_nextPass_67 : decode cX10_nextPass 67 = .ok (.iload_n 2, 1) := by decide +kernel
theorem dX10_nextPass_68 : decode cX10_nextPass 68 = .ok (.ireturn, 1) := by decide +kernel
theorem dX10_sureOf_0 : decode cX10_sureOf 0 = .ok (.iconst 1, 1) := by decide +kernel
theorem dX10_sureOf_1 : decode cX10_sureOf 1 = .ok (.istore_n 2, 1) := by decide +kernel
theorem dX10_sureOf_2 : decode cX10_sureOf 2 = .ok (.iload_n 2, 1) := by decide +kernel
theorem dX10_sureOf_3 : decode cX10_sureOf 3 = .ok (.aload_n 0, 1) := by decide +kernel
theorem dX10_sureOf_4 : decode cX10_sureOf 4 = .ok (.getfield 378, 3) := by decide +kernel
theorem dX10_sureOf_7 : decode cX10_sureOf 7 = .ok (.if_icmp .ge 30, 3) := by decide +kernel
theorem dX10_sureOf_10 : decode cX10_sureOf 10 = .ok (.aload_n 0, 1) := by decide +kernel
theorem dX10_sureOf_11 : decode cX10_sureOf 11 = .ok (.getfield 134, 3) := by decide +kernel
theorem dX10_sureOf_14 : decode cX10_sureOf 14 = .ok (.iconst 5, 1) := by decide +kernel
theorem dX10_sureOf_15 : decode cX10_sureOf 15 = .ok (.iload_n 2, 1) := by decide +kernel
theorem dX10_sureOf_16 : decode cX10_sureOf 16 = .ok (.imul, 1) := by decide +kernel
theorem dX10_sureOf_17 : decode cX10_sureOf 17 = .ok (.iload_n 1, 1) := by decide +kernel
theorem dX10_sureOf_18 : decode cX10_sureOf 18 = .ok (.iadd, 1) := by decide +kernel
theorem dX10_sureOf_19 : decode cX10_sureOf 19 = .ok (.iaload, 1) := by decide +kernel
theorem dX10_sureOf_20 : decode cX10_sureOf 20 = .ok (.aload_n 0, 1) := by decide +kernel
theorem dX10_sureOf_21 : decode cX10_sureOf 21 = .ok (.getfield 134, 3) := by decide +kernel
theorem dX10_sureOf_24 : decode cX10_sureOf 24 = .ok (.iload_n 1, 1) := by decide +kernel
theorem dX10_sureOf_25 : decode cX10_sureOf 25 = .ok (.iaload, 1) := by decide +kernel
theorem dX10_sureOf_26 : decode cX10_sureOf 26 = .ok (.if_icmp .eq 5, 3) := by decide +kernel
theorem dX10_sureOf_29 : decode cX10_sureOf 29 = .ok (.iconst (-1), 1) := by decide +kernel
theorem dX10_sureOf_30 : decode cX10_sureOf 30 = .ok (.ireturn, 1) := by decide +kernel
theorem dX10_sureOf_31 : decode cX10_sureOf 31 = .ok (.iinc 2 1, 3) := by decide +kernel
theorem dX10_sureOf_34 : decode cX10_sureOf 34 = .ok (.goto (-32), 3) := by decide +kernel
