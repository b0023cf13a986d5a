theorem dX10_readProduct_90 : decode cX10_readProduct 90 = .ok (.goto 4, 3) := by decide +kernel
theorem dX10_readProduct_93 : decode cX10_readProduct 93 = .ok (.iconst 5, 1) := by decide +kernel
theorem dX10_readProduct_94 : decode cX10_readProduct 94 = .ok (.iconst 0, 1) := by decide +kernel
theorem dX10_readProduct_95 : decode cX10_readProduct 95 = .ok (.invokevirtual 238, 3) := by decide +kernel
theorem dX10_readProduct_98 : decode cX10_readProduct 98 = .ok (.goto (-88), 3) := by decide +kernel
theorem dX10_readProduct_101 : decode cX10_readProduct 101 = .ok (.iconst 0, 1) := by decide +kernel
theorem dX10_readProduct_102 : decode cX10_readProduct 102 = .ok (.ireturn, 1) := by decide +kernel
theorem dX10_readSum_0 : decode cX10_readSum 0 = .ok (.aload_n 0, 1) := by decide +kernel
theorem dX10_readSum_1 : decode cX10_readSum 1 = .ok (.invokevirtual 252, 3) := by decide +kernel
theorem dX10_readSum_4 : decode cX10_readSum 4 = .ok (.iconst (-1), 1) := by decide +kernel
theorem dX10_readSum_5 : decode cX10_readSum 5 = .ok (.if_icmp .ne 5, 3) := by decide +kernel
theorem dX10_readSum_8 : decode cX10_readSum 8 = .ok (.iconst (-1), 1) := by decide +kernel
theorem dX10_readSum_9 : decode cX10_readSum 9 = .ok (.ireturn, 1) := by decide +kernel
theorem dX10_readSum_10 : decode cX10_readSum 10 = .ok (.aload_n 0, 1) := by decide +kernel
theorem dX10_readSum_11 : decode cX10_readSum 11 = .ok (.bipush 43, 2) := by decide +kernel
theorem dX10_readSum_13 : decode cX10_readSum 13 = .ok (.invokevirtual 249, 3) := by decide +kernel
theorem dX10_readSum_16 : decode cX10_readSum 16 = .ok (.ifCond .ne 12, 3) := by decide +kernel
theorem dX10_readSum_19 : decode cX10_readSum 19 = .ok (.aload_n 0, 1) := by decide +kernel
theorem dX10_readSum_20 : decode cX10_readSum 20 = .ok (.bipush 45, 2) := by decide +kernel
theorem dX10_readSum_22 : decode cX10_readSum 22 = .ok (.invokevirtual 249, 3) := by decide +kernel
theorem dX10_readSum_25 : decode cX10_readSum 25 = .ok (.ifCond .eq 41, 3) := by decide +kernel
theorem dX10_readSum_28 : decode cX10_readSum 28 = .ok (.aload_n 0, 1) := by decide +kernel
theorem dX10_readSum_29 : decode cX10_readSum 29 = .ok (.getfield 205, 3) := by decide +kernel
theorem dX10_readSum_32 : decode cX10_readSum 32 = .ok (.bipush 43, 2) := by decide +kernel
theorem dX10_readSum_34 : decode cX10_readSum 34 = .ok (.if_icmp .ne 7, 3) := by decide +kernel
theorem dX10_readSum_37 : decode cX10_readSum 37 = .ok (.iconst 2, 1) := by decide +kernel
theorem dX10_readSum_38 : decode cX10_readSum 38 = .ok (.goto 4, 3) := by decide +kernel
theorem dX10_readSum_41 : decode cX10_readSum 41 = .ok (.iconst 3, 1) := by decide +kernel
theorem dX10_readSum_42 : decode cX10_readSum 42 = .ok (.istore_n 1, 1) := by decide +kernel
theorem dX10_readSum_43 : decode cX10_readSum 43 = .ok (.aload_n 0, 1) := by decide +kernel
theorem dX10_readSum_44 : decode cX10_readSum 44 = .ok (.invokevirtual 242, 3) := by decide +kernel
theorem dX10_readSum_47 : decode cX10_readSum 47 = .ok (.aload_n 0, 1) := by decide +kernel
theorem dX10_readSum_48 : decode cX10_readSum 48 = .ok (.invokevirtual 252, 3) := by decide +kernel
theorem dX10_readSum_51 : decode cX10_readSum 51 = .ok (.iconst (-1), 1) := by decide +kernel
theorem dX10_readSum_52 : decode cX10_readSum 52 = .ok (.if_icmp .ne 5, 3) := by decide +kernel
theorem dX10_readSum_55 : decode cX10_readSum 55 = .ok (.iconst (-1), 1) := by decide +kernel
theorem dX10_readSum_56 : decode cX10_readSum 56 = .ok (.ireturn, 1) := by decide +kernel
theorem dX10_readSum_57 : decode cX10_readSum 57 = .ok (.aload_n 0, 1) := by decide +kernel
theorem dX10_readSum_58 : decode cX10_readSum 58 = .ok (.iload_n 1, 1) := by decide +kernel
theorem dX10_readSum_59 : decode cX10_readSum 59 = .ok (.iconst 0, 1) := by decide +kernel
theorem dX10_readSum_60 : decode cX10_readSum 60 = .ok (.invokevirtual 238, 3) := by decide +kernel
theorem dX10_readSum_63 : decode cX10_readSum 63 = .ok (.goto (-53), 3) := by decide +kernel
theorem dX10_readSum_66 : decode cX10_readSum 66 = .ok (.iconst 0, 1) := by decide +kernel
theorem dX10_readSum_67 : decode cX10_readSum 67 = .ok (.ireturn, 1) := by decide +kernel
theorem dX10_readCompared_0 : decode cX10_readCompared 0 = .ok (.aload_n 0, 1) := by decide +kernel
theorem dX10_readCompared_1 : decode cX10_readCompared 1 = .ok (.invokevirtual 255, 3) := by decide +kernel
theorem dX10_readCompared_4 : decode cX10_readCompared 4 = .ok (.iconst (-1), 1) := by decide +kernel
theorem dX10_readCompared_5 : decode cX10_readCompared 5 = .ok (.if_icmp .ne 5, 3) := by decide +kernel
theorem dX10_readCompared_8 : decode cX10_readCompared 8 = .ok (.iconst (-1), 1) := by decide +kernel
theorem dX10_readCompared_9 : decode cX10_readCompared 9 = .ok (.ireturn, 1) := by decide +kernel
theorem dX10_readCompared_10 : decode cX10_readCompared 10 = .ok (.aload_n 0, 1) := by decide +kernel
theorem dX10_readCompared_11 : decode cX10_readCompared 11 = .ok (.bipush 60, 2) := by decide +kernel
theorem dX10_readCompared_13 : decode cX10_readCompared 13 = .ok (.invokevirtual 249, 3) := by decide +kernel
theorem dX10_readCompared_16 : decode cX10_readCompared 16 = .ok (.ifCond .ne 27, 3) := by decide +kernel
theorem dX10_readCompared_19 : decode cX10_readCompared 19 = .ok (.aload_n 0, 1) := by decide +kernel
theorem dX10_readCompared_20 : decode cX10_readCompared 20 = .ok (.bipush 61, 2) := by decide +kernel
theorem dX10_readCompared_22 : decode cX10_readCompared 22 = .ok (.invokevirtual 249, 3) := by decide +kernel
theorem dX10_readCompared_25 : decode cX10_readCompared 25 = .ok (.ifCond .ne 18, 3) := by decide +kernel
theorem dX10_readCompared_28 : decode cX10_readCompared 28 = .ok (.aload_n 0, 1) := by decide +kernel
theorem dX10_readCompared_29 : decode cX10_readCompared 29 = .ok (.bipush 62, 2) := by decide +kernel
theorem dX10_readCompared_31 : decode cX10_readCompared 31 = .ok (.invokevirtual 249, 3) := by decide +kernel
theorem dX10_readCompared_34 : decode cX10_readCompared 34 = .ok (.ifCond .ne 9, 3) := by decide +kernel
theorem dX10_readCompared_37 : decode cX10_readCompared 37 = .ok (.aload_n 0, 1) := by decide +kernel
theorem dX10_readCompared_38 : decode cX10_readCompared 38 = .ok (.iconst 1, 1) := by decide +kernel
theorem dX10_readCompared_39 : decode cX10_readCompared 39 = .ok (.invokevirtual 235, 3) := by decide +kernel
theorem dX10_readCompared_42 : decode cX10_readCompared 42 = .ok (.ireturn, 1) := by decide +kernel
theorem dX10_readCompared_43 : decode cX10_readCompared 43 = .ok (.aload_n 0, 1) := by decide +kernel
theorem dX10_readCompared_44 : decode cX10_readCompared 44 = .ok (.getfield 205, 3) := by decide +kernel
theorem dX10_readCompared_47 : decode cX10_readCompared 47 = .ok (.bipush 60, 2) := by decide +kernel
theorem dX10_readCompared_49 : decode cX10_readCompared 49 = .ok (.if_icmp .ne 8, 3) := by decide +kernel
theorem dX10_readCompared_52 : decode cX10_readCompared 52 = .ok (.bipush 6, 2) := by decide +kernel
theorem dX10_readCompared_54 : decode cX10_readCompared 54 = .ok (.goto 19, 3) := by decide +kernel
theorem dX10_readCompared_57 : decode cX10_readCompared 57 = .ok (.aload_n 0, 1) := by decide +kernel
theorem dX10_readCompared_58 : decode cX10_readCompared 58 = .ok (.getfield 205, 3) := by decide +kernel
theorem dX10_readCompared_61 : decode cX10_readCompared 61 = .ok (.bipush 61, 2) := by decide +kernel
theorem dX10_readCompared_63 : decode cX10_readCompared 63 = .ok (.if_icmp .ne 8, 3) := by decide +kernel
theorem dX10_readCompared_66 : decode cX10_readCompared 66 = .ok (.bipush 7, 2) := by decide +kernel
theorem dX10_readCompared_68 : decode cX10_readCompared 68 = .ok (.goto 5, 3) := by decide +kernel
theorem dX10_readCompared_71 : decode cX10_readCompared 71 = .ok (.bipush 8, 2) := by decide +kernel
theorem dX10_readCompared_73 : decode cX10_readCompared 73 = .ok (.istore_n 1, 1) := by decide +kernel
theorem dX10_readCompared_74 : decode cX10_readCompared 74 = .ok (.aload_n 0, 1) := by decide +kernel
theorem dX10_readCompared_75 : decode cX10_readCompared 75 = .ok (.invokevirtual 242, 3) := by decide +kernel
theorem dX10_readCompared_78 : decode cX10_readCompared 78 = .ok (.aload_n 0, 1) := by decide +kernel
theorem dX10_readCompared_79 : decode cX10_readCompared 79 = .ok (.invokevirtual 255, 3) := by decide +kernel
theorem dX10_readCompared_82 : decode cX10_readCompared 82 = .ok (.iconst (-1), 1) := by decide +kernel
theorem dX10_readCompared_83 : decode cX10_readCompared 83 = .ok (.if_icmp .ne 5, 3) := by decide +kernel
theorem dX10_readCompared_86 : decode cX10_readCompared 86 = .ok (.iconst (-1), 1) := by decide +kernel
theorem dX10_readCompared_87 : decode cX10_readCompared 87 = .ok (.ireturn, 1) := by decide +kernel
theorem dX10_readCompared_88 : decode cX10_readCompared 88 = .ok (.aload_n 0, 1) := by decide +kernel
theorem dX10_readCompared_89 : decode cX10_readCompared 89 = .ok (.iload_n 1, 1) := by decide +kernel
theorem dX10_readCompared_90 : decode cX10_readCompared 90 = .ok (.iconst 0, 1) := by decide +kernel
theorem dX10_readCompared_91 : decode cX10_readCompared 91 = .ok (.invokevirtual 238, 3) := by decide +kernel
theorem dX10_readCompared_94 : decode cX10_readCompared 94 = .ok (.iconst 0, 1) := by decide +kernel
theorem dX10_readCompared_95 : decode cX10_readCompared 95 = .ok (.ireturn, 1) := by decide +kernel
theorem dX10_waits_0 : decode cX10_waits 0 = .ok (.aload_n 0, 1) := by decide +kernel
theorem dX10_waits_1 : decode cX10_waits 1 = .ok (.getfield 89, 3) := by decide +kernel
theorem dX10_waits_4 : decode cX10_waits 4 = .ok (.aload_n 0, 1) := by decide +kernel
theorem dX10_waits_5 : decode cX10_waits 5 = .ok (.getfield 258, 3) := by decide +kernel
theorem dX10_waits_8 : decode cX10_waits 8 = .ok (.iload_n 1, 1) := by decide +kernel
theorem dX10_waits_9 : decode cX10_waits 9 = .ok (.iastore, 1) := by decide +kernel
theorem dX10_waits_10 : decode cX10_waits 10 = .ok (.aload_n 0, 1) := by decide +kernel
theorem dX10_waits_11 : decode cX10_waits 11 = .ok (.aload_n 0, 1) := by decide +kernel
theorem dX10_waits_12 : decode cX10_waits 12 = .ok (.getfield 258, 3) := by decide +kernel
theorem dX10_waits_15 : decode cX10_waits 15 = .ok (.iconst 1, 1) := by decide +kernel
theorem dX10_waits_16 : decode cX10_waits 16 = .ok (.iadd, 1) := by decide +kernel
theorem dX10_waits_17 : decode cX10_waits 17 = .ok (.putfield 258, 3) := by decide +kernel
theorem dX10_waits_20 : decode cX10_waits 20 = .ok (.return_, 1) := by decide +kernel
theorem dX10_settles_0 : decode cX10_settles 0 = .ok (.aload_n 0, 1) := by decide +kernel
theorem dX10_settles_1 : decode cX10_settles 1 = .ok (.getfield 258, 3) := by decide +kernel
theorem dX10_settles_4 : decode cX10_settles 4 = .ok (.ifCond .le 53, 3) := by decide +kernel
theorem dX10_settles_7 : decode cX10_settles 7 = .ok (.aload_n 0, 1) := by decide +kernel
theorem dX10_settles_8 : decode cX10_settles 8 = .ok (.getfield 89, 3) := by decide +kernel
theorem dX10_settles_11 : decode cX10_settles 11 = .ok (.aload_n 0, 1) := by decide +kernel
theorem dX10_settles_12 : decode cX10_settles 12 = .ok (.getfield 258, 3) := by decide +kernel
theorem dX10_settles_15 : decode cX10_settles 15 = .ok (.iconst 1, 1) := by decide +kernel
theorem dX10_settles_16 : decode cX10_settles 16 = .ok (.isub, 1) := by decide +kernel
theorem dX10_settles_17 : decode cX10_settles 17 = .ok (.iaload, 1) := by decide +kernel
theorem dX10_settles_18 : decode cX10_settles 18 = .ok (.iload_n 1, 1) := by decide +kernel
theorem dX10_settles_19 : decode cX10_settles 19 = .ok (.if_icmp .ne 38, 3) := by decide +kernel
theorem dX10_settles_22 : decode cX10_settles 22 = .ok (.aload_n 0, 1) := by decide +kernel
theorem dX10_settles_23 : decode cX10_settles 23 = .ok (.aload_n 0, 1) := by decide +kernel
theorem dX10_settles_24 : decode cX10_settles 24 = .ok (.getfield 258, 3) := by decide +kernel
theorem dX10_settles_27 : decode cX10_settles 27 = .ok (.iconst 1, 1) := by decide +kernel
theorem dX10_settles_28 : decode cX10_settles 28 = .ok (.isub, 1) := by decide +kernel
theorem dX10_settles_29 : decode cX10_settles 29 = .ok (.putfield 258, 3) := by decide +kernel
theorem dX10_settles_32 : decode cX10_settles 32 = .ok (.aload_n 0, 1) := by decide +kernel
theorem dX10_settles_33 : decode cX10_settles 33 = .ok (.iload_n 1, 1) := by decide +kernel
theorem dX10_settles_34 : decode cX10_settles 34 = .ok (.iconst 0, 1) := by decide +kernel
theorem dX10_settles_35 : decode cX10_settles 35 = .ok (.invokevirtual 238, 3) := by decide +kernel
theorem dX10_settles_38 : decode cX10_settles 38 = .ok (.iload_n 1, 1) := by decide +kernel
theorem dX10_settles_39 : decode cX10_settles 39 = .ok (.bipush 9, 2) := by decide +kernel
theorem dX10_settles_41 : decode cX10_settles 41 = .ok (.if_icmp .ne (-41), 3) := by decide +kernel
theorem dX10_settles_44 : decode cX10_settles 44 = .ok (.aload_n 0, 1) := by decide +kernel
theorem dX10_settles_45 : decode cX10_settles 45 = .ok (.aload_n 0, 1) := by decide +kernel
theorem dX10_settles_46 : decode cX10_settles 46 = .ok (.getfield 261, 3) := by decide +kernel
theorem dX10_settles_49 : decode cX10_settles 49 = .ok (.iconst 1, 1) := by decide +kernel
theorem dX10_settles_50 : decode cX10_settles 50 = .ok (.isub, 1) := by decide +kernel
theorem dX10_settles_51 : decode cX10_settles 51 = .ok (.putfield 261, 3) := by decide +kernel
theorem dX10_settles_54 : decode cX10_settles 54 = .ok (.goto (-54), 3) := by decide +kernel
theorem dX10_settles_57 : decode cX10_settles 57 = .ok (.return_, 1) := by decide +kernel
theorem dX10_readAny_0 : decode cX10_readAny 0 = .ok (.iconst 0, 1) := by decide +kernel
theorem dX10_readAny_1 : decode cX10_readAny 1 = .ok (.istore_n 1, 1) := by decide +kernel
theorem dX10_readAny_2 : decode cX10_readAny 2 = .ok (.aload_n 0, 1) := by decide +kernel
theorem dX10_readAny_3 : decode cX10_readAny 3 = .ok (.iconst 0, 1) := by decide +kernel
theorem dX10_readAny_4 : decode cX10_readAny 4 = .ok (.putfield 258, 3) := by decide +kernel
theorem dX10_readAny_7 : decode cX10_readAny 7 = .ok (.iconst 1, 1) := by decide +kernel
theorem dX10_readAny_8 : decode cX10_readAny 8 = .ok (.istore_n 2, 1) := by decide +kernel
theorem dX10_readAny_9 : decode cX10_readAny 9 = .ok (.iload_n 2, 1) := by decide +kernel
theorem dX10_readAny_10 : decode cX10_readAny 10 = .ok (.ifCond .eq 99, 3) := by decide +kernel
theorem dX10_readAny_13 : decode cX10_readAny 13 = .ok (.aload_n 0, 1) := by decide +kernel
theorem dX10_readAny_14 : decode cX10_readAny 14 = .ok (.bipush 9, 2) := by decide +kernel
theorem dX10_readAny_16 : decode cX10_readAny 16 = .ok (.invokevirtual 264, 3) := by decide +kernel
theorem dX10_readAny_19 : decode cX10_readAny 19 = .ok (.istore_n 3, 1) := by decide +kernel
theorem dX10_readAny_20 : decode cX10_readAny 20 = .ok (.iload_n 3, 1) := by decide +kernel
theorem dX10_readAny_21 : decode cX10_readAny 21 = .ok (.ifCond .ne 12, 3) := by decide +kernel
theorem dX10_readAny_24 : decode cX10_readAny 24 = .ok (.aload_n 0, 1) := by decide +kernel
theorem dX10_readAny_25 : decode cX10_readAny 25 = .ok (.bipush 40, 2) := by decide +kernel
theorem dX10_readAny_27 : decode cX10_readAny 27 = .ok (.invokevirtual 249, 3) := by decide +kernel
theorem dX10_readAny_30 : decode cX10_readAny 30 = .ok (.ifCond .eq 58, 3) := by decide +kernel
theorem dX10_readAny_33 : decode cX10_readAny 33 = .ok (.aload_n 0, 1) := by decide +kernel
theorem dX10_readAny_34 : decode cX10_readAny 34 = .ok (.getfield 261, 3) := by decide +kernel
theorem dX10_readAny_37 : decode cX10_readAny 37 = .ok (.bipush 8, 2) := by decide +kernel
theorem dX10_readAny_39 : decode cX10_readAny 39 = .ok (.if_icmp .ne 9, 3) := by decide +kernel
theorem dX10_readAny_42 : decode cX10_readAny 42 = .ok (.aload_n 0, 1) := by decide +kernel
theorem dX10_readAny_43 : decode cX10_readAny 43 = .ok (.iconst 3, 1) := by decide +kernel
theorem dX10_readAny_44 : decode cX10_readAny 44 = .ok (.invokevirtual 235, 3) := by decide +kernel
theorem dX10_readAny_47 : decode cX10_readAny 47 = .ok (.ireturn, 1) := by decide +kernel
theorem dX10_readAny_48 : decode cX10_readAny 48 = .ok (.aload_n 0, 1) := by decide +kernel
theorem dX10_readAny_49 : decode cX10_readAny 49 = .ok (.aload_n 0, 1) := by decide +kernel
theorem dX10_readAny_50 : decode cX10_readAny 50 = .ok (.getfield 261, 3) := by decide +kernel
theorem dX10_readAny_53 : decode cX10_readAny 53 = .ok (.iconst 1, 1) := by decide +kernel
theorem dX10_readAny_54 : decode cX10_readAny 54 = .ok (.iadd, 1) := by decide +kernel
theorem dX10_readAny_55 : decode cX10_readAny 55 = .ok (.putfield 261, 3) := by decide +kernel
theorem dX10_readAny_58 : decode cX10_readAny 58 = .ok (.iload_n 3, 1) := by decide +kernel
theorem dX10_readAny_59 : decode cX10_readAny 59 = .ok (.ifCond .ne 7, 3) := by decide +kernel
theorem dX10_readAny_62 : decode cX10_readAny 62 = .ok (.iload_n 1, 1) := by decide +kernel
theorem dX10_readAny_63 : decode cX10_readAny 63 = .ok (.iconst 1, 1) := by decide +kernel
theorem dX10_readAny_64 : decode cX10_readAny 64 = .ok (.iadd, 1) := by decide +kernel
theorem dX10_readAny_65 : decode cX10_readAny 65 = .ok (.istore_n 1, 1) := by decide +kernel
theorem dX10_readAny_66 : decode cX10_readAny 66 = .ok (.aload_n 0, 1) := by decide +kernel
theorem dX10_readAny_67 : decode cX10_readAny 67 = .ok (.iload_n 3, 1) := by decide +kernel
theorem dX10_readAny_68 : decode cX10_readAny 68 = .ok (.ifCond .eq 8, 3) := by decide +kernel
theorem dX10_readAny_71 : decode cX10_readAny 71 = .ok (.bipush 9, 2) := by decide +kernel
theorem dX10_readAny_73 : decode cX10_readAny 73 = .ok (.goto 5, 3) := by decide +kernel
theorem dX10_readAny_76 : decode cX10_readAny 76 = .ok (.bipush 12, 2) := by decide +kernel
theorem dX10_readAny_78 : decode cX10_readAny 78 = .ok (.invokevirtual 267, 3) := by decide +kernel
theorem dX10_readAny_81 : decode cX10_readAny 81 = .ok (.aload_n 0, 1) := by decide +kernel
theorem dX10_readAny_82 : decode cX10_readAny 82 = .ok (.invokevirtual 242, 3) := by decide +kernel
theorem dX10_readAny_85 : decode cX10_readAny 85 = .ok (.goto (-76), 3) := by decide +kernel
theorem dX10_readAny_88 : decode cX10_readAny 88 = .ok (.aload_n 0, 1) := by decide +kernel
theorem dX10_readAny_89 : decode cX10_readAny 89 = .ok (.invokevirtual 270, 3) := by decide +kernel
theorem dX10_readAny_92 : decode cX10_readAny 92 = .ok (.iconst (-1), 1) := by decide +kernel
theorem dX10_readAny_93 : decode cX10_readAny 93 = .ok (.if_icmp .ne 5, 3) := by decide +kernel
theorem dX10_readAny_96 : decode cX10_readAny 96 = .ok (.iconst (-1), 1) := by decide +kernel
theorem dX10_readAny_97 : decode cX10_readAny 97 = .ok (.ireturn, 1) := by decide +kernel
theorem dX10_readAny_98 : decode cX10_readAny 98 = .ok (.aload_n 0, 1) := by decide +kernel
theorem dX10_readAny_99 : decode cX10_readAny 99 = .ok (.bipush 9, 2) := by decide +kernel
theorem dX10_readAny_101 : decode cX10_readAny 101 = .ok (.invokevirtual 273, 3) := by decide +kernel
theorem dX10_readAny_104 : decode cX10_readAny 104 = .ok (.iconst 0, 1) := by decide +kernel
theorem dX10_readAny_105 : decode cX10_readAny 105 = .ok (.istore_n 2, 1) := by decide +kernel
theorem dX10_readAny_106 : decode cX10_readAny 106 = .ok (.goto (-97), 3) := by decide +kernel
theorem dX10_readAny_109 : decode cX10_readAny 109 = .ok (.aload_n 0, 1) := by decide +kernel
theorem dX10_readAny_110 : decode cX10_readAny 110 = .ok (.bipush 8, 2) := by decide +kernel
theorem dX10_readAny_112 : decode cX10_readAny 112 = .ok (.invokevirtual 264, 3) := by decide +kernel
theorem dX10_readAny_115 : decode cX10_readAny 115 = .ok (.ifCond .eq 24, 3) := by decide +kernel
theorem dX10_readAny_118 : decode cX10_readAny 118 = .ok (.aload_n 0, 1) := by decide +kernel
theorem dX10_readAny_119 : decode cX10_readAny 119 = .ok (.bipush 10, 2) := by decide +kernel
theorem dX10_readAny_121 : decode cX10_readAny 121 = .ok (.invokevirtual 273, 3) := by decide +kernel
theorem dX10_readAny_124 : decode cX10_readAny 124 = .ok (.aload_n 0, 1) := by decide +kernel
theorem dX10_readAny_125 : decode cX10_readAny 125 = .ok (.bipush 10, 2) := by decide +kernel
theorem dX10_readAny_127 : decode cX10_readAny 127 = .ok (.invokevirtual 267, 3) := by decide +kernel
theorem dX10_readAny_130 : decode cX10_readAny 130 = .ok (.aload_n 0, 1) := by decide +kernel
theorem dX10_readAny_131 : decode cX10_readAny 131 = .ok (.invokevirtual 242, 3) := by decide +kernel
theorem dX10_readAny_134 : decode cX10_readAny 134 = .ok (.iconst 1, 1) := by decide +kernel
theorem dX10_readAny_135 : decode cX10_readAny 135 = .ok (.istore_n 2, 1) := by decide +kernel
theorem dX10_readAny_136 : decode cX10_readAny 136 = .ok (.goto (-127), 3) := by decide +kernel
theorem dX10_readAny_139 : decode cX10_readAny 139 = .ok (.aload_n 0, 1) := by decide +kernel
theorem dX10_readAny_140 : decode cX10_readAny 140 = .ok (.bipush 7, 2) := by decide +kernel
theorem dX10_readAny_142 : decode cX10_readAny 142 = .ok (.invokevirtual 264, 3) := by decide +kernel
theorem dX10_readAny_145 : decode cX10_readAny 145 = .ok (.ifCond .eq 30, 3) := by decide +kernel
theorem dX10_readAny_148 : decode cX10_readAny 148 = .ok (.aload_n 0, 1) := by decide +kernel
theorem dX10_readAny_149 : decode cX10_readAny 149 = .ok (.bipush 10, 2) := by decide +kernel
theorem dX10_readAny_151 : decode cX10_readAny 151 = .ok (.invokevirtual 273, 3) := by decide +kernel
theorem dX10_readAny_154 : decode cX10_readAny 154 = .ok (.aload_n 0, 1) := by decide +kernel
theorem dX10_readAny_155 : decode cX10_readAny 155 = .ok (.bipush 11, 2) := by decide +kernel
theorem dX10_readAny_157 : decode cX10_readAny 157 = .ok (.invokevirtual 273, 3) := by decide +kernel
theorem dX10_readAny_160 : decode cX10_readAny 160 = .ok (.aload_n 0, 1) := by decide +kernel
theorem dX10_readAny_161 : decode cX10_readAny 161 = .ok (.bipush 11, 2) := by decide +kernel
theorem dX10_readAny_163 : decode cX10_readAny 163 = .ok (.invokevirtual 267, 3) := by decide +kernel
theorem dX10_readAny_166 : decode cX10_readAny 166 = .ok (.aload_n 0, 1) := by decide +kernel
theorem dX10_readAny_167 : decode cX10_readAny 167 = .ok (.invokevirtual 242, 3) := by decide +kernel
theorem dX10_readAny_170 : decode cX10_readAny 170 = .ok (.iconst 1, 1) := by decide +kernel
theorem dX10_readAny_171 : decode cX10_readAny 171 = .ok (.istore_n 2, 1) := by decide +kernel
theorem dX10_readAny_172 : decode cX10_readAny 172 = .ok (.goto (-163), 3) := by decide +kernel
theorem dX10_readAny_175 : decode cX10_readAny 175 = .ok (.aload_n 0, 1) := by decide +kernel
theorem dX10_readAny_176 : decode cX10_readAny 176 = .ok (.bipush 10, 2) := by decide +kernel
theorem dX10_readAny_178 : decode cX10_readAny 178 = .ok (.invokevirtual 273, 3) := by decide +kernel
theorem dX10_readAny_181 : decode cX10_readAny 181 = .ok (.aload_n 0, 1) := by decide +kernel
theorem dX10_readAny_182 : decode cX10_readAny 182 = .ok (.bipush 11, 2) := by decide +kernel
theorem dX10_readAny_184 : decode cX10_readAny 184 = .ok (.invokevirtual 273, 3) := by decide +kernel
theorem dX10_readAny_187 : decode cX10_readAny 187 = .ok (.iload_n 1, 1) := by decide +kernel
theorem dX10_readAny_188 : decode cX10_readAny 188 = .ok (.ifCond .ne 5, 3) := by decide +kernel
theorem dX10_readAny_191 : decode cX10_readAny 191 = .ok (.iconst 0, 1) := by decide +kernel
theorem dX10_readAny_192 : decode cX10_readAny 192 = .ok (.ireturn, 1) := by decide +kernel
theorem dX10_readAny_193 : decode cX10_readAny 193 = .ok (.aload_n 0, 1) := by decide +kernel
theorem dX10_readAny_194 : decode cX10_readAny 194 = .ok (.bipush 41, 2) := by decide +kernel
theorem dX10_readAny_196 : decode cX10_readAny 196 = .ok (.invokevirtual 249, 3) := by decide +kernel
theorem dX10_readAny_199 : decode cX10_readAny 199 = .ok (.ifCond .ne 9, 3) := by decide +kernel
theorem dX10_readAny_202 : decode cX10_readAny 202 = .ok (.aload_n 0, 1) := by decide +kernel
theorem dX10_readAny_203 : decode cX10_readAny 203 = .ok (.iconst 1, 1) := by decide +kernel
theorem dX10_readAny_204 : decode cX10_readAny 204 = .ok (.invokevirtual 235, 3) := by decide +kernel
theorem dX10_readAny_207 : decode cX10_readAny 207 = .ok (.ireturn, 1) := by decide +kernel
theorem dX10_readAny_208 : decode cX10_readAny 208 = .ok (.aload_n 0, 1) := by decide +kernel
theorem dX10_readAny_209 : decode cX10_readAny 209 = .ok (.aload_n 0, 1) := by decide +kernel
theorem dX10_readAny_210 : decode cX10_readAny 210 = .ok (.getfield 258, 3) := by decide +kernel
theorem dX10_readAny_213 : decode cX10_readAny 213 = .ok (.iconst 1, 1) := by decide +kernel
theorem dX10_readAny_214 : decode cX10_readAny 214 = .ok (.isub, 1) := by decide +kernel
theorem dX10_readAny_215 : decode cX10_readAny 215 = .ok (.putfield 258, 3) := by decide +kernel
theorem dX10_readAny_218 : decode cX10_readAny 218 = .ok (.iload_n 1, 1) := by decide +kernel
theorem dX10_readAny_219 : decode cX10_readAny 219 = .ok (.iconst 1, 1) := by decide +kernel
theorem dX10_readAny_220 : decode cX10_readAny 220 = .ok (.isub, 1) := by decide +kernel
theorem dX10_readAny_221 : decode cX10_readAny 221 = .ok (.istore_n 1, 1) := by decide +kernel
theorem dX10_readAny_222 : decode cX10_readAny 222 = .ok (.aload_n 0, 1) := by decide +kernel
theorem dX10_readAny_223 : decode cX10_readAny 223 = .ok (.aload_n 0, 1) := by decide +kernel
theorem dX10_readAny_224 : decode cX10_readAny 224 = .ok (.getfield 261, 3) := by decide +kernel
theorem dX10_readAny_227 : decode cX10_readAny 227 = .ok (.iconst 1, 1) := by decide +kernel
theorem dX10_readAny_228 : decode cX10_readAny 228 = .ok (.isub, 1) := by decide +kernel
theorem dX10_readAny_229 : decode cX10_readAny 229 = .ok (.putfield 261, 3) := by decide +kernel
theorem dX10_readAny_232 : decode cX10_readAny 232 = .ok (.aload_n 0, 1) := by decide +kernel
theorem dX10_readAny_233 : decode cX10_readAny 233 = .ok (.bipush 9, 2) := by decide +kernel
theorem dX10_readAny_235 : decode cX10_readAny 235 = .ok (.invokevirtual 273, 3) := by decide +kernel
theorem dX10_readAny_238 : decode cX10_readAny 238 = .ok (.aload_n 0, 1) := by decide +kernel
theorem dX10_readAny_239 : decode cX10_readAny 239 = .ok (.invokevirtual 242, 3) := by decide +kernel
theorem dX10_readAny_242 : decode cX10_readAny 242 = .ok (.goto (-233), 3) := by decide +kernel
theorem dX10_readNumber_0 : decode cX10_readNumber 0 = .ok (.aload_n 0, 1) := by decide +kernel
theorem dX10_readNumber_1 : decode cX10_readNumber 1 = .ok (.getfield 202, 3) := by decide +kernel
theorem dX10_readNumber_4 : decode cX10_readNumber 4 = .ok (.iconst 3, 1) := by decide +kernel
theorem dX10_readNumber_5 : decode cX10_readNumber 5 = .ok (.if_icmp .eq 9, 3) := by decide +kernel
theorem dX10_readNumber_8 : decode cX10_readNumber 8 = .ok (.aload_n 0, 1) := by decide +kernel
theorem dX10_readNumber_9 : decode cX10_readNumber 9 = .ok (.iconst 1, 1) := by decide +kernel
theorem dX10_readNumber_10 : decode cX10_readNumber 10 = .ok (.invokevirtual 235, 3) := by decide +kernel
theorem dX10_readNumber_13 : decode cX10_readNumber 13 = .ok (.ireturn, 1) := by decide +kernel
theorem dX10_readNumber_14 : decode cX10_readNumber 14 = .ok (.aload_n 0, 1) := by decide +kernel
theorem dX10_readNumber_15 : decode cX10_readNumber 15 = .ok (.aload_n 0, 1) := by decide +kernel
theorem dX10_readNumber_16 : decode cX10_readNumber 16 = .ok (.getfield 205, 3) := by decide +kernel
theorem dX10_readNumber_19 : decode cX10_readNumber 19 = .ok (.iload_n 1, 1) := by decide +kernel
theorem dX10_readNumber_20 : decode cX10_readNumber 20 = .ok (.iload_n 2, 1) := by decide +kernel
theorem dX10_readNumber_21 : decode cX10_readNumber 21 = .ok (.invokevirtual 177, 3) := by decide +kernel
theorem dX10_readNumber_24 : decode cX10_readNumber 24 = .ok (.ifCond .ne 9, 3) := by decide +kernel
theorem dX10_readNumber_27 : decode cX10_readNumber 27 = .ok (.aload_n 0, 1) := by decide +kernel
theorem dX10_readNumber_28 : decode cX10_readNumber 28 = .ok (.iconst 2, 1) := by decide +kernel
theorem dX10_readNumber_29 : decode cX10_readNumber 29 = .ok (.invokevirtual 235, 3) := by decide +kernel
theorem dX10_readNumber_32 : decode cX10_readNumber 32 = .ok (.ireturn, 1) := by decide +kernel
theorem dX10_readNumber_33 : decode cX10_readNumber 33 = .ok (.aload_n 0, 1) := by decide +kernel
theorem dX10_readNumber_34 : decode cX10_readNumber 34 = .ok (.getfield 205, 3) := by decide +kernel
theorem dX10_readNumber_37 : decode cX10_readNumber 37 = .ok (.istore_n 3, 1) := by decide +kernel
theorem dX10_readNumber_38 : decode cX10_readNumber 38 = .ok (.aload_n 0, 1) := by decide +kernel
theorem dX10_readNumber_39 : decode cX10_readNumber 39 = .ok (.invokevirtual 242, 3) := by decide +kernel
theorem dX10_readNumber_42 : decode cX10_readNumber 42 = .ok (.iload_n 3, 1) := by decide +kernel
theorem dX10_readNumber_43 : decode cX10_readNumber 43 = .ok (.ireturn, 1) := by decide +kernel
theorem dX10_isBegin_0 : decode cX10_isBegin 0 = .ok (.aload_n 0, 1) := by decide +kernel
theorem dX10_isBegin_1 : decode cX10_isBegin 1 = .ok (.getfield 202, 3) := by decide +kernel
theorem dX10_isBegin_4 : decode cX10_isBegin 4 = .ok (.iconst 2, 1) := by decide +kernel
theorem dX10_isBegin_5 : decode cX10_isBegin 5 = .ok (.if_icmp .eq 5, 3) := by decide +kernel
theorem dX10_isBegin_8 : decode cX10_isBegin 8 = .ok (.iconst 0, 1) := by decide +kernel
theorem dX10_isBegin_9 : decode cX10_isBegin 9 = .ok (.ireturn, 1) := by decide +kernel
theorem dX10_isBegin_10 : decode cX10_isBegin 10 = .ok (.aload_n 0, 1) := by decide +kernel
theorem dX10_isBegin_11 : decode cX10_isBegin 11 = .ok (.getfield 231, 3) := by decide +kernel
theorem dX10_isBegin_14 : decode cX10_isBegin 14 = .ok (.ifCond .eq 36, 3) := by decide +kernel
theorem dX10_isBegin_17 : decode cX10_isBegin 17 = .ok (.aload_n 0, 1) := by decide +kernel
theorem dX10_isBegin_18 : decode cX10_isBegin 18 = .ok (.getfield 205, 3) := by decide +kernel
theorem dX10_isBegin_21 : decode cX10_isBegin 21 = .ok (.iconst 4, 1) := by decide +kernel
theorem dX10_isBegin_22 : decode cX10_isBegin 22 = .ok (.if_icmp .eq 20, 3) := by decide +kernel
theorem dX10_isBegin_25 : decode cX10_isBegin 25 = .ok (.aload_n 0, 1) := by decide +kernel
theorem dX10_isBegin_26 : decode cX10_isBegin 26 = .ok (.getfield 205, 3) := by decide +kernel
theorem dX10_isBegin_29 : decode cX10_isBegin 29 = .ok (.iconst 5, 1) := by decide +kernel
theorem dX10_isBegin_30 : decode cX10_isBegin 30 = .ok (.if_icmp .eq 12, 3) := by decide +kernel
theorem dX10_isBegin_33 : decode cX10_isBegin 33 = .ok (.aload_n 0, 1) := by decide +kernel
theorem dX10_isBegin_34 : decode cX10_isBegin 34 = .ok (.getfield 205, 3) := by decide +kernel
theorem dX10_isBegin_37 : decode cX10_isBegin 37 = .ok (.bipush 17, 2) := by decide +kernel
theorem dX10_isBegin_39 : decode cX10_isBegin 39 = .ok (.if_icmp .ne 7, 3) := by decide +kernel
theorem dX10_isBegin_42 : decode cX10_isBegin 42 = .ok (.iconst 1, 1) := by decide +kernel
theorem dX10_isBegin_43 : decode cX10_isBegin 43 = .ok (.goto 20, 3) := by decide +kernel
theorem dX10_isBegin_46 : decode cX10_isBegin 46 = .ok (.iconst 0, 1) := by decide +kernel
theorem dX10_isBegin_47 : decode cX10_isBegin 47 = .ok (.goto 16, 3) := by decide +kernel
theorem dX10_isBegin_50 : decode cX10_isBegin 50 = .ok (.aload_n 0, 1) := by decide +kernel
theorem dX10_isBegin_51 : decode cX10_isBegin 51 = .ok (.getfield 205, 3) := by decide +kernel
theorem dX10_isBegin_54 : decode cX10_isBegin 54 = .ok (.iconst 3, 1) := by decide +kernel
theorem dX10_isBegin_55 : decode cX10_isBegin 55 = .ok (.if_icmp .gt 7, 3) := by decide +kernel
theorem dX10_isBegin_58 : decode cX10_isBegin 58 = .ok (.iconst 1, 1) := by decide +kernel
theorem dX10_isBegin_59 : decode cX10_isBegin 59 = .ok (.goto 4, 3) := by decide +kernel
theorem dX10_isBegin_62 : decode cX10_isBegin 62 = .ok (.iconst 0, 1) := by decide +kernel
theorem dX10_isBegin_63 : decode cX10_isBegin 63 = .ok (.ireturn, 1) := by decide +kernel
theorem dX10_readNumbers_0 : decode cX10_readNumbers 0 = .ok (.aload_n 0, 1) := by decide +kernel
theorem dX10_readNumbers_1 : decode cX10_readNumbers 1 = .ok (.getfield 65, 3) := by decide +kernel
theorem dX10_readNumbers_4 : decode cX10_readNumbers 4 = .ok (.iload_n 1, 1) := by decide +kernel
theorem dX10_readNumbers_5 : decode cX10_readNumbers 5 = .ok (.iconst 0, 1) := by decide +kernel
theorem dX10_readNumbers_6 : decode cX10_readNumbers 6 = .ok (.iastore, 1) := by decide +kernel
theorem dX10_readNumbers_7 : decode cX10_readNumbers 7 = .ok (.aload_n 0, 1) := by decide +kernel
theorem dX10_readNumbers_8 : decode cX10_readNumbers 8 = .ok (.getfield 68, 3) := by decide +kernel
theorem dX10_readNumbers_11 : decode cX10_readNumbers 11 = .ok (.iload_n 1, 1) := by decide +kernel
theorem dX10_readNumbers_12 : decode cX10_readNumbers 12 = .ok (.iconst 0, 1) := by decide +kernel
theorem dX10_readNumbers_13 : decode cX10_readNumbers 13 = .ok (.iastore, 1) := by decide +kernel
theorem dX10_readNumbers_14 : decode cX10_readNumbers 14 = .ok (.aload_n 0, 1) := by decide +kernel
theorem dX10_readNumbers_15 : decode cX10_readNumbers 15 = .ok (.getfield 71, 3) := by decide +kernel
theorem dX10_readNumbers_18 : decode cX10_readNumbers 18 = .ok (.iload_n 1, 1) := by decide +kernel
theorem dX10_readNumbers_19 : decode cX10_readNumbers 19 = .ok (.iconst 0, 1) := by decide +kernel
theorem dX10_readNumbers_20 : decode cX10_readNumbers 20 = .ok (.iastore, 1) := by decide +kernel
theorem dX10_readNumbers_21 : decode cX10_readNumbers 21 = .ok (.iload_n 2, 1) := by decide +kernel
theorem dX10_readNumbers_22 : decode cX10_readNumbers 22 = .ok (.iconst 3, 1) := by decide +kernel
theorem dX10_readNumbers_23 : decode cX10_readNumbers 23 = .ok (.if_icmp .ne 5, 3) := by decide +kernel
theorem dX10_readNumbers_26 : decode cX10_readNumbers 26 = .ok (.iconst 0, 1) := by decide +kernel
theorem dX10_readNumbers_27 : decode cX10_readNumbers 27 = .ok (.ireturn, 1) := by decide +kernel
theorem dX10_readNumbers_28 : decode cX10_readNumbers 28 = .ok (.aload_n 0, 1) := by decide +kernel
theorem dX10_readNumbers_29 : decode cX10_readNumbers 29 = .ok (.getfield 65, 3) := by decide +kernel
theorem dX10_readNumbers_32 : decode cX10_readNumbers 32 = .ok (.iload_n 1, 1) := by decide +kernel
theorem dX10_readNumbers_33 : decode cX10_readNumbers 33 = .ok (.aload_n 0, 1) := by decide +kernel
theorem dX10_readNumbers_34 : decode cX10_readNumbers 34 = .ok (.iconst 0, 1) := by decide +kernel
theorem dX10_readNumbers_35 : decode cX10_readNumbers 35 = .ok (.aload_n 0, 1) := by decide +kernel
theorem dX10_readNumbers_36 : decode cX10_readNumbers 36 = .ok (.getfield 231, 3) := by decide +kernel
theorem dX10_readNumbers_39 : decode cX10_readNumbers 39 = .ok (.ifCond .eq 8, 3) := by decide +kernel
theorem dX10_readNumbers_42 : decode cX10_readNumbers 42 = .ok (.bipush 15, 2) := by decide +kernel
theorem dX10_readNumbers_44 : decode cX10_readNumbers 44 = .ok (.goto 4, 3) := by decide +kernel
theorem dX10_readNumbers_47 : decode cX10_readNumbers 47 = .ok (.iconst 2, 1) := by decide +kernel
theorem dX10_readNumbers_48 : decode cX10_readNumbers 48 = .ok (.invokevirtual 276, 3) := by decide +kernel
theorem dX10_readNumbers_51 : decode cX10_readNumbers 51 = .ok (.iastore, 1) := by decide +kernel
theorem dX10_readNumbers_52 : decode cX10_readNumbers 52 = .ok (.aload_n 0, 1) := by decide +kernel
theorem dX10_readNumbers_53 : decode cX10_readNumbers 53 = .ok (.getfield 65, 3) := by decide +kernel
theorem dX10_readNumbers_56 : decode cX10_readNumbers 56 = .ok (.iload_n 1, 1) := by decide +kernel
theorem dX10_readNumbers_57 : decode cX10_readNumbers 57 = .ok (.iaload, 1) := by decide +kernel
theorem dX10_readNumbers_58 : decode cX10_readNumbers 58 = .ok (.iconst (-1), 1) := by decide +kernel
theorem dX10_readNumbers_59 : decode cX10_readNumbers 59 = .ok (.if_icmp .eq 10, 3) := by decide +kernel
theorem dX10_readNumbers_62 : decode cX10_readNumbers 62 = .ok (.aload_n 0, 1) := by decide +kernel
theorem dX10_readNumbers_63 : decode cX10_readNumbers 63 = .ok (.getfield 231, 3) := by decide +kernel
theorem dX10_readNumbers_66 : decode cX10_readNumbers 66 = .ok (.ifCond .ne 10, 3) := by decide +kernel
theorem dX10_readNumbers_69 : decode cX10_readNumbers 69 = .ok (.aload_n 0, 1) := by decide +kernel
theorem dX10_readNumbers_70 : decode cX10_readNumbers 70 = .ok (.getfield 65, 3) := by decide +kernel
theorem dX10_readNumbers_73 : decode cX10_readNumbers 73 = .ok (.iload_n 1, 1) := by decide +kernel
theorem dX10_readNumbers_74 : decode cX10_readNumbers 74 = .ok (.iaload, 1) := by decide +kernel
theorem dX10_readNumbers_75 : decode cX10_readNumbers 75 = .ok (.ireturn, 1) := by decide +kernel
theorem dX10_readNumbers_76 : decode cX10_readNumbers 76 = .ok (.iload_n 2, 1) := by decide +kernel
theorem dX10_readNumbers_77 : decode cX10_readNumbers 77 = .ok (.iconst 5, 1) := by decide +kernel
theorem dX10_readNumbers_78 : decode cX10_readNumbers 78 = .ok (.if_icmp .ne 16, 3) := by decide +kernel
theorem dX10_readNumbers_81 : decode cX10_readNumbers 81 = .ok (.aload_n 0, 1) := by decide +kernel
theorem dX10_readNumbers_82 : decode cX10_readNumbers 82 = .ok (.getfield 68, 3) := by decide +kernel
theorem dX10_readNumbers_85 : decode cX10_readNumbers 85 = .ok (.iload_n 1, 1) := by decide +kernel
theorem dX10_readNumbers_86 : decode cX10_readNumbers 86 = .ok (.aload_n 0, 1) := by decide +kernel
theorem dX10_readNumbers_87 : decode cX10_readNumbers 87 = .ok (.iconst 0, 1) := by decide +kernel
theorem dX10_readNumbers_88 : decode cX10_readNumbers 88 = .ok (.bipush 15, 2) := by decide +kernel
theorem dX10_readNumbers_90 : decode cX10_readNumbers 90 = .ok (.invokevirtual 276, 3) := by decide +kernel
theorem dX10_readNumbers_93 : decode cX10_readNumbers 93 = .ok (.iastore, 1) := by decide +kernel
theorem dX10_readNumbers_94 : decode cX10_readNumbers 94 = .ok (.aload_n 0, 1) := by decide +kernel
theorem dX10_readNumbers_95 : decode cX10_readNumbers 95 = .ok (.getfield 68, 3) := by decide +kernel
theorem dX10_readNumbers_98 : decode cX10_readNumbers 98 = .ok (.iload_n 1, 1) := by decide +kernel
theorem dX10_readNumbers_99 : decode cX10_readNumbers 99 = .ok (.iaload, 1) := by decide +kernel
theorem dX10_readNumbers_100 : decode cX10_readNumbers 100 = .ok (.iconst (-1), 1) := by decide +kernel
theorem dX10_readNumbers_101 : decode cX10_readNumbers 101 = .ok (.if_icmp .ne 5, 3) := by decide +kernel
theorem dX10_readNumbers_104 : decode cX10_readNumbers 104 = .ok (.iconst (-1), 1) := by decide +kernel
theorem dX10_readNumbers_105 : decode cX10_readNumbers 105 = .ok (.ireturn, 1) := by decide +kernel
theorem dX10_readNumbers_106 : decode cX10_readNumbers 106 = .ok (.aload_n 0, 1) := by decide +kernel
theorem dX10_readNumbers_107 : decode cX10_readNumbers 107 = .ok (.getfield 71, 3) := by decide +kernel
theorem dX10_readNumbers_110 : decode cX10_readNumbers 110 = .ok (.iload_n 1, 1) := by decide +kernel
theorem dX10_readNumbers_111 : decode cX10_readNumbers 111 = .ok (.iload_n 2, 1) := by decide +kernel
theorem dX10_readNumbers_112 : decode cX10_readNumbers 112 = .ok (.bipush 17, 2) := by decide +kernel
theorem dX10_readNumbers_114 : decode cX10_readNumbers 114 = .ok (.if_icmp .ne 13, 3) := by decide +kernel
theorem dX10_readNumbers_117 : decode cX10_readNumbers 117 = .ok (.aload_n 0, 1) := by decide +kernel
theorem dX10_readNumbers_118 : decode cX10_readNumbers 118 = .ok (.iconst 0, 1) := by decide +kernel
theorem dX10_readNumbers_119 : decode cX10_readNumbers 119 = .ok (.bipush 99, 2) := by decide +kernel
theorem dX10_readNumbers_121 : decode cX10_readNumbers 121 = .ok (.invokevirtual 276, 3) := by decide +kernel
theorem dX10_readNumbers_124 : decode cX10_readNumbers 124 = .ok (.goto 10, 3) := by decide +kernel
theorem dX10_readNumbers_127 : decode cX10_readNumbers 127 = .ok (.aload_n 0, 1) := by decide +kernel
theorem dX10_readNumbers_128 : decode cX10_readNumbers 128 = .ok (.iconst 1, 1) := by decide +kernel
theorem dX10_readNumbers_129 : decode cX10_readNumbers 129 = .ok (.bipush 9, 2) := by decide +kernel
theorem dX10_readNumbers_131 : decode cX10_readNumbers 131 = .ok (.invokevirtual 276, 3) := by decide +kernel
theorem dX10_readNumbers_134 : decode cX10_readNumbers 134 = .ok (.iastore, 1) := by decide +kernel
theorem dX10_readNumbers_135 : decode cX10_readNumbers 135 = .ok (.aload_n 0, 1) := by decide +kernel
theorem dX10_readNumbers_136 : decode cX10_readNumbers 136 = .ok (.getfield 71, 3) := by decide +kernel
theorem dX10_readNumbers_139 : decode cX10_readNumbers 139 = .ok (.iload_n 1, 1) := by decide +kernel
theorem dX10_readNumbers_140 : decode cX10_readNumbers 140 = .ok (.iaload, 1) := by decide +kernel
theorem dX10_readNumbers_141 : decode cX10_readNumbers 141 = .ok (.ireturn, 1) := by decide +kernel
theorem dX10_readLine_0 : decode cX10_readLine 0 = .ok (.aload_n 0, 1) := by decide +kernel
theorem dX10_readLine_1 : decode cX10_readLine 1 = .ok (.getfield 205, 3) := by decide +kernel
theorem dX10_readLine_4 : decode cX10_readLine 4 = .ok (.istore_n 2, 1) := by decide +kernel
theorem dX10_readLine_5 : decode cX10_readLine 5 = .ok (.aload_n 0, 1) := by decide +kernel
theorem dX10_readLine_6 : decode cX10_readLine 6 = .ok (.getfield 62, 3) := by decide +kernel
theorem dX10_readLine_9 : decode cX10_readLine 9 = .ok (.iload_n 1, 1) := by decide +kernel
theorem dX10_readLine_10 : decode cX10_readLine 10 = .ok (.iload_n 2, 1) := by decide +kernel
theorem dX10_readLine_11 : decode cX10_readLine 11 = .ok (.iastore, 1) := by decide +kernel
theorem dX10_readLine_12 : decode cX10_readLine 12 = .ok (.aload_n 0, 1) := by decide +kernel
theorem dX10_readLine_13 : decode cX10_readLine 13 = .ok (.invokevirtual 242, 3) := by decide +kernel
theorem dX10_readLine_16 : decode cX10_readLine 16 = .ok (.aload_n 0, 1) := by decide +kernel
theorem dX10_readLine_17 : decode cX10_readLine 17 = .ok (.iload_n 1, 1) := by decide +kernel
theorem dX10_readLine_18 : decode cX10_readLine 18 = .ok (.iload_n 2, 1) := by decide +kernel
theorem dX10_readLine_19 : decode cX10_readLine 19 = .ok (.invokevirtual 279, 3) := by decide +kernel
theorem dX10_readLine_22 : decode cX10_readLine 22 = .ok (.iconst (-1), 1) := by decide +kernel
theorem dX10_readLine_23 : decode cX10_readLine 23 = .ok (.if_icmp .ne 5, 3) := by decide +kernel
theorem dX10_readLine_26 : decode cX10_readLine 26 = .ok (.iconst (-1), 1) := by decide +kernel
theorem dX10_readLine_27 : decode cX10_readLine 27 = .ok (.ireturn, 1) := by decide +kernel
theorem dX10_readLine_28 : decode cX10_readLine 28 = .ok (.aload_n 0, 1) := by decide +kernel
theorem dX10_readLine_29 : decode cX10_readLine 29 = .ok (.getfield 74, 3) := by decide +kernel
theorem dX10_readLine_32 : decode cX10_readLine 32 = .ok (.iload_n 1, 1) := by decide +kernel
theorem dX10_readLine_33 : decode cX10_readLine 33 = .ok (.aload_n 0, 1) := by decide +kernel
theorem dX10_readLine_34 : decode cX10_readLine 34 = .ok (.getfield 228, 3) := by decide +kernel
theorem dX10_readLine_37 : decode cX10_readLine 37 = .ok (.iastore, 1) := by decide +kernel
theorem dX10_readLine_38 : decode cX10_readLine 38 = .ok (.aload_n 0, 1) := by decide +kernel
theorem dX10_readLine_39 : decode cX10_readLine 39 = .ok (.getfield 231, 3) := by decide +kernel
theorem dX10_readLine_42 : decode cX10_readLine 42 = .ok (.ifCond .ne 13, 3) := by decide +kernel
theorem dX10_readLine_45 : decode cX10_readLine 45 = .ok (.aload_n 0, 1) := by decide +kernel
theorem dX10_readLine_46 : decode cX10_readLine 46 = .ok (.invokevirtual 255, 3) := by decide +kernel
theorem dX10_readLine_49 : decode cX10_readLine 49 = .ok (.iconst (-1), 1) := by decide +kernel
theorem dX10_readLine_50 : decode cX10_readLine 50 = .ok (.if_icmp .ne 5, 3) := by decide +kernel
theorem dX10_readLine_53 : decode cX10_readLine 53 = .ok (.iconst (-1), 1) := by decide +kernel
theorem dX10_readLine_54 : decode cX10_readLine 54 = .ok (.ireturn, 1) := by decide +kernel
theorem dX10_readLine_55 : decode cX10_readLine 55 = .ok (.aload_n 0, 1) := by decide +kernel
theorem dX10_readLine_56 : decode cX10_readLine 56 = .ok (.getfield 77, 3) := by decide +kernel
theorem dX10_readLine_59 : decode cX10_readLine 59 = .ok (.iload_n 1, 1) := by decide +kernel
theorem dX10_readLine_60 : decode cX10_readLine 60 = .ok (.aload_n 0, 1) := by decide +kernel
theorem dX10_readLine_61 : decode cX10_readLine 61 = .ok (.getfield 228, 3) := by decide +kernel
theorem dX10_readLine_64 : decode cX10_readLine 64 = .ok (.iastore, 1) := by decide +kernel
theorem dX10_readLine_65 : decode cX10_readLine 65 = .ok (.aload_n 0, 1) := by decide +kernel
theorem dX10_readLine_66 : decode cX10_readLine 66 = .ok (.bipush 6, 2) := by decide +kernel
theorem dX10_readLine_68 : decode cX10_readLine 68 = .ok (.invokevirtual 264, 3) := by decide +kernel
theorem dX10_readLine_71 : decode cX10_readLine 71 = .ok (.ifCond .eq 17, 3) := by decide +kernel
theorem dX10_readLine_74 : decode cX10_readLine 74 = .ok (.aload_n 0, 1) := by decide +kernel
theorem dX10_readLine_75 : decode cX10_readLine 75 = .ok (.invokevirtual 242, 3) := by decide +kernel
theorem dX10_readLine_78 : decode cX10_readLine 78 = .ok (.aload_n 0, 1) := by decide +kernel
theorem dX10_readLine_79 : decode cX10_readLine 79 = .ok (.invokevirtual 282, 3) := by decide +kernel
theorem dX10_readLine_82 : decode cX10_readLine 82 = .ok (.iconst (-1), 1) := by decide +kernel
theorem dX10_readLine_83 : decode cX10_readLine 83 = .ok (.if_icmp .ne 5, 3) := by decide +kernel
theorem dX10_readLine_86 : decode cX10_readLine 86 = .ok (.iconst (-1), 1) := by decide +kernel
theorem dX10_readLine_87 : decode cX10_readLine 87 = .ok (.ireturn, 1) := by decide +kernel
theorem dX10_readLine_88 : decode cX10_readLine 88 = .ok (.aload_n 0, 1) := by decide +kernel
theorem dX10_readLine_89 : decode cX10_readLine 89 = .ok (.getfield 80, 3) := by decide +kernel
theorem dX10_readLine_92 : decode cX10_readLine 92 = .ok (.iload_n 1, 1) := by decide +kernel
theorem dX10_readLine_93 : decode cX10_readLine 93 = .ok (.aload_n 0, 1) := by decide +kernel
theorem dX10_readLine_94 : decode cX10_readLine 94 = .ok (.getfield 228, 3) := by decide +kernel
theorem dX10_readLine_97 : decode cX10_readLine 97 = .ok (.iastore, 1) := by decide +kernel
theorem dX10_readLine_98 : decode cX10_readLine 98 = .ok (.aload_n 0, 1) := by decide +kernel
theorem dX10_readLine_99 : decode cX10_readLine 99 = .ok (.bipush 59, 2) := by decide +kernel
theorem dX10_readLine_101 : decode cX10_readLine 101 = .ok (.invokevirtual 249, 3) := by decide +kernel
theorem dX10_readLine_104 : decode cX10_readLine 104 = .ok (.ifCond .ne 9, 3) := by decide +kernel
theorem dX10_readLine_107 : decode cX10_readLine 107 = .ok (.aload_n 0, 1) := by decide +kernel
theorem dX10_readLine_108 : decode cX10_readLine 108 = .ok (.iconst 1, 1) := by decide +kernel
theorem dX10_readLine_109 : decode cX10_readLine 109 = .ok (.invokevirtual 235, 3) := by decide +kernel
theorem dX10_readLine_112 : decode cX10_readLine 112 = .ok (.ireturn, 1) := by decide +kernel
theorem dX10_readLine_113 : decode cX10_readLine 113 = .ok (.aload_n 0, 1) := by decide +kernel
theorem dX10_readLine_114 : decode cX10_readLine 114 = .ok (.invokevirtual 242, 3) := by decide +kernel
theorem dX10_readLine_117 : decode cX10_readLine 117 = .ok (.iconst 0, 1) := by decide +kernel
theorem dX10_readLine_118 : decode cX10_readLine 118 = .ok (.ireturn, 1) := by decide +kernel
theorem dX10_readText_0 : decode cX10_readText 0 = .ok (.iconst 0, 1) := by decide +kernel
theorem dX10_readText_1 : decode cX10_readText 1 = .ok (.istore_n 1, 1) := by decide +kernel
theorem dX10_readText_2 : decode cX10_readText 2 = .ok (.aload_n 0, 1) := by decide +kernel
theorem dX10_readText_3 : decode cX10_readText 3 = .ok (.invokevirtual 285, 3) := by decide +kernel
theorem dX10_readText_6 : decode cX10_readText 6 = .ok (.ifCond .eq 36, 3) := by decide +kernel
theorem dX10_readText_9 : decode cX10_readText 9 = .ok (.iload_n 1, 1) := by decide +kernel
theorem dX10_readText_10 : decode cX10_readText 10 = .ok (.bipush 16, 2) := by decide +kernel
theorem dX10_readText_12 : decode cX10_readText 12 = .ok (.if_icmp .ne 9, 3) := by decide +kernel
theorem dX10_readText_15 : decode cX10_readText 15 = .ok (.aload_n 0, 1) := by decide +kernel
theorem dX10_readText_16 : decode cX10_readText 16 = .ok (.iconst 3, 1) := by decide +kernel
theorem dX10_readText_17 : decode cX10_readText 17 = .ok (.invokevirtual 235, 3) := by decide +kernel
theorem dX10_readText_20 : decode cX10_readText 20 = .ok (.ireturn, 1) := by decide +kernel
theorem dX10_readText_21 : decode cX10_readText 21 = .ok (.aload_n 0, 1) := by decide +kernel
theorem dX10_readText_22 : decode cX10_readText 22 = .ok (.bipush 96, 2) := by decide +kernel
theorem dX10_readText_24 : decode cX10_readText 24 = .ok (.iload_n 1, 1) := by decide +kernel
theorem dX10_readText_25 : decode cX10_readText 25 = .ok (.iadd, 1) := by decide +kernel
theorem dX10_readText_26 : decode cX10_readText 26 = .ok (.invokevirtual 289, 3) := by decide +kernel
theorem dX10_readText_29 : decode cX10_readText 29 = .ok (.iconst (-1), 1) := by decide +kernel
theorem dX10_readText_30 : decode cX10_readText 30 = .ok (.if_icmp .ne 5, 3) := by decide +kernel
theorem dX10_readText_33 : decode cX10_readText 33 = .ok (.iconst (-1), 1) := by decide +kernel
theorem dX10_readText_34 : decode cX10_readText 34 = .ok (.ireturn, 1) := by decide +kernel
theorem dX10_readText_35 : decode cX10_readText 35 = .ok (.iload_n 1, 1) := by decide +kernel
theorem dX10_readText_36 : decode cX10_readText 36 = .ok (.iconst 1, 1) := by decide +kernel
theorem dX10_readText_37 : decode cX10_readText 37 = .ok (.iadd, 1) := by decide +kernel
theorem dX10_readText_38 : decode cX10_readText 38 = .ok (.istore_n 1, 1) := by decide +kernel
theorem dX10_readText_39 : decode cX10_readText 39 = .ok (.goto (-37), 3) := by decide +kernel
theorem dX10_readText_42 : decode cX10_readText 42 = .ok (.aload_n 0, 1) := by decide +kernel
theorem dX10_readText_43 : decode cX10_readText 43 = .ok (.getfield 202, 3) := by decide +kernel
theorem dX10_readText_46 : decode cX10_readText 46 = .ok (.ifCond .ne 7, 3) := by decide +kernel
theorem dX10_readText_49 : decode cX10_readText 49 = .ok (.iload_n 1, 1) := by decide +kernel
theorem dX10_readText_50 : decode cX10_readText 50 = .ok (.goto 8, 3) := by decide +kernel
theorem dX10_readText_53 : decode cX10_readText 53 = .ok (.aload_n 0, 1) := by decide +kernel
theorem dX10_readText_54 : decode cX10_readText 54 = .ok (.iconst 1, 1) := by decide +kernel
theorem dX10_readText_55 : decode cX10_readText 55 = .ok (.invokevirtual 235, 3) := by decide +kernel
theorem dX10_readText_58 : decode cX10_readText 58 = .ok (.ireturn, 1) := by decide +kernel
theorem dX10_text_0 : decode cX10_text 0 = .ok (.aload_n 0, 1) := by decide +kernel
theorem dX10_text_1 : decode cX10_text 1 = .ok (.iconst 0, 1) := by decide +kernel
theorem dX10_text_2 : decode cX10_text 2 = .ok (.putfield 167, 3) := by decide +kernel
theorem dX10_text_5 : decode cX10_text 5 = .ok (.aload_n 0, 1) := by decide +kernel
theorem dX10_text_6 : decode cX10_text 6 = .ok (.iconst 0, 1) := by decide +kernel
theorem dX10_text_7 : decode cX10_text 7 = .ok (.putfield 292, 3) := by decide +kernel
theorem dX10_text_10 : decode cX10_text 10 = .ok (.aload_n 0, 1) := by decide +kernel
theorem dX10_text_11 : decode cX10_text 11 = .ok (.iconst (-1), 1) := by decide +kernel
theorem dX10_text_12 : decode cX10_text 12 = .ok (.putfield 92, 3) := by decide +kernel
theorem dX10_text_15 : decode cX10_text 15 = .ok (.iload_n 1, 1) := by decide +kernel
theorem dX10_text_16 : decode cX10_text 16 = .ok (.ifCond .ne 13, 3) := by decide +kernel
theorem dX10_text_19 : decode cX10_text 19 = .ok (.aload_n 0, 1) := by decide +kernel
theorem dX10_text_20 : decode cX10_text 20 = .ok (.iload_n 2, 1) := by decide +kernel
theorem dX10_text_21 : decode cX10_text 21 = .ok (.iconst 0, 1) := by decide +kernel
theorem dX10_text_22 : decode cX10_text 22 = .ok (.iconst 1, 1) := by decide +kernel
theorem dX10_text_23 : decode cX10_text 23 = .ok (.invokevirtual 177, 3) := by decide +kernel
theorem dX10_text_26 : decode cX10_text 26 = .ok (.ifCond .ne 18, 3) := by decide +kernel
theorem dX10_text_29 : decode cX10_text 29 = .ok (.iload_n 1, 1) := by decide +kernel
theorem dX10_text_30 : decode cX10_text 30 = .ok (.iconst 1, 1) := by decide +kernel
theorem dX10_text_31 : decode cX10_text 31 = .ok (.if_icmp .ne 17, 3) := by decide +kernel
theorem dX10_text_34 : decode cX10_text 34 = .ok (.aload_n 0, 1) := by decide +kernel
theorem dX10_text_35 : decode cX10_text 35 = .ok (.iload_n 2, 1) := by decide +kernel
theorem dX10_text_36 : decode cX10_text 36 = .ok (.iconst 0, 1) := by decide +kernel
theorem dX10_text_37 : decode cX10_text 37 = .ok (.iconst 3, 1) := by decide +kernel
theorem dX10_text_38 : decode cX10_text 38 = .ok (.invokevirtual 177, 3) := by decide +kernel
theorem dX10_text_41 : decode cX10_text 41 = .ok (.ifCond .eq 7, 3) := by decide +kernel
theorem dX10_text_44 : decode cX10_text 44 = .ok (.iconst 1, 1) := by decide +kernel
theorem dX10_text_45 : decode cX10_text 45 = .ok (.goto 4, 3) := by decide +kernel
theorem dX10_text_48 : decode cX10_text 48 = .ok (.iconst 0, 1) := by decide +kernel
theorem dX10_text_49 : decode cX10_text 49 = .ok (.istore_n 3, 1) := by decide +kernel
theorem dX10_text_50 : decode cX10_text 50 = .ok (.aload_n 0, 1) := by decide +kernel
theorem dX10_text_51 : decode cX10_text 51 = .ok (.iload_n 1, 1) := by decide +kernel
theorem dX10_text_52 : decode cX10_text 52 = .ok (.iconst 1, 1) := by decide +kernel
theorem dX10_text_53 : decode cX10_text 53 = .ok (.if_icmp .ne 7, 3) := by decide +kernel
theorem dX10_text_56 : decode cX10_text 56 = .ok (.iconst 1, 1) := by decide +kernel
theorem dX10_text_57 : decode cX10_text 57 = .ok (.goto 4, 3) := by decide +kernel
theorem dX10_text_60 : decode cX10_text 60 = .ok (.iconst 0, 1) := by decide +kernel
theorem dX10_text_61 : decode cX10_text 61 = .ok (.putfield 231, 3) := by decide +kernel
theorem dX10_text_64 : decode cX10_text 64 = .ok (.aload_n 0, 1) := by decide +kernel
theorem dX10_text_65 : decode cX10_text 65 = .ok (.iconst 0, 1) := by decide +kernel
theorem dX10_text_66 : decode cX10_text 66 = .ok (.putfield 192, 3) := by decide +kernel
theorem dX10_text_69 : decode cX10_text 69 = .ok (.aload_n 0, 1) := by decide +kernel
theorem dX10_text_70 : decode cX10_text 70 = .ok (.iconst 0, 1) := by decide +kernel
theorem dX10_text_71 : decode cX10_text 71 = .ok (.putfield 228, 3) := by decide +kernel
theorem dX10_text_74 : decode cX10_text 74 = .ok (.aload_n 0, 1) := by decide +kernel
theorem dX10_text_75 : decode cX10_text 75 = .ok (.iconst 0, 1) := by decide +kernel
theorem dX10_text_76 : decode cX10_text 76 = .ok (.putfield 261, 3) := by decide +kernel
theorem dX10_text_79 : decode cX10_text 79 = .ok (.aload_n 0, 1) := by decide +kernel
theorem dX10_text_80 : decode cX10_text 80 = .ok (.invokevirtual 242, 3) := by decide +kernel
theorem dX10_text_83 : decode cX10_text 83 = .ok (.iload_n 3, 1) := by decide +kernel
theorem dX10_text_84 : decode cX10_text 84 = .ok (.ifCond .eq 10, 3) := by decide +kernel
theorem dX10_text_87 : decode cX10_text 87 = .ok (.aload_n 0, 1) := by decide +kernel
theorem dX10_text_88 : decode cX10_text 88 = .ok (.invokevirtual 295, 3) := by decide +kernel
theorem dX10_text_91 : decode cX10_text 91 = .ok (.goto 4, 3) := by decide +kernel
theorem dX10_text_94 : decode cX10_text 94 = .ok (.iconst (-1), 1) := by decide +kernel
theorem dX10_text_95 : decode cX10_text 95 = .ok (.istore 4, 2) := by decide +kernel
theorem dX10_text_97 : decode cX10_text 97 = .ok (.aload_n 0, 1) := by decide +kernel
theorem dX10_text_98 : decode cX10_text 98 = .ok (.iconst 0, 1) := by decide +kernel
theorem dX10_text_99 : decode cX10_text 99 = .ok (.putfield 185, 3) := by decide +kernel
theorem dX10_text_102 : decode cX10_text 102 = .ok (.iload_n 3, 1) := by decide +kernel
theorem dX10_text_103 : decode cX10_text 103 = .ok (.ifCond .eq 25, 3) := by decide +kernel
theorem dX10_text_106 : decode cX10_text 106 = .ok (.iload 4, 2) := by decide +kernel
theorem dX10_text_108 : decode cX10_text 108 = .ok (.iconst (-1), 1) := by decide +kernel
theorem dX10_text_109 : decode cX10_text 109 = .ok (.if_icmp .ne 19, 3) := by decide +kernel
theorem dX10_text_112 : decode cX10_text 112 = .ok (.aload_n 0, 1) := by decide +kernel
theorem dX10_text_113 : decode cX10_text 113 = .ok (.aload_n 0, 1) := by decide +kernel
theorem dX10_text_114 : decode cX10_text 114 = .ok (.getfield 222, 3) := by decide +kernel
theorem dX10_text_117 : decode cX10_text 117 = .ok (.putfield 292, 3) := by decide +kernel
theorem dX10_text_120 : decode cX10_text 120 = .ok (.aload_n 0, 1) := by decide +kernel
theorem dX10_text_121 : decode cX10_text 121 = .ok (.aload_n 0, 1) := by decide +kernel
theorem dX10_text_122 : decode cX10_text 122 = .ok (.getfield 225, 3) := by decide +kernel
theorem dX10_text_125 : decode cX10_text 125 = .ok (.putfield 92, 3) := by decide +kernel
theorem dX10_text_128 : decode cX10_text 128 = .ok (.iload 4, 2) := by decide +kernel
theorem dX10_text_130 : decode cX10_text 130 = .ok (.iconst (-1), 1) := by decide +kernel
theorem dX10_text_131 : decode cX10_text 131 = .ok (.if_icmp .ne 5, 3) := by decide +kernel
theorem dX10_text_134 : decode cX10_text 134 = .ok (.iconst (-1), 1) := by decide +kernel
theorem dX10_text_135 : decode cX10_text 135 = .ok (.ireturn, 1) := by decide +kernel
theorem dX10_text_136 : decode cX10_text 136 = .ok (.iload_n 1, 1) := by decide +kernel
theorem dX10_text_137 : decode cX10_text 137 = .ok (.ifCond .ne 7, 3) := by decide +kernel
theorem dX10_text_140 : decode cX10_text 140 = .ok (.iload_n 2, 1) := by decide +kernel
theorem dX10_text_141 : decode cX10_text 141 = .ok (.goto 6, 3) := by decide +kernel
theorem dX10_text_144 : decode cX10_text 144 = .ok (.iconst 2, 1) := by decide +kernel
theorem dX10_text_145 : decode cX10_text 145 = .ok (.iload_n 2, 1) := by decide +kernel
theorem dX10_text_146 : decode cX10_text 146 = .ok (.iadd, 1) := by decide +kernel
theorem dX10_text_147 : decode cX10_text 147 = .ok (.istore 5, 2) := by decide +kernel
theorem dX10_text_149 : decode cX10_text 149 = .ok (.iconst 0, 1) := by decide +kernel
theorem dX10_text_150 : decode cX10_text 150 = .ok (.istore 6, 2) := by decide +kernel
theorem dX10_text_152 : decode cX10_text 152 = .ok (.iload 6, 2) := by decide +kernel
theorem dX10_text_154 : decode cX10_text 154 = .ok (.iload 4, 2) := by decide +kernel
theorem dX10_text_156 : decode cX10_text 156 = .ok (.if_icmp .ge 170, 3) := by decide +kernel
theorem dX10_text_159 : decode cX10_text 159 = .ok (.aload_n 0, 1) := by decide +kernel
theorem dX10_text_160 : decode cX10_text 160 = .ok (.getfield 62, 3) := by decide +kernel
theorem dX10_text_163 : decode cX10_text 163 = .ok (.bipush 16, 2) := by decide +kernel
theorem dX10_text_165 : decode cX10_text 165 = .ok (.iload 5, 2) := by decide +kernel
theorem dX10_text_167 : decode cX10_text 167 = .ok (.imul, 1) := by decide +kernel
theorem dX10_text_168 : decode cX10_text 168 = .ok (.iload 6, 2) := by decide +kernel
theorem dX10_text_170 : decode cX10_text 170 = .ok (.iadd, 1) := by decide +kernel
theorem dX10_text_171 : decode cX10_text 171 = .ok (.aload_n 0, 1) := by decide +kernel
theorem dX10_text_172 : decode cX10_text 172 = .ok (.getfield 62, 3) := by decide +kernel
theorem dX10_text_175 : decode cX10_text 175 = .ok (.bipush 96, 2) := by decide +kernel
theorem dX10_text_177 : decode cX10_text 177 = .ok (.iload 6, 2) := by decide +kernel
theorem dX10_text_179 : decode cX10_text 179 = .ok (.iadd, 1) := by decide +kernel
theorem dX10_text_180 : decode cX10_text 180 = .ok (.iaload, 1) := by decide +kernel
theorem dX10_text_181 : decode cX10_text 181 = .ok (.iastore, 1) := by decide +kernel
theorem dX10_text_182 : decode cX10_text 182 = .ok (.aload_n 0, 1) := by decide +kernel
theorem dX10_text_183 : decode cX10_text 183 = .ok (.getfield 65, 3) := by decide +kernel
theorem dX10_text_186 : decode cX10_text 186 = .ok (.bipush 16, 2) := by decide +kernel
theorem dX10_text_188 : decode cX10_text 188 = .ok (.iload 5, 2) := by decide +kernel
theorem dX10_text_190 : decode cX10_text 190 = .ok (.imul, 1) := by decide +kernel
theorem dX10_text_191 : decode cX10_text 191 = .ok (.iload 6, 2) := by decide +kernel
theorem dX10_text_193 : decode cX10_text 193 = .ok (.iadd, 1) := by decide +kernel
theorem dX10_text_194 : decode cX10_text 194 = .ok (.aload_n 0, 1) := by decide +kernel
theorem dX10_text_195 : decode cX10_text 195 = .ok (.getfield 65, 3) := by decide +kernel
theorem dX10_text_198 : decode cX10_text 198 = .ok (.bipush 96, 2) := by decide +kernel
theorem dX10_text_200 : decode cX10_text 200 = .ok (.iload 6, 2) := by decide +kernel
theorem dX10_text_202 : decode cX10_text 202 = .ok (.iadd, 1) := by decide +kernel
theorem dX10_text_203 : decode cX10_text 203 = .ok (.iaload, 1) := by decide +kernel
theorem dX10_text_204 : decode cX10_text 204 = .ok (.iastore, 1) := by decide +kernel
theorem dX10_text_205 : decode cX10_text 205 = .ok (.aload_n 0, 1) := by decide +kernel
theorem dX10_text_206 : decode cX10_text 206 = .ok (.getfield 68, 3) := by decide +kernel
theorem dX10_text_209 : decode cX10_text 209 = .ok (.bipush 16, 2) := by decide +kernel
theorem dX10_text_211 : decode cX10_text 211 = .ok (.iload 5, 2) := by decide +kernel
theorem dX10_text_213 : decode cX10_text 213 = .ok (.imul, 1) := by decide +kernel
theorem dX10_text_214 : decode cX10_text 214 = .ok (.iload 6, 2) := by decide +kernel
theorem dX10_text_216 : decode cX10_text 216 = .ok (.iadd, 1) := by decide +kernel
theorem dX10_text_217 : decode cX10_text 217 = .ok (.aload_n 0, 1) := by decide +kernel
theorem dX10_text_218 : decode cX10_text 218 = .ok (.getfield 68, 3) := by decide +kernel
theorem dX10_text_221 : decode cX10_text 221 = .ok (.bipush 96, 2) := by decide +kernel
theorem dX10_text_223 : decode cX10_text 223 = .ok (.iload 6, 2) := by decide +kernel
theorem dX10_text_225 : decode cX10_text 225 = .ok (.iadd, 1) := by decide +kernel
theorem dX10_text_226 : decode cX10_text 226 = .ok (.iaload, 1) := by decide +kernel
theorem dX10_text_227 : decode cX10_text 227 = .ok (.iastore, 1) := by decide +kernel
theorem dX10_text_228 : decode cX10_text 228 = .ok (.aload_n 0, 1) := by decide +kernel
theorem dX10_text_229 : decode cX10_text 229 = .ok (.getfield 71, 3) := by decide +kernel
theorem dX10_text_232 : decode cX10_text 232 = .ok (.bipush 16, 2) := by decide +kernel
theorem dX10_text_234 : decode cX10_text 234 = .ok (.iload 5, 2) := by decide +kernel
theorem dX10_text_236 : decode cX10_text 236 = .ok (.imul, 1) := by decide +kernel
theorem dX10_text_237 : decode cX10_text 237 = .ok (.iload 6, 2) := by decide +kernel
theorem dX10_text_239 : decode cX10_text 239 = .ok (.iadd, 1) := by decide +kernel
theorem dX10_text_240 : decode cX10_text 240 = .ok (.aload_n 0, 1) := by decide +kernel
theorem dX10_text_241 : decode cX10_text 241 = .ok (.getfield 71, 3) := by decide +kernel
theorem dX10_text_244 : decode cX10_text 244 = .ok (.bipush 96, 2) := by decide +kernel
theorem dX10_text_246 : decode cX10_text 246 = .ok (.iload 6, 2) := by decide +kernel
theorem dX10_text_248 : decode cX10_text 248 = .ok (.iadd, 1) := by decide +kernel
theorem dX10_text_249 : decode cX10_text 249 = .ok (.iaload, 1) := by decide +kernel
theorem dX10_text_250 : decode cX10_text 250 = .ok (.iastore, 1) := by decide +kernel
theorem dX10_text_251 : decode cX10_text 251 = .ok (.aload_n 0, 1) := by decide +kernel
theorem dX10_text_252 : decode cX10_text 252 = .ok (.getfield 74, 3) := by decide +kernel
theorem dX10_text_255 : decode cX10_text 255 = .ok (.bipush 16, 2) := by decide +kernel
theorem dX10_text_257 : decode cX10_text 257 = .ok (.iload 5, 2) := by decide +kernel
theorem dX10_text_259 : decode cX10_text 259 = .ok (.imul, 1) := by decide +kernel
theorem dX10_text_260 : decode cX10_text 260 = .ok (.iload 6, 2) := by decide +kernel
theorem dX10_text_262 : decode cX10_text 262 = .ok (.iadd, 1) := by decide +kernel
theorem dX10_text_263 : decode cX10_text 263 = .ok (.aload_n 0, 1) := by decide +kernel
theorem dX10_text_264 : decode cX10_text 264 = .ok (.getfield 74, 3) := by decide +kernel
theorem dX10_text_267 : decode cX10_text 267 = .ok (.bipush 96, 2) := by decide +kernel
theorem dX10_text_269 : decode cX10_text 269 = .ok (.iload 6, 2) := by decide +kernel
theorem dX10_text_271 : decode cX10_text 271 = .ok (.iadd, 1) := by decide +kernel
theorem dX10_text_272 : decode cX10_text 272 = .ok (.iaload, 1) := by decide +kernel
theorem dX10_text_273 : decode cX10_text 273 = .ok (.iastore, 1) := by decide +kernel
theorem dX10_text_274 : decode cX10_text 274 = .ok (.aload_n 0, 1) := by decide +kernel
theorem dX10_text_275 : decode cX10_text 275 = .ok (.getfield 77, 3) := by decide +kernel
theorem dX10_text_278 : decode cX10_text 278 = .ok (.bipush 16, 2) := by decide +kernel
theorem dX10_text_280 : decode cX10_text 280 = .ok (.iload 5, 2) := by decide +kernel
theorem dX10_text_282 : decode cX10_text 282 = .ok (.imul, 1) := by decide +kernel
theorem dX10_text_283 : decode cX10_text 283 = .ok (.iload 6, 2) := by decide +kernel
theorem dX10_text_285 : decode cX10_text 285 = .ok (.iadd, 1) := by decide +kernel
theorem dX10_text_286 : decode cX10_text 286 = .ok (.aload_n 0, 1) := by decide +kernel
theorem dX10_text_287 : decode cX10_text 287 = .ok (.getfield 77, 3) := by decide +kernel
theorem dX10_text_290 : decode cX10_text 290 = .ok (.bipush 96, 2) := by decide +kernel
theorem dX10_text_292 : decode cX10_text 292 = .ok (.iload 6, 2) := by decide +kernel
theorem dX10_text_294 : decode cX10_text 294 = .ok (.iadd, 1) := by decide +kernel
theorem dX10_text_295 : decode cX10_text 295 = .ok (.iaload, 1) := by decide +kernel
theorem dX10_text_296 : decode cX10_text 296 = .ok (.iastore, 1) := by decide +kernel
theorem dX10_text_297 : decode cX10_text 297 = .ok (.aload_n 0, 1) := by decide +kernel
theorem dX10_text_298 : decode cX10_text 298 = .ok (.getfield 80, 3) := by decide +kernel
