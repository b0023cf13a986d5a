theorem dX6_joined_96 : decode cX6_joined 96 = .ok (.iconst 1, 1) := by decide +kernel
theorem dX6_joined_97 : decode cX6_joined 97 = .ok (.goto 4, 3) := by decide +kernel
theorem dX6_joined_100 : decode cX6_joined 100 = .ok (.iconst 0, 1) := by decide +kernel
theorem dX6_joined_101 : decode cX6_joined 101 = .ok (.ireturn, 1) := by decide +kernel
theorem dX6_joined_102 : decode cX6_joined 102 = .ok (.iload_n 1, 1) := by decide +kernel
theorem dX6_joined_103 : decode cX6_joined 103 = .ok (.iload_n 2, 1) := by decide +kernel
theorem dX6_joined_104 : decode cX6_joined 104 = .ok (.if_icmp .le 7, 3) := by decide +kernel
theorem dX6_joined_107 : decode cX6_joined 107 = .ok (.iconst 1, 1) := by decide +kernel
theorem dX6_joined_108 : decode cX6_joined 108 = .ok (.goto 4, 3) := by decide +kernel
theorem dX6_joined_111 : decode cX6_joined 111 = .ok (.iconst 0, 1) := by decide +kernel
theorem dX6_joined_112 : decode cX6_joined 112 = .ok (.ireturn, 1) := by decide +kernel
theorem dX6_joined_113 : decode cX6_joined 113 = .ok (.iload_n 1, 1) := by decide +kernel
theorem dX6_joined_114 : decode cX6_joined 114 = .ok (.iload_n 2, 1) := by decide +kernel
theorem dX6_joined_115 : decode cX6_joined 115 = .ok (.iand, 1) := by decide +kernel
theorem dX6_joined_116 : decode cX6_joined 116 = .ok (.ireturn, 1) := by decide +kernel
theorem dX6_joined_117 : decode cX6_joined 117 = .ok (.iload_n 1, 1) := by decide +kernel
theorem dX6_joined_118 : decode cX6_joined 118 = .ok (.iload_n 2, 1) := by decide +kernel
theorem dX6_joined_119 : decode cX6_joined 119 = .ok (.ior, 1) := by decide +kernel
theorem dX6_joined_120 : decode cX6_joined 120 = .ok (.ireturn, 1) := by decide +kernel
theorem dX7_init_0 : decode cX7_init 0 = .ok (.aload_n 0, 1) := by decide +kernel
theorem dX7_init_1 : decode cX7_init 1 = .ok (.invokespecial 3, 3) := by decide +kernel
theorem dX7_init_4 : decode cX7_init 4 = .ok (.aload_n 0, 1) := by decide +kernel
theorem dX7_init_5 : decode cX7_init 5 = .ok (.bipush 16, 2) := by decide +kernel
theorem dX7_init_7 : decode cX7_init 7 = .ok (.newarray .int, 2) := by decide +kernel
theorem dX7_init_9 : decode cX7_init 9 = .ok (.putfield 9, 3) := by decide +kernel
theorem dX7_init_12 : decode cX7_init 12 = .ok (.aload_n 0, 1) := by decide +kernel
theorem dX7_init_13 : decode cX7_init 13 = .ok (.bipush 16, 2) := by decide +kernel
theorem dX7_init_15 : decode cX7_init 15 = .ok (.newarray .int, 2) := by decide +kernel
theorem dX7_init_17 : decode cX7_init 17 = .ok (.putfield 15, 3) := by decide +kernel
theorem dX7_init_20 : decode cX7_init 20 = .ok (.aload_n 0, 1) := by decide +kernel
theorem dX7_init_21 : decode cX7_init 21 = .ok (.bipush 16, 2) := by decide +kernel
theorem dX7_init_23 : decode cX7_init 23 = .ok (.newarray .int, 2) := by decide +kernel
theorem dX7_init_25 : decode cX7_init 25 = .ok (.putfield 18, 3) := by decide +kernel
theorem dX7_init_28 : decode cX7_init 28 = .ok (.aload_n 0, 1) := by decide +kernel
theorem dX7_init_29 : decode cX7_init 29 = .ok (.bipush 16, 2) := by decide +kernel
theorem dX7_init_31 : decode cX7_init 31 = .ok (.newarray .int, 2) := by decide +kernel
theorem dX7_init_33 : decode cX7_init 33 = .ok (.putfield 21, 3) := by decide +kernel
theorem dX7_init_36 : decode cX7_init 36 = .ok (.aload_n 0, 1) := by decide +kernel
theorem dX7_init_37 : decode cX7_init 37 = .ok (.bipush 16, 2) := by decide +kernel
theorem dX7_init_39 : decode cX7_init 39 = .ok (.newarray .int, 2) := by decide +kernel
theorem dX7_init_41 : decode cX7_init 41 = .ok (.putfield 24, 3) := by decide +kernel
theorem dX7_init_44 : decode cX7_init 44 = .ok (.aload_n 0, 1) := by decide +kernel
theorem dX7_init_45 : decode cX7_init 45 = .ok (.bipush 16, 2) := by decide +kernel
theorem dX7_init_47 : decode cX7_init 47 = .ok (.newarray .int, 2) := by decide +kernel
theorem dX7_init_49 : decode cX7_init 49 = .ok (.putfield 27, 3) := by decide +kernel
theorem dX7_init_52 : decode cX7_init 52 = .ok (.aload_n 0, 1) := by decide +kernel
theorem dX7_init_53 : decode cX7_init 53 = .ok (.bipush 16, 2) := by decide +kernel
theorem dX7_init_55 : decode cX7_init 55 = .ok (.newarray .int, 2) := by decide +kernel
theorem dX7_init_57 : decode cX7_init 57 = .ok (.putfield 30, 3) := by decide +kernel
theorem dX7_init_60 : decode cX7_init 60 = .ok (.aload_n 0, 1) := by decide +kernel
theorem dX7_init_61 : decode cX7_init 61 = .ok (.sipush 500, 3) := by decide +kernel
theorem dX7_init_64 : decode cX7_init 64 = .ok (.newarray .int, 2) := by decide +kernel
theorem dX7_init_66 : decode cX7_init 66 = .ok (.putfield 33, 3) := by decide +kernel
theorem dX7_init_69 : decode cX7_init 69 = .ok (.return_, 1) := by decide +kernel
theorem dX7_clear_0 : decode cX7_clear 0 = .ok (.aload_n 0, 1) := by decide +kernel
theorem dX7_clear_1 : decode cX7_clear 1 = .ok (.iconst 0, 1) := by decide +kernel
theorem dX7_clear_2 : decode cX7_clear 2 = .ok (.putfield 36, 3) := by decide +kernel
theorem dX7_clear_5 : decode cX7_clear 5 = .ok (.aload_n 0, 1) := by decide +kernel
theorem dX7_clear_6 : decode cX7_clear 6 = .ok (.iconst 0, 1) := by decide +kernel
theorem dX7_clear_7 : decode cX7_clear 7 = .ok (.putfield 40, 3) := by decide +kernel
theorem dX7_clear_10 : decode cX7_clear 10 = .ok (.return_, 1) := by decide +kernel
theorem dX7_addStep_0 : decode cX7_addStep 0 = .ok (.aload_n 0, 1) := by decide +kernel
theorem dX7_addStep_1 : decode cX7_addStep 1 = .ok (.getfield 40, 3) := by decide +kernel
theorem dX7_addStep_4 : decode cX7_addStep 4 = .ok (.sipush 500, 3) := by decide +kernel
theorem dX7_addStep_7 : decode cX7_addStep 7 = .ok (.if_icmp .ge 28, 3) := by decide +kernel
theorem dX7_addStep_10 : decode cX7_addStep 10 = .ok (.aload_n 0, 1) := by decide +kernel
theorem dX7_addStep_11 : decode cX7_addStep 11 = .ok (.getfield 33, 3) := by decide +kernel
theorem dX7_addStep_14 : decode cX7_addStep 14 = .ok (.aload_n 0, 1) := by decide +kernel
theorem dX7_addStep_15 : decode cX7_addStep 15 = .ok (.getfield 40, 3) := by decide +kernel
theorem dX7_addStep_18 : decode cX7_addStep 18 = .ok (.iload_n 1, 1) := by decide +kernel
theorem dX7_addStep_19 : decode cX7_addStep 19 = .ok (.ldc 43, 2) := by decide +kernel
theorem dX7_addStep_21 : decode cX7_addStep 21 = .ok (.imul, 1) := by decide +kernel
theorem dX7_addStep_22 : decode cX7_addStep 22 = .ok (.iload_n 2, 1) := by decide +kernel
theorem dX7_addStep_23 : decode cX7_addStep 23 = .ok (.iadd, 1) := by decide +kernel
theorem dX7_addStep_24 : decode cX7_addStep 24 = .ok (.iastore, 1) := by decide +kernel
theorem dX7_addStep_25 : decode cX7_addStep 25 = .ok (.aload_n 0, 1) := by decide +kernel
theorem dX7_addStep_26 : decode cX7_addStep 26 = .ok (.dup, 1) := by decide +kernel
theorem dX7_addStep_27 : decode cX7_addStep 27 = .ok (.getfield 40, 3) := by decide +kernel
theorem dX7_addStep_30 : decode cX7_addStep 30 = .ok (.iconst 1, 1) := by decide +kernel
theorem dX7_addStep_31 : decode cX7_addStep 31 = .ok (.iadd, 1) := by decide +kernel
theorem dX7_addStep_32 : decode cX7_addStep 32 = .ok (.putfield 40, 3) := by decide +kernel
theorem dX7_addStep_35 : decode cX7_addStep 35 = .ok (.return_, 1) := by decide +kernel
theorem dX7_hasWhen_0 : decode cX7_hasWhen 0 = .ok (.aload_n 0, 1) := by decide +kernel
theorem dX7_hasWhen_1 : decode cX7_hasWhen 1 = .ok (.getfield 27, 3) := by decide +kernel
theorem dX7_hasWhen_4 : decode cX7_hasWhen 4 = .ok (.iload_n 1, 1) := by decide +kernel
theorem dX7_hasWhen_5 : decode cX7_hasWhen 5 = .ok (.iaload, 1) := by decide +kernel
theorem dX7_hasWhen_6 : decode cX7_hasWhen 6 = .ok (.aload_n 0, 1) := by decide +kernel
theorem dX7_hasWhen_7 : decode cX7_hasWhen 7 = .ok (.getfield 30, 3) := by decide +kernel
theorem dX7_hasWhen_10 : decode cX7_hasWhen 10 = .ok (.iload_n 1, 1) := by decide +kernel
theorem dX7_hasWhen_11 : decode cX7_hasWhen 11 = .ok (.iaload, 1) := by decide +kernel
theorem dX7_hasWhen_12 : decode cX7_hasWhen 12 = .ok (.if_icmp .ge 7, 3) := by decide +kernel
theorem dX7_hasWhen_15 : decode cX7_hasWhen 15 = .ok (.iconst 1, 1) := by decide +kernel
theorem dX7_hasWhen_16 : decode cX7_hasWhen 16 = .ok (.goto 4, 3) := by decide +kernel
theorem dX7_hasWhen_19 : decode cX7_hasWhen 19 = .ok (.iconst 0, 1) := by decide +kernel
theorem dX7_hasWhen_20 : decode cX7_hasWhen 20 = .ok (.ireturn, 1) := by decide +kernel
theorem dX7_copyFrom_0 : decode cX7_copyFrom 0 = .ok (.aload_n 0, 1) := by decide +kernel
theorem dX7_copyFrom_1 : decode cX7_copyFrom 1 = .ok (.aload_n 1, 1) := by decide +kernel
theorem dX7_copyFrom_2 : decode cX7_copyFrom 2 = .ok (.getfield 36, 3) := by decide +kernel
theorem dX7_copyFrom_5 : decode cX7_copyFrom 5 = .ok (.putfield 36, 3) := by decide +kernel
theorem dX7_copyFrom_8 : decode cX7_copyFrom 8 = .ok (.aload_n 1, 1) := by decide +kernel
theorem dX7_copyFrom_9 : decode cX7_copyFrom 9 = .ok (.getfield 9, 3) := by decide +kernel
theorem dX7_copyFrom_12 : decode cX7_copyFrom 12 = .ok (.iconst 0, 1) := by decide +kernel
theorem dX7_copyFrom_13 : decode cX7_copyFrom 13 = .ok (.aload_n 0, 1) := by decide +kernel
theorem dX7_copyFrom_14 : decode cX7_copyFrom 14 = .ok (.getfield 9, 3) := by decide +kernel
theorem dX7_copyFrom_17 : decode cX7_copyFrom 17 = .ok (.iconst 0, 1) := by decide +kernel
theorem dX7_copyFrom_18 : decode cX7_copyFrom 18 = .ok (.bipush 16, 2) := by decide +kernel
theorem dX7_copyFrom_20 : decode cX7_copyFrom 20 = .ok (.invokestatic 44, 3) := by decide +kernel
theorem dX7_copyFrom_23 : decode cX7_copyFrom 23 = .ok (.aload_n 1, 1) := by decide +kernel
theorem dX7_copyFrom_24 : decode cX7_copyFrom 24 = .ok (.getfield 15, 3) := by decide +kernel
theorem dX7_copyFrom_27 : decode cX7_copyFrom 27 = .ok (.iconst 0, 1) := by decide +kernel
theorem dX7_copyFrom_28 : decode cX7_copyFrom 28 = .ok (.aload_n 0, 1) := by decide +kernel
theorem dX7_copyFrom_29 : decode cX7_copyFrom 29 = .ok (.getfield 15, 3) := by decide +kernel
theorem dX7_copyFrom_32 : decode cX7_copyFrom 32 = .ok (.iconst 0, 1) := by decide +kernel
theorem dX7_copyFrom_33 : decode cX7_copyFrom 33 = .ok (.bipush 16, 2) := by decide +kernel
theorem dX7_copyFrom_35 : decode cX7_copyFrom 35 = .ok (.invokestatic 44, 3) := by decide +kernel
theorem dX7_copyFrom_38 : decode cX7_copyFrom 38 = .ok (.aload_n 1, 1) := by decide +kernel
theorem dX7_copyFrom_39 : decode cX7_copyFrom 39 = .ok (.getfield 18, 3) := by decide +kernel
theorem dX7_copyFrom_42 : decode cX7_copyFrom 42 = .ok (.iconst 0, 1) := by decide +kernel
theorem dX7_copyFrom_43 : decode cX7_copyFrom 43 = .ok (.aload_n 0, 1) := by decide +kernel
theorem dX7_copyFrom_44 : decode cX7_copyFrom 44 = .ok (.getfield 18, 3) := by decide +kernel
theorem dX7_copyFrom_47 : decode cX7_copyFrom 47 = .ok (.iconst 0, 1) := by decide +kernel
theorem dX7_copyFrom_48 : decode cX7_copyFrom 48 = .ok (.bipush 16, 2) := by decide +kernel
theorem dX7_copyFrom_50 : decode cX7_copyFrom 50 = .ok (.invokestatic 44, 3) := by decide +kernel
theorem dX7_copyFrom_53 : decode cX7_copyFrom 53 = .ok (.aload_n 1, 1) := by decide +kernel
theorem dX7_copyFrom_54 : decode cX7_copyFrom 54 = .ok (.getfield 21, 3) := by decide +kernel
theorem dX7_copyFrom_57 : decode cX7_copyFrom 57 = .ok (.iconst 0, 1) := by decide +kernel
theorem dX7_copyFrom_58 : decode cX7_copyFrom 58 = .ok (.aload_n 0, 1) := by decide +kernel
theorem dX7_copyFrom_59 : decode cX7_copyFrom 59 = .ok (.getfield 21, 3) := by decide +kernel
theorem dX7_copyFrom_62 : decode cX7_copyFrom 62 = .ok (.iconst 0, 1) := by decide +kernel
theorem dX7_copyFrom_63 : decode cX7_copyFrom 63 = .ok (.bipush 16, 2) := by decide +kernel
theorem dX7_copyFrom_65 : decode cX7_copyFrom 65 = .ok (.invokestatic 44, 3) := by decide +kernel
theorem dX7_copyFrom_68 : decode cX7_copyFrom 68 = .ok (.aload_n 1, 1) := by decide +kernel
theorem dX7_copyFrom_69 : decode cX7_copyFrom 69 = .ok (.getfield 24, 3) := by decide +kernel
theorem dX7_copyFrom_72 : decode cX7_copyFrom 72 = .ok (.iconst 0, 1) := by decide +kernel
theorem dX7_copyFrom_73 : decode cX7_copyFrom 73 = .ok (.aload_n 0, 1) := by decide +kernel
theorem dX7_copyFrom_74 : decode cX7_copyFrom 74 = .ok (.getfield 24, 3) := by decide +kernel
theorem dX7_copyFrom_77 : decode cX7_copyFrom 77 = .ok (.iconst 0, 1) := by decide +kernel
theorem dX7_copyFrom_78 : decode cX7_copyFrom 78 = .ok (.bipush 16, 2) := by decide +kernel
theorem dX7_copyFrom_80 : decode cX7_copyFrom 80 = .ok (.invokestatic 44, 3) := by decide +kernel
theorem dX7_copyFrom_83 : decode cX7_copyFrom 83 = .ok (.aload_n 1, 1) := by decide +kernel
theorem dX7_copyFrom_84 : decode cX7_copyFrom 84 = .ok (.getfield 27, 3) := by decide +kernel
theorem dX7_copyFrom_87 : decode cX7_copyFrom 87 = .ok (.iconst 0, 1) := by decide +kernel
theorem dX7_copyFrom_88 : decode cX7_copyFrom 88 = .ok (.aload_n 0, 1) := by decide +kernel
theorem dX7_copyFrom_89 : decode cX7_copyFrom 89 = .ok (.getfield 27, 3) := by decide +kernel
theorem dX7_copyFrom_92 : decode cX7_copyFrom 92 = .ok (.iconst 0, 1) := by decide +kernel
theorem dX7_copyFrom_93 : decode cX7_copyFrom 93 = .ok (.bipush 16, 2) := by decide +kernel
theorem dX7_copyFrom_95 : decode cX7_copyFrom 95 = .ok (.invokestatic 44, 3) := by decide +kernel
theorem dX7_copyFrom_98 : decode cX7_copyFrom 98 = .ok (.aload_n 1, 1) := by decide +kernel
theorem dX7_copyFrom_99 : decode cX7_copyFrom 99 = .ok (.getfield 30, 3) := by decide +kernel
theorem dX7_copyFrom_102 : decode cX7_copyFrom 102 = .ok (.iconst 0, 1) := by decide +kernel
theorem dX7_copyFrom_103 : decode cX7_copyFrom 103 = .ok (.aload_n 0, 1) := by decide +kernel
theorem dX7_copyFrom_104 : decode cX7_copyFrom 104 = .ok (.getfield 30, 3) := by decide +kernel
theorem dX7_copyFrom_107 : decode cX7_copyFrom 107 = .ok (.iconst 0, 1) := by decide +kernel
theorem dX7_copyFrom_108 : decode cX7_copyFrom 108 = .ok (.bipush 16, 2) := by decide +kernel
theorem dX7_copyFrom_110 : decode cX7_copyFrom 110 = .ok (.invokestatic 44, 3) := by decide +kernel
theorem dX7_copyFrom_113 : decode cX7_copyFrom 113 = .ok (.aload_n 1, 1) := by decide +kernel
theorem dX7_copyFrom_114 : decode cX7_copyFrom 114 = .ok (.getfield 33, 3) := by decide +kernel
theorem dX7_copyFrom_117 : decode cX7_copyFrom 117 = .ok (.iconst 0, 1) := by decide +kernel
theorem dX7_copyFrom_118 : decode cX7_copyFrom 118 = .ok (.aload_n 0, 1) := by decide +kernel
theorem dX7_copyFrom_119 : decode cX7_copyFrom 119 = .ok (.getfield 33, 3) := by decide +kernel
theorem dX7_copyFrom_122 : decode cX7_copyFrom 122 = .ok (.iconst 0, 1) := by decide +kernel
theorem dX7_copyFrom_123 : decode cX7_copyFrom 123 = .ok (.aload_n 1, 1) := by decide +kernel
theorem dX7_copyFrom_124 : decode cX7_copyFrom 124 = .ok (.getfield 40, 3) := by decide +kernel
theorem dX7_copyFrom_127 : decode cX7_copyFrom 127 = .ok (.invokestatic 44, 3) := by decide +kernel
theorem dX7_copyFrom_130 : decode cX7_copyFrom 130 = .ok (.aload_n 0, 1) := by decide +kernel
theorem dX7_copyFrom_131 : decode cX7_copyFrom 131 = .ok (.aload_n 1, 1) := by decide +kernel
theorem dX7_copyFrom_132 : decode cX7_copyFrom 132 = .ok (.getfield 40, 3) := by decide +kernel
theorem dX7_copyFrom_135 : decode cX7_copyFrom 135 = .ok (.putfield 40, 3) := by decide +kernel
theorem dX7_copyFrom_138 : decode cX7_copyFrom 138 = .ok (.return_, 1) := by decide +kernel
theorem dX8_init_0 : decode cX8_init 0 = .ok (.aload_n 0, 1) := by decide +kernel
theorem dX8_init_1 : decode cX8_init 1 = .ok (.invokespecial 3, 3) := by decide +kernel
theorem dX8_init_4 : decode cX8_init 4 = .ok (.aload_n 0, 1) := by decide +kernel
theorem dX8_init_5 : decode cX8_init 5 = .ok (.bipush 10, 2) := by decide +kernel
theorem dX8_init_7 : decode cX8_init 7 = .ok (.anewarray 9, 3) := by decide +kernel
theorem dX8_init_10 : decode cX8_init 10 = .ok (.putfield 11, 3) := by decide +kernel
theorem dX8_init_13 : decode cX8_init 13 = .ok (.aload_n 0, 1) := by decide +kernel
theorem dX8_init_14 : decode cX8_init 14 = .ok (.iconst 2, 1) := by decide +kernel
theorem dX8_init_15 : decode cX8_init 15 = .ok (.anewarray 17, 3) := by decide +kernel
theorem dX8_init_18 : decode cX8_init 18 = .ok (.putfield 19, 3) := by decide +kernel
theorem dX8_init_21 : decode cX8_init 21 = .ok (.aload_n 0, 1) := by decide +kernel
theorem dX8_init_22 : decode cX8_init 22 = .ok (.iconst 4, 1) := by decide +kernel
theorem dX8_init_23 : decode cX8_init 23 = .ok (.anewarray 17, 3) := by decide +kernel
theorem dX8_init_26 : decode cX8_init 26 = .ok (.putfield 23, 3) := by decide +kernel
theorem dX8_init_29 : decode cX8_init 29 = .ok (.aload_n 0, 1) := by decide +kernel
theorem dX8_init_30 : decode cX8_init 30 = .ok (.bipush 10, 2) := by decide +kernel
theorem dX8_init_32 : decode cX8_init 32 = .ok (.putfield 26, 3) := by decide +kernel
theorem dX8_init_35 : decode cX8_init 35 = .ok (.aload_n 0, 1) := by decide +kernel
theorem dX8_init_36 : decode cX8_init 36 = .ok (.iconst (-1), 1) := by decide +kernel
theorem dX8_init_37 : decode cX8_init 37 = .ok (.putfield 30, 3) := by decide +kernel
theorem dX8_init_40 : decode cX8_init 40 = .ok (.aload_n 0, 1) := by decide +kernel
theorem dX8_init_41 : decode cX8_init 41 = .ok (.bipush 20, 2) := by decide +kernel
theorem dX8_init_43 : decode cX8_init 43 = .ok (.newarray .int, 2) := by decide +kernel
theorem dX8_init_45 : decode cX8_init 45 = .ok (.putfield 33, 3) := by decide +kernel
theorem dX8_init_48 : decode cX8_init 48 = .ok (.aload_n 0, 1) := by decide +kernel
theorem dX8_init_49 : decode cX8_init 49 = .ok (.bipush 20, 2) := by decide +kernel
theorem dX8_init_51 : decode cX8_init 51 = .ok (.newarray .int, 2) := by decide +kernel
theorem dX8_init_53 : decode cX8_init 53 = .ok (.putfield 37, 3) := by decide +kernel
theorem dX8_init_56 : decode cX8_init 56 = .ok (.aload_n 0, 1) := by decide +kernel
theorem dX8_init_57 : decode cX8_init 57 = .ok (.bipush 8, 2) := by decide +kernel
theorem dX8_init_59 : decode cX8_init 59 = .ok (.newarray .int, 2) := by decide +kernel
theorem dX8_init_61 : decode cX8_init 61 = .ok (.putfield 40, 3) := by decide +kernel
theorem dX8_init_64 : decode cX8_init 64 = .ok (.aload_n 0, 1) := by decide +kernel
theorem dX8_init_65 : decode cX8_init 65 = .ok (.bipush 8, 2) := by decide +kernel
theorem dX8_init_67 : decode cX8_init 67 = .ok (.newarray .int, 2) := by decide +kernel
theorem dX8_init_69 : decode cX8_init 69 = .ok (.putfield 43, 3) := by decide +kernel
theorem dX8_init_72 : decode cX8_init 72 = .ok (.aload_n 0, 1) := by decide +kernel
theorem dX8_init_73 : decode cX8_init 73 = .ok (.bipush 8, 2) := by decide +kernel
theorem dX8_init_75 : decode cX8_init 75 = .ok (.newarray .int, 2) := by decide +kernel
theorem dX8_init_77 : decode cX8_init 77 = .ok (.putfield 46, 3) := by decide +kernel
theorem dX8_init_80 : decode cX8_init 80 = .ok (.aload_n 0, 1) := by decide +kernel
theorem dX8_init_81 : decode cX8_init 81 = .ok (.bipush 8, 2) := by decide +kernel
theorem dX8_init_83 : decode cX8_init 83 = .ok (.newarray .int, 2) := by decide +kernel
theorem dX8_init_85 : decode cX8_init 85 = .ok (.putfield 49, 3) := by decide +kernel
theorem dX8_init_88 : decode cX8_init 88 = .ok (.iconst 0, 1) := by decide +kernel
theorem dX8_init_89 : decode cX8_init 89 = .ok (.istore_n 1, 1) := by decide +kernel
theorem dX8_init_90 : decode cX8_init 90 = .ok (.iload_n 1, 1) := by decide +kernel
theorem dX8_init_91 : decode cX8_init 91 = .ok (.bipush 10, 2) := by decide +kernel
theorem dX8_init_93 : decode cX8_init 93 = .ok (.if_icmp .ge 22, 3) := by decide +kernel
theorem dX8_init_96 : decode cX8_init 96 = .ok (.aload_n 0, 1) := by decide +kernel
theorem dX8_init_97 : decode cX8_init 97 = .ok (.getfield 11, 3) := by decide +kernel
theorem dX8_init_100 : decode cX8_init 100 = .ok (.iload_n 1, 1) := by decide +kernel
theorem dX8_init_101 : decode cX8_init 101 = .ok (.new 9, 3) := by decide +kernel
theorem dX8_init_104 : decode cX8_init 104 = .ok (.dup, 1) := by decide +kernel
theorem dX8_init_105 : decode cX8_init 105 = .ok (.invokespecial 52, 3) := by decide +kernel
theorem dX8_init_108 : decode cX8_init 108 = .ok (.aastore, 1) := by decide +kernel
theorem dX8_init_109 : decode cX8_init 109 = .ok (.iinc 1 1, 3) := by decide +kernel
theorem dX8_init_112 : decode cX8_init 112 = .ok (.goto (-22), 3) := by decide +kernel
theorem dX8_init_115 : decode cX8_init 115 = .ok (.iconst 0, 1) := by decide +kernel
theorem dX8_init_116 : decode cX8_init 116 = .ok (.istore_n 1, 1) := by decide +kernel
theorem dX8_init_117 : decode cX8_init 117 = .ok (.iload_n 1, 1) := by decide +kernel
theorem dX8_init_118 : decode cX8_init 118 = .ok (.iconst 2, 1) := by decide +kernel
theorem dX8_init_119 : decode cX8_init 119 = .ok (.if_icmp .ge 22, 3) := by decide +kernel
theorem dX8_init_122 : decode cX8_init 122 = .ok (.aload_n 0, 1) := by decide +kernel
theorem dX8_init_123 : decode cX8_init 123 = .ok (.getfield 19, 3) := by decide +kernel
theorem dX8_init_126 : decode cX8_init 126 = .ok (.iload_n 1, 1) := by decide +kernel
theorem dX8_init_127 : decode cX8_init 127 = .ok (.new 17, 3) := by decide +kernel
theorem dX8_init_130 : decode cX8_init 130 = .ok (.dup, 1) := by decide +kernel
theorem dX8_init_131 : decode cX8_init 131 = .ok (.invokespecial 53, 3) := by decide +kernel
theorem dX8_init_134 : decode cX8_init 134 = .ok (.aastore, 1) := by decide +kernel
theorem dX8_init_135 : decode cX8_init 135 = .ok (.iinc 1 1, 3) := by decide +kernel
theorem dX8_init_138 : decode cX8_init 138 = .ok (.goto (-21), 3) := by decide +kernel
theorem dX8_init_141 : decode cX8_init 141 = .ok (.iconst 0, 1) := by decide +kernel
theorem dX8_init_142 : decode cX8_init 142 = .ok (.istore_n 1, 1) := by decide +kernel
theorem dX8_init_143 : decode cX8_init 143 = .ok (.iload_n 1, 1) := by decide +kernel
theorem dX8_init_144 : decode cX8_init 144 = .ok (.iconst 4, 1) := by decide +kernel
theorem dX8_init_145 : decode cX8_init 145 = .ok (.if_icmp .ge 22, 3) := by decide +kernel
theorem dX8_init_148 : decode cX8_init 148 = .ok (.aload_n 0, 1) := by decide +kernel
theorem dX8_init_149 : decode cX8_init 149 = .ok (.getfield 23, 3) := by decide +kernel
theorem dX8_init_152 : decode cX8_init 152 = .ok (.iload_n 1, 1) := by decide +kernel
theorem dX8_init_153 : decode cX8_init 153 = .ok (.new 17, 3) := by decide +kernel
theorem dX8_init_156 : decode cX8_init 156 = .ok (.dup, 1) := by decide +kernel
theorem dX8_init_157 : decode cX8_init 157 = .ok (.invokespecial 53, 3) := by decide +kernel
theorem dX8_init_160 : decode cX8_init 160 = .ok (.aastore, 1) := by decide +kernel
theorem dX8_init_161 : decode cX8_init 161 = .ok (.iinc 1 1, 3) := by decide +kernel
theorem dX8_init_164 : decode cX8_init 164 = .ok (.goto (-21), 3) := by decide +kernel
theorem dX8_init_167 : decode cX8_init 167 = .ok (.return_, 1) := by decide +kernel
theorem dX8_law_0 : decode cX8_law 0 = .ok (.aload_n 0, 1) := by decide +kernel
theorem dX8_law_1 : decode cX8_law 1 = .ok (.getfield 19, 3) := by decide +kernel
theorem dX8_law_4 : decode cX8_law 4 = .ok (.aload_n 0, 1) := by decide +kernel
theorem dX8_law_5 : decode cX8_law 5 = .ok (.getfield 54, 3) := by decide +kernel
theorem dX8_law_8 : decode cX8_law 8 = .ok (.aaload, 1) := by decide +kernel
theorem dX8_law_9 : decode cX8_law 9 = .ok (.areturn, 1) := by decide +kernel
theorem dX8_copyFrom_0 : decode cX8_copyFrom 0 = .ok (.iconst 0, 1) := by decide +kernel
theorem dX8_copyFrom_1 : decode cX8_copyFrom 1 = .ok (.istore_n 2, 1) := by decide +kernel
theorem dX8_copyFrom_2 : decode cX8_copyFrom 2 = .ok (.iload_n 2, 1) := by decide +kernel
theorem dX8_copyFrom_3 : decode cX8_copyFrom 3 = .ok (.aload_n 1, 1) := by decide +kernel
theorem dX8_copyFrom_4 : decode cX8_copyFrom 4 = .ok (.getfield 57, 3) := by decide +kernel
theorem dX8_copyFrom_7 : decode cX8_copyFrom 7 = .ok (.if_icmp .ge 24, 3) := by decide +kernel
theorem dX8_copyFrom_10 : decode cX8_copyFrom 10 = .ok (.aload_n 0, 1) := by decide +kernel
theorem dX8_copyFrom_11 : decode cX8_copyFrom 11 = .ok (.getfield 11, 3) := by decide +kernel
theorem dX8_copyFrom_14 : decode cX8_copyFrom 14 = .ok (.iload_n 2, 1) := by decide +kernel
theorem dX8_copyFrom_15 : decode cX8_copyFrom 15 = .ok (.aaload, 1) := by decide +kernel
theorem dX8_copyFrom_16 : decode cX8_copyFrom 16 = .ok (.aload_n 1, 1) := by decide +kernel
theorem dX8_copyFrom_17 : decode cX8_copyFrom 17 = .ok (.getfield 11, 3) := by decide +kernel
theorem dX8_copyFrom_20 : decode cX8_copyFrom 20 = .ok (.iload_n 2, 1) := by decide +kernel
theorem dX8_copyFrom_21 : decode cX8_copyFrom 21 = .ok (.aaload, 1) := by decide +kernel
theorem dX8_copyFrom_22 : decode cX8_copyFrom 22 = .ok (.invokevirtual 60, 3) := by decide +kernel
theorem dX8_copyFrom_25 : decode cX8_copyFrom 25 = .ok (.iinc 2 1, 3) := by decide +kernel
theorem dX8_copyFrom_28 : decode cX8_copyFrom 28 = .ok (.goto (-26), 3) := by decide +kernel
theorem dX8_copyFrom_31 : decode cX8_copyFrom 31 = .ok (.aload_n 0, 1) := by decide +kernel
theorem dX8_copyFrom_32 : decode cX8_copyFrom 32 = .ok (.aload_n 1, 1) := by decide +kernel
theorem dX8_copyFrom_33 : decode cX8_copyFrom 33 = .ok (.getfield 57, 3) := by decide +kernel
theorem dX8_copyFrom_36 : decode cX8_copyFrom 36 = .ok (.putfield 57, 3) := by decide +kernel
theorem dX8_copyFrom_39 : decode cX8_copyFrom 39 = .ok (.iconst 0, 1) := by decide +kernel
theorem dX8_copyFrom_40 : decode cX8_copyFrom 40 = .ok (.istore_n 2, 1) := by decide +kernel
theorem dX8_copyFrom_41 : decode cX8_copyFrom 41 = .ok (.iload_n 2, 1) := by decide +kernel
theorem dX8_copyFrom_42 : decode cX8_copyFrom 42 = .ok (.iconst 2, 1) := by decide +kernel
theorem dX8_copyFrom_43 : decode cX8_copyFrom 43 = .ok (.if_icmp .ge 24, 3) := by decide +kernel
theorem dX8_copyFrom_46 : decode cX8_copyFrom 46 = .ok (.aload_n 0, 1) := by decide +kernel
theorem dX8_copyFrom_47 : decode cX8_copyFrom 47 = .ok (.getfield 19, 3) := by decide +kernel
theorem dX8_copyFrom_50 : decode cX8_copyFrom 50 = .ok (.iload_n 2, 1) := by decide +kernel
theorem dX8_copyFrom_51 : decode cX8_copyFrom 51 = .ok (.aaload, 1) := by decide +kernel
theorem dX8_copyFrom_52 : decode cX8_copyFrom 52 = .ok (.aload_n 1, 1) := by decide +kernel
theorem dX8_copyFrom_53 : decode cX8_copyFrom 53 = .ok (.getfield 19, 3) := by decide +kernel
theorem dX8_copyFrom_56 : decode cX8_copyFrom 56 = .ok (.iload_n 2, 1) := by decide +kernel
theorem dX8_copyFrom_57 : decode cX8_copyFrom 57 = .ok (.aaload, 1) := by decide +kernel
theorem dX8_copyFrom_58 : decode cX8_copyFrom 58 = .ok (.invokevirtual 64, 3) := by decide +kernel
theorem dX8_copyFrom_61 : decode cX8_copyFrom 61 = .ok (.iinc 2 1, 3) := by decide +kernel
theorem dX8_copyFrom_64 : decode cX8_copyFrom 64 = .ok (.goto (-23), 3) := by decide +kernel
theorem dX8_copyFrom_67 : decode cX8_copyFrom 67 = .ok (.iconst 0, 1) := by decide +kernel
theorem dX8_copyFrom_68 : decode cX8_copyFrom 68 = .ok (.istore_n 2, 1) := by decide +kernel
theorem dX8_copyFrom_69 : decode cX8_copyFrom 69 = .ok (.iload_n 2, 1) := by decide +kernel
theorem dX8_copyFrom_70 : decode cX8_copyFrom 70 = .ok (.iconst 4, 1) := by decide +kernel
theorem dX8_copyFrom_71 : decode cX8_copyFrom 71 = .ok (.if_icmp .ge 24, 3) := by decide +kernel
theorem dX8_copyFrom_74 : decode cX8_copyFrom 74 = .ok (.aload_n 0, 1) := by decide +kernel
theorem dX8_copyFrom_75 : decode cX8_copyFrom 75 = .ok (.getfield 23, 3) := by decide +kernel
theorem dX8_copyFrom_78 : decode cX8_copyFrom 78 = .ok (.iload_n 2, 1) := by decide +kernel
theorem dX8_copyFrom_79 : decode cX8_copyFrom 79 = .ok (.aaload, 1) := by decide +kernel
theorem dX8_copyFrom_80 : decode cX8_copyFrom 80 = .ok (.aload_n 1, 1) := by decide +kernel
theorem dX8_copyFrom_81 : decode cX8_copyFrom 81 = .ok (.getfield 23, 3) := by decide +kernel
theorem dX8_copyFrom_84 : decode cX8_copyFrom 84 = .ok (.iload_n 2, 1) := by decide +kernel
theorem dX8_copyFrom_85 : decode cX8_copyFrom 85 = .ok (.aaload, 1) := by decide +kernel
theorem dX8_copyFrom_86 : decode cX8_copyFrom 86 = .ok (.invokevirtual 64, 3) := by decide +kernel
theorem dX8_copyFrom_89 : decode cX8_copyFrom 89 = .ok (.iinc 2 1, 3) := by decide +kernel
theorem dX8_copyFrom_92 : decode cX8_copyFrom 92 = .ok (.goto (-23), 3) := by decide +kernel
theorem dX8_copyFrom_95 : decode cX8_copyFrom 95 = .ok (.aload_n 0, 1) := by decide +kernel
theorem dX8_copyFrom_96 : decode cX8_copyFrom 96 = .ok (.aload_n 1, 1) := by decide +kernel
theorem dX8_copyFrom_97 : decode cX8_copyFrom 97 = .ok (.getfield 54, 3) := by decide +kernel
theorem dX8_copyFrom_100 : decode cX8_copyFrom 100 = .ok (.putfield 54, 3) := by decide +kernel
theorem dX8_copyFrom_103 : decode cX8_copyFrom 103 = .ok (.aload_n 0, 1) := by decide +kernel
theorem dX8_copyFrom_104 : decode cX8_copyFrom 104 = .ok (.aload_n 1, 1) := by decide +kernel
theorem dX8_copyFrom_105 : decode cX8_copyFrom 105 = .ok (.getfield 26, 3) := by decide +kernel
theorem dX8_copyFrom_108 : decode cX8_copyFrom 108 = .ok (.putfield 26, 3) := by decide +kernel
theorem dX8_copyFrom_111 : decode cX8_copyFrom 111 = .ok (.aload_n 0, 1) := by decide +kernel
theorem dX8_copyFrom_112 : decode cX8_copyFrom 112 = .ok (.aload_n 1, 1) := by decide +kernel
theorem dX8_copyFrom_113 : decode cX8_copyFrom 113 = .ok (.getfield 67, 3) := by decide +kernel
theorem dX8_copyFrom_116 : decode cX8_copyFrom 116 = .ok (.putfield 67, 3) := by decide +kernel
theorem dX8_copyFrom_119 : decode cX8_copyFrom 119 = .ok (.aload_n 0, 1) := by decide +kernel
theorem dX8_copyFrom_120 : decode cX8_copyFrom 120 = .ok (.aload_n 1, 1) := by decide +kernel
theorem dX8_copyFrom_121 : decode cX8_copyFrom 121 = .ok (.getfield 30, 3) := by decide +kernel
theorem dX8_copyFrom_124 : decode cX8_copyFrom 124 = .ok (.putfield 30, 3) := by decide +kernel
theorem dX8_copyFrom_127 : decode cX8_copyFrom 127 = .ok (.aload_n 1, 1) := by decide +kernel
theorem dX8_copyFrom_128 : decode cX8_copyFrom 128 = .ok (.getfield 33, 3) := by decide +kernel
theorem dX8_copyFrom_131 : decode cX8_copyFrom 131 = .ok (.iconst 0, 1) := by decide +kernel
theorem dX8_copyFrom_132 : decode cX8_copyFrom 132 = .ok (.aload_n 0, 1) := by decide +kernel
theorem dX8_copyFrom_133 : decode cX8_copyFrom 133 = .ok (.getfield 33, 3) := by decide +kernel
theorem dX8_copyFrom_136 : decode cX8_copyFrom 136 = .ok (.iconst 0, 1) := by decide +kernel
theorem dX8_copyFrom_137 : decode cX8_copyFrom 137 = .ok (.bipush 20, 2) := by decide +kernel
theorem dX8_copyFrom_139 : decode cX8_copyFrom 139 = .ok (.invokestatic 70, 3) := by decide +kernel
theorem dX8_copyFrom_142 : decode cX8_copyFrom 142 = .ok (.aload_n 1, 1) := by decide +kernel
theorem dX8_copyFrom_143 : decode cX8_copyFrom 143 = .ok (.getfield 37, 3) := by decide +kernel
theorem dX8_copyFrom_146 : decode cX8_copyFrom 146 = .ok (.iconst 0, 1) := by decide +kernel
theorem dX8_copyFrom_147 : decode cX8_copyFrom 147 = .ok (.aload_n 0, 1) := by decide +kernel
theorem dX8_copyFrom_148 : decode cX8_copyFrom 148 = .ok (.getfield 37, 3) := by decide +kernel
theorem dX8_copyFrom_151 : decode cX8_copyFrom 151 = .ok (.iconst 0, 1) := by decide +kernel
theorem dX8_copyFrom_152 : decode cX8_copyFrom 152 = .ok (.bipush 20, 2) := by decide +kernel
theorem dX8_copyFrom_154 : decode cX8_copyFrom 154 = .ok (.invokestatic 70, 3) := by decide +kernel
theorem dX8_copyFrom_157 : decode cX8_copyFrom 157 = .ok (.aload_n 0, 1) := by decide +kernel
theorem dX8_copyFrom_158 : decode cX8_copyFrom 158 = .ok (.aload_n 1, 1) := by decide +kernel
theorem dX8_copyFrom_159 : decode cX8_copyFrom 159 = .ok (.getfield 76, 3) := by decide +kernel
theorem dX8_copyFrom_162 : decode cX8_copyFrom 162 = .ok (.putfield 76, 3) := by decide +kernel
theorem dX8_copyFrom_165 : decode cX8_copyFrom 165 = .ok (.aload_n 1, 1) := by decide +kernel
theorem dX8_copyFrom_166 : decode cX8_copyFrom 166 = .ok (.getfield 40, 3) := by decide +kernel
theorem dX8_copyFrom_169 : decode cX8_copyFrom 169 = .ok (.iconst 0, 1) := by decide +kernel
theorem dX8_copyFrom_170 : decode cX8_copyFrom 170 = .ok (.aload_n 0, 1) := by decide +kernel
theorem dX8_copyFrom_171 : decode cX8_copyFrom 171 = .ok (.getfield 40, 3) := by decide +kernel
theorem dX8_copyFrom_174 : decode cX8_copyFrom 174 = .ok (.iconst 0, 1) := by decide +kernel
theorem dX8_copyFrom_175 : decode cX8_copyFrom 175 = .ok (.bipush 8, 2) := by decide +kernel
theorem dX8_copyFrom_177 : decode cX8_copyFrom 177 = .ok (.invokestatic 70, 3) := by decide +kernel
theorem dX8_copyFrom_180 : decode cX8_copyFrom 180 = .ok (.aload_n 1, 1) := by decide +kernel
theorem dX8_copyFrom_181 : decode cX8_copyFrom 181 = .ok (.getfield 43, 3) := by decide +kernel
theorem dX8_copyFrom_184 : decode cX8_copyFrom 184 = .ok (.iconst 0, 1) := by decide +kernel
theorem dX8_copyFrom_185 : decode cX8_copyFrom 185 = .ok (.aload_n 0, 1) := by decide +kernel
theorem dX8_copyFrom_186 : decode cX8_copyFrom 186 = .ok (.getfield 43, 3) := by decide +kernel
theorem dX8_copyFrom_189 : decode cX8_copyFrom 189 = .ok (.iconst 0, 1) := by decide +kernel
theorem dX8_copyFrom_190 : decode cX8_copyFrom 190 = .ok (.bipush 8, 2) := by decide +kernel
theorem dX8_copyFrom_192 : decode cX8_copyFrom 192 = .ok (.invokestatic 70, 3) := by decide +kernel
theorem dX8_copyFrom_195 : decode cX8_copyFrom 195 = .ok (.aload_n 0, 1) := by decide +kernel
theorem dX8_copyFrom_196 : decode cX8_copyFrom 196 = .ok (.aload_n 1, 1) := by decide +kernel
theorem dX8_copyFrom_197 : decode cX8_copyFrom 197 = .ok (.getfield 79, 3) := by decide +kernel
theorem dX8_copyFrom_200 : decode cX8_copyFrom 200 = .ok (.putfield 79, 3) := by decide +kernel
theorem dX8_copyFrom_203 : decode cX8_copyFrom 203 = .ok (.aload_n 1, 1) := by decide +kernel
theorem dX8_copyFrom_204 : decode cX8_copyFrom 204 = .ok (.getfield 46, 3) := by decide +kernel
theorem dX8_copyFrom_207 : decode cX8_copyFrom 207 = .ok (.iconst 0, 1) := by decide +kernel
theorem dX8_copyFrom_208 : decode cX8_copyFrom 208 = .ok (.aload_n 0, 1) := by decide +kernel
theorem dX8_copyFrom_209 : decode cX8_copyFrom 209 = .ok (.getfield 46, 3) := by decide +kernel
theorem dX8_copyFrom_212 : decode cX8_copyFrom 212 = .ok (.iconst 0, 1) := by decide +kernel
theorem dX8_copyFrom_213 : decode cX8_copyFrom 213 = .ok (.bipush 8, 2) := by decide +kernel
theorem dX8_copyFrom_215 : decode cX8_copyFrom 215 = .ok (.invokestatic 70, 3) := by decide +kernel
theorem dX8_copyFrom_218 : decode cX8_copyFrom 218 = .ok (.aload_n 1, 1) := by decide +kernel
theorem dX8_copyFrom_219 : decode cX8_copyFrom 219 = .ok (.getfield 49, 3) := by decide +kernel
theorem dX8_copyFrom_222 : decode cX8_copyFrom 222 = .ok (.iconst 0, 1) := by decide +kernel
theorem dX8_copyFrom_223 : decode cX8_copyFrom 223 = .ok (.aload_n 0, 1) := by decide +kernel
theorem dX8_copyFrom_224 : decode cX8_copyFrom 224 = .ok (.getfield 49, 3) := by decide +kernel
theorem dX8_copyFrom_227 : decode cX8_copyFrom 227 = .ok (.iconst 0, 1) := by decide +kernel
theorem dX8_copyFrom_228 : decode cX8_copyFrom 228 = .ok (.bipush 8, 2) := by decide +kernel
theorem dX8_copyFrom_230 : decode cX8_copyFrom 230 = .ok (.invokestatic 70, 3) := by decide +kernel
theorem dX8_copyFrom_233 : decode cX8_copyFrom 233 = .ok (.aload_n 0, 1) := by decide +kernel
theorem dX8_copyFrom_234 : decode cX8_copyFrom 234 = .ok (.aload_n 1, 1) := by decide +kernel
theorem dX8_copyFrom_235 : decode cX8_copyFrom 235 = .ok (.getfield 82, 3) := by decide +kernel
theorem dX8_copyFrom_238 : decode cX8_copyFrom 238 = .ok (.putfield 82, 3) := by decide +kernel
theorem dX8_copyFrom_241 : decode cX8_copyFrom 241 = .ok (.return_, 1) := by decide +kernel
theorem dX9_init_0 : decode cX9_init 0 = .ok (.aload_n 0, 1) := by decide +kernel
theorem dX9_init_1 : decode cX9_init 1 = .ok (.invokespecial 3, 3) := by decide +kernel
theorem dX9_init_4 : decode cX9_init 4 = .ok (.aload_n 0, 1) := by decide +kernel
theorem dX9_init_5 : decode cX9_init 5 = .ok (.new 9, 3) := by decide +kernel
theorem dX9_init_8 : decode cX9_init 8 = .ok (.dup, 1) := by decide +kernel
theorem dX9_init_9 : decode cX9_init 9 = .ok (.invokespecial 11, 3) := by decide +kernel
theorem dX9_init_12 : decode cX9_init 12 = .ok (.putfield 12, 3) := by decide +kernel
theorem dX9_init_15 : decode cX9_init 15 = .ok (.aload_n 0, 1) := by decide +kernel
theorem dX9_init_16 : decode cX9_init 16 = .ok (.sipush 500, 3) := by decide +kernel
theorem dX9_init_19 : decode cX9_init 19 = .ok (.newarray .int, 2) := by decide +kernel
theorem dX9_init_21 : decode cX9_init 21 = .ok (.putfield 16, 3) := by decide +kernel
theorem dX9_init_24 : decode cX9_init 24 = .ok (.aload_n 0, 1) := by decide +kernel
theorem dX9_init_25 : decode cX9_init 25 = .ok (.new 20, 3) := by decide +kernel
theorem dX9_init_28 : decode cX9_init 28 = .ok (.dup, 1) := by decide +kernel
theorem dX9_init_29 : decode cX9_init 29 = .ok (.invokespecial 22, 3) := by decide +kernel
theorem dX9_init_32 : decode cX9_init 32 = .ok (.putfield 23, 3) := by decide +kernel
theorem dX9_init_35 : decode cX9_init 35 = .ok (.aload_n 0, 1) := by decide +kernel
theorem dX9_init_36 : decode cX9_init 36 = .ok (.new 27, 3) := by decide +kernel
theorem dX9_init_39 : decode cX9_init 39 = .ok (.dup, 1) := by decide +kernel
theorem dX9_init_40 : decode cX9_init 40 = .ok (.invokespecial 29, 3) := by decide +kernel
theorem dX9_init_43 : decode cX9_init 43 = .ok (.putfield 30, 3) := by decide +kernel
theorem dX9_init_46 : decode cX9_init 46 = .ok (.aload_n 0, 1) := by decide +kernel
theorem dX9_init_47 : decode cX9_init 47 = .ok (.new 34, 3) := by decide +kernel
theorem dX9_init_50 : decode cX9_init 50 = .ok (.dup, 1) := by decide +kernel
theorem dX9_init_51 : decode cX9_init 51 = .ok (.invokespecial 36, 3) := by decide +kernel
theorem dX9_init_54 : decode cX9_init 54 = .ok (.putfield 37, 3) := by decide +kernel
theorem dX9_init_57 : decode cX9_init 57 = .ok (.aload_n 0, 1) := by decide +kernel
theorem dX9_init_58 : decode cX9_init 58 = .ok (.new 41, 3) := by decide +kernel
theorem dX9_init_61 : decode cX9_init 61 = .ok (.dup, 1) := by decide +kernel
theorem dX9_init_62 : decode cX9_init 62 = .ok (.invokespecial 43, 3) := by decide +kernel
theorem dX9_init_65 : decode cX9_init 65 = .ok (.putfield 44, 3) := by decide +kernel
theorem dX9_init_68 : decode cX9_init 68 = .ok (.aload_n 0, 1) := by decide +kernel
theorem dX9_init_69 : decode cX9_init 69 = .ok (.new 48, 3) := by decide +kernel
theorem dX9_init_72 : decode cX9_init 72 = .ok (.dup, 1) := by decide +kernel
theorem dX9_init_73 : decode cX9_init 73 = .ok (.invokespecial 50, 3) := by decide +kernel
theorem dX9_init_76 : decode cX9_init 76 = .ok (.putfield 51, 3) := by decide +kernel
theorem dX9_init_79 : decode cX9_init 79 = .ok (.aload_n 0, 1) := by decide +kernel
theorem dX9_init_80 : decode cX9_init 80 = .ok (.bipush 10, 2) := by decide +kernel
theorem dX9_init_82 : decode cX9_init 82 = .ok (.newarray .int, 2) := by decide +kernel
theorem dX9_init_84 : decode cX9_init 84 = .ok (.putfield 55, 3) := by decide +kernel
theorem dX9_init_87 : decode cX9_init 87 = .ok (.aload_n 0, 1) := by decide +kernel
theorem dX9_init_88 : decode cX9_init 88 = .ok (.bipush 16, 2) := by decide +kernel
theorem dX9_init_90 : decode cX9_init 90 = .ok (.newarray .int, 2) := by decide +kernel
theorem dX9_init_92 : decode cX9_init 92 = .ok (.putfield 58, 3) := by decide +kernel
theorem dX9_init_95 : decode cX9_init 95 = .ok (.aload_n 0, 1) := by decide +kernel
theorem dX9_init_96 : decode cX9_init 96 = .ok (.bipush 16, 2) := by decide +kernel
theorem dX9_init_98 : decode cX9_init 98 = .ok (.newarray .int, 2) := by decide +kernel
theorem dX9_init_100 : decode cX9_init 100 = .ok (.putfield 61, 3) := by decide +kernel
theorem dX9_init_103 : decode cX9_init 103 = .ok (.return_, 1) := by decide +kernel
theorem dX9_bar_0 : decode cX9_bar 0 = .ok (.iload_n 1, 1) := by decide +kernel
theorem dX9_bar_1 : decode cX9_bar 1 = .ok (.iconst 3, 1) := by decide +kernel
theorem dX9_bar_2 : decode cX9_bar 2 = .ok (.if_icmp .lt 21, 3) := by decide +kernel
theorem dX9_bar_5 : decode cX9_bar 5 = .ok (.iload_n 1, 1) := by decide +kernel
theorem dX9_bar_6 : decode cX9_bar 6 = .ok (.bipush 16, 2) := by decide +kernel
theorem dX9_bar_8 : decode cX9_bar 8 = .ok (.if_icmp .gt 15, 3) := by decide +kernel
theorem dX9_bar_11 : decode cX9_bar 11 = .ok (.aload_n 0, 1) := by decide +kernel
theorem dX9_bar_12 : decode cX9_bar 12 = .ok (.getfield 12, 3) := by decide +kernel
theorem dX9_bar_15 : decode cX9_bar 15 = .ok (.getfield 64, 3) := by decide +kernel
theorem dX9_bar_18 : decode cX9_bar 18 = .ok (.bipush 10, 2) := by decide +kernel
theorem dX9_bar_20 : decode cX9_bar 20 = .ok (.if_icmp .lt 5, 3) := by decide +kernel
theorem dX9_bar_23 : decode cX9_bar 23 = .ok (.iconst (-1), 1) := by decide +kernel
theorem dX9_bar_24 : decode cX9_bar 24 = .ok (.ireturn, 1) := by decide +kernel
theorem dX9_bar_25 : decode cX9_bar 25 = .ok (.aload_n 0, 1) := by decide +kernel
theorem dX9_bar_26 : decode cX9_bar 26 = .ok (.getfield 12, 3) := by decide +kernel
theorem dX9_bar_29 : decode cX9_bar 29 = .ok (.getfield 68, 3) := by decide +kernel
theorem dX9_bar_32 : decode cX9_bar 32 = .ok (.aload_n 0, 1) := by decide +kernel
theorem dX9_bar_33 : decode cX9_bar 33 = .ok (.getfield 12, 3) := by decide +kernel
theorem dX9_bar_36 : decode cX9_bar 36 = .ok (.getfield 64, 3) := by decide +kernel
theorem dX9_bar_39 : decode cX9_bar 39 = .ok (.aaload, 1) := by decide +kernel
theorem dX9_bar_40 : decode cX9_bar 40 = .ok (.iload_n 1, 1) := by decide +kernel
theorem dX9_bar_41 : decode cX9_bar 41 = .ok (.invokevirtual 72, 3) := by decide +kernel
theorem dX9_bar_44 : decode cX9_bar 44 = .ok (.aload_n 0, 1) := by decide +kernel
theorem dX9_bar_45 : decode cX9_bar 45 = .ok (.getfield 12, 3) := by decide +kernel
theorem dX9_bar_48 : decode cX9_bar 48 = .ok (.dup, 1) := by decide +kernel
theorem dX9_bar_49 : decode cX9_bar 49 = .ok (.getfield 64, 3) := by decide +kernel
theorem dX9_bar_52 : decode cX9_bar 52 = .ok (.iconst 1, 1) := by decide +kernel
theorem dX9_bar_53 : decode cX9_bar 53 = .ok (.iadd, 1) := by decide +kernel
theorem dX9_bar_54 : decode cX9_bar 54 = .ok (.putfield 64, 3) := by decide +kernel
theorem dX9_bar_57 : decode cX9_bar 57 = .ok (.aload_n 0, 1) := by decide +kernel
theorem dX9_bar_58 : decode cX9_bar 58 = .ok (.getfield 12, 3) := by decide +kernel
theorem dX9_bar_61 : decode cX9_bar 61 = .ok (.getfield 64, 3) := by decide +kernel
theorem dX9_bar_64 : decode cX9_bar 64 = .ok (.iconst 1, 1) := by decide +kernel
theorem dX9_bar_65 : decode cX9_bar 65 = .ok (.isub, 1) := by decide +kernel
theorem dX9_bar_66 : decode cX9_bar 66 = .ok (.ireturn, 1) := by decide +kernel
theorem dX9_slice_0 : decode cX9_slice 0 = .ok (.aload_n 0, 1) := by decide +kernel
theorem dX9_slice_1 : decode cX9_slice 1 = .ok (.iload_n 1, 1) := by decide +kernel
theorem dX9_slice_2 : decode cX9_slice 2 = .ok (.invokevirtual 78, 3) := by decide +kernel
theorem dX9_slice_5 : decode cX9_slice 5 = .ok (.astore 6, 2) := by decide +kernel
theorem dX9_slice_7 : decode cX9_slice 7 = .ok (.aload 6, 2) := by decide +kernel
theorem dX9_slice_9 : decode cX9_slice 9 = .ok (.ifnull 52, 3) := by decide +kernel
theorem dX9_slice_12 : decode cX9_slice 12 = .ok (.aload 6, 2) := by decide +kernel
theorem dX9_slice_14 : decode cX9_slice 14 = .ok (.iload_n 2, 1) := by decide +kernel
theorem dX9_slice_15 : decode cX9_slice 15 = .ok (.invokevirtual 82, 3) := by decide +kernel
theorem dX9_slice_18 : decode cX9_slice 18 = .ok (.ifCond .eq 43, 3) := by decide +kernel
theorem dX9_slice_21 : decode cX9_slice 21 = .ok (.aload 6, 2) := by decide +kernel
theorem dX9_slice_23 : decode cX9_slice 23 = .ok (.getfield 86, 3) := by decide +kernel
theorem dX9_slice_26 : decode cX9_slice 26 = .ok (.ifCond .gt 35, 3) := by decide +kernel
theorem dX9_slice_29 : decode cX9_slice 29 = .ok (.iload_n 3, 1) := by decide +kernel
theorem dX9_slice_30 : decode cX9_slice 30 = .ok (.iconst 1, 1) := by decide +kernel
theorem dX9_slice_31 : decode cX9_slice 31 = .ok (.bipush 99, 2) := by decide +kernel
theorem dX9_slice_33 : decode cX9_slice 33 = .ok (.invokestatic 89, 3) := by decide +kernel
theorem dX9_slice_36 : decode cX9_slice 36 = .ok (.ifCond .eq 25, 3) := by decide +kernel
theorem dX9_slice_39 : decode cX9_slice 39 = .ok (.iload 4, 2) := by decide +kernel
theorem dX9_slice_41 : decode cX9_slice 41 = .ok (.iconst 1, 1) := by decide +kernel
theorem dX9_slice_42 : decode cX9_slice 42 = .ok (.bipush 9, 2) := by decide +kernel
theorem dX9_slice_44 : decode cX9_slice 44 = .ok (.invokestatic 89, 3) := by decide +kernel
theorem dX9_slice_47 : decode cX9_slice 47 = .ok (.ifCond .eq 14, 3) := by decide +kernel
theorem dX9_slice_50 : decode cX9_slice 50 = .ok (.iload 5, 2) := by decide +kernel
theorem dX9_slice_52 : decode cX9_slice 52 = .ok (.iconst 1, 1) := by decide +kernel
theorem dX9_slice_53 : decode cX9_slice 53 = .ok (.bipush 9, 2) := by decide +kernel
theorem dX9_slice_55 : decode cX9_slice 55 = .ok (.invokestatic 89, 3) := by decide +kernel
theorem dX9_slice_58 : decode cX9_slice 58 = .ok (.ifCond .ne 5, 3) := by decide +kernel
theorem dX9_slice_61 : decode cX9_slice 61 = .ok (.iconst 0, 1) := by decide +kernel
theorem dX9_slice_62 : decode cX9_slice 62 = .ok (.ireturn, 1) := by decide +kernel
theorem dX9_slice_63 : decode cX9_slice 63 = .ok (.aload 6, 2) := by decide +kernel
theorem dX9_slice_65 : decode cX9_slice 65 = .ok (.getfield 93, 3) := by decide +kernel
theorem dX9_slice_68 : decode cX9_slice 68 = .ok (.iload_n 2, 1) := by decide +kernel
theorem dX9_slice_69 : decode cX9_slice 69 = .ok (.iload_n 3, 1) := by decide +kernel
theorem dX9_slice_70 : decode cX9_slice 70 = .ok (.iastore, 1) := by decide +kernel
theorem dX9_slice_71 : decode cX9_slice 71 = .ok (.aload 6, 2) := by decide +kernel
theorem dX9_slice_73 : decode cX9_slice 73 = .ok (.getfield 96, 3) := by decide +kernel
theorem dX9_slice_76 : decode cX9_slice 76 = .ok (.iload_n 2, 1) := by decide +kernel
theorem dX9_slice_77 : decode cX9_slice 77 = .ok (.iload 4, 2) := by decide +kernel
theorem dX9_slice_79 : decode cX9_slice 79 = .ok (.iastore, 1) := by decide +kernel
theorem dX9_slice_80 : decode cX9_slice 80 = .ok (.aload 6, 2) := by decide +kernel
theorem dX9_slice_82 : decode cX9_slice 82 = .ok (.getfield 99, 3) := by decide +kernel
theorem dX9_slice_85 : decode cX9_slice 85 = .ok (.iload_n 2, 1) := by decide +kernel
theorem dX9_slice_86 : decode cX9_slice 86 = .ok (.iload 5, 2) := by decide +kernel
theorem dX9_slice_88 : decode cX9_slice 88 = .ok (.iastore, 1) := by decide +kernel
theorem dX9_slice_89 : decode cX9_slice 89 = .ok (.iconst 1, 1) := by decide +kernel
theorem dX9_slice_90 : decode cX9_slice 90 = .ok (.ireturn, 1) := by decide +kernel
theorem dX9_wax_0 : decode cX9_wax 0 = .ok (.aload_n 0, 1) := by decide +kernel
theorem dX9_wax_1 : decode cX9_wax 1 = .ok (.iload_n 1, 1) := by decide +kernel
theorem dX9_wax_2 : decode cX9_wax 2 = .ok (.invokevirtual 78, 3) := by decide +kernel
theorem dX9_wax_5 : decode cX9_wax 5 = .ok (.astore 4, 2) := by decide +kernel
theorem dX9_wax_7 : decode cX9_wax 7 = .ok (.aload 4, 2) := by decide +kernel
theorem dX9_wax_9 : decode cX9_wax 9 = .ok (.ifnull 22, 3) := by decide +kernel
theorem dX9_wax_12 : decode cX9_wax 12 = .ok (.aload 4, 2) := by decide +kernel
theorem dX9_wax_14 : decode cX9_wax 14 = .ok (.iload_n 2, 1) := by decide +kernel
theorem dX9_wax_15 : decode cX9_wax 15 = .ok (.invokevirtual 82, 3) := by decide +kernel
theorem dX9_wax_18 : decode cX9_wax 18 = .ok (.ifCond .eq 13, 3) := by decide +kernel
theorem dX9_wax_21 : decode cX9_wax 21 = .ok (.iload_n 3, 1) := by decide +kernel
theorem dX9_wax_22 : decode cX9_wax 22 = .ok (.iconst 0, 1) := by decide +kernel
theorem dX9_wax_23 : decode cX9_wax 23 = .ok (.bipush 99, 2) := by decide +kernel
theorem dX9_wax_25 : decode cX9_wax 25 = .ok (.invokestatic 89, 3) := by decide +kernel
theorem dX9_wax_28 : decode cX9_wax 28 = .ok (.ifCond .ne 5, 3) := by decide +kernel
theorem dX9_wax_31 : decode cX9_wax 31 = .ok (.iconst 0, 1) := by decide +kernel
theorem dX9_wax_32 : decode cX9_wax 32 = .ok (.ireturn, 1) := by decide +kernel
theorem dX9_wax_33 : decode cX9_wax 33 = .ok (.aload 4, 2) := by decide +kernel
theorem dX9_wax_35 : decode cX9_wax 35 = .ok (.getfield 102, 3) := by decide +kernel
theorem dX9_wax_38 : decode cX9_wax 38 = .ok (.iload_n 2, 1) := by decide +kernel
theorem dX9_wax_39 : decode cX9_wax 39 = .ok (.iload_n 3, 1) := by decide +kernel
theorem dX9_wax_40 : decode cX9_wax 40 = .ok (.iastore, 1) := by decide +kernel
theorem dX9_wax_41 : decode cX9_wax 41 = .ok (.iconst 1, 1) := by decide +kernel
theorem dX9_wax_42 : decode cX9_wax 42 = .ok (.ireturn, 1) := by decide +kernel
theorem dX9_of_0 : decode cX9_of 0 = .ok (.aload_n 0, 1) := by decide +kernel
theorem dX9_of_1 : decode cX9_of 1 = .ok (.iload_n 1, 1) := by decide +kernel
theorem dX9_of_2 : decode cX9_of 2 = .ok (.invokevirtual 78, 3) := by decide +kernel
theorem dX9_of_5 : decode cX9_of 5 = .ok (.astore 4, 2) := by decide +kernel
theorem dX9_of_7 : decode cX9_of 7 = .ok (.aload 4, 2) := by decide +kernel
theorem dX9_of_9 : decode cX9_of 9 = .ok (.ifnull 12, 3) := by decide +kernel
theorem dX9_of_12 : decode cX9_of 12 = .ok (.aload 4, 2) := by decide +kernel
theorem dX9_of_14 : decode cX9_of 14 = .ok (.iload_n 2, 1) := by decide +kernel
theorem dX9_of_15 : decode cX9_of 15 = .ok (.invokevirtual 82, 3) := by decide +kernel
theorem dX9_of_18 : decode cX9_of 18 = .ok (.ifCond .ne 5, 3) := by decide +kernel
theorem dX9_of_21 : decode cX9_of 21 = .ok (.iconst (-1), 1) := by decide +kernel
theorem dX9_of_22 : decode cX9_of 22 = .ok (.ireturn, 1) := by decide +kernel
theorem dX9_of_23 : decode cX9_of 23 = .ok (.iload_n 3, 1) := by decide +kernel
theorem dX9_of_24 : decode cX9_of 24 = .ok (.tableswitch 64 0 3 #[32, 40, 48, 56], 32) := by decide +kernel
theorem dX9_of_56 : decode cX9_of 56 = .ok (.aload 4, 2) := by decide +kernel
theorem dX9_of_58 : decode cX9_of 58 = .ok (.getfield 93, 3) := by decide +kernel
theorem dX9_of_61 : decode cX9_of 61 = .ok (.iload_n 2, 1) := by decide +kernel
theorem dX9_of_62 : decode cX9_of 62 = .ok (.iaload, 1) := by decide +kernel
theorem dX9_of_63 : decode cX9_of 63 = .ok (.ireturn, 1) := by decide +kernel
theorem dX9_of_64 : decode cX9_of 64 = .ok (.aload 4, 2) := by decide +kernel
theorem dX9_of_66 : decode cX9_of 66 = .ok (.getfield 96, 3) := by decide +kernel
theorem dX9_of_69 : decode cX9_of 69 = .ok (.iload_n 2, 1) := by decide +kernel
theorem dX9_of_70 : decode cX9_of 70 = .ok (.iaload, 1) := by decide +kernel
theorem dX9_of_71 : decode cX9_of 71 = .ok (.ireturn, 1) := by decide +kernel
theorem dX9_of_72 : decode cX9_of 72 = .ok (.aload 4, 2) := by decide +kernel
theorem dX9_of_74 : decode cX9_of 74 = .ok (.getfield 99, 3) := by decide +kernel
theorem dX9_of_77 : decode cX9_of 77 = .ok (.iload_n 2, 1) := by decide +kernel
theorem dX9_of_78 : decode cX9_of 78 = .ok (.iaload, 1) := by decide +kernel
theorem dX9_of_79 : decode cX9_of 79 = .ok (.ireturn, 1) := by decide +kernel
theorem dX9_of_80 : decode cX9_of 80 = .ok (.aload 4, 2) := by decide +kernel
theorem dX9_of_82 : decode cX9_of 82 = .ok (.getfield 102, 3) := by decide +kernel
theorem dX9_of_85 : decode cX9_of 85 = .ok (.iload_n 2, 1) := by decide +kernel
theorem dX9_of_86 : decode cX9_of 86 = .ok (.iaload, 1) := by decide +kernel
theorem dX9_of_87 : decode cX9_of 87 = .ok (.ireturn, 1) := by decide +kernel
theorem dX9_of_88 : decode cX9_of 88 = .ok (.iconst (-1), 1) := by decide +kernel
theorem dX9_of_89 : decode cX9_of 89 = .ok (.ireturn, 1) := by decide +kernel
theorem dX9_feed_0 : decode cX9_feed 0 = .ok (.aload_n 0, 1) := by decide +kernel
theorem dX9_feed_1 : decode cX9_feed 1 = .ok (.getfield 105, 3) := by decide +kernel
theorem dX9_feed_4 : decode cX9_feed 4 = .ok (.bipush 20, 2) := by decide +kernel
theorem dX9_feed_6 : decode cX9_feed 6 = .ok (.iadd, 1) := by decide +kernel
theorem dX9_feed_7 : decode cX9_feed 7 = .ok (.sipush 500, 3) := by decide +kernel
theorem dX9_feed_10 : decode cX9_feed 10 = .ok (.if_icmp .le 5, 3) := by decide +kernel
theorem dX9_feed_13 : decode cX9_feed 13 = .ok (.iconst (-1), 1) := by decide +kernel
theorem dX9_feed_14 : decode cX9_feed 14 = .ok (.ireturn, 1) := by decide +kernel
theorem dX9_feed_15 : decode cX9_feed 15 = .ok (.aload_n 0, 1) := by decide +kernel
theorem dX9_feed_16 : decode cX9_feed 16 = .ok (.iload_n 1, 1) := by decide +kernel
theorem dX9_feed_17 : decode cX9_feed 17 = .ok (.invokevirtual 108, 3) := by decide +kernel
theorem dX9_feed_20 : decode cX9_feed 20 = .ok (.aload_n 0, 1) := by decide +kernel
theorem dX9_feed_21 : decode cX9_feed 21 = .ok (.iload_n 2, 1) := by decide +kernel
theorem dX9_feed_22 : decode cX9_feed 22 = .ok (.invokevirtual 108, 3) := by decide +kernel
theorem dX9_feed_25 : decode cX9_feed 25 = .ok (.aload_n 0, 1) := by decide +kernel
theorem dX9_feed_26 : decode cX9_feed 26 = .ok (.iload_n 3, 1) := by decide +kernel
theorem dX9_feed_27 : decode cX9_feed 27 = .ok (.invokevirtual 108, 3) := by decide +kernel
theorem dX9_feed_30 : decode cX9_feed 30 = .ok (.aload_n 0, 1) := by decide +kernel
theorem dX9_feed_31 : decode cX9_feed 31 = .ok (.iload 4, 2) := by decide +kernel
theorem dX9_feed_33 : decode cX9_feed 33 = .ok (.invokevirtual 108, 3) := by decide +kernel
theorem dX9_feed_36 : decode cX9_feed 36 = .ok (.aload_n 0, 1) := by decide +kernel
theorem dX9_feed_37 : decode cX9_feed 37 = .ok (.iload 5, 2) := by decide +kernel
theorem dX9_feed_39 : decode cX9_feed 39 = .ok (.invokevirtual 108, 3) := by decide +kernel
theorem dX9_feed_42 : decode cX9_feed 42 = .ok (.aload_n 0, 1) := by decide +kernel
theorem dX9_feed_43 : decode cX9_feed 43 = .ok (.getfield 105, 3) := by decide +kernel
theorem dX9_feed_46 : decode cX9_feed 46 = .ok (.ireturn, 1) := by decide +kernel
theorem dX9_end_0 : decode cX9_end 0 = .ok (.iload_n 1, 1) := by decide +kernel
theorem dX9_end_1 : decode cX9_end 1 = .ok (.ifCond .lt 11, 3) := by decide +kernel
theorem dX9_end_4 : decode cX9_end 4 = .ok (.iload_n 1, 1) := by decide +kernel
theorem dX9_end_5 : decode cX9_end 5 = .ok (.aload_n 0, 1) := by decide +kernel
theorem dX9_end_6 : decode cX9_end 6 = .ok (.getfield 105, 3) := by decide +kernel
theorem dX9_end_9 : decode cX9_end 9 = .ok (.if_icmp .le 5, 3) := by decide +kernel
theorem dX9_end_12 : decode cX9_end 12 = .ok (.iconst 0, 1) := by decide +kernel
theorem dX9_end_13 : decode cX9_end 13 = .ok (.ireturn, 1) := by decide +kernel
theorem dX9_end_14 : decode cX9_end 14 = .ok (.aload_n 0, 1) := by decide +kernel
theorem dX9_end_15 : decode cX9_end 15 = .ok (.iload_n 1, 1) := by decide +kernel
theorem dX9_end_16 : decode cX9_end 16 = .ok (.putfield 105, 3) := by decide +kernel
theorem dX9_end_19 : decode cX9_end 19 = .ok (.iconst 1, 1) := by decide +kernel
theorem dX9_end_20 : decode cX9_end 20 = .ok (.ireturn, 1) := by decide +kernel
theorem dX9_text_0 : decode cX9_text 0 = .ok (.aload_n 0, 1) := by decide +kernel
theorem dX9_text_1 : decode cX9_text 1 = .ok (.getfield 105, 3) := by decide +kernel
theorem dX9_text_4 : decode cX9_text 4 = .ok (.istore_n 3, 1) := by decide +kernel
theorem dX9_text_5 : decode cX9_text 5 = .ok (.aload_n 0, 1) := by decide +kernel
theorem dX9_text_6 : decode cX9_text 6 = .ok (.iconst 0, 1) := by decide +kernel
theorem dX9_text_7 : decode cX9_text 7 = .ok (.putfield 105, 3) := by decide +kernel
theorem dX9_text_10 : decode cX9_text 10 = .ok (.aload_n 0, 1) := by decide +kernel
theorem dX9_text_11 : decode cX9_text 11 = .ok (.getfield 12, 3) := by decide +kernel
theorem dX9_text_14 : decode cX9_text 14 = .ok (.iconst 0, 1) := by decide +kernel
theorem dX9_text_15 : decode cX9_text 15 = .ok (.putfield 111, 3) := by decide +kernel
theorem dX9_text_18 : decode cX9_text 18 = .ok (.aload_n 0, 1) := by decide +kernel
theorem dX9_text_19 : decode cX9_text 19 = .ok (.getfield 12, 3) := by decide +kernel
theorem dX9_text_22 : decode cX9_text 22 = .ok (.iconst (-1), 1) := by decide +kernel
theorem dX9_text_23 : decode cX9_text 23 = .ok (.putfield 114, 3) := by decide +kernel
theorem dX9_text_26 : decode cX9_text 26 = .ok (.aload_n 0, 1) := by decide +kernel
theorem dX9_text_27 : decode cX9_text 27 = .ok (.iload_n 1, 1) := by decide +kernel
theorem dX9_text_28 : decode cX9_text 28 = .ok (.iload_n 2, 1) := by decide +kernel
theorem dX9_text_29 : decode cX9_text 29 = .ok (.invokevirtual 117, 3) := by decide +kernel
theorem dX9_text_32 : decode cX9_text 32 = .ok (.astore 4, 2) := by decide +kernel
theorem dX9_text_34 : decode cX9_text 34 = .ok (.aload 4, 2) := by decide +kernel
theorem dX9_text_36 : decode cX9_text 36 = .ok (.ifnonnull 5, 3) := by decide +kernel
theorem dX9_text_39 : decode cX9_text 39 = .ok (.iconst (-1), 1) := by decide +kernel
theorem dX9_text_40 : decode cX9_text 40 = .ok (.ireturn, 1) := by decide +kernel
theorem dX9_text_41 : decode cX9_text 41 = .ok (.aload_n 0, 1) := by decide +kernel
theorem dX9_text_42 : decode cX9_text 42 = .ok (.getfield 23, 3) := by decide +kernel
theorem dX9_text_45 : decode cX9_text 45 = .ok (.aload_n 0, 1) := by decide +kernel
theorem dX9_text_46 : decode cX9_text 46 = .ok (.getfield 16, 3) := by decide +kernel
theorem dX9_text_49 : decode cX9_text 49 = .ok (.iload_n 3, 1) := by decide +kernel
theorem dX9_text_50 : decode cX9_text 50 = .ok (.iload_n 1, 1) := by decide +kernel
theorem dX9_text_51 : decode cX9_text 51 = .ok (.ifCond .ne 7, 3) := by decide +kernel
theorem dX9_text_54 : decode cX9_text 54 = .ok (.iconst 1, 1) := by decide +kernel
theorem dX9_text_55 : decode cX9_text 55 = .ok (.goto 4, 3) := by decide +kernel
theorem dX9_text_58 : decode cX9_text 58 = .ok (.iconst 0, 1) := by decide +kernel
theorem dX9_text_59 : decode cX9_text 59 = .ok (.invokevirtual 121, 3) := by decide +kernel
theorem dX9_text_62 : decode cX9_text 62 = .ok (.iconst 0, 1) := by decide +kernel
theorem dX9_text_63 : decode cX9_text 63 = .ok (.istore 5, 2) := by decide +kernel
theorem dX9_text_65 : decode cX9_text 65 = .ok (.iload 5, 2) := by decide +kernel
theorem dX9_text_67 : decode cX9_text 67 = .ok (.bipush 16, 2) := by decide +kernel
theorem dX9_text_69 : decode cX9_text 69 = .ok (.if_icmp .gt 27, 3) := by decide +kernel
theorem dX9_text_72 : decode cX9_text 72 = .ok (.aload_n 0, 1) := by decide +kernel
theorem dX9_text_73 : decode cX9_text 73 = .ok (.getfield 23, 3) := by decide +kernel
theorem dX9_text_76 : decode cX9_text 76 = .ok (.invokevirtual 125, 3) := by decide +kernel
theorem dX9_text_79 : decode cX9_text 79 = .ok (.ifCond .eq 17, 3) := by decide +kernel
theorem dX9_text_82 : decode cX9_text 82 = .ok (.aload_n 0, 1) := by decide +kernel
theorem dX9_text_83 : decode cX9_text 83 = .ok (.getfield 23, 3) := by decide +kernel
theorem dX9_text_86 : decode cX9_text 86 = .ok (.invokevirtual 129, 3) := by decide +kernel
theorem dX9_text_89 : decode cX9_text 89 = .ok (.pop, 1) := by decide +kernel
theorem dX9_text_90 : decode cX9_text 90 = .ok (.iinc 5 1, 3) := by decide +kernel
theorem dX9_text_93 : decode cX9_text 93 = .ok (.goto (-28), 3) := by decide +kernel
theorem dX9_text_96 : decode cX9_text 96 = .ok (.aload_n 0, 1) := by decide +kernel
theorem dX9_text_97 : decode cX9_text 97 = .ok (.getfield 23, 3) := by decide +kernel
theorem dX9_text_100 : decode cX9_text 100 = .ok (.getfield 132, 3) := by decide +kernel
theorem dX9_text_103 : decode cX9_text 103 = .ok (.ifCond .eq 33, 3) := by decide +kernel
theorem dX9_text_106 : decode cX9_text 106 = .ok (.aload_n 0, 1) := by decide +kernel
theorem dX9_text_107 : decode cX9_text 107 = .ok (.getfield 12, 3) := by decide +kernel
theorem dX9_text_110 : decode cX9_text 110 = .ok (.aload_n 0, 1) := by decide +kernel
theorem dX9_text_111 : decode cX9_text 111 = .ok (.getfield 23, 3) := by decide +kernel
theorem dX9_text_114 : decode cX9_text 114 = .ok (.getfield 132, 3) := by decide +kernel
theorem dX9_text_117 : decode cX9_text 117 = .ok (.putfield 111, 3) := by decide +kernel
theorem dX9_text_120 : decode cX9_text 120 = .ok (.aload_n 0, 1) := by decide +kernel
theorem dX9_text_121 : decode cX9_text 121 = .ok (.getfield 12, 3) := by decide +kernel
theorem dX9_text_124 : decode cX9_text 124 = .ok (.aload_n 0, 1) := by decide +kernel
theorem dX9_text_125 : decode cX9_text 125 = .ok (.getfield 23, 3) := by decide +kernel
theorem dX9_text_128 : decode cX9_text 128 = .ok (.getfield 133, 3) := by decide +kernel
theorem dX9_text_131 : decode cX9_text 131 = .ok (.putfield 114, 3) := by decide +kernel
theorem dX9_text_134 : decode cX9_text 134 = .ok (.iconst (-1), 1) := by decide +kernel
theorem dX9_text_135 : decode cX9_text 135 = .ok (.ireturn, 1) := by decide +kernel
theorem dX9_text_136 : decode cX9_text 136 = .ok (.aload 4, 2) := by decide +kernel
theorem dX9_text_138 : decode cX9_text 138 = .ok (.aload_n 0, 1) := by decide +kernel
theorem dX9_text_139 : decode cX9_text 139 = .ok (.getfield 23, 3) := by decide +kernel
theorem dX9_text_142 : decode cX9_text 142 = .ok (.getfield 134, 3) := by decide +kernel
theorem dX9_text_145 : decode cX9_text 145 = .ok (.invokevirtual 138, 3) := by decide +kernel
theorem dX9_text_148 : decode cX9_text 148 = .ok (.aload 4, 2) := by decide +kernel
theorem dX9_text_150 : decode cX9_text 150 = .ok (.getfield 144, 3) := by decide +kernel
theorem dX9_text_153 : decode cX9_text 153 = .ok (.ireturn, 1) := by decide +kernel
theorem dX9_fault_0 : decode cX9_fault 0 = .ok (.iload_n 1, 1) := by decide +kernel
theorem dX9_fault_1 : decode cX9_fault 1 = .ok (.lookupswitch 43 #[(0, 27), (1, 35)], 27) := by decide +kernel
theorem dX9_fault_28 : decode cX9_fault 28 = .ok (.aload_n 0, 1) := by decide +kernel
