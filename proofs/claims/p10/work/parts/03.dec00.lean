theorem dX0_init_0 : decode cX0_init 0 = .ok (.aload_n 0, 1) := by decide +kernel
theorem dX0_init_1 : decode cX0_init 1 = .ok (.invokespecial 3, 3) := by decide +kernel
theorem dX0_init_4 : decode cX0_init 4 = .ok (.aload_n 0, 1) := by decide +kernel
theorem dX0_init_5 : decode cX0_init 5 = .ok (.bipush 16, 2) := by decide +kernel
theorem dX0_init_7 : decode cX0_init 7 = .ok (.newarray .int, 2) := by decide +kernel
theorem dX0_init_9 : decode cX0_init 9 = .ok (.putfield 9, 3) := by decide +kernel
theorem dX0_init_12 : decode cX0_init 12 = .ok (.aload_n 0, 1) := by decide +kernel
theorem dX0_init_13 : decode cX0_init 13 = .ok (.bipush 16, 2) := by decide +kernel
theorem dX0_init_15 : decode cX0_init 15 = .ok (.newarray .int, 2) := by decide +kernel
theorem dX0_init_17 : decode cX0_init 17 = .ok (.putfield 15, 3) := by decide +kernel
theorem dX0_init_20 : decode cX0_init 20 = .ok (.aload_n 0, 1) := by decide +kernel
theorem dX0_init_21 : decode cX0_init 21 = .ok (.bipush 16, 2) := by decide +kernel
theorem dX0_init_23 : decode cX0_init 23 = .ok (.newarray .int, 2) := by decide +kernel
theorem dX0_init_25 : decode cX0_init 25 = .ok (.putfield 18, 3) := by decide +kernel
theorem dX0_init_28 : decode cX0_init 28 = .ok (.aload_n 0, 1) := by decide +kernel
theorem dX0_init_29 : decode cX0_init 29 = .ok (.bipush 16, 2) := by decide +kernel
theorem dX0_init_31 : decode cX0_init 31 = .ok (.newarray .int, 2) := by decide +kernel
theorem dX0_init_33 : decode cX0_init 33 = .ok (.putfield 21, 3) := by decide +kernel
theorem dX0_init_36 : decode cX0_init 36 = .ok (.aload_n 0, 1) := by decide +kernel
theorem dX0_init_37 : decode cX0_init 37 = .ok (.iconst 3, 1) := by decide +kernel
theorem dX0_init_38 : decode cX0_init 38 = .ok (.newarray .int, 2) := by decide +kernel
theorem dX0_init_40 : decode cX0_init 40 = .ok (.putfield 24, 3) := by decide +kernel
theorem dX0_init_43 : decode cX0_init 43 = .ok (.aload_n 0, 1) := by decide +kernel
theorem dX0_init_44 : decode cX0_init 44 = .ok (.sipush 200, 3) := by decide +kernel
theorem dX0_init_47 : decode cX0_init 47 = .ok (.newarray .int, 2) := by decide +kernel
theorem dX0_init_49 : decode cX0_init 49 = .ok (.putfield 27, 3) := by decide +kernel
theorem dX0_init_52 : decode cX0_init 52 = .ok (.aload_n 0, 1) := by decide +kernel
theorem dX0_init_53 : decode cX0_init 53 = .ok (.sipush 200, 3) := by decide +kernel
theorem dX0_init_56 : decode cX0_init 56 = .ok (.newarray .int, 2) := by decide +kernel
theorem dX0_init_58 : decode cX0_init 58 = .ok (.putfield 30, 3) := by decide +kernel
theorem dX0_init_61 : decode cX0_init 61 = .ok (.aload_n 0, 1) := by decide +kernel
theorem dX0_init_62 : decode cX0_init 62 = .ok (.bipush 12, 2) := by decide +kernel
theorem dX0_init_64 : decode cX0_init 64 = .ok (.newarray .int, 2) := by decide +kernel
theorem dX0_init_66 : decode cX0_init 66 = .ok (.putfield 33, 3) := by decide +kernel
theorem dX0_init_69 : decode cX0_init 69 = .ok (.aload_n 0, 1) := by decide +kernel
theorem dX0_init_70 : decode cX0_init 70 = .ok (.bipush 12, 2) := by decide +kernel
theorem dX0_init_72 : decode cX0_init 72 = .ok (.newarray .int, 2) := by decide +kernel
theorem dX0_init_74 : decode cX0_init 74 = .ok (.putfield 36, 3) := by decide +kernel
theorem dX0_init_77 : decode cX0_init 77 = .ok (.aload_n 0, 1) := by decide +kernel
theorem dX0_init_78 : decode cX0_init 78 = .ok (.bipush 12, 2) := by decide +kernel
theorem dX0_init_80 : decode cX0_init 80 = .ok (.bipush 16, 2) := by decide +kernel
theorem dX0_init_82 : decode cX0_init 82 = .ok (.multianewarray 39 2, 4) := by decide +kernel
theorem dX0_init_86 : decode cX0_init 86 = .ok (.putfield 41, 3) := by decide +kernel
theorem dX0_init_89 : decode cX0_init 89 = .ok (.aload_n 0, 1) := by decide +kernel
theorem dX0_init_90 : decode cX0_init 90 = .ok (.bipush 12, 2) := by decide +kernel
theorem dX0_init_92 : decode cX0_init 92 = .ok (.bipush 16, 2) := by decide +kernel
theorem dX0_init_94 : decode cX0_init 94 = .ok (.multianewarray 39 2, 4) := by decide +kernel
theorem dX0_init_98 : decode cX0_init 98 = .ok (.putfield 44, 3) := by decide +kernel
theorem dX0_init_101 : decode cX0_init 101 = .ok (.aload_n 0, 1) := by decide +kernel
theorem dX0_init_102 : decode cX0_init 102 = .ok (.iconst 2, 1) := by decide +kernel
theorem dX0_init_103 : decode cX0_init 103 = .ok (.newarray .int, 2) := by decide +kernel
theorem dX0_init_105 : decode cX0_init 105 = .ok (.putfield 47, 3) := by decide +kernel
theorem dX0_init_108 : decode cX0_init 108 = .ok (.return_, 1) := by decide +kernel
theorem dX0_begin_0 : decode cX0_begin 0 = .ok (.aload_n 0, 1) := by decide +kernel
theorem dX0_begin_1 : decode cX0_begin 1 = .ok (.iload_n 1, 1) := by decide +kernel
theorem dX0_begin_2 : decode cX0_begin 2 = .ok (.putfield 50, 3) := by decide +kernel
theorem dX0_begin_5 : decode cX0_begin 5 = .ok (.aload_n 0, 1) := by decide +kernel
theorem dX0_begin_6 : decode cX0_begin 6 = .ok (.getfield 9, 3) := by decide +kernel
theorem dX0_begin_9 : decode cX0_begin 9 = .ok (.bipush 20, 2) := by decide +kernel
theorem dX0_begin_11 : decode cX0_begin 11 = .ok (.invokestatic 54, 3) := by decide +kernel
theorem dX0_begin_14 : decode cX0_begin 14 = .ok (.aload_n 0, 1) := by decide +kernel
theorem dX0_begin_15 : decode cX0_begin 15 = .ok (.getfield 15, 3) := by decide +kernel
theorem dX0_begin_18 : decode cX0_begin 18 = .ok (.iconst 5, 1) := by decide +kernel
theorem dX0_begin_19 : decode cX0_begin 19 = .ok (.invokestatic 54, 3) := by decide +kernel
theorem dX0_begin_22 : decode cX0_begin 22 = .ok (.aload_n 0, 1) := by decide +kernel
theorem dX0_begin_23 : decode cX0_begin 23 = .ok (.getfield 18, 3) := by decide +kernel
theorem dX0_begin_26 : decode cX0_begin 26 = .ok (.iconst 5, 1) := by decide +kernel
theorem dX0_begin_27 : decode cX0_begin 27 = .ok (.invokestatic 54, 3) := by decide +kernel
theorem dX0_begin_30 : decode cX0_begin 30 = .ok (.aload_n 0, 1) := by decide +kernel
theorem dX0_begin_31 : decode cX0_begin 31 = .ok (.getfield 21, 3) := by decide +kernel
theorem dX0_begin_34 : decode cX0_begin 34 = .ok (.iconst 0, 1) := by decide +kernel
theorem dX0_begin_35 : decode cX0_begin 35 = .ok (.invokestatic 54, 3) := by decide +kernel
theorem dX0_begin_38 : decode cX0_begin 38 = .ok (.aload_n 0, 1) := by decide +kernel
theorem dX0_begin_39 : decode cX0_begin 39 = .ok (.getfield 24, 3) := by decide +kernel
theorem dX0_begin_42 : decode cX0_begin 42 = .ok (.iconst 0, 1) := by decide +kernel
theorem dX0_begin_43 : decode cX0_begin 43 = .ok (.invokestatic 54, 3) := by decide +kernel
theorem dX0_begin_46 : decode cX0_begin 46 = .ok (.aload_n 0, 1) := by decide +kernel
theorem dX0_begin_47 : decode cX0_begin 47 = .ok (.getfield 47, 3) := by decide +kernel
theorem dX0_begin_50 : decode cX0_begin 50 = .ok (.sipush 500, 3) := by decide +kernel
theorem dX0_begin_53 : decode cX0_begin 53 = .ok (.invokestatic 54, 3) := by decide +kernel
theorem dX0_begin_56 : decode cX0_begin 56 = .ok (.aload_n 0, 1) := by decide +kernel
theorem dX0_begin_57 : decode cX0_begin 57 = .ok (.iconst 0, 1) := by decide +kernel
theorem dX0_begin_58 : decode cX0_begin 58 = .ok (.putfield 60, 3) := by decide +kernel
theorem dX0_begin_61 : decode cX0_begin 61 = .ok (.aload_n 0, 1) := by decide +kernel
theorem dX0_begin_62 : decode cX0_begin 62 = .ok (.iconst 0, 1) := by decide +kernel
theorem dX0_begin_63 : decode cX0_begin 63 = .ok (.putfield 63, 3) := by decide +kernel
theorem dX0_begin_66 : decode cX0_begin 66 = .ok (.aload_n 0, 1) := by decide +kernel
theorem dX0_begin_67 : decode cX0_begin 67 = .ok (.iconst 0, 1) := by decide +kernel
theorem dX0_begin_68 : decode cX0_begin 68 = .ok (.putfield 66, 3) := by decide +kernel
theorem dX0_begin_71 : decode cX0_begin 71 = .ok (.aload_n 0, 1) := by decide +kernel
theorem dX0_begin_72 : decode cX0_begin 72 = .ok (.iconst (-1), 1) := by decide +kernel
theorem dX0_begin_73 : decode cX0_begin 73 = .ok (.putfield 69, 3) := by decide +kernel
theorem dX0_begin_76 : decode cX0_begin 76 = .ok (.aload_n 0, 1) := by decide +kernel
theorem dX0_begin_77 : decode cX0_begin 77 = .ok (.iconst (-1), 1) := by decide +kernel
theorem dX0_begin_78 : decode cX0_begin 78 = .ok (.putfield 72, 3) := by decide +kernel
theorem dX0_begin_81 : decode cX0_begin 81 = .ok (.return_, 1) := by decide +kernel
theorem dX0_has_0 : decode cX0_has 0 = .ok (.iload_n 1, 1) := by decide +kernel
theorem dX0_has_1 : decode cX0_has 1 = .ok (.ifCond .lt 15, 3) := by decide +kernel
theorem dX0_has_4 : decode cX0_has 4 = .ok (.iload_n 1, 1) := by decide +kernel
theorem dX0_has_5 : decode cX0_has 5 = .ok (.aload_n 0, 1) := by decide +kernel
theorem dX0_has_6 : decode cX0_has 6 = .ok (.getfield 50, 3) := by decide +kernel
theorem dX0_has_9 : decode cX0_has 9 = .ok (.if_icmp .ge 7, 3) := by decide +kernel
theorem dX0_has_12 : decode cX0_has 12 = .ok (.iconst 1, 1) := by decide +kernel
theorem dX0_has_13 : decode cX0_has 13 = .ok (.goto 4, 3) := by decide +kernel
theorem dX0_has_16 : decode cX0_has 16 = .ok (.iconst 0, 1) := by decide +kernel
theorem dX0_has_17 : decode cX0_has 17 = .ok (.ireturn, 1) := by decide +kernel
theorem dX0_addTap_0 : decode cX0_addTap 0 = .ok (.aload_n 0, 1) := by decide +kernel
theorem dX0_addTap_1 : decode cX0_addTap 1 = .ok (.getfield 66, 3) := by decide +kernel
theorem dX0_addTap_4 : decode cX0_addTap 4 = .ok (.bipush 12, 2) := by decide +kernel
theorem dX0_addTap_6 : decode cX0_addTap 6 = .ok (.if_icmp .ge 73, 3) := by decide +kernel
theorem dX0_addTap_9 : decode cX0_addTap 9 = .ok (.aload_n 0, 1) := by decide +kernel
theorem dX0_addTap_10 : decode cX0_addTap 10 = .ok (.getfield 33, 3) := by decide +kernel
theorem dX0_addTap_13 : decode cX0_addTap 13 = .ok (.aload_n 0, 1) := by decide +kernel
theorem dX0_addTap_14 : decode cX0_addTap 14 = .ok (.getfield 66, 3) := by decide +kernel
theorem dX0_addTap_17 : decode cX0_addTap 17 = .ok (.iload_n 1, 1) := by decide +kernel
theorem dX0_addTap_18 : decode cX0_addTap 18 = .ok (.iastore, 1) := by decide +kernel
theorem dX0_addTap_19 : decode cX0_addTap 19 = .ok (.aload_n 0, 1) := by decide +kernel
theorem dX0_addTap_20 : decode cX0_addTap 20 = .ok (.getfield 36, 3) := by decide +kernel
theorem dX0_addTap_23 : decode cX0_addTap 23 = .ok (.aload_n 0, 1) := by decide +kernel
theorem dX0_addTap_24 : decode cX0_addTap 24 = .ok (.getfield 66, 3) := by decide +kernel
theorem dX0_addTap_27 : decode cX0_addTap 27 = .ok (.iload_n 2, 1) := by decide +kernel
theorem dX0_addTap_28 : decode cX0_addTap 28 = .ok (.iastore, 1) := by decide +kernel
theorem dX0_addTap_29 : decode cX0_addTap 29 = .ok (.aload_n 0, 1) := by decide +kernel
theorem dX0_addTap_30 : decode cX0_addTap 30 = .ok (.getfield 9, 3) := by decide +kernel
theorem dX0_addTap_33 : decode cX0_addTap 33 = .ok (.iconst 0, 1) := by decide +kernel
theorem dX0_addTap_34 : decode cX0_addTap 34 = .ok (.aload_n 0, 1) := by decide +kernel
theorem dX0_addTap_35 : decode cX0_addTap 35 = .ok (.getfield 41, 3) := by decide +kernel
theorem dX0_addTap_38 : decode cX0_addTap 38 = .ok (.aload_n 0, 1) := by decide +kernel
theorem dX0_addTap_39 : decode cX0_addTap 39 = .ok (.getfield 66, 3) := by decide +kernel
theorem dX0_addTap_42 : decode cX0_addTap 42 = .ok (.aaload, 1) := by decide +kernel
theorem dX0_addTap_43 : decode cX0_addTap 43 = .ok (.iconst 0, 1) := by decide +kernel
theorem dX0_addTap_44 : decode cX0_addTap 44 = .ok (.bipush 16, 2) := by decide +kernel
theorem dX0_addTap_46 : decode cX0_addTap 46 = .ok (.invokestatic 75, 3) := by decide +kernel
theorem dX0_addTap_49 : decode cX0_addTap 49 = .ok (.aload_n 0, 1) := by decide +kernel
theorem dX0_addTap_50 : decode cX0_addTap 50 = .ok (.getfield 21, 3) := by decide +kernel
theorem dX0_addTap_53 : decode cX0_addTap 53 = .ok (.iconst 0, 1) := by decide +kernel
theorem dX0_addTap_54 : decode cX0_addTap 54 = .ok (.aload_n 0, 1) := by decide +kernel
theorem dX0_addTap_55 : decode cX0_addTap 55 = .ok (.getfield 44, 3) := by decide +kernel
theorem dX0_addTap_58 : decode cX0_addTap 58 = .ok (.aload_n 0, 1) := by decide +kernel
theorem dX0_addTap_59 : decode cX0_addTap 59 = .ok (.getfield 66, 3) := by decide +kernel
theorem dX0_addTap_62 : decode cX0_addTap 62 = .ok (.aaload, 1) := by decide +kernel
theorem dX0_addTap_63 : decode cX0_addTap 63 = .ok (.iconst 0, 1) := by decide +kernel
theorem dX0_addTap_64 : decode cX0_addTap 64 = .ok (.bipush 16, 2) := by decide +kernel
theorem dX0_addTap_66 : decode cX0_addTap 66 = .ok (.invokestatic 75, 3) := by decide +kernel
theorem dX0_addTap_69 : decode cX0_addTap 69 = .ok (.aload_n 0, 1) := by decide +kernel
theorem dX0_addTap_70 : decode cX0_addTap 70 = .ok (.dup, 1) := by decide +kernel
theorem dX0_addTap_71 : decode cX0_addTap 71 = .ok (.getfield 66, 3) := by decide +kernel
theorem dX0_addTap_74 : decode cX0_addTap 74 = .ok (.iconst 1, 1) := by decide +kernel
theorem dX0_addTap_75 : decode cX0_addTap 75 = .ok (.iadd, 1) := by decide +kernel
theorem dX0_addTap_76 : decode cX0_addTap 76 = .ok (.putfield 66, 3) := by decide +kernel
theorem dX0_addTap_79 : decode cX0_addTap 79 = .ok (.return_, 1) := by decide +kernel
theorem dX0_thinnedCopy_0 : decode cX0_thinnedCopy 0 = .ok (.aload_n 0, 1) := by decide +kernel
theorem dX0_thinnedCopy_1 : decode cX0_thinnedCopy 1 = .ok (.getfield 9, 3) := by decide +kernel
theorem dX0_thinnedCopy_4 : decode cX0_thinnedCopy 4 = .ok (.iconst 0, 1) := by decide +kernel
theorem dX0_thinnedCopy_5 : decode cX0_thinnedCopy 5 = .ok (.aload_n 1, 1) := by decide +kernel
theorem dX0_thinnedCopy_6 : decode cX0_thinnedCopy 6 = .ok (.iconst 0, 1) := by decide +kernel
theorem dX0_thinnedCopy_7 : decode cX0_thinnedCopy 7 = .ok (.bipush 16, 2) := by decide +kernel
theorem dX0_thinnedCopy_9 : decode cX0_thinnedCopy 9 = .ok (.invokestatic 75, 3) := by decide +kernel
theorem dX0_thinnedCopy_12 : decode cX0_thinnedCopy 12 = .ok (.aload_n 1, 1) := by decide +kernel
theorem dX0_thinnedCopy_13 : decode cX0_thinnedCopy 13 = .ok (.iload_n 2, 1) := by decide +kernel
theorem dX0_thinnedCopy_14 : decode cX0_thinnedCopy 14 = .ok (.dup2, 1) := by decide +kernel
theorem dX0_thinnedCopy_15 : decode cX0_thinnedCopy 15 = .ok (.iaload, 1) := by decide +kernel
theorem dX0_thinnedCopy_16 : decode cX0_thinnedCopy 16 = .ok (.iconst 1, 1) := by decide +kernel
theorem dX0_thinnedCopy_17 : decode cX0_thinnedCopy 17 = .ok (.isub, 1) := by decide +kernel
theorem dX0_thinnedCopy_18 : decode cX0_thinnedCopy 18 = .ok (.iastore, 1) := by decide +kernel
theorem dX0_thinnedCopy_19 : decode cX0_thinnedCopy 19 = .ok (.return_, 1) := by decide +kernel
theorem dX0_copyFrom_0 : decode cX0_copyFrom 0 = .ok (.aload_n 0, 1) := by decide +kernel
theorem dX0_copyFrom_1 : decode cX0_copyFrom 1 = .ok (.aload_n 1, 1) := by decide +kernel
theorem dX0_copyFrom_2 : decode cX0_copyFrom 2 = .ok (.getfield 50, 3) := by decide +kernel
theorem dX0_copyFrom_5 : decode cX0_copyFrom 5 = .ok (.putfield 50, 3) := by decide +kernel
theorem dX0_copyFrom_8 : decode cX0_copyFrom 8 = .ok (.aload_n 1, 1) := by decide +kernel
theorem dX0_copyFrom_9 : decode cX0_copyFrom 9 = .ok (.getfield 9, 3) := by decide +kernel
theorem dX0_copyFrom_12 : decode cX0_copyFrom 12 = .ok (.iconst 0, 1) := by decide +kernel
theorem dX0_copyFrom_13 : decode cX0_copyFrom 13 = .ok (.aload_n 0, 1) := by decide +kernel
theorem dX0_copyFrom_14 : decode cX0_copyFrom 14 = .ok (.getfield 9, 3) := by decide +kernel
theorem dX0_copyFrom_17 : decode cX0_copyFrom 17 = .ok (.iconst 0, 1) := by decide +kernel
theorem dX0_copyFrom_18 : decode cX0_copyFrom 18 = .ok (.bipush 16, 2) := by decide +kernel
theorem dX0_copyFrom_20 : decode cX0_copyFrom 20 = .ok (.invokestatic 75, 3) := by decide +kernel
theorem dX0_copyFrom_23 : decode cX0_copyFrom 23 = .ok (.aload_n 1, 1) := by decide +kernel
theorem dX0_copyFrom_24 : decode cX0_copyFrom 24 = .ok (.getfield 15, 3) := by decide +kernel
theorem dX0_copyFrom_27 : decode cX0_copyFrom 27 = .ok (.iconst 0, 1) := by decide +kernel
theorem dX0_copyFrom_28 : decode cX0_copyFrom 28 = .ok (.aload_n 0, 1) := by decide +kernel
theorem dX0_copyFrom_29 : decode cX0_copyFrom 29 = .ok (.getfield 15, 3) := by decide +kernel
theorem dX0_copyFrom_32 : decode cX0_copyFrom 32 = .ok (.iconst 0, 1) := by decide +kernel
theorem dX0_copyFrom_33 : decode cX0_copyFrom 33 = .ok (.bipush 16, 2) := by decide +kernel
theorem dX0_copyFrom_35 : decode cX0_copyFrom 35 = .ok (.invokestatic 75, 3) := by decide +kernel
theorem dX0_copyFrom_38 : decode cX0_copyFrom 38 = .ok (.aload_n 1, 1) := by decide +kernel
theorem dX0_copyFrom_39 : decode cX0_copyFrom 39 = .ok (.getfield 18, 3) := by decide +kernel
theorem dX0_copyFrom_42 : decode cX0_copyFrom 42 = .ok (.iconst 0, 1) := by decide +kernel
theorem dX0_copyFrom_43 : decode cX0_copyFrom 43 = .ok (.aload_n 0, 1) := by decide +kernel
theorem dX0_copyFrom_44 : decode cX0_copyFrom 44 = .ok (.getfield 18, 3) := by decide +kernel
theorem dX0_copyFrom_47 : decode cX0_copyFrom 47 = .ok (.iconst 0, 1) := by decide +kernel
theorem dX0_copyFrom_48 : decode cX0_copyFrom 48 = .ok (.bipush 16, 2) := by decide +kernel
theorem dX0_copyFrom_50 : decode cX0_copyFrom 50 = .ok (.invokestatic 75, 3) := by decide +kernel
theorem dX0_copyFrom_53 : decode cX0_copyFrom 53 = .ok (.aload_n 1, 1) := by decide +kernel
theorem dX0_copyFrom_54 : decode cX0_copyFrom 54 = .ok (.getfield 21, 3) := by decide +kernel
theorem dX0_copyFrom_57 : decode cX0_copyFrom 57 = .ok (.iconst 0, 1) := by decide +kernel
theorem dX0_copyFrom_58 : decode cX0_copyFrom 58 = .ok (.aload_n 0, 1) := by decide +kernel
theorem dX0_copyFrom_59 : decode cX0_copyFrom 59 = .ok (.getfield 21, 3) := by decide +kernel
theorem dX0_copyFrom_62 : decode cX0_copyFrom 62 = .ok (.iconst 0, 1) := by decide +kernel
theorem dX0_copyFrom_63 : decode cX0_copyFrom 63 = .ok (.bipush 16, 2) := by decide +kernel
theorem dX0_copyFrom_65 : decode cX0_copyFrom 65 = .ok (.invokestatic 75, 3) := by decide +kernel
theorem dX0_copyFrom_68 : decode cX0_copyFrom 68 = .ok (.aload_n 1, 1) := by decide +kernel
theorem dX0_copyFrom_69 : decode cX0_copyFrom 69 = .ok (.getfield 24, 3) := by decide +kernel
theorem dX0_copyFrom_72 : decode cX0_copyFrom 72 = .ok (.iconst 0, 1) := by decide +kernel
theorem dX0_copyFrom_73 : decode cX0_copyFrom 73 = .ok (.aload_n 0, 1) := by decide +kernel
theorem dX0_copyFrom_74 : decode cX0_copyFrom 74 = .ok (.getfield 24, 3) := by decide +kernel
theorem dX0_copyFrom_77 : decode cX0_copyFrom 77 = .ok (.iconst 0, 1) := by decide +kernel
theorem dX0_copyFrom_78 : decode cX0_copyFrom 78 = .ok (.iconst 3, 1) := by decide +kernel
theorem dX0_copyFrom_79 : decode cX0_copyFrom 79 = .ok (.invokestatic 75, 3) := by decide +kernel
theorem dX0_copyFrom_82 : decode cX0_copyFrom 82 = .ok (.aload_n 1, 1) := by decide +kernel
theorem dX0_copyFrom_83 : decode cX0_copyFrom 83 = .ok (.getfield 27, 3) := by decide +kernel
theorem dX0_copyFrom_86 : decode cX0_copyFrom 86 = .ok (.iconst 0, 1) := by decide +kernel
theorem dX0_copyFrom_87 : decode cX0_copyFrom 87 = .ok (.aload_n 0, 1) := by decide +kernel
theorem dX0_copyFrom_88 : decode cX0_copyFrom 88 = .ok (.getfield 27, 3) := by decide +kernel
theorem dX0_copyFrom_91 : decode cX0_copyFrom 91 = .ok (.iconst 0, 1) := by decide +kernel
theorem dX0_copyFrom_92 : decode cX0_copyFrom 92 = .ok (.sipush 200, 3) := by decide +kernel
theorem dX0_copyFrom_95 : decode cX0_copyFrom 95 = .ok (.invokestatic 75, 3) := by decide +kernel
theorem dX0_copyFrom_98 : decode cX0_copyFrom 98 = .ok (.aload_n 1, 1) := by decide +kernel
theorem dX0_copyFrom_99 : decode cX0_copyFrom 99 = .ok (.getfield 30, 3) := by decide +kernel
theorem dX0_copyFrom_102 : decode cX0_copyFrom 102 = .ok (.iconst 0, 1) := by decide +kernel
theorem dX0_copyFrom_103 : decode cX0_copyFrom 103 = .ok (.aload_n 0, 1) := by decide +kernel
theorem dX0_copyFrom_104 : decode cX0_copyFrom 104 = .ok (.getfield 30, 3) := by decide +kernel
theorem dX0_copyFrom_107 : decode cX0_copyFrom 107 = .ok (.iconst 0, 1) := by decide +kernel
theorem dX0_copyFrom_108 : decode cX0_copyFrom 108 = .ok (.sipush 200, 3) := by decide +kernel
theorem dX0_copyFrom_111 : decode cX0_copyFrom 111 = .ok (.invokestatic 75, 3) := by decide +kernel
theorem dX0_copyFrom_114 : decode cX0_copyFrom 114 = .ok (.aload_n 0, 1) := by decide +kernel
theorem dX0_copyFrom_115 : decode cX0_copyFrom 115 = .ok (.aload_n 1, 1) := by decide +kernel
theorem dX0_copyFrom_116 : decode cX0_copyFrom 116 = .ok (.getfield 60, 3) := by decide +kernel
theorem dX0_copyFrom_119 : decode cX0_copyFrom 119 = .ok (.putfield 60, 3) := by decide +kernel
theorem dX0_copyFrom_122 : decode cX0_copyFrom 122 = .ok (.aload_n 0, 1) := by decide +kernel
theorem dX0_copyFrom_123 : decode cX0_copyFrom 123 = .ok (.aload_n 1, 1) := by decide +kernel
theorem dX0_copyFrom_124 : decode cX0_copyFrom 124 = .ok (.getfield 63, 3) := by decide +kernel
theorem dX0_copyFrom_127 : decode cX0_copyFrom 127 = .ok (.putfield 63, 3) := by decide +kernel
theorem dX0_copyFrom_130 : decode cX0_copyFrom 130 = .ok (.aload_n 1, 1) := by decide +kernel
theorem dX0_copyFrom_131 : decode cX0_copyFrom 131 = .ok (.getfield 33, 3) := by decide +kernel
theorem dX0_copyFrom_134 : decode cX0_copyFrom 134 = .ok (.iconst 0, 1) := by decide +kernel
theorem dX0_copyFrom_135 : decode cX0_copyFrom 135 = .ok (.aload_n 0, 1) := by decide +kernel
theorem dX0_copyFrom_136 : decode cX0_copyFrom 136 = .ok (.getfield 33, 3) := by decide +kernel
theorem dX0_copyFrom_139 : decode cX0_copyFrom 139 = .ok (.iconst 0, 1) := by decide +kernel
theorem dX0_copyFrom_140 : decode cX0_copyFrom 140 = .ok (.bipush 12, 2) := by decide +kernel
theorem dX0_copyFrom_142 : decode cX0_copyFrom 142 = .ok (.invokestatic 75, 3) := by decide +kernel
theorem dX0_copyFrom_145 : decode cX0_copyFrom 145 = .ok (.aload_n 1, 1) := by decide +kernel
theorem dX0_copyFrom_146 : decode cX0_copyFrom 146 = .ok (.getfield 36, 3) := by decide +kernel
theorem dX0_copyFrom_149 : decode cX0_copyFrom 149 = .ok (.iconst 0, 1) := by decide +kernel
theorem dX0_copyFrom_150 : decode cX0_copyFrom 150 = .ok (.aload_n 0, 1) := by decide +kernel
theorem dX0_copyFrom_151 : decode cX0_copyFrom 151 = .ok (.getfield 36, 3) := by decide +kernel
theorem dX0_copyFrom_154 : decode cX0_copyFrom 154 = .ok (.iconst 0, 1) := by decide +kernel
theorem dX0_copyFrom_155 : decode cX0_copyFrom 155 = .ok (.bipush 12, 2) := by decide +kernel
theorem dX0_copyFrom_157 : decode cX0_copyFrom 157 = .ok (.invokestatic 75, 3) := by decide +kernel
theorem dX0_copyFrom_160 : decode cX0_copyFrom 160 = .ok (.iconst 0, 1) := by decide +kernel
theorem dX0_copyFrom_161 : decode cX0_copyFrom 161 = .ok (.istore_n 2, 1) := by decide +kernel
theorem dX0_copyFrom_162 : decode cX0_copyFrom 162 = .ok (.iload_n 2, 1) := by decide +kernel
theorem dX0_copyFrom_163 : decode cX0_copyFrom 163 = .ok (.bipush 12, 2) := by decide +kernel
theorem dX0_copyFrom_165 : decode cX0_copyFrom 165 = .ok (.if_icmp .ge 47, 3) := by decide +kernel
theorem dX0_copyFrom_168 : decode cX0_copyFrom 168 = .ok (.aload_n 1, 1) := by decide +kernel
theorem dX0_copyFrom_169 : decode cX0_copyFrom 169 = .ok (.getfield 41, 3) := by decide +kernel
theorem dX0_copyFrom_172 : decode cX0_copyFrom 172 = .ok (.iload_n 2, 1) := by decide +kernel
theorem dX0_copyFrom_173 : decode cX0_copyFrom 173 = .ok (.aaload, 1) := by decide +kernel
theorem dX0_copyFrom_174 : decode cX0_copyFrom 174 = .ok (.iconst 0, 1) := by decide +kernel
theorem dX0_copyFrom_175 : decode cX0_copyFrom 175 = .ok (.aload_n 0, 1) := by decide +kernel
theorem dX0_copyFrom_176 : decode cX0_copyFrom 176 = .ok (.getfield 41, 3) := by decide +kernel
theorem dX0_copyFrom_179 : decode cX0_copyFrom 179 = .ok (.iload_n 2, 1) := by decide +kernel
theorem dX0_copyFrom_180 : decode cX0_copyFrom 180 = .ok (.aaload, 1) := by decide +kernel
theorem dX0_copyFrom_181 : decode cX0_copyFrom 181 = .ok (.iconst 0, 1) := by decide +kernel
theorem dX0_copyFrom_182 : decode cX0_copyFrom 182 = .ok (.bipush 16, 2) := by decide +kernel
theorem dX0_copyFrom_184 : decode cX0_copyFrom 184 = .ok (.invokestatic 75, 3) := by decide +kernel
theorem dX0_copyFrom_187 : decode cX0_copyFrom 187 = .ok (.aload_n 1, 1) := by decide +kernel
theorem dX0_copyFrom_188 : decode cX0_copyFrom 188 = .ok (.getfield 44, 3) := by decide +kernel
theorem dX0_copyFrom_191 : decode cX0_copyFrom 191 = .ok (.iload_n 2, 1) := by decide +kernel
theorem dX0_copyFrom_192 : decode cX0_copyFrom 192 = .ok (.aaload, 1) := by decide +kernel
theorem dX0_copyFrom_193 : decode cX0_copyFrom 193 = .ok (.iconst 0, 1) := by decide +kernel
theorem dX0_copyFrom_194 : decode cX0_copyFrom 194 = .ok (.aload_n 0, 1) := by decide +kernel
theorem dX0_copyFrom_195 : decode cX0_copyFrom 195 = .ok (.getfield 44, 3) := by decide +kernel
theorem dX0_copyFrom_198 : decode cX0_copyFrom 198 = .ok (.iload_n 2, 1) := by decide +kernel
theorem dX0_copyFrom_199 : decode cX0_copyFrom 199 = .ok (.aaload, 1) := by decide +kernel
theorem dX0_copyFrom_200 : decode cX0_copyFrom 200 = .ok (.iconst 0, 1) := by decide +kernel
theorem dX0_copyFrom_201 : decode cX0_copyFrom 201 = .ok (.bipush 16, 2) := by decide +kernel
theorem dX0_copyFrom_203 : decode cX0_copyFrom 203 = .ok (.invokestatic 75, 3) := by decide +kernel
theorem dX0_copyFrom_206 : decode cX0_copyFrom 206 = .ok (.iinc 2 1, 3) := by decide +kernel
theorem dX0_copyFrom_209 : decode cX0_copyFrom 209 = .ok (.goto (-47), 3) := by decide +kernel
theorem dX0_copyFrom_212 : decode cX0_copyFrom 212 = .ok (.aload_n 0, 1) := by decide +kernel
theorem dX0_copyFrom_213 : decode cX0_copyFrom 213 = .ok (.aload_n 1, 1) := by decide +kernel
theorem dX0_copyFrom_214 : decode cX0_copyFrom 214 = .ok (.getfield 66, 3) := by decide +kernel
theorem dX0_copyFrom_217 : decode cX0_copyFrom 217 = .ok (.putfield 66, 3) := by decide +kernel
theorem dX0_copyFrom_220 : decode cX0_copyFrom 220 = .ok (.aload_n 0, 1) := by decide +kernel
theorem dX0_copyFrom_221 : decode cX0_copyFrom 221 = .ok (.aload_n 1, 1) := by decide +kernel
theorem dX0_copyFrom_222 : decode cX0_copyFrom 222 = .ok (.getfield 69, 3) := by decide +kernel
theorem dX0_copyFrom_225 : decode cX0_copyFrom 225 = .ok (.putfield 69, 3) := by decide +kernel
theorem dX0_copyFrom_228 : decode cX0_copyFrom 228 = .ok (.aload_n 0, 1) := by decide +kernel
theorem dX0_copyFrom_229 : decode cX0_copyFrom 229 = .ok (.aload_n 1, 1) := by decide +kernel
theorem dX0_copyFrom_230 : decode cX0_copyFrom 230 = .ok (.getfield 72, 3) := by decide +kernel
theorem dX0_copyFrom_233 : decode cX0_copyFrom 233 = .ok (.putfield 72, 3) := by decide +kernel
theorem dX0_copyFrom_236 : decode cX0_copyFrom 236 = .ok (.aload_n 1, 1) := by decide +kernel
theorem dX0_copyFrom_237 : decode cX0_copyFrom 237 = .ok (.getfield 47, 3) := by decide +kernel
theorem dX0_copyFrom_240 : decode cX0_copyFrom 240 = .ok (.iconst 0, 1) := by decide +kernel
theorem dX0_copyFrom_241 : decode cX0_copyFrom 241 = .ok (.aload_n 0, 1) := by decide +kernel
theorem dX0_copyFrom_242 : decode cX0_copyFrom 242 = .ok (.getfield 47, 3) := by decide +kernel
theorem dX0_copyFrom_245 : decode cX0_copyFrom 245 = .ok (.iconst 0, 1) := by decide +kernel
theorem dX0_copyFrom_246 : decode cX0_copyFrom 246 = .ok (.iconst 2, 1) := by decide +kernel
theorem dX0_copyFrom_247 : decode cX0_copyFrom 247 = .ok (.invokestatic 75, 3) := by decide +kernel
theorem dX0_copyFrom_250 : decode cX0_copyFrom 250 = .ok (.return_, 1) := by decide +kernel
theorem dX1_init_0 : decode cX1_init 0 = .ok (.aload_n 0, 1) := by decide +kernel
theorem dX1_init_1 : decode cX1_init 1 = .ok (.invokespecial 3, 3) := by decide +kernel
theorem dX1_init_4 : decode cX1_init 4 = .ok (.aload_n 0, 1) := by decide +kernel
theorem dX1_init_5 : decode cX1_init 5 = .ok (.sipush 240, 3) := by decide +kernel
theorem dX1_init_8 : decode cX1_init 8 = .ok (.newarray .int, 2) := by decide +kernel
theorem dX1_init_10 : decode cX1_init 10 = .ok (.putfield 11, 3) := by decide +kernel
theorem dX1_init_13 : decode cX1_init 13 = .ok (.aload_n 0, 1) := by decide +kernel
theorem dX1_init_14 : decode cX1_init 14 = .ok (.sipush 240, 3) := by decide +kernel
theorem dX1_init_17 : decode cX1_init 17 = .ok (.newarray .int, 2) := by decide +kernel
theorem dX1_init_19 : decode cX1_init 19 = .ok (.putfield 15, 3) := by decide +kernel
theorem dX1_init_22 : decode cX1_init 22 = .ok (.aload_n 0, 1) := by decide +kernel
theorem dX1_init_23 : decode cX1_init 23 = .ok (.iconst 5, 1) := by decide +kernel
theorem dX1_init_24 : decode cX1_init 24 = .ok (.newarray .int, 2) := by decide +kernel
theorem dX1_init_26 : decode cX1_init 26 = .ok (.putfield 18, 3) := by decide +kernel
theorem dX1_init_29 : decode cX1_init 29 = .ok (.aload_n 0, 1) := by decide +kernel
theorem dX1_init_30 : decode cX1_init 30 = .ok (.sipush 1024, 3) := by decide +kernel
theorem dX1_init_33 : decode cX1_init 33 = .ok (.newarray .int, 2) := by decide +kernel
theorem dX1_init_35 : decode cX1_init 35 = .ok (.putfield 21, 3) := by decide +kernel
theorem dX1_init_38 : decode cX1_init 38 = .ok (.aload_n 0, 1) := by decide +kernel
theorem dX1_init_39 : decode cX1_init 39 = .ok (.bipush 16, 2) := by decide +kernel
theorem dX1_init_41 : decode cX1_init 41 = .ok (.newarray .int, 2) := by decide +kernel
theorem dX1_init_43 : decode cX1_init 43 = .ok (.putfield 24, 3) := by decide +kernel
theorem dX1_init_46 : decode cX1_init 46 = .ok (.aload_n 0, 1) := by decide +kernel
theorem dX1_init_47 : decode cX1_init 47 = .ok (.new 27, 3) := by decide +kernel
theorem dX1_init_50 : decode cX1_init 50 = .ok (.dup, 1) := by decide +kernel
theorem dX1_init_51 : decode cX1_init 51 = .ok (.invokespecial 29, 3) := by decide +kernel
theorem dX1_init_54 : decode cX1_init 54 = .ok (.putfield 30, 3) := by decide +kernel
theorem dX1_init_57 : decode cX1_init 57 = .ok (.return_, 1) := by decide +kernel
theorem dX1_find_0 : decode cX1_find 0 = .ok (.aload_n 0, 1) := by decide +kernel
theorem dX1_find_1 : decode cX1_find 1 = .ok (.iconst 1, 1) := by decide +kernel
theorem dX1_find_2 : decode cX1_find 2 = .ok (.iload 4, 2) := by decide +kernel
theorem dX1_find_4 : decode cX1_find 4 = .ok (.iconst 4, 1) := by decide +kernel
theorem dX1_find_5 : decode cX1_find 5 = .ok (.invokestatic 34, 3) := by decide +kernel
theorem dX1_find_8 : decode cX1_find 8 = .ok (.invokestatic 40, 3) := by decide +kernel
theorem dX1_find_11 : decode cX1_find 11 = .ok (.putfield 43, 3) := by decide +kernel
theorem dX1_find_14 : decode cX1_find 14 = .ok (.iconst 0, 1) := by decide +kernel
theorem dX1_find_15 : decode cX1_find 15 = .ok (.istore 6, 2) := by decide +kernel
theorem dX1_find_17 : decode cX1_find 17 = .ok (.iload 6, 2) := by decide +kernel
theorem dX1_find_19 : decode cX1_find 19 = .ok (.aload_n 3, 1) := by decide +kernel
theorem dX1_find_20 : decode cX1_find 20 = .ok (.getfield 47, 3) := by decide +kernel
theorem dX1_find_23 : decode cX1_find 23 = .ok (.if_icmp .ge 39, 3) := by decide +kernel
theorem dX1_find_26 : decode cX1_find 26 = .ok (.aload_n 0, 1) := by decide +kernel
theorem dX1_find_27 : decode cX1_find 27 = .ok (.aload_n 1, 1) := by decide +kernel
theorem dX1_find_28 : decode cX1_find 28 = .ok (.aload_n 2, 1) := by decide +kernel
theorem dX1_find_29 : decode cX1_find 29 = .ok (.aload_n 3, 1) := by decide +kernel
theorem dX1_find_30 : decode cX1_find 30 = .ok (.iload 6, 2) := by decide +kernel
theorem dX1_find_32 : decode cX1_find 32 = .ok (.aload_n 3, 1) := by decide +kernel
theorem dX1_find_33 : decode cX1_find 33 = .ok (.getfield 52, 3) := by decide +kernel
theorem dX1_find_36 : decode cX1_find 36 = .ok (.iload 6, 2) := by decide +kernel
theorem dX1_find_38 : decode cX1_find 38 = .ok (.iaload, 1) := by decide +kernel
theorem dX1_find_39 : decode cX1_find 39 = .ok (.aload_n 3, 1) := by decide +kernel
theorem dX1_find_40 : decode cX1_find 40 = .ok (.getfield 55, 3) := by decide +kernel
theorem dX1_find_43 : decode cX1_find 43 = .ok (.iload 6, 2) := by decide +kernel
theorem dX1_find_45 : decode cX1_find 45 = .ok (.aaload, 1) := by decide +kernel
theorem dX1_find_46 : decode cX1_find 46 = .ok (.aload_n 3, 1) := by decide +kernel
theorem dX1_find_47 : decode cX1_find 47 = .ok (.getfield 59, 3) := by decide +kernel
theorem dX1_find_50 : decode cX1_find 50 = .ok (.iload 6, 2) := by decide +kernel
theorem dX1_find_52 : decode cX1_find 52 = .ok (.aaload, 1) := by decide +kernel
theorem dX1_find_53 : decode cX1_find 53 = .ok (.invokevirtual 62, 3) := by decide +kernel
theorem dX1_find_56 : decode cX1_find 56 = .ok (.iinc 6 1, 3) := by decide +kernel
theorem dX1_find_59 : decode cX1_find 59 = .ok (.goto (-42), 3) := by decide +kernel
theorem dX1_find_62 : decode cX1_find 62 = .ok (.iconst 1, 1) := by decide +kernel
theorem dX1_find_63 : decode cX1_find 63 = .ok (.istore 6, 2) := by decide +kernel
theorem dX1_find_65 : decode cX1_find 65 = .ok (.iconst 0, 1) := by decide +kernel
theorem dX1_find_66 : decode cX1_find 66 = .ok (.istore 7, 2) := by decide +kernel
theorem dX1_find_68 : decode cX1_find 68 = .ok (.iload 7, 2) := by decide +kernel
theorem dX1_find_70 : decode cX1_find 70 = .ok (.aload_n 3, 1) := by decide +kernel
theorem dX1_find_71 : decode cX1_find 71 = .ok (.getfield 66, 3) := by decide +kernel
theorem dX1_find_74 : decode cX1_find 74 = .ok (.if_icmp .ge 18, 3) := by decide +kernel
theorem dX1_find_77 : decode cX1_find 77 = .ok (.iload 6, 2) := by decide +kernel
theorem dX1_find_79 : decode cX1_find 79 = .ok (.aload_n 0, 1) := by decide +kernel
theorem dX1_find_80 : decode cX1_find 80 = .ok (.getfield 43, 3) := by decide +kernel
theorem dX1_find_83 : decode cX1_find 83 = .ok (.imul, 1) := by decide +kernel
theorem dX1_find_84 : decode cX1_find 84 = .ok (.istore 6, 2) := by decide +kernel
theorem dX1_find_86 : decode cX1_find 86 = .ok (.iinc 7 1, 3) := by decide +kernel
theorem dX1_find_89 : decode cX1_find 89 = .ok (.goto (-21), 3) := by decide +kernel
theorem dX1_find_92 : decode cX1_find 92 = .ok (.aload_n 0, 1) := by decide +kernel
theorem dX1_find_93 : decode cX1_find 93 = .ok (.iconst 0, 1) := by decide +kernel
theorem dX1_find_94 : decode cX1_find 94 = .ok (.putfield 69, 3) := by decide +kernel
theorem dX1_find_97 : decode cX1_find 97 = .ok (.iconst 0, 1) := by decide +kernel
theorem dX1_find_98 : decode cX1_find 98 = .ok (.istore 7, 2) := by decide +kernel
theorem dX1_find_100 : decode cX1_find 100 = .ok (.iload 7, 2) := by decide +kernel
theorem dX1_find_102 : decode cX1_find 102 = .ok (.iload 6, 2) := by decide +kernel
theorem dX1_find_104 : decode cX1_find 104 = .ok (.if_icmp .ge 54, 3) := by decide +kernel
theorem dX1_find_107 : decode cX1_find 107 = .ok (.iload 7, 2) := by decide +kernel
theorem dX1_find_109 : decode cX1_find 109 = .ok (.sipush 1024, 3) := by decide +kernel
theorem dX1_find_112 : decode cX1_find 112 = .ok (.if_icmp .ge 46, 3) := by decide +kernel
theorem dX1_find_115 : decode cX1_find 115 = .ok (.aload_n 0, 1) := by decide +kernel
theorem dX1_find_116 : decode cX1_find 116 = .ok (.iload 7, 2) := by decide +kernel
theorem dX1_find_118 : decode cX1_find 118 = .ok (.invokevirtual 72, 3) := by decide +kernel
theorem dX1_find_121 : decode cX1_find 121 = .ok (.aload_n 0, 1) := by decide +kernel
theorem dX1_find_122 : decode cX1_find 122 = .ok (.aload_n 3, 1) := by decide +kernel
theorem dX1_find_123 : decode cX1_find 123 = .ok (.iload 5, 2) := by decide +kernel
theorem dX1_find_125 : decode cX1_find 125 = .ok (.invokevirtual 76, 3) := by decide +kernel
theorem dX1_find_128 : decode cX1_find 128 = .ok (.ifCond .eq 24, 3) := by decide +kernel
theorem dX1_find_131 : decode cX1_find 131 = .ok (.aload_n 0, 1) := by decide +kernel
theorem dX1_find_132 : decode cX1_find 132 = .ok (.getfield 21, 3) := by decide +kernel
theorem dX1_find_135 : decode cX1_find 135 = .ok (.aload_n 0, 1) := by decide +kernel
theorem dX1_find_136 : decode cX1_find 136 = .ok (.getfield 69, 3) := by decide +kernel
theorem dX1_find_139 : decode cX1_find 139 = .ok (.iload 7, 2) := by decide +kernel
theorem dX1_find_141 : decode cX1_find 141 = .ok (.iastore, 1) := by decide +kernel
theorem dX1_find_142 : decode cX1_find 142 = .ok (.aload_n 0, 1) := by decide +kernel
theorem dX1_find_143 : decode cX1_find 143 = .ok (.dup, 1) := by decide +kernel
theorem dX1_find_144 : decode cX1_find 144 = .ok (.getfield 69, 3) := by decide +kernel
theorem dX1_find_147 : decode cX1_find 147 = .ok (.iconst 1, 1) := by decide +kernel
theorem dX1_find_148 : decode cX1_find 148 = .ok (.iadd, 1) := by decide +kernel
theorem dX1_find_149 : decode cX1_find 149 = .ok (.putfield 69, 3) := by decide +kernel
theorem dX1_find_152 : decode cX1_find 152 = .ok (.iinc 7 1, 3) := by decide +kernel
theorem dX1_find_155 : decode cX1_find 155 = .ok (.goto (-55), 3) := by decide +kernel
theorem dX1_find_158 : decode cX1_find 158 = .ok (.aload_n 0, 1) := by decide +kernel
theorem dX1_find_159 : decode cX1_find 159 = .ok (.getfield 69, 3) := by decide +kernel
theorem dX1_find_162 : decode cX1_find 162 = .ok (.ireturn, 1) := by decide +kernel
theorem dX1_fill_0 : decode cX1_fill 0 = .ok (.iconst 0, 1) := by decide +kernel
theorem dX1_fill_1 : decode cX1_fill 1 = .ok (.istore 8, 2) := by decide +kernel
theorem dX1_fill_3 : decode cX1_fill 3 = .ok (.iload 8, 2) := by decide +kernel
theorem dX1_fill_5 : decode cX1_fill 5 = .ok (.aload_n 3, 1) := by decide +kernel
theorem dX1_fill_6 : decode cX1_fill 6 = .ok (.getfield 66, 3) := by decide +kernel
theorem dX1_fill_9 : decode cX1_fill 9 = .ok (.if_icmp .ge 98, 3) := by decide +kernel
theorem dX1_fill_12 : decode cX1_fill 12 = .ok (.iload 8, 2) := by decide +kernel
theorem dX1_fill_14 : decode cX1_fill 14 = .ok (.iconst 5, 1) := by decide +kernel
theorem dX1_fill_15 : decode cX1_fill 15 = .ok (.if_icmp .ge 92, 3) := by decide +kernel
theorem dX1_fill_18 : decode cX1_fill 18 = .ok (.iconst 0, 1) := by decide +kernel
theorem dX1_fill_19 : decode cX1_fill 19 = .ok (.istore 9, 2) := by decide +kernel
theorem dX1_fill_21 : decode cX1_fill 21 = .ok (.iload 9, 2) := by decide +kernel
theorem dX1_fill_23 : decode cX1_fill 23 = .ok (.aload_n 0, 1) := by decide +kernel
theorem dX1_fill_24 : decode cX1_fill 24 = .ok (.getfield 43, 3) := by decide +kernel
theorem dX1_fill_27 : decode cX1_fill 27 = .ok (.if_icmp .ge 74, 3) := by decide +kernel
theorem dX1_fill_30 : decode cX1_fill 30 = .ok (.aload_n 1, 1) := by decide +kernel
theorem dX1_fill_31 : decode cX1_fill 31 = .ok (.aload_n 3, 1) := by decide +kernel
theorem dX1_fill_32 : decode cX1_fill 32 = .ok (.iload 8, 2) := by decide +kernel
theorem dX1_fill_34 : decode cX1_fill 34 = .ok (.aload 6, 2) := by decide +kernel
theorem dX1_fill_36 : decode cX1_fill 36 = .ok (.iload 8, 2) := by decide +kernel
theorem dX1_fill_38 : decode cX1_fill 38 = .ok (.iaload, 1) := by decide +kernel
theorem dX1_fill_39 : decode cX1_fill 39 = .ok (.iload 9, 2) := by decide +kernel
theorem dX1_fill_41 : decode cX1_fill 41 = .ok (.iconst 1, 1) := by decide +kernel
theorem dX1_fill_42 : decode cX1_fill 42 = .ok (.iadd, 1) := by decide +kernel
theorem dX1_fill_43 : decode cX1_fill 43 = .ok (.aload 7, 2) := by decide +kernel
theorem dX1_fill_45 : decode cX1_fill 45 = .ok (.iload 8, 2) := by decide +kernel
theorem dX1_fill_47 : decode cX1_fill 47 = .ok (.iaload, 1) := by decide +kernel
theorem dX1_fill_48 : decode cX1_fill 48 = .ok (.invokevirtual 80, 3) := by decide +kernel
theorem dX1_fill_51 : decode cX1_fill 51 = .ok (.aload_n 0, 1) := by decide +kernel
theorem dX1_fill_52 : decode cX1_fill 52 = .ok (.getfield 11, 3) := by decide +kernel
theorem dX1_fill_55 : decode cX1_fill 55 = .ok (.iload 4, 2) := by decide +kernel
theorem dX1_fill_57 : decode cX1_fill 57 = .ok (.iload 8, 2) := by decide +kernel
theorem dX1_fill_59 : decode cX1_fill 59 = .ok (.iload 9, 2) := by decide +kernel
theorem dX1_fill_61 : decode cX1_fill 61 = .ok (.invokestatic 86, 3) := by decide +kernel
theorem dX1_fill_64 : decode cX1_fill 64 = .ok (.aload_n 1, 1) := by decide +kernel
theorem dX1_fill_65 : decode cX1_fill 65 = .ok (.aload_n 2, 1) := by decide +kernel
theorem dX1_fill_66 : decode cX1_fill 66 = .ok (.iconst 0, 1) := by decide +kernel
theorem dX1_fill_67 : decode cX1_fill 67 = .ok (.iload 5, 2) := by decide +kernel
theorem dX1_fill_69 : decode cX1_fill 69 = .ok (.invokevirtual 90, 3) := by decide +kernel
theorem dX1_fill_72 : decode cX1_fill 72 = .ok (.iastore, 1) := by decide +kernel
theorem dX1_fill_73 : decode cX1_fill 73 = .ok (.aload_n 0, 1) := by decide +kernel
theorem dX1_fill_74 : decode cX1_fill 74 = .ok (.getfield 15, 3) := by decide +kernel
theorem dX1_fill_77 : decode cX1_fill 77 = .ok (.iload 4, 2) := by decide +kernel
theorem dX1_fill_79 : decode cX1_fill 79 = .ok (.iload 8, 2) := by decide +kernel
theorem dX1_fill_81 : decode cX1_fill 81 = .ok (.iload 9, 2) := by decide +kernel
theorem dX1_fill_83 : decode cX1_fill 83 = .ok (.invokestatic 86, 3) := by decide +kernel
theorem dX1_fill_86 : decode cX1_fill 86 = .ok (.aload_n 1, 1) := by decide +kernel
theorem dX1_fill_87 : decode cX1_fill 87 = .ok (.aload_n 2, 1) := by decide +kernel
theorem dX1_fill_88 : decode cX1_fill 88 = .ok (.iconst 1, 1) := by decide +kernel
theorem dX1_fill_89 : decode cX1_fill 89 = .ok (.iload 5, 2) := by decide +kernel
theorem dX1_fill_91 : decode cX1_fill 91 = .ok (.invokevirtual 90, 3) := by decide +kernel
theorem dX1_fill_94 : decode cX1_fill 94 = .ok (.iastore, 1) := by decide +kernel
theorem dX1_fill_95 : decode cX1_fill 95 = .ok (.iinc 9 1, 3) := by decide +kernel
theorem dX1_fill_98 : decode cX1_fill 98 = .ok (.goto (-77), 3) := by decide +kernel
theorem dX1_fill_101 : decode cX1_fill 101 = .ok (.iinc 8 1, 3) := by decide +kernel
theorem dX1_fill_104 : decode cX1_fill 104 = .ok (.goto (-101), 3) := by decide +kernel
theorem dX1_fill_107 : decode cX1_fill 107 = .ok (.return_, 1) := by decide +kernel
theorem dX1_place_0 : decode cX1_place 0 = .ok (.iload_n 0, 1) := by decide +kernel
theorem dX1_place_1 : decode cX1_place 1 = .ok (.iconst 5, 1) := by decide +kernel
theorem dX1_place_2 : decode cX1_place 2 = .ok (.imul, 1) := by decide +kernel
theorem dX1_place_3 : decode cX1_place 3 = .ok (.iload_n 1, 1) := by decide +kernel
theorem dX1_place_4 : decode cX1_place 4 = .ok (.iadd, 1) := by decide +kernel
theorem dX1_place_5 : decode cX1_place 5 = .ok (.iconst 4, 1) := by decide +kernel
theorem dX1_place_6 : decode cX1_place 6 = .ok (.imul, 1) := by decide +kernel
theorem dX1_place_7 : decode cX1_place 7 = .ok (.iload_n 2, 1) := by decide +kernel
theorem dX1_place_8 : decode cX1_place 8 = .ok (.iadd, 1) := by decide +kernel
theorem dX1_place_9 : decode cX1_place 9 = .ok (.ireturn, 1) := by decide +kernel
theorem dX1_unfold_0 : decode cX1_unfold 0 = .ok (.iload_n 1, 1) := by decide +kernel
theorem dX1_unfold_1 : decode cX1_unfold 1 = .ok (.istore_n 2, 1) := by decide +kernel
theorem dX1_unfold_2 : decode cX1_unfold 2 = .ok (.iconst 0, 1) := by decide +kernel
theorem dX1_unfold_3 : decode cX1_unfold 3 = .ok (.istore_n 3, 1) := by decide +kernel
theorem dX1_unfold_4 : decode cX1_unfold 4 = .ok (.iload_n 3, 1) := by decide +kernel
theorem dX1_unfold_5 : decode cX1_unfold 5 = .ok (.iconst 5, 1) := by decide +kernel
theorem dX1_unfold_6 : decode cX1_unfold 6 = .ok (.if_icmp .ge 35, 3) := by decide +kernel
theorem dX1_unfold_9 : decode cX1_unfold 9 = .ok (.aload_n 0, 1) := by decide +kernel
theorem dX1_unfold_10 : decode cX1_unfold 10 = .ok (.getfield 43, 3) := by decide +kernel
theorem dX1_unfold_13 : decode cX1_unfold 13 = .ok (.ifCond .le 28, 3) := by decide +kernel
theorem dX1_unfold_16 : decode cX1_unfold 16 = .ok (.aload_n 0, 1) := by decide +kernel
theorem dX1_unfold_17 : decode cX1_unfold 17 = .ok (.getfield 18, 3) := by decide +kernel
theorem dX1_unfold_20 : decode cX1_unfold 20 = .ok (.iload_n 3, 1) := by decide +kernel
theorem dX1_unfold_21 : decode cX1_unfold 21 = .ok (.iload_n 2, 1) := by decide +kernel
theorem dX1_unfold_22 : decode cX1_unfold 22 = .ok (.aload_n 0, 1) := by decide +kernel
theorem dX1_unfold_23 : decode cX1_unfold 23 = .ok (.getfield 43, 3) := by decide +kernel
theorem dX1_unfold_26 : decode cX1_unfold 26 = .ok (.irem, 1) := by decide +kernel
theorem dX1_unfold_27 : decode cX1_unfold 27 = .ok (.iastore, 1) := by decide +kernel
theorem dX1_unfold_28 : decode cX1_unfold 28 = .ok (.iload_n 2, 1) := by decide +kernel
theorem dX1_unfold_29 : decode cX1_unfold 29 = .ok (.aload_n 0, 1) := by decide +kernel
theorem dX1_unfold_30 : decode cX1_unfold 30 = .ok (.getfield 43, 3) := by decide +kernel
theorem dX1_unfold_33 : decode cX1_unfold 33 = .ok (.idiv, 1) := by decide +kernel
theorem dX1_unfold_34 : decode cX1_unfold 34 = .ok (.istore_n 2, 1) := by decide +kernel
theorem dX1_unfold_35 : decode cX1_unfold 35 = .ok (.iinc 3 1, 3) := by decide +kernel
theorem dX1_unfold_38 : decode cX1_unfold 38 = .ok (.goto (-34), 3) := by decide +kernel
theorem dX1_unfold_41 : decode cX1_unfold 41 = .ok (.return_, 1) := by decide +kernel
theorem dX1_toneAt_0 : decode cX1_toneAt 0 = .ok (.iconst 0, 1) := by decide +kernel
theorem dX1_toneAt_1 : decode cX1_toneAt 1 = .ok (.istore_n 3, 1) := by decide +kernel
theorem dX1_toneAt_2 : decode cX1_toneAt 2 = .ok (.iconst 0, 1) := by decide +kernel
theorem dX1_toneAt_3 : decode cX1_toneAt 3 = .ok (.istore 4, 2) := by decide +kernel
theorem dX1_toneAt_5 : decode cX1_toneAt 5 = .ok (.iconst 0, 1) := by decide +kernel
theorem dX1_toneAt_6 : decode cX1_toneAt 6 = .ok (.istore 5, 2) := by decide +kernel
theorem dX1_toneAt_8 : decode cX1_toneAt 8 = .ok (.iload 5, 2) := by decide +kernel
theorem dX1_toneAt_10 : decode cX1_toneAt 10 = .ok (.aload_n 1, 1) := by decide +kernel
theorem dX1_toneAt_11 : decode cX1_toneAt 11 = .ok (.getfield 66, 3) := by decide +kernel
theorem dX1_toneAt_14 : decode cX1_toneAt 14 = .ok (.if_icmp .ge 52, 3) := by decide +kernel
theorem dX1_toneAt_17 : decode cX1_toneAt 17 = .ok (.iload 5, 2) := by decide +kernel
theorem dX1_toneAt_19 : decode cX1_toneAt 19 = .ok (.iconst 5, 1) := by decide +kernel
theorem dX1_toneAt_20 : decode cX1_toneAt 20 = .ok (.if_icmp .ge 46, 3) := by decide +kernel
theorem dX1_toneAt_23 : decode cX1_toneAt 23 = .ok (.iload_n 2, 1) := by decide +kernel
theorem dX1_toneAt_24 : decode cX1_toneAt 24 = .ok (.iload 5, 2) := by decide +kernel
theorem dX1_toneAt_26 : decode cX1_toneAt 26 = .ok (.aload_n 0, 1) := by decide +kernel
theorem dX1_toneAt_27 : decode cX1_toneAt 27 = .ok (.getfield 18, 3) := by decide +kernel
theorem dX1_toneAt_30 : decode cX1_toneAt 30 = .ok (.iload 5, 2) := by decide +kernel
theorem dX1_toneAt_32 : decode cX1_toneAt 32 = .ok (.iaload, 1) := by decide +kernel
theorem dX1_toneAt_33 : decode cX1_toneAt 33 = .ok (.invokestatic 86, 3) := by decide +kernel
theorem dX1_toneAt_36 : decode cX1_toneAt 36 = .ok (.istore 6, 2) := by decide +kernel
theorem dX1_toneAt_38 : decode cX1_toneAt 38 = .ok (.iload_n 3, 1) := by decide +kernel
theorem dX1_toneAt_39 : decode cX1_toneAt 39 = .ok (.aload_n 0, 1) := by decide +kernel
theorem dX1_toneAt_40 : decode cX1_toneAt 40 = .ok (.getfield 11, 3) := by decide +kernel
theorem dX1_toneAt_43 : decode cX1_toneAt 43 = .ok (.iload 6, 2) := by decide +kernel
theorem dX1_toneAt_45 : decode cX1_toneAt 45 = .ok (.iaload, 1) := by decide +kernel
theorem dX1_toneAt_46 : decode cX1_toneAt 46 = .ok (.iadd, 1) := by decide +kernel
theorem dX1_toneAt_47 : decode cX1_toneAt 47 = .ok (.istore_n 3, 1) := by decide +kernel
theorem dX1_toneAt_48 : decode cX1_toneAt 48 = .ok (.iload 4, 2) := by decide +kernel
theorem dX1_toneAt_50 : decode cX1_toneAt 50 = .ok (.aload_n 0, 1) := by decide +kernel
theorem dX1_toneAt_51 : decode cX1_toneAt 51 = .ok (.getfield 15, 3) := by decide +kernel
theorem dX1_toneAt_54 : decode cX1_toneAt 54 = .ok (.iload 6, 2) := by decide +kernel
theorem dX1_toneAt_56 : decode cX1_toneAt 56 = .ok (.iaload, 1) := by decide +kernel
theorem dX1_toneAt_57 : decode cX1_toneAt 57 = .ok (.iadd, 1) := by decide +kernel
theorem dX1_toneAt_58 : decode cX1_toneAt 58 = .ok (.istore 4, 2) := by decide +kernel
theorem dX1_toneAt_60 : decode cX1_toneAt 60 = .ok (.iinc 5 1, 3) := by decide +kernel
theorem dX1_toneAt_63 : decode cX1_toneAt 63 = .ok (.goto (-55), 3) := by decide +kernel
theorem dX1_toneAt_66 : decode cX1_toneAt 66 = .ok (.iload_n 3, 1) := by decide +kernel
theorem dX1_toneAt_67 : decode cX1_toneAt 67 = .ok (.iload 4, 2) := by decide +kernel
theorem dX1_toneAt_69 : decode cX1_toneAt 69 = .ok (.invokestatic 94, 3) := by decide +kernel
theorem dX1_toneAt_72 : decode cX1_toneAt 72 = .ok (.ireturn, 1) := by decide +kernel
theorem dX1_isHeard_0 : decode cX1_isHeard 0 = .ok (.iconst 0, 1) := by decide +kernel
theorem dX1_isHeard_1 : decode cX1_isHeard 1 = .ok (.istore_n 3, 1) := by decide +kernel
theorem dX1_isHeard_2 : decode cX1_isHeard 2 = .ok (.iload_n 3, 1) := by decide +kernel
theorem dX1_isHeard_3 : decode cX1_isHeard 3 = .ok (.aload_n 1, 1) := by decide +kernel
theorem dX1_isHeard_4 : decode cX1_isHeard 4 = .ok (.getfield 47, 3) := by decide +kernel
theorem dX1_isHeard_7 : decode cX1_isHeard 7 = .ok (.if_icmp .ge 31, 3) := by decide +kernel
theorem dX1_isHeard_10 : decode cX1_isHeard 10 = .ok (.aload_n 0, 1) := by decide +kernel
theorem dX1_isHeard_11 : decode cX1_isHeard 11 = .ok (.aload_n 1, 1) := by decide +kernel
theorem dX1_isHeard_12 : decode cX1_isHeard 12 = .ok (.iload_n 3, 1) := by decide +kernel
theorem dX1_isHeard_13 : decode cX1_isHeard 13 = .ok (.invokevirtual 97, 3) := by decide +kernel
theorem dX1_isHeard_16 : decode cX1_isHeard 16 = .ok (.aload_n 1, 1) := by decide +kernel
theorem dX1_isHeard_17 : decode cX1_isHeard 17 = .ok (.getfield 101, 3) := by decide +kernel
theorem dX1_isHeard_20 : decode cX1_isHeard 20 = .ok (.iload_n 3, 1) := by decide +kernel
theorem dX1_isHeard_21 : decode cX1_isHeard 21 = .ok (.iaload, 1) := by decide +kernel
theorem dX1_isHeard_22 : decode cX1_isHeard 22 = .ok (.isub, 1) := by decide +kernel
theorem dX1_isHeard_23 : decode cX1_isHeard 23 = .ok (.invokestatic 104, 3) := by decide +kernel
theorem dX1_isHeard_26 : decode cX1_isHeard 26 = .ok (.iload_n 2, 1) := by decide +kernel
theorem dX1_isHeard_27 : decode cX1_isHeard 27 = .ok (.if_icmp .le 5, 3) := by decide +kernel
theorem dX1_isHeard_30 : decode cX1_isHeard 30 = .ok (.iconst 0, 1) := by decide +kernel
theorem dX1_isHeard_31 : decode cX1_isHeard 31 = .ok (.ireturn, 1) := by decide +kernel
theorem dX1_isHeard_32 : decode cX1_isHeard 32 = .ok (.iinc 3 1, 3) := by decide +kernel
theorem dX1_isHeard_35 : decode cX1_isHeard 35 = .ok (.goto (-33), 3) := by decide +kernel
theorem dX1_isHeard_38 : decode cX1_isHeard 38 = .ok (.iconst 1, 1) := by decide +kernel
theorem dX1_isHeard_39 : decode cX1_isHeard 39 = .ok (.ireturn, 1) := by decide +kernel
theorem dX1_sure_0 : decode cX1_sure 0 = .ok (.iconst (-1), 1) := by decide +kernel
theorem dX1_sure_1 : decode cX1_sure 1 = .ok (.istore_n 2, 1) := by decide +kernel
theorem dX1_sure_2 : decode cX1_sure 2 = .ok (.iconst 0, 1) := by decide +kernel
theorem dX1_sure_3 : decode cX1_sure 3 = .ok (.istore_n 3, 1) := by decide +kernel
theorem dX1_sure_4 : decode cX1_sure 4 = .ok (.iload_n 3, 1) := by decide +kernel
theorem dX1_sure_5 : decode cX1_sure 5 = .ok (.aload_n 0, 1) := by decide +kernel
theorem dX1_sure_6 : decode cX1_sure 6 = .ok (.getfield 69, 3) := by decide +kernel
theorem dX1_sure_9 : decode cX1_sure 9 = .ok (.if_icmp .ge 47, 3) := by decide +kernel
theorem dX1_sure_12 : decode cX1_sure 12 = .ok (.aload_n 0, 1) := by decide +kernel
theorem dX1_sure_13 : decode cX1_sure 13 = .ok (.aload_n 0, 1) := by decide +kernel
theorem dX1_sure_14 : decode cX1_sure 14 = .ok (.getfield 21, 3) := by decide +kernel
theorem dX1_sure_17 : decode cX1_sure 17 = .ok (.iload_n 3, 1) := by decide +kernel
theorem dX1_sure_18 : decode cX1_sure 18 = .ok (.iaload, 1) := by decide +kernel
theorem dX1_sure_19 : decode cX1_sure 19 = .ok (.invokevirtual 72, 3) := by decide +kernel
theorem dX1_sure_22 : decode cX1_sure 22 = .ok (.iload_n 2, 1) := by decide +kernel
theorem dX1_sure_23 : decode cX1_sure 23 = .ok (.iconst (-1), 1) := by decide +kernel
theorem dX1_sure_24 : decode cX1_sure 24 = .ok (.if_icmp .eq 17, 3) := by decide +kernel
theorem dX1_sure_27 : decode cX1_sure 27 = .ok (.iload_n 2, 1) := by decide +kernel
theorem dX1_sure_28 : decode cX1_sure 28 = .ok (.aload_n 0, 1) := by decide +kernel
theorem dX1_sure_29 : decode cX1_sure 29 = .ok (.getfield 18, 3) := by decide +kernel
theorem dX1_sure_32 : decode cX1_sure 32 = .ok (.iload_n 1, 1) := by decide +kernel
theorem dX1_sure_33 : decode cX1_sure 33 = .ok (.iaload, 1) := by decide +kernel
theorem dX1_sure_34 : decode cX1_sure 34 = .ok (.iconst 1, 1) := by decide +kernel
theorem dX1_sure_35 : decode cX1_sure 35 = .ok (.iadd, 1) := by decide +kernel
theorem dX1_sure_36 : decode cX1_sure 36 = .ok (.if_icmp .eq 5, 3) := by decide +kernel
theorem dX1_sure_39 : decode cX1_sure 39 = .ok (.iconst (-1), 1) := by decide +kernel
theorem dX1_sure_40 : decode cX1_sure 40 = .ok (.ireturn, 1) := by decide +kernel
theorem dX1_sure_41 : decode cX1_sure 41 = .ok (.aload_n 0, 1) := by decide +kernel
theorem dX1_sure_42 : decode cX1_sure 42 = .ok (.getfield 18, 3) := by decide +kernel
theorem dX1_sure_45 : decode cX1_sure 45 = .ok (.iload_n 1, 1) := by decide +kernel
theorem dX1_sure_46 : decode cX1_sure 46 = .ok (.iaload, 1) := by decide +kernel
theorem dX1_sure_47 : decode cX1_sure 47 = .ok (.iconst 1, 1) := by decide +kernel
theorem dX1_sure_48 : decode cX1_sure 48 = .ok (.iadd, 1) := by decide +kernel
theorem dX1_sure_49 : decode cX1_sure 49 = .ok (.istore_n 2, 1) := by decide +kernel
theorem dX1_sure_50 : decode cX1_sure 50 = .ok (.iinc 3 1, 3) := by decide +kernel
theorem dX1_sure_53 : decode cX1_sure 53 = .ok (.goto (-49), 3) := by decide +kernel
theorem dX1_sure_56 : decode cX1_sure 56 = .ok (.iload_n 2, 1) := by decide +kernel
theorem dX1_sure_57 : decode cX1_sure 57 = .ok (.ireturn, 1) := by decide +kernel
theorem dX1_nextPass_0 : decode cX1_nextPass 0 = .ok (.iconst (-1), 1) := by decide +kernel
theorem dX1_nextPass_1 : decode cX1_nextPass 1 = .ok (.istore 4, 2) := by decide +kernel
theorem dX1_nextPass_3 : decode cX1_nextPass 3 = .ok (.iconst 0, 1) := by decide +kernel
theorem dX1_nextPass_4 : decode cX1_nextPass 4 = .ok (.istore 5, 2) := by decide +kernel
theorem dX1_nextPass_6 : decode cX1_nextPass 6 = .ok (.iconst 0, 1) := by decide +kernel
theorem dX1_nextPass_7 : decode cX1_nextPass 7 = .ok (.istore 6, 2) := by decide +kernel
theorem dX1_nextPass_9 : decode cX1_nextPass 9 = .ok (.iload 6, 2) := by decide +kernel
theorem dX1_nextPass_11 : decode cX1_nextPass 11 = .ok (.aload_n 3, 1) := by decide +kernel
theorem dX1_nextPass_12 : decode cX1_nextPass 12 = .ok (.getfield 66, 3) := by decide +kernel
theorem dX1_nextPass_15 : decode cX1_nextPass 15 = .ok (.if_icmp .ge 46, 3) := by decide +kernel
theorem dX1_nextPass_18 : decode cX1_nextPass 18 = .ok (.aload_n 3, 1) := by decide +kernel
theorem dX1_nextPass_19 : decode cX1_nextPass 19 = .ok (.getfield 108, 3) := by decide +kernel
theorem dX1_nextPass_22 : decode cX1_nextPass 22 = .ok (.iload 6, 2) := by decide +kernel
theorem dX1_nextPass_24 : decode cX1_nextPass 24 = .ok (.iaload, 1) := by decide +kernel
theorem dX1_nextPass_25 : decode cX1_nextPass 25 = .ok (.iconst 1, 1) := by decide +kernel
theorem dX1_nextPass_26 : decode cX1_nextPass 26 = .ok (.if_icmp .le 29, 3) := by decide +kernel
theorem dX1_nextPass_29 : decode cX1_nextPass 29 = .ok (.aload_n 0, 1) := by decide +kernel
theorem dX1_nextPass_30 : decode cX1_nextPass 30 = .ok (.aload_n 1, 1) := by decide +kernel
theorem dX1_nextPass_31 : decode cX1_nextPass 31 = .ok (.aload_n 2, 1) := by decide +kernel
theorem dX1_nextPass_32 : decode cX1_nextPass 32 = .ok (.aload_n 3, 1) := by decide +kernel
theorem dX1_nextPass_33 : decode cX1_nextPass 33 = .ok (.iload 6, 2) := by decide +kernel
theorem dX1_nextPass_35 : decode cX1_nextPass 35 = .ok (.invokevirtual 111, 3) := by decide +kernel
theorem dX1_nextPass_38 : decode cX1_nextPass 38 = .ok (.istore 7, 2) := by decide +kernel
theorem dX1_nextPass_40 : decode cX1_nextPass 40 = .ok (.iload 7, 2) := by decide +kernel
theorem dX1_nextPass_42 : decode cX1_nextPass 42 = .ok (.iload 5, 2) := by decide +kernel
theorem dX1_nextPass_44 : decode cX1_nextPass 44 = .ok (.if_icmp .le 11, 3) := by decide +kernel
theorem dX1_nextPass_47 : decode cX1_nextPass 47 = .ok (.iload 7, 2) := by decide +kernel
theorem dX1_nextPass_49 : decode cX1_nextPass 49 = .ok (.istore 5, 2) := by decide +kernel
theorem dX1_nextPass_51 : decode cX1_nextPass 51 = .ok (.iload 6, 2) := by decide +kernel
theorem dX1_nextPass_53 : decode cX1_nextPass 53 = .ok (.istore 4, 2) := by decide +kernel
theorem dX1_nextPass_55 : decode cX1_nextPass 55 = .ok (.iinc 6 1, 3) := by decide +kernel
theorem dX1_nextPass_58 : decode cX1_nextPass 58 = .ok (.goto (-49), 3) := by decide +kernel
theorem dX1_nextPass_61 : decode cX1_nextPass 61 = .ok (.iload 4, 2) := by decide +kernel
theorem dX1_nextPass_63 : decode cX1_nextPass 63 = .ok (.ireturn, 1) := by decide +kernel
theorem dX1_countUnlike_0 : decode cX1_countUnlike 0 = .ok (.aload_n 3, 1) := by decide +kernel
theorem dX1_countUnlike_1 : decode cX1_countUnlike 1 = .ok (.aload_n 0, 1) := by decide +kernel
theorem dX1_countUnlike_2 : decode cX1_countUnlike 2 = .ok (.getfield 24, 3) := by decide +kernel
theorem dX1_countUnlike_5 : decode cX1_countUnlike 5 = .ok (.iload 4, 2) := by decide +kernel
theorem dX1_countUnlike_7 : decode cX1_countUnlike 7 = .ok (.invokevirtual 115, 3) := by decide +kernel
theorem dX1_countUnlike_10 : decode cX1_countUnlike 10 = .ok (.aload_n 0, 1) := by decide +kernel
theorem dX1_countUnlike_11 : decode cX1_countUnlike 11 = .ok (.aload_n 1, 1) := by decide +kernel
theorem dX1_countUnlike_12 : decode cX1_countUnlike 12 = .ok (.aload_n 2, 1) := by decide +kernel
theorem dX1_countUnlike_13 : decode cX1_countUnlike 13 = .ok (.aload_n 3, 1) := by decide +kernel
theorem dX1_countUnlike_14 : decode cX1_countUnlike 14 = .ok (.iconst 0, 1) := by decide +kernel
theorem dX1_countUnlike_15 : decode cX1_countUnlike 15 = .ok (.iconst 0, 1) := by decide +kernel
theorem dX1_countUnlike_16 : decode cX1_countUnlike 16 = .ok (.aload_n 0, 1) := by decide +kernel
theorem dX1_countUnlike_17 : decode cX1_countUnlike 17 = .ok (.getfield 24, 3) := by decide +kernel
theorem dX1_countUnlike_20 : decode cX1_countUnlike 20 = .ok (.aload_n 3, 1) := by decide +kernel
theorem dX1_countUnlike_21 : decode cX1_countUnlike 21 = .ok (.getfield 119, 3) := by decide +kernel
theorem dX1_countUnlike_24 : decode cX1_countUnlike 24 = .ok (.invokevirtual 62, 3) := by decide +kernel
theorem dX1_countUnlike_27 : decode cX1_countUnlike 27 = .ok (.aload_n 0, 1) := by decide +kernel
theorem dX1_countUnlike_28 : decode cX1_countUnlike 28 = .ok (.getfield 30, 3) := by decide +kernel
theorem dX1_countUnlike_31 : decode cX1_countUnlike 31 = .ok (.invokevirtual 122, 3) := by decide +kernel
theorem dX1_countUnlike_34 : decode cX1_countUnlike 34 = .ok (.iconst 0, 1) := by decide +kernel
theorem dX1_countUnlike_35 : decode cX1_countUnlike 35 = .ok (.istore 5, 2) := by decide +kernel
theorem dX1_countUnlike_37 : decode cX1_countUnlike 37 = .ok (.iload 5, 2) := by decide +kernel
theorem dX1_countUnlike_39 : decode cX1_countUnlike 39 = .ok (.aload_n 0, 1) := by decide +kernel
theorem dX1_countUnlike_40 : decode cX1_countUnlike 40 = .ok (.getfield 69, 3) := by decide +kernel
theorem dX1_countUnlike_43 : decode cX1_countUnlike 43 = .ok (.if_icmp .ge 34, 3) := by decide +kernel
theorem dX1_countUnlike_46 : decode cX1_countUnlike 46 = .ok (.aload_n 0, 1) := by decide +kernel
theorem dX1_countUnlike_47 : decode cX1_countUnlike 47 = .ok (.aload_n 0, 1) := by decide +kernel
theorem dX1_countUnlike_48 : decode cX1_countUnlike 48 = .ok (.getfield 21, 3) := by decide +kernel
theorem dX1_countUnlike_51 : decode cX1_countUnlike 51 = .ok (.iload 5, 2) := by decide +kernel
theorem dX1_countUnlike_53 : decode cX1_countUnlike 53 = .ok (.iaload, 1) := by decide +kernel
theorem dX1_countUnlike_54 : decode cX1_countUnlike 54 = .ok (.invokevirtual 72, 3) := by decide +kernel
theorem dX1_countUnlike_57 : decode cX1_countUnlike 57 = .ok (.aload_n 0, 1) := by decide +kernel
theorem dX1_countUnlike_58 : decode cX1_countUnlike 58 = .ok (.getfield 30, 3) := by decide +kernel
theorem dX1_countUnlike_61 : decode cX1_countUnlike 61 = .ok (.aload_n 0, 1) := by decide +kernel
theorem dX1_countUnlike_62 : decode cX1_countUnlike 62 = .ok (.aload_n 3, 1) := by decide +kernel
theorem dX1_countUnlike_63 : decode cX1_countUnlike 63 = .ok (.iconst 0, 1) := by decide +kernel
theorem dX1_countUnlike_64 : decode cX1_countUnlike 64 = .ok (.invokevirtual 97, 3) := by decide +kernel
theorem dX1_countUnlike_67 : decode cX1_countUnlike 67 = .ok (.invokevirtual 125, 3) := by decide +kernel
theorem dX1_countUnlike_70 : decode cX1_countUnlike 70 = .ok (.pop, 1) := by decide +kernel
theorem dX1_countUnlike_71 : decode cX1_countUnlike 71 = .ok (.iinc 5 1, 3) := by decide +kernel
theorem dX1_countUnlike_74 : decode cX1_countUnlike 74 = .ok (.goto (-37), 3) := by decide +kernel
theorem dX1_countUnlike_77 : decode cX1_countUnlike 77 = .ok (.aload_n 0, 1) := by decide +kernel
theorem dX1_countUnlike_78 : decode cX1_countUnlike 78 = .ok (.getfield 30, 3) := by decide +kernel
theorem dX1_countUnlike_81 : decode cX1_countUnlike 81 = .ok (.getfield 129, 3) := by decide +kernel
theorem dX1_countUnlike_84 : decode cX1_countUnlike 84 = .ok (.ireturn, 1) := by decide +kernel
theorem dX2_init_0 : decode cX2_init 0 = .ok (.aload_n 0, 1) := by decide +kernel
theorem dX2_init_1 : decode cX2_init 1 = .ok (.invokespecial 1, 3) := by decide +kernel
theorem dX2_init_4 : decode cX2_init 4 = .ok (.aload_n 0, 1) := by decide +kernel
theorem dX2_init_5 : decode cX2_init 5 = .ok (.sipush 2048, 3) := by decide +kernel
theorem dX2_init_8 : decode cX2_init 8 = .ok (.newarray .int, 2) := by decide +kernel
theorem dX2_init_10 : decode cX2_init 10 = .ok (.putfield 9, 3) := by decide +kernel
theorem dX2_init_13 : decode cX2_init 13 = .ok (.return_, 1) := by decide +kernel
theorem dX2_clear_0 : decode cX2_clear 0 = .ok (.aload_n 0, 1) := by decide +kernel
theorem dX2_clear_1 : decode cX2_clear 1 = .ok (.getfield 13, 3) := by decide +kernel
theorem dX2_clear_4 : decode cX2_clear 4 = .ok (.ifCond .le 16, 3) := by decide +kernel
theorem dX2_clear_7 : decode cX2_clear 7 = .ok (.aload_n 0, 1) := by decide +kernel
