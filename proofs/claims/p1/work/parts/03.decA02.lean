theorem dX9_job_10 : decode cX9_job 10 = .ok (.iload_n 1, 1) := by decide +kernel
theorem dX9_job_11 : decode cX9_job 11 = .ok (.iconst 0, 1) := by decide +kernel
theorem dX9_job_12 : decode cX9_job 12 = .ok (.iconst 3, 1) := by decide +kernel
theorem dX9_job_13 : decode cX9_job 13 = .ok (.invokestatic 89, 3) := by decide +kernel
theorem dX9_job_16 : decode cX9_job 16 = .ok (.ifCond .ne 5, 3) := by decide +kernel
theorem dX9_job_19 : decode cX9_job 19 = .ok (.iconst (-1), 1) := by decide +kernel
theorem dX9_job_20 : decode cX9_job 20 = .ok (.ireturn, 1) := by decide +kernel
theorem dX9_job_21 : decode cX9_job 21 = .ok (.aload_n 3, 1) := by decide +kernel
theorem dX9_job_22 : decode cX9_job 22 = .ok (.getfield 86, 3) := by decide +kernel
theorem dX9_job_25 : decode cX9_job 25 = .ok (.istore 4, 2) := by decide +kernel
theorem dX9_job_27 : decode cX9_job 27 = .ok (.aload_n 0, 1) := by decide +kernel
theorem dX9_job_28 : decode cX9_job 28 = .ok (.getfield 12, 3) := by decide +kernel
theorem dX9_job_31 : decode cX9_job 31 = .ok (.getfield 220, 3) := by decide +kernel
theorem dX9_job_34 : decode cX9_job 34 = .ok (.iload_n 1, 1) := by decide +kernel
theorem dX9_job_35 : decode cX9_job 35 = .ok (.aaload, 1) := by decide +kernel
theorem dX9_job_36 : decode cX9_job 36 = .ok (.astore 5, 2) := by decide +kernel
theorem dX9_job_38 : decode cX9_job 38 = .ok (.iconst 0, 1) := by decide +kernel
theorem dX9_job_39 : decode cX9_job 39 = .ok (.istore 6, 2) := by decide +kernel
theorem dX9_job_41 : decode cX9_job 41 = .ok (.iload 6, 2) := by decide +kernel
theorem dX9_job_43 : decode cX9_job 43 = .ok (.aload 5, 2) := by decide +kernel
theorem dX9_job_45 : decode cX9_job 45 = .ok (.getfield 144, 3) := by decide +kernel
theorem dX9_job_48 : decode cX9_job 48 = .ok (.if_icmp .ge 30, 3) := by decide +kernel
theorem dX9_job_51 : decode cX9_job 51 = .ok (.aload_n 0, 1) := by decide +kernel
theorem dX9_job_52 : decode cX9_job 52 = .ok (.aload 5, 2) := by decide +kernel
theorem dX9_job_54 : decode cX9_job 54 = .ok (.iload 6, 2) := by decide +kernel
theorem dX9_job_56 : decode cX9_job 56 = .ok (.aload_n 3, 1) := by decide +kernel
theorem dX9_job_57 : decode cX9_job 57 = .ok (.invokevirtual 223, 3) := by decide +kernel
theorem dX9_job_60 : decode cX9_job 60 = .ok (.ifCond .eq 12, 3) := by decide +kernel
theorem dX9_job_63 : decode cX9_job 63 = .ok (.aload_n 0, 1) := by decide +kernel
theorem dX9_job_64 : decode cX9_job 64 = .ok (.aload 5, 2) := by decide +kernel
theorem dX9_job_66 : decode cX9_job 66 = .ok (.iload 6, 2) := by decide +kernel
theorem dX9_job_68 : decode cX9_job 68 = .ok (.aload_n 3, 1) := by decide +kernel
theorem dX9_job_69 : decode cX9_job 69 = .ok (.invokevirtual 227, 3) := by decide +kernel
theorem dX9_job_72 : decode cX9_job 72 = .ok (.iinc 6 1, 3) := by decide +kernel
theorem dX9_job_75 : decode cX9_job 75 = .ok (.goto (-34), 3) := by decide +kernel
theorem dX9_job_78 : decode cX9_job 78 = .ok (.aload_n 3, 1) := by decide +kernel
theorem dX9_job_79 : decode cX9_job 79 = .ok (.getfield 86, 3) := by decide +kernel
theorem dX9_job_82 : decode cX9_job 82 = .ok (.iload 4, 2) := by decide +kernel
theorem dX9_job_84 : decode cX9_job 84 = .ok (.isub, 1) := by decide +kernel
theorem dX9_job_85 : decode cX9_job 85 = .ok (.ireturn, 1) := by decide +kernel
theorem dX9_fewest_0 : decode cX9_fewest 0 = .ok (.aload_n 0, 1) := by decide +kernel
theorem dX9_fewest_1 : decode cX9_fewest 1 = .ok (.iload_n 1, 1) := by decide +kernel
theorem dX9_fewest_2 : decode cX9_fewest 2 = .ok (.invokevirtual 78, 3) := by decide +kernel
theorem dX9_fewest_5 : decode cX9_fewest 5 = .ok (.astore_n 3, 1) := by decide +kernel
theorem dX9_fewest_6 : decode cX9_fewest 6 = .ok (.aload_n 3, 1) := by decide +kernel
theorem dX9_fewest_7 : decode cX9_fewest 7 = .ok (.ifnull 21, 3) := by decide +kernel
theorem dX9_fewest_10 : decode cX9_fewest 10 = .ok (.aload_n 3, 1) := by decide +kernel
theorem dX9_fewest_11 : decode cX9_fewest 11 = .ok (.getfield 187, 3) := by decide +kernel
theorem dX9_fewest_14 : decode cX9_fewest 14 = .ok (.bipush 8, 2) := by decide +kernel
theorem dX9_fewest_16 : decode cX9_fewest 16 = .ok (.if_icmp .gt 12, 3) := by decide +kernel
theorem dX9_fewest_19 : decode cX9_fewest 19 = .ok (.iload_n 2, 1) := by decide +kernel
theorem dX9_fewest_20 : decode cX9_fewest 20 = .ok (.iconst 0, 1) := by decide +kernel
theorem dX9_fewest_21 : decode cX9_fewest 21 = .ok (.iconst 5, 1) := by decide +kernel
theorem dX9_fewest_22 : decode cX9_fewest 22 = .ok (.invokestatic 89, 3) := by decide +kernel
theorem dX9_fewest_25 : decode cX9_fewest 25 = .ok (.ifCond .ne 5, 3) := by decide +kernel
theorem dX9_fewest_28 : decode cX9_fewest 28 = .ok (.iconst (-1), 1) := by decide +kernel
theorem dX9_fewest_29 : decode cX9_fewest 29 = .ok (.ireturn, 1) := by decide +kernel
theorem dX9_fewest_30 : decode cX9_fewest 30 = .ok (.aload_n 0, 1) := by decide +kernel
theorem dX9_fewest_31 : decode cX9_fewest 31 = .ok (.getfield 37, 3) := by decide +kernel
theorem dX9_fewest_34 : decode cX9_fewest 34 = .ok (.aload_n 0, 1) := by decide +kernel
theorem dX9_fewest_35 : decode cX9_fewest 35 = .ok (.getfield 30, 3) := by decide +kernel
theorem dX9_fewest_38 : decode cX9_fewest 38 = .ok (.aload_n 0, 1) := by decide +kernel
theorem dX9_fewest_39 : decode cX9_fewest 39 = .ok (.getfield 12, 3) := by decide +kernel
theorem dX9_fewest_42 : decode cX9_fewest 42 = .ok (.invokevirtual 212, 3) := by decide +kernel
theorem dX9_fewest_45 : decode cX9_fewest 45 = .ok (.aload_n 3, 1) := by decide +kernel
theorem dX9_fewest_46 : decode cX9_fewest 46 = .ok (.aload_n 0, 1) := by decide +kernel
theorem dX9_fewest_47 : decode cX9_fewest 47 = .ok (.getfield 12, 3) := by decide +kernel
theorem dX9_fewest_50 : decode cX9_fewest 50 = .ok (.getfield 184, 3) := by decide +kernel
theorem dX9_fewest_53 : decode cX9_fewest 53 = .ok (.invokevirtual 231, 3) := by decide +kernel
theorem dX9_fewest_56 : decode cX9_fewest 56 = .ok (.aload_n 0, 1) := by decide +kernel
theorem dX9_fewest_57 : decode cX9_fewest 57 = .ok (.getfield 37, 3) := by decide +kernel
theorem dX9_fewest_60 : decode cX9_fewest 60 = .ok (.invokevirtual 235, 3) := by decide +kernel
theorem dX9_fewest_63 : decode cX9_fewest 63 = .ok (.istore 4, 2) := by decide +kernel
theorem dX9_fewest_65 : decode cX9_fewest 65 = .ok (.iload_n 2, 1) := by decide +kernel
theorem dX9_fewest_66 : decode cX9_fewest 66 = .ok (.ifCond .eq 9, 3) := by decide +kernel
theorem dX9_fewest_69 : decode cX9_fewest 69 = .ok (.iload 4, 2) := by decide +kernel
theorem dX9_fewest_71 : decode cX9_fewest 71 = .ok (.iload_n 2, 1) := by decide +kernel
theorem dX9_fewest_72 : decode cX9_fewest 72 = .ok (.if_icmp .ge 14, 3) := by decide +kernel
theorem dX9_fewest_75 : decode cX9_fewest 75 = .ok (.iload_n 2, 1) := by decide +kernel
theorem dX9_fewest_76 : decode cX9_fewest 76 = .ok (.ifCond .ne 8, 3) := by decide +kernel
theorem dX9_fewest_79 : decode cX9_fewest 79 = .ok (.iload 4, 2) := by decide +kernel
theorem dX9_fewest_81 : decode cX9_fewest 81 = .ok (.goto 4, 3) := by decide +kernel
theorem dX9_fewest_84 : decode cX9_fewest 84 = .ok (.iconst (-1), 1) := by decide +kernel
theorem dX9_fewest_85 : decode cX9_fewest 85 = .ok (.ireturn, 1) := by decide +kernel
theorem dX9_fewest_86 : decode cX9_fewest 86 = .ok (.aload_n 0, 1) := by decide +kernel
theorem dX9_fewest_87 : decode cX9_fewest 87 = .ok (.getfield 37, 3) := by decide +kernel
theorem dX9_fewest_90 : decode cX9_fewest 90 = .ok (.getfield 239, 3) := by decide +kernel
theorem dX9_fewest_93 : decode cX9_fewest 93 = .ok (.iload_n 2, 1) := by decide +kernel
theorem dX9_fewest_94 : decode cX9_fewest 94 = .ok (.iconst 1, 1) := by decide +kernel
theorem dX9_fewest_95 : decode cX9_fewest 95 = .ok (.isub, 1) := by decide +kernel
theorem dX9_fewest_96 : decode cX9_fewest 96 = .ok (.iaload, 1) := by decide +kernel
theorem dX9_fewest_97 : decode cX9_fewest 97 = .ok (.ireturn, 1) := by decide +kernel
theorem dX9_tap_0 : decode cX9_tap 0 = .ok (.aload_n 0, 1) := by decide +kernel
theorem dX9_tap_1 : decode cX9_tap 1 = .ok (.iload_n 1, 1) := by decide +kernel
theorem dX9_tap_2 : decode cX9_tap 2 = .ok (.invokevirtual 78, 3) := by decide +kernel
theorem dX9_tap_5 : decode cX9_tap 5 = .ok (.astore 4, 2) := by decide +kernel
theorem dX9_tap_7 : decode cX9_tap 7 = .ok (.aload 4, 2) := by decide +kernel
theorem dX9_tap_9 : decode cX9_tap 9 = .ok (.ifnull 30, 3) := by decide +kernel
theorem dX9_tap_12 : decode cX9_tap 12 = .ok (.iload_n 2, 1) := by decide +kernel
theorem dX9_tap_13 : decode cX9_tap 13 = .ok (.invokestatic 150, 3) := by decide +kernel
theorem dX9_tap_16 : decode cX9_tap 16 = .ok (.ifCond .eq 23, 3) := by decide +kernel
theorem dX9_tap_19 : decode cX9_tap 19 = .ok (.iload_n 3, 1) := by decide +kernel
theorem dX9_tap_20 : decode cX9_tap 20 = .ok (.iconst 0, 1) := by decide +kernel
theorem dX9_tap_21 : decode cX9_tap 21 = .ok (.ldc 242, 2) := by decide +kernel
theorem dX9_tap_23 : decode cX9_tap 23 = .ok (.invokestatic 89, 3) := by decide +kernel
theorem dX9_tap_26 : decode cX9_tap 26 = .ok (.ifCond .eq 13, 3) := by decide +kernel
theorem dX9_tap_29 : decode cX9_tap 29 = .ok (.aload 4, 2) := by decide +kernel
theorem dX9_tap_31 : decode cX9_tap 31 = .ok (.getfield 200, 3) := by decide +kernel
theorem dX9_tap_34 : decode cX9_tap 34 = .ok (.bipush 12, 2) := by decide +kernel
theorem dX9_tap_36 : decode cX9_tap 36 = .ok (.if_icmp .lt 5, 3) := by decide +kernel
theorem dX9_tap_39 : decode cX9_tap 39 = .ok (.iconst (-1), 1) := by decide +kernel
theorem dX9_tap_40 : decode cX9_tap 40 = .ok (.ireturn, 1) := by decide +kernel
theorem dX9_tap_41 : decode cX9_tap 41 = .ok (.aload 4, 2) := by decide +kernel
theorem dX9_tap_43 : decode cX9_tap 43 = .ok (.iload_n 2, 1) := by decide +kernel
theorem dX9_tap_44 : decode cX9_tap 44 = .ok (.iload_n 3, 1) := by decide +kernel
theorem dX9_tap_45 : decode cX9_tap 45 = .ok (.invokevirtual 243, 3) := by decide +kernel
theorem dX9_tap_48 : decode cX9_tap 48 = .ok (.aload 4, 2) := by decide +kernel
theorem dX9_tap_50 : decode cX9_tap 50 = .ok (.getfield 200, 3) := by decide +kernel
theorem dX9_tap_53 : decode cX9_tap 53 = .ok (.ireturn, 1) := by decide +kernel
theorem dX9_fits_0 : decode cX9_fits 0 = .ok (.aload_n 0, 1) := by decide +kernel
theorem dX9_fits_1 : decode cX9_fits 1 = .ok (.iload_n 1, 1) := by decide +kernel
theorem dX9_fits_2 : decode cX9_fits 2 = .ok (.invokevirtual 78, 3) := by decide +kernel
theorem dX9_fits_5 : decode cX9_fits 5 = .ok (.astore 5, 2) := by decide +kernel
theorem dX9_fits_7 : decode cX9_fits 7 = .ok (.aload 5, 2) := by decide +kernel
theorem dX9_fits_9 : decode cX9_fits 9 = .ok (.ifnull 31, 3) := by decide +kernel
theorem dX9_fits_12 : decode cX9_fits 12 = .ok (.aload 5, 2) := by decide +kernel
theorem dX9_fits_14 : decode cX9_fits 14 = .ok (.getfield 187, 3) := by decide +kernel
theorem dX9_fits_17 : decode cX9_fits 17 = .ok (.iconst 5, 1) := by decide +kernel
theorem dX9_fits_18 : decode cX9_fits 18 = .ok (.if_icmp .gt 22, 3) := by decide +kernel
theorem dX9_fits_21 : decode cX9_fits 21 = .ok (.iload_n 2, 1) := by decide +kernel
theorem dX9_fits_22 : decode cX9_fits 22 = .ok (.iconst 1, 1) := by decide +kernel
theorem dX9_fits_23 : decode cX9_fits 23 = .ok (.iconst 4, 1) := by decide +kernel
theorem dX9_fits_24 : decode cX9_fits 24 = .ok (.invokestatic 89, 3) := by decide +kernel
theorem dX9_fits_27 : decode cX9_fits 27 = .ok (.ifCond .eq 13, 3) := by decide +kernel
theorem dX9_fits_30 : decode cX9_fits 30 = .ok (.iload_n 3, 1) := by decide +kernel
theorem dX9_fits_31 : decode cX9_fits 31 = .ok (.iconst 0, 1) := by decide +kernel
theorem dX9_fits_32 : decode cX9_fits 32 = .ok (.ldc 247, 2) := by decide +kernel
theorem dX9_fits_34 : decode cX9_fits 34 = .ok (.invokestatic 89, 3) := by decide +kernel
theorem dX9_fits_37 : decode cX9_fits 37 = .ok (.ifCond .ne 5, 3) := by decide +kernel
theorem dX9_fits_40 : decode cX9_fits 40 = .ok (.iconst (-1), 1) := by decide +kernel
theorem dX9_fits_41 : decode cX9_fits 41 = .ok (.ireturn, 1) := by decide +kernel
theorem dX9_fits_42 : decode cX9_fits 42 = .ok (.iload 4, 2) := by decide +kernel
theorem dX9_fits_44 : decode cX9_fits 44 = .ok (.bipush 10, 2) := by decide +kernel
theorem dX9_fits_46 : decode cX9_fits 46 = .ok (.isub, 1) := by decide +kernel
theorem dX9_fits_47 : decode cX9_fits 47 = .ok (.istore 6, 2) := by decide +kernel
theorem dX9_fits_49 : decode cX9_fits 49 = .ok (.iload 4, 2) := by decide +kernel
theorem dX9_fits_51 : decode cX9_fits 51 = .ok (.ifCond .eq 28, 3) := by decide +kernel
theorem dX9_fits_54 : decode cX9_fits 54 = .ok (.iload 4, 2) := by decide +kernel
theorem dX9_fits_56 : decode cX9_fits 56 = .ok (.iconst 1, 1) := by decide +kernel
theorem dX9_fits_57 : decode cX9_fits 57 = .ok (.if_icmp .eq 22, 3) := by decide +kernel
theorem dX9_fits_60 : decode cX9_fits 60 = .ok (.iload 4, 2) := by decide +kernel
theorem dX9_fits_62 : decode cX9_fits 62 = .ok (.bipush 10, 2) := by decide +kernel
theorem dX9_fits_64 : decode cX9_fits 64 = .ok (.if_icmp .lt 13, 3) := by decide +kernel
theorem dX9_fits_67 : decode cX9_fits 67 = .ok (.aload 5, 2) := by decide +kernel
theorem dX9_fits_69 : decode cX9_fits 69 = .ok (.iload 6, 2) := by decide +kernel
theorem dX9_fits_71 : decode cX9_fits 71 = .ok (.invokevirtual 82, 3) := by decide +kernel
theorem dX9_fits_74 : decode cX9_fits 74 = .ok (.ifCond .ne 5, 3) := by decide +kernel
theorem dX9_fits_77 : decode cX9_fits 77 = .ok (.iconst (-1), 1) := by decide +kernel
theorem dX9_fits_78 : decode cX9_fits 78 = .ok (.ireturn, 1) := by decide +kernel
theorem dX9_fits_79 : decode cX9_fits 79 = .ok (.aload_n 0, 1) := by decide +kernel
theorem dX9_fits_80 : decode cX9_fits 80 = .ok (.getfield 44, 3) := by decide +kernel
theorem dX9_fits_83 : decode cX9_fits 83 = .ok (.aload_n 0, 1) := by decide +kernel
theorem dX9_fits_84 : decode cX9_fits 84 = .ok (.getfield 30, 3) := by decide +kernel
theorem dX9_fits_87 : decode cX9_fits 87 = .ok (.aload_n 0, 1) := by decide +kernel
theorem dX9_fits_88 : decode cX9_fits 88 = .ok (.getfield 12, 3) := by decide +kernel
theorem dX9_fits_91 : decode cX9_fits 91 = .ok (.invokevirtual 212, 3) := by decide +kernel
theorem dX9_fits_94 : decode cX9_fits 94 = .ok (.aload 5, 2) := by decide +kernel
theorem dX9_fits_96 : decode cX9_fits 96 = .ok (.iload_n 2, 1) := by decide +kernel
theorem dX9_fits_97 : decode cX9_fits 97 = .ok (.iload_n 3, 1) := by decide +kernel
theorem dX9_fits_98 : decode cX9_fits 98 = .ok (.invokevirtual 248, 3) := by decide +kernel
theorem dX9_fits_101 : decode cX9_fits 101 = .ok (.istore 7, 2) := by decide +kernel
theorem dX9_fits_103 : decode cX9_fits 103 = .ok (.iload 4, 2) := by decide +kernel
theorem dX9_fits_105 : decode cX9_fits 105 = .ok (.ifCond .ne 6, 3) := by decide +kernel
theorem dX9_fits_108 : decode cX9_fits 108 = .ok (.iload 7, 2) := by decide +kernel
theorem dX9_fits_110 : decode cX9_fits 110 = .ok (.ireturn, 1) := by decide +kernel
theorem dX9_fits_111 : decode cX9_fits 111 = .ok (.iload 4, 2) := by decide +kernel
theorem dX9_fits_113 : decode cX9_fits 113 = .ok (.iconst 1, 1) := by decide +kernel
theorem dX9_fits_114 : decode cX9_fits 114 = .ok (.if_icmp .ne 26, 3) := by decide +kernel
theorem dX9_fits_117 : decode cX9_fits 117 = .ok (.aload_n 0, 1) := by decide +kernel
theorem dX9_fits_118 : decode cX9_fits 118 = .ok (.getfield 44, 3) := by decide +kernel
theorem dX9_fits_121 : decode cX9_fits 121 = .ok (.aload_n 0, 1) := by decide +kernel
theorem dX9_fits_122 : decode cX9_fits 122 = .ok (.getfield 30, 3) := by decide +kernel
theorem dX9_fits_125 : decode cX9_fits 125 = .ok (.aload_n 0, 1) := by decide +kernel
theorem dX9_fits_126 : decode cX9_fits 126 = .ok (.getfield 12, 3) := by decide +kernel
theorem dX9_fits_129 : decode cX9_fits 129 = .ok (.invokevirtual 212, 3) := by decide +kernel
theorem dX9_fits_132 : decode cX9_fits 132 = .ok (.aload 5, 2) := by decide +kernel
theorem dX9_fits_134 : decode cX9_fits 134 = .ok (.invokevirtual 251, 3) := by decide +kernel
theorem dX9_fits_137 : decode cX9_fits 137 = .ok (.goto 12, 3) := by decide +kernel
theorem dX9_fits_140 : decode cX9_fits 140 = .ok (.aload_n 0, 1) := by decide +kernel
theorem dX9_fits_141 : decode cX9_fits 141 = .ok (.getfield 44, 3) := by decide +kernel
theorem dX9_fits_144 : decode cX9_fits 144 = .ok (.iload 6, 2) := by decide +kernel
theorem dX9_fits_146 : decode cX9_fits 146 = .ok (.invokevirtual 255, 3) := by decide +kernel
theorem dX9_fits_149 : decode cX9_fits 149 = .ok (.ireturn, 1) := by decide +kernel
theorem dX9_off_0 : decode cX9_off 0 = .ok (.iload_n 1, 1) := by decide +kernel
theorem dX9_off_1 : decode cX9_off 1 = .ok (.iconst (-1), 1) := by decide +kernel
theorem dX9_off_2 : decode cX9_off 2 = .ok (.if_icmp .ne 38, 3) := by decide +kernel
theorem dX9_off_5 : decode cX9_off 5 = .ok (.aload_n 0, 1) := by decide +kernel
theorem dX9_off_6 : decode cX9_off 6 = .ok (.aload_n 0, 1) := by decide +kernel
theorem dX9_off_7 : decode cX9_off 7 = .ok (.getfield 12, 3) := by decide +kernel
theorem dX9_off_10 : decode cX9_off 10 = .ok (.getfield 158, 3) := by decide +kernel
theorem dX9_off_13 : decode cX9_off 13 = .ok (.iconst 1, 1) := by decide +kernel
theorem dX9_off_14 : decode cX9_off 14 = .ok (.aaload, 1) := by decide +kernel
theorem dX9_off_15 : decode cX9_off 15 = .ok (.invokevirtual 259, 3) := by decide +kernel
theorem dX9_off_18 : decode cX9_off 18 = .ok (.aload_n 0, 1) := by decide +kernel
theorem dX9_off_19 : decode cX9_off 19 = .ok (.aload_n 0, 1) := by decide +kernel
theorem dX9_off_20 : decode cX9_off 20 = .ok (.getfield 12, 3) := by decide +kernel
theorem dX9_off_23 : decode cX9_off 23 = .ok (.getfield 158, 3) := by decide +kernel
theorem dX9_off_26 : decode cX9_off 26 = .ok (.iconst 0, 1) := by decide +kernel
theorem dX9_off_27 : decode cX9_off 27 = .ok (.aaload, 1) := by decide +kernel
theorem dX9_off_28 : decode cX9_off 28 = .ok (.invokevirtual 259, 3) := by decide +kernel
theorem dX9_off_31 : decode cX9_off 31 = .ok (.if_icmp .ge 7, 3) := by decide +kernel
theorem dX9_off_34 : decode cX9_off 34 = .ok (.iconst 1, 1) := by decide +kernel
theorem dX9_off_35 : decode cX9_off 35 = .ok (.goto 4, 3) := by decide +kernel
theorem dX9_off_38 : decode cX9_off 38 = .ok (.iconst 0, 1) := by decide +kernel
theorem dX9_off_39 : decode cX9_off 39 = .ok (.ireturn, 1) := by decide +kernel
theorem dX9_off_40 : decode cX9_off 40 = .ok (.iload_n 1, 1) := by decide +kernel
theorem dX9_off_41 : decode cX9_off 41 = .ok (.iconst 0, 1) := by decide +kernel
theorem dX9_off_42 : decode cX9_off 42 = .ok (.iconst 1, 1) := by decide +kernel
theorem dX9_off_43 : decode cX9_off 43 = .ok (.invokestatic 89, 3) := by decide +kernel
theorem dX9_off_46 : decode cX9_off 46 = .ok (.ifCond .eq 19, 3) := by decide +kernel
theorem dX9_off_49 : decode cX9_off 49 = .ok (.aload_n 0, 1) := by decide +kernel
theorem dX9_off_50 : decode cX9_off 50 = .ok (.aload_n 0, 1) := by decide +kernel
theorem dX9_off_51 : decode cX9_off 51 = .ok (.getfield 12, 3) := by decide +kernel
theorem dX9_off_54 : decode cX9_off 54 = .ok (.getfield 158, 3) := by decide +kernel
theorem dX9_off_57 : decode cX9_off 57 = .ok (.iload_n 1, 1) := by decide +kernel
theorem dX9_off_58 : decode cX9_off 58 = .ok (.aaload, 1) := by decide +kernel
theorem dX9_off_59 : decode cX9_off 59 = .ok (.invokevirtual 259, 3) := by decide +kernel
theorem dX9_off_62 : decode cX9_off 62 = .ok (.goto 4, 3) := by decide +kernel
theorem dX9_off_65 : decode cX9_off 65 = .ok (.iconst (-1), 1) := by decide +kernel
theorem dX9_off_66 : decode cX9_off 66 = .ok (.ireturn, 1) := by decide +kernel
theorem dX9_still_0 : decode cX9_still 0 = .ok (.aload_n 0, 1) := by decide +kernel
theorem dX9_still_1 : decode cX9_still 1 = .ok (.iload_n 1, 1) := by decide +kernel
theorem dX9_still_2 : decode cX9_still 2 = .ok (.invokevirtual 78, 3) := by decide +kernel
theorem dX9_still_5 : decode cX9_still 5 = .ok (.astore 4, 2) := by decide +kernel
theorem dX9_still_7 : decode cX9_still 7 = .ok (.aload 4, 2) := by decide +kernel
theorem dX9_still_9 : decode cX9_still 9 = .ok (.ifnull 14, 3) := by decide +kernel
theorem dX9_still_12 : decode cX9_still 12 = .ok (.iload_n 2, 1) := by decide +kernel
theorem dX9_still_13 : decode cX9_still 13 = .ok (.invokestatic 150, 3) := by decide +kernel
theorem dX9_still_16 : decode cX9_still 16 = .ok (.ifCond .eq 7, 3) := by decide +kernel
theorem dX9_still_19 : decode cX9_still 19 = .ok (.iload_n 3, 1) := by decide +kernel
theorem dX9_still_20 : decode cX9_still 20 = .ok (.ifCond .ge 5, 3) := by decide +kernel
theorem dX9_still_23 : decode cX9_still 23 = .ok (.iconst (-1), 1) := by decide +kernel
theorem dX9_still_24 : decode cX9_still 24 = .ok (.ireturn, 1) := by decide +kernel
theorem dX9_still_25 : decode cX9_still 25 = .ok (.aload_n 0, 1) := by decide +kernel
theorem dX9_still_26 : decode cX9_still 26 = .ok (.aload 4, 2) := by decide +kernel
theorem dX9_still_28 : decode cX9_still 28 = .ok (.iload_n 2, 1) := by decide +kernel
theorem dX9_still_29 : decode cX9_still 29 = .ok (.invokevirtual 263, 3) := by decide +kernel
theorem dX9_still_32 : decode cX9_still 32 = .ok (.istore 5, 2) := by decide +kernel
theorem dX9_still_34 : decode cX9_still 34 = .ok (.iload_n 3, 1) := by decide +kernel
theorem dX9_still_35 : decode cX9_still 35 = .ok (.ifCond .ne 6, 3) := by decide +kernel
theorem dX9_still_38 : decode cX9_still 38 = .ok (.iload 5, 2) := by decide +kernel
theorem dX9_still_40 : decode cX9_still 40 = .ok (.ireturn, 1) := by decide +kernel
theorem dX9_still_41 : decode cX9_still 41 = .ok (.iload_n 3, 1) := by decide +kernel
theorem dX9_still_42 : decode cX9_still 42 = .ok (.iload 5, 2) := by decide +kernel
theorem dX9_still_44 : decode cX9_still 44 = .ok (.if_icmp .gt 14, 3) := by decide +kernel
theorem dX9_still_47 : decode cX9_still 47 = .ok (.aload_n 0, 1) := by decide +kernel
theorem dX9_still_48 : decode cX9_still 48 = .ok (.getfield 58, 3) := by decide +kernel
theorem dX9_still_51 : decode cX9_still 51 = .ok (.iload_n 3, 1) := by decide +kernel
theorem dX9_still_52 : decode cX9_still 52 = .ok (.iconst 1, 1) := by decide +kernel
theorem dX9_still_53 : decode cX9_still 53 = .ok (.isub, 1) := by decide +kernel
theorem dX9_still_54 : decode cX9_still 54 = .ok (.iaload, 1) := by decide +kernel
theorem dX9_still_55 : decode cX9_still 55 = .ok (.goto 4, 3) := by decide +kernel
theorem dX9_still_58 : decode cX9_still 58 = .ok (.iconst (-1), 1) := by decide +kernel
theorem dX9_still_59 : decode cX9_still 59 = .ok (.ireturn, 1) := by decide +kernel
theorem dX9_holes_0 : decode cX9_holes 0 = .ok (.aload_n 0, 1) := by decide +kernel
theorem dX9_holes_1 : decode cX9_holes 1 = .ok (.iload_n 1, 1) := by decide +kernel
theorem dX9_holes_2 : decode cX9_holes 2 = .ok (.invokevirtual 78, 3) := by decide +kernel
theorem dX9_holes_5 : decode cX9_holes 5 = .ok (.astore 4, 2) := by decide +kernel
theorem dX9_holes_7 : decode cX9_holes 7 = .ok (.aload 4, 2) := by decide +kernel
theorem dX9_holes_9 : decode cX9_holes 9 = .ok (.ifnull 26, 3) := by decide +kernel
theorem dX9_holes_12 : decode cX9_holes 12 = .ok (.aload 4, 2) := by decide +kernel
theorem dX9_holes_14 : decode cX9_holes 14 = .ok (.iload_n 2, 1) := by decide +kernel
theorem dX9_holes_15 : decode cX9_holes 15 = .ok (.invokevirtual 82, 3) := by decide +kernel
theorem dX9_holes_18 : decode cX9_holes 18 = .ok (.ifCond .eq 17, 3) := by decide +kernel
theorem dX9_holes_21 : decode cX9_holes 21 = .ok (.aload 4, 2) := by decide +kernel
theorem dX9_holes_23 : decode cX9_holes 23 = .ok (.iload_n 3, 1) := by decide +kernel
theorem dX9_holes_24 : decode cX9_holes 24 = .ok (.invokevirtual 82, 3) := by decide +kernel
theorem dX9_holes_27 : decode cX9_holes 27 = .ok (.ifCond .eq 8, 3) := by decide +kernel
theorem dX9_holes_30 : decode cX9_holes 30 = .ok (.iload_n 2, 1) := by decide +kernel
theorem dX9_holes_31 : decode cX9_holes 31 = .ok (.iload_n 3, 1) := by decide +kernel
theorem dX9_holes_32 : decode cX9_holes 32 = .ok (.if_icmp .lt 5, 3) := by decide +kernel
theorem dX9_holes_35 : decode cX9_holes 35 = .ok (.iconst 0, 1) := by decide +kernel
theorem dX9_holes_36 : decode cX9_holes 36 = .ok (.ireturn, 1) := by decide +kernel
theorem dX9_holes_37 : decode cX9_holes 37 = .ok (.aload 4, 2) := by decide +kernel
theorem dX9_holes_39 : decode cX9_holes 39 = .ok (.iload_n 2, 1) := by decide +kernel
theorem dX9_holes_40 : decode cX9_holes 40 = .ok (.putfield 266, 3) := by decide +kernel
theorem dX9_holes_43 : decode cX9_holes 43 = .ok (.aload 4, 2) := by decide +kernel
theorem dX9_holes_45 : decode cX9_holes 45 = .ok (.iload_n 3, 1) := by decide +kernel
theorem dX9_holes_46 : decode cX9_holes 46 = .ok (.putfield 269, 3) := by decide +kernel
theorem dX9_holes_49 : decode cX9_holes 49 = .ok (.iconst 1, 1) := by decide +kernel
theorem dX9_holes_50 : decode cX9_holes 50 = .ok (.ireturn, 1) := by decide +kernel
theorem dX9_tube_0 : decode cX9_tube 0 = .ok (.aload_n 0, 1) := by decide +kernel
theorem dX9_tube_1 : decode cX9_tube 1 = .ok (.iload_n 1, 1) := by decide +kernel
theorem dX9_tube_2 : decode cX9_tube 2 = .ok (.invokevirtual 78, 3) := by decide +kernel
theorem dX9_tube_5 : decode cX9_tube 5 = .ok (.astore 4, 2) := by decide +kernel
theorem dX9_tube_7 : decode cX9_tube 7 = .ok (.aload 4, 2) := by decide +kernel
theorem dX9_tube_9 : decode cX9_tube 9 = .ok (.ifnull 23, 3) := by decide +kernel
theorem dX9_tube_12 : decode cX9_tube 12 = .ok (.iload_n 2, 1) := by decide +kernel
theorem dX9_tube_13 : decode cX9_tube 13 = .ok (.iconst 0, 1) := by decide +kernel
theorem dX9_tube_14 : decode cX9_tube 14 = .ok (.iconst 1, 1) := by decide +kernel
theorem dX9_tube_15 : decode cX9_tube 15 = .ok (.invokestatic 89, 3) := by decide +kernel
theorem dX9_tube_18 : decode cX9_tube 18 = .ok (.ifCond .eq 14, 3) := by decide +kernel
theorem dX9_tube_21 : decode cX9_tube 21 = .ok (.iload_n 3, 1) := by decide +kernel
theorem dX9_tube_22 : decode cX9_tube 22 = .ok (.iconst 1, 1) := by decide +kernel
theorem dX9_tube_23 : decode cX9_tube 23 = .ok (.sipush 9999, 3) := by decide +kernel
theorem dX9_tube_26 : decode cX9_tube 26 = .ok (.invokestatic 89, 3) := by decide +kernel
theorem dX9_tube_29 : decode cX9_tube 29 = .ok (.ifCond .ne 5, 3) := by decide +kernel
theorem dX9_tube_32 : decode cX9_tube 32 = .ok (.iconst 0, 1) := by decide +kernel
theorem dX9_tube_33 : decode cX9_tube 33 = .ok (.ireturn, 1) := by decide +kernel
theorem dX9_tube_34 : decode cX9_tube 34 = .ok (.aload 4, 2) := by decide +kernel
theorem dX9_tube_36 : decode cX9_tube 36 = .ok (.getfield 272, 3) := by decide +kernel
theorem dX9_tube_39 : decode cX9_tube 39 = .ok (.iload_n 2, 1) := by decide +kernel
theorem dX9_tube_40 : decode cX9_tube 40 = .ok (.iload_n 3, 1) := by decide +kernel
theorem dX9_tube_41 : decode cX9_tube 41 = .ok (.iastore, 1) := by decide +kernel
theorem dX9_tube_42 : decode cX9_tube 42 = .ok (.iconst 1, 1) := by decide +kernel
theorem dX9_tube_43 : decode cX9_tube 43 = .ok (.ireturn, 1) := by decide +kernel
theorem dX9_in_0 : decode cX9_in 0 = .ok (.aload_n 0, 1) := by decide +kernel
theorem dX9_in_1 : decode cX9_in 1 = .ok (.iload_n 1, 1) := by decide +kernel
theorem dX9_in_2 : decode cX9_in 2 = .ok (.invokevirtual 78, 3) := by decide +kernel
theorem dX9_in_5 : decode cX9_in 5 = .ok (.astore 5, 2) := by decide +kernel
theorem dX9_in_7 : decode cX9_in 7 = .ok (.aload 5, 2) := by decide +kernel
theorem dX9_in_9 : decode cX9_in 9 = .ok (.ifnull 21, 3) := by decide +kernel
theorem dX9_in_12 : decode cX9_in 12 = .ok (.iload_n 2, 1) := by decide +kernel
theorem dX9_in_13 : decode cX9_in 13 = .ok (.iload_n 3, 1) := by decide +kernel
theorem dX9_in_14 : decode cX9_in 14 = .ok (.invokestatic 275, 3) := by decide +kernel
theorem dX9_in_17 : decode cX9_in 17 = .ok (.ifCond .eq 13, 3) := by decide +kernel
theorem dX9_in_20 : decode cX9_in 20 = .ok (.iload 4, 2) := by decide +kernel
theorem dX9_in_22 : decode cX9_in 22 = .ok (.iconst 0, 1) := by decide +kernel
theorem dX9_in_23 : decode cX9_in 23 = .ok (.iconst 3, 1) := by decide +kernel
theorem dX9_in_24 : decode cX9_in 24 = .ok (.invokestatic 89, 3) := by decide +kernel
theorem dX9_in_27 : decode cX9_in 27 = .ok (.ifCond .ne 5, 3) := by decide +kernel
theorem dX9_in_30 : decode cX9_in 30 = .ok (.iconst (-1), 1) := by decide +kernel
theorem dX9_in_31 : decode cX9_in 31 = .ok (.ireturn, 1) := by decide +kernel
theorem dX9_in_32 : decode cX9_in 32 = .ok (.aload_n 0, 1) := by decide +kernel
theorem dX9_in_33 : decode cX9_in 33 = .ok (.aload 5, 2) := by decide +kernel
theorem dX9_in_35 : decode cX9_in 35 = .ok (.iconst 0, 1) := by decide +kernel
theorem dX9_in_36 : decode cX9_in 36 = .ok (.invokevirtual 166, 3) := by decide +kernel
theorem dX9_in_39 : decode cX9_in 39 = .ok (.aload_n 0, 1) := by decide +kernel
theorem dX9_in_40 : decode cX9_in 40 = .ok (.iload_n 2, 1) := by decide +kernel
theorem dX9_in_41 : decode cX9_in 41 = .ok (.iload_n 3, 1) := by decide +kernel
theorem dX9_in_42 : decode cX9_in 42 = .ok (.invokevirtual 279, 3) := by decide +kernel
theorem dX9_in_45 : decode cX9_in 45 = .ok (.invokestatic 283, 3) := by decide +kernel
theorem dX9_in_48 : decode cX9_in 48 = .ok (.istore 6, 2) := by decide +kernel
theorem dX9_in_50 : decode cX9_in 50 = .ok (.iload 4, 2) := by decide +kernel
theorem dX9_in_52 : decode cX9_in 52 = .ok (.tableswitch 51 0 2 #[28, 31, 41], 28) := by decide +kernel
theorem dX9_in_80 : decode cX9_in 80 = .ok (.iload 6, 2) := by decide +kernel
theorem dX9_in_82 : decode cX9_in 82 = .ok (.ireturn, 1) := by decide +kernel
theorem dX9_in_83 : decode cX9_in 83 = .ok (.aload 5, 2) := by decide +kernel
theorem dX9_in_85 : decode cX9_in 85 = .ok (.iconst 0, 1) := by decide +kernel
theorem dX9_in_86 : decode cX9_in 86 = .ok (.iload_n 2, 1) := by decide +kernel
theorem dX9_in_87 : decode cX9_in 87 = .ok (.iload 6, 2) := by decide +kernel
theorem dX9_in_89 : decode cX9_in 89 = .ok (.invokestatic 286, 3) := by decide +kernel
theorem dX9_in_92 : decode cX9_in 92 = .ok (.ireturn, 1) := by decide +kernel
theorem dX9_in_93 : decode cX9_in 93 = .ok (.aload 5, 2) := by decide +kernel
theorem dX9_in_95 : decode cX9_in 95 = .ok (.iconst 1, 1) := by decide +kernel
theorem dX9_in_96 : decode cX9_in 96 = .ok (.iload_n 2, 1) := by decide +kernel
theorem dX9_in_97 : decode cX9_in 97 = .ok (.iload 6, 2) := by decide +kernel
theorem dX9_in_99 : decode cX9_in 99 = .ok (.invokestatic 286, 3) := by decide +kernel
theorem dX9_in_102 : decode cX9_in 102 = .ok (.ireturn, 1) := by decide +kernel
theorem dX9_in_103 : decode cX9_in 103 = .ok (.iload_n 2, 1) := by decide +kernel
theorem dX9_in_104 : decode cX9_in 104 = .ok (.iload 6, 2) := by decide +kernel
theorem dX9_in_106 : decode cX9_in 106 = .ok (.invokestatic 290, 3) := by decide +kernel
theorem dX9_in_109 : decode cX9_in 109 = .ok (.ireturn, 1) := by decide +kernel
theorem dX9_night_0 : decode cX9_night 0 = .ok (.iload_n 1, 1) := by decide +kernel
theorem dX9_night_1 : decode cX9_night 1 = .ok (.iload_n 2, 1) := by decide +kernel
theorem dX9_night_2 : decode cX9_night 2 = .ok (.invokestatic 275, 3) := by decide +kernel
theorem dX9_night_5 : decode cX9_night 5 = .ok (.ifCond .eq 15, 3) := by decide +kernel
theorem dX9_night_8 : decode cX9_night 8 = .ok (.aload_n 0, 1) := by decide +kernel
theorem dX9_night_9 : decode cX9_night 9 = .ok (.getfield 12, 3) := by decide +kernel
theorem dX9_night_12 : decode cX9_night 12 = .ok (.getfield 293, 3) := by decide +kernel
theorem dX9_night_15 : decode cX9_night 15 = .ok (.bipush 20, 2) := by decide +kernel
theorem dX9_night_17 : decode cX9_night 17 = .ok (.if_icmp .lt 5, 3) := by decide +kernel
theorem dX9_night_20 : decode cX9_night 20 = .ok (.iconst (-1), 1) := by decide +kernel
theorem dX9_night_21 : decode cX9_night 21 = .ok (.ireturn, 1) := by decide +kernel
theorem dX9_night_22 : decode cX9_night 22 = .ok (.aload_n 0, 1) := by decide +kernel
theorem dX9_night_23 : decode cX9_night 23 = .ok (.getfield 12, 3) := by decide +kernel
theorem dX9_night_26 : decode cX9_night 26 = .ok (.getfield 296, 3) := by decide +kernel
theorem dX9_night_29 : decode cX9_night 29 = .ok (.aload_n 0, 1) := by decide +kernel
theorem dX9_night_30 : decode cX9_night 30 = .ok (.getfield 12, 3) := by decide +kernel
theorem dX9_night_33 : decode cX9_night 33 = .ok (.getfield 293, 3) := by decide +kernel
theorem dX9_night_36 : decode cX9_night 36 = .ok (.iload_n 1, 1) := by decide +kernel
theorem dX9_night_37 : decode cX9_night 37 = .ok (.iastore, 1) := by decide +kernel
theorem dX9_night_38 : decode cX9_night 38 = .ok (.aload_n 0, 1) := by decide +kernel
theorem dX9_night_39 : decode cX9_night 39 = .ok (.getfield 12, 3) := by decide +kernel
theorem dX9_night_42 : decode cX9_night 42 = .ok (.getfield 299, 3) := by decide +kernel
theorem dX9_night_45 : decode cX9_night 45 = .ok (.aload_n 0, 1) := by decide +kernel
theorem dX9_night_46 : decode cX9_night 46 = .ok (.getfield 12, 3) := by decide +kernel
theorem dX9_night_49 : decode cX9_night 49 = .ok (.getfield 293, 3) := by decide +kernel
theorem dX9_night_52 : decode cX9_night 52 = .ok (.iload_n 2, 1) := by decide +kernel
theorem dX9_night_53 : decode cX9_night 53 = .ok (.iastore, 1) := by decide +kernel
theorem dX9_night_54 : decode cX9_night 54 = .ok (.aload_n 0, 1) := by decide +kernel
theorem dX9_night_55 : decode cX9_night 55 = .ok (.getfield 12, 3) := by decide +kernel
theorem dX9_night_58 : decode cX9_night 58 = .ok (.dup, 1) := by decide +kernel
theorem dX9_night_59 : decode cX9_night 59 = .ok (.getfield 293, 3) := by decide +kernel
theorem dX9_night_62 : decode cX9_night 62 = .ok (.iconst 1, 1) := by decide +kernel
theorem dX9_night_63 : decode cX9_night 63 = .ok (.iadd, 1) := by decide +kernel
theorem dX9_night_64 : decode cX9_night 64 = .ok (.putfield 293, 3) := by decide +kernel
theorem dX9_night_67 : decode cX9_night 67 = .ok (.aload_n 0, 1) := by decide +kernel
theorem dX9_night_68 : decode cX9_night 68 = .ok (.getfield 12, 3) := by decide +kernel
theorem dX9_night_71 : decode cX9_night 71 = .ok (.getfield 293, 3) := by decide +kernel
theorem dX9_night_74 : decode cX9_night 74 = .ok (.iconst 1, 1) := by decide +kernel
theorem dX9_night_75 : decode cX9_night 75 = .ok (.isub, 1) := by decide +kernel
theorem dX9_night_76 : decode cX9_night 76 = .ok (.ireturn, 1) := by decide +kernel
theorem dX9_nights_0 : decode cX9_nights 0 = .ok (.iload_n 1, 1) := by decide +kernel
theorem dX9_nights_1 : decode cX9_nights 1 = .ok (.iconst (-1), 1) := by decide +kernel
theorem dX9_nights_2 : decode cX9_nights 2 = .ok (.if_icmp .eq 32, 3) := by decide +kernel
theorem dX9_nights_5 : decode cX9_nights 5 = .ok (.iload_n 1, 1) := by decide +kernel
theorem dX9_nights_6 : decode cX9_nights 6 = .ok (.iconst 0, 1) := by decide +kernel
theorem dX9_nights_7 : decode cX9_nights 7 = .ok (.aload_n 0, 1) := by decide +kernel
theorem dX9_nights_8 : decode cX9_nights 8 = .ok (.getfield 12, 3) := by decide +kernel
theorem dX9_nights_11 : decode cX9_nights 11 = .ok (.getfield 293, 3) := by decide +kernel
theorem dX9_nights_14 : decode cX9_nights 14 = .ok (.iconst 1, 1) := by decide +kernel
theorem dX9_nights_15 : decode cX9_nights 15 = .ok (.isub, 1) := by decide +kernel
theorem dX9_nights_16 : decode cX9_nights 16 = .ok (.invokestatic 89, 3) := by decide +kernel
theorem dX9_nights_19 : decode cX9_nights 19 = .ok (.ifCond .eq 12, 3) := by decide +kernel
theorem dX9_nights_22 : decode cX9_nights 22 = .ok (.iload_n 2, 1) := by decide +kernel
theorem dX9_nights_23 : decode cX9_nights 23 = .ok (.iconst 0, 1) := by decide +kernel
theorem dX9_nights_24 : decode cX9_nights 24 = .ok (.iconst 3, 1) := by decide +kernel
theorem dX9_nights_25 : decode cX9_nights 25 = .ok (.invokestatic 89, 3) := by decide +kernel
theorem dX9_nights_28 : decode cX9_nights 28 = .ok (.ifCond .ne 6, 3) := by decide +kernel
theorem dX9_nights_31 : decode cX9_nights 31 = .ok (.bipush (-2), 2) := by decide +kernel
theorem dX9_nights_33 : decode cX9_nights 33 = .ok (.ireturn, 1) := by decide +kernel
theorem dX9_nights_34 : decode cX9_nights 34 = .ok (.aload_n 0, 1) := by decide +kernel
theorem dX9_nights_35 : decode cX9_nights 35 = .ok (.invokevirtual 302, 3) := by decide +kernel
theorem dX9_nights_38 : decode cX9_nights 38 = .ok (.iload_n 1, 1) := by decide +kernel
theorem dX9_nights_39 : decode cX9_nights 39 = .ok (.iconst (-1), 1) := by decide +kernel
theorem dX9_nights_40 : decode cX9_nights 40 = .ok (.if_icmp .ne 8, 3) := by decide +kernel
theorem dX9_nights_43 : decode cX9_nights 43 = .ok (.aload_n 0, 1) := by decide +kernel
theorem dX9_nights_44 : decode cX9_nights 44 = .ok (.invokevirtual 305, 3) := by decide +kernel
theorem dX9_nights_47 : decode cX9_nights 47 = .ok (.ireturn, 1) := by decide +kernel
theorem dX9_nights_48 : decode cX9_nights 48 = .ok (.iload_n 2, 1) := by decide +kernel
theorem dX9_nights_49 : decode cX9_nights 49 = .ok (.tableswitch 47 0 2 #[27, 34, 41], 27) := by decide +kernel
theorem dX9_nights_76 : decode cX9_nights 76 = .ok (.aload_n 0, 1) := by decide +kernel
theorem dX9_nights_77 : decode cX9_nights 77 = .ok (.iload_n 1, 1) := by decide +kernel
theorem dX9_nights_78 : decode cX9_nights 78 = .ok (.iconst 0, 1) := by decide +kernel
theorem dX9_nights_79 : decode cX9_nights 79 = .ok (.invokevirtual 308, 3) := by decide +kernel
theorem dX9_nights_82 : decode cX9_nights 82 = .ok (.ireturn, 1) := by decide +kernel
theorem dX9_nights_83 : decode cX9_nights 83 = .ok (.aload_n 0, 1) := by decide +kernel
theorem dX9_nights_84 : decode cX9_nights 84 = .ok (.iload_n 1, 1) := by decide +kernel
theorem dX9_nights_85 : decode cX9_nights 85 = .ok (.iconst 1, 1) := by decide +kernel
theorem dX9_nights_86 : decode cX9_nights 86 = .ok (.invokevirtual 308, 3) := by decide +kernel
theorem dX9_nights_89 : decode cX9_nights 89 = .ok (.ireturn, 1) := by decide +kernel
theorem dX9_nights_90 : decode cX9_nights 90 = .ok (.aload_n 0, 1) := by decide +kernel
theorem dX9_nights_91 : decode cX9_nights 91 = .ok (.iload_n 1, 1) := by decide +kernel
theorem dX9_nights_92 : decode cX9_nights 92 = .ok (.invokevirtual 311, 3) := by decide +kernel
theorem dX9_nights_95 : decode cX9_nights 95 = .ok (.ireturn, 1) := by decide +kernel
theorem dX9_nights_96 : decode cX9_nights 96 = .ok (.aload_n 0, 1) := by decide +kernel
theorem dX9_nights_97 : decode cX9_nights 97 = .ok (.iload_n 1, 1) := by decide +kernel
theorem dX9_nights_98 : decode cX9_nights 98 = .ok (.invokevirtual 314, 3) := by decide +kernel
theorem dX9_nights_101 : decode cX9_nights 101 = .ok (.ireturn, 1) := by decide +kernel
theorem dX9_note_0 : decode cX9_note 0 = .ok (.iload_n 1, 1) := by decide +kernel
theorem dX9_note_1 : decode cX9_note 1 = .ok (.iconst 1, 1) := by decide +kernel
theorem dX9_note_2 : decode cX9_note 2 = .ok (.ldc 180, 2) := by decide +kernel
theorem dX9_note_4 : decode cX9_note 4 = .ok (.invokestatic 89, 3) := by decide +kernel
theorem dX9_note_7 : decode cX9_note 7 = .ok (.ifCond .eq 25, 3) := by decide +kernel
theorem dX9_note_10 : decode cX9_note 10 = .ok (.iload_n 2, 1) := by decide +kernel
theorem dX9_note_11 : decode cX9_note 11 = .ok (.iconst 1, 1) := by decide +kernel
theorem dX9_note_12 : decode cX9_note 12 = .ok (.bipush 99, 2) := by decide +kernel
theorem dX9_note_14 : decode cX9_note 14 = .ok (.invokestatic 89, 3) := by decide +kernel
theorem dX9_note_17 : decode cX9_note 17 = .ok (.ifCond .eq 15, 3) := by decide +kernel
theorem dX9_note_20 : decode cX9_note 20 = .ok (.aload_n 0, 1) := by decide +kernel
theorem dX9_note_21 : decode cX9_note 21 = .ok (.getfield 12, 3) := by decide +kernel
theorem dX9_note_24 : decode cX9_note 24 = .ok (.getfield 317, 3) := by decide +kernel
theorem dX9_note_27 : decode cX9_note 27 = .ok (.bipush 8, 2) := by decide +kernel
theorem dX9_note_29 : decode cX9_note 29 = .ok (.if_icmp .lt 5, 3) := by decide +kernel
theorem dX9_note_32 : decode cX9_note 32 = .ok (.iconst (-1), 1) := by decide +kernel
theorem dX9_note_33 : decode cX9_note 33 = .ok (.ireturn, 1) := by decide +kernel
theorem dX9_note_34 : decode cX9_note 34 = .ok (.aload_n 0, 1) := by decide +kernel
theorem dX9_note_35 : decode cX9_note 35 = .ok (.getfield 12, 3) := by decide +kernel
theorem dX9_note_38 : decode cX9_note 38 = .ok (.getfield 320, 3) := by decide +kernel
theorem dX9_note_41 : decode cX9_note 41 = .ok (.aload_n 0, 1) := by decide +kernel
theorem dX9_note_42 : decode cX9_note 42 = .ok (.getfield 12, 3) := by decide +kernel
theorem dX9_note_45 : decode cX9_note 45 = .ok (.getfield 317, 3) := by decide +kernel
theorem dX9_note_48 : decode cX9_note 48 = .ok (.iload_n 1, 1) := by decide +kernel
theorem dX9_note_49 : decode cX9_note 49 = .ok (.iastore, 1) := by decide +kernel
theorem dX9_note_50 : decode cX9_note 50 = .ok (.aload_n 0, 1) := by decide +kernel
theorem dX9_note_51 : decode cX9_note 51 = .ok (.getfield 12, 3) := by decide +kernel
theorem dX9_note_54 : decode cX9_note 54 = .ok (.getfield 323, 3) := by decide +kernel
theorem dX9_note_57 : decode cX9_note 57 = .ok (.aload_n 0, 1) := by decide +kernel
theorem dX9_note_58 : decode cX9_note 58 = .ok (.getfield 12, 3) := by decide +kernel
theorem dX9_note_61 : decode cX9_note 61 = .ok (.getfield 317, 3) := by decide +kernel
theorem dX9_note_64 : decode cX9_note 64 = .ok (.iload_n 2, 1) := by decide +kernel
theorem dX9_note_65 : decode cX9_note 65 = .ok (.iastore, 1) := by decide +kernel
theorem dX9_note_66 : decode cX9_note 66 = .ok (.aload_n 0, 1) := by decide +kernel
theorem dX9_note_67 : decode cX9_note 67 = .ok (.getfield 12, 3) := by decide +kernel
theorem dX9_note_70 : decode cX9_note 70 = .ok (.dup, 1) := by decide +kernel
theorem dX9_note_71 : decode cX9_note 71 = .ok (.getfield 317, 3) := by decide +kernel
theorem dX9_note_74 : decode cX9_note 74 = .ok (.iconst 1, 1) := by decide +kernel
theorem dX9_note_75 : decode cX9_note 75 = .ok (.iadd, 1) := by decide +kernel
theorem dX9_note_76 : decode cX9_note 76 = .ok (.putfield 317, 3) := by decide +kernel
theorem dX9_note_79 : decode cX9_note 79 = .ok (.aload_n 0, 1) := by decide +kernel
theorem dX9_note_80 : decode cX9_note 80 = .ok (.getfield 12, 3) := by decide +kernel
theorem dX9_note_83 : decode cX9_note 83 = .ok (.getfield 317, 3) := by decide +kernel
theorem dX9_note_86 : decode cX9_note 86 = .ok (.iconst 1, 1) := by decide +kernel
theorem dX9_note_87 : decode cX9_note 87 = .ok (.isub, 1) := by decide +kernel
theorem dX9_note_88 : decode cX9_note 88 = .ok (.ireturn, 1) := by decide +kernel
theorem dX9_blank_0 : decode cX9_blank 0 = .ok (.iload_n 1, 1) := by decide +kernel
theorem dX9_blank_1 : decode cX9_blank 1 = .ok (.iconst 1, 1) := by decide +kernel
theorem dX9_blank_2 : decode cX9_blank 2 = .ok (.bipush 99, 2) := by decide +kernel
theorem dX9_blank_4 : decode cX9_blank 4 = .ok (.invokestatic 89, 3) := by decide +kernel
theorem dX9_blank_7 : decode cX9_blank 7 = .ok (.ifCond .eq 25, 3) := by decide +kernel
theorem dX9_blank_10 : decode cX9_blank 10 = .ok (.iload_n 2, 1) := by decide +kernel
theorem dX9_blank_11 : decode cX9_blank 11 = .ok (.iconst 0, 1) := by decide +kernel
theorem dX9_blank_12 : decode cX9_blank 12 = .ok (.bipush 99, 2) := by decide +kernel
theorem dX9_blank_14 : decode cX9_blank 14 = .ok (.invokestatic 89, 3) := by decide +kernel
theorem dX9_blank_17 : decode cX9_blank 17 = .ok (.ifCond .eq 15, 3) := by decide +kernel
theorem dX9_blank_20 : decode cX9_blank 20 = .ok (.aload_n 0, 1) := by decide +kernel
theorem dX9_blank_21 : decode cX9_blank 21 = .ok (.getfield 12, 3) := by decide +kernel
theorem dX9_blank_24 : decode cX9_blank 24 = .ok (.getfield 326, 3) := by decide +kernel
theorem dX9_blank_27 : decode cX9_blank 27 = .ok (.bipush 8, 2) := by decide +kernel
theorem dX9_blank_29 : decode cX9_blank 29 = .ok (.if_icmp .lt 5, 3) := by decide +kernel
theorem dX9_blank_32 : decode cX9_blank 32 = .ok (.iconst (-1), 1) := by decide +kernel
theorem dX9_blank_33 : decode cX9_blank 33 = .ok (.ireturn, 1) := by decide +kernel
theorem dX9_blank_34 : decode cX9_blank 34 = .ok (.aload_n 0, 1) := by decide +kernel
theorem dX9_blank_35 : decode cX9_blank 35 = .ok (.getfield 12, 3) := by decide +kernel
theorem dX9_blank_38 : decode cX9_blank 38 = .ok (.getfield 329, 3) := by decide +kernel
theorem dX9_blank_41 : decode cX9_blank 41 = .ok (.aload_n 0, 1) := by decide +kernel
theorem dX9_blank_42 : decode cX9_blank 42 = .ok (.getfield 12, 3) := by decide +kernel
theorem dX9_blank_45 : decode cX9_blank 45 = .ok (.getfield 326, 3) := by decide +kernel
theorem dX9_blank_48 : decode cX9_blank 48 = .ok (.iload_n 1, 1) := by decide +kernel
theorem dX9_blank_49 : decode cX9_blank 49 = .ok (.iastore, 1) := by decide +kernel
theorem dX9_blank_50 : decode cX9_blank 50 = .ok (.aload_n 0, 1) := by decide +kernel
theorem dX9_blank_51 : decode cX9_blank 51 = .ok (.getfield 12, 3) := by decide +kernel
theorem dX9_blank_54 : decode cX9_blank 54 = .ok (.getfield 332, 3) := by decide +kernel
theorem dX9_blank_57 : decode cX9_blank 57 = .ok (.aload_n 0, 1) := by decide +kernel
theorem dX9_blank_58 : decode cX9_blank 58 = .ok (.getfield 12, 3) := by decide +kernel
theorem dX9_blank_61 : decode cX9_blank 61 = .ok (.getfield 326, 3) := by decide +kernel
theorem dX9_blank_64 : decode cX9_blank 64 = .ok (.iload_n 2, 1) := by decide +kernel
theorem dX9_blank_65 : decode cX9_blank 65 = .ok (.iastore, 1) := by decide +kernel
theorem dX9_blank_66 : decode cX9_blank 66 = .ok (.aload_n 0, 1) := by decide +kernel
theorem dX9_blank_67 : decode cX9_blank 67 = .ok (.getfield 12, 3) := by decide +kernel
theorem dX9_blank_70 : decode cX9_blank 70 = .ok (.dup, 1) := by decide +kernel
theorem dX9_blank_71 : decode cX9_blank 71 = .ok (.getfield 326, 3) := by decide +kernel
theorem dX9_blank_74 : decode cX9_blank 74 = .ok (.iconst 1, 1) := by decide +kernel
theorem dX9_blank_75 : decode cX9_blank 75 = .ok (.iadd, 1) := by decide +kernel
theorem dX9_blank_76 : decode cX9_blank 76 = .ok (.putfield 326, 3) := by decide +kernel
theorem dX9_blank_79 : decode cX9_blank 79 = .ok (.aload_n 0, 1) := by decide +kernel
theorem dX9_blank_80 : decode cX9_blank 80 = .ok (.getfield 12, 3) := by decide +kernel
theorem dX9_blank_83 : decode cX9_blank 83 = .ok (.getfield 326, 3) := by decide +kernel
theorem dX9_blank_86 : decode cX9_blank 86 = .ok (.iconst 1, 1) := by decide +kernel
theorem dX9_blank_87 : decode cX9_blank 87 = .ok (.isub, 1) := by decide +kernel
theorem dX9_blank_88 : decode cX9_blank 88 = .ok (.ireturn, 1) := by decide +kernel
theorem dX9_set_0 : decode cX9_set 0 = .ok (.iload_n 1, 1) := by decide +kernel
theorem dX9_set_1 : decode cX9_set 1 = .ok (.iconst 0, 1) := by decide +kernel
theorem dX9_set_2 : decode cX9_set 2 = .ok (.bipush 99, 2) := by decide +kernel
theorem dX9_set_4 : decode cX9_set 4 = .ok (.invokestatic 89, 3) := by decide +kernel
theorem dX9_set_7 : decode cX9_set 7 = .ok (.ifCond .eq 18, 3) := by decide +kernel
theorem dX9_set_10 : decode cX9_set 10 = .ok (.iload_n 2, 1) := by decide +kernel
theorem dX9_set_11 : decode cX9_set 11 = .ok (.iconst 0, 1) := by decide +kernel
theorem dX9_set_12 : decode cX9_set 12 = .ok (.aload_n 0, 1) := by decide +kernel
theorem dX9_set_13 : decode cX9_set 13 = .ok (.getfield 12, 3) := by decide +kernel
theorem dX9_set_16 : decode cX9_set 16 = .ok (.getfield 317, 3) := by decide +kernel
theorem dX9_set_19 : decode cX9_set 19 = .ok (.invokestatic 89, 3) := by decide +kernel
theorem dX9_set_22 : decode cX9_set 22 = .ok (.ifCond .ne 5, 3) := by decide +kernel
theorem dX9_set_25 : decode cX9_set 25 = .ok (.iconst (-1), 1) := by decide +kernel
theorem dX9_set_26 : decode cX9_set 26 = .ok (.ireturn, 1) := by decide +kernel
theorem dX9_set_27 : decode cX9_set 27 = .ok (.aload_n 0, 1) := by decide +kernel
theorem dX9_set_28 : decode cX9_set 28 = .ok (.getfield 51, 3) := by decide +kernel
theorem dX9_set_31 : decode cX9_set 31 = .ok (.aload_n 0, 1) := by decide +kernel
theorem dX9_set_32 : decode cX9_set 32 = .ok (.getfield 12, 3) := by decide +kernel
theorem dX9_set_35 : decode cX9_set 35 = .ok (.iload_n 1, 1) := by decide +kernel
theorem dX9_set_36 : decode cX9_set 36 = .ok (.invokevirtual 335, 3) := by decide +kernel
theorem dX9_set_39 : decode cX9_set 39 = .ok (.istore_n 3, 1) := by decide +kernel
theorem dX9_set_40 : decode cX9_set 40 = .ok (.iload_n 2, 1) := by decide +kernel
theorem dX9_set_41 : decode cX9_set 41 = .ok (.ifCond .eq 8, 3) := by decide +kernel
theorem dX9_set_44 : decode cX9_set 44 = .ok (.iload_n 3, 1) := by decide +kernel
theorem dX9_set_45 : decode cX9_set 45 = .ok (.iconst (-1), 1) := by decide +kernel
theorem dX9_set_46 : decode cX9_set 46 = .ok (.if_icmp .ne 5, 3) := by decide +kernel
theorem dX9_set_49 : decode cX9_set 49 = .ok (.iload_n 3, 1) := by decide +kernel
theorem dX9_set_50 : decode cX9_set 50 = .ok (.ireturn, 1) := by decide +kernel
theorem dX9_set_51 : decode cX9_set 51 = .ok (.aload_n 0, 1) := by decide +kernel
theorem dX9_set_52 : decode cX9_set 52 = .ok (.getfield 51, 3) := by decide +kernel
theorem dX9_set_55 : decode cX9_set 55 = .ok (.getfield 338, 3) := by decide +kernel
theorem dX9_set_58 : decode cX9_set 58 = .ok (.iload_n 2, 1) := by decide +kernel
theorem dX9_set_59 : decode cX9_set 59 = .ok (.iconst 1, 1) := by decide +kernel
theorem dX9_set_60 : decode cX9_set 60 = .ok (.isub, 1) := by decide +kernel
theorem dX9_set_61 : decode cX9_set 61 = .ok (.iaload, 1) := by decide +kernel
theorem dX9_set_62 : decode cX9_set 62 = .ok (.ireturn, 1) := by decide +kernel
theorem dX9_down_0 : decode cX9_down 0 = .ok (.aload_n 0, 1) := by decide +kernel
theorem dX9_down_1 : decode cX9_down 1 = .ok (.iload_n 1, 1) := by decide +kernel
theorem dX9_down_2 : decode cX9_down 2 = .ok (.invokevirtual 78, 3) := by decide +kernel
theorem dX9_down_5 : decode cX9_down 5 = .ok (.astore_n 2, 1) := by decide +kernel
theorem dX9_down_6 : decode cX9_down 6 = .ok (.aload_n 2, 1) := by decide +kernel
theorem dX9_down_7 : decode cX9_down 7 = .ok (.ifnonnull 5, 3) := by decide +kernel
theorem dX9_down_10 : decode cX9_down 10 = .ok (.iconst (-1), 1) := by decide +kernel
theorem dX9_down_11 : decode cX9_down 11 = .ok (.ireturn, 1) := by decide +kernel
theorem dX9_down_12 : decode cX9_down 12 = .ok (.aload_n 0, 1) := by decide +kernel
theorem dX9_down_13 : decode cX9_down 13 = .ok (.aload_n 2, 1) := by decide +kernel
theorem dX9_down_14 : decode cX9_down 14 = .ok (.iconst 0, 1) := by decide +kernel
theorem dX9_down_15 : decode cX9_down 15 = .ok (.invokevirtual 166, 3) := by decide +kernel
theorem dX9_down_18 : decode cX9_down 18 = .ok (.aload_n 0, 1) := by decide +kernel
theorem dX9_down_19 : decode cX9_down 19 = .ok (.getfield 12, 3) := by decide +kernel
theorem dX9_down_22 : decode cX9_down 22 = .ok (.getfield 184, 3) := by decide +kernel
theorem dX9_down_25 : decode cX9_down 25 = .ok (.iadd, 1) := by decide +kernel
theorem dX9_down_26 : decode cX9_down 26 = .ok (.istore_n 3, 1) := by decide +kernel
theorem dX9_down_27 : decode cX9_down 27 = .ok (.iconst (-1), 1) := by decide +kernel
theorem dX9_down_28 : decode cX9_down 28 = .ok (.istore 4, 2) := by decide +kernel
theorem dX9_down_30 : decode cX9_down 30 = .ok (.iconst 0, 1) := by decide +kernel
theorem dX9_down_31 : decode cX9_down 31 = .ok (.istore 5, 2) := by decide +kernel
theorem dX9_down_33 : decode cX9_down 33 = .ok (.iload 5, 2) := by decide +kernel
theorem dX9_down_35 : decode cX9_down 35 = .ok (.aload_n 0, 1) := by decide +kernel
theorem dX9_down_36 : decode cX9_down 36 = .ok (.getfield 12, 3) := by decide +kernel
theorem dX9_down_39 : decode cX9_down 39 = .ok (.getfield 317, 3) := by decide +kernel
theorem dX9_down_42 : decode cX9_down 42 = .ok (.if_icmp .ge 52, 3) := by decide +kernel
theorem dX9_down_45 : decode cX9_down 45 = .ok (.aload_n 0, 1) := by decide +kernel
theorem dX9_down_46 : decode cX9_down 46 = .ok (.getfield 12, 3) := by decide +kernel
theorem dX9_down_49 : decode cX9_down 49 = .ok (.getfield 320, 3) := by decide +kernel
theorem dX9_down_52 : decode cX9_down 52 = .ok (.iload 5, 2) := by decide +kernel
theorem dX9_down_54 : decode cX9_down 54 = .ok (.iaload, 1) := by decide +kernel
theorem dX9_down_55 : decode cX9_down 55 = .ok (.istore 6, 2) := by decide +kernel
theorem dX9_down_57 : decode cX9_down 57 = .ok (.iload 6, 2) := by decide +kernel
theorem dX9_down_59 : decode cX9_down 59 = .ok (.iload_n 3, 1) := by decide +kernel
theorem dX9_down_60 : decode cX9_down 60 = .ok (.if_icmp .gt 28, 3) := by decide +kernel
theorem dX9_down_63 : decode cX9_down 63 = .ok (.iload 4, 2) := by decide +kernel
theorem dX9_down_65 : decode cX9_down 65 = .ok (.iconst (-1), 1) := by decide +kernel
theorem dX9_down_66 : decode cX9_down 66 = .ok (.if_icmp .eq 18, 3) := by decide +kernel
theorem dX9_down_69 : decode cX9_down 69 = .ok (.iload 6, 2) := by decide +kernel
theorem dX9_down_71 : decode cX9_down 71 = .ok (.aload_n 0, 1) := by decide +kernel
theorem dX9_down_72 : decode cX9_down 72 = .ok (.getfield 12, 3) := by decide +kernel
theorem dX9_down_75 : decode cX9_down 75 = .ok (.getfield 320, 3) := by decide +kernel
theorem dX9_down_78 : decode cX9_down 78 = .ok (.iload 4, 2) := by decide +kernel
theorem dX9_down_80 : decode cX9_down 80 = .ok (.iaload, 1) := by decide +kernel
theorem dX9_down_81 : decode cX9_down 81 = .ok (.if_icmp .le 7, 3) := by decide +kernel
theorem dX9_down_84 : decode cX9_down 84 = .ok (.iload 5, 2) := by decide +kernel
theorem dX9_down_86 : decode cX9_down 86 = .ok (.istore 4, 2) := by decide +kernel
theorem dX9_down_88 : decode cX9_down 88 = .ok (.iinc 5 1, 3) := by decide +kernel
theorem dX9_down_91 : decode cX9_down 91 = .ok (.goto (-58), 3) := by decide +kernel
theorem dX9_down_94 : decode cX9_down 94 = .ok (.iload 4, 2) := by decide +kernel
theorem dX9_down_96 : decode cX9_down 96 = .ok (.ireturn, 1) := by decide +kernel
theorem dX9_enough_0 : decode cX9_enough 0 = .ok (.aload_n 0, 1) := by decide +kernel
theorem dX9_enough_1 : decode cX9_enough 1 = .ok (.iload_n 1, 1) := by decide +kernel
theorem dX9_enough_2 : decode cX9_enough 2 = .ok (.invokevirtual 78, 3) := by decide +kernel
theorem dX9_enough_5 : decode cX9_enough 5 = .ok (.astore 4, 2) := by decide +kernel
theorem dX9_enough_7 : decode cX9_enough 7 = .ok (.aload 4, 2) := by decide +kernel
theorem dX9_enough_9 : decode cX9_enough 9 = .ok (.ifnull 29, 3) := by decide +kernel
theorem dX9_enough_12 : decode cX9_enough 12 = .ok (.aload 4, 2) := by decide +kernel
theorem dX9_enough_14 : decode cX9_enough 14 = .ok (.iload_n 2, 1) := by decide +kernel
theorem dX9_enough_15 : decode cX9_enough 15 = .ok (.invokevirtual 82, 3) := by decide +kernel
theorem dX9_enough_18 : decode cX9_enough 18 = .ok (.ifCond .eq 20, 3) := by decide +kernel
theorem dX9_enough_21 : decode cX9_enough 21 = .ok (.iload_n 3, 1) := by decide +kernel
theorem dX9_enough_22 : decode cX9_enough 22 = .ok (.invokestatic 150, 3) := by decide +kernel
theorem dX9_enough_25 : decode cX9_enough 25 = .ok (.ifCond .eq 13, 3) := by decide +kernel
theorem dX9_enough_28 : decode cX9_enough 28 = .ok (.aload 4, 2) := by decide +kernel
theorem dX9_enough_30 : decode cX9_enough 30 = .ok (.getfield 181, 3) := by decide +kernel
theorem dX9_enough_33 : decode cX9_enough 33 = .ok (.iload_n 3, 1) := by decide +kernel
theorem dX9_enough_34 : decode cX9_enough 34 = .ok (.iaload, 1) := by decide +kernel
theorem dX9_enough_35 : decode cX9_enough 35 = .ok (.ifCond .ne 5, 3) := by decide +kernel
theorem dX9_enough_38 : decode cX9_enough 38 = .ok (.iconst (-1), 1) := by decide +kernel
theorem dX9_enough_39 : decode cX9_enough 39 = .ok (.ireturn, 1) := by decide +kernel
theorem dX9_enough_40 : decode cX9_enough 40 = .ok (.aload_n 0, 1) := by decide +kernel
theorem dX9_enough_41 : decode cX9_enough 41 = .ok (.getfield 30, 3) := by decide +kernel
theorem dX9_enough_44 : decode cX9_enough 44 = .ok (.aload_n 0, 1) := by decide +kernel
theorem dX9_enough_45 : decode cX9_enough 45 = .ok (.getfield 12, 3) := by decide +kernel
theorem dX9_enough_48 : decode cX9_enough 48 = .ok (.invokevirtual 212, 3) := by decide +kernel
theorem dX9_enough_51 : decode cX9_enough 51 = .ok (.iconst 0, 1) := by decide +kernel
theorem dX9_enough_52 : decode cX9_enough 52 = .ok (.iload_n 3, 1) := by decide +kernel
theorem dX9_enough_53 : decode cX9_enough 53 = .ok (.aload 4, 2) := by decide +kernel
theorem dX9_enough_55 : decode cX9_enough 55 = .ok (.iload_n 2, 1) := by decide +kernel
theorem dX9_enough_56 : decode cX9_enough 56 = .ok (.invokevirtual 341, 3) := by decide +kernel
theorem dX9_enough_59 : decode cX9_enough 59 = .ok (.istore 5, 2) := by decide +kernel
theorem dX9_enough_61 : decode cX9_enough 61 = .ok (.aload_n 0, 1) := by decide +kernel
theorem dX9_enough_62 : decode cX9_enough 62 = .ok (.getfield 30, 3) := by decide +kernel
theorem dX9_enough_65 : decode cX9_enough 65 = .ok (.aload_n 0, 1) := by decide +kernel
theorem dX9_enough_66 : decode cX9_enough 66 = .ok (.getfield 12, 3) := by decide +kernel
theorem dX9_enough_69 : decode cX9_enough 69 = .ok (.invokevirtual 212, 3) := by decide +kernel
theorem dX9_enough_72 : decode cX9_enough 72 = .ok (.iconst 1, 1) := by decide +kernel
theorem dX9_enough_73 : decode cX9_enough 73 = .ok (.iload_n 3, 1) := by decide +kernel
theorem dX9_enough_74 : decode cX9_enough 74 = .ok (.aload 4, 2) := by decide +kernel
theorem dX9_enough_76 : decode cX9_enough 76 = .ok (.iload_n 2, 1) := by decide +kernel
theorem dX9_enough_77 : decode cX9_enough 77 = .ok (.invokevirtual 341, 3) := by decide +kernel
theorem dX9_enough_80 : decode cX9_enough 80 = .ok (.istore 6, 2) := by decide +kernel
theorem dX9_enough_82 : decode cX9_enough 82 = .ok (.aload 4, 2) := by decide +kernel
theorem dX9_enough_84 : decode cX9_enough 84 = .ok (.getfield 102, 3) := by decide +kernel
theorem dX9_enough_87 : decode cX9_enough 87 = .ok (.iload_n 2, 1) := by decide +kernel
theorem dX9_enough_88 : decode cX9_enough 88 = .ok (.iaload, 1) := by decide +kernel
theorem dX9_enough_89 : decode cX9_enough 89 = .ok (.istore 7, 2) := by decide +kernel
theorem dX9_enough_91 : decode cX9_enough 91 = .ok (.iload 7, 2) := by decide +kernel
theorem dX9_enough_93 : decode cX9_enough 93 = .ok (.bipush 99, 2) := by decide +kernel
theorem dX9_enough_95 : decode cX9_enough 95 = .ok (.if_icmp .gt 101, 3) := by decide +kernel
theorem dX9_enough_98 : decode cX9_enough 98 = .ok (.aload_n 0, 1) := by decide +kernel
theorem dX9_enough_99 : decode cX9_enough 99 = .ok (.getfield 30, 3) := by decide +kernel
theorem dX9_enough_102 : decode cX9_enough 102 = .ok (.aload 4, 2) := by decide +kernel
theorem dX9_enough_104 : decode cX9_enough 104 = .ok (.iload_n 2, 1) := by decide +kernel
theorem dX9_enough_105 : decode cX9_enough 105 = .ok (.aload 4, 2) := by decide +kernel
theorem dX9_enough_107 : decode cX9_enough 107 = .ok (.getfield 93, 3) := by decide +kernel
theorem dX9_enough_110 : decode cX9_enough 110 = .ok (.iload_n 2, 1) := by decide +kernel
theorem dX9_enough_111 : decode cX9_enough 111 = .ok (.iaload, 1) := by decide +kernel
theorem dX9_enough_112 : decode cX9_enough 112 = .ok (.aload 4, 2) := by decide +kernel
theorem dX9_enough_114 : decode cX9_enough 114 = .ok (.getfield 96, 3) := by decide +kernel
theorem dX9_enough_117 : decode cX9_enough 117 = .ok (.iload_n 2, 1) := by decide +kernel
theorem dX9_enough_118 : decode cX9_enough 118 = .ok (.iaload, 1) := by decide +kernel
theorem dX9_enough_119 : decode cX9_enough 119 = .ok (.iload 7, 2) := by decide +kernel
theorem dX9_enough_121 : decode cX9_enough 121 = .ok (.invokevirtual 154, 3) := by decide +kernel
theorem dX9_enough_124 : decode cX9_enough 124 = .ok (.iload 5, 2) := by decide +kernel
theorem dX9_enough_126 : decode cX9_enough 126 = .ok (.aload_n 0, 1) := by decide +kernel
theorem dX9_enough_127 : decode cX9_enough 127 = .ok (.getfield 30, 3) := by decide +kernel
theorem dX9_enough_130 : decode cX9_enough 130 = .ok (.aload_n 0, 1) := by decide +kernel
theorem dX9_enough_131 : decode cX9_enough 131 = .ok (.getfield 12, 3) := by decide +kernel
theorem dX9_enough_134 : decode cX9_enough 134 = .ok (.invokevirtual 212, 3) := by decide +kernel
theorem dX9_enough_137 : decode cX9_enough 137 = .ok (.iconst 0, 1) := by decide +kernel
