theorem dX10_canPass_40 : decode cX10_canPass 40 = .ok (.iconst 0, 1) := by decide +kernel
theorem dX10_canPass_41 : decode cX10_canPass 41 = .ok (.ireturn, 1) := by decide +kernel
theorem dX10_takesOff_0 : decode cX10_takesOff 0 = .ok (.aload_n 0, 1) := by decide +kernel
theorem dX10_takesOff_1 : decode cX10_takesOff 1 = .ok (.getfield 17, 3) := by decide +kernel
theorem dX10_takesOff_4 : decode cX10_takesOff 4 = .ok (.bipush 16, 2) := by decide +kernel
theorem dX10_takesOff_6 : decode cX10_takesOff 6 = .ok (.iload_n 1, 1) := by decide +kernel
theorem dX10_takesOff_7 : decode cX10_takesOff 7 = .ok (.imul, 1) := by decide +kernel
theorem dX10_takesOff_8 : decode cX10_takesOff 8 = .ok (.iload_n 2, 1) := by decide +kernel
theorem dX10_takesOff_9 : decode cX10_takesOff 9 = .ok (.iadd, 1) := by decide +kernel
theorem dX10_takesOff_10 : decode cX10_takesOff 10 = .ok (.aload_n 0, 1) := by decide +kernel
theorem dX10_takesOff_11 : decode cX10_takesOff 11 = .ok (.getfield 17, 3) := by decide +kernel
theorem dX10_takesOff_14 : decode cX10_takesOff 14 = .ok (.bipush 16, 2) := by decide +kernel
theorem dX10_takesOff_16 : decode cX10_takesOff 16 = .ok (.iload_n 1, 1) := by decide +kernel
theorem dX10_takesOff_17 : decode cX10_takesOff 17 = .ok (.imul, 1) := by decide +kernel
theorem dX10_takesOff_18 : decode cX10_takesOff 18 = .ok (.iload_n 2, 1) := by decide +kernel
theorem dX10_takesOff_19 : decode cX10_takesOff 19 = .ok (.iadd, 1) := by decide +kernel
theorem dX10_takesOff_20 : decode cX10_takesOff 20 = .ok (.iaload, 1) := by decide +kernel
theorem dX10_takesOff_21 : decode cX10_takesOff 21 = .ok (.iload_n 3, 1) := by decide +kernel
theorem dX10_takesOff_22 : decode cX10_takesOff 22 = .ok (.isub, 1) := by decide +kernel
theorem dX10_takesOff_23 : decode cX10_takesOff 23 = .ok (.iastore, 1) := by decide +kernel
theorem dX10_takesOff_24 : decode cX10_takesOff 24 = .ok (.aload_n 0, 1) := by decide +kernel
theorem dX10_takesOff_25 : decode cX10_takesOff 25 = .ok (.getfield 35, 3) := by decide +kernel
theorem dX10_takesOff_28 : decode cX10_takesOff 28 = .ok (.sipush 200, 3) := by decide +kernel
theorem dX10_takesOff_31 : decode cX10_takesOff 31 = .ok (.iload_n 1, 1) := by decide +kernel
theorem dX10_takesOff_32 : decode cX10_takesOff 32 = .ok (.imul, 1) := by decide +kernel
theorem dX10_takesOff_33 : decode cX10_takesOff 33 = .ok (.aload_n 0, 1) := by decide +kernel
theorem dX10_takesOff_34 : decode cX10_takesOff 34 = .ok (.getfield 32, 3) := by decide +kernel
theorem dX10_takesOff_37 : decode cX10_takesOff 37 = .ok (.iload_n 1, 1) := by decide +kernel
theorem dX10_takesOff_38 : decode cX10_takesOff 38 = .ok (.iaload, 1) := by decide +kernel
theorem dX10_takesOff_39 : decode cX10_takesOff 39 = .ok (.iadd, 1) := by decide +kernel
theorem dX10_takesOff_40 : decode cX10_takesOff 40 = .ok (.iload_n 2, 1) := by decide +kernel
theorem dX10_takesOff_41 : decode cX10_takesOff 41 = .ok (.iastore, 1) := by decide +kernel
theorem dX10_takesOff_42 : decode cX10_takesOff 42 = .ok (.aload_n 0, 1) := by decide +kernel
theorem dX10_takesOff_43 : decode cX10_takesOff 43 = .ok (.getfield 38, 3) := by decide +kernel
theorem dX10_takesOff_46 : decode cX10_takesOff 46 = .ok (.sipush 200, 3) := by decide +kernel
theorem dX10_takesOff_49 : decode cX10_takesOff 49 = .ok (.iload_n 1, 1) := by decide +kernel
theorem dX10_takesOff_50 : decode cX10_takesOff 50 = .ok (.imul, 1) := by decide +kernel
theorem dX10_takesOff_51 : decode cX10_takesOff 51 = .ok (.aload_n 0, 1) := by decide +kernel
theorem dX10_takesOff_52 : decode cX10_takesOff 52 = .ok (.getfield 32, 3) := by decide +kernel
theorem dX10_takesOff_55 : decode cX10_takesOff 55 = .ok (.iload_n 1, 1) := by decide +kernel
theorem dX10_takesOff_56 : decode cX10_takesOff 56 = .ok (.iaload, 1) := by decide +kernel
theorem dX10_takesOff_57 : decode cX10_takesOff 57 = .ok (.iadd, 1) := by decide +kernel
theorem dX10_takesOff_58 : decode cX10_takesOff 58 = .ok (.iload_n 3, 1) := by decide +kernel
theorem dX10_takesOff_59 : decode cX10_takesOff 59 = .ok (.iastore, 1) := by decide +kernel
theorem dX10_takesOff_60 : decode cX10_takesOff 60 = .ok (.aload_n 0, 1) := by decide +kernel
theorem dX10_takesOff_61 : decode cX10_takesOff 61 = .ok (.getfield 32, 3) := by decide +kernel
theorem dX10_takesOff_64 : decode cX10_takesOff 64 = .ok (.iload_n 1, 1) := by decide +kernel
theorem dX10_takesOff_65 : decode cX10_takesOff 65 = .ok (.aload_n 0, 1) := by decide +kernel
theorem dX10_takesOff_66 : decode cX10_takesOff 66 = .ok (.getfield 32, 3) := by decide +kernel
theorem dX10_takesOff_69 : decode cX10_takesOff 69 = .ok (.iload_n 1, 1) := by decide +kernel
theorem dX10_takesOff_70 : decode cX10_takesOff 70 = .ok (.iaload, 1) := by decide +kernel
theorem dX10_takesOff_71 : decode cX10_takesOff 71 = .ok (.iconst 1, 1) := by decide +kernel
theorem dX10_takesOff_72 : decode cX10_takesOff 72 = .ok (.iadd, 1) := by decide +kernel
theorem dX10_takesOff_73 : decode cX10_takesOff 73 = .ok (.iastore, 1) := by decide +kernel
theorem dX10_takesOff_74 : decode cX10_takesOff 74 = .ok (.aload_n 0, 1) := by decide +kernel
theorem dX10_takesOff_75 : decode cX10_takesOff 75 = .ok (.getfield 41, 3) := by decide +kernel
theorem dX10_takesOff_78 : decode cX10_takesOff 78 = .ok (.iload_n 1, 1) := by decide +kernel
theorem dX10_takesOff_79 : decode cX10_takesOff 79 = .ok (.iaload, 1) := by decide +kernel
theorem dX10_takesOff_80 : decode cX10_takesOff 80 = .ok (.ifCond .ne 23, 3) := by decide +kernel
theorem dX10_takesOff_83 : decode cX10_takesOff 83 = .ok (.aload_n 0, 1) := by decide +kernel
theorem dX10_takesOff_84 : decode cX10_takesOff 84 = .ok (.iload_n 1, 1) := by decide +kernel
theorem dX10_takesOff_85 : decode cX10_takesOff 85 = .ok (.invokevirtual 338, 3) := by decide +kernel
theorem dX10_takesOff_88 : decode cX10_takesOff 88 = .ok (.ifCond .eq 15, 3) := by decide +kernel
theorem dX10_takesOff_91 : decode cX10_takesOff 91 = .ok (.aload_n 0, 1) := by decide +kernel
theorem dX10_takesOff_92 : decode cX10_takesOff 92 = .ok (.getfield 41, 3) := by decide +kernel
theorem dX10_takesOff_95 : decode cX10_takesOff 95 = .ok (.iload_n 1, 1) := by decide +kernel
theorem dX10_takesOff_96 : decode cX10_takesOff 96 = .ok (.aload_n 0, 1) := by decide +kernel
theorem dX10_takesOff_97 : decode cX10_takesOff 97 = .ok (.getfield 32, 3) := by decide +kernel
theorem dX10_takesOff_100 : decode cX10_takesOff 100 = .ok (.iload_n 1, 1) := by decide +kernel
theorem dX10_takesOff_101 : decode cX10_takesOff 101 = .ok (.iaload, 1) := by decide +kernel
theorem dX10_takesOff_102 : decode cX10_takesOff 102 = .ok (.iastore, 1) := by decide +kernel
theorem dX10_takesOff_103 : decode cX10_takesOff 103 = .ok (.return_, 1) := by decide +kernel
theorem dX10_shave_0 : decode cX10_shave 0 = .ok (.aload_n 0, 1) := by decide +kernel
theorem dX10_shave_1 : decode cX10_shave 1 = .ok (.iconst 0, 1) := by decide +kernel
theorem dX10_shave_2 : decode cX10_shave 2 = .ok (.putfield 167, 3) := by decide +kernel
theorem dX10_shave_5 : decode cX10_shave 5 = .ok (.aload_n 0, 1) := by decide +kernel
theorem dX10_shave_6 : decode cX10_shave 6 = .ok (.iload_n 3, 1) := by decide +kernel
theorem dX10_shave_7 : decode cX10_shave 7 = .ok (.iconst 1, 1) := by decide +kernel
theorem dX10_shave_8 : decode cX10_shave 8 = .ok (.bipush 9, 2) := by decide +kernel
theorem dX10_shave_10 : decode cX10_shave 10 = .ok (.invokevirtual 177, 3) := by decide +kernel
theorem dX10_shave_13 : decode cX10_shave 13 = .ok (.ifCond .eq 13, 3) := by decide +kernel
theorem dX10_shave_16 : decode cX10_shave 16 = .ok (.aload_n 0, 1) := by decide +kernel
theorem dX10_shave_17 : decode cX10_shave 17 = .ok (.iload_n 1, 1) := by decide +kernel
theorem dX10_shave_18 : decode cX10_shave 18 = .ok (.iload_n 2, 1) := by decide +kernel
theorem dX10_shave_19 : decode cX10_shave 19 = .ok (.iload_n 3, 1) := by decide +kernel
theorem dX10_shave_20 : decode cX10_shave 20 = .ok (.invokevirtual 341, 3) := by decide +kernel
theorem dX10_shave_23 : decode cX10_shave 23 = .ok (.ifCond .ne 5, 3) := by decide +kernel
theorem dX10_shave_26 : decode cX10_shave 26 = .ok (.iconst (-1), 1) := by decide +kernel
theorem dX10_shave_27 : decode cX10_shave 27 = .ok (.ireturn, 1) := by decide +kernel
theorem dX10_shave_28 : decode cX10_shave 28 = .ok (.aload_n 0, 1) := by decide +kernel
theorem dX10_shave_29 : decode cX10_shave 29 = .ok (.iload_n 1, 1) := by decide +kernel
theorem dX10_shave_30 : decode cX10_shave 30 = .ok (.iload_n 2, 1) := by decide +kernel
theorem dX10_shave_31 : decode cX10_shave 31 = .ok (.iload_n 3, 1) := by decide +kernel
theorem dX10_shave_32 : decode cX10_shave 32 = .ok (.invokevirtual 344, 3) := by decide +kernel
theorem dX10_shave_35 : decode cX10_shave 35 = .ok (.aload_n 0, 1) := by decide +kernel
theorem dX10_shave_36 : decode cX10_shave 36 = .ok (.getfield 32, 3) := by decide +kernel
theorem dX10_shave_39 : decode cX10_shave 39 = .ok (.iload_n 1, 1) := by decide +kernel
theorem dX10_shave_40 : decode cX10_shave 40 = .ok (.iaload, 1) := by decide +kernel
theorem dX10_shave_41 : decode cX10_shave 41 = .ok (.ireturn, 1) := by decide +kernel
theorem dX10_pass_0 : decode cX10_pass 0 = .ok (.aload_n 0, 1) := by decide +kernel
theorem dX10_pass_1 : decode cX10_pass 1 = .ok (.iconst 0, 1) := by decide +kernel
theorem dX10_pass_2 : decode cX10_pass 2 = .ok (.putfield 167, 3) := by decide +kernel
theorem dX10_pass_5 : decode cX10_pass 5 = .ok (.aload_n 0, 1) := by decide +kernel
theorem dX10_pass_6 : decode cX10_pass 6 = .ok (.iload_n 1, 1) := by decide +kernel
theorem dX10_pass_7 : decode cX10_pass 7 = .ok (.invokevirtual 173, 3) := by decide +kernel
theorem dX10_pass_10 : decode cX10_pass 10 = .ok (.ifCond .eq 18, 3) := by decide +kernel
theorem dX10_pass_13 : decode cX10_pass 13 = .ok (.aload_n 0, 1) := by decide +kernel
theorem dX10_pass_14 : decode cX10_pass 14 = .ok (.iload_n 2, 1) := by decide +kernel
theorem dX10_pass_15 : decode cX10_pass 15 = .ok (.iconst 1, 1) := by decide +kernel
theorem dX10_pass_16 : decode cX10_pass 16 = .ok (.aload_n 0, 1) := by decide +kernel
theorem dX10_pass_17 : decode cX10_pass 17 = .ok (.getfield 32, 3) := by decide +kernel
theorem dX10_pass_20 : decode cX10_pass 20 = .ok (.iload_n 1, 1) := by decide +kernel
theorem dX10_pass_21 : decode cX10_pass 21 = .ok (.iaload, 1) := by decide +kernel
theorem dX10_pass_22 : decode cX10_pass 22 = .ok (.invokevirtual 177, 3) := by decide +kernel
theorem dX10_pass_25 : decode cX10_pass 25 = .ok (.ifCond .ne 5, 3) := by decide +kernel
theorem dX10_pass_28 : decode cX10_pass 28 = .ok (.iconst (-1), 1) := by decide +kernel
theorem dX10_pass_29 : decode cX10_pass 29 = .ok (.ireturn, 1) := by decide +kernel
theorem dX10_pass_30 : decode cX10_pass 30 = .ok (.iload_n 3, 1) := by decide +kernel
theorem dX10_pass_31 : decode cX10_pass 31 = .ok (.ifCond .ne 20, 3) := by decide +kernel
theorem dX10_pass_34 : decode cX10_pass 34 = .ok (.aload_n 0, 1) := by decide +kernel
theorem dX10_pass_35 : decode cX10_pass 35 = .ok (.getfield 35, 3) := by decide +kernel
theorem dX10_pass_38 : decode cX10_pass 38 = .ok (.sipush 200, 3) := by decide +kernel
theorem dX10_pass_41 : decode cX10_pass 41 = .ok (.iload_n 1, 1) := by decide +kernel
theorem dX10_pass_42 : decode cX10_pass 42 = .ok (.imul, 1) := by decide +kernel
theorem dX10_pass_43 : decode cX10_pass 43 = .ok (.iload_n 2, 1) := by decide +kernel
theorem dX10_pass_44 : decode cX10_pass 44 = .ok (.iadd, 1) := by decide +kernel
theorem dX10_pass_45 : decode cX10_pass 45 = .ok (.iconst 1, 1) := by decide +kernel
theorem dX10_pass_46 : decode cX10_pass 46 = .ok (.isub, 1) := by decide +kernel
theorem dX10_pass_47 : decode cX10_pass 47 = .ok (.iaload, 1) := by decide +kernel
theorem dX10_pass_48 : decode cX10_pass 48 = .ok (.goto 26, 3) := by decide +kernel
theorem dX10_pass_51 : decode cX10_pass 51 = .ok (.iload_n 3, 1) := by decide +kernel
theorem dX10_pass_52 : decode cX10_pass 52 = .ok (.iconst 1, 1) := by decide +kernel
theorem dX10_pass_53 : decode cX10_pass 53 = .ok (.if_icmp .ne 20, 3) := by decide +kernel
theorem dX10_pass_56 : decode cX10_pass 56 = .ok (.aload_n 0, 1) := by decide +kernel
theorem dX10_pass_57 : decode cX10_pass 57 = .ok (.getfield 38, 3) := by decide +kernel
theorem dX10_pass_60 : decode cX10_pass 60 = .ok (.sipush 200, 3) := by decide +kernel
theorem dX10_pass_63 : decode cX10_pass 63 = .ok (.iload_n 1, 1) := by decide +kernel
theorem dX10_pass_64 : decode cX10_pass 64 = .ok (.imul, 1) := by decide +kernel
theorem dX10_pass_65 : decode cX10_pass 65 = .ok (.iload_n 2, 1) := by decide +kernel
theorem dX10_pass_66 : decode cX10_pass 66 = .ok (.iadd, 1) := by decide +kernel
theorem dX10_pass_67 : decode cX10_pass 67 = .ok (.iconst 1, 1) := by decide +kernel
theorem dX10_pass_68 : decode cX10_pass 68 = .ok (.isub, 1) := by decide +kernel
theorem dX10_pass_69 : decode cX10_pass 69 = .ok (.iaload, 1) := by decide +kernel
theorem dX10_pass_70 : decode cX10_pass 70 = .ok (.goto 4, 3) := by decide +kernel
theorem dX10_pass_73 : decode cX10_pass 73 = .ok (.iconst (-1), 1) := by decide +kernel
theorem dX10_pass_74 : decode cX10_pass 74 = .ok (.ireturn, 1) := by decide +kernel
theorem dX10_goal_0 : decode cX10_goal 0 = .ok (.aload_n 0, 1) := by decide +kernel
theorem dX10_goal_1 : decode cX10_goal 1 = .ok (.iconst 0, 1) := by decide +kernel
theorem dX10_goal_2 : decode cX10_goal 2 = .ok (.putfield 167, 3) := by decide +kernel
theorem dX10_goal_5 : decode cX10_goal 5 = .ok (.aload_n 0, 1) := by decide +kernel
theorem dX10_goal_6 : decode cX10_goal 6 = .ok (.iload_n 1, 1) := by decide +kernel
theorem dX10_goal_7 : decode cX10_goal 7 = .ok (.invokevirtual 173, 3) := by decide +kernel
theorem dX10_goal_10 : decode cX10_goal 10 = .ok (.ifCond .eq 23, 3) := by decide +kernel
theorem dX10_goal_13 : decode cX10_goal 13 = .ok (.aload_n 0, 1) := by decide +kernel
theorem dX10_goal_14 : decode cX10_goal 14 = .ok (.iload_n 2, 1) := by decide +kernel
theorem dX10_goal_15 : decode cX10_goal 15 = .ok (.invokevirtual 331, 3) := by decide +kernel
theorem dX10_goal_18 : decode cX10_goal 18 = .ok (.ifCond .eq 15, 3) := by decide +kernel
theorem dX10_goal_21 : decode cX10_goal 21 = .ok (.aload_n 0, 1) := by decide +kernel
theorem dX10_goal_22 : decode cX10_goal 22 = .ok (.iload_n 3, 1) := by decide +kernel
theorem dX10_goal_23 : decode cX10_goal 23 = .ok (.iconst 0, 1) := by decide +kernel
theorem dX10_goal_24 : decode cX10_goal 24 = .ok (.ldc_w 348, 3) := by decide +kernel
theorem dX10_goal_27 : decode cX10_goal 27 = .ok (.invokevirtual 177, 3) := by decide +kernel
theorem dX10_goal_30 : decode cX10_goal 30 = .ok (.ifCond .ne 5, 3) := by decide +kernel
theorem dX10_goal_33 : decode cX10_goal 33 = .ok (.iconst 0, 1) := by decide +kernel
theorem dX10_goal_34 : decode cX10_goal 34 = .ok (.ireturn, 1) := by decide +kernel
theorem dX10_goal_35 : decode cX10_goal 35 = .ok (.aload_n 0, 1) := by decide +kernel
theorem dX10_goal_36 : decode cX10_goal 36 = .ok (.getfield 29, 3) := by decide +kernel
theorem dX10_goal_39 : decode cX10_goal 39 = .ok (.iconst 3, 1) := by decide +kernel
theorem dX10_goal_40 : decode cX10_goal 40 = .ok (.iload_n 1, 1) := by decide +kernel
theorem dX10_goal_41 : decode cX10_goal 41 = .ok (.imul, 1) := by decide +kernel
theorem dX10_goal_42 : decode cX10_goal 42 = .ok (.iload_n 2, 1) := by decide +kernel
theorem dX10_goal_43 : decode cX10_goal 43 = .ok (.iadd, 1) := by decide +kernel
theorem dX10_goal_44 : decode cX10_goal 44 = .ok (.iload_n 3, 1) := by decide +kernel
theorem dX10_goal_45 : decode cX10_goal 45 = .ok (.iastore, 1) := by decide +kernel
theorem dX10_goal_46 : decode cX10_goal 46 = .ok (.iconst 1, 1) := by decide +kernel
theorem dX10_goal_47 : decode cX10_goal 47 = .ok (.ireturn, 1) := by decide +kernel
theorem dX10_slack_0 : decode cX10_slack 0 = .ok (.aload_n 0, 1) := by decide +kernel
theorem dX10_slack_1 : decode cX10_slack 1 = .ok (.iconst 0, 1) := by decide +kernel
theorem dX10_slack_2 : decode cX10_slack 2 = .ok (.putfield 167, 3) := by decide +kernel
theorem dX10_slack_5 : decode cX10_slack 5 = .ok (.aload_n 0, 1) := by decide +kernel
theorem dX10_slack_6 : decode cX10_slack 6 = .ok (.iload_n 1, 1) := by decide +kernel
theorem dX10_slack_7 : decode cX10_slack 7 = .ok (.iconst 0, 1) := by decide +kernel
theorem dX10_slack_8 : decode cX10_slack 8 = .ok (.sipush 9999, 3) := by decide +kernel
theorem dX10_slack_11 : decode cX10_slack 11 = .ok (.invokevirtual 177, 3) := by decide +kernel
theorem dX10_slack_14 : decode cX10_slack 14 = .ok (.ifCond .ne 5, 3) := by decide +kernel
theorem dX10_slack_17 : decode cX10_slack 17 = .ok (.iconst 0, 1) := by decide +kernel
theorem dX10_slack_18 : decode cX10_slack 18 = .ok (.ireturn, 1) := by decide +kernel
theorem dX10_slack_19 : decode cX10_slack 19 = .ok (.aload_n 0, 1) := by decide +kernel
theorem dX10_slack_20 : decode cX10_slack 20 = .ok (.iload_n 1, 1) := by decide +kernel
theorem dX10_slack_21 : decode cX10_slack 21 = .ok (.putfield 7, 3) := by decide +kernel
theorem dX10_slack_24 : decode cX10_slack 24 = .ok (.iconst 1, 1) := by decide +kernel
theorem dX10_slack_25 : decode cX10_slack 25 = .ok (.ireturn, 1) := by decide +kernel
theorem dX10_takes_0 : decode cX10_takes 0 = .ok (.aload_n 0, 1) := by decide +kernel
theorem dX10_takes_1 : decode cX10_takes 1 = .ok (.iconst 0, 1) := by decide +kernel
theorem dX10_takes_2 : decode cX10_takes 2 = .ok (.putfield 167, 3) := by decide +kernel
theorem dX10_takes_5 : decode cX10_takes 5 = .ok (.aload_n 0, 1) := by decide +kernel
theorem dX10_takes_6 : decode cX10_takes 6 = .ok (.iload_n 1, 1) := by decide +kernel
theorem dX10_takes_7 : decode cX10_takes 7 = .ok (.iload_n 2, 1) := by decide +kernel
theorem dX10_takes_8 : decode cX10_takes 8 = .ok (.invokevirtual 181, 3) := by decide +kernel
theorem dX10_takes_11 : decode cX10_takes 11 = .ok (.ifCond .eq 26, 3) := by decide +kernel
theorem dX10_takes_14 : decode cX10_takes 14 = .ok (.aload_n 0, 1) := by decide +kernel
theorem dX10_takes_15 : decode cX10_takes 15 = .ok (.iload_n 3, 1) := by decide +kernel
theorem dX10_takes_16 : decode cX10_takes 16 = .ok (.invokevirtual 331, 3) := by decide +kernel
theorem dX10_takes_19 : decode cX10_takes 19 = .ok (.ifCond .eq 18, 3) := by decide +kernel
theorem dX10_takes_22 : decode cX10_takes 22 = .ok (.aload_n 0, 1) := by decide +kernel
theorem dX10_takes_23 : decode cX10_takes 23 = .ok (.getfield 17, 3) := by decide +kernel
theorem dX10_takes_26 : decode cX10_takes 26 = .ok (.bipush 16, 2) := by decide +kernel
theorem dX10_takes_28 : decode cX10_takes 28 = .ok (.iload_n 1, 1) := by decide +kernel
theorem dX10_takes_29 : decode cX10_takes 29 = .ok (.imul, 1) := by decide +kernel
theorem dX10_takes_30 : decode cX10_takes 30 = .ok (.iload_n 2, 1) := by decide +kernel
theorem dX10_takes_31 : decode cX10_takes 31 = .ok (.iadd, 1) := by decide +kernel
theorem dX10_takes_32 : decode cX10_takes 32 = .ok (.iaload, 1) := by decide +kernel
theorem dX10_takes_33 : decode cX10_takes 33 = .ok (.iconst 1, 1) := by decide +kernel
theorem dX10_takes_34 : decode cX10_takes 34 = .ok (.if_icmp .ne 7, 3) := by decide +kernel
theorem dX10_takes_37 : decode cX10_takes 37 = .ok (.ldc_w 349, 3) := by decide +kernel
theorem dX10_takes_40 : decode cX10_takes 40 = .ok (.ireturn, 1) := by decide +kernel
theorem dX10_takes_41 : decode cX10_takes 41 = .ok (.aload_n 0, 1) := by decide +kernel
theorem dX10_takes_42 : decode cX10_takes 42 = .ok (.iload_n 1, 1) := by decide +kernel
theorem dX10_takes_43 : decode cX10_takes 43 = .ok (.iload_n 3, 1) := by decide +kernel
theorem dX10_takes_44 : decode cX10_takes 44 = .ok (.invokevirtual 335, 3) := by decide +kernel
theorem dX10_takes_47 : decode cX10_takes 47 = .ok (.istore 4, 2) := by decide +kernel
theorem dX10_takes_49 : decode cX10_takes 49 = .ok (.aload_n 0, 1) := by decide +kernel
theorem dX10_takes_50 : decode cX10_takes 50 = .ok (.getfield 17, 3) := by decide +kernel
theorem dX10_takes_53 : decode cX10_takes 53 = .ok (.bipush 16, 2) := by decide +kernel
theorem dX10_takes_55 : decode cX10_takes 55 = .ok (.iload_n 1, 1) := by decide +kernel
theorem dX10_takes_56 : decode cX10_takes 56 = .ok (.imul, 1) := by decide +kernel
theorem dX10_takes_57 : decode cX10_takes 57 = .ok (.iload_n 2, 1) := by decide +kernel
theorem dX10_takes_58 : decode cX10_takes 58 = .ok (.iadd, 1) := by decide +kernel
theorem dX10_takes_59 : decode cX10_takes 59 = .ok (.aload_n 0, 1) := by decide +kernel
theorem dX10_takes_60 : decode cX10_takes 60 = .ok (.getfield 17, 3) := by decide +kernel
theorem dX10_takes_63 : decode cX10_takes 63 = .ok (.bipush 16, 2) := by decide +kernel
theorem dX10_takes_65 : decode cX10_takes 65 = .ok (.iload_n 1, 1) := by decide +kernel
theorem dX10_takes_66 : decode cX10_takes 66 = .ok (.imul, 1) := by decide +kernel
theorem dX10_takes_67 : decode cX10_takes 67 = .ok (.iload_n 2, 1) := by decide +kernel
theorem dX10_takes_68 : decode cX10_takes 68 = .ok (.iadd, 1) := by decide +kernel
theorem dX10_takes_69 : decode cX10_takes 69 = .ok (.iaload, 1) := by decide +kernel
theorem dX10_takes_70 : decode cX10_takes 70 = .ok (.iconst 1, 1) := by decide +kernel
theorem dX10_takes_71 : decode cX10_takes 71 = .ok (.isub, 1) := by decide +kernel
theorem dX10_takes_72 : decode cX10_takes 72 = .ok (.iastore, 1) := by decide +kernel
theorem dX10_takes_73 : decode cX10_takes 73 = .ok (.aload_n 0, 1) := by decide +kernel
theorem dX10_takes_74 : decode cX10_takes 74 = .ok (.iload_n 1, 1) := by decide +kernel
theorem dX10_takes_75 : decode cX10_takes 75 = .ok (.iload_n 3, 1) := by decide +kernel
theorem dX10_takes_76 : decode cX10_takes 76 = .ok (.invokevirtual 335, 3) := by decide +kernel
theorem dX10_takes_79 : decode cX10_takes 79 = .ok (.istore 5, 2) := by decide +kernel
theorem dX10_takes_81 : decode cX10_takes 81 = .ok (.aload_n 0, 1) := by decide +kernel
theorem dX10_takes_82 : decode cX10_takes 82 = .ok (.getfield 17, 3) := by decide +kernel
theorem dX10_takes_85 : decode cX10_takes 85 = .ok (.bipush 16, 2) := by decide +kernel
theorem dX10_takes_87 : decode cX10_takes 87 = .ok (.iload_n 1, 1) := by decide +kernel
theorem dX10_takes_88 : decode cX10_takes 88 = .ok (.imul, 1) := by decide +kernel
theorem dX10_takes_89 : decode cX10_takes 89 = .ok (.iload_n 2, 1) := by decide +kernel
theorem dX10_takes_90 : decode cX10_takes 90 = .ok (.iadd, 1) := by decide +kernel
theorem dX10_takes_91 : decode cX10_takes 91 = .ok (.aload_n 0, 1) := by decide +kernel
theorem dX10_takes_92 : decode cX10_takes 92 = .ok (.getfield 17, 3) := by decide +kernel
theorem dX10_takes_95 : decode cX10_takes 95 = .ok (.bipush 16, 2) := by decide +kernel
theorem dX10_takes_97 : decode cX10_takes 97 = .ok (.iload_n 1, 1) := by decide +kernel
theorem dX10_takes_98 : decode cX10_takes 98 = .ok (.imul, 1) := by decide +kernel
theorem dX10_takes_99 : decode cX10_takes 99 = .ok (.iload_n 2, 1) := by decide +kernel
theorem dX10_takes_100 : decode cX10_takes 100 = .ok (.iadd, 1) := by decide +kernel
theorem dX10_takes_101 : decode cX10_takes 101 = .ok (.iaload, 1) := by decide +kernel
theorem dX10_takes_102 : decode cX10_takes 102 = .ok (.iconst 1, 1) := by decide +kernel
theorem dX10_takes_103 : decode cX10_takes 103 = .ok (.iadd, 1) := by decide +kernel
theorem dX10_takes_104 : decode cX10_takes 104 = .ok (.iastore, 1) := by decide +kernel
theorem dX10_takes_105 : decode cX10_takes 105 = .ok (.iload 4, 2) := by decide +kernel
theorem dX10_takes_107 : decode cX10_takes 107 = .ok (.iload 5, 2) := by decide +kernel
theorem dX10_takes_109 : decode cX10_takes 109 = .ok (.isub, 1) := by decide +kernel
theorem dX10_takes_110 : decode cX10_takes 110 = .ok (.ireturn, 1) := by decide +kernel
theorem dX10_asksJob_0 : decode cX10_asksJob 0 = .ok (.aload_n 0, 1) := by decide +kernel
theorem dX10_asksJob_1 : decode cX10_asksJob 1 = .ok (.iload_n 1, 1) := by decide +kernel
theorem dX10_asksJob_2 : decode cX10_asksJob 2 = .ok (.iconst 0, 1) := by decide +kernel
theorem dX10_asksJob_3 : decode cX10_asksJob 3 = .ok (.invokevirtual 335, 3) := by decide +kernel
theorem dX10_asksJob_6 : decode cX10_asksJob 6 = .ok (.istore_n 2, 1) := by decide +kernel
theorem dX10_asksJob_7 : decode cX10_asksJob 7 = .ok (.aload_n 0, 1) := by decide +kernel
theorem dX10_asksJob_8 : decode cX10_asksJob 8 = .ok (.iload_n 1, 1) := by decide +kernel
theorem dX10_asksJob_9 : decode cX10_asksJob 9 = .ok (.iconst 1, 1) := by decide +kernel
theorem dX10_asksJob_10 : decode cX10_asksJob 10 = .ok (.invokevirtual 335, 3) := by decide +kernel
theorem dX10_asksJob_13 : decode cX10_asksJob 13 = .ok (.istore_n 3, 1) := by decide +kernel
theorem dX10_asksJob_14 : decode cX10_asksJob 14 = .ok (.aload_n 0, 1) := by decide +kernel
theorem dX10_asksJob_15 : decode cX10_asksJob 15 = .ok (.iload_n 1, 1) := by decide +kernel
theorem dX10_asksJob_16 : decode cX10_asksJob 16 = .ok (.iconst 2, 1) := by decide +kernel
theorem dX10_asksJob_17 : decode cX10_asksJob 17 = .ok (.invokevirtual 335, 3) := by decide +kernel
theorem dX10_asksJob_20 : decode cX10_asksJob 20 = .ok (.istore 4, 2) := by decide +kernel
theorem dX10_asksJob_22 : decode cX10_asksJob 22 = .ok (.iconst 0, 1) := by decide +kernel
theorem dX10_asksJob_23 : decode cX10_asksJob 23 = .ok (.istore 5, 2) := by decide +kernel
theorem dX10_asksJob_25 : decode cX10_asksJob 25 = .ok (.iload 5, 2) := by decide +kernel
theorem dX10_asksJob_27 : decode cX10_asksJob 27 = .ok (.bipush 14, 2) := by decide +kernel
theorem dX10_asksJob_29 : decode cX10_asksJob 29 = .ok (.if_icmp .ge 17, 3) := by decide +kernel
theorem dX10_asksJob_32 : decode cX10_asksJob 32 = .ok (.aload_n 0, 1) := by decide +kernel
theorem dX10_asksJob_33 : decode cX10_asksJob 33 = .ok (.getfield 95, 3) := by decide +kernel
theorem dX10_asksJob_36 : decode cX10_asksJob 36 = .ok (.iload 5, 2) := by decide +kernel
theorem dX10_asksJob_38 : decode cX10_asksJob 38 = .ok (.iconst 0, 1) := by decide +kernel
theorem dX10_asksJob_39 : decode cX10_asksJob 39 = .ok (.iastore, 1) := by decide +kernel
theorem dX10_asksJob_40 : decode cX10_asksJob 40 = .ok (.iinc 5 1, 3) := by decide +kernel
theorem dX10_asksJob_43 : decode cX10_asksJob 43 = .ok (.goto (-18), 3) := by decide +kernel
theorem dX10_asksJob_46 : decode cX10_asksJob 46 = .ok (.aload_n 0, 1) := by decide +kernel
theorem dX10_asksJob_47 : decode cX10_asksJob 47 = .ok (.getfield 95, 3) := by decide +kernel
theorem dX10_asksJob_50 : decode cX10_asksJob 50 = .ok (.bipush 10, 2) := by decide +kernel
theorem dX10_asksJob_52 : decode cX10_asksJob 52 = .ok (.iload_n 2, 1) := by decide +kernel
theorem dX10_asksJob_53 : decode cX10_asksJob 53 = .ok (.iastore, 1) := by decide +kernel
theorem dX10_asksJob_54 : decode cX10_asksJob 54 = .ok (.aload_n 0, 1) := by decide +kernel
theorem dX10_asksJob_55 : decode cX10_asksJob 55 = .ok (.getfield 95, 3) := by decide +kernel
theorem dX10_asksJob_58 : decode cX10_asksJob 58 = .ok (.bipush 11, 2) := by decide +kernel
theorem dX10_asksJob_60 : decode cX10_asksJob 60 = .ok (.iload_n 3, 1) := by decide +kernel
theorem dX10_asksJob_61 : decode cX10_asksJob 61 = .ok (.iastore, 1) := by decide +kernel
theorem dX10_asksJob_62 : decode cX10_asksJob 62 = .ok (.aload_n 0, 1) := by decide +kernel
theorem dX10_asksJob_63 : decode cX10_asksJob 63 = .ok (.getfield 95, 3) := by decide +kernel
theorem dX10_asksJob_66 : decode cX10_asksJob 66 = .ok (.bipush 12, 2) := by decide +kernel
theorem dX10_asksJob_68 : decode cX10_asksJob 68 = .ok (.iload 4, 2) := by decide +kernel
theorem dX10_asksJob_70 : decode cX10_asksJob 70 = .ok (.iastore, 1) := by decide +kernel
theorem dX10_asksJob_71 : decode cX10_asksJob 71 = .ok (.aload_n 0, 1) := by decide +kernel
theorem dX10_asksJob_72 : decode cX10_asksJob 72 = .ok (.getfield 95, 3) := by decide +kernel
theorem dX10_asksJob_75 : decode cX10_asksJob 75 = .ok (.bipush 13, 2) := by decide +kernel
theorem dX10_asksJob_77 : decode cX10_asksJob 77 = .ok (.aload_n 0, 1) := by decide +kernel
theorem dX10_asksJob_78 : decode cX10_asksJob 78 = .ok (.getfield 32, 3) := by decide +kernel
theorem dX10_asksJob_81 : decode cX10_asksJob 81 = .ok (.iload_n 1, 1) := by decide +kernel
theorem dX10_asksJob_82 : decode cX10_asksJob 82 = .ok (.iaload, 1) := by decide +kernel
theorem dX10_asksJob_83 : decode cX10_asksJob 83 = .ok (.iastore, 1) := by decide +kernel
theorem dX10_asksJob_84 : decode cX10_asksJob 84 = .ok (.return_, 1) := by decide +kernel
theorem dX10_doesLine_0 : decode cX10_doesLine 0 = .ok (.aload_n 0, 1) := by decide +kernel
theorem dX10_doesLine_1 : decode cX10_doesLine 1 = .ok (.getfield 65, 3) := by decide +kernel
theorem dX10_doesLine_4 : decode cX10_doesLine 4 = .ok (.iload_n 2, 1) := by decide +kernel
theorem dX10_doesLine_5 : decode cX10_doesLine 5 = .ok (.iaload, 1) := by decide +kernel
theorem dX10_doesLine_6 : decode cX10_doesLine 6 = .ok (.istore_n 3, 1) := by decide +kernel
theorem dX10_doesLine_7 : decode cX10_doesLine 7 = .ok (.aload_n 0, 1) := by decide +kernel
theorem dX10_doesLine_8 : decode cX10_doesLine 8 = .ok (.getfield 62, 3) := by decide +kernel
theorem dX10_doesLine_11 : decode cX10_doesLine 11 = .ok (.iload_n 2, 1) := by decide +kernel
theorem dX10_doesLine_12 : decode cX10_doesLine 12 = .ok (.iaload, 1) := by decide +kernel
theorem dX10_doesLine_13 : decode cX10_doesLine 13 = .ok (.iconst 4, 1) := by decide +kernel
theorem dX10_doesLine_14 : decode cX10_doesLine 14 = .ok (.if_icmp .ne 30, 3) := by decide +kernel
theorem dX10_doesLine_17 : decode cX10_doesLine 17 = .ok (.aload_n 0, 1) := by decide +kernel
theorem dX10_doesLine_18 : decode cX10_doesLine 18 = .ok (.iload_n 1, 1) := by decide +kernel
theorem dX10_doesLine_19 : decode cX10_doesLine 19 = .ok (.iload_n 3, 1) := by decide +kernel
theorem dX10_doesLine_20 : decode cX10_doesLine 20 = .ok (.aload_n 0, 1) := by decide +kernel
theorem dX10_doesLine_21 : decode cX10_doesLine 21 = .ok (.getfield 71, 3) := by decide +kernel
theorem dX10_doesLine_24 : decode cX10_doesLine 24 = .ok (.iload_n 2, 1) := by decide +kernel
theorem dX10_doesLine_25 : decode cX10_doesLine 25 = .ok (.iaload, 1) := by decide +kernel
theorem dX10_doesLine_26 : decode cX10_doesLine 26 = .ok (.invokevirtual 341, 3) := by decide +kernel
theorem dX10_doesLine_29 : decode cX10_doesLine 29 = .ok (.ifCond .eq 15, 3) := by decide +kernel
theorem dX10_doesLine_32 : decode cX10_doesLine 32 = .ok (.aload_n 0, 1) := by decide +kernel
theorem dX10_doesLine_33 : decode cX10_doesLine 33 = .ok (.iload_n 1, 1) := by decide +kernel
theorem dX10_doesLine_34 : decode cX10_doesLine 34 = .ok (.iload_n 3, 1) := by decide +kernel
theorem dX10_doesLine_35 : decode cX10_doesLine 35 = .ok (.aload_n 0, 1) := by decide +kernel
theorem dX10_doesLine_36 : decode cX10_doesLine 36 = .ok (.getfield 71, 3) := by decide +kernel
theorem dX10_doesLine_39 : decode cX10_doesLine 39 = .ok (.iload_n 2, 1) := by decide +kernel
theorem dX10_doesLine_40 : decode cX10_doesLine 40 = .ok (.iaload, 1) := by decide +kernel
theorem dX10_doesLine_41 : decode cX10_doesLine 41 = .ok (.invokevirtual 344, 3) := by decide +kernel
theorem dX10_doesLine_44 : decode cX10_doesLine 44 = .ok (.aload_n 0, 1) := by decide +kernel
theorem dX10_doesLine_45 : decode cX10_doesLine 45 = .ok (.getfield 62, 3) := by decide +kernel
theorem dX10_doesLine_48 : decode cX10_doesLine 48 = .ok (.iload_n 2, 1) := by decide +kernel
theorem dX10_doesLine_49 : decode cX10_doesLine 49 = .ok (.iaload, 1) := by decide +kernel
theorem dX10_doesLine_50 : decode cX10_doesLine 50 = .ok (.bipush 17, 2) := by decide +kernel
theorem dX10_doesLine_52 : decode cX10_doesLine 52 = .ok (.if_icmp .ne 29, 3) := by decide +kernel
theorem dX10_doesLine_55 : decode cX10_doesLine 55 = .ok (.aload_n 0, 1) := by decide +kernel
theorem dX10_doesLine_56 : decode cX10_doesLine 56 = .ok (.iload_n 1, 1) := by decide +kernel
theorem dX10_doesLine_57 : decode cX10_doesLine 57 = .ok (.iload_n 3, 1) := by decide +kernel
theorem dX10_doesLine_58 : decode cX10_doesLine 58 = .ok (.invokevirtual 181, 3) := by decide +kernel
theorem dX10_doesLine_61 : decode cX10_doesLine 61 = .ok (.ifCond .eq 20, 3) := by decide +kernel
theorem dX10_doesLine_64 : decode cX10_doesLine 64 = .ok (.aload_n 0, 1) := by decide +kernel
theorem dX10_doesLine_65 : decode cX10_doesLine 65 = .ok (.getfield 26, 3) := by decide +kernel
theorem dX10_doesLine_68 : decode cX10_doesLine 68 = .ok (.bipush 16, 2) := by decide +kernel
theorem dX10_doesLine_70 : decode cX10_doesLine 70 = .ok (.iload_n 1, 1) := by decide +kernel
theorem dX10_doesLine_71 : decode cX10_doesLine 71 = .ok (.imul, 1) := by decide +kernel
theorem dX10_doesLine_72 : decode cX10_doesLine 72 = .ok (.iload_n 3, 1) := by decide +kernel
theorem dX10_doesLine_73 : decode cX10_doesLine 73 = .ok (.iadd, 1) := by decide +kernel
theorem dX10_doesLine_74 : decode cX10_doesLine 74 = .ok (.aload_n 0, 1) := by decide +kernel
theorem dX10_doesLine_75 : decode cX10_doesLine 75 = .ok (.getfield 71, 3) := by decide +kernel
theorem dX10_doesLine_78 : decode cX10_doesLine 78 = .ok (.iload_n 2, 1) := by decide +kernel
theorem dX10_doesLine_79 : decode cX10_doesLine 79 = .ok (.iaload, 1) := by decide +kernel
theorem dX10_doesLine_80 : decode cX10_doesLine 80 = .ok (.iastore, 1) := by decide +kernel
theorem dX10_doesLine_81 : decode cX10_doesLine 81 = .ok (.aload_n 0, 1) := by decide +kernel
theorem dX10_doesLine_82 : decode cX10_doesLine 82 = .ok (.getfield 62, 3) := by decide +kernel
theorem dX10_doesLine_85 : decode cX10_doesLine 85 = .ok (.iload_n 2, 1) := by decide +kernel
theorem dX10_doesLine_86 : decode cX10_doesLine 86 = .ok (.iaload, 1) := by decide +kernel
theorem dX10_doesLine_87 : decode cX10_doesLine 87 = .ok (.iconst 5, 1) := by decide +kernel
theorem dX10_doesLine_88 : decode cX10_doesLine 88 = .ok (.if_icmp .eq 4, 3) := by decide +kernel
theorem dX10_doesLine_91 : decode cX10_doesLine 91 = .ok (.return_, 1) := by decide +kernel
theorem dX10_doesLine_92 : decode cX10_doesLine 92 = .ok (.iload_n 3, 1) := by decide +kernel
theorem dX10_doesLine_93 : decode cX10_doesLine 93 = .ok (.aload_n 0, 1) := by decide +kernel
theorem dX10_doesLine_94 : decode cX10_doesLine 94 = .ok (.getfield 68, 3) := by decide +kernel
theorem dX10_doesLine_97 : decode cX10_doesLine 97 = .ok (.iload_n 2, 1) := by decide +kernel
theorem dX10_doesLine_98 : decode cX10_doesLine 98 = .ok (.iaload, 1) := by decide +kernel
theorem dX10_doesLine_99 : decode cX10_doesLine 99 = .ok (.iadd, 1) := by decide +kernel
theorem dX10_doesLine_100 : decode cX10_doesLine 100 = .ok (.iconst 2, 1) := by decide +kernel
theorem dX10_doesLine_101 : decode cX10_doesLine 101 = .ok (.idiv, 1) := by decide +kernel
theorem dX10_doesLine_102 : decode cX10_doesLine 102 = .ok (.istore 4, 2) := by decide +kernel
theorem dX10_doesLine_104 : decode cX10_doesLine 104 = .ok (.iload_n 3, 1) := by decide +kernel
theorem dX10_doesLine_105 : decode cX10_doesLine 105 = .ok (.istore 5, 2) := by decide +kernel
theorem dX10_doesLine_107 : decode cX10_doesLine 107 = .ok (.iload 5, 2) := by decide +kernel
theorem dX10_doesLine_109 : decode cX10_doesLine 109 = .ok (.aload_n 0, 1) := by decide +kernel
theorem dX10_doesLine_110 : decode cX10_doesLine 110 = .ok (.getfield 68, 3) := by decide +kernel
theorem dX10_doesLine_113 : decode cX10_doesLine 113 = .ok (.iload_n 2, 1) := by decide +kernel
theorem dX10_doesLine_114 : decode cX10_doesLine 114 = .ok (.iaload, 1) := by decide +kernel
theorem dX10_doesLine_115 : decode cX10_doesLine 115 = .ok (.if_icmp .gt 53, 3) := by decide +kernel
theorem dX10_doesLine_118 : decode cX10_doesLine 118 = .ok (.aload_n 0, 1) := by decide +kernel
theorem dX10_doesLine_119 : decode cX10_doesLine 119 = .ok (.getfield 71, 3) := by decide +kernel
theorem dX10_doesLine_122 : decode cX10_doesLine 122 = .ok (.iload_n 2, 1) := by decide +kernel
theorem dX10_doesLine_123 : decode cX10_doesLine 123 = .ok (.iaload, 1) := by decide +kernel
theorem dX10_doesLine_124 : decode cX10_doesLine 124 = .ok (.aload_n 0, 1) := by decide +kernel
theorem dX10_doesLine_125 : decode cX10_doesLine 125 = .ok (.iload 5, 2) := by decide +kernel
theorem dX10_doesLine_127 : decode cX10_doesLine 127 = .ok (.iload 4, 2) := by decide +kernel
theorem dX10_doesLine_129 : decode cX10_doesLine 129 = .ok (.isub, 1) := by decide +kernel
theorem dX10_doesLine_130 : decode cX10_doesLine 130 = .ok (.invokevirtual 309, 3) := by decide +kernel
theorem dX10_doesLine_133 : decode cX10_doesLine 133 = .ok (.isub, 1) := by decide +kernel
theorem dX10_doesLine_134 : decode cX10_doesLine 134 = .ok (.istore 6, 2) := by decide +kernel
theorem dX10_doesLine_136 : decode cX10_doesLine 136 = .ok (.iload 6, 2) := by decide +kernel
theorem dX10_doesLine_138 : decode cX10_doesLine 138 = .ok (.ifCond .le 24, 3) := by decide +kernel
theorem dX10_doesLine_141 : decode cX10_doesLine 141 = .ok (.aload_n 0, 1) := by decide +kernel
theorem dX10_doesLine_142 : decode cX10_doesLine 142 = .ok (.iload_n 1, 1) := by decide +kernel
theorem dX10_doesLine_143 : decode cX10_doesLine 143 = .ok (.iload 5, 2) := by decide +kernel
theorem dX10_doesLine_145 : decode cX10_doesLine 145 = .ok (.iload 6, 2) := by decide +kernel
theorem dX10_doesLine_147 : decode cX10_doesLine 147 = .ok (.invokevirtual 341, 3) := by decide +kernel
theorem dX10_doesLine_150 : decode cX10_doesLine 150 = .ok (.ifCond .eq 12, 3) := by decide +kernel
theorem dX10_doesLine_153 : decode cX10_doesLine 153 = .ok (.aload_n 0, 1) := by decide +kernel
theorem dX10_doesLine_154 : decode cX10_doesLine 154 = .ok (.iload_n 1, 1) := by decide +kernel
theorem dX10_doesLine_155 : decode cX10_doesLine 155 = .ok (.iload 5, 2) := by decide +kernel
theorem dX10_doesLine_157 : decode cX10_doesLine 157 = .ok (.iload 6, 2) := by decide +kernel
theorem dX10_doesLine_159 : decode cX10_doesLine 159 = .ok (.invokevirtual 344, 3) := by decide +kernel
theorem dX10_doesLine_162 : decode cX10_doesLine 162 = .ok (.iinc 5 1, 3) := by decide +kernel
theorem dX10_doesLine_165 : decode cX10_doesLine 165 = .ok (.goto (-58), 3) := by decide +kernel
theorem dX10_doesLine_168 : decode cX10_doesLine 168 = .ok (.return_, 1) := by decide +kernel
theorem dX10_job_0 : decode cX10_job 0 = .ok (.aload_n 0, 1) := by decide +kernel
theorem dX10_job_1 : decode cX10_job 1 = .ok (.iconst 0, 1) := by decide +kernel
theorem dX10_job_2 : decode cX10_job 2 = .ok (.putfield 167, 3) := by decide +kernel
theorem dX10_job_5 : decode cX10_job 5 = .ok (.aload_n 0, 1) := by decide +kernel
theorem dX10_job_6 : decode cX10_job 6 = .ok (.iload_n 1, 1) := by decide +kernel
theorem dX10_job_7 : decode cX10_job 7 = .ok (.iconst 0, 1) := by decide +kernel
theorem dX10_job_8 : decode cX10_job 8 = .ok (.iconst 3, 1) := by decide +kernel
theorem dX10_job_9 : decode cX10_job 9 = .ok (.invokevirtual 177, 3) := by decide +kernel
theorem dX10_job_12 : decode cX10_job 12 = .ok (.ifCond .eq 11, 3) := by decide +kernel
theorem dX10_job_15 : decode cX10_job 15 = .ok (.aload_n 0, 1) := by decide +kernel
theorem dX10_job_16 : decode cX10_job 16 = .ok (.iload_n 2, 1) := by decide +kernel
theorem dX10_job_17 : decode cX10_job 17 = .ok (.invokevirtual 173, 3) := by decide +kernel
theorem dX10_job_20 : decode cX10_job 20 = .ok (.ifCond .ne 5, 3) := by decide +kernel
theorem dX10_job_23 : decode cX10_job 23 = .ok (.iconst (-1), 1) := by decide +kernel
theorem dX10_job_24 : decode cX10_job 24 = .ok (.ireturn, 1) := by decide +kernel
theorem dX10_job_25 : decode cX10_job 25 = .ok (.iconst 2, 1) := by decide +kernel
theorem dX10_job_26 : decode cX10_job 26 = .ok (.iload_n 1, 1) := by decide +kernel
theorem dX10_job_27 : decode cX10_job 27 = .ok (.iadd, 1) := by decide +kernel
theorem dX10_job_28 : decode cX10_job 28 = .ok (.istore_n 3, 1) := by decide +kernel
theorem dX10_job_29 : decode cX10_job 29 = .ok (.aload_n 0, 1) := by decide +kernel
theorem dX10_job_30 : decode cX10_job 30 = .ok (.getfield 32, 3) := by decide +kernel
theorem dX10_job_33 : decode cX10_job 33 = .ok (.iload_n 2, 1) := by decide +kernel
theorem dX10_job_34 : decode cX10_job 34 = .ok (.iaload, 1) := by decide +kernel
theorem dX10_job_35 : decode cX10_job 35 = .ok (.istore 4, 2) := by decide +kernel
theorem dX10_job_37 : decode cX10_job 37 = .ok (.bipush 16, 2) := by decide +kernel
theorem dX10_job_39 : decode cX10_job 39 = .ok (.iload_n 3, 1) := by decide +kernel
theorem dX10_job_40 : decode cX10_job 40 = .ok (.imul, 1) := by decide +kernel
theorem dX10_job_41 : decode cX10_job 41 = .ok (.istore 5, 2) := by decide +kernel
theorem dX10_job_43 : decode cX10_job 43 = .ok (.iload 5, 2) := by decide +kernel
theorem dX10_job_45 : decode cX10_job 45 = .ok (.bipush 16, 2) := by decide +kernel
theorem dX10_job_47 : decode cX10_job 47 = .ok (.iload_n 3, 1) := by decide +kernel
theorem dX10_job_48 : decode cX10_job 48 = .ok (.imul, 1) := by decide +kernel
theorem dX10_job_49 : decode cX10_job 49 = .ok (.aload_n 0, 1) := by decide +kernel
theorem dX10_job_50 : decode cX10_job 50 = .ok (.getfield 59, 3) := by decide +kernel
theorem dX10_job_53 : decode cX10_job 53 = .ok (.iload_n 3, 1) := by decide +kernel
theorem dX10_job_54 : decode cX10_job 54 = .ok (.iaload, 1) := by decide +kernel
theorem dX10_job_55 : decode cX10_job 55 = .ok (.iadd, 1) := by decide +kernel
theorem dX10_job_56 : decode cX10_job 56 = .ok (.if_icmp .ge 31, 3) := by decide +kernel
theorem dX10_job_59 : decode cX10_job 59 = .ok (.aload_n 0, 1) := by decide +kernel
theorem dX10_job_60 : decode cX10_job 60 = .ok (.iload_n 2, 1) := by decide +kernel
theorem dX10_job_61 : decode cX10_job 61 = .ok (.invokevirtual 350, 3) := by decide +kernel
theorem dX10_job_64 : decode cX10_job 64 = .ok (.aload_n 0, 1) := by decide +kernel
theorem dX10_job_65 : decode cX10_job 65 = .ok (.iload_n 3, 1) := by decide +kernel
theorem dX10_job_66 : decode cX10_job 66 = .ok (.iload 5, 2) := by decide +kernel
theorem dX10_job_68 : decode cX10_job 68 = .ok (.invokevirtual 305, 3) := by decide +kernel
theorem dX10_job_71 : decode cX10_job 71 = .ok (.ifCond .eq 10, 3) := by decide +kernel
theorem dX10_job_74 : decode cX10_job 74 = .ok (.aload_n 0, 1) := by decide +kernel
theorem dX10_job_75 : decode cX10_job 75 = .ok (.iload_n 2, 1) := by decide +kernel
theorem dX10_job_76 : decode cX10_job 76 = .ok (.iload 5, 2) := by decide +kernel
theorem dX10_job_78 : decode cX10_job 78 = .ok (.invokevirtual 353, 3) := by decide +kernel
theorem dX10_job_81 : decode cX10_job 81 = .ok (.iinc 5 1, 3) := by decide +kernel
theorem dX10_job_84 : decode cX10_job 84 = .ok (.goto (-41), 3) := by decide +kernel
theorem dX10_job_87 : decode cX10_job 87 = .ok (.aload_n 0, 1) := by decide +kernel
theorem dX10_job_88 : decode cX10_job 88 = .ok (.getfield 32, 3) := by decide +kernel
theorem dX10_job_91 : decode cX10_job 91 = .ok (.iload_n 2, 1) := by decide +kernel
theorem dX10_job_92 : decode cX10_job 92 = .ok (.iaload, 1) := by decide +kernel
theorem dX10_job_93 : decode cX10_job 93 = .ok (.iload 4, 2) := by decide +kernel
theorem dX10_job_95 : decode cX10_job 95 = .ok (.isub, 1) := by decide +kernel
theorem dX10_job_96 : decode cX10_job 96 = .ok (.ireturn, 1) := by decide +kernel
theorem dX10_findsTable_0 : decode cX10_findsTable 0 = .ok (.iconst 0, 1) := by decide +kernel
theorem dX10_findsTable_1 : decode cX10_findsTable 1 = .ok (.istore_n 2, 1) := by decide +kernel
theorem dX10_findsTable_2 : decode cX10_findsTable 2 = .ok (.iload_n 2, 1) := by decide +kernel
theorem dX10_findsTable_3 : decode cX10_findsTable 3 = .ok (.aload_n 0, 1) := by decide +kernel
theorem dX10_findsTable_4 : decode cX10_findsTable 4 = .ok (.getfield 13, 3) := by decide +kernel
theorem dX10_findsTable_7 : decode cX10_findsTable 7 = .ok (.iload_n 1, 1) := by decide +kernel
theorem dX10_findsTable_8 : decode cX10_findsTable 8 = .ok (.iaload, 1) := by decide +kernel
theorem dX10_findsTable_9 : decode cX10_findsTable 9 = .ok (.if_icmp .ge 148, 3) := by decide +kernel
theorem dX10_findsTable_12 : decode cX10_findsTable 12 = .ok (.aload_n 0, 1) := by decide +kernel
theorem dX10_findsTable_13 : decode cX10_findsTable 13 = .ok (.getfield 17, 3) := by decide +kernel
theorem dX10_findsTable_16 : decode cX10_findsTable 16 = .ok (.bipush 16, 2) := by decide +kernel
theorem dX10_findsTable_18 : decode cX10_findsTable 18 = .ok (.iload_n 1, 1) := by decide +kernel
theorem dX10_findsTable_19 : decode cX10_findsTable 19 = .ok (.imul, 1) := by decide +kernel
theorem dX10_findsTable_20 : decode cX10_findsTable 20 = .ok (.iload_n 2, 1) := by decide +kernel
theorem dX10_findsTable_21 : decode cX10_findsTable 21 = .ok (.iadd, 1) := by decide +kernel
theorem dX10_findsTable_22 : decode cX10_findsTable 22 = .ok (.iaload, 1) := by decide +kernel
theorem dX10_findsTable_23 : decode cX10_findsTable 23 = .ok (.istore_n 3, 1) := by decide +kernel
theorem dX10_findsTable_24 : decode cX10_findsTable 24 = .ok (.iconst 0, 1) := by decide +kernel
theorem dX10_findsTable_25 : decode cX10_findsTable 25 = .ok (.istore 4, 2) := by decide +kernel
theorem dX10_findsTable_27 : decode cX10_findsTable 27 = .ok (.iload 4, 2) := by decide +kernel
theorem dX10_findsTable_29 : decode cX10_findsTable 29 = .ok (.iconst 5, 1) := by decide +kernel
theorem dX10_findsTable_30 : decode cX10_findsTable 30 = .ok (.if_icmp .gt 109, 3) := by decide +kernel
theorem dX10_findsTable_33 : decode cX10_findsTable 33 = .ok (.iload_n 3, 1) := by decide +kernel
theorem dX10_findsTable_34 : decode cX10_findsTable 34 = .ok (.iload 4, 2) := by decide +kernel
theorem dX10_findsTable_36 : decode cX10_findsTable 36 = .ok (.if_icmp .le 103, 3) := by decide +kernel
theorem dX10_findsTable_39 : decode cX10_findsTable 39 = .ok (.aload_n 0, 1) := by decide +kernel
theorem dX10_findsTable_40 : decode cX10_findsTable 40 = .ok (.getfield 17, 3) := by decide +kernel
theorem dX10_findsTable_43 : decode cX10_findsTable 43 = .ok (.bipush 16, 2) := by decide +kernel
theorem dX10_findsTable_45 : decode cX10_findsTable 45 = .ok (.iload_n 1, 1) := by decide +kernel
theorem dX10_findsTable_46 : decode cX10_findsTable 46 = .ok (.imul, 1) := by decide +kernel
theorem dX10_findsTable_47 : decode cX10_findsTable 47 = .ok (.iload_n 2, 1) := by decide +kernel
theorem dX10_findsTable_48 : decode cX10_findsTable 48 = .ok (.iadd, 1) := by decide +kernel
theorem dX10_findsTable_49 : decode cX10_findsTable 49 = .ok (.iload_n 3, 1) := by decide +kernel
theorem dX10_findsTable_50 : decode cX10_findsTable 50 = .ok (.iload 4, 2) := by decide +kernel
theorem dX10_findsTable_52 : decode cX10_findsTable 52 = .ok (.isub, 1) := by decide +kernel
theorem dX10_findsTable_53 : decode cX10_findsTable 53 = .ok (.iastore, 1) := by decide +kernel
theorem dX10_findsTable_54 : decode cX10_findsTable 54 = .ok (.aload_n 0, 1) := by decide +kernel
theorem dX10_findsTable_55 : decode cX10_findsTable 55 = .ok (.iload_n 1, 1) := by decide +kernel
theorem dX10_findsTable_56 : decode cX10_findsTable 56 = .ok (.iload_n 2, 1) := by decide +kernel
theorem dX10_findsTable_57 : decode cX10_findsTable 57 = .ok (.invokevirtual 316, 3) := by decide +kernel
theorem dX10_findsTable_60 : decode cX10_findsTable 60 = .ok (.iconst 0, 1) := by decide +kernel
theorem dX10_findsTable_61 : decode cX10_findsTable 61 = .ok (.istore 5, 2) := by decide +kernel
theorem dX10_findsTable_63 : decode cX10_findsTable 63 = .ok (.iload 5, 2) := by decide +kernel
theorem dX10_findsTable_65 : decode cX10_findsTable 65 = .ok (.iconst 3, 1) := by decide +kernel
theorem dX10_findsTable_66 : decode cX10_findsTable 66 = .ok (.if_icmp .ge 67, 3) := by decide +kernel
theorem dX10_findsTable_69 : decode cX10_findsTable 69 = .ok (.aload_n 0, 1) := by decide +kernel
theorem dX10_findsTable_70 : decode cX10_findsTable 70 = .ok (.getfield 107, 3) := by decide +kernel
theorem dX10_findsTable_73 : decode cX10_findsTable 73 = .ok (.bipush 48, 2) := by decide +kernel
theorem dX10_findsTable_75 : decode cX10_findsTable 75 = .ok (.iload 5, 2) := by decide +kernel
theorem dX10_findsTable_77 : decode cX10_findsTable 77 = .ok (.imul, 1) := by decide +kernel
theorem dX10_findsTable_78 : decode cX10_findsTable 78 = .ok (.bipush 6, 2) := by decide +kernel
theorem dX10_findsTable_80 : decode cX10_findsTable 80 = .ok (.iload_n 2, 1) := by decide +kernel
theorem dX10_findsTable_81 : decode cX10_findsTable 81 = .ok (.imul, 1) := by decide +kernel
theorem dX10_findsTable_82 : decode cX10_findsTable 82 = .ok (.iadd, 1) := by decide +kernel
theorem dX10_findsTable_83 : decode cX10_findsTable 83 = .ok (.iload 4, 2) := by decide +kernel
theorem dX10_findsTable_85 : decode cX10_findsTable 85 = .ok (.iadd, 1) := by decide +kernel
theorem dX10_findsTable_86 : decode cX10_findsTable 86 = .ok (.aload_n 0, 1) := by decide +kernel
theorem dX10_findsTable_87 : decode cX10_findsTable 87 = .ok (.aload_n 0, 1) := by decide +kernel
theorem dX10_findsTable_88 : decode cX10_findsTable 88 = .ok (.getfield 322, 3) := by decide +kernel
theorem dX10_findsTable_91 : decode cX10_findsTable 91 = .ok (.iconst 0, 1) := by decide +kernel
theorem dX10_findsTable_92 : decode cX10_findsTable 92 = .ok (.iload 5, 2) := by decide +kernel
theorem dX10_findsTable_94 : decode cX10_findsTable 94 = .ok (.invokevirtual 319, 3) := by decide +kernel
theorem dX10_findsTable_97 : decode cX10_findsTable 97 = .ok (.iastore, 1) := by decide +kernel
theorem dX10_findsTable_98 : decode cX10_findsTable 98 = .ok (.aload_n 0, 1) := by decide +kernel
theorem dX10_findsTable_99 : decode cX10_findsTable 99 = .ok (.getfield 110, 3) := by decide +kernel
theorem dX10_findsTable_102 : decode cX10_findsTable 102 = .ok (.bipush 48, 2) := by decide +kernel
theorem dX10_findsTable_104 : decode cX10_findsTable 104 = .ok (.iload 5, 2) := by decide +kernel
theorem dX10_findsTable_106 : decode cX10_findsTable 106 = .ok (.imul, 1) := by decide +kernel
theorem dX10_findsTable_107 : decode cX10_findsTable 107 = .ok (.bipush 6, 2) := by decide +kernel
theorem dX10_findsTable_109 : decode cX10_findsTable 109 = .ok (.iload_n 2, 1) := by decide +kernel
theorem dX10_findsTable_110 : decode cX10_findsTable 110 = .ok (.imul, 1) := by decide +kernel
theorem dX10_findsTable_111 : decode cX10_findsTable 111 = .ok (.iadd, 1) := by decide +kernel
theorem dX10_findsTable_112 : decode cX10_findsTable 112 = .ok (.iload 4, 2) := by decide +kernel
theorem dX10_findsTable_114 : decode cX10_findsTable 114 = .ok (.iadd, 1) := by decide +kernel
theorem dX10_findsTable_115 : decode cX10_findsTable 115 = .ok (.aload_n 0, 1) := by decide +kernel
theorem dX10_findsTable_116 : decode cX10_findsTable 116 = .ok (.aload_n 0, 1) := by decide +kernel
theorem dX10_findsTable_117 : decode cX10_findsTable 117 = .ok (.getfield 322, 3) := by decide +kernel
theorem dX10_findsTable_120 : decode cX10_findsTable 120 = .ok (.iconst 1, 1) := by decide +kernel
theorem dX10_findsTable_121 : decode cX10_findsTable 121 = .ok (.iload 5, 2) := by decide +kernel
theorem dX10_findsTable_123 : decode cX10_findsTable 123 = .ok (.invokevirtual 319, 3) := by decide +kernel
theorem dX10_findsTable_126 : decode cX10_findsTable 126 = .ok (.iastore, 1) := by decide +kernel
theorem dX10_findsTable_127 : decode cX10_findsTable 127 = .ok (.iinc 5 1, 3) := by decide +kernel
theorem dX10_findsTable_130 : decode cX10_findsTable 130 = .ok (.goto (-67), 3) := by decide +kernel
theorem dX10_findsTable_133 : decode cX10_findsTable 133 = .ok (.iinc 4 1, 3) := by decide +kernel
theorem dX10_findsTable_136 : decode cX10_findsTable 136 = .ok (.goto (-109), 3) := by decide +kernel
theorem dX10_findsTable_139 : decode cX10_findsTable 139 = .ok (.aload_n 0, 1) := by decide +kernel
theorem dX10_findsTable_140 : decode cX10_findsTable 140 = .ok (.getfield 17, 3) := by decide +kernel
theorem dX10_findsTable_143 : decode cX10_findsTable 143 = .ok (.bipush 16, 2) := by decide +kernel
theorem dX10_findsTable_145 : decode cX10_findsTable 145 = .ok (.iload_n 1, 1) := by decide +kernel
theorem dX10_findsTable_146 : decode cX10_findsTable 146 = .ok (.imul, 1) := by decide +kernel
theorem dX10_findsTable_147 : decode cX10_findsTable 147 = .ok (.iload_n 2, 1) := by decide +kernel
theorem dX10_findsTable_148 : decode cX10_findsTable 148 = .ok (.iadd, 1) := by decide +kernel
theorem dX10_findsTable_149 : decode cX10_findsTable 149 = .ok (.iload_n 3, 1) := by decide +kernel
theorem dX10_findsTable_150 : decode cX10_findsTable 150 = .ok (.iastore, 1) := by decide +kernel
theorem dX10_findsTable_151 : decode cX10_findsTable 151 = .ok (.iinc 2 1, 3) := by decide +kernel
theorem dX10_findsTable_154 : decode cX10_findsTable 154 = .ok (.goto (-152), 3) := by decide +kernel
theorem dX10_findsTable_157 : decode cX10_findsTable 157 = .ok (.return_, 1) := by decide +kernel
theorem dX10_toneByTable_0 : decode cX10_toneByTable 0 = .ok (.iconst 0, 1) := by decide +kernel
theorem dX10_toneByTable_1 : decode cX10_toneByTable 1 = .ok (.istore_n 3, 1) := by decide +kernel
theorem dX10_toneByTable_2 : decode cX10_toneByTable 2 = .ok (.iconst 0, 1) := by decide +kernel
theorem dX10_toneByTable_3 : decode cX10_toneByTable 3 = .ok (.istore 4, 2) := by decide +kernel
theorem dX10_toneByTable_5 : decode cX10_toneByTable 5 = .ok (.iconst 0, 1) := by decide +kernel
theorem dX10_toneByTable_6 : decode cX10_toneByTable 6 = .ok (.istore 5, 2) := by decide +kernel
theorem dX10_toneByTable_8 : decode cX10_toneByTable 8 = .ok (.iload 5, 2) := by decide +kernel
theorem dX10_toneByTable_10 : decode cX10_toneByTable 10 = .ok (.aload_n 0, 1) := by decide +kernel
theorem dX10_toneByTable_11 : decode cX10_toneByTable 11 = .ok (.getfield 13, 3) := by decide +kernel
theorem dX10_toneByTable_14 : decode cX10_toneByTable 14 = .ok (.iload_n 1, 1) := by decide +kernel
theorem dX10_toneByTable_15 : decode cX10_toneByTable 15 = .ok (.iaload, 1) := by decide +kernel
theorem dX10_toneByTable_16 : decode cX10_toneByTable 16 = .ok (.if_icmp .ge 63, 3) := by decide +kernel
theorem dX10_toneByTable_19 : decode cX10_toneByTable 19 = .ok (.iload_n 3, 1) := by decide +kernel
theorem dX10_toneByTable_20 : decode cX10_toneByTable 20 = .ok (.aload_n 0, 1) := by decide +kernel
theorem dX10_toneByTable_21 : decode cX10_toneByTable 21 = .ok (.getfield 107, 3) := by decide +kernel
theorem dX10_toneByTable_24 : decode cX10_toneByTable 24 = .ok (.bipush 48, 2) := by decide +kernel
theorem dX10_toneByTable_26 : decode cX10_toneByTable 26 = .ok (.iload_n 2, 1) := by decide +kernel
theorem dX10_toneByTable_27 : decode cX10_toneByTable 27 = .ok (.imul, 1) := by decide +kernel
theorem dX10_toneByTable_28 : decode cX10_toneByTable 28 = .ok (.bipush 6, 2) := by decide +kernel
theorem dX10_toneByTable_30 : decode cX10_toneByTable 30 = .ok (.iload 5, 2) := by decide +kernel
theorem dX10_toneByTable_32 : decode cX10_toneByTable 32 = .ok (.imul, 1) := by decide +kernel
theorem dX10_toneByTable_33 : decode cX10_toneByTable 33 = .ok (.iadd, 1) := by decide +kernel
theorem dX10_toneByTable_34 : decode cX10_toneByTable 34 = .ok (.aload_n 0, 1) := by decide +kernel
theorem dX10_toneByTable_35 : decode cX10_toneByTable 35 = .ok (.getfield 113, 3) := by decide +kernel
theorem dX10_toneByTable_38 : decode cX10_toneByTable 38 = .ok (.iload 5, 2) := by decide +kernel
theorem dX10_toneByTable_40 : decode cX10_toneByTable 40 = .ok (.iaload, 1) := by decide +kernel
theorem dX10_toneByTable_41 : decode cX10_toneByTable 41 = .ok (.iadd, 1) := by decide +kernel
theorem dX10_toneByTable_42 : decode cX10_toneByTable 42 = .ok (.iaload, 1) := by decide +kernel
theorem dX10_toneByTable_43 : decode cX10_toneByTable 43 = .ok (.iadd, 1) := by decide +kernel
theorem dX10_toneByTable_44 : decode cX10_toneByTable 44 = .ok (.istore_n 3, 1) := by decide +kernel
theorem dX10_toneByTable_45 : decode cX10_toneByTable 45 = .ok (.iload 4, 2) := by decide +kernel
theorem dX10_toneByTable_47 : decode cX10_toneByTable 47 = .ok (.aload_n 0, 1) := by decide +kernel
theorem dX10_toneByTable_48 : decode cX10_toneByTable 48 = .ok (.getfield 110, 3) := by decide +kernel
theorem dX10_toneByTable_51 : decode cX10_toneByTable 51 = .ok (.bipush 48, 2) := by decide +kernel
theorem dX10_toneByTable_53 : decode cX10_toneByTable 53 = .ok (.iload_n 2, 1) := by decide +kernel
theorem dX10_toneByTable_54 : decode cX10_toneByTable 54 = .ok (.imul, 1) := by decide +kernel
theorem dX10_toneByTable_55 : decode cX10_toneByTable 55 = .ok (.bipush 6, 2) := by decide +kernel
theorem dX10_toneByTable_57 : decode cX10_toneByTable 57 = .ok (.iload 5, 2) := by decide +kernel
theorem dX10_toneByTable_59 : decode cX10_toneByTable 59 = .ok (.imul, 1) := by decide +kernel
theorem dX10_toneByTable_60 : decode cX10_toneByTable 60 = .ok (.iadd, 1) := by decide +kernel
theorem dX10_toneByTable_61 : decode cX10_toneByTable 61 = .ok (.aload_n 0, 1) := by decide +kernel
theorem dX10_toneByTable_62 : decode cX10_toneByTable 62 = .ok (.getfield 113, 3) := by decide +kernel
theorem dX10_toneByTable_65 : decode cX10_toneByTable 65 = .ok (.iload 5, 2) := by decide +kernel
theorem dX10_toneByTable_67 : decode cX10_toneByTable 67 = .ok (.iaload, 1) := by decide +kernel
theorem dX10_toneByTable_68 : decode cX10_toneByTable 68 = .ok (.iadd, 1) := by decide +kernel
theorem dX10_toneByTable_69 : decode cX10_toneByTable 69 = .ok (.iaload, 1) := by decide +kernel
theorem dX10_toneByTable_70 : decode cX10_toneByTable 70 = .ok (.iadd, 1) := by decide +kernel
theorem dX10_toneByTable_71 : decode cX10_toneByTable 71 = .ok (.istore 4, 2) := by decide +kernel
theorem dX10_toneByTable_73 : decode cX10_toneByTable 73 = .ok (.iinc 5 1, 3) := by decide +kernel
theorem dX10_toneByTable_76 : decode cX10_toneByTable 76 = .ok (.goto (-68), 3) := by decide +kernel
theorem dX10_toneByTable_79 : decode cX10_toneByTable 79 = .ok (.iload 4, 2) := by decide +kernel
theorem dX10_toneByTable_81 : decode cX10_toneByTable 81 = .ok (.ifCond .ne 7, 3) := by decide +kernel
theorem dX10_toneByTable_84 : decode cX10_toneByTable 84 = .ok (.iconst 0, 1) := by decide +kernel
theorem dX10_toneByTable_85 : decode cX10_toneByTable 85 = .ok (.goto 11, 3) := by decide +kernel
theorem dX10_toneByTable_88 : decode cX10_toneByTable 88 = .ok (.sipush 1000, 3) := by decide +kernel
theorem dX10_toneByTable_91 : decode cX10_toneByTable 91 = .ok (.iload_n 3, 1) := by decide +kernel
theorem dX10_toneByTable_92 : decode cX10_toneByTable 92 = .ok (.imul, 1) := by decide +kernel
theorem dX10_toneByTable_93 : decode cX10_toneByTable 93 = .ok (.iload 4, 2) := by decide +kernel
theorem dX10_toneByTable_95 : decode cX10_toneByTable 95 = .ok (.idiv, 1) := by decide +kernel
theorem dX10_toneByTable_96 : decode cX10_toneByTable 96 = .ok (.ireturn, 1) := by decide +kernel
theorem dX10_wouldBe_0 : decode cX10_wouldBe 0 = .ok (.iconst 2, 1) := by decide +kernel
theorem dX10_wouldBe_1 : decode cX10_wouldBe 1 = .ok (.istore_n 2, 1) := by decide +kernel
theorem dX10_wouldBe_2 : decode cX10_wouldBe 2 = .ok (.iconst 0, 1) := by decide +kernel
theorem dX10_wouldBe_3 : decode cX10_wouldBe 3 = .ok (.istore_n 3, 1) := by decide +kernel
theorem dX10_wouldBe_4 : decode cX10_wouldBe 4 = .ok (.iload_n 3, 1) := by decide +kernel
theorem dX10_wouldBe_5 : decode cX10_wouldBe 5 = .ok (.iconst 3, 1) := by decide +kernel
theorem dX10_wouldBe_6 : decode cX10_wouldBe 6 = .ok (.if_icmp .ge 65, 3) := by decide +kernel
theorem dX10_wouldBe_9 : decode cX10_wouldBe 9 = .ok (.aload_n 0, 1) := by decide +kernel
theorem dX10_wouldBe_10 : decode cX10_wouldBe 10 = .ok (.getfield 29, 3) := by decide +kernel
theorem dX10_wouldBe_13 : decode cX10_wouldBe 13 = .ok (.iconst 3, 1) := by decide +kernel
theorem dX10_wouldBe_14 : decode cX10_wouldBe 14 = .ok (.iload_n 1, 1) := by decide +kernel
theorem dX10_wouldBe_15 : decode cX10_wouldBe 15 = .ok (.imul, 1) := by decide +kernel
theorem dX10_wouldBe_16 : decode cX10_wouldBe 16 = .ok (.iload_n 3, 1) := by decide +kernel
theorem dX10_wouldBe_17 : decode cX10_wouldBe 17 = .ok (.iadd, 1) := by decide +kernel
theorem dX10_wouldBe_18 : decode cX10_wouldBe 18 = .ok (.iaload, 1) := by decide +kernel
theorem dX10_wouldBe_19 : decode cX10_wouldBe 19 = .ok (.istore 4, 2) := by decide +kernel
theorem dX10_wouldBe_21 : decode cX10_wouldBe 21 = .ok (.iload 4, 2) := by decide +kernel
theorem dX10_wouldBe_23 : decode cX10_wouldBe 23 = .ok (.ifCond .ne 6, 3) := by decide +kernel
theorem dX10_wouldBe_26 : decode cX10_wouldBe 26 = .ok (.goto 39, 3) := by decide +kernel
theorem dX10_wouldBe_29 : decode cX10_wouldBe 29 = .ok (.aload_n 0, 1) := by decide +kernel
theorem dX10_wouldBe_30 : decode cX10_wouldBe 30 = .ok (.iload_n 1, 1) := by decide +kernel
theorem dX10_wouldBe_31 : decode cX10_wouldBe 31 = .ok (.iload_n 3, 1) := by decide +kernel
theorem dX10_wouldBe_32 : decode cX10_wouldBe 32 = .ok (.invokevirtual 356, 3) := by decide +kernel
theorem dX10_wouldBe_35 : decode cX10_wouldBe 35 = .ok (.istore 5, 2) := by decide +kernel
theorem dX10_wouldBe_37 : decode cX10_wouldBe 37 = .ok (.iload 5, 2) := by decide +kernel
theorem dX10_wouldBe_39 : decode cX10_wouldBe 39 = .ok (.iload 4, 2) := by decide +kernel
theorem dX10_wouldBe_41 : decode cX10_wouldBe 41 = .ok (.aload_n 0, 1) := by decide +kernel
theorem dX10_wouldBe_42 : decode cX10_wouldBe 42 = .ok (.getfield 7, 3) := by decide +kernel
theorem dX10_wouldBe_45 : decode cX10_wouldBe 45 = .ok (.isub, 1) := by decide +kernel
theorem dX10_wouldBe_46 : decode cX10_wouldBe 46 = .ok (.if_icmp .ge 5, 3) := by decide +kernel
theorem dX10_wouldBe_49 : decode cX10_wouldBe 49 = .ok (.iconst 0, 1) := by decide +kernel
theorem dX10_wouldBe_50 : decode cX10_wouldBe 50 = .ok (.ireturn, 1) := by decide +kernel
theorem dX10_wouldBe_51 : decode cX10_wouldBe 51 = .ok (.iload 5, 2) := by decide +kernel
theorem dX10_wouldBe_53 : decode cX10_wouldBe 53 = .ok (.iload 4, 2) := by decide +kernel
theorem dX10_wouldBe_55 : decode cX10_wouldBe 55 = .ok (.aload_n 0, 1) := by decide +kernel
theorem dX10_wouldBe_56 : decode cX10_wouldBe 56 = .ok (.getfield 7, 3) := by decide +kernel
theorem dX10_wouldBe_59 : decode cX10_wouldBe 59 = .ok (.iadd, 1) := by decide +kernel
theorem dX10_wouldBe_60 : decode cX10_wouldBe 60 = .ok (.if_icmp .le 5, 3) := by decide +kernel
theorem dX10_wouldBe_63 : decode cX10_wouldBe 63 = .ok (.iconst 1, 1) := by decide +kernel
theorem dX10_wouldBe_64 : decode cX10_wouldBe 64 = .ok (.istore_n 2, 1) := by decide +kernel
theorem dX10_wouldBe_65 : decode cX10_wouldBe 65 = .ok (.iinc 3 1, 3) := by decide +kernel
theorem dX10_wouldBe_68 : decode cX10_wouldBe 68 = .ok (.goto (-64), 3) := by decide +kernel
theorem dX10_wouldBe_71 : decode cX10_wouldBe 71 = .ok (.iload_n 2, 1) := by decide +kernel
theorem dX10_wouldBe_72 : decode cX10_wouldBe 72 = .ok (.ireturn, 1) := by decide +kernel
theorem dX10_does_0 : decode cX10_does 0 = .ok (.iconst 0, 1) := by decide +kernel
theorem dX10_does_1 : decode cX10_does 1 = .ok (.istore_n 3, 1) := by decide +kernel
theorem dX10_does_2 : decode cX10_does 2 = .ok (.iload_n 3, 1) := by decide +kernel
theorem dX10_does_3 : decode cX10_does 3 = .ok (.bipush 8, 2) := by decide +kernel
theorem dX10_does_5 : decode cX10_does 5 = .ok (.if_icmp .ge 16, 3) := by decide +kernel
theorem dX10_does_8 : decode cX10_does 8 = .ok (.aload_n 0, 1) := by decide +kernel
theorem dX10_does_9 : decode cX10_does 9 = .ok (.getfield 113, 3) := by decide +kernel
theorem dX10_does_12 : decode cX10_does 12 = .ok (.iload_n 3, 1) := by decide +kernel
theorem dX10_does_13 : decode cX10_does 13 = .ok (.iconst 0, 1) := by decide +kernel
theorem dX10_does_14 : decode cX10_does 14 = .ok (.iastore, 1) := by decide +kernel
theorem dX10_does_15 : decode cX10_does 15 = .ok (.iinc 3 1, 3) := by decide +kernel
theorem dX10_does_18 : decode cX10_does 18 = .ok (.goto (-16), 3) := by decide +kernel
theorem dX10_does_21 : decode cX10_does 21 = .ok (.aload_n 0, 1) := by decide +kernel
theorem dX10_does_22 : decode cX10_does 22 = .ok (.iload_n 1, 1) := by decide +kernel
theorem dX10_does_23 : decode cX10_does 23 = .ok (.invokevirtual 359, 3) := by decide +kernel
theorem dX10_does_26 : decode cX10_does 26 = .ok (.istore_n 3, 1) := by decide +kernel
theorem dX10_does_27 : decode cX10_does 27 = .ok (.iconst 0, 1) := by decide +kernel
theorem dX10_does_28 : decode cX10_does 28 = .ok (.istore 4, 2) := by decide +kernel
theorem dX10_does_30 : decode cX10_does 30 = .ok (.iload 4, 2) := by decide +kernel
theorem dX10_does_32 : decode cX10_does 32 = .ok (.iload_n 2, 1) := by decide +kernel
theorem dX10_does_33 : decode cX10_does 33 = .ok (.if_icmp .ge 70, 3) := by decide +kernel
