theorem dX9_fault_29 : decode cX9_fault 29 = .ok (.getfield 12, 3) := by decide +kernel
theorem dX9_fault_32 : decode cX9_fault 32 = .ok (.getfield 111, 3) := by decide +kernel
theorem dX9_fault_35 : decode cX9_fault 35 = .ok (.ireturn, 1) := by decide +kernel
theorem dX9_fault_36 : decode cX9_fault 36 = .ok (.aload_n 0, 1) := by decide +kernel
theorem dX9_fault_37 : decode cX9_fault 37 = .ok (.getfield 12, 3) := by decide +kernel
theorem dX9_fault_40 : decode cX9_fault 40 = .ok (.getfield 114, 3) := by decide +kernel
theorem dX9_fault_43 : decode cX9_fault 43 = .ok (.ireturn, 1) := by decide +kernel
theorem dX9_fault_44 : decode cX9_fault 44 = .ok (.iconst (-1), 1) := by decide +kernel
theorem dX9_fault_45 : decode cX9_fault 45 = .ok (.ireturn, 1) := by decide +kernel
theorem dX9_force_0 : decode cX9_force 0 = .ok (.iload_n 1, 1) := by decide +kernel
theorem dX9_force_1 : decode cX9_force 1 = .ok (.iconst 0, 1) := by decide +kernel
theorem dX9_force_2 : decode cX9_force 2 = .ok (.iconst 1, 1) := by decide +kernel
theorem dX9_force_3 : decode cX9_force 3 = .ok (.invokestatic 89, 3) := by decide +kernel
theorem dX9_force_6 : decode cX9_force 6 = .ok (.ifCond .ne 5, 3) := by decide +kernel
theorem dX9_force_9 : decode cX9_force 9 = .ok (.iconst (-1), 1) := by decide +kernel
theorem dX9_force_10 : decode cX9_force 10 = .ok (.ireturn, 1) := by decide +kernel
theorem dX9_force_11 : decode cX9_force 11 = .ok (.aload_n 0, 1) := by decide +kernel
theorem dX9_force_12 : decode cX9_force 12 = .ok (.getfield 12, 3) := by decide +kernel
theorem dX9_force_15 : decode cX9_force 15 = .ok (.getfield 147, 3) := by decide +kernel
theorem dX9_force_18 : decode cX9_force 18 = .ok (.istore_n 2, 1) := by decide +kernel
theorem dX9_force_19 : decode cX9_force 19 = .ok (.aload_n 0, 1) := by decide +kernel
theorem dX9_force_20 : decode cX9_force 20 = .ok (.getfield 12, 3) := by decide +kernel
theorem dX9_force_23 : decode cX9_force 23 = .ok (.iload_n 1, 1) := by decide +kernel
theorem dX9_force_24 : decode cX9_force 24 = .ok (.putfield 147, 3) := by decide +kernel
theorem dX9_force_27 : decode cX9_force 27 = .ok (.iload_n 2, 1) := by decide +kernel
theorem dX9_force_28 : decode cX9_force 28 = .ok (.ireturn, 1) := by decide +kernel
theorem dX9_tells_0 : decode cX9_tells 0 = .ok (.aload_n 0, 1) := by decide +kernel
theorem dX9_tells_1 : decode cX9_tells 1 = .ok (.iload 4, 2) := by decide +kernel
theorem dX9_tells_3 : decode cX9_tells 3 = .ok (.invokevirtual 78, 3) := by decide +kernel
theorem dX9_tells_6 : decode cX9_tells 6 = .ok (.astore 6, 2) := by decide +kernel
theorem dX9_tells_8 : decode cX9_tells 8 = .ok (.aload 6, 2) := by decide +kernel
theorem dX9_tells_10 : decode cX9_tells 10 = .ok (.ifnull 38, 3) := by decide +kernel
theorem dX9_tells_13 : decode cX9_tells 13 = .ok (.aload 6, 2) := by decide +kernel
theorem dX9_tells_15 : decode cX9_tells 15 = .ok (.iload 5, 2) := by decide +kernel
theorem dX9_tells_17 : decode cX9_tells 17 = .ok (.invokevirtual 82, 3) := by decide +kernel
theorem dX9_tells_20 : decode cX9_tells 20 = .ok (.ifCond .eq 28, 3) := by decide +kernel
theorem dX9_tells_23 : decode cX9_tells 23 = .ok (.iload_n 1, 1) := by decide +kernel
theorem dX9_tells_24 : decode cX9_tells 24 = .ok (.iconst 0, 1) := by decide +kernel
theorem dX9_tells_25 : decode cX9_tells 25 = .ok (.iconst 1, 1) := by decide +kernel
theorem dX9_tells_26 : decode cX9_tells 26 = .ok (.invokestatic 89, 3) := by decide +kernel
theorem dX9_tells_29 : decode cX9_tells 29 = .ok (.ifCond .eq 19, 3) := by decide +kernel
theorem dX9_tells_32 : decode cX9_tells 32 = .ok (.iload_n 2, 1) := by decide +kernel
theorem dX9_tells_33 : decode cX9_tells 33 = .ok (.iconst 0, 1) := by decide +kernel
theorem dX9_tells_34 : decode cX9_tells 34 = .ok (.iconst 2, 1) := by decide +kernel
theorem dX9_tells_35 : decode cX9_tells 35 = .ok (.invokestatic 89, 3) := by decide +kernel
theorem dX9_tells_38 : decode cX9_tells 38 = .ok (.ifCond .eq 10, 3) := by decide +kernel
theorem dX9_tells_41 : decode cX9_tells 41 = .ok (.iload_n 3, 1) := by decide +kernel
theorem dX9_tells_42 : decode cX9_tells 42 = .ok (.invokestatic 150, 3) := by decide +kernel
theorem dX9_tells_45 : decode cX9_tells 45 = .ok (.ifCond .ne 6, 3) := by decide +kernel
theorem dX9_tells_48 : decode cX9_tells 48 = .ok (.ldc 153, 2) := by decide +kernel
theorem dX9_tells_50 : decode cX9_tells 50 = .ok (.ireturn, 1) := by decide +kernel
theorem dX9_tells_51 : decode cX9_tells 51 = .ok (.aload_n 0, 1) := by decide +kernel
theorem dX9_tells_52 : decode cX9_tells 52 = .ok (.getfield 30, 3) := by decide +kernel
theorem dX9_tells_55 : decode cX9_tells 55 = .ok (.aload 6, 2) := by decide +kernel
theorem dX9_tells_57 : decode cX9_tells 57 = .ok (.iload 5, 2) := by decide +kernel
theorem dX9_tells_59 : decode cX9_tells 59 = .ok (.aload 6, 2) := by decide +kernel
theorem dX9_tells_61 : decode cX9_tells 61 = .ok (.getfield 93, 3) := by decide +kernel
theorem dX9_tells_64 : decode cX9_tells 64 = .ok (.iload 5, 2) := by decide +kernel
theorem dX9_tells_66 : decode cX9_tells 66 = .ok (.iaload, 1) := by decide +kernel
theorem dX9_tells_67 : decode cX9_tells 67 = .ok (.aload 6, 2) := by decide +kernel
theorem dX9_tells_69 : decode cX9_tells 69 = .ok (.getfield 96, 3) := by decide +kernel
theorem dX9_tells_72 : decode cX9_tells 72 = .ok (.iload 5, 2) := by decide +kernel
theorem dX9_tells_74 : decode cX9_tells 74 = .ok (.iaload, 1) := by decide +kernel
theorem dX9_tells_75 : decode cX9_tells 75 = .ok (.aload 6, 2) := by decide +kernel
theorem dX9_tells_77 : decode cX9_tells 77 = .ok (.getfield 102, 3) := by decide +kernel
theorem dX9_tells_80 : decode cX9_tells 80 = .ok (.iload 5, 2) := by decide +kernel
theorem dX9_tells_82 : decode cX9_tells 82 = .ok (.iaload, 1) := by decide +kernel
theorem dX9_tells_83 : decode cX9_tells 83 = .ok (.invokevirtual 154, 3) := by decide +kernel
theorem dX9_tells_86 : decode cX9_tells 86 = .ok (.aload_n 0, 1) := by decide +kernel
theorem dX9_tells_87 : decode cX9_tells 87 = .ok (.getfield 30, 3) := by decide +kernel
theorem dX9_tells_90 : decode cX9_tells 90 = .ok (.aload_n 0, 1) := by decide +kernel
theorem dX9_tells_91 : decode cX9_tells 91 = .ok (.getfield 12, 3) := by decide +kernel
theorem dX9_tells_94 : decode cX9_tells 94 = .ok (.getfield 158, 3) := by decide +kernel
theorem dX9_tells_97 : decode cX9_tells 97 = .ok (.iload_n 1, 1) := by decide +kernel
theorem dX9_tells_98 : decode cX9_tells 98 = .ok (.aaload, 1) := by decide +kernel
theorem dX9_tells_99 : decode cX9_tells 99 = .ok (.iload_n 2, 1) := by decide +kernel
theorem dX9_tells_100 : decode cX9_tells 100 = .ok (.iload_n 3, 1) := by decide +kernel
theorem dX9_tells_101 : decode cX9_tells 101 = .ok (.invokevirtual 162, 3) := by decide +kernel
theorem dX9_tells_104 : decode cX9_tells 104 = .ok (.ireturn, 1) := by decide +kernel
theorem dX9_tone_0 : decode cX9_tone 0 = .ok (.aload_n 0, 1) := by decide +kernel
theorem dX9_tone_1 : decode cX9_tone 1 = .ok (.iload_n 1, 1) := by decide +kernel
theorem dX9_tone_2 : decode cX9_tone 2 = .ok (.invokevirtual 78, 3) := by decide +kernel
theorem dX9_tone_5 : decode cX9_tone 5 = .ok (.astore_n 3, 1) := by decide +kernel
theorem dX9_tone_6 : decode cX9_tone 6 = .ok (.aload_n 3, 1) := by decide +kernel
theorem dX9_tone_7 : decode cX9_tone 7 = .ok (.ifnull 10, 3) := by decide +kernel
theorem dX9_tone_10 : decode cX9_tone 10 = .ok (.iload_n 2, 1) := by decide +kernel
theorem dX9_tone_11 : decode cX9_tone 11 = .ok (.invokestatic 150, 3) := by decide +kernel
theorem dX9_tone_14 : decode cX9_tone 14 = .ok (.ifCond .ne 5, 3) := by decide +kernel
theorem dX9_tone_17 : decode cX9_tone 17 = .ok (.iconst (-1), 1) := by decide +kernel
theorem dX9_tone_18 : decode cX9_tone 18 = .ok (.ireturn, 1) := by decide +kernel
theorem dX9_tone_19 : decode cX9_tone 19 = .ok (.aload_n 0, 1) := by decide +kernel
theorem dX9_tone_20 : decode cX9_tone 20 = .ok (.aload_n 3, 1) := by decide +kernel
theorem dX9_tone_21 : decode cX9_tone 21 = .ok (.iload_n 2, 1) := by decide +kernel
theorem dX9_tone_22 : decode cX9_tone 22 = .ok (.invokevirtual 166, 3) := by decide +kernel
theorem dX9_tone_25 : decode cX9_tone 25 = .ok (.ireturn, 1) := by decide +kernel
theorem dX9_shave_0 : decode cX9_shave 0 = .ok (.aload_n 0, 1) := by decide +kernel
theorem dX9_shave_1 : decode cX9_shave 1 = .ok (.iload_n 1, 1) := by decide +kernel
theorem dX9_shave_2 : decode cX9_shave 2 = .ok (.invokevirtual 78, 3) := by decide +kernel
theorem dX9_shave_5 : decode cX9_shave 5 = .ok (.astore 4, 2) := by decide +kernel
theorem dX9_shave_7 : decode cX9_shave 7 = .ok (.aload 4, 2) := by decide +kernel
theorem dX9_shave_9 : decode cX9_shave 9 = .ok (.ifnonnull 5, 3) := by decide +kernel
theorem dX9_shave_12 : decode cX9_shave 12 = .ok (.iconst (-1), 1) := by decide +kernel
theorem dX9_shave_13 : decode cX9_shave 13 = .ok (.ireturn, 1) := by decide +kernel
theorem dX9_shave_14 : decode cX9_shave 14 = .ok (.aload_n 0, 1) := by decide +kernel
theorem dX9_shave_15 : decode cX9_shave 15 = .ok (.aload 4, 2) := by decide +kernel
theorem dX9_shave_17 : decode cX9_shave 17 = .ok (.iload_n 2, 1) := by decide +kernel
theorem dX9_shave_18 : decode cX9_shave 18 = .ok (.iload_n 3, 1) := by decide +kernel
theorem dX9_shave_19 : decode cX9_shave 19 = .ok (.invokevirtual 170, 3) := by decide +kernel
theorem dX9_shave_22 : decode cX9_shave 22 = .ok (.ireturn, 1) := by decide +kernel
theorem dX9_pass_0 : decode cX9_pass 0 = .ok (.aload_n 0, 1) := by decide +kernel
theorem dX9_pass_1 : decode cX9_pass 1 = .ok (.iload_n 1, 1) := by decide +kernel
theorem dX9_pass_2 : decode cX9_pass 2 = .ok (.invokevirtual 78, 3) := by decide +kernel
theorem dX9_pass_5 : decode cX9_pass 5 = .ok (.astore 4, 2) := by decide +kernel
theorem dX9_pass_7 : decode cX9_pass 7 = .ok (.aload 4, 2) := by decide +kernel
theorem dX9_pass_9 : decode cX9_pass 9 = .ok (.ifnull 16, 3) := by decide +kernel
theorem dX9_pass_12 : decode cX9_pass 12 = .ok (.iload_n 2, 1) := by decide +kernel
theorem dX9_pass_13 : decode cX9_pass 13 = .ok (.iconst 1, 1) := by decide +kernel
theorem dX9_pass_14 : decode cX9_pass 14 = .ok (.aload 4, 2) := by decide +kernel
theorem dX9_pass_16 : decode cX9_pass 16 = .ok (.getfield 86, 3) := by decide +kernel
theorem dX9_pass_19 : decode cX9_pass 19 = .ok (.invokestatic 89, 3) := by decide +kernel
theorem dX9_pass_22 : decode cX9_pass 22 = .ok (.ifCond .ne 5, 3) := by decide +kernel
theorem dX9_pass_25 : decode cX9_pass 25 = .ok (.iconst (-1), 1) := by decide +kernel
theorem dX9_pass_26 : decode cX9_pass 26 = .ok (.ireturn, 1) := by decide +kernel
theorem dX9_pass_27 : decode cX9_pass 27 = .ok (.iload_n 3, 1) := by decide +kernel
theorem dX9_pass_28 : decode cX9_pass 28 = .ok (.lookupswitch 48 #[(0, 28), (1, 38)], 28) := by decide +kernel
theorem dX9_pass_56 : decode cX9_pass 56 = .ok (.aload 4, 2) := by decide +kernel
theorem dX9_pass_58 : decode cX9_pass 58 = .ok (.getfield 174, 3) := by decide +kernel
theorem dX9_pass_61 : decode cX9_pass 61 = .ok (.iload_n 2, 1) := by decide +kernel
theorem dX9_pass_62 : decode cX9_pass 62 = .ok (.iconst 1, 1) := by decide +kernel
theorem dX9_pass_63 : decode cX9_pass 63 = .ok (.isub, 1) := by decide +kernel
theorem dX9_pass_64 : decode cX9_pass 64 = .ok (.iaload, 1) := by decide +kernel
theorem dX9_pass_65 : decode cX9_pass 65 = .ok (.ireturn, 1) := by decide +kernel
theorem dX9_pass_66 : decode cX9_pass 66 = .ok (.aload 4, 2) := by decide +kernel
theorem dX9_pass_68 : decode cX9_pass 68 = .ok (.getfield 177, 3) := by decide +kernel
theorem dX9_pass_71 : decode cX9_pass 71 = .ok (.iload_n 2, 1) := by decide +kernel
theorem dX9_pass_72 : decode cX9_pass 72 = .ok (.iconst 1, 1) := by decide +kernel
theorem dX9_pass_73 : decode cX9_pass 73 = .ok (.isub, 1) := by decide +kernel
theorem dX9_pass_74 : decode cX9_pass 74 = .ok (.iaload, 1) := by decide +kernel
theorem dX9_pass_75 : decode cX9_pass 75 = .ok (.ireturn, 1) := by decide +kernel
theorem dX9_pass_76 : decode cX9_pass 76 = .ok (.iconst (-1), 1) := by decide +kernel
theorem dX9_pass_77 : decode cX9_pass 77 = .ok (.ireturn, 1) := by decide +kernel
theorem dX9_goal_0 : decode cX9_goal 0 = .ok (.aload_n 0, 1) := by decide +kernel
theorem dX9_goal_1 : decode cX9_goal 1 = .ok (.iload_n 1, 1) := by decide +kernel
theorem dX9_goal_2 : decode cX9_goal 2 = .ok (.invokevirtual 78, 3) := by decide +kernel
theorem dX9_goal_5 : decode cX9_goal 5 = .ok (.astore 4, 2) := by decide +kernel
theorem dX9_goal_7 : decode cX9_goal 7 = .ok (.aload 4, 2) := by decide +kernel
theorem dX9_goal_9 : decode cX9_goal 9 = .ok (.ifnull 20, 3) := by decide +kernel
theorem dX9_goal_12 : decode cX9_goal 12 = .ok (.iload_n 2, 1) := by decide +kernel
theorem dX9_goal_13 : decode cX9_goal 13 = .ok (.invokestatic 150, 3) := by decide +kernel
theorem dX9_goal_16 : decode cX9_goal 16 = .ok (.ifCond .eq 13, 3) := by decide +kernel
theorem dX9_goal_19 : decode cX9_goal 19 = .ok (.iload_n 3, 1) := by decide +kernel
theorem dX9_goal_20 : decode cX9_goal 20 = .ok (.iconst 0, 1) := by decide +kernel
theorem dX9_goal_21 : decode cX9_goal 21 = .ok (.ldc 180, 2) := by decide +kernel
theorem dX9_goal_23 : decode cX9_goal 23 = .ok (.invokestatic 89, 3) := by decide +kernel
theorem dX9_goal_26 : decode cX9_goal 26 = .ok (.ifCond .ne 5, 3) := by decide +kernel
theorem dX9_goal_29 : decode cX9_goal 29 = .ok (.iconst 0, 1) := by decide +kernel
theorem dX9_goal_30 : decode cX9_goal 30 = .ok (.ireturn, 1) := by decide +kernel
theorem dX9_goal_31 : decode cX9_goal 31 = .ok (.aload 4, 2) := by decide +kernel
theorem dX9_goal_33 : decode cX9_goal 33 = .ok (.getfield 181, 3) := by decide +kernel
theorem dX9_goal_36 : decode cX9_goal 36 = .ok (.iload_n 2, 1) := by decide +kernel
theorem dX9_goal_37 : decode cX9_goal 37 = .ok (.iload_n 3, 1) := by decide +kernel
theorem dX9_goal_38 : decode cX9_goal 38 = .ok (.iastore, 1) := by decide +kernel
theorem dX9_goal_39 : decode cX9_goal 39 = .ok (.iconst 1, 1) := by decide +kernel
theorem dX9_goal_40 : decode cX9_goal 40 = .ok (.ireturn, 1) := by decide +kernel
theorem dX9_slack_0 : decode cX9_slack 0 = .ok (.iload_n 1, 1) := by decide +kernel
theorem dX9_slack_1 : decode cX9_slack 1 = .ok (.iconst 0, 1) := by decide +kernel
theorem dX9_slack_2 : decode cX9_slack 2 = .ok (.sipush 9999, 3) := by decide +kernel
theorem dX9_slack_5 : decode cX9_slack 5 = .ok (.invokestatic 89, 3) := by decide +kernel
theorem dX9_slack_8 : decode cX9_slack 8 = .ok (.ifCond .ne 5, 3) := by decide +kernel
theorem dX9_slack_11 : decode cX9_slack 11 = .ok (.iconst 0, 1) := by decide +kernel
theorem dX9_slack_12 : decode cX9_slack 12 = .ok (.ireturn, 1) := by decide +kernel
theorem dX9_slack_13 : decode cX9_slack 13 = .ok (.aload_n 0, 1) := by decide +kernel
theorem dX9_slack_14 : decode cX9_slack 14 = .ok (.getfield 12, 3) := by decide +kernel
theorem dX9_slack_17 : decode cX9_slack 17 = .ok (.iload_n 1, 1) := by decide +kernel
theorem dX9_slack_18 : decode cX9_slack 18 = .ok (.putfield 184, 3) := by decide +kernel
theorem dX9_slack_21 : decode cX9_slack 21 = .ok (.iconst 1, 1) := by decide +kernel
theorem dX9_slack_22 : decode cX9_slack 22 = .ok (.ireturn, 1) := by decide +kernel
theorem dX9_state_0 : decode cX9_state 0 = .ok (.aload_n 0, 1) := by decide +kernel
theorem dX9_state_1 : decode cX9_state 1 = .ok (.iload_n 1, 1) := by decide +kernel
theorem dX9_state_2 : decode cX9_state 2 = .ok (.invokevirtual 78, 3) := by decide +kernel
theorem dX9_state_5 : decode cX9_state 5 = .ok (.astore_n 3, 1) := by decide +kernel
theorem dX9_state_6 : decode cX9_state 6 = .ok (.aload_n 3, 1) := by decide +kernel
theorem dX9_state_7 : decode cX9_state 7 = .ok (.ifnonnull 6, 3) := by decide +kernel
theorem dX9_state_10 : decode cX9_state 10 = .ok (.bipush (-2), 2) := by decide +kernel
theorem dX9_state_12 : decode cX9_state 12 = .ok (.ireturn, 1) := by decide +kernel
theorem dX9_state_13 : decode cX9_state 13 = .ok (.iload_n 2, 1) := by decide +kernel
theorem dX9_state_14 : decode cX9_state 14 = .ok (.tableswitch 129 0 9 #[54, 59, 64, 78, 92, 97, 104, 111, 118, 123], 54) := by decide +kernel
theorem dX9_state_68 : decode cX9_state 68 = .ok (.aload_n 3, 1) := by decide +kernel
theorem dX9_state_69 : decode cX9_state 69 = .ok (.getfield 187, 3) := by decide +kernel
theorem dX9_state_72 : decode cX9_state 72 = .ok (.ireturn, 1) := by decide +kernel
theorem dX9_state_73 : decode cX9_state 73 = .ok (.aload_n 3, 1) := by decide +kernel
theorem dX9_state_74 : decode cX9_state 74 = .ok (.getfield 86, 3) := by decide +kernel
theorem dX9_state_77 : decode cX9_state 77 = .ok (.ireturn, 1) := by decide +kernel
theorem dX9_state_78 : decode cX9_state 78 = .ok (.aload_n 0, 1) := by decide +kernel
theorem dX9_state_79 : decode cX9_state 79 = .ok (.aload_n 3, 1) := by decide +kernel
theorem dX9_state_80 : decode cX9_state 80 = .ok (.invokevirtual 190, 3) := by decide +kernel
theorem dX9_state_83 : decode cX9_state 83 = .ok (.ifCond .eq 7, 3) := by decide +kernel
theorem dX9_state_86 : decode cX9_state 86 = .ok (.iconst 1, 1) := by decide +kernel
theorem dX9_state_87 : decode cX9_state 87 = .ok (.goto 4, 3) := by decide +kernel
theorem dX9_state_90 : decode cX9_state 90 = .ok (.iconst 0, 1) := by decide +kernel
theorem dX9_state_91 : decode cX9_state 91 = .ok (.ireturn, 1) := by decide +kernel
theorem dX9_state_92 : decode cX9_state 92 = .ok (.aload_n 0, 1) := by decide +kernel
theorem dX9_state_93 : decode cX9_state 93 = .ok (.aload_n 3, 1) := by decide +kernel
theorem dX9_state_94 : decode cX9_state 94 = .ok (.invokevirtual 194, 3) := by decide +kernel
theorem dX9_state_97 : decode cX9_state 97 = .ok (.ifCond .eq 7, 3) := by decide +kernel
theorem dX9_state_100 : decode cX9_state 100 = .ok (.iconst 1, 1) := by decide +kernel
theorem dX9_state_101 : decode cX9_state 101 = .ok (.goto 4, 3) := by decide +kernel
theorem dX9_state_104 : decode cX9_state 104 = .ok (.iconst 0, 1) := by decide +kernel
theorem dX9_state_105 : decode cX9_state 105 = .ok (.ireturn, 1) := by decide +kernel
theorem dX9_state_106 : decode cX9_state 106 = .ok (.aload_n 3, 1) := by decide +kernel
theorem dX9_state_107 : decode cX9_state 107 = .ok (.getfield 197, 3) := by decide +kernel
theorem dX9_state_110 : decode cX9_state 110 = .ok (.ireturn, 1) := by decide +kernel
theorem dX9_state_111 : decode cX9_state 111 = .ok (.aload_n 3, 1) := by decide +kernel
theorem dX9_state_112 : decode cX9_state 112 = .ok (.getfield 181, 3) := by decide +kernel
theorem dX9_state_115 : decode cX9_state 115 = .ok (.iconst 0, 1) := by decide +kernel
theorem dX9_state_116 : decode cX9_state 116 = .ok (.iaload, 1) := by decide +kernel
theorem dX9_state_117 : decode cX9_state 117 = .ok (.ireturn, 1) := by decide +kernel
theorem dX9_state_118 : decode cX9_state 118 = .ok (.aload_n 3, 1) := by decide +kernel
theorem dX9_state_119 : decode cX9_state 119 = .ok (.getfield 181, 3) := by decide +kernel
theorem dX9_state_122 : decode cX9_state 122 = .ok (.iconst 1, 1) := by decide +kernel
theorem dX9_state_123 : decode cX9_state 123 = .ok (.iaload, 1) := by decide +kernel
theorem dX9_state_124 : decode cX9_state 124 = .ok (.ireturn, 1) := by decide +kernel
theorem dX9_state_125 : decode cX9_state 125 = .ok (.aload_n 3, 1) := by decide +kernel
theorem dX9_state_126 : decode cX9_state 126 = .ok (.getfield 181, 3) := by decide +kernel
theorem dX9_state_129 : decode cX9_state 129 = .ok (.iconst 2, 1) := by decide +kernel
theorem dX9_state_130 : decode cX9_state 130 = .ok (.iaload, 1) := by decide +kernel
theorem dX9_state_131 : decode cX9_state 131 = .ok (.ireturn, 1) := by decide +kernel
theorem dX9_state_132 : decode cX9_state 132 = .ok (.aload_n 3, 1) := by decide +kernel
theorem dX9_state_133 : decode cX9_state 133 = .ok (.getfield 200, 3) := by decide +kernel
theorem dX9_state_136 : decode cX9_state 136 = .ok (.ireturn, 1) := by decide +kernel
theorem dX9_state_137 : decode cX9_state 137 = .ok (.aload_n 0, 1) := by decide +kernel
theorem dX9_state_138 : decode cX9_state 138 = .ok (.aload_n 3, 1) := by decide +kernel
theorem dX9_state_139 : decode cX9_state 139 = .ok (.invokevirtual 203, 3) := by decide +kernel
theorem dX9_state_142 : decode cX9_state 142 = .ok (.ireturn, 1) := by decide +kernel
theorem dX9_state_143 : decode cX9_state 143 = .ok (.bipush (-2), 2) := by decide +kernel
theorem dX9_state_145 : decode cX9_state 145 = .ok (.ireturn, 1) := by decide +kernel
theorem dX9_takes_0 : decode cX9_takes 0 = .ok (.aload_n 0, 1) := by decide +kernel
theorem dX9_takes_1 : decode cX9_takes 1 = .ok (.iload_n 1, 1) := by decide +kernel
theorem dX9_takes_2 : decode cX9_takes 2 = .ok (.invokevirtual 78, 3) := by decide +kernel
theorem dX9_takes_5 : decode cX9_takes 5 = .ok (.astore 4, 2) := by decide +kernel
theorem dX9_takes_7 : decode cX9_takes 7 = .ok (.aload 4, 2) := by decide +kernel
theorem dX9_takes_9 : decode cX9_takes 9 = .ok (.ifnull 30, 3) := by decide +kernel
theorem dX9_takes_12 : decode cX9_takes 12 = .ok (.aload 4, 2) := by decide +kernel
theorem dX9_takes_14 : decode cX9_takes 14 = .ok (.iload_n 2, 1) := by decide +kernel
theorem dX9_takes_15 : decode cX9_takes 15 = .ok (.invokevirtual 82, 3) := by decide +kernel
theorem dX9_takes_18 : decode cX9_takes 18 = .ok (.ifCond .eq 21, 3) := by decide +kernel
theorem dX9_takes_21 : decode cX9_takes 21 = .ok (.iload_n 3, 1) := by decide +kernel
theorem dX9_takes_22 : decode cX9_takes 22 = .ok (.invokestatic 150, 3) := by decide +kernel
theorem dX9_takes_25 : decode cX9_takes 25 = .ok (.ifCond .eq 14, 3) := by decide +kernel
theorem dX9_takes_28 : decode cX9_takes 28 = .ok (.aload 4, 2) := by decide +kernel
theorem dX9_takes_30 : decode cX9_takes 30 = .ok (.getfield 93, 3) := by decide +kernel
theorem dX9_takes_33 : decode cX9_takes 33 = .ok (.iload_n 2, 1) := by decide +kernel
theorem dX9_takes_34 : decode cX9_takes 34 = .ok (.iaload, 1) := by decide +kernel
theorem dX9_takes_35 : decode cX9_takes 35 = .ok (.iconst 1, 1) := by decide +kernel
theorem dX9_takes_36 : decode cX9_takes 36 = .ok (.if_icmp .gt 6, 3) := by decide +kernel
theorem dX9_takes_39 : decode cX9_takes 39 = .ok (.ldc 207, 2) := by decide +kernel
theorem dX9_takes_41 : decode cX9_takes 41 = .ok (.ireturn, 1) := by decide +kernel
theorem dX9_takes_42 : decode cX9_takes 42 = .ok (.aload 4, 2) := by decide +kernel
theorem dX9_takes_44 : decode cX9_takes 44 = .ok (.aload_n 0, 1) := by decide +kernel
theorem dX9_takes_45 : decode cX9_takes 45 = .ok (.getfield 61, 3) := by decide +kernel
theorem dX9_takes_48 : decode cX9_takes 48 = .ok (.iload_n 2, 1) := by decide +kernel
theorem dX9_takes_49 : decode cX9_takes 49 = .ok (.invokevirtual 208, 3) := by decide +kernel
theorem dX9_takes_52 : decode cX9_takes 52 = .ok (.aload_n 0, 1) := by decide +kernel
theorem dX9_takes_53 : decode cX9_takes 53 = .ok (.aload 4, 2) := by decide +kernel
theorem dX9_takes_55 : decode cX9_takes 55 = .ok (.iload_n 3, 1) := by decide +kernel
theorem dX9_takes_56 : decode cX9_takes 56 = .ok (.invokevirtual 166, 3) := by decide +kernel
theorem dX9_takes_59 : decode cX9_takes 59 = .ok (.aload_n 0, 1) := by decide +kernel
theorem dX9_takes_60 : decode cX9_takes 60 = .ok (.getfield 30, 3) := by decide +kernel
theorem dX9_takes_63 : decode cX9_takes 63 = .ok (.aload_n 0, 1) := by decide +kernel
theorem dX9_takes_64 : decode cX9_takes 64 = .ok (.getfield 12, 3) := by decide +kernel
theorem dX9_takes_67 : decode cX9_takes 67 = .ok (.invokevirtual 212, 3) := by decide +kernel
theorem dX9_takes_70 : decode cX9_takes 70 = .ok (.iload_n 3, 1) := by decide +kernel
theorem dX9_takes_71 : decode cX9_takes 71 = .ok (.aload 4, 2) := by decide +kernel
theorem dX9_takes_73 : decode cX9_takes 73 = .ok (.aload_n 0, 1) := by decide +kernel
theorem dX9_takes_74 : decode cX9_takes 74 = .ok (.getfield 61, 3) := by decide +kernel
theorem dX9_takes_77 : decode cX9_takes 77 = .ok (.aload 4, 2) := by decide +kernel
theorem dX9_takes_79 : decode cX9_takes 79 = .ok (.getfield 96, 3) := by decide +kernel
theorem dX9_takes_82 : decode cX9_takes 82 = .ok (.aload 4, 2) := by decide +kernel
theorem dX9_takes_84 : decode cX9_takes 84 = .ok (.getfield 102, 3) := by decide +kernel
theorem dX9_takes_87 : decode cX9_takes 87 = .ok (.invokevirtual 216, 3) := by decide +kernel
theorem dX9_takes_90 : decode cX9_takes 90 = .ok (.isub, 1) := by decide +kernel
theorem dX9_takes_91 : decode cX9_takes 91 = .ok (.ireturn, 1) := by decide +kernel
theorem dX9_job_0 : decode cX9_job 0 = .ok (.aload_n 0, 1) := by decide +kernel
theorem dX9_job_1 : decode cX9_job 1 = .ok (.iload_n 2, 1) := by decide +kernel
theorem dX9_job_2 : decode cX9_job 2 = .ok (.invokevirtual 78, 3) := by decide +kernel
theorem dX9_job_5 : decode cX9_job 5 = .ok (.astore_n 3, 1) := by decide +kernel
theorem dX9_job_6 : decode cX9_job 6 = .ok (.aload_n 3, 1) := by decide +kernel
theorem dX9_job_7 : decode cX9_job 7 = .ok (.ifnull 12, 3) := by decide +kernel
theorem dX9_job_10 : decode cX9_job 10 = .ok (.iload_n 1, 1) := by decide +kernel
theorem dX9_job_11 : decode cX9_job 11 = .ok (.iconst 0, 1) := by decide +kernel
theorem dX9_job_12 : decode cX9_job 12 = .ok (.iconst 3, 1) := by decide +kernel
theorem dX9_job_13 : decode cX9_job 13 = .ok (.invokestatic 89, 3) := by decide +kernel
theorem dX9_job_16 : decode cX9_job 16 = .ok (.ifCond .ne 5, 3) := by decide +kernel
theorem dX9_job_19 : decode cX9_job 19 = .ok (.iconst (-1), 1) := by decide +kernel
theorem dX9_job_20 : decode cX9_job 20 = .ok (.ireturn, 1) := by decide +kernel
theorem dX9_job_21 : decode cX9_job 21 = .ok (.aload_n 3, 1) := by decide +kernel
theorem dX9_job_22 : decode cX9_job 22 = .ok (.getfield 86, 3) := by decide +kernel
theorem dX9_job_25 : decode cX9_job 25 = .ok (.istore 4, 2) := by decide +kernel
theorem dX9_job_27 : decode cX9_job 27 = .ok (.aload_n 0, 1) := by decide +kernel
theorem dX9_job_28 : decode cX9_job 28 = .ok (.getfield 12, 3) := by decide +kernel
theorem dX9_job_31 : decode cX9_job 31 = .ok (.getfield 220, 3) := by decide +kernel
theorem dX9_job_34 : decode cX9_job 34 = .ok (.iload_n 1, 1) := by decide +kernel
theorem dX9_job_35 : decode cX9_job 35 = .ok (.aaload, 1) := by decide +kernel
theorem dX9_job_36 : decode cX9_job 36 = .ok (.astore 5, 2) := by decide +kernel
theorem dX9_job_38 : decode cX9_job 38 = .ok (.iconst 0, 1) := by decide +kernel
theorem dX9_job_39 : decode cX9_job 39 = .ok (.istore 6, 2) := by decide +kernel
theorem dX9_job_41 : decode cX9_job 41 = .ok (.iload 6, 2) := by decide +kernel
theorem dX9_job_43 : decode cX9_job 43 = .ok (.aload 5, 2) := by decide +kernel
theorem dX9_job_45 : decode cX9_job 45 = .ok (.getfield 144, 3) := by decide +kernel
theorem dX9_job_48 : decode cX9_job 48 = .ok (.if_icmp .ge 30, 3) := by decide +kernel
theorem dX9_job_51 : decode cX9_job 51 = .ok (.aload_n 0, 1) := by decide +kernel
theorem dX9_job_52 : decode cX9_job 52 = .ok (.aload 5, 2) := by decide +kernel
theorem dX9_job_54 : decode cX9_job 54 = .ok (.iload 6, 2) := by decide +kernel
theorem dX9_job_56 : decode cX9_job 56 = .ok (.aload_n 3, 1) := by decide +kernel
theorem dX9_job_57 : decode cX9_job 57 = .ok (.invokevirtual 223, 3) := by decide +kernel
theorem dX9_job_60 : decode cX9_job 60 = .ok (.ifCond .eq 12, 3) := by decide +kernel
theorem dX9_job_63 : decode cX9_job 63 = .ok (.aload_n 0, 1) := by decide +kernel
theorem dX9_job_64 : decode cX9_job 64 = .ok (.aload 5, 2) := by decide +kernel
theorem dX9_job_66 : decode cX9_job 66 = .ok (.iload 6, 2) := by decide +kernel
theorem dX9_job_68 : decode cX9_job 68 = .ok (.aload_n 3, 1) := by decide +kernel
theorem dX9_job_69 : decode cX9_job 69 = .ok (.invokevirtual 227, 3) := by decide +kernel
theorem dX9_job_72 : decode cX9_job 72 = .ok (.iinc 6 1, 3) := by decide +kernel
theorem dX9_job_75 : decode cX9_job 75 = .ok (.goto (-34), 3) := by decide +kernel
theorem dX9_job_78 : decode cX9_job 78 = .ok (.aload_n 3, 1) := by decide +kernel
theorem dX9_job_79 : decode cX9_job 79 = .ok (.getfield 86, 3) := by decide +kernel
theorem dX9_job_82 : decode cX9_job 82 = .ok (.iload 4, 2) := by decide +kernel
theorem dX9_job_84 : decode cX9_job 84 = .ok (.isub, 1) := by decide +kernel
theorem dX9_job_85 : decode cX9_job 85 = .ok (.ireturn, 1) := by decide +kernel
theorem dX9_fewest_0 : decode cX9_fewest 0 = .ok (.aload_n 0, 1) := by decide +kernel
theorem dX9_fewest_1 : decode cX9_fewest 1 = .ok (.iload_n 1, 1) := by decide +kernel
theorem dX9_fewest_2 : decode cX9_fewest 2 = .ok (.invokevirtual 78, 3) := by decide +kernel
theorem dX9_fewest_5 : decode cX9_fewest 5 = .ok (.astore_n 3, 1) := by decide +kernel
theorem dX9_fewest_6 : decode cX9_fewest 6 = .ok (.aload_n 3, 1) := by decide +kernel
theorem dX9_fewest_7 : decode cX9_fewest 7 = .ok (.ifnull 21, 3) := by decide +kernel
theorem dX9_fewest_10 : decode cX9_fewest 10 = .ok (.aload_n 3, 1) := by decide +kernel
theorem dX9_fewest_11 : decode cX9_fewest 11 = .ok (.getfield 187, 3) := by decide +kernel
theorem dX9_fewest_14 : decode cX9_fewest 14 = .ok (.bipush 8, 2) := by decide +kernel
theorem dX9_fewest_16 : decode cX9_fewest 16 = .ok (.if_icmp .gt 12, 3) := by decide +kernel
theorem dX9_fewest_19 : decode cX9_fewest 19 = .ok (.iload_n 2, 1) := by decide +kernel
theorem dX9_fewest_20 : decode cX9_fewest 20 = .ok (.iconst 0, 1) := by decide +kernel
theorem dX9_fewest_21 : decode cX9_fewest 21 = .ok (.iconst 5, 1) := by decide +kernel
theorem dX9_fewest_22 : decode cX9_fewest 22 = .ok (.invokestatic 89, 3) := by decide +kernel
theorem dX9_fewest_25 : decode cX9_fewest 25 = .ok (.ifCond .ne 5, 3) := by decide +kernel
theorem dX9_fewest_28 : decode cX9_fewest 28 = .ok (.iconst (-1), 1) := by decide +kernel
theorem dX9_fewest_29 : decode cX9_fewest 29 = .ok (.ireturn, 1) := by decide +kernel
theorem dX9_fewest_30 : decode cX9_fewest 30 = .ok (.aload_n 0, 1) := by decide +kernel
theorem dX9_fewest_31 : decode cX9_fewest 31 = .ok (.getfield 37, 3) := by decide +kernel
theorem dX9_fewest_34 : decode cX9_fewest 34 = .ok (.aload_n 0, 1) := by decide +kernel
theorem dX9_fewest_35 : decode cX9_fewest 35 = .ok (.getfield 30, 3) := by decide +kernel
theorem dX9_fewest_38 : decode cX9_fewest 38 = .ok (.aload_n 0, 1) := by decide +kernel
theorem dX9_fewest_39 : decode cX9_fewest 39 = .ok (.getfield 12, 3) := by decide +kernel
theorem dX9_fewest_42 : decode cX9_fewest 42 = .ok (.invokevirtual 212, 3) := by decide +kernel
theorem dX9_fewest_45 : decode cX9_fewest 45 = .ok (.aload_n 3, 1) := by decide +kernel
theorem dX9_fewest_46 : decode cX9_fewest 46 = .ok (.aload_n 0, 1) := by decide +kernel
theorem dX9_fewest_47 : decode cX9_fewest 47 = .ok (.getfield 12, 3) := by decide +kernel
theorem dX9_fewest_50 : decode cX9_fewest 50 = .ok (.getfield 184, 3) := by decide +kernel
theorem dX9_fewest_53 : decode cX9_fewest 53 = .ok (.invokevirtual 231, 3) := by decide +kernel
theorem dX9_fewest_56 : decode cX9_fewest 56 = .ok (.aload_n 0, 1) := by decide +kernel
theorem dX9_fewest_57 : decode cX9_fewest 57 = .ok (.getfield 37, 3) := by decide +kernel
theorem dX9_fewest_60 : decode cX9_fewest 60 = .ok (.invokevirtual 235, 3) := by decide +kernel
theorem dX9_fewest_63 : decode cX9_fewest 63 = .ok (.istore 4, 2) := by decide +kernel
theorem dX9_fewest_65 : decode cX9_fewest 65 = .ok (.iload_n 2, 1) := by decide +kernel
theorem dX9_fewest_66 : decode cX9_fewest 66 = .ok (.ifCond .eq 9, 3) := by decide +kernel
theorem dX9_fewest_69 : decode cX9_fewest 69 = .ok (.iload 4, 2) := by decide +kernel
theorem dX9_fewest_71 : decode cX9_fewest 71 = .ok (.iload_n 2, 1) := by decide +kernel
theorem dX9_fewest_72 : decode cX9_fewest 72 = .ok (.if_icmp .ge 14, 3) := by decide +kernel
theorem dX9_fewest_75 : decode cX9_fewest 75 = .ok (.iload_n 2, 1) := by decide +kernel
theorem dX9_fewest_76 : decode cX9_fewest 76 = .ok (.ifCond .ne 8, 3) := by decide +kernel
theorem dX9_fewest_79 : decode cX9_fewest 79 = .ok (.iload 4, 2) := by decide +kernel
theorem dX9_fewest_81 : decode cX9_fewest 81 = .ok (.goto 4, 3) := by decide +kernel
theorem dX9_fewest_84 : decode cX9_fewest 84 = .ok (.iconst (-1), 1) := by decide +kernel
theorem dX9_fewest_85 : decode cX9_fewest 85 = .ok (.ireturn, 1) := by decide +kernel
theorem dX9_fewest_86 : decode cX9_fewest 86 = .ok (.aload_n 0, 1) := by decide +kernel
theorem dX9_fewest_87 : decode cX9_fewest 87 = .ok (.getfield 37, 3) := by decide +kernel
theorem dX9_fewest_90 : decode cX9_fewest 90 = .ok (.getfield 239, 3) := by decide +kernel
theorem dX9_fewest_93 : decode cX9_fewest 93 = .ok (.iload_n 2, 1) := by decide +kernel
theorem dX9_fewest_94 : decode cX9_fewest 94 = .ok (.iconst 1, 1) := by decide +kernel
theorem dX9_fewest_95 : decode cX9_fewest 95 = .ok (.isub, 1) := by decide +kernel
theorem dX9_fewest_96 : decode cX9_fewest 96 = .ok (.iaload, 1) := by decide +kernel
theorem dX9_fewest_97 : decode cX9_fewest 97 = .ok (.ireturn, 1) := by decide +kernel
theorem dX9_tap_0 : decode cX9_tap 0 = .ok (.aload_n 0, 1) := by decide +kernel
theorem dX9_tap_1 : decode cX9_tap 1 = .ok (.iload_n 1, 1) := by decide +kernel
theorem dX9_tap_2 : decode cX9_tap 2 = .ok (.invokevirtual 78, 3) := by decide +kernel
theorem dX9_tap_5 : decode cX9_tap 5 = .ok (.astore 4, 2) := by decide +kernel
theorem dX9_tap_7 : decode cX9_tap 7 = .ok (.aload 4, 2) := by decide +kernel
theorem dX9_tap_9 : decode cX9_tap 9 = .ok (.ifnull 30, 3) := by decide +kernel
theorem dX9_tap_12 : decode cX9_tap 12 = .ok (.iload_n 2, 1) := by decide +kernel
theorem dX9_tap_13 : decode cX9_tap 13 = .ok (.invokestatic 150, 3) := by decide +kernel
theorem dX9_tap_16 : decode cX9_tap 16 = .ok (.ifCond .eq 23, 3) := by decide +kernel
theorem dX9_tap_19 : decode cX9_tap 19 = .ok (.iload_n 3, 1) := by decide +kernel
theorem dX9_tap_20 : decode cX9_tap 20 = .ok (.iconst 0, 1) := by decide +kernel
theorem dX9_tap_21 : decode cX9_tap 21 = .ok (.ldc 242, 2) := by decide +kernel
theorem dX9_tap_23 : decode cX9_tap 23 = .ok (.invokestatic 89, 3) := by decide +kernel
theorem dX9_tap_26 : decode cX9_tap 26 = .ok (.ifCond .eq 13, 3) := by decide +kernel
theorem dX9_tap_29 : decode cX9_tap 29 = .ok (.aload 4, 2) := by decide +kernel
theorem dX9_tap_31 : decode cX9_tap 31 = .ok (.getfield 200, 3) := by decide +kernel
theorem dX9_tap_34 : decode cX9_tap 34 = .ok (.bipush 12, 2) := by decide +kernel
theorem dX9_tap_36 : decode cX9_tap 36 = .ok (.if_icmp .lt 5, 3) := by decide +kernel
theorem dX9_tap_39 : decode cX9_tap 39 = .ok (.iconst (-1), 1) := by decide +kernel
theorem dX9_tap_40 : decode cX9_tap 40 = .ok (.ireturn, 1) := by decide +kernel
theorem dX9_tap_41 : decode cX9_tap 41 = .ok (.aload 4, 2) := by decide +kernel
theorem dX9_tap_43 : decode cX9_tap 43 = .ok (.iload_n 2, 1) := by decide +kernel
theorem dX9_tap_44 : decode cX9_tap 44 = .ok (.iload_n 3, 1) := by decide +kernel
theorem dX9_tap_45 : decode cX9_tap 45 = .ok (.invokevirtual 243, 3) := by decide +kernel
theorem dX9_tap_48 : decode cX9_tap 48 = .ok (.aload 4, 2) := by decide +kernel
theorem dX9_tap_50 : decode cX9_tap 50 = .ok (.getfield 200, 3) := by decide +kernel
theorem dX9_tap_53 : decode cX9_tap 53 = .ok (.ireturn, 1) := by decide +kernel
theorem dX9_fits_0 : decode cX9_fits 0 = .ok (.aload_n 0, 1) := by decide +kernel
theorem dX9_fits_1 : decode cX9_fits 1 = .ok (.iload_n 1, 1) := by decide +kernel
theorem dX9_fits_2 : decode cX9_fits 2 = .ok (.invokevirtual 78, 3) := by decide +kernel
theorem dX9_fits_5 : decode cX9_fits 5 = .ok (.astore 5, 2) := by decide +kernel
theorem dX9_fits_7 : decode cX9_fits 7 = .ok (.aload 5, 2) := by decide +kernel
theorem dX9_fits_9 : decode cX9_fits 9 = .ok (.ifnull 31, 3) := by decide +kernel
theorem dX9_fits_12 : decode cX9_fits 12 = .ok (.aload 5, 2) := by decide +kernel
theorem dX9_fits_14 : decode cX9_fits 14 = .ok (.getfield 187, 3) := by decide +kernel
theorem dX9_fits_17 : decode cX9_fits 17 = .ok (.iconst 5, 1) := by decide +kernel
theorem dX9_fits_18 : decode cX9_fits 18 = .ok (.if_icmp .gt 22, 3) := by decide +kernel
theorem dX9_fits_21 : decode cX9_fits 21 = .ok (.iload_n 2, 1) := by decide +kernel
theorem dX9_fits_22 : decode cX9_fits 22 = .ok (.iconst 1, 1) := by decide +kernel
theorem dX9_fits_23 : decode cX9_fits 23 = .ok (.iconst 4, 1) := by decide +kernel
theorem dX9_fits_24 : decode cX9_fits 24 = .ok (.invokestatic 89, 3) := by decide +kernel
theorem dX9_fits_27 : decode cX9_fits 27 = .ok (.ifCond .eq 13, 3) := by decide +kernel
theorem dX9_fits_30 : decode cX9_fits 30 = .ok (.iload_n 3, 1) := by decide +kernel
theorem dX9_fits_31 : decode cX9_fits 31 = .ok (.iconst 0, 1) := by decide +kernel
theorem dX9_fits_32 : decode cX9_fits 32 = .ok (.ldc 247, 2) := by decide +kernel
theorem dX9_fits_34 : decode cX9_fits 34 = .ok (.invokestatic 89, 3) := by decide +kernel
theorem dX9_fits_37 : decode cX9_fits 37 = .ok (.ifCond .ne 5, 3) := by decide +kernel
theorem dX9_fits_40 : decode cX9_fits 40 = .ok (.iconst (-1), 1) := by decide +kernel
theorem dX9_fits_41 : decode cX9_fits 41 = .ok (.ireturn, 1) := by decide +kernel
theorem dX9_fits_42 : decode cX9_fits 42 = .ok (.iload 4, 2) := by decide +kernel
theorem dX9_fits_44 : decode cX9_fits 44 = .ok (.bipush 10, 2) := by decide +kernel
theorem dX9_fits_46 : decode cX9_fits 46 = .ok (.isub, 1) := by decide +kernel
theorem dX9_fits_47 : decode cX9_fits 47 = .ok (.istore 6, 2) := by decide +kernel
theorem dX9_fits_49 : decode cX9_fits 49 = .ok (.iload 4, 2) := by decide +kernel
theorem dX9_fits_51 : decode cX9_fits 51 = .ok (.ifCond .eq 28, 3) := by decide +kernel
theorem dX9_fits_54 : decode cX9_fits 54 = .ok (.iload 4, 2) := by decide +kernel
theorem dX9_fits_56 : decode cX9_fits 56 = .ok (.iconst 1, 1) := by decide +kernel
theorem dX9_fits_57 : decode cX9_fits 57 = .ok (.if_icmp .eq 22, 3) := by decide +kernel
theorem dX9_fits_60 : decode cX9_fits 60 = .ok (.iload 4, 2) := by decide +kernel
theorem dX9_fits_62 : decode cX9_fits 62 = .ok (.bipush 10, 2) := by decide +kernel
theorem dX9_fits_64 : decode cX9_fits 64 = .ok (.if_icmp .lt 13, 3) := by decide +kernel
theorem dX9_fits_67 : decode cX9_fits 67 = .ok (.aload 5, 2) := by decide +kernel
theorem dX9_fits_69 : decode cX9_fits 69 = .ok (.iload 6, 2) := by decide +kernel
theorem dX9_fits_71 : decode cX9_fits 71 = .ok (.invokevirtual 82, 3) := by decide +kernel
theorem dX9_fits_74 : decode cX9_fits 74 = .ok (.ifCond .ne 5, 3) := by decide +kernel
theorem dX9_fits_77 : decode cX9_fits 77 = .ok (.iconst (-1), 1) := by decide +kernel
theorem dX9_fits_78 : decode cX9_fits 78 = .ok (.ireturn, 1) := by decide +kernel
theorem dX9_fits_79 : decode cX9_fits 79 = .ok (.aload_n 0, 1) := by decide +kernel
theorem dX9_fits_80 : decode cX9_fits 80 = .ok (.getfield 44, 3) := by decide +kernel
theorem dX9_fits_83 : decode cX9_fits 83 = .ok (.aload_n 0, 1) := by decide +kernel
theorem dX9_fits_84 : decode cX9_fits 84 = .ok (.getfield 30, 3) := by decide +kernel
theorem dX9_fits_87 : decode cX9_fits 87 = .ok (.aload_n 0, 1) := by decide +kernel
theorem dX9_fits_88 : decode cX9_fits 88 = .ok (.getfield 12, 3) := by decide +kernel
theorem dX9_fits_91 : decode cX9_fits 91 = .ok (.invokevirtual 212, 3) := by decide +kernel
theorem dX9_fits_94 : decode cX9_fits 94 = .ok (.aload 5, 2) := by decide +kernel
theorem dX9_fits_96 : decode cX9_fits 96 = .ok (.iload_n 2, 1) := by decide +kernel
theorem dX9_fits_97 : decode cX9_fits 97 = .ok (.iload_n 3, 1) := by decide +kernel
theorem dX9_fits_98 : decode cX9_fits 98 = .ok (.invokevirtual 248, 3) := by decide +kernel
theorem dX9_fits_101 : decode cX9_fits 101 = .ok (.istore 7, 2) := by decide +kernel
theorem dX9_fits_103 : decode cX9_fits 103 = .ok (.iload 4, 2) := by decide +kernel
theorem dX9_fits_105 : decode cX9_fits 105 = .ok (.ifCond .ne 6, 3) := by decide +kernel
theorem dX9_fits_108 : decode cX9_fits 108 = .ok (.iload 7, 2) := by decide +kernel
theorem dX9_fits_110 : decode cX9_fits 110 = .ok (.ireturn, 1) := by decide +kernel
theorem dX9_fits_111 : decode cX9_fits 111 = .ok (.iload 4, 2) := by decide +kernel
theorem dX9_fits_113 : decode cX9_fits 113 = .ok (.iconst 1, 1) := by decide +kernel
theorem dX9_fits_114 : decode cX9_fits 114 = .ok (.if_icmp .ne 26, 3) := by decide +kernel
theorem dX9_fits_117 : decode cX9_fits 117 = .ok (.aload_n 0, 1) := by decide +kernel
theorem dX9_fits_118 : decode cX9_fits 118 = .ok (.getfield 44, 3) := by decide +kernel
theorem dX9_fits_121 : decode cX9_fits 121 = .ok (.aload_n 0, 1) := by decide +kernel
theorem dX9_fits_122 : decode cX9_fits 122 = .ok (.getfield 30, 3) := by decide +kernel
theorem dX9_fits_125 : decode cX9_fits 125 = .ok (.aload_n 0, 1) := by decide +kernel
theorem dX9_fits_126 : decode cX9_fits 126 = .ok (.getfield 12, 3) := by decide +kernel
theorem dX9_fits_129 : decode cX9_fits 129 = .ok (.invokevirtual 212, 3) := by decide +kernel
theorem dX9_fits_132 : decode cX9_fits 132 = .ok (.aload 5, 2) := by decide +kernel
theorem dX9_fits_134 : decode cX9_fits 134 = .ok (.invokevirtual 251, 3) := by decide +kernel
theorem dX9_fits_137 : decode cX9_fits 137 = .ok (.goto 12, 3) := by decide +kernel
theorem dX9_fits_140 : decode cX9_fits 140 = .ok (.aload_n 0, 1) := by decide +kernel
theorem dX9_fits_141 : decode cX9_fits 141 = .ok (.getfield 44, 3) := by decide +kernel
theorem dX9_fits_144 : decode cX9_fits 144 = .ok (.iload 6, 2) := by decide +kernel
theorem dX9_fits_146 : decode cX9_fits 146 = .ok (.invokevirtual 255, 3) := by decide +kernel
theorem dX9_fits_149 : decode cX9_fits 149 = .ok (.ireturn, 1) := by decide +kernel
theorem dX9_off_0 : decode cX9_off 0 = .ok (.iload_n 1, 1) := by decide +kernel
theorem dX9_off_1 : decode cX9_off 1 = .ok (.iconst (-1), 1) := by decide +kernel
theorem dX9_off_2 : decode cX9_off 2 = .ok (.if_icmp .ne 38, 3) := by decide +kernel
theorem dX9_off_5 : decode cX9_off 5 = .ok (.aload_n 0, 1) := by decide +kernel
theorem dX9_off_6 : decode cX9_off 6 = .ok (.aload_n 0, 1) := by decide +kernel
theorem dX9_off_7 : decode cX9_off 7 = .ok (.getfield 12, 3) := by decide +kernel
theorem dX9_off_10 : decode cX9_off 10 = .ok (.getfield 158, 3) := by decide +kernel
theorem dX9_off_13 : decode cX9_off 13 = .ok (.iconst 1, 1) := by decide +kernel
theorem dX9_off_14 : decode cX9_off 14 = .ok (.aaload, 1) := by decide +kernel
theorem dX9_off_15 : decode cX9_off 15 = .ok (.invokevirtual 259, 3) := by decide +kernel
theorem dX9_off_18 : decode cX9_off 18 = .ok (.aload_n 0, 1) := by decide +kernel
theorem dX9_off_19 : decode cX9_off 19 = .ok (.aload_n 0, 1) := by decide +kernel
theorem dX9_off_20 : decode cX9_off 20 = .ok (.getfield 12, 3) := by decide +kernel
theorem dX9_off_23 : decode cX9_off 23 = .ok (.getfield 158, 3) := by decide +kernel
theorem dX9_off_26 : decode cX9_off 26 = .ok (.iconst 0, 1) := by decide +kernel
theorem dX9_off_27 : decode cX9_off 27 = .ok (.aaload, 1) := by decide +kernel
theorem dX9_off_28 : decode cX9_off 28 = .ok (.invokevirtual 259, 3) := by decide +kernel
theorem dX9_off_31 : decode cX9_off 31 = .ok (.if_icmp .ge 7, 3) := by decide +kernel
theorem dX9_off_34 : decode cX9_off 34 = .ok (.iconst 1, 1) := by decide +kernel
theorem dX9_off_35 : decode cX9_off 35 = .ok (.goto 4, 3) := by decide +kernel
theorem dX9_off_38 : decode cX9_off 38 = .ok (.iconst 0, 1) := by decide +kernel
theorem dX9_off_39 : decode cX9_off 39 = .ok (.ireturn, 1) := by decide +kernel
theorem dX9_off_40 : decode cX9_off 40 = .ok (.iload_n 1, 1) := by decide +kernel
theorem dX9_off_41 : decode cX9_off 41 = .ok (.iconst 0, 1) := by decide +kernel
theorem dX9_off_42 : decode cX9_off 42 = .ok (.iconst 1, 1) := by decide +kernel
theorem dX9_off_43 : decode cX9_off 43 = .ok (.invokestatic 89, 3) := by decide +kernel
theorem dX9_off_46 : decode cX9_off 46 = .ok (.ifCond .eq 19, 3) := by decide +kernel
theorem dX9_off_49 : decode cX9_off 49 = .ok (.aload_n 0, 1) := by decide +kernel
theorem dX9_off_50 : decode cX9_off 50 = .ok (.aload_n 0, 1) := by decide +kernel
theorem dX9_off_51 : decode cX9_off 51 = .ok (.getfield 12, 3) := by decide +kernel
theorem dX9_off_54 : decode cX9_off 54 = .ok (.getfield 158, 3) := by decide +kernel
theorem dX9_off_57 : decode cX9_off 57 = .ok (.iload_n 1, 1) := by decide +kernel
theorem dX9_off_58 : decode cX9_off 58 = .ok (.aaload, 1) := by decide +kernel
theorem dX9_off_59 : decode cX9_off 59 = .ok (.invokevirtual 259, 3) := by decide +kernel
theorem dX9_off_62 : decode cX9_off 62 = .ok (.goto 4, 3) := by decide +kernel
theorem dX9_off_65 : decode cX9_off 65 = .ok (.iconst (-1), 1) := by decide +kernel
theorem dX9_off_66 : decode cX9_off 66 = .ok (.ireturn, 1) := by decide +kernel
theorem dX9_still_0 : decode cX9_still 0 = .ok (.aload_n 0, 1) := by decide +kernel
theorem dX9_still_1 : decode cX9_still 1 = .ok (.iload_n 1, 1) := by decide +kernel
theorem dX9_still_2 : decode cX9_still 2 = .ok (.invokevirtual 78, 3) := by decide +kernel
theorem dX9_still_5 : decode cX9_still 5 = .ok (.astore 4, 2) := by decide +kernel
theorem dX9_still_7 : decode cX9_still 7 = .ok (.aload 4, 2) := by decide +kernel
theorem dX9_still_9 : decode cX9_still 9 = .ok (.ifnull 14, 3) := by decide +kernel
theorem dX9_still_12 : decode cX9_still 12 = .ok (.iload_n 2, 1) := by decide +kernel
theorem dX9_still_13 : decode cX9_still 13 = .ok (.invokestatic 150, 3) := by decide +kernel
theorem dX9_still_16 : decode cX9_still 16 = .ok (.ifCond .eq 7, 3) := by decide +kernel
theorem dX9_still_19 : decode cX9_still 19 = .ok (.iload_n 3, 1) := by decide +kernel
theorem dX9_still_20 : decode cX9_still 20 = .ok (.ifCond .ge 5, 3) := by decide +kernel
theorem dX9_still_23 : decode cX9_still 23 = .ok (.iconst (-1), 1) := by decide +kernel
theorem dX9_still_24 : decode cX9_still 24 = .ok (.ireturn, 1) := by decide +kernel
theorem dX9_still_25 : decode cX9_still 25 = .ok (.aload_n 0, 1) := by decide +kernel
theorem dX9_still_26 : decode cX9_still 26 = .ok (.aload 4, 2) := by decide +kernel
theorem dX9_still_28 : decode cX9_still 28 = .ok (.iload_n 2, 1) := by decide +kernel
theorem dX9_still_29 : decode cX9_still 29 = .ok (.invokevirtual 263, 3) := by decide +kernel
theorem dX9_still_32 : decode cX9_still 32 = .ok (.istore 5, 2) := by decide +kernel
theorem dX9_still_34 : decode cX9_still 34 = .ok (.iload_n 3, 1) := by decide +kernel
theorem dX9_still_35 : decode cX9_still 35 = .ok (.ifCond .ne 6, 3) := by decide +kernel
theorem dX9_still_38 : decode cX9_still 38 = .ok (.iload 5, 2) := by decide +kernel
theorem dX9_still_40 : decode cX9_still 40 = .ok (.ireturn, 1) := by decide +kernel
theorem dX9_still_41 : decode cX9_still 41 = .ok (.iload_n 3, 1) := by decide +kernel
theorem dX9_still_42 : decode cX9_still 42 = .ok (.iload 5, 2) := by decide +kernel
theorem dX9_still_44 : decode cX9_still 44 = .ok (.if_icmp .gt 14, 3) := by decide +kernel
theorem dX9_still_47 : decode cX9_still 47 = .ok (.aload_n 0, 1) := by decide +kernel
theorem dX9_still_48 : decode cX9_still 48 = .ok (.getfield 58, 3) := by decide +kernel
theorem dX9_still_51 : decode cX9_still 51 = .ok (.iload_n 3, 1) := by decide +kernel
theorem dX9_still_52 : decode cX9_still 52 = .ok (.iconst 1, 1) := by decide +kernel
theorem dX9_still_53 : decode cX9_still 53 = .ok (.isub, 1) := by decide +kernel
theorem dX9_still_54 : decode cX9_still 54 = .ok (.iaload, 1) := by decide +kernel
theorem dX9_still_55 : decode cX9_still 55 = .ok (.goto 4, 3) := by decide +kernel
theorem dX9_still_58 : decode cX9_still 58 = .ok (.iconst (-1), 1) := by decide +kernel
theorem dX9_still_59 : decode cX9_still 59 = .ok (.ireturn, 1) := by decide +kernel
theorem dX9_holes_0 : decode cX9_holes 0 = .ok (.aload_n 0, 1) := by decide +kernel
theorem dX9_holes_1 : decode cX9_holes 1 = .ok (.iload_n 1, 1) := by decide +kernel
theorem dX9_holes_2 : decode cX9_holes 2 = .ok (.invokevirtual 78, 3) := by decide +kernel
theorem dX9_holes_5 : decode cX9_holes 5 = .ok (.astore 4, 2) := by decide +kernel
theorem dX9_holes_7 : decode cX9_holes 7 = .ok (.aload 4, 2) := by decide +kernel
theorem dX9_holes_9 : decode cX9_holes 9 = .ok (.ifnull 26, 3) := by decide +kernel
theorem dX9_holes_12 : decode cX9_holes 12 = .ok (.aload 4, 2) := by decide +kernel
theorem dX9_holes_14 : decode cX9_holes 14 = .ok (.iload_n 2, 1) := by decide +kernel
theorem dX9_holes_15 : decode cX9_holes 15 = .ok (.invokevirtual 82, 3) := by decide +kernel
theorem dX9_holes_18 : decode cX9_holes 18 = .ok (.ifCond .eq 17, 3) := by decide +kernel
theorem dX9_holes_21 : decode cX9_holes 21 = .ok (.aload 4, 2) := by decide +kernel
theorem dX9_holes_23 : decode cX9_holes 23 = .ok (.iload_n 3, 1) := by decide +kernel
theorem dX9_holes_24 : decode cX9_holes 24 = .ok (.invokevirtual 82, 3) := by decide +kernel
theorem dX9_holes_27 : decode cX9_holes 27 = .ok (.ifCond .eq 8, 3) := by decide +kernel
theorem dX9_holes_30 : decode cX9_holes 30 = .ok (.iload_n 2, 1) := by decide +kernel
theorem dX9_holes_31 : decode cX9_holes 31 = .ok (.iload_n 3, 1) := by decide +kernel
theorem dX9_holes_32 : decode cX9_holes 32 = .ok (.if_icmp .lt 5, 3) := by decide +kernel
theorem dX9_holes_35 : decode cX9_holes 35 = .ok (.iconst 0, 1) := by decide +kernel
theorem dX9_holes_36 : decode cX9_holes 36 = .ok (.ireturn, 1) := by decide +kernel
theorem dX9_holes_37 : decode cX9_holes 37 = .ok (.aload 4, 2) := by decide +kernel
theorem dX9_holes_39 : decode cX9_holes 39 = .ok (.iload_n 2, 1) := by decide +kernel
theorem dX9_holes_40 : decode cX9_holes 40 = .ok (.putfield 266, 3) := by decide +kernel
theorem dX9_holes_43 : decode cX9_holes 43 = .ok (.aload 4, 2) := by decide +kernel
theorem dX9_holes_45 : decode cX9_holes 45 = .ok (.iload_n 3, 1) := by decide +kernel
theorem dX9_holes_46 : decode cX9_holes 46 = .ok (.putfield 269, 3) := by decide +kernel
theorem dX9_holes_49 : decode cX9_holes 49 = .ok (.iconst 1, 1) := by decide +kernel
theorem dX9_holes_50 : decode cX9_holes 50 = .ok (.ireturn, 1) := by decide +kernel
theorem dX9_tube_0 : decode cX9_tube 0 = .ok (.aload_n 0, 1) := by decide +kernel
theorem dX9_tube_1 : decode cX9_tube 1 = .ok (.iload_n 1, 1) := by decide +kernel
theorem dX9_tube_2 : decode cX9_tube 2 = .ok (.invokevirtual 78, 3) := by decide +kernel
theorem dX9_tube_5 : decode cX9_tube 5 = .ok (.astore 4, 2) := by decide +kernel
theorem dX9_tube_7 : decode cX9_tube 7 = .ok (.aload 4, 2) := by decide +kernel
theorem dX9_tube_9 : decode cX9_tube 9 = .ok (.ifnull 23, 3) := by decide +kernel
theorem dX9_tube_12 : decode cX9_tube 12 = .ok (.iload_n 2, 1) := by decide +kernel
theorem dX9_tube_13 : decode cX9_tube 13 = .ok (.iconst 0, 1) := by decide +kernel
theorem dX9_tube_14 : decode cX9_tube 14 = .ok (.iconst 1, 1) := by decide +kernel
theorem dX9_tube_15 : decode cX9_tube 15 = .ok (.invokestatic 89, 3) := by decide +kernel
theorem dX9_tube_18 : decode cX9_tube 18 = .ok (.ifCond .eq 14, 3) := by decide +kernel
theorem dX9_tube_21 : decode cX9_tube 21 = .ok (.iload_n 3, 1) := by decide +kernel
theorem dX9_tube_22 : decode cX9_tube 22 = .ok (.iconst 1, 1) := by decide +kernel
theorem dX9_tube_23 : decode cX9_tube 23 = .ok (.sipush 9999, 3) := by decide +kernel
theorem dX9_tube_26 : decode cX9_tube 26 = .ok (.invokestatic 89, 3) := by decide +kernel
theorem dX9_tube_29 : decode cX9_tube 29 = .ok (.ifCond .ne 5, 3) := by decide +kernel
theorem dX9_tube_32 : decode cX9_tube 32 = .ok (.iconst 0, 1) := by decide +kernel
theorem dX9_tube_33 : decode cX9_tube 33 = .ok (.ireturn, 1) := by decide +kernel
theorem dX9_tube_34 : decode cX9_tube 34 = .ok (.aload 4, 2) := by decide +kernel
theorem dX9_tube_36 : decode cX9_tube 36 = .ok (.getfield 272, 3) := by decide +kernel
theorem dX9_tube_39 : decode cX9_tube 39 = .ok (.iload_n 2, 1) := by decide +kernel
theorem dX9_tube_40 : decode cX9_tube 40 = .ok (.iload_n 3, 1) := by decide +kernel
theorem dX9_tube_41 : decode cX9_tube 41 = .ok (.iastore, 1) := by decide +kernel
theorem dX9_tube_42 : decode cX9_tube 42 = .ok (.iconst 1, 1) := by decide +kernel
theorem dX9_tube_43 : decode cX9_tube 43 = .ok (.ireturn, 1) := by decide +kernel
theorem dX9_in_0 : decode cX9_in 0 = .ok (.aload_n 0, 1) := by decide +kernel
theorem dX9_in_1 : decode cX9_in 1 = .ok (.iload_n 1, 1) := by decide +kernel
theorem dX9_in_2 : decode cX9_in 2 = .ok (.invokevirtual 78, 3) := by decide +kernel
theorem dX9_in_5 : decode cX9_in 5 = .ok (.astore 5, 2) := by decide +kernel
theorem dX9_in_7 : decode cX9_in 7 = .ok (.aload 5, 2) := by decide +kernel
theorem dX9_in_9 : decode cX9_in 9 = .ok (.ifnull 21, 3) := by decide +kernel
theorem dX9_in_12 : decode cX9_in 12 = .ok (.iload_n 2, 1) := by decide +kernel
theorem dX9_in_13 : decode cX9_in 13 = .ok (.iload_n 3, 1) := by decide +kernel
theorem dX9_in_14 : decode cX9_in 14 = .ok (.invokestatic 275, 3) := by decide +kernel
theorem dX9_in_17 : decode cX9_in 17 = .ok (.ifCond .eq 13, 3) := by decide +kernel
theorem dX9_in_20 : decode cX9_in 20 = .ok (.iload 4, 2) := by decide +kernel
theorem dX9_in_22 : decode cX9_in 22 = .ok (.iconst 0, 1) := by decide +kernel
theorem dX9_in_23 : decode cX9_in 23 = .ok (.iconst 3, 1) := by decide +kernel
theorem dX9_in_24 : decode cX9_in 24 = .ok (.invokestatic 89, 3) := by decide +kernel
theorem dX9_in_27 : decode cX9_in 27 = .ok (.ifCond .ne 5, 3) := by decide +kernel
theorem dX9_in_30 : decode cX9_in 30 = .ok (.iconst (-1), 1) := by decide +kernel
theorem dX9_in_31 : decode cX9_in 31 = .ok (.ireturn, 1) := by decide +kernel
theorem dX9_in_32 : decode cX9_in 32 = .ok (.aload_n 0, 1) := by decide +kernel
theorem dX9_in_33 : decode cX9_in 33 = .ok (.aload 5, 2) := by decide +kernel
theorem dX9_in_35 : decode cX9_in 35 = .ok (.iconst 0, 1) := by decide +kernel
theorem dX9_in_36 : decode cX9_in 36 = .ok (.invokevirtual 166, 3) := by decide +kernel
theorem dX9_in_39 : decode cX9_in 39 = .ok (.aload_n 0, 1) := by decide +kernel
theorem dX9_in_40 : decode cX9_in 40 = .ok (.iload_n 2, 1) := by decide +kernel
theorem dX9_in_41 : decode cX9_in 41 = .ok (.iload_n 3, 1) := by decide +kernel
theorem dX9_in_42 : decode cX9_in 42 = .ok (.invokevirtual 279, 3) := by decide +kernel
theorem dX9_in_45 : decode cX9_in 45 = .ok (.invokestatic 283, 3) := by decide +kernel
theorem dX9_in_48 : decode cX9_in 48 = .ok (.istore 6, 2) := by decide +kernel
theorem dX9_in_50 : decode cX9_in 50 = .ok (.iload 4, 2) := by decide +kernel
theorem dX9_in_52 : decode cX9_in 52 = .ok (.tableswitch 51 0 2 #[28, 31, 41], 28) := by decide +kernel
theorem dX9_in_80 : decode cX9_in 80 = .ok (.iload 6, 2) := by decide +kernel
theorem dX9_in_82 : decode cX9_in 82 = .ok (.ireturn, 1) := by decide +kernel
theorem dX9_in_83 : decode cX9_in 83 = .ok (.aload 5, 2) := by decide +kernel
theorem dX9_in_85 : decode cX9_in 85 = .ok (.iconst 0, 1) := by decide +kernel
theorem dX9_in_86 : decode cX9_in 86 = .ok (.iload_n 2, 1) := by decide +kernel
theorem dX9_in_87 : decode cX9_in 87 = .ok (.iload 6, 2) := by decide +kernel
theorem dX9_in_89 : decode cX9_in 89 = .ok (.invokestatic 286, 3) := by decide +kernel
theorem dX9_in_92 : decode cX9_in 92 = .ok (.ireturn, 1) := by decide +kernel
theorem dX9_in_93 : decode cX9_in 93 = .ok (.aload 5, 2) := by decide +kernel
theorem dX9_in_95 : decode cX9_in 95 = .ok (.iconst 1, 1) := by decide +kernel
theorem dX9_in_96 : decode cX9_in 96 = .ok (.iload_n 2, 1) := by decide +kernel
theorem dX9_in_97 : decode cX9_in 97 = .ok (.iload 6, 2) := by decide +kernel
theorem dX9_in_99 : decode cX9_in 99 = .ok (.invokestatic 286, 3) := by decide +kernel
theorem dX9_in_102 : decode cX9_in 102 = .ok (.ireturn, 1) := by decide +kernel
theorem dX9_in_103 : decode cX9_in 103 = .ok (.iload_n 2, 1) := by decide +kernel
theorem dX9_in_104 : decode cX9_in 104 = .ok (.iload 6, 2) := by decide +kernel
theorem dX9_in_106 : decode cX9_in 106 = .ok (.invokestatic 290, 3) := by decide +kernel
theorem dX9_in_109 : decode cX9_in 109 = .ok (.ireturn, 1) := by decide +kernel
theorem dX9_night_0 : decode cX9_night 0 = .ok (.iload_n 1, 1) := by decide +kernel
theorem dX9_night_1 : decode cX9_night 1 = .ok (.iload_n 2, 1) := by decide +kernel
theorem dX9_night_2 : decode cX9_night 2 = .ok (.invokestatic 275, 3) := by decide +kernel
theorem dX9_night_5 : decode cX9_night 5 = .ok (.ifCond .eq 15, 3) := by decide +kernel
theorem dX9_night_8 : decode cX9_night 8 = .ok (.aload_n 0, 1) := by decide +kernel
theorem dX9_night_9 : decode cX9_night 9 = .ok (.getfield 12, 3) := by decide +kernel
theorem dX9_night_12 : decode cX9_night 12 = .ok (.getfield 293, 3) := by decide +kernel
theorem dX9_night_15 : decode cX9_night 15 = .ok (.bipush 20, 2) := by decide +kernel
theorem dX9_night_17 : decode cX9_night 17 = .ok (.if_icmp .lt 5, 3) := by decide +kernel
theorem dX9_night_20 : decode cX9_night 20 = .ok (.iconst (-1), 1) := by decide +kernel
theorem dX9_night_21 : decode cX9_night 21 = .ok (.ireturn, 1) := by decide +kernel
theorem dX9_night_22 : decode cX9_night 22 = .ok (.aload_n 0, 1) := by decide +kernel
theorem dX9_night_23 : decode cX9_night 23 = .ok (.getfield 12, 3) := by decide +kernel
theorem dX9_night_26 : decode cX9_night 26 = .ok (.getfield 296, 3) := by decide +kernel
theorem dX9_night_29 : decode cX9_night 29 = .ok (.aload_n 0, 1) := by decide +kernel
theorem dX9_night_30 : decode cX9_night 30 = .ok (.getfield 12, 3) := by decide +kernel
theorem dX9_night_33 : decode cX9_night 33 = .ok (.getfield 293, 3) := by decide +kernel
theorem dX9_night_36 : decode cX9_night 36 = .ok (.iload_n 1, 1) := by decide +kernel
theorem dX9_night_37 : decode cX9_night 37 = .ok (.iastore, 1) := by decide +kernel
theorem dX9_night_38 : decode cX9_night 38 = .ok (.aload_n 0, 1) := by decide +kernel
theorem dX9_night_39 : decode cX9_night 39 = .ok (.getfield 12, 3) := by decide +kernel
theorem dX9_night_42 : decode cX9_night 42 = .ok (.getfield 299, 3) := by decide +kernel
theorem dX9_night_45 : decode cX9_night 45 = .ok (.aload_n 0, 1) := by decide +kernel
theorem dX9_night_46 : decode cX9_night 46 = .ok (.getfield 12, 3) := by decide +kernel
theorem dX9_night_49 : decode cX9_night 49 = .ok (.getfield 293, 3) := by decide +kernel
theorem dX9_night_52 : decode cX9_night 52 = .ok (.iload_n 2, 1) := by decide +kernel
theorem dX9_night_53 : decode cX9_night 53 = .ok (.iastore, 1) := by decide +kernel
theorem dX9_night_54 : decode cX9_night 54 = .ok (.aload_n 0, 1) := by decide +kernel
theorem dX9_night_55 : decode cX9_night 55 = .ok (.getfield 12, 3) := by decide +kernel
theorem dX9_night_58 : decode cX9_night 58 = .ok (.dup, 1) := by decide +kernel
theorem dX9_night_59 : decode cX9_night 59 = .ok (.getfield 293, 3) := by decide +kernel
theorem dX9_night_62 : decode cX9_night 62 = .ok (.iconst 1, 1) := by decide +kernel
theorem dX9_night_63 : decode cX9_night 63 = .ok (.iadd, 1) := by decide +kernel
theorem dX9_night_64 : decode cX9_night 64 = .ok (.putfield 293, 3) := by decide +kernel
theorem dX9_night_67 : decode cX9_night 67 = .ok (.aload_n 0, 1) := by decide +kernel
theorem dX9_night_68 : decode cX9_night 68 = .ok (.getfield 12, 3) := by decide +kernel
theorem dX9_night_71 : decode cX9_night 71 = .ok (.getfield 293, 3) := by decide +kernel
theorem dX9_night_74 : decode cX9_night 74 = .ok (.iconst 1, 1) := by decide +kernel
theorem dX9_night_75 : decode cX9_night 75 = .ok (.isub, 1) := by decide +kernel
theorem dX9_night_76 : decode cX9_night 76 = .ok (.ireturn, 1) := by decide +kernel
theorem dX9_nights_0 : decode cX9_nights 0 = .ok (.iload_n 1, 1) := by decide +kernel
theorem dX9_nights_1 : decode cX9_nights 1 = .ok (.iconst (-1), 1) := by decide +kernel
theorem dX9_nights_2 : decode cX9_nights 2 = .ok (.if_icmp .eq 32, 3) := by decide +kernel
theorem dX9_nights_5 : decode cX9_nights 5 = .ok (.iload_n 1, 1) := by decide +kernel
theorem dX9_nights_6 : decode cX9_nights 6 = .ok (.iconst 0, 1) := by decide +kernel
theorem dX9_nights_7 : decode cX9_nights 7 = .ok (.aload_n 0, 1) := by decide +kernel
theorem dX9_nights_8 : decode cX9_nights 8 = .ok (.getfield 12, 3) := by decide +kernel
theorem dX9_nights_11 : decode cX9_nights 11 = .ok (.getfield 293, 3) := by decide +kernel
theorem dX9_nights_14 : decode cX9_nights 14 = .ok (.iconst 1, 1) := by decide +kernel
