theorem dX10_isBar_0 : decode cX10_isBar 0 = .ok (.iload_n 1, 1) := by decide +kernel
theorem dX10_isBar_1 : decode cX10_isBar 1 = .ok (.ifCond .lt 15, 3) := by decide +kernel
theorem dX10_isBar_4 : decode cX10_isBar 4 = .ok (.iload_n 1, 1) := by decide +kernel
theorem dX10_isBar_5 : decode cX10_isBar 5 = .ok (.aload_n 0, 1) := by decide +kernel
theorem dX10_isBar_6 : decode cX10_isBar 6 = .ok (.getfield 170, 3) := by decide +kernel
theorem dX10_isBar_9 : decode cX10_isBar 9 = .ok (.if_icmp .ge 7, 3) := by decide +kernel
theorem dX10_isBar_12 : decode cX10_isBar 12 = .ok (.iconst 1, 1) := by decide +kernel
theorem dX10_isBar_13 : decode cX10_isBar 13 = .ok (.goto 4, 3) := by decide +kernel
theorem dX10_isBar_16 : decode cX10_isBar 16 = .ok (.iconst 0, 1) := by decide +kernel
theorem dX10_isBar_17 : decode cX10_isBar 17 = .ok (.ireturn, 1) := by decide +kernel
theorem dX10_isSlice_0 : decode cX10_isSlice 0 = .ok (.aload_n 0, 1) := by decide +kernel
theorem dX10_isSlice_1 : decode cX10_isSlice 1 = .ok (.iload_n 1, 1) := by decide +kernel
theorem dX10_isSlice_2 : decode cX10_isSlice 2 = .ok (.invokevirtual 173, 3) := by decide +kernel
theorem dX10_isSlice_5 : decode cX10_isSlice 5 = .ok (.ifCond .eq 21, 3) := by decide +kernel
theorem dX10_isSlice_8 : decode cX10_isSlice 8 = .ok (.iload_n 2, 1) := by decide +kernel
theorem dX10_isSlice_9 : decode cX10_isSlice 9 = .ok (.ifCond .lt 17, 3) := by decide +kernel
theorem dX10_isSlice_12 : decode cX10_isSlice 12 = .ok (.iload_n 2, 1) := by decide +kernel
theorem dX10_isSlice_13 : decode cX10_isSlice 13 = .ok (.aload_n 0, 1) := by decide +kernel
theorem dX10_isSlice_14 : decode cX10_isSlice 14 = .ok (.getfield 13, 3) := by decide +kernel
theorem dX10_isSlice_17 : decode cX10_isSlice 17 = .ok (.iload_n 1, 1) := by decide +kernel
theorem dX10_isSlice_18 : decode cX10_isSlice 18 = .ok (.iaload, 1) := by decide +kernel
theorem dX10_isSlice_19 : decode cX10_isSlice 19 = .ok (.if_icmp .ge 7, 3) := by decide +kernel
theorem dX10_isSlice_22 : decode cX10_isSlice 22 = .ok (.iconst 1, 1) := by decide +kernel
theorem dX10_isSlice_23 : decode cX10_isSlice 23 = .ok (.goto 4, 3) := by decide +kernel
theorem dX10_isSlice_26 : decode cX10_isSlice 26 = .ok (.iconst 0, 1) := by decide +kernel
theorem dX10_isSlice_27 : decode cX10_isSlice 27 = .ok (.ireturn, 1) := by decide +kernel
theorem dX10_bar_0 : decode cX10_bar 0 = .ok (.aload_n 0, 1) := by decide +kernel
theorem dX10_bar_1 : decode cX10_bar 1 = .ok (.iconst 0, 1) := by decide +kernel
theorem dX10_bar_2 : decode cX10_bar 2 = .ok (.putfield 167, 3) := by decide +kernel
theorem dX10_bar_5 : decode cX10_bar 5 = .ok (.aload_n 0, 1) := by decide +kernel
theorem dX10_bar_6 : decode cX10_bar 6 = .ok (.iload_n 1, 1) := by decide +kernel
theorem dX10_bar_7 : decode cX10_bar 7 = .ok (.iconst 3, 1) := by decide +kernel
theorem dX10_bar_8 : decode cX10_bar 8 = .ok (.bipush 16, 2) := by decide +kernel
theorem dX10_bar_10 : decode cX10_bar 10 = .ok (.invokevirtual 177, 3) := by decide +kernel
theorem dX10_bar_13 : decode cX10_bar 13 = .ok (.ifCond .eq 12, 3) := by decide +kernel
theorem dX10_bar_16 : decode cX10_bar 16 = .ok (.aload_n 0, 1) := by decide +kernel
theorem dX10_bar_17 : decode cX10_bar 17 = .ok (.getfield 170, 3) := by decide +kernel
theorem dX10_bar_20 : decode cX10_bar 20 = .ok (.bipush 10, 2) := by decide +kernel
theorem dX10_bar_22 : decode cX10_bar 22 = .ok (.if_icmp .ne 5, 3) := by decide +kernel
theorem dX10_bar_25 : decode cX10_bar 25 = .ok (.iconst (-1), 1) := by decide +kernel
theorem dX10_bar_26 : decode cX10_bar 26 = .ok (.ireturn, 1) := by decide +kernel
theorem dX10_bar_27 : decode cX10_bar 27 = .ok (.aload_n 0, 1) := by decide +kernel
theorem dX10_bar_28 : decode cX10_bar 28 = .ok (.getfield 13, 3) := by decide +kernel
theorem dX10_bar_31 : decode cX10_bar 31 = .ok (.aload_n 0, 1) := by decide +kernel
theorem dX10_bar_32 : decode cX10_bar 32 = .ok (.getfield 170, 3) := by decide +kernel
theorem dX10_bar_35 : decode cX10_bar 35 = .ok (.iload_n 1, 1) := by decide +kernel
theorem dX10_bar_36 : decode cX10_bar 36 = .ok (.iastore, 1) := by decide +kernel
theorem dX10_bar_37 : decode cX10_bar 37 = .ok (.bipush 16, 2) := by decide +kernel
theorem dX10_bar_39 : decode cX10_bar 39 = .ok (.aload_n 0, 1) := by decide +kernel
theorem dX10_bar_40 : decode cX10_bar 40 = .ok (.getfield 170, 3) := by decide +kernel
theorem dX10_bar_43 : decode cX10_bar 43 = .ok (.imul, 1) := by decide +kernel
theorem dX10_bar_44 : decode cX10_bar 44 = .ok (.istore_n 2, 1) := by decide +kernel
theorem dX10_bar_45 : decode cX10_bar 45 = .ok (.iload_n 2, 1) := by decide +kernel
theorem dX10_bar_46 : decode cX10_bar 46 = .ok (.bipush 16, 2) := by decide +kernel
theorem dX10_bar_48 : decode cX10_bar 48 = .ok (.aload_n 0, 1) := by decide +kernel
theorem dX10_bar_49 : decode cX10_bar 49 = .ok (.getfield 170, 3) := by decide +kernel
theorem dX10_bar_52 : decode cX10_bar 52 = .ok (.imul, 1) := by decide +kernel
theorem dX10_bar_53 : decode cX10_bar 53 = .ok (.bipush 16, 2) := by decide +kernel
theorem dX10_bar_55 : decode cX10_bar 55 = .ok (.iadd, 1) := by decide +kernel
theorem dX10_bar_56 : decode cX10_bar 56 = .ok (.if_icmp .ge 38, 3) := by decide +kernel
theorem dX10_bar_59 : decode cX10_bar 59 = .ok (.aload_n 0, 1) := by decide +kernel
theorem dX10_bar_60 : decode cX10_bar 60 = .ok (.getfield 17, 3) := by decide +kernel
theorem dX10_bar_63 : decode cX10_bar 63 = .ok (.iload_n 2, 1) := by decide +kernel
theorem dX10_bar_64 : decode cX10_bar 64 = .ok (.bipush 20, 2) := by decide +kernel
theorem dX10_bar_66 : decode cX10_bar 66 = .ok (.iastore, 1) := by decide +kernel
theorem dX10_bar_67 : decode cX10_bar 67 = .ok (.aload_n 0, 1) := by decide +kernel
theorem dX10_bar_68 : decode cX10_bar 68 = .ok (.getfield 20, 3) := by decide +kernel
theorem dX10_bar_71 : decode cX10_bar 71 = .ok (.iload_n 2, 1) := by decide +kernel
theorem dX10_bar_72 : decode cX10_bar 72 = .ok (.iconst 5, 1) := by decide +kernel
theorem dX10_bar_73 : decode cX10_bar 73 = .ok (.iastore, 1) := by decide +kernel
theorem dX10_bar_74 : decode cX10_bar 74 = .ok (.aload_n 0, 1) := by decide +kernel
theorem dX10_bar_75 : decode cX10_bar 75 = .ok (.getfield 23, 3) := by decide +kernel
theorem dX10_bar_78 : decode cX10_bar 78 = .ok (.iload_n 2, 1) := by decide +kernel
theorem dX10_bar_79 : decode cX10_bar 79 = .ok (.iconst 5, 1) := by decide +kernel
theorem dX10_bar_80 : decode cX10_bar 80 = .ok (.iastore, 1) := by decide +kernel
theorem dX10_bar_81 : decode cX10_bar 81 = .ok (.aload_n 0, 1) := by decide +kernel
theorem dX10_bar_82 : decode cX10_bar 82 = .ok (.getfield 26, 3) := by decide +kernel
theorem dX10_bar_85 : decode cX10_bar 85 = .ok (.iload_n 2, 1) := by decide +kernel
theorem dX10_bar_86 : decode cX10_bar 86 = .ok (.iconst 0, 1) := by decide +kernel
theorem dX10_bar_87 : decode cX10_bar 87 = .ok (.iastore, 1) := by decide +kernel
theorem dX10_bar_88 : decode cX10_bar 88 = .ok (.iinc 2 1, 3) := by decide +kernel
theorem dX10_bar_91 : decode cX10_bar 91 = .ok (.goto (-46), 3) := by decide +kernel
theorem dX10_bar_94 : decode cX10_bar 94 = .ok (.aload_n 0, 1) := by decide +kernel
theorem dX10_bar_95 : decode cX10_bar 95 = .ok (.getfield 50, 3) := by decide +kernel
theorem dX10_bar_98 : decode cX10_bar 98 = .ok (.iconst 2, 1) := by decide +kernel
theorem dX10_bar_99 : decode cX10_bar 99 = .ok (.aload_n 0, 1) := by decide +kernel
theorem dX10_bar_100 : decode cX10_bar 100 = .ok (.getfield 170, 3) := by decide +kernel
theorem dX10_bar_103 : decode cX10_bar 103 = .ok (.imul, 1) := by decide +kernel
theorem dX10_bar_104 : decode cX10_bar 104 = .ok (.sipush 500, 3) := by decide +kernel
theorem dX10_bar_107 : decode cX10_bar 107 = .ok (.iastore, 1) := by decide +kernel
theorem dX10_bar_108 : decode cX10_bar 108 = .ok (.aload_n 0, 1) := by decide +kernel
theorem dX10_bar_109 : decode cX10_bar 109 = .ok (.getfield 50, 3) := by decide +kernel
theorem dX10_bar_112 : decode cX10_bar 112 = .ok (.iconst 2, 1) := by decide +kernel
theorem dX10_bar_113 : decode cX10_bar 113 = .ok (.aload_n 0, 1) := by decide +kernel
theorem dX10_bar_114 : decode cX10_bar 114 = .ok (.getfield 170, 3) := by decide +kernel
theorem dX10_bar_117 : decode cX10_bar 117 = .ok (.imul, 1) := by decide +kernel
theorem dX10_bar_118 : decode cX10_bar 118 = .ok (.iconst 1, 1) := by decide +kernel
theorem dX10_bar_119 : decode cX10_bar 119 = .ok (.iadd, 1) := by decide +kernel
theorem dX10_bar_120 : decode cX10_bar 120 = .ok (.sipush 500, 3) := by decide +kernel
theorem dX10_bar_123 : decode cX10_bar 123 = .ok (.iastore, 1) := by decide +kernel
theorem dX10_bar_124 : decode cX10_bar 124 = .ok (.aload_n 0, 1) := by decide +kernel
theorem dX10_bar_125 : decode cX10_bar 125 = .ok (.aload_n 0, 1) := by decide +kernel
theorem dX10_bar_126 : decode cX10_bar 126 = .ok (.getfield 170, 3) := by decide +kernel
theorem dX10_bar_129 : decode cX10_bar 129 = .ok (.iconst 1, 1) := by decide +kernel
theorem dX10_bar_130 : decode cX10_bar 130 = .ok (.iadd, 1) := by decide +kernel
theorem dX10_bar_131 : decode cX10_bar 131 = .ok (.putfield 170, 3) := by decide +kernel
theorem dX10_bar_134 : decode cX10_bar 134 = .ok (.aload_n 0, 1) := by decide +kernel
theorem dX10_bar_135 : decode cX10_bar 135 = .ok (.getfield 170, 3) := by decide +kernel
theorem dX10_bar_138 : decode cX10_bar 138 = .ok (.iconst 1, 1) := by decide +kernel
theorem dX10_bar_139 : decode cX10_bar 139 = .ok (.isub, 1) := by decide +kernel
theorem dX10_bar_140 : decode cX10_bar 140 = .ok (.ireturn, 1) := by decide +kernel
theorem dX10_slice_0 : decode cX10_slice 0 = .ok (.aload_n 0, 1) := by decide +kernel
theorem dX10_slice_1 : decode cX10_slice 1 = .ok (.iconst 0, 1) := by decide +kernel
theorem dX10_slice_2 : decode cX10_slice 2 = .ok (.putfield 167, 3) := by decide +kernel
theorem dX10_slice_5 : decode cX10_slice 5 = .ok (.aload_n 0, 1) := by decide +kernel
theorem dX10_slice_6 : decode cX10_slice 6 = .ok (.iload_n 1, 1) := by decide +kernel
theorem dX10_slice_7 : decode cX10_slice 7 = .ok (.iload_n 2, 1) := by decide +kernel
theorem dX10_slice_8 : decode cX10_slice 8 = .ok (.invokevirtual 181, 3) := by decide +kernel
theorem dX10_slice_11 : decode cX10_slice 11 = .ok (.ifCond .eq 47, 3) := by decide +kernel
theorem dX10_slice_14 : decode cX10_slice 14 = .ok (.aload_n 0, 1) := by decide +kernel
theorem dX10_slice_15 : decode cX10_slice 15 = .ok (.getfield 32, 3) := by decide +kernel
theorem dX10_slice_18 : decode cX10_slice 18 = .ok (.iload_n 1, 1) := by decide +kernel
theorem dX10_slice_19 : decode cX10_slice 19 = .ok (.iaload, 1) := by decide +kernel
theorem dX10_slice_20 : decode cX10_slice 20 = .ok (.ifCond .gt 38, 3) := by decide +kernel
theorem dX10_slice_23 : decode cX10_slice 23 = .ok (.aload_n 0, 1) := by decide +kernel
theorem dX10_slice_24 : decode cX10_slice 24 = .ok (.iload_n 3, 1) := by decide +kernel
theorem dX10_slice_25 : decode cX10_slice 25 = .ok (.iconst 1, 1) := by decide +kernel
theorem dX10_slice_26 : decode cX10_slice 26 = .ok (.bipush 99, 2) := by decide +kernel
theorem dX10_slice_28 : decode cX10_slice 28 = .ok (.invokevirtual 177, 3) := by decide +kernel
theorem dX10_slice_31 : decode cX10_slice 31 = .ok (.ifCond .eq 27, 3) := by decide +kernel
theorem dX10_slice_34 : decode cX10_slice 34 = .ok (.aload_n 0, 1) := by decide +kernel
theorem dX10_slice_35 : decode cX10_slice 35 = .ok (.iload 4, 2) := by decide +kernel
theorem dX10_slice_37 : decode cX10_slice 37 = .ok (.iconst 1, 1) := by decide +kernel
theorem dX10_slice_38 : decode cX10_slice 38 = .ok (.bipush 9, 2) := by decide +kernel
theorem dX10_slice_40 : decode cX10_slice 40 = .ok (.invokevirtual 177, 3) := by decide +kernel
theorem dX10_slice_43 : decode cX10_slice 43 = .ok (.ifCond .eq 15, 3) := by decide +kernel
theorem dX10_slice_46 : decode cX10_slice 46 = .ok (.aload_n 0, 1) := by decide +kernel
theorem dX10_slice_47 : decode cX10_slice 47 = .ok (.iload 5, 2) := by decide +kernel
theorem dX10_slice_49 : decode cX10_slice 49 = .ok (.iconst 1, 1) := by decide +kernel
theorem dX10_slice_50 : decode cX10_slice 50 = .ok (.bipush 9, 2) := by decide +kernel
theorem dX10_slice_52 : decode cX10_slice 52 = .ok (.invokevirtual 177, 3) := by decide +kernel
theorem dX10_slice_55 : decode cX10_slice 55 = .ok (.ifCond .ne 5, 3) := by decide +kernel
theorem dX10_slice_58 : decode cX10_slice 58 = .ok (.iconst 0, 1) := by decide +kernel
theorem dX10_slice_59 : decode cX10_slice 59 = .ok (.ireturn, 1) := by decide +kernel
theorem dX10_slice_60 : decode cX10_slice 60 = .ok (.aload_n 0, 1) := by decide +kernel
theorem dX10_slice_61 : decode cX10_slice 61 = .ok (.getfield 17, 3) := by decide +kernel
theorem dX10_slice_64 : decode cX10_slice 64 = .ok (.bipush 16, 2) := by decide +kernel
theorem dX10_slice_66 : decode cX10_slice 66 = .ok (.iload_n 1, 1) := by decide +kernel
theorem dX10_slice_67 : decode cX10_slice 67 = .ok (.imul, 1) := by decide +kernel
theorem dX10_slice_68 : decode cX10_slice 68 = .ok (.iload_n 2, 1) := by decide +kernel
theorem dX10_slice_69 : decode cX10_slice 69 = .ok (.iadd, 1) := by decide +kernel
theorem dX10_slice_70 : decode cX10_slice 70 = .ok (.iload_n 3, 1) := by decide +kernel
theorem dX10_slice_71 : decode cX10_slice 71 = .ok (.iastore, 1) := by decide +kernel
theorem dX10_slice_72 : decode cX10_slice 72 = .ok (.aload_n 0, 1) := by decide +kernel
theorem dX10_slice_73 : decode cX10_slice 73 = .ok (.getfield 20, 3) := by decide +kernel
theorem dX10_slice_76 : decode cX10_slice 76 = .ok (.bipush 16, 2) := by decide +kernel
theorem dX10_slice_78 : decode cX10_slice 78 = .ok (.iload_n 1, 1) := by decide +kernel
theorem dX10_slice_79 : decode cX10_slice 79 = .ok (.imul, 1) := by decide +kernel
theorem dX10_slice_80 : decode cX10_slice 80 = .ok (.iload_n 2, 1) := by decide +kernel
theorem dX10_slice_81 : decode cX10_slice 81 = .ok (.iadd, 1) := by decide +kernel
theorem dX10_slice_82 : decode cX10_slice 82 = .ok (.iload 4, 2) := by decide +kernel
theorem dX10_slice_84 : decode cX10_slice 84 = .ok (.iastore, 1) := by decide +kernel
theorem dX10_slice_85 : decode cX10_slice 85 = .ok (.aload_n 0, 1) := by decide +kernel
theorem dX10_slice_86 : decode cX10_slice 86 = .ok (.getfield 23, 3) := by decide +kernel
theorem dX10_slice_89 : decode cX10_slice 89 = .ok (.bipush 16, 2) := by decide +kernel
theorem dX10_slice_91 : decode cX10_slice 91 = .ok (.iload_n 1, 1) := by decide +kernel
theorem dX10_slice_92 : decode cX10_slice 92 = .ok (.imul, 1) := by decide +kernel
theorem dX10_slice_93 : decode cX10_slice 93 = .ok (.iload_n 2, 1) := by decide +kernel
theorem dX10_slice_94 : decode cX10_slice 94 = .ok (.iadd, 1) := by decide +kernel
theorem dX10_slice_95 : decode cX10_slice 95 = .ok (.iload 5, 2) := by decide +kernel
theorem dX10_slice_97 : decode cX10_slice 97 = .ok (.iastore, 1) := by decide +kernel
theorem dX10_slice_98 : decode cX10_slice 98 = .ok (.iconst 1, 1) := by decide +kernel
theorem dX10_slice_99 : decode cX10_slice 99 = .ok (.ireturn, 1) := by decide +kernel
theorem dX10_wax_0 : decode cX10_wax 0 = .ok (.aload_n 0, 1) := by decide +kernel
theorem dX10_wax_1 : decode cX10_wax 1 = .ok (.iconst 0, 1) := by decide +kernel
theorem dX10_wax_2 : decode cX10_wax 2 = .ok (.putfield 167, 3) := by decide +kernel
theorem dX10_wax_5 : decode cX10_wax 5 = .ok (.aload_n 0, 1) := by decide +kernel
theorem dX10_wax_6 : decode cX10_wax 6 = .ok (.iload_n 1, 1) := by decide +kernel
theorem dX10_wax_7 : decode cX10_wax 7 = .ok (.iload_n 2, 1) := by decide +kernel
theorem dX10_wax_8 : decode cX10_wax 8 = .ok (.invokevirtual 181, 3) := by decide +kernel
theorem dX10_wax_11 : decode cX10_wax 11 = .ok (.ifCond .eq 14, 3) := by decide +kernel
theorem dX10_wax_14 : decode cX10_wax 14 = .ok (.aload_n 0, 1) := by decide +kernel
theorem dX10_wax_15 : decode cX10_wax 15 = .ok (.iload_n 3, 1) := by decide +kernel
theorem dX10_wax_16 : decode cX10_wax 16 = .ok (.iconst 0, 1) := by decide +kernel
theorem dX10_wax_17 : decode cX10_wax 17 = .ok (.bipush 99, 2) := by decide +kernel
theorem dX10_wax_19 : decode cX10_wax 19 = .ok (.invokevirtual 177, 3) := by decide +kernel
theorem dX10_wax_22 : decode cX10_wax 22 = .ok (.ifCond .ne 5, 3) := by decide +kernel
theorem dX10_wax_25 : decode cX10_wax 25 = .ok (.iconst 0, 1) := by decide +kernel
theorem dX10_wax_26 : decode cX10_wax 26 = .ok (.ireturn, 1) := by decide +kernel
theorem dX10_wax_27 : decode cX10_wax 27 = .ok (.aload_n 0, 1) := by decide +kernel
theorem dX10_wax_28 : decode cX10_wax 28 = .ok (.getfield 26, 3) := by decide +kernel
theorem dX10_wax_31 : decode cX10_wax 31 = .ok (.bipush 16, 2) := by decide +kernel
theorem dX10_wax_33 : decode cX10_wax 33 = .ok (.iload_n 1, 1) := by decide +kernel
theorem dX10_wax_34 : decode cX10_wax 34 = .ok (.imul, 1) := by decide +kernel
theorem dX10_wax_35 : decode cX10_wax 35 = .ok (.iload_n 2, 1) := by decide +kernel
theorem dX10_wax_36 : decode cX10_wax 36 = .ok (.iadd, 1) := by decide +kernel
theorem dX10_wax_37 : decode cX10_wax 37 = .ok (.iload_n 3, 1) := by decide +kernel
theorem dX10_wax_38 : decode cX10_wax 38 = .ok (.iastore, 1) := by decide +kernel
theorem dX10_wax_39 : decode cX10_wax 39 = .ok (.iconst 1, 1) := by decide +kernel
theorem dX10_wax_40 : decode cX10_wax 40 = .ok (.ireturn, 1) := by decide +kernel
theorem dX10_of_0 : decode cX10_of 0 = .ok (.aload_n 0, 1) := by decide +kernel
theorem dX10_of_1 : decode cX10_of 1 = .ok (.iconst 0, 1) := by decide +kernel
theorem dX10_of_2 : decode cX10_of 2 = .ok (.putfield 167, 3) := by decide +kernel
theorem dX10_of_5 : decode cX10_of 5 = .ok (.aload_n 0, 1) := by decide +kernel
theorem dX10_of_6 : decode cX10_of 6 = .ok (.iload_n 1, 1) := by decide +kernel
theorem dX10_of_7 : decode cX10_of 7 = .ok (.iload_n 2, 1) := by decide +kernel
theorem dX10_of_8 : decode cX10_of 8 = .ok (.invokevirtual 181, 3) := by decide +kernel
theorem dX10_of_11 : decode cX10_of 11 = .ok (.ifCond .ne 5, 3) := by decide +kernel
theorem dX10_of_14 : decode cX10_of 14 = .ok (.iconst (-1), 1) := by decide +kernel
theorem dX10_of_15 : decode cX10_of 15 = .ok (.ireturn, 1) := by decide +kernel
theorem dX10_of_16 : decode cX10_of 16 = .ok (.bipush 16, 2) := by decide +kernel
theorem dX10_of_18 : decode cX10_of 18 = .ok (.iload_n 1, 1) := by decide +kernel
theorem dX10_of_19 : decode cX10_of 19 = .ok (.imul, 1) := by decide +kernel
theorem dX10_of_20 : decode cX10_of 20 = .ok (.iload_n 2, 1) := by decide +kernel
theorem dX10_of_21 : decode cX10_of 21 = .ok (.iadd, 1) := by decide +kernel
theorem dX10_of_22 : decode cX10_of 22 = .ok (.istore 4, 2) := by decide +kernel
theorem dX10_of_24 : decode cX10_of 24 = .ok (.iload_n 3, 1) := by decide +kernel
theorem dX10_of_25 : decode cX10_of 25 = .ok (.ifCond .ne 13, 3) := by decide +kernel
theorem dX10_of_28 : decode cX10_of 28 = .ok (.aload_n 0, 1) := by decide +kernel
theorem dX10_of_29 : decode cX10_of 29 = .ok (.getfield 17, 3) := by decide +kernel
theorem dX10_of_32 : decode cX10_of 32 = .ok (.iload 4, 2) := by decide +kernel
theorem dX10_of_34 : decode cX10_of 34 = .ok (.iaload, 1) := by decide +kernel
theorem dX10_of_35 : decode cX10_of 35 = .ok (.goto 49, 3) := by decide +kernel
theorem dX10_of_38 : decode cX10_of 38 = .ok (.iload_n 3, 1) := by decide +kernel
theorem dX10_of_39 : decode cX10_of 39 = .ok (.iconst 1, 1) := by decide +kernel
theorem dX10_of_40 : decode cX10_of 40 = .ok (.if_icmp .ne 13, 3) := by decide +kernel
theorem dX10_of_43 : decode cX10_of 43 = .ok (.aload_n 0, 1) := by decide +kernel
theorem dX10_of_44 : decode cX10_of 44 = .ok (.getfield 20, 3) := by decide +kernel
theorem dX10_of_47 : decode cX10_of 47 = .ok (.iload 4, 2) := by decide +kernel
theorem dX10_of_49 : decode cX10_of 49 = .ok (.iaload, 1) := by decide +kernel
theorem dX10_of_50 : decode cX10_of 50 = .ok (.goto 34, 3) := by decide +kernel
theorem dX10_of_53 : decode cX10_of 53 = .ok (.iload_n 3, 1) := by decide +kernel
theorem dX10_of_54 : decode cX10_of 54 = .ok (.iconst 2, 1) := by decide +kernel
theorem dX10_of_55 : decode cX10_of 55 = .ok (.if_icmp .ne 13, 3) := by decide +kernel
theorem dX10_of_58 : decode cX10_of 58 = .ok (.aload_n 0, 1) := by decide +kernel
theorem dX10_of_59 : decode cX10_of 59 = .ok (.getfield 23, 3) := by decide +kernel
theorem dX10_of_62 : decode cX10_of 62 = .ok (.iload 4, 2) := by decide +kernel
theorem dX10_of_64 : decode cX10_of 64 = .ok (.iaload, 1) := by decide +kernel
theorem dX10_of_65 : decode cX10_of 65 = .ok (.goto 19, 3) := by decide +kernel
theorem dX10_of_68 : decode cX10_of 68 = .ok (.iload_n 3, 1) := by decide +kernel
theorem dX10_of_69 : decode cX10_of 69 = .ok (.iconst 3, 1) := by decide +kernel
theorem dX10_of_70 : decode cX10_of 70 = .ok (.if_icmp .ne 13, 3) := by decide +kernel
theorem dX10_of_73 : decode cX10_of 73 = .ok (.aload_n 0, 1) := by decide +kernel
theorem dX10_of_74 : decode cX10_of 74 = .ok (.getfield 26, 3) := by decide +kernel
theorem dX10_of_77 : decode cX10_of 77 = .ok (.iload 4, 2) := by decide +kernel
theorem dX10_of_79 : decode cX10_of 79 = .ok (.iaload, 1) := by decide +kernel
theorem dX10_of_80 : decode cX10_of 80 = .ok (.goto 4, 3) := by decide +kernel
theorem dX10_of_83 : decode cX10_of 83 = .ok (.iconst (-1), 1) := by decide +kernel
theorem dX10_of_84 : decode cX10_of 84 = .ok (.ireturn, 1) := by decide +kernel
theorem dX10_puts_0 : decode cX10_puts 0 = .ok (.bipush 24, 2) := by decide +kernel
theorem dX10_puts_2 : decode cX10_puts 2 = .ok (.istore_n 2, 1) := by decide +kernel
theorem dX10_puts_3 : decode cX10_puts 3 = .ok (.iload_n 2, 1) := by decide +kernel
theorem dX10_puts_4 : decode cX10_puts 4 = .ok (.ifCond .lt 35, 3) := by decide +kernel
theorem dX10_puts_7 : decode cX10_puts 7 = .ok (.aload_n 0, 1) := by decide +kernel
theorem dX10_puts_8 : decode cX10_puts 8 = .ok (.getfield 53, 3) := by decide +kernel
theorem dX10_puts_11 : decode cX10_puts 11 = .ok (.aload_n 0, 1) := by decide +kernel
theorem dX10_puts_12 : decode cX10_puts 12 = .ok (.getfield 185, 3) := by decide +kernel
theorem dX10_puts_15 : decode cX10_puts 15 = .ok (.iload_n 1, 1) := by decide +kernel
theorem dX10_puts_16 : decode cX10_puts 16 = .ok (.iload_n 2, 1) := by decide +kernel
theorem dX10_puts_17 : decode cX10_puts 17 = .ok (.ishr, 1) := by decide +kernel
theorem dX10_puts_18 : decode cX10_puts 18 = .ok (.sipush 255, 3) := by decide +kernel
theorem dX10_puts_21 : decode cX10_puts 21 = .ok (.iand, 1) := by decide +kernel
theorem dX10_puts_22 : decode cX10_puts 22 = .ok (.iastore, 1) := by decide +kernel
theorem dX10_puts_23 : decode cX10_puts 23 = .ok (.aload_n 0, 1) := by decide +kernel
theorem dX10_puts_24 : decode cX10_puts 24 = .ok (.aload_n 0, 1) := by decide +kernel
theorem dX10_puts_25 : decode cX10_puts 25 = .ok (.getfield 185, 3) := by decide +kernel
theorem dX10_puts_28 : decode cX10_puts 28 = .ok (.iconst 1, 1) := by decide +kernel
theorem dX10_puts_29 : decode cX10_puts 29 = .ok (.iadd, 1) := by decide +kernel
theorem dX10_puts_30 : decode cX10_puts 30 = .ok (.putfield 185, 3) := by decide +kernel
theorem dX10_puts_33 : decode cX10_puts 33 = .ok (.iinc 2 (-8), 3) := by decide +kernel
theorem dX10_puts_36 : decode cX10_puts 36 = .ok (.goto (-33), 3) := by decide +kernel
theorem dX10_puts_39 : decode cX10_puts 39 = .ok (.return_, 1) := by decide +kernel
theorem dX10_feed_0 : decode cX10_feed 0 = .ok (.aload_n 0, 1) := by decide +kernel
theorem dX10_feed_1 : decode cX10_feed 1 = .ok (.iconst 0, 1) := by decide +kernel
theorem dX10_feed_2 : decode cX10_feed 2 = .ok (.putfield 167, 3) := by decide +kernel
theorem dX10_feed_5 : decode cX10_feed 5 = .ok (.aload_n 0, 1) := by decide +kernel
theorem dX10_feed_6 : decode cX10_feed 6 = .ok (.getfield 185, 3) := by decide +kernel
theorem dX10_feed_9 : decode cX10_feed 9 = .ok (.sipush 480, 3) := by decide +kernel
theorem dX10_feed_12 : decode cX10_feed 12 = .ok (.if_icmp .le 5, 3) := by decide +kernel
theorem dX10_feed_15 : decode cX10_feed 15 = .ok (.iconst (-1), 1) := by decide +kernel
theorem dX10_feed_16 : decode cX10_feed 16 = .ok (.ireturn, 1) := by decide +kernel
theorem dX10_feed_17 : decode cX10_feed 17 = .ok (.aload_n 0, 1) := by decide +kernel
theorem dX10_feed_18 : decode cX10_feed 18 = .ok (.iload_n 1, 1) := by decide +kernel
theorem dX10_feed_19 : decode cX10_feed 19 = .ok (.invokevirtual 188, 3) := by decide +kernel
theorem dX10_feed_22 : decode cX10_feed 22 = .ok (.aload_n 0, 1) := by decide +kernel
theorem dX10_feed_23 : decode cX10_feed 23 = .ok (.iload_n 2, 1) := by decide +kernel
theorem dX10_feed_24 : decode cX10_feed 24 = .ok (.invokevirtual 188, 3) := by decide +kernel
theorem dX10_feed_27 : decode cX10_feed 27 = .ok (.aload_n 0, 1) := by decide +kernel
theorem dX10_feed_28 : decode cX10_feed 28 = .ok (.iload_n 3, 1) := by decide +kernel
theorem dX10_feed_29 : decode cX10_feed 29 = .ok (.invokevirtual 188, 3) := by decide +kernel
theorem dX10_feed_32 : decode cX10_feed 32 = .ok (.aload_n 0, 1) := by decide +kernel
theorem dX10_feed_33 : decode cX10_feed 33 = .ok (.iload 4, 2) := by decide +kernel
theorem dX10_feed_35 : decode cX10_feed 35 = .ok (.invokevirtual 188, 3) := by decide +kernel
theorem dX10_feed_38 : decode cX10_feed 38 = .ok (.aload_n 0, 1) := by decide +kernel
theorem dX10_feed_39 : decode cX10_feed 39 = .ok (.iload 5, 2) := by decide +kernel
theorem dX10_feed_41 : decode cX10_feed 41 = .ok (.invokevirtual 188, 3) := by decide +kernel
theorem dX10_feed_44 : decode cX10_feed 44 = .ok (.aload_n 0, 1) := by decide +kernel
theorem dX10_feed_45 : decode cX10_feed 45 = .ok (.getfield 185, 3) := by decide +kernel
theorem dX10_feed_48 : decode cX10_feed 48 = .ok (.ireturn, 1) := by decide +kernel
theorem dX10_end_0 : decode cX10_end 0 = .ok (.aload_n 0, 1) := by decide +kernel
theorem dX10_end_1 : decode cX10_end 1 = .ok (.iconst 0, 1) := by decide +kernel
theorem dX10_end_2 : decode cX10_end 2 = .ok (.putfield 167, 3) := by decide +kernel
theorem dX10_end_5 : decode cX10_end 5 = .ok (.aload_n 0, 1) := by decide +kernel
theorem dX10_end_6 : decode cX10_end 6 = .ok (.iload_n 1, 1) := by decide +kernel
theorem dX10_end_7 : decode cX10_end 7 = .ok (.iconst 0, 1) := by decide +kernel
theorem dX10_end_8 : decode cX10_end 8 = .ok (.aload_n 0, 1) := by decide +kernel
theorem dX10_end_9 : decode cX10_end 9 = .ok (.getfield 185, 3) := by decide +kernel
theorem dX10_end_12 : decode cX10_end 12 = .ok (.invokevirtual 177, 3) := by decide +kernel
theorem dX10_end_15 : decode cX10_end 15 = .ok (.ifCond .ne 5, 3) := by decide +kernel
theorem dX10_end_18 : decode cX10_end 18 = .ok (.iconst 0, 1) := by decide +kernel
theorem dX10_end_19 : decode cX10_end 19 = .ok (.ireturn, 1) := by decide +kernel
theorem dX10_end_20 : decode cX10_end 20 = .ok (.aload_n 0, 1) := by decide +kernel
theorem dX10_end_21 : decode cX10_end 21 = .ok (.iload_n 1, 1) := by decide +kernel
theorem dX10_end_22 : decode cX10_end 22 = .ok (.putfield 185, 3) := by decide +kernel
theorem dX10_end_25 : decode cX10_end 25 = .ok (.iconst 1, 1) := by decide +kernel
theorem dX10_end_26 : decode cX10_end 26 = .ok (.ireturn, 1) := by decide +kernel
theorem dX10_raw_0 : decode cX10_raw 0 = .ok (.iload_n 1, 1) := by decide +kernel
theorem dX10_raw_1 : decode cX10_raw 1 = .ok (.aload_n 0, 1) := by decide +kernel
theorem dX10_raw_2 : decode cX10_raw 2 = .ok (.getfield 185, 3) := by decide +kernel
theorem dX10_raw_5 : decode cX10_raw 5 = .ok (.if_icmp .ge 12, 3) := by decide +kernel
theorem dX10_raw_8 : decode cX10_raw 8 = .ok (.aload_n 0, 1) := by decide +kernel
theorem dX10_raw_9 : decode cX10_raw 9 = .ok (.getfield 53, 3) := by decide +kernel
theorem dX10_raw_12 : decode cX10_raw 12 = .ok (.iload_n 1, 1) := by decide +kernel
theorem dX10_raw_13 : decode cX10_raw 13 = .ok (.iaload, 1) := by decide +kernel
theorem dX10_raw_14 : decode cX10_raw 14 = .ok (.goto 4, 3) := by decide +kernel
theorem dX10_raw_17 : decode cX10_raw 17 = .ok (.iconst (-1), 1) := by decide +kernel
theorem dX10_raw_18 : decode cX10_raw 18 = .ok (.ireturn, 1) := by decide +kernel
theorem dX10_reads_0 : decode cX10_reads 0 = .ok (.aload_n 0, 1) := by decide +kernel
theorem dX10_reads_1 : decode cX10_reads 1 = .ok (.aload_n 0, 1) := by decide +kernel
theorem dX10_reads_2 : decode cX10_reads 2 = .ok (.getfield 192, 3) := by decide +kernel
theorem dX10_reads_5 : decode cX10_reads 5 = .ok (.invokevirtual 195, 3) := by decide +kernel
theorem dX10_reads_8 : decode cX10_reads 8 = .ok (.bipush 32, 2) := by decide +kernel
theorem dX10_reads_10 : decode cX10_reads 10 = .ok (.if_icmp .eq 16, 3) := by decide +kernel
theorem dX10_reads_13 : decode cX10_reads 13 = .ok (.aload_n 0, 1) := by decide +kernel
theorem dX10_reads_14 : decode cX10_reads 14 = .ok (.aload_n 0, 1) := by decide +kernel
theorem dX10_reads_15 : decode cX10_reads 15 = .ok (.getfield 192, 3) := by decide +kernel
theorem dX10_reads_18 : decode cX10_reads 18 = .ok (.invokevirtual 195, 3) := by decide +kernel
theorem dX10_reads_21 : decode cX10_reads 21 = .ok (.bipush 10, 2) := by decide +kernel
theorem dX10_reads_23 : decode cX10_reads 23 = .ok (.if_icmp .ne 16, 3) := by decide +kernel
theorem dX10_reads_26 : decode cX10_reads 26 = .ok (.aload_n 0, 1) := by decide +kernel
theorem dX10_reads_27 : decode cX10_reads 27 = .ok (.aload_n 0, 1) := by decide +kernel
theorem dX10_reads_28 : decode cX10_reads 28 = .ok (.getfield 192, 3) := by decide +kernel
theorem dX10_reads_31 : decode cX10_reads 31 = .ok (.iconst 1, 1) := by decide +kernel
theorem dX10_reads_32 : decode cX10_reads 32 = .ok (.iadd, 1) := by decide +kernel
theorem dX10_reads_33 : decode cX10_reads 33 = .ok (.putfield 192, 3) := by decide +kernel
theorem dX10_reads_36 : decode cX10_reads 36 = .ok (.goto (-36), 3) := by decide +kernel
theorem dX10_reads_39 : decode cX10_reads 39 = .ok (.aload_n 0, 1) := by decide +kernel
theorem dX10_reads_40 : decode cX10_reads 40 = .ok (.aload_n 0, 1) := by decide +kernel
theorem dX10_reads_41 : decode cX10_reads 41 = .ok (.getfield 192, 3) := by decide +kernel
theorem dX10_reads_44 : decode cX10_reads 44 = .ok (.putfield 199, 3) := by decide +kernel
theorem dX10_reads_47 : decode cX10_reads 47 = .ok (.aload_n 0, 1) := by decide +kernel
theorem dX10_reads_48 : decode cX10_reads 48 = .ok (.iconst 1, 1) := by decide +kernel
theorem dX10_reads_49 : decode cX10_reads 49 = .ok (.putfield 202, 3) := by decide +kernel
theorem dX10_reads_52 : decode cX10_reads 52 = .ok (.aload_n 0, 1) := by decide +kernel
theorem dX10_reads_53 : decode cX10_reads 53 = .ok (.aload_n 0, 1) := by decide +kernel
theorem dX10_reads_54 : decode cX10_reads 54 = .ok (.getfield 192, 3) := by decide +kernel
theorem dX10_reads_57 : decode cX10_reads 57 = .ok (.invokevirtual 195, 3) := by decide +kernel
theorem dX10_reads_60 : decode cX10_reads 60 = .ok (.istore_n 1, 1) := by decide +kernel
theorem dX10_reads_61 : decode cX10_reads 61 = .ok (.iload_n 1, 1) := by decide +kernel
theorem dX10_reads_62 : decode cX10_reads 62 = .ok (.iconst (-1), 1) := by decide +kernel
theorem dX10_reads_63 : decode cX10_reads 63 = .ok (.if_icmp .ne 9, 3) := by decide +kernel
theorem dX10_reads_66 : decode cX10_reads 66 = .ok (.aload_n 0, 1) := by decide +kernel
theorem dX10_reads_67 : decode cX10_reads 67 = .ok (.iconst 0, 1) := by decide +kernel
theorem dX10_reads_68 : decode cX10_reads 68 = .ok (.putfield 202, 3) := by decide +kernel
theorem dX10_reads_71 : decode cX10_reads 71 = .ok (.return_, 1) := by decide +kernel
theorem dX10_reads_72 : decode cX10_reads 72 = .ok (.aload_n 0, 1) := by decide +kernel
theorem dX10_reads_73 : decode cX10_reads 73 = .ok (.aload_n 0, 1) := by decide +kernel
theorem dX10_reads_74 : decode cX10_reads 74 = .ok (.getfield 192, 3) := by decide +kernel
theorem dX10_reads_77 : decode cX10_reads 77 = .ok (.iconst 1, 1) := by decide +kernel
theorem dX10_reads_78 : decode cX10_reads 78 = .ok (.iadd, 1) := by decide +kernel
theorem dX10_reads_79 : decode cX10_reads 79 = .ok (.putfield 192, 3) := by decide +kernel
theorem dX10_reads_82 : decode cX10_reads 82 = .ok (.aload_n 0, 1) := by decide +kernel
theorem dX10_reads_83 : decode cX10_reads 83 = .ok (.iload_n 1, 1) := by decide +kernel
theorem dX10_reads_84 : decode cX10_reads 84 = .ok (.putfield 205, 3) := by decide +kernel
theorem dX10_reads_87 : decode cX10_reads 87 = .ok (.aload_n 0, 1) := by decide +kernel
theorem dX10_reads_88 : decode cX10_reads 88 = .ok (.iload_n 1, 1) := by decide +kernel
theorem dX10_reads_89 : decode cX10_reads 89 = .ok (.invokevirtual 208, 3) := by decide +kernel
theorem dX10_reads_92 : decode cX10_reads 92 = .ok (.ifCond .eq 63, 3) := by decide +kernel
theorem dX10_reads_95 : decode cX10_reads 95 = .ok (.aload_n 0, 1) := by decide +kernel
theorem dX10_reads_96 : decode cX10_reads 96 = .ok (.aload_n 0, 1) := by decide +kernel
theorem dX10_reads_97 : decode cX10_reads 97 = .ok (.aload_n 0, 1) := by decide +kernel
theorem dX10_reads_98 : decode cX10_reads 98 = .ok (.getfield 192, 3) := by decide +kernel
theorem dX10_reads_101 : decode cX10_reads 101 = .ok (.invokevirtual 195, 3) := by decide +kernel
theorem dX10_reads_104 : decode cX10_reads 104 = .ok (.invokevirtual 208, 3) := by decide +kernel
theorem dX10_reads_107 : decode cX10_reads 107 = .ok (.ifCond .eq 16, 3) := by decide +kernel
theorem dX10_reads_110 : decode cX10_reads 110 = .ok (.aload_n 0, 1) := by decide +kernel
theorem dX10_reads_111 : decode cX10_reads 111 = .ok (.aload_n 0, 1) := by decide +kernel
theorem dX10_reads_112 : decode cX10_reads 112 = .ok (.getfield 192, 3) := by decide +kernel
theorem dX10_reads_115 : decode cX10_reads 115 = .ok (.iconst 1, 1) := by decide +kernel
theorem dX10_reads_116 : decode cX10_reads 116 = .ok (.iadd, 1) := by decide +kernel
theorem dX10_reads_117 : decode cX10_reads 117 = .ok (.putfield 192, 3) := by decide +kernel
theorem dX10_reads_120 : decode cX10_reads 120 = .ok (.goto (-25), 3) := by decide +kernel
theorem dX10_reads_123 : decode cX10_reads 123 = .ok (.aload_n 0, 1) := by decide +kernel
theorem dX10_reads_124 : decode cX10_reads 124 = .ok (.aload_n 0, 1) := by decide +kernel
theorem dX10_reads_125 : decode cX10_reads 125 = .ok (.aload_n 0, 1) := by decide +kernel
theorem dX10_reads_126 : decode cX10_reads 126 = .ok (.getfield 199, 3) := by decide +kernel
theorem dX10_reads_129 : decode cX10_reads 129 = .ok (.aload_n 0, 1) := by decide +kernel
theorem dX10_reads_130 : decode cX10_reads 130 = .ok (.getfield 192, 3) := by decide +kernel
theorem dX10_reads_133 : decode cX10_reads 133 = .ok (.invokevirtual 211, 3) := by decide +kernel
theorem dX10_reads_136 : decode cX10_reads 136 = .ok (.putfield 205, 3) := by decide +kernel
theorem dX10_reads_139 : decode cX10_reads 139 = .ok (.aload_n 0, 1) := by decide +kernel
theorem dX10_reads_140 : decode cX10_reads 140 = .ok (.getfield 205, 3) := by decide +kernel
theorem dX10_reads_143 : decode cX10_reads 143 = .ok (.iconst (-1), 1) := by decide +kernel
theorem dX10_reads_144 : decode cX10_reads 144 = .ok (.if_icmp .eq 129, 3) := by decide +kernel
theorem dX10_reads_147 : decode cX10_reads 147 = .ok (.aload_n 0, 1) := by decide +kernel
theorem dX10_reads_148 : decode cX10_reads 148 = .ok (.iconst 2, 1) := by decide +kernel
theorem dX10_reads_149 : decode cX10_reads 149 = .ok (.putfield 202, 3) := by decide +kernel
theorem dX10_reads_152 : decode cX10_reads 152 = .ok (.goto 121, 3) := by decide +kernel
theorem dX10_reads_155 : decode cX10_reads 155 = .ok (.aload_n 0, 1) := by decide +kernel
theorem dX10_reads_156 : decode cX10_reads 156 = .ok (.iload_n 1, 1) := by decide +kernel
theorem dX10_reads_157 : decode cX10_reads 157 = .ok (.invokevirtual 215, 3) := by decide +kernel
theorem dX10_reads_160 : decode cX10_reads 160 = .ok (.ifCond .eq 100, 3) := by decide +kernel
theorem dX10_reads_163 : decode cX10_reads 163 = .ok (.aload_n 0, 1) := by decide +kernel
theorem dX10_reads_164 : decode cX10_reads 164 = .ok (.iload_n 1, 1) := by decide +kernel
theorem dX10_reads_165 : decode cX10_reads 165 = .ok (.bipush 48, 2) := by decide +kernel
theorem dX10_reads_167 : decode cX10_reads 167 = .ok (.isub, 1) := by decide +kernel
theorem dX10_reads_168 : decode cX10_reads 168 = .ok (.putfield 205, 3) := by decide +kernel
theorem dX10_reads_171 : decode cX10_reads 171 = .ok (.aload_n 0, 1) := by decide +kernel
theorem dX10_reads_172 : decode cX10_reads 172 = .ok (.aload_n 0, 1) := by decide +kernel
theorem dX10_reads_173 : decode cX10_reads 173 = .ok (.aload_n 0, 1) := by decide +kernel
theorem dX10_reads_174 : decode cX10_reads 174 = .ok (.getfield 192, 3) := by decide +kernel
theorem dX10_reads_177 : decode cX10_reads 177 = .ok (.invokevirtual 195, 3) := by decide +kernel
theorem dX10_reads_180 : decode cX10_reads 180 = .ok (.invokevirtual 215, 3) := by decide +kernel
theorem dX10_reads_183 : decode cX10_reads 183 = .ok (.ifCond .eq 55, 3) := by decide +kernel
theorem dX10_reads_186 : decode cX10_reads 186 = .ok (.aload_n 0, 1) := by decide +kernel
theorem dX10_reads_187 : decode cX10_reads 187 = .ok (.aload_n 0, 1) := by decide +kernel
theorem dX10_reads_188 : decode cX10_reads 188 = .ok (.getfield 205, 3) := by decide +kernel
theorem dX10_reads_191 : decode cX10_reads 191 = .ok (.ldc 218, 2) := by decide +kernel
theorem dX10_reads_193 : decode cX10_reads 193 = .ok (.if_icmp .ge 25, 3) := by decide +kernel
theorem dX10_reads_196 : decode cX10_reads 196 = .ok (.bipush 10, 2) := by decide +kernel
theorem dX10_reads_198 : decode cX10_reads 198 = .ok (.aload_n 0, 1) := by decide +kernel
theorem dX10_reads_199 : decode cX10_reads 199 = .ok (.getfield 205, 3) := by decide +kernel
theorem dX10_reads_202 : decode cX10_reads 202 = .ok (.imul, 1) := by decide +kernel
theorem dX10_reads_203 : decode cX10_reads 203 = .ok (.aload_n 0, 1) := by decide +kernel
theorem dX10_reads_204 : decode cX10_reads 204 = .ok (.aload_n 0, 1) := by decide +kernel
theorem dX10_reads_205 : decode cX10_reads 205 = .ok (.getfield 192, 3) := by decide +kernel
theorem dX10_reads_208 : decode cX10_reads 208 = .ok (.invokevirtual 195, 3) := by decide +kernel
theorem dX10_reads_211 : decode cX10_reads 211 = .ok (.iadd, 1) := by decide +kernel
theorem dX10_reads_212 : decode cX10_reads 212 = .ok (.bipush 48, 2) := by decide +kernel
theorem dX10_reads_214 : decode cX10_reads 214 = .ok (.isub, 1) := by decide +kernel
theorem dX10_reads_215 : decode cX10_reads 215 = .ok (.goto 7, 3) := by decide +kernel
theorem dX10_reads_218 : decode cX10_reads 218 = .ok (.aload_n 0, 1) := by decide +kernel
theorem dX10_reads_219 : decode cX10_reads 219 = .ok (.getfield 205, 3) := by decide +kernel
theorem dX10_reads_222 : decode cX10_reads 222 = .ok (.putfield 205, 3) := by decide +kernel
theorem dX10_reads_225 : decode cX10_reads 225 = .ok (.aload_n 0, 1) := by decide +kernel
theorem dX10_reads_226 : decode cX10_reads 226 = .ok (.aload_n 0, 1) := by decide +kernel
theorem dX10_reads_227 : decode cX10_reads 227 = .ok (.getfield 192, 3) := by decide +kernel
theorem dX10_reads_230 : decode cX10_reads 230 = .ok (.iconst 1, 1) := by decide +kernel
theorem dX10_reads_231 : decode cX10_reads 231 = .ok (.iadd, 1) := by decide +kernel
theorem dX10_reads_232 : decode cX10_reads 232 = .ok (.putfield 192, 3) := by decide +kernel
theorem dX10_reads_235 : decode cX10_reads 235 = .ok (.goto (-64), 3) := by decide +kernel
theorem dX10_reads_238 : decode cX10_reads 238 = .ok (.aload_n 0, 1) := by decide +kernel
theorem dX10_reads_239 : decode cX10_reads 239 = .ok (.getfield 192, 3) := by decide +kernel
theorem dX10_reads_242 : decode cX10_reads 242 = .ok (.aload_n 0, 1) := by decide +kernel
theorem dX10_reads_243 : decode cX10_reads 243 = .ok (.getfield 199, 3) := by decide +kernel
theorem dX10_reads_246 : decode cX10_reads 246 = .ok (.isub, 1) := by decide +kernel
theorem dX10_reads_247 : decode cX10_reads 247 = .ok (.bipush 6, 2) := by decide +kernel
theorem dX10_reads_249 : decode cX10_reads 249 = .ok (.if_icmp .ge 24, 3) := by decide +kernel
theorem dX10_reads_252 : decode cX10_reads 252 = .ok (.aload_n 0, 1) := by decide +kernel
theorem dX10_reads_253 : decode cX10_reads 253 = .ok (.iconst 3, 1) := by decide +kernel
theorem dX10_reads_254 : decode cX10_reads 254 = .ok (.putfield 202, 3) := by decide +kernel
theorem dX10_reads_257 : decode cX10_reads 257 = .ok (.goto 16, 3) := by decide +kernel
theorem dX10_reads_260 : decode cX10_reads 260 = .ok (.aload_n 0, 1) := by decide +kernel
theorem dX10_reads_261 : decode cX10_reads 261 = .ok (.iload_n 1, 1) := by decide +kernel
theorem dX10_reads_262 : decode cX10_reads 262 = .ok (.invokevirtual 219, 3) := by decide +kernel
theorem dX10_reads_265 : decode cX10_reads 265 = .ok (.ifCond .eq 8, 3) := by decide +kernel
theorem dX10_reads_268 : decode cX10_reads 268 = .ok (.aload_n 0, 1) := by decide +kernel
theorem dX10_reads_269 : decode cX10_reads 269 = .ok (.iconst 4, 1) := by decide +kernel
theorem dX10_reads_270 : decode cX10_reads 270 = .ok (.putfield 202, 3) := by decide +kernel
theorem dX10_reads_273 : decode cX10_reads 273 = .ok (.return_, 1) := by decide +kernel
theorem dX10_fails_0 : decode cX10_fails 0 = .ok (.aload_n 0, 1) := by decide +kernel
theorem dX10_fails_1 : decode cX10_fails 1 = .ok (.iload_n 1, 1) := by decide +kernel
theorem dX10_fails_2 : decode cX10_fails 2 = .ok (.putfield 222, 3) := by decide +kernel
theorem dX10_fails_5 : decode cX10_fails 5 = .ok (.aload_n 0, 1) := by decide +kernel
theorem dX10_fails_6 : decode cX10_fails 6 = .ok (.aload_n 0, 1) := by decide +kernel
theorem dX10_fails_7 : decode cX10_fails 7 = .ok (.getfield 199, 3) := by decide +kernel
theorem dX10_fails_10 : decode cX10_fails 10 = .ok (.putfield 225, 3) := by decide +kernel
theorem dX10_fails_13 : decode cX10_fails 13 = .ok (.iconst (-1), 1) := by decide +kernel
theorem dX10_fails_14 : decode cX10_fails 14 = .ok (.ireturn, 1) := by decide +kernel
theorem dX10_isBegin_0 : decode cX10_isBegin 0 = .ok (.aload_n 0, 1) := by decide +kernel
theorem dX10_isBegin_1 : decode cX10_isBegin 1 = .ok (.getfield 202, 3) := by decide +kernel
theorem dX10_isBegin_4 : decode cX10_isBegin 4 = .ok (.iconst 2, 1) := by decide +kernel
theorem dX10_isBegin_5 : decode cX10_isBegin 5 = .ok (.if_icmp .eq 5, 3) := by decide +kernel
theorem dX10_isBegin_8 : decode cX10_isBegin 8 = .ok (.iconst 0, 1) := by decide +kernel
theorem dX10_isBegin_9 : decode cX10_isBegin 9 = .ok (.ireturn, 1) := by decide +kernel
theorem dX10_isBegin_10 : decode cX10_isBegin 10 = .ok (.aload_n 0, 1) := by decide +kernel
theorem dX10_isBegin_11 : decode cX10_isBegin 11 = .ok (.getfield 231, 3) := by decide +kernel
theorem dX10_isBegin_14 : decode cX10_isBegin 14 = .ok (.ifCond .eq 36, 3) := by decide +kernel
theorem dX10_isBegin_17 : decode cX10_isBegin 17 = .ok (.aload_n 0, 1) := by decide +kernel
theorem dX10_isBegin_18 : decode cX10_isBegin 18 = .ok (.getfield 205, 3) := by decide +kernel
theorem dX10_isBegin_21 : decode cX10_isBegin 21 = .ok (.iconst 4, 1) := by decide +kernel
theorem dX10_isBegin_22 : decode cX10_isBegin 22 = .ok (.if_icmp .eq 20, 3) := by decide +kernel
theorem dX10_isBegin_25 : decode cX10_isBegin 25 = .ok (.aload_n 0, 1) := by decide +kernel
theorem dX10_isBegin_26 : decode cX10_isBegin 26 = .ok (.getfield 205, 3) := by decide +kernel
theorem dX10_isBegin_29 : decode cX10_isBegin 29 = .ok (.iconst 5, 1) := by decide +kernel
theorem dX10_isBegin_30 : decode cX10_isBegin 30 = .ok (.if_icmp .eq 12, 3) := by decide +kernel
theorem dX10_isBegin_33 : decode cX10_isBegin 33 = .ok (.aload_n 0, 1) := by decide +kernel
theorem dX10_isBegin_34 : decode cX10_isBegin 34 = .ok (.getfield 205, 3) := by decide +kernel
theorem dX10_isBegin_37 : decode cX10_isBegin 37 = .ok (.bipush 17, 2) := by decide +kernel
theorem dX10_isBegin_39 : decode cX10_isBegin 39 = .ok (.if_icmp .ne 7, 3) := by decide +kernel
theorem dX10_isBegin_42 : decode cX10_isBegin 42 = .ok (.iconst 1, 1) := by decide +kernel
theorem dX10_isBegin_43 : decode cX10_isBegin 43 = .ok (.goto 20, 3) := by decide +kernel
theorem dX10_isBegin_46 : decode cX10_isBegin 46 = .ok (.iconst 0, 1) := by decide +kernel
theorem dX10_isBegin_47 : decode cX10_isBegin 47 = .ok (.goto 16, 3) := by decide +kernel
theorem dX10_isBegin_50 : decode cX10_isBegin 50 = .ok (.aload_n 0, 1) := by decide +kernel
theorem dX10_isBegin_51 : decode cX10_isBegin 51 = .ok (.getfield 205, 3) := by decide +kernel
theorem dX10_isBegin_54 : decode cX10_isBegin 54 = .ok (.iconst 3, 1) := by decide +kernel
theorem dX10_isBegin_55 : decode cX10_isBegin 55 = .ok (.if_icmp .gt 7, 3) := by decide +kernel
theorem dX10_isBegin_58 : decode cX10_isBegin 58 = .ok (.iconst 1, 1) := by decide +kernel
theorem dX10_isBegin_59 : decode cX10_isBegin 59 = .ok (.goto 4, 3) := by decide +kernel
theorem dX10_isBegin_62 : decode cX10_isBegin 62 = .ok (.iconst 0, 1) := by decide +kernel
theorem dX10_isBegin_63 : decode cX10_isBegin 63 = .ok (.ireturn, 1) := by decide +kernel
theorem dX10_readText_0 : decode cX10_readText 0 = .ok (.iconst 0, 1) := by decide +kernel
theorem dX10_readText_1 : decode cX10_readText 1 = .ok (.istore_n 1, 1) := by decide +kernel
theorem dX10_readText_2 : decode cX10_readText 2 = .ok (.aload_n 0, 1) := by decide +kernel
theorem dX10_readText_3 : decode cX10_readText 3 = .ok (.invokevirtual 285, 3) := by decide +kernel
theorem dX10_readText_6 : decode cX10_readText 6 = .ok (.ifCond .eq 36, 3) := by decide +kernel
theorem dX10_readText_9 : decode cX10_readText 9 = .ok (.iload_n 1, 1) := by decide +kernel
theorem dX10_readText_10 : decode cX10_readText 10 = .ok (.bipush 16, 2) := by decide +kernel
theorem dX10_readText_12 : decode cX10_readText 12 = .ok (.if_icmp .ne 9, 3) := by decide +kernel
theorem dX10_readText_15 : decode cX10_readText 15 = .ok (.aload_n 0, 1) := by decide +kernel
theorem dX10_readText_16 : decode cX10_readText 16 = .ok (.iconst 3, 1) := by decide +kernel
theorem dX10_readText_17 : decode cX10_readText 17 = .ok (.invokevirtual 235, 3) := by decide +kernel
theorem dX10_readText_20 : decode cX10_readText 20 = .ok (.ireturn, 1) := by decide +kernel
theorem dX10_readText_21 : decode cX10_readText 21 = .ok (.aload_n 0, 1) := by decide +kernel
theorem dX10_readText_22 : decode cX10_readText 22 = .ok (.bipush 96, 2) := by decide +kernel
theorem dX10_readText_24 : decode cX10_readText 24 = .ok (.iload_n 1, 1) := by decide +kernel
theorem dX10_readText_25 : decode cX10_readText 25 = .ok (.iadd, 1) := by decide +kernel
theorem dX10_readText_26 : decode cX10_readText 26 = .ok (.invokevirtual 289, 3) := by decide +kernel
theorem dX10_readText_29 : decode cX10_readText 29 = .ok (.iconst (-1), 1) := by decide +kernel
theorem dX10_readText_30 : decode cX10_readText 30 = .ok (.if_icmp .ne 5, 3) := by decide +kernel
theorem dX10_readText_33 : decode cX10_readText 33 = .ok (.iconst (-1), 1) := by decide +kernel
theorem dX10_readText_34 : decode cX10_readText 34 = .ok (.ireturn, 1) := by decide +kernel
theorem dX10_readText_35 : decode cX10_readText 35 = .ok (.iload_n 1, 1) := by decide +kernel
theorem dX10_readText_36 : decode cX10_readText 36 = .ok (.iconst 1, 1) := by decide +kernel
theorem dX10_readText_37 : decode cX10_readText 37 = .ok (.iadd, 1) := by decide +kernel
theorem dX10_readText_38 : decode cX10_readText 38 = .ok (.istore_n 1, 1) := by decide +kernel
theorem dX10_readText_39 : decode cX10_readText 39 = .ok (.goto (-37), 3) := by decide +kernel
theorem dX10_readText_42 : decode cX10_readText 42 = .ok (.aload_n 0, 1) := by decide +kernel
theorem dX10_readText_43 : decode cX10_readText 43 = .ok (.getfield 202, 3) := by decide +kernel
theorem dX10_readText_46 : decode cX10_readText 46 = .ok (.ifCond .ne 7, 3) := by decide +kernel
theorem dX10_readText_49 : decode cX10_readText 49 = .ok (.iload_n 1, 1) := by decide +kernel
theorem dX10_readText_50 : decode cX10_readText 50 = .ok (.goto 8, 3) := by decide +kernel
theorem dX10_readText_53 : decode cX10_readText 53 = .ok (.aload_n 0, 1) := by decide +kernel
theorem dX10_readText_54 : decode cX10_readText 54 = .ok (.iconst 1, 1) := by decide +kernel
theorem dX10_readText_55 : decode cX10_readText 55 = .ok (.invokevirtual 235, 3) := by decide +kernel
theorem dX10_readText_58 : decode cX10_readText 58 = .ok (.ireturn, 1) := by decide +kernel
theorem dX10_text_0 : decode cX10_text 0 = .ok (.aload_n 0, 1) := by decide +kernel
theorem dX10_text_1 : decode cX10_text 1 = .ok (.iconst 0, 1) := by decide +kernel
theorem dX10_text_2 : decode cX10_text 2 = .ok (.putfield 167, 3) := by decide +kernel
theorem dX10_text_5 : decode cX10_text 5 = .ok (.aload_n 0, 1) := by decide +kernel
theorem dX10_text_6 : decode cX10_text 6 = .ok (.iconst 0, 1) := by decide +kernel
theorem dX10_text_7 : decode cX10_text 7 = .ok (.putfield 292, 3) := by decide +kernel
theorem dX10_text_10 : decode cX10_text 10 = .ok (.aload_n 0, 1) := by decide +kernel
theorem dX10_text_11 : decode cX10_text 11 = .ok (.iconst (-1), 1) := by decide +kernel
theorem dX10_text_12 : decode cX10_text 12 = .ok (.putfield 92, 3) := by decide +kernel
theorem dX10_text_15 : decode cX10_text 15 = .ok (.iload_n 1, 1) := by decide +kernel
theorem dX10_text_16 : decode cX10_text 16 = .ok (.ifCond .ne 13, 3) := by decide +kernel
theorem dX10_text_19 : decode cX10_text 19 = .ok (.aload_n 0, 1) := by decide +kernel
theorem dX10_text_20 : decode cX10_text 20 = .ok (.iload_n 2, 1) := by decide +kernel
theorem dX10_text_21 : decode cX10_text 21 = .ok (.iconst 0, 1) := by decide +kernel
theorem dX10_text_22 : decode cX10_text 22 = .ok (.iconst 1, 1) := by decide +kernel
theorem dX10_text_23 : decode cX10_text 23 = .ok (.invokevirtual 177, 3) := by decide +kernel
theorem dX10_text_26 : decode cX10_text 26 = .ok (.ifCond .ne 18, 3) := by decide +kernel
theorem dX10_text_29 : decode cX10_text 29 = .ok (.iload_n 1, 1) := by decide +kernel
theorem dX10_text_30 : decode cX10_text 30 = .ok (.iconst 1, 1) := by decide +kernel
theorem dX10_text_31 : decode cX10_text 31 = .ok (.if_icmp .ne 17, 3) := by decide +kernel
theorem dX10_text_34 : decode cX10_text 34 = .ok (.aload_n 0, 1) := by decide +kernel
theorem dX10_text_35 : decode cX10_text 35 = .ok (.iload_n 2, 1) := by decide +kernel
theorem dX10_text_36 : decode cX10_text 36 = .ok (.iconst 0, 1) := by decide +kernel
theorem dX10_text_37 : decode cX10_text 37 = .ok (.iconst 3, 1) := by decide +kernel
theorem dX10_text_38 : decode cX10_text 38 = .ok (.invokevirtual 177, 3) := by decide +kernel
theorem dX10_text_41 : decode cX10_text 41 = .ok (.ifCond .eq 7, 3) := by decide +kernel
theorem dX10_text_44 : decode cX10_text 44 = .ok (.iconst 1, 1) := by decide +kernel
theorem dX10_text_45 : decode cX10_text 45 = .ok (.goto 4, 3) := by decide +kernel
theorem dX10_text_48 : decode cX10_text 48 = .ok (.iconst 0, 1) := by decide +kernel
theorem dX10_text_49 : decode cX10_text 49 = .ok (.istore_n 3, 1) := by decide +kernel
theorem dX10_text_50 : decode cX10_text 50 = .ok (.aload_n 0, 1) := by decide +kernel
theorem dX10_text_51 : decode cX10_text 51 = .ok (.iload_n 1, 1) := by decide +kernel
theorem dX10_text_52 : decode cX10_text 52 = .ok (.iconst 1, 1) := by decide +kernel
theorem dX10_text_53 : decode cX10_text 53 = .ok (.if_icmp .ne 7, 3) := by decide +kernel
theorem dX10_text_56 : decode cX10_text 56 = .ok (.iconst 1, 1) := by decide +kernel
theorem dX10_text_57 : decode cX10_text 57 = .ok (.goto 4, 3) := by decide +kernel
theorem dX10_text_60 : decode cX10_text 60 = .ok (.iconst 0, 1) := by decide +kernel
theorem dX10_text_61 : decode cX10_text 61 = .ok (.putfield 231, 3) := by decide +kernel
theorem dX10_text_64 : decode cX10_text 64 = .ok (.aload_n 0, 1) := by decide +kernel
theorem dX10_text_65 : decode cX10_text 65 = .ok (.iconst 0, 1) := by decide +kernel
theorem dX10_text_66 : decode cX10_text 66 = .ok (.putfield 192, 3) := by decide +kernel
theorem dX10_text_69 : decode cX10_text 69 = .ok (.aload_n 0, 1) := by decide +kernel
theorem dX10_text_70 : decode cX10_text 70 = .ok (.iconst 0, 1) := by decide +kernel
theorem dX10_text_71 : decode cX10_text 71 = .ok (.putfield 228, 3) := by decide +kernel
theorem dX10_text_74 : decode cX10_text 74 = .ok (.aload_n 0, 1) := by decide +kernel
theorem dX10_text_75 : decode cX10_text 75 = .ok (.iconst 0, 1) := by decide +kernel
theorem dX10_text_76 : decode cX10_text 76 = .ok (.putfield 261, 3) := by decide +kernel
theorem dX10_text_79 : decode cX10_text 79 = .ok (.aload_n 0, 1) := by decide +kernel
theorem dX10_text_80 : decode cX10_text 80 = .ok (.invokevirtual 242, 3) := by decide +kernel
theorem dX10_text_83 : decode cX10_text 83 = .ok (.iload_n 3, 1) := by decide +kernel
theorem dX10_text_84 : decode cX10_text 84 = .ok (.ifCond .eq 10, 3) := by decide +kernel
theorem dX10_text_87 : decode cX10_text 87 = .ok (.aload_n 0, 1) := by decide +kernel
theorem dX10_text_88 : decode cX10_text 88 = .ok (.invokevirtual 295, 3) := by decide +kernel
theorem dX10_text_91 : decode cX10_text 91 = .ok (.goto 4, 3) := by decide +kernel
theorem dX10_text_94 : decode cX10_text 94 = .ok (.iconst (-1), 1) := by decide +kernel
theorem dX10_text_95 : decode cX10_text 95 = .ok (.istore 4, 2) := by decide +kernel
theorem dX10_text_97 : decode cX10_text 97 = .ok (.aload_n 0, 1) := by decide +kernel
theorem dX10_text_98 : decode cX10_text 98 = .ok (.iconst 0, 1) := by decide +kernel
theorem dX10_text_99 : decode cX10_text 99 = .ok (.putfield 185, 3) := by decide +kernel
theorem dX10_text_102 : decode cX10_text 102 = .ok (.iload_n 3, 1) := by decide +kernel
theorem dX10_text_103 : decode cX10_text 103 = .ok (.ifCond .eq 25, 3) := by decide +kernel
theorem dX10_text_106 : decode cX10_text 106 = .ok (.iload 4, 2) := by decide +kernel
theorem dX10_text_108 : decode cX10_text 108 = .ok (.iconst (-1), 1) := by decide +kernel
theorem dX10_text_109 : decode cX10_text 109 = .ok (.if_icmp .ne 19, 3) := by decide +kernel
theorem dX10_text_112 : decode cX10_text 112 = .ok (.aload_n 0, 1) := by decide +kernel
theorem dX10_text_113 : decode cX10_text 113 = .ok (.aload_n 0, 1) := by decide +kernel
theorem dX10_text_114 : decode cX10_text 114 = .ok (.getfield 222, 3) := by decide +kernel
theorem dX10_text_117 : decode cX10_text 117 = .ok (.putfield 292, 3) := by decide +kernel
theorem dX10_text_120 : decode cX10_text 120 = .ok (.aload_n 0, 1) := by decide +kernel
theorem dX10_text_121 : decode cX10_text 121 = .ok (.aload_n 0, 1) := by decide +kernel
theorem dX10_text_122 : decode cX10_text 122 = .ok (.getfield 225, 3) := by decide +kernel
theorem dX10_text_125 : decode cX10_text 125 = .ok (.putfield 92, 3) := by decide +kernel
theorem dX10_text_128 : decode cX10_text 128 = .ok (.iload 4, 2) := by decide +kernel
theorem dX10_text_130 : decode cX10_text 130 = .ok (.iconst (-1), 1) := by decide +kernel
theorem dX10_text_131 : decode cX10_text 131 = .ok (.if_icmp .ne 5, 3) := by decide +kernel
theorem dX10_text_134 : decode cX10_text 134 = .ok (.iconst (-1), 1) := by decide +kernel
theorem dX10_text_135 : decode cX10_text 135 = .ok (.ireturn, 1) := by decide +kernel
theorem dX10_text_136 : decode cX10_text 136 = .ok (.iload_n 1, 1) := by decide +kernel
theorem dX10_text_137 : decode cX10_text 137 = .ok (.ifCond .ne 7, 3) := by decide +kernel
theorem dX10_text_140 : decode cX10_text 140 = .ok (.iload_n 2, 1) := by decide +kernel
theorem dX10_text_141 : decode cX10_text 141 = .ok (.goto 6, 3) := by decide +kernel
theorem dX10_text_144 : decode cX10_text 144 = .ok (.iconst 2, 1) := by decide +kernel
theorem dX10_text_145 : decode cX10_text 145 = .ok (.iload_n 2, 1) := by decide +kernel
theorem dX10_text_146 : decode cX10_text 146 = .ok (.iadd, 1) := by decide +kernel
theorem dX10_text_147 : decode cX10_text 147 = .ok (.istore 5, 2) := by decide +kernel
theorem dX10_text_149 : decode cX10_text 149 = .ok (.iconst 0, 1) := by decide +kernel
theorem dX10_text_150 : decode cX10_text 150 = .ok (.istore 6, 2) := by decide +kernel
theorem dX10_text_152 : decode cX10_text 152 = .ok (.iload 6, 2) := by decide +kernel
theorem dX10_text_154 : decode cX10_text 154 = .ok (.iload 4, 2) := by decide +kernel
theorem dX10_text_156 : decode cX10_text 156 = .ok (.if_icmp .ge 170, 3) := by decide +kernel
theorem dX10_text_159 : decode cX10_text 159 = .ok (.aload_n 0, 1) := by decide +kernel
theorem dX10_text_160 : decode cX10_text 160 = .ok (.getfield 62, 3) := by decide +kernel
theorem dX10_text_163 : decode cX10_text 163 = .ok (.bipush 16, 2) := by decide +kernel
theorem dX10_text_165 : decode cX10_text 165 = .ok (.iload 5, 2) := by decide +kernel
theorem dX10_text_167 : decode cX10_text 167 = .ok (.imul, 1) := by decide +kernel
theorem dX10_text_168 : decode cX10_text 168 = .ok (.iload 6, 2) := by decide +kernel
theorem dX10_text_170 : decode cX10_text 170 = .ok (.iadd, 1) := by decide +kernel
theorem dX10_text_171 : decode cX10_text 171 = .ok (.aload_n 0, 1) := by decide +kernel
theorem dX10_text_172 : decode cX10_text 172 = .ok (.getfield 62, 3) := by decide +kernel
theorem dX10_text_175 : decode cX10_text 175 = .ok (.bipush 96, 2) := by decide +kernel
theorem dX10_text_177 : decode cX10_text 177 = .ok (.iload 6, 2) := by decide +kernel
theorem dX10_text_179 : decode cX10_text 179 = .ok (.iadd, 1) := by decide +kernel
theorem dX10_text_180 : decode cX10_text 180 = .ok (.iaload, 1) := by decide +kernel
theorem dX10_text_181 : decode cX10_text 181 = .ok (.iastore, 1) := by decide +kernel
theorem dX10_text_182 : decode cX10_text 182 = .ok (.aload_n 0, 1) := by decide +kernel
theorem dX10_text_183 : decode cX10_text 183 = .ok (.getfield 65, 3) := by decide +kernel
theorem dX10_text_186 : decode cX10_text 186 = .ok (.bipush 16, 2) := by decide +kernel
theorem dX10_text_188 : decode cX10_text 188 = .ok (.iload 5, 2) := by decide +kernel
theorem dX10_text_190 : decode cX10_text 190 = .ok (.imul, 1) := by decide +kernel
theorem dX10_text_191 : decode cX10_text 191 = .ok (.iload 6, 2) := by decide +kernel
theorem dX10_text_193 : decode cX10_text 193 = .ok (.iadd, 1) := by decide +kernel
theorem dX10_text_194 : decode cX10_text 194 = .ok (.aload_n 0, 1) := by decide +kernel
theorem dX10_text_195 : decode cX10_text 195 = .ok (.getfield 65, 3) := by decide +kernel
theorem dX10_text_198 : decode cX10_text 198 = .ok (.bipush 96, 2) := by decide +kernel
theorem dX10_text_200 : decode cX10_text 200 = .ok (.iload 6, 2) := by decide +kernel
theorem dX10_text_202 : decode cX10_text 202 = .ok (.iadd, 1) := by decide +kernel
theorem dX10_text_203 : decode cX10_text 203 = .ok (.iaload, 1) := by decide +kernel
theorem dX10_text_204 : decode cX10_text 204 = .ok (.iastore, 1) := by decide +kernel
theorem dX10_text_205 : decode cX10_text 205 = .ok (.aload_n 0, 1) := by decide +kernel
theorem dX10_text_206 : decode cX10_text 206 = .ok (.getfield 68, 3) := by decide +kernel
theorem dX10_text_209 : decode cX10_text 209 = .ok (.bipush 16, 2) := by decide +kernel
theorem dX10_text_211 : decode cX10_text 211 = .ok (.iload 5, 2) := by decide +kernel
theorem dX10_text_213 : decode cX10_text 213 = .ok (.imul, 1) := by decide +kernel
theorem dX10_text_214 : decode cX10_text 214 = .ok (.iload 6, 2) := by decide +kernel
theorem dX10_text_216 : decode cX10_text 216 = .ok (.iadd, 1) := by decide +kernel
theorem dX10_text_217 : decode cX10_text 217 = .ok (.aload_n 0, 1) := by decide +kernel
theorem dX10_text_218 : decode cX10_text 218 = .ok (.getfield 68, 3) := by decide +kernel
theorem dX10_text_221 : decode cX10_text 221 = .ok (.bipush 96, 2) := by decide +kernel
theorem dX10_text_223 : decode cX10_text 223 = .ok (.iload 6, 2) := by decide +kernel
theorem dX10_text_225 : decode cX10_text 225 = .ok (.iadd, 1) := by decide +kernel
theorem dX10_text_226 : decode cX10_text 226 = .ok (.iaload, 1) := by decide +kernel
theorem dX10_text_227 : decode cX10_text 227 = .ok (.iastore, 1) := by decide +kernel
theorem dX10_text_228 : decode cX10_text 228 = .ok (.aload_n 0, 1) := by decide +kernel
theorem dX10_text_229 : decode cX10_text 229 = .ok (.getfield 71, 3) := by decide +kernel
theorem dX10_text_232 : decode cX10_text 232 = .ok (.bipush 16, 2) := by decide +kernel
theorem dX10_text_234 : decode cX10_text 234 = .ok (.iload 5, 2) := by decide +kernel
theorem dX10_text_236 : decode cX10_text 236 = .ok (.imul, 1) := by decide +kernel
theorem dX10_text_237 : decode cX10_text 237 = .ok (.iload 6, 2) := by decide +kernel
theorem dX10_text_239 : decode cX10_text 239 = .ok (.iadd, 1) := by decide +kernel
theorem dX10_text_240 : decode cX10_text 240 = .ok (.aload_n 0, 1) := by decide +kernel
theorem dX10_text_241 : decode cX10_text 241 = .ok (.getfield 71, 3) := by decide +kernel
theorem dX10_text_244 : decode cX10_text 244 = .ok (.bipush 96, 2) := by decide +kernel
theorem dX10_text_246 : decode cX10_text 246 = .ok (.iload 6, 2) := by decide +kernel
theorem dX10_text_248 : decode cX10_text 248 = .ok (.iadd, 1) := by decide +kernel
theorem dX10_text_249 : decode cX10_text 249 = .ok (.iaload, 1) := by decide +kernel
theorem dX10_text_250 : decode cX10_text 250 = .ok (.iastore, 1) := by decide +kernel
theorem dX10_text_251 : decode cX10_text 251 = .ok (.aload_n 0, 1) := by decide +kernel
theorem dX10_text_252 : decode cX10_text 252 = .ok (.getfield 74, 3) := by decide +kernel
theorem dX10_text_255 : decode cX10_text 255 = .ok (.bipush 16, 2) := by decide +kernel
theorem dX10_text_257 : decode cX10_text 257 = .ok (.iload 5, 2) := by decide +kernel
theorem dX10_text_259 : decode cX10_text 259 = .ok (.imul, 1) := by decide +kernel
theorem dX10_text_260 : decode cX10_text 260 = .ok (.iload 6, 2) := by decide +kernel
theorem dX10_text_262 : decode cX10_text 262 = .ok (.iadd, 1) := by decide +kernel
