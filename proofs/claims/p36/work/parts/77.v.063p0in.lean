theorem nE_6_6_10_796_2 {i j : Nat} (hj : j < 10) : 6 + 6 * j ≠ 796 + 2 * i := by omega
theorem nE_7_6_10_796_2 {i j : Nat} (hj : j < 10) : 7 + 6 * j ≠ 796 + 2 * i := by omega
theorem nE_8_6_10_796_2 {i j : Nat} (hj : j < 10) : 8 + 6 * j ≠ 796 + 2 * i := by omega
theorem nE_9_6_10_796_2 {i j : Nat} (hj : j < 10) : 9 + 6 * j ≠ 796 + 2 * i := by omega
theorem nE_10_6_10_796_2 {i j : Nat} (hj : j < 10) : 10 + 6 * j ≠ 796 + 2 * i := by omega
theorem nE_11_6_10_796_2 {i j : Nat} (hj : j < 10) : 11 + 6 * j ≠ 796 + 2 * i := by omega
theorem nE_66_4_160_796_2 {i j : Nat} (hj : j < 160) : 66 + 4 * j ≠ 796 + 2 * i := by omega
theorem nE_67_4_160_796_2 {i j : Nat} (hj : j < 160) : 67 + 4 * j ≠ 796 + 2 * i := by omega
theorem nE_68_4_160_796_2 {i j : Nat} (hj : j < 160) : 68 + 4 * j ≠ 796 + 2 * i := by omega
theorem nE_69_4_160_796_2 {i j : Nat} (hj : j < 160) : 69 + 4 * j ≠ 796 + 2 * i := by omega
theorem nE_706_1_30_796_2 {i j : Nat} (hj : j < 30) : 706 + 1 * j ≠ 796 + 2 * i := by omega
theorem nE_736_3_20_796_2 {i j : Nat} (hj : j < 20) : 736 + 3 * j ≠ 796 + 2 * i := by omega
theorem nE_737_3_20_796_2 {i j : Nat} (hj : j < 20) : 737 + 3 * j ≠ 796 + 2 * i := by omega
theorem nE_738_3_20_796_2 {i j : Nat} (hj : j < 20) : 738 + 3 * j ≠ 796 + 2 * i := by omega
theorem nE_796_2_i_796_2 {i j : Nat} (hj : j < i) : 796 + 2 * j ≠ 796 + 2 * i := by omega
theorem nE_797_2_i_796_2 {i j : Nat} (hj : j < i) : 797 + 2 * j ≠ 796 + 2 * i := by omega
theorem nE_6_6_10_797_2 {i j : Nat} (hj : j < 10) : 6 + 6 * j ≠ 797 + 2 * i := by omega
theorem nE_7_6_10_797_2 {i j : Nat} (hj : j < 10) : 7 + 6 * j ≠ 797 + 2 * i := by omega
theorem nE_8_6_10_797_2 {i j : Nat} (hj : j < 10) : 8 + 6 * j ≠ 797 + 2 * i := by omega
theorem nE_9_6_10_797_2 {i j : Nat} (hj : j < 10) : 9 + 6 * j ≠ 797 + 2 * i := by omega
theorem nE_10_6_10_797_2 {i j : Nat} (hj : j < 10) : 10 + 6 * j ≠ 797 + 2 * i := by omega
theorem nE_11_6_10_797_2 {i j : Nat} (hj : j < 10) : 11 + 6 * j ≠ 797 + 2 * i := by omega
theorem nE_66_4_160_797_2 {i j : Nat} (hj : j < 160) : 66 + 4 * j ≠ 797 + 2 * i := by omega
theorem nE_67_4_160_797_2 {i j : Nat} (hj : j < 160) : 67 + 4 * j ≠ 797 + 2 * i := by omega
theorem nE_68_4_160_797_2 {i j : Nat} (hj : j < 160) : 68 + 4 * j ≠ 797 + 2 * i := by omega
theorem nE_69_4_160_797_2 {i j : Nat} (hj : j < 160) : 69 + 4 * j ≠ 797 + 2 * i := by omega
theorem nE_706_1_30_797_2 {i j : Nat} (hj : j < 30) : 706 + 1 * j ≠ 797 + 2 * i := by omega
theorem nE_736_3_20_797_2 {i j : Nat} (hj : j < 20) : 736 + 3 * j ≠ 797 + 2 * i := by omega
theorem nE_737_3_20_797_2 {i j : Nat} (hj : j < 20) : 737 + 3 * j ≠ 797 + 2 * i := by omega
theorem nE_738_3_20_797_2 {i j : Nat} (hj : j < 20) : 738 + 3 * j ≠ 797 + 2 * i := by omega
theorem nE_796_2_i1_797_2 {i j : Nat} (hj : j < i + 1) : 796 + 2 * j ≠ 797 + 2 * i := by omega
theorem nE_797_2_i_797_2 {i j : Nat} (hj : j < i) : 797 + 2 * j ≠ 797 + 2 * i := by omega
theorem nE_6_6_10_736_3 {i j : Nat} (hj : j < 10) : 6 + 6 * j ≠ 736 + 3 * i := by omega
theorem nE_7_6_10_736_3 {i j : Nat} (hj : j < 10) : 7 + 6 * j ≠ 736 + 3 * i := by omega
theorem nE_8_6_10_736_3 {i j : Nat} (hj : j < 10) : 8 + 6 * j ≠ 736 + 3 * i := by omega
theorem nE_9_6_10_736_3 {i j : Nat} (hj : j < 10) : 9 + 6 * j ≠ 736 + 3 * i := by omega
theorem nE_10_6_10_736_3 {i j : Nat} (hj : j < 10) : 10 + 6 * j ≠ 736 + 3 * i := by omega
theorem nE_11_6_10_736_3 {i j : Nat} (hj : j < 10) : 11 + 6 * j ≠ 736 + 3 * i := by omega
theorem nE_66_4_160_736_3 {i j : Nat} (hj : j < 160) : 66 + 4 * j ≠ 736 + 3 * i := by omega
theorem nE_67_4_160_736_3 {i j : Nat} (hj : j < 160) : 67 + 4 * j ≠ 736 + 3 * i := by omega
theorem nE_68_4_160_736_3 {i j : Nat} (hj : j < 160) : 68 + 4 * j ≠ 736 + 3 * i := by omega
theorem nE_69_4_160_736_3 {i j : Nat} (hj : j < 160) : 69 + 4 * j ≠ 736 + 3 * i := by omega
theorem nE_706_1_30_736_3 {i j : Nat} (hj : j < 30) : 706 + 1 * j ≠ 736 + 3 * i := by omega
theorem nE_736_3_i_736_3 {i j : Nat} (hj : j < i) : 736 + 3 * j ≠ 736 + 3 * i := by omega
theorem nE_737_3_i_736_3 {i j : Nat} (hj : j < i) : 737 + 3 * j ≠ 736 + 3 * i := by omega
theorem nE_738_3_i_736_3 {i j : Nat} (hj : j < i) : 738 + 3 * j ≠ 736 + 3 * i := by omega
theorem nE_796_2_0_736_3 {i j : Nat} (hj : j < 0) : 796 + 2 * j ≠ 736 + 3 * i := by omega
theorem nE_797_2_0_736_3 {i j : Nat} (hj : j < 0) : 797 + 2 * j ≠ 736 + 3 * i := by omega
theorem nE_6_6_10_737_3 {i j : Nat} (hj : j < 10) : 6 + 6 * j ≠ 737 + 3 * i := by omega
theorem nE_7_6_10_737_3 {i j : Nat} (hj : j < 10) : 7 + 6 * j ≠ 737 + 3 * i := by omega
theorem nE_8_6_10_737_3 {i j : Nat} (hj : j < 10) : 8 + 6 * j ≠ 737 + 3 * i := by omega
theorem nE_9_6_10_737_3 {i j : Nat} (hj : j < 10) : 9 + 6 * j ≠ 737 + 3 * i := by omega
theorem nE_10_6_10_737_3 {i j : Nat} (hj : j < 10) : 10 + 6 * j ≠ 737 + 3 * i := by omega
theorem nE_11_6_10_737_3 {i j : Nat} (hj : j < 10) : 11 + 6 * j ≠ 737 + 3 * i := by omega
theorem nE_66_4_160_737_3 {i j : Nat} (hj : j < 160) : 66 + 4 * j ≠ 737 + 3 * i := by omega
theorem nE_67_4_160_737_3 {i j : Nat} (hj : j < 160) : 67 + 4 * j ≠ 737 + 3 * i := by omega
theorem nE_68_4_160_737_3 {i j : Nat} (hj : j < 160) : 68 + 4 * j ≠ 737 + 3 * i := by omega
theorem nE_69_4_160_737_3 {i j : Nat} (hj : j < 160) : 69 + 4 * j ≠ 737 + 3 * i := by omega
theorem nE_706_1_30_737_3 {i j : Nat} (hj : j < 30) : 706 + 1 * j ≠ 737 + 3 * i := by omega
theorem nE_736_3_i1_737_3 {i j : Nat} (hj : j < i + 1) : 736 + 3 * j ≠ 737 + 3 * i := by omega
theorem nE_737_3_i_737_3 {i j : Nat} (hj : j < i) : 737 + 3 * j ≠ 737 + 3 * i := by omega
theorem nE_738_3_i_737_3 {i j : Nat} (hj : j < i) : 738 + 3 * j ≠ 737 + 3 * i := by omega
theorem nE_796_2_0_737_3 {i j : Nat} (hj : j < 0) : 796 + 2 * j ≠ 737 + 3 * i := by omega
theorem nE_797_2_0_737_3 {i j : Nat} (hj : j < 0) : 797 + 2 * j ≠ 737 + 3 * i := by omega
theorem nE_6_6_10_738_3 {i j : Nat} (hj : j < 10) : 6 + 6 * j ≠ 738 + 3 * i := by omega
theorem nE_7_6_10_738_3 {i j : Nat} (hj : j < 10) : 7 + 6 * j ≠ 738 + 3 * i := by omega
theorem nE_8_6_10_738_3 {i j : Nat} (hj : j < 10) : 8 + 6 * j ≠ 738 + 3 * i := by omega
theorem nE_9_6_10_738_3 {i j : Nat} (hj : j < 10) : 9 + 6 * j ≠ 738 + 3 * i := by omega
theorem nE_10_6_10_738_3 {i j : Nat} (hj : j < 10) : 10 + 6 * j ≠ 738 + 3 * i := by omega
theorem nE_11_6_10_738_3 {i j : Nat} (hj : j < 10) : 11 + 6 * j ≠ 738 + 3 * i := by omega
theorem nE_66_4_160_738_3 {i j : Nat} (hj : j < 160) : 66 + 4 * j ≠ 738 + 3 * i := by omega
theorem nE_67_4_160_738_3 {i j : Nat} (hj : j < 160) : 67 + 4 * j ≠ 738 + 3 * i := by omega
theorem nE_68_4_160_738_3 {i j : Nat} (hj : j < 160) : 68 + 4 * j ≠ 738 + 3 * i := by omega
theorem nE_69_4_160_738_3 {i j : Nat} (hj : j < 160) : 69 + 4 * j ≠ 738 + 3 * i := by omega
theorem nE_706_1_30_738_3 {i j : Nat} (hj : j < 30) : 706 + 1 * j ≠ 738 + 3 * i := by omega
theorem nE_736_3_i1_738_3 {i j : Nat} (hj : j < i + 1) : 736 + 3 * j ≠ 738 + 3 * i := by omega
theorem nE_737_3_i1_738_3 {i j : Nat} (hj : j < i + 1) : 737 + 3 * j ≠ 738 + 3 * i := by omega
theorem nE_738_3_i_738_3 {i j : Nat} (hj : j < i) : 738 + 3 * j ≠ 738 + 3 * i := by omega
theorem nE_796_2_0_738_3 {i j : Nat} (hj : j < 0) : 796 + 2 * j ≠ 738 + 3 * i := by omega
theorem nE_797_2_0_738_3 {i j : Nat} (hj : j < 0) : 797 + 2 * j ≠ 738 + 3 * i := by omega
theorem nE_6_6_10_706_1 {i j : Nat} (hj : j < 10) : 6 + 6 * j ≠ 706 + 1 * i := by omega
theorem nE_7_6_10_706_1 {i j : Nat} (hj : j < 10) : 7 + 6 * j ≠ 706 + 1 * i := by omega
theorem nE_8_6_10_706_1 {i j : Nat} (hj : j < 10) : 8 + 6 * j ≠ 706 + 1 * i := by omega
theorem nE_9_6_10_706_1 {i j : Nat} (hj : j < 10) : 9 + 6 * j ≠ 706 + 1 * i := by omega
theorem nE_10_6_10_706_1 {i j : Nat} (hj : j < 10) : 10 + 6 * j ≠ 706 + 1 * i := by omega
theorem nE_11_6_10_706_1 {i j : Nat} (hj : j < 10) : 11 + 6 * j ≠ 706 + 1 * i := by omega
theorem nE_66_4_160_706_1 {i j : Nat} (hj : j < 160) : 66 + 4 * j ≠ 706 + 1 * i := by omega
theorem nE_67_4_160_706_1 {i j : Nat} (hj : j < 160) : 67 + 4 * j ≠ 706 + 1 * i := by omega
theorem nE_68_4_160_706_1 {i j : Nat} (hj : j < 160) : 68 + 4 * j ≠ 706 + 1 * i := by omega
theorem nE_69_4_160_706_1 {i j : Nat} (hj : j < 160) : 69 + 4 * j ≠ 706 + 1 * i := by omega
theorem nE_706_1_i_706_1 {i j : Nat} (hj : j < i) : 706 + 1 * j ≠ 706 + 1 * i := by omega
theorem nE_736_3_0_706_1 {i j : Nat} (hj : j < 0) : 736 + 3 * j ≠ 706 + 1 * i := by omega
theorem nE_737_3_0_706_1 {i j : Nat} (hj : j < 0) : 737 + 3 * j ≠ 706 + 1 * i := by omega
theorem nE_738_3_0_706_1 {i j : Nat} (hj : j < 0) : 738 + 3 * j ≠ 706 + 1 * i := by omega
theorem nE_796_2_0_706_1 {i j : Nat} (hj : j < 0) : 796 + 2 * j ≠ 706 + 1 * i := by omega
theorem nE_797_2_0_706_1 {i j : Nat} (hj : j < 0) : 797 + 2 * j ≠ 706 + 1 * i := by omega
theorem nE_6_6_10_66_4 {i j : Nat} (hj : j < 10) : 6 + 6 * j ≠ 66 + 4 * i := by omega
theorem nE_7_6_10_66_4 {i j : Nat} (hj : j < 10) : 7 + 6 * j ≠ 66 + 4 * i := by omega
theorem nE_8_6_10_66_4 {i j : Nat} (hj : j < 10) : 8 + 6 * j ≠ 66 + 4 * i := by omega
theorem nE_9_6_10_66_4 {i j : Nat} (hj : j < 10) : 9 + 6 * j ≠ 66 + 4 * i := by omega
theorem nE_10_6_10_66_4 {i j : Nat} (hj : j < 10) : 10 + 6 * j ≠ 66 + 4 * i := by omega
theorem nE_11_6_10_66_4 {i j : Nat} (hj : j < 10) : 11 + 6 * j ≠ 66 + 4 * i := by omega
theorem nE_66_4_i_66_4 {i j : Nat} (hj : j < i) : 66 + 4 * j ≠ 66 + 4 * i := by omega
theorem nE_67_4_i_66_4 {i j : Nat} (hj : j < i) : 67 + 4 * j ≠ 66 + 4 * i := by omega
theorem nE_68_4_i_66_4 {i j : Nat} (hj : j < i) : 68 + 4 * j ≠ 66 + 4 * i := by omega
theorem nE_69_4_i_66_4 {i j : Nat} (hj : j < i) : 69 + 4 * j ≠ 66 + 4 * i := by omega
theorem nE_706_1_0_66_4 {i j : Nat} (hj : j < 0) : 706 + 1 * j ≠ 66 + 4 * i := by omega
theorem nE_736_3_0_66_4 {i j : Nat} (hj : j < 0) : 736 + 3 * j ≠ 66 + 4 * i := by omega
theorem nE_737_3_0_66_4 {i j : Nat} (hj : j < 0) : 737 + 3 * j ≠ 66 + 4 * i := by omega
theorem nE_738_3_0_66_4 {i j : Nat} (hj : j < 0) : 738 + 3 * j ≠ 66 + 4 * i := by omega
theorem nE_796_2_0_66_4 {i j : Nat} (hj : j < 0) : 796 + 2 * j ≠ 66 + 4 * i := by omega
theorem nE_797_2_0_66_4 {i j : Nat} (hj : j < 0) : 797 + 2 * j ≠ 66 + 4 * i := by omega
theorem nE_6_6_10_67_4 {i j : Nat} (hj : j < 10) : 6 + 6 * j ≠ 67 + 4 * i := by omega
theorem nE_7_6_10_67_4 {i j : Nat} (hj : j < 10) : 7 + 6 * j ≠ 67 + 4 * i := by omega
theorem nE_8_6_10_67_4 {i j : Nat} (hj : j < 10) : 8 + 6 * j ≠ 67 + 4 * i := by omega
theorem nE_9_6_10_67_4 {i j : Nat} (hj : j < 10) : 9 + 6 * j ≠ 67 + 4 * i := by omega
theorem nE_10_6_10_67_4 {i j : Nat} (hj : j < 10) : 10 + 6 * j ≠ 67 + 4 * i := by omega
theorem nE_11_6_10_67_4 {i j : Nat} (hj : j < 10) : 11 + 6 * j ≠ 67 + 4 * i := by omega
theorem nE_66_4_i1_67_4 {i j : Nat} (hj : j < i + 1) : 66 + 4 * j ≠ 67 + 4 * i := by omega
theorem nE_67_4_i_67_4 {i j : Nat} (hj : j < i) : 67 + 4 * j ≠ 67 + 4 * i := by omega
theorem nE_68_4_i_67_4 {i j : Nat} (hj : j < i) : 68 + 4 * j ≠ 67 + 4 * i := by omega
theorem nE_69_4_i_67_4 {i j : Nat} (hj : j < i) : 69 + 4 * j ≠ 67 + 4 * i := by omega
theorem nE_706_1_0_67_4 {i j : Nat} (hj : j < 0) : 706 + 1 * j ≠ 67 + 4 * i := by omega
theorem nE_736_3_0_67_4 {i j : Nat} (hj : j < 0) : 736 + 3 * j ≠ 67 + 4 * i := by omega
theorem nE_737_3_0_67_4 {i j : Nat} (hj : j < 0) : 737 + 3 * j ≠ 67 + 4 * i := by omega
theorem nE_738_3_0_67_4 {i j : Nat} (hj : j < 0) : 738 + 3 * j ≠ 67 + 4 * i := by omega
theorem nE_796_2_0_67_4 {i j : Nat} (hj : j < 0) : 796 + 2 * j ≠ 67 + 4 * i := by omega
theorem nE_797_2_0_67_4 {i j : Nat} (hj : j < 0) : 797 + 2 * j ≠ 67 + 4 * i := by omega
theorem nE_6_6_10_68_4 {i j : Nat} (hj : j < 10) : 6 + 6 * j ≠ 68 + 4 * i := by omega
theorem nE_7_6_10_68_4 {i j : Nat} (hj : j < 10) : 7 + 6 * j ≠ 68 + 4 * i := by omega
theorem nE_8_6_10_68_4 {i j : Nat} (hj : j < 10) : 8 + 6 * j ≠ 68 + 4 * i := by omega
theorem nE_9_6_10_68_4 {i j : Nat} (hj : j < 10) : 9 + 6 * j ≠ 68 + 4 * i := by omega
theorem nE_10_6_10_68_4 {i j : Nat} (hj : j < 10) : 10 + 6 * j ≠ 68 + 4 * i := by omega
theorem nE_11_6_10_68_4 {i j : Nat} (hj : j < 10) : 11 + 6 * j ≠ 68 + 4 * i := by omega
theorem nE_66_4_i1_68_4 {i j : Nat} (hj : j < i + 1) : 66 + 4 * j ≠ 68 + 4 * i := by omega
theorem nE_67_4_i1_68_4 {i j : Nat} (hj : j < i + 1) : 67 + 4 * j ≠ 68 + 4 * i := by omega
theorem nE_68_4_i_68_4 {i j : Nat} (hj : j < i) : 68 + 4 * j ≠ 68 + 4 * i := by omega
theorem nE_69_4_i_68_4 {i j : Nat} (hj : j < i) : 69 + 4 * j ≠ 68 + 4 * i := by omega
theorem nE_706_1_0_68_4 {i j : Nat} (hj : j < 0) : 706 + 1 * j ≠ 68 + 4 * i := by omega
theorem nE_736_3_0_68_4 {i j : Nat} (hj : j < 0) : 736 + 3 * j ≠ 68 + 4 * i := by omega
theorem nE_737_3_0_68_4 {i j : Nat} (hj : j < 0) : 737 + 3 * j ≠ 68 + 4 * i := by omega
theorem nE_738_3_0_68_4 {i j : Nat} (hj : j < 0) : 738 + 3 * j ≠ 68 + 4 * i := by omega
theorem nE_796_2_0_68_4 {i j : Nat} (hj : j < 0) : 796 + 2 * j ≠ 68 + 4 * i := by omega
theorem nE_797_2_0_68_4 {i j : Nat} (hj : j < 0) : 797 + 2 * j ≠ 68 + 4 * i := by omega
theorem nE_6_6_10_69_4 {i j : Nat} (hj : j < 10) : 6 + 6 * j ≠ 69 + 4 * i := by omega
theorem nE_7_6_10_69_4 {i j : Nat} (hj : j < 10) : 7 + 6 * j ≠ 69 + 4 * i := by omega
theorem nE_8_6_10_69_4 {i j : Nat} (hj : j < 10) : 8 + 6 * j ≠ 69 + 4 * i := by omega
theorem nE_9_6_10_69_4 {i j : Nat} (hj : j < 10) : 9 + 6 * j ≠ 69 + 4 * i := by omega
theorem nE_10_6_10_69_4 {i j : Nat} (hj : j < 10) : 10 + 6 * j ≠ 69 + 4 * i := by omega
theorem nE_11_6_10_69_4 {i j : Nat} (hj : j < 10) : 11 + 6 * j ≠ 69 + 4 * i := by omega
theorem nE_66_4_i1_69_4 {i j : Nat} (hj : j < i + 1) : 66 + 4 * j ≠ 69 + 4 * i := by omega
theorem nE_67_4_i1_69_4 {i j : Nat} (hj : j < i + 1) : 67 + 4 * j ≠ 69 + 4 * i := by omega
theorem nE_68_4_i1_69_4 {i j : Nat} (hj : j < i + 1) : 68 + 4 * j ≠ 69 + 4 * i := by omega
theorem nE_69_4_i_69_4 {i j : Nat} (hj : j < i) : 69 + 4 * j ≠ 69 + 4 * i := by omega
theorem nE_706_1_0_69_4 {i j : Nat} (hj : j < 0) : 706 + 1 * j ≠ 69 + 4 * i := by omega
theorem nE_736_3_0_69_4 {i j : Nat} (hj : j < 0) : 736 + 3 * j ≠ 69 + 4 * i := by omega
theorem nE_737_3_0_69_4 {i j : Nat} (hj : j < 0) : 737 + 3 * j ≠ 69 + 4 * i := by omega
theorem nE_738_3_0_69_4 {i j : Nat} (hj : j < 0) : 738 + 3 * j ≠ 69 + 4 * i := by omega
theorem nE_796_2_0_69_4 {i j : Nat} (hj : j < 0) : 796 + 2 * j ≠ 69 + 4 * i := by omega
theorem nE_797_2_0_69_4 {i j : Nat} (hj : j < 0) : 797 + 2 * j ≠ 69 + 4 * i := by omega
theorem nE_6_6_i_6_6 {i j : Nat} (hj : j < i) : 6 + 6 * j ≠ 6 + 6 * i := by omega
theorem nE_7_6_i_6_6 {i j : Nat} (hj : j < i) : 7 + 6 * j ≠ 6 + 6 * i := by omega
theorem nE_8_6_i_6_6 {i j : Nat} (hj : j < i) : 8 + 6 * j ≠ 6 + 6 * i := by omega
theorem nE_9_6_i_6_6 {i j : Nat} (hj : j < i) : 9 + 6 * j ≠ 6 + 6 * i := by omega
theorem nE_10_6_i_6_6 {i j : Nat} (hj : j < i) : 10 + 6 * j ≠ 6 + 6 * i := by omega
theorem nE_11_6_i_6_6 {i j : Nat} (hj : j < i) : 11 + 6 * j ≠ 6 + 6 * i := by omega
theorem nE_66_4_0_6_6 {i j : Nat} (hj : j < 0) : 66 + 4 * j ≠ 6 + 6 * i := by omega
theorem nE_67_4_0_6_6 {i j : Nat} (hj : j < 0) : 67 + 4 * j ≠ 6 + 6 * i := by omega
theorem nE_68_4_0_6_6 {i j : Nat} (hj : j < 0) : 68 + 4 * j ≠ 6 + 6 * i := by omega
theorem nE_69_4_0_6_6 {i j : Nat} (hj : j < 0) : 69 + 4 * j ≠ 6 + 6 * i := by omega
theorem nE_706_1_0_6_6 {i j : Nat} (hj : j < 0) : 706 + 1 * j ≠ 6 + 6 * i := by omega
theorem nE_736_3_0_6_6 {i j : Nat} (hj : j < 0) : 736 + 3 * j ≠ 6 + 6 * i := by omega
theorem nE_737_3_0_6_6 {i j : Nat} (hj : j < 0) : 737 + 3 * j ≠ 6 + 6 * i := by omega
theorem nE_738_3_0_6_6 {i j : Nat} (hj : j < 0) : 738 + 3 * j ≠ 6 + 6 * i := by omega
theorem nE_796_2_0_6_6 {i j : Nat} (hj : j < 0) : 796 + 2 * j ≠ 6 + 6 * i := by omega
theorem nE_797_2_0_6_6 {i j : Nat} (hj : j < 0) : 797 + 2 * j ≠ 6 + 6 * i := by omega
theorem nE_6_6_i1_7_6 {i j : Nat} (hj : j < i + 1) : 6 + 6 * j ≠ 7 + 6 * i := by omega
theorem nE_7_6_i_7_6 {i j : Nat} (hj : j < i) : 7 + 6 * j ≠ 7 + 6 * i := by omega
theorem nE_8_6_i_7_6 {i j : Nat} (hj : j < i) : 8 + 6 * j ≠ 7 + 6 * i := by omega
theorem nE_9_6_i_7_6 {i j : Nat} (hj : j < i) : 9 + 6 * j ≠ 7 + 6 * i := by omega
theorem nE_10_6_i_7_6 {i j : Nat} (hj : j < i) : 10 + 6 * j ≠ 7 + 6 * i := by omega
theorem nE_11_6_i_7_6 {i j : Nat} (hj : j < i) : 11 + 6 * j ≠ 7 + 6 * i := by omega
theorem nE_66_4_0_7_6 {i j : Nat} (hj : j < 0) : 66 + 4 * j ≠ 7 + 6 * i := by omega
theorem nE_67_4_0_7_6 {i j : Nat} (hj : j < 0) : 67 + 4 * j ≠ 7 + 6 * i := by omega
theorem nE_68_4_0_7_6 {i j : Nat} (hj : j < 0) : 68 + 4 * j ≠ 7 + 6 * i := by omega
theorem nE_69_4_0_7_6 {i j : Nat} (hj : j < 0) : 69 + 4 * j ≠ 7 + 6 * i := by omega
theorem nE_706_1_0_7_6 {i j : Nat} (hj : j < 0) : 706 + 1 * j ≠ 7 + 6 * i := by omega
theorem nE_736_3_0_7_6 {i j : Nat} (hj : j < 0) : 736 + 3 * j ≠ 7 + 6 * i := by omega
theorem nE_737_3_0_7_6 {i j : Nat} (hj : j < 0) : 737 + 3 * j ≠ 7 + 6 * i := by omega
theorem nE_738_3_0_7_6 {i j : Nat} (hj : j < 0) : 738 + 3 * j ≠ 7 + 6 * i := by omega
theorem nE_796_2_0_7_6 {i j : Nat} (hj : j < 0) : 796 + 2 * j ≠ 7 + 6 * i := by omega
theorem nE_797_2_0_7_6 {i j : Nat} (hj : j < 0) : 797 + 2 * j ≠ 7 + 6 * i := by omega
theorem nE_6_6_i1_8_6 {i j : Nat} (hj : j < i + 1) : 6 + 6 * j ≠ 8 + 6 * i := by omega
theorem nE_7_6_i1_8_6 {i j : Nat} (hj : j < i + 1) : 7 + 6 * j ≠ 8 + 6 * i := by omega
theorem nE_8_6_i_8_6 {i j : Nat} (hj : j < i) : 8 + 6 * j ≠ 8 + 6 * i := by omega
theorem nE_9_6_i_8_6 {i j : Nat} (hj : j < i) : 9 + 6 * j ≠ 8 + 6 * i := by omega
theorem nE_10_6_i_8_6 {i j : Nat} (hj : j < i) : 10 + 6 * j ≠ 8 + 6 * i := by omega
theorem nE_11_6_i_8_6 {i j : Nat} (hj : j < i) : 11 + 6 * j ≠ 8 + 6 * i := by omega
theorem nE_66_4_0_8_6 {i j : Nat} (hj : j < 0) : 66 + 4 * j ≠ 8 + 6 * i := by omega
theorem nE_67_4_0_8_6 {i j : Nat} (hj : j < 0) : 67 + 4 * j ≠ 8 + 6 * i := by omega
theorem nE_68_4_0_8_6 {i j : Nat} (hj : j < 0) : 68 + 4 * j ≠ 8 + 6 * i := by omega
theorem nE_69_4_0_8_6 {i j : Nat} (hj : j < 0) : 69 + 4 * j ≠ 8 + 6 * i := by omega
theorem nE_706_1_0_8_6 {i j : Nat} (hj : j < 0) : 706 + 1 * j ≠ 8 + 6 * i := by omega
theorem nE_736_3_0_8_6 {i j : Nat} (hj : j < 0) : 736 + 3 * j ≠ 8 + 6 * i := by omega
theorem nE_737_3_0_8_6 {i j : Nat} (hj : j < 0) : 737 + 3 * j ≠ 8 + 6 * i := by omega
theorem nE_738_3_0_8_6 {i j : Nat} (hj : j < 0) : 738 + 3 * j ≠ 8 + 6 * i := by omega
theorem nE_796_2_0_8_6 {i j : Nat} (hj : j < 0) : 796 + 2 * j ≠ 8 + 6 * i := by omega
theorem nE_797_2_0_8_6 {i j : Nat} (hj : j < 0) : 797 + 2 * j ≠ 8 + 6 * i := by omega
theorem nE_6_6_i1_9_6 {i j : Nat} (hj : j < i + 1) : 6 + 6 * j ≠ 9 + 6 * i := by omega
theorem nE_7_6_i1_9_6 {i j : Nat} (hj : j < i + 1) : 7 + 6 * j ≠ 9 + 6 * i := by omega
theorem nE_8_6_i1_9_6 {i j : Nat} (hj : j < i + 1) : 8 + 6 * j ≠ 9 + 6 * i := by omega
theorem nE_9_6_i_9_6 {i j : Nat} (hj : j < i) : 9 + 6 * j ≠ 9 + 6 * i := by omega
theorem nE_10_6_i_9_6 {i j : Nat} (hj : j < i) : 10 + 6 * j ≠ 9 + 6 * i := by omega
theorem nE_11_6_i_9_6 {i j : Nat} (hj : j < i) : 11 + 6 * j ≠ 9 + 6 * i := by omega
theorem nE_66_4_0_9_6 {i j : Nat} (hj : j < 0) : 66 + 4 * j ≠ 9 + 6 * i := by omega
theorem nE_67_4_0_9_6 {i j : Nat} (hj : j < 0) : 67 + 4 * j ≠ 9 + 6 * i := by omega
theorem nE_68_4_0_9_6 {i j : Nat} (hj : j < 0) : 68 + 4 * j ≠ 9 + 6 * i := by omega
theorem nE_69_4_0_9_6 {i j : Nat} (hj : j < 0) : 69 + 4 * j ≠ 9 + 6 * i := by omega
theorem nE_706_1_0_9_6 {i j : Nat} (hj : j < 0) : 706 + 1 * j ≠ 9 + 6 * i := by omega
theorem nE_736_3_0_9_6 {i j : Nat} (hj : j < 0) : 736 + 3 * j ≠ 9 + 6 * i := by omega
theorem nE_737_3_0_9_6 {i j : Nat} (hj : j < 0) : 737 + 3 * j ≠ 9 + 6 * i := by omega
theorem nE_738_3_0_9_6 {i j : Nat} (hj : j < 0) : 738 + 3 * j ≠ 9 + 6 * i := by omega
theorem nE_796_2_0_9_6 {i j : Nat} (hj : j < 0) : 796 + 2 * j ≠ 9 + 6 * i := by omega
theorem nE_797_2_0_9_6 {i j : Nat} (hj : j < 0) : 797 + 2 * j ≠ 9 + 6 * i := by omega
theorem nE_6_6_i1_10_6 {i j : Nat} (hj : j < i + 1) : 6 + 6 * j ≠ 10 + 6 * i := by omega
theorem nE_7_6_i1_10_6 {i j : Nat} (hj : j < i + 1) : 7 + 6 * j ≠ 10 + 6 * i := by omega
theorem nE_8_6_i1_10_6 {i j : Nat} (hj : j < i + 1) : 8 + 6 * j ≠ 10 + 6 * i := by omega
theorem nE_9_6_i1_10_6 {i j : Nat} (hj : j < i + 1) : 9 + 6 * j ≠ 10 + 6 * i := by omega
theorem nE_10_6_i_10_6 {i j : Nat} (hj : j < i) : 10 + 6 * j ≠ 10 + 6 * i := by omega
theorem nE_11_6_i_10_6 {i j : Nat} (hj : j < i) : 11 + 6 * j ≠ 10 + 6 * i := by omega
theorem nE_66_4_0_10_6 {i j : Nat} (hj : j < 0) : 66 + 4 * j ≠ 10 + 6 * i := by omega
theorem nE_67_4_0_10_6 {i j : Nat} (hj : j < 0) : 67 + 4 * j ≠ 10 + 6 * i := by omega
theorem nE_68_4_0_10_6 {i j : Nat} (hj : j < 0) : 68 + 4 * j ≠ 10 + 6 * i := by omega
theorem nE_69_4_0_10_6 {i j : Nat} (hj : j < 0) : 69 + 4 * j ≠ 10 + 6 * i := by omega
theorem nE_706_1_0_10_6 {i j : Nat} (hj : j < 0) : 706 + 1 * j ≠ 10 + 6 * i := by omega
theorem nE_736_3_0_10_6 {i j : Nat} (hj : j < 0) : 736 + 3 * j ≠ 10 + 6 * i := by omega
theorem nE_737_3_0_10_6 {i j : Nat} (hj : j < 0) : 737 + 3 * j ≠ 10 + 6 * i := by omega
theorem nE_738_3_0_10_6 {i j : Nat} (hj : j < 0) : 738 + 3 * j ≠ 10 + 6 * i := by omega
theorem nE_796_2_0_10_6 {i j : Nat} (hj : j < 0) : 796 + 2 * j ≠ 10 + 6 * i := by omega
theorem nE_797_2_0_10_6 {i j : Nat} (hj : j < 0) : 797 + 2 * j ≠ 10 + 6 * i := by omega
theorem nE_6_6_i1_11_6 {i j : Nat} (hj : j < i + 1) : 6 + 6 * j ≠ 11 + 6 * i := by omega
theorem nE_7_6_i1_11_6 {i j : Nat} (hj : j < i + 1) : 7 + 6 * j ≠ 11 + 6 * i := by omega
theorem nE_8_6_i1_11_6 {i j : Nat} (hj : j < i + 1) : 8 + 6 * j ≠ 11 + 6 * i := by omega
theorem nE_9_6_i1_11_6 {i j : Nat} (hj : j < i + 1) : 9 + 6 * j ≠ 11 + 6 * i := by omega
theorem nE_10_6_i1_11_6 {i j : Nat} (hj : j < i + 1) : 10 + 6 * j ≠ 11 + 6 * i := by omega
theorem nE_11_6_i_11_6 {i j : Nat} (hj : j < i) : 11 + 6 * j ≠ 11 + 6 * i := by omega
theorem nE_66_4_0_11_6 {i j : Nat} (hj : j < 0) : 66 + 4 * j ≠ 11 + 6 * i := by omega
theorem nE_67_4_0_11_6 {i j : Nat} (hj : j < 0) : 67 + 4 * j ≠ 11 + 6 * i := by omega
theorem nE_68_4_0_11_6 {i j : Nat} (hj : j < 0) : 68 + 4 * j ≠ 11 + 6 * i := by omega
theorem nE_69_4_0_11_6 {i j : Nat} (hj : j < 0) : 69 + 4 * j ≠ 11 + 6 * i := by omega
theorem nE_706_1_0_11_6 {i j : Nat} (hj : j < 0) : 706 + 1 * j ≠ 11 + 6 * i := by omega
theorem nE_736_3_0_11_6 {i j : Nat} (hj : j < 0) : 736 + 3 * j ≠ 11 + 6 * i := by omega
theorem nE_737_3_0_11_6 {i j : Nat} (hj : j < 0) : 737 + 3 * j ≠ 11 + 6 * i := by omega
theorem nE_738_3_0_11_6 {i j : Nat} (hj : j < 0) : 738 + 3 * j ≠ 11 + 6 * i := by omega
theorem nE_796_2_0_11_6 {i j : Nat} (hj : j < 0) : 796 + 2 * j ≠ 11 + 6 * i := by omega
theorem nE_797_2_0_11_6 {i j : Nat} (hj : j < 0) : 797 + 2 * j ≠ 11 + 6 * i := by omega
set_option maxHeartbeats 4000000 in
set_option maxRecDepth 100000 in
theorem a_X10_keepsBars_g (l : Launch) (K : KE) (G : Nat → Option Nat) (H : Heap) {a0 : Nat} {iq : Nat} {q4 : Nat} {q5 : Nat} {q6 : Nat} {q7 : Nat} {q8 : Nat} {q9 : Nat} {q10 : Nat} {q11 : Nat} {q12 : Nat} {q13 : Nat} {q14 : Nat} {q15 : Nat} {q16 : Nat} {q50 : Nat} {q60 : Nat} {q61 : Nat} (ia : Int32) (tk : Int32) (hT : TY K G H) (ga0 : G a0 = some 112) (giq : G iq = some 162) (eiq : @Eq Ad iq (fR H a0 (K.1.2 10 73))) (gq4 : G q4 = some 113) (eq4 : @Eq Ad q4 (fR H a0 (K.1.2 10 4))) (gq5 : G q5 = some 114) (eq5 : @Eq Ad q5 (fR H a0 (K.1.2 10 5))) (gq6 : G q6 = some 115) (eq6 : @Eq Ad q6 (fR H a0 (K.1.2 10 6))) (gq7 : G q7 = some 116) (eq7 : @Eq Ad q7 (fR H a0 (K.1.2 10 7))) (gq8 : G q8 = some 117) (eq8 : @Eq Ad q8 (fR H a0 (K.1.2 10 8))) (gq9 : G q9 = some 118) (eq9 : @Eq Ad q9 (fR H a0 (K.1.2 10 9))) (gq10 : G q10 = some 119) (eq10 : @Eq Ad q10 (fR H a0 (K.1.2 10 10))) (gq11 : G q11 = some 120) (eq11 : @Eq Ad q11 (fR H a0 (K.1.2 10 11))) (gq12 : G q12 = some 121) (eq12 : @Eq Ad q12 (fR H a0 (K.1.2 10 12))) (gq13 : G q13 = some 122) (eq13 : @Eq Ad q13 (fR H a0 (K.1.2 10 13))) (gq14 : G q14 = some 123) (eq14 : @Eq Ad q14 (fR H a0 (K.1.2 10 14))) (gq15 : G q15 = some 124) (eq15 : @Eq Ad q15 (fR H a0 (K.1.2 10 15))) (gq16 : G q16 = some 125) (eq16 : @Eq Ad q16 (fR H a0 (K.1.2 10 16))) (gq50 : G q50 = some 146) (eq50 : @Eq Ad q50 (fR H a0 (K.1.2 10 50))) (gq60 : G q60 = some 154) (eq60 : @Eq Ad q60 (fR H a0 (K.1.2 10 60))) (gq61 : G q61 = some 155) (eq61 : @Eq Ad q61 (fR H a0 (K.1.2 10 61))) (eia : ia = fI H a0 (K.1.2 10 72)) (etk : tk = fI H a0 (K.1.2 10 71)) (hg_WD : WD (avw K H a0)) (hp0 : ia.toInt = 6) (hy0 : tk.toInt = 0 → IMw (fun k => fI H iq k)) : MX l K yX10_keepsBars cX10_keepsBars 2 none 1 21 0 0 [.ref a0] H (AE G [112, 162, 113, 119, 122, 123, 124, 146, 114, 115, 116, 117, 118, 125, 154, 155, 120, 121] H.size) (fun v H1 => ∃ (t0 : Int32), v = none ∧ t0 = fI H1 a0 (K.1.2 10 72) ∧ (t0.toInt = 4796) ∧ @Eq Ad iq (fR H1 a0 (K.1.2 10 73)) ∧ @Eq Ad q4 (fR H1 a0 (K.1.2 10 4)) ∧ @Eq Ad q5 (fR H1 a0 (K.1.2 10 5)) ∧ @Eq Ad q6 (fR H1 a0 (K.1.2 10 6)) ∧ @Eq Ad q7 (fR H1 a0 (K.1.2 10 7)) ∧ @Eq Ad q8 (fR H1 a0 (K.1.2 10 8)) ∧ @Eq Ad q9 (fR H1 a0 (K.1.2 10 9)) ∧ @Eq Ad q10 (fR H1 a0 (K.1.2 10 10)) ∧ @Eq Ad q11 (fR H1 a0 (K.1.2 10 11)) ∧ @Eq Ad q12 (fR H1 a0 (K.1.2 10 12)) ∧ @Eq Ad q13 (fR H1 a0 (K.1.2 10 13)) ∧ @Eq Ad q14 (fR H1 a0 (K.1.2 10 14)) ∧ @Eq Ad q15 (fR H1 a0 (K.1.2 10 15)) ∧ @Eq Ad q16 (fR H1 a0 (K.1.2 10 16)) ∧ @Eq Ad q50 (fR H1 a0 (K.1.2 10 50)) ∧ @Eq Ad q60 (fR H1 a0 (K.1.2 10 60)) ∧ @Eq Ad q61 (fR H1 a0 (K.1.2 10 61)) ∧ (WD (avw K H1 a0)) ∧ MF K H H1 a0 [72] ∧ (UN (tk.toInt = 0) (fun k => fI H1 iq k) (fun k => fI H iq k)) ∧ (FB (fun k => fI H1 iq k) (fun k => fI H iq k) 6) ∧ (EQ (fun k => fI H1 q4 k) (fun k => fI H1 iq k) 6 6 10) ∧ (EQ (fun k => fI H1 q10 k) (fun k => fI H1 iq k) 7 6 10) ∧ (EQ (fun k => fI H1 q13 k) (fun k => fI H1 iq k) 8 6 10) ∧ (EQ (fun k => fI H1 q14 k) (fun k => fI H1 iq k) 9 6 10) ∧ (EQ (fun k => fI H1 q15 k) (fun k => fI H1 iq k) 10 6 10) ∧ (EQ (fun k => fI H1 q50 k) (fun k => fI H1 iq k) 11 6 10) ∧ (EQ (fun k => fI H1 q5 k) (fun k => fI H1 iq k) 66 4 160) ∧ (EQ (fun k => fI H1 q6 k) (fun k => fI H1 iq k) 67 4 160) ∧ (EQ (fun k => fI H1 q7 k) (fun k => fI H1 iq k) 68 4 160) ∧ (EQ (fun k => fI H1 q8 k) (fun k => fI H1 iq k) 69 4 160) ∧ (EQ (fun k => fI H1 q9 k) (fun k => fI H1 iq k) 706 1 30) ∧ (EQ (fun k => fI H1 q16 k) (fun k => fI H1 iq k) 736 3 20) ∧ (EQ (fun k => fI H1 q60 k) (fun k => fI H1 iq k) 737 3 20) ∧ (EQ (fun k => fI H1 q61 k) (fun k => fI H1 iq k) 738 3 20) ∧ (EQ (fun k => fI H1 q11 k) (fun k => fI H1 iq k) 796 2 2000) ∧ (EQ (fun k => fI H1 q12 k) (fun k => fI H1 iq k) 797 2 2000) ∧ (UN (tk.toInt ≠ 0) (fun k => fI H1 q4 k) (fun k => fI H q4 k)) ∧ (UN (tk.toInt ≠ 0) (fun k => fI H1 q10 k) (fun k => fI H q10 k)) ∧ (UN (tk.toInt ≠ 0) (fun k => fI H1 q13 k) (fun k => fI H q13 k)) ∧ (UN (tk.toInt ≠ 0) (fun k => fI H1 q14 k) (fun k => fI H q14 k)) ∧ (UN (tk.toInt ≠ 0) (fun k => fI H1 q15 k) (fun k => fI H q15 k)) ∧ (UN (tk.toInt ≠ 0) (fun k => fI H1 q50 k) (fun k => fI H q50 k)) ∧ (UN (tk.toInt ≠ 0) (fun k => fI H1 q5 k) (fun k => fI H q5 k)) ∧ (UN (tk.toInt ≠ 0) (fun k => fI H1 q6 k) (fun k => fI H q6 k)) ∧ (UN (tk.toInt ≠ 0) (fun k => fI H1 q7 k) (fun k => fI H q7 k)) ∧ (UN (tk.toInt ≠ 0) (fun k => fI H1 q8 k) (fun k => fI H q8 k)) ∧ (UN (tk.toInt ≠ 0) (fun k => fI H1 q9 k) (fun k => fI H q9 k)) ∧ (UN (tk.toInt ≠ 0) (fun k => fI H1 q16 k) (fun k => fI H q16 k)) ∧ (UN (tk.toInt ≠ 0) (fun k => fI H1 q60 k) (fun k => fI H q60 k)) ∧ (UN (tk.toInt ≠ 0) (fun k => fI H1 q61 k) (fun k => fI H q61 k)) ∧ (UN (tk.toInt ≠ 0) (fun k => fI H1 q11 k) (fun k => fI H q11 k)) ∧ (UN (tk.toInt ≠ 0) (fun k => fI H1 q12 k) (fun k => fI H q12 k)) ∧ TY K G H1) := by
  refine MX.of (by decide +kernel) (Nat.le_of_ble_eq_true rfl) ?_
  intro p e s m below meth c ls Q C hH hl hQ
  subst hH
  have C : CX p K s m _ meth c RX10 cX10_keepsBars 2 none "keepsBars" := C
  obtain ⟨hx, hb, hml, hown, hts, hKT, hr, hlocks, hnm⟩ := id C
  have hl : lv_has ls 2 [(0, .ref a0)] := hl
  have hS : va_S (AE G [112, 162, 113, 119, 122, 123, 124, 146, 114, 115, 116, 117, 118, 125, 154, 155, 120, 121] s.heap.size) s.heap s.heap [] := va_S.rf
  have n_0 : (0 : Int32).toInt = 0 := rfl
  have n_1 : (1 : Int32).toInt = 1 := rfl
  have n_10 : (10 : Int32).toInt = 10 := rfl
  have n_20 : (20 : Int32).toInt = 20 := rfl
  have n_30 : (30 : Int32).toInt = 30 := rfl
  have n_160 : (160 : Int32).toInt = 160 := rfl
  have n_2000 : (2000 : Int32).toInt = 2000 := rfl
  have bia := ty_fi (x := ia) (k := 72) eia hT ga0 rg_112 rfl
  have btk := ty_fi (x := tk) (k := 71) etk hT ga0 rg_112 rfl
  have hap : ∀ x y, x < 74 → y < 74 → x ≠ y → K.1.2 10 x ≠ K.1.2 10 y := x_apart hKT hts inX10 tyX10 tyX10_ok nmX10 rfl
  have mf0 : MF K s.heap s.heap a0 [72] := fun _ _ _ => rfl
  replace eiq := EQN.mk eiq
  replace eq4 := EQN.mk eq4
  replace eq5 := EQN.mk eq5
  replace eq6 := EQN.mk eq6
  replace eq7 := EQN.mk eq7
  replace eq8 := EQN.mk eq8
  replace eq9 := EQN.mk eq9
  replace eq10 := EQN.mk eq10
  replace eq11 := EQN.mk eq11
  replace eq12 := EQN.mk eq12
  replace eq13 := EQN.mk eq13
  replace eq14 := EQN.mk eq14
  replace eq15 := EQN.mk eq15
  replace eq16 := EQN.mk eq16
  replace eq50 := EQN.mk eq50
  replace eq60 := EQN.mk eq60
  replace eq61 := EQN.mk eq61
  have J283 : ∀ (nf : Nat) (ls32041 : Array Slot) (H32040 : Heap) (locsH32040 : List Loc) (x32043 : Int32) (x32044 : Int32), lv_has ls32041 2 [(0, .ref a0), (1, .int x32043)] → TY K G H32040 → va_S (AE G [112, 162, 113, 119, 122, 123, 124, 146, 114, 115, 116, 117, 118, 125, 154, 155, 120, 121] s.heap.size) s.heap H32040 locsH32040 → (0 ≤ x32043.toInt ∧ x32043.toInt ≤ 2000) → (0 ≤ x32044.toInt ∧ x32044.toInt ≤ 16400) → (x32044 = fI H32040 a0 (K.1.2 10 72)) → (EQN iq (fR H32040 a0 (K.1.2 10 73))) → (EQN q4 (fR H32040 a0 (K.1.2 10 4))) → (EQN q5 (fR H32040 a0 (K.1.2 10 5))) → (EQN q6 (fR H32040 a0 (K.1.2 10 6))) → (EQN q7 (fR H32040 a0 (K.1.2 10 7))) → (EQN q8 (fR H32040 a0 (K.1.2 10 8))) → (EQN q9 (fR H32040 a0 (K.1.2 10 9))) → (EQN q10 (fR H32040 a0 (K.1.2 10 10))) → (EQN q11 (fR H32040 a0 (K.1.2 10 11))) → (EQN q12 (fR H32040 a0 (K.1.2 10 12))) → (EQN q13 (fR H32040 a0 (K.1.2 10 13))) → (EQN q14 (fR H32040 a0 (K.1.2 10 14))) → (EQN q15 (fR H32040 a0 (K.1.2 10 15))) → (EQN q16 (fR H32040 a0 (K.1.2 10 16))) → (EQN q50 (fR H32040 a0 (K.1.2 10 50))) → (EQN q60 (fR H32040 a0 (K.1.2 10 60))) → (EQN q61 (fR H32040 a0 (K.1.2 10 61))) → (tk = fI H32040 a0 (K.1.2 10 71)) → (UN (tk.toInt = 0) (fun k => fI H32040 iq k) (fun k => fI s.heap iq k)) → (FB (fun k => fI H32040 iq k) (fun k => fI s.heap iq k) (6)) → (EQ (fun k => fI H32040 q4 k) (fun k => fI H32040 iq k) (6) (6) (10)) → (EQ (fun k => fI H32040 q10 k) (fun k => fI H32040 iq k) (7) (6) (10)) → (EQ (fun k => fI H32040 q13 k) (fun k => fI H32040 iq k) (8) (6) (10)) → (EQ (fun k => fI H32040 q14 k) (fun k => fI H32040 iq k) (9) (6) (10)) → (EQ (fun k => fI H32040 q15 k) (fun k => fI H32040 iq k) (10) (6) (10)) → (EQ (fun k => fI H32040 q50 k) (fun k => fI H32040 iq k) (11) (6) (10)) → (EQ (fun k => fI H32040 q5 k) (fun k => fI H32040 iq k) (66) (4) (160)) → (EQ (fun k => fI H32040 q6 k) (fun k => fI H32040 iq k) (67) (4) (160)) → (EQ (fun k => fI H32040 q7 k) (fun k => fI H32040 iq k) (68) (4) (160)) → (EQ (fun k => fI H32040 q8 k) (fun k => fI H32040 iq k) (69) (4) (160)) → (EQ (fun k => fI H32040 q9 k) (fun k => fI H32040 iq k) (706) (1) (30)) → (EQ (fun k => fI H32040 q16 k) (fun k => fI H32040 iq k) (736) (3) (20)) → (EQ (fun k => fI H32040 q60 k) (fun k => fI H32040 iq k) (737) (3) (20)) → (EQ (fun k => fI H32040 q61 k) (fun k => fI H32040 iq k) (738) (3) (20)) → (EQ (fun k => fI H32040 q11 k) (fun k => fI H32040 iq k) (796) (2) (x32043.toNatClampNeg)) → (EQ (fun k => fI H32040 q12 k) (fun k => fI H32040 iq k) (797) (2) (x32043.toNatClampNeg)) → (UN (tk.toInt ≠ 0) (fun k => fI H32040 q4 k) (fun k => fI s.heap q4 k)) → (UN (tk.toInt ≠ 0) (fun k => fI H32040 q10 k) (fun k => fI s.heap q10 k)) → (UN (tk.toInt ≠ 0) (fun k => fI H32040 q13 k) (fun k => fI s.heap q13 k)) → (UN (tk.toInt ≠ 0) (fun k => fI H32040 q14 k) (fun k => fI s.heap q14 k)) → (UN (tk.toInt ≠ 0) (fun k => fI H32040 q15 k) (fun k => fI s.heap q15 k)) → (UN (tk.toInt ≠ 0) (fun k => fI H32040 q50 k) (fun k => fI s.heap q50 k)) → (UN (tk.toInt ≠ 0) (fun k => fI H32040 q5 k) (fun k => fI s.heap q5 k)) → (UN (tk.toInt ≠ 0) (fun k => fI H32040 q6 k) (fun k => fI s.heap q6 k)) → (UN (tk.toInt ≠ 0) (fun k => fI H32040 q7 k) (fun k => fI s.heap q7 k)) → (UN (tk.toInt ≠ 0) (fun k => fI H32040 q8 k) (fun k => fI s.heap q8 k)) → (UN (tk.toInt ≠ 0) (fun k => fI H32040 q9 k) (fun k => fI s.heap q9 k)) → (UN (tk.toInt ≠ 0) (fun k => fI H32040 q16 k) (fun k => fI s.heap q16 k)) → (UN (tk.toInt ≠ 0) (fun k => fI H32040 q60 k) (fun k => fI s.heap q60 k)) → (UN (tk.toInt ≠ 0) (fun k => fI H32040 q61 k) (fun k => fI s.heap q61 k)) → (UN (tk.toInt ≠ 0) (fun k => fI H32040 q11 k) (fun k => fI s.heap q11 k)) → (UN (tk.toInt ≠ 0) (fun k => fI H32040 q12 k) (fun k => fI s.heap q12 k)) → (MF K s.heap H32040 a0 [72]) → (WD (avw K H32040 a0)) → (2000 - x32043.toInt < (nf : Int)) → (x32044.toInt = 796 + 2 * x32043.toInt) → W p l e ({ frames := 1, cells := 0, slots := 0, locals := 21 } : Room) s m (([.ref a0] : List Value).toArray) below meth c H32040 locsH32040 0 0 Q (F0 m 283 ls32041 []) := by
    intro nf
    induction nf with
    | zero =>
      intro ls32041 H32040 locsH32040 x32043 x32044 hl32042 hTH32040 hSH32040 bx32043 bx32044 ex32044 cy32045_0 cy32045_1 cy32045_2 cy32045_3 cy32045_4 cy32045_5 cy32045_6 cy32045_7 cy32045_8 cy32045_9 cy32045_10 cy32045_11 cy32045_12 cy32045_13 cy32045_14 cy32045_15 cy32045_16 cy32045_17 by32045_ui by32045_fb by32045_e4 by32045_e10 by32045_e13 by32045_e14 by32045_e15 by32045_e50 by32045_e5 by32045_e6 by32045_e7 by32045_e8 by32045_e9 by32045_e16 by32045_e60 by32045_e61 by32045_e11 by32045_e12 by32045_u4 by32045_u10 by32045_u13 by32045_u14 by32045_u15 by32045_u50 by32045_u5 by32045_u6 by32045_u7 by32045_u8 by32045_u9 by32045_u16 by32045_u60 by32045_u61 by32045_u11 by32045_u12 mfy32045 gy32045_WD hm283 iv283
      exfalso
      omega
    | succ nf ih283 =>
      intro ls32041 H32040 locsH32040 x32043 x32044 hl32042 hTH32040 hSH32040 bx32043 bx32044 ex32044 cy32045_0 cy32045_1 cy32045_2 cy32045_3 cy32045_4 cy32045_5 cy32045_6 cy32045_7 cy32045_8 cy32045_9 cy32045_10 cy32045_11 cy32045_12 cy32045_13 cy32045_14 cy32045_15 cy32045_16 cy32045_17 by32045_ui by32045_fb by32045_e4 by32045_e10 by32045_e13 by32045_e14 by32045_e15 by32045_e50 by32045_e5 by32045_e6 by32045_e7 by32045_e8 by32045_e9 by32045_e16 by32045_e60 by32045_e61 by32045_e11 by32045_e12 by32045_u4 by32045_u10 by32045_u13 by32045_u14 by32045_u15 by32045_u50 by32045_u5 by32045_u6 by32045_u7 by32045_u8 by32045_u9 by32045_u16 by32045_u60 by32045_u61 by32045_u11 by32045_u12 mfy32045 gy32045_WD hm283 iv283
      refine lv_iload_n hx hb dX10_keepsBars_283 rfl (lv_at hl32042 1 rfl) ?_
      refine lv_sipush (v := 2000) hx hb dX10_keepsBars_284 (by decide) ?_
      refine lv_icmp_ge (tgt := 328) hx hb dX10_keepsBars_287 (by decide) (fun c32046 => ?_) (fun c32046 => ?_)
      · have k32047 := i_le c32046
        have ce_x32043 := i_cl (x := x32043) bx32043.1
        exact x_vret C hQ dX10_keepsBars_328 hSH32040 (by decide) (by decide) (⟨x32044, rfl, ex32044, by omega, cy32045_0, cy32045_1, cy32045_2, cy32045_3, cy32045_4, cy32045_5, cy32045_6, cy32045_7, cy32045_8, cy32045_9, cy32045_10, cy32045_11, cy32045_12, cy32045_13, cy32045_14, cy32045_15, cy32045_16, gy32045_WD, mfy32045, by32045_ui, by32045_fb, (EQ.cast by32045_e4 (by omega)), (EQ.cast by32045_e10 (by omega)), (EQ.cast by32045_e13 (by omega)), (EQ.cast by32045_e14 (by omega)), (EQ.cast by32045_e15 (by omega)), (EQ.cast by32045_e50 (by omega)), (EQ.cast by32045_e5 (by omega)), (EQ.cast by32045_e6 (by omega)), (EQ.cast by32045_e7 (by omega)), (EQ.cast by32045_e8 (by omega)), (EQ.cast by32045_e9 (by omega)), (EQ.cast by32045_e16 (by omega)), (EQ.cast by32045_e60 (by omega)), (EQ.cast by32045_e61 (by omega)), (EQ.cast by32045_e11 (by omega)), (EQ.cast by32045_e12 (by omega)), by32045_u4, by32045_u10, by32045_u13, by32045_u14, by32045_u15, by32045_u50, by32045_u5, by32045_u6, by32045_u7, by32045_u8, by32045_u9, by32045_u16, by32045_u60, by32045_u61, by32045_u11, by32045_u12, hTH32040⟩)
      · have k32047 := i_nle c32046
        refine lv_aload_n hx hb dX10_keepsBars_290 rfl (lv_at hl32042 0 rfl) ?_
        refine x_gr C hTH32040 (ci := 10) (k := 11) rfl inX10 (by decide) wF_X10_35 ga0 rg_112 rfl dX10_keepsBars_291 (fun q32048 eq32048 gq32048 => ?_)
        have uq32048 : q11 = q32048 := (cy32045_8).trans eq32048.symm
        subst uq32048
        clear eq32048
        refine lv_iload_n hx hb dX10_keepsBars_294 rfl (lv_at hl32042 1 rfl) ?_
        refine lv_aload_n hx hb dX10_keepsBars_295 rfl (lv_at hl32042 0 rfl) ?_
        refine lv_aload_n hx hb dX10_keepsBars_296 rfl (lv_at hl32042 0 rfl) ?_
        refine x_gr C hTH32040 (ci := 10) (k := 11) rfl inX10 (by decide) wF_X10_35 ga0 rg_112 rfl dX10_keepsBars_297 (fun q32049 eq32049 gq32049 => ?_)
        have uq32049 : q11 = q32049 := (cy32045_8).trans eq32049.symm
        subst uq32049
        clear eq32049
        refine lv_iload_n hx hb dX10_keepsBars_300 rfl (lv_at hl32042 1 rfl) ?_
        refine x_ai C hTH32040 gq11 rg_120 ⟨bx32043.1, by show _ < ((2000 : Nat) : Int); omega⟩ dX10_keepsBars_301 (fun x32050 ex32050 bx32050 => ?_)
        refine x_V (As := [.int x32050]) (rest := [.int x32043, .ref q11]) C (a_X10_kept l K G H32040 (x32050) (x32044) (tk) hTH32040 ga0 giq cy32045_0 ex32044 cy32045_17 gy32045_WD (by and_intros <;> first | assumption | omega)) yo_X10_kept wM_X10_473 ⟨⟨by decide, by decide⟩, by decide, by decide⟩ (x_rv C hTH32040 (ci := 10) rfl ga0 rg_112) rfl hl32042.1 rfl (Nat.le_of_ble_eq_true rfl) dX10_keepsBars_302 hSH32040 (AE_sub (fun _ _ => rfl) (by decide) hSH32040.1) (fun vH32051 H32051 locsH32051 pH32051 zH32051 kH32051 hSH32051 => ?_)
        obtain ⟨x32052, x32053, hvH32051, ex32053, hrH32051, m32054, g32055, mf32056, m32057, m32058, m32059, m32060, hTH32051⟩ := pH32051
        subst hvH32051
        clear zH32051
        replace m32054 := EQN.mk m32054
        have b32061 : UN (tk.toInt ≠ 0) (fun k => fI H32051 q4 k) (fun k => fI s.heap q4 k) := UN.congr (fun j => fI_kept (x_lt hTH32040 kH32051 gq4 (by decide))) by32045_u4
        have b32062 : UN (tk.toInt ≠ 0) (fun k => fI H32051 q10 k) (fun k => fI s.heap q10 k) := UN.congr (fun j => fI_kept (x_lt hTH32040 kH32051 gq10 (by decide))) by32045_u10
        have b32063 : UN (tk.toInt ≠ 0) (fun k => fI H32051 q13 k) (fun k => fI s.heap q13 k) := UN.congr (fun j => fI_kept (x_lt hTH32040 kH32051 gq13 (by decide))) by32045_u13
        have b32064 : UN (tk.toInt ≠ 0) (fun k => fI H32051 q14 k) (fun k => fI s.heap q14 k) := UN.congr (fun j => fI_kept (x_lt hTH32040 kH32051 gq14 (by decide))) by32045_u14
        have b32065 : UN (tk.toInt ≠ 0) (fun k => fI H32051 q15 k) (fun k => fI s.heap q15 k) := UN.congr (fun j => fI_kept (x_lt hTH32040 kH32051 gq15 (by decide))) by32045_u15
        have b32066 : UN (tk.toInt ≠ 0) (fun k => fI H32051 q50 k) (fun k => fI s.heap q50 k) := UN.congr (fun j => fI_kept (x_lt hTH32040 kH32051 gq50 (by decide))) by32045_u50
        have b32067 : UN (tk.toInt ≠ 0) (fun k => fI H32051 q5 k) (fun k => fI s.heap q5 k) := UN.congr (fun j => fI_kept (x_lt hTH32040 kH32051 gq5 (by decide))) by32045_u5
        have b32068 : UN (tk.toInt ≠ 0) (fun k => fI H32051 q6 k) (fun k => fI s.heap q6 k) := UN.congr (fun j => fI_kept (x_lt hTH32040 kH32051 gq6 (by decide))) by32045_u6
        have b32069 : UN (tk.toInt ≠ 0) (fun k => fI H32051 q7 k) (fun k => fI s.heap q7 k) := UN.congr (fun j => fI_kept (x_lt hTH32040 kH32051 gq7 (by decide))) by32045_u7
        have b32070 : UN (tk.toInt ≠ 0) (fun k => fI H32051 q8 k) (fun k => fI s.heap q8 k) := UN.congr (fun j => fI_kept (x_lt hTH32040 kH32051 gq8 (by decide))) by32045_u8
        have b32071 : UN (tk.toInt ≠ 0) (fun k => fI H32051 q9 k) (fun k => fI s.heap q9 k) := UN.congr (fun j => fI_kept (x_lt hTH32040 kH32051 gq9 (by decide))) by32045_u9
        have b32072 : UN (tk.toInt ≠ 0) (fun k => fI H32051 q16 k) (fun k => fI s.heap q16 k) := UN.congr (fun j => fI_kept (x_lt hTH32040 kH32051 gq16 (by decide))) by32045_u16
        have b32073 : UN (tk.toInt ≠ 0) (fun k => fI H32051 q60 k) (fun k => fI s.heap q60 k) := UN.congr (fun j => fI_kept (x_lt hTH32040 kH32051 gq60 (by decide))) by32045_u60
        have b32074 : UN (tk.toInt ≠ 0) (fun k => fI H32051 q61 k) (fun k => fI s.heap q61 k) := UN.congr (fun j => fI_kept (x_lt hTH32040 kH32051 gq61 (by decide))) by32045_u61
        have b32075 : UN (tk.toInt ≠ 0) (fun k => fI H32051 q11 k) (fun k => fI s.heap q11 k) := UN.congr (fun j => fI_kept (x_lt hTH32040 kH32051 gq11 (by decide))) by32045_u11
        have b32076 : UN (tk.toInt ≠ 0) (fun k => fI H32051 q12 k) (fun k => fI s.heap q12 k) := UN.congr (fun j => fI_kept (x_lt hTH32040 kH32051 gq12 (by decide))) by32045_u12
        have m32077 := (ex32050).trans (fI_kept (x_lt hTH32040 kH32051 gq11 (by decide))).symm
        have m32078 := (cy32045_0).trans (MF.r mf32056 (k := 73) (by decide) (by decide)).symm
        have m32079 := (cy32045_1).trans (MF.r mf32056 (k := 4) (by decide) (by decide)).symm
        have m32080 := (cy32045_2).trans (MF.r mf32056 (k := 5) (by decide) (by decide)).symm
        have m32081 := (cy32045_3).trans (MF.r mf32056 (k := 6) (by decide) (by decide)).symm
        have m32082 := (cy32045_4).trans (MF.r mf32056 (k := 7) (by decide) (by decide)).symm
        have m32083 := (cy32045_5).trans (MF.r mf32056 (k := 8) (by decide) (by decide)).symm
        have m32084 := (cy32045_6).trans (MF.r mf32056 (k := 9) (by decide) (by decide)).symm
        have m32085 := (cy32045_7).trans (MF.r mf32056 (k := 10) (by decide) (by decide)).symm
        have m32086 := (cy32045_8).trans (MF.r mf32056 (k := 11) (by decide) (by decide)).symm
        have m32087 := (cy32045_9).trans (MF.r mf32056 (k := 12) (by decide) (by decide)).symm
        have m32088 := (cy32045_10).trans (MF.r mf32056 (k := 13) (by decide) (by decide)).symm
        have m32089 := (cy32045_11).trans (MF.r mf32056 (k := 14) (by decide) (by decide)).symm
        have m32090 := (cy32045_12).trans (MF.r mf32056 (k := 15) (by decide) (by decide)).symm
        have m32091 := (cy32045_13).trans (MF.r mf32056 (k := 16) (by decide) (by decide)).symm
        have m32092 := (cy32045_14).trans (MF.r mf32056 (k := 50) (by decide) (by decide)).symm
        have m32093 := (cy32045_15).trans (MF.r mf32056 (k := 60) (by decide) (by decide)).symm
        have m32094 := (cy32045_16).trans (MF.r mf32056 (k := 61) (by decide) (by decide)).symm
        have m32095 := (cy32045_17).trans (MF.i mf32056 (k := 71) (by decide) (by decide)).symm
        have mf32096 : MF K s.heap H32051 a0 [72] := MF.trans mfy32045 mf32056 (by decide)
        have bx32053 := ty_fi (x := x32053) (k := 72) ex32053 hTH32051 ga0 rg_112 rfl
        have ce_x32043 := i_cl (x := x32043) bx32043.1
        have ce_x32044 := i_cl (x := x32044) bx32044.1
        have e_ : x32044.toNatClampNeg = 796 + 2 * x32043.toNatClampNeg := by omega
        have k3e_ := m32059
        rw [e_] at k3e_
        have b32097 : UN (tk.toInt = 0) (fun k => fI H32051 iq k) (fun k => fI s.heap iq k) := UN.tr m32060 by32045_ui
        have b32098 : FB (fun k => fI H32051 iq k) (fun k => fI s.heap iq k) (6) := FB.wr by32045_fb k3e_ (fun j hj => Nat.ne_of_lt (Nat.lt_of_lt_of_le hj (Nat.le_trans (by decide : 6 ≤ 796) (Nat.le_add_right _ _))))
        have b32099 : EQ (fun k => fI H32051 q4 k) (fun k => fI H32051 iq k) (6) (6) (10) := EQ.wr (EQ.congr (w1 := fun k => fI H32040 iq k) (fun j => fI_kept (x_lt hTH32040 kH32051 gq4 (by decide))) (fun _ => rfl) by32045_e4) k3e_ (fun j hj => nE_6_6_10_796_2 hj)
        have b32100 : EQ (fun k => fI H32051 q10 k) (fun k => fI H32051 iq k) (7) (6) (10) := EQ.wr (EQ.congr (w1 := fun k => fI H32040 iq k) (fun j => fI_kept (x_lt hTH32040 kH32051 gq10 (by decide))) (fun _ => rfl) by32045_e10) k3e_ (fun j hj => nE_7_6_10_796_2 hj)
        have b32101 : EQ (fun k => fI H32051 q13 k) (fun k => fI H32051 iq k) (8) (6) (10) := EQ.wr (EQ.congr (w1 := fun k => fI H32040 iq k) (fun j => fI_kept (x_lt hTH32040 kH32051 gq13 (by decide))) (fun _ => rfl) by32045_e13) k3e_ (fun j hj => nE_8_6_10_796_2 hj)
        have b32102 : EQ (fun k => fI H32051 q14 k) (fun k => fI H32051 iq k) (9) (6) (10) := EQ.wr (EQ.congr (w1 := fun k => fI H32040 iq k) (fun j => fI_kept (x_lt hTH32040 kH32051 gq14 (by decide))) (fun _ => rfl) by32045_e14) k3e_ (fun j hj => nE_9_6_10_796_2 hj)
        have b32103 : EQ (fun k => fI H32051 q15 k) (fun k => fI H32051 iq k) (10) (6) (10) := EQ.wr (EQ.congr (w1 := fun k => fI H32040 iq k) (fun j => fI_kept (x_lt hTH32040 kH32051 gq15 (by decide))) (fun _ => rfl) by32045_e15) k3e_ (fun j hj => nE_10_6_10_796_2 hj)
        have b32104 : EQ (fun k => fI H32051 q50 k) (fun k => fI H32051 iq k) (11) (6) (10) := EQ.wr (EQ.congr (w1 := fun k => fI H32040 iq k) (fun j => fI_kept (x_lt hTH32040 kH32051 gq50 (by decide))) (fun _ => rfl) by32045_e50) k3e_ (fun j hj => nE_11_6_10_796_2 hj)
        have b32105 : EQ (fun k => fI H32051 q5 k) (fun k => fI H32051 iq k) (66) (4) (160) := EQ.wr (EQ.congr (w1 := fun k => fI H32040 iq k) (fun j => fI_kept (x_lt hTH32040 kH32051 gq5 (by decide))) (fun _ => rfl) by32045_e5) k3e_ (fun j hj => nE_66_4_160_796_2 hj)
        have b32106 : EQ (fun k => fI H32051 q6 k) (fun k => fI H32051 iq k) (67) (4) (160) := EQ.wr (EQ.congr (w1 := fun k => fI H32040 iq k) (fun j => fI_kept (x_lt hTH32040 kH32051 gq6 (by decide))) (fun _ => rfl) by32045_e6) k3e_ (fun j hj => nE_67_4_160_796_2 hj)
        have b32107 : EQ (fun k => fI H32051 q7 k) (fun k => fI H32051 iq k) (68) (4) (160) := EQ.wr (EQ.congr (w1 := fun k => fI H32040 iq k) (fun j => fI_kept (x_lt hTH32040 kH32051 gq7 (by decide))) (fun _ => rfl) by32045_e7) k3e_ (fun j hj => nE_68_4_160_796_2 hj)
        have b32108 : EQ (fun k => fI H32051 q8 k) (fun k => fI H32051 iq k) (69) (4) (160) := EQ.wr (EQ.congr (w1 := fun k => fI H32040 iq k) (fun j => fI_kept (x_lt hTH32040 kH32051 gq8 (by decide))) (fun _ => rfl) by32045_e8) k3e_ (fun j hj => nE_69_4_160_796_2 hj)
        have b32109 : EQ (fun k => fI H32051 q9 k) (fun k => fI H32051 iq k) (706) (1) (30) := EQ.wr (EQ.congr (w1 := fun k => fI H32040 iq k) (fun j => fI_kept (x_lt hTH32040 kH32051 gq9 (by decide))) (fun _ => rfl) by32045_e9) k3e_ (fun j hj => nE_706_1_30_796_2 hj)
        have b32110 : EQ (fun k => fI H32051 q16 k) (fun k => fI H32051 iq k) (736) (3) (20) := EQ.wr (EQ.congr (w1 := fun k => fI H32040 iq k) (fun j => fI_kept (x_lt hTH32040 kH32051 gq16 (by decide))) (fun _ => rfl) by32045_e16) k3e_ (fun j hj => nE_736_3_20_796_2 hj)
        have b32111 : EQ (fun k => fI H32051 q60 k) (fun k => fI H32051 iq k) (737) (3) (20) := EQ.wr (EQ.congr (w1 := fun k => fI H32040 iq k) (fun j => fI_kept (x_lt hTH32040 kH32051 gq60 (by decide))) (fun _ => rfl) by32045_e60) k3e_ (fun j hj => nE_737_3_20_796_2 hj)
        have b32112 : EQ (fun k => fI H32051 q61 k) (fun k => fI H32051 iq k) (738) (3) (20) := EQ.wr (EQ.congr (w1 := fun k => fI H32040 iq k) (fun j => fI_kept (x_lt hTH32040 kH32051 gq61 (by decide))) (fun _ => rfl) by32045_e61) k3e_ (fun j hj => nE_738_3_20_796_2 hj)
        have b32113 : EQ (fun k => fI H32051 q11 k) (fun k => fI H32051 iq k) (796) (2) (x32043.toNatClampNeg) := EQ.wr (EQ.congr (w1 := fun k => fI H32040 iq k) (fun j => fI_kept (x_lt hTH32040 kH32051 gq11 (by decide))) (fun _ => rfl) by32045_e11) k3e_ (fun j hj => nE_796_2_i_796_2 hj)
        have b32114 : EQ (fun k => fI H32051 q12 k) (fun k => fI H32051 iq k) (797) (2) (x32043.toNatClampNeg) := EQ.wr (EQ.congr (w1 := fun k => fI H32040 iq k) (fun j => fI_kept (x_lt hTH32040 kH32051 gq12 (by decide))) (fun _ => rfl) by32045_e12) k3e_ (fun j hj => nE_797_2_i_796_2 hj)
        clear by32045_e10 by32045_e11 by32045_e12 by32045_e13 by32045_e14 by32045_e15 by32045_e16 by32045_e4 by32045_e5 by32045_e50 by32045_e6 by32045_e60 by32045_e61 by32045_e7 by32045_e8 by32045_e9 by32045_fb by32045_u10 by32045_u11 by32045_u12 by32045_u13 by32045_u14 by32045_u15 by32045_u16 by32045_u4 by32045_u5 by32045_u50 by32045_u6 by32045_u60 by32045_u61 by32045_u7 by32045_u8 by32045_u9 by32045_ui cy32045_0 cy32045_1 cy32045_10 cy32045_11 cy32045_12 cy32045_13 cy32045_14 cy32045_15 cy32045_16 cy32045_17 cy32045_2 cy32045_3 cy32045_4 cy32045_5 cy32045_6 cy32045_7 cy32045_8 cy32045_9 ex32044 ex32050
        clear m32059 m32060 k3e_ e_
        refine W.eq (g2 := F0 m 305 ls32041 [.int x32052, .int x32043, .ref q11]) rfl ?_
        refine x_iast C hTH32051 hSH32051 gq11 rg_120 bx32043.1 (by show _ < ((2000 : Nat) : Int); omega) (i_rng x32052) (AE_in gq11 (by decide)) dX10_keepsBars_305 (fun H32115 locsH32115 hTH32115 hSH32115 wH32115 => ?_)
        have mf32116 : MF K s.heap H32115 a0 [72] := MF.arr wH32115 (G_ne ga0 gq11 (by decide)) mf32096
        have g32117 : WD (avw K H32115 a0) := WD.congr (fun k hk j => av_arr hTH32051 ga0 wH32115 gq11 (by decide) (WD_ok 120 (by decide) k hk)) g32055
        have b32118 : UN (tk.toInt ≠ 0) (fun k => fI H32115 q4 k) (fun k => fI s.heap q4 k) := UN.congr (fun j => Wr.neI wH32115 (Or.inl (G_ne gq4 gq11 (by decide)))) b32061
        have b32119 : UN (tk.toInt ≠ 0) (fun k => fI H32115 q10 k) (fun k => fI s.heap q10 k) := UN.congr (fun j => Wr.neI wH32115 (Or.inl (G_ne gq10 gq11 (by decide)))) b32062
        have b32120 : UN (tk.toInt ≠ 0) (fun k => fI H32115 q13 k) (fun k => fI s.heap q13 k) := UN.congr (fun j => Wr.neI wH32115 (Or.inl (G_ne gq13 gq11 (by decide)))) b32063
        have b32121 : UN (tk.toInt ≠ 0) (fun k => fI H32115 q14 k) (fun k => fI s.heap q14 k) := UN.congr (fun j => Wr.neI wH32115 (Or.inl (G_ne gq14 gq11 (by decide)))) b32064
        have b32122 : UN (tk.toInt ≠ 0) (fun k => fI H32115 q15 k) (fun k => fI s.heap q15 k) := UN.congr (fun j => Wr.neI wH32115 (Or.inl (G_ne gq15 gq11 (by decide)))) b32065
        have b32123 : UN (tk.toInt ≠ 0) (fun k => fI H32115 q50 k) (fun k => fI s.heap q50 k) := UN.congr (fun j => Wr.neI wH32115 (Or.inl (G_ne gq50 gq11 (by decide)))) b32066
        have b32124 : UN (tk.toInt ≠ 0) (fun k => fI H32115 q5 k) (fun k => fI s.heap q5 k) := UN.congr (fun j => Wr.neI wH32115 (Or.inl (G_ne gq5 gq11 (by decide)))) b32067
        have b32125 : UN (tk.toInt ≠ 0) (fun k => fI H32115 q6 k) (fun k => fI s.heap q6 k) := UN.congr (fun j => Wr.neI wH32115 (Or.inl (G_ne gq6 gq11 (by decide)))) b32068
        have b32126 : UN (tk.toInt ≠ 0) (fun k => fI H32115 q7 k) (fun k => fI s.heap q7 k) := UN.congr (fun j => Wr.neI wH32115 (Or.inl (G_ne gq7 gq11 (by decide)))) b32069
        have b32127 : UN (tk.toInt ≠ 0) (fun k => fI H32115 q8 k) (fun k => fI s.heap q8 k) := UN.congr (fun j => Wr.neI wH32115 (Or.inl (G_ne gq8 gq11 (by decide)))) b32070
        have b32128 : UN (tk.toInt ≠ 0) (fun k => fI H32115 q9 k) (fun k => fI s.heap q9 k) := UN.congr (fun j => Wr.neI wH32115 (Or.inl (G_ne gq9 gq11 (by decide)))) b32071
        have b32129 : UN (tk.toInt ≠ 0) (fun k => fI H32115 q16 k) (fun k => fI s.heap q16 k) := UN.congr (fun j => Wr.neI wH32115 (Or.inl (G_ne gq16 gq11 (by decide)))) b32072
        have b32130 : UN (tk.toInt ≠ 0) (fun k => fI H32115 q60 k) (fun k => fI s.heap q60 k) := UN.congr (fun j => Wr.neI wH32115 (Or.inl (G_ne gq60 gq11 (by decide)))) b32073
        have b32131 : UN (tk.toInt ≠ 0) (fun k => fI H32115 q61 k) (fun k => fI s.heap q61 k) := UN.congr (fun j => Wr.neI wH32115 (Or.inl (G_ne gq61 gq11 (by decide)))) b32074
        have b32132 : UN (tk.toInt ≠ 0) (fun k => fI H32115 q11 k) (fun k => fI s.heap q11 k) := UN.st b32075 (i := x32043.toNatClampNeg) (fun hc => (m32058 hc).trans m32077) (Wr.I wH32115) (fun j hj => Wr.neI wH32115 (Or.inr hj))
        have b32133 : UN (tk.toInt ≠ 0) (fun k => fI H32115 q12 k) (fun k => fI s.heap q12 k) := UN.congr (fun j => Wr.neI wH32115 (Or.inl (G_ne gq12 gq11 (by decide)))) b32076
        have b32134 : UN (tk.toInt = 0) (fun k => fI H32115 iq k) (fun k => fI s.heap iq k) := UN.congr (fun j => Wr.neI wH32115 (Or.inl (G_ne giq gq11 (by decide)))) b32097
        have b32135 : FB (fun k => fI H32115 iq k) (fun k => fI s.heap iq k) (6) := FB.congr (fun j => Wr.neI wH32115 (Or.inl (G_ne giq gq11 (by decide)))) b32098
        have b32136 : EQ (fun k => fI H32115 q4 k) (fun k => fI H32115 iq k) (6) (6) (10) := EQ.congr (fun j => Wr.neI wH32115 (Or.inl (G_ne gq4 gq11 (by decide)))) (fun j => Wr.neI wH32115 (Or.inl (G_ne giq gq11 (by decide)))) b32099
        have b32137 : EQ (fun k => fI H32115 q10 k) (fun k => fI H32115 iq k) (7) (6) (10) := EQ.congr (fun j => Wr.neI wH32115 (Or.inl (G_ne gq10 gq11 (by decide)))) (fun j => Wr.neI wH32115 (Or.inl (G_ne giq gq11 (by decide)))) b32100
        have b32138 : EQ (fun k => fI H32115 q13 k) (fun k => fI H32115 iq k) (8) (6) (10) := EQ.congr (fun j => Wr.neI wH32115 (Or.inl (G_ne gq13 gq11 (by decide)))) (fun j => Wr.neI wH32115 (Or.inl (G_ne giq gq11 (by decide)))) b32101
        have b32139 : EQ (fun k => fI H32115 q14 k) (fun k => fI H32115 iq k) (9) (6) (10) := EQ.congr (fun j => Wr.neI wH32115 (Or.inl (G_ne gq14 gq11 (by decide)))) (fun j => Wr.neI wH32115 (Or.inl (G_ne giq gq11 (by decide)))) b32102
        have b32140 : EQ (fun k => fI H32115 q15 k) (fun k => fI H32115 iq k) (10) (6) (10) := EQ.congr (fun j => Wr.neI wH32115 (Or.inl (G_ne gq15 gq11 (by decide)))) (fun j => Wr.neI wH32115 (Or.inl (G_ne giq gq11 (by decide)))) b32103
        have b32141 : EQ (fun k => fI H32115 q50 k) (fun k => fI H32115 iq k) (11) (6) (10) := EQ.congr (fun j => Wr.neI wH32115 (Or.inl (G_ne gq50 gq11 (by decide)))) (fun j => Wr.neI wH32115 (Or.inl (G_ne giq gq11 (by decide)))) b32104
        have b32142 : EQ (fun k => fI H32115 q5 k) (fun k => fI H32115 iq k) (66) (4) (160) := EQ.congr (fun j => Wr.neI wH32115 (Or.inl (G_ne gq5 gq11 (by decide)))) (fun j => Wr.neI wH32115 (Or.inl (G_ne giq gq11 (by decide)))) b32105
        have b32143 : EQ (fun k => fI H32115 q6 k) (fun k => fI H32115 iq k) (67) (4) (160) := EQ.congr (fun j => Wr.neI wH32115 (Or.inl (G_ne gq6 gq11 (by decide)))) (fun j => Wr.neI wH32115 (Or.inl (G_ne giq gq11 (by decide)))) b32106
        have b32144 : EQ (fun k => fI H32115 q7 k) (fun k => fI H32115 iq k) (68) (4) (160) := EQ.congr (fun j => Wr.neI wH32115 (Or.inl (G_ne gq7 gq11 (by decide)))) (fun j => Wr.neI wH32115 (Or.inl (G_ne giq gq11 (by decide)))) b32107
        have b32145 : EQ (fun k => fI H32115 q8 k) (fun k => fI H32115 iq k) (69) (4) (160) := EQ.congr (fun j => Wr.neI wH32115 (Or.inl (G_ne gq8 gq11 (by decide)))) (fun j => Wr.neI wH32115 (Or.inl (G_ne giq gq11 (by decide)))) b32108
        have b32146 : EQ (fun k => fI H32115 q9 k) (fun k => fI H32115 iq k) (706) (1) (30) := EQ.congr (fun j => Wr.neI wH32115 (Or.inl (G_ne gq9 gq11 (by decide)))) (fun j => Wr.neI wH32115 (Or.inl (G_ne giq gq11 (by decide)))) b32109
        have b32147 : EQ (fun k => fI H32115 q16 k) (fun k => fI H32115 iq k) (736) (3) (20) := EQ.congr (fun j => Wr.neI wH32115 (Or.inl (G_ne gq16 gq11 (by decide)))) (fun j => Wr.neI wH32115 (Or.inl (G_ne giq gq11 (by decide)))) b32110
        have b32148 : EQ (fun k => fI H32115 q60 k) (fun k => fI H32115 iq k) (737) (3) (20) := EQ.congr (fun j => Wr.neI wH32115 (Or.inl (G_ne gq60 gq11 (by decide)))) (fun j => Wr.neI wH32115 (Or.inl (G_ne giq gq11 (by decide)))) b32111
        have b32149 : EQ (fun k => fI H32115 q61 k) (fun k => fI H32115 iq k) (738) (3) (20) := EQ.congr (fun j => Wr.neI wH32115 (Or.inl (G_ne gq61 gq11 (by decide)))) (fun j => Wr.neI wH32115 (Or.inl (G_ne giq gq11 (by decide)))) b32112
        have b32150 : EQ (fun k => fI H32115 q11 k) (fun k => fI H32115 iq k) (796) (2) (x32043.toNatClampNeg + 1) := EQ.st b32113 (i := x32043.toNatClampNeg) (t := x32044.toNatClampNeg) (by omega) m32057 (by omega) (Wr.I wH32115) (fun j hj => Wr.neI wH32115 (Or.inr hj)) (fun j => Wr.neI wH32115 (Or.inl (G_ne giq gq11 (by decide))))
        have b32151 : EQ (fun k => fI H32115 q12 k) (fun k => fI H32115 iq k) (797) (2) (x32043.toNatClampNeg) := EQ.congr (fun j => Wr.neI wH32115 (Or.inl (G_ne gq12 gq11 (by decide)))) (fun j => Wr.neI wH32115 (Or.inl (G_ne giq gq11 (by decide)))) b32114
        have m32153 := m32054.trans (Wr.neR wH32115 (Or.inl (G_ne ga0 gq11 (by decide)))).symm
        have m32154 := m32079.trans (Wr.neR wH32115 (Or.inl (G_ne ga0 gq11 (by decide)))).symm
        have m32155 := m32080.trans (Wr.neR wH32115 (Or.inl (G_ne ga0 gq11 (by decide)))).symm
        have m32156 := m32081.trans (Wr.neR wH32115 (Or.inl (G_ne ga0 gq11 (by decide)))).symm
        have m32157 := m32082.trans (Wr.neR wH32115 (Or.inl (G_ne ga0 gq11 (by decide)))).symm
        have m32158 := m32083.trans (Wr.neR wH32115 (Or.inl (G_ne ga0 gq11 (by decide)))).symm
        have m32159 := m32084.trans (Wr.neR wH32115 (Or.inl (G_ne ga0 gq11 (by decide)))).symm
        have m32160 := m32085.trans (Wr.neR wH32115 (Or.inl (G_ne ga0 gq11 (by decide)))).symm
        have m32161 := m32086.trans (Wr.neR wH32115 (Or.inl (G_ne ga0 gq11 (by decide)))).symm
        have m32162 := m32087.trans (Wr.neR wH32115 (Or.inl (G_ne ga0 gq11 (by decide)))).symm
        have m32163 := m32088.trans (Wr.neR wH32115 (Or.inl (G_ne ga0 gq11 (by decide)))).symm
        have m32164 := m32089.trans (Wr.neR wH32115 (Or.inl (G_ne ga0 gq11 (by decide)))).symm
        have m32165 := m32090.trans (Wr.neR wH32115 (Or.inl (G_ne ga0 gq11 (by decide)))).symm
        have m32166 := m32091.trans (Wr.neR wH32115 (Or.inl (G_ne ga0 gq11 (by decide)))).symm
        have m32167 := m32092.trans (Wr.neR wH32115 (Or.inl (G_ne ga0 gq11 (by decide)))).symm
        have m32168 := m32093.trans (Wr.neR wH32115 (Or.inl (G_ne ga0 gq11 (by decide)))).symm
        have m32169 := m32094.trans (Wr.neR wH32115 (Or.inl (G_ne ga0 gq11 (by decide)))).symm
        have m32170 := m32095.trans (Wr.neI wH32115 (Or.inl (G_ne ga0 gq11 (by decide)))).symm
        have m32171 := ex32053.trans (Wr.neI wH32115 (Or.inl (G_ne ga0 gq11 (by decide)))).symm
        have m32172 := Wr.I wH32115
        have m32172 := m32172.symm
        clear b32061 b32062 b32063 b32064 b32065 b32066 b32067 b32068 b32069 b32070 b32071 b32072 b32073 b32074 b32075 b32076 b32097 b32098 b32099 b32100 b32101 b32102 b32103 b32104 b32105 b32106 b32107 b32108 b32109 b32110 b32111 b32112 b32113 b32114 ex32053 g32055 hTH32051 m32054 m32077 m32079 m32080 m32081 m32082 m32083 m32084 m32085 m32086 m32087 m32088 m32089 m32090 m32091 m32092 m32093 m32094 m32095 mf32096
        refine lv_aload_n hx hb dX10_keepsBars_306 rfl (lv_at hl32042 0 rfl) ?_
        refine x_gr C hTH32115 (ci := 10) (k := 12) rfl inX10 (by decide) wF_X10_38 ga0 rg_112 rfl dX10_keepsBars_307 (fun q32173 eq32173 gq32173 => ?_)
        have uq32173 : q12 = q32173 := (m32162).trans eq32173.symm
        subst uq32173
        clear eq32173
        refine lv_iload_n hx hb dX10_keepsBars_310 rfl (lv_at hl32042 1 rfl) ?_
        refine lv_aload_n hx hb dX10_keepsBars_311 rfl (lv_at hl32042 0 rfl) ?_
        refine lv_aload_n hx hb dX10_keepsBars_312 rfl (lv_at hl32042 0 rfl) ?_
        refine x_gr C hTH32115 (ci := 10) (k := 12) rfl inX10 (by decide) wF_X10_38 ga0 rg_112 rfl dX10_keepsBars_313 (fun q32174 eq32174 gq32174 => ?_)
        have uq32174 : q12 = q32174 := (m32162).trans eq32174.symm
        subst uq32174
        clear eq32174
        refine lv_iload_n hx hb dX10_keepsBars_316 rfl (lv_at hl32042 1 rfl) ?_
        refine x_ai C hTH32115 gq12 rg_121 ⟨bx32043.1, by show _ < ((2000 : Nat) : Int); omega⟩ dX10_keepsBars_317 (fun x32175 ex32175 bx32175 => ?_)
        refine x_V (As := [.int x32175]) (rest := [.int x32043, .ref q12]) C (a_X10_kept l K G H32115 (x32175) (x32053) (tk) hTH32115 ga0 giq m32153 m32171 m32170 g32117 (by and_intros <;> first | assumption | omega)) yo_X10_kept wM_X10_473 ⟨⟨by decide, by decide⟩, by decide, by decide⟩ (x_rv C hTH32115 (ci := 10) rfl ga0 rg_112) rfl hl32042.1 rfl (Nat.le_of_ble_eq_true rfl) dX10_keepsBars_318 hSH32115 (AE_sub (fun _ _ => rfl) (by decide) hSH32115.1) (fun vH32176 H32176 locsH32176 pH32176 zH32176 kH32176 hSH32176 => ?_)
        obtain ⟨x32177, x32178, hvH32176, ex32178, hrH32176, m32179, g32180, mf32181, m32182, m32183, m32184, m32185, hTH32176⟩ := pH32176
        subst hvH32176
        clear zH32176
        replace m32179 := EQN.mk m32179
        have b32186 : UN (tk.toInt ≠ 0) (fun k => fI H32176 q4 k) (fun k => fI s.heap q4 k) := UN.congr (fun j => fI_kept (x_lt hTH32115 kH32176 gq4 (by decide))) b32118
        have b32187 : UN (tk.toInt ≠ 0) (fun k => fI H32176 q10 k) (fun k => fI s.heap q10 k) := UN.congr (fun j => fI_kept (x_lt hTH32115 kH32176 gq10 (by decide))) b32119
        have b32188 : UN (tk.toInt ≠ 0) (fun k => fI H32176 q13 k) (fun k => fI s.heap q13 k) := UN.congr (fun j => fI_kept (x_lt hTH32115 kH32176 gq13 (by decide))) b32120
        have b32189 : UN (tk.toInt ≠ 0) (fun k => fI H32176 q14 k) (fun k => fI s.heap q14 k) := UN.congr (fun j => fI_kept (x_lt hTH32115 kH32176 gq14 (by decide))) b32121
        have b32190 : UN (tk.toInt ≠ 0) (fun k => fI H32176 q15 k) (fun k => fI s.heap q15 k) := UN.congr (fun j => fI_kept (x_lt hTH32115 kH32176 gq15 (by decide))) b32122
        have b32191 : UN (tk.toInt ≠ 0) (fun k => fI H32176 q50 k) (fun k => fI s.heap q50 k) := UN.congr (fun j => fI_kept (x_lt hTH32115 kH32176 gq50 (by decide))) b32123
        have b32192 : UN (tk.toInt ≠ 0) (fun k => fI H32176 q5 k) (fun k => fI s.heap q5 k) := UN.congr (fun j => fI_kept (x_lt hTH32115 kH32176 gq5 (by decide))) b32124
        have b32193 : UN (tk.toInt ≠ 0) (fun k => fI H32176 q6 k) (fun k => fI s.heap q6 k) := UN.congr (fun j => fI_kept (x_lt hTH32115 kH32176 gq6 (by decide))) b32125
        have b32194 : UN (tk.toInt ≠ 0) (fun k => fI H32176 q7 k) (fun k => fI s.heap q7 k) := UN.congr (fun j => fI_kept (x_lt hTH32115 kH32176 gq7 (by decide))) b32126
        have b32195 : UN (tk.toInt ≠ 0) (fun k => fI H32176 q8 k) (fun k => fI s.heap q8 k) := UN.congr (fun j => fI_kept (x_lt hTH32115 kH32176 gq8 (by decide))) b32127
        have b32196 : UN (tk.toInt ≠ 0) (fun k => fI H32176 q9 k) (fun k => fI s.heap q9 k) := UN.congr (fun j => fI_kept (x_lt hTH32115 kH32176 gq9 (by decide))) b32128
        have b32197 : UN (tk.toInt ≠ 0) (fun k => fI H32176 q16 k) (fun k => fI s.heap q16 k) := UN.congr (fun j => fI_kept (x_lt hTH32115 kH32176 gq16 (by decide))) b32129
        have b32198 : UN (tk.toInt ≠ 0) (fun k => fI H32176 q60 k) (fun k => fI s.heap q60 k) := UN.congr (fun j => fI_kept (x_lt hTH32115 kH32176 gq60 (by decide))) b32130
        have b32199 : UN (tk.toInt ≠ 0) (fun k => fI H32176 q61 k) (fun k => fI s.heap q61 k) := UN.congr (fun j => fI_kept (x_lt hTH32115 kH32176 gq61 (by decide))) b32131
        have b32200 : UN (tk.toInt ≠ 0) (fun k => fI H32176 q11 k) (fun k => fI s.heap q11 k) := UN.congr (fun j => fI_kept (x_lt hTH32115 kH32176 gq11 (by decide))) b32132
        have b32201 : UN (tk.toInt ≠ 0) (fun k => fI H32176 q12 k) (fun k => fI s.heap q12 k) := UN.congr (fun j => fI_kept (x_lt hTH32115 kH32176 gq12 (by decide))) b32133
        have m32202 := (m32172).trans (fI_kept (x_lt hTH32115 kH32176 gq11 (by decide))).symm
        have m32203 := (ex32175).trans (fI_kept (x_lt hTH32115 kH32176 gq12 (by decide))).symm
        have m32204 := (m32153).trans (MF.r mf32181 (k := 73) (by decide) (by decide)).symm
        have m32205 := (m32154).trans (MF.r mf32181 (k := 4) (by decide) (by decide)).symm
        have m32206 := (m32155).trans (MF.r mf32181 (k := 5) (by decide) (by decide)).symm
        have m32207 := (m32156).trans (MF.r mf32181 (k := 6) (by decide) (by decide)).symm
        have m32208 := (m32157).trans (MF.r mf32181 (k := 7) (by decide) (by decide)).symm
        have m32209 := (m32158).trans (MF.r mf32181 (k := 8) (by decide) (by decide)).symm
        have m32210 := (m32159).trans (MF.r mf32181 (k := 9) (by decide) (by decide)).symm
        have m32211 := (m32160).trans (MF.r mf32181 (k := 10) (by decide) (by decide)).symm
        have m32212 := (m32161).trans (MF.r mf32181 (k := 11) (by decide) (by decide)).symm
        have m32213 := (m32162).trans (MF.r mf32181 (k := 12) (by decide) (by decide)).symm
        have m32214 := (m32163).trans (MF.r mf32181 (k := 13) (by decide) (by decide)).symm
        have m32215 := (m32164).trans (MF.r mf32181 (k := 14) (by decide) (by decide)).symm
        have m32216 := (m32165).trans (MF.r mf32181 (k := 15) (by decide) (by decide)).symm
        have m32217 := (m32166).trans (MF.r mf32181 (k := 16) (by decide) (by decide)).symm
        have m32218 := (m32167).trans (MF.r mf32181 (k := 50) (by decide) (by decide)).symm
        have m32219 := (m32168).trans (MF.r mf32181 (k := 60) (by decide) (by decide)).symm
        have m32220 := (m32169).trans (MF.r mf32181 (k := 61) (by decide) (by decide)).symm
        have m32221 := (m32170).trans (MF.i mf32181 (k := 71) (by decide) (by decide)).symm
        have mf32222 : MF K s.heap H32176 a0 [72] := MF.trans mf32116 mf32181 (by decide)
        have bx32178 := ty_fi (x := x32178) (k := 72) ex32178 hTH32176 ga0 rg_112 rfl
        have ce_x32053 := i_cl (x := x32053) bx32053.1
        have e_ : x32053.toNatClampNeg = 797 + 2 * x32043.toNatClampNeg := by omega
        have k3e_ := m32184
        rw [e_] at k3e_
        have b32223 : UN (tk.toInt = 0) (fun k => fI H32176 iq k) (fun k => fI s.heap iq k) := UN.tr m32185 b32134
        have b32224 : FB (fun k => fI H32176 iq k) (fun k => fI s.heap iq k) (6) := FB.wr b32135 k3e_ (fun j hj => Nat.ne_of_lt (Nat.lt_of_lt_of_le hj (Nat.le_trans (by decide : 6 ≤ 797) (Nat.le_add_right _ _))))
        have b32225 : EQ (fun k => fI H32176 q4 k) (fun k => fI H32176 iq k) (6) (6) (10) := EQ.wr (EQ.congr (w1 := fun k => fI H32115 iq k) (fun j => fI_kept (x_lt hTH32115 kH32176 gq4 (by decide))) (fun _ => rfl) b32136) k3e_ (fun j hj => nE_6_6_10_797_2 hj)
        have b32226 : EQ (fun k => fI H32176 q10 k) (fun k => fI H32176 iq k) (7) (6) (10) := EQ.wr (EQ.congr (w1 := fun k => fI H32115 iq k) (fun j => fI_kept (x_lt hTH32115 kH32176 gq10 (by decide))) (fun _ => rfl) b32137) k3e_ (fun j hj => nE_7_6_10_797_2 hj)
        have b32227 : EQ (fun k => fI H32176 q13 k) (fun k => fI H32176 iq k) (8) (6) (10) := EQ.wr (EQ.congr (w1 := fun k => fI H32115 iq k) (fun j => fI_kept (x_lt hTH32115 kH32176 gq13 (by decide))) (fun _ => rfl) b32138) k3e_ (fun j hj => nE_8_6_10_797_2 hj)
        have b32228 : EQ (fun k => fI H32176 q14 k) (fun k => fI H32176 iq k) (9) (6) (10) := EQ.wr (EQ.congr (w1 := fun k => fI H32115 iq k) (fun j => fI_kept (x_lt hTH32115 kH32176 gq14 (by decide))) (fun _ => rfl) b32139) k3e_ (fun j hj => nE_9_6_10_797_2 hj)
        have b32229 : EQ (fun k => fI H32176 q15 k) (fun k => fI H32176 iq k) (10) (6) (10) := EQ.wr (EQ.congr (w1 := fun k => fI H32115 iq k) (fun j => fI_kept (x_lt hTH32115 kH32176 gq15 (by decide))) (fun _ => rfl) b32140) k3e_ (fun j hj => nE_10_6_10_797_2 hj)
        have b32230 : EQ (fun k => fI H32176 q50 k) (fun k => fI H32176 iq k) (11) (6) (10) := EQ.wr (EQ.congr (w1 := fun k => fI H32115 iq k) (fun j => fI_kept (x_lt hTH32115 kH32176 gq50 (by decide))) (fun _ => rfl) b32141) k3e_ (fun j hj => nE_11_6_10_797_2 hj)
        have b32231 : EQ (fun k => fI H32176 q5 k) (fun k => fI H32176 iq k) (66) (4) (160) := EQ.wr (EQ.congr (w1 := fun k => fI H32115 iq k) (fun j => fI_kept (x_lt hTH32115 kH32176 gq5 (by decide))) (fun _ => rfl) b32142) k3e_ (fun j hj => nE_66_4_160_797_2 hj)
        have b32232 : EQ (fun k => fI H32176 q6 k) (fun k => fI H32176 iq k) (67) (4) (160) := EQ.wr (EQ.congr (w1 := fun k => fI H32115 iq k) (fun j => fI_kept (x_lt hTH32115 kH32176 gq6 (by decide))) (fun _ => rfl) b32143) k3e_ (fun j hj => nE_67_4_160_797_2 hj)
        have b32233 : EQ (fun k => fI H32176 q7 k) (fun k => fI H32176 iq k) (68) (4) (160) := EQ.wr (EQ.congr (w1 := fun k => fI H32115 iq k) (fun j => fI_kept (x_lt hTH32115 kH32176 gq7 (by decide))) (fun _ => rfl) b32144) k3e_ (fun j hj => nE_68_4_160_797_2 hj)
        have b32234 : EQ (fun k => fI H32176 q8 k) (fun k => fI H32176 iq k) (69) (4) (160) := EQ.wr (EQ.congr (w1 := fun k => fI H32115 iq k) (fun j => fI_kept (x_lt hTH32115 kH32176 gq8 (by decide))) (fun _ => rfl) b32145) k3e_ (fun j hj => nE_69_4_160_797_2 hj)
        have b32235 : EQ (fun k => fI H32176 q9 k) (fun k => fI H32176 iq k) (706) (1) (30) := EQ.wr (EQ.congr (w1 := fun k => fI H32115 iq k) (fun j => fI_kept (x_lt hTH32115 kH32176 gq9 (by decide))) (fun _ => rfl) b32146) k3e_ (fun j hj => nE_706_1_30_797_2 hj)
        have b32236 : EQ (fun k => fI H32176 q16 k) (fun k => fI H32176 iq k) (736) (3) (20) := EQ.wr (EQ.congr (w1 := fun k => fI H32115 iq k) (fun j => fI_kept (x_lt hTH32115 kH32176 gq16 (by decide))) (fun _ => rfl) b32147) k3e_ (fun j hj => nE_736_3_20_797_2 hj)
        have b32237 : EQ (fun k => fI H32176 q60 k) (fun k => fI H32176 iq k) (737) (3) (20) := EQ.wr (EQ.congr (w1 := fun k => fI H32115 iq k) (fun j => fI_kept (x_lt hTH32115 kH32176 gq60 (by decide))) (fun _ => rfl) b32148) k3e_ (fun j hj => nE_737_3_20_797_2 hj)
        have b32238 : EQ (fun k => fI H32176 q61 k) (fun k => fI H32176 iq k) (738) (3) (20) := EQ.wr (EQ.congr (w1 := fun k => fI H32115 iq k) (fun j => fI_kept (x_lt hTH32115 kH32176 gq61 (by decide))) (fun _ => rfl) b32149) k3e_ (fun j hj => nE_738_3_20_797_2 hj)
        have b32239 : EQ (fun k => fI H32176 q11 k) (fun k => fI H32176 iq k) (796) (2) (x32043.toNatClampNeg + 1) := EQ.wr (EQ.congr (w1 := fun k => fI H32115 iq k) (fun j => fI_kept (x_lt hTH32115 kH32176 gq11 (by decide))) (fun _ => rfl) b32150) k3e_ (fun j hj => nE_796_2_i1_797_2 hj)
        have b32240 : EQ (fun k => fI H32176 q12 k) (fun k => fI H32176 iq k) (797) (2) (x32043.toNatClampNeg) := EQ.wr (EQ.congr (w1 := fun k => fI H32115 iq k) (fun j => fI_kept (x_lt hTH32115 kH32176 gq12 (by decide))) (fun _ => rfl) b32151) k3e_ (fun j hj => nE_797_2_i_797_2 hj)
        clear b32118 b32119 b32120 b32121 b32122 b32123 b32124 b32125 b32126 b32127 b32128 b32129 b32130 b32131 b32132 b32133 b32134 b32135 b32136 b32137 b32138 b32139 b32140 b32141 b32142 b32143 b32144 b32145 b32146 b32147 b32148 b32149 b32150 b32151 ex32175 m32153 m32154 m32155 m32156 m32157 m32158 m32159 m32160 m32161 m32162 m32163 m32164 m32165 m32166 m32167 m32168 m32169 m32170 m32171 m32172
        clear m32184 m32185 k3e_ e_
        refine W.eq (g2 := F0 m 321 ls32041 [.int x32177, .int x32043, .ref q12]) rfl ?_
        refine x_iast C hTH32176 hSH32176 gq12 rg_121 bx32043.1 (by show _ < ((2000 : Nat) : Int); omega) (i_rng x32177) (AE_in gq12 (by decide)) dX10_keepsBars_321 (fun H32241 locsH32241 hTH32241 hSH32241 wH32241 => ?_)
        have mf32242 : MF K s.heap H32241 a0 [72] := MF.arr wH32241 (G_ne ga0 gq12 (by decide)) mf32222
        have g32243 : WD (avw K H32241 a0) := WD.congr (fun k hk j => av_arr hTH32176 ga0 wH32241 gq12 (by decide) (WD_ok 121 (by decide) k hk)) g32180
        have b32244 : UN (tk.toInt ≠ 0) (fun k => fI H32241 q4 k) (fun k => fI s.heap q4 k) := UN.congr (fun j => Wr.neI wH32241 (Or.inl (G_ne gq4 gq12 (by decide)))) b32186
        have b32245 : UN (tk.toInt ≠ 0) (fun k => fI H32241 q10 k) (fun k => fI s.heap q10 k) := UN.congr (fun j => Wr.neI wH32241 (Or.inl (G_ne gq10 gq12 (by decide)))) b32187
        have b32246 : UN (tk.toInt ≠ 0) (fun k => fI H32241 q13 k) (fun k => fI s.heap q13 k) := UN.congr (fun j => Wr.neI wH32241 (Or.inl (G_ne gq13 gq12 (by decide)))) b32188
        have b32247 : UN (tk.toInt ≠ 0) (fun k => fI H32241 q14 k) (fun k => fI s.heap q14 k) := UN.congr (fun j => Wr.neI wH32241 (Or.inl (G_ne gq14 gq12 (by decide)))) b32189
        have b32248 : UN (tk.toInt ≠ 0) (fun k => fI H32241 q15 k) (fun k => fI s.heap q15 k) := UN.congr (fun j => Wr.neI wH32241 (Or.inl (G_ne gq15 gq12 (by decide)))) b32190
        have b32249 : UN (tk.toInt ≠ 0) (fun k => fI H32241 q50 k) (fun k => fI s.heap q50 k) := UN.congr (fun j => Wr.neI wH32241 (Or.inl (G_ne gq50 gq12 (by decide)))) b32191
        have b32250 : UN (tk.toInt ≠ 0) (fun k => fI H32241 q5 k) (fun k => fI s.heap q5 k) := UN.congr (fun j => Wr.neI wH32241 (Or.inl (G_ne gq5 gq12 (by decide)))) b32192
        have b32251 : UN (tk.toInt ≠ 0) (fun k => fI H32241 q6 k) (fun k => fI s.heap q6 k) := UN.congr (fun j => Wr.neI wH32241 (Or.inl (G_ne gq6 gq12 (by decide)))) b32193
        have b32252 : UN (tk.toInt ≠ 0) (fun k => fI H32241 q7 k) (fun k => fI s.heap q7 k) := UN.congr (fun j => Wr.neI wH32241 (Or.inl (G_ne gq7 gq12 (by decide)))) b32194
        have b32253 : UN (tk.toInt ≠ 0) (fun k => fI H32241 q8 k) (fun k => fI s.heap q8 k) := UN.congr (fun j => Wr.neI wH32241 (Or.inl (G_ne gq8 gq12 (by decide)))) b32195
        have b32254 : UN (tk.toInt ≠ 0) (fun k => fI H32241 q9 k) (fun k => fI s.heap q9 k) := UN.congr (fun j => Wr.neI wH32241 (Or.inl (G_ne gq9 gq12 (by decide)))) b32196
        have b32255 : UN (tk.toInt ≠ 0) (fun k => fI H32241 q16 k) (fun k => fI s.heap q16 k) := UN.congr (fun j => Wr.neI wH32241 (Or.inl (G_ne gq16 gq12 (by decide)))) b32197
        have b32256 : UN (tk.toInt ≠ 0) (fun k => fI H32241 q60 k) (fun k => fI s.heap q60 k) := UN.congr (fun j => Wr.neI wH32241 (Or.inl (G_ne gq60 gq12 (by decide)))) b32198
        have b32257 : UN (tk.toInt ≠ 0) (fun k => fI H32241 q61 k) (fun k => fI s.heap q61 k) := UN.congr (fun j => Wr.neI wH32241 (Or.inl (G_ne gq61 gq12 (by decide)))) b32199
        have b32258 : UN (tk.toInt ≠ 0) (fun k => fI H32241 q11 k) (fun k => fI s.heap q11 k) := UN.congr (fun j => Wr.neI wH32241 (Or.inl (G_ne gq11 gq12 (by decide)))) b32200
        have b32259 : UN (tk.toInt ≠ 0) (fun k => fI H32241 q12 k) (fun k => fI s.heap q12 k) := UN.st b32201 (i := x32043.toNatClampNeg) (fun hc => (m32183 hc).trans m32203) (Wr.I wH32241) (fun j hj => Wr.neI wH32241 (Or.inr hj))
        have b32260 : UN (tk.toInt = 0) (fun k => fI H32241 iq k) (fun k => fI s.heap iq k) := UN.congr (fun j => Wr.neI wH32241 (Or.inl (G_ne giq gq12 (by decide)))) b32223
        have b32261 : FB (fun k => fI H32241 iq k) (fun k => fI s.heap iq k) (6) := FB.congr (fun j => Wr.neI wH32241 (Or.inl (G_ne giq gq12 (by decide)))) b32224
        have b32262 : EQ (fun k => fI H32241 q4 k) (fun k => fI H32241 iq k) (6) (6) (10) := EQ.congr (fun j => Wr.neI wH32241 (Or.inl (G_ne gq4 gq12 (by decide)))) (fun j => Wr.neI wH32241 (Or.inl (G_ne giq gq12 (by decide)))) b32225
        have b32263 : EQ (fun k => fI H32241 q10 k) (fun k => fI H32241 iq k) (7) (6) (10) := EQ.congr (fun j => Wr.neI wH32241 (Or.inl (G_ne gq10 gq12 (by decide)))) (fun j => Wr.neI wH32241 (Or.inl (G_ne giq gq12 (by decide)))) b32226
        have b32264 : EQ (fun k => fI H32241 q13 k) (fun k => fI H32241 iq k) (8) (6) (10) := EQ.congr (fun j => Wr.neI wH32241 (Or.inl (G_ne gq13 gq12 (by decide)))) (fun j => Wr.neI wH32241 (Or.inl (G_ne giq gq12 (by decide)))) b32227
        have b32265 : EQ (fun k => fI H32241 q14 k) (fun k => fI H32241 iq k) (9) (6) (10) := EQ.congr (fun j => Wr.neI wH32241 (Or.inl (G_ne gq14 gq12 (by decide)))) (fun j => Wr.neI wH32241 (Or.inl (G_ne giq gq12 (by decide)))) b32228
        have b32266 : EQ (fun k => fI H32241 q15 k) (fun k => fI H32241 iq k) (10) (6) (10) := EQ.congr (fun j => Wr.neI wH32241 (Or.inl (G_ne gq15 gq12 (by decide)))) (fun j => Wr.neI wH32241 (Or.inl (G_ne giq gq12 (by decide)))) b32229
        have b32267 : EQ (fun k => fI H32241 q50 k) (fun k => fI H32241 iq k) (11) (6) (10) := EQ.congr (fun j => Wr.neI wH32241 (Or.inl (G_ne gq50 gq12 (by decide)))) (fun j => Wr.neI wH32241 (Or.inl (G_ne giq gq12 (by decide)))) b32230
        have b32268 : EQ (fun k => fI H32241 q5 k) (fun k => fI H32241 iq k) (66) (4) (160) := EQ.congr (fun j => Wr.neI wH32241 (Or.inl (G_ne gq5 gq12 (by decide)))) (fun j => Wr.neI wH32241 (Or.inl (G_ne giq gq12 (by decide)))) b32231
        have b32269 : EQ (fun k => fI H32241 q6 k) (fun k => fI H32241 iq k) (67) (4) (160) := EQ.congr (fun j => Wr.neI wH32241 (Or.inl (G_ne gq6 gq12 (by decide)))) (fun j => Wr.neI wH32241 (Or.inl (G_ne giq gq12 (by decide)))) b32232
        have b32270 : EQ (fun k => fI H32241 q7 k) (fun k => fI H32241 iq k) (68) (4) (160) := EQ.congr (fun j => Wr.neI wH32241 (Or.inl (G_ne gq7 gq12 (by decide)))) (fun j => Wr.neI wH32241 (Or.inl (G_ne giq gq12 (by decide)))) b32233
        have b32271 : EQ (fun k => fI H32241 q8 k) (fun k => fI H32241 iq k) (69) (4) (160) := EQ.congr (fun j => Wr.neI wH32241 (Or.inl (G_ne gq8 gq12 (by decide)))) (fun j => Wr.neI wH32241 (Or.inl (G_ne giq gq12 (by decide)))) b32234
        have b32272 : EQ (fun k => fI H32241 q9 k) (fun k => fI H32241 iq k) (706) (1) (30) := EQ.congr (fun j => Wr.neI wH32241 (Or.inl (G_ne gq9 gq12 (by decide)))) (fun j => Wr.neI wH32241 (Or.inl (G_ne giq gq12 (by decide)))) b32235
        have b32273 : EQ (fun k => fI H32241 q16 k) (fun k => fI H32241 iq k) (736) (3) (20) := EQ.congr (fun j => Wr.neI wH32241 (Or.inl (G_ne gq16 gq12 (by decide)))) (fun j => Wr.neI wH32241 (Or.inl (G_ne giq gq12 (by decide)))) b32236
        have b32274 : EQ (fun k => fI H32241 q60 k) (fun k => fI H32241 iq k) (737) (3) (20) := EQ.congr (fun j => Wr.neI wH32241 (Or.inl (G_ne gq60 gq12 (by decide)))) (fun j => Wr.neI wH32241 (Or.inl (G_ne giq gq12 (by decide)))) b32237
        have b32275 : EQ (fun k => fI H32241 q61 k) (fun k => fI H32241 iq k) (738) (3) (20) := EQ.congr (fun j => Wr.neI wH32241 (Or.inl (G_ne gq61 gq12 (by decide)))) (fun j => Wr.neI wH32241 (Or.inl (G_ne giq gq12 (by decide)))) b32238
        have b32276 : EQ (fun k => fI H32241 q11 k) (fun k => fI H32241 iq k) (796) (2) (x32043.toNatClampNeg + 1) := EQ.congr (fun j => Wr.neI wH32241 (Or.inl (G_ne gq11 gq12 (by decide)))) (fun j => Wr.neI wH32241 (Or.inl (G_ne giq gq12 (by decide)))) b32239
        have b32277 : EQ (fun k => fI H32241 q12 k) (fun k => fI H32241 iq k) (797) (2) (x32043.toNatClampNeg + 1) := EQ.st b32240 (i := x32043.toNatClampNeg) (t := x32053.toNatClampNeg) (by omega) m32182 (by omega) (Wr.I wH32241) (fun j hj => Wr.neI wH32241 (Or.inr hj)) (fun j => Wr.neI wH32241 (Or.inl (G_ne giq gq12 (by decide))))
        have m32278 := m32202.trans (Wr.neI wH32241 (Or.inl (G_ne gq11 gq12 (by decide)))).symm
        have m32280 := m32179.trans (Wr.neR wH32241 (Or.inl (G_ne ga0 gq12 (by decide)))).symm
        have m32281 := m32205.trans (Wr.neR wH32241 (Or.inl (G_ne ga0 gq12 (by decide)))).symm
        have m32282 := m32206.trans (Wr.neR wH32241 (Or.inl (G_ne ga0 gq12 (by decide)))).symm
        have m32283 := m32207.trans (Wr.neR wH32241 (Or.inl (G_ne ga0 gq12 (by decide)))).symm
        have m32284 := m32208.trans (Wr.neR wH32241 (Or.inl (G_ne ga0 gq12 (by decide)))).symm
        have m32285 := m32209.trans (Wr.neR wH32241 (Or.inl (G_ne ga0 gq12 (by decide)))).symm
        have m32286 := m32210.trans (Wr.neR wH32241 (Or.inl (G_ne ga0 gq12 (by decide)))).symm
        have m32287 := m32211.trans (Wr.neR wH32241 (Or.inl (G_ne ga0 gq12 (by decide)))).symm
        have m32288 := m32212.trans (Wr.neR wH32241 (Or.inl (G_ne ga0 gq12 (by decide)))).symm
        have m32289 := m32213.trans (Wr.neR wH32241 (Or.inl (G_ne ga0 gq12 (by decide)))).symm
        have m32290 := m32214.trans (Wr.neR wH32241 (Or.inl (G_ne ga0 gq12 (by decide)))).symm
        have m32291 := m32215.trans (Wr.neR wH32241 (Or.inl (G_ne ga0 gq12 (by decide)))).symm
        have m32292 := m32216.trans (Wr.neR wH32241 (Or.inl (G_ne ga0 gq12 (by decide)))).symm
        have m32293 := m32217.trans (Wr.neR wH32241 (Or.inl (G_ne ga0 gq12 (by decide)))).symm
        have m32294 := m32218.trans (Wr.neR wH32241 (Or.inl (G_ne ga0 gq12 (by decide)))).symm
        have m32295 := m32219.trans (Wr.neR wH32241 (Or.inl (G_ne ga0 gq12 (by decide)))).symm
        have m32296 := m32220.trans (Wr.neR wH32241 (Or.inl (G_ne ga0 gq12 (by decide)))).symm
        have m32297 := m32221.trans (Wr.neI wH32241 (Or.inl (G_ne ga0 gq12 (by decide)))).symm
        have m32298 := ex32178.trans (Wr.neI wH32241 (Or.inl (G_ne ga0 gq12 (by decide)))).symm
        have m32299 := Wr.I wH32241
        have m32299 := m32299.symm
        clear b32186 b32187 b32188 b32189 b32190 b32191 b32192 b32193 b32194 b32195 b32196 b32197 b32198 b32199 b32200 b32201 b32223 b32224 b32225 b32226 b32227 b32228 b32229 b32230 b32231 b32232 b32233 b32234 b32235 b32236 b32237 b32238 b32239 b32240 ex32178 g32180 hTH32176 m32179 m32202 m32203 m32205 m32206 m32207 m32208 m32209 m32210 m32211 m32212 m32213 m32214 m32215 m32216 m32217 m32218 m32219 m32220 m32221 mf32222
        obtain ⟨x32300, ex32300⟩ : ∃ y : Int32, y = x32043 + 1 := ⟨_, rfl⟩
        have tx32300 := i_add ex32300 (by omega)
        refine lv_iinc (v := x32300) (lv' := [(1, .int x32300), (0, .ref a0)]) hx hb dX10_keepsBars_322 hl32042 (k := 1) rfl (by rw [ex32300]; rfl) (by decide) rfl (fun ls32301 hl32302 => ?_)
        refine lv_goto (tgt := 283) hx hb dX10_keepsBars_325 (by decide) ?_
        have cl_x32300 := i_cl (x := x32300) (by omega)
        exact ih283 ls32301 H32241 locsH32241 (x32300) (x32178) (lv_sub hl32302 [1, 0] rfl) hTH32241 hSH32241 ⟨by have := i_rng x32300; omega, by have := i_rng x32300; omega⟩ bx32178 m32298 m32280 m32281 m32282 m32283 m32284 m32285 m32286 m32287 m32288 m32289 m32290 m32291 m32292 m32293 m32294 m32295 m32296 m32297 b32260 b32261 (EQ.cast b32262 (by omega)) (EQ.cast b32263 (by omega)) (EQ.cast b32264 (by omega)) (EQ.cast b32265 (by omega)) (EQ.cast b32266 (by omega)) (EQ.cast b32267 (by omega)) (EQ.cast b32268 (by omega)) (EQ.cast b32269 (by omega)) (EQ.cast b32270 (by omega)) (EQ.cast b32271 (by omega)) (EQ.cast b32272 (by omega)) (EQ.cast b32273 (by omega)) (EQ.cast b32274 (by omega)) (EQ.cast b32275 (by omega)) (EQ.cast b32276 (by omega)) (EQ.cast b32277 (by omega)) b32244 b32245 b32246 b32247 b32248 b32249 b32250 b32251 b32252 b32253 b32254 b32255 b32256 b32257 b32258 b32259 mf32242 g32243 (by omega) (by and_intros <;> first | assumption | omega)
  have J221 : ∀ (nf : Nat) (ls32304 : Array Slot) (H32303 : Heap) (locsH32303 : List Loc) (x32306 : Int32) (x32307 : Int32), lv_has ls32304 2 [(0, .ref a0), (1, .int x32306)] → TY K G H32303 → va_S (AE G [112, 162, 113, 119, 122, 123, 124, 146, 114, 115, 116, 117, 118, 125, 154, 155, 120, 121] s.heap.size) s.heap H32303 locsH32303 → (0 ≤ x32306.toInt ∧ x32306.toInt ≤ 20) → (0 ≤ x32307.toInt ∧ x32307.toInt ≤ 16400) → (x32307 = fI H32303 a0 (K.1.2 10 72)) → (EQN iq (fR H32303 a0 (K.1.2 10 73))) → (EQN q4 (fR H32303 a0 (K.1.2 10 4))) → (EQN q5 (fR H32303 a0 (K.1.2 10 5))) → (EQN q6 (fR H32303 a0 (K.1.2 10 6))) → (EQN q7 (fR H32303 a0 (K.1.2 10 7))) → (EQN q8 (fR H32303 a0 (K.1.2 10 8))) → (EQN q9 (fR H32303 a0 (K.1.2 10 9))) → (EQN q10 (fR H32303 a0 (K.1.2 10 10))) → (EQN q11 (fR H32303 a0 (K.1.2 10 11))) → (EQN q12 (fR H32303 a0 (K.1.2 10 12))) → (EQN q13 (fR H32303 a0 (K.1.2 10 13))) → (EQN q14 (fR H32303 a0 (K.1.2 10 14))) → (EQN q15 (fR H32303 a0 (K.1.2 10 15))) → (EQN q16 (fR H32303 a0 (K.1.2 10 16))) → (EQN q50 (fR H32303 a0 (K.1.2 10 50))) → (EQN q60 (fR H32303 a0 (K.1.2 10 60))) → (EQN q61 (fR H32303 a0 (K.1.2 10 61))) → (tk = fI H32303 a0 (K.1.2 10 71)) → (UN (tk.toInt = 0) (fun k => fI H32303 iq k) (fun k => fI s.heap iq k)) → (FB (fun k => fI H32303 iq k) (fun k => fI s.heap iq k) (6)) → (EQ (fun k => fI H32303 q4 k) (fun k => fI H32303 iq k) (6) (6) (10)) → (EQ (fun k => fI H32303 q10 k) (fun k => fI H32303 iq k) (7) (6) (10)) → (EQ (fun k => fI H32303 q13 k) (fun k => fI H32303 iq k) (8) (6) (10)) → (EQ (fun k => fI H32303 q14 k) (fun k => fI H32303 iq k) (9) (6) (10)) → (EQ (fun k => fI H32303 q15 k) (fun k => fI H32303 iq k) (10) (6) (10)) → (EQ (fun k => fI H32303 q50 k) (fun k => fI H32303 iq k) (11) (6) (10)) → (EQ (fun k => fI H32303 q5 k) (fun k => fI H32303 iq k) (66) (4) (160)) → (EQ (fun k => fI H32303 q6 k) (fun k => fI H32303 iq k) (67) (4) (160)) → (EQ (fun k => fI H32303 q7 k) (fun k => fI H32303 iq k) (68) (4) (160)) → (EQ (fun k => fI H32303 q8 k) (fun k => fI H32303 iq k) (69) (4) (160)) → (EQ (fun k => fI H32303 q9 k) (fun k => fI H32303 iq k) (706) (1) (30)) → (EQ (fun k => fI H32303 q16 k) (fun k => fI H32303 iq k) (736) (3) (x32306.toNatClampNeg)) → (EQ (fun k => fI H32303 q60 k) (fun k => fI H32303 iq k) (737) (3) (x32306.toNatClampNeg)) → (EQ (fun k => fI H32303 q61 k) (fun k => fI H32303 iq k) (738) (3) (x32306.toNatClampNeg)) → (EQ (fun k => fI H32303 q11 k) (fun k => fI H32303 iq k) (796) (2) (0)) → (EQ (fun k => fI H32303 q12 k) (fun k => fI H32303 iq k) (797) (2) (0)) → (UN (tk.toInt ≠ 0) (fun k => fI H32303 q4 k) (fun k => fI s.heap q4 k)) → (UN (tk.toInt ≠ 0) (fun k => fI H32303 q10 k) (fun k => fI s.heap q10 k)) → (UN (tk.toInt ≠ 0) (fun k => fI H32303 q13 k) (fun k => fI s.heap q13 k)) → (UN (tk.toInt ≠ 0) (fun k => fI H32303 q14 k) (fun k => fI s.heap q14 k)) → (UN (tk.toInt ≠ 0) (fun k => fI H32303 q15 k) (fun k => fI s.heap q15 k)) → (UN (tk.toInt ≠ 0) (fun k => fI H32303 q50 k) (fun k => fI s.heap q50 k)) → (UN (tk.toInt ≠ 0) (fun k => fI H32303 q5 k) (fun k => fI s.heap q5 k)) → (UN (tk.toInt ≠ 0) (fun k => fI H32303 q6 k) (fun k => fI s.heap q6 k)) → (UN (tk.toInt ≠ 0) (fun k => fI H32303 q7 k) (fun k => fI s.heap q7 k)) → (UN (tk.toInt ≠ 0) (fun k => fI H32303 q8 k) (fun k => fI s.heap q8 k)) → (UN (tk.toInt ≠ 0) (fun k => fI H32303 q9 k) (fun k => fI s.heap q9 k)) → (UN (tk.toInt ≠ 0) (fun k => fI H32303 q16 k) (fun k => fI s.heap q16 k)) → (UN (tk.toInt ≠ 0) (fun k => fI H32303 q60 k) (fun k => fI s.heap q60 k)) → (UN (tk.toInt ≠ 0) (fun k => fI H32303 q61 k) (fun k => fI s.heap q61 k)) → (UN (tk.toInt ≠ 0) (fun k => fI H32303 q11 k) (fun k => fI s.heap q11 k)) → (UN (tk.toInt ≠ 0) (fun k => fI H32303 q12 k) (fun k => fI s.heap q12 k)) → (MF K s.heap H32303 a0 [72]) → (WD (avw K H32303 a0)) → (20 - x32306.toInt < (nf : Int)) → (x32307.toInt = 736 + 3 * x32306.toInt) → W p l e ({ frames := 1, cells := 0, slots := 0, locals := 21 } : Room) s m (([.ref a0] : List Value).toArray) below meth c H32303 locsH32303 0 0 Q (F0 m 221 ls32304 []) := by
    intro nf
    induction nf with
    | zero =>
      intro ls32304 H32303 locsH32303 x32306 x32307 hl32305 hTH32303 hSH32303 bx32306 bx32307 ex32307 cy32308_0 cy32308_1 cy32308_2 cy32308_3 cy32308_4 cy32308_5 cy32308_6 cy32308_7 cy32308_8 cy32308_9 cy32308_10 cy32308_11 cy32308_12 cy32308_13 cy32308_14 cy32308_15 cy32308_16 cy32308_17 by32308_ui by32308_fb by32308_e4 by32308_e10 by32308_e13 by32308_e14 by32308_e15 by32308_e50 by32308_e5 by32308_e6 by32308_e7 by32308_e8 by32308_e9 by32308_e16 by32308_e60 by32308_e61 by32308_e11 by32308_e12 by32308_u4 by32308_u10 by32308_u13 by32308_u14 by32308_u15 by32308_u50 by32308_u5 by32308_u6 by32308_u7 by32308_u8 by32308_u9 by32308_u16 by32308_u60 by32308_u61 by32308_u11 by32308_u12 mfy32308 gy32308_WD hm221 iv221
      exfalso
      omega
    | succ nf ih221 =>
      intro ls32304 H32303 locsH32303 x32306 x32307 hl32305 hTH32303 hSH32303 bx32306 bx32307 ex32307 cy32308_0 cy32308_1 cy32308_2 cy32308_3 cy32308_4 cy32308_5 cy32308_6 cy32308_7 cy32308_8 cy32308_9 cy32308_10 cy32308_11 cy32308_12 cy32308_13 cy32308_14 cy32308_15 cy32308_16 cy32308_17 by32308_ui by32308_fb by32308_e4 by32308_e10 by32308_e13 by32308_e14 by32308_e15 by32308_e50 by32308_e5 by32308_e6 by32308_e7 by32308_e8 by32308_e9 by32308_e16 by32308_e60 by32308_e61 by32308_e11 by32308_e12 by32308_u4 by32308_u10 by32308_u13 by32308_u14 by32308_u15 by32308_u50 by32308_u5 by32308_u6 by32308_u7 by32308_u8 by32308_u9 by32308_u16 by32308_u60 by32308_u61 by32308_u11 by32308_u12 mfy32308 gy32308_WD hm221 iv221
      refine lv_iload_n hx hb dX10_keepsBars_221 rfl (lv_at hl32305 1 rfl) ?_
      refine lv_bipush (v := 20) hx hb dX10_keepsBars_222 (by decide) ?_
      refine lv_icmp_ge (tgt := 281) hx hb dX10_keepsBars_224 (by decide) (fun c32309 => ?_) (fun c32309 => ?_)
      · have k32310 := i_le c32309
        refine lv_iconst (v := 0) hx hb dX10_keepsBars_281 (by decide) ?_
        refine lv_istore_n (lv' := [(1, .int 0), (0, .ref a0)]) hx hb dX10_keepsBars_282 rfl hl32305 (by decide) rfl (fun ls32311 hl32312 => ?_)
        have cl00 : (0 : Int32).toNatClampNeg = 0 := rfl
        have cl_x32306 := i_cl (x := x32306) bx32306.1
        exact J283 ((2000 - (0 : Int32).toInt).toNat + 1) ls32311 H32303 locsH32303 (0) (x32307) (lv_sub hl32312 [1, 0] rfl) hTH32303 hSH32303 (by decide) bx32307 ex32307 cy32308_0 cy32308_1 cy32308_2 cy32308_3 cy32308_4 cy32308_5 cy32308_6 cy32308_7 cy32308_8 cy32308_9 cy32308_10 cy32308_11 cy32308_12 cy32308_13 cy32308_14 cy32308_15 cy32308_16 cy32308_17 by32308_ui by32308_fb (EQ.cast by32308_e4 (by omega)) (EQ.cast by32308_e10 (by omega)) (EQ.cast by32308_e13 (by omega)) (EQ.cast by32308_e14 (by omega)) (EQ.cast by32308_e15 (by omega)) (EQ.cast by32308_e50 (by omega)) (EQ.cast by32308_e5 (by omega)) (EQ.cast by32308_e6 (by omega)) (EQ.cast by32308_e7 (by omega)) (EQ.cast by32308_e8 (by omega)) (EQ.cast by32308_e9 (by omega)) (EQ.cast by32308_e16 (by omega)) (EQ.cast by32308_e60 (by omega)) (EQ.cast by32308_e61 (by omega)) (EQ.cast by32308_e11 (by omega)) (EQ.cast by32308_e12 (by omega)) by32308_u4 by32308_u10 by32308_u13 by32308_u14 by32308_u15 by32308_u50 by32308_u5 by32308_u6 by32308_u7 by32308_u8 by32308_u9 by32308_u16 by32308_u60 by32308_u61 by32308_u11 by32308_u12 mfy32308 gy32308_WD (by omega) (by and_intros <;> first | assumption | omega)
      · have k32310 := i_nle c32309
        refine lv_aload_n hx hb dX10_keepsBars_227 rfl (lv_at hl32305 0 rfl) ?_
        refine x_gr C hTH32303 (ci := 10) (k := 16) rfl inX10 (by decide) wF_X10_50 ga0 rg_112 rfl dX10_keepsBars_228 (fun q32313 eq32313 gq32313 => ?_)
        have uq32313 : q16 = q32313 := (cy32308_13).trans eq32313.symm
        subst uq32313
        clear eq32313
        refine lv_iload_n hx hb dX10_keepsBars_231 rfl (lv_at hl32305 1 rfl) ?_
        refine lv_aload_n hx hb dX10_keepsBars_232 rfl (lv_at hl32305 0 rfl) ?_
        refine lv_aload_n hx hb dX10_keepsBars_233 rfl (lv_at hl32305 0 rfl) ?_
        refine x_gr C hTH32303 (ci := 10) (k := 16) rfl inX10 (by decide) wF_X10_50 ga0 rg_112 rfl dX10_keepsBars_234 (fun q32314 eq32314 gq32314 => ?_)
        have uq32314 : q16 = q32314 := (cy32308_13).trans eq32314.symm
        subst uq32314
        clear eq32314
        refine lv_iload_n hx hb dX10_keepsBars_237 rfl (lv_at hl32305 1 rfl) ?_
        refine x_ai C hTH32303 gq16 rg_125 ⟨bx32306.1, by show _ < ((20 : Nat) : Int); omega⟩ dX10_keepsBars_238 (fun x32315 ex32315 bx32315 => ?_)
        refine x_V (As := [.int x32315]) (rest := [.int x32306, .ref q16]) C (a_X10_kept l K G H32303 (x32315) (x32307) (tk) hTH32303 ga0 giq cy32308_0 ex32307 cy32308_17 gy32308_WD (by and_intros <;> first | assumption | omega)) yo_X10_kept wM_X10_473 ⟨⟨by decide, by decide⟩, by decide, by decide⟩ (x_rv C hTH32303 (ci := 10) rfl ga0 rg_112) rfl hl32305.1 rfl (Nat.le_of_ble_eq_true rfl) dX10_keepsBars_239 hSH32303 (AE_sub (fun _ _ => rfl) (by decide) hSH32303.1) (fun vH32316 H32316 locsH32316 pH32316 zH32316 kH32316 hSH32316 => ?_)
        obtain ⟨x32317, x32318, hvH32316, ex32318, hrH32316, m32319, g32320, mf32321, m32322, m32323, m32324, m32325, hTH32316⟩ := pH32316
        subst hvH32316
        clear zH32316
        replace m32319 := EQN.mk m32319
        have b32326 : UN (tk.toInt ≠ 0) (fun k => fI H32316 q4 k) (fun k => fI s.heap q4 k) := UN.congr (fun j => fI_kept (x_lt hTH32303 kH32316 gq4 (by decide))) by32308_u4
        have b32327 : UN (tk.toInt ≠ 0) (fun k => fI H32316 q10 k) (fun k => fI s.heap q10 k) := UN.congr (fun j => fI_kept (x_lt hTH32303 kH32316 gq10 (by decide))) by32308_u10
        have b32328 : UN (tk.toInt ≠ 0) (fun k => fI H32316 q13 k) (fun k => fI s.heap q13 k) := UN.congr (fun j => fI_kept (x_lt hTH32303 kH32316 gq13 (by decide))) by32308_u13
        have b32329 : UN (tk.toInt ≠ 0) (fun k => fI H32316 q14 k) (fun k => fI s.heap q14 k) := UN.congr (fun j => fI_kept (x_lt hTH32303 kH32316 gq14 (by decide))) by32308_u14
        have b32330 : UN (tk.toInt ≠ 0) (fun k => fI H32316 q15 k) (fun k => fI s.heap q15 k) := UN.congr (fun j => fI_kept (x_lt hTH32303 kH32316 gq15 (by decide))) by32308_u15
        have b32331 : UN (tk.toInt ≠ 0) (fun k => fI H32316 q50 k) (fun k => fI s.heap q50 k) := UN.congr (fun j => fI_kept (x_lt hTH32303 kH32316 gq50 (by decide))) by32308_u50
        have b32332 : UN (tk.toInt ≠ 0) (fun k => fI H32316 q5 k) (fun k => fI s.heap q5 k) := UN.congr (fun j => fI_kept (x_lt hTH32303 kH32316 gq5 (by decide))) by32308_u5
        have b32333 : UN (tk.toInt ≠ 0) (fun k => fI H32316 q6 k) (fun k => fI s.heap q6 k) := UN.congr (fun j => fI_kept (x_lt hTH32303 kH32316 gq6 (by decide))) by32308_u6
        have b32334 : UN (tk.toInt ≠ 0) (fun k => fI H32316 q7 k) (fun k => fI s.heap q7 k) := UN.congr (fun j => fI_kept (x_lt hTH32303 kH32316 gq7 (by decide))) by32308_u7
        have b32335 : UN (tk.toInt ≠ 0) (fun k => fI H32316 q8 k) (fun k => fI s.heap q8 k) := UN.congr (fun j => fI_kept (x_lt hTH32303 kH32316 gq8 (by decide))) by32308_u8
        have b32336 : UN (tk.toInt ≠ 0) (fun k => fI H32316 q9 k) (fun k => fI s.heap q9 k) := UN.congr (fun j => fI_kept (x_lt hTH32303 kH32316 gq9 (by decide))) by32308_u9
        have b32337 : UN (tk.toInt ≠ 0) (fun k => fI H32316 q16 k) (fun k => fI s.heap q16 k) := UN.congr (fun j => fI_kept (x_lt hTH32303 kH32316 gq16 (by decide))) by32308_u16
        have b32338 : UN (tk.toInt ≠ 0) (fun k => fI H32316 q60 k) (fun k => fI s.heap q60 k) := UN.congr (fun j => fI_kept (x_lt hTH32303 kH32316 gq60 (by decide))) by32308_u60
        have b32339 : UN (tk.toInt ≠ 0) (fun k => fI H32316 q61 k) (fun k => fI s.heap q61 k) := UN.congr (fun j => fI_kept (x_lt hTH32303 kH32316 gq61 (by decide))) by32308_u61
        have b32340 : UN (tk.toInt ≠ 0) (fun k => fI H32316 q11 k) (fun k => fI s.heap q11 k) := UN.congr (fun j => fI_kept (x_lt hTH32303 kH32316 gq11 (by decide))) by32308_u11
        have b32341 : UN (tk.toInt ≠ 0) (fun k => fI H32316 q12 k) (fun k => fI s.heap q12 k) := UN.congr (fun j => fI_kept (x_lt hTH32303 kH32316 gq12 (by decide))) by32308_u12
        have m32342 := (ex32315).trans (fI_kept (x_lt hTH32303 kH32316 gq16 (by decide))).symm
        have m32343 := (cy32308_0).trans (MF.r mf32321 (k := 73) (by decide) (by decide)).symm
        have m32344 := (cy32308_1).trans (MF.r mf32321 (k := 4) (by decide) (by decide)).symm
        have m32345 := (cy32308_2).trans (MF.r mf32321 (k := 5) (by decide) (by decide)).symm
        have m32346 := (cy32308_3).trans (MF.r mf32321 (k := 6) (by decide) (by decide)).symm
        have m32347 := (cy32308_4).trans (MF.r mf32321 (k := 7) (by decide) (by decide)).symm
        have m32348 := (cy32308_5).trans (MF.r mf32321 (k := 8) (by decide) (by decide)).symm
        have m32349 := (cy32308_6).trans (MF.r mf32321 (k := 9) (by decide) (by decide)).symm
        have m32350 := (cy32308_7).trans (MF.r mf32321 (k := 10) (by decide) (by decide)).symm
        have m32351 := (cy32308_8).trans (MF.r mf32321 (k := 11) (by decide) (by decide)).symm
        have m32352 := (cy32308_9).trans (MF.r mf32321 (k := 12) (by decide) (by decide)).symm
        have m32353 := (cy32308_10).trans (MF.r mf32321 (k := 13) (by decide) (by decide)).symm
        have m32354 := (cy32308_11).trans (MF.r mf32321 (k := 14) (by decide) (by decide)).symm
        have m32355 := (cy32308_12).trans (MF.r mf32321 (k := 15) (by decide) (by decide)).symm
        have m32356 := (cy32308_13).trans (MF.r mf32321 (k := 16) (by decide) (by decide)).symm
        have m32357 := (cy32308_14).trans (MF.r mf32321 (k := 50) (by decide) (by decide)).symm
        have m32358 := (cy32308_15).trans (MF.r mf32321 (k := 60) (by decide) (by decide)).symm
        have m32359 := (cy32308_16).trans (MF.r mf32321 (k := 61) (by decide) (by decide)).symm
        have m32360 := (cy32308_17).trans (MF.i mf32321 (k := 71) (by decide) (by decide)).symm
        have mf32361 : MF K s.heap H32316 a0 [72] := MF.trans mfy32308 mf32321 (by decide)
        have bx32318 := ty_fi (x := x32318) (k := 72) ex32318 hTH32316 ga0 rg_112 rfl
        have ce_x32306 := i_cl (x := x32306) bx32306.1
        have ce_x32307 := i_cl (x := x32307) bx32307.1
        have e_ : x32307.toNatClampNeg = 736 + 3 * x32306.toNatClampNeg := by omega
        have k3e_ := m32324
        rw [e_] at k3e_
        have b32362 : UN (tk.toInt = 0) (fun k => fI H32316 iq k) (fun k => fI s.heap iq k) := UN.tr m32325 by32308_ui
        have b32363 : FB (fun k => fI H32316 iq k) (fun k => fI s.heap iq k) (6) := FB.wr by32308_fb k3e_ (fun j hj => Nat.ne_of_lt (Nat.lt_of_lt_of_le hj (Nat.le_trans (by decide : 6 ≤ 736) (Nat.le_add_right _ _))))
        have b32364 : EQ (fun k => fI H32316 q4 k) (fun k => fI H32316 iq k) (6) (6) (10) := EQ.wr (EQ.congr (w1 := fun k => fI H32303 iq k) (fun j => fI_kept (x_lt hTH32303 kH32316 gq4 (by decide))) (fun _ => rfl) by32308_e4) k3e_ (fun j hj => nE_6_6_10_736_3 hj)
        have b32365 : EQ (fun k => fI H32316 q10 k) (fun k => fI H32316 iq k) (7) (6) (10) := EQ.wr (EQ.congr (w1 := fun k => fI H32303 iq k) (fun j => fI_kept (x_lt hTH32303 kH32316 gq10 (by decide))) (fun _ => rfl) by32308_e10) k3e_ (fun j hj => nE_7_6_10_736_3 hj)
        have b32366 : EQ (fun k => fI H32316 q13 k) (fun k => fI H32316 iq k) (8) (6) (10) := EQ.wr (EQ.congr (w1 := fun k => fI H32303 iq k) (fun j => fI_kept (x_lt hTH32303 kH32316 gq13 (by decide))) (fun _ => rfl) by32308_e13) k3e_ (fun j hj => nE_8_6_10_736_3 hj)
        have b32367 : EQ (fun k => fI H32316 q14 k) (fun k => fI H32316 iq k) (9) (6) (10) := EQ.wr (EQ.congr (w1 := fun k => fI H32303 iq k) (fun j => fI_kept (x_lt hTH32303 kH32316 gq14 (by decide))) (fun _ => rfl) by32308_e14) k3e_ (fun j hj => nE_9_6_10_736_3 hj)
        have b32368 : EQ (fun k => fI H32316 q15 k) (fun k => fI H32316 iq k) (10) (6) (10) := EQ.wr (EQ.congr (w1 := fun k => fI H32303 iq k) (fun j => fI_kept (x_lt hTH32303 kH32316 gq15 (by decide))) (fun _ => rfl) by32308_e15) k3e_ (fun j hj => nE_10_6_10_736_3 hj)
        have b32369 : EQ (fun k => fI H32316 q50 k) (fun k => fI H32316 iq k) (11) (6) (10) := EQ.wr (EQ.congr (w1 := fun k => fI H32303 iq k) (fun j => fI_kept (x_lt hTH32303 kH32316 gq50 (by decide))) (fun _ => rfl) by32308_e50) k3e_ (fun j hj => nE_11_6_10_736_3 hj)
        have b32370 : EQ (fun k => fI H32316 q5 k) (fun k => fI H32316 iq k) (66) (4) (160) := EQ.wr (EQ.congr (w1 := fun k => fI H32303 iq k) (fun j => fI_kept (x_lt hTH32303 kH32316 gq5 (by decide))) (fun _ => rfl) by32308_e5) k3e_ (fun j hj => nE_66_4_160_736_3 hj)
        have b32371 : EQ (fun k => fI H32316 q6 k) (fun k => fI H32316 iq k) (67) (4) (160) := EQ.wr (EQ.congr (w1 := fun k => fI H32303 iq k) (fun j => fI_kept (x_lt hTH32303 kH32316 gq6 (by decide))) (fun _ => rfl) by32308_e6) k3e_ (fun j hj => nE_67_4_160_736_3 hj)
        have b32372 : EQ (fun k => fI H32316 q7 k) (fun k => fI H32316 iq k) (68) (4) (160) := EQ.wr (EQ.congr (w1 := fun k => fI H32303 iq k) (fun j => fI_kept (x_lt hTH32303 kH32316 gq7 (by decide))) (fun _ => rfl) by32308_e7) k3e_ (fun j hj => nE_68_4_160_736_3 hj)
        have b32373 : EQ (fun k => fI H32316 q8 k) (fun k => fI H32316 iq k) (69) (4) (160) := EQ.wr (EQ.congr (w1 := fun k => fI H32303 iq k) (fun j => fI_kept (x_lt hTH32303 kH32316 gq8 (by decide))) (fun _ => rfl) by32308_e8) k3e_ (fun j hj => nE_69_4_160_736_3 hj)
        have b32374 : EQ (fun k => fI H32316 q9 k) (fun k => fI H32316 iq k) (706) (1) (30) := EQ.wr (EQ.congr (w1 := fun k => fI H32303 iq k) (fun j => fI_kept (x_lt hTH32303 kH32316 gq9 (by decide))) (fun _ => rfl) by32308_e9) k3e_ (fun j hj => nE_706_1_30_736_3 hj)
        have b32375 : EQ (fun k => fI H32316 q16 k) (fun k => fI H32316 iq k) (736) (3) (x32306.toNatClampNeg) := EQ.wr (EQ.congr (w1 := fun k => fI H32303 iq k) (fun j => fI_kept (x_lt hTH32303 kH32316 gq16 (by decide))) (fun _ => rfl) by32308_e16) k3e_ (fun j hj => nE_736_3_i_736_3 hj)
        have b32376 : EQ (fun k => fI H32316 q60 k) (fun k => fI H32316 iq k) (737) (3) (x32306.toNatClampNeg) := EQ.wr (EQ.congr (w1 := fun k => fI H32303 iq k) (fun j => fI_kept (x_lt hTH32303 kH32316 gq60 (by decide))) (fun _ => rfl) by32308_e60) k3e_ (fun j hj => nE_737_3_i_736_3 hj)
        have b32377 : EQ (fun k => fI H32316 q61 k) (fun k => fI H32316 iq k) (738) (3) (x32306.toNatClampNeg) := EQ.wr (EQ.congr (w1 := fun k => fI H32303 iq k) (fun j => fI_kept (x_lt hTH32303 kH32316 gq61 (by decide))) (fun _ => rfl) by32308_e61) k3e_ (fun j hj => nE_738_3_i_736_3 hj)
        have b32378 : EQ (fun k => fI H32316 q11 k) (fun k => fI H32316 iq k) (796) (2) (0) := EQ.wr (EQ.congr (w1 := fun k => fI H32303 iq k) (fun j => fI_kept (x_lt hTH32303 kH32316 gq11 (by decide))) (fun _ => rfl) by32308_e11) k3e_ (fun j hj => nE_796_2_0_736_3 hj)
        have b32379 : EQ (fun k => fI H32316 q12 k) (fun k => fI H32316 iq k) (797) (2) (0) := EQ.wr (EQ.congr (w1 := fun k => fI H32303 iq k) (fun j => fI_kept (x_lt hTH32303 kH32316 gq12 (by decide))) (fun _ => rfl) by32308_e12) k3e_ (fun j hj => nE_797_2_0_736_3 hj)
        clear by32308_e10 by32308_e11 by32308_e12 by32308_e13 by32308_e14 by32308_e15 by32308_e16 by32308_e4 by32308_e5 by32308_e50 by32308_e6 by32308_e60 by32308_e61 by32308_e7 by32308_e8 by32308_e9 by32308_fb by32308_u10 by32308_u11 by32308_u12 by32308_u13 by32308_u14 by32308_u15 by32308_u16 by32308_u4 by32308_u5 by32308_u50 by32308_u6 by32308_u60 by32308_u61 by32308_u7 by32308_u8 by32308_u9 by32308_ui cy32308_0 cy32308_1 cy32308_10 cy32308_11 cy32308_12 cy32308_13 cy32308_14 cy32308_15 cy32308_16 cy32308_17 cy32308_2 cy32308_3 cy32308_4 cy32308_5 cy32308_6 cy32308_7 cy32308_8 cy32308_9 ex32307 ex32315
        clear m32324 m32325 k3e_ e_
        have bx32317 : 0 ≤ x32317.toInt ∧ x32317.toInt ≤ 9999 := kr (fun h0 => by have hiw := (hy0 h0); exact kr0 (w := fun k => fI H32316 iq k) m32322 (p := 736 + 3 * x32306.toNatClampNeg) (by omega) (b32362 h0) (hiw.2.2.1 x32306.toNatClampNeg (by omega))) m32323 (by omega)
        refine W.eq (g2 := F0 m 242 ls32304 [.int x32317, .int x32306, .ref q16]) rfl ?_
        refine x_iast C hTH32316 hSH32316 gq16 rg_125 bx32306.1 (by show _ < ((20 : Nat) : Int); omega) ⟨by have := i_rng x32317; omega, by have := i_rng x32317; omega⟩ (AE_in gq16 (by decide)) dX10_keepsBars_242 (fun H32380 locsH32380 hTH32380 hSH32380 wH32380 => ?_)
        have mf32381 : MF K s.heap H32380 a0 [72] := MF.arr wH32380 (G_ne ga0 gq16 (by decide)) mf32361
        have g32382 : WD (avw K H32380 a0) := WD.congr (fun k hk j => av_arr hTH32316 ga0 wH32380 gq16 (by decide) (WD_ok 125 (by decide) k hk)) g32320
        have b32383 : UN (tk.toInt ≠ 0) (fun k => fI H32380 q4 k) (fun k => fI s.heap q4 k) := UN.congr (fun j => Wr.neI wH32380 (Or.inl (G_ne gq4 gq16 (by decide)))) b32326
        have b32384 : UN (tk.toInt ≠ 0) (fun k => fI H32380 q10 k) (fun k => fI s.heap q10 k) := UN.congr (fun j => Wr.neI wH32380 (Or.inl (G_ne gq10 gq16 (by decide)))) b32327
        have b32385 : UN (tk.toInt ≠ 0) (fun k => fI H32380 q13 k) (fun k => fI s.heap q13 k) := UN.congr (fun j => Wr.neI wH32380 (Or.inl (G_ne gq13 gq16 (by decide)))) b32328
        have b32386 : UN (tk.toInt ≠ 0) (fun k => fI H32380 q14 k) (fun k => fI s.heap q14 k) := UN.congr (fun j => Wr.neI wH32380 (Or.inl (G_ne gq14 gq16 (by decide)))) b32329
        have b32387 : UN (tk.toInt ≠ 0) (fun k => fI H32380 q15 k) (fun k => fI s.heap q15 k) := UN.congr (fun j => Wr.neI wH32380 (Or.inl (G_ne gq15 gq16 (by decide)))) b32330
        have b32388 : UN (tk.toInt ≠ 0) (fun k => fI H32380 q50 k) (fun k => fI s.heap q50 k) := UN.congr (fun j => Wr.neI wH32380 (Or.inl (G_ne gq50 gq16 (by decide)))) b32331
        have b32389 : UN (tk.toInt ≠ 0) (fun k => fI H32380 q5 k) (fun k => fI s.heap q5 k) := UN.congr (fun j => Wr.neI wH32380 (Or.inl (G_ne gq5 gq16 (by decide)))) b32332
        have b32390 : UN (tk.toInt ≠ 0) (fun k => fI H32380 q6 k) (fun k => fI s.heap q6 k) := UN.congr (fun j => Wr.neI wH32380 (Or.inl (G_ne gq6 gq16 (by decide)))) b32333
        have b32391 : UN (tk.toInt ≠ 0) (fun k => fI H32380 q7 k) (fun k => fI s.heap q7 k) := UN.congr (fun j => Wr.neI wH32380 (Or.inl (G_ne gq7 gq16 (by decide)))) b32334
        have b32392 : UN (tk.toInt ≠ 0) (fun k => fI H32380 q8 k) (fun k => fI s.heap q8 k) := UN.congr (fun j => Wr.neI wH32380 (Or.inl (G_ne gq8 gq16 (by decide)))) b32335
        have b32393 : UN (tk.toInt ≠ 0) (fun k => fI H32380 q9 k) (fun k => fI s.heap q9 k) := UN.congr (fun j => Wr.neI wH32380 (Or.inl (G_ne gq9 gq16 (by decide)))) b32336
        have b32394 : UN (tk.toInt ≠ 0) (fun k => fI H32380 q16 k) (fun k => fI s.heap q16 k) := UN.st b32337 (i := x32306.toNatClampNeg) (fun hc => (m32323 hc).trans m32342) (Wr.I wH32380) (fun j hj => Wr.neI wH32380 (Or.inr hj))
        have b32395 : UN (tk.toInt ≠ 0) (fun k => fI H32380 q60 k) (fun k => fI s.heap q60 k) := UN.congr (fun j => Wr.neI wH32380 (Or.inl (G_ne gq60 gq16 (by decide)))) b32338
        have b32396 : UN (tk.toInt ≠ 0) (fun k => fI H32380 q61 k) (fun k => fI s.heap q61 k) := UN.congr (fun j => Wr.neI wH32380 (Or.inl (G_ne gq61 gq16 (by decide)))) b32339
        have b32397 : UN (tk.toInt ≠ 0) (fun k => fI H32380 q11 k) (fun k => fI s.heap q11 k) := UN.congr (fun j => Wr.neI wH32380 (Or.inl (G_ne gq11 gq16 (by decide)))) b32340
        have b32398 : UN (tk.toInt ≠ 0) (fun k => fI H32380 q12 k) (fun k => fI s.heap q12 k) := UN.congr (fun j => Wr.neI wH32380 (Or.inl (G_ne gq12 gq16 (by decide)))) b32341
        have b32399 : UN (tk.toInt = 0) (fun k => fI H32380 iq k) (fun k => fI s.heap iq k) := UN.congr (fun j => Wr.neI wH32380 (Or.inl (G_ne giq gq16 (by decide)))) b32362
        have b32400 : FB (fun k => fI H32380 iq k) (fun k => fI s.heap iq k) (6) := FB.congr (fun j => Wr.neI wH32380 (Or.inl (G_ne giq gq16 (by decide)))) b32363
        have b32401 : EQ (fun k => fI H32380 q4 k) (fun k => fI H32380 iq k) (6) (6) (10) := EQ.congr (fun j => Wr.neI wH32380 (Or.inl (G_ne gq4 gq16 (by decide)))) (fun j => Wr.neI wH32380 (Or.inl (G_ne giq gq16 (by decide)))) b32364
        have b32402 : EQ (fun k => fI H32380 q10 k) (fun k => fI H32380 iq k) (7) (6) (10) := EQ.congr (fun j => Wr.neI wH32380 (Or.inl (G_ne gq10 gq16 (by decide)))) (fun j => Wr.neI wH32380 (Or.inl (G_ne giq gq16 (by decide)))) b32365
        have b32403 : EQ (fun k => fI H32380 q13 k) (fun k => fI H32380 iq k) (8) (6) (10) := EQ.congr (fun j => Wr.neI wH32380 (Or.inl (G_ne gq13 gq16 (by decide)))) (fun j => Wr.neI wH32380 (Or.inl (G_ne giq gq16 (by decide)))) b32366
        have b32404 : EQ (fun k => fI H32380 q14 k) (fun k => fI H32380 iq k) (9) (6) (10) := EQ.congr (fun j => Wr.neI wH32380 (Or.inl (G_ne gq14 gq16 (by decide)))) (fun j => Wr.neI wH32380 (Or.inl (G_ne giq gq16 (by decide)))) b32367
        have b32405 : EQ (fun k => fI H32380 q15 k) (fun k => fI H32380 iq k) (10) (6) (10) := EQ.congr (fun j => Wr.neI wH32380 (Or.inl (G_ne gq15 gq16 (by decide)))) (fun j => Wr.neI wH32380 (Or.inl (G_ne giq gq16 (by decide)))) b32368
        have b32406 : EQ (fun k => fI H32380 q50 k) (fun k => fI H32380 iq k) (11) (6) (10) := EQ.congr (fun j => Wr.neI wH32380 (Or.inl (G_ne gq50 gq16 (by decide)))) (fun j => Wr.neI wH32380 (Or.inl (G_ne giq gq16 (by decide)))) b32369
        have b32407 : EQ (fun k => fI H32380 q5 k) (fun k => fI H32380 iq k) (66) (4) (160) := EQ.congr (fun j => Wr.neI wH32380 (Or.inl (G_ne gq5 gq16 (by decide)))) (fun j => Wr.neI wH32380 (Or.inl (G_ne giq gq16 (by decide)))) b32370
        have b32408 : EQ (fun k => fI H32380 q6 k) (fun k => fI H32380 iq k) (67) (4) (160) := EQ.congr (fun j => Wr.neI wH32380 (Or.inl (G_ne gq6 gq16 (by decide)))) (fun j => Wr.neI wH32380 (Or.inl (G_ne giq gq16 (by decide)))) b32371
        have b32409 : EQ (fun k => fI H32380 q7 k) (fun k => fI H32380 iq k) (68) (4) (160) := EQ.congr (fun j => Wr.neI wH32380 (Or.inl (G_ne gq7 gq16 (by decide)))) (fun j => Wr.neI wH32380 (Or.inl (G_ne giq gq16 (by decide)))) b32372
        have b32410 : EQ (fun k => fI H32380 q8 k) (fun k => fI H32380 iq k) (69) (4) (160) := EQ.congr (fun j => Wr.neI wH32380 (Or.inl (G_ne gq8 gq16 (by decide)))) (fun j => Wr.neI wH32380 (Or.inl (G_ne giq gq16 (by decide)))) b32373
        have b32411 : EQ (fun k => fI H32380 q9 k) (fun k => fI H32380 iq k) (706) (1) (30) := EQ.congr (fun j => Wr.neI wH32380 (Or.inl (G_ne gq9 gq16 (by decide)))) (fun j => Wr.neI wH32380 (Or.inl (G_ne giq gq16 (by decide)))) b32374
        have b32412 : EQ (fun k => fI H32380 q16 k) (fun k => fI H32380 iq k) (736) (3) (x32306.toNatClampNeg + 1) := EQ.st b32375 (i := x32306.toNatClampNeg) (t := x32307.toNatClampNeg) (by omega) m32322 (by omega) (Wr.I wH32380) (fun j hj => Wr.neI wH32380 (Or.inr hj)) (fun j => Wr.neI wH32380 (Or.inl (G_ne giq gq16 (by decide))))
        have b32413 : EQ (fun k => fI H32380 q60 k) (fun k => fI H32380 iq k) (737) (3) (x32306.toNatClampNeg) := EQ.congr (fun j => Wr.neI wH32380 (Or.inl (G_ne gq60 gq16 (by decide)))) (fun j => Wr.neI wH32380 (Or.inl (G_ne giq gq16 (by decide)))) b32376
        have b32414 : EQ (fun k => fI H32380 q61 k) (fun k => fI H32380 iq k) (738) (3) (x32306.toNatClampNeg) := EQ.congr (fun j => Wr.neI wH32380 (Or.inl (G_ne gq61 gq16 (by decide)))) (fun j => Wr.neI wH32380 (Or.inl (G_ne giq gq16 (by decide)))) b32377
        have b32415 : EQ (fun k => fI H32380 q11 k) (fun k => fI H32380 iq k) (796) (2) (0) := EQ.congr (fun j => Wr.neI wH32380 (Or.inl (G_ne gq11 gq16 (by decide)))) (fun j => Wr.neI wH32380 (Or.inl (G_ne giq gq16 (by decide)))) b32378
        have b32416 : EQ (fun k => fI H32380 q12 k) (fun k => fI H32380 iq k) (797) (2) (0) := EQ.congr (fun j => Wr.neI wH32380 (Or.inl (G_ne gq12 gq16 (by decide)))) (fun j => Wr.neI wH32380 (Or.inl (G_ne giq gq16 (by decide)))) b32379
        have m32418 := m32319.trans (Wr.neR wH32380 (Or.inl (G_ne ga0 gq16 (by decide)))).symm
        have m32419 := m32344.trans (Wr.neR wH32380 (Or.inl (G_ne ga0 gq16 (by decide)))).symm
        have m32420 := m32345.trans (Wr.neR wH32380 (Or.inl (G_ne ga0 gq16 (by decide)))).symm
        have m32421 := m32346.trans (Wr.neR wH32380 (Or.inl (G_ne ga0 gq16 (by decide)))).symm
        have m32422 := m32347.trans (Wr.neR wH32380 (Or.inl (G_ne ga0 gq16 (by decide)))).symm
        have m32423 := m32348.trans (Wr.neR wH32380 (Or.inl (G_ne ga0 gq16 (by decide)))).symm
        have m32424 := m32349.trans (Wr.neR wH32380 (Or.inl (G_ne ga0 gq16 (by decide)))).symm
        have m32425 := m32350.trans (Wr.neR wH32380 (Or.inl (G_ne ga0 gq16 (by decide)))).symm
        have m32426 := m32351.trans (Wr.neR wH32380 (Or.inl (G_ne ga0 gq16 (by decide)))).symm
        have m32427 := m32352.trans (Wr.neR wH32380 (Or.inl (G_ne ga0 gq16 (by decide)))).symm
        have m32428 := m32353.trans (Wr.neR wH32380 (Or.inl (G_ne ga0 gq16 (by decide)))).symm
        have m32429 := m32354.trans (Wr.neR wH32380 (Or.inl (G_ne ga0 gq16 (by decide)))).symm
        have m32430 := m32355.trans (Wr.neR wH32380 (Or.inl (G_ne ga0 gq16 (by decide)))).symm
        have m32431 := m32356.trans (Wr.neR wH32380 (Or.inl (G_ne ga0 gq16 (by decide)))).symm
        have m32432 := m32357.trans (Wr.neR wH32380 (Or.inl (G_ne ga0 gq16 (by decide)))).symm
        have m32433 := m32358.trans (Wr.neR wH32380 (Or.inl (G_ne ga0 gq16 (by decide)))).symm
        have m32434 := m32359.trans (Wr.neR wH32380 (Or.inl (G_ne ga0 gq16 (by decide)))).symm
        have m32435 := m32360.trans (Wr.neI wH32380 (Or.inl (G_ne ga0 gq16 (by decide)))).symm
        have m32436 := ex32318.trans (Wr.neI wH32380 (Or.inl (G_ne ga0 gq16 (by decide)))).symm
        have m32437 := Wr.I wH32380
        have m32437 := m32437.symm
        clear b32326 b32327 b32328 b32329 b32330 b32331 b32332 b32333 b32334 b32335 b32336 b32337 b32338 b32339 b32340 b32341 b32362 b32363 b32364 b32365 b32366 b32367 b32368 b32369 b32370 b32371 b32372 b32373 b32374 b32375 b32376 b32377 b32378 b32379 ex32318 g32320 hTH32316 m32319 m32342 m32344 m32345 m32346 m32347 m32348 m32349 m32350 m32351 m32352 m32353 m32354 m32355 m32356 m32357 m32358 m32359 m32360 mf32361
        refine lv_aload_n hx hb dX10_keepsBars_243 rfl (lv_at hl32305 0 rfl) ?_
        refine x_gr C hTH32380 (ci := 10) (k := 60) rfl inX10 (by decide) wF_X10_140 ga0 rg_112 rfl dX10_keepsBars_244 (fun q32438 eq32438 gq32438 => ?_)
        have uq32438 : q60 = q32438 := (m32433).trans eq32438.symm
        subst uq32438
        clear eq32438
        refine lv_iload_n hx hb dX10_keepsBars_247 rfl (lv_at hl32305 1 rfl) ?_
        refine lv_aload_n hx hb dX10_keepsBars_248 rfl (lv_at hl32305 0 rfl) ?_
        refine lv_aload_n hx hb dX10_keepsBars_249 rfl (lv_at hl32305 0 rfl) ?_
        refine x_gr C hTH32380 (ci := 10) (k := 60) rfl inX10 (by decide) wF_X10_140 ga0 rg_112 rfl dX10_keepsBars_250 (fun q32439 eq32439 gq32439 => ?_)
        have uq32439 : q60 = q32439 := (m32433).trans eq32439.symm
        subst uq32439
        clear eq32439
        refine lv_iload_n hx hb dX10_keepsBars_253 rfl (lv_at hl32305 1 rfl) ?_
        refine x_ai C hTH32380 gq60 rg_154 ⟨bx32306.1, by show _ < ((20 : Nat) : Int); omega⟩ dX10_keepsBars_254 (fun x32440 ex32440 bx32440 => ?_)
        refine x_V (As := [.int x32440]) (rest := [.int x32306, .ref q60]) C (a_X10_kept l K G H32380 (x32440) (x32318) (tk) hTH32380 ga0 giq m32418 m32436 m32435 g32382 (by and_intros <;> first | assumption | omega)) yo_X10_kept wM_X10_473 ⟨⟨by decide, by decide⟩, by decide, by decide⟩ (x_rv C hTH32380 (ci := 10) rfl ga0 rg_112) rfl hl32305.1 rfl (Nat.le_of_ble_eq_true rfl) dX10_keepsBars_255 hSH32380 (AE_sub (fun _ _ => rfl) (by decide) hSH32380.1) (fun vH32441 H32441 locsH32441 pH32441 zH32441 kH32441 hSH32441 => ?_)
        obtain ⟨x32442, x32443, hvH32441, ex32443, hrH32441, m32444, g32445, mf32446, m32447, m32448, m32449, m32450, hTH32441⟩ := pH32441
        subst hvH32441
        clear zH32441
        replace m32444 := EQN.mk m32444
        have b32451 : UN (tk.toInt ≠ 0) (fun k => fI H32441 q4 k) (fun k => fI s.heap q4 k) := UN.congr (fun j => fI_kept (x_lt hTH32380 kH32441 gq4 (by decide))) b32383
        have b32452 : UN (tk.toInt ≠ 0) (fun k => fI H32441 q10 k) (fun k => fI s.heap q10 k) := UN.congr (fun j => fI_kept (x_lt hTH32380 kH32441 gq10 (by decide))) b32384
        have b32453 : UN (tk.toInt ≠ 0) (fun k => fI H32441 q13 k) (fun k => fI s.heap q13 k) := UN.congr (fun j => fI_kept (x_lt hTH32380 kH32441 gq13 (by decide))) b32385
        have b32454 : UN (tk.toInt ≠ 0) (fun k => fI H32441 q14 k) (fun k => fI s.heap q14 k) := UN.congr (fun j => fI_kept (x_lt hTH32380 kH32441 gq14 (by decide))) b32386
        have b32455 : UN (tk.toInt ≠ 0) (fun k => fI H32441 q15 k) (fun k => fI s.heap q15 k) := UN.congr (fun j => fI_kept (x_lt hTH32380 kH32441 gq15 (by decide))) b32387
        have b32456 : UN (tk.toInt ≠ 0) (fun k => fI H32441 q50 k) (fun k => fI s.heap q50 k) := UN.congr (fun j => fI_kept (x_lt hTH32380 kH32441 gq50 (by decide))) b32388
        have b32457 : UN (tk.toInt ≠ 0) (fun k => fI H32441 q5 k) (fun k => fI s.heap q5 k) := UN.congr (fun j => fI_kept (x_lt hTH32380 kH32441 gq5 (by decide))) b32389
        have b32458 : UN (tk.toInt ≠ 0) (fun k => fI H32441 q6 k) (fun k => fI s.heap q6 k) := UN.congr (fun j => fI_kept (x_lt hTH32380 kH32441 gq6 (by decide))) b32390
        have b32459 : UN (tk.toInt ≠ 0) (fun k => fI H32441 q7 k) (fun k => fI s.heap q7 k) := UN.congr (fun j => fI_kept (x_lt hTH32380 kH32441 gq7 (by decide))) b32391
        have b32460 : UN (tk.toInt ≠ 0) (fun k => fI H32441 q8 k) (fun k => fI s.heap q8 k) := UN.congr (fun j => fI_kept (x_lt hTH32380 kH32441 gq8 (by decide))) b32392
        have b32461 : UN (tk.toInt ≠ 0) (fun k => fI H32441 q9 k) (fun k => fI s.heap q9 k) := UN.congr (fun j => fI_kept (x_lt hTH32380 kH32441 gq9 (by decide))) b32393
        have b32462 : UN (tk.toInt ≠ 0) (fun k => fI H32441 q16 k) (fun k => fI s.heap q16 k) := UN.congr (fun j => fI_kept (x_lt hTH32380 kH32441 gq16 (by decide))) b32394
        have b32463 : UN (tk.toInt ≠ 0) (fun k => fI H32441 q60 k) (fun k => fI s.heap q60 k) := UN.congr (fun j => fI_kept (x_lt hTH32380 kH32441 gq60 (by decide))) b32395
        have b32464 : UN (tk.toInt ≠ 0) (fun k => fI H32441 q61 k) (fun k => fI s.heap q61 k) := UN.congr (fun j => fI_kept (x_lt hTH32380 kH32441 gq61 (by decide))) b32396
        have b32465 : UN (tk.toInt ≠ 0) (fun k => fI H32441 q11 k) (fun k => fI s.heap q11 k) := UN.congr (fun j => fI_kept (x_lt hTH32380 kH32441 gq11 (by decide))) b32397
        have b32466 : UN (tk.toInt ≠ 0) (fun k => fI H32441 q12 k) (fun k => fI s.heap q12 k) := UN.congr (fun j => fI_kept (x_lt hTH32380 kH32441 gq12 (by decide))) b32398
        have m32467 := (m32437).trans (fI_kept (x_lt hTH32380 kH32441 gq16 (by decide))).symm
        have m32468 := (ex32440).trans (fI_kept (x_lt hTH32380 kH32441 gq60 (by decide))).symm
        have m32469 := (m32418).trans (MF.r mf32446 (k := 73) (by decide) (by decide)).symm
        have m32470 := (m32419).trans (MF.r mf32446 (k := 4) (by decide) (by decide)).symm
        have m32471 := (m32420).trans (MF.r mf32446 (k := 5) (by decide) (by decide)).symm
        have m32472 := (m32421).trans (MF.r mf32446 (k := 6) (by decide) (by decide)).symm
        have m32473 := (m32422).trans (MF.r mf32446 (k := 7) (by decide) (by decide)).symm
        have m32474 := (m32423).trans (MF.r mf32446 (k := 8) (by decide) (by decide)).symm
        have m32475 := (m32424).trans (MF.r mf32446 (k := 9) (by decide) (by decide)).symm
        have m32476 := (m32425).trans (MF.r mf32446 (k := 10) (by decide) (by decide)).symm
        have m32477 := (m32426).trans (MF.r mf32446 (k := 11) (by decide) (by decide)).symm
        have m32478 := (m32427).trans (MF.r mf32446 (k := 12) (by decide) (by decide)).symm
        have m32479 := (m32428).trans (MF.r mf32446 (k := 13) (by decide) (by decide)).symm
        have m32480 := (m32429).trans (MF.r mf32446 (k := 14) (by decide) (by decide)).symm
        have m32481 := (m32430).trans (MF.r mf32446 (k := 15) (by decide) (by decide)).symm
        have m32482 := (m32431).trans (MF.r mf32446 (k := 16) (by decide) (by decide)).symm
        have m32483 := (m32432).trans (MF.r mf32446 (k := 50) (by decide) (by decide)).symm
        have m32484 := (m32433).trans (MF.r mf32446 (k := 60) (by decide) (by decide)).symm
        have m32485 := (m32434).trans (MF.r mf32446 (k := 61) (by decide) (by decide)).symm
        have m32486 := (m32435).trans (MF.i mf32446 (k := 71) (by decide) (by decide)).symm
        have mf32487 : MF K s.heap H32441 a0 [72] := MF.trans mf32381 mf32446 (by decide)
        have bx32443 := ty_fi (x := x32443) (k := 72) ex32443 hTH32441 ga0 rg_112 rfl
        have ce_x32318 := i_cl (x := x32318) bx32318.1
        have e_ : x32318.toNatClampNeg = 737 + 3 * x32306.toNatClampNeg := by omega
        have k3e_ := m32449
        rw [e_] at k3e_
        have b32488 : UN (tk.toInt = 0) (fun k => fI H32441 iq k) (fun k => fI s.heap iq k) := UN.tr m32450 b32399
        have b32489 : FB (fun k => fI H32441 iq k) (fun k => fI s.heap iq k) (6) := FB.wr b32400 k3e_ (fun j hj => Nat.ne_of_lt (Nat.lt_of_lt_of_le hj (Nat.le_trans (by decide : 6 ≤ 737) (Nat.le_add_right _ _))))
        have b32490 : EQ (fun k => fI H32441 q4 k) (fun k => fI H32441 iq k) (6) (6) (10) := EQ.wr (EQ.congr (w1 := fun k => fI H32380 iq k) (fun j => fI_kept (x_lt hTH32380 kH32441 gq4 (by decide))) (fun _ => rfl) b32401) k3e_ (fun j hj => nE_6_6_10_737_3 hj)
        have b32491 : EQ (fun k => fI H32441 q10 k) (fun k => fI H32441 iq k) (7) (6) (10) := EQ.wr (EQ.congr (w1 := fun k => fI H32380 iq k) (fun j => fI_kept (x_lt hTH32380 kH32441 gq10 (by decide))) (fun _ => rfl) b32402) k3e_ (fun j hj => nE_7_6_10_737_3 hj)
        have b32492 : EQ (fun k => fI H32441 q13 k) (fun k => fI H32441 iq k) (8) (6) (10) := EQ.wr (EQ.congr (w1 := fun k => fI H32380 iq k) (fun j => fI_kept (x_lt hTH32380 kH32441 gq13 (by decide))) (fun _ => rfl) b32403) k3e_ (fun j hj => nE_8_6_10_737_3 hj)
        have b32493 : EQ (fun k => fI H32441 q14 k) (fun k => fI H32441 iq k) (9) (6) (10) := EQ.wr (EQ.congr (w1 := fun k => fI H32380 iq k) (fun j => fI_kept (x_lt hTH32380 kH32441 gq14 (by decide))) (fun _ => rfl) b32404) k3e_ (fun j hj => nE_9_6_10_737_3 hj)
        have b32494 : EQ (fun k => fI H32441 q15 k) (fun k => fI H32441 iq k) (10) (6) (10) := EQ.wr (EQ.congr (w1 := fun k => fI H32380 iq k) (fun j => fI_kept (x_lt hTH32380 kH32441 gq15 (by decide))) (fun _ => rfl) b32405) k3e_ (fun j hj => nE_10_6_10_737_3 hj)
        have b32495 : EQ (fun k => fI H32441 q50 k) (fun k => fI H32441 iq k) (11) (6) (10) := EQ.wr (EQ.congr (w1 := fun k => fI H32380 iq k) (fun j => fI_kept (x_lt hTH32380 kH32441 gq50 (by decide))) (fun _ => rfl) b32406) k3e_ (fun j hj => nE_11_6_10_737_3 hj)
        have b32496 : EQ (fun k => fI H32441 q5 k) (fun k => fI H32441 iq k) (66) (4) (160) := EQ.wr (EQ.congr (w1 := fun k => fI H32380 iq k) (fun j => fI_kept (x_lt hTH32380 kH32441 gq5 (by decide))) (fun _ => rfl) b32407) k3e_ (fun j hj => nE_66_4_160_737_3 hj)
        have b32497 : EQ (fun k => fI H32441 q6 k) (fun k => fI H32441 iq k) (67) (4) (160) := EQ.wr (EQ.congr (w1 := fun k => fI H32380 iq k) (fun j => fI_kept (x_lt hTH32380 kH32441 gq6 (by decide))) (fun _ => rfl) b32408) k3e_ (fun j hj => nE_67_4_160_737_3 hj)
        have b32498 : EQ (fun k => fI H32441 q7 k) (fun k => fI H32441 iq k) (68) (4) (160) := EQ.wr (EQ.congr (w1 := fun k => fI H32380 iq k) (fun j => fI_kept (x_lt hTH32380 kH32441 gq7 (by decide))) (fun _ => rfl) b32409) k3e_ (fun j hj => nE_68_4_160_737_3 hj)
        have b32499 : EQ (fun k => fI H32441 q8 k) (fun k => fI H32441 iq k) (69) (4) (160) := EQ.wr (EQ.congr (w1 := fun k => fI H32380 iq k) (fun j => fI_kept (x_lt hTH32380 kH32441 gq8 (by decide))) (fun _ => rfl) b32410) k3e_ (fun j hj => nE_69_4_160_737_3 hj)
        have b32500 : EQ (fun k => fI H32441 q9 k) (fun k => fI H32441 iq k) (706) (1) (30) := EQ.wr (EQ.congr (w1 := fun k => fI H32380 iq k) (fun j => fI_kept (x_lt hTH32380 kH32441 gq9 (by decide))) (fun _ => rfl) b32411) k3e_ (fun j hj => nE_706_1_30_737_3 hj)
        have b32501 : EQ (fun k => fI H32441 q16 k) (fun k => fI H32441 iq k) (736) (3) (x32306.toNatClampNeg + 1) := EQ.wr (EQ.congr (w1 := fun k => fI H32380 iq k) (fun j => fI_kept (x_lt hTH32380 kH32441 gq16 (by decide))) (fun _ => rfl) b32412) k3e_ (fun j hj => nE_736_3_i1_737_3 hj)
        have b32502 : EQ (fun k => fI H32441 q60 k) (fun k => fI H32441 iq k) (737) (3) (x32306.toNatClampNeg) := EQ.wr (EQ.congr (w1 := fun k => fI H32380 iq k) (fun j => fI_kept (x_lt hTH32380 kH32441 gq60 (by decide))) (fun _ => rfl) b32413) k3e_ (fun j hj => nE_737_3_i_737_3 hj)
        have b32503 : EQ (fun k => fI H32441 q61 k) (fun k => fI H32441 iq k) (738) (3) (x32306.toNatClampNeg) := EQ.wr (EQ.congr (w1 := fun k => fI H32380 iq k) (fun j => fI_kept (x_lt hTH32380 kH32441 gq61 (by decide))) (fun _ => rfl) b32414) k3e_ (fun j hj => nE_738_3_i_737_3 hj)
        have b32504 : EQ (fun k => fI H32441 q11 k) (fun k => fI H32441 iq k) (796) (2) (0) := EQ.wr (EQ.congr (w1 := fun k => fI H32380 iq k) (fun j => fI_kept (x_lt hTH32380 kH32441 gq11 (by decide))) (fun _ => rfl) b32415) k3e_ (fun j hj => nE_796_2_0_737_3 hj)
        have b32505 : EQ (fun k => fI H32441 q12 k) (fun k => fI H32441 iq k) (797) (2) (0) := EQ.wr (EQ.congr (w1 := fun k => fI H32380 iq k) (fun j => fI_kept (x_lt hTH32380 kH32441 gq12 (by decide))) (fun _ => rfl) b32416) k3e_ (fun j hj => nE_797_2_0_737_3 hj)
        clear b32383 b32384 b32385 b32386 b32387 b32388 b32389 b32390 b32391 b32392 b32393 b32394 b32395 b32396 b32397 b32398 b32399 b32400 b32401 b32402 b32403 b32404 b32405 b32406 b32407 b32408 b32409 b32410 b32411 b32412 b32413 b32414 b32415 b32416 ex32440 m32418 m32419 m32420 m32421 m32422 m32423 m32424 m32425 m32426 m32427 m32428 m32429 m32430 m32431 m32432 m32433 m32434 m32435 m32436 m32437
        clear m32449 m32450 k3e_ e_
        refine W.eq (g2 := F0 m 258 ls32304 [.int x32442, .int x32306, .ref q60]) rfl ?_
        refine x_iast C hTH32441 hSH32441 gq60 rg_154 bx32306.1 (by show _ < ((20 : Nat) : Int); omega) (i_rng x32442) (AE_in gq60 (by decide)) dX10_keepsBars_258 (fun H32506 locsH32506 hTH32506 hSH32506 wH32506 => ?_)
        have mf32507 : MF K s.heap H32506 a0 [72] := MF.arr wH32506 (G_ne ga0 gq60 (by decide)) mf32487
        have g32508 : WD (avw K H32506 a0) := WD.congr (fun k hk j => av_arr hTH32441 ga0 wH32506 gq60 (by decide) (WD_ok 154 (by decide) k hk)) g32445
        have b32509 : UN (tk.toInt ≠ 0) (fun k => fI H32506 q4 k) (fun k => fI s.heap q4 k) := UN.congr (fun j => Wr.neI wH32506 (Or.inl (G_ne gq4 gq60 (by decide)))) b32451
        have b32510 : UN (tk.toInt ≠ 0) (fun k => fI H32506 q10 k) (fun k => fI s.heap q10 k) := UN.congr (fun j => Wr.neI wH32506 (Or.inl (G_ne gq10 gq60 (by decide)))) b32452
        have b32511 : UN (tk.toInt ≠ 0) (fun k => fI H32506 q13 k) (fun k => fI s.heap q13 k) := UN.congr (fun j => Wr.neI wH32506 (Or.inl (G_ne gq13 gq60 (by decide)))) b32453
        have b32512 : UN (tk.toInt ≠ 0) (fun k => fI H32506 q14 k) (fun k => fI s.heap q14 k) := UN.congr (fun j => Wr.neI wH32506 (Or.inl (G_ne gq14 gq60 (by decide)))) b32454
        have b32513 : UN (tk.toInt ≠ 0) (fun k => fI H32506 q15 k) (fun k => fI s.heap q15 k) := UN.congr (fun j => Wr.neI wH32506 (Or.inl (G_ne gq15 gq60 (by decide)))) b32455
        have b32514 : UN (tk.toInt ≠ 0) (fun k => fI H32506 q50 k) (fun k => fI s.heap q50 k) := UN.congr (fun j => Wr.neI wH32506 (Or.inl (G_ne gq50 gq60 (by decide)))) b32456
        have b32515 : UN (tk.toInt ≠ 0) (fun k => fI H32506 q5 k) (fun k => fI s.heap q5 k) := UN.congr (fun j => Wr.neI wH32506 (Or.inl (G_ne gq5 gq60 (by decide)))) b32457
        have b32516 : UN (tk.toInt ≠ 0) (fun k => fI H32506 q6 k) (fun k => fI s.heap q6 k) := UN.congr (fun j => Wr.neI wH32506 (Or.inl (G_ne gq6 gq60 (by decide)))) b32458
        have b32517 : UN (tk.toInt ≠ 0) (fun k => fI H32506 q7 k) (fun k => fI s.heap q7 k) := UN.congr (fun j => Wr.neI wH32506 (Or.inl (G_ne gq7 gq60 (by decide)))) b32459
        have b32518 : UN (tk.toInt ≠ 0) (fun k => fI H32506 q8 k) (fun k => fI s.heap q8 k) := UN.congr (fun j => Wr.neI wH32506 (Or.inl (G_ne gq8 gq60 (by decide)))) b32460
        have b32519 : UN (tk.toInt ≠ 0) (fun k => fI H32506 q9 k) (fun k => fI s.heap q9 k) := UN.congr (fun j => Wr.neI wH32506 (Or.inl (G_ne gq9 gq60 (by decide)))) b32461
        have b32520 : UN (tk.toInt ≠ 0) (fun k => fI H32506 q16 k) (fun k => fI s.heap q16 k) := UN.congr (fun j => Wr.neI wH32506 (Or.inl (G_ne gq16 gq60 (by decide)))) b32462
        have b32521 : UN (tk.toInt ≠ 0) (fun k => fI H32506 q60 k) (fun k => fI s.heap q60 k) := UN.st b32463 (i := x32306.toNatClampNeg) (fun hc => (m32448 hc).trans m32468) (Wr.I wH32506) (fun j hj => Wr.neI wH32506 (Or.inr hj))
        have b32522 : UN (tk.toInt ≠ 0) (fun k => fI H32506 q61 k) (fun k => fI s.heap q61 k) := UN.congr (fun j => Wr.neI wH32506 (Or.inl (G_ne gq61 gq60 (by decide)))) b32464
        have b32523 : UN (tk.toInt ≠ 0) (fun k => fI H32506 q11 k) (fun k => fI s.heap q11 k) := UN.congr (fun j => Wr.neI wH32506 (Or.inl (G_ne gq11 gq60 (by decide)))) b32465
        have b32524 : UN (tk.toInt ≠ 0) (fun k => fI H32506 q12 k) (fun k => fI s.heap q12 k) := UN.congr (fun j => Wr.neI wH32506 (Or.inl (G_ne gq12 gq60 (by decide)))) b32466
        have b32525 : UN (tk.toInt = 0) (fun k => fI H32506 iq k) (fun k => fI s.heap iq k) := UN.congr (fun j => Wr.neI wH32506 (Or.inl (G_ne giq gq60 (by decide)))) b32488
        have b32526 : FB (fun k => fI H32506 iq k) (fun k => fI s.heap iq k) (6) := FB.congr (fun j => Wr.neI wH32506 (Or.inl (G_ne giq gq60 (by decide)))) b32489
        have b32527 : EQ (fun k => fI H32506 q4 k) (fun k => fI H32506 iq k) (6) (6) (10) := EQ.congr (fun j => Wr.neI wH32506 (Or.inl (G_ne gq4 gq60 (by decide)))) (fun j => Wr.neI wH32506 (Or.inl (G_ne giq gq60 (by decide)))) b32490
        have b32528 : EQ (fun k => fI H32506 q10 k) (fun k => fI H32506 iq k) (7) (6) (10) := EQ.congr (fun j => Wr.neI wH32506 (Or.inl (G_ne gq10 gq60 (by decide)))) (fun j => Wr.neI wH32506 (Or.inl (G_ne giq gq60 (by decide)))) b32491
        have b32529 : EQ (fun k => fI H32506 q13 k) (fun k => fI H32506 iq k) (8) (6) (10) := EQ.congr (fun j => Wr.neI wH32506 (Or.inl (G_ne gq13 gq60 (by decide)))) (fun j => Wr.neI wH32506 (Or.inl (G_ne giq gq60 (by decide)))) b32492
        have b32530 : EQ (fun k => fI H32506 q14 k) (fun k => fI H32506 iq k) (9) (6) (10) := EQ.congr (fun j => Wr.neI wH32506 (Or.inl (G_ne gq14 gq60 (by decide)))) (fun j => Wr.neI wH32506 (Or.inl (G_ne giq gq60 (by decide)))) b32493
        have b32531 : EQ (fun k => fI H32506 q15 k) (fun k => fI H32506 iq k) (10) (6) (10) := EQ.congr (fun j => Wr.neI wH32506 (Or.inl (G_ne gq15 gq60 (by decide)))) (fun j => Wr.neI wH32506 (Or.inl (G_ne giq gq60 (by decide)))) b32494
        have b32532 : EQ (fun k => fI H32506 q50 k) (fun k => fI H32506 iq k) (11) (6) (10) := EQ.congr (fun j => Wr.neI wH32506 (Or.inl (G_ne gq50 gq60 (by decide)))) (fun j => Wr.neI wH32506 (Or.inl (G_ne giq gq60 (by decide)))) b32495
        have b32533 : EQ (fun k => fI H32506 q5 k) (fun k => fI H32506 iq k) (66) (4) (160) := EQ.congr (fun j => Wr.neI wH32506 (Or.inl (G_ne gq5 gq60 (by decide)))) (fun j => Wr.neI wH32506 (Or.inl (G_ne giq gq60 (by decide)))) b32496
        have b32534 : EQ (fun k => fI H32506 q6 k) (fun k => fI H32506 iq k) (67) (4) (160) := EQ.congr (fun j => Wr.neI wH32506 (Or.inl (G_ne gq6 gq60 (by decide)))) (fun j => Wr.neI wH32506 (Or.inl (G_ne giq gq60 (by decide)))) b32497
        have b32535 : EQ (fun k => fI H32506 q7 k) (fun k => fI H32506 iq k) (68) (4) (160) := EQ.congr (fun j => Wr.neI wH32506 (Or.inl (G_ne gq7 gq60 (by decide)))) (fun j => Wr.neI wH32506 (Or.inl (G_ne giq gq60 (by decide)))) b32498
        have b32536 : EQ (fun k => fI H32506 q8 k) (fun k => fI H32506 iq k) (69) (4) (160) := EQ.congr (fun j => Wr.neI wH32506 (Or.inl (G_ne gq8 gq60 (by decide)))) (fun j => Wr.neI wH32506 (Or.inl (G_ne giq gq60 (by decide)))) b32499
        have b32537 : EQ (fun k => fI H32506 q9 k) (fun k => fI H32506 iq k) (706) (1) (30) := EQ.congr (fun j => Wr.neI wH32506 (Or.inl (G_ne gq9 gq60 (by decide)))) (fun j => Wr.neI wH32506 (Or.inl (G_ne giq gq60 (by decide)))) b32500
        have b32538 : EQ (fun k => fI H32506 q16 k) (fun k => fI H32506 iq k) (736) (3) (x32306.toNatClampNeg + 1) := EQ.congr (fun j => Wr.neI wH32506 (Or.inl (G_ne gq16 gq60 (by decide)))) (fun j => Wr.neI wH32506 (Or.inl (G_ne giq gq60 (by decide)))) b32501
        have b32539 : EQ (fun k => fI H32506 q60 k) (fun k => fI H32506 iq k) (737) (3) (x32306.toNatClampNeg + 1) := EQ.st b32502 (i := x32306.toNatClampNeg) (t := x32318.toNatClampNeg) (by omega) m32447 (by omega) (Wr.I wH32506) (fun j hj => Wr.neI wH32506 (Or.inr hj)) (fun j => Wr.neI wH32506 (Or.inl (G_ne giq gq60 (by decide))))
        have b32540 : EQ (fun k => fI H32506 q61 k) (fun k => fI H32506 iq k) (738) (3) (x32306.toNatClampNeg) := EQ.congr (fun j => Wr.neI wH32506 (Or.inl (G_ne gq61 gq60 (by decide)))) (fun j => Wr.neI wH32506 (Or.inl (G_ne giq gq60 (by decide)))) b32503
        have b32541 : EQ (fun k => fI H32506 q11 k) (fun k => fI H32506 iq k) (796) (2) (0) := EQ.congr (fun j => Wr.neI wH32506 (Or.inl (G_ne gq11 gq60 (by decide)))) (fun j => Wr.neI wH32506 (Or.inl (G_ne giq gq60 (by decide)))) b32504
        have b32542 : EQ (fun k => fI H32506 q12 k) (fun k => fI H32506 iq k) (797) (2) (0) := EQ.congr (fun j => Wr.neI wH32506 (Or.inl (G_ne gq12 gq60 (by decide)))) (fun j => Wr.neI wH32506 (Or.inl (G_ne giq gq60 (by decide)))) b32505
        have m32543 := m32467.trans (Wr.neI wH32506 (Or.inl (G_ne gq16 gq60 (by decide)))).symm
        have m32545 := m32444.trans (Wr.neR wH32506 (Or.inl (G_ne ga0 gq60 (by decide)))).symm
        have m32546 := m32470.trans (Wr.neR wH32506 (Or.inl (G_ne ga0 gq60 (by decide)))).symm
        have m32547 := m32471.trans (Wr.neR wH32506 (Or.inl (G_ne ga0 gq60 (by decide)))).symm
        have m32548 := m32472.trans (Wr.neR wH32506 (Or.inl (G_ne ga0 gq60 (by decide)))).symm
        have m32549 := m32473.trans (Wr.neR wH32506 (Or.inl (G_ne ga0 gq60 (by decide)))).symm
        have m32550 := m32474.trans (Wr.neR wH32506 (Or.inl (G_ne ga0 gq60 (by decide)))).symm
        have m32551 := m32475.trans (Wr.neR wH32506 (Or.inl (G_ne ga0 gq60 (by decide)))).symm
        have m32552 := m32476.trans (Wr.neR wH32506 (Or.inl (G_ne ga0 gq60 (by decide)))).symm
        have m32553 := m32477.trans (Wr.neR wH32506 (Or.inl (G_ne ga0 gq60 (by decide)))).symm
        have m32554 := m32478.trans (Wr.neR wH32506 (Or.inl (G_ne ga0 gq60 (by decide)))).symm
        have m32555 := m32479.trans (Wr.neR wH32506 (Or.inl (G_ne ga0 gq60 (by decide)))).symm
        have m32556 := m32480.trans (Wr.neR wH32506 (Or.inl (G_ne ga0 gq60 (by decide)))).symm
        have m32557 := m32481.trans (Wr.neR wH32506 (Or.inl (G_ne ga0 gq60 (by decide)))).symm
        have m32558 := m32482.trans (Wr.neR wH32506 (Or.inl (G_ne ga0 gq60 (by decide)))).symm
        have m32559 := m32483.trans (Wr.neR wH32506 (Or.inl (G_ne ga0 gq60 (by decide)))).symm
        have m32560 := m32484.trans (Wr.neR wH32506 (Or.inl (G_ne ga0 gq60 (by decide)))).symm
        have m32561 := m32485.trans (Wr.neR wH32506 (Or.inl (G_ne ga0 gq60 (by decide)))).symm
        have m32562 := m32486.trans (Wr.neI wH32506 (Or.inl (G_ne ga0 gq60 (by decide)))).symm
        have m32563 := ex32443.trans (Wr.neI wH32506 (Or.inl (G_ne ga0 gq60 (by decide)))).symm
        have m32564 := Wr.I wH32506
        have m32564 := m32564.symm
        clear b32451 b32452 b32453 b32454 b32455 b32456 b32457 b32458 b32459 b32460 b32461 b32462 b32463 b32464 b32465 b32466 b32488 b32489 b32490 b32491 b32492 b32493 b32494 b32495 b32496 b32497 b32498 b32499 b32500 b32501 b32502 b32503 b32504 b32505 ex32443 g32445 hTH32441 m32444 m32467 m32468 m32470 m32471 m32472 m32473 m32474 m32475 m32476 m32477 m32478 m32479 m32480 m32481 m32482 m32483 m32484 m32485 m32486 mf32487
        refine lv_aload_n hx hb dX10_keepsBars_259 rfl (lv_at hl32305 0 rfl) ?_
        refine x_gr C hTH32506 (ci := 10) (k := 61) rfl inX10 (by decide) wF_X10_143 ga0 rg_112 rfl dX10_keepsBars_260 (fun q32565 eq32565 gq32565 => ?_)
        have uq32565 : q61 = q32565 := (m32561).trans eq32565.symm
        subst uq32565
        clear eq32565
        refine lv_iload_n hx hb dX10_keepsBars_263 rfl (lv_at hl32305 1 rfl) ?_
        refine lv_aload_n hx hb dX10_keepsBars_264 rfl (lv_at hl32305 0 rfl) ?_
        refine lv_aload_n hx hb dX10_keepsBars_265 rfl (lv_at hl32305 0 rfl) ?_
        refine x_gr C hTH32506 (ci := 10) (k := 61) rfl inX10 (by decide) wF_X10_143 ga0 rg_112 rfl dX10_keepsBars_266 (fun q32566 eq32566 gq32566 => ?_)
        have uq32566 : q61 = q32566 := (m32561).trans eq32566.symm
        subst uq32566
        clear eq32566
        refine lv_iload_n hx hb dX10_keepsBars_269 rfl (lv_at hl32305 1 rfl) ?_
        refine x_ai C hTH32506 gq61 rg_155 ⟨bx32306.1, by show _ < ((20 : Nat) : Int); omega⟩ dX10_keepsBars_270 (fun x32567 ex32567 bx32567 => ?_)
        refine x_V (As := [.int x32567]) (rest := [.int x32306, .ref q61]) C (a_X10_kept l K G H32506 (x32567) (x32443) (tk) hTH32506 ga0 giq m32545 m32563 m32562 g32508 (by and_intros <;> first | assumption | omega)) yo_X10_kept wM_X10_473 ⟨⟨by decide, by decide⟩, by decide, by decide⟩ (x_rv C hTH32506 (ci := 10) rfl ga0 rg_112) rfl hl32305.1 rfl (Nat.le_of_ble_eq_true rfl) dX10_keepsBars_271 hSH32506 (AE_sub (fun _ _ => rfl) (by decide) hSH32506.1) (fun vH32568 H32568 locsH32568 pH32568 zH32568 kH32568 hSH32568 => ?_)
        obtain ⟨x32569, x32570, hvH32568, ex32570, hrH32568, m32571, g32572, mf32573, m32574, m32575, m32576, m32577, hTH32568⟩ := pH32568
        subst hvH32568
        clear zH32568
        replace m32571 := EQN.mk m32571
        have b32578 : UN (tk.toInt ≠ 0) (fun k => fI H32568 q4 k) (fun k => fI s.heap q4 k) := UN.congr (fun j => fI_kept (x_lt hTH32506 kH32568 gq4 (by decide))) b32509
        have b32579 : UN (tk.toInt ≠ 0) (fun k => fI H32568 q10 k) (fun k => fI s.heap q10 k) := UN.congr (fun j => fI_kept (x_lt hTH32506 kH32568 gq10 (by decide))) b32510
        have b32580 : UN (tk.toInt ≠ 0) (fun k => fI H32568 q13 k) (fun k => fI s.heap q13 k) := UN.congr (fun j => fI_kept (x_lt hTH32506 kH32568 gq13 (by decide))) b32511
        have b32581 : UN (tk.toInt ≠ 0) (fun k => fI H32568 q14 k) (fun k => fI s.heap q14 k) := UN.congr (fun j => fI_kept (x_lt hTH32506 kH32568 gq14 (by decide))) b32512
        have b32582 : UN (tk.toInt ≠ 0) (fun k => fI H32568 q15 k) (fun k => fI s.heap q15 k) := UN.congr (fun j => fI_kept (x_lt hTH32506 kH32568 gq15 (by decide))) b32513
        have b32583 : UN (tk.toInt ≠ 0) (fun k => fI H32568 q50 k) (fun k => fI s.heap q50 k) := UN.congr (fun j => fI_kept (x_lt hTH32506 kH32568 gq50 (by decide))) b32514
        have b32584 : UN (tk.toInt ≠ 0) (fun k => fI H32568 q5 k) (fun k => fI s.heap q5 k) := UN.congr (fun j => fI_kept (x_lt hTH32506 kH32568 gq5 (by decide))) b32515
        have b32585 : UN (tk.toInt ≠ 0) (fun k => fI H32568 q6 k) (fun k => fI s.heap q6 k) := UN.congr (fun j => fI_kept (x_lt hTH32506 kH32568 gq6 (by decide))) b32516
        have b32586 : UN (tk.toInt ≠ 0) (fun k => fI H32568 q7 k) (fun k => fI s.heap q7 k) := UN.congr (fun j => fI_kept (x_lt hTH32506 kH32568 gq7 (by decide))) b32517
        have b32587 : UN (tk.toInt ≠ 0) (fun k => fI H32568 q8 k) (fun k => fI s.heap q8 k) := UN.congr (fun j => fI_kept (x_lt hTH32506 kH32568 gq8 (by decide))) b32518
        have b32588 : UN (tk.toInt ≠ 0) (fun k => fI H32568 q9 k) (fun k => fI s.heap q9 k) := UN.congr (fun j => fI_kept (x_lt hTH32506 kH32568 gq9 (by decide))) b32519
        have b32589 : UN (tk.toInt ≠ 0) (fun k => fI H32568 q16 k) (fun k => fI s.heap q16 k) := UN.congr (fun j => fI_kept (x_lt hTH32506 kH32568 gq16 (by decide))) b32520
        have b32590 : UN (tk.toInt ≠ 0) (fun k => fI H32568 q60 k) (fun k => fI s.heap q60 k) := UN.congr (fun j => fI_kept (x_lt hTH32506 kH32568 gq60 (by decide))) b32521
        have b32591 : UN (tk.toInt ≠ 0) (fun k => fI H32568 q61 k) (fun k => fI s.heap q61 k) := UN.congr (fun j => fI_kept (x_lt hTH32506 kH32568 gq61 (by decide))) b32522
        have b32592 : UN (tk.toInt ≠ 0) (fun k => fI H32568 q11 k) (fun k => fI s.heap q11 k) := UN.congr (fun j => fI_kept (x_lt hTH32506 kH32568 gq11 (by decide))) b32523
        have b32593 : UN (tk.toInt ≠ 0) (fun k => fI H32568 q12 k) (fun k => fI s.heap q12 k) := UN.congr (fun j => fI_kept (x_lt hTH32506 kH32568 gq12 (by decide))) b32524
        have m32594 := (m32543).trans (fI_kept (x_lt hTH32506 kH32568 gq16 (by decide))).symm
        have m32595 := (m32564).trans (fI_kept (x_lt hTH32506 kH32568 gq60 (by decide))).symm
        have m32596 := (ex32567).trans (fI_kept (x_lt hTH32506 kH32568 gq61 (by decide))).symm
        have m32597 := (m32545).trans (MF.r mf32573 (k := 73) (by decide) (by decide)).symm
        have m32598 := (m32546).trans (MF.r mf32573 (k := 4) (by decide) (by decide)).symm
        have m32599 := (m32547).trans (MF.r mf32573 (k := 5) (by decide) (by decide)).symm
        have m32600 := (m32548).trans (MF.r mf32573 (k := 6) (by decide) (by decide)).symm
        have m32601 := (m32549).trans (MF.r mf32573 (k := 7) (by decide) (by decide)).symm
        have m32602 := (m32550).trans (MF.r mf32573 (k := 8) (by decide) (by decide)).symm
        have m32603 := (m32551).trans (MF.r mf32573 (k := 9) (by decide) (by decide)).symm
        have m32604 := (m32552).trans (MF.r mf32573 (k := 10) (by decide) (by decide)).symm
        have m32605 := (m32553).trans (MF.r mf32573 (k := 11) (by decide) (by decide)).symm
        have m32606 := (m32554).trans (MF.r mf32573 (k := 12) (by decide) (by decide)).symm
        have m32607 := (m32555).trans (MF.r mf32573 (k := 13) (by decide) (by decide)).symm
        have m32608 := (m32556).trans (MF.r mf32573 (k := 14) (by decide) (by decide)).symm
        have m32609 := (m32557).trans (MF.r mf32573 (k := 15) (by decide) (by decide)).symm
        have m32610 := (m32558).trans (MF.r mf32573 (k := 16) (by decide) (by decide)).symm
        have m32611 := (m32559).trans (MF.r mf32573 (k := 50) (by decide) (by decide)).symm
        have m32612 := (m32560).trans (MF.r mf32573 (k := 60) (by decide) (by decide)).symm
        have m32613 := (m32561).trans (MF.r mf32573 (k := 61) (by decide) (by decide)).symm
        have m32614 := (m32562).trans (MF.i mf32573 (k := 71) (by decide) (by decide)).symm
        have mf32615 : MF K s.heap H32568 a0 [72] := MF.trans mf32507 mf32573 (by decide)
        have bx32570 := ty_fi (x := x32570) (k := 72) ex32570 hTH32568 ga0 rg_112 rfl
        have ce_x32443 := i_cl (x := x32443) bx32443.1
        have e_ : x32443.toNatClampNeg = 738 + 3 * x32306.toNatClampNeg := by omega
        have k3e_ := m32576
        rw [e_] at k3e_
        have b32616 : UN (tk.toInt = 0) (fun k => fI H32568 iq k) (fun k => fI s.heap iq k) := UN.tr m32577 b32525
        have b32617 : FB (fun k => fI H32568 iq k) (fun k => fI s.heap iq k) (6) := FB.wr b32526 k3e_ (fun j hj => Nat.ne_of_lt (Nat.lt_of_lt_of_le hj (Nat.le_trans (by decide : 6 ≤ 738) (Nat.le_add_right _ _))))
        have b32618 : EQ (fun k => fI H32568 q4 k) (fun k => fI H32568 iq k) (6) (6) (10) := EQ.wr (EQ.congr (w1 := fun k => fI H32506 iq k) (fun j => fI_kept (x_lt hTH32506 kH32568 gq4 (by decide))) (fun _ => rfl) b32527) k3e_ (fun j hj => nE_6_6_10_738_3 hj)
        have b32619 : EQ (fun k => fI H32568 q10 k) (fun k => fI H32568 iq k) (7) (6) (10) := EQ.wr (EQ.congr (w1 := fun k => fI H32506 iq k) (fun j => fI_kept (x_lt hTH32506 kH32568 gq10 (by decide))) (fun _ => rfl) b32528) k3e_ (fun j hj => nE_7_6_10_738_3 hj)
        have b32620 : EQ (fun k => fI H32568 q13 k) (fun k => fI H32568 iq k) (8) (6) (10) := EQ.wr (EQ.congr (w1 := fun k => fI H32506 iq k) (fun j => fI_kept (x_lt hTH32506 kH32568 gq13 (by decide))) (fun _ => rfl) b32529) k3e_ (fun j hj => nE_8_6_10_738_3 hj)
        have b32621 : EQ (fun k => fI H32568 q14 k) (fun k => fI H32568 iq k) (9) (6) (10) := EQ.wr (EQ.congr (w1 := fun k => fI H32506 iq k) (fun j => fI_kept (x_lt hTH32506 kH32568 gq14 (by decide))) (fun _ => rfl) b32530) k3e_ (fun j hj => nE_9_6_10_738_3 hj)
        have b32622 : EQ (fun k => fI H32568 q15 k) (fun k => fI H32568 iq k) (10) (6) (10) := EQ.wr (EQ.congr (w1 := fun k => fI H32506 iq k) (fun j => fI_kept (x_lt hTH32506 kH32568 gq15 (by decide))) (fun _ => rfl) b32531) k3e_ (fun j hj => nE_10_6_10_738_3 hj)
        have b32623 : EQ (fun k => fI H32568 q50 k) (fun k => fI H32568 iq k) (11) (6) (10) := EQ.wr (EQ.congr (w1 := fun k => fI H32506 iq k) (fun j => fI_kept (x_lt hTH32506 kH32568 gq50 (by decide))) (fun _ => rfl) b32532) k3e_ (fun j hj => nE_11_6_10_738_3 hj)
        have b32624 : EQ (fun k => fI H32568 q5 k) (fun k => fI H32568 iq k) (66) (4) (160) := EQ.wr (EQ.congr (w1 := fun k => fI H32506 iq k) (fun j => fI_kept (x_lt hTH32506 kH32568 gq5 (by decide))) (fun _ => rfl) b32533) k3e_ (fun j hj => nE_66_4_160_738_3 hj)
        have b32625 : EQ (fun k => fI H32568 q6 k) (fun k => fI H32568 iq k) (67) (4) (160) := EQ.wr (EQ.congr (w1 := fun k => fI H32506 iq k) (fun j => fI_kept (x_lt hTH32506 kH32568 gq6 (by decide))) (fun _ => rfl) b32534) k3e_ (fun j hj => nE_67_4_160_738_3 hj)
        have b32626 : EQ (fun k => fI H32568 q7 k) (fun k => fI H32568 iq k) (68) (4) (160) := EQ.wr (EQ.congr (w1 := fun k => fI H32506 iq k) (fun j => fI_kept (x_lt hTH32506 kH32568 gq7 (by decide))) (fun _ => rfl) b32535) k3e_ (fun j hj => nE_68_4_160_738_3 hj)
        have b32627 : EQ (fun k => fI H32568 q8 k) (fun k => fI H32568 iq k) (69) (4) (160) := EQ.wr (EQ.congr (w1 := fun k => fI H32506 iq k) (fun j => fI_kept (x_lt hTH32506 kH32568 gq8 (by decide))) (fun _ => rfl) b32536) k3e_ (fun j hj => nE_69_4_160_738_3 hj)
        have b32628 : EQ (fun k => fI H32568 q9 k) (fun k => fI H32568 iq k) (706) (1) (30) := EQ.wr (EQ.congr (w1 := fun k => fI H32506 iq k) (fun j => fI_kept (x_lt hTH32506 kH32568 gq9 (by decide))) (fun _ => rfl) b32537) k3e_ (fun j hj => nE_706_1_30_738_3 hj)
        have b32629 : EQ (fun k => fI H32568 q16 k) (fun k => fI H32568 iq k) (736) (3) (x32306.toNatClampNeg + 1) := EQ.wr (EQ.congr (w1 := fun k => fI H32506 iq k) (fun j => fI_kept (x_lt hTH32506 kH32568 gq16 (by decide))) (fun _ => rfl) b32538) k3e_ (fun j hj => nE_736_3_i1_738_3 hj)
        have b32630 : EQ (fun k => fI H32568 q60 k) (fun k => fI H32568 iq k) (737) (3) (x32306.toNatClampNeg + 1) := EQ.wr (EQ.congr (w1 := fun k => fI H32506 iq k) (fun j => fI_kept (x_lt hTH32506 kH32568 gq60 (by decide))) (fun _ => rfl) b32539) k3e_ (fun j hj => nE_737_3_i1_738_3 hj)
        have b32631 : EQ (fun k => fI H32568 q61 k) (fun k => fI H32568 iq k) (738) (3) (x32306.toNatClampNeg) := EQ.wr (EQ.congr (w1 := fun k => fI H32506 iq k) (fun j => fI_kept (x_lt hTH32506 kH32568 gq61 (by decide))) (fun _ => rfl) b32540) k3e_ (fun j hj => nE_738_3_i_738_3 hj)
        have b32632 : EQ (fun k => fI H32568 q11 k) (fun k => fI H32568 iq k) (796) (2) (0) := EQ.wr (EQ.congr (w1 := fun k => fI H32506 iq k) (fun j => fI_kept (x_lt hTH32506 kH32568 gq11 (by decide))) (fun _ => rfl) b32541) k3e_ (fun j hj => nE_796_2_0_738_3 hj)
        have b32633 : EQ (fun k => fI H32568 q12 k) (fun k => fI H32568 iq k) (797) (2) (0) := EQ.wr (EQ.congr (w1 := fun k => fI H32506 iq k) (fun j => fI_kept (x_lt hTH32506 kH32568 gq12 (by decide))) (fun _ => rfl) b32542) k3e_ (fun j hj => nE_797_2_0_738_3 hj)
        clear b32509 b32510 b32511 b32512 b32513 b32514 b32515 b32516 b32517 b32518 b32519 b32520 b32521 b32522 b32523 b32524 b32525 b32526 b32527 b32528 b32529 b32530 b32531 b32532 b32533 b32534 b32535 b32536 b32537 b32538 b32539 b32540 b32541 b32542 ex32567 m32543 m32545 m32546 m32547 m32548 m32549 m32550 m32551 m32552 m32553 m32554 m32555 m32556 m32557 m32558 m32559 m32560 m32561 m32562 m32563 m32564
        clear m32576 m32577 k3e_ e_
        refine W.eq (g2 := F0 m 274 ls32304 [.int x32569, .int x32306, .ref q61]) rfl ?_
        refine x_iast C hTH32568 hSH32568 gq61 rg_155 bx32306.1 (by show _ < ((20 : Nat) : Int); omega) (i_rng x32569) (AE_in gq61 (by decide)) dX10_keepsBars_274 (fun H32634 locsH32634 hTH32634 hSH32634 wH32634 => ?_)
        have mf32635 : MF K s.heap H32634 a0 [72] := MF.arr wH32634 (G_ne ga0 gq61 (by decide)) mf32615
        have g32636 : WD (avw K H32634 a0) := WD.congr (fun k hk j => av_arr hTH32568 ga0 wH32634 gq61 (by decide) (WD_ok 155 (by decide) k hk)) g32572
        have b32637 : UN (tk.toInt ≠ 0) (fun k => fI H32634 q4 k) (fun k => fI s.heap q4 k) := UN.congr (fun j => Wr.neI wH32634 (Or.inl (G_ne gq4 gq61 (by decide)))) b32578
        have b32638 : UN (tk.toInt ≠ 0) (fun k => fI H32634 q10 k) (fun k => fI s.heap q10 k) := UN.congr (fun j => Wr.neI wH32634 (Or.inl (G_ne gq10 gq61 (by decide)))) b32579
        have b32639 : UN (tk.toInt ≠ 0) (fun k => fI H32634 q13 k) (fun k => fI s.heap q13 k) := UN.congr (fun j => Wr.neI wH32634 (Or.inl (G_ne gq13 gq61 (by decide)))) b32580
        have b32640 : UN (tk.toInt ≠ 0) (fun k => fI H32634 q14 k) (fun k => fI s.heap q14 k) := UN.congr (fun j => Wr.neI wH32634 (Or.inl (G_ne gq14 gq61 (by decide)))) b32581
        have b32641 : UN (tk.toInt ≠ 0) (fun k => fI H32634 q15 k) (fun k => fI s.heap q15 k) := UN.congr (fun j => Wr.neI wH32634 (Or.inl (G_ne gq15 gq61 (by decide)))) b32582
        have b32642 : UN (tk.toInt ≠ 0) (fun k => fI H32634 q50 k) (fun k => fI s.heap q50 k) := UN.congr (fun j => Wr.neI wH32634 (Or.inl (G_ne gq50 gq61 (by decide)))) b32583
        have b32643 : UN (tk.toInt ≠ 0) (fun k => fI H32634 q5 k) (fun k => fI s.heap q5 k) := UN.congr (fun j => Wr.neI wH32634 (Or.inl (G_ne gq5 gq61 (by decide)))) b32584
        have b32644 : UN (tk.toInt ≠ 0) (fun k => fI H32634 q6 k) (fun k => fI s.heap q6 k) := UN.congr (fun j => Wr.neI wH32634 (Or.inl (G_ne gq6 gq61 (by decide)))) b32585
        have b32645 : UN (tk.toInt ≠ 0) (fun k => fI H32634 q7 k) (fun k => fI s.heap q7 k) := UN.congr (fun j => Wr.neI wH32634 (Or.inl (G_ne gq7 gq61 (by decide)))) b32586
        have b32646 : UN (tk.toInt ≠ 0) (fun k => fI H32634 q8 k) (fun k => fI s.heap q8 k) := UN.congr (fun j => Wr.neI wH32634 (Or.inl (G_ne gq8 gq61 (by decide)))) b32587
        have b32647 : UN (tk.toInt ≠ 0) (fun k => fI H32634 q9 k) (fun k => fI s.heap q9 k) := UN.congr (fun j => Wr.neI wH32634 (Or.inl (G_ne gq9 gq61 (by decide)))) b32588
        have b32648 : UN (tk.toInt ≠ 0) (fun k => fI H32634 q16 k) (fun k => fI s.heap q16 k) := UN.congr (fun j => Wr.neI wH32634 (Or.inl (G_ne gq16 gq61 (by decide)))) b32589
        have b32649 : UN (tk.toInt ≠ 0) (fun k => fI H32634 q60 k) (fun k => fI s.heap q60 k) := UN.congr (fun j => Wr.neI wH32634 (Or.inl (G_ne gq60 gq61 (by decide)))) b32590
        have b32650 : UN (tk.toInt ≠ 0) (fun k => fI H32634 q61 k) (fun k => fI s.heap q61 k) := UN.st b32591 (i := x32306.toNatClampNeg) (fun hc => (m32575 hc).trans m32596) (Wr.I wH32634) (fun j hj => Wr.neI wH32634 (Or.inr hj))
        have b32651 : UN (tk.toInt ≠ 0) (fun k => fI H32634 q11 k) (fun k => fI s.heap q11 k) := UN.congr (fun j => Wr.neI wH32634 (Or.inl (G_ne gq11 gq61 (by decide)))) b32592
        have b32652 : UN (tk.toInt ≠ 0) (fun k => fI H32634 q12 k) (fun k => fI s.heap q12 k) := UN.congr (fun j => Wr.neI wH32634 (Or.inl (G_ne gq12 gq61 (by decide)))) b32593
        have b32653 : UN (tk.toInt = 0) (fun k => fI H32634 iq k) (fun k => fI s.heap iq k) := UN.congr (fun j => Wr.neI wH32634 (Or.inl (G_ne giq gq61 (by decide)))) b32616
        have b32654 : FB (fun k => fI H32634 iq k) (fun k => fI s.heap iq k) (6) := FB.congr (fun j => Wr.neI wH32634 (Or.inl (G_ne giq gq61 (by decide)))) b32617
        have b32655 : EQ (fun k => fI H32634 q4 k) (fun k => fI H32634 iq k) (6) (6) (10) := EQ.congr (fun j => Wr.neI wH32634 (Or.inl (G_ne gq4 gq61 (by decide)))) (fun j => Wr.neI wH32634 (Or.inl (G_ne giq gq61 (by decide)))) b32618
        have b32656 : EQ (fun k => fI H32634 q10 k) (fun k => fI H32634 iq k) (7) (6) (10) := EQ.congr (fun j => Wr.neI wH32634 (Or.inl (G_ne gq10 gq61 (by decide)))) (fun j => Wr.neI wH32634 (Or.inl (G_ne giq gq61 (by decide)))) b32619
        have b32657 : EQ (fun k => fI H32634 q13 k) (fun k => fI H32634 iq k) (8) (6) (10) := EQ.congr (fun j => Wr.neI wH32634 (Or.inl (G_ne gq13 gq61 (by decide)))) (fun j => Wr.neI wH32634 (Or.inl (G_ne giq gq61 (by decide)))) b32620
        have b32658 : EQ (fun k => fI H32634 q14 k) (fun k => fI H32634 iq k) (9) (6) (10) := EQ.congr (fun j => Wr.neI wH32634 (Or.inl (G_ne gq14 gq61 (by decide)))) (fun j => Wr.neI wH32634 (Or.inl (G_ne giq gq61 (by decide)))) b32621
        have b32659 : EQ (fun k => fI H32634 q15 k) (fun k => fI H32634 iq k) (10) (6) (10) := EQ.congr (fun j => Wr.neI wH32634 (Or.inl (G_ne gq15 gq61 (by decide)))) (fun j => Wr.neI wH32634 (Or.inl (G_ne giq gq61 (by decide)))) b32622
        have b32660 : EQ (fun k => fI H32634 q50 k) (fun k => fI H32634 iq k) (11) (6) (10) := EQ.congr (fun j => Wr.neI wH32634 (Or.inl (G_ne gq50 gq61 (by decide)))) (fun j => Wr.neI wH32634 (Or.inl (G_ne giq gq61 (by decide)))) b32623
        have b32661 : EQ (fun k => fI H32634 q5 k) (fun k => fI H32634 iq k) (66) (4) (160) := EQ.congr (fun j => Wr.neI wH32634 (Or.inl (G_ne gq5 gq61 (by decide)))) (fun j => Wr.neI wH32634 (Or.inl (G_ne giq gq61 (by decide)))) b32624
        have b32662 : EQ (fun k => fI H32634 q6 k) (fun k => fI H32634 iq k) (67) (4) (160) := EQ.congr (fun j => Wr.neI wH32634 (Or.inl (G_ne gq6 gq61 (by decide)))) (fun j => Wr.neI wH32634 (Or.inl (G_ne giq gq61 (by decide)))) b32625
        have b32663 : EQ (fun k => fI H32634 q7 k) (fun k => fI H32634 iq k) (68) (4) (160) := EQ.congr (fun j => Wr.neI wH32634 (Or.inl (G_ne gq7 gq61 (by decide)))) (fun j => Wr.neI wH32634 (Or.inl (G_ne giq gq61 (by decide)))) b32626
        have b32664 : EQ (fun k => fI H32634 q8 k) (fun k => fI H32634 iq k) (69) (4) (160) := EQ.congr (fun j => Wr.neI wH32634 (Or.inl (G_ne gq8 gq61 (by decide)))) (fun j => Wr.neI wH32634 (Or.inl (G_ne giq gq61 (by decide)))) b32627
        have b32665 : EQ (fun k => fI H32634 q9 k) (fun k => fI H32634 iq k) (706) (1) (30) := EQ.congr (fun j => Wr.neI wH32634 (Or.inl (G_ne gq9 gq61 (by decide)))) (fun j => Wr.neI wH32634 (Or.inl (G_ne giq gq61 (by decide)))) b32628
        have b32666 : EQ (fun k => fI H32634 q16 k) (fun k => fI H32634 iq k) (736) (3) (x32306.toNatClampNeg + 1) := EQ.congr (fun j => Wr.neI wH32634 (Or.inl (G_ne gq16 gq61 (by decide)))) (fun j => Wr.neI wH32634 (Or.inl (G_ne giq gq61 (by decide)))) b32629
        have b32667 : EQ (fun k => fI H32634 q60 k) (fun k => fI H32634 iq k) (737) (3) (x32306.toNatClampNeg + 1) := EQ.congr (fun j => Wr.neI wH32634 (Or.inl (G_ne gq60 gq61 (by decide)))) (fun j => Wr.neI wH32634 (Or.inl (G_ne giq gq61 (by decide)))) b32630
        have b32668 : EQ (fun k => fI H32634 q61 k) (fun k => fI H32634 iq k) (738) (3) (x32306.toNatClampNeg + 1) := EQ.st b32631 (i := x32306.toNatClampNeg) (t := x32443.toNatClampNeg) (by omega) m32574 (by omega) (Wr.I wH32634) (fun j hj => Wr.neI wH32634 (Or.inr hj)) (fun j => Wr.neI wH32634 (Or.inl (G_ne giq gq61 (by decide))))
        have b32669 : EQ (fun k => fI H32634 q11 k) (fun k => fI H32634 iq k) (796) (2) (0) := EQ.congr (fun j => Wr.neI wH32634 (Or.inl (G_ne gq11 gq61 (by decide)))) (fun j => Wr.neI wH32634 (Or.inl (G_ne giq gq61 (by decide)))) b32632
        have b32670 : EQ (fun k => fI H32634 q12 k) (fun k => fI H32634 iq k) (797) (2) (0) := EQ.congr (fun j => Wr.neI wH32634 (Or.inl (G_ne gq12 gq61 (by decide)))) (fun j => Wr.neI wH32634 (Or.inl (G_ne giq gq61 (by decide)))) b32633
        have m32671 := m32594.trans (Wr.neI wH32634 (Or.inl (G_ne gq16 gq61 (by decide)))).symm
        have m32672 := m32595.trans (Wr.neI wH32634 (Or.inl (G_ne gq60 gq61 (by decide)))).symm
        have m32674 := m32571.trans (Wr.neR wH32634 (Or.inl (G_ne ga0 gq61 (by decide)))).symm
        have m32675 := m32598.trans (Wr.neR wH32634 (Or.inl (G_ne ga0 gq61 (by decide)))).symm
        have m32676 := m32599.trans (Wr.neR wH32634 (Or.inl (G_ne ga0 gq61 (by decide)))).symm
        have m32677 := m32600.trans (Wr.neR wH32634 (Or.inl (G_ne ga0 gq61 (by decide)))).symm
        have m32678 := m32601.trans (Wr.neR wH32634 (Or.inl (G_ne ga0 gq61 (by decide)))).symm
        have m32679 := m32602.trans (Wr.neR wH32634 (Or.inl (G_ne ga0 gq61 (by decide)))).symm
        have m32680 := m32603.trans (Wr.neR wH32634 (Or.inl (G_ne ga0 gq61 (by decide)))).symm
        have m32681 := m32604.trans (Wr.neR wH32634 (Or.inl (G_ne ga0 gq61 (by decide)))).symm
        have m32682 := m32605.trans (Wr.neR wH32634 (Or.inl (G_ne ga0 gq61 (by decide)))).symm
        have m32683 := m32606.trans (Wr.neR wH32634 (Or.inl (G_ne ga0 gq61 (by decide)))).symm
        have m32684 := m32607.trans (Wr.neR wH32634 (Or.inl (G_ne ga0 gq61 (by decide)))).symm
        have m32685 := m32608.trans (Wr.neR wH32634 (Or.inl (G_ne ga0 gq61 (by decide)))).symm
        have m32686 := m32609.trans (Wr.neR wH32634 (Or.inl (G_ne ga0 gq61 (by decide)))).symm
        have m32687 := m32610.trans (Wr.neR wH32634 (Or.inl (G_ne ga0 gq61 (by decide)))).symm
        have m32688 := m32611.trans (Wr.neR wH32634 (Or.inl (G_ne ga0 gq61 (by decide)))).symm
        have m32689 := m32612.trans (Wr.neR wH32634 (Or.inl (G_ne ga0 gq61 (by decide)))).symm
        have m32690 := m32613.trans (Wr.neR wH32634 (Or.inl (G_ne ga0 gq61 (by decide)))).symm
        have m32691 := m32614.trans (Wr.neI wH32634 (Or.inl (G_ne ga0 gq61 (by decide)))).symm
        have m32692 := ex32570.trans (Wr.neI wH32634 (Or.inl (G_ne ga0 gq61 (by decide)))).symm
        have m32693 := Wr.I wH32634
        have m32693 := m32693.symm
        clear b32578 b32579 b32580 b32581 b32582 b32583 b32584 b32585 b32586 b32587 b32588 b32589 b32590 b32591 b32592 b32593 b32616 b32617 b32618 b32619 b32620 b32621 b32622 b32623 b32624 b32625 b32626 b32627 b32628 b32629 b32630 b32631 b32632 b32633 ex32570 g32572 hTH32568 m32571 m32594 m32595 m32596 m32598 m32599 m32600 m32601 m32602 m32603 m32604 m32605 m32606 m32607 m32608 m32609 m32610 m32611 m32612 m32613 m32614 mf32615
        obtain ⟨x32694, ex32694⟩ : ∃ y : Int32, y = x32306 + 1 := ⟨_, rfl⟩
        have tx32694 := i_add ex32694 (by omega)
        refine lv_iinc (v := x32694) (lv' := [(1, .int x32694), (0, .ref a0)]) hx hb dX10_keepsBars_275 hl32305 (k := 1) rfl (by rw [ex32694]; rfl) (by decide) rfl (fun ls32695 hl32696 => ?_)
        refine lv_goto (tgt := 221) hx hb dX10_keepsBars_278 (by decide) ?_
        have cl_x32694 := i_cl (x := x32694) (by omega)
        exact ih221 ls32695 H32634 locsH32634 (x32694) (x32570) (lv_sub hl32696 [1, 0] rfl) hTH32634 hSH32634 ⟨by have := i_rng x32694; omega, by have := i_rng x32694; omega⟩ bx32570 m32692 m32674 m32675 m32676 m32677 m32678 m32679 m32680 m32681 m32682 m32683 m32684 m32685 m32686 m32687 m32688 m32689 m32690 m32691 b32653 b32654 (EQ.cast b32655 (by omega)) (EQ.cast b32656 (by omega)) (EQ.cast b32657 (by omega)) (EQ.cast b32658 (by omega)) (EQ.cast b32659 (by omega)) (EQ.cast b32660 (by omega)) (EQ.cast b32661 (by omega)) (EQ.cast b32662 (by omega)) (EQ.cast b32663 (by omega)) (EQ.cast b32664 (by omega)) (EQ.cast b32665 (by omega)) (EQ.cast b32666 (by omega)) (EQ.cast b32667 (by omega)) (EQ.cast b32668 (by omega)) (EQ.cast b32669 (by omega)) (EQ.cast b32670 (by omega)) b32637 b32638 b32639 b32640 b32641 b32642 b32643 b32644 b32645 b32646 b32647 b32648 b32649 b32650 b32651 b32652 mf32635 g32636 (by omega) (by and_intros <;> first | assumption | omega)
  have J191 : ∀ (nf : Nat) (ls32698 : Array Slot) (H32697 : Heap) (locsH32697 : List Loc) (x32700 : Int32) (x32701 : Int32), lv_has ls32698 2 [(0, .ref a0), (1, .int x32700)] → TY K G H32697 → va_S (AE G [112, 162, 113, 119, 122, 123, 124, 146, 114, 115, 116, 117, 118, 125, 154, 155, 120, 121] s.heap.size) s.heap H32697 locsH32697 → (0 ≤ x32700.toInt ∧ x32700.toInt ≤ 30) → (0 ≤ x32701.toInt ∧ x32701.toInt ≤ 16400) → (x32701 = fI H32697 a0 (K.1.2 10 72)) → (EQN iq (fR H32697 a0 (K.1.2 10 73))) → (EQN q4 (fR H32697 a0 (K.1.2 10 4))) → (EQN q5 (fR H32697 a0 (K.1.2 10 5))) → (EQN q6 (fR H32697 a0 (K.1.2 10 6))) → (EQN q7 (fR H32697 a0 (K.1.2 10 7))) → (EQN q8 (fR H32697 a0 (K.1.2 10 8))) → (EQN q9 (fR H32697 a0 (K.1.2 10 9))) → (EQN q10 (fR H32697 a0 (K.1.2 10 10))) → (EQN q11 (fR H32697 a0 (K.1.2 10 11))) → (EQN q12 (fR H32697 a0 (K.1.2 10 12))) → (EQN q13 (fR H32697 a0 (K.1.2 10 13))) → (EQN q14 (fR H32697 a0 (K.1.2 10 14))) → (EQN q15 (fR H32697 a0 (K.1.2 10 15))) → (EQN q16 (fR H32697 a0 (K.1.2 10 16))) → (EQN q50 (fR H32697 a0 (K.1.2 10 50))) → (EQN q60 (fR H32697 a0 (K.1.2 10 60))) → (EQN q61 (fR H32697 a0 (K.1.2 10 61))) → (tk = fI H32697 a0 (K.1.2 10 71)) → (UN (tk.toInt = 0) (fun k => fI H32697 iq k) (fun k => fI s.heap iq k)) → (FB (fun k => fI H32697 iq k) (fun k => fI s.heap iq k) (6)) → (EQ (fun k => fI H32697 q4 k) (fun k => fI H32697 iq k) (6) (6) (10)) → (EQ (fun k => fI H32697 q10 k) (fun k => fI H32697 iq k) (7) (6) (10)) → (EQ (fun k => fI H32697 q13 k) (fun k => fI H32697 iq k) (8) (6) (10)) → (EQ (fun k => fI H32697 q14 k) (fun k => fI H32697 iq k) (9) (6) (10)) → (EQ (fun k => fI H32697 q15 k) (fun k => fI H32697 iq k) (10) (6) (10)) → (EQ (fun k => fI H32697 q50 k) (fun k => fI H32697 iq k) (11) (6) (10)) → (EQ (fun k => fI H32697 q5 k) (fun k => fI H32697 iq k) (66) (4) (160)) → (EQ (fun k => fI H32697 q6 k) (fun k => fI H32697 iq k) (67) (4) (160)) → (EQ (fun k => fI H32697 q7 k) (fun k => fI H32697 iq k) (68) (4) (160)) → (EQ (fun k => fI H32697 q8 k) (fun k => fI H32697 iq k) (69) (4) (160)) → (EQ (fun k => fI H32697 q9 k) (fun k => fI H32697 iq k) (706) (1) (x32700.toNatClampNeg)) → (EQ (fun k => fI H32697 q16 k) (fun k => fI H32697 iq k) (736) (3) (0)) → (EQ (fun k => fI H32697 q60 k) (fun k => fI H32697 iq k) (737) (3) (0)) → (EQ (fun k => fI H32697 q61 k) (fun k => fI H32697 iq k) (738) (3) (0)) → (EQ (fun k => fI H32697 q11 k) (fun k => fI H32697 iq k) (796) (2) (0)) → (EQ (fun k => fI H32697 q12 k) (fun k => fI H32697 iq k) (797) (2) (0)) → (UN (tk.toInt ≠ 0) (fun k => fI H32697 q4 k) (fun k => fI s.heap q4 k)) → (UN (tk.toInt ≠ 0) (fun k => fI H32697 q10 k) (fun k => fI s.heap q10 k)) → (UN (tk.toInt ≠ 0) (fun k => fI H32697 q13 k) (fun k => fI s.heap q13 k)) → (UN (tk.toInt ≠ 0) (fun k => fI H32697 q14 k) (fun k => fI s.heap q14 k)) → (UN (tk.toInt ≠ 0) (fun k => fI H32697 q15 k) (fun k => fI s.heap q15 k)) → (UN (tk.toInt ≠ 0) (fun k => fI H32697 q50 k) (fun k => fI s.heap q50 k)) → (UN (tk.toInt ≠ 0) (fun k => fI H32697 q5 k) (fun k => fI s.heap q5 k)) → (UN (tk.toInt ≠ 0) (fun k => fI H32697 q6 k) (fun k => fI s.heap q6 k)) → (UN (tk.toInt ≠ 0) (fun k => fI H32697 q7 k) (fun k => fI s.heap q7 k)) → (UN (tk.toInt ≠ 0) (fun k => fI H32697 q8 k) (fun k => fI s.heap q8 k)) → (UN (tk.toInt ≠ 0) (fun k => fI H32697 q9 k) (fun k => fI s.heap q9 k)) → (UN (tk.toInt ≠ 0) (fun k => fI H32697 q16 k) (fun k => fI s.heap q16 k)) → (UN (tk.toInt ≠ 0) (fun k => fI H32697 q60 k) (fun k => fI s.heap q60 k)) → (UN (tk.toInt ≠ 0) (fun k => fI H32697 q61 k) (fun k => fI s.heap q61 k)) → (UN (tk.toInt ≠ 0) (fun k => fI H32697 q11 k) (fun k => fI s.heap q11 k)) → (UN (tk.toInt ≠ 0) (fun k => fI H32697 q12 k) (fun k => fI s.heap q12 k)) → (MF K s.heap H32697 a0 [72]) → (WD (avw K H32697 a0)) → (30 - x32700.toInt < (nf : Int)) → (x32701.toInt = 706 + 1 * x32700.toInt) → W p l e ({ frames := 1, cells := 0, slots := 0, locals := 21 } : Room) s m (([.ref a0] : List Value).toArray) below meth c H32697 locsH32697 0 0 Q (F0 m 191 ls32698 []) := by
    intro nf
    induction nf with
    | zero =>
      intro ls32698 H32697 locsH32697 x32700 x32701 hl32699 hTH32697 hSH32697 bx32700 bx32701 ex32701 cy32702_0 cy32702_1 cy32702_2 cy32702_3 cy32702_4 cy32702_5 cy32702_6 cy32702_7 cy32702_8 cy32702_9 cy32702_10 cy32702_11 cy32702_12 cy32702_13 cy32702_14 cy32702_15 cy32702_16 cy32702_17 by32702_ui by32702_fb by32702_e4 by32702_e10 by32702_e13 by32702_e14 by32702_e15 by32702_e50 by32702_e5 by32702_e6 by32702_e7 by32702_e8 by32702_e9 by32702_e16 by32702_e60 by32702_e61 by32702_e11 by32702_e12 by32702_u4 by32702_u10 by32702_u13 by32702_u14 by32702_u15 by32702_u50 by32702_u5 by32702_u6 by32702_u7 by32702_u8 by32702_u9 by32702_u16 by32702_u60 by32702_u61 by32702_u11 by32702_u12 mfy32702 gy32702_WD hm191 iv191
      exfalso
      omega
    | succ nf ih191 =>
      intro ls32698 H32697 locsH32697 x32700 x32701 hl32699 hTH32697 hSH32697 bx32700 bx32701 ex32701 cy32702_0 cy32702_1 cy32702_2 cy32702_3 cy32702_4 cy32702_5 cy32702_6 cy32702_7 cy32702_8 cy32702_9 cy32702_10 cy32702_11 cy32702_12 cy32702_13 cy32702_14 cy32702_15 cy32702_16 cy32702_17 by32702_ui by32702_fb by32702_e4 by32702_e10 by32702_e13 by32702_e14 by32702_e15 by32702_e50 by32702_e5 by32702_e6 by32702_e7 by32702_e8 by32702_e9 by32702_e16 by32702_e60 by32702_e61 by32702_e11 by32702_e12 by32702_u4 by32702_u10 by32702_u13 by32702_u14 by32702_u15 by32702_u50 by32702_u5 by32702_u6 by32702_u7 by32702_u8 by32702_u9 by32702_u16 by32702_u60 by32702_u61 by32702_u11 by32702_u12 mfy32702 gy32702_WD hm191 iv191
      refine lv_iload_n hx hb dX10_keepsBars_191 rfl (lv_at hl32699 1 rfl) ?_
      refine lv_bipush (v := 30) hx hb dX10_keepsBars_192 (by decide) ?_
      refine lv_icmp_ge (tgt := 219) hx hb dX10_keepsBars_194 (by decide) (fun c32703 => ?_) (fun c32703 => ?_)
      · have k32704 := i_le c32703
        refine lv_iconst (v := 0) hx hb dX10_keepsBars_219 (by decide) ?_
        refine lv_istore_n (lv' := [(1, .int 0), (0, .ref a0)]) hx hb dX10_keepsBars_220 rfl hl32699 (by decide) rfl (fun ls32705 hl32706 => ?_)
        have cl00 : (0 : Int32).toNatClampNeg = 0 := rfl
        have cl_x32700 := i_cl (x := x32700) bx32700.1
        exact J221 ((20 - (0 : Int32).toInt).toNat + 1) ls32705 H32697 locsH32697 (0) (x32701) (lv_sub hl32706 [1, 0] rfl) hTH32697 hSH32697 (by decide) bx32701 ex32701 cy32702_0 cy32702_1 cy32702_2 cy32702_3 cy32702_4 cy32702_5 cy32702_6 cy32702_7 cy32702_8 cy32702_9 cy32702_10 cy32702_11 cy32702_12 cy32702_13 cy32702_14 cy32702_15 cy32702_16 cy32702_17 by32702_ui by32702_fb (EQ.cast by32702_e4 (by omega)) (EQ.cast by32702_e10 (by omega)) (EQ.cast by32702_e13 (by omega)) (EQ.cast by32702_e14 (by omega)) (EQ.cast by32702_e15 (by omega)) (EQ.cast by32702_e50 (by omega)) (EQ.cast by32702_e5 (by omega)) (EQ.cast by32702_e6 (by omega)) (EQ.cast by32702_e7 (by omega)) (EQ.cast by32702_e8 (by omega)) (EQ.cast by32702_e9 (by omega)) (EQ.cast by32702_e16 (by omega)) (EQ.cast by32702_e60 (by omega)) (EQ.cast by32702_e61 (by omega)) (EQ.cast by32702_e11 (by omega)) (EQ.cast by32702_e12 (by omega)) by32702_u4 by32702_u10 by32702_u13 by32702_u14 by32702_u15 by32702_u50 by32702_u5 by32702_u6 by32702_u7 by32702_u8 by32702_u9 by32702_u16 by32702_u60 by32702_u61 by32702_u11 by32702_u12 mfy32702 gy32702_WD (by omega) (by and_intros <;> first | assumption | omega)
      · have k32704 := i_nle c32703
        refine lv_aload_n hx hb dX10_keepsBars_197 rfl (lv_at hl32699 0 rfl) ?_
        refine x_gr C hTH32697 (ci := 10) (k := 9) rfl inX10 (by decide) wF_X10_29 ga0 rg_112 rfl dX10_keepsBars_198 (fun q32707 eq32707 gq32707 => ?_)
        have uq32707 : q9 = q32707 := (cy32702_6).trans eq32707.symm
        subst uq32707
        clear eq32707
        refine lv_iload_n hx hb dX10_keepsBars_201 rfl (lv_at hl32699 1 rfl) ?_
        refine lv_aload_n hx hb dX10_keepsBars_202 rfl (lv_at hl32699 0 rfl) ?_
        refine lv_aload_n hx hb dX10_keepsBars_203 rfl (lv_at hl32699 0 rfl) ?_
        refine x_gr C hTH32697 (ci := 10) (k := 9) rfl inX10 (by decide) wF_X10_29 ga0 rg_112 rfl dX10_keepsBars_204 (fun q32708 eq32708 gq32708 => ?_)
        have uq32708 : q9 = q32708 := (cy32702_6).trans eq32708.symm
        subst uq32708
        clear eq32708
        refine lv_iload_n hx hb dX10_keepsBars_207 rfl (lv_at hl32699 1 rfl) ?_
        refine x_ai C hTH32697 gq9 rg_118 ⟨bx32700.1, by show _ < ((30 : Nat) : Int); omega⟩ dX10_keepsBars_208 (fun x32709 ex32709 bx32709 => ?_)
        refine x_V (As := [.int x32709]) (rest := [.int x32700, .ref q9]) C (a_X10_kept l K G H32697 (x32709) (x32701) (tk) hTH32697 ga0 giq cy32702_0 ex32701 cy32702_17 gy32702_WD (by and_intros <;> first | assumption | omega)) yo_X10_kept wM_X10_473 ⟨⟨by decide, by decide⟩, by decide, by decide⟩ (x_rv C hTH32697 (ci := 10) rfl ga0 rg_112) rfl hl32699.1 rfl (Nat.le_of_ble_eq_true rfl) dX10_keepsBars_209 hSH32697 (AE_sub (fun _ _ => rfl) (by decide) hSH32697.1) (fun vH32710 H32710 locsH32710 pH32710 zH32710 kH32710 hSH32710 => ?_)
        obtain ⟨x32711, x32712, hvH32710, ex32712, hrH32710, m32713, g32714, mf32715, m32716, m32717, m32718, m32719, hTH32710⟩ := pH32710
        subst hvH32710
        clear zH32710
        replace m32713 := EQN.mk m32713
        have b32720 : UN (tk.toInt ≠ 0) (fun k => fI H32710 q4 k) (fun k => fI s.heap q4 k) := UN.congr (fun j => fI_kept (x_lt hTH32697 kH32710 gq4 (by decide))) by32702_u4
        have b32721 : UN (tk.toInt ≠ 0) (fun k => fI H32710 q10 k) (fun k => fI s.heap q10 k) := UN.congr (fun j => fI_kept (x_lt hTH32697 kH32710 gq10 (by decide))) by32702_u10
        have b32722 : UN (tk.toInt ≠ 0) (fun k => fI H32710 q13 k) (fun k => fI s.heap q13 k) := UN.congr (fun j => fI_kept (x_lt hTH32697 kH32710 gq13 (by decide))) by32702_u13
        have b32723 : UN (tk.toInt ≠ 0) (fun k => fI H32710 q14 k) (fun k => fI s.heap q14 k) := UN.congr (fun j => fI_kept (x_lt hTH32697 kH32710 gq14 (by decide))) by32702_u14
        have b32724 : UN (tk.toInt ≠ 0) (fun k => fI H32710 q15 k) (fun k => fI s.heap q15 k) := UN.congr (fun j => fI_kept (x_lt hTH32697 kH32710 gq15 (by decide))) by32702_u15
        have b32725 : UN (tk.toInt ≠ 0) (fun k => fI H32710 q50 k) (fun k => fI s.heap q50 k) := UN.congr (fun j => fI_kept (x_lt hTH32697 kH32710 gq50 (by decide))) by32702_u50
        have b32726 : UN (tk.toInt ≠ 0) (fun k => fI H32710 q5 k) (fun k => fI s.heap q5 k) := UN.congr (fun j => fI_kept (x_lt hTH32697 kH32710 gq5 (by decide))) by32702_u5
        have b32727 : UN (tk.toInt ≠ 0) (fun k => fI H32710 q6 k) (fun k => fI s.heap q6 k) := UN.congr (fun j => fI_kept (x_lt hTH32697 kH32710 gq6 (by decide))) by32702_u6
        have b32728 : UN (tk.toInt ≠ 0) (fun k => fI H32710 q7 k) (fun k => fI s.heap q7 k) := UN.congr (fun j => fI_kept (x_lt hTH32697 kH32710 gq7 (by decide))) by32702_u7
        have b32729 : UN (tk.toInt ≠ 0) (fun k => fI H32710 q8 k) (fun k => fI s.heap q8 k) := UN.congr (fun j => fI_kept (x_lt hTH32697 kH32710 gq8 (by decide))) by32702_u8
        have b32730 : UN (tk.toInt ≠ 0) (fun k => fI H32710 q9 k) (fun k => fI s.heap q9 k) := UN.congr (fun j => fI_kept (x_lt hTH32697 kH32710 gq9 (by decide))) by32702_u9
        have b32731 : UN (tk.toInt ≠ 0) (fun k => fI H32710 q16 k) (fun k => fI s.heap q16 k) := UN.congr (fun j => fI_kept (x_lt hTH32697 kH32710 gq16 (by decide))) by32702_u16
        have b32732 : UN (tk.toInt ≠ 0) (fun k => fI H32710 q60 k) (fun k => fI s.heap q60 k) := UN.congr (fun j => fI_kept (x_lt hTH32697 kH32710 gq60 (by decide))) by32702_u60
        have b32733 : UN (tk.toInt ≠ 0) (fun k => fI H32710 q61 k) (fun k => fI s.heap q61 k) := UN.congr (fun j => fI_kept (x_lt hTH32697 kH32710 gq61 (by decide))) by32702_u61
        have b32734 : UN (tk.toInt ≠ 0) (fun k => fI H32710 q11 k) (fun k => fI s.heap q11 k) := UN.congr (fun j => fI_kept (x_lt hTH32697 kH32710 gq11 (by decide))) by32702_u11
        have b32735 : UN (tk.toInt ≠ 0) (fun k => fI H32710 q12 k) (fun k => fI s.heap q12 k) := UN.congr (fun j => fI_kept (x_lt hTH32697 kH32710 gq12 (by decide))) by32702_u12
        have m32736 := (ex32709).trans (fI_kept (x_lt hTH32697 kH32710 gq9 (by decide))).symm
        have m32737 := (cy32702_0).trans (MF.r mf32715 (k := 73) (by decide) (by decide)).symm
        have m32738 := (cy32702_1).trans (MF.r mf32715 (k := 4) (by decide) (by decide)).symm
        have m32739 := (cy32702_2).trans (MF.r mf32715 (k := 5) (by decide) (by decide)).symm
        have m32740 := (cy32702_3).trans (MF.r mf32715 (k := 6) (by decide) (by decide)).symm
        have m32741 := (cy32702_4).trans (MF.r mf32715 (k := 7) (by decide) (by decide)).symm
        have m32742 := (cy32702_5).trans (MF.r mf32715 (k := 8) (by decide) (by decide)).symm
        have m32743 := (cy32702_6).trans (MF.r mf32715 (k := 9) (by decide) (by decide)).symm
        have m32744 := (cy32702_7).trans (MF.r mf32715 (k := 10) (by decide) (by decide)).symm
        have m32745 := (cy32702_8).trans (MF.r mf32715 (k := 11) (by decide) (by decide)).symm
        have m32746 := (cy32702_9).trans (MF.r mf32715 (k := 12) (by decide) (by decide)).symm
        have m32747 := (cy32702_10).trans (MF.r mf32715 (k := 13) (by decide) (by decide)).symm
        have m32748 := (cy32702_11).trans (MF.r mf32715 (k := 14) (by decide) (by decide)).symm
        have m32749 := (cy32702_12).trans (MF.r mf32715 (k := 15) (by decide) (by decide)).symm
        have m32750 := (cy32702_13).trans (MF.r mf32715 (k := 16) (by decide) (by decide)).symm
        have m32751 := (cy32702_14).trans (MF.r mf32715 (k := 50) (by decide) (by decide)).symm
        have m32752 := (cy32702_15).trans (MF.r mf32715 (k := 60) (by decide) (by decide)).symm
        have m32753 := (cy32702_16).trans (MF.r mf32715 (k := 61) (by decide) (by decide)).symm
        have m32754 := (cy32702_17).trans (MF.i mf32715 (k := 71) (by decide) (by decide)).symm
        have mf32755 : MF K s.heap H32710 a0 [72] := MF.trans mfy32702 mf32715 (by decide)
        have bx32712 := ty_fi (x := x32712) (k := 72) ex32712 hTH32710 ga0 rg_112 rfl
        have ce_x32700 := i_cl (x := x32700) bx32700.1
        have ce_x32701 := i_cl (x := x32701) bx32701.1
        have e_ : x32701.toNatClampNeg = 706 + 1 * x32700.toNatClampNeg := by omega
        have k3e_ := m32718
        rw [e_] at k3e_
        have b32756 : UN (tk.toInt = 0) (fun k => fI H32710 iq k) (fun k => fI s.heap iq k) := UN.tr m32719 by32702_ui
        have b32757 : FB (fun k => fI H32710 iq k) (fun k => fI s.heap iq k) (6) := FB.wr by32702_fb k3e_ (fun j hj => Nat.ne_of_lt (Nat.lt_of_lt_of_le hj (Nat.le_trans (by decide : 6 ≤ 706) (Nat.le_add_right _ _))))
        have b32758 : EQ (fun k => fI H32710 q4 k) (fun k => fI H32710 iq k) (6) (6) (10) := EQ.wr (EQ.congr (w1 := fun k => fI H32697 iq k) (fun j => fI_kept (x_lt hTH32697 kH32710 gq4 (by decide))) (fun _ => rfl) by32702_e4) k3e_ (fun j hj => nE_6_6_10_706_1 hj)
        have b32759 : EQ (fun k => fI H32710 q10 k) (fun k => fI H32710 iq k) (7) (6) (10) := EQ.wr (EQ.congr (w1 := fun k => fI H32697 iq k) (fun j => fI_kept (x_lt hTH32697 kH32710 gq10 (by decide))) (fun _ => rfl) by32702_e10) k3e_ (fun j hj => nE_7_6_10_706_1 hj)
        have b32760 : EQ (fun k => fI H32710 q13 k) (fun k => fI H32710 iq k) (8) (6) (10) := EQ.wr (EQ.congr (w1 := fun k => fI H32697 iq k) (fun j => fI_kept (x_lt hTH32697 kH32710 gq13 (by decide))) (fun _ => rfl) by32702_e13) k3e_ (fun j hj => nE_8_6_10_706_1 hj)
        have b32761 : EQ (fun k => fI H32710 q14 k) (fun k => fI H32710 iq k) (9) (6) (10) := EQ.wr (EQ.congr (w1 := fun k => fI H32697 iq k) (fun j => fI_kept (x_lt hTH32697 kH32710 gq14 (by decide))) (fun _ => rfl) by32702_e14) k3e_ (fun j hj => nE_9_6_10_706_1 hj)
        have b32762 : EQ (fun k => fI H32710 q15 k) (fun k => fI H32710 iq k) (10) (6) (10) := EQ.wr (EQ.congr (w1 := fun k => fI H32697 iq k) (fun j => fI_kept (x_lt hTH32697 kH32710 gq15 (by decide))) (fun _ => rfl) by32702_e15) k3e_ (fun j hj => nE_10_6_10_706_1 hj)
        have b32763 : EQ (fun k => fI H32710 q50 k) (fun k => fI H32710 iq k) (11) (6) (10) := EQ.wr (EQ.congr (w1 := fun k => fI H32697 iq k) (fun j => fI_kept (x_lt hTH32697 kH32710 gq50 (by decide))) (fun _ => rfl) by32702_e50) k3e_ (fun j hj => nE_11_6_10_706_1 hj)
        have b32764 : EQ (fun k => fI H32710 q5 k) (fun k => fI H32710 iq k) (66) (4) (160) := EQ.wr (EQ.congr (w1 := fun k => fI H32697 iq k) (fun j => fI_kept (x_lt hTH32697 kH32710 gq5 (by decide))) (fun _ => rfl) by32702_e5) k3e_ (fun j hj => nE_66_4_160_706_1 hj)
        have b32765 : EQ (fun k => fI H32710 q6 k) (fun k => fI H32710 iq k) (67) (4) (160) := EQ.wr (EQ.congr (w1 := fun k => fI H32697 iq k) (fun j => fI_kept (x_lt hTH32697 kH32710 gq6 (by decide))) (fun _ => rfl) by32702_e6) k3e_ (fun j hj => nE_67_4_160_706_1 hj)
        have b32766 : EQ (fun k => fI H32710 q7 k) (fun k => fI H32710 iq k) (68) (4) (160) := EQ.wr (EQ.congr (w1 := fun k => fI H32697 iq k) (fun j => fI_kept (x_lt hTH32697 kH32710 gq7 (by decide))) (fun _ => rfl) by32702_e7) k3e_ (fun j hj => nE_68_4_160_706_1 hj)
        have b32767 : EQ (fun k => fI H32710 q8 k) (fun k => fI H32710 iq k) (69) (4) (160) := EQ.wr (EQ.congr (w1 := fun k => fI H32697 iq k) (fun j => fI_kept (x_lt hTH32697 kH32710 gq8 (by decide))) (fun _ => rfl) by32702_e8) k3e_ (fun j hj => nE_69_4_160_706_1 hj)
        have b32768 : EQ (fun k => fI H32710 q9 k) (fun k => fI H32710 iq k) (706) (1) (x32700.toNatClampNeg) := EQ.wr (EQ.congr (w1 := fun k => fI H32697 iq k) (fun j => fI_kept (x_lt hTH32697 kH32710 gq9 (by decide))) (fun _ => rfl) by32702_e9) k3e_ (fun j hj => nE_706_1_i_706_1 hj)
        have b32769 : EQ (fun k => fI H32710 q16 k) (fun k => fI H32710 iq k) (736) (3) (0) := EQ.wr (EQ.congr (w1 := fun k => fI H32697 iq k) (fun j => fI_kept (x_lt hTH32697 kH32710 gq16 (by decide))) (fun _ => rfl) by32702_e16) k3e_ (fun j hj => nE_736_3_0_706_1 hj)
        have b32770 : EQ (fun k => fI H32710 q60 k) (fun k => fI H32710 iq k) (737) (3) (0) := EQ.wr (EQ.congr (w1 := fun k => fI H32697 iq k) (fun j => fI_kept (x_lt hTH32697 kH32710 gq60 (by decide))) (fun _ => rfl) by32702_e60) k3e_ (fun j hj => nE_737_3_0_706_1 hj)
        have b32771 : EQ (fun k => fI H32710 q61 k) (fun k => fI H32710 iq k) (738) (3) (0) := EQ.wr (EQ.congr (w1 := fun k => fI H32697 iq k) (fun j => fI_kept (x_lt hTH32697 kH32710 gq61 (by decide))) (fun _ => rfl) by32702_e61) k3e_ (fun j hj => nE_738_3_0_706_1 hj)
        have b32772 : EQ (fun k => fI H32710 q11 k) (fun k => fI H32710 iq k) (796) (2) (0) := EQ.wr (EQ.congr (w1 := fun k => fI H32697 iq k) (fun j => fI_kept (x_lt hTH32697 kH32710 gq11 (by decide))) (fun _ => rfl) by32702_e11) k3e_ (fun j hj => nE_796_2_0_706_1 hj)
        have b32773 : EQ (fun k => fI H32710 q12 k) (fun k => fI H32710 iq k) (797) (2) (0) := EQ.wr (EQ.congr (w1 := fun k => fI H32697 iq k) (fun j => fI_kept (x_lt hTH32697 kH32710 gq12 (by decide))) (fun _ => rfl) by32702_e12) k3e_ (fun j hj => nE_797_2_0_706_1 hj)
        clear by32702_e10 by32702_e11 by32702_e12 by32702_e13 by32702_e14 by32702_e15 by32702_e16 by32702_e4 by32702_e5 by32702_e50 by32702_e6 by32702_e60 by32702_e61 by32702_e7 by32702_e8 by32702_e9 by32702_fb by32702_u10 by32702_u11 by32702_u12 by32702_u13 by32702_u14 by32702_u15 by32702_u16 by32702_u4 by32702_u5 by32702_u50 by32702_u6 by32702_u60 by32702_u61 by32702_u7 by32702_u8 by32702_u9 by32702_ui cy32702_0 cy32702_1 cy32702_10 cy32702_11 cy32702_12 cy32702_13 cy32702_14 cy32702_15 cy32702_16 cy32702_17 cy32702_2 cy32702_3 cy32702_4 cy32702_5 cy32702_6 cy32702_7 cy32702_8 cy32702_9 ex32701 ex32709
        clear m32718 m32719 k3e_ e_
        refine W.eq (g2 := F0 m 212 ls32698 [.int x32711, .int x32700, .ref q9]) rfl ?_
        refine x_iast C hTH32710 hSH32710 gq9 rg_118 bx32700.1 (by show _ < ((30 : Nat) : Int); omega) (i_rng x32711) (AE_in gq9 (by decide)) dX10_keepsBars_212 (fun H32774 locsH32774 hTH32774 hSH32774 wH32774 => ?_)
        have mf32775 : MF K s.heap H32774 a0 [72] := MF.arr wH32774 (G_ne ga0 gq9 (by decide)) mf32755
        have g32776 : WD (avw K H32774 a0) := WD.congr (fun k hk j => av_arr hTH32710 ga0 wH32774 gq9 (by decide) (WD_ok 118 (by decide) k hk)) g32714
        have b32777 : UN (tk.toInt ≠ 0) (fun k => fI H32774 q4 k) (fun k => fI s.heap q4 k) := UN.congr (fun j => Wr.neI wH32774 (Or.inl (G_ne gq4 gq9 (by decide)))) b32720
        have b32778 : UN (tk.toInt ≠ 0) (fun k => fI H32774 q10 k) (fun k => fI s.heap q10 k) := UN.congr (fun j => Wr.neI wH32774 (Or.inl (G_ne gq10 gq9 (by decide)))) b32721
        have b32779 : UN (tk.toInt ≠ 0) (fun k => fI H32774 q13 k) (fun k => fI s.heap q13 k) := UN.congr (fun j => Wr.neI wH32774 (Or.inl (G_ne gq13 gq9 (by decide)))) b32722
        have b32780 : UN (tk.toInt ≠ 0) (fun k => fI H32774 q14 k) (fun k => fI s.heap q14 k) := UN.congr (fun j => Wr.neI wH32774 (Or.inl (G_ne gq14 gq9 (by decide)))) b32723
        have b32781 : UN (tk.toInt ≠ 0) (fun k => fI H32774 q15 k) (fun k => fI s.heap q15 k) := UN.congr (fun j => Wr.neI wH32774 (Or.inl (G_ne gq15 gq9 (by decide)))) b32724
        have b32782 : UN (tk.toInt ≠ 0) (fun k => fI H32774 q50 k) (fun k => fI s.heap q50 k) := UN.congr (fun j => Wr.neI wH32774 (Or.inl (G_ne gq50 gq9 (by decide)))) b32725
        have b32783 : UN (tk.toInt ≠ 0) (fun k => fI H32774 q5 k) (fun k => fI s.heap q5 k) := UN.congr (fun j => Wr.neI wH32774 (Or.inl (G_ne gq5 gq9 (by decide)))) b32726
        have b32784 : UN (tk.toInt ≠ 0) (fun k => fI H32774 q6 k) (fun k => fI s.heap q6 k) := UN.congr (fun j => Wr.neI wH32774 (Or.inl (G_ne gq6 gq9 (by decide)))) b32727
        have b32785 : UN (tk.toInt ≠ 0) (fun k => fI H32774 q7 k) (fun k => fI s.heap q7 k) := UN.congr (fun j => Wr.neI wH32774 (Or.inl (G_ne gq7 gq9 (by decide)))) b32728
        have b32786 : UN (tk.toInt ≠ 0) (fun k => fI H32774 q8 k) (fun k => fI s.heap q8 k) := UN.congr (fun j => Wr.neI wH32774 (Or.inl (G_ne gq8 gq9 (by decide)))) b32729
        have b32787 : UN (tk.toInt ≠ 0) (fun k => fI H32774 q9 k) (fun k => fI s.heap q9 k) := UN.st b32730 (i := x32700.toNatClampNeg) (fun hc => (m32717 hc).trans m32736) (Wr.I wH32774) (fun j hj => Wr.neI wH32774 (Or.inr hj))
        have b32788 : UN (tk.toInt ≠ 0) (fun k => fI H32774 q16 k) (fun k => fI s.heap q16 k) := UN.congr (fun j => Wr.neI wH32774 (Or.inl (G_ne gq16 gq9 (by decide)))) b32731
        have b32789 : UN (tk.toInt ≠ 0) (fun k => fI H32774 q60 k) (fun k => fI s.heap q60 k) := UN.congr (fun j => Wr.neI wH32774 (Or.inl (G_ne gq60 gq9 (by decide)))) b32732
        have b32790 : UN (tk.toInt ≠ 0) (fun k => fI H32774 q61 k) (fun k => fI s.heap q61 k) := UN.congr (fun j => Wr.neI wH32774 (Or.inl (G_ne gq61 gq9 (by decide)))) b32733
        have b32791 : UN (tk.toInt ≠ 0) (fun k => fI H32774 q11 k) (fun k => fI s.heap q11 k) := UN.congr (fun j => Wr.neI wH32774 (Or.inl (G_ne gq11 gq9 (by decide)))) b32734
        have b32792 : UN (tk.toInt ≠ 0) (fun k => fI H32774 q12 k) (fun k => fI s.heap q12 k) := UN.congr (fun j => Wr.neI wH32774 (Or.inl (G_ne gq12 gq9 (by decide)))) b32735
        have b32793 : UN (tk.toInt = 0) (fun k => fI H32774 iq k) (fun k => fI s.heap iq k) := UN.congr (fun j => Wr.neI wH32774 (Or.inl (G_ne giq gq9 (by decide)))) b32756
        have b32794 : FB (fun k => fI H32774 iq k) (fun k => fI s.heap iq k) (6) := FB.congr (fun j => Wr.neI wH32774 (Or.inl (G_ne giq gq9 (by decide)))) b32757
        have b32795 : EQ (fun k => fI H32774 q4 k) (fun k => fI H32774 iq k) (6) (6) (10) := EQ.congr (fun j => Wr.neI wH32774 (Or.inl (G_ne gq4 gq9 (by decide)))) (fun j => Wr.neI wH32774 (Or.inl (G_ne giq gq9 (by decide)))) b32758
        have b32796 : EQ (fun k => fI H32774 q10 k) (fun k => fI H32774 iq k) (7) (6) (10) := EQ.congr (fun j => Wr.neI wH32774 (Or.inl (G_ne gq10 gq9 (by decide)))) (fun j => Wr.neI wH32774 (Or.inl (G_ne giq gq9 (by decide)))) b32759
        have b32797 : EQ (fun k => fI H32774 q13 k) (fun k => fI H32774 iq k) (8) (6) (10) := EQ.congr (fun j => Wr.neI wH32774 (Or.inl (G_ne gq13 gq9 (by decide)))) (fun j => Wr.neI wH32774 (Or.inl (G_ne giq gq9 (by decide)))) b32760
        have b32798 : EQ (fun k => fI H32774 q14 k) (fun k => fI H32774 iq k) (9) (6) (10) := EQ.congr (fun j => Wr.neI wH32774 (Or.inl (G_ne gq14 gq9 (by decide)))) (fun j => Wr.neI wH32774 (Or.inl (G_ne giq gq9 (by decide)))) b32761
        have b32799 : EQ (fun k => fI H32774 q15 k) (fun k => fI H32774 iq k) (10) (6) (10) := EQ.congr (fun j => Wr.neI wH32774 (Or.inl (G_ne gq15 gq9 (by decide)))) (fun j => Wr.neI wH32774 (Or.inl (G_ne giq gq9 (by decide)))) b32762
        have b32800 : EQ (fun k => fI H32774 q50 k) (fun k => fI H32774 iq k) (11) (6) (10) := EQ.congr (fun j => Wr.neI wH32774 (Or.inl (G_ne gq50 gq9 (by decide)))) (fun j => Wr.neI wH32774 (Or.inl (G_ne giq gq9 (by decide)))) b32763
        have b32801 : EQ (fun k => fI H32774 q5 k) (fun k => fI H32774 iq k) (66) (4) (160) := EQ.congr (fun j => Wr.neI wH32774 (Or.inl (G_ne gq5 gq9 (by decide)))) (fun j => Wr.neI wH32774 (Or.inl (G_ne giq gq9 (by decide)))) b32764
        have b32802 : EQ (fun k => fI H32774 q6 k) (fun k => fI H32774 iq k) (67) (4) (160) := EQ.congr (fun j => Wr.neI wH32774 (Or.inl (G_ne gq6 gq9 (by decide)))) (fun j => Wr.neI wH32774 (Or.inl (G_ne giq gq9 (by decide)))) b32765
        have b32803 : EQ (fun k => fI H32774 q7 k) (fun k => fI H32774 iq k) (68) (4) (160) := EQ.congr (fun j => Wr.neI wH32774 (Or.inl (G_ne gq7 gq9 (by decide)))) (fun j => Wr.neI wH32774 (Or.inl (G_ne giq gq9 (by decide)))) b32766
        have b32804 : EQ (fun k => fI H32774 q8 k) (fun k => fI H32774 iq k) (69) (4) (160) := EQ.congr (fun j => Wr.neI wH32774 (Or.inl (G_ne gq8 gq9 (by decide)))) (fun j => Wr.neI wH32774 (Or.inl (G_ne giq gq9 (by decide)))) b32767
        have b32805 : EQ (fun k => fI H32774 q9 k) (fun k => fI H32774 iq k) (706) (1) (x32700.toNatClampNeg + 1) := EQ.st b32768 (i := x32700.toNatClampNeg) (t := x32701.toNatClampNeg) (by omega) m32716 (by omega) (Wr.I wH32774) (fun j hj => Wr.neI wH32774 (Or.inr hj)) (fun j => Wr.neI wH32774 (Or.inl (G_ne giq gq9 (by decide))))
        have b32806 : EQ (fun k => fI H32774 q16 k) (fun k => fI H32774 iq k) (736) (3) (0) := EQ.congr (fun j => Wr.neI wH32774 (Or.inl (G_ne gq16 gq9 (by decide)))) (fun j => Wr.neI wH32774 (Or.inl (G_ne giq gq9 (by decide)))) b32769
        have b32807 : EQ (fun k => fI H32774 q60 k) (fun k => fI H32774 iq k) (737) (3) (0) := EQ.congr (fun j => Wr.neI wH32774 (Or.inl (G_ne gq60 gq9 (by decide)))) (fun j => Wr.neI wH32774 (Or.inl (G_ne giq gq9 (by decide)))) b32770
        have b32808 : EQ (fun k => fI H32774 q61 k) (fun k => fI H32774 iq k) (738) (3) (0) := EQ.congr (fun j => Wr.neI wH32774 (Or.inl (G_ne gq61 gq9 (by decide)))) (fun j => Wr.neI wH32774 (Or.inl (G_ne giq gq9 (by decide)))) b32771
        have b32809 : EQ (fun k => fI H32774 q11 k) (fun k => fI H32774 iq k) (796) (2) (0) := EQ.congr (fun j => Wr.neI wH32774 (Or.inl (G_ne gq11 gq9 (by decide)))) (fun j => Wr.neI wH32774 (Or.inl (G_ne giq gq9 (by decide)))) b32772
        have b32810 : EQ (fun k => fI H32774 q12 k) (fun k => fI H32774 iq k) (797) (2) (0) := EQ.congr (fun j => Wr.neI wH32774 (Or.inl (G_ne gq12 gq9 (by decide)))) (fun j => Wr.neI wH32774 (Or.inl (G_ne giq gq9 (by decide)))) b32773
        have m32812 := m32713.trans (Wr.neR wH32774 (Or.inl (G_ne ga0 gq9 (by decide)))).symm
        have m32813 := m32738.trans (Wr.neR wH32774 (Or.inl (G_ne ga0 gq9 (by decide)))).symm
        have m32814 := m32739.trans (Wr.neR wH32774 (Or.inl (G_ne ga0 gq9 (by decide)))).symm
        have m32815 := m32740.trans (Wr.neR wH32774 (Or.inl (G_ne ga0 gq9 (by decide)))).symm
        have m32816 := m32741.trans (Wr.neR wH32774 (Or.inl (G_ne ga0 gq9 (by decide)))).symm
        have m32817 := m32742.trans (Wr.neR wH32774 (Or.inl (G_ne ga0 gq9 (by decide)))).symm
        have m32818 := m32743.trans (Wr.neR wH32774 (Or.inl (G_ne ga0 gq9 (by decide)))).symm
        have m32819 := m32744.trans (Wr.neR wH32774 (Or.inl (G_ne ga0 gq9 (by decide)))).symm
        have m32820 := m32745.trans (Wr.neR wH32774 (Or.inl (G_ne ga0 gq9 (by decide)))).symm
        have m32821 := m32746.trans (Wr.neR wH32774 (Or.inl (G_ne ga0 gq9 (by decide)))).symm
        have m32822 := m32747.trans (Wr.neR wH32774 (Or.inl (G_ne ga0 gq9 (by decide)))).symm
        have m32823 := m32748.trans (Wr.neR wH32774 (Or.inl (G_ne ga0 gq9 (by decide)))).symm
        have m32824 := m32749.trans (Wr.neR wH32774 (Or.inl (G_ne ga0 gq9 (by decide)))).symm
        have m32825 := m32750.trans (Wr.neR wH32774 (Or.inl (G_ne ga0 gq9 (by decide)))).symm
        have m32826 := m32751.trans (Wr.neR wH32774 (Or.inl (G_ne ga0 gq9 (by decide)))).symm
        have m32827 := m32752.trans (Wr.neR wH32774 (Or.inl (G_ne ga0 gq9 (by decide)))).symm
        have m32828 := m32753.trans (Wr.neR wH32774 (Or.inl (G_ne ga0 gq9 (by decide)))).symm
        have m32829 := m32754.trans (Wr.neI wH32774 (Or.inl (G_ne ga0 gq9 (by decide)))).symm
        have m32830 := ex32712.trans (Wr.neI wH32774 (Or.inl (G_ne ga0 gq9 (by decide)))).symm
        have m32831 := Wr.I wH32774
        have m32831 := m32831.symm
        clear b32720 b32721 b32722 b32723 b32724 b32725 b32726 b32727 b32728 b32729 b32730 b32731 b32732 b32733 b32734 b32735 b32756 b32757 b32758 b32759 b32760 b32761 b32762 b32763 b32764 b32765 b32766 b32767 b32768 b32769 b32770 b32771 b32772 b32773 ex32712 g32714 hTH32710 m32713 m32736 m32738 m32739 m32740 m32741 m32742 m32743 m32744 m32745 m32746 m32747 m32748 m32749 m32750 m32751 m32752 m32753 m32754 mf32755
        obtain ⟨x32832, ex32832⟩ : ∃ y : Int32, y = x32700 + 1 := ⟨_, rfl⟩
        have tx32832 := i_add ex32832 (by omega)
        refine lv_iinc (v := x32832) (lv' := [(1, .int x32832), (0, .ref a0)]) hx hb dX10_keepsBars_213 hl32699 (k := 1) rfl (by rw [ex32832]; rfl) (by decide) rfl (fun ls32833 hl32834 => ?_)
        refine lv_goto (tgt := 191) hx hb dX10_keepsBars_216 (by decide) ?_
        have cl_x32832 := i_cl (x := x32832) (by omega)
        exact ih191 ls32833 H32774 locsH32774 (x32832) (x32712) (lv_sub hl32834 [1, 0] rfl) hTH32774 hSH32774 ⟨by have := i_rng x32832; omega, by have := i_rng x32832; omega⟩ bx32712 m32830 m32812 m32813 m32814 m32815 m32816 m32817 m32818 m32819 m32820 m32821 m32822 m32823 m32824 m32825 m32826 m32827 m32828 m32829 b32793 b32794 (EQ.cast b32795 (by omega)) (EQ.cast b32796 (by omega)) (EQ.cast b32797 (by omega)) (EQ.cast b32798 (by omega)) (EQ.cast b32799 (by omega)) (EQ.cast b32800 (by omega)) (EQ.cast b32801 (by omega)) (EQ.cast b32802 (by omega)) (EQ.cast b32803 (by omega)) (EQ.cast b32804 (by omega)) (EQ.cast b32805 (by omega)) (EQ.cast b32806 (by omega)) (EQ.cast b32807 (by omega)) (EQ.cast b32808 (by omega)) (EQ.cast b32809 (by omega)) (EQ.cast b32810 (by omega)) b32777 b32778 b32779 b32780 b32781 b32782 b32783 b32784 b32785 b32786 b32787 b32788 b32789 b32790 b32791 b32792 mf32775 g32776 (by omega) (by and_intros <;> first | assumption | omega)
  have J112 : ∀ (nf : Nat) (ls32836 : Array Slot) (H32835 : Heap) (locsH32835 : List Loc) (x32838 : Int32) (x32839 : Int32), lv_has ls32836 2 [(0, .ref a0), (1, .int x32838)] → TY K G H32835 → va_S (AE G [112, 162, 113, 119, 122, 123, 124, 146, 114, 115, 116, 117, 118, 125, 154, 155, 120, 121] s.heap.size) s.heap H32835 locsH32835 → (0 ≤ x32838.toInt ∧ x32838.toInt ≤ 160) → (0 ≤ x32839.toInt ∧ x32839.toInt ≤ 16400) → (x32839 = fI H32835 a0 (K.1.2 10 72)) → (EQN iq (fR H32835 a0 (K.1.2 10 73))) → (EQN q4 (fR H32835 a0 (K.1.2 10 4))) → (EQN q5 (fR H32835 a0 (K.1.2 10 5))) → (EQN q6 (fR H32835 a0 (K.1.2 10 6))) → (EQN q7 (fR H32835 a0 (K.1.2 10 7))) → (EQN q8 (fR H32835 a0 (K.1.2 10 8))) → (EQN q9 (fR H32835 a0 (K.1.2 10 9))) → (EQN q10 (fR H32835 a0 (K.1.2 10 10))) → (EQN q11 (fR H32835 a0 (K.1.2 10 11))) → (EQN q12 (fR H32835 a0 (K.1.2 10 12))) → (EQN q13 (fR H32835 a0 (K.1.2 10 13))) → (EQN q14 (fR H32835 a0 (K.1.2 10 14))) → (EQN q15 (fR H32835 a0 (K.1.2 10 15))) → (EQN q16 (fR H32835 a0 (K.1.2 10 16))) → (EQN q50 (fR H32835 a0 (K.1.2 10 50))) → (EQN q60 (fR H32835 a0 (K.1.2 10 60))) → (EQN q61 (fR H32835 a0 (K.1.2 10 61))) → (tk = fI H32835 a0 (K.1.2 10 71)) → (UN (tk.toInt = 0) (fun k => fI H32835 iq k) (fun k => fI s.heap iq k)) → (FB (fun k => fI H32835 iq k) (fun k => fI s.heap iq k) (6)) → (EQ (fun k => fI H32835 q4 k) (fun k => fI H32835 iq k) (6) (6) (10)) → (EQ (fun k => fI H32835 q10 k) (fun k => fI H32835 iq k) (7) (6) (10)) → (EQ (fun k => fI H32835 q13 k) (fun k => fI H32835 iq k) (8) (6) (10)) → (EQ (fun k => fI H32835 q14 k) (fun k => fI H32835 iq k) (9) (6) (10)) → (EQ (fun k => fI H32835 q15 k) (fun k => fI H32835 iq k) (10) (6) (10)) → (EQ (fun k => fI H32835 q50 k) (fun k => fI H32835 iq k) (11) (6) (10)) → (EQ (fun k => fI H32835 q5 k) (fun k => fI H32835 iq k) (66) (4) (x32838.toNatClampNeg)) → (EQ (fun k => fI H32835 q6 k) (fun k => fI H32835 iq k) (67) (4) (x32838.toNatClampNeg)) → (EQ (fun k => fI H32835 q7 k) (fun k => fI H32835 iq k) (68) (4) (x32838.toNatClampNeg)) → (EQ (fun k => fI H32835 q8 k) (fun k => fI H32835 iq k) (69) (4) (x32838.toNatClampNeg)) → (EQ (fun k => fI H32835 q9 k) (fun k => fI H32835 iq k) (706) (1) (0)) → (EQ (fun k => fI H32835 q16 k) (fun k => fI H32835 iq k) (736) (3) (0)) → (EQ (fun k => fI H32835 q60 k) (fun k => fI H32835 iq k) (737) (3) (0)) → (EQ (fun k => fI H32835 q61 k) (fun k => fI H32835 iq k) (738) (3) (0)) → (EQ (fun k => fI H32835 q11 k) (fun k => fI H32835 iq k) (796) (2) (0)) → (EQ (fun k => fI H32835 q12 k) (fun k => fI H32835 iq k) (797) (2) (0)) → (UN (tk.toInt ≠ 0) (fun k => fI H32835 q4 k) (fun k => fI s.heap q4 k)) → (UN (tk.toInt ≠ 0) (fun k => fI H32835 q10 k) (fun k => fI s.heap q10 k)) → (UN (tk.toInt ≠ 0) (fun k => fI H32835 q13 k) (fun k => fI s.heap q13 k)) → (UN (tk.toInt ≠ 0) (fun k => fI H32835 q14 k) (fun k => fI s.heap q14 k)) → (UN (tk.toInt ≠ 0) (fun k => fI H32835 q15 k) (fun k => fI s.heap q15 k)) → (UN (tk.toInt ≠ 0) (fun k => fI H32835 q50 k) (fun k => fI s.heap q50 k)) → (UN (tk.toInt ≠ 0) (fun k => fI H32835 q5 k) (fun k => fI s.heap q5 k)) → (UN (tk.toInt ≠ 0) (fun k => fI H32835 q6 k) (fun k => fI s.heap q6 k)) → (UN (tk.toInt ≠ 0) (fun k => fI H32835 q7 k) (fun k => fI s.heap q7 k)) → (UN (tk.toInt ≠ 0) (fun k => fI H32835 q8 k) (fun k => fI s.heap q8 k)) → (UN (tk.toInt ≠ 0) (fun k => fI H32835 q9 k) (fun k => fI s.heap q9 k)) → (UN (tk.toInt ≠ 0) (fun k => fI H32835 q16 k) (fun k => fI s.heap q16 k)) → (UN (tk.toInt ≠ 0) (fun k => fI H32835 q60 k) (fun k => fI s.heap q60 k)) → (UN (tk.toInt ≠ 0) (fun k => fI H32835 q61 k) (fun k => fI s.heap q61 k)) → (UN (tk.toInt ≠ 0) (fun k => fI H32835 q11 k) (fun k => fI s.heap q11 k)) → (UN (tk.toInt ≠ 0) (fun k => fI H32835 q12 k) (fun k => fI s.heap q12 k)) → (MF K s.heap H32835 a0 [72]) → (WD (avw K H32835 a0)) → (160 - x32838.toInt < (nf : Int)) → (x32839.toInt = 66 + 4 * x32838.toInt) → W p l e ({ frames := 1, cells := 0, slots := 0, locals := 21 } : Room) s m (([.ref a0] : List Value).toArray) below meth c H32835 locsH32835 0 0 Q (F0 m 112 ls32836 []) := by
    intro nf
    induction nf with
    | zero =>
      intro ls32836 H32835 locsH32835 x32838 x32839 hl32837 hTH32835 hSH32835 bx32838 bx32839 ex32839 cy32840_0 cy32840_1 cy32840_2 cy32840_3 cy32840_4 cy32840_5 cy32840_6 cy32840_7 cy32840_8 cy32840_9 cy32840_10 cy32840_11 cy32840_12 cy32840_13 cy32840_14 cy32840_15 cy32840_16 cy32840_17 by32840_ui by32840_fb by32840_e4 by32840_e10 by32840_e13 by32840_e14 by32840_e15 by32840_e50 by32840_e5 by32840_e6 by32840_e7 by32840_e8 by32840_e9 by32840_e16 by32840_e60 by32840_e61 by32840_e11 by32840_e12 by32840_u4 by32840_u10 by32840_u13 by32840_u14 by32840_u15 by32840_u50 by32840_u5 by32840_u6 by32840_u7 by32840_u8 by32840_u9 by32840_u16 by32840_u60 by32840_u61 by32840_u11 by32840_u12 mfy32840 gy32840_WD hm112 iv112
      exfalso
      omega
    | succ nf ih112 =>
      intro ls32836 H32835 locsH32835 x32838 x32839 hl32837 hTH32835 hSH32835 bx32838 bx32839 ex32839 cy32840_0 cy32840_1 cy32840_2 cy32840_3 cy32840_4 cy32840_5 cy32840_6 cy32840_7 cy32840_8 cy32840_9 cy32840_10 cy32840_11 cy32840_12 cy32840_13 cy32840_14 cy32840_15 cy32840_16 cy32840_17 by32840_ui by32840_fb by32840_e4 by32840_e10 by32840_e13 by32840_e14 by32840_e15 by32840_e50 by32840_e5 by32840_e6 by32840_e7 by32840_e8 by32840_e9 by32840_e16 by32840_e60 by32840_e61 by32840_e11 by32840_e12 by32840_u4 by32840_u10 by32840_u13 by32840_u14 by32840_u15 by32840_u50 by32840_u5 by32840_u6 by32840_u7 by32840_u8 by32840_u9 by32840_u16 by32840_u60 by32840_u61 by32840_u11 by32840_u12 mfy32840 gy32840_WD hm112 iv112
      refine lv_iload_n hx hb dX10_keepsBars_112 rfl (lv_at hl32837 1 rfl) ?_
      refine lv_sipush (v := 160) hx hb dX10_keepsBars_113 (by decide) ?_
      refine lv_icmp_ge (tgt := 189) hx hb dX10_keepsBars_116 (by decide) (fun c32841 => ?_) (fun c32841 => ?_)
      · have k32842 := i_le c32841
        refine lv_iconst (v := 0) hx hb dX10_keepsBars_189 (by decide) ?_
        refine lv_istore_n (lv' := [(1, .int 0), (0, .ref a0)]) hx hb dX10_keepsBars_190 rfl hl32837 (by decide) rfl (fun ls32843 hl32844 => ?_)
        have cl00 : (0 : Int32).toNatClampNeg = 0 := rfl
        have cl_x32838 := i_cl (x := x32838) bx32838.1
        exact J191 ((30 - (0 : Int32).toInt).toNat + 1) ls32843 H32835 locsH32835 (0) (x32839) (lv_sub hl32844 [1, 0] rfl) hTH32835 hSH32835 (by decide) bx32839 ex32839 cy32840_0 cy32840_1 cy32840_2 cy32840_3 cy32840_4 cy32840_5 cy32840_6 cy32840_7 cy32840_8 cy32840_9 cy32840_10 cy32840_11 cy32840_12 cy32840_13 cy32840_14 cy32840_15 cy32840_16 cy32840_17 by32840_ui by32840_fb (EQ.cast by32840_e4 (by omega)) (EQ.cast by32840_e10 (by omega)) (EQ.cast by32840_e13 (by omega)) (EQ.cast by32840_e14 (by omega)) (EQ.cast by32840_e15 (by omega)) (EQ.cast by32840_e50 (by omega)) (EQ.cast by32840_e5 (by omega)) (EQ.cast by32840_e6 (by omega)) (EQ.cast by32840_e7 (by omega)) (EQ.cast by32840_e8 (by omega)) (EQ.cast by32840_e9 (by omega)) (EQ.cast by32840_e16 (by omega)) (EQ.cast by32840_e60 (by omega)) (EQ.cast by32840_e61 (by omega)) (EQ.cast by32840_e11 (by omega)) (EQ.cast by32840_e12 (by omega)) by32840_u4 by32840_u10 by32840_u13 by32840_u14 by32840_u15 by32840_u50 by32840_u5 by32840_u6 by32840_u7 by32840_u8 by32840_u9 by32840_u16 by32840_u60 by32840_u61 by32840_u11 by32840_u12 mfy32840 gy32840_WD (by omega) (by and_intros <;> first | assumption | omega)
      · have k32842 := i_nle c32841
        refine lv_aload_n hx hb dX10_keepsBars_119 rfl (lv_at hl32837 0 rfl) ?_
        refine x_gr C hTH32835 (ci := 10) (k := 5) rfl inX10 (by decide) wF_X10_17 ga0 rg_112 rfl dX10_keepsBars_120 (fun q32845 eq32845 gq32845 => ?_)
        have uq32845 : q5 = q32845 := (cy32840_2).trans eq32845.symm
        subst uq32845
        clear eq32845
        refine lv_iload_n hx hb dX10_keepsBars_123 rfl (lv_at hl32837 1 rfl) ?_
        refine lv_aload_n hx hb dX10_keepsBars_124 rfl (lv_at hl32837 0 rfl) ?_
        refine lv_aload_n hx hb dX10_keepsBars_125 rfl (lv_at hl32837 0 rfl) ?_
        refine x_gr C hTH32835 (ci := 10) (k := 5) rfl inX10 (by decide) wF_X10_17 ga0 rg_112 rfl dX10_keepsBars_126 (fun q32846 eq32846 gq32846 => ?_)
        have uq32846 : q5 = q32846 := (cy32840_2).trans eq32846.symm
        subst uq32846
        clear eq32846
        refine lv_iload_n hx hb dX10_keepsBars_129 rfl (lv_at hl32837 1 rfl) ?_
        refine x_ai C hTH32835 gq5 rg_114 ⟨bx32838.1, by show _ < ((160 : Nat) : Int); omega⟩ dX10_keepsBars_130 (fun x32847 ex32847 bx32847 => ?_)
        refine x_V (As := [.int x32847]) (rest := [.int x32838, .ref q5]) C (a_X10_kept l K G H32835 (x32847) (x32839) (tk) hTH32835 ga0 giq cy32840_0 ex32839 cy32840_17 gy32840_WD (by and_intros <;> first | assumption | omega)) yo_X10_kept wM_X10_473 ⟨⟨by decide, by decide⟩, by decide, by decide⟩ (x_rv C hTH32835 (ci := 10) rfl ga0 rg_112) rfl hl32837.1 rfl (Nat.le_of_ble_eq_true rfl) dX10_keepsBars_131 hSH32835 (AE_sub (fun _ _ => rfl) (by decide) hSH32835.1) (fun vH32848 H32848 locsH32848 pH32848 zH32848 kH32848 hSH32848 => ?_)
        obtain ⟨x32849, x32850, hvH32848, ex32850, hrH32848, m32851, g32852, mf32853, m32854, m32855, m32856, m32857, hTH32848⟩ := pH32848
        subst hvH32848
        clear zH32848
        replace m32851 := EQN.mk m32851
        have b32858 : UN (tk.toInt ≠ 0) (fun k => fI H32848 q4 k) (fun k => fI s.heap q4 k) := UN.congr (fun j => fI_kept (x_lt hTH32835 kH32848 gq4 (by decide))) by32840_u4
        have b32859 : UN (tk.toInt ≠ 0) (fun k => fI H32848 q10 k) (fun k => fI s.heap q10 k) := UN.congr (fun j => fI_kept (x_lt hTH32835 kH32848 gq10 (by decide))) by32840_u10
        have b32860 : UN (tk.toInt ≠ 0) (fun k => fI H32848 q13 k) (fun k => fI s.heap q13 k) := UN.congr (fun j => fI_kept (x_lt hTH32835 kH32848 gq13 (by decide))) by32840_u13
        have b32861 : UN (tk.toInt ≠ 0) (fun k => fI H32848 q14 k) (fun k => fI s.heap q14 k) := UN.congr (fun j => fI_kept (x_lt hTH32835 kH32848 gq14 (by decide))) by32840_u14
        have b32862 : UN (tk.toInt ≠ 0) (fun k => fI H32848 q15 k) (fun k => fI s.heap q15 k) := UN.congr (fun j => fI_kept (x_lt hTH32835 kH32848 gq15 (by decide))) by32840_u15
        have b32863 : UN (tk.toInt ≠ 0) (fun k => fI H32848 q50 k) (fun k => fI s.heap q50 k) := UN.congr (fun j => fI_kept (x_lt hTH32835 kH32848 gq50 (by decide))) by32840_u50
        have b32864 : UN (tk.toInt ≠ 0) (fun k => fI H32848 q5 k) (fun k => fI s.heap q5 k) := UN.congr (fun j => fI_kept (x_lt hTH32835 kH32848 gq5 (by decide))) by32840_u5
        have b32865 : UN (tk.toInt ≠ 0) (fun k => fI H32848 q6 k) (fun k => fI s.heap q6 k) := UN.congr (fun j => fI_kept (x_lt hTH32835 kH32848 gq6 (by decide))) by32840_u6
        have b32866 : UN (tk.toInt ≠ 0) (fun k => fI H32848 q7 k) (fun k => fI s.heap q7 k) := UN.congr (fun j => fI_kept (x_lt hTH32835 kH32848 gq7 (by decide))) by32840_u7
        have b32867 : UN (tk.toInt ≠ 0) (fun k => fI H32848 q8 k) (fun k => fI s.heap q8 k) := UN.congr (fun j => fI_kept (x_lt hTH32835 kH32848 gq8 (by decide))) by32840_u8
        have b32868 : UN (tk.toInt ≠ 0) (fun k => fI H32848 q9 k) (fun k => fI s.heap q9 k) := UN.congr (fun j => fI_kept (x_lt hTH32835 kH32848 gq9 (by decide))) by32840_u9
        have b32869 : UN (tk.toInt ≠ 0) (fun k => fI H32848 q16 k) (fun k => fI s.heap q16 k) := UN.congr (fun j => fI_kept (x_lt hTH32835 kH32848 gq16 (by decide))) by32840_u16
        have b32870 : UN (tk.toInt ≠ 0) (fun k => fI H32848 q60 k) (fun k => fI s.heap q60 k) := UN.congr (fun j => fI_kept (x_lt hTH32835 kH32848 gq60 (by decide))) by32840_u60
        have b32871 : UN (tk.toInt ≠ 0) (fun k => fI H32848 q61 k) (fun k => fI s.heap q61 k) := UN.congr (fun j => fI_kept (x_lt hTH32835 kH32848 gq61 (by decide))) by32840_u61
        have b32872 : UN (tk.toInt ≠ 0) (fun k => fI H32848 q11 k) (fun k => fI s.heap q11 k) := UN.congr (fun j => fI_kept (x_lt hTH32835 kH32848 gq11 (by decide))) by32840_u11
        have b32873 : UN (tk.toInt ≠ 0) (fun k => fI H32848 q12 k) (fun k => fI s.heap q12 k) := UN.congr (fun j => fI_kept (x_lt hTH32835 kH32848 gq12 (by decide))) by32840_u12
        have m32874 := (ex32847).trans (fI_kept (x_lt hTH32835 kH32848 gq5 (by decide))).symm
        have m32875 := (cy32840_0).trans (MF.r mf32853 (k := 73) (by decide) (by decide)).symm
        have m32876 := (cy32840_1).trans (MF.r mf32853 (k := 4) (by decide) (by decide)).symm
        have m32877 := (cy32840_2).trans (MF.r mf32853 (k := 5) (by decide) (by decide)).symm
        have m32878 := (cy32840_3).trans (MF.r mf32853 (k := 6) (by decide) (by decide)).symm
        have m32879 := (cy32840_4).trans (MF.r mf32853 (k := 7) (by decide) (by decide)).symm
        have m32880 := (cy32840_5).trans (MF.r mf32853 (k := 8) (by decide) (by decide)).symm
        have m32881 := (cy32840_6).trans (MF.r mf32853 (k := 9) (by decide) (by decide)).symm
        have m32882 := (cy32840_7).trans (MF.r mf32853 (k := 10) (by decide) (by decide)).symm
        have m32883 := (cy32840_8).trans (MF.r mf32853 (k := 11) (by decide) (by decide)).symm
        have m32884 := (cy32840_9).trans (MF.r mf32853 (k := 12) (by decide) (by decide)).symm
        have m32885 := (cy32840_10).trans (MF.r mf32853 (k := 13) (by decide) (by decide)).symm
        have m32886 := (cy32840_11).trans (MF.r mf32853 (k := 14) (by decide) (by decide)).symm
        have m32887 := (cy32840_12).trans (MF.r mf32853 (k := 15) (by decide) (by decide)).symm
        have m32888 := (cy32840_13).trans (MF.r mf32853 (k := 16) (by decide) (by decide)).symm
        have m32889 := (cy32840_14).trans (MF.r mf32853 (k := 50) (by decide) (by decide)).symm
        have m32890 := (cy32840_15).trans (MF.r mf32853 (k := 60) (by decide) (by decide)).symm
        have m32891 := (cy32840_16).trans (MF.r mf32853 (k := 61) (by decide) (by decide)).symm
        have m32892 := (cy32840_17).trans (MF.i mf32853 (k := 71) (by decide) (by decide)).symm
        have mf32893 : MF K s.heap H32848 a0 [72] := MF.trans mfy32840 mf32853 (by decide)
        have bx32850 := ty_fi (x := x32850) (k := 72) ex32850 hTH32848 ga0 rg_112 rfl
        have ce_x32838 := i_cl (x := x32838) bx32838.1
        have ce_x32839 := i_cl (x := x32839) bx32839.1
        have e_ : x32839.toNatClampNeg = 66 + 4 * x32838.toNatClampNeg := by omega
        have k3e_ := m32856
        rw [e_] at k3e_
        have b32894 : UN (tk.toInt = 0) (fun k => fI H32848 iq k) (fun k => fI s.heap iq k) := UN.tr m32857 by32840_ui
        have b32895 : FB (fun k => fI H32848 iq k) (fun k => fI s.heap iq k) (6) := FB.wr by32840_fb k3e_ (fun j hj => Nat.ne_of_lt (Nat.lt_of_lt_of_le hj (Nat.le_trans (by decide : 6 ≤ 66) (Nat.le_add_right _ _))))
        have b32896 : EQ (fun k => fI H32848 q4 k) (fun k => fI H32848 iq k) (6) (6) (10) := EQ.wr (EQ.congr (w1 := fun k => fI H32835 iq k) (fun j => fI_kept (x_lt hTH32835 kH32848 gq4 (by decide))) (fun _ => rfl) by32840_e4) k3e_ (fun j hj => nE_6_6_10_66_4 hj)
        have b32897 : EQ (fun k => fI H32848 q10 k) (fun k => fI H32848 iq k) (7) (6) (10) := EQ.wr (EQ.congr (w1 := fun k => fI H32835 iq k) (fun j => fI_kept (x_lt hTH32835 kH32848 gq10 (by decide))) (fun _ => rfl) by32840_e10) k3e_ (fun j hj => nE_7_6_10_66_4 hj)
        have b32898 : EQ (fun k => fI H32848 q13 k) (fun k => fI H32848 iq k) (8) (6) (10) := EQ.wr (EQ.congr (w1 := fun k => fI H32835 iq k) (fun j => fI_kept (x_lt hTH32835 kH32848 gq13 (by decide))) (fun _ => rfl) by32840_e13) k3e_ (fun j hj => nE_8_6_10_66_4 hj)
        have b32899 : EQ (fun k => fI H32848 q14 k) (fun k => fI H32848 iq k) (9) (6) (10) := EQ.wr (EQ.congr (w1 := fun k => fI H32835 iq k) (fun j => fI_kept (x_lt hTH32835 kH32848 gq14 (by decide))) (fun _ => rfl) by32840_e14) k3e_ (fun j hj => nE_9_6_10_66_4 hj)
        have b32900 : EQ (fun k => fI H32848 q15 k) (fun k => fI H32848 iq k) (10) (6) (10) := EQ.wr (EQ.congr (w1 := fun k => fI H32835 iq k) (fun j => fI_kept (x_lt hTH32835 kH32848 gq15 (by decide))) (fun _ => rfl) by32840_e15) k3e_ (fun j hj => nE_10_6_10_66_4 hj)
        have b32901 : EQ (fun k => fI H32848 q50 k) (fun k => fI H32848 iq k) (11) (6) (10) := EQ.wr (EQ.congr (w1 := fun k => fI H32835 iq k) (fun j => fI_kept (x_lt hTH32835 kH32848 gq50 (by decide))) (fun _ => rfl) by32840_e50) k3e_ (fun j hj => nE_11_6_10_66_4 hj)
        have b32902 : EQ (fun k => fI H32848 q5 k) (fun k => fI H32848 iq k) (66) (4) (x32838.toNatClampNeg) := EQ.wr (EQ.congr (w1 := fun k => fI H32835 iq k) (fun j => fI_kept (x_lt hTH32835 kH32848 gq5 (by decide))) (fun _ => rfl) by32840_e5) k3e_ (fun j hj => nE_66_4_i_66_4 hj)
        have b32903 : EQ (fun k => fI H32848 q6 k) (fun k => fI H32848 iq k) (67) (4) (x32838.toNatClampNeg) := EQ.wr (EQ.congr (w1 := fun k => fI H32835 iq k) (fun j => fI_kept (x_lt hTH32835 kH32848 gq6 (by decide))) (fun _ => rfl) by32840_e6) k3e_ (fun j hj => nE_67_4_i_66_4 hj)
        have b32904 : EQ (fun k => fI H32848 q7 k) (fun k => fI H32848 iq k) (68) (4) (x32838.toNatClampNeg) := EQ.wr (EQ.congr (w1 := fun k => fI H32835 iq k) (fun j => fI_kept (x_lt hTH32835 kH32848 gq7 (by decide))) (fun _ => rfl) by32840_e7) k3e_ (fun j hj => nE_68_4_i_66_4 hj)
        have b32905 : EQ (fun k => fI H32848 q8 k) (fun k => fI H32848 iq k) (69) (4) (x32838.toNatClampNeg) := EQ.wr (EQ.congr (w1 := fun k => fI H32835 iq k) (fun j => fI_kept (x_lt hTH32835 kH32848 gq8 (by decide))) (fun _ => rfl) by32840_e8) k3e_ (fun j hj => nE_69_4_i_66_4 hj)
        have b32906 : EQ (fun k => fI H32848 q9 k) (fun k => fI H32848 iq k) (706) (1) (0) := EQ.wr (EQ.congr (w1 := fun k => fI H32835 iq k) (fun j => fI_kept (x_lt hTH32835 kH32848 gq9 (by decide))) (fun _ => rfl) by32840_e9) k3e_ (fun j hj => nE_706_1_0_66_4 hj)
        have b32907 : EQ (fun k => fI H32848 q16 k) (fun k => fI H32848 iq k) (736) (3) (0) := EQ.wr (EQ.congr (w1 := fun k => fI H32835 iq k) (fun j => fI_kept (x_lt hTH32835 kH32848 gq16 (by decide))) (fun _ => rfl) by32840_e16) k3e_ (fun j hj => nE_736_3_0_66_4 hj)
        have b32908 : EQ (fun k => fI H32848 q60 k) (fun k => fI H32848 iq k) (737) (3) (0) := EQ.wr (EQ.congr (w1 := fun k => fI H32835 iq k) (fun j => fI_kept (x_lt hTH32835 kH32848 gq60 (by decide))) (fun _ => rfl) by32840_e60) k3e_ (fun j hj => nE_737_3_0_66_4 hj)
        have b32909 : EQ (fun k => fI H32848 q61 k) (fun k => fI H32848 iq k) (738) (3) (0) := EQ.wr (EQ.congr (w1 := fun k => fI H32835 iq k) (fun j => fI_kept (x_lt hTH32835 kH32848 gq61 (by decide))) (fun _ => rfl) by32840_e61) k3e_ (fun j hj => nE_738_3_0_66_4 hj)
        have b32910 : EQ (fun k => fI H32848 q11 k) (fun k => fI H32848 iq k) (796) (2) (0) := EQ.wr (EQ.congr (w1 := fun k => fI H32835 iq k) (fun j => fI_kept (x_lt hTH32835 kH32848 gq11 (by decide))) (fun _ => rfl) by32840_e11) k3e_ (fun j hj => nE_796_2_0_66_4 hj)
        have b32911 : EQ (fun k => fI H32848 q12 k) (fun k => fI H32848 iq k) (797) (2) (0) := EQ.wr (EQ.congr (w1 := fun k => fI H32835 iq k) (fun j => fI_kept (x_lt hTH32835 kH32848 gq12 (by decide))) (fun _ => rfl) by32840_e12) k3e_ (fun j hj => nE_797_2_0_66_4 hj)
        clear by32840_e10 by32840_e11 by32840_e12 by32840_e13 by32840_e14 by32840_e15 by32840_e16 by32840_e4 by32840_e5 by32840_e50 by32840_e6 by32840_e60 by32840_e61 by32840_e7 by32840_e8 by32840_e9 by32840_fb by32840_u10 by32840_u11 by32840_u12 by32840_u13 by32840_u14 by32840_u15 by32840_u16 by32840_u4 by32840_u5 by32840_u50 by32840_u6 by32840_u60 by32840_u61 by32840_u7 by32840_u8 by32840_u9 by32840_ui cy32840_0 cy32840_1 cy32840_10 cy32840_11 cy32840_12 cy32840_13 cy32840_14 cy32840_15 cy32840_16 cy32840_17 cy32840_2 cy32840_3 cy32840_4 cy32840_5 cy32840_6 cy32840_7 cy32840_8 cy32840_9 ex32839 ex32847
        clear m32856 m32857 k3e_ e_
        refine W.eq (g2 := F0 m 134 ls32836 [.int x32849, .int x32838, .ref q5]) rfl ?_
        refine x_iast C hTH32848 hSH32848 gq5 rg_114 bx32838.1 (by show _ < ((160 : Nat) : Int); omega) (i_rng x32849) (AE_in gq5 (by decide)) dX10_keepsBars_134 (fun H32912 locsH32912 hTH32912 hSH32912 wH32912 => ?_)
        have mf32913 : MF K s.heap H32912 a0 [72] := MF.arr wH32912 (G_ne ga0 gq5 (by decide)) mf32893
        have g32914 : WD (avw K H32912 a0) := WD.congr (fun k hk j => av_arr hTH32848 ga0 wH32912 gq5 (by decide) (WD_ok 114 (by decide) k hk)) g32852
        have b32915 : UN (tk.toInt ≠ 0) (fun k => fI H32912 q4 k) (fun k => fI s.heap q4 k) := UN.congr (fun j => Wr.neI wH32912 (Or.inl (G_ne gq4 gq5 (by decide)))) b32858
        have b32916 : UN (tk.toInt ≠ 0) (fun k => fI H32912 q10 k) (fun k => fI s.heap q10 k) := UN.congr (fun j => Wr.neI wH32912 (Or.inl (G_ne gq10 gq5 (by decide)))) b32859
        have b32917 : UN (tk.toInt ≠ 0) (fun k => fI H32912 q13 k) (fun k => fI s.heap q13 k) := UN.congr (fun j => Wr.neI wH32912 (Or.inl (G_ne gq13 gq5 (by decide)))) b32860
        have b32918 : UN (tk.toInt ≠ 0) (fun k => fI H32912 q14 k) (fun k => fI s.heap q14 k) := UN.congr (fun j => Wr.neI wH32912 (Or.inl (G_ne gq14 gq5 (by decide)))) b32861
        have b32919 : UN (tk.toInt ≠ 0) (fun k => fI H32912 q15 k) (fun k => fI s.heap q15 k) := UN.congr (fun j => Wr.neI wH32912 (Or.inl (G_ne gq15 gq5 (by decide)))) b32862
        have b32920 : UN (tk.toInt ≠ 0) (fun k => fI H32912 q50 k) (fun k => fI s.heap q50 k) := UN.congr (fun j => Wr.neI wH32912 (Or.inl (G_ne gq50 gq5 (by decide)))) b32863
        have b32921 : UN (tk.toInt ≠ 0) (fun k => fI H32912 q5 k) (fun k => fI s.heap q5 k) := UN.st b32864 (i := x32838.toNatClampNeg) (fun hc => (m32855 hc).trans m32874) (Wr.I wH32912) (fun j hj => Wr.neI wH32912 (Or.inr hj))
        have b32922 : UN (tk.toInt ≠ 0) (fun k => fI H32912 q6 k) (fun k => fI s.heap q6 k) := UN.congr (fun j => Wr.neI wH32912 (Or.inl (G_ne gq6 gq5 (by decide)))) b32865
        have b32923 : UN (tk.toInt ≠ 0) (fun k => fI H32912 q7 k) (fun k => fI s.heap q7 k) := UN.congr (fun j => Wr.neI wH32912 (Or.inl (G_ne gq7 gq5 (by decide)))) b32866
        have b32924 : UN (tk.toInt ≠ 0) (fun k => fI H32912 q8 k) (fun k => fI s.heap q8 k) := UN.congr (fun j => Wr.neI wH32912 (Or.inl (G_ne gq8 gq5 (by decide)))) b32867
        have b32925 : UN (tk.toInt ≠ 0) (fun k => fI H32912 q9 k) (fun k => fI s.heap q9 k) := UN.congr (fun j => Wr.neI wH32912 (Or.inl (G_ne gq9 gq5 (by decide)))) b32868
        have b32926 : UN (tk.toInt ≠ 0) (fun k => fI H32912 q16 k) (fun k => fI s.heap q16 k) := UN.congr (fun j => Wr.neI wH32912 (Or.inl (G_ne gq16 gq5 (by decide)))) b32869
        have b32927 : UN (tk.toInt ≠ 0) (fun k => fI H32912 q60 k) (fun k => fI s.heap q60 k) := UN.congr (fun j => Wr.neI wH32912 (Or.inl (G_ne gq60 gq5 (by decide)))) b32870
        have b32928 : UN (tk.toInt ≠ 0) (fun k => fI H32912 q61 k) (fun k => fI s.heap q61 k) := UN.congr (fun j => Wr.neI wH32912 (Or.inl (G_ne gq61 gq5 (by decide)))) b32871
        have b32929 : UN (tk.toInt ≠ 0) (fun k => fI H32912 q11 k) (fun k => fI s.heap q11 k) := UN.congr (fun j => Wr.neI wH32912 (Or.inl (G_ne gq11 gq5 (by decide)))) b32872
        have b32930 : UN (tk.toInt ≠ 0) (fun k => fI H32912 q12 k) (fun k => fI s.heap q12 k) := UN.congr (fun j => Wr.neI wH32912 (Or.inl (G_ne gq12 gq5 (by decide)))) b32873
        have b32931 : UN (tk.toInt = 0) (fun k => fI H32912 iq k) (fun k => fI s.heap iq k) := UN.congr (fun j => Wr.neI wH32912 (Or.inl (G_ne giq gq5 (by decide)))) b32894
        have b32932 : FB (fun k => fI H32912 iq k) (fun k => fI s.heap iq k) (6) := FB.congr (fun j => Wr.neI wH32912 (Or.inl (G_ne giq gq5 (by decide)))) b32895
        have b32933 : EQ (fun k => fI H32912 q4 k) (fun k => fI H32912 iq k) (6) (6) (10) := EQ.congr (fun j => Wr.neI wH32912 (Or.inl (G_ne gq4 gq5 (by decide)))) (fun j => Wr.neI wH32912 (Or.inl (G_ne giq gq5 (by decide)))) b32896
        have b32934 : EQ (fun k => fI H32912 q10 k) (fun k => fI H32912 iq k) (7) (6) (10) := EQ.congr (fun j => Wr.neI wH32912 (Or.inl (G_ne gq10 gq5 (by decide)))) (fun j => Wr.neI wH32912 (Or.inl (G_ne giq gq5 (by decide)))) b32897
        have b32935 : EQ (fun k => fI H32912 q13 k) (fun k => fI H32912 iq k) (8) (6) (10) := EQ.congr (fun j => Wr.neI wH32912 (Or.inl (G_ne gq13 gq5 (by decide)))) (fun j => Wr.neI wH32912 (Or.inl (G_ne giq gq5 (by decide)))) b32898
        have b32936 : EQ (fun k => fI H32912 q14 k) (fun k => fI H32912 iq k) (9) (6) (10) := EQ.congr (fun j => Wr.neI wH32912 (Or.inl (G_ne gq14 gq5 (by decide)))) (fun j => Wr.neI wH32912 (Or.inl (G_ne giq gq5 (by decide)))) b32899
        have b32937 : EQ (fun k => fI H32912 q15 k) (fun k => fI H32912 iq k) (10) (6) (10) := EQ.congr (fun j => Wr.neI wH32912 (Or.inl (G_ne gq15 gq5 (by decide)))) (fun j => Wr.neI wH32912 (Or.inl (G_ne giq gq5 (by decide)))) b32900
        have b32938 : EQ (fun k => fI H32912 q50 k) (fun k => fI H32912 iq k) (11) (6) (10) := EQ.congr (fun j => Wr.neI wH32912 (Or.inl (G_ne gq50 gq5 (by decide)))) (fun j => Wr.neI wH32912 (Or.inl (G_ne giq gq5 (by decide)))) b32901
        have b32939 : EQ (fun k => fI H32912 q5 k) (fun k => fI H32912 iq k) (66) (4) (x32838.toNatClampNeg + 1) := EQ.st b32902 (i := x32838.toNatClampNeg) (t := x32839.toNatClampNeg) (by omega) m32854 (by omega) (Wr.I wH32912) (fun j hj => Wr.neI wH32912 (Or.inr hj)) (fun j => Wr.neI wH32912 (Or.inl (G_ne giq gq5 (by decide))))
        have b32940 : EQ (fun k => fI H32912 q6 k) (fun k => fI H32912 iq k) (67) (4) (x32838.toNatClampNeg) := EQ.congr (fun j => Wr.neI wH32912 (Or.inl (G_ne gq6 gq5 (by decide)))) (fun j => Wr.neI wH32912 (Or.inl (G_ne giq gq5 (by decide)))) b32903
        have b32941 : EQ (fun k => fI H32912 q7 k) (fun k => fI H32912 iq k) (68) (4) (x32838.toNatClampNeg) := EQ.congr (fun j => Wr.neI wH32912 (Or.inl (G_ne gq7 gq5 (by decide)))) (fun j => Wr.neI wH32912 (Or.inl (G_ne giq gq5 (by decide)))) b32904
        have b32942 : EQ (fun k => fI H32912 q8 k) (fun k => fI H32912 iq k) (69) (4) (x32838.toNatClampNeg) := EQ.congr (fun j => Wr.neI wH32912 (Or.inl (G_ne gq8 gq5 (by decide)))) (fun j => Wr.neI wH32912 (Or.inl (G_ne giq gq5 (by decide)))) b32905
        have b32943 : EQ (fun k => fI H32912 q9 k) (fun k => fI H32912 iq k) (706) (1) (0) := EQ.congr (fun j => Wr.neI wH32912 (Or.inl (G_ne gq9 gq5 (by decide)))) (fun j => Wr.neI wH32912 (Or.inl (G_ne giq gq5 (by decide)))) b32906
        have b32944 : EQ (fun k => fI H32912 q16 k) (fun k => fI H32912 iq k) (736) (3) (0) := EQ.congr (fun j => Wr.neI wH32912 (Or.inl (G_ne gq16 gq5 (by decide)))) (fun j => Wr.neI wH32912 (Or.inl (G_ne giq gq5 (by decide)))) b32907
        have b32945 : EQ (fun k => fI H32912 q60 k) (fun k => fI H32912 iq k) (737) (3) (0) := EQ.congr (fun j => Wr.neI wH32912 (Or.inl (G_ne gq60 gq5 (by decide)))) (fun j => Wr.neI wH32912 (Or.inl (G_ne giq gq5 (by decide)))) b32908
        have b32946 : EQ (fun k => fI H32912 q61 k) (fun k => fI H32912 iq k) (738) (3) (0) := EQ.congr (fun j => Wr.neI wH32912 (Or.inl (G_ne gq61 gq5 (by decide)))) (fun j => Wr.neI wH32912 (Or.inl (G_ne giq gq5 (by decide)))) b32909
        have b32947 : EQ (fun k => fI H32912 q11 k) (fun k => fI H32912 iq k) (796) (2) (0) := EQ.congr (fun j => Wr.neI wH32912 (Or.inl (G_ne gq11 gq5 (by decide)))) (fun j => Wr.neI wH32912 (Or.inl (G_ne giq gq5 (by decide)))) b32910
        have b32948 : EQ (fun k => fI H32912 q12 k) (fun k => fI H32912 iq k) (797) (2) (0) := EQ.congr (fun j => Wr.neI wH32912 (Or.inl (G_ne gq12 gq5 (by decide)))) (fun j => Wr.neI wH32912 (Or.inl (G_ne giq gq5 (by decide)))) b32911
        have m32950 := m32851.trans (Wr.neR wH32912 (Or.inl (G_ne ga0 gq5 (by decide)))).symm
        have m32951 := m32876.trans (Wr.neR wH32912 (Or.inl (G_ne ga0 gq5 (by decide)))).symm
        have m32952 := m32877.trans (Wr.neR wH32912 (Or.inl (G_ne ga0 gq5 (by decide)))).symm
        have m32953 := m32878.trans (Wr.neR wH32912 (Or.inl (G_ne ga0 gq5 (by decide)))).symm
        have m32954 := m32879.trans (Wr.neR wH32912 (Or.inl (G_ne ga0 gq5 (by decide)))).symm
        have m32955 := m32880.trans (Wr.neR wH32912 (Or.inl (G_ne ga0 gq5 (by decide)))).symm
        have m32956 := m32881.trans (Wr.neR wH32912 (Or.inl (G_ne ga0 gq5 (by decide)))).symm
        have m32957 := m32882.trans (Wr.neR wH32912 (Or.inl (G_ne ga0 gq5 (by decide)))).symm
        have m32958 := m32883.trans (Wr.neR wH32912 (Or.inl (G_ne ga0 gq5 (by decide)))).symm
        have m32959 := m32884.trans (Wr.neR wH32912 (Or.inl (G_ne ga0 gq5 (by decide)))).symm
        have m32960 := m32885.trans (Wr.neR wH32912 (Or.inl (G_ne ga0 gq5 (by decide)))).symm
        have m32961 := m32886.trans (Wr.neR wH32912 (Or.inl (G_ne ga0 gq5 (by decide)))).symm
        have m32962 := m32887.trans (Wr.neR wH32912 (Or.inl (G_ne ga0 gq5 (by decide)))).symm
        have m32963 := m32888.trans (Wr.neR wH32912 (Or.inl (G_ne ga0 gq5 (by decide)))).symm
        have m32964 := m32889.trans (Wr.neR wH32912 (Or.inl (G_ne ga0 gq5 (by decide)))).symm
        have m32965 := m32890.trans (Wr.neR wH32912 (Or.inl (G_ne ga0 gq5 (by decide)))).symm
        have m32966 := m32891.trans (Wr.neR wH32912 (Or.inl (G_ne ga0 gq5 (by decide)))).symm
        have m32967 := m32892.trans (Wr.neI wH32912 (Or.inl (G_ne ga0 gq5 (by decide)))).symm
        have m32968 := ex32850.trans (Wr.neI wH32912 (Or.inl (G_ne ga0 gq5 (by decide)))).symm
        have m32969 := Wr.I wH32912
        have m32969 := m32969.symm
        clear b32858 b32859 b32860 b32861 b32862 b32863 b32864 b32865 b32866 b32867 b32868 b32869 b32870 b32871 b32872 b32873 b32894 b32895 b32896 b32897 b32898 b32899 b32900 b32901 b32902 b32903 b32904 b32905 b32906 b32907 b32908 b32909 b32910 b32911 ex32850 g32852 hTH32848 m32851 m32874 m32876 m32877 m32878 m32879 m32880 m32881 m32882 m32883 m32884 m32885 m32886 m32887 m32888 m32889 m32890 m32891 m32892 mf32893
        refine lv_aload_n hx hb dX10_keepsBars_135 rfl (lv_at hl32837 0 rfl) ?_
        refine x_gr C hTH32912 (ci := 10) (k := 6) rfl inX10 (by decide) wF_X10_20 ga0 rg_112 rfl dX10_keepsBars_136 (fun q32970 eq32970 gq32970 => ?_)
        have uq32970 : q6 = q32970 := (m32953).trans eq32970.symm
        subst uq32970
        clear eq32970
        refine lv_iload_n hx hb dX10_keepsBars_139 rfl (lv_at hl32837 1 rfl) ?_
        refine lv_aload_n hx hb dX10_keepsBars_140 rfl (lv_at hl32837 0 rfl) ?_
        refine lv_aload_n hx hb dX10_keepsBars_141 rfl (lv_at hl32837 0 rfl) ?_
        refine x_gr C hTH32912 (ci := 10) (k := 6) rfl inX10 (by decide) wF_X10_20 ga0 rg_112 rfl dX10_keepsBars_142 (fun q32971 eq32971 gq32971 => ?_)
        have uq32971 : q6 = q32971 := (m32953).trans eq32971.symm
        subst uq32971
        clear eq32971
        refine lv_iload_n hx hb dX10_keepsBars_145 rfl (lv_at hl32837 1 rfl) ?_
        refine x_ai C hTH32912 gq6 rg_115 ⟨bx32838.1, by show _ < ((160 : Nat) : Int); omega⟩ dX10_keepsBars_146 (fun x32972 ex32972 bx32972 => ?_)
        refine x_V (As := [.int x32972]) (rest := [.int x32838, .ref q6]) C (a_X10_kept l K G H32912 (x32972) (x32850) (tk) hTH32912 ga0 giq m32950 m32968 m32967 g32914 (by and_intros <;> first | assumption | omega)) yo_X10_kept wM_X10_473 ⟨⟨by decide, by decide⟩, by decide, by decide⟩ (x_rv C hTH32912 (ci := 10) rfl ga0 rg_112) rfl hl32837.1 rfl (Nat.le_of_ble_eq_true rfl) dX10_keepsBars_147 hSH32912 (AE_sub (fun _ _ => rfl) (by decide) hSH32912.1) (fun vH32973 H32973 locsH32973 pH32973 zH32973 kH32973 hSH32973 => ?_)
        obtain ⟨x32974, x32975, hvH32973, ex32975, hrH32973, m32976, g32977, mf32978, m32979, m32980, m32981, m32982, hTH32973⟩ := pH32973
        subst hvH32973
        clear zH32973
        replace m32976 := EQN.mk m32976
        have b32983 : UN (tk.toInt ≠ 0) (fun k => fI H32973 q4 k) (fun k => fI s.heap q4 k) := UN.congr (fun j => fI_kept (x_lt hTH32912 kH32973 gq4 (by decide))) b32915
        have b32984 : UN (tk.toInt ≠ 0) (fun k => fI H32973 q10 k) (fun k => fI s.heap q10 k) := UN.congr (fun j => fI_kept (x_lt hTH32912 kH32973 gq10 (by decide))) b32916
        have b32985 : UN (tk.toInt ≠ 0) (fun k => fI H32973 q13 k) (fun k => fI s.heap q13 k) := UN.congr (fun j => fI_kept (x_lt hTH32912 kH32973 gq13 (by decide))) b32917
        have b32986 : UN (tk.toInt ≠ 0) (fun k => fI H32973 q14 k) (fun k => fI s.heap q14 k) := UN.congr (fun j => fI_kept (x_lt hTH32912 kH32973 gq14 (by decide))) b32918
        have b32987 : UN (tk.toInt ≠ 0) (fun k => fI H32973 q15 k) (fun k => fI s.heap q15 k) := UN.congr (fun j => fI_kept (x_lt hTH32912 kH32973 gq15 (by decide))) b32919
        have b32988 : UN (tk.toInt ≠ 0) (fun k => fI H32973 q50 k) (fun k => fI s.heap q50 k) := UN.congr (fun j => fI_kept (x_lt hTH32912 kH32973 gq50 (by decide))) b32920
        have b32989 : UN (tk.toInt ≠ 0) (fun k => fI H32973 q5 k) (fun k => fI s.heap q5 k) := UN.congr (fun j => fI_kept (x_lt hTH32912 kH32973 gq5 (by decide))) b32921
        have b32990 : UN (tk.toInt ≠ 0) (fun k => fI H32973 q6 k) (fun k => fI s.heap q6 k) := UN.congr (fun j => fI_kept (x_lt hTH32912 kH32973 gq6 (by decide))) b32922
        have b32991 : UN (tk.toInt ≠ 0) (fun k => fI H32973 q7 k) (fun k => fI s.heap q7 k) := UN.congr (fun j => fI_kept (x_lt hTH32912 kH32973 gq7 (by decide))) b32923
        have b32992 : UN (tk.toInt ≠ 0) (fun k => fI H32973 q8 k) (fun k => fI s.heap q8 k) := UN.congr (fun j => fI_kept (x_lt hTH32912 kH32973 gq8 (by decide))) b32924
        have b32993 : UN (tk.toInt ≠ 0) (fun k => fI H32973 q9 k) (fun k => fI s.heap q9 k) := UN.congr (fun j => fI_kept (x_lt hTH32912 kH32973 gq9 (by decide))) b32925
        have b32994 : UN (tk.toInt ≠ 0) (fun k => fI H32973 q16 k) (fun k => fI s.heap q16 k) := UN.congr (fun j => fI_kept (x_lt hTH32912 kH32973 gq16 (by decide))) b32926
        have b32995 : UN (tk.toInt ≠ 0) (fun k => fI H32973 q60 k) (fun k => fI s.heap q60 k) := UN.congr (fun j => fI_kept (x_lt hTH32912 kH32973 gq60 (by decide))) b32927
        have b32996 : UN (tk.toInt ≠ 0) (fun k => fI H32973 q61 k) (fun k => fI s.heap q61 k) := UN.congr (fun j => fI_kept (x_lt hTH32912 kH32973 gq61 (by decide))) b32928
        have b32997 : UN (tk.toInt ≠ 0) (fun k => fI H32973 q11 k) (fun k => fI s.heap q11 k) := UN.congr (fun j => fI_kept (x_lt hTH32912 kH32973 gq11 (by decide))) b32929
        have b32998 : UN (tk.toInt ≠ 0) (fun k => fI H32973 q12 k) (fun k => fI s.heap q12 k) := UN.congr (fun j => fI_kept (x_lt hTH32912 kH32973 gq12 (by decide))) b32930
        have m32999 := (m32969).trans (fI_kept (x_lt hTH32912 kH32973 gq5 (by decide))).symm
        have m33000 := (ex32972).trans (fI_kept (x_lt hTH32912 kH32973 gq6 (by decide))).symm
        have m33001 := (m32950).trans (MF.r mf32978 (k := 73) (by decide) (by decide)).symm
        have m33002 := (m32951).trans (MF.r mf32978 (k := 4) (by decide) (by decide)).symm
        have m33003 := (m32952).trans (MF.r mf32978 (k := 5) (by decide) (by decide)).symm
        have m33004 := (m32953).trans (MF.r mf32978 (k := 6) (by decide) (by decide)).symm
        have m33005 := (m32954).trans (MF.r mf32978 (k := 7) (by decide) (by decide)).symm
        have m33006 := (m32955).trans (MF.r mf32978 (k := 8) (by decide) (by decide)).symm
        have m33007 := (m32956).trans (MF.r mf32978 (k := 9) (by decide) (by decide)).symm
        have m33008 := (m32957).trans (MF.r mf32978 (k := 10) (by decide) (by decide)).symm
        have m33009 := (m32958).trans (MF.r mf32978 (k := 11) (by decide) (by decide)).symm
        have m33010 := (m32959).trans (MF.r mf32978 (k := 12) (by decide) (by decide)).symm
        have m33011 := (m32960).trans (MF.r mf32978 (k := 13) (by decide) (by decide)).symm
        have m33012 := (m32961).trans (MF.r mf32978 (k := 14) (by decide) (by decide)).symm
        have m33013 := (m32962).trans (MF.r mf32978 (k := 15) (by decide) (by decide)).symm
        have m33014 := (m32963).trans (MF.r mf32978 (k := 16) (by decide) (by decide)).symm
        have m33015 := (m32964).trans (MF.r mf32978 (k := 50) (by decide) (by decide)).symm
        have m33016 := (m32965).trans (MF.r mf32978 (k := 60) (by decide) (by decide)).symm
        have m33017 := (m32966).trans (MF.r mf32978 (k := 61) (by decide) (by decide)).symm
        have m33018 := (m32967).trans (MF.i mf32978 (k := 71) (by decide) (by decide)).symm
        have mf33019 : MF K s.heap H32973 a0 [72] := MF.trans mf32913 mf32978 (by decide)
        have bx32975 := ty_fi (x := x32975) (k := 72) ex32975 hTH32973 ga0 rg_112 rfl
        have ce_x32850 := i_cl (x := x32850) bx32850.1
        have e_ : x32850.toNatClampNeg = 67 + 4 * x32838.toNatClampNeg := by omega
        have k3e_ := m32981
        rw [e_] at k3e_
        have b33020 : UN (tk.toInt = 0) (fun k => fI H32973 iq k) (fun k => fI s.heap iq k) := UN.tr m32982 b32931
        have b33021 : FB (fun k => fI H32973 iq k) (fun k => fI s.heap iq k) (6) := FB.wr b32932 k3e_ (fun j hj => Nat.ne_of_lt (Nat.lt_of_lt_of_le hj (Nat.le_trans (by decide : 6 ≤ 67) (Nat.le_add_right _ _))))
        have b33022 : EQ (fun k => fI H32973 q4 k) (fun k => fI H32973 iq k) (6) (6) (10) := EQ.wr (EQ.congr (w1 := fun k => fI H32912 iq k) (fun j => fI_kept (x_lt hTH32912 kH32973 gq4 (by decide))) (fun _ => rfl) b32933) k3e_ (fun j hj => nE_6_6_10_67_4 hj)
        have b33023 : EQ (fun k => fI H32973 q10 k) (fun k => fI H32973 iq k) (7) (6) (10) := EQ.wr (EQ.congr (w1 := fun k => fI H32912 iq k) (fun j => fI_kept (x_lt hTH32912 kH32973 gq10 (by decide))) (fun _ => rfl) b32934) k3e_ (fun j hj => nE_7_6_10_67_4 hj)
        have b33024 : EQ (fun k => fI H32973 q13 k) (fun k => fI H32973 iq k) (8) (6) (10) := EQ.wr (EQ.congr (w1 := fun k => fI H32912 iq k) (fun j => fI_kept (x_lt hTH32912 kH32973 gq13 (by decide))) (fun _ => rfl) b32935) k3e_ (fun j hj => nE_8_6_10_67_4 hj)
        have b33025 : EQ (fun k => fI H32973 q14 k) (fun k => fI H32973 iq k) (9) (6) (10) := EQ.wr (EQ.congr (w1 := fun k => fI H32912 iq k) (fun j => fI_kept (x_lt hTH32912 kH32973 gq14 (by decide))) (fun _ => rfl) b32936) k3e_ (fun j hj => nE_9_6_10_67_4 hj)
        have b33026 : EQ (fun k => fI H32973 q15 k) (fun k => fI H32973 iq k) (10) (6) (10) := EQ.wr (EQ.congr (w1 := fun k => fI H32912 iq k) (fun j => fI_kept (x_lt hTH32912 kH32973 gq15 (by decide))) (fun _ => rfl) b32937) k3e_ (fun j hj => nE_10_6_10_67_4 hj)
        have b33027 : EQ (fun k => fI H32973 q50 k) (fun k => fI H32973 iq k) (11) (6) (10) := EQ.wr (EQ.congr (w1 := fun k => fI H32912 iq k) (fun j => fI_kept (x_lt hTH32912 kH32973 gq50 (by decide))) (fun _ => rfl) b32938) k3e_ (fun j hj => nE_11_6_10_67_4 hj)
        have b33028 : EQ (fun k => fI H32973 q5 k) (fun k => fI H32973 iq k) (66) (4) (x32838.toNatClampNeg + 1) := EQ.wr (EQ.congr (w1 := fun k => fI H32912 iq k) (fun j => fI_kept (x_lt hTH32912 kH32973 gq5 (by decide))) (fun _ => rfl) b32939) k3e_ (fun j hj => nE_66_4_i1_67_4 hj)
        have b33029 : EQ (fun k => fI H32973 q6 k) (fun k => fI H32973 iq k) (67) (4) (x32838.toNatClampNeg) := EQ.wr (EQ.congr (w1 := fun k => fI H32912 iq k) (fun j => fI_kept (x_lt hTH32912 kH32973 gq6 (by decide))) (fun _ => rfl) b32940) k3e_ (fun j hj => nE_67_4_i_67_4 hj)
        have b33030 : EQ (fun k => fI H32973 q7 k) (fun k => fI H32973 iq k) (68) (4) (x32838.toNatClampNeg) := EQ.wr (EQ.congr (w1 := fun k => fI H32912 iq k) (fun j => fI_kept (x_lt hTH32912 kH32973 gq7 (by decide))) (fun _ => rfl) b32941) k3e_ (fun j hj => nE_68_4_i_67_4 hj)
        have b33031 : EQ (fun k => fI H32973 q8 k) (fun k => fI H32973 iq k) (69) (4) (x32838.toNatClampNeg) := EQ.wr (EQ.congr (w1 := fun k => fI H32912 iq k) (fun j => fI_kept (x_lt hTH32912 kH32973 gq8 (by decide))) (fun _ => rfl) b32942) k3e_ (fun j hj => nE_69_4_i_67_4 hj)
        have b33032 : EQ (fun k => fI H32973 q9 k) (fun k => fI H32973 iq k) (706) (1) (0) := EQ.wr (EQ.congr (w1 := fun k => fI H32912 iq k) (fun j => fI_kept (x_lt hTH32912 kH32973 gq9 (by decide))) (fun _ => rfl) b32943) k3e_ (fun j hj => nE_706_1_0_67_4 hj)
        have b33033 : EQ (fun k => fI H32973 q16 k) (fun k => fI H32973 iq k) (736) (3) (0) := EQ.wr (EQ.congr (w1 := fun k => fI H32912 iq k) (fun j => fI_kept (x_lt hTH32912 kH32973 gq16 (by decide))) (fun _ => rfl) b32944) k3e_ (fun j hj => nE_736_3_0_67_4 hj)
        have b33034 : EQ (fun k => fI H32973 q60 k) (fun k => fI H32973 iq k) (737) (3) (0) := EQ.wr (EQ.congr (w1 := fun k => fI H32912 iq k) (fun j => fI_kept (x_lt hTH32912 kH32973 gq60 (by decide))) (fun _ => rfl) b32945) k3e_ (fun j hj => nE_737_3_0_67_4 hj)
        have b33035 : EQ (fun k => fI H32973 q61 k) (fun k => fI H32973 iq k) (738) (3) (0) := EQ.wr (EQ.congr (w1 := fun k => fI H32912 iq k) (fun j => fI_kept (x_lt hTH32912 kH32973 gq61 (by decide))) (fun _ => rfl) b32946) k3e_ (fun j hj => nE_738_3_0_67_4 hj)
        have b33036 : EQ (fun k => fI H32973 q11 k) (fun k => fI H32973 iq k) (796) (2) (0) := EQ.wr (EQ.congr (w1 := fun k => fI H32912 iq k) (fun j => fI_kept (x_lt hTH32912 kH32973 gq11 (by decide))) (fun _ => rfl) b32947) k3e_ (fun j hj => nE_796_2_0_67_4 hj)
        have b33037 : EQ (fun k => fI H32973 q12 k) (fun k => fI H32973 iq k) (797) (2) (0) := EQ.wr (EQ.congr (w1 := fun k => fI H32912 iq k) (fun j => fI_kept (x_lt hTH32912 kH32973 gq12 (by decide))) (fun _ => rfl) b32948) k3e_ (fun j hj => nE_797_2_0_67_4 hj)
        clear b32915 b32916 b32917 b32918 b32919 b32920 b32921 b32922 b32923 b32924 b32925 b32926 b32927 b32928 b32929 b32930 b32931 b32932 b32933 b32934 b32935 b32936 b32937 b32938 b32939 b32940 b32941 b32942 b32943 b32944 b32945 b32946 b32947 b32948 ex32972 m32950 m32951 m32952 m32953 m32954 m32955 m32956 m32957 m32958 m32959 m32960 m32961 m32962 m32963 m32964 m32965 m32966 m32967 m32968 m32969
        clear m32981 m32982 k3e_ e_
        refine W.eq (g2 := F0 m 150 ls32836 [.int x32974, .int x32838, .ref q6]) rfl ?_
        refine x_iast C hTH32973 hSH32973 gq6 rg_115 bx32838.1 (by show _ < ((160 : Nat) : Int); omega) (i_rng x32974) (AE_in gq6 (by decide)) dX10_keepsBars_150 (fun H33038 locsH33038 hTH33038 hSH33038 wH33038 => ?_)
        have mf33039 : MF K s.heap H33038 a0 [72] := MF.arr wH33038 (G_ne ga0 gq6 (by decide)) mf33019
        have g33040 : WD (avw K H33038 a0) := WD.congr (fun k hk j => av_arr hTH32973 ga0 wH33038 gq6 (by decide) (WD_ok 115 (by decide) k hk)) g32977
        have b33041 : UN (tk.toInt ≠ 0) (fun k => fI H33038 q4 k) (fun k => fI s.heap q4 k) := UN.congr (fun j => Wr.neI wH33038 (Or.inl (G_ne gq4 gq6 (by decide)))) b32983
        have b33042 : UN (tk.toInt ≠ 0) (fun k => fI H33038 q10 k) (fun k => fI s.heap q10 k) := UN.congr (fun j => Wr.neI wH33038 (Or.inl (G_ne gq10 gq6 (by decide)))) b32984
        have b33043 : UN (tk.toInt ≠ 0) (fun k => fI H33038 q13 k) (fun k => fI s.heap q13 k) := UN.congr (fun j => Wr.neI wH33038 (Or.inl (G_ne gq13 gq6 (by decide)))) b32985
        have b33044 : UN (tk.toInt ≠ 0) (fun k => fI H33038 q14 k) (fun k => fI s.heap q14 k) := UN.congr (fun j => Wr.neI wH33038 (Or.inl (G_ne gq14 gq6 (by decide)))) b32986
        have b33045 : UN (tk.toInt ≠ 0) (fun k => fI H33038 q15 k) (fun k => fI s.heap q15 k) := UN.congr (fun j => Wr.neI wH33038 (Or.inl (G_ne gq15 gq6 (by decide)))) b32987
        have b33046 : UN (tk.toInt ≠ 0) (fun k => fI H33038 q50 k) (fun k => fI s.heap q50 k) := UN.congr (fun j => Wr.neI wH33038 (Or.inl (G_ne gq50 gq6 (by decide)))) b32988
        have b33047 : UN (tk.toInt ≠ 0) (fun k => fI H33038 q5 k) (fun k => fI s.heap q5 k) := UN.congr (fun j => Wr.neI wH33038 (Or.inl (G_ne gq5 gq6 (by decide)))) b32989
        have b33048 : UN (tk.toInt ≠ 0) (fun k => fI H33038 q6 k) (fun k => fI s.heap q6 k) := UN.st b32990 (i := x32838.toNatClampNeg) (fun hc => (m32980 hc).trans m33000) (Wr.I wH33038) (fun j hj => Wr.neI wH33038 (Or.inr hj))
        have b33049 : UN (tk.toInt ≠ 0) (fun k => fI H33038 q7 k) (fun k => fI s.heap q7 k) := UN.congr (fun j => Wr.neI wH33038 (Or.inl (G_ne gq7 gq6 (by decide)))) b32991
        have b33050 : UN (tk.toInt ≠ 0) (fun k => fI H33038 q8 k) (fun k => fI s.heap q8 k) := UN.congr (fun j => Wr.neI wH33038 (Or.inl (G_ne gq8 gq6 (by decide)))) b32992
        have b33051 : UN (tk.toInt ≠ 0) (fun k => fI H33038 q9 k) (fun k => fI s.heap q9 k) := UN.congr (fun j => Wr.neI wH33038 (Or.inl (G_ne gq9 gq6 (by decide)))) b32993
        have b33052 : UN (tk.toInt ≠ 0) (fun k => fI H33038 q16 k) (fun k => fI s.heap q16 k) := UN.congr (fun j => Wr.neI wH33038 (Or.inl (G_ne gq16 gq6 (by decide)))) b32994
        have b33053 : UN (tk.toInt ≠ 0) (fun k => fI H33038 q60 k) (fun k => fI s.heap q60 k) := UN.congr (fun j => Wr.neI wH33038 (Or.inl (G_ne gq60 gq6 (by decide)))) b32995
        have b33054 : UN (tk.toInt ≠ 0) (fun k => fI H33038 q61 k) (fun k => fI s.heap q61 k) := UN.congr (fun j => Wr.neI wH33038 (Or.inl (G_ne gq61 gq6 (by decide)))) b32996
        have b33055 : UN (tk.toInt ≠ 0) (fun k => fI H33038 q11 k) (fun k => fI s.heap q11 k) := UN.congr (fun j => Wr.neI wH33038 (Or.inl (G_ne gq11 gq6 (by decide)))) b32997
        have b33056 : UN (tk.toInt ≠ 0) (fun k => fI H33038 q12 k) (fun k => fI s.heap q12 k) := UN.congr (fun j => Wr.neI wH33038 (Or.inl (G_ne gq12 gq6 (by decide)))) b32998
        have b33057 : UN (tk.toInt = 0) (fun k => fI H33038 iq k) (fun k => fI s.heap iq k) := UN.congr (fun j => Wr.neI wH33038 (Or.inl (G_ne giq gq6 (by decide)))) b33020
        have b33058 : FB (fun k => fI H33038 iq k) (fun k => fI s.heap iq k) (6) := FB.congr (fun j => Wr.neI wH33038 (Or.inl (G_ne giq gq6 (by decide)))) b33021
        have b33059 : EQ (fun k => fI H33038 q4 k) (fun k => fI H33038 iq k) (6) (6) (10) := EQ.congr (fun j => Wr.neI wH33038 (Or.inl (G_ne gq4 gq6 (by decide)))) (fun j => Wr.neI wH33038 (Or.inl (G_ne giq gq6 (by decide)))) b33022
        have b33060 : EQ (fun k => fI H33038 q10 k) (fun k => fI H33038 iq k) (7) (6) (10) := EQ.congr (fun j => Wr.neI wH33038 (Or.inl (G_ne gq10 gq6 (by decide)))) (fun j => Wr.neI wH33038 (Or.inl (G_ne giq gq6 (by decide)))) b33023
        have b33061 : EQ (fun k => fI H33038 q13 k) (fun k => fI H33038 iq k) (8) (6) (10) := EQ.congr (fun j => Wr.neI wH33038 (Or.inl (G_ne gq13 gq6 (by decide)))) (fun j => Wr.neI wH33038 (Or.inl (G_ne giq gq6 (by decide)))) b33024
        have b33062 : EQ (fun k => fI H33038 q14 k) (fun k => fI H33038 iq k) (9) (6) (10) := EQ.congr (fun j => Wr.neI wH33038 (Or.inl (G_ne gq14 gq6 (by decide)))) (fun j => Wr.neI wH33038 (Or.inl (G_ne giq gq6 (by decide)))) b33025
        have b33063 : EQ (fun k => fI H33038 q15 k) (fun k => fI H33038 iq k) (10) (6) (10) := EQ.congr (fun j => Wr.neI wH33038 (Or.inl (G_ne gq15 gq6 (by decide)))) (fun j => Wr.neI wH33038 (Or.inl (G_ne giq gq6 (by decide)))) b33026
        have b33064 : EQ (fun k => fI H33038 q50 k) (fun k => fI H33038 iq k) (11) (6) (10) := EQ.congr (fun j => Wr.neI wH33038 (Or.inl (G_ne gq50 gq6 (by decide)))) (fun j => Wr.neI wH33038 (Or.inl (G_ne giq gq6 (by decide)))) b33027
        have b33065 : EQ (fun k => fI H33038 q5 k) (fun k => fI H33038 iq k) (66) (4) (x32838.toNatClampNeg + 1) := EQ.congr (fun j => Wr.neI wH33038 (Or.inl (G_ne gq5 gq6 (by decide)))) (fun j => Wr.neI wH33038 (Or.inl (G_ne giq gq6 (by decide)))) b33028
        have b33066 : EQ (fun k => fI H33038 q6 k) (fun k => fI H33038 iq k) (67) (4) (x32838.toNatClampNeg + 1) := EQ.st b33029 (i := x32838.toNatClampNeg) (t := x32850.toNatClampNeg) (by omega) m32979 (by omega) (Wr.I wH33038) (fun j hj => Wr.neI wH33038 (Or.inr hj)) (fun j => Wr.neI wH33038 (Or.inl (G_ne giq gq6 (by decide))))
        have b33067 : EQ (fun k => fI H33038 q7 k) (fun k => fI H33038 iq k) (68) (4) (x32838.toNatClampNeg) := EQ.congr (fun j => Wr.neI wH33038 (Or.inl (G_ne gq7 gq6 (by decide)))) (fun j => Wr.neI wH33038 (Or.inl (G_ne giq gq6 (by decide)))) b33030
        have b33068 : EQ (fun k => fI H33038 q8 k) (fun k => fI H33038 iq k) (69) (4) (x32838.toNatClampNeg) := EQ.congr (fun j => Wr.neI wH33038 (Or.inl (G_ne gq8 gq6 (by decide)))) (fun j => Wr.neI wH33038 (Or.inl (G_ne giq gq6 (by decide)))) b33031
        have b33069 : EQ (fun k => fI H33038 q9 k) (fun k => fI H33038 iq k) (706) (1) (0) := EQ.congr (fun j => Wr.neI wH33038 (Or.inl (G_ne gq9 gq6 (by decide)))) (fun j => Wr.neI wH33038 (Or.inl (G_ne giq gq6 (by decide)))) b33032
        have b33070 : EQ (fun k => fI H33038 q16 k) (fun k => fI H33038 iq k) (736) (3) (0) := EQ.congr (fun j => Wr.neI wH33038 (Or.inl (G_ne gq16 gq6 (by decide)))) (fun j => Wr.neI wH33038 (Or.inl (G_ne giq gq6 (by decide)))) b33033
        have b33071 : EQ (fun k => fI H33038 q60 k) (fun k => fI H33038 iq k) (737) (3) (0) := EQ.congr (fun j => Wr.neI wH33038 (Or.inl (G_ne gq60 gq6 (by decide)))) (fun j => Wr.neI wH33038 (Or.inl (G_ne giq gq6 (by decide)))) b33034
        have b33072 : EQ (fun k => fI H33038 q61 k) (fun k => fI H33038 iq k) (738) (3) (0) := EQ.congr (fun j => Wr.neI wH33038 (Or.inl (G_ne gq61 gq6 (by decide)))) (fun j => Wr.neI wH33038 (Or.inl (G_ne giq gq6 (by decide)))) b33035
        have b33073 : EQ (fun k => fI H33038 q11 k) (fun k => fI H33038 iq k) (796) (2) (0) := EQ.congr (fun j => Wr.neI wH33038 (Or.inl (G_ne gq11 gq6 (by decide)))) (fun j => Wr.neI wH33038 (Or.inl (G_ne giq gq6 (by decide)))) b33036
        have b33074 : EQ (fun k => fI H33038 q12 k) (fun k => fI H33038 iq k) (797) (2) (0) := EQ.congr (fun j => Wr.neI wH33038 (Or.inl (G_ne gq12 gq6 (by decide)))) (fun j => Wr.neI wH33038 (Or.inl (G_ne giq gq6 (by decide)))) b33037
        have m33075 := m32999.trans (Wr.neI wH33038 (Or.inl (G_ne gq5 gq6 (by decide)))).symm
        have m33077 := m32976.trans (Wr.neR wH33038 (Or.inl (G_ne ga0 gq6 (by decide)))).symm
        have m33078 := m33002.trans (Wr.neR wH33038 (Or.inl (G_ne ga0 gq6 (by decide)))).symm
        have m33079 := m33003.trans (Wr.neR wH33038 (Or.inl (G_ne ga0 gq6 (by decide)))).symm
        have m33080 := m33004.trans (Wr.neR wH33038 (Or.inl (G_ne ga0 gq6 (by decide)))).symm
        have m33081 := m33005.trans (Wr.neR wH33038 (Or.inl (G_ne ga0 gq6 (by decide)))).symm
        have m33082 := m33006.trans (Wr.neR wH33038 (Or.inl (G_ne ga0 gq6 (by decide)))).symm
        have m33083 := m33007.trans (Wr.neR wH33038 (Or.inl (G_ne ga0 gq6 (by decide)))).symm
        have m33084 := m33008.trans (Wr.neR wH33038 (Or.inl (G_ne ga0 gq6 (by decide)))).symm
        have m33085 := m33009.trans (Wr.neR wH33038 (Or.inl (G_ne ga0 gq6 (by decide)))).symm
        have m33086 := m33010.trans (Wr.neR wH33038 (Or.inl (G_ne ga0 gq6 (by decide)))).symm
        have m33087 := m33011.trans (Wr.neR wH33038 (Or.inl (G_ne ga0 gq6 (by decide)))).symm
        have m33088 := m33012.trans (Wr.neR wH33038 (Or.inl (G_ne ga0 gq6 (by decide)))).symm
        have m33089 := m33013.trans (Wr.neR wH33038 (Or.inl (G_ne ga0 gq6 (by decide)))).symm
        have m33090 := m33014.trans (Wr.neR wH33038 (Or.inl (G_ne ga0 gq6 (by decide)))).symm
        have m33091 := m33015.trans (Wr.neR wH33038 (Or.inl (G_ne ga0 gq6 (by decide)))).symm
        have m33092 := m33016.trans (Wr.neR wH33038 (Or.inl (G_ne ga0 gq6 (by decide)))).symm
        have m33093 := m33017.trans (Wr.neR wH33038 (Or.inl (G_ne ga0 gq6 (by decide)))).symm
        have m33094 := m33018.trans (Wr.neI wH33038 (Or.inl (G_ne ga0 gq6 (by decide)))).symm
        have m33095 := ex32975.trans (Wr.neI wH33038 (Or.inl (G_ne ga0 gq6 (by decide)))).symm
        have m33096 := Wr.I wH33038
        have m33096 := m33096.symm
        clear b32983 b32984 b32985 b32986 b32987 b32988 b32989 b32990 b32991 b32992 b32993 b32994 b32995 b32996 b32997 b32998 b33020 b33021 b33022 b33023 b33024 b33025 b33026 b33027 b33028 b33029 b33030 b33031 b33032 b33033 b33034 b33035 b33036 b33037 ex32975 g32977 hTH32973 m32976 m32999 m33000 m33002 m33003 m33004 m33005 m33006 m33007 m33008 m33009 m33010 m33011 m33012 m33013 m33014 m33015 m33016 m33017 m33018 mf33019
        refine lv_aload_n hx hb dX10_keepsBars_151 rfl (lv_at hl32837 0 rfl) ?_
        refine x_gr C hTH33038 (ci := 10) (k := 7) rfl inX10 (by decide) wF_X10_23 ga0 rg_112 rfl dX10_keepsBars_152 (fun q33097 eq33097 gq33097 => ?_)
        have uq33097 : q7 = q33097 := (m33081).trans eq33097.symm
        subst uq33097
        clear eq33097
        refine lv_iload_n hx hb dX10_keepsBars_155 rfl (lv_at hl32837 1 rfl) ?_
        refine lv_aload_n hx hb dX10_keepsBars_156 rfl (lv_at hl32837 0 rfl) ?_
        refine lv_aload_n hx hb dX10_keepsBars_157 rfl (lv_at hl32837 0 rfl) ?_
        refine x_gr C hTH33038 (ci := 10) (k := 7) rfl inX10 (by decide) wF_X10_23 ga0 rg_112 rfl dX10_keepsBars_158 (fun q33098 eq33098 gq33098 => ?_)
        have uq33098 : q7 = q33098 := (m33081).trans eq33098.symm
        subst uq33098
        clear eq33098
        refine lv_iload_n hx hb dX10_keepsBars_161 rfl (lv_at hl32837 1 rfl) ?_
        refine x_ai C hTH33038 gq7 rg_116 ⟨bx32838.1, by show _ < ((160 : Nat) : Int); omega⟩ dX10_keepsBars_162 (fun x33099 ex33099 bx33099 => ?_)
        refine x_V (As := [.int x33099]) (rest := [.int x32838, .ref q7]) C (a_X10_kept l K G H33038 (x33099) (x32975) (tk) hTH33038 ga0 giq m33077 m33095 m33094 g33040 (by and_intros <;> first | assumption | omega)) yo_X10_kept wM_X10_473 ⟨⟨by decide, by decide⟩, by decide, by decide⟩ (x_rv C hTH33038 (ci := 10) rfl ga0 rg_112) rfl hl32837.1 rfl (Nat.le_of_ble_eq_true rfl) dX10_keepsBars_163 hSH33038 (AE_sub (fun _ _ => rfl) (by decide) hSH33038.1) (fun vH33100 H33100 locsH33100 pH33100 zH33100 kH33100 hSH33100 => ?_)
        obtain ⟨x33101, x33102, hvH33100, ex33102, hrH33100, m33103, g33104, mf33105, m33106, m33107, m33108, m33109, hTH33100⟩ := pH33100
        subst hvH33100
        clear zH33100
        replace m33103 := EQN.mk m33103
        have b33110 : UN (tk.toInt ≠ 0) (fun k => fI H33100 q4 k) (fun k => fI s.heap q4 k) := UN.congr (fun j => fI_kept (x_lt hTH33038 kH33100 gq4 (by decide))) b33041
        have b33111 : UN (tk.toInt ≠ 0) (fun k => fI H33100 q10 k) (fun k => fI s.heap q10 k) := UN.congr (fun j => fI_kept (x_lt hTH33038 kH33100 gq10 (by decide))) b33042
        have b33112 : UN (tk.toInt ≠ 0) (fun k => fI H33100 q13 k) (fun k => fI s.heap q13 k) := UN.congr (fun j => fI_kept (x_lt hTH33038 kH33100 gq13 (by decide))) b33043
        have b33113 : UN (tk.toInt ≠ 0) (fun k => fI H33100 q14 k) (fun k => fI s.heap q14 k) := UN.congr (fun j => fI_kept (x_lt hTH33038 kH33100 gq14 (by decide))) b33044
        have b33114 : UN (tk.toInt ≠ 0) (fun k => fI H33100 q15 k) (fun k => fI s.heap q15 k) := UN.congr (fun j => fI_kept (x_lt hTH33038 kH33100 gq15 (by decide))) b33045
        have b33115 : UN (tk.toInt ≠ 0) (fun k => fI H33100 q50 k) (fun k => fI s.heap q50 k) := UN.congr (fun j => fI_kept (x_lt hTH33038 kH33100 gq50 (by decide))) b33046
        have b33116 : UN (tk.toInt ≠ 0) (fun k => fI H33100 q5 k) (fun k => fI s.heap q5 k) := UN.congr (fun j => fI_kept (x_lt hTH33038 kH33100 gq5 (by decide))) b33047
        have b33117 : UN (tk.toInt ≠ 0) (fun k => fI H33100 q6 k) (fun k => fI s.heap q6 k) := UN.congr (fun j => fI_kept (x_lt hTH33038 kH33100 gq6 (by decide))) b33048
        have b33118 : UN (tk.toInt ≠ 0) (fun k => fI H33100 q7 k) (fun k => fI s.heap q7 k) := UN.congr (fun j => fI_kept (x_lt hTH33038 kH33100 gq7 (by decide))) b33049
        have b33119 : UN (tk.toInt ≠ 0) (fun k => fI H33100 q8 k) (fun k => fI s.heap q8 k) := UN.congr (fun j => fI_kept (x_lt hTH33038 kH33100 gq8 (by decide))) b33050
        have b33120 : UN (tk.toInt ≠ 0) (fun k => fI H33100 q9 k) (fun k => fI s.heap q9 k) := UN.congr (fun j => fI_kept (x_lt hTH33038 kH33100 gq9 (by decide))) b33051
        have b33121 : UN (tk.toInt ≠ 0) (fun k => fI H33100 q16 k) (fun k => fI s.heap q16 k) := UN.congr (fun j => fI_kept (x_lt hTH33038 kH33100 gq16 (by decide))) b33052
        have b33122 : UN (tk.toInt ≠ 0) (fun k => fI H33100 q60 k) (fun k => fI s.heap q60 k) := UN.congr (fun j => fI_kept (x_lt hTH33038 kH33100 gq60 (by decide))) b33053
        have b33123 : UN (tk.toInt ≠ 0) (fun k => fI H33100 q61 k) (fun k => fI s.heap q61 k) := UN.congr (fun j => fI_kept (x_lt hTH33038 kH33100 gq61 (by decide))) b33054
        have b33124 : UN (tk.toInt ≠ 0) (fun k => fI H33100 q11 k) (fun k => fI s.heap q11 k) := UN.congr (fun j => fI_kept (x_lt hTH33038 kH33100 gq11 (by decide))) b33055
        have b33125 : UN (tk.toInt ≠ 0) (fun k => fI H33100 q12 k) (fun k => fI s.heap q12 k) := UN.congr (fun j => fI_kept (x_lt hTH33038 kH33100 gq12 (by decide))) b33056
        have m33126 := (m33075).trans (fI_kept (x_lt hTH33038 kH33100 gq5 (by decide))).symm
        have m33127 := (m33096).trans (fI_kept (x_lt hTH33038 kH33100 gq6 (by decide))).symm
        have m33128 := (ex33099).trans (fI_kept (x_lt hTH33038 kH33100 gq7 (by decide))).symm
        have m33129 := (m33077).trans (MF.r mf33105 (k := 73) (by decide) (by decide)).symm
        have m33130 := (m33078).trans (MF.r mf33105 (k := 4) (by decide) (by decide)).symm
        have m33131 := (m33079).trans (MF.r mf33105 (k := 5) (by decide) (by decide)).symm
        have m33132 := (m33080).trans (MF.r mf33105 (k := 6) (by decide) (by decide)).symm
        have m33133 := (m33081).trans (MF.r mf33105 (k := 7) (by decide) (by decide)).symm
        have m33134 := (m33082).trans (MF.r mf33105 (k := 8) (by decide) (by decide)).symm
        have m33135 := (m33083).trans (MF.r mf33105 (k := 9) (by decide) (by decide)).symm
        have m33136 := (m33084).trans (MF.r mf33105 (k := 10) (by decide) (by decide)).symm
        have m33137 := (m33085).trans (MF.r mf33105 (k := 11) (by decide) (by decide)).symm
        have m33138 := (m33086).trans (MF.r mf33105 (k := 12) (by decide) (by decide)).symm
        have m33139 := (m33087).trans (MF.r mf33105 (k := 13) (by decide) (by decide)).symm
        have m33140 := (m33088).trans (MF.r mf33105 (k := 14) (by decide) (by decide)).symm
        have m33141 := (m33089).trans (MF.r mf33105 (k := 15) (by decide) (by decide)).symm
        have m33142 := (m33090).trans (MF.r mf33105 (k := 16) (by decide) (by decide)).symm
        have m33143 := (m33091).trans (MF.r mf33105 (k := 50) (by decide) (by decide)).symm
        have m33144 := (m33092).trans (MF.r mf33105 (k := 60) (by decide) (by decide)).symm
        have m33145 := (m33093).trans (MF.r mf33105 (k := 61) (by decide) (by decide)).symm
        have m33146 := (m33094).trans (MF.i mf33105 (k := 71) (by decide) (by decide)).symm
        have mf33147 : MF K s.heap H33100 a0 [72] := MF.trans mf33039 mf33105 (by decide)
        have bx33102 := ty_fi (x := x33102) (k := 72) ex33102 hTH33100 ga0 rg_112 rfl
        have ce_x32975 := i_cl (x := x32975) bx32975.1
        have e_ : x32975.toNatClampNeg = 68 + 4 * x32838.toNatClampNeg := by omega
        have k3e_ := m33108
        rw [e_] at k3e_
        have b33148 : UN (tk.toInt = 0) (fun k => fI H33100 iq k) (fun k => fI s.heap iq k) := UN.tr m33109 b33057
        have b33149 : FB (fun k => fI H33100 iq k) (fun k => fI s.heap iq k) (6) := FB.wr b33058 k3e_ (fun j hj => Nat.ne_of_lt (Nat.lt_of_lt_of_le hj (Nat.le_trans (by decide : 6 ≤ 68) (Nat.le_add_right _ _))))
        have b33150 : EQ (fun k => fI H33100 q4 k) (fun k => fI H33100 iq k) (6) (6) (10) := EQ.wr (EQ.congr (w1 := fun k => fI H33038 iq k) (fun j => fI_kept (x_lt hTH33038 kH33100 gq4 (by decide))) (fun _ => rfl) b33059) k3e_ (fun j hj => nE_6_6_10_68_4 hj)
        have b33151 : EQ (fun k => fI H33100 q10 k) (fun k => fI H33100 iq k) (7) (6) (10) := EQ.wr (EQ.congr (w1 := fun k => fI H33038 iq k) (fun j => fI_kept (x_lt hTH33038 kH33100 gq10 (by decide))) (fun _ => rfl) b33060) k3e_ (fun j hj => nE_7_6_10_68_4 hj)
        have b33152 : EQ (fun k => fI H33100 q13 k) (fun k => fI H33100 iq k) (8) (6) (10) := EQ.wr (EQ.congr (w1 := fun k => fI H33038 iq k) (fun j => fI_kept (x_lt hTH33038 kH33100 gq13 (by decide))) (fun _ => rfl) b33061) k3e_ (fun j hj => nE_8_6_10_68_4 hj)
        have b33153 : EQ (fun k => fI H33100 q14 k) (fun k => fI H33100 iq k) (9) (6) (10) := EQ.wr (EQ.congr (w1 := fun k => fI H33038 iq k) (fun j => fI_kept (x_lt hTH33038 kH33100 gq14 (by decide))) (fun _ => rfl) b33062) k3e_ (fun j hj => nE_9_6_10_68_4 hj)
        have b33154 : EQ (fun k => fI H33100 q15 k) (fun k => fI H33100 iq k) (10) (6) (10) := EQ.wr (EQ.congr (w1 := fun k => fI H33038 iq k) (fun j => fI_kept (x_lt hTH33038 kH33100 gq15 (by decide))) (fun _ => rfl) b33063) k3e_ (fun j hj => nE_10_6_10_68_4 hj)
        have b33155 : EQ (fun k => fI H33100 q50 k) (fun k => fI H33100 iq k) (11) (6) (10) := EQ.wr (EQ.congr (w1 := fun k => fI H33038 iq k) (fun j => fI_kept (x_lt hTH33038 kH33100 gq50 (by decide))) (fun _ => rfl) b33064) k3e_ (fun j hj => nE_11_6_10_68_4 hj)
        have b33156 : EQ (fun k => fI H33100 q5 k) (fun k => fI H33100 iq k) (66) (4) (x32838.toNatClampNeg + 1) := EQ.wr (EQ.congr (w1 := fun k => fI H33038 iq k) (fun j => fI_kept (x_lt hTH33038 kH33100 gq5 (by decide))) (fun _ => rfl) b33065) k3e_ (fun j hj => nE_66_4_i1_68_4 hj)
        have b33157 : EQ (fun k => fI H33100 q6 k) (fun k => fI H33100 iq k) (67) (4) (x32838.toNatClampNeg + 1) := EQ.wr (EQ.congr (w1 := fun k => fI H33038 iq k) (fun j => fI_kept (x_lt hTH33038 kH33100 gq6 (by decide))) (fun _ => rfl) b33066) k3e_ (fun j hj => nE_67_4_i1_68_4 hj)
        have b33158 : EQ (fun k => fI H33100 q7 k) (fun k => fI H33100 iq k) (68) (4) (x32838.toNatClampNeg) := EQ.wr (EQ.congr (w1 := fun k => fI H33038 iq k) (fun j => fI_kept (x_lt hTH33038 kH33100 gq7 (by decide))) (fun _ => rfl) b33067) k3e_ (fun j hj => nE_68_4_i_68_4 hj)
        have b33159 : EQ (fun k => fI H33100 q8 k) (fun k => fI H33100 iq k) (69) (4) (x32838.toNatClampNeg) := EQ.wr (EQ.congr (w1 := fun k => fI H33038 iq k) (fun j => fI_kept (x_lt hTH33038 kH33100 gq8 (by decide))) (fun _ => rfl) b33068) k3e_ (fun j hj => nE_69_4_i_68_4 hj)
        have b33160 : EQ (fun k => fI H33100 q9 k) (fun k => fI H33100 iq k) (706) (1) (0) := EQ.wr (EQ.congr (w1 := fun k => fI H33038 iq k) (fun j => fI_kept (x_lt hTH33038 kH33100 gq9 (by decide))) (fun _ => rfl) b33069) k3e_ (fun j hj => nE_706_1_0_68_4 hj)
        have b33161 : EQ (fun k => fI H33100 q16 k) (fun k => fI H33100 iq k) (736) (3) (0) := EQ.wr (EQ.congr (w1 := fun k => fI H33038 iq k) (fun j => fI_kept (x_lt hTH33038 kH33100 gq16 (by decide))) (fun _ => rfl) b33070) k3e_ (fun j hj => nE_736_3_0_68_4 hj)
        have b33162 : EQ (fun k => fI H33100 q60 k) (fun k => fI H33100 iq k) (737) (3) (0) := EQ.wr (EQ.congr (w1 := fun k => fI H33038 iq k) (fun j => fI_kept (x_lt hTH33038 kH33100 gq60 (by decide))) (fun _ => rfl) b33071) k3e_ (fun j hj => nE_737_3_0_68_4 hj)
        have b33163 : EQ (fun k => fI H33100 q61 k) (fun k => fI H33100 iq k) (738) (3) (0) := EQ.wr (EQ.congr (w1 := fun k => fI H33038 iq k) (fun j => fI_kept (x_lt hTH33038 kH33100 gq61 (by decide))) (fun _ => rfl) b33072) k3e_ (fun j hj => nE_738_3_0_68_4 hj)
        have b33164 : EQ (fun k => fI H33100 q11 k) (fun k => fI H33100 iq k) (796) (2) (0) := EQ.wr (EQ.congr (w1 := fun k => fI H33038 iq k) (fun j => fI_kept (x_lt hTH33038 kH33100 gq11 (by decide))) (fun _ => rfl) b33073) k3e_ (fun j hj => nE_796_2_0_68_4 hj)
        have b33165 : EQ (fun k => fI H33100 q12 k) (fun k => fI H33100 iq k) (797) (2) (0) := EQ.wr (EQ.congr (w1 := fun k => fI H33038 iq k) (fun j => fI_kept (x_lt hTH33038 kH33100 gq12 (by decide))) (fun _ => rfl) b33074) k3e_ (fun j hj => nE_797_2_0_68_4 hj)
        clear b33041 b33042 b33043 b33044 b33045 b33046 b33047 b33048 b33049 b33050 b33051 b33052 b33053 b33054 b33055 b33056 b33057 b33058 b33059 b33060 b33061 b33062 b33063 b33064 b33065 b33066 b33067 b33068 b33069 b33070 b33071 b33072 b33073 b33074 ex33099 m33075 m33077 m33078 m33079 m33080 m33081 m33082 m33083 m33084 m33085 m33086 m33087 m33088 m33089 m33090 m33091 m33092 m33093 m33094 m33095 m33096
        clear m33108 m33109 k3e_ e_
        refine W.eq (g2 := F0 m 166 ls32836 [.int x33101, .int x32838, .ref q7]) rfl ?_
        refine x_iast C hTH33100 hSH33100 gq7 rg_116 bx32838.1 (by show _ < ((160 : Nat) : Int); omega) (i_rng x33101) (AE_in gq7 (by decide)) dX10_keepsBars_166 (fun H33166 locsH33166 hTH33166 hSH33166 wH33166 => ?_)
        have mf33167 : MF K s.heap H33166 a0 [72] := MF.arr wH33166 (G_ne ga0 gq7 (by decide)) mf33147
        have g33168 : WD (avw K H33166 a0) := WD.congr (fun k hk j => av_arr hTH33100 ga0 wH33166 gq7 (by decide) (WD_ok 116 (by decide) k hk)) g33104
        have b33169 : UN (tk.toInt ≠ 0) (fun k => fI H33166 q4 k) (fun k => fI s.heap q4 k) := UN.congr (fun j => Wr.neI wH33166 (Or.inl (G_ne gq4 gq7 (by decide)))) b33110
        have b33170 : UN (tk.toInt ≠ 0) (fun k => fI H33166 q10 k) (fun k => fI s.heap q10 k) := UN.congr (fun j => Wr.neI wH33166 (Or.inl (G_ne gq10 gq7 (by decide)))) b33111
        have b33171 : UN (tk.toInt ≠ 0) (fun k => fI H33166 q13 k) (fun k => fI s.heap q13 k) := UN.congr (fun j => Wr.neI wH33166 (Or.inl (G_ne gq13 gq7 (by decide)))) b33112
        have b33172 : UN (tk.toInt ≠ 0) (fun k => fI H33166 q14 k) (fun k => fI s.heap q14 k) := UN.congr (fun j => Wr.neI wH33166 (Or.inl (G_ne gq14 gq7 (by decide)))) b33113
        have b33173 : UN (tk.toInt ≠ 0) (fun k => fI H33166 q15 k) (fun k => fI s.heap q15 k) := UN.congr (fun j => Wr.neI wH33166 (Or.inl (G_ne gq15 gq7 (by decide)))) b33114
        have b33174 : UN (tk.toInt ≠ 0) (fun k => fI H33166 q50 k) (fun k => fI s.heap q50 k) := UN.congr (fun j => Wr.neI wH33166 (Or.inl (G_ne gq50 gq7 (by decide)))) b33115
        have b33175 : UN (tk.toInt ≠ 0) (fun k => fI H33166 q5 k) (fun k => fI s.heap q5 k) := UN.congr (fun j => Wr.neI wH33166 (Or.inl (G_ne gq5 gq7 (by decide)))) b33116
        have b33176 : UN (tk.toInt ≠ 0) (fun k => fI H33166 q6 k) (fun k => fI s.heap q6 k) := UN.congr (fun j => Wr.neI wH33166 (Or.inl (G_ne gq6 gq7 (by decide)))) b33117
        have b33177 : UN (tk.toInt ≠ 0) (fun k => fI H33166 q7 k) (fun k => fI s.heap q7 k) := UN.st b33118 (i := x32838.toNatClampNeg) (fun hc => (m33107 hc).trans m33128) (Wr.I wH33166) (fun j hj => Wr.neI wH33166 (Or.inr hj))
        have b33178 : UN (tk.toInt ≠ 0) (fun k => fI H33166 q8 k) (fun k => fI s.heap q8 k) := UN.congr (fun j => Wr.neI wH33166 (Or.inl (G_ne gq8 gq7 (by decide)))) b33119
        have b33179 : UN (tk.toInt ≠ 0) (fun k => fI H33166 q9 k) (fun k => fI s.heap q9 k) := UN.congr (fun j => Wr.neI wH33166 (Or.inl (G_ne gq9 gq7 (by decide)))) b33120
        have b33180 : UN (tk.toInt ≠ 0) (fun k => fI H33166 q16 k) (fun k => fI s.heap q16 k) := UN.congr (fun j => Wr.neI wH33166 (Or.inl (G_ne gq16 gq7 (by decide)))) b33121
        have b33181 : UN (tk.toInt ≠ 0) (fun k => fI H33166 q60 k) (fun k => fI s.heap q60 k) := UN.congr (fun j => Wr.neI wH33166 (Or.inl (G_ne gq60 gq7 (by decide)))) b33122
        have b33182 : UN (tk.toInt ≠ 0) (fun k => fI H33166 q61 k) (fun k => fI s.heap q61 k) := UN.congr (fun j => Wr.neI wH33166 (Or.inl (G_ne gq61 gq7 (by decide)))) b33123
        have b33183 : UN (tk.toInt ≠ 0) (fun k => fI H33166 q11 k) (fun k => fI s.heap q11 k) := UN.congr (fun j => Wr.neI wH33166 (Or.inl (G_ne gq11 gq7 (by decide)))) b33124
        have b33184 : UN (tk.toInt ≠ 0) (fun k => fI H33166 q12 k) (fun k => fI s.heap q12 k) := UN.congr (fun j => Wr.neI wH33166 (Or.inl (G_ne gq12 gq7 (by decide)))) b33125
        have b33185 : UN (tk.toInt = 0) (fun k => fI H33166 iq k) (fun k => fI s.heap iq k) := UN.congr (fun j => Wr.neI wH33166 (Or.inl (G_ne giq gq7 (by decide)))) b33148
        have b33186 : FB (fun k => fI H33166 iq k) (fun k => fI s.heap iq k) (6) := FB.congr (fun j => Wr.neI wH33166 (Or.inl (G_ne giq gq7 (by decide)))) b33149
        have b33187 : EQ (fun k => fI H33166 q4 k) (fun k => fI H33166 iq k) (6) (6) (10) := EQ.congr (fun j => Wr.neI wH33166 (Or.inl (G_ne gq4 gq7 (by decide)))) (fun j => Wr.neI wH33166 (Or.inl (G_ne giq gq7 (by decide)))) b33150
        have b33188 : EQ (fun k => fI H33166 q10 k) (fun k => fI H33166 iq k) (7) (6) (10) := EQ.congr (fun j => Wr.neI wH33166 (Or.inl (G_ne gq10 gq7 (by decide)))) (fun j => Wr.neI wH33166 (Or.inl (G_ne giq gq7 (by decide)))) b33151
        have b33189 : EQ (fun k => fI H33166 q13 k) (fun k => fI H33166 iq k) (8) (6) (10) := EQ.congr (fun j => Wr.neI wH33166 (Or.inl (G_ne gq13 gq7 (by decide)))) (fun j => Wr.neI wH33166 (Or.inl (G_ne giq gq7 (by decide)))) b33152
        have b33190 : EQ (fun k => fI H33166 q14 k) (fun k => fI H33166 iq k) (9) (6) (10) := EQ.congr (fun j => Wr.neI wH33166 (Or.inl (G_ne gq14 gq7 (by decide)))) (fun j => Wr.neI wH33166 (Or.inl (G_ne giq gq7 (by decide)))) b33153
        have b33191 : EQ (fun k => fI H33166 q15 k) (fun k => fI H33166 iq k) (10) (6) (10) := EQ.congr (fun j => Wr.neI wH33166 (Or.inl (G_ne gq15 gq7 (by decide)))) (fun j => Wr.neI wH33166 (Or.inl (G_ne giq gq7 (by decide)))) b33154
        have b33192 : EQ (fun k => fI H33166 q50 k) (fun k => fI H33166 iq k) (11) (6) (10) := EQ.congr (fun j => Wr.neI wH33166 (Or.inl (G_ne gq50 gq7 (by decide)))) (fun j => Wr.neI wH33166 (Or.inl (G_ne giq gq7 (by decide)))) b33155
        have b33193 : EQ (fun k => fI H33166 q5 k) (fun k => fI H33166 iq k) (66) (4) (x32838.toNatClampNeg + 1) := EQ.congr (fun j => Wr.neI wH33166 (Or.inl (G_ne gq5 gq7 (by decide)))) (fun j => Wr.neI wH33166 (Or.inl (G_ne giq gq7 (by decide)))) b33156
        have b33194 : EQ (fun k => fI H33166 q6 k) (fun k => fI H33166 iq k) (67) (4) (x32838.toNatClampNeg + 1) := EQ.congr (fun j => Wr.neI wH33166 (Or.inl (G_ne gq6 gq7 (by decide)))) (fun j => Wr.neI wH33166 (Or.inl (G_ne giq gq7 (by decide)))) b33157
        have b33195 : EQ (fun k => fI H33166 q7 k) (fun k => fI H33166 iq k) (68) (4) (x32838.toNatClampNeg + 1) := EQ.st b33158 (i := x32838.toNatClampNeg) (t := x32975.toNatClampNeg) (by omega) m33106 (by omega) (Wr.I wH33166) (fun j hj => Wr.neI wH33166 (Or.inr hj)) (fun j => Wr.neI wH33166 (Or.inl (G_ne giq gq7 (by decide))))
        have b33196 : EQ (fun k => fI H33166 q8 k) (fun k => fI H33166 iq k) (69) (4) (x32838.toNatClampNeg) := EQ.congr (fun j => Wr.neI wH33166 (Or.inl (G_ne gq8 gq7 (by decide)))) (fun j => Wr.neI wH33166 (Or.inl (G_ne giq gq7 (by decide)))) b33159
        have b33197 : EQ (fun k => fI H33166 q9 k) (fun k => fI H33166 iq k) (706) (1) (0) := EQ.congr (fun j => Wr.neI wH33166 (Or.inl (G_ne gq9 gq7 (by decide)))) (fun j => Wr.neI wH33166 (Or.inl (G_ne giq gq7 (by decide)))) b33160
        have b33198 : EQ (fun k => fI H33166 q16 k) (fun k => fI H33166 iq k) (736) (3) (0) := EQ.congr (fun j => Wr.neI wH33166 (Or.inl (G_ne gq16 gq7 (by decide)))) (fun j => Wr.neI wH33166 (Or.inl (G_ne giq gq7 (by decide)))) b33161
        have b33199 : EQ (fun k => fI H33166 q60 k) (fun k => fI H33166 iq k) (737) (3) (0) := EQ.congr (fun j => Wr.neI wH33166 (Or.inl (G_ne gq60 gq7 (by decide)))) (fun j => Wr.neI wH33166 (Or.inl (G_ne giq gq7 (by decide)))) b33162
        have b33200 : EQ (fun k => fI H33166 q61 k) (fun k => fI H33166 iq k) (738) (3) (0) := EQ.congr (fun j => Wr.neI wH33166 (Or.inl (G_ne gq61 gq7 (by decide)))) (fun j => Wr.neI wH33166 (Or.inl (G_ne giq gq7 (by decide)))) b33163
        have b33201 : EQ (fun k => fI H33166 q11 k) (fun k => fI H33166 iq k) (796) (2) (0) := EQ.congr (fun j => Wr.neI wH33166 (Or.inl (G_ne gq11 gq7 (by decide)))) (fun j => Wr.neI wH33166 (Or.inl (G_ne giq gq7 (by decide)))) b33164
        have b33202 : EQ (fun k => fI H33166 q12 k) (fun k => fI H33166 iq k) (797) (2) (0) := EQ.congr (fun j => Wr.neI wH33166 (Or.inl (G_ne gq12 gq7 (by decide)))) (fun j => Wr.neI wH33166 (Or.inl (G_ne giq gq7 (by decide)))) b33165
        have m33203 := m33126.trans (Wr.neI wH33166 (Or.inl (G_ne gq5 gq7 (by decide)))).symm
        have m33204 := m33127.trans (Wr.neI wH33166 (Or.inl (G_ne gq6 gq7 (by decide)))).symm
        have m33206 := m33103.trans (Wr.neR wH33166 (Or.inl (G_ne ga0 gq7 (by decide)))).symm
        have m33207 := m33130.trans (Wr.neR wH33166 (Or.inl (G_ne ga0 gq7 (by decide)))).symm
        have m33208 := m33131.trans (Wr.neR wH33166 (Or.inl (G_ne ga0 gq7 (by decide)))).symm
        have m33209 := m33132.trans (Wr.neR wH33166 (Or.inl (G_ne ga0 gq7 (by decide)))).symm
        have m33210 := m33133.trans (Wr.neR wH33166 (Or.inl (G_ne ga0 gq7 (by decide)))).symm
        have m33211 := m33134.trans (Wr.neR wH33166 (Or.inl (G_ne ga0 gq7 (by decide)))).symm
        have m33212 := m33135.trans (Wr.neR wH33166 (Or.inl (G_ne ga0 gq7 (by decide)))).symm
        have m33213 := m33136.trans (Wr.neR wH33166 (Or.inl (G_ne ga0 gq7 (by decide)))).symm
        have m33214 := m33137.trans (Wr.neR wH33166 (Or.inl (G_ne ga0 gq7 (by decide)))).symm
        have m33215 := m33138.trans (Wr.neR wH33166 (Or.inl (G_ne ga0 gq7 (by decide)))).symm
        have m33216 := m33139.trans (Wr.neR wH33166 (Or.inl (G_ne ga0 gq7 (by decide)))).symm
        have m33217 := m33140.trans (Wr.neR wH33166 (Or.inl (G_ne ga0 gq7 (by decide)))).symm
        have m33218 := m33141.trans (Wr.neR wH33166 (Or.inl (G_ne ga0 gq7 (by decide)))).symm
        have m33219 := m33142.trans (Wr.neR wH33166 (Or.inl (G_ne ga0 gq7 (by decide)))).symm
        have m33220 := m33143.trans (Wr.neR wH33166 (Or.inl (G_ne ga0 gq7 (by decide)))).symm
        have m33221 := m33144.trans (Wr.neR wH33166 (Or.inl (G_ne ga0 gq7 (by decide)))).symm
        have m33222 := m33145.trans (Wr.neR wH33166 (Or.inl (G_ne ga0 gq7 (by decide)))).symm
        have m33223 := m33146.trans (Wr.neI wH33166 (Or.inl (G_ne ga0 gq7 (by decide)))).symm
        have m33224 := ex33102.trans (Wr.neI wH33166 (Or.inl (G_ne ga0 gq7 (by decide)))).symm
        have m33225 := Wr.I wH33166
        have m33225 := m33225.symm
        clear b33110 b33111 b33112 b33113 b33114 b33115 b33116 b33117 b33118 b33119 b33120 b33121 b33122 b33123 b33124 b33125 b33148 b33149 b33150 b33151 b33152 b33153 b33154 b33155 b33156 b33157 b33158 b33159 b33160 b33161 b33162 b33163 b33164 b33165 ex33102 g33104 hTH33100 m33103 m33126 m33127 m33128 m33130 m33131 m33132 m33133 m33134 m33135 m33136 m33137 m33138 m33139 m33140 m33141 m33142 m33143 m33144 m33145 m33146 mf33147
        refine lv_aload_n hx hb dX10_keepsBars_167 rfl (lv_at hl32837 0 rfl) ?_
        refine x_gr C hTH33166 (ci := 10) (k := 8) rfl inX10 (by decide) wF_X10_26 ga0 rg_112 rfl dX10_keepsBars_168 (fun q33226 eq33226 gq33226 => ?_)
        have uq33226 : q8 = q33226 := (m33211).trans eq33226.symm
        subst uq33226
        clear eq33226
        refine lv_iload_n hx hb dX10_keepsBars_171 rfl (lv_at hl32837 1 rfl) ?_
        refine lv_aload_n hx hb dX10_keepsBars_172 rfl (lv_at hl32837 0 rfl) ?_
        refine lv_aload_n hx hb dX10_keepsBars_173 rfl (lv_at hl32837 0 rfl) ?_
        refine x_gr C hTH33166 (ci := 10) (k := 8) rfl inX10 (by decide) wF_X10_26 ga0 rg_112 rfl dX10_keepsBars_174 (fun q33227 eq33227 gq33227 => ?_)
        have uq33227 : q8 = q33227 := (m33211).trans eq33227.symm
        subst uq33227
        clear eq33227
        refine lv_iload_n hx hb dX10_keepsBars_177 rfl (lv_at hl32837 1 rfl) ?_
        refine x_ai C hTH33166 gq8 rg_117 ⟨bx32838.1, by show _ < ((160 : Nat) : Int); omega⟩ dX10_keepsBars_178 (fun x33228 ex33228 bx33228 => ?_)
        refine x_V (As := [.int x33228]) (rest := [.int x32838, .ref q8]) C (a_X10_kept l K G H33166 (x33228) (x33102) (tk) hTH33166 ga0 giq m33206 m33224 m33223 g33168 (by and_intros <;> first | assumption | omega)) yo_X10_kept wM_X10_473 ⟨⟨by decide, by decide⟩, by decide, by decide⟩ (x_rv C hTH33166 (ci := 10) rfl ga0 rg_112) rfl hl32837.1 rfl (Nat.le_of_ble_eq_true rfl) dX10_keepsBars_179 hSH33166 (AE_sub (fun _ _ => rfl) (by decide) hSH33166.1) (fun vH33229 H33229 locsH33229 pH33229 zH33229 kH33229 hSH33229 => ?_)
        obtain ⟨x33230, x33231, hvH33229, ex33231, hrH33229, m33232, g33233, mf33234, m33235, m33236, m33237, m33238, hTH33229⟩ := pH33229
        subst hvH33229
        clear zH33229
        replace m33232 := EQN.mk m33232
        have b33239 : UN (tk.toInt ≠ 0) (fun k => fI H33229 q4 k) (fun k => fI s.heap q4 k) := UN.congr (fun j => fI_kept (x_lt hTH33166 kH33229 gq4 (by decide))) b33169
        have b33240 : UN (tk.toInt ≠ 0) (fun k => fI H33229 q10 k) (fun k => fI s.heap q10 k) := UN.congr (fun j => fI_kept (x_lt hTH33166 kH33229 gq10 (by decide))) b33170
        have b33241 : UN (tk.toInt ≠ 0) (fun k => fI H33229 q13 k) (fun k => fI s.heap q13 k) := UN.congr (fun j => fI_kept (x_lt hTH33166 kH33229 gq13 (by decide))) b33171
        have b33242 : UN (tk.toInt ≠ 0) (fun k => fI H33229 q14 k) (fun k => fI s.heap q14 k) := UN.congr (fun j => fI_kept (x_lt hTH33166 kH33229 gq14 (by decide))) b33172
        have b33243 : UN (tk.toInt ≠ 0) (fun k => fI H33229 q15 k) (fun k => fI s.heap q15 k) := UN.congr (fun j => fI_kept (x_lt hTH33166 kH33229 gq15 (by decide))) b33173
        have b33244 : UN (tk.toInt ≠ 0) (fun k => fI H33229 q50 k) (fun k => fI s.heap q50 k) := UN.congr (fun j => fI_kept (x_lt hTH33166 kH33229 gq50 (by decide))) b33174
        have b33245 : UN (tk.toInt ≠ 0) (fun k => fI H33229 q5 k) (fun k => fI s.heap q5 k) := UN.congr (fun j => fI_kept (x_lt hTH33166 kH33229 gq5 (by decide))) b33175
        have b33246 : UN (tk.toInt ≠ 0) (fun k => fI H33229 q6 k) (fun k => fI s.heap q6 k) := UN.congr (fun j => fI_kept (x_lt hTH33166 kH33229 gq6 (by decide))) b33176
        have b33247 : UN (tk.toInt ≠ 0) (fun k => fI H33229 q7 k) (fun k => fI s.heap q7 k) := UN.congr (fun j => fI_kept (x_lt hTH33166 kH33229 gq7 (by decide))) b33177
        have b33248 : UN (tk.toInt ≠ 0) (fun k => fI H33229 q8 k) (fun k => fI s.heap q8 k) := UN.congr (fun j => fI_kept (x_lt hTH33166 kH33229 gq8 (by decide))) b33178
        have b33249 : UN (tk.toInt ≠ 0) (fun k => fI H33229 q9 k) (fun k => fI s.heap q9 k) := UN.congr (fun j => fI_kept (x_lt hTH33166 kH33229 gq9 (by decide))) b33179
        have b33250 : UN (tk.toInt ≠ 0) (fun k => fI H33229 q16 k) (fun k => fI s.heap q16 k) := UN.congr (fun j => fI_kept (x_lt hTH33166 kH33229 gq16 (by decide))) b33180
        have b33251 : UN (tk.toInt ≠ 0) (fun k => fI H33229 q60 k) (fun k => fI s.heap q60 k) := UN.congr (fun j => fI_kept (x_lt hTH33166 kH33229 gq60 (by decide))) b33181
        have b33252 : UN (tk.toInt ≠ 0) (fun k => fI H33229 q61 k) (fun k => fI s.heap q61 k) := UN.congr (fun j => fI_kept (x_lt hTH33166 kH33229 gq61 (by decide))) b33182
        have b33253 : UN (tk.toInt ≠ 0) (fun k => fI H33229 q11 k) (fun k => fI s.heap q11 k) := UN.congr (fun j => fI_kept (x_lt hTH33166 kH33229 gq11 (by decide))) b33183
        have b33254 : UN (tk.toInt ≠ 0) (fun k => fI H33229 q12 k) (fun k => fI s.heap q12 k) := UN.congr (fun j => fI_kept (x_lt hTH33166 kH33229 gq12 (by decide))) b33184
        have m33255 := (m33203).trans (fI_kept (x_lt hTH33166 kH33229 gq5 (by decide))).symm
        have m33256 := (m33204).trans (fI_kept (x_lt hTH33166 kH33229 gq6 (by decide))).symm
        have m33257 := (m33225).trans (fI_kept (x_lt hTH33166 kH33229 gq7 (by decide))).symm
        have m33258 := (ex33228).trans (fI_kept (x_lt hTH33166 kH33229 gq8 (by decide))).symm
        have m33259 := (m33206).trans (MF.r mf33234 (k := 73) (by decide) (by decide)).symm
        have m33260 := (m33207).trans (MF.r mf33234 (k := 4) (by decide) (by decide)).symm
        have m33261 := (m33208).trans (MF.r mf33234 (k := 5) (by decide) (by decide)).symm
        have m33262 := (m33209).trans (MF.r mf33234 (k := 6) (by decide) (by decide)).symm
        have m33263 := (m33210).trans (MF.r mf33234 (k := 7) (by decide) (by decide)).symm
        have m33264 := (m33211).trans (MF.r mf33234 (k := 8) (by decide) (by decide)).symm
        have m33265 := (m33212).trans (MF.r mf33234 (k := 9) (by decide) (by decide)).symm
        have m33266 := (m33213).trans (MF.r mf33234 (k := 10) (by decide) (by decide)).symm
        have m33267 := (m33214).trans (MF.r mf33234 (k := 11) (by decide) (by decide)).symm
        have m33268 := (m33215).trans (MF.r mf33234 (k := 12) (by decide) (by decide)).symm
        have m33269 := (m33216).trans (MF.r mf33234 (k := 13) (by decide) (by decide)).symm
        have m33270 := (m33217).trans (MF.r mf33234 (k := 14) (by decide) (by decide)).symm
        have m33271 := (m33218).trans (MF.r mf33234 (k := 15) (by decide) (by decide)).symm
        have m33272 := (m33219).trans (MF.r mf33234 (k := 16) (by decide) (by decide)).symm
        have m33273 := (m33220).trans (MF.r mf33234 (k := 50) (by decide) (by decide)).symm
        have m33274 := (m33221).trans (MF.r mf33234 (k := 60) (by decide) (by decide)).symm
        have m33275 := (m33222).trans (MF.r mf33234 (k := 61) (by decide) (by decide)).symm
        have m33276 := (m33223).trans (MF.i mf33234 (k := 71) (by decide) (by decide)).symm
        have mf33277 : MF K s.heap H33229 a0 [72] := MF.trans mf33167 mf33234 (by decide)
        have bx33231 := ty_fi (x := x33231) (k := 72) ex33231 hTH33229 ga0 rg_112 rfl
        have ce_x33102 := i_cl (x := x33102) bx33102.1
        have e_ : x33102.toNatClampNeg = 69 + 4 * x32838.toNatClampNeg := by omega
        have k3e_ := m33237
        rw [e_] at k3e_
        have b33278 : UN (tk.toInt = 0) (fun k => fI H33229 iq k) (fun k => fI s.heap iq k) := UN.tr m33238 b33185
        have b33279 : FB (fun k => fI H33229 iq k) (fun k => fI s.heap iq k) (6) := FB.wr b33186 k3e_ (fun j hj => Nat.ne_of_lt (Nat.lt_of_lt_of_le hj (Nat.le_trans (by decide : 6 ≤ 69) (Nat.le_add_right _ _))))
        have b33280 : EQ (fun k => fI H33229 q4 k) (fun k => fI H33229 iq k) (6) (6) (10) := EQ.wr (EQ.congr (w1 := fun k => fI H33166 iq k) (fun j => fI_kept (x_lt hTH33166 kH33229 gq4 (by decide))) (fun _ => rfl) b33187) k3e_ (fun j hj => nE_6_6_10_69_4 hj)
        have b33281 : EQ (fun k => fI H33229 q10 k) (fun k => fI H33229 iq k) (7) (6) (10) := EQ.wr (EQ.congr (w1 := fun k => fI H33166 iq k) (fun j => fI_kept (x_lt hTH33166 kH33229 gq10 (by decide))) (fun _ => rfl) b33188) k3e_ (fun j hj => nE_7_6_10_69_4 hj)
        have b33282 : EQ (fun k => fI H33229 q13 k) (fun k => fI H33229 iq k) (8) (6) (10) := EQ.wr (EQ.congr (w1 := fun k => fI H33166 iq k) (fun j => fI_kept (x_lt hTH33166 kH33229 gq13 (by decide))) (fun _ => rfl) b33189) k3e_ (fun j hj => nE_8_6_10_69_4 hj)
        have b33283 : EQ (fun k => fI H33229 q14 k) (fun k => fI H33229 iq k) (9) (6) (10) := EQ.wr (EQ.congr (w1 := fun k => fI H33166 iq k) (fun j => fI_kept (x_lt hTH33166 kH33229 gq14 (by decide))) (fun _ => rfl) b33190) k3e_ (fun j hj => nE_9_6_10_69_4 hj)
        have b33284 : EQ (fun k => fI H33229 q15 k) (fun k => fI H33229 iq k) (10) (6) (10) := EQ.wr (EQ.congr (w1 := fun k => fI H33166 iq k) (fun j => fI_kept (x_lt hTH33166 kH33229 gq15 (by decide))) (fun _ => rfl) b33191) k3e_ (fun j hj => nE_10_6_10_69_4 hj)
        have b33285 : EQ (fun k => fI H33229 q50 k) (fun k => fI H33229 iq k) (11) (6) (10) := EQ.wr (EQ.congr (w1 := fun k => fI H33166 iq k) (fun j => fI_kept (x_lt hTH33166 kH33229 gq50 (by decide))) (fun _ => rfl) b33192) k3e_ (fun j hj => nE_11_6_10_69_4 hj)
        have b33286 : EQ (fun k => fI H33229 q5 k) (fun k => fI H33229 iq k) (66) (4) (x32838.toNatClampNeg + 1) := EQ.wr (EQ.congr (w1 := fun k => fI H33166 iq k) (fun j => fI_kept (x_lt hTH33166 kH33229 gq5 (by decide))) (fun _ => rfl) b33193) k3e_ (fun j hj => nE_66_4_i1_69_4 hj)
        have b33287 : EQ (fun k => fI H33229 q6 k) (fun k => fI H33229 iq k) (67) (4) (x32838.toNatClampNeg + 1) := EQ.wr (EQ.congr (w1 := fun k => fI H33166 iq k) (fun j => fI_kept (x_lt hTH33166 kH33229 gq6 (by decide))) (fun _ => rfl) b33194) k3e_ (fun j hj => nE_67_4_i1_69_4 hj)
        have b33288 : EQ (fun k => fI H33229 q7 k) (fun k => fI H33229 iq k) (68) (4) (x32838.toNatClampNeg + 1) := EQ.wr (EQ.congr (w1 := fun k => fI H33166 iq k) (fun j => fI_kept (x_lt hTH33166 kH33229 gq7 (by decide))) (fun _ => rfl) b33195) k3e_ (fun j hj => nE_68_4_i1_69_4 hj)
        have b33289 : EQ (fun k => fI H33229 q8 k) (fun k => fI H33229 iq k) (69) (4) (x32838.toNatClampNeg) := EQ.wr (EQ.congr (w1 := fun k => fI H33166 iq k) (fun j => fI_kept (x_lt hTH33166 kH33229 gq8 (by decide))) (fun _ => rfl) b33196) k3e_ (fun j hj => nE_69_4_i_69_4 hj)
        have b33290 : EQ (fun k => fI H33229 q9 k) (fun k => fI H33229 iq k) (706) (1) (0) := EQ.wr (EQ.congr (w1 := fun k => fI H33166 iq k) (fun j => fI_kept (x_lt hTH33166 kH33229 gq9 (by decide))) (fun _ => rfl) b33197) k3e_ (fun j hj => nE_706_1_0_69_4 hj)
        have b33291 : EQ (fun k => fI H33229 q16 k) (fun k => fI H33229 iq k) (736) (3) (0) := EQ.wr (EQ.congr (w1 := fun k => fI H33166 iq k) (fun j => fI_kept (x_lt hTH33166 kH33229 gq16 (by decide))) (fun _ => rfl) b33198) k3e_ (fun j hj => nE_736_3_0_69_4 hj)
        have b33292 : EQ (fun k => fI H33229 q60 k) (fun k => fI H33229 iq k) (737) (3) (0) := EQ.wr (EQ.congr (w1 := fun k => fI H33166 iq k) (fun j => fI_kept (x_lt hTH33166 kH33229 gq60 (by decide))) (fun _ => rfl) b33199) k3e_ (fun j hj => nE_737_3_0_69_4 hj)
        have b33293 : EQ (fun k => fI H33229 q61 k) (fun k => fI H33229 iq k) (738) (3) (0) := EQ.wr (EQ.congr (w1 := fun k => fI H33166 iq k) (fun j => fI_kept (x_lt hTH33166 kH33229 gq61 (by decide))) (fun _ => rfl) b33200) k3e_ (fun j hj => nE_738_3_0_69_4 hj)
        have b33294 : EQ (fun k => fI H33229 q11 k) (fun k => fI H33229 iq k) (796) (2) (0) := EQ.wr (EQ.congr (w1 := fun k => fI H33166 iq k) (fun j => fI_kept (x_lt hTH33166 kH33229 gq11 (by decide))) (fun _ => rfl) b33201) k3e_ (fun j hj => nE_796_2_0_69_4 hj)
        have b33295 : EQ (fun k => fI H33229 q12 k) (fun k => fI H33229 iq k) (797) (2) (0) := EQ.wr (EQ.congr (w1 := fun k => fI H33166 iq k) (fun j => fI_kept (x_lt hTH33166 kH33229 gq12 (by decide))) (fun _ => rfl) b33202) k3e_ (fun j hj => nE_797_2_0_69_4 hj)
        clear b33169 b33170 b33171 b33172 b33173 b33174 b33175 b33176 b33177 b33178 b33179 b33180 b33181 b33182 b33183 b33184 b33185 b33186 b33187 b33188 b33189 b33190 b33191 b33192 b33193 b33194 b33195 b33196 b33197 b33198 b33199 b33200 b33201 b33202 ex33228 m33203 m33204 m33206 m33207 m33208 m33209 m33210 m33211 m33212 m33213 m33214 m33215 m33216 m33217 m33218 m33219 m33220 m33221 m33222 m33223 m33224 m33225
        clear m33237 m33238 k3e_ e_
        refine W.eq (g2 := F0 m 182 ls32836 [.int x33230, .int x32838, .ref q8]) rfl ?_
        refine x_iast C hTH33229 hSH33229 gq8 rg_117 bx32838.1 (by show _ < ((160 : Nat) : Int); omega) (i_rng x33230) (AE_in gq8 (by decide)) dX10_keepsBars_182 (fun H33296 locsH33296 hTH33296 hSH33296 wH33296 => ?_)
        have mf33297 : MF K s.heap H33296 a0 [72] := MF.arr wH33296 (G_ne ga0 gq8 (by decide)) mf33277
        have g33298 : WD (avw K H33296 a0) := WD.congr (fun k hk j => av_arr hTH33229 ga0 wH33296 gq8 (by decide) (WD_ok 117 (by decide) k hk)) g33233
        have b33299 : UN (tk.toInt ≠ 0) (fun k => fI H33296 q4 k) (fun k => fI s.heap q4 k) := UN.congr (fun j => Wr.neI wH33296 (Or.inl (G_ne gq4 gq8 (by decide)))) b33239
        have b33300 : UN (tk.toInt ≠ 0) (fun k => fI H33296 q10 k) (fun k => fI s.heap q10 k) := UN.congr (fun j => Wr.neI wH33296 (Or.inl (G_ne gq10 gq8 (by decide)))) b33240
        have b33301 : UN (tk.toInt ≠ 0) (fun k => fI H33296 q13 k) (fun k => fI s.heap q13 k) := UN.congr (fun j => Wr.neI wH33296 (Or.inl (G_ne gq13 gq8 (by decide)))) b33241
        have b33302 : UN (tk.toInt ≠ 0) (fun k => fI H33296 q14 k) (fun k => fI s.heap q14 k) := UN.congr (fun j => Wr.neI wH33296 (Or.inl (G_ne gq14 gq8 (by decide)))) b33242
        have b33303 : UN (tk.toInt ≠ 0) (fun k => fI H33296 q15 k) (fun k => fI s.heap q15 k) := UN.congr (fun j => Wr.neI wH33296 (Or.inl (G_ne gq15 gq8 (by decide)))) b33243
        have b33304 : UN (tk.toInt ≠ 0) (fun k => fI H33296 q50 k) (fun k => fI s.heap q50 k) := UN.congr (fun j => Wr.neI wH33296 (Or.inl (G_ne gq50 gq8 (by decide)))) b33244
        have b33305 : UN (tk.toInt ≠ 0) (fun k => fI H33296 q5 k) (fun k => fI s.heap q5 k) := UN.congr (fun j => Wr.neI wH33296 (Or.inl (G_ne gq5 gq8 (by decide)))) b33245
        have b33306 : UN (tk.toInt ≠ 0) (fun k => fI H33296 q6 k) (fun k => fI s.heap q6 k) := UN.congr (fun j => Wr.neI wH33296 (Or.inl (G_ne gq6 gq8 (by decide)))) b33246
        have b33307 : UN (tk.toInt ≠ 0) (fun k => fI H33296 q7 k) (fun k => fI s.heap q7 k) := UN.congr (fun j => Wr.neI wH33296 (Or.inl (G_ne gq7 gq8 (by decide)))) b33247
        have b33308 : UN (tk.toInt ≠ 0) (fun k => fI H33296 q8 k) (fun k => fI s.heap q8 k) := UN.st b33248 (i := x32838.toNatClampNeg) (fun hc => (m33236 hc).trans m33258) (Wr.I wH33296) (fun j hj => Wr.neI wH33296 (Or.inr hj))
        have b33309 : UN (tk.toInt ≠ 0) (fun k => fI H33296 q9 k) (fun k => fI s.heap q9 k) := UN.congr (fun j => Wr.neI wH33296 (Or.inl (G_ne gq9 gq8 (by decide)))) b33249
        have b33310 : UN (tk.toInt ≠ 0) (fun k => fI H33296 q16 k) (fun k => fI s.heap q16 k) := UN.congr (fun j => Wr.neI wH33296 (Or.inl (G_ne gq16 gq8 (by decide)))) b33250
        have b33311 : UN (tk.toInt ≠ 0) (fun k => fI H33296 q60 k) (fun k => fI s.heap q60 k) := UN.congr (fun j => Wr.neI wH33296 (Or.inl (G_ne gq60 gq8 (by decide)))) b33251
        have b33312 : UN (tk.toInt ≠ 0) (fun k => fI H33296 q61 k) (fun k => fI s.heap q61 k) := UN.congr (fun j => Wr.neI wH33296 (Or.inl (G_ne gq61 gq8 (by decide)))) b33252
        have b33313 : UN (tk.toInt ≠ 0) (fun k => fI H33296 q11 k) (fun k => fI s.heap q11 k) := UN.congr (fun j => Wr.neI wH33296 (Or.inl (G_ne gq11 gq8 (by decide)))) b33253
        have b33314 : UN (tk.toInt ≠ 0) (fun k => fI H33296 q12 k) (fun k => fI s.heap q12 k) := UN.congr (fun j => Wr.neI wH33296 (Or.inl (G_ne gq12 gq8 (by decide)))) b33254
        have b33315 : UN (tk.toInt = 0) (fun k => fI H33296 iq k) (fun k => fI s.heap iq k) := UN.congr (fun j => Wr.neI wH33296 (Or.inl (G_ne giq gq8 (by decide)))) b33278
        have b33316 : FB (fun k => fI H33296 iq k) (fun k => fI s.heap iq k) (6) := FB.congr (fun j => Wr.neI wH33296 (Or.inl (G_ne giq gq8 (by decide)))) b33279
        have b33317 : EQ (fun k => fI H33296 q4 k) (fun k => fI H33296 iq k) (6) (6) (10) := EQ.congr (fun j => Wr.neI wH33296 (Or.inl (G_ne gq4 gq8 (by decide)))) (fun j => Wr.neI wH33296 (Or.inl (G_ne giq gq8 (by decide)))) b33280
        have b33318 : EQ (fun k => fI H33296 q10 k) (fun k => fI H33296 iq k) (7) (6) (10) := EQ.congr (fun j => Wr.neI wH33296 (Or.inl (G_ne gq10 gq8 (by decide)))) (fun j => Wr.neI wH33296 (Or.inl (G_ne giq gq8 (by decide)))) b33281
        have b33319 : EQ (fun k => fI H33296 q13 k) (fun k => fI H33296 iq k) (8) (6) (10) := EQ.congr (fun j => Wr.neI wH33296 (Or.inl (G_ne gq13 gq8 (by decide)))) (fun j => Wr.neI wH33296 (Or.inl (G_ne giq gq8 (by decide)))) b33282
        have b33320 : EQ (fun k => fI H33296 q14 k) (fun k => fI H33296 iq k) (9) (6) (10) := EQ.congr (fun j => Wr.neI wH33296 (Or.inl (G_ne gq14 gq8 (by decide)))) (fun j => Wr.neI wH33296 (Or.inl (G_ne giq gq8 (by decide)))) b33283
        have b33321 : EQ (fun k => fI H33296 q15 k) (fun k => fI H33296 iq k) (10) (6) (10) := EQ.congr (fun j => Wr.neI wH33296 (Or.inl (G_ne gq15 gq8 (by decide)))) (fun j => Wr.neI wH33296 (Or.inl (G_ne giq gq8 (by decide)))) b33284
        have b33322 : EQ (fun k => fI H33296 q50 k) (fun k => fI H33296 iq k) (11) (6) (10) := EQ.congr (fun j => Wr.neI wH33296 (Or.inl (G_ne gq50 gq8 (by decide)))) (fun j => Wr.neI wH33296 (Or.inl (G_ne giq gq8 (by decide)))) b33285
        have b33323 : EQ (fun k => fI H33296 q5 k) (fun k => fI H33296 iq k) (66) (4) (x32838.toNatClampNeg + 1) := EQ.congr (fun j => Wr.neI wH33296 (Or.inl (G_ne gq5 gq8 (by decide)))) (fun j => Wr.neI wH33296 (Or.inl (G_ne giq gq8 (by decide)))) b33286
        have b33324 : EQ (fun k => fI H33296 q6 k) (fun k => fI H33296 iq k) (67) (4) (x32838.toNatClampNeg + 1) := EQ.congr (fun j => Wr.neI wH33296 (Or.inl (G_ne gq6 gq8 (by decide)))) (fun j => Wr.neI wH33296 (Or.inl (G_ne giq gq8 (by decide)))) b33287
        have b33325 : EQ (fun k => fI H33296 q7 k) (fun k => fI H33296 iq k) (68) (4) (x32838.toNatClampNeg + 1) := EQ.congr (fun j => Wr.neI wH33296 (Or.inl (G_ne gq7 gq8 (by decide)))) (fun j => Wr.neI wH33296 (Or.inl (G_ne giq gq8 (by decide)))) b33288
        have b33326 : EQ (fun k => fI H33296 q8 k) (fun k => fI H33296 iq k) (69) (4) (x32838.toNatClampNeg + 1) := EQ.st b33289 (i := x32838.toNatClampNeg) (t := x33102.toNatClampNeg) (by omega) m33235 (by omega) (Wr.I wH33296) (fun j hj => Wr.neI wH33296 (Or.inr hj)) (fun j => Wr.neI wH33296 (Or.inl (G_ne giq gq8 (by decide))))
        have b33327 : EQ (fun k => fI H33296 q9 k) (fun k => fI H33296 iq k) (706) (1) (0) := EQ.congr (fun j => Wr.neI wH33296 (Or.inl (G_ne gq9 gq8 (by decide)))) (fun j => Wr.neI wH33296 (Or.inl (G_ne giq gq8 (by decide)))) b33290
        have b33328 : EQ (fun k => fI H33296 q16 k) (fun k => fI H33296 iq k) (736) (3) (0) := EQ.congr (fun j => Wr.neI wH33296 (Or.inl (G_ne gq16 gq8 (by decide)))) (fun j => Wr.neI wH33296 (Or.inl (G_ne giq gq8 (by decide)))) b33291
        have b33329 : EQ (fun k => fI H33296 q60 k) (fun k => fI H33296 iq k) (737) (3) (0) := EQ.congr (fun j => Wr.neI wH33296 (Or.inl (G_ne gq60 gq8 (by decide)))) (fun j => Wr.neI wH33296 (Or.inl (G_ne giq gq8 (by decide)))) b33292
        have b33330 : EQ (fun k => fI H33296 q61 k) (fun k => fI H33296 iq k) (738) (3) (0) := EQ.congr (fun j => Wr.neI wH33296 (Or.inl (G_ne gq61 gq8 (by decide)))) (fun j => Wr.neI wH33296 (Or.inl (G_ne giq gq8 (by decide)))) b33293
        have b33331 : EQ (fun k => fI H33296 q11 k) (fun k => fI H33296 iq k) (796) (2) (0) := EQ.congr (fun j => Wr.neI wH33296 (Or.inl (G_ne gq11 gq8 (by decide)))) (fun j => Wr.neI wH33296 (Or.inl (G_ne giq gq8 (by decide)))) b33294
        have b33332 : EQ (fun k => fI H33296 q12 k) (fun k => fI H33296 iq k) (797) (2) (0) := EQ.congr (fun j => Wr.neI wH33296 (Or.inl (G_ne gq12 gq8 (by decide)))) (fun j => Wr.neI wH33296 (Or.inl (G_ne giq gq8 (by decide)))) b33295
        have m33333 := m33255.trans (Wr.neI wH33296 (Or.inl (G_ne gq5 gq8 (by decide)))).symm
        have m33334 := m33256.trans (Wr.neI wH33296 (Or.inl (G_ne gq6 gq8 (by decide)))).symm
        have m33335 := m33257.trans (Wr.neI wH33296 (Or.inl (G_ne gq7 gq8 (by decide)))).symm
        have m33337 := m33232.trans (Wr.neR wH33296 (Or.inl (G_ne ga0 gq8 (by decide)))).symm
        have m33338 := m33260.trans (Wr.neR wH33296 (Or.inl (G_ne ga0 gq8 (by decide)))).symm
        have m33339 := m33261.trans (Wr.neR wH33296 (Or.inl (G_ne ga0 gq8 (by decide)))).symm
        have m33340 := m33262.trans (Wr.neR wH33296 (Or.inl (G_ne ga0 gq8 (by decide)))).symm
        have m33341 := m33263.trans (Wr.neR wH33296 (Or.inl (G_ne ga0 gq8 (by decide)))).symm
        have m33342 := m33264.trans (Wr.neR wH33296 (Or.inl (G_ne ga0 gq8 (by decide)))).symm
        have m33343 := m33265.trans (Wr.neR wH33296 (Or.inl (G_ne ga0 gq8 (by decide)))).symm
        have m33344 := m33266.trans (Wr.neR wH33296 (Or.inl (G_ne ga0 gq8 (by decide)))).symm
        have m33345 := m33267.trans (Wr.neR wH33296 (Or.inl (G_ne ga0 gq8 (by decide)))).symm
        have m33346 := m33268.trans (Wr.neR wH33296 (Or.inl (G_ne ga0 gq8 (by decide)))).symm
        have m33347 := m33269.trans (Wr.neR wH33296 (Or.inl (G_ne ga0 gq8 (by decide)))).symm
        have m33348 := m33270.trans (Wr.neR wH33296 (Or.inl (G_ne ga0 gq8 (by decide)))).symm
        have m33349 := m33271.trans (Wr.neR wH33296 (Or.inl (G_ne ga0 gq8 (by decide)))).symm
        have m33350 := m33272.trans (Wr.neR wH33296 (Or.inl (G_ne ga0 gq8 (by decide)))).symm
        have m33351 := m33273.trans (Wr.neR wH33296 (Or.inl (G_ne ga0 gq8 (by decide)))).symm
        have m33352 := m33274.trans (Wr.neR wH33296 (Or.inl (G_ne ga0 gq8 (by decide)))).symm
        have m33353 := m33275.trans (Wr.neR wH33296 (Or.inl (G_ne ga0 gq8 (by decide)))).symm
        have m33354 := m33276.trans (Wr.neI wH33296 (Or.inl (G_ne ga0 gq8 (by decide)))).symm
        have m33355 := ex33231.trans (Wr.neI wH33296 (Or.inl (G_ne ga0 gq8 (by decide)))).symm
        have m33356 := Wr.I wH33296
        have m33356 := m33356.symm
        clear b33239 b33240 b33241 b33242 b33243 b33244 b33245 b33246 b33247 b33248 b33249 b33250 b33251 b33252 b33253 b33254 b33278 b33279 b33280 b33281 b33282 b33283 b33284 b33285 b33286 b33287 b33288 b33289 b33290 b33291 b33292 b33293 b33294 b33295 ex33231 g33233 hTH33229 m33232 m33255 m33256 m33257 m33258 m33260 m33261 m33262 m33263 m33264 m33265 m33266 m33267 m33268 m33269 m33270 m33271 m33272 m33273 m33274 m33275 m33276 mf33277
        obtain ⟨x33357, ex33357⟩ : ∃ y : Int32, y = x32838 + 1 := ⟨_, rfl⟩
        have tx33357 := i_add ex33357 (by omega)
        refine lv_iinc (v := x33357) (lv' := [(1, .int x33357), (0, .ref a0)]) hx hb dX10_keepsBars_183 hl32837 (k := 1) rfl (by rw [ex33357]; rfl) (by decide) rfl (fun ls33358 hl33359 => ?_)
        refine lv_goto (tgt := 112) hx hb dX10_keepsBars_186 (by decide) ?_
        have cl_x33357 := i_cl (x := x33357) (by omega)
        exact ih112 ls33358 H33296 locsH33296 (x33357) (x33231) (lv_sub hl33359 [1, 0] rfl) hTH33296 hSH33296 ⟨by have := i_rng x33357; omega, by have := i_rng x33357; omega⟩ bx33231 m33355 m33337 m33338 m33339 m33340 m33341 m33342 m33343 m33344 m33345 m33346 m33347 m33348 m33349 m33350 m33351 m33352 m33353 m33354 b33315 b33316 (EQ.cast b33317 (by omega)) (EQ.cast b33318 (by omega)) (EQ.cast b33319 (by omega)) (EQ.cast b33320 (by omega)) (EQ.cast b33321 (by omega)) (EQ.cast b33322 (by omega)) (EQ.cast b33323 (by omega)) (EQ.cast b33324 (by omega)) (EQ.cast b33325 (by omega)) (EQ.cast b33326 (by omega)) (EQ.cast b33327 (by omega)) (EQ.cast b33328 (by omega)) (EQ.cast b33329 (by omega)) (EQ.cast b33330 (by omega)) (EQ.cast b33331 (by omega)) (EQ.cast b33332 (by omega)) b33299 b33300 b33301 b33302 b33303 b33304 b33305 b33306 b33307 b33308 b33309 b33310 b33311 b33312 b33313 b33314 mf33297 g33298 (by omega) (by and_intros <;> first | assumption | omega)
  have J2 : ∀ (nf : Nat) (ls33361 : Array Slot) (H33360 : Heap) (locsH33360 : List Loc) (x33363 : Int32) (x33364 : Int32), lv_has ls33361 2 [(0, .ref a0), (1, .int x33363)] → TY K G H33360 → va_S (AE G [112, 162, 113, 119, 122, 123, 124, 146, 114, 115, 116, 117, 118, 125, 154, 155, 120, 121] s.heap.size) s.heap H33360 locsH33360 → (0 ≤ x33363.toInt ∧ x33363.toInt ≤ 10) → (0 ≤ x33364.toInt ∧ x33364.toInt ≤ 16400) → (x33364 = fI H33360 a0 (K.1.2 10 72)) → (EQN iq (fR H33360 a0 (K.1.2 10 73))) → (EQN q4 (fR H33360 a0 (K.1.2 10 4))) → (EQN q5 (fR H33360 a0 (K.1.2 10 5))) → (EQN q6 (fR H33360 a0 (K.1.2 10 6))) → (EQN q7 (fR H33360 a0 (K.1.2 10 7))) → (EQN q8 (fR H33360 a0 (K.1.2 10 8))) → (EQN q9 (fR H33360 a0 (K.1.2 10 9))) → (EQN q10 (fR H33360 a0 (K.1.2 10 10))) → (EQN q11 (fR H33360 a0 (K.1.2 10 11))) → (EQN q12 (fR H33360 a0 (K.1.2 10 12))) → (EQN q13 (fR H33360 a0 (K.1.2 10 13))) → (EQN q14 (fR H33360 a0 (K.1.2 10 14))) → (EQN q15 (fR H33360 a0 (K.1.2 10 15))) → (EQN q16 (fR H33360 a0 (K.1.2 10 16))) → (EQN q50 (fR H33360 a0 (K.1.2 10 50))) → (EQN q60 (fR H33360 a0 (K.1.2 10 60))) → (EQN q61 (fR H33360 a0 (K.1.2 10 61))) → (tk = fI H33360 a0 (K.1.2 10 71)) → (UN (tk.toInt = 0) (fun k => fI H33360 iq k) (fun k => fI s.heap iq k)) → (FB (fun k => fI H33360 iq k) (fun k => fI s.heap iq k) (6)) → (EQ (fun k => fI H33360 q4 k) (fun k => fI H33360 iq k) (6) (6) (x33363.toNatClampNeg)) → (EQ (fun k => fI H33360 q10 k) (fun k => fI H33360 iq k) (7) (6) (x33363.toNatClampNeg)) → (EQ (fun k => fI H33360 q13 k) (fun k => fI H33360 iq k) (8) (6) (x33363.toNatClampNeg)) → (EQ (fun k => fI H33360 q14 k) (fun k => fI H33360 iq k) (9) (6) (x33363.toNatClampNeg)) → (EQ (fun k => fI H33360 q15 k) (fun k => fI H33360 iq k) (10) (6) (x33363.toNatClampNeg)) → (EQ (fun k => fI H33360 q50 k) (fun k => fI H33360 iq k) (11) (6) (x33363.toNatClampNeg)) → (EQ (fun k => fI H33360 q5 k) (fun k => fI H33360 iq k) (66) (4) (0)) → (EQ (fun k => fI H33360 q6 k) (fun k => fI H33360 iq k) (67) (4) (0)) → (EQ (fun k => fI H33360 q7 k) (fun k => fI H33360 iq k) (68) (4) (0)) → (EQ (fun k => fI H33360 q8 k) (fun k => fI H33360 iq k) (69) (4) (0)) → (EQ (fun k => fI H33360 q9 k) (fun k => fI H33360 iq k) (706) (1) (0)) → (EQ (fun k => fI H33360 q16 k) (fun k => fI H33360 iq k) (736) (3) (0)) → (EQ (fun k => fI H33360 q60 k) (fun k => fI H33360 iq k) (737) (3) (0)) → (EQ (fun k => fI H33360 q61 k) (fun k => fI H33360 iq k) (738) (3) (0)) → (EQ (fun k => fI H33360 q11 k) (fun k => fI H33360 iq k) (796) (2) (0)) → (EQ (fun k => fI H33360 q12 k) (fun k => fI H33360 iq k) (797) (2) (0)) → (UN (tk.toInt ≠ 0) (fun k => fI H33360 q4 k) (fun k => fI s.heap q4 k)) → (UN (tk.toInt ≠ 0) (fun k => fI H33360 q10 k) (fun k => fI s.heap q10 k)) → (UN (tk.toInt ≠ 0) (fun k => fI H33360 q13 k) (fun k => fI s.heap q13 k)) → (UN (tk.toInt ≠ 0) (fun k => fI H33360 q14 k) (fun k => fI s.heap q14 k)) → (UN (tk.toInt ≠ 0) (fun k => fI H33360 q15 k) (fun k => fI s.heap q15 k)) → (UN (tk.toInt ≠ 0) (fun k => fI H33360 q50 k) (fun k => fI s.heap q50 k)) → (UN (tk.toInt ≠ 0) (fun k => fI H33360 q5 k) (fun k => fI s.heap q5 k)) → (UN (tk.toInt ≠ 0) (fun k => fI H33360 q6 k) (fun k => fI s.heap q6 k)) → (UN (tk.toInt ≠ 0) (fun k => fI H33360 q7 k) (fun k => fI s.heap q7 k)) → (UN (tk.toInt ≠ 0) (fun k => fI H33360 q8 k) (fun k => fI s.heap q8 k)) → (UN (tk.toInt ≠ 0) (fun k => fI H33360 q9 k) (fun k => fI s.heap q9 k)) → (UN (tk.toInt ≠ 0) (fun k => fI H33360 q16 k) (fun k => fI s.heap q16 k)) → (UN (tk.toInt ≠ 0) (fun k => fI H33360 q60 k) (fun k => fI s.heap q60 k)) → (UN (tk.toInt ≠ 0) (fun k => fI H33360 q61 k) (fun k => fI s.heap q61 k)) → (UN (tk.toInt ≠ 0) (fun k => fI H33360 q11 k) (fun k => fI s.heap q11 k)) → (UN (tk.toInt ≠ 0) (fun k => fI H33360 q12 k) (fun k => fI s.heap q12 k)) → (MF K s.heap H33360 a0 [72]) → (WD (avw K H33360 a0)) → (10 - x33363.toInt < (nf : Int)) → (x33364.toInt = 6 + 6 * x33363.toInt) → W p l e ({ frames := 1, cells := 0, slots := 0, locals := 21 } : Room) s m (([.ref a0] : List Value).toArray) below meth c H33360 locsH33360 0 0 Q (F0 m 2 ls33361 []) := by
    intro nf
    induction nf with
    | zero =>
      intro ls33361 H33360 locsH33360 x33363 x33364 hl33362 hTH33360 hSH33360 bx33363 bx33364 ex33364 cy33365_0 cy33365_1 cy33365_2 cy33365_3 cy33365_4 cy33365_5 cy33365_6 cy33365_7 cy33365_8 cy33365_9 cy33365_10 cy33365_11 cy33365_12 cy33365_13 cy33365_14 cy33365_15 cy33365_16 cy33365_17 by33365_ui by33365_fb by33365_e4 by33365_e10 by33365_e13 by33365_e14 by33365_e15 by33365_e50 by33365_e5 by33365_e6 by33365_e7 by33365_e8 by33365_e9 by33365_e16 by33365_e60 by33365_e61 by33365_e11 by33365_e12 by33365_u4 by33365_u10 by33365_u13 by33365_u14 by33365_u15 by33365_u50 by33365_u5 by33365_u6 by33365_u7 by33365_u8 by33365_u9 by33365_u16 by33365_u60 by33365_u61 by33365_u11 by33365_u12 mfy33365 gy33365_WD hm2 iv2
      exfalso
      omega
    | succ nf ih2 =>
      intro ls33361 H33360 locsH33360 x33363 x33364 hl33362 hTH33360 hSH33360 bx33363 bx33364 ex33364 cy33365_0 cy33365_1 cy33365_2 cy33365_3 cy33365_4 cy33365_5 cy33365_6 cy33365_7 cy33365_8 cy33365_9 cy33365_10 cy33365_11 cy33365_12 cy33365_13 cy33365_14 cy33365_15 cy33365_16 cy33365_17 by33365_ui by33365_fb by33365_e4 by33365_e10 by33365_e13 by33365_e14 by33365_e15 by33365_e50 by33365_e5 by33365_e6 by33365_e7 by33365_e8 by33365_e9 by33365_e16 by33365_e60 by33365_e61 by33365_e11 by33365_e12 by33365_u4 by33365_u10 by33365_u13 by33365_u14 by33365_u15 by33365_u50 by33365_u5 by33365_u6 by33365_u7 by33365_u8 by33365_u9 by33365_u16 by33365_u60 by33365_u61 by33365_u11 by33365_u12 mfy33365 gy33365_WD hm2 iv2
      refine lv_iload_n hx hb dX10_keepsBars_2 rfl (lv_at hl33362 1 rfl) ?_
      refine lv_bipush (v := 10) hx hb dX10_keepsBars_3 (by decide) ?_
      refine lv_icmp_ge (tgt := 110) hx hb dX10_keepsBars_5 (by decide) (fun c33366 => ?_) (fun c33366 => ?_)
      · have k33367 := i_le c33366
        refine lv_iconst (v := 0) hx hb dX10_keepsBars_110 (by decide) ?_
        refine lv_istore_n (lv' := [(1, .int 0), (0, .ref a0)]) hx hb dX10_keepsBars_111 rfl hl33362 (by decide) rfl (fun ls33368 hl33369 => ?_)
        have cl00 : (0 : Int32).toNatClampNeg = 0 := rfl
        have cl_x33363 := i_cl (x := x33363) bx33363.1
        exact J112 ((160 - (0 : Int32).toInt).toNat + 1) ls33368 H33360 locsH33360 (0) (x33364) (lv_sub hl33369 [1, 0] rfl) hTH33360 hSH33360 (by decide) bx33364 ex33364 cy33365_0 cy33365_1 cy33365_2 cy33365_3 cy33365_4 cy33365_5 cy33365_6 cy33365_7 cy33365_8 cy33365_9 cy33365_10 cy33365_11 cy33365_12 cy33365_13 cy33365_14 cy33365_15 cy33365_16 cy33365_17 by33365_ui by33365_fb (EQ.cast by33365_e4 (by omega)) (EQ.cast by33365_e10 (by omega)) (EQ.cast by33365_e13 (by omega)) (EQ.cast by33365_e14 (by omega)) (EQ.cast by33365_e15 (by omega)) (EQ.cast by33365_e50 (by omega)) (EQ.cast by33365_e5 (by omega)) (EQ.cast by33365_e6 (by omega)) (EQ.cast by33365_e7 (by omega)) (EQ.cast by33365_e8 (by omega)) (EQ.cast by33365_e9 (by omega)) (EQ.cast by33365_e16 (by omega)) (EQ.cast by33365_e60 (by omega)) (EQ.cast by33365_e61 (by omega)) (EQ.cast by33365_e11 (by omega)) (EQ.cast by33365_e12 (by omega)) by33365_u4 by33365_u10 by33365_u13 by33365_u14 by33365_u15 by33365_u50 by33365_u5 by33365_u6 by33365_u7 by33365_u8 by33365_u9 by33365_u16 by33365_u60 by33365_u61 by33365_u11 by33365_u12 mfy33365 gy33365_WD (by omega) (by and_intros <;> first | assumption | omega)
      · have k33367 := i_nle c33366
        refine lv_aload_n hx hb dX10_keepsBars_8 rfl (lv_at hl33362 0 rfl) ?_
        refine x_gr C hTH33360 (ci := 10) (k := 4) rfl inX10 (by decide) wF_X10_13 ga0 rg_112 rfl dX10_keepsBars_9 (fun q33370 eq33370 gq33370 => ?_)
        have uq33370 : q4 = q33370 := (cy33365_1).trans eq33370.symm
        subst uq33370
        clear eq33370
        refine lv_iload_n hx hb dX10_keepsBars_12 rfl (lv_at hl33362 1 rfl) ?_
        refine lv_aload_n hx hb dX10_keepsBars_13 rfl (lv_at hl33362 0 rfl) ?_
        refine lv_aload_n hx hb dX10_keepsBars_14 rfl (lv_at hl33362 0 rfl) ?_
        refine x_gr C hTH33360 (ci := 10) (k := 4) rfl inX10 (by decide) wF_X10_13 ga0 rg_112 rfl dX10_keepsBars_15 (fun q33371 eq33371 gq33371 => ?_)
        have uq33371 : q4 = q33371 := (cy33365_1).trans eq33371.symm
        subst uq33371
        clear eq33371
        refine lv_iload_n hx hb dX10_keepsBars_18 rfl (lv_at hl33362 1 rfl) ?_
        refine x_ai C hTH33360 gq4 rg_113 ⟨bx33363.1, by show _ < ((10 : Nat) : Int); omega⟩ dX10_keepsBars_19 (fun x33372 ex33372 bx33372 => ?_)
        refine x_V (As := [.int x33372]) (rest := [.int x33363, .ref q4]) C (a_X10_kept l K G H33360 (x33372) (x33364) (tk) hTH33360 ga0 giq cy33365_0 ex33364 cy33365_17 gy33365_WD (by and_intros <;> first | assumption | omega)) yo_X10_kept wM_X10_473 ⟨⟨by decide, by decide⟩, by decide, by decide⟩ (x_rv C hTH33360 (ci := 10) rfl ga0 rg_112) rfl hl33362.1 rfl (Nat.le_of_ble_eq_true rfl) dX10_keepsBars_20 hSH33360 (AE_sub (fun _ _ => rfl) (by decide) hSH33360.1) (fun vH33373 H33373 locsH33373 pH33373 zH33373 kH33373 hSH33373 => ?_)
        obtain ⟨x33374, x33375, hvH33373, ex33375, hrH33373, m33376, g33377, mf33378, m33379, m33380, m33381, m33382, hTH33373⟩ := pH33373
        subst hvH33373
        clear zH33373
        replace m33376 := EQN.mk m33376
        have b33383 : UN (tk.toInt ≠ 0) (fun k => fI H33373 q4 k) (fun k => fI s.heap q4 k) := UN.congr (fun j => fI_kept (x_lt hTH33360 kH33373 gq4 (by decide))) by33365_u4
        have b33384 : UN (tk.toInt ≠ 0) (fun k => fI H33373 q10 k) (fun k => fI s.heap q10 k) := UN.congr (fun j => fI_kept (x_lt hTH33360 kH33373 gq10 (by decide))) by33365_u10
        have b33385 : UN (tk.toInt ≠ 0) (fun k => fI H33373 q13 k) (fun k => fI s.heap q13 k) := UN.congr (fun j => fI_kept (x_lt hTH33360 kH33373 gq13 (by decide))) by33365_u13
        have b33386 : UN (tk.toInt ≠ 0) (fun k => fI H33373 q14 k) (fun k => fI s.heap q14 k) := UN.congr (fun j => fI_kept (x_lt hTH33360 kH33373 gq14 (by decide))) by33365_u14
        have b33387 : UN (tk.toInt ≠ 0) (fun k => fI H33373 q15 k) (fun k => fI s.heap q15 k) := UN.congr (fun j => fI_kept (x_lt hTH33360 kH33373 gq15 (by decide))) by33365_u15
        have b33388 : UN (tk.toInt ≠ 0) (fun k => fI H33373 q50 k) (fun k => fI s.heap q50 k) := UN.congr (fun j => fI_kept (x_lt hTH33360 kH33373 gq50 (by decide))) by33365_u50
        have b33389 : UN (tk.toInt ≠ 0) (fun k => fI H33373 q5 k) (fun k => fI s.heap q5 k) := UN.congr (fun j => fI_kept (x_lt hTH33360 kH33373 gq5 (by decide))) by33365_u5
        have b33390 : UN (tk.toInt ≠ 0) (fun k => fI H33373 q6 k) (fun k => fI s.heap q6 k) := UN.congr (fun j => fI_kept (x_lt hTH33360 kH33373 gq6 (by decide))) by33365_u6
        have b33391 : UN (tk.toInt ≠ 0) (fun k => fI H33373 q7 k) (fun k => fI s.heap q7 k) := UN.congr (fun j => fI_kept (x_lt hTH33360 kH33373 gq7 (by decide))) by33365_u7
        have b33392 : UN (tk.toInt ≠ 0) (fun k => fI H33373 q8 k) (fun k => fI s.heap q8 k) := UN.congr (fun j => fI_kept (x_lt hTH33360 kH33373 gq8 (by decide))) by33365_u8
        have b33393 : UN (tk.toInt ≠ 0) (fun k => fI H33373 q9 k) (fun k => fI s.heap q9 k) := UN.congr (fun j => fI_kept (x_lt hTH33360 kH33373 gq9 (by decide))) by33365_u9
        have b33394 : UN (tk.toInt ≠ 0) (fun k => fI H33373 q16 k) (fun k => fI s.heap q16 k) := UN.congr (fun j => fI_kept (x_lt hTH33360 kH33373 gq16 (by decide))) by33365_u16
        have b33395 : UN (tk.toInt ≠ 0) (fun k => fI H33373 q60 k) (fun k => fI s.heap q60 k) := UN.congr (fun j => fI_kept (x_lt hTH33360 kH33373 gq60 (by decide))) by33365_u60
        have b33396 : UN (tk.toInt ≠ 0) (fun k => fI H33373 q61 k) (fun k => fI s.heap q61 k) := UN.congr (fun j => fI_kept (x_lt hTH33360 kH33373 gq61 (by decide))) by33365_u61
        have b33397 : UN (tk.toInt ≠ 0) (fun k => fI H33373 q11 k) (fun k => fI s.heap q11 k) := UN.congr (fun j => fI_kept (x_lt hTH33360 kH33373 gq11 (by decide))) by33365_u11
        have b33398 : UN (tk.toInt ≠ 0) (fun k => fI H33373 q12 k) (fun k => fI s.heap q12 k) := UN.congr (fun j => fI_kept (x_lt hTH33360 kH33373 gq12 (by decide))) by33365_u12
        have m33399 := (ex33372).trans (fI_kept (x_lt hTH33360 kH33373 gq4 (by decide))).symm
        have m33400 := (cy33365_0).trans (MF.r mf33378 (k := 73) (by decide) (by decide)).symm
        have m33401 := (cy33365_1).trans (MF.r mf33378 (k := 4) (by decide) (by decide)).symm
        have m33402 := (cy33365_2).trans (MF.r mf33378 (k := 5) (by decide) (by decide)).symm
        have m33403 := (cy33365_3).trans (MF.r mf33378 (k := 6) (by decide) (by decide)).symm
        have m33404 := (cy33365_4).trans (MF.r mf33378 (k := 7) (by decide) (by decide)).symm
        have m33405 := (cy33365_5).trans (MF.r mf33378 (k := 8) (by decide) (by decide)).symm
        have m33406 := (cy33365_6).trans (MF.r mf33378 (k := 9) (by decide) (by decide)).symm
        have m33407 := (cy33365_7).trans (MF.r mf33378 (k := 10) (by decide) (by decide)).symm
        have m33408 := (cy33365_8).trans (MF.r mf33378 (k := 11) (by decide) (by decide)).symm
        have m33409 := (cy33365_9).trans (MF.r mf33378 (k := 12) (by decide) (by decide)).symm
        have m33410 := (cy33365_10).trans (MF.r mf33378 (k := 13) (by decide) (by decide)).symm
        have m33411 := (cy33365_11).trans (MF.r mf33378 (k := 14) (by decide) (by decide)).symm
        have m33412 := (cy33365_12).trans (MF.r mf33378 (k := 15) (by decide) (by decide)).symm
        have m33413 := (cy33365_13).trans (MF.r mf33378 (k := 16) (by decide) (by decide)).symm
        have m33414 := (cy33365_14).trans (MF.r mf33378 (k := 50) (by decide) (by decide)).symm
        have m33415 := (cy33365_15).trans (MF.r mf33378 (k := 60) (by decide) (by decide)).symm
        have m33416 := (cy33365_16).trans (MF.r mf33378 (k := 61) (by decide) (by decide)).symm
        have m33417 := (cy33365_17).trans (MF.i mf33378 (k := 71) (by decide) (by decide)).symm
        have mf33418 : MF K s.heap H33373 a0 [72] := MF.trans mfy33365 mf33378 (by decide)
        have bx33375 := ty_fi (x := x33375) (k := 72) ex33375 hTH33373 ga0 rg_112 rfl
        have ce_x33363 := i_cl (x := x33363) bx33363.1
        have ce_x33364 := i_cl (x := x33364) bx33364.1
        have e_ : x33364.toNatClampNeg = 6 + 6 * x33363.toNatClampNeg := by omega
        have k3e_ := m33381
        rw [e_] at k3e_
        have b33419 : UN (tk.toInt = 0) (fun k => fI H33373 iq k) (fun k => fI s.heap iq k) := UN.tr m33382 by33365_ui
        have b33420 : FB (fun k => fI H33373 iq k) (fun k => fI s.heap iq k) (6) := FB.wr by33365_fb k3e_ (fun j hj => Nat.ne_of_lt (Nat.lt_of_lt_of_le hj (Nat.le_trans (by decide : 6 ≤ 6) (Nat.le_add_right _ _))))
        have b33421 : EQ (fun k => fI H33373 q4 k) (fun k => fI H33373 iq k) (6) (6) (x33363.toNatClampNeg) := EQ.wr (EQ.congr (w1 := fun k => fI H33360 iq k) (fun j => fI_kept (x_lt hTH33360 kH33373 gq4 (by decide))) (fun _ => rfl) by33365_e4) k3e_ (fun j hj => nE_6_6_i_6_6 hj)
        have b33422 : EQ (fun k => fI H33373 q10 k) (fun k => fI H33373 iq k) (7) (6) (x33363.toNatClampNeg) := EQ.wr (EQ.congr (w1 := fun k => fI H33360 iq k) (fun j => fI_kept (x_lt hTH33360 kH33373 gq10 (by decide))) (fun _ => rfl) by33365_e10) k3e_ (fun j hj => nE_7_6_i_6_6 hj)
        have b33423 : EQ (fun k => fI H33373 q13 k) (fun k => fI H33373 iq k) (8) (6) (x33363.toNatClampNeg) := EQ.wr (EQ.congr (w1 := fun k => fI H33360 iq k) (fun j => fI_kept (x_lt hTH33360 kH33373 gq13 (by decide))) (fun _ => rfl) by33365_e13) k3e_ (fun j hj => nE_8_6_i_6_6 hj)
        have b33424 : EQ (fun k => fI H33373 q14 k) (fun k => fI H33373 iq k) (9) (6) (x33363.toNatClampNeg) := EQ.wr (EQ.congr (w1 := fun k => fI H33360 iq k) (fun j => fI_kept (x_lt hTH33360 kH33373 gq14 (by decide))) (fun _ => rfl) by33365_e14) k3e_ (fun j hj => nE_9_6_i_6_6 hj)
        have b33425 : EQ (fun k => fI H33373 q15 k) (fun k => fI H33373 iq k) (10) (6) (x33363.toNatClampNeg) := EQ.wr (EQ.congr (w1 := fun k => fI H33360 iq k) (fun j => fI_kept (x_lt hTH33360 kH33373 gq15 (by decide))) (fun _ => rfl) by33365_e15) k3e_ (fun j hj => nE_10_6_i_6_6 hj)
        have b33426 : EQ (fun k => fI H33373 q50 k) (fun k => fI H33373 iq k) (11) (6) (x33363.toNatClampNeg) := EQ.wr (EQ.congr (w1 := fun k => fI H33360 iq k) (fun j => fI_kept (x_lt hTH33360 kH33373 gq50 (by decide))) (fun _ => rfl) by33365_e50) k3e_ (fun j hj => nE_11_6_i_6_6 hj)
        have b33427 : EQ (fun k => fI H33373 q5 k) (fun k => fI H33373 iq k) (66) (4) (0) := EQ.wr (EQ.congr (w1 := fun k => fI H33360 iq k) (fun j => fI_kept (x_lt hTH33360 kH33373 gq5 (by decide))) (fun _ => rfl) by33365_e5) k3e_ (fun j hj => nE_66_4_0_6_6 hj)
        have b33428 : EQ (fun k => fI H33373 q6 k) (fun k => fI H33373 iq k) (67) (4) (0) := EQ.wr (EQ.congr (w1 := fun k => fI H33360 iq k) (fun j => fI_kept (x_lt hTH33360 kH33373 gq6 (by decide))) (fun _ => rfl) by33365_e6) k3e_ (fun j hj => nE_67_4_0_6_6 hj)
        have b33429 : EQ (fun k => fI H33373 q7 k) (fun k => fI H33373 iq k) (68) (4) (0) := EQ.wr (EQ.congr (w1 := fun k => fI H33360 iq k) (fun j => fI_kept (x_lt hTH33360 kH33373 gq7 (by decide))) (fun _ => rfl) by33365_e7) k3e_ (fun j hj => nE_68_4_0_6_6 hj)
        have b33430 : EQ (fun k => fI H33373 q8 k) (fun k => fI H33373 iq k) (69) (4) (0) := EQ.wr (EQ.congr (w1 := fun k => fI H33360 iq k) (fun j => fI_kept (x_lt hTH33360 kH33373 gq8 (by decide))) (fun _ => rfl) by33365_e8) k3e_ (fun j hj => nE_69_4_0_6_6 hj)
        have b33431 : EQ (fun k => fI H33373 q9 k) (fun k => fI H33373 iq k) (706) (1) (0) := EQ.wr (EQ.congr (w1 := fun k => fI H33360 iq k) (fun j => fI_kept (x_lt hTH33360 kH33373 gq9 (by decide))) (fun _ => rfl) by33365_e9) k3e_ (fun j hj => nE_706_1_0_6_6 hj)
        have b33432 : EQ (fun k => fI H33373 q16 k) (fun k => fI H33373 iq k) (736) (3) (0) := EQ.wr (EQ.congr (w1 := fun k => fI H33360 iq k) (fun j => fI_kept (x_lt hTH33360 kH33373 gq16 (by decide))) (fun _ => rfl) by33365_e16) k3e_ (fun j hj => nE_736_3_0_6_6 hj)
        have b33433 : EQ (fun k => fI H33373 q60 k) (fun k => fI H33373 iq k) (737) (3) (0) := EQ.wr (EQ.congr (w1 := fun k => fI H33360 iq k) (fun j => fI_kept (x_lt hTH33360 kH33373 gq60 (by decide))) (fun _ => rfl) by33365_e60) k3e_ (fun j hj => nE_737_3_0_6_6 hj)
        have b33434 : EQ (fun k => fI H33373 q61 k) (fun k => fI H33373 iq k) (738) (3) (0) := EQ.wr (EQ.congr (w1 := fun k => fI H33360 iq k) (fun j => fI_kept (x_lt hTH33360 kH33373 gq61 (by decide))) (fun _ => rfl) by33365_e61) k3e_ (fun j hj => nE_738_3_0_6_6 hj)
        have b33435 : EQ (fun k => fI H33373 q11 k) (fun k => fI H33373 iq k) (796) (2) (0) := EQ.wr (EQ.congr (w1 := fun k => fI H33360 iq k) (fun j => fI_kept (x_lt hTH33360 kH33373 gq11 (by decide))) (fun _ => rfl) by33365_e11) k3e_ (fun j hj => nE_796_2_0_6_6 hj)
        have b33436 : EQ (fun k => fI H33373 q12 k) (fun k => fI H33373 iq k) (797) (2) (0) := EQ.wr (EQ.congr (w1 := fun k => fI H33360 iq k) (fun j => fI_kept (x_lt hTH33360 kH33373 gq12 (by decide))) (fun _ => rfl) by33365_e12) k3e_ (fun j hj => nE_797_2_0_6_6 hj)
        clear by33365_e10 by33365_e11 by33365_e12 by33365_e13 by33365_e14 by33365_e15 by33365_e16 by33365_e4 by33365_e5 by33365_e50 by33365_e6 by33365_e60 by33365_e61 by33365_e7 by33365_e8 by33365_e9 by33365_fb by33365_u10 by33365_u11 by33365_u12 by33365_u13 by33365_u14 by33365_u15 by33365_u16 by33365_u4 by33365_u5 by33365_u50 by33365_u6 by33365_u60 by33365_u61 by33365_u7 by33365_u8 by33365_u9 by33365_ui cy33365_0 cy33365_1 cy33365_10 cy33365_11 cy33365_12 cy33365_13 cy33365_14 cy33365_15 cy33365_16 cy33365_17 cy33365_2 cy33365_3 cy33365_4 cy33365_5 cy33365_6 cy33365_7 cy33365_8 cy33365_9 ex33364 ex33372
        clear m33381 m33382 k3e_ e_
        have bx33374 : 0 ≤ x33374.toInt ∧ x33374.toInt ≤ 16 := kr (fun h0 => by have hiw := (hy0 h0); exact kr0 (w := fun k => fI H33373 iq k) m33379 (p := 6 + 6 * x33363.toNatClampNeg) (by omega) (b33419 h0) ((hiw.2.1 x33363.toNatClampNeg (by omega)).1)) m33380 (by omega)
        refine W.eq (g2 := F0 m 23 ls33361 [.int x33374, .int x33363, .ref q4]) rfl ?_
        refine x_iast C hTH33373 hSH33373 gq4 rg_113 bx33363.1 (by show _ < ((10 : Nat) : Int); omega) ⟨by have := i_rng x33374; omega, by have := i_rng x33374; omega⟩ (AE_in gq4 (by decide)) dX10_keepsBars_23 (fun H33437 locsH33437 hTH33437 hSH33437 wH33437 => ?_)
        have mf33438 : MF K s.heap H33437 a0 [72] := MF.arr wH33437 (G_ne ga0 gq4 (by decide)) mf33418
        have g33439 : WD (avw K H33437 a0) := WD.congr (fun k hk j => av_arr hTH33373 ga0 wH33437 gq4 (by decide) (WD_ok 113 (by decide) k hk)) g33377
        have b33440 : UN (tk.toInt ≠ 0) (fun k => fI H33437 q4 k) (fun k => fI s.heap q4 k) := UN.st b33383 (i := x33363.toNatClampNeg) (fun hc => (m33380 hc).trans m33399) (Wr.I wH33437) (fun j hj => Wr.neI wH33437 (Or.inr hj))
        have b33441 : UN (tk.toInt ≠ 0) (fun k => fI H33437 q10 k) (fun k => fI s.heap q10 k) := UN.congr (fun j => Wr.neI wH33437 (Or.inl (G_ne gq10 gq4 (by decide)))) b33384
        have b33442 : UN (tk.toInt ≠ 0) (fun k => fI H33437 q13 k) (fun k => fI s.heap q13 k) := UN.congr (fun j => Wr.neI wH33437 (Or.inl (G_ne gq13 gq4 (by decide)))) b33385
        have b33443 : UN (tk.toInt ≠ 0) (fun k => fI H33437 q14 k) (fun k => fI s.heap q14 k) := UN.congr (fun j => Wr.neI wH33437 (Or.inl (G_ne gq14 gq4 (by decide)))) b33386
        have b33444 : UN (tk.toInt ≠ 0) (fun k => fI H33437 q15 k) (fun k => fI s.heap q15 k) := UN.congr (fun j => Wr.neI wH33437 (Or.inl (G_ne gq15 gq4 (by decide)))) b33387
        have b33445 : UN (tk.toInt ≠ 0) (fun k => fI H33437 q50 k) (fun k => fI s.heap q50 k) := UN.congr (fun j => Wr.neI wH33437 (Or.inl (G_ne gq50 gq4 (by decide)))) b33388
        have b33446 : UN (tk.toInt ≠ 0) (fun k => fI H33437 q5 k) (fun k => fI s.heap q5 k) := UN.congr (fun j => Wr.neI wH33437 (Or.inl (G_ne gq5 gq4 (by decide)))) b33389
        have b33447 : UN (tk.toInt ≠ 0) (fun k => fI H33437 q6 k) (fun k => fI s.heap q6 k) := UN.congr (fun j => Wr.neI wH33437 (Or.inl (G_ne gq6 gq4 (by decide)))) b33390
        have b33448 : UN (tk.toInt ≠ 0) (fun k => fI H33437 q7 k) (fun k => fI s.heap q7 k) := UN.congr (fun j => Wr.neI wH33437 (Or.inl (G_ne gq7 gq4 (by decide)))) b33391
        have b33449 : UN (tk.toInt ≠ 0) (fun k => fI H33437 q8 k) (fun k => fI s.heap q8 k) := UN.congr (fun j => Wr.neI wH33437 (Or.inl (G_ne gq8 gq4 (by decide)))) b33392
        have b33450 : UN (tk.toInt ≠ 0) (fun k => fI H33437 q9 k) (fun k => fI s.heap q9 k) := UN.congr (fun j => Wr.neI wH33437 (Or.inl (G_ne gq9 gq4 (by decide)))) b33393
        have b33451 : UN (tk.toInt ≠ 0) (fun k => fI H33437 q16 k) (fun k => fI s.heap q16 k) := UN.congr (fun j => Wr.neI wH33437 (Or.inl (G_ne gq16 gq4 (by decide)))) b33394
        have b33452 : UN (tk.toInt ≠ 0) (fun k => fI H33437 q60 k) (fun k => fI s.heap q60 k) := UN.congr (fun j => Wr.neI wH33437 (Or.inl (G_ne gq60 gq4 (by decide)))) b33395
        have b33453 : UN (tk.toInt ≠ 0) (fun k => fI H33437 q61 k) (fun k => fI s.heap q61 k) := UN.congr (fun j => Wr.neI wH33437 (Or.inl (G_ne gq61 gq4 (by decide)))) b33396
        have b33454 : UN (tk.toInt ≠ 0) (fun k => fI H33437 q11 k) (fun k => fI s.heap q11 k) := UN.congr (fun j => Wr.neI wH33437 (Or.inl (G_ne gq11 gq4 (by decide)))) b33397
        have b33455 : UN (tk.toInt ≠ 0) (fun k => fI H33437 q12 k) (fun k => fI s.heap q12 k) := UN.congr (fun j => Wr.neI wH33437 (Or.inl (G_ne gq12 gq4 (by decide)))) b33398
        have b33456 : UN (tk.toInt = 0) (fun k => fI H33437 iq k) (fun k => fI s.heap iq k) := UN.congr (fun j => Wr.neI wH33437 (Or.inl (G_ne giq gq4 (by decide)))) b33419
        have b33457 : FB (fun k => fI H33437 iq k) (fun k => fI s.heap iq k) (6) := FB.congr (fun j => Wr.neI wH33437 (Or.inl (G_ne giq gq4 (by decide)))) b33420
        have b33458 : EQ (fun k => fI H33437 q4 k) (fun k => fI H33437 iq k) (6) (6) (x33363.toNatClampNeg + 1) := EQ.st b33421 (i := x33363.toNatClampNeg) (t := x33364.toNatClampNeg) (by omega) m33379 (by omega) (Wr.I wH33437) (fun j hj => Wr.neI wH33437 (Or.inr hj)) (fun j => Wr.neI wH33437 (Or.inl (G_ne giq gq4 (by decide))))
        have b33459 : EQ (fun k => fI H33437 q10 k) (fun k => fI H33437 iq k) (7) (6) (x33363.toNatClampNeg) := EQ.congr (fun j => Wr.neI wH33437 (Or.inl (G_ne gq10 gq4 (by decide)))) (fun j => Wr.neI wH33437 (Or.inl (G_ne giq gq4 (by decide)))) b33422
        have b33460 : EQ (fun k => fI H33437 q13 k) (fun k => fI H33437 iq k) (8) (6) (x33363.toNatClampNeg) := EQ.congr (fun j => Wr.neI wH33437 (Or.inl (G_ne gq13 gq4 (by decide)))) (fun j => Wr.neI wH33437 (Or.inl (G_ne giq gq4 (by decide)))) b33423
        have b33461 : EQ (fun k => fI H33437 q14 k) (fun k => fI H33437 iq k) (9) (6) (x33363.toNatClampNeg) := EQ.congr (fun j => Wr.neI wH33437 (Or.inl (G_ne gq14 gq4 (by decide)))) (fun j => Wr.neI wH33437 (Or.inl (G_ne giq gq4 (by decide)))) b33424
        have b33462 : EQ (fun k => fI H33437 q15 k) (fun k => fI H33437 iq k) (10) (6) (x33363.toNatClampNeg) := EQ.congr (fun j => Wr.neI wH33437 (Or.inl (G_ne gq15 gq4 (by decide)))) (fun j => Wr.neI wH33437 (Or.inl (G_ne giq gq4 (by decide)))) b33425
        have b33463 : EQ (fun k => fI H33437 q50 k) (fun k => fI H33437 iq k) (11) (6) (x33363.toNatClampNeg) := EQ.congr (fun j => Wr.neI wH33437 (Or.inl (G_ne gq50 gq4 (by decide)))) (fun j => Wr.neI wH33437 (Or.inl (G_ne giq gq4 (by decide)))) b33426
        have b33464 : EQ (fun k => fI H33437 q5 k) (fun k => fI H33437 iq k) (66) (4) (0) := EQ.congr (fun j => Wr.neI wH33437 (Or.inl (G_ne gq5 gq4 (by decide)))) (fun j => Wr.neI wH33437 (Or.inl (G_ne giq gq4 (by decide)))) b33427
        have b33465 : EQ (fun k => fI H33437 q6 k) (fun k => fI H33437 iq k) (67) (4) (0) := EQ.congr (fun j => Wr.neI wH33437 (Or.inl (G_ne gq6 gq4 (by decide)))) (fun j => Wr.neI wH33437 (Or.inl (G_ne giq gq4 (by decide)))) b33428
        have b33466 : EQ (fun k => fI H33437 q7 k) (fun k => fI H33437 iq k) (68) (4) (0) := EQ.congr (fun j => Wr.neI wH33437 (Or.inl (G_ne gq7 gq4 (by decide)))) (fun j => Wr.neI wH33437 (Or.inl (G_ne giq gq4 (by decide)))) b33429
        have b33467 : EQ (fun k => fI H33437 q8 k) (fun k => fI H33437 iq k) (69) (4) (0) := EQ.congr (fun j => Wr.neI wH33437 (Or.inl (G_ne gq8 gq4 (by decide)))) (fun j => Wr.neI wH33437 (Or.inl (G_ne giq gq4 (by decide)))) b33430
        have b33468 : EQ (fun k => fI H33437 q9 k) (fun k => fI H33437 iq k) (706) (1) (0) := EQ.congr (fun j => Wr.neI wH33437 (Or.inl (G_ne gq9 gq4 (by decide)))) (fun j => Wr.neI wH33437 (Or.inl (G_ne giq gq4 (by decide)))) b33431
        have b33469 : EQ (fun k => fI H33437 q16 k) (fun k => fI H33437 iq k) (736) (3) (0) := EQ.congr (fun j => Wr.neI wH33437 (Or.inl (G_ne gq16 gq4 (by decide)))) (fun j => Wr.neI wH33437 (Or.inl (G_ne giq gq4 (by decide)))) b33432
        have b33470 : EQ (fun k => fI H33437 q60 k) (fun k => fI H33437 iq k) (737) (3) (0) := EQ.congr (fun j => Wr.neI wH33437 (Or.inl (G_ne gq60 gq4 (by decide)))) (fun j => Wr.neI wH33437 (Or.inl (G_ne giq gq4 (by decide)))) b33433
        have b33471 : EQ (fun k => fI H33437 q61 k) (fun k => fI H33437 iq k) (738) (3) (0) := EQ.congr (fun j => Wr.neI wH33437 (Or.inl (G_ne gq61 gq4 (by decide)))) (fun j => Wr.neI wH33437 (Or.inl (G_ne giq gq4 (by decide)))) b33434
        have b33472 : EQ (fun k => fI H33437 q11 k) (fun k => fI H33437 iq k) (796) (2) (0) := EQ.congr (fun j => Wr.neI wH33437 (Or.inl (G_ne gq11 gq4 (by decide)))) (fun j => Wr.neI wH33437 (Or.inl (G_ne giq gq4 (by decide)))) b33435
        have b33473 : EQ (fun k => fI H33437 q12 k) (fun k => fI H33437 iq k) (797) (2) (0) := EQ.congr (fun j => Wr.neI wH33437 (Or.inl (G_ne gq12 gq4 (by decide)))) (fun j => Wr.neI wH33437 (Or.inl (G_ne giq gq4 (by decide)))) b33436
        have m33475 := m33376.trans (Wr.neR wH33437 (Or.inl (G_ne ga0 gq4 (by decide)))).symm
        have m33476 := m33401.trans (Wr.neR wH33437 (Or.inl (G_ne ga0 gq4 (by decide)))).symm
        have m33477 := m33402.trans (Wr.neR wH33437 (Or.inl (G_ne ga0 gq4 (by decide)))).symm
        have m33478 := m33403.trans (Wr.neR wH33437 (Or.inl (G_ne ga0 gq4 (by decide)))).symm
        have m33479 := m33404.trans (Wr.neR wH33437 (Or.inl (G_ne ga0 gq4 (by decide)))).symm
        have m33480 := m33405.trans (Wr.neR wH33437 (Or.inl (G_ne ga0 gq4 (by decide)))).symm
        have m33481 := m33406.trans (Wr.neR wH33437 (Or.inl (G_ne ga0 gq4 (by decide)))).symm
        have m33482 := m33407.trans (Wr.neR wH33437 (Or.inl (G_ne ga0 gq4 (by decide)))).symm
        have m33483 := m33408.trans (Wr.neR wH33437 (Or.inl (G_ne ga0 gq4 (by decide)))).symm
        have m33484 := m33409.trans (Wr.neR wH33437 (Or.inl (G_ne ga0 gq4 (by decide)))).symm
        have m33485 := m33410.trans (Wr.neR wH33437 (Or.inl (G_ne ga0 gq4 (by decide)))).symm
        have m33486 := m33411.trans (Wr.neR wH33437 (Or.inl (G_ne ga0 gq4 (by decide)))).symm
        have m33487 := m33412.trans (Wr.neR wH33437 (Or.inl (G_ne ga0 gq4 (by decide)))).symm
        have m33488 := m33413.trans (Wr.neR wH33437 (Or.inl (G_ne ga0 gq4 (by decide)))).symm
        have m33489 := m33414.trans (Wr.neR wH33437 (Or.inl (G_ne ga0 gq4 (by decide)))).symm
        have m33490 := m33415.trans (Wr.neR wH33437 (Or.inl (G_ne ga0 gq4 (by decide)))).symm
        have m33491 := m33416.trans (Wr.neR wH33437 (Or.inl (G_ne ga0 gq4 (by decide)))).symm
        have m33492 := m33417.trans (Wr.neI wH33437 (Or.inl (G_ne ga0 gq4 (by decide)))).symm
        have m33493 := ex33375.trans (Wr.neI wH33437 (Or.inl (G_ne ga0 gq4 (by decide)))).symm
        have m33494 := Wr.I wH33437
        have m33494 := m33494.symm
        clear b33383 b33384 b33385 b33386 b33387 b33388 b33389 b33390 b33391 b33392 b33393 b33394 b33395 b33396 b33397 b33398 b33419 b33420 b33421 b33422 b33423 b33424 b33425 b33426 b33427 b33428 b33429 b33430 b33431 b33432 b33433 b33434 b33435 b33436 ex33375 g33377 hTH33373 m33376 m33399 m33401 m33402 m33403 m33404 m33405 m33406 m33407 m33408 m33409 m33410 m33411 m33412 m33413 m33414 m33415 m33416 m33417 mf33418
        refine lv_aload_n hx hb dX10_keepsBars_24 rfl (lv_at hl33362 0 rfl) ?_
        refine x_gr C hTH33437 (ci := 10) (k := 10) rfl inX10 (by decide) wF_X10_32 ga0 rg_112 rfl dX10_keepsBars_25 (fun q33495 eq33495 gq33495 => ?_)
        have uq33495 : q10 = q33495 := (m33482).trans eq33495.symm
        subst uq33495
        clear eq33495
        refine lv_iload_n hx hb dX10_keepsBars_28 rfl (lv_at hl33362 1 rfl) ?_
        refine lv_aload_n hx hb dX10_keepsBars_29 rfl (lv_at hl33362 0 rfl) ?_
        refine lv_aload_n hx hb dX10_keepsBars_30 rfl (lv_at hl33362 0 rfl) ?_
        refine x_gr C hTH33437 (ci := 10) (k := 10) rfl inX10 (by decide) wF_X10_32 ga0 rg_112 rfl dX10_keepsBars_31 (fun q33496 eq33496 gq33496 => ?_)
        have uq33496 : q10 = q33496 := (m33482).trans eq33496.symm
        subst uq33496
        clear eq33496
        refine lv_iload_n hx hb dX10_keepsBars_34 rfl (lv_at hl33362 1 rfl) ?_
        refine x_ai C hTH33437 gq10 rg_119 ⟨bx33363.1, by show _ < ((10 : Nat) : Int); omega⟩ dX10_keepsBars_35 (fun x33497 ex33497 bx33497 => ?_)
        refine x_V (As := [.int x33497]) (rest := [.int x33363, .ref q10]) C (a_X10_kept l K G H33437 (x33497) (x33375) (tk) hTH33437 ga0 giq m33475 m33493 m33492 g33439 (by and_intros <;> first | assumption | omega)) yo_X10_kept wM_X10_473 ⟨⟨by decide, by decide⟩, by decide, by decide⟩ (x_rv C hTH33437 (ci := 10) rfl ga0 rg_112) rfl hl33362.1 rfl (Nat.le_of_ble_eq_true rfl) dX10_keepsBars_36 hSH33437 (AE_sub (fun _ _ => rfl) (by decide) hSH33437.1) (fun vH33498 H33498 locsH33498 pH33498 zH33498 kH33498 hSH33498 => ?_)
        obtain ⟨x33499, x33500, hvH33498, ex33500, hrH33498, m33501, g33502, mf33503, m33504, m33505, m33506, m33507, hTH33498⟩ := pH33498
        subst hvH33498
        clear zH33498
        replace m33501 := EQN.mk m33501
        have b33508 : UN (tk.toInt ≠ 0) (fun k => fI H33498 q4 k) (fun k => fI s.heap q4 k) := UN.congr (fun j => fI_kept (x_lt hTH33437 kH33498 gq4 (by decide))) b33440
        have b33509 : UN (tk.toInt ≠ 0) (fun k => fI H33498 q10 k) (fun k => fI s.heap q10 k) := UN.congr (fun j => fI_kept (x_lt hTH33437 kH33498 gq10 (by decide))) b33441
        have b33510 : UN (tk.toInt ≠ 0) (fun k => fI H33498 q13 k) (fun k => fI s.heap q13 k) := UN.congr (fun j => fI_kept (x_lt hTH33437 kH33498 gq13 (by decide))) b33442
        have b33511 : UN (tk.toInt ≠ 0) (fun k => fI H33498 q14 k) (fun k => fI s.heap q14 k) := UN.congr (fun j => fI_kept (x_lt hTH33437 kH33498 gq14 (by decide))) b33443
        have b33512 : UN (tk.toInt ≠ 0) (fun k => fI H33498 q15 k) (fun k => fI s.heap q15 k) := UN.congr (fun j => fI_kept (x_lt hTH33437 kH33498 gq15 (by decide))) b33444
        have b33513 : UN (tk.toInt ≠ 0) (fun k => fI H33498 q50 k) (fun k => fI s.heap q50 k) := UN.congr (fun j => fI_kept (x_lt hTH33437 kH33498 gq50 (by decide))) b33445
        have b33514 : UN (tk.toInt ≠ 0) (fun k => fI H33498 q5 k) (fun k => fI s.heap q5 k) := UN.congr (fun j => fI_kept (x_lt hTH33437 kH33498 gq5 (by decide))) b33446
        have b33515 : UN (tk.toInt ≠ 0) (fun k => fI H33498 q6 k) (fun k => fI s.heap q6 k) := UN.congr (fun j => fI_kept (x_lt hTH33437 kH33498 gq6 (by decide))) b33447
        have b33516 : UN (tk.toInt ≠ 0) (fun k => fI H33498 q7 k) (fun k => fI s.heap q7 k) := UN.congr (fun j => fI_kept (x_lt hTH33437 kH33498 gq7 (by decide))) b33448
        have b33517 : UN (tk.toInt ≠ 0) (fun k => fI H33498 q8 k) (fun k => fI s.heap q8 k) := UN.congr (fun j => fI_kept (x_lt hTH33437 kH33498 gq8 (by decide))) b33449
        have b33518 : UN (tk.toInt ≠ 0) (fun k => fI H33498 q9 k) (fun k => fI s.heap q9 k) := UN.congr (fun j => fI_kept (x_lt hTH33437 kH33498 gq9 (by decide))) b33450
        have b33519 : UN (tk.toInt ≠ 0) (fun k => fI H33498 q16 k) (fun k => fI s.heap q16 k) := UN.congr (fun j => fI_kept (x_lt hTH33437 kH33498 gq16 (by decide))) b33451
        have b33520 : UN (tk.toInt ≠ 0) (fun k => fI H33498 q60 k) (fun k => fI s.heap q60 k) := UN.congr (fun j => fI_kept (x_lt hTH33437 kH33498 gq60 (by decide))) b33452
        have b33521 : UN (tk.toInt ≠ 0) (fun k => fI H33498 q61 k) (fun k => fI s.heap q61 k) := UN.congr (fun j => fI_kept (x_lt hTH33437 kH33498 gq61 (by decide))) b33453
        have b33522 : UN (tk.toInt ≠ 0) (fun k => fI H33498 q11 k) (fun k => fI s.heap q11 k) := UN.congr (fun j => fI_kept (x_lt hTH33437 kH33498 gq11 (by decide))) b33454
        have b33523 : UN (tk.toInt ≠ 0) (fun k => fI H33498 q12 k) (fun k => fI s.heap q12 k) := UN.congr (fun j => fI_kept (x_lt hTH33437 kH33498 gq12 (by decide))) b33455
        have m33524 := (m33494).trans (fI_kept (x_lt hTH33437 kH33498 gq4 (by decide))).symm
        have m33525 := (ex33497).trans (fI_kept (x_lt hTH33437 kH33498 gq10 (by decide))).symm
        have m33526 := (m33475).trans (MF.r mf33503 (k := 73) (by decide) (by decide)).symm
        have m33527 := (m33476).trans (MF.r mf33503 (k := 4) (by decide) (by decide)).symm
        have m33528 := (m33477).trans (MF.r mf33503 (k := 5) (by decide) (by decide)).symm
        have m33529 := (m33478).trans (MF.r mf33503 (k := 6) (by decide) (by decide)).symm
        have m33530 := (m33479).trans (MF.r mf33503 (k := 7) (by decide) (by decide)).symm
        have m33531 := (m33480).trans (MF.r mf33503 (k := 8) (by decide) (by decide)).symm
        have m33532 := (m33481).trans (MF.r mf33503 (k := 9) (by decide) (by decide)).symm
        have m33533 := (m33482).trans (MF.r mf33503 (k := 10) (by decide) (by decide)).symm
        have m33534 := (m33483).trans (MF.r mf33503 (k := 11) (by decide) (by decide)).symm
        have m33535 := (m33484).trans (MF.r mf33503 (k := 12) (by decide) (by decide)).symm
        have m33536 := (m33485).trans (MF.r mf33503 (k := 13) (by decide) (by decide)).symm
        have m33537 := (m33486).trans (MF.r mf33503 (k := 14) (by decide) (by decide)).symm
        have m33538 := (m33487).trans (MF.r mf33503 (k := 15) (by decide) (by decide)).symm
        have m33539 := (m33488).trans (MF.r mf33503 (k := 16) (by decide) (by decide)).symm
        have m33540 := (m33489).trans (MF.r mf33503 (k := 50) (by decide) (by decide)).symm
        have m33541 := (m33490).trans (MF.r mf33503 (k := 60) (by decide) (by decide)).symm
        have m33542 := (m33491).trans (MF.r mf33503 (k := 61) (by decide) (by decide)).symm
        have m33543 := (m33492).trans (MF.i mf33503 (k := 71) (by decide) (by decide)).symm
        have mf33544 : MF K s.heap H33498 a0 [72] := MF.trans mf33438 mf33503 (by decide)
        have bx33500 := ty_fi (x := x33500) (k := 72) ex33500 hTH33498 ga0 rg_112 rfl
        have ce_x33375 := i_cl (x := x33375) bx33375.1
        have e_ : x33375.toNatClampNeg = 7 + 6 * x33363.toNatClampNeg := by omega
        have k3e_ := m33506
        rw [e_] at k3e_
        have b33545 : UN (tk.toInt = 0) (fun k => fI H33498 iq k) (fun k => fI s.heap iq k) := UN.tr m33507 b33456
        have b33546 : FB (fun k => fI H33498 iq k) (fun k => fI s.heap iq k) (6) := FB.wr b33457 k3e_ (fun j hj => Nat.ne_of_lt (Nat.lt_of_lt_of_le hj (Nat.le_trans (by decide : 6 ≤ 7) (Nat.le_add_right _ _))))
        have b33547 : EQ (fun k => fI H33498 q4 k) (fun k => fI H33498 iq k) (6) (6) (x33363.toNatClampNeg + 1) := EQ.wr (EQ.congr (w1 := fun k => fI H33437 iq k) (fun j => fI_kept (x_lt hTH33437 kH33498 gq4 (by decide))) (fun _ => rfl) b33458) k3e_ (fun j hj => nE_6_6_i1_7_6 hj)
        have b33548 : EQ (fun k => fI H33498 q10 k) (fun k => fI H33498 iq k) (7) (6) (x33363.toNatClampNeg) := EQ.wr (EQ.congr (w1 := fun k => fI H33437 iq k) (fun j => fI_kept (x_lt hTH33437 kH33498 gq10 (by decide))) (fun _ => rfl) b33459) k3e_ (fun j hj => nE_7_6_i_7_6 hj)
        have b33549 : EQ (fun k => fI H33498 q13 k) (fun k => fI H33498 iq k) (8) (6) (x33363.toNatClampNeg) := EQ.wr (EQ.congr (w1 := fun k => fI H33437 iq k) (fun j => fI_kept (x_lt hTH33437 kH33498 gq13 (by decide))) (fun _ => rfl) b33460) k3e_ (fun j hj => nE_8_6_i_7_6 hj)
        have b33550 : EQ (fun k => fI H33498 q14 k) (fun k => fI H33498 iq k) (9) (6) (x33363.toNatClampNeg) := EQ.wr (EQ.congr (w1 := fun k => fI H33437 iq k) (fun j => fI_kept (x_lt hTH33437 kH33498 gq14 (by decide))) (fun _ => rfl) b33461) k3e_ (fun j hj => nE_9_6_i_7_6 hj)
        have b33551 : EQ (fun k => fI H33498 q15 k) (fun k => fI H33498 iq k) (10) (6) (x33363.toNatClampNeg) := EQ.wr (EQ.congr (w1 := fun k => fI H33437 iq k) (fun j => fI_kept (x_lt hTH33437 kH33498 gq15 (by decide))) (fun _ => rfl) b33462) k3e_ (fun j hj => nE_10_6_i_7_6 hj)
        have b33552 : EQ (fun k => fI H33498 q50 k) (fun k => fI H33498 iq k) (11) (6) (x33363.toNatClampNeg) := EQ.wr (EQ.congr (w1 := fun k => fI H33437 iq k) (fun j => fI_kept (x_lt hTH33437 kH33498 gq50 (by decide))) (fun _ => rfl) b33463) k3e_ (fun j hj => nE_11_6_i_7_6 hj)
        have b33553 : EQ (fun k => fI H33498 q5 k) (fun k => fI H33498 iq k) (66) (4) (0) := EQ.wr (EQ.congr (w1 := fun k => fI H33437 iq k) (fun j => fI_kept (x_lt hTH33437 kH33498 gq5 (by decide))) (fun _ => rfl) b33464) k3e_ (fun j hj => nE_66_4_0_7_6 hj)
        have b33554 : EQ (fun k => fI H33498 q6 k) (fun k => fI H33498 iq k) (67) (4) (0) := EQ.wr (EQ.congr (w1 := fun k => fI H33437 iq k) (fun j => fI_kept (x_lt hTH33437 kH33498 gq6 (by decide))) (fun _ => rfl) b33465) k3e_ (fun j hj => nE_67_4_0_7_6 hj)
        have b33555 : EQ (fun k => fI H33498 q7 k) (fun k => fI H33498 iq k) (68) (4) (0) := EQ.wr (EQ.congr (w1 := fun k => fI H33437 iq k) (fun j => fI_kept (x_lt hTH33437 kH33498 gq7 (by decide))) (fun _ => rfl) b33466) k3e_ (fun j hj => nE_68_4_0_7_6 hj)
        have b33556 : EQ (fun k => fI H33498 q8 k) (fun k => fI H33498 iq k) (69) (4) (0) := EQ.wr (EQ.congr (w1 := fun k => fI H33437 iq k) (fun j => fI_kept (x_lt hTH33437 kH33498 gq8 (by decide))) (fun _ => rfl) b33467) k3e_ (fun j hj => nE_69_4_0_7_6 hj)
        have b33557 : EQ (fun k => fI H33498 q9 k) (fun k => fI H33498 iq k) (706) (1) (0) := EQ.wr (EQ.congr (w1 := fun k => fI H33437 iq k) (fun j => fI_kept (x_lt hTH33437 kH33498 gq9 (by decide))) (fun _ => rfl) b33468) k3e_ (fun j hj => nE_706_1_0_7_6 hj)
        have b33558 : EQ (fun k => fI H33498 q16 k) (fun k => fI H33498 iq k) (736) (3) (0) := EQ.wr (EQ.congr (w1 := fun k => fI H33437 iq k) (fun j => fI_kept (x_lt hTH33437 kH33498 gq16 (by decide))) (fun _ => rfl) b33469) k3e_ (fun j hj => nE_736_3_0_7_6 hj)
        have b33559 : EQ (fun k => fI H33498 q60 k) (fun k => fI H33498 iq k) (737) (3) (0) := EQ.wr (EQ.congr (w1 := fun k => fI H33437 iq k) (fun j => fI_kept (x_lt hTH33437 kH33498 gq60 (by decide))) (fun _ => rfl) b33470) k3e_ (fun j hj => nE_737_3_0_7_6 hj)
        have b33560 : EQ (fun k => fI H33498 q61 k) (fun k => fI H33498 iq k) (738) (3) (0) := EQ.wr (EQ.congr (w1 := fun k => fI H33437 iq k) (fun j => fI_kept (x_lt hTH33437 kH33498 gq61 (by decide))) (fun _ => rfl) b33471) k3e_ (fun j hj => nE_738_3_0_7_6 hj)
        have b33561 : EQ (fun k => fI H33498 q11 k) (fun k => fI H33498 iq k) (796) (2) (0) := EQ.wr (EQ.congr (w1 := fun k => fI H33437 iq k) (fun j => fI_kept (x_lt hTH33437 kH33498 gq11 (by decide))) (fun _ => rfl) b33472) k3e_ (fun j hj => nE_796_2_0_7_6 hj)
        have b33562 : EQ (fun k => fI H33498 q12 k) (fun k => fI H33498 iq k) (797) (2) (0) := EQ.wr (EQ.congr (w1 := fun k => fI H33437 iq k) (fun j => fI_kept (x_lt hTH33437 kH33498 gq12 (by decide))) (fun _ => rfl) b33473) k3e_ (fun j hj => nE_797_2_0_7_6 hj)
        clear b33440 b33441 b33442 b33443 b33444 b33445 b33446 b33447 b33448 b33449 b33450 b33451 b33452 b33453 b33454 b33455 b33456 b33457 b33458 b33459 b33460 b33461 b33462 b33463 b33464 b33465 b33466 b33467 b33468 b33469 b33470 b33471 b33472 b33473 ex33497 m33475 m33476 m33477 m33478 m33479 m33480 m33481 m33482 m33483 m33484 m33485 m33486 m33487 m33488 m33489 m33490 m33491 m33492 m33493 m33494
        clear m33506 m33507 k3e_ e_
        have bx33499 : 0 ≤ x33499.toInt ∧ x33499.toInt ≤ 200 := kr (fun h0 => by have hiw := (hy0 h0); exact kr0 (w := fun k => fI H33498 iq k) m33504 (p := 7 + 6 * x33363.toNatClampNeg) (by omega) (b33545 h0) ((hiw.2.1 x33363.toNatClampNeg (by omega)).2.1)) m33505 (by omega)
        refine W.eq (g2 := F0 m 39 ls33361 [.int x33499, .int x33363, .ref q10]) rfl ?_
        refine x_iast C hTH33498 hSH33498 gq10 rg_119 bx33363.1 (by show _ < ((10 : Nat) : Int); omega) ⟨by have := i_rng x33499; omega, by have := i_rng x33499; omega⟩ (AE_in gq10 (by decide)) dX10_keepsBars_39 (fun H33563 locsH33563 hTH33563 hSH33563 wH33563 => ?_)
        have mf33564 : MF K s.heap H33563 a0 [72] := MF.arr wH33563 (G_ne ga0 gq10 (by decide)) mf33544
        have g33565 : WD (avw K H33563 a0) := WD.congr (fun k hk j => av_arr hTH33498 ga0 wH33563 gq10 (by decide) (WD_ok 119 (by decide) k hk)) g33502
        have b33566 : UN (tk.toInt ≠ 0) (fun k => fI H33563 q4 k) (fun k => fI s.heap q4 k) := UN.congr (fun j => Wr.neI wH33563 (Or.inl (G_ne gq4 gq10 (by decide)))) b33508
        have b33567 : UN (tk.toInt ≠ 0) (fun k => fI H33563 q10 k) (fun k => fI s.heap q10 k) := UN.st b33509 (i := x33363.toNatClampNeg) (fun hc => (m33505 hc).trans m33525) (Wr.I wH33563) (fun j hj => Wr.neI wH33563 (Or.inr hj))
        have b33568 : UN (tk.toInt ≠ 0) (fun k => fI H33563 q13 k) (fun k => fI s.heap q13 k) := UN.congr (fun j => Wr.neI wH33563 (Or.inl (G_ne gq13 gq10 (by decide)))) b33510
        have b33569 : UN (tk.toInt ≠ 0) (fun k => fI H33563 q14 k) (fun k => fI s.heap q14 k) := UN.congr (fun j => Wr.neI wH33563 (Or.inl (G_ne gq14 gq10 (by decide)))) b33511
        have b33570 : UN (tk.toInt ≠ 0) (fun k => fI H33563 q15 k) (fun k => fI s.heap q15 k) := UN.congr (fun j => Wr.neI wH33563 (Or.inl (G_ne gq15 gq10 (by decide)))) b33512
        have b33571 : UN (tk.toInt ≠ 0) (fun k => fI H33563 q50 k) (fun k => fI s.heap q50 k) := UN.congr (fun j => Wr.neI wH33563 (Or.inl (G_ne gq50 gq10 (by decide)))) b33513
        have b33572 : UN (tk.toInt ≠ 0) (fun k => fI H33563 q5 k) (fun k => fI s.heap q5 k) := UN.congr (fun j => Wr.neI wH33563 (Or.inl (G_ne gq5 gq10 (by decide)))) b33514
        have b33573 : UN (tk.toInt ≠ 0) (fun k => fI H33563 q6 k) (fun k => fI s.heap q6 k) := UN.congr (fun j => Wr.neI wH33563 (Or.inl (G_ne gq6 gq10 (by decide)))) b33515
        have b33574 : UN (tk.toInt ≠ 0) (fun k => fI H33563 q7 k) (fun k => fI s.heap q7 k) := UN.congr (fun j => Wr.neI wH33563 (Or.inl (G_ne gq7 gq10 (by decide)))) b33516
        have b33575 : UN (tk.toInt ≠ 0) (fun k => fI H33563 q8 k) (fun k => fI s.heap q8 k) := UN.congr (fun j => Wr.neI wH33563 (Or.inl (G_ne gq8 gq10 (by decide)))) b33517
        have b33576 : UN (tk.toInt ≠ 0) (fun k => fI H33563 q9 k) (fun k => fI s.heap q9 k) := UN.congr (fun j => Wr.neI wH33563 (Or.inl (G_ne gq9 gq10 (by decide)))) b33518
        have b33577 : UN (tk.toInt ≠ 0) (fun k => fI H33563 q16 k) (fun k => fI s.heap q16 k) := UN.congr (fun j => Wr.neI wH33563 (Or.inl (G_ne gq16 gq10 (by decide)))) b33519
        have b33578 : UN (tk.toInt ≠ 0) (fun k => fI H33563 q60 k) (fun k => fI s.heap q60 k) := UN.congr (fun j => Wr.neI wH33563 (Or.inl (G_ne gq60 gq10 (by decide)))) b33520
        have b33579 : UN (tk.toInt ≠ 0) (fun k => fI H33563 q61 k) (fun k => fI s.heap q61 k) := UN.congr (fun j => Wr.neI wH33563 (Or.inl (G_ne gq61 gq10 (by decide)))) b33521
        have b33580 : UN (tk.toInt ≠ 0) (fun k => fI H33563 q11 k) (fun k => fI s.heap q11 k) := UN.congr (fun j => Wr.neI wH33563 (Or.inl (G_ne gq11 gq10 (by decide)))) b33522
        have b33581 : UN (tk.toInt ≠ 0) (fun k => fI H33563 q12 k) (fun k => fI s.heap q12 k) := UN.congr (fun j => Wr.neI wH33563 (Or.inl (G_ne gq12 gq10 (by decide)))) b33523
        have b33582 : UN (tk.toInt = 0) (fun k => fI H33563 iq k) (fun k => fI s.heap iq k) := UN.congr (fun j => Wr.neI wH33563 (Or.inl (G_ne giq gq10 (by decide)))) b33545
        have b33583 : FB (fun k => fI H33563 iq k) (fun k => fI s.heap iq k) (6) := FB.congr (fun j => Wr.neI wH33563 (Or.inl (G_ne giq gq10 (by decide)))) b33546
        have b33584 : EQ (fun k => fI H33563 q4 k) (fun k => fI H33563 iq k) (6) (6) (x33363.toNatClampNeg + 1) := EQ.congr (fun j => Wr.neI wH33563 (Or.inl (G_ne gq4 gq10 (by decide)))) (fun j => Wr.neI wH33563 (Or.inl (G_ne giq gq10 (by decide)))) b33547
        have b33585 : EQ (fun k => fI H33563 q10 k) (fun k => fI H33563 iq k) (7) (6) (x33363.toNatClampNeg + 1) := EQ.st b33548 (i := x33363.toNatClampNeg) (t := x33375.toNatClampNeg) (by omega) m33504 (by omega) (Wr.I wH33563) (fun j hj => Wr.neI wH33563 (Or.inr hj)) (fun j => Wr.neI wH33563 (Or.inl (G_ne giq gq10 (by decide))))
        have b33586 : EQ (fun k => fI H33563 q13 k) (fun k => fI H33563 iq k) (8) (6) (x33363.toNatClampNeg) := EQ.congr (fun j => Wr.neI wH33563 (Or.inl (G_ne gq13 gq10 (by decide)))) (fun j => Wr.neI wH33563 (Or.inl (G_ne giq gq10 (by decide)))) b33549
        have b33587 : EQ (fun k => fI H33563 q14 k) (fun k => fI H33563 iq k) (9) (6) (x33363.toNatClampNeg) := EQ.congr (fun j => Wr.neI wH33563 (Or.inl (G_ne gq14 gq10 (by decide)))) (fun j => Wr.neI wH33563 (Or.inl (G_ne giq gq10 (by decide)))) b33550
        have b33588 : EQ (fun k => fI H33563 q15 k) (fun k => fI H33563 iq k) (10) (6) (x33363.toNatClampNeg) := EQ.congr (fun j => Wr.neI wH33563 (Or.inl (G_ne gq15 gq10 (by decide)))) (fun j => Wr.neI wH33563 (Or.inl (G_ne giq gq10 (by decide)))) b33551
        have b33589 : EQ (fun k => fI H33563 q50 k) (fun k => fI H33563 iq k) (11) (6) (x33363.toNatClampNeg) := EQ.congr (fun j => Wr.neI wH33563 (Or.inl (G_ne gq50 gq10 (by decide)))) (fun j => Wr.neI wH33563 (Or.inl (G_ne giq gq10 (by decide)))) b33552
        have b33590 : EQ (fun k => fI H33563 q5 k) (fun k => fI H33563 iq k) (66) (4) (0) := EQ.congr (fun j => Wr.neI wH33563 (Or.inl (G_ne gq5 gq10 (by decide)))) (fun j => Wr.neI wH33563 (Or.inl (G_ne giq gq10 (by decide)))) b33553
        have b33591 : EQ (fun k => fI H33563 q6 k) (fun k => fI H33563 iq k) (67) (4) (0) := EQ.congr (fun j => Wr.neI wH33563 (Or.inl (G_ne gq6 gq10 (by decide)))) (fun j => Wr.neI wH33563 (Or.inl (G_ne giq gq10 (by decide)))) b33554
        have b33592 : EQ (fun k => fI H33563 q7 k) (fun k => fI H33563 iq k) (68) (4) (0) := EQ.congr (fun j => Wr.neI wH33563 (Or.inl (G_ne gq7 gq10 (by decide)))) (fun j => Wr.neI wH33563 (Or.inl (G_ne giq gq10 (by decide)))) b33555
        have b33593 : EQ (fun k => fI H33563 q8 k) (fun k => fI H33563 iq k) (69) (4) (0) := EQ.congr (fun j => Wr.neI wH33563 (Or.inl (G_ne gq8 gq10 (by decide)))) (fun j => Wr.neI wH33563 (Or.inl (G_ne giq gq10 (by decide)))) b33556
        have b33594 : EQ (fun k => fI H33563 q9 k) (fun k => fI H33563 iq k) (706) (1) (0) := EQ.congr (fun j => Wr.neI wH33563 (Or.inl (G_ne gq9 gq10 (by decide)))) (fun j => Wr.neI wH33563 (Or.inl (G_ne giq gq10 (by decide)))) b33557
        have b33595 : EQ (fun k => fI H33563 q16 k) (fun k => fI H33563 iq k) (736) (3) (0) := EQ.congr (fun j => Wr.neI wH33563 (Or.inl (G_ne gq16 gq10 (by decide)))) (fun j => Wr.neI wH33563 (Or.inl (G_ne giq gq10 (by decide)))) b33558
        have b33596 : EQ (fun k => fI H33563 q60 k) (fun k => fI H33563 iq k) (737) (3) (0) := EQ.congr (fun j => Wr.neI wH33563 (Or.inl (G_ne gq60 gq10 (by decide)))) (fun j => Wr.neI wH33563 (Or.inl (G_ne giq gq10 (by decide)))) b33559
        have b33597 : EQ (fun k => fI H33563 q61 k) (fun k => fI H33563 iq k) (738) (3) (0) := EQ.congr (fun j => Wr.neI wH33563 (Or.inl (G_ne gq61 gq10 (by decide)))) (fun j => Wr.neI wH33563 (Or.inl (G_ne giq gq10 (by decide)))) b33560
        have b33598 : EQ (fun k => fI H33563 q11 k) (fun k => fI H33563 iq k) (796) (2) (0) := EQ.congr (fun j => Wr.neI wH33563 (Or.inl (G_ne gq11 gq10 (by decide)))) (fun j => Wr.neI wH33563 (Or.inl (G_ne giq gq10 (by decide)))) b33561
        have b33599 : EQ (fun k => fI H33563 q12 k) (fun k => fI H33563 iq k) (797) (2) (0) := EQ.congr (fun j => Wr.neI wH33563 (Or.inl (G_ne gq12 gq10 (by decide)))) (fun j => Wr.neI wH33563 (Or.inl (G_ne giq gq10 (by decide)))) b33562
        have m33600 := m33524.trans (Wr.neI wH33563 (Or.inl (G_ne gq4 gq10 (by decide)))).symm
        have m33602 := m33501.trans (Wr.neR wH33563 (Or.inl (G_ne ga0 gq10 (by decide)))).symm
        have m33603 := m33527.trans (Wr.neR wH33563 (Or.inl (G_ne ga0 gq10 (by decide)))).symm
        have m33604 := m33528.trans (Wr.neR wH33563 (Or.inl (G_ne ga0 gq10 (by decide)))).symm
        have m33605 := m33529.trans (Wr.neR wH33563 (Or.inl (G_ne ga0 gq10 (by decide)))).symm
        have m33606 := m33530.trans (Wr.neR wH33563 (Or.inl (G_ne ga0 gq10 (by decide)))).symm
        have m33607 := m33531.trans (Wr.neR wH33563 (Or.inl (G_ne ga0 gq10 (by decide)))).symm
        have m33608 := m33532.trans (Wr.neR wH33563 (Or.inl (G_ne ga0 gq10 (by decide)))).symm
        have m33609 := m33533.trans (Wr.neR wH33563 (Or.inl (G_ne ga0 gq10 (by decide)))).symm
        have m33610 := m33534.trans (Wr.neR wH33563 (Or.inl (G_ne ga0 gq10 (by decide)))).symm
        have m33611 := m33535.trans (Wr.neR wH33563 (Or.inl (G_ne ga0 gq10 (by decide)))).symm
        have m33612 := m33536.trans (Wr.neR wH33563 (Or.inl (G_ne ga0 gq10 (by decide)))).symm
        have m33613 := m33537.trans (Wr.neR wH33563 (Or.inl (G_ne ga0 gq10 (by decide)))).symm
        have m33614 := m33538.trans (Wr.neR wH33563 (Or.inl (G_ne ga0 gq10 (by decide)))).symm
        have m33615 := m33539.trans (Wr.neR wH33563 (Or.inl (G_ne ga0 gq10 (by decide)))).symm
        have m33616 := m33540.trans (Wr.neR wH33563 (Or.inl (G_ne ga0 gq10 (by decide)))).symm
        have m33617 := m33541.trans (Wr.neR wH33563 (Or.inl (G_ne ga0 gq10 (by decide)))).symm
        have m33618 := m33542.trans (Wr.neR wH33563 (Or.inl (G_ne ga0 gq10 (by decide)))).symm
        have m33619 := m33543.trans (Wr.neI wH33563 (Or.inl (G_ne ga0 gq10 (by decide)))).symm
        have m33620 := ex33500.trans (Wr.neI wH33563 (Or.inl (G_ne ga0 gq10 (by decide)))).symm
        have m33621 := Wr.I wH33563
        have m33621 := m33621.symm
        clear b33508 b33509 b33510 b33511 b33512 b33513 b33514 b33515 b33516 b33517 b33518 b33519 b33520 b33521 b33522 b33523 b33545 b33546 b33547 b33548 b33549 b33550 b33551 b33552 b33553 b33554 b33555 b33556 b33557 b33558 b33559 b33560 b33561 b33562 ex33500 g33502 hTH33498 m33501 m33524 m33525 m33527 m33528 m33529 m33530 m33531 m33532 m33533 m33534 m33535 m33536 m33537 m33538 m33539 m33540 m33541 m33542 m33543 mf33544
        refine lv_aload_n hx hb dX10_keepsBars_40 rfl (lv_at hl33362 0 rfl) ?_
        refine x_gr C hTH33563 (ci := 10) (k := 13) rfl inX10 (by decide) wF_X10_41 ga0 rg_112 rfl dX10_keepsBars_41 (fun q33622 eq33622 gq33622 => ?_)
        have uq33622 : q13 = q33622 := (m33612).trans eq33622.symm
        subst uq33622
        clear eq33622
        refine lv_iload_n hx hb dX10_keepsBars_44 rfl (lv_at hl33362 1 rfl) ?_
        refine lv_aload_n hx hb dX10_keepsBars_45 rfl (lv_at hl33362 0 rfl) ?_
        refine lv_aload_n hx hb dX10_keepsBars_46 rfl (lv_at hl33362 0 rfl) ?_
        refine x_gr C hTH33563 (ci := 10) (k := 13) rfl inX10 (by decide) wF_X10_41 ga0 rg_112 rfl dX10_keepsBars_47 (fun q33623 eq33623 gq33623 => ?_)
        have uq33623 : q13 = q33623 := (m33612).trans eq33623.symm
        subst uq33623
        clear eq33623
        refine lv_iload_n hx hb dX10_keepsBars_50 rfl (lv_at hl33362 1 rfl) ?_
        refine x_ai C hTH33563 gq13 rg_122 ⟨bx33363.1, by show _ < ((10 : Nat) : Int); omega⟩ dX10_keepsBars_51 (fun x33624 ex33624 bx33624 => ?_)
        refine x_V (As := [.int x33624]) (rest := [.int x33363, .ref q13]) C (a_X10_kept l K G H33563 (x33624) (x33500) (tk) hTH33563 ga0 giq m33602 m33620 m33619 g33565 (by and_intros <;> first | assumption | omega)) yo_X10_kept wM_X10_473 ⟨⟨by decide, by decide⟩, by decide, by decide⟩ (x_rv C hTH33563 (ci := 10) rfl ga0 rg_112) rfl hl33362.1 rfl (Nat.le_of_ble_eq_true rfl) dX10_keepsBars_52 hSH33563 (AE_sub (fun _ _ => rfl) (by decide) hSH33563.1) (fun vH33625 H33625 locsH33625 pH33625 zH33625 kH33625 hSH33625 => ?_)
        obtain ⟨x33626, x33627, hvH33625, ex33627, hrH33625, m33628, g33629, mf33630, m33631, m33632, m33633, m33634, hTH33625⟩ := pH33625
        subst hvH33625
        clear zH33625
        replace m33628 := EQN.mk m33628
        have b33635 : UN (tk.toInt ≠ 0) (fun k => fI H33625 q4 k) (fun k => fI s.heap q4 k) := UN.congr (fun j => fI_kept (x_lt hTH33563 kH33625 gq4 (by decide))) b33566
        have b33636 : UN (tk.toInt ≠ 0) (fun k => fI H33625 q10 k) (fun k => fI s.heap q10 k) := UN.congr (fun j => fI_kept (x_lt hTH33563 kH33625 gq10 (by decide))) b33567
        have b33637 : UN (tk.toInt ≠ 0) (fun k => fI H33625 q13 k) (fun k => fI s.heap q13 k) := UN.congr (fun j => fI_kept (x_lt hTH33563 kH33625 gq13 (by decide))) b33568
        have b33638 : UN (tk.toInt ≠ 0) (fun k => fI H33625 q14 k) (fun k => fI s.heap q14 k) := UN.congr (fun j => fI_kept (x_lt hTH33563 kH33625 gq14 (by decide))) b33569
        have b33639 : UN (tk.toInt ≠ 0) (fun k => fI H33625 q15 k) (fun k => fI s.heap q15 k) := UN.congr (fun j => fI_kept (x_lt hTH33563 kH33625 gq15 (by decide))) b33570
        have b33640 : UN (tk.toInt ≠ 0) (fun k => fI H33625 q50 k) (fun k => fI s.heap q50 k) := UN.congr (fun j => fI_kept (x_lt hTH33563 kH33625 gq50 (by decide))) b33571
        have b33641 : UN (tk.toInt ≠ 0) (fun k => fI H33625 q5 k) (fun k => fI s.heap q5 k) := UN.congr (fun j => fI_kept (x_lt hTH33563 kH33625 gq5 (by decide))) b33572
        have b33642 : UN (tk.toInt ≠ 0) (fun k => fI H33625 q6 k) (fun k => fI s.heap q6 k) := UN.congr (fun j => fI_kept (x_lt hTH33563 kH33625 gq6 (by decide))) b33573
        have b33643 : UN (tk.toInt ≠ 0) (fun k => fI H33625 q7 k) (fun k => fI s.heap q7 k) := UN.congr (fun j => fI_kept (x_lt hTH33563 kH33625 gq7 (by decide))) b33574
        have b33644 : UN (tk.toInt ≠ 0) (fun k => fI H33625 q8 k) (fun k => fI s.heap q8 k) := UN.congr (fun j => fI_kept (x_lt hTH33563 kH33625 gq8 (by decide))) b33575
        have b33645 : UN (tk.toInt ≠ 0) (fun k => fI H33625 q9 k) (fun k => fI s.heap q9 k) := UN.congr (fun j => fI_kept (x_lt hTH33563 kH33625 gq9 (by decide))) b33576
        have b33646 : UN (tk.toInt ≠ 0) (fun k => fI H33625 q16 k) (fun k => fI s.heap q16 k) := UN.congr (fun j => fI_kept (x_lt hTH33563 kH33625 gq16 (by decide))) b33577
        have b33647 : UN (tk.toInt ≠ 0) (fun k => fI H33625 q60 k) (fun k => fI s.heap q60 k) := UN.congr (fun j => fI_kept (x_lt hTH33563 kH33625 gq60 (by decide))) b33578
        have b33648 : UN (tk.toInt ≠ 0) (fun k => fI H33625 q61 k) (fun k => fI s.heap q61 k) := UN.congr (fun j => fI_kept (x_lt hTH33563 kH33625 gq61 (by decide))) b33579
        have b33649 : UN (tk.toInt ≠ 0) (fun k => fI H33625 q11 k) (fun k => fI s.heap q11 k) := UN.congr (fun j => fI_kept (x_lt hTH33563 kH33625 gq11 (by decide))) b33580
        have b33650 : UN (tk.toInt ≠ 0) (fun k => fI H33625 q12 k) (fun k => fI s.heap q12 k) := UN.congr (fun j => fI_kept (x_lt hTH33563 kH33625 gq12 (by decide))) b33581
        have m33651 := (m33600).trans (fI_kept (x_lt hTH33563 kH33625 gq4 (by decide))).symm
        have m33652 := (m33621).trans (fI_kept (x_lt hTH33563 kH33625 gq10 (by decide))).symm
        have m33653 := (ex33624).trans (fI_kept (x_lt hTH33563 kH33625 gq13 (by decide))).symm
        have m33654 := (m33602).trans (MF.r mf33630 (k := 73) (by decide) (by decide)).symm
        have m33655 := (m33603).trans (MF.r mf33630 (k := 4) (by decide) (by decide)).symm
        have m33656 := (m33604).trans (MF.r mf33630 (k := 5) (by decide) (by decide)).symm
        have m33657 := (m33605).trans (MF.r mf33630 (k := 6) (by decide) (by decide)).symm
        have m33658 := (m33606).trans (MF.r mf33630 (k := 7) (by decide) (by decide)).symm
        have m33659 := (m33607).trans (MF.r mf33630 (k := 8) (by decide) (by decide)).symm
        have m33660 := (m33608).trans (MF.r mf33630 (k := 9) (by decide) (by decide)).symm
        have m33661 := (m33609).trans (MF.r mf33630 (k := 10) (by decide) (by decide)).symm
        have m33662 := (m33610).trans (MF.r mf33630 (k := 11) (by decide) (by decide)).symm
        have m33663 := (m33611).trans (MF.r mf33630 (k := 12) (by decide) (by decide)).symm
        have m33664 := (m33612).trans (MF.r mf33630 (k := 13) (by decide) (by decide)).symm
        have m33665 := (m33613).trans (MF.r mf33630 (k := 14) (by decide) (by decide)).symm
        have m33666 := (m33614).trans (MF.r mf33630 (k := 15) (by decide) (by decide)).symm
        have m33667 := (m33615).trans (MF.r mf33630 (k := 16) (by decide) (by decide)).symm
        have m33668 := (m33616).trans (MF.r mf33630 (k := 50) (by decide) (by decide)).symm
        have m33669 := (m33617).trans (MF.r mf33630 (k := 60) (by decide) (by decide)).symm
        have m33670 := (m33618).trans (MF.r mf33630 (k := 61) (by decide) (by decide)).symm
        have m33671 := (m33619).trans (MF.i mf33630 (k := 71) (by decide) (by decide)).symm
        have mf33672 : MF K s.heap H33625 a0 [72] := MF.trans mf33564 mf33630 (by decide)
        have bx33627 := ty_fi (x := x33627) (k := 72) ex33627 hTH33625 ga0 rg_112 rfl
        have ce_x33500 := i_cl (x := x33500) bx33500.1
        have e_ : x33500.toNatClampNeg = 8 + 6 * x33363.toNatClampNeg := by omega
        have k3e_ := m33633
        rw [e_] at k3e_
        have b33673 : UN (tk.toInt = 0) (fun k => fI H33625 iq k) (fun k => fI s.heap iq k) := UN.tr m33634 b33582
        have b33674 : FB (fun k => fI H33625 iq k) (fun k => fI s.heap iq k) (6) := FB.wr b33583 k3e_ (fun j hj => Nat.ne_of_lt (Nat.lt_of_lt_of_le hj (Nat.le_trans (by decide : 6 ≤ 8) (Nat.le_add_right _ _))))
        have b33675 : EQ (fun k => fI H33625 q4 k) (fun k => fI H33625 iq k) (6) (6) (x33363.toNatClampNeg + 1) := EQ.wr (EQ.congr (w1 := fun k => fI H33563 iq k) (fun j => fI_kept (x_lt hTH33563 kH33625 gq4 (by decide))) (fun _ => rfl) b33584) k3e_ (fun j hj => nE_6_6_i1_8_6 hj)
        have b33676 : EQ (fun k => fI H33625 q10 k) (fun k => fI H33625 iq k) (7) (6) (x33363.toNatClampNeg + 1) := EQ.wr (EQ.congr (w1 := fun k => fI H33563 iq k) (fun j => fI_kept (x_lt hTH33563 kH33625 gq10 (by decide))) (fun _ => rfl) b33585) k3e_ (fun j hj => nE_7_6_i1_8_6 hj)
        have b33677 : EQ (fun k => fI H33625 q13 k) (fun k => fI H33625 iq k) (8) (6) (x33363.toNatClampNeg) := EQ.wr (EQ.congr (w1 := fun k => fI H33563 iq k) (fun j => fI_kept (x_lt hTH33563 kH33625 gq13 (by decide))) (fun _ => rfl) b33586) k3e_ (fun j hj => nE_8_6_i_8_6 hj)
        have b33678 : EQ (fun k => fI H33625 q14 k) (fun k => fI H33625 iq k) (9) (6) (x33363.toNatClampNeg) := EQ.wr (EQ.congr (w1 := fun k => fI H33563 iq k) (fun j => fI_kept (x_lt hTH33563 kH33625 gq14 (by decide))) (fun _ => rfl) b33587) k3e_ (fun j hj => nE_9_6_i_8_6 hj)
        have b33679 : EQ (fun k => fI H33625 q15 k) (fun k => fI H33625 iq k) (10) (6) (x33363.toNatClampNeg) := EQ.wr (EQ.congr (w1 := fun k => fI H33563 iq k) (fun j => fI_kept (x_lt hTH33563 kH33625 gq15 (by decide))) (fun _ => rfl) b33588) k3e_ (fun j hj => nE_10_6_i_8_6 hj)
        have b33680 : EQ (fun k => fI H33625 q50 k) (fun k => fI H33625 iq k) (11) (6) (x33363.toNatClampNeg) := EQ.wr (EQ.congr (w1 := fun k => fI H33563 iq k) (fun j => fI_kept (x_lt hTH33563 kH33625 gq50 (by decide))) (fun _ => rfl) b33589) k3e_ (fun j hj => nE_11_6_i_8_6 hj)
        have b33681 : EQ (fun k => fI H33625 q5 k) (fun k => fI H33625 iq k) (66) (4) (0) := EQ.wr (EQ.congr (w1 := fun k => fI H33563 iq k) (fun j => fI_kept (x_lt hTH33563 kH33625 gq5 (by decide))) (fun _ => rfl) b33590) k3e_ (fun j hj => nE_66_4_0_8_6 hj)
        have b33682 : EQ (fun k => fI H33625 q6 k) (fun k => fI H33625 iq k) (67) (4) (0) := EQ.wr (EQ.congr (w1 := fun k => fI H33563 iq k) (fun j => fI_kept (x_lt hTH33563 kH33625 gq6 (by decide))) (fun _ => rfl) b33591) k3e_ (fun j hj => nE_67_4_0_8_6 hj)
        have b33683 : EQ (fun k => fI H33625 q7 k) (fun k => fI H33625 iq k) (68) (4) (0) := EQ.wr (EQ.congr (w1 := fun k => fI H33563 iq k) (fun j => fI_kept (x_lt hTH33563 kH33625 gq7 (by decide))) (fun _ => rfl) b33592) k3e_ (fun j hj => nE_68_4_0_8_6 hj)
        have b33684 : EQ (fun k => fI H33625 q8 k) (fun k => fI H33625 iq k) (69) (4) (0) := EQ.wr (EQ.congr (w1 := fun k => fI H33563 iq k) (fun j => fI_kept (x_lt hTH33563 kH33625 gq8 (by decide))) (fun _ => rfl) b33593) k3e_ (fun j hj => nE_69_4_0_8_6 hj)
        have b33685 : EQ (fun k => fI H33625 q9 k) (fun k => fI H33625 iq k) (706) (1) (0) := EQ.wr (EQ.congr (w1 := fun k => fI H33563 iq k) (fun j => fI_kept (x_lt hTH33563 kH33625 gq9 (by decide))) (fun _ => rfl) b33594) k3e_ (fun j hj => nE_706_1_0_8_6 hj)
        have b33686 : EQ (fun k => fI H33625 q16 k) (fun k => fI H33625 iq k) (736) (3) (0) := EQ.wr (EQ.congr (w1 := fun k => fI H33563 iq k) (fun j => fI_kept (x_lt hTH33563 kH33625 gq16 (by decide))) (fun _ => rfl) b33595) k3e_ (fun j hj => nE_736_3_0_8_6 hj)
        have b33687 : EQ (fun k => fI H33625 q60 k) (fun k => fI H33625 iq k) (737) (3) (0) := EQ.wr (EQ.congr (w1 := fun k => fI H33563 iq k) (fun j => fI_kept (x_lt hTH33563 kH33625 gq60 (by decide))) (fun _ => rfl) b33596) k3e_ (fun j hj => nE_737_3_0_8_6 hj)
        have b33688 : EQ (fun k => fI H33625 q61 k) (fun k => fI H33625 iq k) (738) (3) (0) := EQ.wr (EQ.congr (w1 := fun k => fI H33563 iq k) (fun j => fI_kept (x_lt hTH33563 kH33625 gq61 (by decide))) (fun _ => rfl) b33597) k3e_ (fun j hj => nE_738_3_0_8_6 hj)
        have b33689 : EQ (fun k => fI H33625 q11 k) (fun k => fI H33625 iq k) (796) (2) (0) := EQ.wr (EQ.congr (w1 := fun k => fI H33563 iq k) (fun j => fI_kept (x_lt hTH33563 kH33625 gq11 (by decide))) (fun _ => rfl) b33598) k3e_ (fun j hj => nE_796_2_0_8_6 hj)
        have b33690 : EQ (fun k => fI H33625 q12 k) (fun k => fI H33625 iq k) (797) (2) (0) := EQ.wr (EQ.congr (w1 := fun k => fI H33563 iq k) (fun j => fI_kept (x_lt hTH33563 kH33625 gq12 (by decide))) (fun _ => rfl) b33599) k3e_ (fun j hj => nE_797_2_0_8_6 hj)
        clear b33566 b33567 b33568 b33569 b33570 b33571 b33572 b33573 b33574 b33575 b33576 b33577 b33578 b33579 b33580 b33581 b33582 b33583 b33584 b33585 b33586 b33587 b33588 b33589 b33590 b33591 b33592 b33593 b33594 b33595 b33596 b33597 b33598 b33599 ex33624 m33600 m33602 m33603 m33604 m33605 m33606 m33607 m33608 m33609 m33610 m33611 m33612 m33613 m33614 m33615 m33616 m33617 m33618 m33619 m33620 m33621
        clear m33633 m33634 k3e_ e_
        refine W.eq (g2 := F0 m 55 ls33361 [.int x33626, .int x33363, .ref q13]) rfl ?_
        refine x_iast C hTH33625 hSH33625 gq13 rg_122 bx33363.1 (by show _ < ((10 : Nat) : Int); omega) (i_rng x33626) (AE_in gq13 (by decide)) dX10_keepsBars_55 (fun H33691 locsH33691 hTH33691 hSH33691 wH33691 => ?_)
        have mf33692 : MF K s.heap H33691 a0 [72] := MF.arr wH33691 (G_ne ga0 gq13 (by decide)) mf33672
        have g33693 : WD (avw K H33691 a0) := WD.congr (fun k hk j => av_arr hTH33625 ga0 wH33691 gq13 (by decide) (WD_ok 122 (by decide) k hk)) g33629
        have b33694 : UN (tk.toInt ≠ 0) (fun k => fI H33691 q4 k) (fun k => fI s.heap q4 k) := UN.congr (fun j => Wr.neI wH33691 (Or.inl (G_ne gq4 gq13 (by decide)))) b33635
        have b33695 : UN (tk.toInt ≠ 0) (fun k => fI H33691 q10 k) (fun k => fI s.heap q10 k) := UN.congr (fun j => Wr.neI wH33691 (Or.inl (G_ne gq10 gq13 (by decide)))) b33636
        have b33696 : UN (tk.toInt ≠ 0) (fun k => fI H33691 q13 k) (fun k => fI s.heap q13 k) := UN.st b33637 (i := x33363.toNatClampNeg) (fun hc => (m33632 hc).trans m33653) (Wr.I wH33691) (fun j hj => Wr.neI wH33691 (Or.inr hj))
        have b33697 : UN (tk.toInt ≠ 0) (fun k => fI H33691 q14 k) (fun k => fI s.heap q14 k) := UN.congr (fun j => Wr.neI wH33691 (Or.inl (G_ne gq14 gq13 (by decide)))) b33638
        have b33698 : UN (tk.toInt ≠ 0) (fun k => fI H33691 q15 k) (fun k => fI s.heap q15 k) := UN.congr (fun j => Wr.neI wH33691 (Or.inl (G_ne gq15 gq13 (by decide)))) b33639
        have b33699 : UN (tk.toInt ≠ 0) (fun k => fI H33691 q50 k) (fun k => fI s.heap q50 k) := UN.congr (fun j => Wr.neI wH33691 (Or.inl (G_ne gq50 gq13 (by decide)))) b33640
        have b33700 : UN (tk.toInt ≠ 0) (fun k => fI H33691 q5 k) (fun k => fI s.heap q5 k) := UN.congr (fun j => Wr.neI wH33691 (Or.inl (G_ne gq5 gq13 (by decide)))) b33641
        have b33701 : UN (tk.toInt ≠ 0) (fun k => fI H33691 q6 k) (fun k => fI s.heap q6 k) := UN.congr (fun j => Wr.neI wH33691 (Or.inl (G_ne gq6 gq13 (by decide)))) b33642
        have b33702 : UN (tk.toInt ≠ 0) (fun k => fI H33691 q7 k) (fun k => fI s.heap q7 k) := UN.congr (fun j => Wr.neI wH33691 (Or.inl (G_ne gq7 gq13 (by decide)))) b33643
        have b33703 : UN (tk.toInt ≠ 0) (fun k => fI H33691 q8 k) (fun k => fI s.heap q8 k) := UN.congr (fun j => Wr.neI wH33691 (Or.inl (G_ne gq8 gq13 (by decide)))) b33644
        have b33704 : UN (tk.toInt ≠ 0) (fun k => fI H33691 q9 k) (fun k => fI s.heap q9 k) := UN.congr (fun j => Wr.neI wH33691 (Or.inl (G_ne gq9 gq13 (by decide)))) b33645
        have b33705 : UN (tk.toInt ≠ 0) (fun k => fI H33691 q16 k) (fun k => fI s.heap q16 k) := UN.congr (fun j => Wr.neI wH33691 (Or.inl (G_ne gq16 gq13 (by decide)))) b33646
        have b33706 : UN (tk.toInt ≠ 0) (fun k => fI H33691 q60 k) (fun k => fI s.heap q60 k) := UN.congr (fun j => Wr.neI wH33691 (Or.inl (G_ne gq60 gq13 (by decide)))) b33647
        have b33707 : UN (tk.toInt ≠ 0) (fun k => fI H33691 q61 k) (fun k => fI s.heap q61 k) := UN.congr (fun j => Wr.neI wH33691 (Or.inl (G_ne gq61 gq13 (by decide)))) b33648
        have b33708 : UN (tk.toInt ≠ 0) (fun k => fI H33691 q11 k) (fun k => fI s.heap q11 k) := UN.congr (fun j => Wr.neI wH33691 (Or.inl (G_ne gq11 gq13 (by decide)))) b33649
        have b33709 : UN (tk.toInt ≠ 0) (fun k => fI H33691 q12 k) (fun k => fI s.heap q12 k) := UN.congr (fun j => Wr.neI wH33691 (Or.inl (G_ne gq12 gq13 (by decide)))) b33650
        have b33710 : UN (tk.toInt = 0) (fun k => fI H33691 iq k) (fun k => fI s.heap iq k) := UN.congr (fun j => Wr.neI wH33691 (Or.inl (G_ne giq gq13 (by decide)))) b33673
        have b33711 : FB (fun k => fI H33691 iq k) (fun k => fI s.heap iq k) (6) := FB.congr (fun j => Wr.neI wH33691 (Or.inl (G_ne giq gq13 (by decide)))) b33674
        have b33712 : EQ (fun k => fI H33691 q4 k) (fun k => fI H33691 iq k) (6) (6) (x33363.toNatClampNeg + 1) := EQ.congr (fun j => Wr.neI wH33691 (Or.inl (G_ne gq4 gq13 (by decide)))) (fun j => Wr.neI wH33691 (Or.inl (G_ne giq gq13 (by decide)))) b33675
        have b33713 : EQ (fun k => fI H33691 q10 k) (fun k => fI H33691 iq k) (7) (6) (x33363.toNatClampNeg + 1) := EQ.congr (fun j => Wr.neI wH33691 (Or.inl (G_ne gq10 gq13 (by decide)))) (fun j => Wr.neI wH33691 (Or.inl (G_ne giq gq13 (by decide)))) b33676
        have b33714 : EQ (fun k => fI H33691 q13 k) (fun k => fI H33691 iq k) (8) (6) (x33363.toNatClampNeg + 1) := EQ.st b33677 (i := x33363.toNatClampNeg) (t := x33500.toNatClampNeg) (by omega) m33631 (by omega) (Wr.I wH33691) (fun j hj => Wr.neI wH33691 (Or.inr hj)) (fun j => Wr.neI wH33691 (Or.inl (G_ne giq gq13 (by decide))))
        have b33715 : EQ (fun k => fI H33691 q14 k) (fun k => fI H33691 iq k) (9) (6) (x33363.toNatClampNeg) := EQ.congr (fun j => Wr.neI wH33691 (Or.inl (G_ne gq14 gq13 (by decide)))) (fun j => Wr.neI wH33691 (Or.inl (G_ne giq gq13 (by decide)))) b33678
        have b33716 : EQ (fun k => fI H33691 q15 k) (fun k => fI H33691 iq k) (10) (6) (x33363.toNatClampNeg) := EQ.congr (fun j => Wr.neI wH33691 (Or.inl (G_ne gq15 gq13 (by decide)))) (fun j => Wr.neI wH33691 (Or.inl (G_ne giq gq13 (by decide)))) b33679
        have b33717 : EQ (fun k => fI H33691 q50 k) (fun k => fI H33691 iq k) (11) (6) (x33363.toNatClampNeg) := EQ.congr (fun j => Wr.neI wH33691 (Or.inl (G_ne gq50 gq13 (by decide)))) (fun j => Wr.neI wH33691 (Or.inl (G_ne giq gq13 (by decide)))) b33680
        have b33718 : EQ (fun k => fI H33691 q5 k) (fun k => fI H33691 iq k) (66) (4) (0) := EQ.congr (fun j => Wr.neI wH33691 (Or.inl (G_ne gq5 gq13 (by decide)))) (fun j => Wr.neI wH33691 (Or.inl (G_ne giq gq13 (by decide)))) b33681
        have b33719 : EQ (fun k => fI H33691 q6 k) (fun k => fI H33691 iq k) (67) (4) (0) := EQ.congr (fun j => Wr.neI wH33691 (Or.inl (G_ne gq6 gq13 (by decide)))) (fun j => Wr.neI wH33691 (Or.inl (G_ne giq gq13 (by decide)))) b33682
        have b33720 : EQ (fun k => fI H33691 q7 k) (fun k => fI H33691 iq k) (68) (4) (0) := EQ.congr (fun j => Wr.neI wH33691 (Or.inl (G_ne gq7 gq13 (by decide)))) (fun j => Wr.neI wH33691 (Or.inl (G_ne giq gq13 (by decide)))) b33683
        have b33721 : EQ (fun k => fI H33691 q8 k) (fun k => fI H33691 iq k) (69) (4) (0) := EQ.congr (fun j => Wr.neI wH33691 (Or.inl (G_ne gq8 gq13 (by decide)))) (fun j => Wr.neI wH33691 (Or.inl (G_ne giq gq13 (by decide)))) b33684
        have b33722 : EQ (fun k => fI H33691 q9 k) (fun k => fI H33691 iq k) (706) (1) (0) := EQ.congr (fun j => Wr.neI wH33691 (Or.inl (G_ne gq9 gq13 (by decide)))) (fun j => Wr.neI wH33691 (Or.inl (G_ne giq gq13 (by decide)))) b33685
        have b33723 : EQ (fun k => fI H33691 q16 k) (fun k => fI H33691 iq k) (736) (3) (0) := EQ.congr (fun j => Wr.neI wH33691 (Or.inl (G_ne gq16 gq13 (by decide)))) (fun j => Wr.neI wH33691 (Or.inl (G_ne giq gq13 (by decide)))) b33686
        have b33724 : EQ (fun k => fI H33691 q60 k) (fun k => fI H33691 iq k) (737) (3) (0) := EQ.congr (fun j => Wr.neI wH33691 (Or.inl (G_ne gq60 gq13 (by decide)))) (fun j => Wr.neI wH33691 (Or.inl (G_ne giq gq13 (by decide)))) b33687
        have b33725 : EQ (fun k => fI H33691 q61 k) (fun k => fI H33691 iq k) (738) (3) (0) := EQ.congr (fun j => Wr.neI wH33691 (Or.inl (G_ne gq61 gq13 (by decide)))) (fun j => Wr.neI wH33691 (Or.inl (G_ne giq gq13 (by decide)))) b33688
        have b33726 : EQ (fun k => fI H33691 q11 k) (fun k => fI H33691 iq k) (796) (2) (0) := EQ.congr (fun j => Wr.neI wH33691 (Or.inl (G_ne gq11 gq13 (by decide)))) (fun j => Wr.neI wH33691 (Or.inl (G_ne giq gq13 (by decide)))) b33689
        have b33727 : EQ (fun k => fI H33691 q12 k) (fun k => fI H33691 iq k) (797) (2) (0) := EQ.congr (fun j => Wr.neI wH33691 (Or.inl (G_ne gq12 gq13 (by decide)))) (fun j => Wr.neI wH33691 (Or.inl (G_ne giq gq13 (by decide)))) b33690
        have m33728 := m33651.trans (Wr.neI wH33691 (Or.inl (G_ne gq4 gq13 (by decide)))).symm
        have m33729 := m33652.trans (Wr.neI wH33691 (Or.inl (G_ne gq10 gq13 (by decide)))).symm
        have m33731 := m33628.trans (Wr.neR wH33691 (Or.inl (G_ne ga0 gq13 (by decide)))).symm
        have m33732 := m33655.trans (Wr.neR wH33691 (Or.inl (G_ne ga0 gq13 (by decide)))).symm
        have m33733 := m33656.trans (Wr.neR wH33691 (Or.inl (G_ne ga0 gq13 (by decide)))).symm
        have m33734 := m33657.trans (Wr.neR wH33691 (Or.inl (G_ne ga0 gq13 (by decide)))).symm
        have m33735 := m33658.trans (Wr.neR wH33691 (Or.inl (G_ne ga0 gq13 (by decide)))).symm
        have m33736 := m33659.trans (Wr.neR wH33691 (Or.inl (G_ne ga0 gq13 (by decide)))).symm
        have m33737 := m33660.trans (Wr.neR wH33691 (Or.inl (G_ne ga0 gq13 (by decide)))).symm
        have m33738 := m33661.trans (Wr.neR wH33691 (Or.inl (G_ne ga0 gq13 (by decide)))).symm
        have m33739 := m33662.trans (Wr.neR wH33691 (Or.inl (G_ne ga0 gq13 (by decide)))).symm
        have m33740 := m33663.trans (Wr.neR wH33691 (Or.inl (G_ne ga0 gq13 (by decide)))).symm
        have m33741 := m33664.trans (Wr.neR wH33691 (Or.inl (G_ne ga0 gq13 (by decide)))).symm
        have m33742 := m33665.trans (Wr.neR wH33691 (Or.inl (G_ne ga0 gq13 (by decide)))).symm
        have m33743 := m33666.trans (Wr.neR wH33691 (Or.inl (G_ne ga0 gq13 (by decide)))).symm
        have m33744 := m33667.trans (Wr.neR wH33691 (Or.inl (G_ne ga0 gq13 (by decide)))).symm
        have m33745 := m33668.trans (Wr.neR wH33691 (Or.inl (G_ne ga0 gq13 (by decide)))).symm
        have m33746 := m33669.trans (Wr.neR wH33691 (Or.inl (G_ne ga0 gq13 (by decide)))).symm
        have m33747 := m33670.trans (Wr.neR wH33691 (Or.inl (G_ne ga0 gq13 (by decide)))).symm
        have m33748 := m33671.trans (Wr.neI wH33691 (Or.inl (G_ne ga0 gq13 (by decide)))).symm
        have m33749 := ex33627.trans (Wr.neI wH33691 (Or.inl (G_ne ga0 gq13 (by decide)))).symm
        have m33750 := Wr.I wH33691
        have m33750 := m33750.symm
        clear b33635 b33636 b33637 b33638 b33639 b33640 b33641 b33642 b33643 b33644 b33645 b33646 b33647 b33648 b33649 b33650 b33673 b33674 b33675 b33676 b33677 b33678 b33679 b33680 b33681 b33682 b33683 b33684 b33685 b33686 b33687 b33688 b33689 b33690 ex33627 g33629 hTH33625 m33628 m33651 m33652 m33653 m33655 m33656 m33657 m33658 m33659 m33660 m33661 m33662 m33663 m33664 m33665 m33666 m33667 m33668 m33669 m33670 m33671 mf33672
        refine lv_aload_n hx hb dX10_keepsBars_56 rfl (lv_at hl33362 0 rfl) ?_
        refine x_gr C hTH33691 (ci := 10) (k := 14) rfl inX10 (by decide) wF_X10_44 ga0 rg_112 rfl dX10_keepsBars_57 (fun q33751 eq33751 gq33751 => ?_)
        have uq33751 : q14 = q33751 := (m33742).trans eq33751.symm
        subst uq33751
        clear eq33751
        refine lv_iload_n hx hb dX10_keepsBars_60 rfl (lv_at hl33362 1 rfl) ?_
        refine lv_aload_n hx hb dX10_keepsBars_61 rfl (lv_at hl33362 0 rfl) ?_
        refine lv_aload_n hx hb dX10_keepsBars_62 rfl (lv_at hl33362 0 rfl) ?_
        refine x_gr C hTH33691 (ci := 10) (k := 14) rfl inX10 (by decide) wF_X10_44 ga0 rg_112 rfl dX10_keepsBars_63 (fun q33752 eq33752 gq33752 => ?_)
        have uq33752 : q14 = q33752 := (m33742).trans eq33752.symm
        subst uq33752
        clear eq33752
        refine lv_iload_n hx hb dX10_keepsBars_66 rfl (lv_at hl33362 1 rfl) ?_
        refine x_ai C hTH33691 gq14 rg_123 ⟨bx33363.1, by show _ < ((10 : Nat) : Int); omega⟩ dX10_keepsBars_67 (fun x33753 ex33753 bx33753 => ?_)
        refine x_V (As := [.int x33753]) (rest := [.int x33363, .ref q14]) C (a_X10_kept l K G H33691 (x33753) (x33627) (tk) hTH33691 ga0 giq m33731 m33749 m33748 g33693 (by and_intros <;> first | assumption | omega)) yo_X10_kept wM_X10_473 ⟨⟨by decide, by decide⟩, by decide, by decide⟩ (x_rv C hTH33691 (ci := 10) rfl ga0 rg_112) rfl hl33362.1 rfl (Nat.le_of_ble_eq_true rfl) dX10_keepsBars_68 hSH33691 (AE_sub (fun _ _ => rfl) (by decide) hSH33691.1) (fun vH33754 H33754 locsH33754 pH33754 zH33754 kH33754 hSH33754 => ?_)
        obtain ⟨x33755, x33756, hvH33754, ex33756, hrH33754, m33757, g33758, mf33759, m33760, m33761, m33762, m33763, hTH33754⟩ := pH33754
        subst hvH33754
        clear zH33754
        replace m33757 := EQN.mk m33757
        have b33764 : UN (tk.toInt ≠ 0) (fun k => fI H33754 q4 k) (fun k => fI s.heap q4 k) := UN.congr (fun j => fI_kept (x_lt hTH33691 kH33754 gq4 (by decide))) b33694
        have b33765 : UN (tk.toInt ≠ 0) (fun k => fI H33754 q10 k) (fun k => fI s.heap q10 k) := UN.congr (fun j => fI_kept (x_lt hTH33691 kH33754 gq10 (by decide))) b33695
        have b33766 : UN (tk.toInt ≠ 0) (fun k => fI H33754 q13 k) (fun k => fI s.heap q13 k) := UN.congr (fun j => fI_kept (x_lt hTH33691 kH33754 gq13 (by decide))) b33696
        have b33767 : UN (tk.toInt ≠ 0) (fun k => fI H33754 q14 k) (fun k => fI s.heap q14 k) := UN.congr (fun j => fI_kept (x_lt hTH33691 kH33754 gq14 (by decide))) b33697
        have b33768 : UN (tk.toInt ≠ 0) (fun k => fI H33754 q15 k) (fun k => fI s.heap q15 k) := UN.congr (fun j => fI_kept (x_lt hTH33691 kH33754 gq15 (by decide))) b33698
        have b33769 : UN (tk.toInt ≠ 0) (fun k => fI H33754 q50 k) (fun k => fI s.heap q50 k) := UN.congr (fun j => fI_kept (x_lt hTH33691 kH33754 gq50 (by decide))) b33699
        have b33770 : UN (tk.toInt ≠ 0) (fun k => fI H33754 q5 k) (fun k => fI s.heap q5 k) := UN.congr (fun j => fI_kept (x_lt hTH33691 kH33754 gq5 (by decide))) b33700
        have b33771 : UN (tk.toInt ≠ 0) (fun k => fI H33754 q6 k) (fun k => fI s.heap q6 k) := UN.congr (fun j => fI_kept (x_lt hTH33691 kH33754 gq6 (by decide))) b33701
        have b33772 : UN (tk.toInt ≠ 0) (fun k => fI H33754 q7 k) (fun k => fI s.heap q7 k) := UN.congr (fun j => fI_kept (x_lt hTH33691 kH33754 gq7 (by decide))) b33702
        have b33773 : UN (tk.toInt ≠ 0) (fun k => fI H33754 q8 k) (fun k => fI s.heap q8 k) := UN.congr (fun j => fI_kept (x_lt hTH33691 kH33754 gq8 (by decide))) b33703
        have b33774 : UN (tk.toInt ≠ 0) (fun k => fI H33754 q9 k) (fun k => fI s.heap q9 k) := UN.congr (fun j => fI_kept (x_lt hTH33691 kH33754 gq9 (by decide))) b33704
        have b33775 : UN (tk.toInt ≠ 0) (fun k => fI H33754 q16 k) (fun k => fI s.heap q16 k) := UN.congr (fun j => fI_kept (x_lt hTH33691 kH33754 gq16 (by decide))) b33705
        have b33776 : UN (tk.toInt ≠ 0) (fun k => fI H33754 q60 k) (fun k => fI s.heap q60 k) := UN.congr (fun j => fI_kept (x_lt hTH33691 kH33754 gq60 (by decide))) b33706
        have b33777 : UN (tk.toInt ≠ 0) (fun k => fI H33754 q61 k) (fun k => fI s.heap q61 k) := UN.congr (fun j => fI_kept (x_lt hTH33691 kH33754 gq61 (by decide))) b33707
        have b33778 : UN (tk.toInt ≠ 0) (fun k => fI H33754 q11 k) (fun k => fI s.heap q11 k) := UN.congr (fun j => fI_kept (x_lt hTH33691 kH33754 gq11 (by decide))) b33708
        have b33779 : UN (tk.toInt ≠ 0) (fun k => fI H33754 q12 k) (fun k => fI s.heap q12 k) := UN.congr (fun j => fI_kept (x_lt hTH33691 kH33754 gq12 (by decide))) b33709
        have m33780 := (m33728).trans (fI_kept (x_lt hTH33691 kH33754 gq4 (by decide))).symm
        have m33781 := (m33729).trans (fI_kept (x_lt hTH33691 kH33754 gq10 (by decide))).symm
        have m33782 := (m33750).trans (fI_kept (x_lt hTH33691 kH33754 gq13 (by decide))).symm
        have m33783 := (ex33753).trans (fI_kept (x_lt hTH33691 kH33754 gq14 (by decide))).symm
        have m33784 := (m33731).trans (MF.r mf33759 (k := 73) (by decide) (by decide)).symm
        have m33785 := (m33732).trans (MF.r mf33759 (k := 4) (by decide) (by decide)).symm
        have m33786 := (m33733).trans (MF.r mf33759 (k := 5) (by decide) (by decide)).symm
        have m33787 := (m33734).trans (MF.r mf33759 (k := 6) (by decide) (by decide)).symm
        have m33788 := (m33735).trans (MF.r mf33759 (k := 7) (by decide) (by decide)).symm
        have m33789 := (m33736).trans (MF.r mf33759 (k := 8) (by decide) (by decide)).symm
        have m33790 := (m33737).trans (MF.r mf33759 (k := 9) (by decide) (by decide)).symm
        have m33791 := (m33738).trans (MF.r mf33759 (k := 10) (by decide) (by decide)).symm
        have m33792 := (m33739).trans (MF.r mf33759 (k := 11) (by decide) (by decide)).symm
        have m33793 := (m33740).trans (MF.r mf33759 (k := 12) (by decide) (by decide)).symm
        have m33794 := (m33741).trans (MF.r mf33759 (k := 13) (by decide) (by decide)).symm
        have m33795 := (m33742).trans (MF.r mf33759 (k := 14) (by decide) (by decide)).symm
        have m33796 := (m33743).trans (MF.r mf33759 (k := 15) (by decide) (by decide)).symm
        have m33797 := (m33744).trans (MF.r mf33759 (k := 16) (by decide) (by decide)).symm
        have m33798 := (m33745).trans (MF.r mf33759 (k := 50) (by decide) (by decide)).symm
        have m33799 := (m33746).trans (MF.r mf33759 (k := 60) (by decide) (by decide)).symm
        have m33800 := (m33747).trans (MF.r mf33759 (k := 61) (by decide) (by decide)).symm
        have m33801 := (m33748).trans (MF.i mf33759 (k := 71) (by decide) (by decide)).symm
        have mf33802 : MF K s.heap H33754 a0 [72] := MF.trans mf33692 mf33759 (by decide)
        have bx33756 := ty_fi (x := x33756) (k := 72) ex33756 hTH33754 ga0 rg_112 rfl
        have ce_x33627 := i_cl (x := x33627) bx33627.1
        have e_ : x33627.toNatClampNeg = 9 + 6 * x33363.toNatClampNeg := by omega
        have k3e_ := m33762
        rw [e_] at k3e_
        have b33803 : UN (tk.toInt = 0) (fun k => fI H33754 iq k) (fun k => fI s.heap iq k) := UN.tr m33763 b33710
        have b33804 : FB (fun k => fI H33754 iq k) (fun k => fI s.heap iq k) (6) := FB.wr b33711 k3e_ (fun j hj => Nat.ne_of_lt (Nat.lt_of_lt_of_le hj (Nat.le_trans (by decide : 6 ≤ 9) (Nat.le_add_right _ _))))
        have b33805 : EQ (fun k => fI H33754 q4 k) (fun k => fI H33754 iq k) (6) (6) (x33363.toNatClampNeg + 1) := EQ.wr (EQ.congr (w1 := fun k => fI H33691 iq k) (fun j => fI_kept (x_lt hTH33691 kH33754 gq4 (by decide))) (fun _ => rfl) b33712) k3e_ (fun j hj => nE_6_6_i1_9_6 hj)
        have b33806 : EQ (fun k => fI H33754 q10 k) (fun k => fI H33754 iq k) (7) (6) (x33363.toNatClampNeg + 1) := EQ.wr (EQ.congr (w1 := fun k => fI H33691 iq k) (fun j => fI_kept (x_lt hTH33691 kH33754 gq10 (by decide))) (fun _ => rfl) b33713) k3e_ (fun j hj => nE_7_6_i1_9_6 hj)
        have b33807 : EQ (fun k => fI H33754 q13 k) (fun k => fI H33754 iq k) (8) (6) (x33363.toNatClampNeg + 1) := EQ.wr (EQ.congr (w1 := fun k => fI H33691 iq k) (fun j => fI_kept (x_lt hTH33691 kH33754 gq13 (by decide))) (fun _ => rfl) b33714) k3e_ (fun j hj => nE_8_6_i1_9_6 hj)
        have b33808 : EQ (fun k => fI H33754 q14 k) (fun k => fI H33754 iq k) (9) (6) (x33363.toNatClampNeg) := EQ.wr (EQ.congr (w1 := fun k => fI H33691 iq k) (fun j => fI_kept (x_lt hTH33691 kH33754 gq14 (by decide))) (fun _ => rfl) b33715) k3e_ (fun j hj => nE_9_6_i_9_6 hj)
        have b33809 : EQ (fun k => fI H33754 q15 k) (fun k => fI H33754 iq k) (10) (6) (x33363.toNatClampNeg) := EQ.wr (EQ.congr (w1 := fun k => fI H33691 iq k) (fun j => fI_kept (x_lt hTH33691 kH33754 gq15 (by decide))) (fun _ => rfl) b33716) k3e_ (fun j hj => nE_10_6_i_9_6 hj)
        have b33810 : EQ (fun k => fI H33754 q50 k) (fun k => fI H33754 iq k) (11) (6) (x33363.toNatClampNeg) := EQ.wr (EQ.congr (w1 := fun k => fI H33691 iq k) (fun j => fI_kept (x_lt hTH33691 kH33754 gq50 (by decide))) (fun _ => rfl) b33717) k3e_ (fun j hj => nE_11_6_i_9_6 hj)
        have b33811 : EQ (fun k => fI H33754 q5 k) (fun k => fI H33754 iq k) (66) (4) (0) := EQ.wr (EQ.congr (w1 := fun k => fI H33691 iq k) (fun j => fI_kept (x_lt hTH33691 kH33754 gq5 (by decide))) (fun _ => rfl) b33718) k3e_ (fun j hj => nE_66_4_0_9_6 hj)
        have b33812 : EQ (fun k => fI H33754 q6 k) (fun k => fI H33754 iq k) (67) (4) (0) := EQ.wr (EQ.congr (w1 := fun k => fI H33691 iq k) (fun j => fI_kept (x_lt hTH33691 kH33754 gq6 (by decide))) (fun _ => rfl) b33719) k3e_ (fun j hj => nE_67_4_0_9_6 hj)
        have b33813 : EQ (fun k => fI H33754 q7 k) (fun k => fI H33754 iq k) (68) (4) (0) := EQ.wr (EQ.congr (w1 := fun k => fI H33691 iq k) (fun j => fI_kept (x_lt hTH33691 kH33754 gq7 (by decide))) (fun _ => rfl) b33720) k3e_ (fun j hj => nE_68_4_0_9_6 hj)
        have b33814 : EQ (fun k => fI H33754 q8 k) (fun k => fI H33754 iq k) (69) (4) (0) := EQ.wr (EQ.congr (w1 := fun k => fI H33691 iq k) (fun j => fI_kept (x_lt hTH33691 kH33754 gq8 (by decide))) (fun _ => rfl) b33721) k3e_ (fun j hj => nE_69_4_0_9_6 hj)
        have b33815 : EQ (fun k => fI H33754 q9 k) (fun k => fI H33754 iq k) (706) (1) (0) := EQ.wr (EQ.congr (w1 := fun k => fI H33691 iq k) (fun j => fI_kept (x_lt hTH33691 kH33754 gq9 (by decide))) (fun _ => rfl) b33722) k3e_ (fun j hj => nE_706_1_0_9_6 hj)
        have b33816 : EQ (fun k => fI H33754 q16 k) (fun k => fI H33754 iq k) (736) (3) (0) := EQ.wr (EQ.congr (w1 := fun k => fI H33691 iq k) (fun j => fI_kept (x_lt hTH33691 kH33754 gq16 (by decide))) (fun _ => rfl) b33723) k3e_ (fun j hj => nE_736_3_0_9_6 hj)
        have b33817 : EQ (fun k => fI H33754 q60 k) (fun k => fI H33754 iq k) (737) (3) (0) := EQ.wr (EQ.congr (w1 := fun k => fI H33691 iq k) (fun j => fI_kept (x_lt hTH33691 kH33754 gq60 (by decide))) (fun _ => rfl) b33724) k3e_ (fun j hj => nE_737_3_0_9_6 hj)
        have b33818 : EQ (fun k => fI H33754 q61 k) (fun k => fI H33754 iq k) (738) (3) (0) := EQ.wr (EQ.congr (w1 := fun k => fI H33691 iq k) (fun j => fI_kept (x_lt hTH33691 kH33754 gq61 (by decide))) (fun _ => rfl) b33725) k3e_ (fun j hj => nE_738_3_0_9_6 hj)
        have b33819 : EQ (fun k => fI H33754 q11 k) (fun k => fI H33754 iq k) (796) (2) (0) := EQ.wr (EQ.congr (w1 := fun k => fI H33691 iq k) (fun j => fI_kept (x_lt hTH33691 kH33754 gq11 (by decide))) (fun _ => rfl) b33726) k3e_ (fun j hj => nE_796_2_0_9_6 hj)
        have b33820 : EQ (fun k => fI H33754 q12 k) (fun k => fI H33754 iq k) (797) (2) (0) := EQ.wr (EQ.congr (w1 := fun k => fI H33691 iq k) (fun j => fI_kept (x_lt hTH33691 kH33754 gq12 (by decide))) (fun _ => rfl) b33727) k3e_ (fun j hj => nE_797_2_0_9_6 hj)
        clear b33694 b33695 b33696 b33697 b33698 b33699 b33700 b33701 b33702 b33703 b33704 b33705 b33706 b33707 b33708 b33709 b33710 b33711 b33712 b33713 b33714 b33715 b33716 b33717 b33718 b33719 b33720 b33721 b33722 b33723 b33724 b33725 b33726 b33727 ex33753 m33728 m33729 m33731 m33732 m33733 m33734 m33735 m33736 m33737 m33738 m33739 m33740 m33741 m33742 m33743 m33744 m33745 m33746 m33747 m33748 m33749 m33750
        clear m33762 m33763 k3e_ e_
        refine W.eq (g2 := F0 m 71 ls33361 [.int x33755, .int x33363, .ref q14]) rfl ?_
        refine x_iast C hTH33754 hSH33754 gq14 rg_123 bx33363.1 (by show _ < ((10 : Nat) : Int); omega) (i_rng x33755) (AE_in gq14 (by decide)) dX10_keepsBars_71 (fun H33821 locsH33821 hTH33821 hSH33821 wH33821 => ?_)
        have mf33822 : MF K s.heap H33821 a0 [72] := MF.arr wH33821 (G_ne ga0 gq14 (by decide)) mf33802
        have g33823 : WD (avw K H33821 a0) := WD.congr (fun k hk j => av_arr hTH33754 ga0 wH33821 gq14 (by decide) (WD_ok 123 (by decide) k hk)) g33758
        have b33824 : UN (tk.toInt ≠ 0) (fun k => fI H33821 q4 k) (fun k => fI s.heap q4 k) := UN.congr (fun j => Wr.neI wH33821 (Or.inl (G_ne gq4 gq14 (by decide)))) b33764
        have b33825 : UN (tk.toInt ≠ 0) (fun k => fI H33821 q10 k) (fun k => fI s.heap q10 k) := UN.congr (fun j => Wr.neI wH33821 (Or.inl (G_ne gq10 gq14 (by decide)))) b33765
        have b33826 : UN (tk.toInt ≠ 0) (fun k => fI H33821 q13 k) (fun k => fI s.heap q13 k) := UN.congr (fun j => Wr.neI wH33821 (Or.inl (G_ne gq13 gq14 (by decide)))) b33766
        have b33827 : UN (tk.toInt ≠ 0) (fun k => fI H33821 q14 k) (fun k => fI s.heap q14 k) := UN.st b33767 (i := x33363.toNatClampNeg) (fun hc => (m33761 hc).trans m33783) (Wr.I wH33821) (fun j hj => Wr.neI wH33821 (Or.inr hj))
        have b33828 : UN (tk.toInt ≠ 0) (fun k => fI H33821 q15 k) (fun k => fI s.heap q15 k) := UN.congr (fun j => Wr.neI wH33821 (Or.inl (G_ne gq15 gq14 (by decide)))) b33768
        have b33829 : UN (tk.toInt ≠ 0) (fun k => fI H33821 q50 k) (fun k => fI s.heap q50 k) := UN.congr (fun j => Wr.neI wH33821 (Or.inl (G_ne gq50 gq14 (by decide)))) b33769
        have b33830 : UN (tk.toInt ≠ 0) (fun k => fI H33821 q5 k) (fun k => fI s.heap q5 k) := UN.congr (fun j => Wr.neI wH33821 (Or.inl (G_ne gq5 gq14 (by decide)))) b33770
        have b33831 : UN (tk.toInt ≠ 0) (fun k => fI H33821 q6 k) (fun k => fI s.heap q6 k) := UN.congr (fun j => Wr.neI wH33821 (Or.inl (G_ne gq6 gq14 (by decide)))) b33771
        have b33832 : UN (tk.toInt ≠ 0) (fun k => fI H33821 q7 k) (fun k => fI s.heap q7 k) := UN.congr (fun j => Wr.neI wH33821 (Or.inl (G_ne gq7 gq14 (by decide)))) b33772
        have b33833 : UN (tk.toInt ≠ 0) (fun k => fI H33821 q8 k) (fun k => fI s.heap q8 k) := UN.congr (fun j => Wr.neI wH33821 (Or.inl (G_ne gq8 gq14 (by decide)))) b33773
        have b33834 : UN (tk.toInt ≠ 0) (fun k => fI H33821 q9 k) (fun k => fI s.heap q9 k) := UN.congr (fun j => Wr.neI wH33821 (Or.inl (G_ne gq9 gq14 (by decide)))) b33774
        have b33835 : UN (tk.toInt ≠ 0) (fun k => fI H33821 q16 k) (fun k => fI s.heap q16 k) := UN.congr (fun j => Wr.neI wH33821 (Or.inl (G_ne gq16 gq14 (by decide)))) b33775
        have b33836 : UN (tk.toInt ≠ 0) (fun k => fI H33821 q60 k) (fun k => fI s.heap q60 k) := UN.congr (fun j => Wr.neI wH33821 (Or.inl (G_ne gq60 gq14 (by decide)))) b33776
        have b33837 : UN (tk.toInt ≠ 0) (fun k => fI H33821 q61 k) (fun k => fI s.heap q61 k) := UN.congr (fun j => Wr.neI wH33821 (Or.inl (G_ne gq61 gq14 (by decide)))) b33777
        have b33838 : UN (tk.toInt ≠ 0) (fun k => fI H33821 q11 k) (fun k => fI s.heap q11 k) := UN.congr (fun j => Wr.neI wH33821 (Or.inl (G_ne gq11 gq14 (by decide)))) b33778
        have b33839 : UN (tk.toInt ≠ 0) (fun k => fI H33821 q12 k) (fun k => fI s.heap q12 k) := UN.congr (fun j => Wr.neI wH33821 (Or.inl (G_ne gq12 gq14 (by decide)))) b33779
        have b33840 : UN (tk.toInt = 0) (fun k => fI H33821 iq k) (fun k => fI s.heap iq k) := UN.congr (fun j => Wr.neI wH33821 (Or.inl (G_ne giq gq14 (by decide)))) b33803
        have b33841 : FB (fun k => fI H33821 iq k) (fun k => fI s.heap iq k) (6) := FB.congr (fun j => Wr.neI wH33821 (Or.inl (G_ne giq gq14 (by decide)))) b33804
        have b33842 : EQ (fun k => fI H33821 q4 k) (fun k => fI H33821 iq k) (6) (6) (x33363.toNatClampNeg + 1) := EQ.congr (fun j => Wr.neI wH33821 (Or.inl (G_ne gq4 gq14 (by decide)))) (fun j => Wr.neI wH33821 (Or.inl (G_ne giq gq14 (by decide)))) b33805
        have b33843 : EQ (fun k => fI H33821 q10 k) (fun k => fI H33821 iq k) (7) (6) (x33363.toNatClampNeg + 1) := EQ.congr (fun j => Wr.neI wH33821 (Or.inl (G_ne gq10 gq14 (by decide)))) (fun j => Wr.neI wH33821 (Or.inl (G_ne giq gq14 (by decide)))) b33806
        have b33844 : EQ (fun k => fI H33821 q13 k) (fun k => fI H33821 iq k) (8) (6) (x33363.toNatClampNeg + 1) := EQ.congr (fun j => Wr.neI wH33821 (Or.inl (G_ne gq13 gq14 (by decide)))) (fun j => Wr.neI wH33821 (Or.inl (G_ne giq gq14 (by decide)))) b33807
        have b33845 : EQ (fun k => fI H33821 q14 k) (fun k => fI H33821 iq k) (9) (6) (x33363.toNatClampNeg + 1) := EQ.st b33808 (i := x33363.toNatClampNeg) (t := x33627.toNatClampNeg) (by omega) m33760 (by omega) (Wr.I wH33821) (fun j hj => Wr.neI wH33821 (Or.inr hj)) (fun j => Wr.neI wH33821 (Or.inl (G_ne giq gq14 (by decide))))
        have b33846 : EQ (fun k => fI H33821 q15 k) (fun k => fI H33821 iq k) (10) (6) (x33363.toNatClampNeg) := EQ.congr (fun j => Wr.neI wH33821 (Or.inl (G_ne gq15 gq14 (by decide)))) (fun j => Wr.neI wH33821 (Or.inl (G_ne giq gq14 (by decide)))) b33809
        have b33847 : EQ (fun k => fI H33821 q50 k) (fun k => fI H33821 iq k) (11) (6) (x33363.toNatClampNeg) := EQ.congr (fun j => Wr.neI wH33821 (Or.inl (G_ne gq50 gq14 (by decide)))) (fun j => Wr.neI wH33821 (Or.inl (G_ne giq gq14 (by decide)))) b33810
        have b33848 : EQ (fun k => fI H33821 q5 k) (fun k => fI H33821 iq k) (66) (4) (0) := EQ.congr (fun j => Wr.neI wH33821 (Or.inl (G_ne gq5 gq14 (by decide)))) (fun j => Wr.neI wH33821 (Or.inl (G_ne giq gq14 (by decide)))) b33811
        have b33849 : EQ (fun k => fI H33821 q6 k) (fun k => fI H33821 iq k) (67) (4) (0) := EQ.congr (fun j => Wr.neI wH33821 (Or.inl (G_ne gq6 gq14 (by decide)))) (fun j => Wr.neI wH33821 (Or.inl (G_ne giq gq14 (by decide)))) b33812
        have b33850 : EQ (fun k => fI H33821 q7 k) (fun k => fI H33821 iq k) (68) (4) (0) := EQ.congr (fun j => Wr.neI wH33821 (Or.inl (G_ne gq7 gq14 (by decide)))) (fun j => Wr.neI wH33821 (Or.inl (G_ne giq gq14 (by decide)))) b33813
        have b33851 : EQ (fun k => fI H33821 q8 k) (fun k => fI H33821 iq k) (69) (4) (0) := EQ.congr (fun j => Wr.neI wH33821 (Or.inl (G_ne gq8 gq14 (by decide)))) (fun j => Wr.neI wH33821 (Or.inl (G_ne giq gq14 (by decide)))) b33814
        have b33852 : EQ (fun k => fI H33821 q9 k) (fun k => fI H33821 iq k) (706) (1) (0) := EQ.congr (fun j => Wr.neI wH33821 (Or.inl (G_ne gq9 gq14 (by decide)))) (fun j => Wr.neI wH33821 (Or.inl (G_ne giq gq14 (by decide)))) b33815
        have b33853 : EQ (fun k => fI H33821 q16 k) (fun k => fI H33821 iq k) (736) (3) (0) := EQ.congr (fun j => Wr.neI wH33821 (Or.inl (G_ne gq16 gq14 (by decide)))) (fun j => Wr.neI wH33821 (Or.inl (G_ne giq gq14 (by decide)))) b33816
        have b33854 : EQ (fun k => fI H33821 q60 k) (fun k => fI H33821 iq k) (737) (3) (0) := EQ.congr (fun j => Wr.neI wH33821 (Or.inl (G_ne gq60 gq14 (by decide)))) (fun j => Wr.neI wH33821 (Or.inl (G_ne giq gq14 (by decide)))) b33817
        have b33855 : EQ (fun k => fI H33821 q61 k) (fun k => fI H33821 iq k) (738) (3) (0) := EQ.congr (fun j => Wr.neI wH33821 (Or.inl (G_ne gq61 gq14 (by decide)))) (fun j => Wr.neI wH33821 (Or.inl (G_ne giq gq14 (by decide)))) b33818
        have b33856 : EQ (fun k => fI H33821 q11 k) (fun k => fI H33821 iq k) (796) (2) (0) := EQ.congr (fun j => Wr.neI wH33821 (Or.inl (G_ne gq11 gq14 (by decide)))) (fun j => Wr.neI wH33821 (Or.inl (G_ne giq gq14 (by decide)))) b33819
        have b33857 : EQ (fun k => fI H33821 q12 k) (fun k => fI H33821 iq k) (797) (2) (0) := EQ.congr (fun j => Wr.neI wH33821 (Or.inl (G_ne gq12 gq14 (by decide)))) (fun j => Wr.neI wH33821 (Or.inl (G_ne giq gq14 (by decide)))) b33820
        have m33858 := m33780.trans (Wr.neI wH33821 (Or.inl (G_ne gq4 gq14 (by decide)))).symm
        have m33859 := m33781.trans (Wr.neI wH33821 (Or.inl (G_ne gq10 gq14 (by decide)))).symm
        have m33860 := m33782.trans (Wr.neI wH33821 (Or.inl (G_ne gq13 gq14 (by decide)))).symm
        have m33862 := m33757.trans (Wr.neR wH33821 (Or.inl (G_ne ga0 gq14 (by decide)))).symm
        have m33863 := m33785.trans (Wr.neR wH33821 (Or.inl (G_ne ga0 gq14 (by decide)))).symm
        have m33864 := m33786.trans (Wr.neR wH33821 (Or.inl (G_ne ga0 gq14 (by decide)))).symm
        have m33865 := m33787.trans (Wr.neR wH33821 (Or.inl (G_ne ga0 gq14 (by decide)))).symm
        have m33866 := m33788.trans (Wr.neR wH33821 (Or.inl (G_ne ga0 gq14 (by decide)))).symm
        have m33867 := m33789.trans (Wr.neR wH33821 (Or.inl (G_ne ga0 gq14 (by decide)))).symm
        have m33868 := m33790.trans (Wr.neR wH33821 (Or.inl (G_ne ga0 gq14 (by decide)))).symm
        have m33869 := m33791.trans (Wr.neR wH33821 (Or.inl (G_ne ga0 gq14 (by decide)))).symm
        have m33870 := m33792.trans (Wr.neR wH33821 (Or.inl (G_ne ga0 gq14 (by decide)))).symm
        have m33871 := m33793.trans (Wr.neR wH33821 (Or.inl (G_ne ga0 gq14 (by decide)))).symm
        have m33872 := m33794.trans (Wr.neR wH33821 (Or.inl (G_ne ga0 gq14 (by decide)))).symm
        have m33873 := m33795.trans (Wr.neR wH33821 (Or.inl (G_ne ga0 gq14 (by decide)))).symm
        have m33874 := m33796.trans (Wr.neR wH33821 (Or.inl (G_ne ga0 gq14 (by decide)))).symm
        have m33875 := m33797.trans (Wr.neR wH33821 (Or.inl (G_ne ga0 gq14 (by decide)))).symm
        have m33876 := m33798.trans (Wr.neR wH33821 (Or.inl (G_ne ga0 gq14 (by decide)))).symm
        have m33877 := m33799.trans (Wr.neR wH33821 (Or.inl (G_ne ga0 gq14 (by decide)))).symm
        have m33878 := m33800.trans (Wr.neR wH33821 (Or.inl (G_ne ga0 gq14 (by decide)))).symm
        have m33879 := m33801.trans (Wr.neI wH33821 (Or.inl (G_ne ga0 gq14 (by decide)))).symm
        have m33880 := ex33756.trans (Wr.neI wH33821 (Or.inl (G_ne ga0 gq14 (by decide)))).symm
        have m33881 := Wr.I wH33821
        have m33881 := m33881.symm
        clear b33764 b33765 b33766 b33767 b33768 b33769 b33770 b33771 b33772 b33773 b33774 b33775 b33776 b33777 b33778 b33779 b33803 b33804 b33805 b33806 b33807 b33808 b33809 b33810 b33811 b33812 b33813 b33814 b33815 b33816 b33817 b33818 b33819 b33820 ex33756 g33758 hTH33754 m33757 m33780 m33781 m33782 m33783 m33785 m33786 m33787 m33788 m33789 m33790 m33791 m33792 m33793 m33794 m33795 m33796 m33797 m33798 m33799 m33800 m33801 mf33802
        refine lv_aload_n hx hb dX10_keepsBars_72 rfl (lv_at hl33362 0 rfl) ?_
        refine x_gr C hTH33821 (ci := 10) (k := 15) rfl inX10 (by decide) wF_X10_47 ga0 rg_112 rfl dX10_keepsBars_73 (fun q33882 eq33882 gq33882 => ?_)
        have uq33882 : q15 = q33882 := (m33874).trans eq33882.symm
        subst uq33882
        clear eq33882
        refine lv_iload_n hx hb dX10_keepsBars_76 rfl (lv_at hl33362 1 rfl) ?_
        refine lv_aload_n hx hb dX10_keepsBars_77 rfl (lv_at hl33362 0 rfl) ?_
        refine lv_aload_n hx hb dX10_keepsBars_78 rfl (lv_at hl33362 0 rfl) ?_
        refine x_gr C hTH33821 (ci := 10) (k := 15) rfl inX10 (by decide) wF_X10_47 ga0 rg_112 rfl dX10_keepsBars_79 (fun q33883 eq33883 gq33883 => ?_)
        have uq33883 : q15 = q33883 := (m33874).trans eq33883.symm
        subst uq33883
        clear eq33883
        refine lv_iload_n hx hb dX10_keepsBars_82 rfl (lv_at hl33362 1 rfl) ?_
        refine x_ai C hTH33821 gq15 rg_124 ⟨bx33363.1, by show _ < ((10 : Nat) : Int); omega⟩ dX10_keepsBars_83 (fun x33884 ex33884 bx33884 => ?_)
        refine x_V (As := [.int x33884]) (rest := [.int x33363, .ref q15]) C (a_X10_kept l K G H33821 (x33884) (x33756) (tk) hTH33821 ga0 giq m33862 m33880 m33879 g33823 (by and_intros <;> first | assumption | omega)) yo_X10_kept wM_X10_473 ⟨⟨by decide, by decide⟩, by decide, by decide⟩ (x_rv C hTH33821 (ci := 10) rfl ga0 rg_112) rfl hl33362.1 rfl (Nat.le_of_ble_eq_true rfl) dX10_keepsBars_84 hSH33821 (AE_sub (fun _ _ => rfl) (by decide) hSH33821.1) (fun vH33885 H33885 locsH33885 pH33885 zH33885 kH33885 hSH33885 => ?_)
        obtain ⟨x33886, x33887, hvH33885, ex33887, hrH33885, m33888, g33889, mf33890, m33891, m33892, m33893, m33894, hTH33885⟩ := pH33885
        subst hvH33885
        clear zH33885
        replace m33888 := EQN.mk m33888
        have b33895 : UN (tk.toInt ≠ 0) (fun k => fI H33885 q4 k) (fun k => fI s.heap q4 k) := UN.congr (fun j => fI_kept (x_lt hTH33821 kH33885 gq4 (by decide))) b33824
        have b33896 : UN (tk.toInt ≠ 0) (fun k => fI H33885 q10 k) (fun k => fI s.heap q10 k) := UN.congr (fun j => fI_kept (x_lt hTH33821 kH33885 gq10 (by decide))) b33825
        have b33897 : UN (tk.toInt ≠ 0) (fun k => fI H33885 q13 k) (fun k => fI s.heap q13 k) := UN.congr (fun j => fI_kept (x_lt hTH33821 kH33885 gq13 (by decide))) b33826
        have b33898 : UN (tk.toInt ≠ 0) (fun k => fI H33885 q14 k) (fun k => fI s.heap q14 k) := UN.congr (fun j => fI_kept (x_lt hTH33821 kH33885 gq14 (by decide))) b33827
        have b33899 : UN (tk.toInt ≠ 0) (fun k => fI H33885 q15 k) (fun k => fI s.heap q15 k) := UN.congr (fun j => fI_kept (x_lt hTH33821 kH33885 gq15 (by decide))) b33828
        have b33900 : UN (tk.toInt ≠ 0) (fun k => fI H33885 q50 k) (fun k => fI s.heap q50 k) := UN.congr (fun j => fI_kept (x_lt hTH33821 kH33885 gq50 (by decide))) b33829
        have b33901 : UN (tk.toInt ≠ 0) (fun k => fI H33885 q5 k) (fun k => fI s.heap q5 k) := UN.congr (fun j => fI_kept (x_lt hTH33821 kH33885 gq5 (by decide))) b33830
        have b33902 : UN (tk.toInt ≠ 0) (fun k => fI H33885 q6 k) (fun k => fI s.heap q6 k) := UN.congr (fun j => fI_kept (x_lt hTH33821 kH33885 gq6 (by decide))) b33831
        have b33903 : UN (tk.toInt ≠ 0) (fun k => fI H33885 q7 k) (fun k => fI s.heap q7 k) := UN.congr (fun j => fI_kept (x_lt hTH33821 kH33885 gq7 (by decide))) b33832
        have b33904 : UN (tk.toInt ≠ 0) (fun k => fI H33885 q8 k) (fun k => fI s.heap q8 k) := UN.congr (fun j => fI_kept (x_lt hTH33821 kH33885 gq8 (by decide))) b33833
        have b33905 : UN (tk.toInt ≠ 0) (fun k => fI H33885 q9 k) (fun k => fI s.heap q9 k) := UN.congr (fun j => fI_kept (x_lt hTH33821 kH33885 gq9 (by decide))) b33834
        have b33906 : UN (tk.toInt ≠ 0) (fun k => fI H33885 q16 k) (fun k => fI s.heap q16 k) := UN.congr (fun j => fI_kept (x_lt hTH33821 kH33885 gq16 (by decide))) b33835
        have b33907 : UN (tk.toInt ≠ 0) (fun k => fI H33885 q60 k) (fun k => fI s.heap q60 k) := UN.congr (fun j => fI_kept (x_lt hTH33821 kH33885 gq60 (by decide))) b33836
        have b33908 : UN (tk.toInt ≠ 0) (fun k => fI H33885 q61 k) (fun k => fI s.heap q61 k) := UN.congr (fun j => fI_kept (x_lt hTH33821 kH33885 gq61 (by decide))) b33837
        have b33909 : UN (tk.toInt ≠ 0) (fun k => fI H33885 q11 k) (fun k => fI s.heap q11 k) := UN.congr (fun j => fI_kept (x_lt hTH33821 kH33885 gq11 (by decide))) b33838
        have b33910 : UN (tk.toInt ≠ 0) (fun k => fI H33885 q12 k) (fun k => fI s.heap q12 k) := UN.congr (fun j => fI_kept (x_lt hTH33821 kH33885 gq12 (by decide))) b33839
        have m33911 := (m33858).trans (fI_kept (x_lt hTH33821 kH33885 gq4 (by decide))).symm
        have m33912 := (m33859).trans (fI_kept (x_lt hTH33821 kH33885 gq10 (by decide))).symm
        have m33913 := (m33860).trans (fI_kept (x_lt hTH33821 kH33885 gq13 (by decide))).symm
        have m33914 := (m33881).trans (fI_kept (x_lt hTH33821 kH33885 gq14 (by decide))).symm
        have m33915 := (ex33884).trans (fI_kept (x_lt hTH33821 kH33885 gq15 (by decide))).symm
        have m33916 := (m33862).trans (MF.r mf33890 (k := 73) (by decide) (by decide)).symm
        have m33917 := (m33863).trans (MF.r mf33890 (k := 4) (by decide) (by decide)).symm
        have m33918 := (m33864).trans (MF.r mf33890 (k := 5) (by decide) (by decide)).symm
        have m33919 := (m33865).trans (MF.r mf33890 (k := 6) (by decide) (by decide)).symm
        have m33920 := (m33866).trans (MF.r mf33890 (k := 7) (by decide) (by decide)).symm
        have m33921 := (m33867).trans (MF.r mf33890 (k := 8) (by decide) (by decide)).symm
        have m33922 := (m33868).trans (MF.r mf33890 (k := 9) (by decide) (by decide)).symm
        have m33923 := (m33869).trans (MF.r mf33890 (k := 10) (by decide) (by decide)).symm
        have m33924 := (m33870).trans (MF.r mf33890 (k := 11) (by decide) (by decide)).symm
        have m33925 := (m33871).trans (MF.r mf33890 (k := 12) (by decide) (by decide)).symm
        have m33926 := (m33872).trans (MF.r mf33890 (k := 13) (by decide) (by decide)).symm
        have m33927 := (m33873).trans (MF.r mf33890 (k := 14) (by decide) (by decide)).symm
        have m33928 := (m33874).trans (MF.r mf33890 (k := 15) (by decide) (by decide)).symm
        have m33929 := (m33875).trans (MF.r mf33890 (k := 16) (by decide) (by decide)).symm
        have m33930 := (m33876).trans (MF.r mf33890 (k := 50) (by decide) (by decide)).symm
        have m33931 := (m33877).trans (MF.r mf33890 (k := 60) (by decide) (by decide)).symm
        have m33932 := (m33878).trans (MF.r mf33890 (k := 61) (by decide) (by decide)).symm
        have m33933 := (m33879).trans (MF.i mf33890 (k := 71) (by decide) (by decide)).symm
        have mf33934 : MF K s.heap H33885 a0 [72] := MF.trans mf33822 mf33890 (by decide)
        have bx33887 := ty_fi (x := x33887) (k := 72) ex33887 hTH33885 ga0 rg_112 rfl
        have ce_x33756 := i_cl (x := x33756) bx33756.1
        have e_ : x33756.toNatClampNeg = 10 + 6 * x33363.toNatClampNeg := by omega
        have k3e_ := m33893
        rw [e_] at k3e_
        have b33935 : UN (tk.toInt = 0) (fun k => fI H33885 iq k) (fun k => fI s.heap iq k) := UN.tr m33894 b33840
        have b33936 : FB (fun k => fI H33885 iq k) (fun k => fI s.heap iq k) (6) := FB.wr b33841 k3e_ (fun j hj => Nat.ne_of_lt (Nat.lt_of_lt_of_le hj (Nat.le_trans (by decide : 6 ≤ 10) (Nat.le_add_right _ _))))
        have b33937 : EQ (fun k => fI H33885 q4 k) (fun k => fI H33885 iq k) (6) (6) (x33363.toNatClampNeg + 1) := EQ.wr (EQ.congr (w1 := fun k => fI H33821 iq k) (fun j => fI_kept (x_lt hTH33821 kH33885 gq4 (by decide))) (fun _ => rfl) b33842) k3e_ (fun j hj => nE_6_6_i1_10_6 hj)
        have b33938 : EQ (fun k => fI H33885 q10 k) (fun k => fI H33885 iq k) (7) (6) (x33363.toNatClampNeg + 1) := EQ.wr (EQ.congr (w1 := fun k => fI H33821 iq k) (fun j => fI_kept (x_lt hTH33821 kH33885 gq10 (by decide))) (fun _ => rfl) b33843) k3e_ (fun j hj => nE_7_6_i1_10_6 hj)
        have b33939 : EQ (fun k => fI H33885 q13 k) (fun k => fI H33885 iq k) (8) (6) (x33363.toNatClampNeg + 1) := EQ.wr (EQ.congr (w1 := fun k => fI H33821 iq k) (fun j => fI_kept (x_lt hTH33821 kH33885 gq13 (by decide))) (fun _ => rfl) b33844) k3e_ (fun j hj => nE_8_6_i1_10_6 hj)
        have b33940 : EQ (fun k => fI H33885 q14 k) (fun k => fI H33885 iq k) (9) (6) (x33363.toNatClampNeg + 1) := EQ.wr (EQ.congr (w1 := fun k => fI H33821 iq k) (fun j => fI_kept (x_lt hTH33821 kH33885 gq14 (by decide))) (fun _ => rfl) b33845) k3e_ (fun j hj => nE_9_6_i1_10_6 hj)
        have b33941 : EQ (fun k => fI H33885 q15 k) (fun k => fI H33885 iq k) (10) (6) (x33363.toNatClampNeg) := EQ.wr (EQ.congr (w1 := fun k => fI H33821 iq k) (fun j => fI_kept (x_lt hTH33821 kH33885 gq15 (by decide))) (fun _ => rfl) b33846) k3e_ (fun j hj => nE_10_6_i_10_6 hj)
        have b33942 : EQ (fun k => fI H33885 q50 k) (fun k => fI H33885 iq k) (11) (6) (x33363.toNatClampNeg) := EQ.wr (EQ.congr (w1 := fun k => fI H33821 iq k) (fun j => fI_kept (x_lt hTH33821 kH33885 gq50 (by decide))) (fun _ => rfl) b33847) k3e_ (fun j hj => nE_11_6_i_10_6 hj)
        have b33943 : EQ (fun k => fI H33885 q5 k) (fun k => fI H33885 iq k) (66) (4) (0) := EQ.wr (EQ.congr (w1 := fun k => fI H33821 iq k) (fun j => fI_kept (x_lt hTH33821 kH33885 gq5 (by decide))) (fun _ => rfl) b33848) k3e_ (fun j hj => nE_66_4_0_10_6 hj)
        have b33944 : EQ (fun k => fI H33885 q6 k) (fun k => fI H33885 iq k) (67) (4) (0) := EQ.wr (EQ.congr (w1 := fun k => fI H33821 iq k) (fun j => fI_kept (x_lt hTH33821 kH33885 gq6 (by decide))) (fun _ => rfl) b33849) k3e_ (fun j hj => nE_67_4_0_10_6 hj)
        have b33945 : EQ (fun k => fI H33885 q7 k) (fun k => fI H33885 iq k) (68) (4) (0) := EQ.wr (EQ.congr (w1 := fun k => fI H33821 iq k) (fun j => fI_kept (x_lt hTH33821 kH33885 gq7 (by decide))) (fun _ => rfl) b33850) k3e_ (fun j hj => nE_68_4_0_10_6 hj)
        have b33946 : EQ (fun k => fI H33885 q8 k) (fun k => fI H33885 iq k) (69) (4) (0) := EQ.wr (EQ.congr (w1 := fun k => fI H33821 iq k) (fun j => fI_kept (x_lt hTH33821 kH33885 gq8 (by decide))) (fun _ => rfl) b33851) k3e_ (fun j hj => nE_69_4_0_10_6 hj)
        have b33947 : EQ (fun k => fI H33885 q9 k) (fun k => fI H33885 iq k) (706) (1) (0) := EQ.wr (EQ.congr (w1 := fun k => fI H33821 iq k) (fun j => fI_kept (x_lt hTH33821 kH33885 gq9 (by decide))) (fun _ => rfl) b33852) k3e_ (fun j hj => nE_706_1_0_10_6 hj)
        have b33948 : EQ (fun k => fI H33885 q16 k) (fun k => fI H33885 iq k) (736) (3) (0) := EQ.wr (EQ.congr (w1 := fun k => fI H33821 iq k) (fun j => fI_kept (x_lt hTH33821 kH33885 gq16 (by decide))) (fun _ => rfl) b33853) k3e_ (fun j hj => nE_736_3_0_10_6 hj)
        have b33949 : EQ (fun k => fI H33885 q60 k) (fun k => fI H33885 iq k) (737) (3) (0) := EQ.wr (EQ.congr (w1 := fun k => fI H33821 iq k) (fun j => fI_kept (x_lt hTH33821 kH33885 gq60 (by decide))) (fun _ => rfl) b33854) k3e_ (fun j hj => nE_737_3_0_10_6 hj)
        have b33950 : EQ (fun k => fI H33885 q61 k) (fun k => fI H33885 iq k) (738) (3) (0) := EQ.wr (EQ.congr (w1 := fun k => fI H33821 iq k) (fun j => fI_kept (x_lt hTH33821 kH33885 gq61 (by decide))) (fun _ => rfl) b33855) k3e_ (fun j hj => nE_738_3_0_10_6 hj)
        have b33951 : EQ (fun k => fI H33885 q11 k) (fun k => fI H33885 iq k) (796) (2) (0) := EQ.wr (EQ.congr (w1 := fun k => fI H33821 iq k) (fun j => fI_kept (x_lt hTH33821 kH33885 gq11 (by decide))) (fun _ => rfl) b33856) k3e_ (fun j hj => nE_796_2_0_10_6 hj)
        have b33952 : EQ (fun k => fI H33885 q12 k) (fun k => fI H33885 iq k) (797) (2) (0) := EQ.wr (EQ.congr (w1 := fun k => fI H33821 iq k) (fun j => fI_kept (x_lt hTH33821 kH33885 gq12 (by decide))) (fun _ => rfl) b33857) k3e_ (fun j hj => nE_797_2_0_10_6 hj)
        clear b33824 b33825 b33826 b33827 b33828 b33829 b33830 b33831 b33832 b33833 b33834 b33835 b33836 b33837 b33838 b33839 b33840 b33841 b33842 b33843 b33844 b33845 b33846 b33847 b33848 b33849 b33850 b33851 b33852 b33853 b33854 b33855 b33856 b33857 ex33884 m33858 m33859 m33860 m33862 m33863 m33864 m33865 m33866 m33867 m33868 m33869 m33870 m33871 m33872 m33873 m33874 m33875 m33876 m33877 m33878 m33879 m33880 m33881
        clear m33893 m33894 k3e_ e_
        refine W.eq (g2 := F0 m 87 ls33361 [.int x33886, .int x33363, .ref q15]) rfl ?_
        refine x_iast C hTH33885 hSH33885 gq15 rg_124 bx33363.1 (by show _ < ((10 : Nat) : Int); omega) (i_rng x33886) (AE_in gq15 (by decide)) dX10_keepsBars_87 (fun H33953 locsH33953 hTH33953 hSH33953 wH33953 => ?_)
        have mf33954 : MF K s.heap H33953 a0 [72] := MF.arr wH33953 (G_ne ga0 gq15 (by decide)) mf33934
        have g33955 : WD (avw K H33953 a0) := WD.congr (fun k hk j => av_arr hTH33885 ga0 wH33953 gq15 (by decide) (WD_ok 124 (by decide) k hk)) g33889
        have b33956 : UN (tk.toInt ≠ 0) (fun k => fI H33953 q4 k) (fun k => fI s.heap q4 k) := UN.congr (fun j => Wr.neI wH33953 (Or.inl (G_ne gq4 gq15 (by decide)))) b33895
        have b33957 : UN (tk.toInt ≠ 0) (fun k => fI H33953 q10 k) (fun k => fI s.heap q10 k) := UN.congr (fun j => Wr.neI wH33953 (Or.inl (G_ne gq10 gq15 (by decide)))) b33896
        have b33958 : UN (tk.toInt ≠ 0) (fun k => fI H33953 q13 k) (fun k => fI s.heap q13 k) := UN.congr (fun j => Wr.neI wH33953 (Or.inl (G_ne gq13 gq15 (by decide)))) b33897
        have b33959 : UN (tk.toInt ≠ 0) (fun k => fI H33953 q14 k) (fun k => fI s.heap q14 k) := UN.congr (fun j => Wr.neI wH33953 (Or.inl (G_ne gq14 gq15 (by decide)))) b33898
        have b33960 : UN (tk.toInt ≠ 0) (fun k => fI H33953 q15 k) (fun k => fI s.heap q15 k) := UN.st b33899 (i := x33363.toNatClampNeg) (fun hc => (m33892 hc).trans m33915) (Wr.I wH33953) (fun j hj => Wr.neI wH33953 (Or.inr hj))
        have b33961 : UN (tk.toInt ≠ 0) (fun k => fI H33953 q50 k) (fun k => fI s.heap q50 k) := UN.congr (fun j => Wr.neI wH33953 (Or.inl (G_ne gq50 gq15 (by decide)))) b33900
        have b33962 : UN (tk.toInt ≠ 0) (fun k => fI H33953 q5 k) (fun k => fI s.heap q5 k) := UN.congr (fun j => Wr.neI wH33953 (Or.inl (G_ne gq5 gq15 (by decide)))) b33901
        have b33963 : UN (tk.toInt ≠ 0) (fun k => fI H33953 q6 k) (fun k => fI s.heap q6 k) := UN.congr (fun j => Wr.neI wH33953 (Or.inl (G_ne gq6 gq15 (by decide)))) b33902
        have b33964 : UN (tk.toInt ≠ 0) (fun k => fI H33953 q7 k) (fun k => fI s.heap q7 k) := UN.congr (fun j => Wr.neI wH33953 (Or.inl (G_ne gq7 gq15 (by decide)))) b33903
        have b33965 : UN (tk.toInt ≠ 0) (fun k => fI H33953 q8 k) (fun k => fI s.heap q8 k) := UN.congr (fun j => Wr.neI wH33953 (Or.inl (G_ne gq8 gq15 (by decide)))) b33904
        have b33966 : UN (tk.toInt ≠ 0) (fun k => fI H33953 q9 k) (fun k => fI s.heap q9 k) := UN.congr (fun j => Wr.neI wH33953 (Or.inl (G_ne gq9 gq15 (by decide)))) b33905
        have b33967 : UN (tk.toInt ≠ 0) (fun k => fI H33953 q16 k) (fun k => fI s.heap q16 k) := UN.congr (fun j => Wr.neI wH33953 (Or.inl (G_ne gq16 gq15 (by decide)))) b33906
        have b33968 : UN (tk.toInt ≠ 0) (fun k => fI H33953 q60 k) (fun k => fI s.heap q60 k) := UN.congr (fun j => Wr.neI wH33953 (Or.inl (G_ne gq60 gq15 (by decide)))) b33907
        have b33969 : UN (tk.toInt ≠ 0) (fun k => fI H33953 q61 k) (fun k => fI s.heap q61 k) := UN.congr (fun j => Wr.neI wH33953 (Or.inl (G_ne gq61 gq15 (by decide)))) b33908
        have b33970 : UN (tk.toInt ≠ 0) (fun k => fI H33953 q11 k) (fun k => fI s.heap q11 k) := UN.congr (fun j => Wr.neI wH33953 (Or.inl (G_ne gq11 gq15 (by decide)))) b33909
        have b33971 : UN (tk.toInt ≠ 0) (fun k => fI H33953 q12 k) (fun k => fI s.heap q12 k) := UN.congr (fun j => Wr.neI wH33953 (Or.inl (G_ne gq12 gq15 (by decide)))) b33910
        have b33972 : UN (tk.toInt = 0) (fun k => fI H33953 iq k) (fun k => fI s.heap iq k) := UN.congr (fun j => Wr.neI wH33953 (Or.inl (G_ne giq gq15 (by decide)))) b33935
        have b33973 : FB (fun k => fI H33953 iq k) (fun k => fI s.heap iq k) (6) := FB.congr (fun j => Wr.neI wH33953 (Or.inl (G_ne giq gq15 (by decide)))) b33936
        have b33974 : EQ (fun k => fI H33953 q4 k) (fun k => fI H33953 iq k) (6) (6) (x33363.toNatClampNeg + 1) := EQ.congr (fun j => Wr.neI wH33953 (Or.inl (G_ne gq4 gq15 (by decide)))) (fun j => Wr.neI wH33953 (Or.inl (G_ne giq gq15 (by decide)))) b33937
        have b33975 : EQ (fun k => fI H33953 q10 k) (fun k => fI H33953 iq k) (7) (6) (x33363.toNatClampNeg + 1) := EQ.congr (fun j => Wr.neI wH33953 (Or.inl (G_ne gq10 gq15 (by decide)))) (fun j => Wr.neI wH33953 (Or.inl (G_ne giq gq15 (by decide)))) b33938
        have b33976 : EQ (fun k => fI H33953 q13 k) (fun k => fI H33953 iq k) (8) (6) (x33363.toNatClampNeg + 1) := EQ.congr (fun j => Wr.neI wH33953 (Or.inl (G_ne gq13 gq15 (by decide)))) (fun j => Wr.neI wH33953 (Or.inl (G_ne giq gq15 (by decide)))) b33939
        have b33977 : EQ (fun k => fI H33953 q14 k) (fun k => fI H33953 iq k) (9) (6) (x33363.toNatClampNeg + 1) := EQ.congr (fun j => Wr.neI wH33953 (Or.inl (G_ne gq14 gq15 (by decide)))) (fun j => Wr.neI wH33953 (Or.inl (G_ne giq gq15 (by decide)))) b33940
        have b33978 : EQ (fun k => fI H33953 q15 k) (fun k => fI H33953 iq k) (10) (6) (x33363.toNatClampNeg + 1) := EQ.st b33941 (i := x33363.toNatClampNeg) (t := x33756.toNatClampNeg) (by omega) m33891 (by omega) (Wr.I wH33953) (fun j hj => Wr.neI wH33953 (Or.inr hj)) (fun j => Wr.neI wH33953 (Or.inl (G_ne giq gq15 (by decide))))
        have b33979 : EQ (fun k => fI H33953 q50 k) (fun k => fI H33953 iq k) (11) (6) (x33363.toNatClampNeg) := EQ.congr (fun j => Wr.neI wH33953 (Or.inl (G_ne gq50 gq15 (by decide)))) (fun j => Wr.neI wH33953 (Or.inl (G_ne giq gq15 (by decide)))) b33942
        have b33980 : EQ (fun k => fI H33953 q5 k) (fun k => fI H33953 iq k) (66) (4) (0) := EQ.congr (fun j => Wr.neI wH33953 (Or.inl (G_ne gq5 gq15 (by decide)))) (fun j => Wr.neI wH33953 (Or.inl (G_ne giq gq15 (by decide)))) b33943
        have b33981 : EQ (fun k => fI H33953 q6 k) (fun k => fI H33953 iq k) (67) (4) (0) := EQ.congr (fun j => Wr.neI wH33953 (Or.inl (G_ne gq6 gq15 (by decide)))) (fun j => Wr.neI wH33953 (Or.inl (G_ne giq gq15 (by decide)))) b33944
        have b33982 : EQ (fun k => fI H33953 q7 k) (fun k => fI H33953 iq k) (68) (4) (0) := EQ.congr (fun j => Wr.neI wH33953 (Or.inl (G_ne gq7 gq15 (by decide)))) (fun j => Wr.neI wH33953 (Or.inl (G_ne giq gq15 (by decide)))) b33945
        have b33983 : EQ (fun k => fI H33953 q8 k) (fun k => fI H33953 iq k) (69) (4) (0) := EQ.congr (fun j => Wr.neI wH33953 (Or.inl (G_ne gq8 gq15 (by decide)))) (fun j => Wr.neI wH33953 (Or.inl (G_ne giq gq15 (by decide)))) b33946
        have b33984 : EQ (fun k => fI H33953 q9 k) (fun k => fI H33953 iq k) (706) (1) (0) := EQ.congr (fun j => Wr.neI wH33953 (Or.inl (G_ne gq9 gq15 (by decide)))) (fun j => Wr.neI wH33953 (Or.inl (G_ne giq gq15 (by decide)))) b33947
        have b33985 : EQ (fun k => fI H33953 q16 k) (fun k => fI H33953 iq k) (736) (3) (0) := EQ.congr (fun j => Wr.neI wH33953 (Or.inl (G_ne gq16 gq15 (by decide)))) (fun j => Wr.neI wH33953 (Or.inl (G_ne giq gq15 (by decide)))) b33948
        have b33986 : EQ (fun k => fI H33953 q60 k) (fun k => fI H33953 iq k) (737) (3) (0) := EQ.congr (fun j => Wr.neI wH33953 (Or.inl (G_ne gq60 gq15 (by decide)))) (fun j => Wr.neI wH33953 (Or.inl (G_ne giq gq15 (by decide)))) b33949
        have b33987 : EQ (fun k => fI H33953 q61 k) (fun k => fI H33953 iq k) (738) (3) (0) := EQ.congr (fun j => Wr.neI wH33953 (Or.inl (G_ne gq61 gq15 (by decide)))) (fun j => Wr.neI wH33953 (Or.inl (G_ne giq gq15 (by decide)))) b33950
        have b33988 : EQ (fun k => fI H33953 q11 k) (fun k => fI H33953 iq k) (796) (2) (0) := EQ.congr (fun j => Wr.neI wH33953 (Or.inl (G_ne gq11 gq15 (by decide)))) (fun j => Wr.neI wH33953 (Or.inl (G_ne giq gq15 (by decide)))) b33951
        have b33989 : EQ (fun k => fI H33953 q12 k) (fun k => fI H33953 iq k) (797) (2) (0) := EQ.congr (fun j => Wr.neI wH33953 (Or.inl (G_ne gq12 gq15 (by decide)))) (fun j => Wr.neI wH33953 (Or.inl (G_ne giq gq15 (by decide)))) b33952
        have m33990 := m33911.trans (Wr.neI wH33953 (Or.inl (G_ne gq4 gq15 (by decide)))).symm
        have m33991 := m33912.trans (Wr.neI wH33953 (Or.inl (G_ne gq10 gq15 (by decide)))).symm
        have m33992 := m33913.trans (Wr.neI wH33953 (Or.inl (G_ne gq13 gq15 (by decide)))).symm
        have m33993 := m33914.trans (Wr.neI wH33953 (Or.inl (G_ne gq14 gq15 (by decide)))).symm
        have m33995 := m33888.trans (Wr.neR wH33953 (Or.inl (G_ne ga0 gq15 (by decide)))).symm
        have m33996 := m33917.trans (Wr.neR wH33953 (Or.inl (G_ne ga0 gq15 (by decide)))).symm
        have m33997 := m33918.trans (Wr.neR wH33953 (Or.inl (G_ne ga0 gq15 (by decide)))).symm
        have m33998 := m33919.trans (Wr.neR wH33953 (Or.inl (G_ne ga0 gq15 (by decide)))).symm
        have m33999 := m33920.trans (Wr.neR wH33953 (Or.inl (G_ne ga0 gq15 (by decide)))).symm
        have m34000 := m33921.trans (Wr.neR wH33953 (Or.inl (G_ne ga0 gq15 (by decide)))).symm
        have m34001 := m33922.trans (Wr.neR wH33953 (Or.inl (G_ne ga0 gq15 (by decide)))).symm
        have m34002 := m33923.trans (Wr.neR wH33953 (Or.inl (G_ne ga0 gq15 (by decide)))).symm
        have m34003 := m33924.trans (Wr.neR wH33953 (Or.inl (G_ne ga0 gq15 (by decide)))).symm
        have m34004 := m33925.trans (Wr.neR wH33953 (Or.inl (G_ne ga0 gq15 (by decide)))).symm
        have m34005 := m33926.trans (Wr.neR wH33953 (Or.inl (G_ne ga0 gq15 (by decide)))).symm
        have m34006 := m33927.trans (Wr.neR wH33953 (Or.inl (G_ne ga0 gq15 (by decide)))).symm
        have m34007 := m33928.trans (Wr.neR wH33953 (Or.inl (G_ne ga0 gq15 (by decide)))).symm
        have m34008 := m33929.trans (Wr.neR wH33953 (Or.inl (G_ne ga0 gq15 (by decide)))).symm
        have m34009 := m33930.trans (Wr.neR wH33953 (Or.inl (G_ne ga0 gq15 (by decide)))).symm
        have m34010 := m33931.trans (Wr.neR wH33953 (Or.inl (G_ne ga0 gq15 (by decide)))).symm
        have m34011 := m33932.trans (Wr.neR wH33953 (Or.inl (G_ne ga0 gq15 (by decide)))).symm
        have m34012 := m33933.trans (Wr.neI wH33953 (Or.inl (G_ne ga0 gq15 (by decide)))).symm
        have m34013 := ex33887.trans (Wr.neI wH33953 (Or.inl (G_ne ga0 gq15 (by decide)))).symm
        have m34014 := Wr.I wH33953
        have m34014 := m34014.symm
        clear b33895 b33896 b33897 b33898 b33899 b33900 b33901 b33902 b33903 b33904 b33905 b33906 b33907 b33908 b33909 b33910 b33935 b33936 b33937 b33938 b33939 b33940 b33941 b33942 b33943 b33944 b33945 b33946 b33947 b33948 b33949 b33950 b33951 b33952 ex33887 g33889 hTH33885 m33888 m33911 m33912 m33913 m33914 m33915 m33917 m33918 m33919 m33920 m33921 m33922 m33923 m33924 m33925 m33926 m33927 m33928 m33929 m33930 m33931 m33932 m33933 mf33934
        refine lv_aload_n hx hb dX10_keepsBars_88 rfl (lv_at hl33362 0 rfl) ?_
        refine x_gr C hTH33953 (ci := 10) (k := 50) rfl inX10 (by decide) wF_X10_116 ga0 rg_112 rfl dX10_keepsBars_89 (fun q34015 eq34015 gq34015 => ?_)
        have uq34015 : q50 = q34015 := (m34009).trans eq34015.symm
        subst uq34015
        clear eq34015
        refine lv_iload_n hx hb dX10_keepsBars_92 rfl (lv_at hl33362 1 rfl) ?_
        refine lv_aload_n hx hb dX10_keepsBars_93 rfl (lv_at hl33362 0 rfl) ?_
        refine lv_aload_n hx hb dX10_keepsBars_94 rfl (lv_at hl33362 0 rfl) ?_
        refine x_gr C hTH33953 (ci := 10) (k := 50) rfl inX10 (by decide) wF_X10_116 ga0 rg_112 rfl dX10_keepsBars_95 (fun q34016 eq34016 gq34016 => ?_)
        have uq34016 : q50 = q34016 := (m34009).trans eq34016.symm
        subst uq34016
        clear eq34016
        refine lv_iload_n hx hb dX10_keepsBars_98 rfl (lv_at hl33362 1 rfl) ?_
        refine x_ai C hTH33953 gq50 rg_146 ⟨bx33363.1, by show _ < ((10 : Nat) : Int); omega⟩ dX10_keepsBars_99 (fun x34017 ex34017 bx34017 => ?_)
        refine x_V (As := [.int x34017]) (rest := [.int x33363, .ref q50]) C (a_X10_kept l K G H33953 (x34017) (x33887) (tk) hTH33953 ga0 giq m33995 m34013 m34012 g33955 (by and_intros <;> first | assumption | omega)) yo_X10_kept wM_X10_473 ⟨⟨by decide, by decide⟩, by decide, by decide⟩ (x_rv C hTH33953 (ci := 10) rfl ga0 rg_112) rfl hl33362.1 rfl (Nat.le_of_ble_eq_true rfl) dX10_keepsBars_100 hSH33953 (AE_sub (fun _ _ => rfl) (by decide) hSH33953.1) (fun vH34018 H34018 locsH34018 pH34018 zH34018 kH34018 hSH34018 => ?_)
        obtain ⟨x34019, x34020, hvH34018, ex34020, hrH34018, m34021, g34022, mf34023, m34024, m34025, m34026, m34027, hTH34018⟩ := pH34018
        subst hvH34018
        clear zH34018
        replace m34021 := EQN.mk m34021
        have b34028 : UN (tk.toInt ≠ 0) (fun k => fI H34018 q4 k) (fun k => fI s.heap q4 k) := UN.congr (fun j => fI_kept (x_lt hTH33953 kH34018 gq4 (by decide))) b33956
        have b34029 : UN (tk.toInt ≠ 0) (fun k => fI H34018 q10 k) (fun k => fI s.heap q10 k) := UN.congr (fun j => fI_kept (x_lt hTH33953 kH34018 gq10 (by decide))) b33957
        have b34030 : UN (tk.toInt ≠ 0) (fun k => fI H34018 q13 k) (fun k => fI s.heap q13 k) := UN.congr (fun j => fI_kept (x_lt hTH33953 kH34018 gq13 (by decide))) b33958
        have b34031 : UN (tk.toInt ≠ 0) (fun k => fI H34018 q14 k) (fun k => fI s.heap q14 k) := UN.congr (fun j => fI_kept (x_lt hTH33953 kH34018 gq14 (by decide))) b33959
        have b34032 : UN (tk.toInt ≠ 0) (fun k => fI H34018 q15 k) (fun k => fI s.heap q15 k) := UN.congr (fun j => fI_kept (x_lt hTH33953 kH34018 gq15 (by decide))) b33960
        have b34033 : UN (tk.toInt ≠ 0) (fun k => fI H34018 q50 k) (fun k => fI s.heap q50 k) := UN.congr (fun j => fI_kept (x_lt hTH33953 kH34018 gq50 (by decide))) b33961
        have b34034 : UN (tk.toInt ≠ 0) (fun k => fI H34018 q5 k) (fun k => fI s.heap q5 k) := UN.congr (fun j => fI_kept (x_lt hTH33953 kH34018 gq5 (by decide))) b33962
        have b34035 : UN (tk.toInt ≠ 0) (fun k => fI H34018 q6 k) (fun k => fI s.heap q6 k) := UN.congr (fun j => fI_kept (x_lt hTH33953 kH34018 gq6 (by decide))) b33963
        have b34036 : UN (tk.toInt ≠ 0) (fun k => fI H34018 q7 k) (fun k => fI s.heap q7 k) := UN.congr (fun j => fI_kept (x_lt hTH33953 kH34018 gq7 (by decide))) b33964
        have b34037 : UN (tk.toInt ≠ 0) (fun k => fI H34018 q8 k) (fun k => fI s.heap q8 k) := UN.congr (fun j => fI_kept (x_lt hTH33953 kH34018 gq8 (by decide))) b33965
        have b34038 : UN (tk.toInt ≠ 0) (fun k => fI H34018 q9 k) (fun k => fI s.heap q9 k) := UN.congr (fun j => fI_kept (x_lt hTH33953 kH34018 gq9 (by decide))) b33966
        have b34039 : UN (tk.toInt ≠ 0) (fun k => fI H34018 q16 k) (fun k => fI s.heap q16 k) := UN.congr (fun j => fI_kept (x_lt hTH33953 kH34018 gq16 (by decide))) b33967
        have b34040 : UN (tk.toInt ≠ 0) (fun k => fI H34018 q60 k) (fun k => fI s.heap q60 k) := UN.congr (fun j => fI_kept (x_lt hTH33953 kH34018 gq60 (by decide))) b33968
        have b34041 : UN (tk.toInt ≠ 0) (fun k => fI H34018 q61 k) (fun k => fI s.heap q61 k) := UN.congr (fun j => fI_kept (x_lt hTH33953 kH34018 gq61 (by decide))) b33969
        have b34042 : UN (tk.toInt ≠ 0) (fun k => fI H34018 q11 k) (fun k => fI s.heap q11 k) := UN.congr (fun j => fI_kept (x_lt hTH33953 kH34018 gq11 (by decide))) b33970
        have b34043 : UN (tk.toInt ≠ 0) (fun k => fI H34018 q12 k) (fun k => fI s.heap q12 k) := UN.congr (fun j => fI_kept (x_lt hTH33953 kH34018 gq12 (by decide))) b33971
        have m34044 := (m33990).trans (fI_kept (x_lt hTH33953 kH34018 gq4 (by decide))).symm
        have m34045 := (m33991).trans (fI_kept (x_lt hTH33953 kH34018 gq10 (by decide))).symm
        have m34046 := (m33992).trans (fI_kept (x_lt hTH33953 kH34018 gq13 (by decide))).symm
        have m34047 := (m33993).trans (fI_kept (x_lt hTH33953 kH34018 gq14 (by decide))).symm
        have m34048 := (m34014).trans (fI_kept (x_lt hTH33953 kH34018 gq15 (by decide))).symm
        have m34049 := (ex34017).trans (fI_kept (x_lt hTH33953 kH34018 gq50 (by decide))).symm
        have m34050 := (m33995).trans (MF.r mf34023 (k := 73) (by decide) (by decide)).symm
        have m34051 := (m33996).trans (MF.r mf34023 (k := 4) (by decide) (by decide)).symm
        have m34052 := (m33997).trans (MF.r mf34023 (k := 5) (by decide) (by decide)).symm
        have m34053 := (m33998).trans (MF.r mf34023 (k := 6) (by decide) (by decide)).symm
        have m34054 := (m33999).trans (MF.r mf34023 (k := 7) (by decide) (by decide)).symm
        have m34055 := (m34000).trans (MF.r mf34023 (k := 8) (by decide) (by decide)).symm
        have m34056 := (m34001).trans (MF.r mf34023 (k := 9) (by decide) (by decide)).symm
        have m34057 := (m34002).trans (MF.r mf34023 (k := 10) (by decide) (by decide)).symm
        have m34058 := (m34003).trans (MF.r mf34023 (k := 11) (by decide) (by decide)).symm
        have m34059 := (m34004).trans (MF.r mf34023 (k := 12) (by decide) (by decide)).symm
        have m34060 := (m34005).trans (MF.r mf34023 (k := 13) (by decide) (by decide)).symm
        have m34061 := (m34006).trans (MF.r mf34023 (k := 14) (by decide) (by decide)).symm
        have m34062 := (m34007).trans (MF.r mf34023 (k := 15) (by decide) (by decide)).symm
        have m34063 := (m34008).trans (MF.r mf34023 (k := 16) (by decide) (by decide)).symm
        have m34064 := (m34009).trans (MF.r mf34023 (k := 50) (by decide) (by decide)).symm
        have m34065 := (m34010).trans (MF.r mf34023 (k := 60) (by decide) (by decide)).symm
        have m34066 := (m34011).trans (MF.r mf34023 (k := 61) (by decide) (by decide)).symm
        have m34067 := (m34012).trans (MF.i mf34023 (k := 71) (by decide) (by decide)).symm
        have mf34068 : MF K s.heap H34018 a0 [72] := MF.trans mf33954 mf34023 (by decide)
        have bx34020 := ty_fi (x := x34020) (k := 72) ex34020 hTH34018 ga0 rg_112 rfl
        have ce_x33887 := i_cl (x := x33887) bx33887.1
        have e_ : x33887.toNatClampNeg = 11 + 6 * x33363.toNatClampNeg := by omega
        have k3e_ := m34026
        rw [e_] at k3e_
        have b34069 : UN (tk.toInt = 0) (fun k => fI H34018 iq k) (fun k => fI s.heap iq k) := UN.tr m34027 b33972
        have b34070 : FB (fun k => fI H34018 iq k) (fun k => fI s.heap iq k) (6) := FB.wr b33973 k3e_ (fun j hj => Nat.ne_of_lt (Nat.lt_of_lt_of_le hj (Nat.le_trans (by decide : 6 ≤ 11) (Nat.le_add_right _ _))))
        have b34071 : EQ (fun k => fI H34018 q4 k) (fun k => fI H34018 iq k) (6) (6) (x33363.toNatClampNeg + 1) := EQ.wr (EQ.congr (w1 := fun k => fI H33953 iq k) (fun j => fI_kept (x_lt hTH33953 kH34018 gq4 (by decide))) (fun _ => rfl) b33974) k3e_ (fun j hj => nE_6_6_i1_11_6 hj)
        have b34072 : EQ (fun k => fI H34018 q10 k) (fun k => fI H34018 iq k) (7) (6) (x33363.toNatClampNeg + 1) := EQ.wr (EQ.congr (w1 := fun k => fI H33953 iq k) (fun j => fI_kept (x_lt hTH33953 kH34018 gq10 (by decide))) (fun _ => rfl) b33975) k3e_ (fun j hj => nE_7_6_i1_11_6 hj)
        have b34073 : EQ (fun k => fI H34018 q13 k) (fun k => fI H34018 iq k) (8) (6) (x33363.toNatClampNeg + 1) := EQ.wr (EQ.congr (w1 := fun k => fI H33953 iq k) (fun j => fI_kept (x_lt hTH33953 kH34018 gq13 (by decide))) (fun _ => rfl) b33976) k3e_ (fun j hj => nE_8_6_i1_11_6 hj)
        have b34074 : EQ (fun k => fI H34018 q14 k) (fun k => fI H34018 iq k) (9) (6) (x33363.toNatClampNeg + 1) := EQ.wr (EQ.congr (w1 := fun k => fI H33953 iq k) (fun j => fI_kept (x_lt hTH33953 kH34018 gq14 (by decide))) (fun _ => rfl) b33977) k3e_ (fun j hj => nE_9_6_i1_11_6 hj)
        have b34075 : EQ (fun k => fI H34018 q15 k) (fun k => fI H34018 iq k) (10) (6) (x33363.toNatClampNeg + 1) := EQ.wr (EQ.congr (w1 := fun k => fI H33953 iq k) (fun j => fI_kept (x_lt hTH33953 kH34018 gq15 (by decide))) (fun _ => rfl) b33978) k3e_ (fun j hj => nE_10_6_i1_11_6 hj)
        have b34076 : EQ (fun k => fI H34018 q50 k) (fun k => fI H34018 iq k) (11) (6) (x33363.toNatClampNeg) := EQ.wr (EQ.congr (w1 := fun k => fI H33953 iq k) (fun j => fI_kept (x_lt hTH33953 kH34018 gq50 (by decide))) (fun _ => rfl) b33979) k3e_ (fun j hj => nE_11_6_i_11_6 hj)
        have b34077 : EQ (fun k => fI H34018 q5 k) (fun k => fI H34018 iq k) (66) (4) (0) := EQ.wr (EQ.congr (w1 := fun k => fI H33953 iq k) (fun j => fI_kept (x_lt hTH33953 kH34018 gq5 (by decide))) (fun _ => rfl) b33980) k3e_ (fun j hj => nE_66_4_0_11_6 hj)
        have b34078 : EQ (fun k => fI H34018 q6 k) (fun k => fI H34018 iq k) (67) (4) (0) := EQ.wr (EQ.congr (w1 := fun k => fI H33953 iq k) (fun j => fI_kept (x_lt hTH33953 kH34018 gq6 (by decide))) (fun _ => rfl) b33981) k3e_ (fun j hj => nE_67_4_0_11_6 hj)
        have b34079 : EQ (fun k => fI H34018 q7 k) (fun k => fI H34018 iq k) (68) (4) (0) := EQ.wr (EQ.congr (w1 := fun k => fI H33953 iq k) (fun j => fI_kept (x_lt hTH33953 kH34018 gq7 (by decide))) (fun _ => rfl) b33982) k3e_ (fun j hj => nE_68_4_0_11_6 hj)
        have b34080 : EQ (fun k => fI H34018 q8 k) (fun k => fI H34018 iq k) (69) (4) (0) := EQ.wr (EQ.congr (w1 := fun k => fI H33953 iq k) (fun j => fI_kept (x_lt hTH33953 kH34018 gq8 (by decide))) (fun _ => rfl) b33983) k3e_ (fun j hj => nE_69_4_0_11_6 hj)
        have b34081 : EQ (fun k => fI H34018 q9 k) (fun k => fI H34018 iq k) (706) (1) (0) := EQ.wr (EQ.congr (w1 := fun k => fI H33953 iq k) (fun j => fI_kept (x_lt hTH33953 kH34018 gq9 (by decide))) (fun _ => rfl) b33984) k3e_ (fun j hj => nE_706_1_0_11_6 hj)
        have b34082 : EQ (fun k => fI H34018 q16 k) (fun k => fI H34018 iq k) (736) (3) (0) := EQ.wr (EQ.congr (w1 := fun k => fI H33953 iq k) (fun j => fI_kept (x_lt hTH33953 kH34018 gq16 (by decide))) (fun _ => rfl) b33985) k3e_ (fun j hj => nE_736_3_0_11_6 hj)
        have b34083 : EQ (fun k => fI H34018 q60 k) (fun k => fI H34018 iq k) (737) (3) (0) := EQ.wr (EQ.congr (w1 := fun k => fI H33953 iq k) (fun j => fI_kept (x_lt hTH33953 kH34018 gq60 (by decide))) (fun _ => rfl) b33986) k3e_ (fun j hj => nE_737_3_0_11_6 hj)
        have b34084 : EQ (fun k => fI H34018 q61 k) (fun k => fI H34018 iq k) (738) (3) (0) := EQ.wr (EQ.congr (w1 := fun k => fI H33953 iq k) (fun j => fI_kept (x_lt hTH33953 kH34018 gq61 (by decide))) (fun _ => rfl) b33987) k3e_ (fun j hj => nE_738_3_0_11_6 hj)
        have b34085 : EQ (fun k => fI H34018 q11 k) (fun k => fI H34018 iq k) (796) (2) (0) := EQ.wr (EQ.congr (w1 := fun k => fI H33953 iq k) (fun j => fI_kept (x_lt hTH33953 kH34018 gq11 (by decide))) (fun _ => rfl) b33988) k3e_ (fun j hj => nE_796_2_0_11_6 hj)
        have b34086 : EQ (fun k => fI H34018 q12 k) (fun k => fI H34018 iq k) (797) (2) (0) := EQ.wr (EQ.congr (w1 := fun k => fI H33953 iq k) (fun j => fI_kept (x_lt hTH33953 kH34018 gq12 (by decide))) (fun _ => rfl) b33989) k3e_ (fun j hj => nE_797_2_0_11_6 hj)
        clear b33956 b33957 b33958 b33959 b33960 b33961 b33962 b33963 b33964 b33965 b33966 b33967 b33968 b33969 b33970 b33971 b33972 b33973 b33974 b33975 b33976 b33977 b33978 b33979 b33980 b33981 b33982 b33983 b33984 b33985 b33986 b33987 b33988 b33989 ex34017 m33990 m33991 m33992 m33993 m33995 m33996 m33997 m33998 m33999 m34000 m34001 m34002 m34003 m34004 m34005 m34006 m34007 m34008 m34009 m34010 m34011 m34012 m34013 m34014
        clear m34026 m34027 k3e_ e_
        have bx34019 : 0 ≤ x34019.toInt ∧ x34019.toInt ≤ 12 := kr (fun h0 => by have hiw := (hy0 h0); exact kr0 (w := fun k => fI H34018 iq k) m34024 (p := 11 + 6 * x33363.toNatClampNeg) (by omega) (b34069 h0) ((hiw.2.1 x33363.toNatClampNeg (by omega)).2.2)) m34025 (by omega)
        refine W.eq (g2 := F0 m 103 ls33361 [.int x34019, .int x33363, .ref q50]) rfl ?_
        refine x_iast C hTH34018 hSH34018 gq50 rg_146 bx33363.1 (by show _ < ((10 : Nat) : Int); omega) ⟨by have := i_rng x34019; omega, by have := i_rng x34019; omega⟩ (AE_in gq50 (by decide)) dX10_keepsBars_103 (fun H34087 locsH34087 hTH34087 hSH34087 wH34087 => ?_)
        have mf34088 : MF K s.heap H34087 a0 [72] := MF.arr wH34087 (G_ne ga0 gq50 (by decide)) mf34068
        have g34089 : WD (avw K H34087 a0) := WD.congr (fun k hk j => av_arr hTH34018 ga0 wH34087 gq50 (by decide) (WD_ok 146 (by decide) k hk)) g34022
        have b34090 : UN (tk.toInt ≠ 0) (fun k => fI H34087 q4 k) (fun k => fI s.heap q4 k) := UN.congr (fun j => Wr.neI wH34087 (Or.inl (G_ne gq4 gq50 (by decide)))) b34028
        have b34091 : UN (tk.toInt ≠ 0) (fun k => fI H34087 q10 k) (fun k => fI s.heap q10 k) := UN.congr (fun j => Wr.neI wH34087 (Or.inl (G_ne gq10 gq50 (by decide)))) b34029
        have b34092 : UN (tk.toInt ≠ 0) (fun k => fI H34087 q13 k) (fun k => fI s.heap q13 k) := UN.congr (fun j => Wr.neI wH34087 (Or.inl (G_ne gq13 gq50 (by decide)))) b34030
        have b34093 : UN (tk.toInt ≠ 0) (fun k => fI H34087 q14 k) (fun k => fI s.heap q14 k) := UN.congr (fun j => Wr.neI wH34087 (Or.inl (G_ne gq14 gq50 (by decide)))) b34031
        have b34094 : UN (tk.toInt ≠ 0) (fun k => fI H34087 q15 k) (fun k => fI s.heap q15 k) := UN.congr (fun j => Wr.neI wH34087 (Or.inl (G_ne gq15 gq50 (by decide)))) b34032
        have b34095 : UN (tk.toInt ≠ 0) (fun k => fI H34087 q50 k) (fun k => fI s.heap q50 k) := UN.st b34033 (i := x33363.toNatClampNeg) (fun hc => (m34025 hc).trans m34049) (Wr.I wH34087) (fun j hj => Wr.neI wH34087 (Or.inr hj))
        have b34096 : UN (tk.toInt ≠ 0) (fun k => fI H34087 q5 k) (fun k => fI s.heap q5 k) := UN.congr (fun j => Wr.neI wH34087 (Or.inl (G_ne gq5 gq50 (by decide)))) b34034
        have b34097 : UN (tk.toInt ≠ 0) (fun k => fI H34087 q6 k) (fun k => fI s.heap q6 k) := UN.congr (fun j => Wr.neI wH34087 (Or.inl (G_ne gq6 gq50 (by decide)))) b34035
        have b34098 : UN (tk.toInt ≠ 0) (fun k => fI H34087 q7 k) (fun k => fI s.heap q7 k) := UN.congr (fun j => Wr.neI wH34087 (Or.inl (G_ne gq7 gq50 (by decide)))) b34036
        have b34099 : UN (tk.toInt ≠ 0) (fun k => fI H34087 q8 k) (fun k => fI s.heap q8 k) := UN.congr (fun j => Wr.neI wH34087 (Or.inl (G_ne gq8 gq50 (by decide)))) b34037
        have b34100 : UN (tk.toInt ≠ 0) (fun k => fI H34087 q9 k) (fun k => fI s.heap q9 k) := UN.congr (fun j => Wr.neI wH34087 (Or.inl (G_ne gq9 gq50 (by decide)))) b34038
        have b34101 : UN (tk.toInt ≠ 0) (fun k => fI H34087 q16 k) (fun k => fI s.heap q16 k) := UN.congr (fun j => Wr.neI wH34087 (Or.inl (G_ne gq16 gq50 (by decide)))) b34039
        have b34102 : UN (tk.toInt ≠ 0) (fun k => fI H34087 q60 k) (fun k => fI s.heap q60 k) := UN.congr (fun j => Wr.neI wH34087 (Or.inl (G_ne gq60 gq50 (by decide)))) b34040
        have b34103 : UN (tk.toInt ≠ 0) (fun k => fI H34087 q61 k) (fun k => fI s.heap q61 k) := UN.congr (fun j => Wr.neI wH34087 (Or.inl (G_ne gq61 gq50 (by decide)))) b34041
        have b34104 : UN (tk.toInt ≠ 0) (fun k => fI H34087 q11 k) (fun k => fI s.heap q11 k) := UN.congr (fun j => Wr.neI wH34087 (Or.inl (G_ne gq11 gq50 (by decide)))) b34042
        have b34105 : UN (tk.toInt ≠ 0) (fun k => fI H34087 q12 k) (fun k => fI s.heap q12 k) := UN.congr (fun j => Wr.neI wH34087 (Or.inl (G_ne gq12 gq50 (by decide)))) b34043
        have b34106 : UN (tk.toInt = 0) (fun k => fI H34087 iq k) (fun k => fI s.heap iq k) := UN.congr (fun j => Wr.neI wH34087 (Or.inl (G_ne giq gq50 (by decide)))) b34069
        have b34107 : FB (fun k => fI H34087 iq k) (fun k => fI s.heap iq k) (6) := FB.congr (fun j => Wr.neI wH34087 (Or.inl (G_ne giq gq50 (by decide)))) b34070
        have b34108 : EQ (fun k => fI H34087 q4 k) (fun k => fI H34087 iq k) (6) (6) (x33363.toNatClampNeg + 1) := EQ.congr (fun j => Wr.neI wH34087 (Or.inl (G_ne gq4 gq50 (by decide)))) (fun j => Wr.neI wH34087 (Or.inl (G_ne giq gq50 (by decide)))) b34071
        have b34109 : EQ (fun k => fI H34087 q10 k) (fun k => fI H34087 iq k) (7) (6) (x33363.toNatClampNeg + 1) := EQ.congr (fun j => Wr.neI wH34087 (Or.inl (G_ne gq10 gq50 (by decide)))) (fun j => Wr.neI wH34087 (Or.inl (G_ne giq gq50 (by decide)))) b34072
        have b34110 : EQ (fun k => fI H34087 q13 k) (fun k => fI H34087 iq k) (8) (6) (x33363.toNatClampNeg + 1) := EQ.congr (fun j => Wr.neI wH34087 (Or.inl (G_ne gq13 gq50 (by decide)))) (fun j => Wr.neI wH34087 (Or.inl (G_ne giq gq50 (by decide)))) b34073
        have b34111 : EQ (fun k => fI H34087 q14 k) (fun k => fI H34087 iq k) (9) (6) (x33363.toNatClampNeg + 1) := EQ.congr (fun j => Wr.neI wH34087 (Or.inl (G_ne gq14 gq50 (by decide)))) (fun j => Wr.neI wH34087 (Or.inl (G_ne giq gq50 (by decide)))) b34074
        have b34112 : EQ (fun k => fI H34087 q15 k) (fun k => fI H34087 iq k) (10) (6) (x33363.toNatClampNeg + 1) := EQ.congr (fun j => Wr.neI wH34087 (Or.inl (G_ne gq15 gq50 (by decide)))) (fun j => Wr.neI wH34087 (Or.inl (G_ne giq gq50 (by decide)))) b34075
        have b34113 : EQ (fun k => fI H34087 q50 k) (fun k => fI H34087 iq k) (11) (6) (x33363.toNatClampNeg + 1) := EQ.st b34076 (i := x33363.toNatClampNeg) (t := x33887.toNatClampNeg) (by omega) m34024 (by omega) (Wr.I wH34087) (fun j hj => Wr.neI wH34087 (Or.inr hj)) (fun j => Wr.neI wH34087 (Or.inl (G_ne giq gq50 (by decide))))
        have b34114 : EQ (fun k => fI H34087 q5 k) (fun k => fI H34087 iq k) (66) (4) (0) := EQ.congr (fun j => Wr.neI wH34087 (Or.inl (G_ne gq5 gq50 (by decide)))) (fun j => Wr.neI wH34087 (Or.inl (G_ne giq gq50 (by decide)))) b34077
        have b34115 : EQ (fun k => fI H34087 q6 k) (fun k => fI H34087 iq k) (67) (4) (0) := EQ.congr (fun j => Wr.neI wH34087 (Or.inl (G_ne gq6 gq50 (by decide)))) (fun j => Wr.neI wH34087 (Or.inl (G_ne giq gq50 (by decide)))) b34078
        have b34116 : EQ (fun k => fI H34087 q7 k) (fun k => fI H34087 iq k) (68) (4) (0) := EQ.congr (fun j => Wr.neI wH34087 (Or.inl (G_ne gq7 gq50 (by decide)))) (fun j => Wr.neI wH34087 (Or.inl (G_ne giq gq50 (by decide)))) b34079
        have b34117 : EQ (fun k => fI H34087 q8 k) (fun k => fI H34087 iq k) (69) (4) (0) := EQ.congr (fun j => Wr.neI wH34087 (Or.inl (G_ne gq8 gq50 (by decide)))) (fun j => Wr.neI wH34087 (Or.inl (G_ne giq gq50 (by decide)))) b34080
        have b34118 : EQ (fun k => fI H34087 q9 k) (fun k => fI H34087 iq k) (706) (1) (0) := EQ.congr (fun j => Wr.neI wH34087 (Or.inl (G_ne gq9 gq50 (by decide)))) (fun j => Wr.neI wH34087 (Or.inl (G_ne giq gq50 (by decide)))) b34081
        have b34119 : EQ (fun k => fI H34087 q16 k) (fun k => fI H34087 iq k) (736) (3) (0) := EQ.congr (fun j => Wr.neI wH34087 (Or.inl (G_ne gq16 gq50 (by decide)))) (fun j => Wr.neI wH34087 (Or.inl (G_ne giq gq50 (by decide)))) b34082
        have b34120 : EQ (fun k => fI H34087 q60 k) (fun k => fI H34087 iq k) (737) (3) (0) := EQ.congr (fun j => Wr.neI wH34087 (Or.inl (G_ne gq60 gq50 (by decide)))) (fun j => Wr.neI wH34087 (Or.inl (G_ne giq gq50 (by decide)))) b34083
        have b34121 : EQ (fun k => fI H34087 q61 k) (fun k => fI H34087 iq k) (738) (3) (0) := EQ.congr (fun j => Wr.neI wH34087 (Or.inl (G_ne gq61 gq50 (by decide)))) (fun j => Wr.neI wH34087 (Or.inl (G_ne giq gq50 (by decide)))) b34084
        have b34122 : EQ (fun k => fI H34087 q11 k) (fun k => fI H34087 iq k) (796) (2) (0) := EQ.congr (fun j => Wr.neI wH34087 (Or.inl (G_ne gq11 gq50 (by decide)))) (fun j => Wr.neI wH34087 (Or.inl (G_ne giq gq50 (by decide)))) b34085
        have b34123 : EQ (fun k => fI H34087 q12 k) (fun k => fI H34087 iq k) (797) (2) (0) := EQ.congr (fun j => Wr.neI wH34087 (Or.inl (G_ne gq12 gq50 (by decide)))) (fun j => Wr.neI wH34087 (Or.inl (G_ne giq gq50 (by decide)))) b34086
        have m34124 := m34044.trans (Wr.neI wH34087 (Or.inl (G_ne gq4 gq50 (by decide)))).symm
        have m34125 := m34045.trans (Wr.neI wH34087 (Or.inl (G_ne gq10 gq50 (by decide)))).symm
        have m34126 := m34046.trans (Wr.neI wH34087 (Or.inl (G_ne gq13 gq50 (by decide)))).symm
        have m34127 := m34047.trans (Wr.neI wH34087 (Or.inl (G_ne gq14 gq50 (by decide)))).symm
        have m34128 := m34048.trans (Wr.neI wH34087 (Or.inl (G_ne gq15 gq50 (by decide)))).symm
        have m34130 := m34021.trans (Wr.neR wH34087 (Or.inl (G_ne ga0 gq50 (by decide)))).symm
        have m34131 := m34051.trans (Wr.neR wH34087 (Or.inl (G_ne ga0 gq50 (by decide)))).symm
        have m34132 := m34052.trans (Wr.neR wH34087 (Or.inl (G_ne ga0 gq50 (by decide)))).symm
        have m34133 := m34053.trans (Wr.neR wH34087 (Or.inl (G_ne ga0 gq50 (by decide)))).symm
        have m34134 := m34054.trans (Wr.neR wH34087 (Or.inl (G_ne ga0 gq50 (by decide)))).symm
        have m34135 := m34055.trans (Wr.neR wH34087 (Or.inl (G_ne ga0 gq50 (by decide)))).symm
        have m34136 := m34056.trans (Wr.neR wH34087 (Or.inl (G_ne ga0 gq50 (by decide)))).symm
        have m34137 := m34057.trans (Wr.neR wH34087 (Or.inl (G_ne ga0 gq50 (by decide)))).symm
        have m34138 := m34058.trans (Wr.neR wH34087 (Or.inl (G_ne ga0 gq50 (by decide)))).symm
        have m34139 := m34059.trans (Wr.neR wH34087 (Or.inl (G_ne ga0 gq50 (by decide)))).symm
        have m34140 := m34060.trans (Wr.neR wH34087 (Or.inl (G_ne ga0 gq50 (by decide)))).symm
        have m34141 := m34061.trans (Wr.neR wH34087 (Or.inl (G_ne ga0 gq50 (by decide)))).symm
        have m34142 := m34062.trans (Wr.neR wH34087 (Or.inl (G_ne ga0 gq50 (by decide)))).symm
        have m34143 := m34063.trans (Wr.neR wH34087 (Or.inl (G_ne ga0 gq50 (by decide)))).symm
        have m34144 := m34064.trans (Wr.neR wH34087 (Or.inl (G_ne ga0 gq50 (by decide)))).symm
        have m34145 := m34065.trans (Wr.neR wH34087 (Or.inl (G_ne ga0 gq50 (by decide)))).symm
        have m34146 := m34066.trans (Wr.neR wH34087 (Or.inl (G_ne ga0 gq50 (by decide)))).symm
        have m34147 := m34067.trans (Wr.neI wH34087 (Or.inl (G_ne ga0 gq50 (by decide)))).symm
        have m34148 := ex34020.trans (Wr.neI wH34087 (Or.inl (G_ne ga0 gq50 (by decide)))).symm
        have m34149 := Wr.I wH34087
        have m34149 := m34149.symm
        clear b34028 b34029 b34030 b34031 b34032 b34033 b34034 b34035 b34036 b34037 b34038 b34039 b34040 b34041 b34042 b34043 b34069 b34070 b34071 b34072 b34073 b34074 b34075 b34076 b34077 b34078 b34079 b34080 b34081 b34082 b34083 b34084 b34085 b34086 ex34020 g34022 hTH34018 m34021 m34044 m34045 m34046 m34047 m34048 m34049 m34051 m34052 m34053 m34054 m34055 m34056 m34057 m34058 m34059 m34060 m34061 m34062 m34063 m34064 m34065 m34066 m34067 mf34068
        obtain ⟨x34150, ex34150⟩ : ∃ y : Int32, y = x33363 + 1 := ⟨_, rfl⟩
        have tx34150 := i_add ex34150 (by omega)
        refine lv_iinc (v := x34150) (lv' := [(1, .int x34150), (0, .ref a0)]) hx hb dX10_keepsBars_104 hl33362 (k := 1) rfl (by rw [ex34150]; rfl) (by decide) rfl (fun ls34151 hl34152 => ?_)
        refine lv_goto (tgt := 2) hx hb dX10_keepsBars_107 (by decide) ?_
        have cl_x34150 := i_cl (x := x34150) (by omega)
        exact ih2 ls34151 H34087 locsH34087 (x34150) (x34020) (lv_sub hl34152 [1, 0] rfl) hTH34087 hSH34087 ⟨by have := i_rng x34150; omega, by have := i_rng x34150; omega⟩ bx34020 m34148 m34130 m34131 m34132 m34133 m34134 m34135 m34136 m34137 m34138 m34139 m34140 m34141 m34142 m34143 m34144 m34145 m34146 m34147 b34106 b34107 (EQ.cast b34108 (by omega)) (EQ.cast b34109 (by omega)) (EQ.cast b34110 (by omega)) (EQ.cast b34111 (by omega)) (EQ.cast b34112 (by omega)) (EQ.cast b34113 (by omega)) (EQ.cast b34114 (by omega)) (EQ.cast b34115 (by omega)) (EQ.cast b34116 (by omega)) (EQ.cast b34117 (by omega)) (EQ.cast b34118 (by omega)) (EQ.cast b34119 (by omega)) (EQ.cast b34120 (by omega)) (EQ.cast b34121 (by omega)) (EQ.cast b34122 (by omega)) (EQ.cast b34123 (by omega)) b34090 b34091 b34092 b34093 b34094 b34095 b34096 b34097 b34098 b34099 b34100 b34101 b34102 b34103 b34104 b34105 mf34088 g34089 (by omega) (by and_intros <;> first | assumption | omega)
  have ui00 : UN (tk.toInt = 0) (fun k => fI s.heap iq k) (fun k => fI s.heap iq k) := UN.rf
  have fb00 : FB (fun k => fI s.heap iq k) (fun k => fI s.heap iq k) (6) := FB.rf
  have e400 : EQ (fun k => fI s.heap q4 k) (fun k => fI s.heap iq k) (6) (6) (0) := EQ.nil rfl
  have e1000 : EQ (fun k => fI s.heap q10 k) (fun k => fI s.heap iq k) (7) (6) (0) := EQ.nil rfl
  have e1300 : EQ (fun k => fI s.heap q13 k) (fun k => fI s.heap iq k) (8) (6) (0) := EQ.nil rfl
  have e1400 : EQ (fun k => fI s.heap q14 k) (fun k => fI s.heap iq k) (9) (6) (0) := EQ.nil rfl
  have e1500 : EQ (fun k => fI s.heap q15 k) (fun k => fI s.heap iq k) (10) (6) (0) := EQ.nil rfl
  have e5000 : EQ (fun k => fI s.heap q50 k) (fun k => fI s.heap iq k) (11) (6) (0) := EQ.nil rfl
  have e500 : EQ (fun k => fI s.heap q5 k) (fun k => fI s.heap iq k) (66) (4) (0) := EQ.nil rfl
  have e600 : EQ (fun k => fI s.heap q6 k) (fun k => fI s.heap iq k) (67) (4) (0) := EQ.nil rfl
  have e700 : EQ (fun k => fI s.heap q7 k) (fun k => fI s.heap iq k) (68) (4) (0) := EQ.nil rfl
  have e800 : EQ (fun k => fI s.heap q8 k) (fun k => fI s.heap iq k) (69) (4) (0) := EQ.nil rfl
  have e900 : EQ (fun k => fI s.heap q9 k) (fun k => fI s.heap iq k) (706) (1) (0) := EQ.nil rfl
  have e1600 : EQ (fun k => fI s.heap q16 k) (fun k => fI s.heap iq k) (736) (3) (0) := EQ.nil rfl
  have e6000 : EQ (fun k => fI s.heap q60 k) (fun k => fI s.heap iq k) (737) (3) (0) := EQ.nil rfl
  have e6100 : EQ (fun k => fI s.heap q61 k) (fun k => fI s.heap iq k) (738) (3) (0) := EQ.nil rfl
  have e1100 : EQ (fun k => fI s.heap q11 k) (fun k => fI s.heap iq k) (796) (2) (0) := EQ.nil rfl
  have e1200 : EQ (fun k => fI s.heap q12 k) (fun k => fI s.heap iq k) (797) (2) (0) := EQ.nil rfl
  have u400 : UN (tk.toInt ≠ 0) (fun k => fI s.heap q4 k) (fun k => fI s.heap q4 k) := UN.rf
  have u1000 : UN (tk.toInt ≠ 0) (fun k => fI s.heap q10 k) (fun k => fI s.heap q10 k) := UN.rf
  have u1300 : UN (tk.toInt ≠ 0) (fun k => fI s.heap q13 k) (fun k => fI s.heap q13 k) := UN.rf
  have u1400 : UN (tk.toInt ≠ 0) (fun k => fI s.heap q14 k) (fun k => fI s.heap q14 k) := UN.rf
  have u1500 : UN (tk.toInt ≠ 0) (fun k => fI s.heap q15 k) (fun k => fI s.heap q15 k) := UN.rf
  have u5000 : UN (tk.toInt ≠ 0) (fun k => fI s.heap q50 k) (fun k => fI s.heap q50 k) := UN.rf
  have u500 : UN (tk.toInt ≠ 0) (fun k => fI s.heap q5 k) (fun k => fI s.heap q5 k) := UN.rf
  have u600 : UN (tk.toInt ≠ 0) (fun k => fI s.heap q6 k) (fun k => fI s.heap q6 k) := UN.rf
  have u700 : UN (tk.toInt ≠ 0) (fun k => fI s.heap q7 k) (fun k => fI s.heap q7 k) := UN.rf
  have u800 : UN (tk.toInt ≠ 0) (fun k => fI s.heap q8 k) (fun k => fI s.heap q8 k) := UN.rf
  have u900 : UN (tk.toInt ≠ 0) (fun k => fI s.heap q9 k) (fun k => fI s.heap q9 k) := UN.rf
  have u1600 : UN (tk.toInt ≠ 0) (fun k => fI s.heap q16 k) (fun k => fI s.heap q16 k) := UN.rf
  have u6000 : UN (tk.toInt ≠ 0) (fun k => fI s.heap q60 k) (fun k => fI s.heap q60 k) := UN.rf
  have u6100 : UN (tk.toInt ≠ 0) (fun k => fI s.heap q61 k) (fun k => fI s.heap q61 k) := UN.rf
  have u1100 : UN (tk.toInt ≠ 0) (fun k => fI s.heap q11 k) (fun k => fI s.heap q11 k) := UN.rf
  have u1200 : UN (tk.toInt ≠ 0) (fun k => fI s.heap q12 k) (fun k => fI s.heap q12 k) := UN.rf
  refine lv_iconst (v := 0) hx hb dX10_keepsBars_0 (by decide) ?_
  refine lv_istore_n (lv' := [(1, .int 0), (0, .ref a0)]) hx hb dX10_keepsBars_1 rfl hl (by decide) rfl (fun ls34153 hl34154 => ?_)
  have cl00 : (0 : Int32).toNatClampNeg = 0 := rfl
  exact J2 ((10 - (0 : Int32).toInt).toNat + 1) ls34153 s.heap [] (0) (ia) (lv_sub hl34154 [1, 0] rfl) hT hS (by decide) ⟨by have := i_rng ia; omega, by have := i_rng ia; omega⟩ eia eiq eq4 eq5 eq6 eq7 eq8 eq9 eq10 eq11 eq12 eq13 eq14 eq15 eq16 eq50 eq60 eq61 etk ui00 fb00 (EQ.cast e400 (by omega)) (EQ.cast e1000 (by omega)) (EQ.cast e1300 (by omega)) (EQ.cast e1400 (by omega)) (EQ.cast e1500 (by omega)) (EQ.cast e5000 (by omega)) (EQ.cast e500 (by omega)) (EQ.cast e600 (by omega)) (EQ.cast e700 (by omega)) (EQ.cast e800 (by omega)) (EQ.cast e900 (by omega)) (EQ.cast e1600 (by omega)) (EQ.cast e6000 (by omega)) (EQ.cast e6100 (by omega)) (EQ.cast e1100 (by omega)) (EQ.cast e1200 (by omega)) u400 u1000 u1300 u1400 u1500 u5000 u500 u600 u700 u800 u900 u1600 u6000 u6100 u1100 u1200 mf0 hg_WD (by omega) (by and_intros <;> first | assumption | omega)
