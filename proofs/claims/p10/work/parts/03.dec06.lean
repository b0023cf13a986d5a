theorem dX9_nights_15 : decode cX9_nights 15 = .ok (.isub, 1) := by decide +kernel
theorem dX9_nights_16 : decode cX9_nights 16 = .ok (.invokestatic 89, 3) := by decide +kernel
theorem dX9_nights_19 : decode cX9_nights 19 = .ok (.ifCond .eq 12, 3) := by decide +kernel
theorem dX9_nights_22 : decode cX9_nights 22 = .ok (.iload_n 2, 1) := by decide +kernel
theorem dX9_nights_23 : decode cX9_nights 23 = .ok (.iconst 0, 1) := by decide +kernel
theorem dX9_nights_24 : decode cX9_nights 24 = .ok (.iconst 3, 1) := by decide +kernel
theorem dX9_nights_25 : decode cX9_nights 25 = .ok (.invokestatic 89, 3) := by decide +kernel
theorem dX9_nights_28 : decode cX9_nights 28 = .ok (.ifCond .ne 6, 3) := by decide +kernel
theorem dX9_nights_31 : decode cX9_nights 31 = .ok (.bipush (-2), 2) := by decide +kernel
theorem dX9_nights_33 : decode cX9_nights 33 = .ok (.ireturn, 1) := by decide +kernel
theorem dX9_nights_34 : decode cX9_nights 34 = .ok (.aload_n 0, 1) := by decide +kernel
theorem dX9_nights_35 : decode cX9_nights 35 = .ok (.invokevirtual 302, 3) := by decide +kernel
theorem dX9_nights_38 : decode cX9_nights 38 = .ok (.iload_n 1, 1) := by decide +kernel
theorem dX9_nights_39 : decode cX9_nights 39 = .ok (.iconst (-1), 1) := by decide +kernel
theorem dX9_nights_40 : decode cX9_nights 40 = .ok (.if_icmp .ne 8, 3) := by decide +kernel
theorem dX9_nights_43 : decode cX9_nights 43 = .ok (.aload_n 0, 1) := by decide +kernel
theorem dX9_nights_44 : decode cX9_nights 44 = .ok (.invokevirtual 305, 3) := by decide +kernel
theorem dX9_nights_47 : decode cX9_nights 47 = .ok (.ireturn, 1) := by decide +kernel
theorem dX9_nights_48 : decode cX9_nights 48 = .ok (.iload_n 2, 1) := by decide +kernel
theorem dX9_nights_49 : decode cX9_nights 49 = .ok (.tableswitch 47 0 2 #[27, 34, 41], 27) := by decide +kernel
theorem dX9_nights_76 : decode cX9_nights 76 = .ok (.aload_n 0, 1) := by decide +kernel
theorem dX9_nights_77 : decode cX9_nights 77 = .ok (.iload_n 1, 1) := by decide +kernel
theorem dX9_nights_78 : decode cX9_nights 78 = .ok (.iconst 0, 1) := by decide +kernel
theorem dX9_nights_79 : decode cX9_nights 79 = .ok (.invokevirtual 308, 3) := by decide +kernel
theorem dX9_nights_82 : decode cX9_nights 82 = .ok (.ireturn, 1) := by decide +kernel
theorem dX9_nights_83 : decode cX9_nights 83 = .ok (.aload_n 0, 1) := by decide +kernel
theorem dX9_nights_84 : decode cX9_nights 84 = .ok (.iload_n 1, 1) := by decide +kernel
theorem dX9_nights_85 : decode cX9_nights 85 = .ok (.iconst 1, 1) := by decide +kernel
theorem dX9_nights_86 : decode cX9_nights 86 = .ok (.invokevirtual 308, 3) := by decide +kernel
theorem dX9_nights_89 : decode cX9_nights 89 = .ok (.ireturn, 1) := by decide +kernel
theorem dX9_nights_90 : decode cX9_nights 90 = .ok (.aload_n 0, 1) := by decide +kernel
theorem dX9_nights_91 : decode cX9_nights 91 = .ok (.iload_n 1, 1) := by decide +kernel
theorem dX9_nights_92 : decode cX9_nights 92 = .ok (.invokevirtual 311, 3) := by decide +kernel
theorem dX9_nights_95 : decode cX9_nights 95 = .ok (.ireturn, 1) := by decide +kernel
theorem dX9_nights_96 : decode cX9_nights 96 = .ok (.aload_n 0, 1) := by decide +kernel
theorem dX9_nights_97 : decode cX9_nights 97 = .ok (.iload_n 1, 1) := by decide +kernel
theorem dX9_nights_98 : decode cX9_nights 98 = .ok (.invokevirtual 314, 3) := by decide +kernel
theorem dX9_nights_101 : decode cX9_nights 101 = .ok (.ireturn, 1) := by decide +kernel
theorem dX9_note_0 : decode cX9_note 0 = .ok (.iload_n 1, 1) := by decide +kernel
theorem dX9_note_1 : decode cX9_note 1 = .ok (.iconst 1, 1) := by decide +kernel
theorem dX9_note_2 : decode cX9_note 2 = .ok (.ldc 180, 2) := by decide +kernel
theorem dX9_note_4 : decode cX9_note 4 = .ok (.invokestatic 89, 3) := by decide +kernel
theorem dX9_note_7 : decode cX9_note 7 = .ok (.ifCond .eq 25, 3) := by decide +kernel
theorem dX9_note_10 : decode cX9_note 10 = .ok (.iload_n 2, 1) := by decide +kernel
theorem dX9_note_11 : decode cX9_note 11 = .ok (.iconst 1, 1) := by decide +kernel
theorem dX9_note_12 : decode cX9_note 12 = .ok (.bipush 99, 2) := by decide +kernel
theorem dX9_note_14 : decode cX9_note 14 = .ok (.invokestatic 89, 3) := by decide +kernel
theorem dX9_note_17 : decode cX9_note 17 = .ok (.ifCond .eq 15, 3) := by decide +kernel
theorem dX9_note_20 : decode cX9_note 20 = .ok (.aload_n 0, 1) := by decide +kernel
theorem dX9_note_21 : decode cX9_note 21 = .ok (.getfield 12, 3) := by decide +kernel
theorem dX9_note_24 : decode cX9_note 24 = .ok (.getfield 317, 3) := by decide +kernel
theorem dX9_note_27 : decode cX9_note 27 = .ok (.bipush 8, 2) := by decide +kernel
theorem dX9_note_29 : decode cX9_note 29 = .ok (.if_icmp .lt 5, 3) := by decide +kernel
theorem dX9_note_32 : decode cX9_note 32 = .ok (.iconst (-1), 1) := by decide +kernel
theorem dX9_note_33 : decode cX9_note 33 = .ok (.ireturn, 1) := by decide +kernel
theorem dX9_note_34 : decode cX9_note 34 = .ok (.aload_n 0, 1) := by decide +kernel
theorem dX9_note_35 : decode cX9_note 35 = .ok (.getfield 12, 3) := by decide +kernel
theorem dX9_note_38 : decode cX9_note 38 = .ok (.getfield 320, 3) := by decide +kernel
theorem dX9_note_41 : decode cX9_note 41 = .ok (.aload_n 0, 1) := by decide +kernel
theorem dX9_note_42 : decode cX9_note 42 = .ok (.getfield 12, 3) := by decide +kernel
theorem dX9_note_45 : decode cX9_note 45 = .ok (.getfield 317, 3) := by decide +kernel
theorem dX9_note_48 : decode cX9_note 48 = .ok (.iload_n 1, 1) := by decide +kernel
theorem dX9_note_49 : decode cX9_note 49 = .ok (.iastore, 1) := by decide +kernel
theorem dX9_note_50 : decode cX9_note 50 = .ok (.aload_n 0, 1) := by decide +kernel
theorem dX9_note_51 : decode cX9_note 51 = .ok (.getfield 12, 3) := by decide +kernel
theorem dX9_note_54 : decode cX9_note 54 = .ok (.getfield 323, 3) := by decide +kernel
theorem dX9_note_57 : decode cX9_note 57 = .ok (.aload_n 0, 1) := by decide +kernel
theorem dX9_note_58 : decode cX9_note 58 = .ok (.getfield 12, 3) := by decide +kernel
theorem dX9_note_61 : decode cX9_note 61 = .ok (.getfield 317, 3) := by decide +kernel
theorem dX9_note_64 : decode cX9_note 64 = .ok (.iload_n 2, 1) := by decide +kernel
theorem dX9_note_65 : decode cX9_note 65 = .ok (.iastore, 1) := by decide +kernel
theorem dX9_note_66 : decode cX9_note 66 = .ok (.aload_n 0, 1) := by decide +kernel
theorem dX9_note_67 : decode cX9_note 67 = .ok (.getfield 12, 3) := by decide +kernel
theorem dX9_note_70 : decode cX9_note 70 = .ok (.dup, 1) := by decide +kernel
theorem dX9_note_71 : decode cX9_note 71 = .ok (.getfield 317, 3) := by decide +kernel
theorem dX9_note_74 : decode cX9_note 74 = .ok (.iconst 1, 1) := by decide +kernel
theorem dX9_note_75 : decode cX9_note 75 = .ok (.iadd, 1) := by decide +kernel
theorem dX9_note_76 : decode cX9_note 76 = .ok (.putfield 317, 3) := by decide +kernel
theorem dX9_note_79 : decode cX9_note 79 = .ok (.aload_n 0, 1) := by decide +kernel
theorem dX9_note_80 : decode cX9_note 80 = .ok (.getfield 12, 3) := by decide +kernel
theorem dX9_note_83 : decode cX9_note 83 = .ok (.getfield 317, 3) := by decide +kernel
theorem dX9_note_86 : decode cX9_note 86 = .ok (.iconst 1, 1) := by decide +kernel
theorem dX9_note_87 : decode cX9_note 87 = .ok (.isub, 1) := by decide +kernel
theorem dX9_note_88 : decode cX9_note 88 = .ok (.ireturn, 1) := by decide +kernel
theorem dX9_blank_0 : decode cX9_blank 0 = .ok (.iload_n 1, 1) := by decide +kernel
theorem dX9_blank_1 : decode cX9_blank 1 = .ok (.iconst 1, 1) := by decide +kernel
theorem dX9_blank_2 : decode cX9_blank 2 = .ok (.bipush 99, 2) := by decide +kernel
theorem dX9_blank_4 : decode cX9_blank 4 = .ok (.invokestatic 89, 3) := by decide +kernel
theorem dX9_blank_7 : decode cX9_blank 7 = .ok (.ifCond .eq 25, 3) := by decide +kernel
theorem dX9_blank_10 : decode cX9_blank 10 = .ok (.iload_n 2, 1) := by decide +kernel
theorem dX9_blank_11 : decode cX9_blank 11 = .ok (.iconst 0, 1) := by decide +kernel
theorem dX9_blank_12 : decode cX9_blank 12 = .ok (.bipush 99, 2) := by decide +kernel
theorem dX9_blank_14 : decode cX9_blank 14 = .ok (.invokestatic 89, 3) := by decide +kernel
theorem dX9_blank_17 : decode cX9_blank 17 = .ok (.ifCond .eq 15, 3) := by decide +kernel
theorem dX9_blank_20 : decode cX9_blank 20 = .ok (.aload_n 0, 1) := by decide +kernel
theorem dX9_blank_21 : decode cX9_blank 21 = .ok (.getfield 12, 3) := by decide +kernel
theorem dX9_blank_24 : decode cX9_blank 24 = .ok (.getfield 326, 3) := by decide +kernel
theorem dX9_blank_27 : decode cX9_blank 27 = .ok (.bipush 8, 2) := by decide +kernel
theorem dX9_blank_29 : decode cX9_blank 29 = .ok (.if_icmp .lt 5, 3) := by decide +kernel
theorem dX9_blank_32 : decode cX9_blank 32 = .ok (.iconst (-1), 1) := by decide +kernel
theorem dX9_blank_33 : decode cX9_blank 33 = .ok (.ireturn, 1) := by decide +kernel
theorem dX9_blank_34 : decode cX9_blank 34 = .ok (.aload_n 0, 1) := by decide +kernel
theorem dX9_blank_35 : decode cX9_blank 35 = .ok (.getfield 12, 3) := by decide +kernel
theorem dX9_blank_38 : decode cX9_blank 38 = .ok (.getfield 329, 3) := by decide +kernel
theorem dX9_blank_41 : decode cX9_blank 41 = .ok (.aload_n 0, 1) := by decide +kernel
theorem dX9_blank_42 : decode cX9_blank 42 = .ok (.getfield 12, 3) := by decide +kernel
theorem dX9_blank_45 : decode cX9_blank 45 = .ok (.getfield 326, 3) := by decide +kernel
theorem dX9_blank_48 : decode cX9_blank 48 = .ok (.iload_n 1, 1) := by decide +kernel
theorem dX9_blank_49 : decode cX9_blank 49 = .ok (.iastore, 1) := by decide +kernel
theorem dX9_blank_50 : decode cX9_blank 50 = .ok (.aload_n 0, 1) := by decide +kernel
theorem dX9_blank_51 : decode cX9_blank 51 = .ok (.getfield 12, 3) := by decide +kernel
theorem dX9_blank_54 : decode cX9_blank 54 = .ok (.getfield 332, 3) := by decide +kernel
theorem dX9_blank_57 : decode cX9_blank 57 = .ok (.aload_n 0, 1) := by decide +kernel
theorem dX9_blank_58 : decode cX9_blank 58 = .ok (.getfield 12, 3) := by decide +kernel
theorem dX9_blank_61 : decode cX9_blank 61 = .ok (.getfield 326, 3) := by decide +kernel
theorem dX9_blank_64 : decode cX9_blank 64 = .ok (.iload_n 2, 1) := by decide +kernel
theorem dX9_blank_65 : decode cX9_blank 65 = .ok (.iastore, 1) := by decide +kernel
theorem dX9_blank_66 : decode cX9_blank 66 = .ok (.aload_n 0, 1) := by decide +kernel
theorem dX9_blank_67 : decode cX9_blank 67 = .ok (.getfield 12, 3) := by decide +kernel
theorem dX9_blank_70 : decode cX9_blank 70 = .ok (.dup, 1) := by decide +kernel
theorem dX9_blank_71 : decode cX9_blank 71 = .ok (.getfield 326, 3) := by decide +kernel
theorem dX9_blank_74 : decode cX9_blank 74 = .ok (.iconst 1, 1) := by decide +kernel
theorem dX9_blank_75 : decode cX9_blank 75 = .ok (.iadd, 1) := by decide +kernel
theorem dX9_blank_76 : decode cX9_blank 76 = .ok (.putfield 326, 3) := by decide +kernel
theorem dX9_blank_79 : decode cX9_blank 79 = .ok (.aload_n 0, 1) := by decide +kernel
theorem dX9_blank_80 : decode cX9_blank 80 = .ok (.getfield 12, 3) := by decide +kernel
theorem dX9_blank_83 : decode cX9_blank 83 = .ok (.getfield 326, 3) := by decide +kernel
theorem dX9_blank_86 : decode cX9_blank 86 = .ok (.iconst 1, 1) := by decide +kernel
theorem dX9_blank_87 : decode cX9_blank 87 = .ok (.isub, 1) := by decide +kernel
theorem dX9_blank_88 : decode cX9_blank 88 = .ok (.ireturn, 1) := by decide +kernel
theorem dX9_set_0 : decode cX9_set 0 = .ok (.iload_n 1, 1) := by decide +kernel
theorem dX9_set_1 : decode cX9_set 1 = .ok (.iconst 0, 1) := by decide +kernel
theorem dX9_set_2 : decode cX9_set 2 = .ok (.bipush 99, 2) := by decide +kernel
theorem dX9_set_4 : decode cX9_set 4 = .ok (.invokestatic 89, 3) := by decide +kernel
theorem dX9_set_7 : decode cX9_set 7 = .ok (.ifCond .eq 18, 3) := by decide +kernel
theorem dX9_set_10 : decode cX9_set 10 = .ok (.iload_n 2, 1) := by decide +kernel
theorem dX9_set_11 : decode cX9_set 11 = .ok (.iconst 0, 1) := by decide +kernel
theorem dX9_set_12 : decode cX9_set 12 = .ok (.aload_n 0, 1) := by decide +kernel
theorem dX9_set_13 : decode cX9_set 13 = .ok (.getfield 12, 3) := by decide +kernel
theorem dX9_set_16 : decode cX9_set 16 = .ok (.getfield 317, 3) := by decide +kernel
theorem dX9_set_19 : decode cX9_set 19 = .ok (.invokestatic 89, 3) := by decide +kernel
theorem dX9_set_22 : decode cX9_set 22 = .ok (.ifCond .ne 5, 3) := by decide +kernel
theorem dX9_set_25 : decode cX9_set 25 = .ok (.iconst (-1), 1) := by decide +kernel
theorem dX9_set_26 : decode cX9_set 26 = .ok (.ireturn, 1) := by decide +kernel
theorem dX9_set_27 : decode cX9_set 27 = .ok (.aload_n 0, 1) := by decide +kernel
theorem dX9_set_28 : decode cX9_set 28 = .ok (.getfield 51, 3) := by decide +kernel
theorem dX9_set_31 : decode cX9_set 31 = .ok (.aload_n 0, 1) := by decide +kernel
theorem dX9_set_32 : decode cX9_set 32 = .ok (.getfield 12, 3) := by decide +kernel
theorem dX9_set_35 : decode cX9_set 35 = .ok (.iload_n 1, 1) := by decide +kernel
theorem dX9_set_36 : decode cX9_set 36 = .ok (.invokevirtual 335, 3) := by decide +kernel
theorem dX9_set_39 : decode cX9_set 39 = .ok (.istore_n 3, 1) := by decide +kernel
theorem dX9_set_40 : decode cX9_set 40 = .ok (.iload_n 2, 1) := by decide +kernel
theorem dX9_set_41 : decode cX9_set 41 = .ok (.ifCond .eq 8, 3) := by decide +kernel
theorem dX9_set_44 : decode cX9_set 44 = .ok (.iload_n 3, 1) := by decide +kernel
theorem dX9_set_45 : decode cX9_set 45 = .ok (.iconst (-1), 1) := by decide +kernel
theorem dX9_set_46 : decode cX9_set 46 = .ok (.if_icmp .ne 5, 3) := by decide +kernel
theorem dX9_set_49 : decode cX9_set 49 = .ok (.iload_n 3, 1) := by decide +kernel
theorem dX9_set_50 : decode cX9_set 50 = .ok (.ireturn, 1) := by decide +kernel
theorem dX9_set_51 : decode cX9_set 51 = .ok (.aload_n 0, 1) := by decide +kernel
theorem dX9_set_52 : decode cX9_set 52 = .ok (.getfield 51, 3) := by decide +kernel
theorem dX9_set_55 : decode cX9_set 55 = .ok (.getfield 338, 3) := by decide +kernel
theorem dX9_set_58 : decode cX9_set 58 = .ok (.iload_n 2, 1) := by decide +kernel
theorem dX9_set_59 : decode cX9_set 59 = .ok (.iconst 1, 1) := by decide +kernel
theorem dX9_set_60 : decode cX9_set 60 = .ok (.isub, 1) := by decide +kernel
theorem dX9_set_61 : decode cX9_set 61 = .ok (.iaload, 1) := by decide +kernel
theorem dX9_set_62 : decode cX9_set 62 = .ok (.ireturn, 1) := by decide +kernel
theorem dX9_down_0 : decode cX9_down 0 = .ok (.aload_n 0, 1) := by decide +kernel
theorem dX9_down_1 : decode cX9_down 1 = .ok (.iload_n 1, 1) := by decide +kernel
theorem dX9_down_2 : decode cX9_down 2 = .ok (.invokevirtual 78, 3) := by decide +kernel
theorem dX9_down_5 : decode cX9_down 5 = .ok (.astore_n 2, 1) := by decide +kernel
theorem dX9_down_6 : decode cX9_down 6 = .ok (.aload_n 2, 1) := by decide +kernel
theorem dX9_down_7 : decode cX9_down 7 = .ok (.ifnonnull 5, 3) := by decide +kernel
theorem dX9_down_10 : decode cX9_down 10 = .ok (.iconst (-1), 1) := by decide +kernel
theorem dX9_down_11 : decode cX9_down 11 = .ok (.ireturn, 1) := by decide +kernel
theorem dX9_down_12 : decode cX9_down 12 = .ok (.aload_n 0, 1) := by decide +kernel
theorem dX9_down_13 : decode cX9_down 13 = .ok (.aload_n 2, 1) := by decide +kernel
theorem dX9_down_14 : decode cX9_down 14 = .ok (.iconst 0, 1) := by decide +kernel
theorem dX9_down_15 : decode cX9_down 15 = .ok (.invokevirtual 166, 3) := by decide +kernel
theorem dX9_down_18 : decode cX9_down 18 = .ok (.aload_n 0, 1) := by decide +kernel
theorem dX9_down_19 : decode cX9_down 19 = .ok (.getfield 12, 3) := by decide +kernel
theorem dX9_down_22 : decode cX9_down 22 = .ok (.getfield 184, 3) := by decide +kernel
theorem dX9_down_25 : decode cX9_down 25 = .ok (.iadd, 1) := by decide +kernel
theorem dX9_down_26 : decode cX9_down 26 = .ok (.istore_n 3, 1) := by decide +kernel
theorem dX9_down_27 : decode cX9_down 27 = .ok (.iconst (-1), 1) := by decide +kernel
theorem dX9_down_28 : decode cX9_down 28 = .ok (.istore 4, 2) := by decide +kernel
theorem dX9_down_30 : decode cX9_down 30 = .ok (.iconst 0, 1) := by decide +kernel
theorem dX9_down_31 : decode cX9_down 31 = .ok (.istore 5, 2) := by decide +kernel
theorem dX9_down_33 : decode cX9_down 33 = .ok (.iload 5, 2) := by decide +kernel
theorem dX9_down_35 : decode cX9_down 35 = .ok (.aload_n 0, 1) := by decide +kernel
theorem dX9_down_36 : decode cX9_down 36 = .ok (.getfield 12, 3) := by decide +kernel
theorem dX9_down_39 : decode cX9_down 39 = .ok (.getfield 317, 3) := by decide +kernel
theorem dX9_down_42 : decode cX9_down 42 = .ok (.if_icmp .ge 52, 3) := by decide +kernel
theorem dX9_down_45 : decode cX9_down 45 = .ok (.aload_n 0, 1) := by decide +kernel
theorem dX9_down_46 : decode cX9_down 46 = .ok (.getfield 12, 3) := by decide +kernel
theorem dX9_down_49 : decode cX9_down 49 = .ok (.getfield 320, 3) := by decide +kernel
theorem dX9_down_52 : decode cX9_down 52 = .ok (.iload 5, 2) := by decide +kernel
theorem dX9_down_54 : decode cX9_down 54 = .ok (.iaload, 1) := by decide +kernel
theorem dX9_down_55 : decode cX9_down 55 = .ok (.istore 6, 2) := by decide +kernel
theorem dX9_down_57 : decode cX9_down 57 = .ok (.iload 6, 2) := by decide +kernel
theorem dX9_down_59 : decode cX9_down 59 = .ok (.iload_n 3, 1) := by decide +kernel
theorem dX9_down_60 : decode cX9_down 60 = .ok (.if_icmp .gt 28, 3) := by decide +kernel
theorem dX9_down_63 : decode cX9_down 63 = .ok (.iload 4, 2) := by decide +kernel
theorem dX9_down_65 : decode cX9_down 65 = .ok (.iconst (-1), 1) := by decide +kernel
theorem dX9_down_66 : decode cX9_down 66 = .ok (.if_icmp .eq 18, 3) := by decide +kernel
theorem dX9_down_69 : decode cX9_down 69 = .ok (.iload 6, 2) := by decide +kernel
theorem dX9_down_71 : decode cX9_down 71 = .ok (.aload_n 0, 1) := by decide +kernel
theorem dX9_down_72 : decode cX9_down 72 = .ok (.getfield 12, 3) := by decide +kernel
theorem dX9_down_75 : decode cX9_down 75 = .ok (.getfield 320, 3) := by decide +kernel
theorem dX9_down_78 : decode cX9_down 78 = .ok (.iload 4, 2) := by decide +kernel
theorem dX9_down_80 : decode cX9_down 80 = .ok (.iaload, 1) := by decide +kernel
theorem dX9_down_81 : decode cX9_down 81 = .ok (.if_icmp .le 7, 3) := by decide +kernel
theorem dX9_down_84 : decode cX9_down 84 = .ok (.iload 5, 2) := by decide +kernel
theorem dX9_down_86 : decode cX9_down 86 = .ok (.istore 4, 2) := by decide +kernel
theorem dX9_down_88 : decode cX9_down 88 = .ok (.iinc 5 1, 3) := by decide +kernel
theorem dX9_down_91 : decode cX9_down 91 = .ok (.goto (-58), 3) := by decide +kernel
theorem dX9_down_94 : decode cX9_down 94 = .ok (.iload 4, 2) := by decide +kernel
theorem dX9_down_96 : decode cX9_down 96 = .ok (.ireturn, 1) := by decide +kernel
theorem dX9_enough_0 : decode cX9_enough 0 = .ok (.aload_n 0, 1) := by decide +kernel
theorem dX9_enough_1 : decode cX9_enough 1 = .ok (.iload_n 1, 1) := by decide +kernel
theorem dX9_enough_2 : decode cX9_enough 2 = .ok (.invokevirtual 78, 3) := by decide +kernel
theorem dX9_enough_5 : decode cX9_enough 5 = .ok (.astore 4, 2) := by decide +kernel
theorem dX9_enough_7 : decode cX9_enough 7 = .ok (.aload 4, 2) := by decide +kernel
theorem dX9_enough_9 : decode cX9_enough 9 = .ok (.ifnull 29, 3) := by decide +kernel
theorem dX9_enough_12 : decode cX9_enough 12 = .ok (.aload 4, 2) := by decide +kernel
theorem dX9_enough_14 : decode cX9_enough 14 = .ok (.iload_n 2, 1) := by decide +kernel
theorem dX9_enough_15 : decode cX9_enough 15 = .ok (.invokevirtual 82, 3) := by decide +kernel
theorem dX9_enough_18 : decode cX9_enough 18 = .ok (.ifCond .eq 20, 3) := by decide +kernel
theorem dX9_enough_21 : decode cX9_enough 21 = .ok (.iload_n 3, 1) := by decide +kernel
theorem dX9_enough_22 : decode cX9_enough 22 = .ok (.invokestatic 150, 3) := by decide +kernel
theorem dX9_enough_25 : decode cX9_enough 25 = .ok (.ifCond .eq 13, 3) := by decide +kernel
theorem dX9_enough_28 : decode cX9_enough 28 = .ok (.aload 4, 2) := by decide +kernel
theorem dX9_enough_30 : decode cX9_enough 30 = .ok (.getfield 181, 3) := by decide +kernel
theorem dX9_enough_33 : decode cX9_enough 33 = .ok (.iload_n 3, 1) := by decide +kernel
theorem dX9_enough_34 : decode cX9_enough 34 = .ok (.iaload, 1) := by decide +kernel
theorem dX9_enough_35 : decode cX9_enough 35 = .ok (.ifCond .ne 5, 3) := by decide +kernel
theorem dX9_enough_38 : decode cX9_enough 38 = .ok (.iconst (-1), 1) := by decide +kernel
theorem dX9_enough_39 : decode cX9_enough 39 = .ok (.ireturn, 1) := by decide +kernel
theorem dX9_enough_40 : decode cX9_enough 40 = .ok (.aload_n 0, 1) := by decide +kernel
theorem dX9_enough_41 : decode cX9_enough 41 = .ok (.getfield 30, 3) := by decide +kernel
theorem dX9_enough_44 : decode cX9_enough 44 = .ok (.aload_n 0, 1) := by decide +kernel
theorem dX9_enough_45 : decode cX9_enough 45 = .ok (.getfield 12, 3) := by decide +kernel
theorem dX9_enough_48 : decode cX9_enough 48 = .ok (.invokevirtual 212, 3) := by decide +kernel
theorem dX9_enough_51 : decode cX9_enough 51 = .ok (.iconst 0, 1) := by decide +kernel
theorem dX9_enough_52 : decode cX9_enough 52 = .ok (.iload_n 3, 1) := by decide +kernel
theorem dX9_enough_53 : decode cX9_enough 53 = .ok (.aload 4, 2) := by decide +kernel
theorem dX9_enough_55 : decode cX9_enough 55 = .ok (.iload_n 2, 1) := by decide +kernel
theorem dX9_enough_56 : decode cX9_enough 56 = .ok (.invokevirtual 341, 3) := by decide +kernel
theorem dX9_enough_59 : decode cX9_enough 59 = .ok (.istore 5, 2) := by decide +kernel
theorem dX9_enough_61 : decode cX9_enough 61 = .ok (.aload_n 0, 1) := by decide +kernel
theorem dX9_enough_62 : decode cX9_enough 62 = .ok (.getfield 30, 3) := by decide +kernel
theorem dX9_enough_65 : decode cX9_enough 65 = .ok (.aload_n 0, 1) := by decide +kernel
theorem dX9_enough_66 : decode cX9_enough 66 = .ok (.getfield 12, 3) := by decide +kernel
theorem dX9_enough_69 : decode cX9_enough 69 = .ok (.invokevirtual 212, 3) := by decide +kernel
theorem dX9_enough_72 : decode cX9_enough 72 = .ok (.iconst 1, 1) := by decide +kernel
theorem dX9_enough_73 : decode cX9_enough 73 = .ok (.iload_n 3, 1) := by decide +kernel
theorem dX9_enough_74 : decode cX9_enough 74 = .ok (.aload 4, 2) := by decide +kernel
theorem dX9_enough_76 : decode cX9_enough 76 = .ok (.iload_n 2, 1) := by decide +kernel
theorem dX9_enough_77 : decode cX9_enough 77 = .ok (.invokevirtual 341, 3) := by decide +kernel
theorem dX9_enough_80 : decode cX9_enough 80 = .ok (.istore 6, 2) := by decide +kernel
theorem dX9_enough_82 : decode cX9_enough 82 = .ok (.aload 4, 2) := by decide +kernel
theorem dX9_enough_84 : decode cX9_enough 84 = .ok (.getfield 102, 3) := by decide +kernel
theorem dX9_enough_87 : decode cX9_enough 87 = .ok (.iload_n 2, 1) := by decide +kernel
theorem dX9_enough_88 : decode cX9_enough 88 = .ok (.iaload, 1) := by decide +kernel
theorem dX9_enough_89 : decode cX9_enough 89 = .ok (.istore 7, 2) := by decide +kernel
theorem dX9_enough_91 : decode cX9_enough 91 = .ok (.iload 7, 2) := by decide +kernel
theorem dX9_enough_93 : decode cX9_enough 93 = .ok (.bipush 99, 2) := by decide +kernel
theorem dX9_enough_95 : decode cX9_enough 95 = .ok (.if_icmp .gt 101, 3) := by decide +kernel
theorem dX9_enough_98 : decode cX9_enough 98 = .ok (.aload_n 0, 1) := by decide +kernel
theorem dX9_enough_99 : decode cX9_enough 99 = .ok (.getfield 30, 3) := by decide +kernel
theorem dX9_enough_102 : decode cX9_enough 102 = .ok (.aload 4, 2) := by decide +kernel
theorem dX9_enough_104 : decode cX9_enough 104 = .ok (.iload_n 2, 1) := by decide +kernel
theorem dX9_enough_105 : decode cX9_enough 105 = .ok (.aload 4, 2) := by decide +kernel
theorem dX9_enough_107 : decode cX9_enough 107 = .ok (.getfield 93, 3) := by decide +kernel
theorem dX9_enough_110 : decode cX9_enough 110 = .ok (.iload_n 2, 1) := by decide +kernel
theorem dX9_enough_111 : decode cX9_enough 111 = .ok (.iaload, 1) := by decide +kernel
theorem dX9_enough_112 : decode cX9_enough 112 = .ok (.aload 4, 2) := by decide +kernel
theorem dX9_enough_114 : decode cX9_enough 114 = .ok (.getfield 96, 3) := by decide +kernel
theorem dX9_enough_117 : decode cX9_enough 117 = .ok (.iload_n 2, 1) := by decide +kernel
theorem dX9_enough_118 : decode cX9_enough 118 = .ok (.iaload, 1) := by decide +kernel
theorem dX9_enough_119 : decode cX9_enough 119 = .ok (.iload 7, 2) := by decide +kernel
theorem dX9_enough_121 : decode cX9_enough 121 = .ok (.invokevirtual 154, 3) := by decide +kernel
theorem dX9_enough_124 : decode cX9_enough 124 = .ok (.iload 5, 2) := by decide +kernel
theorem dX9_enough_126 : decode cX9_enough 126 = .ok (.aload_n 0, 1) := by decide +kernel
theorem dX9_enough_127 : decode cX9_enough 127 = .ok (.getfield 30, 3) := by decide +kernel
theorem dX9_enough_130 : decode cX9_enough 130 = .ok (.aload_n 0, 1) := by decide +kernel
theorem dX9_enough_131 : decode cX9_enough 131 = .ok (.getfield 12, 3) := by decide +kernel
theorem dX9_enough_134 : decode cX9_enough 134 = .ok (.invokevirtual 212, 3) := by decide +kernel
theorem dX9_enough_137 : decode cX9_enough 137 = .ok (.iconst 0, 1) := by decide +kernel
theorem dX9_enough_138 : decode cX9_enough 138 = .ok (.iload_n 3, 1) := by decide +kernel
theorem dX9_enough_139 : decode cX9_enough 139 = .ok (.invokevirtual 162, 3) := by decide +kernel
theorem dX9_enough_142 : decode cX9_enough 142 = .ok (.iadd, 1) := by decide +kernel
theorem dX9_enough_143 : decode cX9_enough 143 = .ok (.iload 6, 2) := by decide +kernel
theorem dX9_enough_145 : decode cX9_enough 145 = .ok (.aload_n 0, 1) := by decide +kernel
theorem dX9_enough_146 : decode cX9_enough 146 = .ok (.getfield 30, 3) := by decide +kernel
theorem dX9_enough_149 : decode cX9_enough 149 = .ok (.aload_n 0, 1) := by decide +kernel
theorem dX9_enough_150 : decode cX9_enough 150 = .ok (.getfield 12, 3) := by decide +kernel
theorem dX9_enough_153 : decode cX9_enough 153 = .ok (.invokevirtual 212, 3) := by decide +kernel
theorem dX9_enough_156 : decode cX9_enough 156 = .ok (.iconst 1, 1) := by decide +kernel
theorem dX9_enough_157 : decode cX9_enough 157 = .ok (.iload_n 3, 1) := by decide +kernel
theorem dX9_enough_158 : decode cX9_enough 158 = .ok (.invokevirtual 162, 3) := by decide +kernel
theorem dX9_enough_161 : decode cX9_enough 161 = .ok (.iadd, 1) := by decide +kernel
theorem dX9_enough_162 : decode cX9_enough 162 = .ok (.invokestatic 345, 3) := by decide +kernel
theorem dX9_enough_165 : decode cX9_enough 165 = .ok (.istore 8, 2) := by decide +kernel
theorem dX9_enough_167 : decode cX9_enough 167 = .ok (.iload 8, 2) := by decide +kernel
theorem dX9_enough_169 : decode cX9_enough 169 = .ok (.aload 4, 2) := by decide +kernel
theorem dX9_enough_171 : decode cX9_enough 171 = .ok (.getfield 181, 3) := by decide +kernel
theorem dX9_enough_174 : decode cX9_enough 174 = .ok (.iload_n 3, 1) := by decide +kernel
theorem dX9_enough_175 : decode cX9_enough 175 = .ok (.iaload, 1) := by decide +kernel
theorem dX9_enough_176 : decode cX9_enough 176 = .ok (.aload_n 0, 1) := by decide +kernel
theorem dX9_enough_177 : decode cX9_enough 177 = .ok (.getfield 12, 3) := by decide +kernel
theorem dX9_enough_180 : decode cX9_enough 180 = .ok (.getfield 184, 3) := by decide +kernel
theorem dX9_enough_183 : decode cX9_enough 183 = .ok (.iadd, 1) := by decide +kernel
theorem dX9_enough_184 : decode cX9_enough 184 = .ok (.if_icmp .gt 6, 3) := by decide +kernel
theorem dX9_enough_187 : decode cX9_enough 187 = .ok (.iload 7, 2) := by decide +kernel
theorem dX9_enough_189 : decode cX9_enough 189 = .ok (.ireturn, 1) := by decide +kernel
theorem dX9_enough_190 : decode cX9_enough 190 = .ok (.iinc 7 1, 3) := by decide +kernel
theorem dX9_enough_193 : decode cX9_enough 193 = .ok (.goto (-102), 3) := by decide +kernel
theorem dX9_enough_196 : decode cX9_enough 196 = .ok (.iconst (-1), 1) := by decide +kernel
theorem dX9_enough_197 : decode cX9_enough 197 = .ok (.ireturn, 1) := by decide +kernel
theorem dX9_image_0 : decode cX9_image 0 = .ok (.iload_n 1, 1) := by decide +kernel
theorem dX9_image_1 : decode cX9_image 1 = .ok (.ifCond .eq 35, 3) := by decide +kernel
theorem dX9_image_4 : decode cX9_image 4 = .ok (.aload_n 0, 1) := by decide +kernel
theorem dX9_image_5 : decode cX9_image 5 = .ok (.getfield 348, 3) := by decide +kernel
theorem dX9_image_8 : decode cX9_image 8 = .ok (.ifnonnull 14, 3) := by decide +kernel
theorem dX9_image_11 : decode cX9_image 11 = .ok (.aload_n 0, 1) := by decide +kernel
theorem dX9_image_12 : decode cX9_image 12 = .ok (.new 9, 3) := by decide +kernel
theorem dX9_image_15 : decode cX9_image 15 = .ok (.dup, 1) := by decide +kernel
theorem dX9_image_16 : decode cX9_image 16 = .ok (.invokespecial 11, 3) := by decide +kernel
theorem dX9_image_19 : decode cX9_image 19 = .ok (.putfield 348, 3) := by decide +kernel
theorem dX9_image_22 : decode cX9_image 22 = .ok (.aload_n 0, 1) := by decide +kernel
theorem dX9_image_23 : decode cX9_image 23 = .ok (.getfield 348, 3) := by decide +kernel
theorem dX9_image_26 : decode cX9_image 26 = .ok (.aload_n 0, 1) := by decide +kernel
theorem dX9_image_27 : decode cX9_image 27 = .ok (.getfield 12, 3) := by decide +kernel
theorem dX9_image_30 : decode cX9_image 30 = .ok (.invokevirtual 351, 3) := by decide +kernel
theorem dX9_image_33 : decode cX9_image 33 = .ok (.goto 21, 3) := by decide +kernel
theorem dX9_image_36 : decode cX9_image 36 = .ok (.aload_n 0, 1) := by decide +kernel
theorem dX9_image_37 : decode cX9_image 37 = .ok (.getfield 348, 3) := by decide +kernel
theorem dX9_image_40 : decode cX9_image 40 = .ok (.ifnull 14, 3) := by decide +kernel
theorem dX9_image_43 : decode cX9_image 43 = .ok (.aload_n 0, 1) := by decide +kernel
theorem dX9_image_44 : decode cX9_image 44 = .ok (.getfield 12, 3) := by decide +kernel
theorem dX9_image_47 : decode cX9_image 47 = .ok (.aload_n 0, 1) := by decide +kernel
theorem dX9_image_48 : decode cX9_image 48 = .ok (.getfield 348, 3) := by decide +kernel
theorem dX9_image_51 : decode cX9_image 51 = .ok (.invokevirtual 351, 3) := by decide +kernel
theorem dX9_image_54 : decode cX9_image 54 = .ok (.aload_n 0, 1) := by decide +kernel
theorem dX9_image_55 : decode cX9_image 55 = .ok (.getfield 348, 3) := by decide +kernel
theorem dX9_image_58 : decode cX9_image 58 = .ok (.ifnull 7, 3) := by decide +kernel
theorem dX9_image_61 : decode cX9_image 61 = .ok (.iconst 1, 1) := by decide +kernel
theorem dX9_image_62 : decode cX9_image 62 = .ok (.goto 4, 3) := by decide +kernel
theorem dX9_image_65 : decode cX9_image 65 = .ok (.iconst 0, 1) := by decide +kernel
theorem dX9_image_66 : decode cX9_image 66 = .ok (.ireturn, 1) := by decide +kernel
theorem dX9_look_0 : decode cX9_look 0 = .ok (.iload_n 1, 1) := by decide +kernel
theorem dX9_look_1 : decode cX9_look 1 = .ok (.tableswitch 105 0 7 #[47, 55, 63, 71, 79, 87, 95, 100], 47) := by decide +kernel
theorem dX9_look_48 : decode cX9_look 48 = .ok (.aload_n 0, 1) := by decide +kernel
theorem dX9_look_49 : decode cX9_look 49 = .ok (.getfield 12, 3) := by decide +kernel
theorem dX9_look_52 : decode cX9_look 52 = .ok (.getfield 64, 3) := by decide +kernel
theorem dX9_look_55 : decode cX9_look 55 = .ok (.ireturn, 1) := by decide +kernel
theorem dX9_look_56 : decode cX9_look 56 = .ok (.aload_n 0, 1) := by decide +kernel
theorem dX9_look_57 : decode cX9_look 57 = .ok (.getfield 12, 3) := by decide +kernel
theorem dX9_look_60 : decode cX9_look 60 = .ok (.getfield 293, 3) := by decide +kernel
theorem dX9_look_63 : decode cX9_look 63 = .ok (.ireturn, 1) := by decide +kernel
theorem dX9_look_64 : decode cX9_look 64 = .ok (.aload_n 0, 1) := by decide +kernel
theorem dX9_look_65 : decode cX9_look 65 = .ok (.getfield 12, 3) := by decide +kernel
theorem dX9_look_68 : decode cX9_look 68 = .ok (.getfield 317, 3) := by decide +kernel
theorem dX9_look_71 : decode cX9_look 71 = .ok (.ireturn, 1) := by decide +kernel
theorem dX9_look_72 : decode cX9_look 72 = .ok (.aload_n 0, 1) := by decide +kernel
theorem dX9_look_73 : decode cX9_look 73 = .ok (.getfield 12, 3) := by decide +kernel
theorem dX9_look_76 : decode cX9_look 76 = .ok (.getfield 326, 3) := by decide +kernel
theorem dX9_look_79 : decode cX9_look 79 = .ok (.ireturn, 1) := by decide +kernel
theorem dX9_look_80 : decode cX9_look 80 = .ok (.aload_n 0, 1) := by decide +kernel
theorem dX9_look_81 : decode cX9_look 81 = .ok (.getfield 12, 3) := by decide +kernel
theorem dX9_look_84 : decode cX9_look 84 = .ok (.getfield 184, 3) := by decide +kernel
theorem dX9_look_87 : decode cX9_look 87 = .ok (.ireturn, 1) := by decide +kernel
theorem dX9_look_88 : decode cX9_look 88 = .ok (.aload_n 0, 1) := by decide +kernel
theorem dX9_look_89 : decode cX9_look 89 = .ok (.getfield 12, 3) := by decide +kernel
theorem dX9_look_92 : decode cX9_look 92 = .ok (.getfield 147, 3) := by decide +kernel
theorem dX9_look_95 : decode cX9_look 95 = .ok (.ireturn, 1) := by decide +kernel
theorem dX9_look_96 : decode cX9_look 96 = .ok (.aload_n 0, 1) := by decide +kernel
theorem dX9_look_97 : decode cX9_look 97 = .ok (.invokevirtual 354, 3) := by decide +kernel
theorem dX9_look_100 : decode cX9_look 100 = .ok (.ireturn, 1) := by decide +kernel
theorem dX9_look_101 : decode cX9_look 101 = .ok (.aload_n 0, 1) := by decide +kernel
theorem dX9_look_102 : decode cX9_look 102 = .ok (.invokevirtual 357, 3) := by decide +kernel
theorem dX9_look_105 : decode cX9_look 105 = .ok (.ireturn, 1) := by decide +kernel
theorem dX9_look_106 : decode cX9_look 106 = .ok (.iconst (-1), 1) := by decide +kernel
theorem dX9_look_107 : decode cX9_look 107 = .ok (.ireturn, 1) := by decide +kernel
theorem dX9_within_0 : decode cX9_within 0 = .ok (.iload_n 0, 1) := by decide +kernel
theorem dX9_within_1 : decode cX9_within 1 = .ok (.iload_n 1, 1) := by decide +kernel
theorem dX9_within_2 : decode cX9_within 2 = .ok (.if_icmp .lt 12, 3) := by decide +kernel
theorem dX9_within_5 : decode cX9_within 5 = .ok (.iload_n 0, 1) := by decide +kernel
theorem dX9_within_6 : decode cX9_within 6 = .ok (.iload_n 2, 1) := by decide +kernel
theorem dX9_within_7 : decode cX9_within 7 = .ok (.if_icmp .gt 7, 3) := by decide +kernel
theorem dX9_within_10 : decode cX9_within 10 = .ok (.iconst 1, 1) := by decide +kernel
theorem dX9_within_11 : decode cX9_within 11 = .ok (.goto 4, 3) := by decide +kernel
theorem dX9_within_14 : decode cX9_within 14 = .ok (.iconst 0, 1) := by decide +kernel
theorem dX9_within_15 : decode cX9_within 15 = .ok (.ireturn, 1) := by decide +kernel
theorem dX9_isTone_0 : decode cX9_isTone 0 = .ok (.iload_n 0, 1) := by decide +kernel
theorem dX9_isTone_1 : decode cX9_isTone 1 = .ok (.iconst 0, 1) := by decide +kernel
theorem dX9_isTone_2 : decode cX9_isTone 2 = .ok (.iconst 2, 1) := by decide +kernel
theorem dX9_isTone_3 : decode cX9_isTone 3 = .ok (.invokestatic 89, 3) := by decide +kernel
theorem dX9_isTone_6 : decode cX9_isTone 6 = .ok (.ireturn, 1) := by decide +kernel
theorem dX9_isAir_0 : decode cX9_isAir 0 = .ok (.iload_n 0, 1) := by decide +kernel
theorem dX9_isAir_1 : decode cX9_isAir 1 = .ok (.bipush (-20), 2) := by decide +kernel
theorem dX9_isAir_3 : decode cX9_isAir 3 = .ok (.bipush 50, 2) := by decide +kernel
theorem dX9_isAir_5 : decode cX9_isAir 5 = .ok (.invokestatic 89, 3) := by decide +kernel
theorem dX9_isAir_8 : decode cX9_isAir 8 = .ok (.ifCond .eq 17, 3) := by decide +kernel
theorem dX9_isAir_11 : decode cX9_isAir 11 = .ok (.iload_n 1, 1) := by decide +kernel
theorem dX9_isAir_12 : decode cX9_isAir 12 = .ok (.iconst 0, 1) := by decide +kernel
theorem dX9_isAir_13 : decode cX9_isAir 13 = .ok (.bipush 99, 2) := by decide +kernel
theorem dX9_isAir_15 : decode cX9_isAir 15 = .ok (.invokestatic 89, 3) := by decide +kernel
theorem dX9_isAir_18 : decode cX9_isAir 18 = .ok (.ifCond .eq 7, 3) := by decide +kernel
theorem dX9_isAir_21 : decode cX9_isAir 21 = .ok (.iconst 1, 1) := by decide +kernel
theorem dX9_isAir_22 : decode cX9_isAir 22 = .ok (.goto 4, 3) := by decide +kernel
theorem dX9_isAir_25 : decode cX9_isAir 25 = .ok (.iconst 0, 1) := by decide +kernel
theorem dX9_isAir_26 : decode cX9_isAir 26 = .ok (.ireturn, 1) := by decide +kernel
theorem dX9_ratio_0 : decode cX9_ratio 0 = .ok (.iload_n 1, 1) := by decide +kernel
theorem dX9_ratio_1 : decode cX9_ratio 1 = .ok (.ifCond .gt 7, 3) := by decide +kernel
theorem dX9_ratio_4 : decode cX9_ratio 4 = .ok (.iconst 0, 1) := by decide +kernel
theorem dX9_ratio_5 : decode cX9_ratio 5 = .ok (.goto 13, 3) := by decide +kernel
theorem dX9_ratio_8 : decode cX9_ratio 8 = .ok (.ldc2_w 360, 3) := by decide +kernel
theorem dX9_ratio_11 : decode cX9_ratio 11 = .ok (.iload_n 0, 1) := by decide +kernel
theorem dX9_ratio_12 : decode cX9_ratio 12 = .ok (.i2l, 1) := by decide +kernel
theorem dX9_ratio_13 : decode cX9_ratio 13 = .ok (.lmul, 1) := by decide +kernel
theorem dX9_ratio_14 : decode cX9_ratio 14 = .ok (.iload_n 1, 1) := by decide +kernel
theorem dX9_ratio_15 : decode cX9_ratio 15 = .ok (.i2l, 1) := by decide +kernel
theorem dX9_ratio_16 : decode cX9_ratio 16 = .ok (.ldiv, 1) := by decide +kernel
theorem dX9_ratio_17 : decode cX9_ratio 17 = .ok (.l2i, 1) := by decide +kernel
theorem dX9_ratio_18 : decode cX9_ratio 18 = .ok (.ireturn, 1) := by decide +kernel
theorem dX9_barAt_0 : decode cX9_barAt 0 = .ok (.iload_n 1, 1) := by decide +kernel
theorem dX9_barAt_1 : decode cX9_barAt 1 = .ok (.iconst 0, 1) := by decide +kernel
theorem dX9_barAt_2 : decode cX9_barAt 2 = .ok (.aload_n 0, 1) := by decide +kernel
theorem dX9_barAt_3 : decode cX9_barAt 3 = .ok (.getfield 12, 3) := by decide +kernel
theorem dX9_barAt_6 : decode cX9_barAt 6 = .ok (.getfield 64, 3) := by decide +kernel
theorem dX9_barAt_9 : decode cX9_barAt 9 = .ok (.iconst 1, 1) := by decide +kernel
theorem dX9_barAt_10 : decode cX9_barAt 10 = .ok (.isub, 1) := by decide +kernel
theorem dX9_barAt_11 : decode cX9_barAt 11 = .ok (.invokestatic 89, 3) := by decide +kernel
theorem dX9_barAt_14 : decode cX9_barAt 14 = .ok (.ifCond .eq 15, 3) := by decide +kernel
theorem dX9_barAt_17 : decode cX9_barAt 17 = .ok (.aload_n 0, 1) := by decide +kernel
theorem dX9_barAt_18 : decode cX9_barAt 18 = .ok (.getfield 12, 3) := by decide +kernel
theorem dX9_barAt_21 : decode cX9_barAt 21 = .ok (.getfield 68, 3) := by decide +kernel
theorem dX9_barAt_24 : decode cX9_barAt 24 = .ok (.iload_n 1, 1) := by decide +kernel
theorem dX9_barAt_25 : decode cX9_barAt 25 = .ok (.aaload, 1) := by decide +kernel
theorem dX9_barAt_26 : decode cX9_barAt 26 = .ok (.goto 4, 3) := by decide +kernel
theorem dX9_barAt_29 : decode cX9_barAt 29 = .ok (.aconst_null, 1) := by decide +kernel
theorem dX9_barAt_30 : decode cX9_barAt 30 = .ok (.areturn, 1) := by decide +kernel
theorem dX9_textAt_0 : decode cX9_textAt 0 = .ok (.iload_n 1, 1) := by decide +kernel
theorem dX9_textAt_1 : decode cX9_textAt 1 = .ok (.ifCond .ne 22, 3) := by decide +kernel
theorem dX9_textAt_4 : decode cX9_textAt 4 = .ok (.iload_n 2, 1) := by decide +kernel
theorem dX9_textAt_5 : decode cX9_textAt 5 = .ok (.iconst 0, 1) := by decide +kernel
theorem dX9_textAt_6 : decode cX9_textAt 6 = .ok (.iconst 1, 1) := by decide +kernel
theorem dX9_textAt_7 : decode cX9_textAt 7 = .ok (.invokestatic 89, 3) := by decide +kernel
theorem dX9_textAt_10 : decode cX9_textAt 10 = .ok (.ifCond .eq 13, 3) := by decide +kernel
theorem dX9_textAt_13 : decode cX9_textAt 13 = .ok (.aload_n 0, 1) := by decide +kernel
theorem dX9_textAt_14 : decode cX9_textAt 14 = .ok (.getfield 12, 3) := by decide +kernel
theorem dX9_textAt_17 : decode cX9_textAt 17 = .ok (.getfield 158, 3) := by decide +kernel
theorem dX9_textAt_20 : decode cX9_textAt 20 = .ok (.iload_n 2, 1) := by decide +kernel
theorem dX9_textAt_21 : decode cX9_textAt 21 = .ok (.aaload, 1) := by decide +kernel
theorem dX9_textAt_22 : decode cX9_textAt 22 = .ok (.areturn, 1) := by decide +kernel
theorem dX9_textAt_23 : decode cX9_textAt 23 = .ok (.iload_n 1, 1) := by decide +kernel
theorem dX9_textAt_24 : decode cX9_textAt 24 = .ok (.iconst 1, 1) := by decide +kernel
theorem dX9_textAt_25 : decode cX9_textAt 25 = .ok (.if_icmp .ne 24, 3) := by decide +kernel
theorem dX9_textAt_28 : decode cX9_textAt 28 = .ok (.iload_n 2, 1) := by decide +kernel
theorem dX9_textAt_29 : decode cX9_textAt 29 = .ok (.iconst 0, 1) := by decide +kernel
theorem dX9_textAt_30 : decode cX9_textAt 30 = .ok (.iconst 3, 1) := by decide +kernel
theorem dX9_textAt_31 : decode cX9_textAt 31 = .ok (.invokestatic 89, 3) := by decide +kernel
theorem dX9_textAt_34 : decode cX9_textAt 34 = .ok (.ifCond .eq 15, 3) := by decide +kernel
theorem dX9_textAt_37 : decode cX9_textAt 37 = .ok (.aload_n 0, 1) := by decide +kernel
theorem dX9_textAt_38 : decode cX9_textAt 38 = .ok (.getfield 12, 3) := by decide +kernel
theorem dX9_textAt_41 : decode cX9_textAt 41 = .ok (.getfield 220, 3) := by decide +kernel
theorem dX9_textAt_44 : decode cX9_textAt 44 = .ok (.iload_n 2, 1) := by decide +kernel
theorem dX9_textAt_45 : decode cX9_textAt 45 = .ok (.aaload, 1) := by decide +kernel
theorem dX9_textAt_46 : decode cX9_textAt 46 = .ok (.goto 4, 3) := by decide +kernel
theorem dX9_textAt_49 : decode cX9_textAt 49 = .ok (.aconst_null, 1) := by decide +kernel
theorem dX9_textAt_50 : decode cX9_textAt 50 = .ok (.areturn, 1) := by decide +kernel
theorem dX9_addBytes_0 : decode cX9_addBytes 0 = .ok (.bipush 24, 2) := by decide +kernel
theorem dX9_addBytes_2 : decode cX9_addBytes 2 = .ok (.istore_n 2, 1) := by decide +kernel
theorem dX9_addBytes_3 : decode cX9_addBytes 3 = .ok (.iload_n 2, 1) := by decide +kernel
theorem dX9_addBytes_4 : decode cX9_addBytes 4 = .ok (.ifCond .lt 45, 3) := by decide +kernel
theorem dX9_addBytes_7 : decode cX9_addBytes 7 = .ok (.aload_n 0, 1) := by decide +kernel
theorem dX9_addBytes_8 : decode cX9_addBytes 8 = .ok (.getfield 105, 3) := by decide +kernel
theorem dX9_addBytes_11 : decode cX9_addBytes 11 = .ok (.sipush 500, 3) := by decide +kernel
theorem dX9_addBytes_14 : decode cX9_addBytes 14 = .ok (.if_icmp .ge 35, 3) := by decide +kernel
theorem dX9_addBytes_17 : decode cX9_addBytes 17 = .ok (.aload_n 0, 1) := by decide +kernel
theorem dX9_addBytes_18 : decode cX9_addBytes 18 = .ok (.getfield 16, 3) := by decide +kernel
theorem dX9_addBytes_21 : decode cX9_addBytes 21 = .ok (.aload_n 0, 1) := by decide +kernel
theorem dX9_addBytes_22 : decode cX9_addBytes 22 = .ok (.getfield 105, 3) := by decide +kernel
theorem dX9_addBytes_25 : decode cX9_addBytes 25 = .ok (.iload_n 1, 1) := by decide +kernel
theorem dX9_addBytes_26 : decode cX9_addBytes 26 = .ok (.iload_n 2, 1) := by decide +kernel
theorem dX9_addBytes_27 : decode cX9_addBytes 27 = .ok (.iushr, 1) := by decide +kernel
theorem dX9_addBytes_28 : decode cX9_addBytes 28 = .ok (.sipush 255, 3) := by decide +kernel
theorem dX9_addBytes_31 : decode cX9_addBytes 31 = .ok (.iand, 1) := by decide +kernel
theorem dX9_addBytes_32 : decode cX9_addBytes 32 = .ok (.iastore, 1) := by decide +kernel
theorem dX9_addBytes_33 : decode cX9_addBytes 33 = .ok (.aload_n 0, 1) := by decide +kernel
theorem dX9_addBytes_34 : decode cX9_addBytes 34 = .ok (.dup, 1) := by decide +kernel
theorem dX9_addBytes_35 : decode cX9_addBytes 35 = .ok (.getfield 105, 3) := by decide +kernel
theorem dX9_addBytes_38 : decode cX9_addBytes 38 = .ok (.iconst 1, 1) := by decide +kernel
theorem dX9_addBytes_39 : decode cX9_addBytes 39 = .ok (.iadd, 1) := by decide +kernel
theorem dX9_addBytes_40 : decode cX9_addBytes 40 = .ok (.putfield 105, 3) := by decide +kernel
theorem dX9_addBytes_43 : decode cX9_addBytes 43 = .ok (.iinc 2 (-8), 3) := by decide +kernel
theorem dX9_addBytes_46 : decode cX9_addBytes 46 = .ok (.goto (-43), 3) := by decide +kernel
theorem dX9_addBytes_49 : decode cX9_addBytes 49 = .ok (.return_, 1) := by decide +kernel
theorem dX9_toneNow_0 : decode cX9_toneNow 0 = .ok (.aload_n 0, 1) := by decide +kernel
theorem dX9_toneNow_1 : decode cX9_toneNow 1 = .ok (.getfield 30, 3) := by decide +kernel
theorem dX9_toneNow_4 : decode cX9_toneNow 4 = .ok (.aload_n 0, 1) := by decide +kernel
theorem dX9_toneNow_5 : decode cX9_toneNow 5 = .ok (.getfield 12, 3) := by decide +kernel
theorem dX9_toneNow_8 : decode cX9_toneNow 8 = .ok (.invokevirtual 212, 3) := by decide +kernel
theorem dX9_toneNow_11 : decode cX9_toneNow 11 = .ok (.iload_n 2, 1) := by decide +kernel
theorem dX9_toneNow_12 : decode cX9_toneNow 12 = .ok (.aload_n 1, 1) := by decide +kernel
theorem dX9_toneNow_13 : decode cX9_toneNow 13 = .ok (.aload_n 1, 1) := by decide +kernel
theorem dX9_toneNow_14 : decode cX9_toneNow 14 = .ok (.getfield 93, 3) := by decide +kernel
theorem dX9_toneNow_17 : decode cX9_toneNow 17 = .ok (.aload_n 1, 1) := by decide +kernel
theorem dX9_toneNow_18 : decode cX9_toneNow 18 = .ok (.getfield 96, 3) := by decide +kernel
theorem dX9_toneNow_21 : decode cX9_toneNow 21 = .ok (.aload_n 1, 1) := by decide +kernel
theorem dX9_toneNow_22 : decode cX9_toneNow 22 = .ok (.getfield 102, 3) := by decide +kernel
theorem dX9_toneNow_25 : decode cX9_toneNow 25 = .ok (.invokevirtual 216, 3) := by decide +kernel
theorem dX9_toneNow_28 : decode cX9_toneNow 28 = .ok (.ireturn, 1) := by decide +kernel
theorem dX9_isLost_0 : decode cX9_isLost 0 = .ok (.iconst 0, 1) := by decide +kernel
theorem dX9_isLost_1 : decode cX9_isLost 1 = .ok (.istore_n 2, 1) := by decide +kernel
theorem dX9_isLost_2 : decode cX9_isLost 2 = .ok (.iload_n 2, 1) := by decide +kernel
theorem dX9_isLost_3 : decode cX9_isLost 3 = .ok (.iconst 3, 1) := by decide +kernel
theorem dX9_isLost_4 : decode cX9_isLost 4 = .ok (.if_icmp .ge 65, 3) := by decide +kernel
theorem dX9_isLost_7 : decode cX9_isLost 7 = .ok (.aload_n 1, 1) := by decide +kernel
theorem dX9_isLost_8 : decode cX9_isLost 8 = .ok (.getfield 181, 3) := by decide +kernel
theorem dX9_isLost_11 : decode cX9_isLost 11 = .ok (.iload_n 2, 1) := by decide +kernel
theorem dX9_isLost_12 : decode cX9_isLost 12 = .ok (.iaload, 1) := by decide +kernel
theorem dX9_isLost_13 : decode cX9_isLost 13 = .ok (.ifCond .eq 50, 3) := by decide +kernel
theorem dX9_isLost_16 : decode cX9_isLost 16 = .ok (.aload_n 0, 1) := by decide +kernel
theorem dX9_isLost_17 : decode cX9_isLost 17 = .ok (.getfield 30, 3) := by decide +kernel
theorem dX9_isLost_20 : decode cX9_isLost 20 = .ok (.aload_n 0, 1) := by decide +kernel
theorem dX9_isLost_21 : decode cX9_isLost 21 = .ok (.getfield 12, 3) := by decide +kernel
theorem dX9_isLost_24 : decode cX9_isLost 24 = .ok (.invokevirtual 212, 3) := by decide +kernel
theorem dX9_isLost_27 : decode cX9_isLost 27 = .ok (.iload_n 2, 1) := by decide +kernel
theorem dX9_isLost_28 : decode cX9_isLost 28 = .ok (.aload_n 1, 1) := by decide +kernel
theorem dX9_isLost_29 : decode cX9_isLost 29 = .ok (.aload_n 1, 1) := by decide +kernel
theorem dX9_isLost_30 : decode cX9_isLost 30 = .ok (.getfield 93, 3) := by decide +kernel
theorem dX9_isLost_33 : decode cX9_isLost 33 = .ok (.aload_n 1, 1) := by decide +kernel
theorem dX9_isLost_34 : decode cX9_isLost 34 = .ok (.getfield 96, 3) := by decide +kernel
theorem dX9_isLost_37 : decode cX9_isLost 37 = .ok (.aload_n 1, 1) := by decide +kernel
theorem dX9_isLost_38 : decode cX9_isLost 38 = .ok (.getfield 102, 3) := by decide +kernel
theorem dX9_isLost_41 : decode cX9_isLost 41 = .ok (.invokevirtual 216, 3) := by decide +kernel
theorem dX9_isLost_44 : decode cX9_isLost 44 = .ok (.aload_n 1, 1) := by decide +kernel
theorem dX9_isLost_45 : decode cX9_isLost 45 = .ok (.getfield 181, 3) := by decide +kernel
theorem dX9_isLost_48 : decode cX9_isLost 48 = .ok (.iload_n 2, 1) := by decide +kernel
theorem dX9_isLost_49 : decode cX9_isLost 49 = .ok (.iaload, 1) := by decide +kernel
theorem dX9_isLost_50 : decode cX9_isLost 50 = .ok (.aload_n 0, 1) := by decide +kernel
theorem dX9_isLost_51 : decode cX9_isLost 51 = .ok (.getfield 12, 3) := by decide +kernel
theorem dX9_isLost_54 : decode cX9_isLost 54 = .ok (.getfield 184, 3) := by decide +kernel
theorem dX9_isLost_57 : decode cX9_isLost 57 = .ok (.isub, 1) := by decide +kernel
theorem dX9_isLost_58 : decode cX9_isLost 58 = .ok (.if_icmp .ge 5, 3) := by decide +kernel
theorem dX9_isLost_61 : decode cX9_isLost 61 = .ok (.iconst 1, 1) := by decide +kernel
theorem dX9_isLost_62 : decode cX9_isLost 62 = .ok (.ireturn, 1) := by decide +kernel
theorem dX9_isLost_63 : decode cX9_isLost 63 = .ok (.iinc 2 1, 3) := by decide +kernel
theorem dX9_isLost_66 : decode cX9_isLost 66 = .ok (.goto (-64), 3) := by decide +kernel
theorem dX9_isLost_69 : decode cX9_isLost 69 = .ok (.iconst 0, 1) := by decide +kernel
theorem dX9_isLost_70 : decode cX9_isLost 70 = .ok (.ireturn, 1) := by decide +kernel
theorem dX9_isTrue_0 : decode cX9_isTrue 0 = .ok (.iconst 0, 1) := by decide +kernel
theorem dX9_isTrue_1 : decode cX9_isTrue 1 = .ok (.istore_n 2, 1) := by decide +kernel
theorem dX9_isTrue_2 : decode cX9_isTrue 2 = .ok (.iload_n 2, 1) := by decide +kernel
theorem dX9_isTrue_3 : decode cX9_isTrue 3 = .ok (.iconst 3, 1) := by decide +kernel
theorem dX9_isTrue_4 : decode cX9_isTrue 4 = .ok (.if_icmp .ge 46, 3) := by decide +kernel
theorem dX9_isTrue_7 : decode cX9_isTrue 7 = .ok (.aload_n 1, 1) := by decide +kernel
theorem dX9_isTrue_8 : decode cX9_isTrue 8 = .ok (.getfield 181, 3) := by decide +kernel
theorem dX9_isTrue_11 : decode cX9_isTrue 11 = .ok (.iload_n 2, 1) := by decide +kernel
theorem dX9_isTrue_12 : decode cX9_isTrue 12 = .ok (.iaload, 1) := by decide +kernel
theorem dX9_isTrue_13 : decode cX9_isTrue 13 = .ok (.ifCond .eq 31, 3) := by decide +kernel
theorem dX9_isTrue_16 : decode cX9_isTrue 16 = .ok (.aload_n 0, 1) := by decide +kernel
theorem dX9_isTrue_17 : decode cX9_isTrue 17 = .ok (.aload_n 1, 1) := by decide +kernel
theorem dX9_isTrue_18 : decode cX9_isTrue 18 = .ok (.iload_n 2, 1) := by decide +kernel
theorem dX9_isTrue_19 : decode cX9_isTrue 19 = .ok (.invokevirtual 166, 3) := by decide +kernel
theorem dX9_isTrue_22 : decode cX9_isTrue 22 = .ok (.aload_n 1, 1) := by decide +kernel
theorem dX9_isTrue_23 : decode cX9_isTrue 23 = .ok (.getfield 181, 3) := by decide +kernel
theorem dX9_isTrue_26 : decode cX9_isTrue 26 = .ok (.iload_n 2, 1) := by decide +kernel
theorem dX9_isTrue_27 : decode cX9_isTrue 27 = .ok (.iaload, 1) := by decide +kernel
theorem dX9_isTrue_28 : decode cX9_isTrue 28 = .ok (.isub, 1) := by decide +kernel
theorem dX9_isTrue_29 : decode cX9_isTrue 29 = .ok (.invokestatic 362, 3) := by decide +kernel
theorem dX9_isTrue_32 : decode cX9_isTrue 32 = .ok (.aload_n 0, 1) := by decide +kernel
theorem dX9_isTrue_33 : decode cX9_isTrue 33 = .ok (.getfield 12, 3) := by decide +kernel
theorem dX9_isTrue_36 : decode cX9_isTrue 36 = .ok (.getfield 184, 3) := by decide +kernel
theorem dX9_isTrue_39 : decode cX9_isTrue 39 = .ok (.if_icmp .le 5, 3) := by decide +kernel
theorem dX9_isTrue_42 : decode cX9_isTrue 42 = .ok (.iconst 0, 1) := by decide +kernel
theorem dX9_isTrue_43 : decode cX9_isTrue 43 = .ok (.ireturn, 1) := by decide +kernel
theorem dX9_isTrue_44 : decode cX9_isTrue 44 = .ok (.iinc 2 1, 3) := by decide +kernel
theorem dX9_isTrue_47 : decode cX9_isTrue 47 = .ok (.goto (-45), 3) := by decide +kernel
theorem dX9_isTrue_50 : decode cX9_isTrue 50 = .ok (.iconst 1, 1) := by decide +kernel
theorem dX9_isTrue_51 : decode cX9_isTrue 51 = .ok (.ireturn, 1) := by decide +kernel
theorem dX9_countLost_0 : decode cX9_countLost 0 = .ok (.iconst 0, 1) := by decide +kernel
theorem dX9_countLost_1 : decode cX9_countLost 1 = .ok (.istore_n 1, 1) := by decide +kernel
theorem dX9_countLost_2 : decode cX9_countLost 2 = .ok (.iconst 0, 1) := by decide +kernel
theorem dX9_countLost_3 : decode cX9_countLost 3 = .ok (.istore_n 2, 1) := by decide +kernel
theorem dX9_countLost_4 : decode cX9_countLost 4 = .ok (.iload_n 2, 1) := by decide +kernel
theorem dX9_countLost_5 : decode cX9_countLost 5 = .ok (.aload_n 0, 1) := by decide +kernel
theorem dX9_countLost_6 : decode cX9_countLost 6 = .ok (.getfield 12, 3) := by decide +kernel
theorem dX9_countLost_9 : decode cX9_countLost 9 = .ok (.getfield 64, 3) := by decide +kernel
theorem dX9_countLost_12 : decode cX9_countLost 12 = .ok (.if_icmp .ge 33, 3) := by decide +kernel
theorem dX9_countLost_15 : decode cX9_countLost 15 = .ok (.iload_n 1, 1) := by decide +kernel
theorem dX9_countLost_16 : decode cX9_countLost 16 = .ok (.aload_n 0, 1) := by decide +kernel
theorem dX9_countLost_17 : decode cX9_countLost 17 = .ok (.aload_n 0, 1) := by decide +kernel
theorem dX9_countLost_18 : decode cX9_countLost 18 = .ok (.getfield 12, 3) := by decide +kernel
theorem dX9_countLost_21 : decode cX9_countLost 21 = .ok (.getfield 68, 3) := by decide +kernel
theorem dX9_countLost_24 : decode cX9_countLost 24 = .ok (.iload_n 2, 1) := by decide +kernel
theorem dX9_countLost_25 : decode cX9_countLost 25 = .ok (.aaload, 1) := by decide +kernel
theorem dX9_countLost_26 : decode cX9_countLost 26 = .ok (.invokevirtual 190, 3) := by decide +kernel
theorem dX9_countLost_29 : decode cX9_countLost 29 = .ok (.ifCond .eq 7, 3) := by decide +kernel
theorem dX9_countLost_32 : decode cX9_countLost 32 = .ok (.iconst 1, 1) := by decide +kernel
theorem dX9_countLost_33 : decode cX9_countLost 33 = .ok (.goto 4, 3) := by decide +kernel
theorem dX9_countLost_36 : decode cX9_countLost 36 = .ok (.iconst 0, 1) := by decide +kernel
theorem dX9_countLost_37 : decode cX9_countLost 37 = .ok (.iadd, 1) := by decide +kernel
theorem dX9_countLost_38 : decode cX9_countLost 38 = .ok (.istore_n 1, 1) := by decide +kernel
theorem dX9_countLost_39 : decode cX9_countLost 39 = .ok (.iinc 2 1, 3) := by decide +kernel
theorem dX9_countLost_42 : decode cX9_countLost 42 = .ok (.goto (-38), 3) := by decide +kernel
theorem dX9_countLost_45 : decode cX9_countLost 45 = .ok (.iload_n 1, 1) := by decide +kernel
theorem dX9_countLost_46 : decode cX9_countLost 46 = .ok (.ireturn, 1) := by decide +kernel
theorem dX9_countTrue_0 : decode cX9_countTrue 0 = .ok (.iconst 0, 1) := by decide +kernel
theorem dX9_countTrue_1 : decode cX9_countTrue 1 = .ok (.istore_n 1, 1) := by decide +kernel
theorem dX9_countTrue_2 : decode cX9_countTrue 2 = .ok (.iconst 0, 1) := by decide +kernel
theorem dX9_countTrue_3 : decode cX9_countTrue 3 = .ok (.istore_n 2, 1) := by decide +kernel
theorem dX9_countTrue_4 : decode cX9_countTrue 4 = .ok (.iload_n 2, 1) := by decide +kernel
theorem dX9_countTrue_5 : decode cX9_countTrue 5 = .ok (.aload_n 0, 1) := by decide +kernel
theorem dX9_countTrue_6 : decode cX9_countTrue 6 = .ok (.getfield 12, 3) := by decide +kernel
theorem dX9_countTrue_9 : decode cX9_countTrue 9 = .ok (.getfield 64, 3) := by decide +kernel
theorem dX9_countTrue_12 : decode cX9_countTrue 12 = .ok (.if_icmp .ge 33, 3) := by decide +kernel
theorem dX9_countTrue_15 : decode cX9_countTrue 15 = .ok (.iload_n 1, 1) := by decide +kernel
theorem dX9_countTrue_16 : decode cX9_countTrue 16 = .ok (.aload_n 0, 1) := by decide +kernel
theorem dX9_countTrue_17 : decode cX9_countTrue 17 = .ok (.aload_n 0, 1) := by decide +kernel
theorem dX9_countTrue_18 : decode cX9_countTrue 18 = .ok (.getfield 12, 3) := by decide +kernel
theorem dX9_countTrue_21 : decode cX9_countTrue 21 = .ok (.getfield 68, 3) := by decide +kernel
theorem dX9_countTrue_24 : decode cX9_countTrue 24 = .ok (.iload_n 2, 1) := by decide +kernel
theorem dX9_countTrue_25 : decode cX9_countTrue 25 = .ok (.aaload, 1) := by decide +kernel
theorem dX9_countTrue_26 : decode cX9_countTrue 26 = .ok (.invokevirtual 194, 3) := by decide +kernel
theorem dX9_countTrue_29 : decode cX9_countTrue 29 = .ok (.ifCond .eq 7, 3) := by decide +kernel
theorem dX9_countTrue_32 : decode cX9_countTrue 32 = .ok (.iconst 1, 1) := by decide +kernel
theorem dX9_countTrue_33 : decode cX9_countTrue 33 = .ok (.goto 4, 3) := by decide +kernel
theorem dX9_countTrue_36 : decode cX9_countTrue 36 = .ok (.iconst 0, 1) := by decide +kernel
theorem dX9_countTrue_37 : decode cX9_countTrue 37 = .ok (.iadd, 1) := by decide +kernel
theorem dX9_countTrue_38 : decode cX9_countTrue 38 = .ok (.istore_n 1, 1) := by decide +kernel
theorem dX9_countTrue_39 : decode cX9_countTrue 39 = .ok (.iinc 2 1, 3) := by decide +kernel
theorem dX9_countTrue_42 : decode cX9_countTrue 42 = .ok (.goto (-38), 3) := by decide +kernel
theorem dX9_countTrue_45 : decode cX9_countTrue 45 = .ok (.iload_n 1, 1) := by decide +kernel
theorem dX9_countTrue_46 : decode cX9_countTrue 46 = .ok (.ireturn, 1) := by decide +kernel
theorem dX9_takeOff_0 : decode cX9_takeOff 0 = .ok (.aload_n 1, 1) := by decide +kernel
theorem dX9_takeOff_1 : decode cX9_takeOff 1 = .ok (.iload_n 2, 1) := by decide +kernel
theorem dX9_takeOff_2 : decode cX9_takeOff 2 = .ok (.invokevirtual 82, 3) := by decide +kernel
theorem dX9_takeOff_5 : decode cX9_takeOff 5 = .ok (.ifCond .eq 33, 3) := by decide +kernel
theorem dX9_takeOff_8 : decode cX9_takeOff 8 = .ok (.iload_n 3, 1) := by decide +kernel
theorem dX9_takeOff_9 : decode cX9_takeOff 9 = .ok (.iconst 1, 1) := by decide +kernel
theorem dX9_takeOff_10 : decode cX9_takeOff 10 = .ok (.bipush 9, 2) := by decide +kernel
theorem dX9_takeOff_12 : decode cX9_takeOff 12 = .ok (.invokestatic 89, 3) := by decide +kernel
theorem dX9_takeOff_15 : decode cX9_takeOff 15 = .ok (.ifCond .eq 23, 3) := by decide +kernel
theorem dX9_takeOff_18 : decode cX9_takeOff 18 = .ok (.aload_n 1, 1) := by decide +kernel
theorem dX9_takeOff_19 : decode cX9_takeOff 19 = .ok (.getfield 93, 3) := by decide +kernel
theorem dX9_takeOff_22 : decode cX9_takeOff 22 = .ok (.iload_n 2, 1) := by decide +kernel
theorem dX9_takeOff_23 : decode cX9_takeOff 23 = .ok (.iaload, 1) := by decide +kernel
theorem dX9_takeOff_24 : decode cX9_takeOff 24 = .ok (.iload_n 3, 1) := by decide +kernel
theorem dX9_takeOff_25 : decode cX9_takeOff 25 = .ok (.if_icmp .le 13, 3) := by decide +kernel
theorem dX9_takeOff_28 : decode cX9_takeOff 28 = .ok (.aload_n 1, 1) := by decide +kernel
theorem dX9_takeOff_29 : decode cX9_takeOff 29 = .ok (.getfield 86, 3) := by decide +kernel
theorem dX9_takeOff_32 : decode cX9_takeOff 32 = .ok (.sipush 200, 3) := by decide +kernel
theorem dX9_takeOff_35 : decode cX9_takeOff 35 = .ok (.if_icmp .lt 5, 3) := by decide +kernel
theorem dX9_takeOff_38 : decode cX9_takeOff 38 = .ok (.iconst (-1), 1) := by decide +kernel
theorem dX9_takeOff_39 : decode cX9_takeOff 39 = .ok (.ireturn, 1) := by decide +kernel
theorem dX9_takeOff_40 : decode cX9_takeOff 40 = .ok (.aload_n 1, 1) := by decide +kernel
theorem dX9_takeOff_41 : decode cX9_takeOff 41 = .ok (.getfield 93, 3) := by decide +kernel
theorem dX9_takeOff_44 : decode cX9_takeOff 44 = .ok (.iload_n 2, 1) := by decide +kernel
theorem dX9_takeOff_45 : decode cX9_takeOff 45 = .ok (.dup2, 1) := by decide +kernel
theorem dX9_takeOff_46 : decode cX9_takeOff 46 = .ok (.iaload, 1) := by decide +kernel
theorem dX9_takeOff_47 : decode cX9_takeOff 47 = .ok (.iload_n 3, 1) := by decide +kernel
theorem dX9_takeOff_48 : decode cX9_takeOff 48 = .ok (.isub, 1) := by decide +kernel
theorem dX9_takeOff_49 : decode cX9_takeOff 49 = .ok (.iastore, 1) := by decide +kernel
theorem dX9_takeOff_50 : decode cX9_takeOff 50 = .ok (.aload_n 1, 1) := by decide +kernel
theorem dX9_takeOff_51 : decode cX9_takeOff 51 = .ok (.getfield 174, 3) := by decide +kernel
theorem dX9_takeOff_54 : decode cX9_takeOff 54 = .ok (.aload_n 1, 1) := by decide +kernel
theorem dX9_takeOff_55 : decode cX9_takeOff 55 = .ok (.getfield 86, 3) := by decide +kernel
theorem dX9_takeOff_58 : decode cX9_takeOff 58 = .ok (.iload_n 2, 1) := by decide +kernel
theorem dX9_takeOff_59 : decode cX9_takeOff 59 = .ok (.iastore, 1) := by decide +kernel
theorem dX9_takeOff_60 : decode cX9_takeOff 60 = .ok (.aload_n 1, 1) := by decide +kernel
theorem dX9_takeOff_61 : decode cX9_takeOff 61 = .ok (.getfield 177, 3) := by decide +kernel
theorem dX9_takeOff_64 : decode cX9_takeOff 64 = .ok (.aload_n 1, 1) := by decide +kernel
theorem dX9_takeOff_65 : decode cX9_takeOff 65 = .ok (.getfield 86, 3) := by decide +kernel
theorem dX9_takeOff_68 : decode cX9_takeOff 68 = .ok (.iload_n 3, 1) := by decide +kernel
theorem dX9_takeOff_69 : decode cX9_takeOff 69 = .ok (.iastore, 1) := by decide +kernel
theorem dX9_takeOff_70 : decode cX9_takeOff 70 = .ok (.aload_n 1, 1) := by decide +kernel
theorem dX9_takeOff_71 : decode cX9_takeOff 71 = .ok (.dup, 1) := by decide +kernel
theorem dX9_takeOff_72 : decode cX9_takeOff 72 = .ok (.getfield 86, 3) := by decide +kernel
theorem dX9_takeOff_75 : decode cX9_takeOff 75 = .ok (.iconst 1, 1) := by decide +kernel
theorem dX9_takeOff_76 : decode cX9_takeOff 76 = .ok (.iadd, 1) := by decide +kernel
theorem dX9_takeOff_77 : decode cX9_takeOff 77 = .ok (.putfield 86, 3) := by decide +kernel
theorem dX9_takeOff_80 : decode cX9_takeOff 80 = .ok (.aload_n 1, 1) := by decide +kernel
theorem dX9_takeOff_81 : decode cX9_takeOff 81 = .ok (.getfield 197, 3) := by decide +kernel
theorem dX9_takeOff_84 : decode cX9_takeOff 84 = .ok (.ifCond .ne 19, 3) := by decide +kernel
theorem dX9_takeOff_87 : decode cX9_takeOff 87 = .ok (.aload_n 0, 1) := by decide +kernel
theorem dX9_takeOff_88 : decode cX9_takeOff 88 = .ok (.aload_n 1, 1) := by decide +kernel
theorem dX9_takeOff_89 : decode cX9_takeOff 89 = .ok (.invokevirtual 190, 3) := by decide +kernel
theorem dX9_takeOff_92 : decode cX9_takeOff 92 = .ok (.ifCond .eq 11, 3) := by decide +kernel
theorem dX9_takeOff_95 : decode cX9_takeOff 95 = .ok (.aload_n 1, 1) := by decide +kernel
theorem dX9_takeOff_96 : decode cX9_takeOff 96 = .ok (.aload_n 1, 1) := by decide +kernel
theorem dX9_takeOff_97 : decode cX9_takeOff 97 = .ok (.getfield 86, 3) := by decide +kernel
theorem dX9_takeOff_100 : decode cX9_takeOff 100 = .ok (.putfield 197, 3) := by decide +kernel
theorem dX9_takeOff_103 : decode cX9_takeOff 103 = .ok (.aload_n 1, 1) := by decide +kernel
theorem dX9_takeOff_104 : decode cX9_takeOff 104 = .ok (.getfield 86, 3) := by decide +kernel
theorem dX9_takeOff_107 : decode cX9_takeOff 107 = .ok (.ireturn, 1) := by decide +kernel
theorem dX9_comesTrue_0 : decode cX9_comesTrue 0 = .ok (.aload_n 1, 1) := by decide +kernel
theorem dX9_comesTrue_1 : decode cX9_comesTrue 1 = .ok (.iload_n 2, 1) := by decide +kernel
