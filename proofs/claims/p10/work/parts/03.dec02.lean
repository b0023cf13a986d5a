theorem dX4_start_198 : decode cX4_start 198 = .ok (.invokevirtual 56, 3) := by decide +kernel
theorem dX4_start_201 : decode cX4_start 201 = .ok (.goto (-166), 3) := by decide +kernel
theorem dX4_start_204 : decode cX4_start 204 = .ok (.aload_n 0, 1) := by decide +kernel
theorem dX4_start_205 : decode cX4_start 205 = .ok (.bipush 26, 2) := by decide +kernel
theorem dX4_start_207 : decode cX4_start 207 = .ok (.iconst 0, 1) := by decide +kernel
theorem dX4_start_208 : decode cX4_start 208 = .ok (.iload_n 2, 1) := by decide +kernel
theorem dX4_start_209 : decode cX4_start 209 = .ok (.invokevirtual 56, 3) := by decide +kernel
theorem dX4_start_212 : decode cX4_start 212 = .ok (.return_, 1) := by decide +kernel
theorem dX4_addToken_0 : decode cX4_addToken 0 = .ok (.aload_n 0, 1) := by decide +kernel
theorem dX4_addToken_1 : decode cX4_addToken 1 = .ok (.getfield 45, 3) := by decide +kernel
theorem dX4_addToken_4 : decode cX4_addToken 4 = .ok (.sipush 500, 3) := by decide +kernel
theorem dX4_addToken_7 : decode cX4_addToken 7 = .ok (.if_icmp .gt 43, 3) := by decide +kernel
theorem dX4_addToken_10 : decode cX4_addToken 10 = .ok (.aload_n 0, 1) := by decide +kernel
theorem dX4_addToken_11 : decode cX4_addToken 11 = .ok (.getfield 18, 3) := by decide +kernel
theorem dX4_addToken_14 : decode cX4_addToken 14 = .ok (.aload_n 0, 1) := by decide +kernel
theorem dX4_addToken_15 : decode cX4_addToken 15 = .ok (.getfield 45, 3) := by decide +kernel
theorem dX4_addToken_18 : decode cX4_addToken 18 = .ok (.iload_n 1, 1) := by decide +kernel
theorem dX4_addToken_19 : decode cX4_addToken 19 = .ok (.iastore, 1) := by decide +kernel
theorem dX4_addToken_20 : decode cX4_addToken 20 = .ok (.aload_n 0, 1) := by decide +kernel
theorem dX4_addToken_21 : decode cX4_addToken 21 = .ok (.getfield 22, 3) := by decide +kernel
theorem dX4_addToken_24 : decode cX4_addToken 24 = .ok (.aload_n 0, 1) := by decide +kernel
theorem dX4_addToken_25 : decode cX4_addToken 25 = .ok (.getfield 45, 3) := by decide +kernel
theorem dX4_addToken_28 : decode cX4_addToken 28 = .ok (.iload_n 2, 1) := by decide +kernel
theorem dX4_addToken_29 : decode cX4_addToken 29 = .ok (.iastore, 1) := by decide +kernel
theorem dX4_addToken_30 : decode cX4_addToken 30 = .ok (.aload_n 0, 1) := by decide +kernel
theorem dX4_addToken_31 : decode cX4_addToken 31 = .ok (.getfield 25, 3) := by decide +kernel
theorem dX4_addToken_34 : decode cX4_addToken 34 = .ok (.aload_n 0, 1) := by decide +kernel
theorem dX4_addToken_35 : decode cX4_addToken 35 = .ok (.getfield 45, 3) := by decide +kernel
theorem dX4_addToken_38 : decode cX4_addToken 38 = .ok (.iload_n 3, 1) := by decide +kernel
theorem dX4_addToken_39 : decode cX4_addToken 39 = .ok (.iastore, 1) := by decide +kernel
theorem dX4_addToken_40 : decode cX4_addToken 40 = .ok (.aload_n 0, 1) := by decide +kernel
theorem dX4_addToken_41 : decode cX4_addToken 41 = .ok (.dup, 1) := by decide +kernel
theorem dX4_addToken_42 : decode cX4_addToken 42 = .ok (.getfield 45, 3) := by decide +kernel
theorem dX4_addToken_45 : decode cX4_addToken 45 = .ok (.iconst 1, 1) := by decide +kernel
theorem dX4_addToken_46 : decode cX4_addToken 46 = .ok (.iadd, 1) := by decide +kernel
theorem dX4_addToken_47 : decode cX4_addToken 47 = .ok (.putfield 45, 3) := by decide +kernel
theorem dX4_addToken_50 : decode cX4_addToken 50 = .ok (.return_, 1) := by decide +kernel
theorem dX4_isLetter_0 : decode cX4_isLetter 0 = .ok (.iload_n 0, 1) := by decide +kernel
theorem dX4_isLetter_1 : decode cX4_isLetter 1 = .ok (.bipush 97, 2) := by decide +kernel
theorem dX4_isLetter_3 : decode cX4_isLetter 3 = .ok (.if_icmp .lt 9, 3) := by decide +kernel
theorem dX4_isLetter_6 : decode cX4_isLetter 6 = .ok (.iload_n 0, 1) := by decide +kernel
theorem dX4_isLetter_7 : decode cX4_isLetter 7 = .ok (.bipush 122, 2) := by decide +kernel
theorem dX4_isLetter_9 : decode cX4_isLetter 9 = .ok (.if_icmp .le 15, 3) := by decide +kernel
theorem dX4_isLetter_12 : decode cX4_isLetter 12 = .ok (.iload_n 0, 1) := by decide +kernel
theorem dX4_isLetter_13 : decode cX4_isLetter 13 = .ok (.bipush 65, 2) := by decide +kernel
theorem dX4_isLetter_15 : decode cX4_isLetter 15 = .ok (.if_icmp .lt 13, 3) := by decide +kernel
theorem dX4_isLetter_18 : decode cX4_isLetter 18 = .ok (.iload_n 0, 1) := by decide +kernel
theorem dX4_isLetter_19 : decode cX4_isLetter 19 = .ok (.bipush 90, 2) := by decide +kernel
theorem dX4_isLetter_21 : decode cX4_isLetter 21 = .ok (.if_icmp .gt 7, 3) := by decide +kernel
theorem dX4_isLetter_24 : decode cX4_isLetter 24 = .ok (.iconst 1, 1) := by decide +kernel
theorem dX4_isLetter_25 : decode cX4_isLetter 25 = .ok (.goto 4, 3) := by decide +kernel
theorem dX4_isLetter_28 : decode cX4_isLetter 28 = .ok (.iconst 0, 1) := by decide +kernel
theorem dX4_isLetter_29 : decode cX4_isLetter 29 = .ok (.ireturn, 1) := by decide +kernel
theorem dX4_isDigit_0 : decode cX4_isDigit 0 = .ok (.iload_n 0, 1) := by decide +kernel
theorem dX4_isDigit_1 : decode cX4_isDigit 1 = .ok (.bipush 48, 2) := by decide +kernel
theorem dX4_isDigit_3 : decode cX4_isDigit 3 = .ok (.if_icmp .lt 13, 3) := by decide +kernel
theorem dX4_isDigit_6 : decode cX4_isDigit 6 = .ok (.iload_n 0, 1) := by decide +kernel
theorem dX4_isDigit_7 : decode cX4_isDigit 7 = .ok (.bipush 57, 2) := by decide +kernel
theorem dX4_isDigit_9 : decode cX4_isDigit 9 = .ok (.if_icmp .gt 7, 3) := by decide +kernel
theorem dX4_isDigit_12 : decode cX4_isDigit 12 = .ok (.iconst 1, 1) := by decide +kernel
theorem dX4_isDigit_13 : decode cX4_isDigit 13 = .ok (.goto 4, 3) := by decide +kernel
theorem dX4_isDigit_16 : decode cX4_isDigit 16 = .ok (.iconst 0, 1) := by decide +kernel
theorem dX4_isDigit_17 : decode cX4_isDigit 17 = .ok (.ireturn, 1) := by decide +kernel
theorem dX4_isSign_0 : decode cX4_isSign 0 = .ok (.iload_n 0, 1) := by decide +kernel
theorem dX4_isSign_1 : decode cX4_isSign 1 = .ok (.bipush 40, 2) := by decide +kernel
theorem dX4_isSign_3 : decode cX4_isSign 3 = .ok (.if_icmp .lt 9, 3) := by decide +kernel
theorem dX4_isSign_6 : decode cX4_isSign 6 = .ok (.iload_n 0, 1) := by decide +kernel
theorem dX4_isSign_7 : decode cX4_isSign 7 = .ok (.bipush 43, 2) := by decide +kernel
theorem dX4_isSign_9 : decode cX4_isSign 9 = .ok (.if_icmp .le 27, 3) := by decide +kernel
theorem dX4_isSign_12 : decode cX4_isSign 12 = .ok (.iload_n 0, 1) := by decide +kernel
theorem dX4_isSign_13 : decode cX4_isSign 13 = .ok (.bipush 45, 2) := by decide +kernel
theorem dX4_isSign_15 : decode cX4_isSign 15 = .ok (.if_icmp .eq 21, 3) := by decide +kernel
theorem dX4_isSign_18 : decode cX4_isSign 18 = .ok (.iload_n 0, 1) := by decide +kernel
theorem dX4_isSign_19 : decode cX4_isSign 19 = .ok (.bipush 47, 2) := by decide +kernel
theorem dX4_isSign_21 : decode cX4_isSign 21 = .ok (.if_icmp .eq 15, 3) := by decide +kernel
theorem dX4_isSign_24 : decode cX4_isSign 24 = .ok (.iload_n 0, 1) := by decide +kernel
theorem dX4_isSign_25 : decode cX4_isSign 25 = .ok (.bipush 59, 2) := by decide +kernel
theorem dX4_isSign_27 : decode cX4_isSign 27 = .ok (.if_icmp .lt 13, 3) := by decide +kernel
theorem dX4_isSign_30 : decode cX4_isSign 30 = .ok (.iload_n 0, 1) := by decide +kernel
theorem dX4_isSign_31 : decode cX4_isSign 31 = .ok (.bipush 62, 2) := by decide +kernel
theorem dX4_isSign_33 : decode cX4_isSign 33 = .ok (.if_icmp .gt 7, 3) := by decide +kernel
theorem dX4_isSign_36 : decode cX4_isSign 36 = .ok (.iconst 1, 1) := by decide +kernel
theorem dX4_isSign_37 : decode cX4_isSign 37 = .ok (.goto 4, 3) := by decide +kernel
theorem dX4_isSign_40 : decode cX4_isSign 40 = .ok (.iconst 0, 1) := by decide +kernel
theorem dX4_isSign_41 : decode cX4_isSign 41 = .ok (.ireturn, 1) := by decide +kernel
theorem dX4_wordAt_0 : decode cX4_wordAt 0 = .ok (.iload_n 2, 1) := by decide +kernel
theorem dX4_wordAt_1 : decode cX4_wordAt 1 = .ok (.iload_n 1, 1) := by decide +kernel
theorem dX4_wordAt_2 : decode cX4_wordAt 2 = .ok (.isub, 1) := by decide +kernel
theorem dX4_wordAt_3 : decode cX4_wordAt 3 = .ok (.bipush 6, 2) := by decide +kernel
theorem dX4_wordAt_5 : decode cX4_wordAt 5 = .ok (.if_icmp .gt 29, 3) := by decide +kernel
theorem dX4_wordAt_8 : decode cX4_wordAt 8 = .ok (.iconst 0, 1) := by decide +kernel
theorem dX4_wordAt_9 : decode cX4_wordAt 9 = .ok (.istore_n 3, 1) := by decide +kernel
theorem dX4_wordAt_10 : decode cX4_wordAt 10 = .ok (.iload_n 3, 1) := by decide +kernel
theorem dX4_wordAt_11 : decode cX4_wordAt 11 = .ok (.bipush 24, 2) := by decide +kernel
theorem dX4_wordAt_13 : decode cX4_wordAt 13 = .ok (.if_icmp .ge 21, 3) := by decide +kernel
theorem dX4_wordAt_16 : decode cX4_wordAt 16 = .ok (.aload_n 0, 1) := by decide +kernel
theorem dX4_wordAt_17 : decode cX4_wordAt 17 = .ok (.iload_n 1, 1) := by decide +kernel
theorem dX4_wordAt_18 : decode cX4_wordAt 18 = .ok (.iload_n 2, 1) := by decide +kernel
theorem dX4_wordAt_19 : decode cX4_wordAt 19 = .ok (.iload_n 3, 1) := by decide +kernel
theorem dX4_wordAt_20 : decode cX4_wordAt 20 = .ok (.invokestatic 69, 3) := by decide +kernel
theorem dX4_wordAt_23 : decode cX4_wordAt 23 = .ok (.ifCond .eq 5, 3) := by decide +kernel
theorem dX4_wordAt_26 : decode cX4_wordAt 26 = .ok (.iload_n 3, 1) := by decide +kernel
theorem dX4_wordAt_27 : decode cX4_wordAt 27 = .ok (.ireturn, 1) := by decide +kernel
theorem dX4_wordAt_28 : decode cX4_wordAt 28 = .ok (.iinc 3 1, 3) := by decide +kernel
theorem dX4_wordAt_31 : decode cX4_wordAt 31 = .ok (.goto (-21), 3) := by decide +kernel
theorem dX4_wordAt_34 : decode cX4_wordAt 34 = .ok (.bipush 25, 2) := by decide +kernel
theorem dX4_wordAt_36 : decode cX4_wordAt 36 = .ok (.ireturn, 1) := by decide +kernel
theorem dX4_isWord_0 : decode cX4_isWord 0 = .ok (.iconst 0, 1) := by decide +kernel
theorem dX4_isWord_1 : decode cX4_isWord 1 = .ok (.istore 4, 2) := by decide +kernel
theorem dX4_isWord_3 : decode cX4_isWord 3 = .ok (.iload 4, 2) := by decide +kernel
theorem dX4_isWord_5 : decode cX4_isWord 5 = .ok (.bipush 6, 2) := by decide +kernel
theorem dX4_isWord_7 : decode cX4_isWord 7 = .ok (.if_icmp .ge 49, 3) := by decide +kernel
theorem dX4_isWord_10 : decode cX4_isWord 10 = .ok (.iload_n 1, 1) := by decide +kernel
theorem dX4_isWord_11 : decode cX4_isWord 11 = .ok (.iload 4, 2) := by decide +kernel
theorem dX4_isWord_13 : decode cX4_isWord 13 = .ok (.iadd, 1) := by decide +kernel
theorem dX4_isWord_14 : decode cX4_isWord 14 = .ok (.iload_n 2, 1) := by decide +kernel
theorem dX4_isWord_15 : decode cX4_isWord 15 = .ok (.if_icmp .ge 12, 3) := by decide +kernel
theorem dX4_isWord_18 : decode cX4_isWord 18 = .ok (.aload_n 0, 1) := by decide +kernel
theorem dX4_isWord_19 : decode cX4_isWord 19 = .ok (.iload_n 1, 1) := by decide +kernel
theorem dX4_isWord_20 : decode cX4_isWord 20 = .ok (.iload 4, 2) := by decide +kernel
theorem dX4_isWord_22 : decode cX4_isWord 22 = .ok (.iadd, 1) := by decide +kernel
theorem dX4_isWord_23 : decode cX4_isWord 23 = .ok (.iaload, 1) := by decide +kernel
theorem dX4_isWord_24 : decode cX4_isWord 24 = .ok (.goto 5, 3) := by decide +kernel
theorem dX4_isWord_27 : decode cX4_isWord 27 = .ok (.bipush 32, 2) := by decide +kernel
theorem dX4_isWord_29 : decode cX4_isWord 29 = .ok (.istore 5, 2) := by decide +kernel
theorem dX4_isWord_31 : decode cX4_isWord 31 = .ok (.ldc 73, 2) := by decide +kernel
theorem dX4_isWord_33 : decode cX4_isWord 33 = .ok (.iload_n 3, 1) := by decide +kernel
theorem dX4_isWord_34 : decode cX4_isWord 34 = .ok (.bipush 6, 2) := by decide +kernel
theorem dX4_isWord_36 : decode cX4_isWord 36 = .ok (.imul, 1) := by decide +kernel
theorem dX4_isWord_37 : decode cX4_isWord 37 = .ok (.iload 4, 2) := by decide +kernel
theorem dX4_isWord_39 : decode cX4_isWord 39 = .ok (.iadd, 1) := by decide +kernel
theorem dX4_isWord_40 : decode cX4_isWord 40 = .ok (.invokevirtual 75, 3) := by decide +kernel
theorem dX4_isWord_43 : decode cX4_isWord 43 = .ok (.iload 5, 2) := by decide +kernel
theorem dX4_isWord_45 : decode cX4_isWord 45 = .ok (.if_icmp .eq 5, 3) := by decide +kernel
theorem dX4_isWord_48 : decode cX4_isWord 48 = .ok (.iconst 0, 1) := by decide +kernel
theorem dX4_isWord_49 : decode cX4_isWord 49 = .ok (.ireturn, 1) := by decide +kernel
theorem dX4_isWord_50 : decode cX4_isWord 50 = .ok (.iinc 4 1, 3) := by decide +kernel
theorem dX4_isWord_53 : decode cX4_isWord 53 = .ok (.goto (-50), 3) := by decide +kernel
theorem dX4_isWord_56 : decode cX4_isWord 56 = .ok (.iconst 1, 1) := by decide +kernel
theorem dX4_isWord_57 : decode cX4_isWord 57 = .ok (.ireturn, 1) := by decide +kernel
theorem dX4_numberAt_0 : decode cX4_numberAt 0 = .ok (.iconst 0, 1) := by decide +kernel
theorem dX4_numberAt_1 : decode cX4_numberAt 1 = .ok (.istore_n 3, 1) := by decide +kernel
theorem dX4_numberAt_2 : decode cX4_numberAt 2 = .ok (.iload_n 1, 1) := by decide +kernel
theorem dX4_numberAt_3 : decode cX4_numberAt 3 = .ok (.istore 4, 2) := by decide +kernel
theorem dX4_numberAt_5 : decode cX4_numberAt 5 = .ok (.iload 4, 2) := by decide +kernel
theorem dX4_numberAt_7 : decode cX4_numberAt 7 = .ok (.iload_n 2, 1) := by decide +kernel
theorem dX4_numberAt_8 : decode cX4_numberAt 8 = .ok (.if_icmp .ge 30, 3) := by decide +kernel
theorem dX4_numberAt_11 : decode cX4_numberAt 11 = .ok (.iload 4, 2) := by decide +kernel
theorem dX4_numberAt_13 : decode cX4_numberAt 13 = .ok (.iload_n 1, 1) := by decide +kernel
theorem dX4_numberAt_14 : decode cX4_numberAt 14 = .ok (.iconst 5, 1) := by decide +kernel
theorem dX4_numberAt_15 : decode cX4_numberAt 15 = .ok (.iadd, 1) := by decide +kernel
theorem dX4_numberAt_16 : decode cX4_numberAt 16 = .ok (.if_icmp .ge 22, 3) := by decide +kernel
theorem dX4_numberAt_19 : decode cX4_numberAt 19 = .ok (.iload_n 3, 1) := by decide +kernel
theorem dX4_numberAt_20 : decode cX4_numberAt 20 = .ok (.bipush 10, 2) := by decide +kernel
theorem dX4_numberAt_22 : decode cX4_numberAt 22 = .ok (.imul, 1) := by decide +kernel
theorem dX4_numberAt_23 : decode cX4_numberAt 23 = .ok (.aload_n 0, 1) := by decide +kernel
theorem dX4_numberAt_24 : decode cX4_numberAt 24 = .ok (.iload 4, 2) := by decide +kernel
theorem dX4_numberAt_26 : decode cX4_numberAt 26 = .ok (.iaload, 1) := by decide +kernel
theorem dX4_numberAt_27 : decode cX4_numberAt 27 = .ok (.iadd, 1) := by decide +kernel
theorem dX4_numberAt_28 : decode cX4_numberAt 28 = .ok (.bipush 48, 2) := by decide +kernel
theorem dX4_numberAt_30 : decode cX4_numberAt 30 = .ok (.isub, 1) := by decide +kernel
theorem dX4_numberAt_31 : decode cX4_numberAt 31 = .ok (.istore_n 3, 1) := by decide +kernel
theorem dX4_numberAt_32 : decode cX4_numberAt 32 = .ok (.iinc 4 1, 3) := by decide +kernel
theorem dX4_numberAt_35 : decode cX4_numberAt 35 = .ok (.goto (-30), 3) := by decide +kernel
theorem dX4_numberAt_38 : decode cX4_numberAt 38 = .ok (.iload_n 3, 1) := by decide +kernel
theorem dX4_numberAt_39 : decode cX4_numberAt 39 = .ok (.ireturn, 1) := by decide +kernel
theorem dX4_goesOn_0 : decode cX4_goesOn 0 = .ok (.aload_n 0, 1) := by decide +kernel
theorem dX4_goesOn_1 : decode cX4_goesOn 1 = .ok (.getfield 32, 3) := by decide +kernel
theorem dX4_goesOn_4 : decode cX4_goesOn 4 = .ok (.ifCond .ne 21, 3) := by decide +kernel
theorem dX4_goesOn_7 : decode cX4_goesOn 7 = .ok (.aload_n 0, 1) := by decide +kernel
theorem dX4_goesOn_8 : decode cX4_goesOn 8 = .ok (.getfield 18, 3) := by decide +kernel
theorem dX4_goesOn_11 : decode cX4_goesOn 11 = .ok (.aload_n 0, 1) := by decide +kernel
theorem dX4_goesOn_12 : decode cX4_goesOn 12 = .ok (.getfield 42, 3) := by decide +kernel
theorem dX4_goesOn_15 : decode cX4_goesOn 15 = .ok (.iaload, 1) := by decide +kernel
theorem dX4_goesOn_16 : decode cX4_goesOn 16 = .ok (.bipush 26, 2) := by decide +kernel
theorem dX4_goesOn_18 : decode cX4_goesOn 18 = .ok (.if_icmp .eq 7, 3) := by decide +kernel
theorem dX4_goesOn_21 : decode cX4_goesOn 21 = .ok (.iconst 1, 1) := by decide +kernel
theorem dX4_goesOn_22 : decode cX4_goesOn 22 = .ok (.goto 4, 3) := by decide +kernel
theorem dX4_goesOn_25 : decode cX4_goesOn 25 = .ok (.iconst 0, 1) := by decide +kernel
theorem dX4_goesOn_26 : decode cX4_goesOn 26 = .ok (.ireturn, 1) := by decide +kernel
theorem dX4_refuse_0 : decode cX4_refuse 0 = .ok (.aload_n 0, 1) := by decide +kernel
theorem dX4_refuse_1 : decode cX4_refuse 1 = .ok (.iload_n 1, 1) := by decide +kernel
theorem dX4_refuse_2 : decode cX4_refuse 2 = .ok (.putfield 32, 3) := by decide +kernel
theorem dX4_refuse_5 : decode cX4_refuse 5 = .ok (.aload_n 0, 1) := by decide +kernel
theorem dX4_refuse_6 : decode cX4_refuse 6 = .ok (.aload_n 0, 1) := by decide +kernel
theorem dX4_refuse_7 : decode cX4_refuse 7 = .ok (.getfield 25, 3) := by decide +kernel
theorem dX4_refuse_10 : decode cX4_refuse 10 = .ok (.aload_n 0, 1) := by decide +kernel
theorem dX4_refuse_11 : decode cX4_refuse 11 = .ok (.getfield 42, 3) := by decide +kernel
theorem dX4_refuse_14 : decode cX4_refuse 14 = .ok (.iaload, 1) := by decide +kernel
theorem dX4_refuse_15 : decode cX4_refuse 15 = .ok (.putfield 36, 3) := by decide +kernel
theorem dX4_refuse_18 : decode cX4_refuse 18 = .ok (.iconst 0, 1) := by decide +kernel
theorem dX4_refuse_19 : decode cX4_refuse 19 = .ok (.ireturn, 1) := by decide +kernel
theorem dX4_line_0 : decode cX4_line 0 = .ok (.aload_n 0, 1) := by decide +kernel
theorem dX4_line_1 : decode cX4_line 1 = .ok (.getfield 18, 3) := by decide +kernel
theorem dX4_line_4 : decode cX4_line 4 = .ok (.aload_n 0, 1) := by decide +kernel
theorem dX4_line_5 : decode cX4_line 5 = .ok (.getfield 42, 3) := by decide +kernel
theorem dX4_line_8 : decode cX4_line 8 = .ok (.iaload, 1) := by decide +kernel
theorem dX4_line_9 : decode cX4_line 9 = .ok (.istore_n 1, 1) := by decide +kernel
theorem dX4_line_10 : decode cX4_line 10 = .ok (.aload_n 0, 1) := by decide +kernel
theorem dX4_line_11 : decode cX4_line 11 = .ok (.getfield 28, 3) := by decide +kernel
theorem dX4_line_14 : decode cX4_line 14 = .ok (.ifCond .eq 11, 3) := by decide +kernel
theorem dX4_line_17 : decode cX4_line 17 = .ok (.iload_n 1, 1) := by decide +kernel
theorem dX4_line_18 : decode cX4_line 18 = .ok (.iconst 3, 1) := by decide +kernel
theorem dX4_line_19 : decode cX4_line 19 = .ok (.if_icmp .le 23, 3) := by decide +kernel
theorem dX4_line_22 : decode cX4_line 22 = .ok (.goto 14, 3) := by decide +kernel
theorem dX4_line_25 : decode cX4_line 25 = .ok (.iload_n 1, 1) := by decide +kernel
theorem dX4_line_26 : decode cX4_line 26 = .ok (.iconst 4, 1) := by decide +kernel
theorem dX4_line_27 : decode cX4_line 27 = .ok (.if_icmp .lt 9, 3) := by decide +kernel
theorem dX4_line_30 : decode cX4_line 30 = .ok (.iload_n 1, 1) := by decide +kernel
theorem dX4_line_31 : decode cX4_line 31 = .ok (.bipush 6, 2) := by decide +kernel
theorem dX4_line_33 : decode cX4_line 33 = .ok (.if_icmp .le 9, 3) := by decide +kernel
theorem dX4_line_36 : decode cX4_line 36 = .ok (.aload_n 0, 1) := by decide +kernel
theorem dX4_line_37 : decode cX4_line 37 = .ok (.iconst 1, 1) := by decide +kernel
theorem dX4_line_38 : decode cX4_line 38 = .ok (.invokevirtual 81, 3) := by decide +kernel
theorem dX4_line_41 : decode cX4_line 41 = .ok (.ireturn, 1) := by decide +kernel
theorem dX4_line_42 : decode cX4_line 42 = .ok (.aload_n 0, 1) := by decide +kernel
theorem dX4_line_43 : decode cX4_line 43 = .ok (.getfield 12, 3) := by decide +kernel
theorem dX4_line_46 : decode cX4_line 46 = .ok (.getfield 84, 3) := by decide +kernel
theorem dX4_line_49 : decode cX4_line 49 = .ok (.istore_n 2, 1) := by decide +kernel
theorem dX4_line_50 : decode cX4_line 50 = .ok (.iload_n 2, 1) := by decide +kernel
theorem dX4_line_51 : decode cX4_line 51 = .ok (.bipush 16, 2) := by decide +kernel
theorem dX4_line_53 : decode cX4_line 53 = .ok (.if_icmp .lt 9, 3) := by decide +kernel
theorem dX4_line_56 : decode cX4_line 56 = .ok (.aload_n 0, 1) := by decide +kernel
theorem dX4_line_57 : decode cX4_line 57 = .ok (.iconst 3, 1) := by decide +kernel
theorem dX4_line_58 : decode cX4_line 58 = .ok (.invokevirtual 81, 3) := by decide +kernel
theorem dX4_line_61 : decode cX4_line 61 = .ok (.ireturn, 1) := by decide +kernel
theorem dX4_line_62 : decode cX4_line 62 = .ok (.aload_n 0, 1) := by decide +kernel
theorem dX4_line_63 : decode cX4_line 63 = .ok (.dup, 1) := by decide +kernel
theorem dX4_line_64 : decode cX4_line 64 = .ok (.getfield 42, 3) := by decide +kernel
theorem dX4_line_67 : decode cX4_line 67 = .ok (.iconst 1, 1) := by decide +kernel
theorem dX4_line_68 : decode cX4_line 68 = .ok (.iadd, 1) := by decide +kernel
theorem dX4_line_69 : decode cX4_line 69 = .ok (.putfield 42, 3) := by decide +kernel
theorem dX4_line_72 : decode cX4_line 72 = .ok (.aload_n 0, 1) := by decide +kernel
theorem dX4_line_73 : decode cX4_line 73 = .ok (.getfield 12, 3) := by decide +kernel
theorem dX4_line_76 : decode cX4_line 76 = .ok (.getfield 87, 3) := by decide +kernel
theorem dX4_line_79 : decode cX4_line 79 = .ok (.iload_n 2, 1) := by decide +kernel
theorem dX4_line_80 : decode cX4_line 80 = .ok (.iload_n 1, 1) := by decide +kernel
theorem dX4_line_81 : decode cX4_line 81 = .ok (.iastore, 1) := by decide +kernel
theorem dX4_line_82 : decode cX4_line 82 = .ok (.aload_n 0, 1) := by decide +kernel
theorem dX4_line_83 : decode cX4_line 83 = .ok (.getfield 12, 3) := by decide +kernel
theorem dX4_line_86 : decode cX4_line 86 = .ok (.getfield 90, 3) := by decide +kernel
theorem dX4_line_89 : decode cX4_line 89 = .ok (.iload_n 2, 1) := by decide +kernel
theorem dX4_line_90 : decode cX4_line 90 = .ok (.iconst 0, 1) := by decide +kernel
theorem dX4_line_91 : decode cX4_line 91 = .ok (.iastore, 1) := by decide +kernel
theorem dX4_line_92 : decode cX4_line 92 = .ok (.aload_n 0, 1) := by decide +kernel
theorem dX4_line_93 : decode cX4_line 93 = .ok (.getfield 12, 3) := by decide +kernel
theorem dX4_line_96 : decode cX4_line 96 = .ok (.getfield 93, 3) := by decide +kernel
theorem dX4_line_99 : decode cX4_line 99 = .ok (.iload_n 2, 1) := by decide +kernel
theorem dX4_line_100 : decode cX4_line 100 = .ok (.aload_n 0, 1) := by decide +kernel
theorem dX4_line_101 : decode cX4_line 101 = .ok (.getfield 12, 3) := by decide +kernel
theorem dX4_line_104 : decode cX4_line 104 = .ok (.getfield 96, 3) := by decide +kernel
theorem dX4_line_107 : decode cX4_line 107 = .ok (.iastore, 1) := by decide +kernel
theorem dX4_line_108 : decode cX4_line 108 = .ok (.aload_n 0, 1) := by decide +kernel
theorem dX4_line_109 : decode cX4_line 109 = .ok (.getfield 28, 3) := by decide +kernel
theorem dX4_line_112 : decode cX4_line 112 = .ok (.ifCond .eq 22, 3) := by decide +kernel
theorem dX4_line_115 : decode cX4_line 115 = .ok (.aload_n 0, 1) := by decide +kernel
theorem dX4_line_116 : decode cX4_line 116 = .ok (.iload_n 2, 1) := by decide +kernel
theorem dX4_line_117 : decode cX4_line 117 = .ok (.iload_n 1, 1) := by decide +kernel
theorem dX4_line_118 : decode cX4_line 118 = .ok (.invokevirtual 99, 3) := by decide +kernel
theorem dX4_line_121 : decode cX4_line 121 = .ok (.ifCond .eq 22, 3) := by decide +kernel
theorem dX4_line_124 : decode cX4_line 124 = .ok (.aload_n 0, 1) := by decide +kernel
theorem dX4_line_125 : decode cX4_line 125 = .ok (.invokevirtual 103, 3) := by decide +kernel
theorem dX4_line_128 : decode cX4_line 128 = .ok (.ifCond .eq 15, 3) := by decide +kernel
theorem dX4_line_131 : decode cX4_line 131 = .ok (.goto 14, 3) := by decide +kernel
theorem dX4_line_134 : decode cX4_line 134 = .ok (.aload_n 0, 1) := by decide +kernel
theorem dX4_line_135 : decode cX4_line 135 = .ok (.iload_n 2, 1) := by decide +kernel
theorem dX4_line_136 : decode cX4_line 136 = .ok (.iload_n 1, 1) := by decide +kernel
theorem dX4_line_137 : decode cX4_line 137 = .ok (.invokevirtual 107, 3) := by decide +kernel
theorem dX4_line_140 : decode cX4_line 140 = .ok (.ifCond .ne 5, 3) := by decide +kernel
theorem dX4_line_143 : decode cX4_line 143 = .ok (.iconst 0, 1) := by decide +kernel
theorem dX4_line_144 : decode cX4_line 144 = .ok (.ireturn, 1) := by decide +kernel
theorem dX4_line_145 : decode cX4_line 145 = .ok (.aload_n 0, 1) := by decide +kernel
theorem dX4_line_146 : decode cX4_line 146 = .ok (.getfield 12, 3) := by decide +kernel
theorem dX4_line_149 : decode cX4_line 149 = .ok (.getfield 110, 3) := by decide +kernel
theorem dX4_line_152 : decode cX4_line 152 = .ok (.iload_n 2, 1) := by decide +kernel
theorem dX4_line_153 : decode cX4_line 153 = .ok (.aload_n 0, 1) := by decide +kernel
theorem dX4_line_154 : decode cX4_line 154 = .ok (.getfield 12, 3) := by decide +kernel
theorem dX4_line_157 : decode cX4_line 157 = .ok (.getfield 96, 3) := by decide +kernel
theorem dX4_line_160 : decode cX4_line 160 = .ok (.iastore, 1) := by decide +kernel
theorem dX4_line_161 : decode cX4_line 161 = .ok (.aload_n 0, 1) := by decide +kernel
theorem dX4_line_162 : decode cX4_line 162 = .ok (.getfield 18, 3) := by decide +kernel
theorem dX4_line_165 : decode cX4_line 165 = .ok (.aload_n 0, 1) := by decide +kernel
theorem dX4_line_166 : decode cX4_line 166 = .ok (.getfield 42, 3) := by decide +kernel
theorem dX4_line_169 : decode cX4_line 169 = .ok (.iaload, 1) := by decide +kernel
theorem dX4_line_170 : decode cX4_line 170 = .ok (.bipush 7, 2) := by decide +kernel
theorem dX4_line_172 : decode cX4_line 172 = .ok (.if_icmp .ne 23, 3) := by decide +kernel
theorem dX4_line_175 : decode cX4_line 175 = .ok (.aload_n 0, 1) := by decide +kernel
theorem dX4_line_176 : decode cX4_line 176 = .ok (.dup, 1) := by decide +kernel
theorem dX4_line_177 : decode cX4_line 177 = .ok (.getfield 42, 3) := by decide +kernel
theorem dX4_line_180 : decode cX4_line 180 = .ok (.iconst 1, 1) := by decide +kernel
theorem dX4_line_181 : decode cX4_line 181 = .ok (.iadd, 1) := by decide +kernel
theorem dX4_line_182 : decode cX4_line 182 = .ok (.putfield 42, 3) := by decide +kernel
theorem dX4_line_185 : decode cX4_line 185 = .ok (.aload_n 0, 1) := by decide +kernel
theorem dX4_line_186 : decode cX4_line 186 = .ok (.iconst 0, 1) := by decide +kernel
theorem dX4_line_187 : decode cX4_line 187 = .ok (.invokevirtual 113, 3) := by decide +kernel
theorem dX4_line_190 : decode cX4_line 190 = .ok (.ifCond .ne 5, 3) := by decide +kernel
theorem dX4_line_193 : decode cX4_line 193 = .ok (.iconst 0, 1) := by decide +kernel
theorem dX4_line_194 : decode cX4_line 194 = .ok (.ireturn, 1) := by decide +kernel
theorem dX4_line_195 : decode cX4_line 195 = .ok (.aload_n 0, 1) := by decide +kernel
theorem dX4_line_196 : decode cX4_line 196 = .ok (.getfield 12, 3) := by decide +kernel
theorem dX4_line_199 : decode cX4_line 199 = .ok (.getfield 116, 3) := by decide +kernel
theorem dX4_line_202 : decode cX4_line 202 = .ok (.iload_n 2, 1) := by decide +kernel
theorem dX4_line_203 : decode cX4_line 203 = .ok (.aload_n 0, 1) := by decide +kernel
theorem dX4_line_204 : decode cX4_line 204 = .ok (.getfield 12, 3) := by decide +kernel
theorem dX4_line_207 : decode cX4_line 207 = .ok (.getfield 96, 3) := by decide +kernel
theorem dX4_line_210 : decode cX4_line 210 = .ok (.iastore, 1) := by decide +kernel
theorem dX4_line_211 : decode cX4_line 211 = .ok (.aload_n 0, 1) := by decide +kernel
theorem dX4_line_212 : decode cX4_line 212 = .ok (.getfield 18, 3) := by decide +kernel
theorem dX4_line_215 : decode cX4_line 215 = .ok (.aload_n 0, 1) := by decide +kernel
theorem dX4_line_216 : decode cX4_line 216 = .ok (.getfield 42, 3) := by decide +kernel
theorem dX4_line_219 : decode cX4_line 219 = .ok (.iaload, 1) := by decide +kernel
theorem dX4_line_220 : decode cX4_line 220 = .ok (.bipush 59, 2) := by decide +kernel
theorem dX4_line_222 : decode cX4_line 222 = .ok (.if_icmp .eq 9, 3) := by decide +kernel
theorem dX4_line_225 : decode cX4_line 225 = .ok (.aload_n 0, 1) := by decide +kernel
theorem dX4_line_226 : decode cX4_line 226 = .ok (.iconst 1, 1) := by decide +kernel
theorem dX4_line_227 : decode cX4_line 227 = .ok (.invokevirtual 81, 3) := by decide +kernel
theorem dX4_line_230 : decode cX4_line 230 = .ok (.ireturn, 1) := by decide +kernel
theorem dX4_line_231 : decode cX4_line 231 = .ok (.aload_n 0, 1) := by decide +kernel
theorem dX4_line_232 : decode cX4_line 232 = .ok (.dup, 1) := by decide +kernel
theorem dX4_line_233 : decode cX4_line 233 = .ok (.getfield 42, 3) := by decide +kernel
theorem dX4_line_236 : decode cX4_line 236 = .ok (.iconst 1, 1) := by decide +kernel
theorem dX4_line_237 : decode cX4_line 237 = .ok (.iadd, 1) := by decide +kernel
theorem dX4_line_238 : decode cX4_line 238 = .ok (.putfield 42, 3) := by decide +kernel
theorem dX4_line_241 : decode cX4_line 241 = .ok (.aload_n 0, 1) := by decide +kernel
theorem dX4_line_242 : decode cX4_line 242 = .ok (.getfield 12, 3) := by decide +kernel
theorem dX4_line_245 : decode cX4_line 245 = .ok (.dup, 1) := by decide +kernel
theorem dX4_line_246 : decode cX4_line 246 = .ok (.getfield 84, 3) := by decide +kernel
theorem dX4_line_249 : decode cX4_line 249 = .ok (.iconst 1, 1) := by decide +kernel
theorem dX4_line_250 : decode cX4_line 250 = .ok (.iadd, 1) := by decide +kernel
theorem dX4_line_251 : decode cX4_line 251 = .ok (.putfield 84, 3) := by decide +kernel
theorem dX4_line_254 : decode cX4_line 254 = .ok (.iconst 1, 1) := by decide +kernel
theorem dX4_line_255 : decode cX4_line 255 = .ok (.ireturn, 1) := by decide +kernel
theorem dX4_lawHead_0 : decode cX4_lawHead 0 = .ok (.iload_n 2, 1) := by decide +kernel
theorem dX4_lawHead_1 : decode cX4_lawHead 1 = .ok (.iconst 3, 1) := by decide +kernel
theorem dX4_lawHead_2 : decode cX4_lawHead 2 = .ok (.if_icmp .ne 5, 3) := by decide +kernel
theorem dX4_lawHead_5 : decode cX4_lawHead 5 = .ok (.iconst 1, 1) := by decide +kernel
theorem dX4_lawHead_6 : decode cX4_lawHead 6 = .ok (.ireturn, 1) := by decide +kernel
theorem dX4_lawHead_7 : decode cX4_lawHead 7 = .ok (.aload_n 0, 1) := by decide +kernel
theorem dX4_lawHead_8 : decode cX4_lawHead 8 = .ok (.iconst 0, 1) := by decide +kernel
theorem dX4_lawHead_9 : decode cX4_lawHead 9 = .ok (.iconst 2, 1) := by decide +kernel
theorem dX4_lawHead_10 : decode cX4_lawHead 10 = .ok (.invokevirtual 119, 3) := by decide +kernel
theorem dX4_lawHead_13 : decode cX4_lawHead 13 = .ok (.ifCond .ne 5, 3) := by decide +kernel
theorem dX4_lawHead_16 : decode cX4_lawHead 16 = .ok (.iconst 0, 1) := by decide +kernel
theorem dX4_lawHead_17 : decode cX4_lawHead 17 = .ok (.ireturn, 1) := by decide +kernel
theorem dX4_lawHead_18 : decode cX4_lawHead 18 = .ok (.aload_n 0, 1) := by decide +kernel
theorem dX4_lawHead_19 : decode cX4_lawHead 19 = .ok (.getfield 12, 3) := by decide +kernel
theorem dX4_lawHead_22 : decode cX4_lawHead 22 = .ok (.getfield 90, 3) := by decide +kernel
theorem dX4_lawHead_25 : decode cX4_lawHead 25 = .ok (.iload_n 1, 1) := by decide +kernel
theorem dX4_lawHead_26 : decode cX4_lawHead 26 = .ok (.aload_n 0, 1) := by decide +kernel
theorem dX4_lawHead_27 : decode cX4_lawHead 27 = .ok (.getfield 22, 3) := by decide +kernel
theorem dX4_lawHead_30 : decode cX4_lawHead 30 = .ok (.aload_n 0, 1) := by decide +kernel
theorem dX4_lawHead_31 : decode cX4_lawHead 31 = .ok (.getfield 42, 3) := by decide +kernel
theorem dX4_lawHead_34 : decode cX4_lawHead 34 = .ok (.iconst 1, 1) := by decide +kernel
theorem dX4_lawHead_35 : decode cX4_lawHead 35 = .ok (.isub, 1) := by decide +kernel
theorem dX4_lawHead_36 : decode cX4_lawHead 36 = .ok (.iaload, 1) := by decide +kernel
theorem dX4_lawHead_37 : decode cX4_lawHead 37 = .ok (.iastore, 1) := by decide +kernel
theorem dX4_lawHead_38 : decode cX4_lawHead 38 = .ok (.iconst 1, 1) := by decide +kernel
theorem dX4_lawHead_39 : decode cX4_lawHead 39 = .ok (.ireturn, 1) := by decide +kernel
theorem dX4_jobHead_0 : decode cX4_jobHead 0 = .ok (.aload_n 0, 1) := by decide +kernel
theorem dX4_jobHead_1 : decode cX4_jobHead 1 = .ok (.iconst 0, 1) := by decide +kernel
theorem dX4_jobHead_2 : decode cX4_jobHead 2 = .ok (.bipush 15, 2) := by decide +kernel
theorem dX4_jobHead_4 : decode cX4_jobHead 4 = .ok (.invokevirtual 119, 3) := by decide +kernel
theorem dX4_jobHead_7 : decode cX4_jobHead 7 = .ok (.ifCond .ne 5, 3) := by decide +kernel
theorem dX4_jobHead_10 : decode cX4_jobHead 10 = .ok (.iconst 0, 1) := by decide +kernel
theorem dX4_jobHead_11 : decode cX4_jobHead 11 = .ok (.ireturn, 1) := by decide +kernel
theorem dX4_jobHead_12 : decode cX4_jobHead 12 = .ok (.aload_n 0, 1) := by decide +kernel
theorem dX4_jobHead_13 : decode cX4_jobHead 13 = .ok (.getfield 12, 3) := by decide +kernel
theorem dX4_jobHead_16 : decode cX4_jobHead 16 = .ok (.getfield 90, 3) := by decide +kernel
theorem dX4_jobHead_19 : decode cX4_jobHead 19 = .ok (.iload_n 1, 1) := by decide +kernel
theorem dX4_jobHead_20 : decode cX4_jobHead 20 = .ok (.aload_n 0, 1) := by decide +kernel
theorem dX4_jobHead_21 : decode cX4_jobHead 21 = .ok (.getfield 22, 3) := by decide +kernel
theorem dX4_jobHead_24 : decode cX4_jobHead 24 = .ok (.aload_n 0, 1) := by decide +kernel
theorem dX4_jobHead_25 : decode cX4_jobHead 25 = .ok (.getfield 42, 3) := by decide +kernel
theorem dX4_jobHead_28 : decode cX4_jobHead 28 = .ok (.iconst 1, 1) := by decide +kernel
theorem dX4_jobHead_29 : decode cX4_jobHead 29 = .ok (.isub, 1) := by decide +kernel
theorem dX4_jobHead_30 : decode cX4_jobHead 30 = .ok (.iaload, 1) := by decide +kernel
theorem dX4_jobHead_31 : decode cX4_jobHead 31 = .ok (.iastore, 1) := by decide +kernel
theorem dX4_jobHead_32 : decode cX4_jobHead 32 = .ok (.iload_n 2, 1) := by decide +kernel
theorem dX4_jobHead_33 : decode cX4_jobHead 33 = .ok (.iconst 5, 1) := by decide +kernel
theorem dX4_jobHead_34 : decode cX4_jobHead 34 = .ok (.if_icmp .ne 35, 3) := by decide +kernel
theorem dX4_jobHead_37 : decode cX4_jobHead 37 = .ok (.aload_n 0, 1) := by decide +kernel
theorem dX4_jobHead_38 : decode cX4_jobHead 38 = .ok (.iconst 0, 1) := by decide +kernel
theorem dX4_jobHead_39 : decode cX4_jobHead 39 = .ok (.bipush 15, 2) := by decide +kernel
theorem dX4_jobHead_41 : decode cX4_jobHead 41 = .ok (.invokevirtual 119, 3) := by decide +kernel
theorem dX4_jobHead_44 : decode cX4_jobHead 44 = .ok (.ifCond .ne 5, 3) := by decide +kernel
theorem dX4_jobHead_47 : decode cX4_jobHead 47 = .ok (.iconst 0, 1) := by decide +kernel
theorem dX4_jobHead_48 : decode cX4_jobHead 48 = .ok (.ireturn, 1) := by decide +kernel
theorem dX4_jobHead_49 : decode cX4_jobHead 49 = .ok (.aload_n 0, 1) := by decide +kernel
theorem dX4_jobHead_50 : decode cX4_jobHead 50 = .ok (.getfield 12, 3) := by decide +kernel
theorem dX4_jobHead_53 : decode cX4_jobHead 53 = .ok (.getfield 122, 3) := by decide +kernel
theorem dX4_jobHead_56 : decode cX4_jobHead 56 = .ok (.iload_n 1, 1) := by decide +kernel
theorem dX4_jobHead_57 : decode cX4_jobHead 57 = .ok (.aload_n 0, 1) := by decide +kernel
theorem dX4_jobHead_58 : decode cX4_jobHead 58 = .ok (.getfield 22, 3) := by decide +kernel
theorem dX4_jobHead_61 : decode cX4_jobHead 61 = .ok (.aload_n 0, 1) := by decide +kernel
theorem dX4_jobHead_62 : decode cX4_jobHead 62 = .ok (.getfield 42, 3) := by decide +kernel
theorem dX4_jobHead_65 : decode cX4_jobHead 65 = .ok (.iconst 1, 1) := by decide +kernel
theorem dX4_jobHead_66 : decode cX4_jobHead 66 = .ok (.isub, 1) := by decide +kernel
theorem dX4_jobHead_67 : decode cX4_jobHead 67 = .ok (.iaload, 1) := by decide +kernel
theorem dX4_jobHead_68 : decode cX4_jobHead 68 = .ok (.iastore, 1) := by decide +kernel
theorem dX4_jobHead_69 : decode cX4_jobHead 69 = .ok (.iload_n 2, 1) := by decide +kernel
theorem dX4_jobHead_70 : decode cX4_jobHead 70 = .ok (.bipush 6, 2) := by decide +kernel
theorem dX4_jobHead_72 : decode cX4_jobHead 72 = .ok (.if_icmp .ne 16, 3) := by decide +kernel
theorem dX4_jobHead_75 : decode cX4_jobHead 75 = .ok (.aload_n 0, 1) := by decide +kernel
theorem dX4_jobHead_76 : decode cX4_jobHead 76 = .ok (.iconst 0, 1) := by decide +kernel
theorem dX4_jobHead_77 : decode cX4_jobHead 77 = .ok (.bipush 99, 2) := by decide +kernel
theorem dX4_jobHead_79 : decode cX4_jobHead 79 = .ok (.invokevirtual 119, 3) := by decide +kernel
theorem dX4_jobHead_82 : decode cX4_jobHead 82 = .ok (.ifCond .eq 16, 3) := by decide +kernel
theorem dX4_jobHead_85 : decode cX4_jobHead 85 = .ok (.goto 15, 3) := by decide +kernel
theorem dX4_jobHead_88 : decode cX4_jobHead 88 = .ok (.aload_n 0, 1) := by decide +kernel
theorem dX4_jobHead_89 : decode cX4_jobHead 89 = .ok (.iconst 1, 1) := by decide +kernel
theorem dX4_jobHead_90 : decode cX4_jobHead 90 = .ok (.bipush 9, 2) := by decide +kernel
theorem dX4_jobHead_92 : decode cX4_jobHead 92 = .ok (.invokevirtual 119, 3) := by decide +kernel
theorem dX4_jobHead_95 : decode cX4_jobHead 95 = .ok (.ifCond .ne 5, 3) := by decide +kernel
theorem dX4_jobHead_98 : decode cX4_jobHead 98 = .ok (.iconst 0, 1) := by decide +kernel
theorem dX4_jobHead_99 : decode cX4_jobHead 99 = .ok (.ireturn, 1) := by decide +kernel
theorem dX4_jobHead_100 : decode cX4_jobHead 100 = .ok (.aload_n 0, 1) := by decide +kernel
theorem dX4_jobHead_101 : decode cX4_jobHead 101 = .ok (.getfield 12, 3) := by decide +kernel
theorem dX4_jobHead_104 : decode cX4_jobHead 104 = .ok (.getfield 125, 3) := by decide +kernel
theorem dX4_jobHead_107 : decode cX4_jobHead 107 = .ok (.iload_n 1, 1) := by decide +kernel
theorem dX4_jobHead_108 : decode cX4_jobHead 108 = .ok (.aload_n 0, 1) := by decide +kernel
theorem dX4_jobHead_109 : decode cX4_jobHead 109 = .ok (.getfield 22, 3) := by decide +kernel
theorem dX4_jobHead_112 : decode cX4_jobHead 112 = .ok (.aload_n 0, 1) := by decide +kernel
theorem dX4_jobHead_113 : decode cX4_jobHead 113 = .ok (.getfield 42, 3) := by decide +kernel
theorem dX4_jobHead_116 : decode cX4_jobHead 116 = .ok (.iconst 1, 1) := by decide +kernel
theorem dX4_jobHead_117 : decode cX4_jobHead 117 = .ok (.isub, 1) := by decide +kernel
theorem dX4_jobHead_118 : decode cX4_jobHead 118 = .ok (.iaload, 1) := by decide +kernel
theorem dX4_jobHead_119 : decode cX4_jobHead 119 = .ok (.iastore, 1) := by decide +kernel
theorem dX4_jobHead_120 : decode cX4_jobHead 120 = .ok (.iconst 1, 1) := by decide +kernel
theorem dX4_jobHead_121 : decode cX4_jobHead 121 = .ok (.ireturn, 1) := by decide +kernel
theorem dX4_number_0 : decode cX4_number 0 = .ok (.aload_n 0, 1) := by decide +kernel
theorem dX4_number_1 : decode cX4_number 1 = .ok (.getfield 18, 3) := by decide +kernel
theorem dX4_number_4 : decode cX4_number 4 = .ok (.aload_n 0, 1) := by decide +kernel
theorem dX4_number_5 : decode cX4_number 5 = .ok (.getfield 42, 3) := by decide +kernel
theorem dX4_number_8 : decode cX4_number 8 = .ok (.iaload, 1) := by decide +kernel
theorem dX4_number_9 : decode cX4_number 9 = .ok (.bipush 24, 2) := by decide +kernel
theorem dX4_number_11 : decode cX4_number 11 = .ok (.if_icmp .eq 9, 3) := by decide +kernel
theorem dX4_number_14 : decode cX4_number 14 = .ok (.aload_n 0, 1) := by decide +kernel
theorem dX4_number_15 : decode cX4_number 15 = .ok (.iconst 1, 1) := by decide +kernel
theorem dX4_number_16 : decode cX4_number 16 = .ok (.invokevirtual 81, 3) := by decide +kernel
theorem dX4_number_19 : decode cX4_number 19 = .ok (.ireturn, 1) := by decide +kernel
theorem dX4_number_20 : decode cX4_number 20 = .ok (.aload_n 0, 1) := by decide +kernel
theorem dX4_number_21 : decode cX4_number 21 = .ok (.getfield 22, 3) := by decide +kernel
theorem dX4_number_24 : decode cX4_number 24 = .ok (.aload_n 0, 1) := by decide +kernel
theorem dX4_number_25 : decode cX4_number 25 = .ok (.getfield 42, 3) := by decide +kernel
theorem dX4_number_28 : decode cX4_number 28 = .ok (.iaload, 1) := by decide +kernel
theorem dX4_number_29 : decode cX4_number 29 = .ok (.iload_n 1, 1) := by decide +kernel
theorem dX4_number_30 : decode cX4_number 30 = .ok (.if_icmp .lt 16, 3) := by decide +kernel
theorem dX4_number_33 : decode cX4_number 33 = .ok (.aload_n 0, 1) := by decide +kernel
theorem dX4_number_34 : decode cX4_number 34 = .ok (.getfield 22, 3) := by decide +kernel
theorem dX4_number_37 : decode cX4_number 37 = .ok (.aload_n 0, 1) := by decide +kernel
theorem dX4_number_38 : decode cX4_number 38 = .ok (.getfield 42, 3) := by decide +kernel
theorem dX4_number_41 : decode cX4_number 41 = .ok (.iaload, 1) := by decide +kernel
theorem dX4_number_42 : decode cX4_number 42 = .ok (.iload_n 2, 1) := by decide +kernel
theorem dX4_number_43 : decode cX4_number 43 = .ok (.if_icmp .le 9, 3) := by decide +kernel
theorem dX4_number_46 : decode cX4_number 46 = .ok (.aload_n 0, 1) := by decide +kernel
theorem dX4_number_47 : decode cX4_number 47 = .ok (.iconst 2, 1) := by decide +kernel
theorem dX4_number_48 : decode cX4_number 48 = .ok (.invokevirtual 81, 3) := by decide +kernel
theorem dX4_number_51 : decode cX4_number 51 = .ok (.ireturn, 1) := by decide +kernel
theorem dX4_number_52 : decode cX4_number 52 = .ok (.aload_n 0, 1) := by decide +kernel
theorem dX4_number_53 : decode cX4_number 53 = .ok (.dup, 1) := by decide +kernel
theorem dX4_number_54 : decode cX4_number 54 = .ok (.getfield 42, 3) := by decide +kernel
theorem dX4_number_57 : decode cX4_number 57 = .ok (.iconst 1, 1) := by decide +kernel
theorem dX4_number_58 : decode cX4_number 58 = .ok (.iadd, 1) := by decide +kernel
theorem dX4_number_59 : decode cX4_number 59 = .ok (.putfield 42, 3) := by decide +kernel
theorem dX4_number_62 : decode cX4_number 62 = .ok (.iconst 1, 1) := by decide +kernel
theorem dX4_number_63 : decode cX4_number 63 = .ok (.ireturn, 1) := by decide +kernel
theorem dX4_either_0 : decode cX4_either 0 = .ok (.aload_n 0, 1) := by decide +kernel
theorem dX4_either_1 : decode cX4_either 1 = .ok (.iload_n 1, 1) := by decide +kernel
theorem dX4_either_2 : decode cX4_either 2 = .ok (.invokevirtual 128, 3) := by decide +kernel
theorem dX4_either_5 : decode cX4_either 5 = .ok (.ifCond .ne 5, 3) := by decide +kernel
theorem dX4_either_8 : decode cX4_either 8 = .ok (.iconst 0, 1) := by decide +kernel
theorem dX4_either_9 : decode cX4_either 9 = .ok (.ireturn, 1) := by decide +kernel
theorem dX4_either_10 : decode cX4_either 10 = .ok (.iconst 0, 1) := by decide +kernel
theorem dX4_either_11 : decode cX4_either 11 = .ok (.istore_n 2, 1) := by decide +kernel
theorem dX4_either_12 : decode cX4_either 12 = .ok (.iload_n 2, 1) := by decide +kernel
theorem dX4_either_13 : decode cX4_either 13 = .ok (.sipush 500, 3) := by decide +kernel
theorem dX4_either_16 : decode cX4_either 16 = .ok (.if_icmp .ge 53, 3) := by decide +kernel
theorem dX4_either_19 : decode cX4_either 19 = .ok (.aload_n 0, 1) := by decide +kernel
theorem dX4_either_20 : decode cX4_either 20 = .ok (.getfield 18, 3) := by decide +kernel
theorem dX4_either_23 : decode cX4_either 23 = .ok (.aload_n 0, 1) := by decide +kernel
theorem dX4_either_24 : decode cX4_either 24 = .ok (.getfield 42, 3) := by decide +kernel
theorem dX4_either_27 : decode cX4_either 27 = .ok (.iaload, 1) := by decide +kernel
theorem dX4_either_28 : decode cX4_either 28 = .ok (.bipush 8, 2) := by decide +kernel
theorem dX4_either_30 : decode cX4_either 30 = .ok (.if_icmp .ne 39, 3) := by decide +kernel
theorem dX4_either_33 : decode cX4_either 33 = .ok (.aload_n 0, 1) := by decide +kernel
theorem dX4_either_34 : decode cX4_either 34 = .ok (.dup, 1) := by decide +kernel
theorem dX4_either_35 : decode cX4_either 35 = .ok (.getfield 42, 3) := by decide +kernel
theorem dX4_either_38 : decode cX4_either 38 = .ok (.iconst 1, 1) := by decide +kernel
theorem dX4_either_39 : decode cX4_either 39 = .ok (.iadd, 1) := by decide +kernel
theorem dX4_either_40 : decode cX4_either 40 = .ok (.putfield 42, 3) := by decide +kernel
theorem dX4_either_43 : decode cX4_either 43 = .ok (.aload_n 0, 1) := by decide +kernel
theorem dX4_either_44 : decode cX4_either 44 = .ok (.iload_n 1, 1) := by decide +kernel
theorem dX4_either_45 : decode cX4_either 45 = .ok (.invokevirtual 128, 3) := by decide +kernel
theorem dX4_either_48 : decode cX4_either 48 = .ok (.ifCond .ne 5, 3) := by decide +kernel
theorem dX4_either_51 : decode cX4_either 51 = .ok (.iconst 0, 1) := by decide +kernel
theorem dX4_either_52 : decode cX4_either 52 = .ok (.ireturn, 1) := by decide +kernel
theorem dX4_either_53 : decode cX4_either 53 = .ok (.aload_n 0, 1) := by decide +kernel
theorem dX4_either_54 : decode cX4_either 54 = .ok (.getfield 12, 3) := by decide +kernel
theorem dX4_either_57 : decode cX4_either 57 = .ok (.bipush 8, 2) := by decide +kernel
theorem dX4_either_59 : decode cX4_either 59 = .ok (.iconst 0, 1) := by decide +kernel
theorem dX4_either_60 : decode cX4_either 60 = .ok (.invokevirtual 131, 3) := by decide +kernel
theorem dX4_either_63 : decode cX4_either 63 = .ok (.iinc 2 1, 3) := by decide +kernel
theorem dX4_either_66 : decode cX4_either 66 = .ok (.goto (-54), 3) := by decide +kernel
theorem dX4_either_69 : decode cX4_either 69 = .ok (.iconst 1, 1) := by decide +kernel
theorem dX4_either_70 : decode cX4_either 70 = .ok (.ireturn, 1) := by decide +kernel
theorem dX4_both_0 : decode cX4_both 0 = .ok (.aload_n 0, 1) := by decide +kernel
theorem dX4_both_1 : decode cX4_both 1 = .ok (.iload_n 1, 1) := by decide +kernel
theorem dX4_both_2 : decode cX4_both 2 = .ok (.invokevirtual 135, 3) := by decide +kernel
theorem dX4_both_5 : decode cX4_both 5 = .ok (.ifCond .ne 5, 3) := by decide +kernel
theorem dX4_both_8 : decode cX4_both 8 = .ok (.iconst 0, 1) := by decide +kernel
theorem dX4_both_9 : decode cX4_both 9 = .ok (.ireturn, 1) := by decide +kernel
theorem dX4_both_10 : decode cX4_both 10 = .ok (.iconst 0, 1) := by decide +kernel
theorem dX4_both_11 : decode cX4_both 11 = .ok (.istore_n 2, 1) := by decide +kernel
theorem dX4_both_12 : decode cX4_both 12 = .ok (.iload_n 2, 1) := by decide +kernel
theorem dX4_both_13 : decode cX4_both 13 = .ok (.sipush 500, 3) := by decide +kernel
theorem dX4_both_16 : decode cX4_both 16 = .ok (.if_icmp .ge 53, 3) := by decide +kernel
theorem dX4_both_19 : decode cX4_both 19 = .ok (.aload_n 0, 1) := by decide +kernel
theorem dX4_both_20 : decode cX4_both 20 = .ok (.getfield 18, 3) := by decide +kernel
theorem dX4_both_23 : decode cX4_both 23 = .ok (.aload_n 0, 1) := by decide +kernel
theorem dX4_both_24 : decode cX4_both 24 = .ok (.getfield 42, 3) := by decide +kernel
theorem dX4_both_27 : decode cX4_both 27 = .ok (.iaload, 1) := by decide +kernel
theorem dX4_both_28 : decode cX4_both 28 = .ok (.bipush 9, 2) := by decide +kernel
theorem dX4_both_30 : decode cX4_both 30 = .ok (.if_icmp .ne 39, 3) := by decide +kernel
theorem dX4_both_33 : decode cX4_both 33 = .ok (.aload_n 0, 1) := by decide +kernel
theorem dX4_both_34 : decode cX4_both 34 = .ok (.dup, 1) := by decide +kernel
theorem dX4_both_35 : decode cX4_both 35 = .ok (.getfield 42, 3) := by decide +kernel
theorem dX4_both_38 : decode cX4_both 38 = .ok (.iconst 1, 1) := by decide +kernel
theorem dX4_both_39 : decode cX4_both 39 = .ok (.iadd, 1) := by decide +kernel
theorem dX4_both_40 : decode cX4_both 40 = .ok (.putfield 42, 3) := by decide +kernel
theorem dX4_both_43 : decode cX4_both 43 = .ok (.aload_n 0, 1) := by decide +kernel
theorem dX4_both_44 : decode cX4_both 44 = .ok (.iload_n 1, 1) := by decide +kernel
theorem dX4_both_45 : decode cX4_both 45 = .ok (.invokevirtual 135, 3) := by decide +kernel
theorem dX4_both_48 : decode cX4_both 48 = .ok (.ifCond .ne 5, 3) := by decide +kernel
theorem dX4_both_51 : decode cX4_both 51 = .ok (.iconst 0, 1) := by decide +kernel
theorem dX4_both_52 : decode cX4_both 52 = .ok (.ireturn, 1) := by decide +kernel
theorem dX4_both_53 : decode cX4_both 53 = .ok (.aload_n 0, 1) := by decide +kernel
theorem dX4_both_54 : decode cX4_both 54 = .ok (.getfield 12, 3) := by decide +kernel
theorem dX4_both_57 : decode cX4_both 57 = .ok (.bipush 9, 2) := by decide +kernel
theorem dX4_both_59 : decode cX4_both 59 = .ok (.iconst 0, 1) := by decide +kernel
theorem dX4_both_60 : decode cX4_both 60 = .ok (.invokevirtual 131, 3) := by decide +kernel
theorem dX4_both_63 : decode cX4_both 63 = .ok (.iinc 2 1, 3) := by decide +kernel
theorem dX4_both_66 : decode cX4_both 66 = .ok (.goto (-54), 3) := by decide +kernel
theorem dX4_both_69 : decode cX4_both 69 = .ok (.iconst 1, 1) := by decide +kernel
theorem dX4_both_70 : decode cX4_both 70 = .ok (.ireturn, 1) := by decide +kernel
theorem dX4_part_0 : decode cX4_part 0 = .ok (.aload_n 0, 1) := by decide +kernel
theorem dX4_part_1 : decode cX4_part 1 = .ok (.getfield 18, 3) := by decide +kernel
theorem dX4_part_4 : decode cX4_part 4 = .ok (.aload_n 0, 1) := by decide +kernel
theorem dX4_part_5 : decode cX4_part 5 = .ok (.getfield 42, 3) := by decide +kernel
theorem dX4_part_8 : decode cX4_part 8 = .ok (.iaload, 1) := by decide +kernel
theorem dX4_part_9 : decode cX4_part 9 = .ok (.istore_n 2, 1) := by decide +kernel
theorem dX4_part_10 : decode cX4_part 10 = .ok (.iload_n 2, 1) := by decide +kernel
theorem dX4_part_11 : decode cX4_part 11 = .ok (.bipush 10, 2) := by decide +kernel
theorem dX4_part_13 : decode cX4_part 13 = .ok (.if_icmp .eq 9, 3) := by decide +kernel
theorem dX4_part_16 : decode cX4_part 16 = .ok (.iload_n 2, 1) := by decide +kernel
theorem dX4_part_17 : decode cX4_part 17 = .ok (.bipush 40, 2) := by decide +kernel
theorem dX4_part_19 : decode cX4_part 19 = .ok (.if_icmp .ne 26, 3) := by decide +kernel
theorem dX4_part_22 : decode cX4_part 22 = .ok (.iload_n 1, 1) := by decide +kernel
theorem dX4_part_23 : decode cX4_part 23 = .ok (.bipush 8, 2) := by decide +kernel
theorem dX4_part_25 : decode cX4_part 25 = .ok (.if_icmp .ge 14, 3) := by decide +kernel
theorem dX4_part_28 : decode cX4_part 28 = .ok (.aload_n 0, 1) := by decide +kernel
theorem dX4_part_29 : decode cX4_part 29 = .ok (.iload_n 2, 1) := by decide +kernel
theorem dX4_part_30 : decode cX4_part 30 = .ok (.iload_n 1, 1) := by decide +kernel
theorem dX4_part_31 : decode cX4_part 31 = .ok (.iconst 1, 1) := by decide +kernel
theorem dX4_part_32 : decode cX4_part 32 = .ok (.iadd, 1) := by decide +kernel
theorem dX4_part_33 : decode cX4_part 33 = .ok (.invokevirtual 138, 3) := by decide +kernel
theorem dX4_part_36 : decode cX4_part 36 = .ok (.goto 8, 3) := by decide +kernel
theorem dX4_part_39 : decode cX4_part 39 = .ok (.aload_n 0, 1) := by decide +kernel
theorem dX4_part_40 : decode cX4_part 40 = .ok (.iconst 3, 1) := by decide +kernel
theorem dX4_part_41 : decode cX4_part 41 = .ok (.invokevirtual 81, 3) := by decide +kernel
theorem dX4_part_44 : decode cX4_part 44 = .ok (.ireturn, 1) := by decide +kernel
theorem dX4_part_45 : decode cX4_part 45 = .ok (.aload_n 0, 1) := by decide +kernel
theorem dX4_part_46 : decode cX4_part 46 = .ok (.invokevirtual 103, 3) := by decide +kernel
theorem dX4_part_49 : decode cX4_part 49 = .ok (.ifCond .ne 5, 3) := by decide +kernel
theorem dX4_part_52 : decode cX4_part 52 = .ok (.iconst 0, 1) := by decide +kernel
theorem dX4_part_53 : decode cX4_part 53 = .ok (.ireturn, 1) := by decide +kernel
theorem dX4_part_54 : decode cX4_part 54 = .ok (.aload_n 0, 1) := by decide +kernel
theorem dX4_part_55 : decode cX4_part 55 = .ok (.getfield 18, 3) := by decide +kernel
theorem dX4_part_58 : decode cX4_part 58 = .ok (.aload_n 0, 1) := by decide +kernel
theorem dX4_part_59 : decode cX4_part 59 = .ok (.getfield 42, 3) := by decide +kernel
theorem dX4_part_62 : decode cX4_part 62 = .ok (.iaload, 1) := by decide +kernel
theorem dX4_part_63 : decode cX4_part 63 = .ok (.istore_n 3, 1) := by decide +kernel
theorem dX4_part_64 : decode cX4_part 64 = .ok (.iload_n 3, 1) := by decide +kernel
theorem dX4_part_65 : decode cX4_part 65 = .ok (.bipush 60, 2) := by decide +kernel
theorem dX4_part_67 : decode cX4_part 67 = .ok (.if_icmp .eq 21, 3) := by decide +kernel
theorem dX4_part_70 : decode cX4_part 70 = .ok (.iload_n 3, 1) := by decide +kernel
theorem dX4_part_71 : decode cX4_part 71 = .ok (.bipush 61, 2) := by decide +kernel
theorem dX4_part_73 : decode cX4_part 73 = .ok (.if_icmp .eq 15, 3) := by decide +kernel
theorem dX4_part_76 : decode cX4_part 76 = .ok (.iload_n 3, 1) := by decide +kernel
theorem dX4_part_77 : decode cX4_part 77 = .ok (.bipush 62, 2) := by decide +kernel
theorem dX4_part_79 : decode cX4_part 79 = .ok (.if_icmp .eq 9, 3) := by decide +kernel
theorem dX4_part_82 : decode cX4_part 82 = .ok (.aload_n 0, 1) := by decide +kernel
theorem dX4_part_83 : decode cX4_part 83 = .ok (.iconst 1, 1) := by decide +kernel
theorem dX4_part_84 : decode cX4_part 84 = .ok (.invokevirtual 81, 3) := by decide +kernel
theorem dX4_part_87 : decode cX4_part 87 = .ok (.ireturn, 1) := by decide +kernel
theorem dX4_part_88 : decode cX4_part 88 = .ok (.aload_n 0, 1) := by decide +kernel
theorem dX4_part_89 : decode cX4_part 89 = .ok (.dup, 1) := by decide +kernel
theorem dX4_part_90 : decode cX4_part 90 = .ok (.getfield 42, 3) := by decide +kernel
theorem dX4_part_93 : decode cX4_part 93 = .ok (.iconst 1, 1) := by decide +kernel
theorem dX4_part_94 : decode cX4_part 94 = .ok (.iadd, 1) := by decide +kernel
theorem dX4_part_95 : decode cX4_part 95 = .ok (.putfield 42, 3) := by decide +kernel
theorem dX4_part_98 : decode cX4_part 98 = .ok (.aload_n 0, 1) := by decide +kernel
theorem dX4_part_99 : decode cX4_part 99 = .ok (.invokevirtual 103, 3) := by decide +kernel
theorem dX4_part_102 : decode cX4_part 102 = .ok (.ifCond .ne 5, 3) := by decide +kernel
theorem dX4_part_105 : decode cX4_part 105 = .ok (.iconst 0, 1) := by decide +kernel
theorem dX4_part_106 : decode cX4_part 106 = .ok (.ireturn, 1) := by decide +kernel
theorem dX4_part_107 : decode cX4_part 107 = .ok (.aload_n 0, 1) := by decide +kernel
theorem dX4_part_108 : decode cX4_part 108 = .ok (.getfield 12, 3) := by decide +kernel
theorem dX4_part_111 : decode cX4_part 111 = .ok (.iload_n 3, 1) := by decide +kernel
theorem dX4_part_112 : decode cX4_part 112 = .ok (.iconst 0, 1) := by decide +kernel
theorem dX4_part_113 : decode cX4_part 113 = .ok (.invokevirtual 131, 3) := by decide +kernel
theorem dX4_part_116 : decode cX4_part 116 = .ok (.iconst 1, 1) := by decide +kernel
theorem dX4_part_117 : decode cX4_part 117 = .ok (.ireturn, 1) := by decide +kernel
theorem dX4_opened_0 : decode cX4_opened 0 = .ok (.aload_n 0, 1) := by decide +kernel
theorem dX4_opened_1 : decode cX4_opened 1 = .ok (.dup, 1) := by decide +kernel
theorem dX4_opened_2 : decode cX4_opened 2 = .ok (.getfield 42, 3) := by decide +kernel
theorem dX4_opened_5 : decode cX4_opened 5 = .ok (.iconst 1, 1) := by decide +kernel
theorem dX4_opened_6 : decode cX4_opened 6 = .ok (.iadd, 1) := by decide +kernel
theorem dX4_opened_7 : decode cX4_opened 7 = .ok (.putfield 42, 3) := by decide +kernel
theorem dX4_opened_10 : decode cX4_opened 10 = .ok (.iload_n 1, 1) := by decide +kernel
theorem dX4_opened_11 : decode cX4_opened 11 = .ok (.bipush 10, 2) := by decide +kernel
theorem dX4_opened_13 : decode cX4_opened 13 = .ok (.if_icmp .ne 25, 3) := by decide +kernel
theorem dX4_opened_16 : decode cX4_opened 16 = .ok (.aload_n 0, 1) := by decide +kernel
theorem dX4_opened_17 : decode cX4_opened 17 = .ok (.iload_n 2, 1) := by decide +kernel
theorem dX4_opened_18 : decode cX4_opened 18 = .ok (.invokevirtual 135, 3) := by decide +kernel
theorem dX4_opened_21 : decode cX4_opened 21 = .ok (.ifCond .ne 5, 3) := by decide +kernel
theorem dX4_opened_24 : decode cX4_opened 24 = .ok (.iconst 0, 1) := by decide +kernel
theorem dX4_opened_25 : decode cX4_opened 25 = .ok (.ireturn, 1) := by decide +kernel
theorem dX4_opened_26 : decode cX4_opened 26 = .ok (.aload_n 0, 1) := by decide +kernel
theorem dX4_opened_27 : decode cX4_opened 27 = .ok (.getfield 12, 3) := by decide +kernel
theorem dX4_opened_30 : decode cX4_opened 30 = .ok (.bipush 10, 2) := by decide +kernel
theorem dX4_opened_32 : decode cX4_opened 32 = .ok (.iconst 0, 1) := by decide +kernel
theorem dX4_opened_33 : decode cX4_opened 33 = .ok (.invokevirtual 131, 3) := by decide +kernel
theorem dX4_opened_36 : decode cX4_opened 36 = .ok (.iconst 1, 1) := by decide +kernel
theorem dX4_opened_37 : decode cX4_opened 37 = .ok (.ireturn, 1) := by decide +kernel
theorem dX4_opened_38 : decode cX4_opened 38 = .ok (.aload_n 0, 1) := by decide +kernel
theorem dX4_opened_39 : decode cX4_opened 39 = .ok (.iload_n 2, 1) := by decide +kernel
theorem dX4_opened_40 : decode cX4_opened 40 = .ok (.invokevirtual 113, 3) := by decide +kernel
theorem dX4_opened_43 : decode cX4_opened 43 = .ok (.ifCond .ne 5, 3) := by decide +kernel
theorem dX4_opened_46 : decode cX4_opened 46 = .ok (.iconst 0, 1) := by decide +kernel
theorem dX4_opened_47 : decode cX4_opened 47 = .ok (.ireturn, 1) := by decide +kernel
theorem dX4_opened_48 : decode cX4_opened 48 = .ok (.aload_n 0, 1) := by decide +kernel
theorem dX4_opened_49 : decode cX4_opened 49 = .ok (.getfield 18, 3) := by decide +kernel
theorem dX4_opened_52 : decode cX4_opened 52 = .ok (.aload_n 0, 1) := by decide +kernel
theorem dX4_opened_53 : decode cX4_opened 53 = .ok (.getfield 42, 3) := by decide +kernel
theorem dX4_opened_56 : decode cX4_opened 56 = .ok (.iaload, 1) := by decide +kernel
theorem dX4_opened_57 : decode cX4_opened 57 = .ok (.bipush 41, 2) := by decide +kernel
theorem dX4_opened_59 : decode cX4_opened 59 = .ok (.if_icmp .eq 9, 3) := by decide +kernel
theorem dX4_opened_62 : decode cX4_opened 62 = .ok (.aload_n 0, 1) := by decide +kernel
theorem dX4_opened_63 : decode cX4_opened 63 = .ok (.iconst 1, 1) := by decide +kernel
theorem dX4_opened_64 : decode cX4_opened 64 = .ok (.invokevirtual 81, 3) := by decide +kernel
theorem dX4_opened_67 : decode cX4_opened 67 = .ok (.ireturn, 1) := by decide +kernel
theorem dX4_opened_68 : decode cX4_opened 68 = .ok (.aload_n 0, 1) := by decide +kernel
theorem dX4_opened_69 : decode cX4_opened 69 = .ok (.dup, 1) := by decide +kernel
theorem dX4_opened_70 : decode cX4_opened 70 = .ok (.getfield 42, 3) := by decide +kernel
theorem dX4_opened_73 : decode cX4_opened 73 = .ok (.iconst 1, 1) := by decide +kernel
theorem dX4_opened_74 : decode cX4_opened 74 = .ok (.iadd, 1) := by decide +kernel
theorem dX4_opened_75 : decode cX4_opened 75 = .ok (.putfield 42, 3) := by decide +kernel
theorem dX4_opened_78 : decode cX4_opened 78 = .ok (.iconst 1, 1) := by decide +kernel
theorem dX4_opened_79 : decode cX4_opened 79 = .ok (.ireturn, 1) := by decide +kernel
theorem dX4_sum_0 : decode cX4_sum 0 = .ok (.iconst 0, 1) := by decide +kernel
theorem dX4_sum_1 : decode cX4_sum 1 = .ok (.istore_n 1, 1) := by decide +kernel
theorem dX4_sum_2 : decode cX4_sum 2 = .ok (.iconst 0, 1) := by decide +kernel
theorem dX4_sum_3 : decode cX4_sum 3 = .ok (.istore_n 2, 1) := by decide +kernel
theorem dX4_sum_4 : decode cX4_sum 4 = .ok (.iload_n 2, 1) := by decide +kernel
theorem dX4_sum_5 : decode cX4_sum 5 = .ok (.sipush 500, 3) := by decide +kernel
theorem dX4_sum_8 : decode cX4_sum 8 = .ok (.if_icmp .ge 65, 3) := by decide +kernel
theorem dX4_sum_11 : decode cX4_sum 11 = .ok (.aload_n 0, 1) := by decide +kernel
theorem dX4_sum_12 : decode cX4_sum 12 = .ok (.invokevirtual 141, 3) := by decide +kernel
theorem dX4_sum_15 : decode cX4_sum 15 = .ok (.ifCond .ne 5, 3) := by decide +kernel
theorem dX4_sum_18 : decode cX4_sum 18 = .ok (.iconst 0, 1) := by decide +kernel
theorem dX4_sum_19 : decode cX4_sum 19 = .ok (.ireturn, 1) := by decide +kernel
theorem dX4_sum_20 : decode cX4_sum 20 = .ok (.iload_n 1, 1) := by decide +kernel
theorem dX4_sum_21 : decode cX4_sum 21 = .ok (.ifCond .eq 12, 3) := by decide +kernel
theorem dX4_sum_24 : decode cX4_sum 24 = .ok (.aload_n 0, 1) := by decide +kernel
theorem dX4_sum_25 : decode cX4_sum 25 = .ok (.getfield 12, 3) := by decide +kernel
theorem dX4_sum_28 : decode cX4_sum 28 = .ok (.iload_n 1, 1) := by decide +kernel
theorem dX4_sum_29 : decode cX4_sum 29 = .ok (.iconst 0, 1) := by decide +kernel
theorem dX4_sum_30 : decode cX4_sum 30 = .ok (.invokevirtual 131, 3) := by decide +kernel
theorem dX4_sum_33 : decode cX4_sum 33 = .ok (.aload_n 0, 1) := by decide +kernel
theorem dX4_sum_34 : decode cX4_sum 34 = .ok (.getfield 18, 3) := by decide +kernel
theorem dX4_sum_37 : decode cX4_sum 37 = .ok (.aload_n 0, 1) := by decide +kernel
theorem dX4_sum_38 : decode cX4_sum 38 = .ok (.getfield 42, 3) := by decide +kernel
theorem dX4_sum_41 : decode cX4_sum 41 = .ok (.iaload, 1) := by decide +kernel
theorem dX4_sum_42 : decode cX4_sum 42 = .ok (.istore_n 1, 1) := by decide +kernel
theorem dX4_sum_43 : decode cX4_sum 43 = .ok (.iload_n 1, 1) := by decide +kernel
theorem dX4_sum_44 : decode cX4_sum 44 = .ok (.bipush 43, 2) := by decide +kernel
theorem dX4_sum_46 : decode cX4_sum 46 = .ok (.if_icmp .eq 11, 3) := by decide +kernel
theorem dX4_sum_49 : decode cX4_sum 49 = .ok (.iload_n 1, 1) := by decide +kernel
theorem dX4_sum_50 : decode cX4_sum 50 = .ok (.bipush 45, 2) := by decide +kernel
theorem dX4_sum_52 : decode cX4_sum 52 = .ok (.if_icmp .eq 5, 3) := by decide +kernel
theorem dX4_sum_55 : decode cX4_sum 55 = .ok (.iconst 1, 1) := by decide +kernel
theorem dX4_sum_56 : decode cX4_sum 56 = .ok (.ireturn, 1) := by decide +kernel
theorem dX4_sum_57 : decode cX4_sum 57 = .ok (.aload_n 0, 1) := by decide +kernel
theorem dX4_sum_58 : decode cX4_sum 58 = .ok (.dup, 1) := by decide +kernel
theorem dX4_sum_59 : decode cX4_sum 59 = .ok (.getfield 42, 3) := by decide +kernel
theorem dX4_sum_62 : decode cX4_sum 62 = .ok (.iconst 1, 1) := by decide +kernel
theorem dX4_sum_63 : decode cX4_sum 63 = .ok (.iadd, 1) := by decide +kernel
theorem dX4_sum_64 : decode cX4_sum 64 = .ok (.putfield 42, 3) := by decide +kernel
theorem dX4_sum_67 : decode cX4_sum 67 = .ok (.iinc 2 1, 3) := by decide +kernel
theorem dX4_sum_70 : decode cX4_sum 70 = .ok (.goto (-66), 3) := by decide +kernel
