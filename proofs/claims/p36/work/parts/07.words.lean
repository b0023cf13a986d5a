theorem tb_1 {w : Cond} (h : w ∈ tables_1_1) : w ∈ lw_tbl := List.mem_append_right _ (show w ∈ tables_1 from List.mem_append_left _ h)
theorem tb_2 {w : Cond} (h : w ∈ tables_1_2) : w ∈ lw_tbl := List.mem_append_right _ (show w ∈ tables_1 from List.mem_append_right _ (List.mem_append_left _ h))
theorem tb_3 {w : Cond} (h : w ∈ tables_1_3) : w ∈ lw_tbl := List.mem_append_right _ (show w ∈ tables_1 from List.mem_append_right _ (List.mem_append_right _ (List.mem_append_left _ h)))
theorem tb_4 {w : Cond} (h : w ∈ tables_1_4) : w ∈ lw_tbl := List.mem_append_right _ (show w ∈ tables_1 from List.mem_append_right _ (List.mem_append_right _ (List.mem_append_right _ (List.mem_append_left _ h))))
theorem tb_5 {w : Cond} (h : w ∈ tables_1_5) : w ∈ lw_tbl := List.mem_append_right _ (show w ∈ tables_1 from List.mem_append_right _ (List.mem_append_right _ (List.mem_append_right _ (List.mem_append_right _ (List.mem_append_left _ h)))))
theorem tb_6 {w : Cond} (h : w ∈ tables_1_6) : w ∈ lw_tbl := List.mem_append_right _ (show w ∈ tables_1 from List.mem_append_right _ (List.mem_append_right _ (List.mem_append_right _ (List.mem_append_right _ (List.mem_append_right _ (List.mem_append_left _ h))))))
theorem tb_7 {w : Cond} (h : w ∈ tables_1_7) : w ∈ lw_tbl := List.mem_append_right _ (show w ∈ tables_1 from List.mem_append_right _ (List.mem_append_right _ (List.mem_append_right _ (List.mem_append_right _ (List.mem_append_right _ (List.mem_append_right _ (List.mem_append_left _ h)))))))
theorem tb_8 {w : Cond} (h : w ∈ tables_1_8) : w ∈ lw_tbl := List.mem_append_right _ (show w ∈ tables_1 from List.mem_append_right _ (List.mem_append_right _ (List.mem_append_right _ (List.mem_append_right _ (List.mem_append_right _ (List.mem_append_right _ (List.mem_append_right _ (h))))))))
theorem tp_1 {q : MethodName × Nat} (h : q ∈ lw_privs_1) : Cond.selects q.1.cls q.1 q.1 ∈ lw_tbl := List.mem_append_left _ (List.mem_map.mpr ⟨q, (show q ∈ lw_privs from List.mem_append_left _ h), rfl⟩)
theorem tp_2 {q : MethodName × Nat} (h : q ∈ lw_privs_2) : Cond.selects q.1.cls q.1 q.1 ∈ lw_tbl := List.mem_append_left _ (List.mem_map.mpr ⟨q, (show q ∈ lw_privs from List.mem_append_right _ (List.mem_append_left _ h)), rfl⟩)
theorem tp_3 {q : MethodName × Nat} (h : q ∈ lw_privs_3) : Cond.selects q.1.cls q.1 q.1 ∈ lw_tbl := List.mem_append_left _ (List.mem_map.mpr ⟨q, (show q ∈ lw_privs from List.mem_append_right _ (List.mem_append_right _ (List.mem_append_left _ h))), rfl⟩)
theorem tp_4 {q : MethodName × Nat} (h : q ∈ lw_privs_4) : Cond.selects q.1.cls q.1 q.1 ∈ lw_tbl := List.mem_append_left _ (List.mem_map.mpr ⟨q, (show q ∈ lw_privs from List.mem_append_right _ (List.mem_append_right _ (List.mem_append_right _ (List.mem_append_left _ h)))), rfl⟩)
theorem tp_5 {q : MethodName × Nat} (h : q ∈ lw_privs_5) : Cond.selects q.1.cls q.1 q.1 ∈ lw_tbl := List.mem_append_left _ (List.mem_map.mpr ⟨q, (show q ∈ lw_privs from List.mem_append_right _ (List.mem_append_right _ (List.mem_append_right _ (List.mem_append_right _ (List.mem_append_left _ h))))), rfl⟩)
theorem tp_6 {q : MethodName × Nat} (h : q ∈ lw_privs_6) : Cond.selects q.1.cls q.1 q.1 ∈ lw_tbl := List.mem_append_left _ (List.mem_map.mpr ⟨q, (show q ∈ lw_privs from List.mem_append_right _ (List.mem_append_right _ (List.mem_append_right _ (List.mem_append_right _ (List.mem_append_right _ (List.mem_append_left _ h)))))), rfl⟩)
theorem tp_7 {q : MethodName × Nat} (h : q ∈ lw_privs_7) : Cond.selects q.1.cls q.1 q.1 ∈ lw_tbl := List.mem_append_left _ (List.mem_map.mpr ⟨q, (show q ∈ lw_privs from List.mem_append_right _ (List.mem_append_right _ (List.mem_append_right _ (List.mem_append_right _ (List.mem_append_right _ (List.mem_append_right _ (List.mem_append_left _ h))))))), rfl⟩)
theorem tp_8 {q : MethodName × Nat} (h : q ∈ lw_privs_8) : Cond.selects q.1.cls q.1 q.1 ∈ lw_tbl := List.mem_append_left _ (List.mem_map.mpr ⟨q, (show q ∈ lw_privs from List.mem_append_right _ (List.mem_append_right _ (List.mem_append_right _ (List.mem_append_right _ (List.mem_append_right _ (List.mem_append_right _ (List.mem_append_right _ (h)))))))), rfl⟩)
theorem wIN_X9 : Cond.initialized RX9 ∈ okW := ok_of (tb_1 (List.mem_of_getElem? (i := 1) rfl)) rfl
theorem wIN_X8 : Cond.initialized RX8 ∈ okW := ok_of (tb_1 (List.mem_of_getElem? (i := 2) rfl)) rfl
theorem wIN_X0 : Cond.initialized RX0 ∈ okW := ok_of (tb_1 (List.mem_of_getElem? (i := 3) rfl)) rfl
theorem wIN_X7 : Cond.initialized RX7 ∈ okW := ok_of (tb_1 (List.mem_of_getElem? (i := 4) rfl)) rfl
theorem wIN_X4 : Cond.initialized RX4 ∈ okW := ok_of (tb_1 (List.mem_of_getElem? (i := 5) rfl)) rfl
theorem wIN_X6 : Cond.initialized RX6 ∈ okW := ok_of (tb_1 (List.mem_of_getElem? (i := 6) rfl)) rfl
theorem wIN_X3 : Cond.initialized RX3 ∈ okW := ok_of (tb_1 (List.mem_of_getElem? (i := 7) rfl)) rfl
theorem wIN_X2 : Cond.initialized RX2 ∈ okW := ok_of (tb_1 (List.mem_of_getElem? (i := 8) rfl)) rfl
theorem wIN_X1 : Cond.initialized RX1 ∈ okW := ok_of (tb_1 (List.mem_of_getElem? (i := 9) rfl)) rfl
theorem wIN_X5 : Cond.initialized RX5 ∈ okW := ok_of (tb_1 (List.mem_of_getElem? (i := 10) rfl)) rfl
theorem wIN_X10 : Cond.initialized RX10 ∈ okW := ok_of (tb_1 (List.mem_of_getElem? (i := 11) rfl)) rfl
theorem wIN_J7 : Cond.initialized RJ7 ∈ okW := ok_of (tb_1 (List.mem_of_getElem? (i := 12) rfl)) rfl
theorem wIN_J0 : Cond.initialized RJ0 ∈ okW := ok_of (tb_1 (List.mem_of_getElem? (i := 13) rfl)) rfl
theorem wIN_J1 : Cond.initialized RJ1 ∈ okW := ok_of (tb_1 (List.mem_of_getElem? (i := 14) rfl)) rfl
theorem wIN_J3 : Cond.initialized RJ3 ∈ okW := ok_of (tb_1 (List.mem_of_getElem? (i := 15) rfl)) rfl
theorem wIN_J10 : Cond.initialized RJ10 ∈ okW := ok_of (tb_1 (List.mem_of_getElem? (i := 17) rfl)) rfl
theorem wIN_J9 : Cond.initialized RJ9 ∈ okW := ok_of (tb_1 (List.mem_of_getElem? (i := 18) rfl)) rfl
theorem wC_L_7 : Cond.classLink RL 7 RX9 ∈ okW := ok_of (tb_1 (List.mem_of_getElem? (i := 19) rfl)) rfl
theorem wIS_X9 : Cond.instantiable RX9 12 ∈ okW := ok_of (tb_1 (List.mem_of_getElem? (i := 20) rfl)) rfl
theorem wM_L_9 : Cond.methodLink RL 9 yX9_init ∈ okW := ok_of (tb_1 (List.mem_of_getElem? (i := 21) rfl)) rfl
theorem wIM_X9_init : Cond.instanceMethod yX9_init ∈ okW := ok_of (tb_1 (List.mem_of_getElem? (i := 22) rfl)) rfl
theorem wCD_X9_init : Cond.code yX9_init cX9_init 1 none ∈ okW := ok_of (tb_1 (List.mem_of_getElem? (i := 23) rfl)) rfl
theorem wM_X9_3 : Cond.methodLink RX9 3 objectInit ∈ okW := ok_of (tb_1 (List.mem_of_getElem? (i := 24) rfl)) rfl
theorem wIM_OBJ : Cond.instanceMethod objectInit ∈ okW := ok_of (tb_1 (List.mem_of_getElem? (i := 25) rfl)) rfl
theorem wCD_OBJ : Cond.code objectInit ⟨#[0xb1]⟩ 1 none ∈ okW := ok_of (tb_1 (List.mem_of_getElem? (i := 26) rfl)) rfl
theorem wC_X9_9 : Cond.classLink RX9 9 RX8 ∈ okW := ok_of (tb_1 (List.mem_of_getElem? (i := 27) rfl)) rfl
theorem wIS_X8 : Cond.instantiable RX8 17 ∈ okW := ok_of (tb_1 (List.mem_of_getElem? (i := 28) rfl)) rfl
theorem wM_X9_11 : Cond.methodLink RX9 11 yX8_init ∈ okW := ok_of (tb_1 (List.mem_of_getElem? (i := 29) rfl)) rfl
theorem wIM_X8_init : Cond.instanceMethod yX8_init ∈ okW := ok_of (tb_1 (List.mem_of_getElem? (i := 30) rfl)) rfl
theorem wCD_X8_init : Cond.code yX8_init cX8_init 2 none ∈ okW := ok_of (tb_1 (List.mem_of_getElem? (i := 31) rfl)) rfl
theorem wM_X8_3 : Cond.methodLink RX8 3 objectInit ∈ okW := ok_of (tb_1 (List.mem_of_getElem? (i := 32) rfl)) rfl
theorem wC_X8_9 : Cond.classLink RX8 9 RX0 ∈ okW := ok_of (tb_1 (List.mem_of_getElem? (i := 33) rfl)) rfl
theorem wC_X8_17 : Cond.classLink RX8 17 RX7 ∈ okW := ok_of (tb_1 (List.mem_of_getElem? (i := 35) rfl)) rfl
theorem wIS_X0 : Cond.instantiable RX0 18 ∈ okW := ok_of (tb_1 (List.mem_of_getElem? (i := 37) rfl)) rfl
theorem wIM_X0_init : Cond.instanceMethod yX0_init ∈ okW := ok_of (tb_1 (List.mem_of_getElem? (i := 39) rfl)) rfl
theorem wCD_X0_init : Cond.code yX0_init cX0_init 1 none ∈ okW := ok_of (tb_1 (List.mem_of_getElem? (i := 40) rfl)) rfl
theorem wM_X0_3 : Cond.methodLink RX0 3 objectInit ∈ okW := ok_of (tb_1 (List.mem_of_getElem? (i := 41) rfl)) rfl
theorem wC_X0_39 : Cond.classLink RX0 39 "[[I" ∈ okW := ok_of (tb_1 (List.mem_of_getElem? (i := 42) rfl)) rfl
theorem wF_X0_50 : Cond.fieldLink RX0 50 (TX0 0).1 (TX0 0).2.1 (TX0 0).2.2.1 ∈ okW := ok_of (tb_1 (List.mem_of_getElem? (i := 44) rfl)) rfl
theorem wF_X3_43 : Cond.fieldLink RX3 43 (TX0 0).1 (TX0 0).2.1 (TX0 0).2.2.1 ∈ okW := ok_of (tb_1 (List.mem_of_getElem? (i := 45) rfl)) rfl
theorem wF_X6_18 : Cond.fieldLink RX6 18 (TX0 0).1 (TX0 0).2.1 (TX0 0).2.2.1 ∈ okW := ok_of (tb_1 (List.mem_of_getElem? (i := 46) rfl)) rfl
theorem wF_X1_66 : Cond.fieldLink RX1 66 (TX0 0).1 (TX0 0).2.1 (TX0 0).2.2.1 ∈ okW := ok_of (tb_1 (List.mem_of_getElem? (i := 47) rfl)) rfl
theorem wF_X9_187 : Cond.fieldLink RX9 187 (TX0 0).1 (TX0 0).2.1 (TX0 0).2.2.1 ∈ okW := ok_of (tb_1 (List.mem_of_getElem? (i := 48) rfl)) rfl
theorem wF_X0_9 : Cond.fieldLink RX0 9 (TX0 1).1 (TX0 1).2.1 (TX0 1).2.2.1 ∈ okW := ok_of (tb_1 (List.mem_of_getElem? (i := 49) rfl)) rfl
theorem wF_X3_63 : Cond.fieldLink RX3 63 (TX0 1).1 (TX0 1).2.1 (TX0 1).2.2.1 ∈ okW := ok_of (tb_1 (List.mem_of_getElem? (i := 50) rfl)) rfl
theorem wF_X9_93 : Cond.fieldLink RX9 93 (TX0 1).1 (TX0 1).2.1 (TX0 1).2.2.1 ∈ okW := ok_of (tb_1 (List.mem_of_getElem? (i := 51) rfl)) rfl
theorem wF_X6_85 : Cond.fieldLink RX6 85 (TX0 1).1 (TX0 1).2.1 (TX0 1).2.2.1 ∈ okW := ok_of (tb_1 (List.mem_of_getElem? (i := 52) rfl)) rfl
theorem wF_X1_108 : Cond.fieldLink RX1 108 (TX0 1).1 (TX0 1).2.1 (TX0 1).2.2.1 ∈ okW := ok_of (tb_1 (List.mem_of_getElem? (i := 53) rfl)) rfl
theorem wF_X0_15 : Cond.fieldLink RX0 15 (TX0 2).1 (TX0 2).2.1 (TX0 2).2.2.1 ∈ okW := ok_of (tb_1 (List.mem_of_getElem? (i := 54) rfl)) rfl
theorem wF_X3_66 : Cond.fieldLink RX3 66 (TX0 2).1 (TX0 2).2.1 (TX0 2).2.2.1 ∈ okW := ok_of (tb_1 (List.mem_of_getElem? (i := 55) rfl)) rfl
theorem wF_X9_96 : Cond.fieldLink RX9 96 (TX0 2).1 (TX0 2).2.1 (TX0 2).2.2.1 ∈ okW := ok_of (tb_1 (List.mem_of_getElem? (i := 56) rfl)) rfl
theorem wF_X6_88 : Cond.fieldLink RX6 88 (TX0 2).1 (TX0 2).2.1 (TX0 2).2.2.1 ∈ okW := ok_of (tb_1 (List.mem_of_getElem? (i := 57) rfl)) rfl
theorem wF_X0_18 : Cond.fieldLink RX0 18 (TX0 3).1 (TX0 3).2.1 (TX0 3).2.2.1 ∈ okW := ok_of (tb_1 (List.mem_of_getElem? (i := 58) rfl)) rfl
theorem wF_X6_34 : Cond.fieldLink RX6 34 (TX0 3).1 (TX0 3).2.1 (TX0 3).2.2.1 ∈ okW := ok_of (tb_1 (List.mem_of_getElem? (i := 59) rfl)) rfl
theorem wF_X9_99 : Cond.fieldLink RX9 99 (TX0 3).1 (TX0 3).2.1 (TX0 3).2.2.1 ∈ okW := ok_of (tb_1 (List.mem_of_getElem? (i := 60) rfl)) rfl
theorem wF_X0_21 : Cond.fieldLink RX0 21 (TX0 4).1 (TX0 4).2.1 (TX0 4).2.2.1 ∈ okW := ok_of (tb_1 (List.mem_of_getElem? (i := 61) rfl)) rfl
theorem wF_X3_69 : Cond.fieldLink RX3 69 (TX0 4).1 (TX0 4).2.1 (TX0 4).2.2.1 ∈ okW := ok_of (tb_1 (List.mem_of_getElem? (i := 62) rfl)) rfl
theorem wF_X9_102 : Cond.fieldLink RX9 102 (TX0 4).1 (TX0 4).2.1 (TX0 4).2.2.1 ∈ okW := ok_of (tb_1 (List.mem_of_getElem? (i := 63) rfl)) rfl
theorem wF_X6_91 : Cond.fieldLink RX6 91 (TX0 4).1 (TX0 4).2.1 (TX0 4).2.2.1 ∈ okW := ok_of (tb_1 (List.mem_of_getElem? (i := 64) rfl)) rfl
theorem wF_X1_119 : Cond.fieldLink RX1 119 (TX0 4).1 (TX0 4).2.1 (TX0 4).2.2.1 ∈ okW := ok_of (tb_1 (List.mem_of_getElem? (i := 65) rfl)) rfl
theorem wF_X0_24 : Cond.fieldLink RX0 24 (TX0 5).1 (TX0 5).2.1 (TX0 5).2.2.1 ∈ okW := ok_of (tb_1 (List.mem_of_getElem? (i := 66) rfl)) rfl
theorem wF_X3_62 : Cond.fieldLink RX3 62 (TX0 5).1 (TX0 5).2.1 (TX0 5).2.2.1 ∈ okW := ok_of (tb_1 (List.mem_of_getElem? (i := 67) rfl)) rfl
theorem wF_X9_181 : Cond.fieldLink RX9 181 (TX0 5).1 (TX0 5).2.1 (TX0 5).2.2.1 ∈ okW := ok_of (tb_1 (List.mem_of_getElem? (i := 68) rfl)) rfl
theorem wF_X0_27 : Cond.fieldLink RX0 27 (TX0 6).1 (TX0 6).2.1 (TX0 6).2.2.1 ∈ okW := ok_of (tb_1 (List.mem_of_getElem? (i := 69) rfl)) rfl
theorem wF_X9_174 : Cond.fieldLink RX9 174 (TX0 6).1 (TX0 6).2.1 (TX0 6).2.2.1 ∈ okW := ok_of (tb_1 (List.mem_of_getElem? (i := 70) rfl)) rfl
theorem wF_X0_30 : Cond.fieldLink RX0 30 (TX0 7).1 (TX0 7).2.1 (TX0 7).2.2.1 ∈ okW := ok_of (tb_1 (List.mem_of_getElem? (i := 71) rfl)) rfl
theorem wF_X9_177 : Cond.fieldLink RX9 177 (TX0 7).1 (TX0 7).2.1 (TX0 7).2.2.1 ∈ okW := ok_of (tb_1 (List.mem_of_getElem? (i := 72) rfl)) rfl
theorem wF_X0_60 : Cond.fieldLink RX0 60 (TX0 8).1 (TX0 8).2.1 (TX0 8).2.2.1 ∈ okW := ok_of (tb_1 (List.mem_of_getElem? (i := 73) rfl)) rfl
theorem wF_X9_86 : Cond.fieldLink RX9 86 (TX0 8).1 (TX0 8).2.1 (TX0 8).2.2.1 ∈ okW := ok_of (tb_1 (List.mem_of_getElem? (i := 74) rfl)) rfl
theorem wF_X0_63 : Cond.fieldLink RX0 63 (TX0 9).1 (TX0 9).2.1 (TX0 9).2.2.1 ∈ okW := ok_of (tb_1 (List.mem_of_getElem? (i := 75) rfl)) rfl
theorem wF_X9_197 : Cond.fieldLink RX9 197 (TX0 9).1 (TX0 9).2.1 (TX0 9).2.2.1 ∈ okW := ok_of (tb_1 (List.mem_of_getElem? (i := 76) rfl)) rfl
theorem wF_X0_33 : Cond.fieldLink RX0 33 (TX0 10).1 (TX0 10).2.1 (TX0 10).2.2.1 ∈ okW := ok_of (tb_1 (List.mem_of_getElem? (i := 77) rfl)) rfl
theorem wF_X1_52 : Cond.fieldLink RX1 52 (TX0 10).1 (TX0 10).2.1 (TX0 10).2.2.1 ∈ okW := ok_of (tb_1 (List.mem_of_getElem? (i := 78) rfl)) rfl
theorem wF_X9_398 : Cond.fieldLink RX9 398 (TX0 10).1 (TX0 10).2.1 (TX0 10).2.2.1 ∈ okW := ok_of (tb_1 (List.mem_of_getElem? (i := 79) rfl)) rfl
theorem wF_X0_36 : Cond.fieldLink RX0 36 (TX0 11).1 (TX0 11).2.1 (TX0 11).2.2.1 ∈ okW := ok_of (tb_1 (List.mem_of_getElem? (i := 80) rfl)) rfl
theorem wF_X1_101 : Cond.fieldLink RX1 101 (TX0 11).1 (TX0 11).2.1 (TX0 11).2.2.1 ∈ okW := ok_of (tb_1 (List.mem_of_getElem? (i := 81) rfl)) rfl
theorem wF_X9_408 : Cond.fieldLink RX9 408 (TX0 11).1 (TX0 11).2.1 (TX0 11).2.2.1 ∈ okW := ok_of (tb_1 (List.mem_of_getElem? (i := 82) rfl)) rfl
theorem wF_X0_41 : Cond.fieldLink RX0 41 (TX0 12).1 (TX0 12).2.1 (TX0 12).2.2.1 ∈ okW := ok_of (tb_1 (List.mem_of_getElem? (i := 83) rfl)) rfl
theorem wF_X1_55 : Cond.fieldLink RX1 55 (TX0 12).1 (TX0 12).2.1 (TX0 12).2.2.1 ∈ okW := ok_of (tb_1 (List.mem_of_getElem? (i := 84) rfl)) rfl
theorem wF_X9_401 : Cond.fieldLink RX9 401 (TX0 12).1 (TX0 12).2.1 (TX0 12).2.2.1 ∈ okW := ok_of (tb_1 (List.mem_of_getElem? (i := 85) rfl)) rfl
theorem wF_X0_44 : Cond.fieldLink RX0 44 (TX0 13).1 (TX0 13).2.1 (TX0 13).2.2.1 ∈ okW := ok_of (tb_1 (List.mem_of_getElem? (i := 86) rfl)) rfl
theorem wF_X1_59 : Cond.fieldLink RX1 59 (TX0 13).1 (TX0 13).2.1 (TX0 13).2.2.1 ∈ okW := ok_of (tb_1 (List.mem_of_getElem? (i := 87) rfl)) rfl
theorem wF_X9_405 : Cond.fieldLink RX9 405 (TX0 13).1 (TX0 13).2.1 (TX0 13).2.2.1 ∈ okW := ok_of (tb_1 (List.mem_of_getElem? (i := 88) rfl)) rfl
theorem wF_X1_47 : Cond.fieldLink RX1 47 (TX0 14).1 (TX0 14).2.1 (TX0 14).2.2.1 ∈ okW := ok_of (tb_1 (List.mem_of_getElem? (i := 89) rfl)) rfl
theorem wF_X0_66 : Cond.fieldLink RX0 66 (TX0 14).1 (TX0 14).2.1 (TX0 14).2.2.1 ∈ okW := ok_of (tb_1 (List.mem_of_getElem? (i := 90) rfl)) rfl
theorem wF_X9_200 : Cond.fieldLink RX9 200 (TX0 14).1 (TX0 14).2.1 (TX0 14).2.2.1 ∈ okW := ok_of (tb_1 (List.mem_of_getElem? (i := 91) rfl)) rfl
theorem wF_X0_69 : Cond.fieldLink RX0 69 (TX0 15).1 (TX0 15).2.1 (TX0 15).2.2.1 ∈ okW := ok_of (tb_1 (List.mem_of_getElem? (i := 92) rfl)) rfl
theorem wF_X9_266 : Cond.fieldLink RX9 266 (TX0 15).1 (TX0 15).2.1 (TX0 15).2.2.1 ∈ okW := ok_of (tb_1 (List.mem_of_getElem? (i := 93) rfl)) rfl
theorem wF_X0_72 : Cond.fieldLink RX0 72 (TX0 16).1 (TX0 16).2.1 (TX0 16).2.2.1 ∈ okW := ok_of (tb_1 (List.mem_of_getElem? (i := 94) rfl)) rfl
theorem wF_X9_269 : Cond.fieldLink RX9 269 (TX0 16).1 (TX0 16).2.1 (TX0 16).2.2.1 ∈ okW := ok_of (tb_1 (List.mem_of_getElem? (i := 95) rfl)) rfl
theorem wF_X0_47 : Cond.fieldLink RX0 47 (TX0 17).1 (TX0 17).2.1 (TX0 17).2.2.1 ∈ okW := ok_of (tb_1 (List.mem_of_getElem? (i := 96) rfl)) rfl
theorem wF_X9_272 : Cond.fieldLink RX9 272 (TX0 17).1 (TX0 17).2.1 (TX0 17).2.2.1 ∈ okW := ok_of (tb_1 (List.mem_of_getElem? (i := 97) rfl)) rfl
theorem wLY_0_0 : u_lay RX0 TX0 0 ∈ okW := ok_of (tb_1 (List.mem_of_getElem? (i := 98) rfl)) rfl
theorem wLY_0_1 : u_lay RX0 TX0 1 ∈ okW := ok_of (tb_1 (List.mem_of_getElem? (i := 100) rfl)) rfl
theorem wLY_0_2 : u_lay RX0 TX0 2 ∈ okW := ok_of (tb_1 (List.mem_of_getElem? (i := 102) rfl)) rfl
theorem wLY_0_3 : u_lay RX0 TX0 3 ∈ okW := ok_of (tb_1 (List.mem_of_getElem? (i := 104) rfl)) rfl
theorem wLY_0_4 : u_lay RX0 TX0 4 ∈ okW := ok_of (tb_1 (List.mem_of_getElem? (i := 106) rfl)) rfl
theorem wLY_0_5 : u_lay RX0 TX0 5 ∈ okW := ok_of (tb_1 (List.mem_of_getElem? (i := 108) rfl)) rfl
theorem wLY_0_6 : u_lay RX0 TX0 6 ∈ okW := ok_of (tb_1 (List.mem_of_getElem? (i := 110) rfl)) rfl
theorem wLY_0_7 : u_lay RX0 TX0 7 ∈ okW := ok_of (tb_1 (List.mem_of_getElem? (i := 112) rfl)) rfl
theorem wLY_0_8 : u_lay RX0 TX0 8 ∈ okW := ok_of (tb_1 (List.mem_of_getElem? (i := 114) rfl)) rfl
theorem wLY_0_9 : u_lay RX0 TX0 9 ∈ okW := ok_of (tb_1 (List.mem_of_getElem? (i := 116) rfl)) rfl
theorem wLY_0_10 : u_lay RX0 TX0 10 ∈ okW := ok_of (tb_1 (List.mem_of_getElem? (i := 118) rfl)) rfl
theorem wLY_0_11 : u_lay RX0 TX0 11 ∈ okW := ok_of (tb_1 (List.mem_of_getElem? (i := 120) rfl)) rfl
theorem wLY_0_12 : u_lay RX0 TX0 12 ∈ okW := ok_of (tb_1 (List.mem_of_getElem? (i := 122) rfl)) rfl
theorem wLY_0_13 : u_lay RX0 TX0 13 ∈ okW := ok_of (tb_1 (List.mem_of_getElem? (i := 124) rfl)) rfl
theorem wLY_0_14 : u_lay RX0 TX0 14 ∈ okW := ok_of (tb_1 (List.mem_of_getElem? (i := 126) rfl)) rfl
theorem wLY_0_15 : u_lay RX0 TX0 15 ∈ okW := ok_of (tb_1 (List.mem_of_getElem? (i := 128) rfl)) rfl
theorem wLY_0_16 : u_lay RX0 TX0 16 ∈ okW := ok_of (tb_1 (List.mem_of_getElem? (i := 130) rfl)) rfl
theorem wLY_0_17 : u_lay RX0 TX0 17 ∈ okW := ok_of (tb_1 (List.mem_of_getElem? (i := 132) rfl)) rfl
theorem wAC_int : Cond.arrayClass .int ∈ okW := ok_of (tb_1 (List.mem_of_getElem? (i := 135) rfl)) rfl
theorem wIS_X7 : Cond.instantiable RX7 10 ∈ okW := ok_of (tb_1 (List.mem_of_getElem? (i := 136) rfl)) rfl
theorem wIM_X7_init : Cond.instanceMethod yX7_init ∈ okW := ok_of (tb_1 (List.mem_of_getElem? (i := 138) rfl)) rfl
theorem wCD_X7_init : Cond.code yX7_init cX7_init 1 none ∈ okW := ok_of (tb_1 (List.mem_of_getElem? (i := 139) rfl)) rfl
theorem wM_X7_3 : Cond.methodLink RX7 3 objectInit ∈ okW := ok_of (tb_1 (List.mem_of_getElem? (i := 140) rfl)) rfl
theorem wF_X7_36 : Cond.fieldLink RX7 36 (TX7 0).1 (TX7 0).2.1 (TX7 0).2.2.1 ∈ okW := ok_of (tb_1 (List.mem_of_getElem? (i := 141) rfl)) rfl
theorem wF_X6_43 : Cond.fieldLink RX6 43 (TX7 0).1 (TX7 0).2.1 (TX7 0).2.2.1 ∈ okW := ok_of (tb_1 (List.mem_of_getElem? (i := 142) rfl)) rfl
theorem wF_X9_144 : Cond.fieldLink RX9 144 (TX7 0).1 (TX7 0).2.1 (TX7 0).2.2.1 ∈ okW := ok_of (tb_1 (List.mem_of_getElem? (i := 143) rfl)) rfl
theorem wF_X4_84 : Cond.fieldLink RX4 84 (TX7 0).1 (TX7 0).2.1 (TX7 0).2.2.1 ∈ okW := ok_of (tb_1 (List.mem_of_getElem? (i := 144) rfl)) rfl
theorem wF_X7_9 : Cond.fieldLink RX7 9 (TX7 1).1 (TX7 1).2.1 (TX7 1).2.2.1 ∈ okW := ok_of (tb_1 (List.mem_of_getElem? (i := 145) rfl)) rfl
theorem wF_X6_48 : Cond.fieldLink RX6 48 (TX7 1).1 (TX7 1).2.1 (TX7 1).2.2.1 ∈ okW := ok_of (tb_1 (List.mem_of_getElem? (i := 146) rfl)) rfl
theorem wF_X4_87 : Cond.fieldLink RX4 87 (TX7 1).1 (TX7 1).2.1 (TX7 1).2.2.1 ∈ okW := ok_of (tb_1 (List.mem_of_getElem? (i := 147) rfl)) rfl
theorem wF_X9_389 : Cond.fieldLink RX9 389 (TX7 1).1 (TX7 1).2.1 (TX7 1).2.2.1 ∈ okW := ok_of (tb_1 (List.mem_of_getElem? (i := 148) rfl)) rfl
theorem wF_X7_15 : Cond.fieldLink RX7 15 (TX7 2).1 (TX7 2).2.1 (TX7 2).2.2.1 ∈ okW := ok_of (tb_1 (List.mem_of_getElem? (i := 149) rfl)) rfl
theorem wF_X6_51 : Cond.fieldLink RX6 51 (TX7 2).1 (TX7 2).2.1 (TX7 2).2.2.1 ∈ okW := ok_of (tb_1 (List.mem_of_getElem? (i := 150) rfl)) rfl
theorem wF_X4_90 : Cond.fieldLink RX4 90 (TX7 2).1 (TX7 2).2.1 (TX7 2).2.2.1 ∈ okW := ok_of (tb_1 (List.mem_of_getElem? (i := 151) rfl)) rfl
theorem wF_X9_383 : Cond.fieldLink RX9 383 (TX7 2).1 (TX7 2).2.1 (TX7 2).2.2.1 ∈ okW := ok_of (tb_1 (List.mem_of_getElem? (i := 152) rfl)) rfl
theorem wF_X7_18 : Cond.fieldLink RX7 18 (TX7 3).1 (TX7 3).2.1 (TX7 3).2.2.1 ∈ okW := ok_of (tb_1 (List.mem_of_getElem? (i := 153) rfl)) rfl
theorem wF_X4_122 : Cond.fieldLink RX4 122 (TX7 3).1 (TX7 3).2.1 (TX7 3).2.2.1 ∈ okW := ok_of (tb_1 (List.mem_of_getElem? (i := 154) rfl)) rfl
theorem wF_X9_392 : Cond.fieldLink RX9 392 (TX7 3).1 (TX7 3).2.1 (TX7 3).2.2.1 ∈ okW := ok_of (tb_1 (List.mem_of_getElem? (i := 155) rfl)) rfl
theorem wF_X7_21 : Cond.fieldLink RX7 21 (TX7 4).1 (TX7 4).2.1 (TX7 4).2.2.1 ∈ okW := ok_of (tb_1 (List.mem_of_getElem? (i := 156) rfl)) rfl
theorem wF_X4_125 : Cond.fieldLink RX4 125 (TX7 4).1 (TX7 4).2.1 (TX7 4).2.2.1 ∈ okW := ok_of (tb_1 (List.mem_of_getElem? (i := 157) rfl)) rfl
theorem wF_X9_386 : Cond.fieldLink RX9 386 (TX7 4).1 (TX7 4).2.1 (TX7 4).2.2.1 ∈ okW := ok_of (tb_1 (List.mem_of_getElem? (i := 158) rfl)) rfl
theorem wF_X7_24 : Cond.fieldLink RX7 24 (TX7 5).1 (TX7 5).2.1 (TX7 5).2.2.1 ∈ okW := ok_of (tb_1 (List.mem_of_getElem? (i := 159) rfl)) rfl
theorem wF_X6_68 : Cond.fieldLink RX6 68 (TX7 5).1 (TX7 5).2.1 (TX7 5).2.2.1 ∈ okW := ok_of (tb_1 (List.mem_of_getElem? (i := 160) rfl)) rfl
theorem wF_X4_93 : Cond.fieldLink RX4 93 (TX7 5).1 (TX7 5).2.1 (TX7 5).2.2.1 ∈ okW := ok_of (tb_1 (List.mem_of_getElem? (i := 161) rfl)) rfl
theorem wF_X7_27 : Cond.fieldLink RX7 27 (TX7 6).1 (TX7 6).2.1 (TX7 6).2.2.1 ∈ okW := ok_of (tb_1 (List.mem_of_getElem? (i := 162) rfl)) rfl
theorem wF_X6_58 : Cond.fieldLink RX6 58 (TX7 6).1 (TX7 6).2.1 (TX7 6).2.2.1 ∈ okW := ok_of (tb_1 (List.mem_of_getElem? (i := 163) rfl)) rfl
theorem wF_X4_110 : Cond.fieldLink RX4 110 (TX7 6).1 (TX7 6).2.1 (TX7 6).2.2.1 ∈ okW := ok_of (tb_1 (List.mem_of_getElem? (i := 164) rfl)) rfl
theorem wF_X9_374 : Cond.fieldLink RX9 374 (TX7 6).1 (TX7 6).2.1 (TX7 6).2.2.1 ∈ okW := ok_of (tb_1 (List.mem_of_getElem? (i := 165) rfl)) rfl
theorem wF_X7_30 : Cond.fieldLink RX7 30 (TX7 7).1 (TX7 7).2.1 (TX7 7).2.2.1 ∈ okW := ok_of (tb_1 (List.mem_of_getElem? (i := 166) rfl)) rfl
theorem wF_X6_61 : Cond.fieldLink RX6 61 (TX7 7).1 (TX7 7).2.1 (TX7 7).2.2.1 ∈ okW := ok_of (tb_1 (List.mem_of_getElem? (i := 167) rfl)) rfl
theorem wF_X4_116 : Cond.fieldLink RX4 116 (TX7 7).1 (TX7 7).2.1 (TX7 7).2.2.1 ∈ okW := ok_of (tb_1 (List.mem_of_getElem? (i := 168) rfl)) rfl
theorem wF_X9_377 : Cond.fieldLink RX9 377 (TX7 7).1 (TX7 7).2.1 (TX7 7).2.2.1 ∈ okW := ok_of (tb_1 (List.mem_of_getElem? (i := 169) rfl)) rfl
theorem wF_X7_33 : Cond.fieldLink RX7 33 (TX7 8).1 (TX7 8).2.1 (TX7 8).2.2.1 ∈ okW := ok_of (tb_1 (List.mem_of_getElem? (i := 170) rfl)) rfl
theorem wF_X6_94 : Cond.fieldLink RX6 94 (TX7 8).1 (TX7 8).2.1 (TX7 8).2.2.1 ∈ okW := ok_of (tb_1 (List.mem_of_getElem? (i := 171) rfl)) rfl
theorem wF_X7_40 : Cond.fieldLink RX7 40 (TX7 9).1 (TX7 9).2.1 (TX7 9).2.2.1 ∈ okW := ok_of (tb_1 (List.mem_of_getElem? (i := 172) rfl)) rfl
theorem wF_X4_96 : Cond.fieldLink RX4 96 (TX7 9).1 (TX7 9).2.1 (TX7 9).2.2.1 ∈ okW := ok_of (tb_1 (List.mem_of_getElem? (i := 173) rfl)) rfl
theorem wLY_7_0 : u_lay RX7 TX7 0 ∈ okW := ok_of (tb_1 (List.mem_of_getElem? (i := 174) rfl)) rfl
theorem wLY_7_1 : u_lay RX7 TX7 1 ∈ okW := ok_of (tb_1 (List.mem_of_getElem? (i := 176) rfl)) rfl
theorem wLY_7_2 : u_lay RX7 TX7 2 ∈ okW := ok_of (tb_1 (List.mem_of_getElem? (i := 178) rfl)) rfl
theorem wLY_7_3 : u_lay RX7 TX7 3 ∈ okW := ok_of (tb_1 (List.mem_of_getElem? (i := 180) rfl)) rfl
theorem wLY_7_4 : u_lay RX7 TX7 4 ∈ okW := ok_of (tb_1 (List.mem_of_getElem? (i := 182) rfl)) rfl
theorem wLY_7_5 : u_lay RX7 TX7 5 ∈ okW := ok_of (tb_1 (List.mem_of_getElem? (i := 184) rfl)) rfl
theorem wLY_7_6 : u_lay RX7 TX7 6 ∈ okW := ok_of (tb_1 (List.mem_of_getElem? (i := 186) rfl)) rfl
theorem wLY_7_7 : u_lay RX7 TX7 7 ∈ okW := ok_of (tb_1 (List.mem_of_getElem? (i := 188) rfl)) rfl
theorem wLY_7_8 : u_lay RX7 TX7 8 ∈ okW := ok_of (tb_1 (List.mem_of_getElem? (i := 190) rfl)) rfl
theorem wLY_7_9 : u_lay RX7 TX7 9 ∈ okW := ok_of (tb_1 (List.mem_of_getElem? (i := 192) rfl)) rfl
theorem wF_X8_11 : Cond.fieldLink RX8 11 (TX8 0).1 (TX8 0).2.1 (TX8 0).2.2.1 ∈ okW := ok_of (tb_1 (List.mem_of_getElem? (i := 195) rfl)) rfl
theorem wF_X9_68 : Cond.fieldLink RX9 68 (TX8 0).1 (TX8 0).2.1 (TX8 0).2.2.1 ∈ okW := ok_of (tb_1 (List.mem_of_getElem? (i := 196) rfl)) rfl
theorem wF_X9_64 : Cond.fieldLink RX9 64 (TX8 1).1 (TX8 1).2.1 (TX8 1).2.2.1 ∈ okW := ok_of (tb_1 (List.mem_of_getElem? (i := 197) rfl)) rfl
theorem wF_X8_57 : Cond.fieldLink RX8 57 (TX8 1).1 (TX8 1).2.1 (TX8 1).2.2.1 ∈ okW := ok_of (tb_1 (List.mem_of_getElem? (i := 198) rfl)) rfl
theorem wF_X8_19 : Cond.fieldLink RX8 19 (TX8 2).1 (TX8 2).2.1 (TX8 2).2.2.1 ∈ okW := ok_of (tb_1 (List.mem_of_getElem? (i := 199) rfl)) rfl
theorem wF_X9_158 : Cond.fieldLink RX9 158 (TX8 2).1 (TX8 2).2.1 (TX8 2).2.2.1 ∈ okW := ok_of (tb_1 (List.mem_of_getElem? (i := 200) rfl)) rfl
theorem wF_X8_23 : Cond.fieldLink RX8 23 (TX8 3).1 (TX8 3).2.1 (TX8 3).2.2.1 ∈ okW := ok_of (tb_1 (List.mem_of_getElem? (i := 201) rfl)) rfl
theorem wF_X9_220 : Cond.fieldLink RX9 220 (TX8 3).1 (TX8 3).2.1 (TX8 3).2.2.1 ∈ okW := ok_of (tb_1 (List.mem_of_getElem? (i := 202) rfl)) rfl
theorem wF_X8_54 : Cond.fieldLink RX8 54 (TX8 4).1 (TX8 4).2.1 (TX8 4).2.2.1 ∈ okW := ok_of (tb_1 (List.mem_of_getElem? (i := 203) rfl)) rfl
theorem wF_X9_147 : Cond.fieldLink RX9 147 (TX8 4).1 (TX8 4).2.1 (TX8 4).2.2.1 ∈ okW := ok_of (tb_1 (List.mem_of_getElem? (i := 204) rfl)) rfl
theorem wF_X8_26 : Cond.fieldLink RX8 26 (TX8 5).1 (TX8 5).2.1 (TX8 5).2.2.1 ∈ okW := ok_of (tb_1 (List.mem_of_getElem? (i := 205) rfl)) rfl
theorem wF_X9_184 : Cond.fieldLink RX9 184 (TX8 5).1 (TX8 5).2.1 (TX8 5).2.2.1 ∈ okW := ok_of (tb_1 (List.mem_of_getElem? (i := 206) rfl)) rfl
theorem wF_X8_67 : Cond.fieldLink RX8 67 (TX8 6).1 (TX8 6).2.1 (TX8 6).2.2.1 ∈ okW := ok_of (tb_1 (List.mem_of_getElem? (i := 207) rfl)) rfl
theorem wF_X9_111 : Cond.fieldLink RX9 111 (TX8 6).1 (TX8 6).2.1 (TX8 6).2.2.1 ∈ okW := ok_of (tb_1 (List.mem_of_getElem? (i := 208) rfl)) rfl
theorem wF_X8_30 : Cond.fieldLink RX8 30 (TX8 7).1 (TX8 7).2.1 (TX8 7).2.2.1 ∈ okW := ok_of (tb_1 (List.mem_of_getElem? (i := 209) rfl)) rfl
theorem wF_X9_114 : Cond.fieldLink RX9 114 (TX8 7).1 (TX8 7).2.1 (TX8 7).2.2.1 ∈ okW := ok_of (tb_1 (List.mem_of_getElem? (i := 210) rfl)) rfl
theorem wF_X8_33 : Cond.fieldLink RX8 33 (TX8 8).1 (TX8 8).2.1 (TX8 8).2.2.1 ∈ okW := ok_of (tb_1 (List.mem_of_getElem? (i := 211) rfl)) rfl
theorem wF_X9_296 : Cond.fieldLink RX9 296 (TX8 8).1 (TX8 8).2.1 (TX8 8).2.2.1 ∈ okW := ok_of (tb_1 (List.mem_of_getElem? (i := 212) rfl)) rfl
theorem wF_X8_37 : Cond.fieldLink RX8 37 (TX8 9).1 (TX8 9).2.1 (TX8 9).2.2.1 ∈ okW := ok_of (tb_1 (List.mem_of_getElem? (i := 213) rfl)) rfl
theorem wF_X9_299 : Cond.fieldLink RX9 299 (TX8 9).1 (TX8 9).2.1 (TX8 9).2.2.1 ∈ okW := ok_of (tb_1 (List.mem_of_getElem? (i := 214) rfl)) rfl
theorem wF_X8_76 : Cond.fieldLink RX8 76 (TX8 10).1 (TX8 10).2.1 (TX8 10).2.2.1 ∈ okW := ok_of (tb_1 (List.mem_of_getElem? (i := 215) rfl)) rfl
theorem wF_X9_293 : Cond.fieldLink RX9 293 (TX8 10).1 (TX8 10).2.1 (TX8 10).2.2.1 ∈ okW := ok_of (tb_1 (List.mem_of_getElem? (i := 216) rfl)) rfl
theorem wF_X8_40 : Cond.fieldLink RX8 40 (TX8 11).1 (TX8 11).2.1 (TX8 11).2.2.1 ∈ okW := ok_of (tb_1 (List.mem_of_getElem? (i := 217) rfl)) rfl
theorem wF_X9_320 : Cond.fieldLink RX9 320 (TX8 11).1 (TX8 11).2.1 (TX8 11).2.2.1 ∈ okW := ok_of (tb_1 (List.mem_of_getElem? (i := 218) rfl)) rfl
theorem wF_X8_43 : Cond.fieldLink RX8 43 (TX8 12).1 (TX8 12).2.1 (TX8 12).2.2.1 ∈ okW := ok_of (tb_1 (List.mem_of_getElem? (i := 219) rfl)) rfl
theorem wF_X5_55 : Cond.fieldLink RX5 55 (TX8 12).1 (TX8 12).2.1 (TX8 12).2.2.1 ∈ okW := ok_of (tb_1 (List.mem_of_getElem? (i := 220) rfl)) rfl
theorem wF_X9_323 : Cond.fieldLink RX9 323 (TX8 12).1 (TX8 12).2.1 (TX8 12).2.2.1 ∈ okW := ok_of (tb_1 (List.mem_of_getElem? (i := 221) rfl)) rfl
theorem wF_X5_38 : Cond.fieldLink RX5 38 (TX8 13).1 (TX8 13).2.1 (TX8 13).2.2.1 ∈ okW := ok_of (tb_1 (List.mem_of_getElem? (i := 222) rfl)) rfl
theorem wF_X8_79 : Cond.fieldLink RX8 79 (TX8 13).1 (TX8 13).2.1 (TX8 13).2.2.1 ∈ okW := ok_of (tb_1 (List.mem_of_getElem? (i := 223) rfl)) rfl
theorem wF_X9_317 : Cond.fieldLink RX9 317 (TX8 13).1 (TX8 13).2.1 (TX8 13).2.2.1 ∈ okW := ok_of (tb_1 (List.mem_of_getElem? (i := 224) rfl)) rfl
theorem wF_X8_46 : Cond.fieldLink RX8 46 (TX8 14).1 (TX8 14).2.1 (TX8 14).2.2.1 ∈ okW := ok_of (tb_1 (List.mem_of_getElem? (i := 225) rfl)) rfl
theorem wF_X5_52 : Cond.fieldLink RX5 52 (TX8 14).1 (TX8 14).2.1 (TX8 14).2.2.1 ∈ okW := ok_of (tb_1 (List.mem_of_getElem? (i := 226) rfl)) rfl
theorem wF_X9_329 : Cond.fieldLink RX9 329 (TX8 14).1 (TX8 14).2.1 (TX8 14).2.2.1 ∈ okW := ok_of (tb_1 (List.mem_of_getElem? (i := 227) rfl)) rfl
theorem wF_X8_49 : Cond.fieldLink RX8 49 (TX8 15).1 (TX8 15).2.1 (TX8 15).2.2.1 ∈ okW := ok_of (tb_1 (List.mem_of_getElem? (i := 228) rfl)) rfl
theorem wF_X5_62 : Cond.fieldLink RX5 62 (TX8 15).1 (TX8 15).2.1 (TX8 15).2.2.1 ∈ okW := ok_of (tb_1 (List.mem_of_getElem? (i := 229) rfl)) rfl
theorem wF_X9_332 : Cond.fieldLink RX9 332 (TX8 15).1 (TX8 15).2.1 (TX8 15).2.2.1 ∈ okW := ok_of (tb_1 (List.mem_of_getElem? (i := 230) rfl)) rfl
theorem wF_X5_49 : Cond.fieldLink RX5 49 (TX8 16).1 (TX8 16).2.1 (TX8 16).2.2.1 ∈ okW := ok_of (tb_1 (List.mem_of_getElem? (i := 231) rfl)) rfl
theorem wF_X8_82 : Cond.fieldLink RX8 82 (TX8 16).1 (TX8 16).2.1 (TX8 16).2.2.1 ∈ okW := ok_of (tb_1 (List.mem_of_getElem? (i := 232) rfl)) rfl
theorem wF_X9_326 : Cond.fieldLink RX9 326 (TX8 16).1 (TX8 16).2.1 (TX8 16).2.2.1 ∈ okW := ok_of (tb_1 (List.mem_of_getElem? (i := 233) rfl)) rfl
theorem wLY_8_0 : u_lay RX8 TX8 0 ∈ okW := ok_of (tb_1 (List.mem_of_getElem? (i := 234) rfl)) rfl
theorem wLY_8_1 : u_lay RX8 TX8 1 ∈ okW := ok_of (tb_1 (List.mem_of_getElem? (i := 236) rfl)) rfl
theorem wLY_8_2 : u_lay RX8 TX8 2 ∈ okW := ok_of (tb_1 (List.mem_of_getElem? (i := 238) rfl)) rfl
theorem wLY_8_3 : u_lay RX8 TX8 3 ∈ okW := ok_of (tb_2 (List.mem_of_getElem? (i := 0) rfl)) rfl
theorem wLY_8_4 : u_lay RX8 TX8 4 ∈ okW := ok_of (tb_2 (List.mem_of_getElem? (i := 2) rfl)) rfl
theorem wLY_8_5 : u_lay RX8 TX8 5 ∈ okW := ok_of (tb_2 (List.mem_of_getElem? (i := 4) rfl)) rfl
theorem wLY_8_6 : u_lay RX8 TX8 6 ∈ okW := ok_of (tb_2 (List.mem_of_getElem? (i := 6) rfl)) rfl
theorem wLY_8_7 : u_lay RX8 TX8 7 ∈ okW := ok_of (tb_2 (List.mem_of_getElem? (i := 8) rfl)) rfl
theorem wLY_8_8 : u_lay RX8 TX8 8 ∈ okW := ok_of (tb_2 (List.mem_of_getElem? (i := 10) rfl)) rfl
theorem wLY_8_9 : u_lay RX8 TX8 9 ∈ okW := ok_of (tb_2 (List.mem_of_getElem? (i := 12) rfl)) rfl
theorem wLY_8_10 : u_lay RX8 TX8 10 ∈ okW := ok_of (tb_2 (List.mem_of_getElem? (i := 14) rfl)) rfl
theorem wLY_8_11 : u_lay RX8 TX8 11 ∈ okW := ok_of (tb_2 (List.mem_of_getElem? (i := 16) rfl)) rfl
theorem wLY_8_12 : u_lay RX8 TX8 12 ∈ okW := ok_of (tb_2 (List.mem_of_getElem? (i := 18) rfl)) rfl
theorem wLY_8_13 : u_lay RX8 TX8 13 ∈ okW := ok_of (tb_2 (List.mem_of_getElem? (i := 20) rfl)) rfl
theorem wLY_8_14 : u_lay RX8 TX8 14 ∈ okW := ok_of (tb_2 (List.mem_of_getElem? (i := 22) rfl)) rfl
theorem wLY_8_15 : u_lay RX8 TX8 15 ∈ okW := ok_of (tb_2 (List.mem_of_getElem? (i := 24) rfl)) rfl
theorem wLY_8_16 : u_lay RX8 TX8 16 ∈ okW := ok_of (tb_2 (List.mem_of_getElem? (i := 26) rfl)) rfl
theorem wC_X9_20 : Cond.classLink RX9 20 RX4 ∈ okW := ok_of (tb_2 (List.mem_of_getElem? (i := 29) rfl)) rfl
theorem wIS_X4 : Cond.instantiable RX4 9 ∈ okW := ok_of (tb_2 (List.mem_of_getElem? (i := 30) rfl)) rfl
theorem wIM_X4_init : Cond.instanceMethod yX4_init ∈ okW := ok_of (tb_2 (List.mem_of_getElem? (i := 32) rfl)) rfl
theorem wCD_X4_init : Cond.code yX4_init cX4_init 1 none ∈ okW := ok_of (tb_2 (List.mem_of_getElem? (i := 33) rfl)) rfl
theorem wM_X4_3 : Cond.methodLink RX4 3 objectInit ∈ okW := ok_of (tb_2 (List.mem_of_getElem? (i := 34) rfl)) rfl
theorem wC_X4_9 : Cond.classLink RX4 9 RX7 ∈ okW := ok_of (tb_2 (List.mem_of_getElem? (i := 35) rfl)) rfl
theorem wF_X4_12 : Cond.fieldLink RX4 12 (TX4 0).1 (TX4 0).2.1 (TX4 0).2.2.1 ∈ okW := ok_of (tb_2 (List.mem_of_getElem? (i := 37) rfl)) rfl
theorem wF_X9_134 : Cond.fieldLink RX9 134 (TX4 0).1 (TX4 0).2.1 (TX4 0).2.2.1 ∈ okW := ok_of (tb_2 (List.mem_of_getElem? (i := 38) rfl)) rfl
theorem wF_X4_32 : Cond.fieldLink RX4 32 (TX4 1).1 (TX4 1).2.1 (TX4 1).2.2.1 ∈ okW := ok_of (tb_2 (List.mem_of_getElem? (i := 39) rfl)) rfl
theorem wF_X9_132 : Cond.fieldLink RX9 132 (TX4 1).1 (TX4 1).2.1 (TX4 1).2.2.1 ∈ okW := ok_of (tb_2 (List.mem_of_getElem? (i := 40) rfl)) rfl
theorem wF_X4_36 : Cond.fieldLink RX4 36 (TX4 2).1 (TX4 2).2.1 (TX4 2).2.2.1 ∈ okW := ok_of (tb_2 (List.mem_of_getElem? (i := 41) rfl)) rfl
theorem wF_X9_133 : Cond.fieldLink RX9 133 (TX4 2).1 (TX4 2).2.1 (TX4 2).2.2.1 ∈ okW := ok_of (tb_2 (List.mem_of_getElem? (i := 42) rfl)) rfl
theorem wF_X4_18 : Cond.fieldLink RX4 18 (TX4 3).1 (TX4 3).2.1 (TX4 3).2.2.1 ∈ okW := ok_of (tb_2 (List.mem_of_getElem? (i := 43) rfl)) rfl
theorem wF_X4_22 : Cond.fieldLink RX4 22 (TX4 4).1 (TX4 4).2.1 (TX4 4).2.2.1 ∈ okW := ok_of (tb_2 (List.mem_of_getElem? (i := 44) rfl)) rfl
theorem wF_X4_25 : Cond.fieldLink RX4 25 (TX4 5).1 (TX4 5).2.1 (TX4 5).2.2.1 ∈ okW := ok_of (tb_2 (List.mem_of_getElem? (i := 45) rfl)) rfl
theorem wF_X4_45 : Cond.fieldLink RX4 45 (TX4 6).1 (TX4 6).2.1 (TX4 6).2.2.1 ∈ okW := ok_of (tb_2 (List.mem_of_getElem? (i := 46) rfl)) rfl
theorem wF_X4_42 : Cond.fieldLink RX4 42 (TX4 7).1 (TX4 7).2.1 (TX4 7).2.2.1 ∈ okW := ok_of (tb_2 (List.mem_of_getElem? (i := 47) rfl)) rfl
theorem wF_X4_28 : Cond.fieldLink RX4 28 (TX4 8).1 (TX4 8).2.1 (TX4 8).2.2.1 ∈ okW := ok_of (tb_2 (List.mem_of_getElem? (i := 48) rfl)) rfl
theorem wLY_4_0 : u_lay RX4 TX4 0 ∈ okW := ok_of (tb_2 (List.mem_of_getElem? (i := 49) rfl)) rfl
theorem wLY_4_1 : u_lay RX4 TX4 1 ∈ okW := ok_of (tb_2 (List.mem_of_getElem? (i := 51) rfl)) rfl
theorem wLY_4_2 : u_lay RX4 TX4 2 ∈ okW := ok_of (tb_2 (List.mem_of_getElem? (i := 53) rfl)) rfl
theorem wLY_4_3 : u_lay RX4 TX4 3 ∈ okW := ok_of (tb_2 (List.mem_of_getElem? (i := 55) rfl)) rfl
theorem wLY_4_4 : u_lay RX4 TX4 4 ∈ okW := ok_of (tb_2 (List.mem_of_getElem? (i := 57) rfl)) rfl
theorem wLY_4_5 : u_lay RX4 TX4 5 ∈ okW := ok_of (tb_2 (List.mem_of_getElem? (i := 59) rfl)) rfl
theorem wLY_4_6 : u_lay RX4 TX4 6 ∈ okW := ok_of (tb_2 (List.mem_of_getElem? (i := 61) rfl)) rfl
theorem wLY_4_7 : u_lay RX4 TX4 7 ∈ okW := ok_of (tb_2 (List.mem_of_getElem? (i := 63) rfl)) rfl
theorem wLY_4_8 : u_lay RX4 TX4 8 ∈ okW := ok_of (tb_2 (List.mem_of_getElem? (i := 65) rfl)) rfl
theorem wC_X9_27 : Cond.classLink RX9 27 RX6 ∈ okW := ok_of (tb_2 (List.mem_of_getElem? (i := 68) rfl)) rfl
theorem wIS_X6 : Cond.instantiable RX6 2 ∈ okW := ok_of (tb_2 (List.mem_of_getElem? (i := 69) rfl)) rfl
theorem wIM_X6_init : Cond.instanceMethod yX6_init ∈ okW := ok_of (tb_2 (List.mem_of_getElem? (i := 71) rfl)) rfl
theorem wCD_X6_init : Cond.code yX6_init cX6_init 1 none ∈ okW := ok_of (tb_2 (List.mem_of_getElem? (i := 72) rfl)) rfl
theorem wM_X6_3 : Cond.methodLink RX6 3 objectInit ∈ okW := ok_of (tb_2 (List.mem_of_getElem? (i := 73) rfl)) rfl
theorem wF_X6_9 : Cond.fieldLink RX6 9 (TX6 0).1 (TX6 0).2.1 (TX6 0).2.2.1 ∈ okW := ok_of (tb_2 (List.mem_of_getElem? (i := 74) rfl)) rfl
theorem wF_X6_15 : Cond.fieldLink RX6 15 (TX6 1).1 (TX6 1).2.1 (TX6 1).2.2.1 ∈ okW := ok_of (tb_2 (List.mem_of_getElem? (i := 75) rfl)) rfl
theorem wLY_6_0 : u_lay RX6 TX6 0 ∈ okW := ok_of (tb_2 (List.mem_of_getElem? (i := 76) rfl)) rfl
theorem wLY_6_1 : u_lay RX6 TX6 1 ∈ okW := ok_of (tb_2 (List.mem_of_getElem? (i := 78) rfl)) rfl
theorem wC_X9_34 : Cond.classLink RX9 34 RX3 ∈ okW := ok_of (tb_2 (List.mem_of_getElem? (i := 81) rfl)) rfl
theorem wIS_X3 : Cond.instantiable RX3 12 ∈ okW := ok_of (tb_2 (List.mem_of_getElem? (i := 82) rfl)) rfl
theorem wIM_X3_init : Cond.instanceMethod yX3_init ∈ okW := ok_of (tb_2 (List.mem_of_getElem? (i := 84) rfl)) rfl
theorem wCD_X3_init : Cond.code yX3_init cX3_init 1 none ∈ okW := ok_of (tb_2 (List.mem_of_getElem? (i := 85) rfl)) rfl
theorem wM_X3_5 : Cond.methodLink RX3 5 objectInit ∈ okW := ok_of (tb_2 (List.mem_of_getElem? (i := 86) rfl)) rfl
theorem wC_X3_36 : Cond.classLink RX3 36 RX2 ∈ okW := ok_of (tb_2 (List.mem_of_getElem? (i := 87) rfl)) rfl
theorem wIS_X2 : Cond.instantiable RX2 2 ∈ okW := ok_of (tb_2 (List.mem_of_getElem? (i := 88) rfl)) rfl
theorem wIM_X2_init : Cond.instanceMethod yX2_init ∈ okW := ok_of (tb_2 (List.mem_of_getElem? (i := 90) rfl)) rfl
theorem wCD_X2_init : Cond.code yX2_init cX2_init 1 none ∈ okW := ok_of (tb_2 (List.mem_of_getElem? (i := 91) rfl)) rfl
theorem wM_X2_1 : Cond.methodLink RX2 1 objectInit ∈ okW := ok_of (tb_2 (List.mem_of_getElem? (i := 92) rfl)) rfl
theorem wF_X2_9 : Cond.fieldLink RX2 9 (TX2 0).1 (TX2 0).2.1 (TX2 0).2.2.1 ∈ okW := ok_of (tb_2 (List.mem_of_getElem? (i := 93) rfl)) rfl
theorem wF_X2_13 : Cond.fieldLink RX2 13 (TX2 1).1 (TX2 1).2.1 (TX2 1).2.2.1 ∈ okW := ok_of (tb_2 (List.mem_of_getElem? (i := 94) rfl)) rfl
theorem wF_X1_129 : Cond.fieldLink RX1 129 (TX2 1).1 (TX2 1).2.1 (TX2 1).2.2.1 ∈ okW := ok_of (tb_2 (List.mem_of_getElem? (i := 95) rfl)) rfl
theorem wLY_2_0 : u_lay RX2 TX2 0 ∈ okW := ok_of (tb_2 (List.mem_of_getElem? (i := 96) rfl)) rfl
theorem wLY_2_1 : u_lay RX2 TX2 1 ∈ okW := ok_of (tb_2 (List.mem_of_getElem? (i := 98) rfl)) rfl
theorem wF_X3_11 : Cond.fieldLink RX3 11 (TX3 0).1 (TX3 0).2.1 (TX3 0).2.2.1 ∈ okW := ok_of (tb_2 (List.mem_of_getElem? (i := 101) rfl)) rfl
theorem wF_X9_239 : Cond.fieldLink RX9 239 (TX3 0).1 (TX3 0).2.1 (TX3 0).2.2.1 ∈ okW := ok_of (tb_2 (List.mem_of_getElem? (i := 102) rfl)) rfl
theorem wF_X3_15 : Cond.fieldLink RX3 15 (TX3 1).1 (TX3 1).2.1 (TX3 1).2.2.1 ∈ okW := ok_of (tb_2 (List.mem_of_getElem? (i := 103) rfl)) rfl
theorem wF_X3_18 : Cond.fieldLink RX3 18 (TX3 2).1 (TX3 2).2.1 (TX3 2).2.2.1 ∈ okW := ok_of (tb_2 (List.mem_of_getElem? (i := 104) rfl)) rfl
theorem wF_X3_21 : Cond.fieldLink RX3 21 (TX3 3).1 (TX3 3).2.1 (TX3 3).2.2.1 ∈ okW := ok_of (tb_2 (List.mem_of_getElem? (i := 105) rfl)) rfl
theorem wF_X3_24 : Cond.fieldLink RX3 24 (TX3 4).1 (TX3 4).2.1 (TX3 4).2.2.1 ∈ okW := ok_of (tb_2 (List.mem_of_getElem? (i := 106) rfl)) rfl
theorem wF_X3_27 : Cond.fieldLink RX3 27 (TX3 5).1 (TX3 5).2.1 (TX3 5).2.2.1 ∈ okW := ok_of (tb_2 (List.mem_of_getElem? (i := 107) rfl)) rfl
theorem wF_X3_30 : Cond.fieldLink RX3 30 (TX3 6).1 (TX3 6).2.1 (TX3 6).2.2.1 ∈ okW := ok_of (tb_2 (List.mem_of_getElem? (i := 108) rfl)) rfl
theorem wF_X3_33 : Cond.fieldLink RX3 33 (TX3 7).1 (TX3 7).2.1 (TX3 7).2.2.1 ∈ okW := ok_of (tb_2 (List.mem_of_getElem? (i := 109) rfl)) rfl
theorem wF_X3_39 : Cond.fieldLink RX3 39 (TX3 8).1 (TX3 8).2.1 (TX3 8).2.2.1 ∈ okW := ok_of (tb_2 (List.mem_of_getElem? (i := 110) rfl)) rfl
theorem wF_X3_55 : Cond.fieldLink RX3 55 (TX3 9).1 (TX3 9).2.1 (TX3 9).2.2.1 ∈ okW := ok_of (tb_2 (List.mem_of_getElem? (i := 111) rfl)) rfl
theorem wF_X3_56 : Cond.fieldLink RX3 56 (TX3 10).1 (TX3 10).2.1 (TX3 10).2.2.1 ∈ okW := ok_of (tb_2 (List.mem_of_getElem? (i := 112) rfl)) rfl
theorem wF_X3_59 : Cond.fieldLink RX3 59 (TX3 11).1 (TX3 11).2.1 (TX3 11).2.2.1 ∈ okW := ok_of (tb_2 (List.mem_of_getElem? (i := 113) rfl)) rfl
theorem wLY_3_0 : u_lay RX3 TX3 0 ∈ okW := ok_of (tb_2 (List.mem_of_getElem? (i := 114) rfl)) rfl
theorem wLY_3_1 : u_lay RX3 TX3 1 ∈ okW := ok_of (tb_2 (List.mem_of_getElem? (i := 116) rfl)) rfl
theorem wLY_3_2 : u_lay RX3 TX3 2 ∈ okW := ok_of (tb_2 (List.mem_of_getElem? (i := 118) rfl)) rfl
theorem wLY_3_3 : u_lay RX3 TX3 3 ∈ okW := ok_of (tb_2 (List.mem_of_getElem? (i := 120) rfl)) rfl
theorem wLY_3_4 : u_lay RX3 TX3 4 ∈ okW := ok_of (tb_2 (List.mem_of_getElem? (i := 122) rfl)) rfl
theorem wLY_3_5 : u_lay RX3 TX3 5 ∈ okW := ok_of (tb_2 (List.mem_of_getElem? (i := 124) rfl)) rfl
theorem wLY_3_6 : u_lay RX3 TX3 6 ∈ okW := ok_of (tb_2 (List.mem_of_getElem? (i := 126) rfl)) rfl
theorem wLY_3_7 : u_lay RX3 TX3 7 ∈ okW := ok_of (tb_2 (List.mem_of_getElem? (i := 128) rfl)) rfl
theorem wLY_3_8 : u_lay RX3 TX3 8 ∈ okW := ok_of (tb_2 (List.mem_of_getElem? (i := 130) rfl)) rfl
theorem wLY_3_9 : u_lay RX3 TX3 9 ∈ okW := ok_of (tb_2 (List.mem_of_getElem? (i := 132) rfl)) rfl
theorem wLY_3_10 : u_lay RX3 TX3 10 ∈ okW := ok_of (tb_2 (List.mem_of_getElem? (i := 134) rfl)) rfl
theorem wLY_3_11 : u_lay RX3 TX3 11 ∈ okW := ok_of (tb_2 (List.mem_of_getElem? (i := 136) rfl)) rfl
theorem wC_X9_41 : Cond.classLink RX9 41 RX1 ∈ okW := ok_of (tb_2 (List.mem_of_getElem? (i := 139) rfl)) rfl
theorem wIS_X1 : Cond.instantiable RX1 8 ∈ okW := ok_of (tb_2 (List.mem_of_getElem? (i := 140) rfl)) rfl
theorem wIM_X1_init : Cond.instanceMethod yX1_init ∈ okW := ok_of (tb_2 (List.mem_of_getElem? (i := 142) rfl)) rfl
theorem wCD_X1_init : Cond.code yX1_init cX1_init 1 none ∈ okW := ok_of (tb_2 (List.mem_of_getElem? (i := 143) rfl)) rfl
theorem wM_X1_3 : Cond.methodLink RX1 3 objectInit ∈ okW := ok_of (tb_2 (List.mem_of_getElem? (i := 144) rfl)) rfl
theorem wC_X1_27 : Cond.classLink RX1 27 RX2 ∈ okW := ok_of (tb_2 (List.mem_of_getElem? (i := 145) rfl)) rfl
theorem wF_X1_11 : Cond.fieldLink RX1 11 (TX1 0).1 (TX1 0).2.1 (TX1 0).2.2.1 ∈ okW := ok_of (tb_2 (List.mem_of_getElem? (i := 147) rfl)) rfl
theorem wF_X1_15 : Cond.fieldLink RX1 15 (TX1 1).1 (TX1 1).2.1 (TX1 1).2.2.1 ∈ okW := ok_of (tb_2 (List.mem_of_getElem? (i := 148) rfl)) rfl
theorem wF_X1_18 : Cond.fieldLink RX1 18 (TX1 2).1 (TX1 2).2.1 (TX1 2).2.2.1 ∈ okW := ok_of (tb_2 (List.mem_of_getElem? (i := 149) rfl)) rfl
theorem wF_X1_21 : Cond.fieldLink RX1 21 (TX1 3).1 (TX1 3).2.1 (TX1 3).2.2.1 ∈ okW := ok_of (tb_2 (List.mem_of_getElem? (i := 150) rfl)) rfl
theorem wF_X1_69 : Cond.fieldLink RX1 69 (TX1 4).1 (TX1 4).2.1 (TX1 4).2.2.1 ∈ okW := ok_of (tb_2 (List.mem_of_getElem? (i := 151) rfl)) rfl
theorem wF_X1_43 : Cond.fieldLink RX1 43 (TX1 5).1 (TX1 5).2.1 (TX1 5).2.2.1 ∈ okW := ok_of (tb_2 (List.mem_of_getElem? (i := 152) rfl)) rfl
theorem wF_X1_24 : Cond.fieldLink RX1 24 (TX1 6).1 (TX1 6).2.1 (TX1 6).2.2.1 ∈ okW := ok_of (tb_2 (List.mem_of_getElem? (i := 153) rfl)) rfl
theorem wF_X1_30 : Cond.fieldLink RX1 30 (TX1 7).1 (TX1 7).2.1 (TX1 7).2.2.1 ∈ okW := ok_of (tb_2 (List.mem_of_getElem? (i := 154) rfl)) rfl
theorem wLY_1_0 : u_lay RX1 TX1 0 ∈ okW := ok_of (tb_2 (List.mem_of_getElem? (i := 155) rfl)) rfl
theorem wLY_1_1 : u_lay RX1 TX1 1 ∈ okW := ok_of (tb_2 (List.mem_of_getElem? (i := 157) rfl)) rfl
theorem wLY_1_2 : u_lay RX1 TX1 2 ∈ okW := ok_of (tb_2 (List.mem_of_getElem? (i := 159) rfl)) rfl
theorem wLY_1_3 : u_lay RX1 TX1 3 ∈ okW := ok_of (tb_2 (List.mem_of_getElem? (i := 161) rfl)) rfl
theorem wLY_1_4 : u_lay RX1 TX1 4 ∈ okW := ok_of (tb_2 (List.mem_of_getElem? (i := 163) rfl)) rfl
theorem wLY_1_5 : u_lay RX1 TX1 5 ∈ okW := ok_of (tb_2 (List.mem_of_getElem? (i := 165) rfl)) rfl
theorem wLY_1_6 : u_lay RX1 TX1 6 ∈ okW := ok_of (tb_2 (List.mem_of_getElem? (i := 167) rfl)) rfl
theorem wLY_1_7 : u_lay RX1 TX1 7 ∈ okW := ok_of (tb_2 (List.mem_of_getElem? (i := 169) rfl)) rfl
theorem wC_X9_48 : Cond.classLink RX9 48 RX5 ∈ okW := ok_of (tb_2 (List.mem_of_getElem? (i := 172) rfl)) rfl
theorem wIS_X5 : Cond.instantiable RX5 5 ∈ okW := ok_of (tb_2 (List.mem_of_getElem? (i := 173) rfl)) rfl
theorem wIM_X5_init : Cond.instanceMethod yX5_init ∈ okW := ok_of (tb_2 (List.mem_of_getElem? (i := 175) rfl)) rfl
theorem wCD_X5_init : Cond.code yX5_init cX5_init 1 none ∈ okW := ok_of (tb_2 (List.mem_of_getElem? (i := 176) rfl)) rfl
theorem wM_X5_3 : Cond.methodLink RX5 3 objectInit ∈ okW := ok_of (tb_2 (List.mem_of_getElem? (i := 177) rfl)) rfl
theorem wF_X5_9 : Cond.fieldLink RX5 9 (TX5 0).1 (TX5 0).2.1 (TX5 0).2.2.1 ∈ okW := ok_of (tb_2 (List.mem_of_getElem? (i := 178) rfl)) rfl
theorem wF_X9_338 : Cond.fieldLink RX9 338 (TX5 0).1 (TX5 0).2.1 (TX5 0).2.2.1 ∈ okW := ok_of (tb_2 (List.mem_of_getElem? (i := 179) rfl)) rfl
theorem wF_X5_15 : Cond.fieldLink RX5 15 (TX5 1).1 (TX5 1).2.1 (TX5 1).2.2.1 ∈ okW := ok_of (tb_2 (List.mem_of_getElem? (i := 180) rfl)) rfl
theorem wF_X5_18 : Cond.fieldLink RX5 18 (TX5 2).1 (TX5 2).2.1 (TX5 2).2.2.1 ∈ okW := ok_of (tb_2 (List.mem_of_getElem? (i := 181) rfl)) rfl
theorem wF_X5_27 : Cond.fieldLink RX5 27 (TX5 3).1 (TX5 3).2.1 (TX5 3).2.2.1 ∈ okW := ok_of (tb_2 (List.mem_of_getElem? (i := 182) rfl)) rfl
theorem wF_X5_31 : Cond.fieldLink RX5 31 (TX5 4).1 (TX5 4).2.1 (TX5 4).2.2.1 ∈ okW := ok_of (tb_2 (List.mem_of_getElem? (i := 183) rfl)) rfl
theorem wLY_5_0 : u_lay RX5 TX5 0 ∈ okW := ok_of (tb_2 (List.mem_of_getElem? (i := 184) rfl)) rfl
theorem wLY_5_1 : u_lay RX5 TX5 1 ∈ okW := ok_of (tb_2 (List.mem_of_getElem? (i := 186) rfl)) rfl
theorem wLY_5_2 : u_lay RX5 TX5 2 ∈ okW := ok_of (tb_2 (List.mem_of_getElem? (i := 188) rfl)) rfl
theorem wLY_5_3 : u_lay RX5 TX5 3 ∈ okW := ok_of (tb_2 (List.mem_of_getElem? (i := 190) rfl)) rfl
theorem wLY_5_4 : u_lay RX5 TX5 4 ∈ okW := ok_of (tb_2 (List.mem_of_getElem? (i := 192) rfl)) rfl
theorem wF_X9_12 : Cond.fieldLink RX9 12 (TX9 0).1 (TX9 0).2.1 (TX9 0).2.2.1 ∈ okW := ok_of (tb_2 (List.mem_of_getElem? (i := 195) rfl)) rfl
theorem wF_X9_348 : Cond.fieldLink RX9 348 (TX9 1).1 (TX9 1).2.1 (TX9 1).2.2.1 ∈ okW := ok_of (tb_2 (List.mem_of_getElem? (i := 196) rfl)) rfl
theorem wF_X9_16 : Cond.fieldLink RX9 16 (TX9 2).1 (TX9 2).2.1 (TX9 2).2.2.1 ∈ okW := ok_of (tb_2 (List.mem_of_getElem? (i := 197) rfl)) rfl
theorem wF_X9_105 : Cond.fieldLink RX9 105 (TX9 3).1 (TX9 3).2.1 (TX9 3).2.2.1 ∈ okW := ok_of (tb_2 (List.mem_of_getElem? (i := 198) rfl)) rfl
theorem wF_X9_23 : Cond.fieldLink RX9 23 (TX9 4).1 (TX9 4).2.1 (TX9 4).2.2.1 ∈ okW := ok_of (tb_2 (List.mem_of_getElem? (i := 199) rfl)) rfl
theorem wF_X9_30 : Cond.fieldLink RX9 30 (TX9 5).1 (TX9 5).2.1 (TX9 5).2.2.1 ∈ okW := ok_of (tb_2 (List.mem_of_getElem? (i := 200) rfl)) rfl
theorem wF_X9_37 : Cond.fieldLink RX9 37 (TX9 6).1 (TX9 6).2.1 (TX9 6).2.2.1 ∈ okW := ok_of (tb_2 (List.mem_of_getElem? (i := 201) rfl)) rfl
theorem wF_X9_44 : Cond.fieldLink RX9 44 (TX9 7).1 (TX9 7).2.1 (TX9 7).2.2.1 ∈ okW := ok_of (tb_2 (List.mem_of_getElem? (i := 202) rfl)) rfl
theorem wF_X9_51 : Cond.fieldLink RX9 51 (TX9 8).1 (TX9 8).2.1 (TX9 8).2.2.1 ∈ okW := ok_of (tb_2 (List.mem_of_getElem? (i := 203) rfl)) rfl
theorem wF_X9_55 : Cond.fieldLink RX9 55 (TX9 9).1 (TX9 9).2.1 (TX9 9).2.2.1 ∈ okW := ok_of (tb_2 (List.mem_of_getElem? (i := 204) rfl)) rfl
theorem wF_X9_58 : Cond.fieldLink RX9 58 (TX9 10).1 (TX9 10).2.1 (TX9 10).2.2.1 ∈ okW := ok_of (tb_2 (List.mem_of_getElem? (i := 205) rfl)) rfl
theorem wF_X9_61 : Cond.fieldLink RX9 61 (TX9 11).1 (TX9 11).2.1 (TX9 11).2.2.1 ∈ okW := ok_of (tb_2 (List.mem_of_getElem? (i := 206) rfl)) rfl
theorem wLY_9_0 : u_lay RX9 TX9 0 ∈ okW := ok_of (tb_2 (List.mem_of_getElem? (i := 207) rfl)) rfl
theorem wLY_9_1 : u_lay RX9 TX9 1 ∈ okW := ok_of (tb_2 (List.mem_of_getElem? (i := 209) rfl)) rfl
theorem wLY_9_2 : u_lay RX9 TX9 2 ∈ okW := ok_of (tb_2 (List.mem_of_getElem? (i := 211) rfl)) rfl
theorem wLY_9_3 : u_lay RX9 TX9 3 ∈ okW := ok_of (tb_2 (List.mem_of_getElem? (i := 213) rfl)) rfl
theorem wLY_9_4 : u_lay RX9 TX9 4 ∈ okW := ok_of (tb_2 (List.mem_of_getElem? (i := 215) rfl)) rfl
theorem wLY_9_5 : u_lay RX9 TX9 5 ∈ okW := ok_of (tb_2 (List.mem_of_getElem? (i := 217) rfl)) rfl
theorem wLY_9_6 : u_lay RX9 TX9 6 ∈ okW := ok_of (tb_2 (List.mem_of_getElem? (i := 219) rfl)) rfl
theorem wLY_9_7 : u_lay RX9 TX9 7 ∈ okW := ok_of (tb_2 (List.mem_of_getElem? (i := 221) rfl)) rfl
theorem wLY_9_8 : u_lay RX9 TX9 8 ∈ okW := ok_of (tb_2 (List.mem_of_getElem? (i := 223) rfl)) rfl
theorem wLY_9_9 : u_lay RX9 TX9 9 ∈ okW := ok_of (tb_2 (List.mem_of_getElem? (i := 225) rfl)) rfl
theorem wLY_9_10 : u_lay RX9 TX9 10 ∈ okW := ok_of (tb_2 (List.mem_of_getElem? (i := 227) rfl)) rfl
theorem wLY_9_11 : u_lay RX9 TX9 11 ∈ okW := ok_of (tb_2 (List.mem_of_getElem? (i := 229) rfl)) rfl
theorem wM_L_13 : Cond.methodLink RL 13 yX9_bar ∈ okW := ok_of (tb_2 (List.mem_of_getElem? (i := 232) rfl)) rfl
theorem wIM_X9_bar : Cond.instanceMethod yX9_bar ∈ okW := ok_of (tb_2 (List.mem_of_getElem? (i := 233) rfl)) rfl
theorem wSE_X9_bar : Cond.selects yX9_bar.cls yX9_bar yX9_bar ∈ okW := ok_of (tb_2 (List.mem_of_getElem? (i := 234) rfl)) rfl
theorem wCD_X9_bar : Cond.code yX9_bar cX9_bar 2 (some .int) ∈ okW := ok_of (tb_2 (List.mem_of_getElem? (i := 235) rfl)) rfl
theorem wM_X9_72 : Cond.methodLink RX9 72 yX0_begin ∈ okW := ok_of (tb_2 (List.mem_of_getElem? (i := 236) rfl)) rfl
theorem wIM_X0_begin : Cond.instanceMethod yX0_begin ∈ okW := ok_of (tb_2 (List.mem_of_getElem? (i := 237) rfl)) rfl
theorem wSE_X0_begin : Cond.selects yX0_begin.cls yX0_begin yX0_begin ∈ okW := ok_of (tb_2 (List.mem_of_getElem? (i := 238) rfl)) rfl
theorem wCD_X0_begin : Cond.code yX0_begin cX0_begin 2 none ∈ okW := ok_of (tb_2 (List.mem_of_getElem? (i := 239) rfl)) rfl
theorem wM_X0_54 : Cond.methodLink RX0 54 yJ7_fill_53178 ∈ okW := ok_of (tb_3 (List.mem_of_getElem? (i := 0) rfl)) rfl
theorem wST_J7_fill_53178 : Cond.static yJ7_fill_53178 ∈ okW := ok_of (tb_3 (List.mem_of_getElem? (i := 1) rfl)) rfl
theorem wCD_J7_fill_53178 : Cond.code yJ7_fill_53178 cJ7_fill_53178 4 none ∈ okW := ok_of (tb_3 (List.mem_of_getElem? (i := 2) rfl)) rfl
theorem wM_L_18 : Cond.methodLink RL 18 yX9_slice ∈ okW := ok_of (tb_3 (List.mem_of_getElem? (i := 3) rfl)) rfl
theorem wIM_X9_slice : Cond.instanceMethod yX9_slice ∈ okW := ok_of (tb_3 (List.mem_of_getElem? (i := 4) rfl)) rfl
theorem wSE_X9_slice : Cond.selects yX9_slice.cls yX9_slice yX9_slice ∈ okW := ok_of (tb_3 (List.mem_of_getElem? (i := 5) rfl)) rfl
theorem wCD_X9_slice : Cond.code yX9_slice cX9_slice 7 (some .boolean) ∈ okW := ok_of (tb_3 (List.mem_of_getElem? (i := 6) rfl)) rfl
theorem wM_X9_78 : Cond.methodLink RX9 78 yX9_barAt ∈ okW := ok_of (tb_3 (List.mem_of_getElem? (i := 7) rfl)) rfl
theorem wIM_X9_barAt : Cond.instanceMethod yX9_barAt ∈ okW := ok_of (tb_3 (List.mem_of_getElem? (i := 9) rfl)) rfl
theorem wCD_X9_barAt : Cond.code yX9_barAt cX9_barAt 2 (some (.object "RingBars$Bar")) ∈ okW := ok_of (tb_3 (List.mem_of_getElem? (i := 10) rfl)) rfl
theorem wM_X9_89 : Cond.methodLink RX9 89 yX9_within ∈ okW := ok_of (tb_3 (List.mem_of_getElem? (i := 11) rfl)) rfl
theorem wST_X9_within : Cond.static yX9_within ∈ okW := ok_of (tb_3 (List.mem_of_getElem? (i := 12) rfl)) rfl
theorem wCD_X9_within : Cond.code yX9_within cX9_within 3 (some .boolean) ∈ okW := ok_of (tb_3 (List.mem_of_getElem? (i := 13) rfl)) rfl
theorem wM_X9_82 : Cond.methodLink RX9 82 yX0_has ∈ okW := ok_of (tb_3 (List.mem_of_getElem? (i := 14) rfl)) rfl
theorem wIM_X0_has : Cond.instanceMethod yX0_has ∈ okW := ok_of (tb_3 (List.mem_of_getElem? (i := 15) rfl)) rfl
theorem wSE_X0_has : Cond.selects yX0_has.cls yX0_has yX0_has ∈ okW := ok_of (tb_3 (List.mem_of_getElem? (i := 16) rfl)) rfl
theorem wCD_X0_has : Cond.code yX0_has cX0_has 2 (some .boolean) ∈ okW := ok_of (tb_3 (List.mem_of_getElem? (i := 17) rfl)) rfl
theorem wM_L_23 : Cond.methodLink RL 23 yX9_wax ∈ okW := ok_of (tb_3 (List.mem_of_getElem? (i := 18) rfl)) rfl
theorem wIM_X9_wax : Cond.instanceMethod yX9_wax ∈ okW := ok_of (tb_3 (List.mem_of_getElem? (i := 19) rfl)) rfl
theorem wSE_X9_wax : Cond.selects yX9_wax.cls yX9_wax yX9_wax ∈ okW := ok_of (tb_3 (List.mem_of_getElem? (i := 20) rfl)) rfl
theorem wCD_X9_wax : Cond.code yX9_wax cX9_wax 5 (some .boolean) ∈ okW := ok_of (tb_3 (List.mem_of_getElem? (i := 21) rfl)) rfl
theorem wM_L_28 : Cond.methodLink RL 28 yX9_of ∈ okW := ok_of (tb_3 (List.mem_of_getElem? (i := 22) rfl)) rfl
theorem wIM_X9_of : Cond.instanceMethod yX9_of ∈ okW := ok_of (tb_3 (List.mem_of_getElem? (i := 23) rfl)) rfl
theorem wSE_X9_of : Cond.selects yX9_of.cls yX9_of yX9_of ∈ okW := ok_of (tb_3 (List.mem_of_getElem? (i := 24) rfl)) rfl
theorem wCD_X9_of : Cond.code yX9_of cX9_of 5 (some .int) ∈ okW := ok_of (tb_3 (List.mem_of_getElem? (i := 25) rfl)) rfl
theorem wM_L_33 : Cond.methodLink RL 33 yX9_feed ∈ okW := ok_of (tb_3 (List.mem_of_getElem? (i := 26) rfl)) rfl
theorem wIM_X9_feed : Cond.instanceMethod yX9_feed ∈ okW := ok_of (tb_3 (List.mem_of_getElem? (i := 27) rfl)) rfl
theorem wSE_X9_feed : Cond.selects yX9_feed.cls yX9_feed yX9_feed ∈ okW := ok_of (tb_3 (List.mem_of_getElem? (i := 28) rfl)) rfl
theorem wCD_X9_feed : Cond.code yX9_feed cX9_feed 6 (some .int) ∈ okW := ok_of (tb_3 (List.mem_of_getElem? (i := 29) rfl)) rfl
theorem wM_X9_108 : Cond.methodLink RX9 108 yX9_addBytes ∈ okW := ok_of (tb_3 (List.mem_of_getElem? (i := 30) rfl)) rfl
theorem wIM_X9_addBytes : Cond.instanceMethod yX9_addBytes ∈ okW := ok_of (tb_3 (List.mem_of_getElem? (i := 32) rfl)) rfl
theorem wCD_X9_addBytes : Cond.code yX9_addBytes cX9_addBytes 3 none ∈ okW := ok_of (tb_3 (List.mem_of_getElem? (i := 33) rfl)) rfl
theorem wM_L_38 : Cond.methodLink RL 38 yX9_end ∈ okW := ok_of (tb_3 (List.mem_of_getElem? (i := 34) rfl)) rfl
theorem wIM_X9_end : Cond.instanceMethod yX9_end ∈ okW := ok_of (tb_3 (List.mem_of_getElem? (i := 35) rfl)) rfl
theorem wSE_X9_end : Cond.selects yX9_end.cls yX9_end yX9_end ∈ okW := ok_of (tb_3 (List.mem_of_getElem? (i := 36) rfl)) rfl
theorem wCD_X9_end : Cond.code yX9_end cX9_end 2 (some .boolean) ∈ okW := ok_of (tb_3 (List.mem_of_getElem? (i := 37) rfl)) rfl
theorem wM_L_43 : Cond.methodLink RL 43 yX9_text ∈ okW := ok_of (tb_3 (List.mem_of_getElem? (i := 38) rfl)) rfl
theorem wIM_X9_text : Cond.instanceMethod yX9_text ∈ okW := ok_of (tb_3 (List.mem_of_getElem? (i := 39) rfl)) rfl
theorem wSE_X9_text : Cond.selects yX9_text.cls yX9_text yX9_text ∈ okW := ok_of (tb_3 (List.mem_of_getElem? (i := 40) rfl)) rfl
theorem wCD_X9_text : Cond.code yX9_text cX9_text 6 (some .int) ∈ okW := ok_of (tb_3 (List.mem_of_getElem? (i := 41) rfl)) rfl
theorem wM_X9_117 : Cond.methodLink RX9 117 yX9_textAt ∈ okW := ok_of (tb_3 (List.mem_of_getElem? (i := 42) rfl)) rfl
theorem wIM_X9_textAt : Cond.instanceMethod yX9_textAt ∈ okW := ok_of (tb_3 (List.mem_of_getElem? (i := 44) rfl)) rfl
theorem wCD_X9_textAt : Cond.code yX9_textAt cX9_textAt 3 (some (.object "RingBars$Text")) ∈ okW := ok_of (tb_3 (List.mem_of_getElem? (i := 45) rfl)) rfl
theorem wM_X9_121 : Cond.methodLink RX9 121 yX4_start ∈ okW := ok_of (tb_3 (List.mem_of_getElem? (i := 46) rfl)) rfl
theorem wIM_X4_start : Cond.instanceMethod yX4_start ∈ okW := ok_of (tb_3 (List.mem_of_getElem? (i := 47) rfl)) rfl
theorem wSE_X4_start : Cond.selects yX4_start.cls yX4_start yX4_start ∈ okW := ok_of (tb_3 (List.mem_of_getElem? (i := 48) rfl)) rfl
theorem wCD_X4_start : Cond.code yX4_start cX4_start 7 none ∈ okW := ok_of (tb_3 (List.mem_of_getElem? (i := 49) rfl)) rfl
theorem wM_X4_39 : Cond.methodLink RX4 39 yX7_clear ∈ okW := ok_of (tb_3 (List.mem_of_getElem? (i := 50) rfl)) rfl
theorem wIM_X7_clear : Cond.instanceMethod yX7_clear ∈ okW := ok_of (tb_3 (List.mem_of_getElem? (i := 51) rfl)) rfl
theorem wSE_X7_clear : Cond.selects yX7_clear.cls yX7_clear yX7_clear ∈ okW := ok_of (tb_3 (List.mem_of_getElem? (i := 52) rfl)) rfl
theorem wCD_X7_clear : Cond.code yX7_clear cX7_clear 1 none ∈ okW := ok_of (tb_3 (List.mem_of_getElem? (i := 53) rfl)) rfl
theorem wM_X4_48 : Cond.methodLink RX4 48 yX4_isLetter ∈ okW := ok_of (tb_3 (List.mem_of_getElem? (i := 54) rfl)) rfl
theorem wST_X4_isLetter : Cond.static yX4_isLetter ∈ okW := ok_of (tb_3 (List.mem_of_getElem? (i := 55) rfl)) rfl
theorem wCD_X4_isLetter : Cond.code yX4_isLetter cX4_isLetter 1 (some .boolean) ∈ okW := ok_of (tb_3 (List.mem_of_getElem? (i := 56) rfl)) rfl
theorem wM_X4_52 : Cond.methodLink RX4 52 yX4_wordAt ∈ okW := ok_of (tb_3 (List.mem_of_getElem? (i := 57) rfl)) rfl
theorem wST_X4_wordAt : Cond.static yX4_wordAt ∈ okW := ok_of (tb_3 (List.mem_of_getElem? (i := 58) rfl)) rfl
theorem wCD_X4_wordAt : Cond.code yX4_wordAt cX4_wordAt 4 (some .int) ∈ okW := ok_of (tb_3 (List.mem_of_getElem? (i := 59) rfl)) rfl
theorem wM_X4_69 : Cond.methodLink RX4 69 yX4_isWord ∈ okW := ok_of (tb_3 (List.mem_of_getElem? (i := 60) rfl)) rfl
theorem wST_X4_isWord : Cond.static yX4_isWord ∈ okW := ok_of (tb_3 (List.mem_of_getElem? (i := 61) rfl)) rfl
theorem wCD_X4_isWord : Cond.code yX4_isWord cX4_isWord 6 (some .boolean) ∈ okW := ok_of (tb_3 (List.mem_of_getElem? (i := 62) rfl)) rfl
theorem wM_X4_75 : Cond.methodLink RX4 75 yJ0_charAt_5068e ∈ okW := ok_of (tb_3 (List.mem_of_getElem? (i := 64) rfl)) rfl
theorem wIM_J0_charAt_5068e : Cond.instanceMethod yJ0_charAt_5068e ∈ okW := ok_of (tb_3 (List.mem_of_getElem? (i := 65) rfl)) rfl
theorem wSE_J0_charAt_5068e : Cond.selects yJ0_charAt_5068e.cls yJ0_charAt_5068e yJ0_charAt_5068e ∈ okW := ok_of (tb_3 (List.mem_of_getElem? (i := 66) rfl)) rfl
theorem wCD_J0_charAt_5068e : Cond.code yJ0_charAt_5068e cJ0_charAt_5068e 2 (some .char) ∈ okW := ok_of (tb_3 (List.mem_of_getElem? (i := 67) rfl)) rfl
theorem wM_J0_492 : Cond.methodLink RJ0 492 yJ0_isLatin1_aae02 ∈ okW := ok_of (tb_3 (List.mem_of_getElem? (i := 68) rfl)) rfl
theorem wIM_J0_isLatin1_aae02 : Cond.instanceMethod yJ0_isLatin1_aae02 ∈ okW := ok_of (tb_3 (List.mem_of_getElem? (i := 69) rfl)) rfl
theorem wSE_J0_isLatin1_aae02 : Cond.selects yJ0_isLatin1_aae02.cls yJ0_isLatin1_aae02 yJ0_isLatin1_aae02 ∈ okW := ok_of (tb_3 (List.mem_of_getElem? (i := 70) rfl)) rfl
theorem wCD_J0_isLatin1_aae02 : Cond.code yJ0_isLatin1_aae02 cJ0_isLatin1_aae02 1 (some .boolean) ∈ okW := ok_of (tb_3 (List.mem_of_getElem? (i := 71) rfl)) rfl
theorem wFJ_J0_38 : Cond.fieldLink RJ0 38 "java/lang/String" "COMPACT_STRINGS" "Z" ∈ okW := ok_of (tb_3 (List.mem_of_getElem? (i := 72) rfl)) rfl
theorem wM_J0_495 : Cond.methodLink RJ0 495 yJ1_charAt_3b067 ∈ okW := ok_of (tb_3 (List.mem_of_getElem? (i := 74) rfl)) rfl
theorem wST_J1_charAt_3b067 : Cond.static yJ1_charAt_3b067 ∈ okW := ok_of (tb_3 (List.mem_of_getElem? (i := 75) rfl)) rfl
theorem wCD_J1_charAt_3b067 : Cond.code yJ1_charAt_3b067 cJ1_charAt_3b067 2 (some .char) ∈ okW := ok_of (tb_3 (List.mem_of_getElem? (i := 76) rfl)) rfl
theorem wM_J1_9 : Cond.methodLink RJ1 9 yJ0_checkIndex_df160 ∈ okW := ok_of (tb_3 (List.mem_of_getElem? (i := 77) rfl)) rfl
theorem wST_J0_checkIndex_df160 : Cond.static yJ0_checkIndex_df160 ∈ okW := ok_of (tb_3 (List.mem_of_getElem? (i := 78) rfl)) rfl
theorem wCD_J0_checkIndex_df160 : Cond.code yJ0_checkIndex_df160 cJ0_checkIndex_df160 2 none ∈ okW := ok_of (tb_3 (List.mem_of_getElem? (i := 79) rfl)) rfl
theorem wFJ_J0_1053 : Cond.fieldLink RJ0 1053 "jdk/internal/util/Preconditions" "SIOOBE_FORMATTER" "Ljava/util/function/BiFunction;" ∈ okW := ok_of (tb_3 (List.mem_of_getElem? (i := 80) rfl)) rfl
theorem wM_J0_1059 : Cond.methodLink RJ0 1059 yJ3_checkIndex_8e157 ∈ okW := ok_of (tb_3 (List.mem_of_getElem? (i := 82) rfl)) rfl
theorem wST_J3_checkIndex_8e157 : Cond.static yJ3_checkIndex_8e157 ∈ okW := ok_of (tb_3 (List.mem_of_getElem? (i := 83) rfl)) rfl
theorem wCD_J3_checkIndex_8e157 : Cond.code yJ3_checkIndex_8e157 cJ3_checkIndex_8e157 3 (some .int) ∈ okW := ok_of (tb_3 (List.mem_of_getElem? (i := 84) rfl)) rfl
theorem wM_X4_56 : Cond.methodLink RX4 56 yX4_addToken ∈ okW := ok_of (tb_3 (List.mem_of_getElem? (i := 104) rfl)) rfl
theorem wIM_X4_addToken : Cond.instanceMethod yX4_addToken ∈ okW := ok_of (tb_3 (List.mem_of_getElem? (i := 106) rfl)) rfl
theorem wCD_X4_addToken : Cond.code yX4_addToken cX4_addToken 4 none ∈ okW := ok_of (tb_3 (List.mem_of_getElem? (i := 107) rfl)) rfl
theorem wM_X4_60 : Cond.methodLink RX4 60 yX4_isDigit ∈ okW := ok_of (tb_3 (List.mem_of_getElem? (i := 108) rfl)) rfl
theorem wST_X4_isDigit : Cond.static yX4_isDigit ∈ okW := ok_of (tb_3 (List.mem_of_getElem? (i := 109) rfl)) rfl
theorem wCD_X4_isDigit : Cond.code yX4_isDigit cX4_isDigit 1 (some .boolean) ∈ okW := ok_of (tb_3 (List.mem_of_getElem? (i := 110) rfl)) rfl
theorem wM_X4_63 : Cond.methodLink RX4 63 yX4_numberAt ∈ okW := ok_of (tb_3 (List.mem_of_getElem? (i := 111) rfl)) rfl
theorem wST_X4_numberAt : Cond.static yX4_numberAt ∈ okW := ok_of (tb_3 (List.mem_of_getElem? (i := 112) rfl)) rfl
theorem wCD_X4_numberAt : Cond.code yX4_numberAt cX4_numberAt 5 (some .int) ∈ okW := ok_of (tb_3 (List.mem_of_getElem? (i := 113) rfl)) rfl
theorem wM_X4_66 : Cond.methodLink RX4 66 yX4_isSign ∈ okW := ok_of (tb_3 (List.mem_of_getElem? (i := 114) rfl)) rfl
theorem wST_X4_isSign : Cond.static yX4_isSign ∈ okW := ok_of (tb_3 (List.mem_of_getElem? (i := 115) rfl)) rfl
theorem wCD_X4_isSign : Cond.code yX4_isSign cX4_isSign 1 (some .boolean) ∈ okW := ok_of (tb_3 (List.mem_of_getElem? (i := 116) rfl)) rfl
theorem wM_X9_125 : Cond.methodLink RX9 125 yX4_goesOn ∈ okW := ok_of (tb_3 (List.mem_of_getElem? (i := 117) rfl)) rfl
theorem wIM_X4_goesOn : Cond.instanceMethod yX4_goesOn ∈ okW := ok_of (tb_3 (List.mem_of_getElem? (i := 118) rfl)) rfl
theorem wSE_X4_goesOn : Cond.selects yX4_goesOn.cls yX4_goesOn yX4_goesOn ∈ okW := ok_of (tb_3 (List.mem_of_getElem? (i := 119) rfl)) rfl
theorem wCD_X4_goesOn : Cond.code yX4_goesOn cX4_goesOn 1 (some .boolean) ∈ okW := ok_of (tb_3 (List.mem_of_getElem? (i := 120) rfl)) rfl
theorem wM_X9_129 : Cond.methodLink RX9 129 yX4_line ∈ okW := ok_of (tb_3 (List.mem_of_getElem? (i := 121) rfl)) rfl
theorem wIM_X4_line : Cond.instanceMethod yX4_line ∈ okW := ok_of (tb_3 (List.mem_of_getElem? (i := 122) rfl)) rfl
theorem wSE_X4_line : Cond.selects yX4_line.cls yX4_line yX4_line ∈ okW := ok_of (tb_3 (List.mem_of_getElem? (i := 123) rfl)) rfl
theorem wCD_X4_line : Cond.code yX4_line cX4_line 3 (some .boolean) ∈ okW := ok_of (tb_3 (List.mem_of_getElem? (i := 124) rfl)) rfl
theorem wM_X4_81 : Cond.methodLink RX4 81 yX4_refuse ∈ okW := ok_of (tb_3 (List.mem_of_getElem? (i := 125) rfl)) rfl
theorem wIM_X4_refuse : Cond.instanceMethod yX4_refuse ∈ okW := ok_of (tb_3 (List.mem_of_getElem? (i := 127) rfl)) rfl
theorem wCD_X4_refuse : Cond.code yX4_refuse cX4_refuse 2 (some .boolean) ∈ okW := ok_of (tb_3 (List.mem_of_getElem? (i := 128) rfl)) rfl
theorem wM_X4_99 : Cond.methodLink RX4 99 yX4_lawHead ∈ okW := ok_of (tb_3 (List.mem_of_getElem? (i := 129) rfl)) rfl
theorem wIM_X4_lawHead : Cond.instanceMethod yX4_lawHead ∈ okW := ok_of (tb_3 (List.mem_of_getElem? (i := 131) rfl)) rfl
theorem wCD_X4_lawHead : Cond.code yX4_lawHead cX4_lawHead 3 (some .boolean) ∈ okW := ok_of (tb_3 (List.mem_of_getElem? (i := 132) rfl)) rfl
theorem wM_X4_119 : Cond.methodLink RX4 119 yX4_number ∈ okW := ok_of (tb_3 (List.mem_of_getElem? (i := 133) rfl)) rfl
theorem wIM_X4_number : Cond.instanceMethod yX4_number ∈ okW := ok_of (tb_3 (List.mem_of_getElem? (i := 135) rfl)) rfl
theorem wCD_X4_number : Cond.code yX4_number cX4_number 3 (some .boolean) ∈ okW := ok_of (tb_3 (List.mem_of_getElem? (i := 136) rfl)) rfl
theorem wM_X4_103 : Cond.methodLink RX4 103 yX4_sum ∈ okW := ok_of (tb_3 (List.mem_of_getElem? (i := 137) rfl)) rfl
theorem wIM_X4_sum : Cond.instanceMethod yX4_sum ∈ okW := ok_of (tb_3 (List.mem_of_getElem? (i := 139) rfl)) rfl
theorem wCD_X4_sum : Cond.code yX4_sum cX4_sum 3 (some .boolean) ∈ okW := ok_of (tb_3 (List.mem_of_getElem? (i := 140) rfl)) rfl
theorem wM_X4_141 : Cond.methodLink RX4 141 yX4_term ∈ okW := ok_of (tb_3 (List.mem_of_getElem? (i := 141) rfl)) rfl
theorem wIM_X4_term : Cond.instanceMethod yX4_term ∈ okW := ok_of (tb_3 (List.mem_of_getElem? (i := 143) rfl)) rfl
theorem wCD_X4_term : Cond.code yX4_term cX4_term 5 (some .boolean) ∈ okW := ok_of (tb_3 (List.mem_of_getElem? (i := 144) rfl)) rfl
theorem wM_X4_144 : Cond.methodLink RX4 144 yX4_isUnit ∈ okW := ok_of (tb_3 (List.mem_of_getElem? (i := 145) rfl)) rfl
theorem wIM_X4_isUnit : Cond.instanceMethod yX4_isUnit ∈ okW := ok_of (tb_3 (List.mem_of_getElem? (i := 147) rfl)) rfl
theorem wCD_X4_isUnit : Cond.code yX4_isUnit cX4_isUnit 2 (some .boolean) ∈ okW := ok_of (tb_3 (List.mem_of_getElem? (i := 148) rfl)) rfl
theorem wM_X4_131 : Cond.methodLink RX4 131 yX7_addStep ∈ okW := ok_of (tb_3 (List.mem_of_getElem? (i := 149) rfl)) rfl
theorem wIM_X7_addStep : Cond.instanceMethod yX7_addStep ∈ okW := ok_of (tb_3 (List.mem_of_getElem? (i := 150) rfl)) rfl
theorem wSE_X7_addStep : Cond.selects yX7_addStep.cls yX7_addStep yX7_addStep ∈ okW := ok_of (tb_3 (List.mem_of_getElem? (i := 151) rfl)) rfl
theorem wCD_X7_addStep : Cond.code yX7_addStep cX7_addStep 3 none ∈ okW := ok_of (tb_3 (List.mem_of_getElem? (i := 152) rfl)) rfl
theorem wK_X7_43 : Cond.constant RX7 43 (100000) ∈ okW := ok_of (tb_3 (List.mem_of_getElem? (i := 153) rfl)) rfl
theorem wM_X4_107 : Cond.methodLink RX4 107 yX4_jobHead ∈ okW := ok_of (tb_3 (List.mem_of_getElem? (i := 154) rfl)) rfl
theorem wIM_X4_jobHead : Cond.instanceMethod yX4_jobHead ∈ okW := ok_of (tb_3 (List.mem_of_getElem? (i := 156) rfl)) rfl
theorem wCD_X4_jobHead : Cond.code yX4_jobHead cX4_jobHead 3 (some .boolean) ∈ okW := ok_of (tb_3 (List.mem_of_getElem? (i := 157) rfl)) rfl
theorem wM_X4_113 : Cond.methodLink RX4 113 yX4_either ∈ okW := ok_of (tb_3 (List.mem_of_getElem? (i := 158) rfl)) rfl
theorem wIM_X4_either : Cond.instanceMethod yX4_either ∈ okW := ok_of (tb_3 (List.mem_of_getElem? (i := 160) rfl)) rfl
theorem wCD_X4_either : Cond.code yX4_either cX4_either 3 (some .boolean) ∈ okW := ok_of (tb_3 (List.mem_of_getElem? (i := 161) rfl)) rfl
theorem wM_X4_128 : Cond.methodLink RX4 128 yX4_both ∈ okW := ok_of (tb_3 (List.mem_of_getElem? (i := 162) rfl)) rfl
theorem wIM_X4_both : Cond.instanceMethod yX4_both ∈ okW := ok_of (tb_3 (List.mem_of_getElem? (i := 164) rfl)) rfl
theorem wCD_X4_both : Cond.code yX4_both cX4_both 3 (some .boolean) ∈ okW := ok_of (tb_3 (List.mem_of_getElem? (i := 165) rfl)) rfl
theorem wM_X4_135 : Cond.methodLink RX4 135 yX4_part ∈ okW := ok_of (tb_3 (List.mem_of_getElem? (i := 166) rfl)) rfl
theorem wIM_X4_part : Cond.instanceMethod yX4_part ∈ okW := ok_of (tb_3 (List.mem_of_getElem? (i := 168) rfl)) rfl
theorem wCD_X4_part : Cond.code yX4_part cX4_part 4 (some .boolean) ∈ okW := ok_of (tb_3 (List.mem_of_getElem? (i := 169) rfl)) rfl
theorem wM_X4_138 : Cond.methodLink RX4 138 yX4_opened ∈ okW := ok_of (tb_3 (List.mem_of_getElem? (i := 170) rfl)) rfl
theorem wIM_X4_opened : Cond.instanceMethod yX4_opened ∈ okW := ok_of (tb_3 (List.mem_of_getElem? (i := 172) rfl)) rfl
theorem wCD_X4_opened : Cond.code yX4_opened cX4_opened 3 (some .boolean) ∈ okW := ok_of (tb_3 (List.mem_of_getElem? (i := 173) rfl)) rfl
theorem wM_X9_138 : Cond.methodLink RX9 138 yX7_copyFrom ∈ okW := ok_of (tb_3 (List.mem_of_getElem? (i := 174) rfl)) rfl
theorem wIM_X7_copyFrom : Cond.instanceMethod yX7_copyFrom ∈ okW := ok_of (tb_3 (List.mem_of_getElem? (i := 175) rfl)) rfl
theorem wSE_X7_copyFrom : Cond.selects yX7_copyFrom.cls yX7_copyFrom yX7_copyFrom ∈ okW := ok_of (tb_3 (List.mem_of_getElem? (i := 176) rfl)) rfl
theorem wCD_X7_copyFrom : Cond.code yX7_copyFrom cX7_copyFrom 2 none ∈ okW := ok_of (tb_3 (List.mem_of_getElem? (i := 177) rfl)) rfl
theorem wM_X7_44 : Cond.methodLink RX7 44 ⟨"java/lang/System", "arraycopy", "(Ljava/lang/Object;ILjava/lang/Object;II)V"⟩ ∈ okW := ok_of (tb_3 (List.mem_of_getElem? (i := 178) rfl)) rfl
theorem wST_arraycopy : Cond.static ⟨"java/lang/System", "arraycopy", "(Ljava/lang/Object;ILjava/lang/Object;II)V"⟩ ∈ okW := ok_of (tb_3 (List.mem_of_getElem? (i := 179) rfl)) rfl
theorem wNT_arraycopy : Cond.native ⟨"java/lang/System", "arraycopy", "(Ljava/lang/Object;ILjava/lang/Object;II)V"⟩ ∈ okW := ok_of (tb_3 (List.mem_of_getElem? (i := 180) rfl)) rfl
theorem wM_L_48 : Cond.methodLink RL 48 yX9_fault ∈ okW := ok_of (tb_3 (List.mem_of_getElem? (i := 182) rfl)) rfl
theorem wIM_X9_fault : Cond.instanceMethod yX9_fault ∈ okW := ok_of (tb_3 (List.mem_of_getElem? (i := 183) rfl)) rfl
theorem wSE_X9_fault : Cond.selects yX9_fault.cls yX9_fault yX9_fault ∈ okW := ok_of (tb_3 (List.mem_of_getElem? (i := 184) rfl)) rfl
theorem wCD_X9_fault : Cond.code yX9_fault cX9_fault 2 (some .int) ∈ okW := ok_of (tb_3 (List.mem_of_getElem? (i := 185) rfl)) rfl
theorem wM_L_52 : Cond.methodLink RL 52 yX9_force ∈ okW := ok_of (tb_3 (List.mem_of_getElem? (i := 186) rfl)) rfl
theorem wIM_X9_force : Cond.instanceMethod yX9_force ∈ okW := ok_of (tb_3 (List.mem_of_getElem? (i := 187) rfl)) rfl
theorem wSE_X9_force : Cond.selects yX9_force.cls yX9_force yX9_force ∈ okW := ok_of (tb_3 (List.mem_of_getElem? (i := 188) rfl)) rfl
theorem wCD_X9_force : Cond.code yX9_force cX9_force 3 (some .int) ∈ okW := ok_of (tb_3 (List.mem_of_getElem? (i := 189) rfl)) rfl
theorem wM_L_56 : Cond.methodLink RL 56 yX9_tells ∈ okW := ok_of (tb_3 (List.mem_of_getElem? (i := 190) rfl)) rfl
theorem wIM_X9_tells : Cond.instanceMethod yX9_tells ∈ okW := ok_of (tb_3 (List.mem_of_getElem? (i := 191) rfl)) rfl
theorem wSE_X9_tells : Cond.selects yX9_tells.cls yX9_tells yX9_tells ∈ okW := ok_of (tb_3 (List.mem_of_getElem? (i := 192) rfl)) rfl
theorem wCD_X9_tells : Cond.code yX9_tells cX9_tells 7 (some .int) ∈ okW := ok_of (tb_3 (List.mem_of_getElem? (i := 193) rfl)) rfl
theorem wM_X9_150 : Cond.methodLink RX9 150 yX9_isTone ∈ okW := ok_of (tb_3 (List.mem_of_getElem? (i := 194) rfl)) rfl
theorem wST_X9_isTone : Cond.static yX9_isTone ∈ okW := ok_of (tb_3 (List.mem_of_getElem? (i := 195) rfl)) rfl
theorem wCD_X9_isTone : Cond.code yX9_isTone cX9_isTone 1 (some .boolean) ∈ okW := ok_of (tb_3 (List.mem_of_getElem? (i := 196) rfl)) rfl
theorem wK_X9_153 : Cond.constant RX9 153 (-100000) ∈ okW := ok_of (tb_3 (List.mem_of_getElem? (i := 197) rfl)) rfl
theorem wM_X9_154 : Cond.methodLink RX9 154 yX6_seeSlice ∈ okW := ok_of (tb_3 (List.mem_of_getElem? (i := 198) rfl)) rfl
theorem wIM_X6_seeSlice : Cond.instanceMethod yX6_seeSlice ∈ okW := ok_of (tb_3 (List.mem_of_getElem? (i := 199) rfl)) rfl
theorem wSE_X6_seeSlice : Cond.selects yX6_seeSlice.cls yX6_seeSlice yX6_seeSlice ∈ okW := ok_of (tb_3 (List.mem_of_getElem? (i := 200) rfl)) rfl
theorem wCD_X6_seeSlice : Cond.code yX6_seeSlice cX6_seeSlice 6 none ∈ okW := ok_of (tb_3 (List.mem_of_getElem? (i := 201) rfl)) rfl
theorem wM_X6_24 : Cond.methodLink RX6 24 yJ9_abs_0f7a4 ∈ okW := ok_of (tb_3 (List.mem_of_getElem? (i := 202) rfl)) rfl
theorem wST_J9_abs_0f7a4 : Cond.static yJ9_abs_0f7a4 ∈ okW := ok_of (tb_3 (List.mem_of_getElem? (i := 203) rfl)) rfl
theorem wCD_J9_abs_0f7a4 : Cond.code yJ9_abs_0f7a4 cJ9_abs_0f7a4 1 (some .int) ∈ okW := ok_of (tb_3 (List.mem_of_getElem? (i := 204) rfl)) rfl
theorem wM_X6_30 : Cond.methodLink RX6 30 yJ9_min_7cf53 ∈ okW := ok_of (tb_3 (List.mem_of_getElem? (i := 205) rfl)) rfl
theorem wST_J9_min_7cf53 : Cond.static yJ9_min_7cf53 ∈ okW := ok_of (tb_3 (List.mem_of_getElem? (i := 206) rfl)) rfl
theorem wCD_J9_min_7cf53 : Cond.code yJ9_min_7cf53 cJ9_min_7cf53 2 (some .int) ∈ okW := ok_of (tb_3 (List.mem_of_getElem? (i := 207) rfl)) rfl
theorem wM_X9_162 : Cond.methodLink RX9 162 yX6_told ∈ okW := ok_of (tb_3 (List.mem_of_getElem? (i := 208) rfl)) rfl
theorem wIM_X6_told : Cond.instanceMethod yX6_told ∈ okW := ok_of (tb_3 (List.mem_of_getElem? (i := 209) rfl)) rfl
theorem wSE_X6_told : Cond.selects yX6_told.cls yX6_told yX6_told ∈ okW := ok_of (tb_3 (List.mem_of_getElem? (i := 210) rfl)) rfl
theorem wCD_X6_told : Cond.code yX6_told cX6_told 6 (some .int) ∈ okW := ok_of (tb_3 (List.mem_of_getElem? (i := 211) rfl)) rfl
theorem wM_X6_54 : Cond.methodLink RX6 54 yX7_hasWhen ∈ okW := ok_of (tb_3 (List.mem_of_getElem? (i := 212) rfl)) rfl
theorem wIM_X7_hasWhen : Cond.instanceMethod yX7_hasWhen ∈ okW := ok_of (tb_3 (List.mem_of_getElem? (i := 213) rfl)) rfl
theorem wSE_X7_hasWhen : Cond.selects yX7_hasWhen.cls yX7_hasWhen yX7_hasWhen ∈ okW := ok_of (tb_3 (List.mem_of_getElem? (i := 214) rfl)) rfl
theorem wCD_X7_hasWhen : Cond.code yX7_hasWhen cX7_hasWhen 2 (some .boolean) ∈ okW := ok_of (tb_3 (List.mem_of_getElem? (i := 215) rfl)) rfl
theorem wM_X6_64 : Cond.methodLink RX6 64 yX6_value ∈ okW := ok_of (tb_3 (List.mem_of_getElem? (i := 216) rfl)) rfl
theorem wIM_X6_value : Cond.instanceMethod yX6_value ∈ okW := ok_of (tb_3 (List.mem_of_getElem? (i := 217) rfl)) rfl
theorem wSE_X6_value : Cond.selects yX6_value.cls yX6_value yX6_value ∈ okW := ok_of (tb_3 (List.mem_of_getElem? (i := 218) rfl)) rfl
theorem wCD_X6_value : Cond.code yX6_value cX6_value 9 (some .int) ∈ okW := ok_of (tb_3 (List.mem_of_getElem? (i := 219) rfl)) rfl
theorem wK_X6_97 : Cond.constant RX6 97 (100000) ∈ okW := ok_of (tb_3 (List.mem_of_getElem? (i := 220) rfl)) rfl
theorem wM_X6_98 : Cond.methodLink RX6 98 yX6_joined ∈ okW := ok_of (tb_3 (List.mem_of_getElem? (i := 221) rfl)) rfl
theorem wST_X6_joined : Cond.static yX6_joined ∈ okW := ok_of (tb_3 (List.mem_of_getElem? (i := 222) rfl)) rfl
theorem wCD_X6_joined : Cond.code yX6_joined cX6_joined 3 (some .int) ∈ okW := ok_of (tb_3 (List.mem_of_getElem? (i := 223) rfl)) rfl
theorem wK_X6_71 : Cond.constant RX6 71 (99999) ∈ okW := ok_of (tb_3 (List.mem_of_getElem? (i := 224) rfl)) rfl
theorem wM_X6_72 : Cond.methodLink RX6 72 yJ9_max_7cf53 ∈ okW := ok_of (tb_3 (List.mem_of_getElem? (i := 225) rfl)) rfl
theorem wST_J9_max_7cf53 : Cond.static yJ9_max_7cf53 ∈ okW := ok_of (tb_3 (List.mem_of_getElem? (i := 226) rfl)) rfl
theorem wCD_J9_max_7cf53 : Cond.code yJ9_max_7cf53 cJ9_max_7cf53 2 (some .int) ∈ okW := ok_of (tb_3 (List.mem_of_getElem? (i := 227) rfl)) rfl
theorem wM_L_60 : Cond.methodLink RL 60 yX9_tone ∈ okW := ok_of (tb_3 (List.mem_of_getElem? (i := 228) rfl)) rfl
theorem wIM_X9_tone : Cond.instanceMethod yX9_tone ∈ okW := ok_of (tb_3 (List.mem_of_getElem? (i := 229) rfl)) rfl
theorem wSE_X9_tone : Cond.selects yX9_tone.cls yX9_tone yX9_tone ∈ okW := ok_of (tb_3 (List.mem_of_getElem? (i := 230) rfl)) rfl
theorem wCD_X9_tone : Cond.code yX9_tone cX9_tone 4 (some .int) ∈ okW := ok_of (tb_3 (List.mem_of_getElem? (i := 231) rfl)) rfl
theorem wM_X9_166 : Cond.methodLink RX9 166 yX9_toneNow ∈ okW := ok_of (tb_3 (List.mem_of_getElem? (i := 232) rfl)) rfl
theorem wIM_X9_toneNow : Cond.instanceMethod yX9_toneNow ∈ okW := ok_of (tb_3 (List.mem_of_getElem? (i := 234) rfl)) rfl
theorem wCD_X9_toneNow : Cond.code yX9_toneNow cX9_toneNow 3 (some .int) ∈ okW := ok_of (tb_3 (List.mem_of_getElem? (i := 235) rfl)) rfl
theorem wM_X9_212 : Cond.methodLink RX9 212 yX8_law ∈ okW := ok_of (tb_3 (List.mem_of_getElem? (i := 236) rfl)) rfl
theorem wIM_X8_law : Cond.instanceMethod yX8_law ∈ okW := ok_of (tb_3 (List.mem_of_getElem? (i := 237) rfl)) rfl
theorem wSE_X8_law : Cond.selects yX8_law.cls yX8_law yX8_law ∈ okW := ok_of (tb_3 (List.mem_of_getElem? (i := 238) rfl)) rfl
theorem wCD_X8_law : Cond.code yX8_law cX8_law 1 (some (.object "RingBars$Text")) ∈ okW := ok_of (tb_3 (List.mem_of_getElem? (i := 239) rfl)) rfl
theorem wM_X9_216 : Cond.methodLink RX9 216 yX6_toneOf ∈ okW := ok_of (tb_4 (List.mem_of_getElem? (i := 0) rfl)) rfl
theorem wIM_X6_toneOf : Cond.instanceMethod yX6_toneOf ∈ okW := ok_of (tb_4 (List.mem_of_getElem? (i := 1) rfl)) rfl
theorem wSE_X6_toneOf : Cond.selects yX6_toneOf.cls yX6_toneOf yX6_toneOf ∈ okW := ok_of (tb_4 (List.mem_of_getElem? (i := 2) rfl)) rfl
theorem wCD_X6_toneOf : Cond.code yX6_toneOf cX6_toneOf 10 (some .int) ∈ okW := ok_of (tb_4 (List.mem_of_getElem? (i := 3) rfl)) rfl
theorem wM_X6_75 : Cond.methodLink RX6 75 yX6_seeSlice ∈ okW := ok_of (tb_4 (List.mem_of_getElem? (i := 4) rfl)) rfl
theorem wM_X6_79 : Cond.methodLink RX6 79 yX6_told ∈ okW := ok_of (tb_4 (List.mem_of_getElem? (i := 5) rfl)) rfl
theorem wST_X9_ratio : Cond.static yX9_ratio ∈ okW := ok_of (tb_4 (List.mem_of_getElem? (i := 7) rfl)) rfl
theorem wCD_X9_ratio : Cond.code yX9_ratio cX9_ratio 2 (some .int) ∈ okW := ok_of (tb_4 (List.mem_of_getElem? (i := 8) rfl)) rfl
theorem wK_X9_360 : Cond.constantLong RX9 360 (1000) ∈ okW := ok_of (tb_4 (List.mem_of_getElem? (i := 9) rfl)) rfl
theorem wM_L_64 : Cond.methodLink RL 64 yX9_shave ∈ okW := ok_of (tb_4 (List.mem_of_getElem? (i := 10) rfl)) rfl
theorem wIM_X9_shave : Cond.instanceMethod yX9_shave ∈ okW := ok_of (tb_4 (List.mem_of_getElem? (i := 11) rfl)) rfl
theorem wSE_X9_shave : Cond.selects yX9_shave.cls yX9_shave yX9_shave ∈ okW := ok_of (tb_4 (List.mem_of_getElem? (i := 12) rfl)) rfl
theorem wCD_X9_shave : Cond.code yX9_shave cX9_shave 5 (some .int) ∈ okW := ok_of (tb_4 (List.mem_of_getElem? (i := 13) rfl)) rfl
theorem wM_X9_170 : Cond.methodLink RX9 170 yX9_takeOff ∈ okW := ok_of (tb_4 (List.mem_of_getElem? (i := 14) rfl)) rfl
theorem wIM_X9_takeOff : Cond.instanceMethod yX9_takeOff ∈ okW := ok_of (tb_4 (List.mem_of_getElem? (i := 16) rfl)) rfl
theorem wCD_X9_takeOff : Cond.code yX9_takeOff cX9_takeOff 4 (some .int) ∈ okW := ok_of (tb_4 (List.mem_of_getElem? (i := 17) rfl)) rfl
theorem wM_X9_190 : Cond.methodLink RX9 190 yX9_isLost ∈ okW := ok_of (tb_4 (List.mem_of_getElem? (i := 18) rfl)) rfl
theorem wIM_X9_isLost : Cond.instanceMethod yX9_isLost ∈ okW := ok_of (tb_4 (List.mem_of_getElem? (i := 20) rfl)) rfl
theorem wCD_X9_isLost : Cond.code yX9_isLost cX9_isLost 3 (some .boolean) ∈ okW := ok_of (tb_4 (List.mem_of_getElem? (i := 21) rfl)) rfl
theorem wM_L_68 : Cond.methodLink RL 68 yX9_pass ∈ okW := ok_of (tb_4 (List.mem_of_getElem? (i := 22) rfl)) rfl
theorem wIM_X9_pass : Cond.instanceMethod yX9_pass ∈ okW := ok_of (tb_4 (List.mem_of_getElem? (i := 23) rfl)) rfl
theorem wSE_X9_pass : Cond.selects yX9_pass.cls yX9_pass yX9_pass ∈ okW := ok_of (tb_4 (List.mem_of_getElem? (i := 24) rfl)) rfl
theorem wCD_X9_pass : Cond.code yX9_pass cX9_pass 5 (some .int) ∈ okW := ok_of (tb_4 (List.mem_of_getElem? (i := 25) rfl)) rfl
theorem wM_L_72 : Cond.methodLink RL 72 yX9_goal ∈ okW := ok_of (tb_4 (List.mem_of_getElem? (i := 26) rfl)) rfl
theorem wIM_X9_goal : Cond.instanceMethod yX9_goal ∈ okW := ok_of (tb_4 (List.mem_of_getElem? (i := 27) rfl)) rfl
theorem wSE_X9_goal : Cond.selects yX9_goal.cls yX9_goal yX9_goal ∈ okW := ok_of (tb_4 (List.mem_of_getElem? (i := 28) rfl)) rfl
theorem wCD_X9_goal : Cond.code yX9_goal cX9_goal 5 (some .boolean) ∈ okW := ok_of (tb_4 (List.mem_of_getElem? (i := 29) rfl)) rfl
theorem wK_X9_180 : Cond.constant RX9 180 (999999) ∈ okW := ok_of (tb_4 (List.mem_of_getElem? (i := 30) rfl)) rfl
theorem wM_L_76 : Cond.methodLink RL 76 yX9_slack ∈ okW := ok_of (tb_4 (List.mem_of_getElem? (i := 31) rfl)) rfl
theorem wIM_X9_slack : Cond.instanceMethod yX9_slack ∈ okW := ok_of (tb_4 (List.mem_of_getElem? (i := 32) rfl)) rfl
theorem wSE_X9_slack : Cond.selects yX9_slack.cls yX9_slack yX9_slack ∈ okW := ok_of (tb_4 (List.mem_of_getElem? (i := 33) rfl)) rfl
theorem wCD_X9_slack : Cond.code yX9_slack cX9_slack 2 (some .boolean) ∈ okW := ok_of (tb_4 (List.mem_of_getElem? (i := 34) rfl)) rfl
theorem wM_L_80 : Cond.methodLink RL 80 yX9_state ∈ okW := ok_of (tb_4 (List.mem_of_getElem? (i := 35) rfl)) rfl
theorem wIM_X9_state : Cond.instanceMethod yX9_state ∈ okW := ok_of (tb_4 (List.mem_of_getElem? (i := 36) rfl)) rfl
theorem wSE_X9_state : Cond.selects yX9_state.cls yX9_state yX9_state ∈ okW := ok_of (tb_4 (List.mem_of_getElem? (i := 37) rfl)) rfl
theorem wCD_X9_state : Cond.code yX9_state cX9_state 4 (some .int) ∈ okW := ok_of (tb_4 (List.mem_of_getElem? (i := 38) rfl)) rfl
theorem wM_X9_194 : Cond.methodLink RX9 194 yX9_isTrue ∈ okW := ok_of (tb_4 (List.mem_of_getElem? (i := 39) rfl)) rfl
theorem wIM_X9_isTrue : Cond.instanceMethod yX9_isTrue ∈ okW := ok_of (tb_4 (List.mem_of_getElem? (i := 41) rfl)) rfl
theorem wCD_X9_isTrue : Cond.code yX9_isTrue cX9_isTrue 3 (some .boolean) ∈ okW := ok_of (tb_4 (List.mem_of_getElem? (i := 42) rfl)) rfl
theorem wM_X9_362 : Cond.methodLink RX9 362 yJ9_abs_0f7a4 ∈ okW := ok_of (tb_4 (List.mem_of_getElem? (i := 43) rfl)) rfl
theorem wM_X9_203 : Cond.methodLink RX9 203 yX9_amiss ∈ okW := ok_of (tb_4 (List.mem_of_getElem? (i := 44) rfl)) rfl
theorem wIM_X9_amiss : Cond.instanceMethod yX9_amiss ∈ okW := ok_of (tb_4 (List.mem_of_getElem? (i := 46) rfl)) rfl
theorem wCD_X9_amiss : Cond.code yX9_amiss cX9_amiss 3 (some .int) ∈ okW := ok_of (tb_4 (List.mem_of_getElem? (i := 47) rfl)) rfl
theorem wM_X9_263 : Cond.methodLink RX9 263 yX9_findPoints ∈ okW := ok_of (tb_4 (List.mem_of_getElem? (i := 48) rfl)) rfl
theorem wIM_X9_findPoints : Cond.instanceMethod yX9_findPoints ∈ okW := ok_of (tb_4 (List.mem_of_getElem? (i := 50) rfl)) rfl
theorem wCD_X9_findPoints : Cond.code yX9_findPoints cX9_findPoints 7 (some .int) ∈ okW := ok_of (tb_4 (List.mem_of_getElem? (i := 51) rfl)) rfl
theorem wM_L_84 : Cond.methodLink RL 84 yX9_takes ∈ okW := ok_of (tb_4 (List.mem_of_getElem? (i := 52) rfl)) rfl
theorem wIM_X9_takes : Cond.instanceMethod yX9_takes ∈ okW := ok_of (tb_4 (List.mem_of_getElem? (i := 53) rfl)) rfl
theorem wSE_X9_takes : Cond.selects yX9_takes.cls yX9_takes yX9_takes ∈ okW := ok_of (tb_4 (List.mem_of_getElem? (i := 54) rfl)) rfl
theorem wCD_X9_takes : Cond.code yX9_takes cX9_takes 5 (some .int) ∈ okW := ok_of (tb_4 (List.mem_of_getElem? (i := 55) rfl)) rfl
theorem wK_X9_207 : Cond.constant RX9 207 (-10000000) ∈ okW := ok_of (tb_4 (List.mem_of_getElem? (i := 56) rfl)) rfl
theorem wM_X9_208 : Cond.methodLink RX9 208 yX0_thinnedCopy ∈ okW := ok_of (tb_4 (List.mem_of_getElem? (i := 57) rfl)) rfl
theorem wIM_X0_thinnedCopy : Cond.instanceMethod yX0_thinnedCopy ∈ okW := ok_of (tb_4 (List.mem_of_getElem? (i := 58) rfl)) rfl
theorem wSE_X0_thinnedCopy : Cond.selects yX0_thinnedCopy.cls yX0_thinnedCopy yX0_thinnedCopy ∈ okW := ok_of (tb_4 (List.mem_of_getElem? (i := 59) rfl)) rfl
theorem wCD_X0_thinnedCopy : Cond.code yX0_thinnedCopy cX0_thinnedCopy 3 none ∈ okW := ok_of (tb_4 (List.mem_of_getElem? (i := 60) rfl)) rfl
theorem wM_X0_75 : Cond.methodLink RX0 75 ⟨"java/lang/System", "arraycopy", "(Ljava/lang/Object;ILjava/lang/Object;II)V"⟩ ∈ okW := ok_of (tb_4 (List.mem_of_getElem? (i := 61) rfl)) rfl
theorem wM_L_88 : Cond.methodLink RL 88 yX9_job ∈ okW := ok_of (tb_4 (List.mem_of_getElem? (i := 62) rfl)) rfl
theorem wIM_X9_job : Cond.instanceMethod yX9_job ∈ okW := ok_of (tb_4 (List.mem_of_getElem? (i := 63) rfl)) rfl
theorem wSE_X9_job : Cond.selects yX9_job.cls yX9_job yX9_job ∈ okW := ok_of (tb_4 (List.mem_of_getElem? (i := 64) rfl)) rfl
theorem wCD_X9_job : Cond.code yX9_job cX9_job 7 (some .int) ∈ okW := ok_of (tb_4 (List.mem_of_getElem? (i := 65) rfl)) rfl
theorem wM_X9_223 : Cond.methodLink RX9 223 yX9_comesTrue ∈ okW := ok_of (tb_4 (List.mem_of_getElem? (i := 66) rfl)) rfl
theorem wIM_X9_comesTrue : Cond.instanceMethod yX9_comesTrue ∈ okW := ok_of (tb_4 (List.mem_of_getElem? (i := 68) rfl)) rfl
theorem wCD_X9_comesTrue : Cond.code yX9_comesTrue cX9_comesTrue 7 (some .boolean) ∈ okW := ok_of (tb_4 (List.mem_of_getElem? (i := 69) rfl)) rfl
theorem wM_X9_367 : Cond.methodLink RX9 367 yX7_hasWhen ∈ okW := ok_of (tb_4 (List.mem_of_getElem? (i := 70) rfl)) rfl
theorem wM_X9_370 : Cond.methodLink RX9 370 yX6_seeBar ∈ okW := ok_of (tb_4 (List.mem_of_getElem? (i := 71) rfl)) rfl
theorem wIM_X6_seeBar : Cond.instanceMethod yX6_seeBar ∈ okW := ok_of (tb_4 (List.mem_of_getElem? (i := 72) rfl)) rfl
theorem wSE_X6_seeBar : Cond.selects yX6_seeBar.cls yX6_seeBar yX6_seeBar ∈ okW := ok_of (tb_4 (List.mem_of_getElem? (i := 73) rfl)) rfl
theorem wCD_X6_seeBar : Cond.code yX6_seeBar cX6_seeBar 5 none ∈ okW := ok_of (tb_4 (List.mem_of_getElem? (i := 74) rfl)) rfl
theorem wM_X9_380 : Cond.methodLink RX9 380 yX6_value ∈ okW := ok_of (tb_4 (List.mem_of_getElem? (i := 75) rfl)) rfl
theorem wM_X9_227 : Cond.methodLink RX9 227 yX9_doLine ∈ okW := ok_of (tb_4 (List.mem_of_getElem? (i := 76) rfl)) rfl
theorem wIM_X9_doLine : Cond.instanceMethod yX9_doLine ∈ okW := ok_of (tb_4 (List.mem_of_getElem? (i := 78) rfl)) rfl
theorem wCD_X9_doLine : Cond.code yX9_doLine cX9_doLine 9 none ∈ okW := ok_of (tb_4 (List.mem_of_getElem? (i := 79) rfl)) rfl
theorem wM_X9_395 : Cond.methodLink RX9 395 yJ9_min_7cf53 ∈ okW := ok_of (tb_4 (List.mem_of_getElem? (i := 80) rfl)) rfl
theorem wM_L_92 : Cond.methodLink RL 92 yX9_fewest ∈ okW := ok_of (tb_4 (List.mem_of_getElem? (i := 81) rfl)) rfl
theorem wIM_X9_fewest : Cond.instanceMethod yX9_fewest ∈ okW := ok_of (tb_4 (List.mem_of_getElem? (i := 82) rfl)) rfl
theorem wSE_X9_fewest : Cond.selects yX9_fewest.cls yX9_fewest yX9_fewest ∈ okW := ok_of (tb_4 (List.mem_of_getElem? (i := 83) rfl)) rfl
theorem wCD_X9_fewest : Cond.code yX9_fewest cX9_fewest 5 (some .int) ∈ okW := ok_of (tb_4 (List.mem_of_getElem? (i := 84) rfl)) rfl
theorem wM_X9_231 : Cond.methodLink RX9 231 yX3_prepare ∈ okW := ok_of (tb_4 (List.mem_of_getElem? (i := 85) rfl)) rfl
theorem wIM_X3_prepare : Cond.instanceMethod yX3_prepare ∈ okW := ok_of (tb_4 (List.mem_of_getElem? (i := 86) rfl)) rfl
theorem wSE_X3_prepare : Cond.selects yX3_prepare.cls yX3_prepare yX3_prepare ∈ okW := ok_of (tb_4 (List.mem_of_getElem? (i := 87) rfl)) rfl
theorem wCD_X3_prepare : Cond.code yX3_prepare cX3_prepare 7 none ∈ okW := ok_of (tb_4 (List.mem_of_getElem? (i := 88) rfl)) rfl
theorem wM_X3_49 : Cond.methodLink RX3 49 yJ9_min_7cf53 ∈ okW := ok_of (tb_4 (List.mem_of_getElem? (i := 89) rfl)) rfl
theorem wM_X3_72 : Cond.methodLink RX3 72 yX6_seeSlice ∈ okW := ok_of (tb_4 (List.mem_of_getElem? (i := 90) rfl)) rfl
theorem wM_X3_78 : Cond.methodLink RX3 78 yX3_fill ∈ okW := ok_of (tb_4 (List.mem_of_getElem? (i := 91) rfl)) rfl
theorem wIM_X3_fill : Cond.instanceMethod yX3_fill ∈ okW := ok_of (tb_4 (List.mem_of_getElem? (i := 93) rfl)) rfl
theorem wCD_X3_fill : Cond.code yX3_fill cX3_fill 6 none ∈ okW := ok_of (tb_4 (List.mem_of_getElem? (i := 94) rfl)) rfl
theorem wM_X3_82 : Cond.methodLink RX3 82 yX3_place ∈ okW := ok_of (tb_4 (List.mem_of_getElem? (i := 95) rfl)) rfl
theorem wST_X3_place : Cond.static yX3_place ∈ okW := ok_of (tb_4 (List.mem_of_getElem? (i := 96) rfl)) rfl
theorem wCD_X3_place : Cond.code yX3_place cX3_place 3 (some .int) ∈ okW := ok_of (tb_4 (List.mem_of_getElem? (i := 97) rfl)) rfl
theorem wM_X3_86 : Cond.methodLink RX3 86 yX6_told ∈ okW := ok_of (tb_4 (List.mem_of_getElem? (i := 98) rfl)) rfl
theorem wM_X9_235 : Cond.methodLink RX9 235 yX3_find ∈ okW := ok_of (tb_4 (List.mem_of_getElem? (i := 99) rfl)) rfl
theorem wIM_X3_find : Cond.instanceMethod yX3_find ∈ okW := ok_of (tb_4 (List.mem_of_getElem? (i := 100) rfl)) rfl
theorem wSE_X3_find : Cond.selects yX3_find.cls yX3_find yX3_find ∈ okW := ok_of (tb_4 (List.mem_of_getElem? (i := 101) rfl)) rfl
theorem wCD_X3_find : Cond.code yX3_find cX3_find 2 (some .int) ∈ okW := ok_of (tb_4 (List.mem_of_getElem? (i := 102) rfl)) rfl
theorem wM_X3_90 : Cond.methodLink RX3 90 yX3_isTrueNow ∈ okW := ok_of (tb_4 (List.mem_of_getElem? (i := 103) rfl)) rfl
theorem wIM_X3_isTrueNow : Cond.instanceMethod yX3_isTrueNow ∈ okW := ok_of (tb_4 (List.mem_of_getElem? (i := 105) rfl)) rfl
theorem wCD_X3_isTrueNow : Cond.code yX3_isTrueNow cX3_isTrueNow 2 (some .boolean) ∈ okW := ok_of (tb_4 (List.mem_of_getElem? (i := 106) rfl)) rfl
theorem wM_X3_117 : Cond.methodLink RX3 117 yX3_isNear ∈ okW := ok_of (tb_4 (List.mem_of_getElem? (i := 107) rfl)) rfl
theorem wIM_X3_isNear : Cond.instanceMethod yX3_isNear ∈ okW := ok_of (tb_4 (List.mem_of_getElem? (i := 109) rfl)) rfl
theorem wCD_X3_isNear : Cond.code yX3_isNear cX3_isNear 6 (some .boolean) ∈ okW := ok_of (tb_4 (List.mem_of_getElem? (i := 110) rfl)) rfl
theorem wM_X3_94 : Cond.methodLink RX3 94 yX2_clear ∈ okW := ok_of (tb_4 (List.mem_of_getElem? (i := 112) rfl)) rfl
theorem wIM_X2_clear : Cond.instanceMethod yX2_clear ∈ okW := ok_of (tb_4 (List.mem_of_getElem? (i := 113) rfl)) rfl
theorem wSE_X2_clear : Cond.selects yX2_clear.cls yX2_clear yX2_clear ∈ okW := ok_of (tb_4 (List.mem_of_getElem? (i := 114) rfl)) rfl
theorem wCD_X2_clear : Cond.code yX2_clear cX2_clear 1 none ∈ okW := ok_of (tb_4 (List.mem_of_getElem? (i := 115) rfl)) rfl
theorem wM_X2_17 : Cond.methodLink RX2 17 yJ7_fill_53178 ∈ okW := ok_of (tb_4 (List.mem_of_getElem? (i := 116) rfl)) rfl
theorem wM_X3_97 : Cond.methodLink RX3 97 yX3_goOn ∈ okW := ok_of (tb_4 (List.mem_of_getElem? (i := 117) rfl)) rfl
theorem wIM_X3_goOn : Cond.instanceMethod yX3_goOn ∈ okW := ok_of (tb_4 (List.mem_of_getElem? (i := 119) rfl)) rfl
theorem wCD_X3_goOn : Cond.code yX3_goOn cX3_goOn 5 (some .boolean) ∈ okW := ok_of (tb_4 (List.mem_of_getElem? (i := 120) rfl)) rfl
theorem wM_X3_101 : Cond.methodLink RX3 101 yX3_isNearBehind ∈ okW := ok_of (tb_4 (List.mem_of_getElem? (i := 121) rfl)) rfl
theorem wIM_X3_isNearBehind : Cond.instanceMethod yX3_isNearBehind ∈ okW := ok_of (tb_4 (List.mem_of_getElem? (i := 123) rfl)) rfl
theorem wCD_X3_isNearBehind : Cond.code yX3_isNearBehind cX3_isNearBehind 7 (some .boolean) ∈ okW := ok_of (tb_4 (List.mem_of_getElem? (i := 124) rfl)) rfl
theorem wM_X3_105 : Cond.methodLink RX3 105 yX3_isReached ∈ okW := ok_of (tb_4 (List.mem_of_getElem? (i := 125) rfl)) rfl
theorem wIM_X3_isReached : Cond.instanceMethod yX3_isReached ∈ okW := ok_of (tb_4 (List.mem_of_getElem? (i := 127) rfl)) rfl
theorem wCD_X3_isReached : Cond.code yX3_isReached cX3_isReached 5 (some .boolean) ∈ okW := ok_of (tb_4 (List.mem_of_getElem? (i := 128) rfl)) rfl
theorem wM_X3_109 : Cond.methodLink RX3 109 yX3_move ∈ okW := ok_of (tb_4 (List.mem_of_getElem? (i := 129) rfl)) rfl
theorem wIM_X3_move : Cond.instanceMethod yX3_move ∈ okW := ok_of (tb_4 (List.mem_of_getElem? (i := 131) rfl)) rfl
theorem wCD_X3_move : Cond.code yX3_move cX3_move 6 none ∈ okW := ok_of (tb_4 (List.mem_of_getElem? (i := 132) rfl)) rfl
theorem wM_X3_113 : Cond.methodLink RX3 113 yX2_add ∈ okW := ok_of (tb_4 (List.mem_of_getElem? (i := 133) rfl)) rfl
theorem wIM_X2_add : Cond.instanceMethod yX2_add ∈ okW := ok_of (tb_4 (List.mem_of_getElem? (i := 134) rfl)) rfl
theorem wSE_X2_add : Cond.selects yX2_add.cls yX2_add yX2_add ∈ okW := ok_of (tb_4 (List.mem_of_getElem? (i := 135) rfl)) rfl
theorem wCD_X2_add : Cond.code yX2_add cX2_add 4 (some .boolean) ∈ okW := ok_of (tb_4 (List.mem_of_getElem? (i := 136) rfl)) rfl
theorem wK_X2_23 : Cond.constant RX2 23 (-1640531535) ∈ okW := ok_of (tb_4 (List.mem_of_getElem? (i := 137) rfl)) rfl
theorem wM_L_96 : Cond.methodLink RL 96 yX9_tap ∈ okW := ok_of (tb_4 (List.mem_of_getElem? (i := 138) rfl)) rfl
theorem wIM_X9_tap : Cond.instanceMethod yX9_tap ∈ okW := ok_of (tb_4 (List.mem_of_getElem? (i := 139) rfl)) rfl
theorem wSE_X9_tap : Cond.selects yX9_tap.cls yX9_tap yX9_tap ∈ okW := ok_of (tb_4 (List.mem_of_getElem? (i := 140) rfl)) rfl
theorem wCD_X9_tap : Cond.code yX9_tap cX9_tap 5 (some .int) ∈ okW := ok_of (tb_4 (List.mem_of_getElem? (i := 141) rfl)) rfl
theorem wK_X9_242 : Cond.constant RX9 242 (9999999) ∈ okW := ok_of (tb_4 (List.mem_of_getElem? (i := 142) rfl)) rfl
theorem wM_X9_243 : Cond.methodLink RX9 243 yX0_addTap ∈ okW := ok_of (tb_4 (List.mem_of_getElem? (i := 143) rfl)) rfl
theorem wIM_X0_addTap : Cond.instanceMethod yX0_addTap ∈ okW := ok_of (tb_4 (List.mem_of_getElem? (i := 144) rfl)) rfl
theorem wSE_X0_addTap : Cond.selects yX0_addTap.cls yX0_addTap yX0_addTap ∈ okW := ok_of (tb_4 (List.mem_of_getElem? (i := 145) rfl)) rfl
theorem wCD_X0_addTap : Cond.code yX0_addTap cX0_addTap 3 none ∈ okW := ok_of (tb_4 (List.mem_of_getElem? (i := 146) rfl)) rfl
theorem wM_L_100 : Cond.methodLink RL 100 yX9_fits ∈ okW := ok_of (tb_4 (List.mem_of_getElem? (i := 147) rfl)) rfl
theorem wIM_X9_fits : Cond.instanceMethod yX9_fits ∈ okW := ok_of (tb_4 (List.mem_of_getElem? (i := 148) rfl)) rfl
theorem wSE_X9_fits : Cond.selects yX9_fits.cls yX9_fits yX9_fits ∈ okW := ok_of (tb_4 (List.mem_of_getElem? (i := 149) rfl)) rfl
theorem wCD_X9_fits : Cond.code yX9_fits cX9_fits 8 (some .int) ∈ okW := ok_of (tb_4 (List.mem_of_getElem? (i := 150) rfl)) rfl
theorem wK_X9_247 : Cond.constant RX9 247 (99999) ∈ okW := ok_of (tb_4 (List.mem_of_getElem? (i := 151) rfl)) rfl
theorem wM_X9_248 : Cond.methodLink RX9 248 yX1_find ∈ okW := ok_of (tb_4 (List.mem_of_getElem? (i := 152) rfl)) rfl
theorem wIM_X1_find : Cond.instanceMethod yX1_find ∈ okW := ok_of (tb_4 (List.mem_of_getElem? (i := 153) rfl)) rfl
theorem wSE_X1_find : Cond.selects yX1_find.cls yX1_find yX1_find ∈ okW := ok_of (tb_4 (List.mem_of_getElem? (i := 154) rfl)) rfl
theorem wCD_X1_find : Cond.code yX1_find cX1_find 8 (some .int) ∈ okW := ok_of (tb_4 (List.mem_of_getElem? (i := 155) rfl)) rfl
theorem wM_X1_34 : Cond.methodLink RX1 34 yJ9_min_7cf53 ∈ okW := ok_of (tb_4 (List.mem_of_getElem? (i := 156) rfl)) rfl
theorem wM_X1_40 : Cond.methodLink RX1 40 yJ9_max_7cf53 ∈ okW := ok_of (tb_4 (List.mem_of_getElem? (i := 157) rfl)) rfl
theorem wM_X1_62 : Cond.methodLink RX1 62 yX1_fill ∈ okW := ok_of (tb_4 (List.mem_of_getElem? (i := 158) rfl)) rfl
theorem wIM_X1_fill : Cond.instanceMethod yX1_fill ∈ okW := ok_of (tb_4 (List.mem_of_getElem? (i := 160) rfl)) rfl
theorem wCD_X1_fill : Cond.code yX1_fill cX1_fill 10 none ∈ okW := ok_of (tb_4 (List.mem_of_getElem? (i := 161) rfl)) rfl
theorem wM_X1_80 : Cond.methodLink RX1 80 yX6_seeSlice ∈ okW := ok_of (tb_4 (List.mem_of_getElem? (i := 162) rfl)) rfl
theorem wM_X1_86 : Cond.methodLink RX1 86 yX1_place ∈ okW := ok_of (tb_4 (List.mem_of_getElem? (i := 163) rfl)) rfl
theorem wST_X1_place : Cond.static yX1_place ∈ okW := ok_of (tb_4 (List.mem_of_getElem? (i := 164) rfl)) rfl
theorem wCD_X1_place : Cond.code yX1_place cX1_place 3 (some .int) ∈ okW := ok_of (tb_4 (List.mem_of_getElem? (i := 165) rfl)) rfl
theorem wM_X1_90 : Cond.methodLink RX1 90 yX6_told ∈ okW := ok_of (tb_4 (List.mem_of_getElem? (i := 166) rfl)) rfl
theorem wM_X1_72 : Cond.methodLink RX1 72 yX1_unfold ∈ okW := ok_of (tb_4 (List.mem_of_getElem? (i := 167) rfl)) rfl
theorem wIM_X1_unfold : Cond.instanceMethod yX1_unfold ∈ okW := ok_of (tb_4 (List.mem_of_getElem? (i := 169) rfl)) rfl
theorem wCD_X1_unfold : Cond.code yX1_unfold cX1_unfold 4 none ∈ okW := ok_of (tb_4 (List.mem_of_getElem? (i := 170) rfl)) rfl
theorem wM_X1_76 : Cond.methodLink RX1 76 yX1_isHeard ∈ okW := ok_of (tb_4 (List.mem_of_getElem? (i := 171) rfl)) rfl
theorem wIM_X1_isHeard : Cond.instanceMethod yX1_isHeard ∈ okW := ok_of (tb_4 (List.mem_of_getElem? (i := 173) rfl)) rfl
theorem wCD_X1_isHeard : Cond.code yX1_isHeard cX1_isHeard 4 (some .boolean) ∈ okW := ok_of (tb_4 (List.mem_of_getElem? (i := 174) rfl)) rfl
theorem wM_X1_97 : Cond.methodLink RX1 97 yX1_toneAt ∈ okW := ok_of (tb_4 (List.mem_of_getElem? (i := 175) rfl)) rfl
theorem wIM_X1_toneAt : Cond.instanceMethod yX1_toneAt ∈ okW := ok_of (tb_4 (List.mem_of_getElem? (i := 177) rfl)) rfl
theorem wCD_X1_toneAt : Cond.code yX1_toneAt cX1_toneAt 7 (some .int) ∈ okW := ok_of (tb_4 (List.mem_of_getElem? (i := 178) rfl)) rfl
theorem wM_X1_104 : Cond.methodLink RX1 104 yJ9_abs_0f7a4 ∈ okW := ok_of (tb_4 (List.mem_of_getElem? (i := 180) rfl)) rfl
theorem wM_X9_251 : Cond.methodLink RX9 251 yX1_nextPass ∈ okW := ok_of (tb_4 (List.mem_of_getElem? (i := 181) rfl)) rfl
theorem wIM_X1_nextPass : Cond.instanceMethod yX1_nextPass ∈ okW := ok_of (tb_4 (List.mem_of_getElem? (i := 182) rfl)) rfl
theorem wSE_X1_nextPass : Cond.selects yX1_nextPass.cls yX1_nextPass yX1_nextPass ∈ okW := ok_of (tb_4 (List.mem_of_getElem? (i := 183) rfl)) rfl
theorem wCD_X1_nextPass : Cond.code yX1_nextPass cX1_nextPass 8 (some .int) ∈ okW := ok_of (tb_4 (List.mem_of_getElem? (i := 184) rfl)) rfl
theorem wM_X1_111 : Cond.methodLink RX1 111 yX1_countUnlike ∈ okW := ok_of (tb_4 (List.mem_of_getElem? (i := 185) rfl)) rfl
theorem wIM_X1_countUnlike : Cond.instanceMethod yX1_countUnlike ∈ okW := ok_of (tb_4 (List.mem_of_getElem? (i := 187) rfl)) rfl
theorem wCD_X1_countUnlike : Cond.code yX1_countUnlike cX1_countUnlike 6 (some .int) ∈ okW := ok_of (tb_4 (List.mem_of_getElem? (i := 188) rfl)) rfl
theorem wM_X1_115 : Cond.methodLink RX1 115 yX0_thinnedCopy ∈ okW := ok_of (tb_4 (List.mem_of_getElem? (i := 189) rfl)) rfl
theorem wM_X1_122 : Cond.methodLink RX1 122 yX2_clear ∈ okW := ok_of (tb_4 (List.mem_of_getElem? (i := 190) rfl)) rfl
theorem wM_X1_125 : Cond.methodLink RX1 125 yX2_add ∈ okW := ok_of (tb_4 (List.mem_of_getElem? (i := 191) rfl)) rfl
theorem wM_X9_255 : Cond.methodLink RX9 255 yX1_sure ∈ okW := ok_of (tb_4 (List.mem_of_getElem? (i := 192) rfl)) rfl
theorem wIM_X1_sure : Cond.instanceMethod yX1_sure ∈ okW := ok_of (tb_4 (List.mem_of_getElem? (i := 193) rfl)) rfl
theorem wSE_X1_sure : Cond.selects yX1_sure.cls yX1_sure yX1_sure ∈ okW := ok_of (tb_4 (List.mem_of_getElem? (i := 194) rfl)) rfl
theorem wCD_X1_sure : Cond.code yX1_sure cX1_sure 4 (some .int) ∈ okW := ok_of (tb_4 (List.mem_of_getElem? (i := 195) rfl)) rfl
theorem wM_L_105 : Cond.methodLink RL 105 yX9_off ∈ okW := ok_of (tb_4 (List.mem_of_getElem? (i := 196) rfl)) rfl
theorem wIM_X9_off : Cond.instanceMethod yX9_off ∈ okW := ok_of (tb_4 (List.mem_of_getElem? (i := 197) rfl)) rfl
theorem wSE_X9_off : Cond.selects yX9_off.cls yX9_off yX9_off ∈ okW := ok_of (tb_4 (List.mem_of_getElem? (i := 198) rfl)) rfl
theorem wCD_X9_off : Cond.code yX9_off cX9_off 2 (some .int) ∈ okW := ok_of (tb_4 (List.mem_of_getElem? (i := 199) rfl)) rfl
theorem wM_X9_259 : Cond.methodLink RX9 259 yX9_offOf ∈ okW := ok_of (tb_4 (List.mem_of_getElem? (i := 200) rfl)) rfl
theorem wIM_X9_offOf : Cond.instanceMethod yX9_offOf ∈ okW := ok_of (tb_4 (List.mem_of_getElem? (i := 202) rfl)) rfl
theorem wCD_X9_offOf : Cond.code yX9_offOf cX9_offOf 8 (some .int) ∈ okW := ok_of (tb_4 (List.mem_of_getElem? (i := 203) rfl)) rfl
theorem wK_X9_411 : Cond.constantLong RX9 411 (999999999) ∈ okW := ok_of (tb_4 (List.mem_of_getElem? (i := 204) rfl)) rfl
theorem wM_X9_413 : Cond.methodLink RX9 413 yJ9_min_f86c9 ∈ okW := ok_of (tb_4 (List.mem_of_getElem? (i := 205) rfl)) rfl
theorem wST_J9_min_f86c9 : Cond.static yJ9_min_f86c9 ∈ okW := ok_of (tb_4 (List.mem_of_getElem? (i := 206) rfl)) rfl
theorem wCD_J9_min_f86c9 : Cond.code yJ9_min_f86c9 cJ9_min_f86c9 4 (some .long) ∈ okW := ok_of (tb_4 (List.mem_of_getElem? (i := 207) rfl)) rfl
theorem wM_L_109 : Cond.methodLink RL 109 yX9_still ∈ okW := ok_of (tb_4 (List.mem_of_getElem? (i := 208) rfl)) rfl
theorem wIM_X9_still : Cond.instanceMethod yX9_still ∈ okW := ok_of (tb_4 (List.mem_of_getElem? (i := 209) rfl)) rfl
theorem wSE_X9_still : Cond.selects yX9_still.cls yX9_still yX9_still ∈ okW := ok_of (tb_4 (List.mem_of_getElem? (i := 210) rfl)) rfl
theorem wCD_X9_still : Cond.code yX9_still cX9_still 6 (some .int) ∈ okW := ok_of (tb_4 (List.mem_of_getElem? (i := 211) rfl)) rfl
theorem wM_L_113 : Cond.methodLink RL 113 yX9_holes ∈ okW := ok_of (tb_4 (List.mem_of_getElem? (i := 212) rfl)) rfl
theorem wIM_X9_holes : Cond.instanceMethod yX9_holes ∈ okW := ok_of (tb_4 (List.mem_of_getElem? (i := 213) rfl)) rfl
theorem wSE_X9_holes : Cond.selects yX9_holes.cls yX9_holes yX9_holes ∈ okW := ok_of (tb_4 (List.mem_of_getElem? (i := 214) rfl)) rfl
theorem wCD_X9_holes : Cond.code yX9_holes cX9_holes 5 (some .boolean) ∈ okW := ok_of (tb_4 (List.mem_of_getElem? (i := 215) rfl)) rfl
theorem wM_L_117 : Cond.methodLink RL 117 yX9_tube ∈ okW := ok_of (tb_4 (List.mem_of_getElem? (i := 216) rfl)) rfl
theorem wIM_X9_tube : Cond.instanceMethod yX9_tube ∈ okW := ok_of (tb_4 (List.mem_of_getElem? (i := 217) rfl)) rfl
theorem wSE_X9_tube : Cond.selects yX9_tube.cls yX9_tube yX9_tube ∈ okW := ok_of (tb_4 (List.mem_of_getElem? (i := 218) rfl)) rfl
theorem wCD_X9_tube : Cond.code yX9_tube cX9_tube 5 (some .boolean) ∈ okW := ok_of (tb_4 (List.mem_of_getElem? (i := 219) rfl)) rfl
theorem wM_L_121 : Cond.methodLink RL 121 yX9_in ∈ okW := ok_of (tb_4 (List.mem_of_getElem? (i := 220) rfl)) rfl
theorem wIM_X9_in : Cond.instanceMethod yX9_in ∈ okW := ok_of (tb_4 (List.mem_of_getElem? (i := 221) rfl)) rfl
theorem wSE_X9_in : Cond.selects yX9_in.cls yX9_in yX9_in ∈ okW := ok_of (tb_4 (List.mem_of_getElem? (i := 222) rfl)) rfl
theorem wCD_X9_in : Cond.code yX9_in cX9_in 7 (some .int) ∈ okW := ok_of (tb_4 (List.mem_of_getElem? (i := 223) rfl)) rfl
theorem wM_X9_275 : Cond.methodLink RX9 275 yX9_isAir ∈ okW := ok_of (tb_4 (List.mem_of_getElem? (i := 224) rfl)) rfl
theorem wST_X9_isAir : Cond.static yX9_isAir ∈ okW := ok_of (tb_4 (List.mem_of_getElem? (i := 225) rfl)) rfl
theorem wCD_X9_isAir : Cond.code yX9_isAir cX9_isAir 2 (some .boolean) ∈ okW := ok_of (tb_4 (List.mem_of_getElem? (i := 226) rfl)) rfl
theorem wM_X9_279 : Cond.methodLink RX9 279 yX9_driftIn ∈ okW := ok_of (tb_4 (List.mem_of_getElem? (i := 227) rfl)) rfl
theorem wIM_X9_driftIn : Cond.instanceMethod yX9_driftIn ∈ okW := ok_of (tb_4 (List.mem_of_getElem? (i := 229) rfl)) rfl
theorem wCD_X9_driftIn : Cond.code yX9_driftIn cX9_driftIn 3 (some .int) ∈ okW := ok_of (tb_4 (List.mem_of_getElem? (i := 230) rfl)) rfl
theorem wM_X9_416 : Cond.methodLink RX9 416 yX6_seeAir ∈ okW := ok_of (tb_4 (List.mem_of_getElem? (i := 231) rfl)) rfl
theorem wIM_X6_seeAir : Cond.instanceMethod yX6_seeAir ∈ okW := ok_of (tb_4 (List.mem_of_getElem? (i := 232) rfl)) rfl
theorem wSE_X6_seeAir : Cond.selects yX6_seeAir.cls yX6_seeAir yX6_seeAir ∈ okW := ok_of (tb_4 (List.mem_of_getElem? (i := 233) rfl)) rfl
theorem wCD_X6_seeAir : Cond.code yX6_seeAir cX6_seeAir 3 none ∈ okW := ok_of (tb_4 (List.mem_of_getElem? (i := 234) rfl)) rfl
theorem wM_X6_37 : Cond.methodLink RX6 37 yJ7_fill_53178 ∈ okW := ok_of (tb_4 (List.mem_of_getElem? (i := 235) rfl)) rfl
theorem wM_X9_283 : Cond.methodLink RX9 283 yX9_drifted ∈ okW := ok_of (tb_4 (List.mem_of_getElem? (i := 236) rfl)) rfl
theorem wST_X9_drifted : Cond.static yX9_drifted ∈ okW := ok_of (tb_4 (List.mem_of_getElem? (i := 237) rfl)) rfl
theorem wCD_X9_drifted : Cond.code yX9_drifted cX9_drifted 4 (some .int) ∈ okW := ok_of (tb_4 (List.mem_of_getElem? (i := 238) rfl)) rfl
theorem wK_X9_419 : Cond.constantLong RX9 419 (10000) ∈ okW := ok_of (tb_4 (List.mem_of_getElem? (i := 239) rfl)) rfl
theorem wM_X9_421 : Cond.methodLink RX9 421 yJ9_max_f86c9 ∈ okW := ok_of (tb_5 (List.mem_of_getElem? (i := 0) rfl)) rfl
theorem wST_J9_max_f86c9 : Cond.static yJ9_max_f86c9 ∈ okW := ok_of (tb_5 (List.mem_of_getElem? (i := 1) rfl)) rfl
theorem wCD_J9_max_f86c9 : Cond.code yJ9_max_f86c9 cJ9_max_f86c9 4 (some .long) ∈ okW := ok_of (tb_5 (List.mem_of_getElem? (i := 2) rfl)) rfl
theorem wM_X9_286 : Cond.methodLink RX9 286 yX9_beat ∈ okW := ok_of (tb_5 (List.mem_of_getElem? (i := 3) rfl)) rfl
theorem wST_X9_beat : Cond.static yX9_beat ∈ okW := ok_of (tb_5 (List.mem_of_getElem? (i := 4) rfl)) rfl
theorem wCD_X9_beat : Cond.code yX9_beat cX9_beat 5 (some .int) ∈ okW := ok_of (tb_5 (List.mem_of_getElem? (i := 5) rfl)) rfl
theorem wM_X9_424 : Cond.methodLink RX9 424 yX9_air ∈ okW := ok_of (tb_5 (List.mem_of_getElem? (i := 6) rfl)) rfl
theorem wST_X9_air : Cond.static yX9_air ∈ okW := ok_of (tb_5 (List.mem_of_getElem? (i := 7) rfl)) rfl
theorem wCD_X9_air : Cond.code yX9_air cX9_air 1 (some .int) ∈ okW := ok_of (tb_5 (List.mem_of_getElem? (i := 8) rfl)) rfl
theorem wM_X9_290 : Cond.methodLink RX9 290 yX9_stopper ∈ okW := ok_of (tb_5 (List.mem_of_getElem? (i := 9) rfl)) rfl
theorem wST_X9_stopper : Cond.static yX9_stopper ∈ okW := ok_of (tb_5 (List.mem_of_getElem? (i := 10) rfl)) rfl
theorem wCD_X9_stopper : Cond.code yX9_stopper cX9_stopper 5 (some .int) ∈ okW := ok_of (tb_5 (List.mem_of_getElem? (i := 11) rfl)) rfl
theorem wM_X9_427 : Cond.methodLink RX9 427 yX9_shortest ∈ okW := ok_of (tb_5 (List.mem_of_getElem? (i := 12) rfl)) rfl
theorem wST_X9_shortest : Cond.static yX9_shortest ∈ okW := ok_of (tb_5 (List.mem_of_getElem? (i := 13) rfl)) rfl
theorem wCD_X9_shortest : Cond.code yX9_shortest cX9_shortest 2 (some .int) ∈ okW := ok_of (tb_5 (List.mem_of_getElem? (i := 14) rfl)) rfl
theorem wM_L_125 : Cond.methodLink RL 125 yX9_night ∈ okW := ok_of (tb_5 (List.mem_of_getElem? (i := 15) rfl)) rfl
theorem wIM_X9_night : Cond.instanceMethod yX9_night ∈ okW := ok_of (tb_5 (List.mem_of_getElem? (i := 16) rfl)) rfl
theorem wSE_X9_night : Cond.selects yX9_night.cls yX9_night yX9_night ∈ okW := ok_of (tb_5 (List.mem_of_getElem? (i := 17) rfl)) rfl
theorem wCD_X9_night : Cond.code yX9_night cX9_night 3 (some .int) ∈ okW := ok_of (tb_5 (List.mem_of_getElem? (i := 18) rfl)) rfl
theorem wM_L_129 : Cond.methodLink RL 129 yX9_nights ∈ okW := ok_of (tb_5 (List.mem_of_getElem? (i := 19) rfl)) rfl
theorem wIM_X9_nights : Cond.instanceMethod yX9_nights ∈ okW := ok_of (tb_5 (List.mem_of_getElem? (i := 20) rfl)) rfl
theorem wSE_X9_nights : Cond.selects yX9_nights.cls yX9_nights yX9_nights ∈ okW := ok_of (tb_5 (List.mem_of_getElem? (i := 21) rfl)) rfl
theorem wCD_X9_nights : Cond.code yX9_nights cX9_nights 3 (some .int) ∈ okW := ok_of (tb_5 (List.mem_of_getElem? (i := 22) rfl)) rfl
theorem wM_X9_302 : Cond.methodLink RX9 302 yX9_fillLowTones ∈ okW := ok_of (tb_5 (List.mem_of_getElem? (i := 23) rfl)) rfl
theorem wIM_X9_fillLowTones : Cond.instanceMethod yX9_fillLowTones ∈ okW := ok_of (tb_5 (List.mem_of_getElem? (i := 25) rfl)) rfl
theorem wCD_X9_fillLowTones : Cond.code yX9_fillLowTones cX9_fillLowTones 2 none ∈ okW := ok_of (tb_5 (List.mem_of_getElem? (i := 26) rfl)) rfl
theorem wM_X9_305 : Cond.methodLink RX9 305 yX9_apart ∈ okW := ok_of (tb_5 (List.mem_of_getElem? (i := 27) rfl)) rfl
theorem wIM_X9_apart : Cond.instanceMethod yX9_apart ∈ okW := ok_of (tb_5 (List.mem_of_getElem? (i := 29) rfl)) rfl
theorem wCD_X9_apart : Cond.code yX9_apart cX9_apart 3 (some .int) ∈ okW := ok_of (tb_5 (List.mem_of_getElem? (i := 30) rfl)) rfl
theorem wM_X9_311 : Cond.methodLink RX9 311 yX9_suiting ∈ okW := ok_of (tb_5 (List.mem_of_getElem? (i := 31) rfl)) rfl
theorem wIM_X9_suiting : Cond.instanceMethod yX9_suiting ∈ okW := ok_of (tb_5 (List.mem_of_getElem? (i := 33) rfl)) rfl
theorem wCD_X9_suiting : Cond.code yX9_suiting cX9_suiting 5 (some .int) ∈ okW := ok_of (tb_5 (List.mem_of_getElem? (i := 34) rfl)) rfl
theorem wM_X9_308 : Cond.methodLink RX9 308 yX9_worst ∈ okW := ok_of (tb_5 (List.mem_of_getElem? (i := 35) rfl)) rfl
theorem wIM_X9_worst : Cond.instanceMethod yX9_worst ∈ okW := ok_of (tb_5 (List.mem_of_getElem? (i := 37) rfl)) rfl
theorem wCD_X9_worst : Cond.code yX9_worst cX9_worst 8 (some .int) ∈ okW := ok_of (tb_5 (List.mem_of_getElem? (i := 38) rfl)) rfl
theorem wM_X9_430 : Cond.methodLink RX9 430 yX9_beatIn ∈ okW := ok_of (tb_5 (List.mem_of_getElem? (i := 39) rfl)) rfl
theorem wIM_X9_beatIn : Cond.instanceMethod yX9_beatIn ∈ okW := ok_of (tb_5 (List.mem_of_getElem? (i := 41) rfl)) rfl
theorem wCD_X9_beatIn : Cond.code yX9_beatIn cX9_beatIn 5 (some .int) ∈ okW := ok_of (tb_5 (List.mem_of_getElem? (i := 42) rfl)) rfl
theorem wM_X9_314 : Cond.methodLink RX9 314 yX9_together ∈ okW := ok_of (tb_5 (List.mem_of_getElem? (i := 43) rfl)) rfl
theorem wIM_X9_together : Cond.instanceMethod yX9_together ∈ okW := ok_of (tb_5 (List.mem_of_getElem? (i := 45) rfl)) rfl
theorem wCD_X9_together : Cond.code yX9_together cX9_together 11 (some .int) ∈ okW := ok_of (tb_5 (List.mem_of_getElem? (i := 46) rfl)) rfl
theorem wM_X9_434 : Cond.methodLink RX9 434 yJ9_abs_067f4 ∈ okW := ok_of (tb_5 (List.mem_of_getElem? (i := 47) rfl)) rfl
theorem wST_J9_abs_067f4 : Cond.static yJ9_abs_067f4 ∈ okW := ok_of (tb_5 (List.mem_of_getElem? (i := 48) rfl)) rfl
theorem wCD_J9_abs_067f4 : Cond.code yJ9_abs_067f4 cJ9_abs_067f4 2 (some .long) ∈ okW := ok_of (tb_5 (List.mem_of_getElem? (i := 49) rfl)) rfl
theorem wM_L_133 : Cond.methodLink RL 133 yX9_note ∈ okW := ok_of (tb_5 (List.mem_of_getElem? (i := 50) rfl)) rfl
theorem wIM_X9_note : Cond.instanceMethod yX9_note ∈ okW := ok_of (tb_5 (List.mem_of_getElem? (i := 51) rfl)) rfl
theorem wSE_X9_note : Cond.selects yX9_note.cls yX9_note yX9_note ∈ okW := ok_of (tb_5 (List.mem_of_getElem? (i := 52) rfl)) rfl
theorem wCD_X9_note : Cond.code yX9_note cX9_note 3 (some .int) ∈ okW := ok_of (tb_5 (List.mem_of_getElem? (i := 53) rfl)) rfl
theorem wM_L_137 : Cond.methodLink RL 137 yX9_blank ∈ okW := ok_of (tb_5 (List.mem_of_getElem? (i := 54) rfl)) rfl
theorem wIM_X9_blank : Cond.instanceMethod yX9_blank ∈ okW := ok_of (tb_5 (List.mem_of_getElem? (i := 55) rfl)) rfl
theorem wSE_X9_blank : Cond.selects yX9_blank.cls yX9_blank yX9_blank ∈ okW := ok_of (tb_5 (List.mem_of_getElem? (i := 56) rfl)) rfl
theorem wCD_X9_blank : Cond.code yX9_blank cX9_blank 3 (some .int) ∈ okW := ok_of (tb_5 (List.mem_of_getElem? (i := 57) rfl)) rfl
theorem wM_L_141 : Cond.methodLink RL 141 yX9_set ∈ okW := ok_of (tb_5 (List.mem_of_getElem? (i := 58) rfl)) rfl
theorem wIM_X9_set : Cond.instanceMethod yX9_set ∈ okW := ok_of (tb_5 (List.mem_of_getElem? (i := 59) rfl)) rfl
theorem wSE_X9_set : Cond.selects yX9_set.cls yX9_set yX9_set ∈ okW := ok_of (tb_5 (List.mem_of_getElem? (i := 60) rfl)) rfl
theorem wCD_X9_set : Cond.code yX9_set cX9_set 4 (some .int) ∈ okW := ok_of (tb_5 (List.mem_of_getElem? (i := 61) rfl)) rfl
theorem wM_X9_335 : Cond.methodLink RX9 335 yX5_find ∈ okW := ok_of (tb_5 (List.mem_of_getElem? (i := 62) rfl)) rfl
theorem wIM_X5_find : Cond.instanceMethod yX5_find ∈ okW := ok_of (tb_5 (List.mem_of_getElem? (i := 63) rfl)) rfl
theorem wSE_X5_find : Cond.selects yX5_find.cls yX5_find yX5_find ∈ okW := ok_of (tb_5 (List.mem_of_getElem? (i := 64) rfl)) rfl
theorem wCD_X5_find : Cond.code yX5_find cX5_find 3 (some .int) ∈ okW := ok_of (tb_5 (List.mem_of_getElem? (i := 65) rfl)) rfl
theorem wM_X5_21 : Cond.methodLink RX5 21 yJ7_fill_53178 ∈ okW := ok_of (tb_5 (List.mem_of_getElem? (i := 66) rfl)) rfl
theorem wM_X5_34 : Cond.methodLink RX5 34 yX5_goOn ∈ okW := ok_of (tb_5 (List.mem_of_getElem? (i := 67) rfl)) rfl
theorem wIM_X5_goOn : Cond.instanceMethod yX5_goOn ∈ okW := ok_of (tb_5 (List.mem_of_getElem? (i := 69) rfl)) rfl
theorem wCD_X5_goOn : Cond.code yX5_goOn cX5_goOn 8 none ∈ okW := ok_of (tb_5 (List.mem_of_getElem? (i := 70) rfl)) rfl
theorem wM_X5_43 : Cond.methodLink RX5 43 ⟨"java/lang/System", "arraycopy", "(Ljava/lang/Object;ILjava/lang/Object;II)V"⟩ ∈ okW := ok_of (tb_5 (List.mem_of_getElem? (i := 71) rfl)) rfl
theorem wM_X5_58 : Cond.methodLink RX5 58 yX5_ringsTogether ∈ okW := ok_of (tb_5 (List.mem_of_getElem? (i := 72) rfl)) rfl
theorem wIM_X5_ringsTogether : Cond.instanceMethod yX5_ringsTogether ∈ okW := ok_of (tb_5 (List.mem_of_getElem? (i := 74) rfl)) rfl
theorem wCD_X5_ringsTogether : Cond.code yX5_ringsTogether cX5_ringsTogether 5 (some .boolean) ∈ okW := ok_of (tb_5 (List.mem_of_getElem? (i := 75) rfl)) rfl
theorem wM_X5_65 : Cond.methodLink RX5 65 yJ9_abs_0f7a4 ∈ okW := ok_of (tb_5 (List.mem_of_getElem? (i := 76) rfl)) rfl
theorem wM_L_145 : Cond.methodLink RL 145 yX9_down ∈ okW := ok_of (tb_5 (List.mem_of_getElem? (i := 77) rfl)) rfl
theorem wIM_X9_down : Cond.instanceMethod yX9_down ∈ okW := ok_of (tb_5 (List.mem_of_getElem? (i := 78) rfl)) rfl
theorem wSE_X9_down : Cond.selects yX9_down.cls yX9_down yX9_down ∈ okW := ok_of (tb_5 (List.mem_of_getElem? (i := 79) rfl)) rfl
theorem wCD_X9_down : Cond.code yX9_down cX9_down 7 (some .int) ∈ okW := ok_of (tb_5 (List.mem_of_getElem? (i := 80) rfl)) rfl
theorem wM_L_149 : Cond.methodLink RL 149 yX9_enough ∈ okW := ok_of (tb_5 (List.mem_of_getElem? (i := 81) rfl)) rfl
theorem wIM_X9_enough : Cond.instanceMethod yX9_enough ∈ okW := ok_of (tb_5 (List.mem_of_getElem? (i := 82) rfl)) rfl
theorem wSE_X9_enough : Cond.selects yX9_enough.cls yX9_enough yX9_enough ∈ okW := ok_of (tb_5 (List.mem_of_getElem? (i := 83) rfl)) rfl
theorem wCD_X9_enough : Cond.code yX9_enough cX9_enough 9 (some .int) ∈ okW := ok_of (tb_5 (List.mem_of_getElem? (i := 84) rfl)) rfl
theorem wM_X9_341 : Cond.methodLink RX9 341 yX6_sumOf ∈ okW := ok_of (tb_5 (List.mem_of_getElem? (i := 85) rfl)) rfl
theorem wIM_X6_sumOf : Cond.instanceMethod yX6_sumOf ∈ okW := ok_of (tb_5 (List.mem_of_getElem? (i := 86) rfl)) rfl
theorem wSE_X6_sumOf : Cond.selects yX6_sumOf.cls yX6_sumOf yX6_sumOf ∈ okW := ok_of (tb_5 (List.mem_of_getElem? (i := 87) rfl)) rfl
theorem wCD_X6_sumOf : Cond.code yX6_sumOf cX6_sumOf 8 (some .int) ∈ okW := ok_of (tb_5 (List.mem_of_getElem? (i := 88) rfl)) rfl
theorem wM_X9_345 : Cond.methodLink RX9 345 yX9_ratio ∈ okW := ok_of (tb_5 (List.mem_of_getElem? (i := 89) rfl)) rfl
theorem wM_L_153 : Cond.methodLink RL 153 yX9_image ∈ okW := ok_of (tb_5 (List.mem_of_getElem? (i := 90) rfl)) rfl
theorem wIM_X9_image : Cond.instanceMethod yX9_image ∈ okW := ok_of (tb_5 (List.mem_of_getElem? (i := 91) rfl)) rfl
theorem wSE_X9_image : Cond.selects yX9_image.cls yX9_image yX9_image ∈ okW := ok_of (tb_5 (List.mem_of_getElem? (i := 92) rfl)) rfl
theorem wCD_X9_image : Cond.code yX9_image cX9_image 2 (some .boolean) ∈ okW := ok_of (tb_5 (List.mem_of_getElem? (i := 93) rfl)) rfl
theorem wM_X9_351 : Cond.methodLink RX9 351 yX8_copyFrom ∈ okW := ok_of (tb_5 (List.mem_of_getElem? (i := 94) rfl)) rfl
theorem wIM_X8_copyFrom : Cond.instanceMethod yX8_copyFrom ∈ okW := ok_of (tb_5 (List.mem_of_getElem? (i := 95) rfl)) rfl
theorem wSE_X8_copyFrom : Cond.selects yX8_copyFrom.cls yX8_copyFrom yX8_copyFrom ∈ okW := ok_of (tb_5 (List.mem_of_getElem? (i := 96) rfl)) rfl
theorem wCD_X8_copyFrom : Cond.code yX8_copyFrom cX8_copyFrom 3 none ∈ okW := ok_of (tb_5 (List.mem_of_getElem? (i := 97) rfl)) rfl
theorem wM_X8_60 : Cond.methodLink RX8 60 yX0_copyFrom ∈ okW := ok_of (tb_5 (List.mem_of_getElem? (i := 98) rfl)) rfl
theorem wIM_X0_copyFrom : Cond.instanceMethod yX0_copyFrom ∈ okW := ok_of (tb_5 (List.mem_of_getElem? (i := 99) rfl)) rfl
theorem wSE_X0_copyFrom : Cond.selects yX0_copyFrom.cls yX0_copyFrom yX0_copyFrom ∈ okW := ok_of (tb_5 (List.mem_of_getElem? (i := 100) rfl)) rfl
theorem wCD_X0_copyFrom : Cond.code yX0_copyFrom cX0_copyFrom 3 none ∈ okW := ok_of (tb_5 (List.mem_of_getElem? (i := 101) rfl)) rfl
theorem wM_X8_64 : Cond.methodLink RX8 64 yX7_copyFrom ∈ okW := ok_of (tb_5 (List.mem_of_getElem? (i := 102) rfl)) rfl
theorem wM_X8_70 : Cond.methodLink RX8 70 ⟨"java/lang/System", "arraycopy", "(Ljava/lang/Object;ILjava/lang/Object;II)V"⟩ ∈ okW := ok_of (tb_5 (List.mem_of_getElem? (i := 103) rfl)) rfl
theorem wM_L_158 : Cond.methodLink RL 158 yX9_look ∈ okW := ok_of (tb_5 (List.mem_of_getElem? (i := 104) rfl)) rfl
theorem wIM_X9_look : Cond.instanceMethod yX9_look ∈ okW := ok_of (tb_5 (List.mem_of_getElem? (i := 105) rfl)) rfl
theorem wSE_X9_look : Cond.selects yX9_look.cls yX9_look yX9_look ∈ okW := ok_of (tb_5 (List.mem_of_getElem? (i := 106) rfl)) rfl
theorem wCD_X9_look : Cond.code yX9_look cX9_look 2 (some .int) ∈ okW := ok_of (tb_5 (List.mem_of_getElem? (i := 107) rfl)) rfl
theorem wM_X9_354 : Cond.methodLink RX9 354 yX9_countLost ∈ okW := ok_of (tb_5 (List.mem_of_getElem? (i := 108) rfl)) rfl
theorem wIM_X9_countLost : Cond.instanceMethod yX9_countLost ∈ okW := ok_of (tb_5 (List.mem_of_getElem? (i := 110) rfl)) rfl
theorem wCD_X9_countLost : Cond.code yX9_countLost cX9_countLost 3 (some .int) ∈ okW := ok_of (tb_5 (List.mem_of_getElem? (i := 111) rfl)) rfl
theorem wM_X9_357 : Cond.methodLink RX9 357 yX9_countTrue ∈ okW := ok_of (tb_5 (List.mem_of_getElem? (i := 112) rfl)) rfl
theorem wIM_X9_countTrue : Cond.instanceMethod yX9_countTrue ∈ okW := ok_of (tb_5 (List.mem_of_getElem? (i := 114) rfl)) rfl
theorem wCD_X9_countTrue : Cond.code yX9_countTrue cX9_countTrue 3 (some .int) ∈ okW := ok_of (tb_5 (List.mem_of_getElem? (i := 115) rfl)) rfl
theorem wC_L_10 : Cond.classLink RL 10 RX10 ∈ okW := ok_of (tb_5 (List.mem_of_getElem? (i := 116) rfl)) rfl
theorem wIS_X10 : Cond.instantiable RX10 74 ∈ okW := ok_of (tb_5 (List.mem_of_getElem? (i := 117) rfl)) rfl
theorem wM_L_12 : Cond.methodLink RL 12 yX10_init ∈ okW := ok_of (tb_5 (List.mem_of_getElem? (i := 118) rfl)) rfl
theorem wIM_X10_init : Cond.instanceMethod yX10_init ∈ okW := ok_of (tb_5 (List.mem_of_getElem? (i := 119) rfl)) rfl
theorem wCD_X10_init : Cond.code yX10_init cX10_init 1 none ∈ okW := ok_of (tb_5 (List.mem_of_getElem? (i := 120) rfl)) rfl
theorem wM_X10_1 : Cond.methodLink RX10 1 objectInit ∈ okW := ok_of (tb_5 (List.mem_of_getElem? (i := 121) rfl)) rfl
theorem wF_X10_167 : Cond.fieldLink RX10 167 (TX10 0).1 (TX10 0).2.1 (TX10 0).2.2.1 ∈ okW := ok_of (tb_5 (List.mem_of_getElem? (i := 122) rfl)) rfl
theorem wF_X10_170 : Cond.fieldLink RX10 170 (TX10 1).1 (TX10 1).2.1 (TX10 1).2.2.1 ∈ okW := ok_of (tb_5 (List.mem_of_getElem? (i := 123) rfl)) rfl
theorem wF_X10_322 : Cond.fieldLink RX10 322 (TX10 2).1 (TX10 2).2.1 (TX10 2).2.2.1 ∈ okW := ok_of (tb_5 (List.mem_of_getElem? (i := 124) rfl)) rfl
theorem wF_X10_7 : Cond.fieldLink RX10 7 (TX10 3).1 (TX10 3).2.1 (TX10 3).2.2.1 ∈ okW := ok_of (tb_5 (List.mem_of_getElem? (i := 125) rfl)) rfl
theorem wF_X10_13 : Cond.fieldLink RX10 13 (TX10 4).1 (TX10 4).2.1 (TX10 4).2.2.1 ∈ okW := ok_of (tb_5 (List.mem_of_getElem? (i := 126) rfl)) rfl
theorem wF_X10_17 : Cond.fieldLink RX10 17 (TX10 5).1 (TX10 5).2.1 (TX10 5).2.2.1 ∈ okW := ok_of (tb_5 (List.mem_of_getElem? (i := 127) rfl)) rfl
theorem wF_X10_20 : Cond.fieldLink RX10 20 (TX10 6).1 (TX10 6).2.1 (TX10 6).2.2.1 ∈ okW := ok_of (tb_5 (List.mem_of_getElem? (i := 128) rfl)) rfl
theorem wF_X10_23 : Cond.fieldLink RX10 23 (TX10 7).1 (TX10 7).2.1 (TX10 7).2.2.1 ∈ okW := ok_of (tb_5 (List.mem_of_getElem? (i := 129) rfl)) rfl
theorem wF_X10_26 : Cond.fieldLink RX10 26 (TX10 8).1 (TX10 8).2.1 (TX10 8).2.2.1 ∈ okW := ok_of (tb_5 (List.mem_of_getElem? (i := 130) rfl)) rfl
theorem wF_X10_29 : Cond.fieldLink RX10 29 (TX10 9).1 (TX10 9).2.1 (TX10 9).2.2.1 ∈ okW := ok_of (tb_5 (List.mem_of_getElem? (i := 131) rfl)) rfl
theorem wF_X10_32 : Cond.fieldLink RX10 32 (TX10 10).1 (TX10 10).2.1 (TX10 10).2.2.1 ∈ okW := ok_of (tb_5 (List.mem_of_getElem? (i := 132) rfl)) rfl
theorem wF_X10_35 : Cond.fieldLink RX10 35 (TX10 11).1 (TX10 11).2.1 (TX10 11).2.2.1 ∈ okW := ok_of (tb_5 (List.mem_of_getElem? (i := 133) rfl)) rfl
theorem wF_X10_38 : Cond.fieldLink RX10 38 (TX10 12).1 (TX10 12).2.1 (TX10 12).2.2.1 ∈ okW := ok_of (tb_5 (List.mem_of_getElem? (i := 134) rfl)) rfl
theorem wF_X10_41 : Cond.fieldLink RX10 41 (TX10 13).1 (TX10 13).2.1 (TX10 13).2.2.1 ∈ okW := ok_of (tb_5 (List.mem_of_getElem? (i := 135) rfl)) rfl
theorem wF_X10_44 : Cond.fieldLink RX10 44 (TX10 14).1 (TX10 14).2.1 (TX10 14).2.2.1 ∈ okW := ok_of (tb_5 (List.mem_of_getElem? (i := 136) rfl)) rfl
theorem wF_X10_47 : Cond.fieldLink RX10 47 (TX10 15).1 (TX10 15).2.1 (TX10 15).2.2.1 ∈ okW := ok_of (tb_5 (List.mem_of_getElem? (i := 137) rfl)) rfl
theorem wF_X10_50 : Cond.fieldLink RX10 50 (TX10 16).1 (TX10 16).2.1 (TX10 16).2.2.1 ∈ okW := ok_of (tb_5 (List.mem_of_getElem? (i := 138) rfl)) rfl
theorem wF_X10_53 : Cond.fieldLink RX10 53 (TX10 17).1 (TX10 17).2.1 (TX10 17).2.2.1 ∈ okW := ok_of (tb_5 (List.mem_of_getElem? (i := 139) rfl)) rfl
theorem wF_X10_185 : Cond.fieldLink RX10 185 (TX10 18).1 (TX10 18).2.1 (TX10 18).2.2.1 ∈ okW := ok_of (tb_5 (List.mem_of_getElem? (i := 140) rfl)) rfl
theorem wF_X10_192 : Cond.fieldLink RX10 192 (TX10 19).1 (TX10 19).2.1 (TX10 19).2.2.1 ∈ okW := ok_of (tb_5 (List.mem_of_getElem? (i := 141) rfl)) rfl
theorem wF_X10_199 : Cond.fieldLink RX10 199 (TX10 20).1 (TX10 20).2.1 (TX10 20).2.2.1 ∈ okW := ok_of (tb_5 (List.mem_of_getElem? (i := 142) rfl)) rfl
theorem wF_X10_202 : Cond.fieldLink RX10 202 (TX10 21).1 (TX10 21).2.1 (TX10 21).2.2.1 ∈ okW := ok_of (tb_5 (List.mem_of_getElem? (i := 143) rfl)) rfl
theorem wF_X10_205 : Cond.fieldLink RX10 205 (TX10 22).1 (TX10 22).2.1 (TX10 22).2.2.1 ∈ okW := ok_of (tb_5 (List.mem_of_getElem? (i := 144) rfl)) rfl
theorem wF_X10_56 : Cond.fieldLink RX10 56 (TX10 23).1 (TX10 23).2.1 (TX10 23).2.2.1 ∈ okW := ok_of (tb_5 (List.mem_of_getElem? (i := 145) rfl)) rfl
theorem wF_X10_59 : Cond.fieldLink RX10 59 (TX10 24).1 (TX10 24).2.1 (TX10 24).2.2.1 ∈ okW := ok_of (tb_5 (List.mem_of_getElem? (i := 146) rfl)) rfl
theorem wF_X10_62 : Cond.fieldLink RX10 62 (TX10 25).1 (TX10 25).2.1 (TX10 25).2.2.1 ∈ okW := ok_of (tb_5 (List.mem_of_getElem? (i := 147) rfl)) rfl
theorem wF_X10_65 : Cond.fieldLink RX10 65 (TX10 26).1 (TX10 26).2.1 (TX10 26).2.2.1 ∈ okW := ok_of (tb_5 (List.mem_of_getElem? (i := 148) rfl)) rfl
theorem wF_X10_68 : Cond.fieldLink RX10 68 (TX10 27).1 (TX10 27).2.1 (TX10 27).2.2.1 ∈ okW := ok_of (tb_5 (List.mem_of_getElem? (i := 149) rfl)) rfl
theorem wF_X10_71 : Cond.fieldLink RX10 71 (TX10 28).1 (TX10 28).2.1 (TX10 28).2.2.1 ∈ okW := ok_of (tb_5 (List.mem_of_getElem? (i := 150) rfl)) rfl
theorem wF_X10_74 : Cond.fieldLink RX10 74 (TX10 29).1 (TX10 29).2.1 (TX10 29).2.2.1 ∈ okW := ok_of (tb_5 (List.mem_of_getElem? (i := 151) rfl)) rfl
theorem wF_X10_77 : Cond.fieldLink RX10 77 (TX10 30).1 (TX10 30).2.1 (TX10 30).2.2.1 ∈ okW := ok_of (tb_5 (List.mem_of_getElem? (i := 152) rfl)) rfl
theorem wF_X10_80 : Cond.fieldLink RX10 80 (TX10 31).1 (TX10 31).2.1 (TX10 31).2.2.1 ∈ okW := ok_of (tb_5 (List.mem_of_getElem? (i := 153) rfl)) rfl
theorem wF_X10_83 : Cond.fieldLink RX10 83 (TX10 32).1 (TX10 32).2.1 (TX10 32).2.2.1 ∈ okW := ok_of (tb_5 (List.mem_of_getElem? (i := 154) rfl)) rfl
theorem wF_X10_86 : Cond.fieldLink RX10 86 (TX10 33).1 (TX10 33).2.1 (TX10 33).2.2.1 ∈ okW := ok_of (tb_5 (List.mem_of_getElem? (i := 155) rfl)) rfl
theorem wF_X10_231 : Cond.fieldLink RX10 231 (TX10 34).1 (TX10 34).2.1 (TX10 34).2.2.1 ∈ okW := ok_of (tb_5 (List.mem_of_getElem? (i := 156) rfl)) rfl
theorem wF_X10_228 : Cond.fieldLink RX10 228 (TX10 35).1 (TX10 35).2.1 (TX10 35).2.2.1 ∈ okW := ok_of (tb_5 (List.mem_of_getElem? (i := 157) rfl)) rfl
theorem wF_X10_261 : Cond.fieldLink RX10 261 (TX10 36).1 (TX10 36).2.1 (TX10 36).2.2.1 ∈ okW := ok_of (tb_5 (List.mem_of_getElem? (i := 158) rfl)) rfl
theorem wF_X10_89 : Cond.fieldLink RX10 89 (TX10 37).1 (TX10 37).2.1 (TX10 37).2.2.1 ∈ okW := ok_of (tb_5 (List.mem_of_getElem? (i := 159) rfl)) rfl
theorem wF_X10_258 : Cond.fieldLink RX10 258 (TX10 38).1 (TX10 38).2.1 (TX10 38).2.2.1 ∈ okW := ok_of (tb_5 (List.mem_of_getElem? (i := 160) rfl)) rfl
theorem wF_X10_222 : Cond.fieldLink RX10 222 (TX10 39).1 (TX10 39).2.1 (TX10 39).2.2.1 ∈ okW := ok_of (tb_5 (List.mem_of_getElem? (i := 161) rfl)) rfl
theorem wF_X10_225 : Cond.fieldLink RX10 225 (TX10 40).1 (TX10 40).2.1 (TX10 40).2.2.1 ∈ okW := ok_of (tb_5 (List.mem_of_getElem? (i := 162) rfl)) rfl
theorem wF_X10_292 : Cond.fieldLink RX10 292 (TX10 41).1 (TX10 41).2.1 (TX10 41).2.2.1 ∈ okW := ok_of (tb_5 (List.mem_of_getElem? (i := 163) rfl)) rfl
theorem wF_X10_92 : Cond.fieldLink RX10 92 (TX10 42).1 (TX10 42).2.1 (TX10 42).2.2.1 ∈ okW := ok_of (tb_5 (List.mem_of_getElem? (i := 164) rfl)) rfl
theorem wF_X10_95 : Cond.fieldLink RX10 95 (TX10 43).1 (TX10 43).2.1 (TX10 43).2.2.1 ∈ okW := ok_of (tb_5 (List.mem_of_getElem? (i := 165) rfl)) rfl
theorem wF_X10_98 : Cond.fieldLink RX10 98 (TX10 44).1 (TX10 44).2.1 (TX10 44).2.2.1 ∈ okW := ok_of (tb_5 (List.mem_of_getElem? (i := 166) rfl)) rfl
theorem wF_X10_101 : Cond.fieldLink RX10 101 (TX10 45).1 (TX10 45).2.1 (TX10 45).2.2.1 ∈ okW := ok_of (tb_5 (List.mem_of_getElem? (i := 167) rfl)) rfl
theorem wF_X10_104 : Cond.fieldLink RX10 104 (TX10 46).1 (TX10 46).2.1 (TX10 46).2.2.1 ∈ okW := ok_of (tb_5 (List.mem_of_getElem? (i := 168) rfl)) rfl
theorem wF_X10_107 : Cond.fieldLink RX10 107 (TX10 47).1 (TX10 47).2.1 (TX10 47).2.2.1 ∈ okW := ok_of (tb_5 (List.mem_of_getElem? (i := 169) rfl)) rfl
theorem wF_X10_110 : Cond.fieldLink RX10 110 (TX10 48).1 (TX10 48).2.1 (TX10 48).2.2.1 ∈ okW := ok_of (tb_5 (List.mem_of_getElem? (i := 170) rfl)) rfl
theorem wF_X10_113 : Cond.fieldLink RX10 113 (TX10 49).1 (TX10 49).2.1 (TX10 49).2.2.1 ∈ okW := ok_of (tb_5 (List.mem_of_getElem? (i := 171) rfl)) rfl
theorem wF_X10_116 : Cond.fieldLink RX10 116 (TX10 50).1 (TX10 50).2.1 (TX10 50).2.2.1 ∈ okW := ok_of (tb_5 (List.mem_of_getElem? (i := 172) rfl)) rfl
theorem wF_X10_119 : Cond.fieldLink RX10 119 (TX10 51).1 (TX10 51).2.1 (TX10 51).2.2.1 ∈ okW := ok_of (tb_5 (List.mem_of_getElem? (i := 173) rfl)) rfl
theorem wF_X10_122 : Cond.fieldLink RX10 122 (TX10 52).1 (TX10 52).2.1 (TX10 52).2.2.1 ∈ okW := ok_of (tb_5 (List.mem_of_getElem? (i := 174) rfl)) rfl
theorem wF_X10_125 : Cond.fieldLink RX10 125 (TX10 53).1 (TX10 53).2.1 (TX10 53).2.2.1 ∈ okW := ok_of (tb_5 (List.mem_of_getElem? (i := 175) rfl)) rfl
theorem wF_X10_128 : Cond.fieldLink RX10 128 (TX10 54).1 (TX10 54).2.1 (TX10 54).2.2.1 ∈ okW := ok_of (tb_5 (List.mem_of_getElem? (i := 176) rfl)) rfl
theorem wF_X10_131 : Cond.fieldLink RX10 131 (TX10 55).1 (TX10 55).2.1 (TX10 55).2.2.1 ∈ okW := ok_of (tb_5 (List.mem_of_getElem? (i := 177) rfl)) rfl
theorem wF_X10_378 : Cond.fieldLink RX10 378 (TX10 56).1 (TX10 56).2.1 (TX10 56).2.2.1 ∈ okW := ok_of (tb_5 (List.mem_of_getElem? (i := 178) rfl)) rfl
theorem wF_X10_134 : Cond.fieldLink RX10 134 (TX10 57).1 (TX10 57).2.1 (TX10 57).2.2.1 ∈ okW := ok_of (tb_5 (List.mem_of_getElem? (i := 179) rfl)) rfl
theorem wF_X10_137 : Cond.fieldLink RX10 137 (TX10 58).1 (TX10 58).2.1 (TX10 58).2.2.1 ∈ okW := ok_of (tb_5 (List.mem_of_getElem? (i := 180) rfl)) rfl
theorem wF_X10_438 : Cond.fieldLink RX10 438 (TX10 59).1 (TX10 59).2.1 (TX10 59).2.2.1 ∈ okW := ok_of (tb_5 (List.mem_of_getElem? (i := 181) rfl)) rfl
theorem wF_X10_140 : Cond.fieldLink RX10 140 (TX10 60).1 (TX10 60).2.1 (TX10 60).2.2.1 ∈ okW := ok_of (tb_5 (List.mem_of_getElem? (i := 182) rfl)) rfl
theorem wF_X10_143 : Cond.fieldLink RX10 143 (TX10 61).1 (TX10 61).2.1 (TX10 61).2.2.1 ∈ okW := ok_of (tb_5 (List.mem_of_getElem? (i := 183) rfl)) rfl
theorem wF_X10_455 : Cond.fieldLink RX10 455 (TX10 62).1 (TX10 62).2.1 (TX10 62).2.2.1 ∈ okW := ok_of (tb_5 (List.mem_of_getElem? (i := 184) rfl)) rfl
theorem wF_X10_146 : Cond.fieldLink RX10 146 (TX10 63).1 (TX10 63).2.1 (TX10 63).2.2.1 ∈ okW := ok_of (tb_5 (List.mem_of_getElem? (i := 185) rfl)) rfl
theorem wF_X10_149 : Cond.fieldLink RX10 149 (TX10 64).1 (TX10 64).2.1 (TX10 64).2.2.1 ∈ okW := ok_of (tb_5 (List.mem_of_getElem? (i := 186) rfl)) rfl
theorem wF_X10_458 : Cond.fieldLink RX10 458 (TX10 65).1 (TX10 65).2.1 (TX10 65).2.2.1 ∈ okW := ok_of (tb_5 (List.mem_of_getElem? (i := 187) rfl)) rfl
theorem wF_X10_152 : Cond.fieldLink RX10 152 (TX10 66).1 (TX10 66).2.1 (TX10 66).2.2.1 ∈ okW := ok_of (tb_5 (List.mem_of_getElem? (i := 188) rfl)) rfl
theorem wF_X10_155 : Cond.fieldLink RX10 155 (TX10 67).1 (TX10 67).2.1 (TX10 67).2.2.1 ∈ okW := ok_of (tb_5 (List.mem_of_getElem? (i := 189) rfl)) rfl
theorem wF_X10_158 : Cond.fieldLink RX10 158 (TX10 68).1 (TX10 68).2.1 (TX10 68).2.2.1 ∈ okW := ok_of (tb_5 (List.mem_of_getElem? (i := 190) rfl)) rfl
theorem wF_X10_161 : Cond.fieldLink RX10 161 (TX10 69).1 (TX10 69).2.1 (TX10 69).2.2.1 ∈ okW := ok_of (tb_5 (List.mem_of_getElem? (i := 191) rfl)) rfl
theorem wF_X10_476 : Cond.fieldLink RX10 476 (TX10 70).1 (TX10 70).2.1 (TX10 70).2.2.1 ∈ okW := ok_of (tb_5 (List.mem_of_getElem? (i := 192) rfl)) rfl
theorem wF_X10_470 : Cond.fieldLink RX10 470 (TX10 71).1 (TX10 71).2.1 (TX10 71).2.2.1 ∈ okW := ok_of (tb_5 (List.mem_of_getElem? (i := 193) rfl)) rfl
theorem wF_X10_467 : Cond.fieldLink RX10 467 (TX10 72).1 (TX10 72).2.1 (TX10 72).2.2.1 ∈ okW := ok_of (tb_5 (List.mem_of_getElem? (i := 194) rfl)) rfl
theorem wF_X10_164 : Cond.fieldLink RX10 164 (TX10 73).1 (TX10 73).2.1 (TX10 73).2.2.1 ∈ okW := ok_of (tb_5 (List.mem_of_getElem? (i := 195) rfl)) rfl
theorem wLY_10_0 : u_lay RX10 TX10 0 ∈ okW := ok_of (tb_5 (List.mem_of_getElem? (i := 196) rfl)) rfl
theorem wLY_10_1 : u_lay RX10 TX10 1 ∈ okW := ok_of (tb_5 (List.mem_of_getElem? (i := 198) rfl)) rfl
theorem wLY_10_2 : u_lay RX10 TX10 2 ∈ okW := ok_of (tb_5 (List.mem_of_getElem? (i := 200) rfl)) rfl
theorem wLY_10_3 : u_lay RX10 TX10 3 ∈ okW := ok_of (tb_5 (List.mem_of_getElem? (i := 202) rfl)) rfl
theorem wLY_10_4 : u_lay RX10 TX10 4 ∈ okW := ok_of (tb_5 (List.mem_of_getElem? (i := 204) rfl)) rfl
theorem wLY_10_5 : u_lay RX10 TX10 5 ∈ okW := ok_of (tb_5 (List.mem_of_getElem? (i := 206) rfl)) rfl
theorem wLY_10_6 : u_lay RX10 TX10 6 ∈ okW := ok_of (tb_5 (List.mem_of_getElem? (i := 208) rfl)) rfl
theorem wLY_10_7 : u_lay RX10 TX10 7 ∈ okW := ok_of (tb_5 (List.mem_of_getElem? (i := 210) rfl)) rfl
theorem wLY_10_8 : u_lay RX10 TX10 8 ∈ okW := ok_of (tb_5 (List.mem_of_getElem? (i := 212) rfl)) rfl
theorem wLY_10_9 : u_lay RX10 TX10 9 ∈ okW := ok_of (tb_5 (List.mem_of_getElem? (i := 214) rfl)) rfl
theorem wLY_10_10 : u_lay RX10 TX10 10 ∈ okW := ok_of (tb_5 (List.mem_of_getElem? (i := 216) rfl)) rfl
theorem wLY_10_11 : u_lay RX10 TX10 11 ∈ okW := ok_of (tb_5 (List.mem_of_getElem? (i := 218) rfl)) rfl
theorem wLY_10_12 : u_lay RX10 TX10 12 ∈ okW := ok_of (tb_5 (List.mem_of_getElem? (i := 220) rfl)) rfl
theorem wLY_10_13 : u_lay RX10 TX10 13 ∈ okW := ok_of (tb_5 (List.mem_of_getElem? (i := 222) rfl)) rfl
theorem wLY_10_14 : u_lay RX10 TX10 14 ∈ okW := ok_of (tb_5 (List.mem_of_getElem? (i := 224) rfl)) rfl
theorem wLY_10_15 : u_lay RX10 TX10 15 ∈ okW := ok_of (tb_5 (List.mem_of_getElem? (i := 226) rfl)) rfl
theorem wLY_10_16 : u_lay RX10 TX10 16 ∈ okW := ok_of (tb_5 (List.mem_of_getElem? (i := 228) rfl)) rfl
theorem wLY_10_17 : u_lay RX10 TX10 17 ∈ okW := ok_of (tb_5 (List.mem_of_getElem? (i := 230) rfl)) rfl
theorem wLY_10_18 : u_lay RX10 TX10 18 ∈ okW := ok_of (tb_5 (List.mem_of_getElem? (i := 232) rfl)) rfl
theorem wLY_10_19 : u_lay RX10 TX10 19 ∈ okW := ok_of (tb_5 (List.mem_of_getElem? (i := 234) rfl)) rfl
theorem wLY_10_20 : u_lay RX10 TX10 20 ∈ okW := ok_of (tb_5 (List.mem_of_getElem? (i := 236) rfl)) rfl
theorem wLY_10_21 : u_lay RX10 TX10 21 ∈ okW := ok_of (tb_5 (List.mem_of_getElem? (i := 238) rfl)) rfl
theorem wLY_10_22 : u_lay RX10 TX10 22 ∈ okW := ok_of (tb_6 (List.mem_of_getElem? (i := 0) rfl)) rfl
theorem wLY_10_23 : u_lay RX10 TX10 23 ∈ okW := ok_of (tb_6 (List.mem_of_getElem? (i := 2) rfl)) rfl
theorem wLY_10_24 : u_lay RX10 TX10 24 ∈ okW := ok_of (tb_6 (List.mem_of_getElem? (i := 4) rfl)) rfl
theorem wLY_10_25 : u_lay RX10 TX10 25 ∈ okW := ok_of (tb_6 (List.mem_of_getElem? (i := 6) rfl)) rfl
theorem wLY_10_26 : u_lay RX10 TX10 26 ∈ okW := ok_of (tb_6 (List.mem_of_getElem? (i := 8) rfl)) rfl
theorem wLY_10_27 : u_lay RX10 TX10 27 ∈ okW := ok_of (tb_6 (List.mem_of_getElem? (i := 10) rfl)) rfl
theorem wLY_10_28 : u_lay RX10 TX10 28 ∈ okW := ok_of (tb_6 (List.mem_of_getElem? (i := 12) rfl)) rfl
theorem wLY_10_29 : u_lay RX10 TX10 29 ∈ okW := ok_of (tb_6 (List.mem_of_getElem? (i := 14) rfl)) rfl
theorem wLY_10_30 : u_lay RX10 TX10 30 ∈ okW := ok_of (tb_6 (List.mem_of_getElem? (i := 16) rfl)) rfl
theorem wLY_10_31 : u_lay RX10 TX10 31 ∈ okW := ok_of (tb_6 (List.mem_of_getElem? (i := 18) rfl)) rfl
theorem wLY_10_32 : u_lay RX10 TX10 32 ∈ okW := ok_of (tb_6 (List.mem_of_getElem? (i := 20) rfl)) rfl
theorem wLY_10_33 : u_lay RX10 TX10 33 ∈ okW := ok_of (tb_6 (List.mem_of_getElem? (i := 22) rfl)) rfl
theorem wLY_10_34 : u_lay RX10 TX10 34 ∈ okW := ok_of (tb_6 (List.mem_of_getElem? (i := 24) rfl)) rfl
theorem wLY_10_35 : u_lay RX10 TX10 35 ∈ okW := ok_of (tb_6 (List.mem_of_getElem? (i := 26) rfl)) rfl
theorem wLY_10_36 : u_lay RX10 TX10 36 ∈ okW := ok_of (tb_6 (List.mem_of_getElem? (i := 28) rfl)) rfl
theorem wLY_10_37 : u_lay RX10 TX10 37 ∈ okW := ok_of (tb_6 (List.mem_of_getElem? (i := 30) rfl)) rfl
theorem wLY_10_38 : u_lay RX10 TX10 38 ∈ okW := ok_of (tb_6 (List.mem_of_getElem? (i := 32) rfl)) rfl
theorem wLY_10_39 : u_lay RX10 TX10 39 ∈ okW := ok_of (tb_6 (List.mem_of_getElem? (i := 34) rfl)) rfl
theorem wLY_10_40 : u_lay RX10 TX10 40 ∈ okW := ok_of (tb_6 (List.mem_of_getElem? (i := 36) rfl)) rfl
theorem wLY_10_41 : u_lay RX10 TX10 41 ∈ okW := ok_of (tb_6 (List.mem_of_getElem? (i := 38) rfl)) rfl
theorem wLY_10_42 : u_lay RX10 TX10 42 ∈ okW := ok_of (tb_6 (List.mem_of_getElem? (i := 40) rfl)) rfl
theorem wLY_10_43 : u_lay RX10 TX10 43 ∈ okW := ok_of (tb_6 (List.mem_of_getElem? (i := 42) rfl)) rfl
theorem wLY_10_44 : u_lay RX10 TX10 44 ∈ okW := ok_of (tb_6 (List.mem_of_getElem? (i := 44) rfl)) rfl
theorem wLY_10_45 : u_lay RX10 TX10 45 ∈ okW := ok_of (tb_6 (List.mem_of_getElem? (i := 46) rfl)) rfl
theorem wLY_10_46 : u_lay RX10 TX10 46 ∈ okW := ok_of (tb_6 (List.mem_of_getElem? (i := 48) rfl)) rfl
theorem wLY_10_47 : u_lay RX10 TX10 47 ∈ okW := ok_of (tb_6 (List.mem_of_getElem? (i := 50) rfl)) rfl
theorem wLY_10_48 : u_lay RX10 TX10 48 ∈ okW := ok_of (tb_6 (List.mem_of_getElem? (i := 52) rfl)) rfl
theorem wLY_10_49 : u_lay RX10 TX10 49 ∈ okW := ok_of (tb_6 (List.mem_of_getElem? (i := 54) rfl)) rfl
theorem wLY_10_50 : u_lay RX10 TX10 50 ∈ okW := ok_of (tb_6 (List.mem_of_getElem? (i := 56) rfl)) rfl
theorem wLY_10_51 : u_lay RX10 TX10 51 ∈ okW := ok_of (tb_6 (List.mem_of_getElem? (i := 58) rfl)) rfl
theorem wLY_10_52 : u_lay RX10 TX10 52 ∈ okW := ok_of (tb_6 (List.mem_of_getElem? (i := 60) rfl)) rfl
theorem wLY_10_53 : u_lay RX10 TX10 53 ∈ okW := ok_of (tb_6 (List.mem_of_getElem? (i := 62) rfl)) rfl
theorem wLY_10_54 : u_lay RX10 TX10 54 ∈ okW := ok_of (tb_6 (List.mem_of_getElem? (i := 64) rfl)) rfl
theorem wLY_10_55 : u_lay RX10 TX10 55 ∈ okW := ok_of (tb_6 (List.mem_of_getElem? (i := 66) rfl)) rfl
theorem wLY_10_56 : u_lay RX10 TX10 56 ∈ okW := ok_of (tb_6 (List.mem_of_getElem? (i := 68) rfl)) rfl
theorem wLY_10_57 : u_lay RX10 TX10 57 ∈ okW := ok_of (tb_6 (List.mem_of_getElem? (i := 70) rfl)) rfl
theorem wLY_10_58 : u_lay RX10 TX10 58 ∈ okW := ok_of (tb_6 (List.mem_of_getElem? (i := 72) rfl)) rfl
theorem wLY_10_59 : u_lay RX10 TX10 59 ∈ okW := ok_of (tb_6 (List.mem_of_getElem? (i := 74) rfl)) rfl
theorem wLY_10_60 : u_lay RX10 TX10 60 ∈ okW := ok_of (tb_6 (List.mem_of_getElem? (i := 76) rfl)) rfl
theorem wLY_10_61 : u_lay RX10 TX10 61 ∈ okW := ok_of (tb_6 (List.mem_of_getElem? (i := 78) rfl)) rfl
theorem wLY_10_62 : u_lay RX10 TX10 62 ∈ okW := ok_of (tb_6 (List.mem_of_getElem? (i := 80) rfl)) rfl
theorem wLY_10_63 : u_lay RX10 TX10 63 ∈ okW := ok_of (tb_6 (List.mem_of_getElem? (i := 82) rfl)) rfl
theorem wLY_10_64 : u_lay RX10 TX10 64 ∈ okW := ok_of (tb_6 (List.mem_of_getElem? (i := 84) rfl)) rfl
theorem wLY_10_65 : u_lay RX10 TX10 65 ∈ okW := ok_of (tb_6 (List.mem_of_getElem? (i := 86) rfl)) rfl
theorem wLY_10_66 : u_lay RX10 TX10 66 ∈ okW := ok_of (tb_6 (List.mem_of_getElem? (i := 88) rfl)) rfl
theorem wLY_10_67 : u_lay RX10 TX10 67 ∈ okW := ok_of (tb_6 (List.mem_of_getElem? (i := 90) rfl)) rfl
theorem wLY_10_68 : u_lay RX10 TX10 68 ∈ okW := ok_of (tb_6 (List.mem_of_getElem? (i := 92) rfl)) rfl
theorem wLY_10_69 : u_lay RX10 TX10 69 ∈ okW := ok_of (tb_6 (List.mem_of_getElem? (i := 94) rfl)) rfl
theorem wLY_10_70 : u_lay RX10 TX10 70 ∈ okW := ok_of (tb_6 (List.mem_of_getElem? (i := 96) rfl)) rfl
theorem wLY_10_71 : u_lay RX10 TX10 71 ∈ okW := ok_of (tb_6 (List.mem_of_getElem? (i := 98) rfl)) rfl
theorem wLY_10_72 : u_lay RX10 TX10 72 ∈ okW := ok_of (tb_6 (List.mem_of_getElem? (i := 100) rfl)) rfl
theorem wLY_10_73 : u_lay RX10 TX10 73 ∈ okW := ok_of (tb_6 (List.mem_of_getElem? (i := 102) rfl)) rfl
theorem wM_L_17 : Cond.methodLink RL 17 yX10_bar ∈ okW := ok_of (tb_6 (List.mem_of_getElem? (i := 105) rfl)) rfl
theorem wIM_X10_bar : Cond.instanceMethod yX10_bar ∈ okW := ok_of (tb_6 (List.mem_of_getElem? (i := 106) rfl)) rfl
theorem wSE_X10_bar : Cond.selects yX10_bar.cls yX10_bar yX10_bar ∈ okW := ok_of (tb_6 (List.mem_of_getElem? (i := 107) rfl)) rfl
theorem wCD_X10_bar : Cond.code yX10_bar cX10_bar 3 (some .int) ∈ okW := ok_of (tb_6 (List.mem_of_getElem? (i := 108) rfl)) rfl
theorem wM_X10_177 : Cond.methodLink RX10 177 yX10_isIn ∈ okW := ok_of (tb_6 (List.mem_of_getElem? (i := 109) rfl)) rfl
theorem wIM_X10_isIn : Cond.instanceMethod yX10_isIn ∈ okW := ok_of (tb_6 (List.mem_of_getElem? (i := 111) rfl)) rfl
theorem wCD_X10_isIn : Cond.code yX10_isIn cX10_isIn 4 (some .boolean) ∈ okW := ok_of (tb_6 (List.mem_of_getElem? (i := 112) rfl)) rfl
theorem wM_L_22 : Cond.methodLink RL 22 yX10_slice ∈ okW := ok_of (tb_6 (List.mem_of_getElem? (i := 113) rfl)) rfl
theorem wIM_X10_slice : Cond.instanceMethod yX10_slice ∈ okW := ok_of (tb_6 (List.mem_of_getElem? (i := 114) rfl)) rfl
theorem wSE_X10_slice : Cond.selects yX10_slice.cls yX10_slice yX10_slice ∈ okW := ok_of (tb_6 (List.mem_of_getElem? (i := 115) rfl)) rfl
theorem wCD_X10_slice : Cond.code yX10_slice cX10_slice 6 (some .boolean) ∈ okW := ok_of (tb_6 (List.mem_of_getElem? (i := 116) rfl)) rfl
theorem wM_X10_181 : Cond.methodLink RX10 181 yX10_isSlice ∈ okW := ok_of (tb_6 (List.mem_of_getElem? (i := 117) rfl)) rfl
theorem wIM_X10_isSlice : Cond.instanceMethod yX10_isSlice ∈ okW := ok_of (tb_6 (List.mem_of_getElem? (i := 119) rfl)) rfl
theorem wCD_X10_isSlice : Cond.code yX10_isSlice cX10_isSlice 3 (some .boolean) ∈ okW := ok_of (tb_6 (List.mem_of_getElem? (i := 120) rfl)) rfl
theorem wM_X10_173 : Cond.methodLink RX10 173 yX10_isBar ∈ okW := ok_of (tb_6 (List.mem_of_getElem? (i := 121) rfl)) rfl
theorem wIM_X10_isBar : Cond.instanceMethod yX10_isBar ∈ okW := ok_of (tb_6 (List.mem_of_getElem? (i := 123) rfl)) rfl
theorem wCD_X10_isBar : Cond.code yX10_isBar cX10_isBar 2 (some .boolean) ∈ okW := ok_of (tb_6 (List.mem_of_getElem? (i := 124) rfl)) rfl
theorem wM_L_27 : Cond.methodLink RL 27 yX10_wax ∈ okW := ok_of (tb_6 (List.mem_of_getElem? (i := 125) rfl)) rfl
theorem wIM_X10_wax : Cond.instanceMethod yX10_wax ∈ okW := ok_of (tb_6 (List.mem_of_getElem? (i := 126) rfl)) rfl
theorem wSE_X10_wax : Cond.selects yX10_wax.cls yX10_wax yX10_wax ∈ okW := ok_of (tb_6 (List.mem_of_getElem? (i := 127) rfl)) rfl
theorem wCD_X10_wax : Cond.code yX10_wax cX10_wax 4 (some .boolean) ∈ okW := ok_of (tb_6 (List.mem_of_getElem? (i := 128) rfl)) rfl
theorem wM_L_32 : Cond.methodLink RL 32 yX10_of ∈ okW := ok_of (tb_6 (List.mem_of_getElem? (i := 129) rfl)) rfl
theorem wIM_X10_of : Cond.instanceMethod yX10_of ∈ okW := ok_of (tb_6 (List.mem_of_getElem? (i := 130) rfl)) rfl
theorem wSE_X10_of : Cond.selects yX10_of.cls yX10_of yX10_of ∈ okW := ok_of (tb_6 (List.mem_of_getElem? (i := 131) rfl)) rfl
theorem wCD_X10_of : Cond.code yX10_of cX10_of 5 (some .int) ∈ okW := ok_of (tb_6 (List.mem_of_getElem? (i := 132) rfl)) rfl
theorem wM_L_37 : Cond.methodLink RL 37 yX10_feed ∈ okW := ok_of (tb_6 (List.mem_of_getElem? (i := 133) rfl)) rfl
theorem wIM_X10_feed : Cond.instanceMethod yX10_feed ∈ okW := ok_of (tb_6 (List.mem_of_getElem? (i := 134) rfl)) rfl
theorem wSE_X10_feed : Cond.selects yX10_feed.cls yX10_feed yX10_feed ∈ okW := ok_of (tb_6 (List.mem_of_getElem? (i := 135) rfl)) rfl
theorem wCD_X10_feed : Cond.code yX10_feed cX10_feed 6 (some .int) ∈ okW := ok_of (tb_6 (List.mem_of_getElem? (i := 136) rfl)) rfl
theorem wM_X10_188 : Cond.methodLink RX10 188 yX10_puts ∈ okW := ok_of (tb_6 (List.mem_of_getElem? (i := 137) rfl)) rfl
theorem wIM_X10_puts : Cond.instanceMethod yX10_puts ∈ okW := ok_of (tb_6 (List.mem_of_getElem? (i := 139) rfl)) rfl
theorem wCD_X10_puts : Cond.code yX10_puts cX10_puts 3 none ∈ okW := ok_of (tb_6 (List.mem_of_getElem? (i := 140) rfl)) rfl
theorem wM_L_42 : Cond.methodLink RL 42 yX10_end ∈ okW := ok_of (tb_6 (List.mem_of_getElem? (i := 141) rfl)) rfl
theorem wIM_X10_end : Cond.instanceMethod yX10_end ∈ okW := ok_of (tb_6 (List.mem_of_getElem? (i := 142) rfl)) rfl
theorem wSE_X10_end : Cond.selects yX10_end.cls yX10_end yX10_end ∈ okW := ok_of (tb_6 (List.mem_of_getElem? (i := 143) rfl)) rfl
theorem wCD_X10_end : Cond.code yX10_end cX10_end 2 (some .boolean) ∈ okW := ok_of (tb_6 (List.mem_of_getElem? (i := 144) rfl)) rfl
theorem wM_L_47 : Cond.methodLink RL 47 yX10_text ∈ okW := ok_of (tb_6 (List.mem_of_getElem? (i := 145) rfl)) rfl
theorem wIM_X10_text : Cond.instanceMethod yX10_text ∈ okW := ok_of (tb_6 (List.mem_of_getElem? (i := 146) rfl)) rfl
theorem wSE_X10_text : Cond.selects yX10_text.cls yX10_text yX10_text ∈ okW := ok_of (tb_6 (List.mem_of_getElem? (i := 147) rfl)) rfl
theorem wCD_X10_text : Cond.code yX10_text cX10_text 7 (some .int) ∈ okW := ok_of (tb_6 (List.mem_of_getElem? (i := 148) rfl)) rfl
theorem wM_X10_242 : Cond.methodLink RX10 242 yX10_reads ∈ okW := ok_of (tb_6 (List.mem_of_getElem? (i := 149) rfl)) rfl
theorem wIM_X10_reads : Cond.instanceMethod yX10_reads ∈ okW := ok_of (tb_6 (List.mem_of_getElem? (i := 151) rfl)) rfl
theorem wCD_X10_reads : Cond.code yX10_reads cX10_reads 2 none ∈ okW := ok_of (tb_6 (List.mem_of_getElem? (i := 152) rfl)) rfl
theorem wM_X10_195 : Cond.methodLink RX10 195 yX10_raw ∈ okW := ok_of (tb_6 (List.mem_of_getElem? (i := 153) rfl)) rfl
theorem wIM_X10_raw : Cond.instanceMethod yX10_raw ∈ okW := ok_of (tb_6 (List.mem_of_getElem? (i := 155) rfl)) rfl
theorem wCD_X10_raw : Cond.code yX10_raw cX10_raw 2 (some .int) ∈ okW := ok_of (tb_6 (List.mem_of_getElem? (i := 156) rfl)) rfl
theorem wM_X10_208 : Cond.methodLink RX10 208 yX10_isLetter ∈ okW := ok_of (tb_6 (List.mem_of_getElem? (i := 157) rfl)) rfl
theorem wIM_X10_isLetter : Cond.instanceMethod yX10_isLetter ∈ okW := ok_of (tb_6 (List.mem_of_getElem? (i := 159) rfl)) rfl
theorem wCD_X10_isLetter : Cond.code yX10_isLetter cX10_isLetter 2 (some .boolean) ∈ okW := ok_of (tb_6 (List.mem_of_getElem? (i := 160) rfl)) rfl
theorem wM_X10_211 : Cond.methodLink RX10 211 yX10_wordAt ∈ okW := ok_of (tb_6 (List.mem_of_getElem? (i := 161) rfl)) rfl
theorem wIM_X10_wordAt : Cond.instanceMethod yX10_wordAt ∈ okW := ok_of (tb_6 (List.mem_of_getElem? (i := 163) rfl)) rfl
theorem wCD_X10_wordAt : Cond.code yX10_wordAt cX10_wordAt 6 (some .int) ∈ okW := ok_of (tb_6 (List.mem_of_getElem? (i := 164) rfl)) rfl
theorem wM_X10_215 : Cond.methodLink RX10 215 yX10_isDigit ∈ okW := ok_of (tb_6 (List.mem_of_getElem? (i := 165) rfl)) rfl
theorem wIM_X10_isDigit : Cond.instanceMethod yX10_isDigit ∈ okW := ok_of (tb_6 (List.mem_of_getElem? (i := 167) rfl)) rfl
theorem wCD_X10_isDigit : Cond.code yX10_isDigit cX10_isDigit 2 (some .boolean) ∈ okW := ok_of (tb_6 (List.mem_of_getElem? (i := 168) rfl)) rfl
theorem wK_X10_218 : Cond.constant RX10 218 (100000) ∈ okW := ok_of (tb_6 (List.mem_of_getElem? (i := 169) rfl)) rfl
theorem wM_X10_219 : Cond.methodLink RX10 219 yX10_isMarkSign ∈ okW := ok_of (tb_6 (List.mem_of_getElem? (i := 170) rfl)) rfl
theorem wIM_X10_isMarkSign : Cond.instanceMethod yX10_isMarkSign ∈ okW := ok_of (tb_6 (List.mem_of_getElem? (i := 172) rfl)) rfl
theorem wCD_X10_isMarkSign : Cond.code yX10_isMarkSign cX10_isMarkSign 2 (some .boolean) ∈ okW := ok_of (tb_6 (List.mem_of_getElem? (i := 173) rfl)) rfl
theorem wM_X10_295 : Cond.methodLink RX10 295 yX10_readText ∈ okW := ok_of (tb_6 (List.mem_of_getElem? (i := 174) rfl)) rfl
theorem wIM_X10_readText : Cond.instanceMethod yX10_readText ∈ okW := ok_of (tb_6 (List.mem_of_getElem? (i := 176) rfl)) rfl
theorem wCD_X10_readText : Cond.code yX10_readText cX10_readText 2 (some .int) ∈ okW := ok_of (tb_6 (List.mem_of_getElem? (i := 177) rfl)) rfl
theorem wM_X10_285 : Cond.methodLink RX10 285 yX10_isBegin ∈ okW := ok_of (tb_6 (List.mem_of_getElem? (i := 178) rfl)) rfl
theorem wIM_X10_isBegin : Cond.instanceMethod yX10_isBegin ∈ okW := ok_of (tb_6 (List.mem_of_getElem? (i := 180) rfl)) rfl
theorem wCD_X10_isBegin : Cond.code yX10_isBegin cX10_isBegin 1 (some .boolean) ∈ okW := ok_of (tb_6 (List.mem_of_getElem? (i := 181) rfl)) rfl
theorem wM_X10_235 : Cond.methodLink RX10 235 yX10_fails ∈ okW := ok_of (tb_6 (List.mem_of_getElem? (i := 182) rfl)) rfl
theorem wIM_X10_fails : Cond.instanceMethod yX10_fails ∈ okW := ok_of (tb_6 (List.mem_of_getElem? (i := 184) rfl)) rfl
theorem wCD_X10_fails : Cond.code yX10_fails cX10_fails 2 (some .int) ∈ okW := ok_of (tb_6 (List.mem_of_getElem? (i := 185) rfl)) rfl
theorem wM_X10_289 : Cond.methodLink RX10 289 yX10_readLine ∈ okW := ok_of (tb_6 (List.mem_of_getElem? (i := 186) rfl)) rfl
theorem wIM_X10_readLine : Cond.instanceMethod yX10_readLine ∈ okW := ok_of (tb_6 (List.mem_of_getElem? (i := 188) rfl)) rfl
theorem wCD_X10_readLine : Cond.code yX10_readLine cX10_readLine 3 (some .int) ∈ okW := ok_of (tb_6 (List.mem_of_getElem? (i := 189) rfl)) rfl
theorem wM_X10_279 : Cond.methodLink RX10 279 yX10_readNumbers ∈ okW := ok_of (tb_6 (List.mem_of_getElem? (i := 190) rfl)) rfl
theorem wIM_X10_readNumbers : Cond.instanceMethod yX10_readNumbers ∈ okW := ok_of (tb_6 (List.mem_of_getElem? (i := 192) rfl)) rfl
theorem wCD_X10_readNumbers : Cond.code yX10_readNumbers cX10_readNumbers 3 (some .int) ∈ okW := ok_of (tb_6 (List.mem_of_getElem? (i := 193) rfl)) rfl
theorem wM_X10_276 : Cond.methodLink RX10 276 yX10_readNumber ∈ okW := ok_of (tb_6 (List.mem_of_getElem? (i := 194) rfl)) rfl
theorem wIM_X10_readNumber : Cond.instanceMethod yX10_readNumber ∈ okW := ok_of (tb_6 (List.mem_of_getElem? (i := 196) rfl)) rfl
theorem wCD_X10_readNumber : Cond.code yX10_readNumber cX10_readNumber 4 (some .int) ∈ okW := ok_of (tb_6 (List.mem_of_getElem? (i := 197) rfl)) rfl
theorem wM_X10_255 : Cond.methodLink RX10 255 yX10_readSum ∈ okW := ok_of (tb_6 (List.mem_of_getElem? (i := 198) rfl)) rfl
theorem wIM_X10_readSum : Cond.instanceMethod yX10_readSum ∈ okW := ok_of (tb_6 (List.mem_of_getElem? (i := 200) rfl)) rfl
theorem wCD_X10_readSum : Cond.code yX10_readSum cX10_readSum 2 (some .int) ∈ okW := ok_of (tb_6 (List.mem_of_getElem? (i := 201) rfl)) rfl
theorem wM_X10_252 : Cond.methodLink RX10 252 yX10_readProduct ∈ okW := ok_of (tb_6 (List.mem_of_getElem? (i := 202) rfl)) rfl
theorem wIM_X10_readProduct : Cond.instanceMethod yX10_readProduct ∈ okW := ok_of (tb_6 (List.mem_of_getElem? (i := 204) rfl)) rfl
theorem wCD_X10_readProduct : Cond.code yX10_readProduct cX10_readProduct 2 (some .int) ∈ okW := ok_of (tb_6 (List.mem_of_getElem? (i := 205) rfl)) rfl
theorem wM_X10_245 : Cond.methodLink RX10 245 yX10_readUnit ∈ okW := ok_of (tb_6 (List.mem_of_getElem? (i := 206) rfl)) rfl
theorem wIM_X10_readUnit : Cond.instanceMethod yX10_readUnit ∈ okW := ok_of (tb_6 (List.mem_of_getElem? (i := 208) rfl)) rfl
theorem wCD_X10_readUnit : Cond.code yX10_readUnit cX10_readUnit 2 (some .int) ∈ okW := ok_of (tb_6 (List.mem_of_getElem? (i := 209) rfl)) rfl
theorem wM_X10_238 : Cond.methodLink RX10 238 yX10_emits ∈ okW := ok_of (tb_6 (List.mem_of_getElem? (i := 210) rfl)) rfl
theorem wIM_X10_emits : Cond.instanceMethod yX10_emits ∈ okW := ok_of (tb_6 (List.mem_of_getElem? (i := 212) rfl)) rfl
theorem wCD_X10_emits : Cond.code yX10_emits cX10_emits 3 none ∈ okW := ok_of (tb_6 (List.mem_of_getElem? (i := 213) rfl)) rfl
theorem wM_X10_249 : Cond.methodLink RX10 249 yX10_isSign ∈ okW := ok_of (tb_6 (List.mem_of_getElem? (i := 214) rfl)) rfl
theorem wIM_X10_isSign : Cond.instanceMethod yX10_isSign ∈ okW := ok_of (tb_6 (List.mem_of_getElem? (i := 216) rfl)) rfl
theorem wCD_X10_isSign : Cond.code yX10_isSign cX10_isSign 2 (some .boolean) ∈ okW := ok_of (tb_6 (List.mem_of_getElem? (i := 217) rfl)) rfl
theorem wM_X10_264 : Cond.methodLink RX10 264 yX10_isWord ∈ okW := ok_of (tb_6 (List.mem_of_getElem? (i := 218) rfl)) rfl
theorem wIM_X10_isWord : Cond.instanceMethod yX10_isWord ∈ okW := ok_of (tb_6 (List.mem_of_getElem? (i := 220) rfl)) rfl
theorem wCD_X10_isWord : Cond.code yX10_isWord cX10_isWord 2 (some .boolean) ∈ okW := ok_of (tb_6 (List.mem_of_getElem? (i := 221) rfl)) rfl
theorem wM_X10_282 : Cond.methodLink RX10 282 yX10_readAny ∈ okW := ok_of (tb_6 (List.mem_of_getElem? (i := 222) rfl)) rfl
theorem wIM_X10_readAny : Cond.instanceMethod yX10_readAny ∈ okW := ok_of (tb_6 (List.mem_of_getElem? (i := 224) rfl)) rfl
theorem wCD_X10_readAny : Cond.code yX10_readAny cX10_readAny 4 (some .int) ∈ okW := ok_of (tb_6 (List.mem_of_getElem? (i := 225) rfl)) rfl
theorem wM_X10_267 : Cond.methodLink RX10 267 yX10_waits ∈ okW := ok_of (tb_6 (List.mem_of_getElem? (i := 226) rfl)) rfl
theorem wIM_X10_waits : Cond.instanceMethod yX10_waits ∈ okW := ok_of (tb_6 (List.mem_of_getElem? (i := 228) rfl)) rfl
theorem wCD_X10_waits : Cond.code yX10_waits cX10_waits 2 none ∈ okW := ok_of (tb_6 (List.mem_of_getElem? (i := 229) rfl)) rfl
theorem wM_X10_270 : Cond.methodLink RX10 270 yX10_readCompared ∈ okW := ok_of (tb_6 (List.mem_of_getElem? (i := 230) rfl)) rfl
theorem wIM_X10_readCompared : Cond.instanceMethod yX10_readCompared ∈ okW := ok_of (tb_6 (List.mem_of_getElem? (i := 232) rfl)) rfl
theorem wCD_X10_readCompared : Cond.code yX10_readCompared cX10_readCompared 2 (some .int) ∈ okW := ok_of (tb_6 (List.mem_of_getElem? (i := 233) rfl)) rfl
theorem wM_X10_273 : Cond.methodLink RX10 273 yX10_settles ∈ okW := ok_of (tb_6 (List.mem_of_getElem? (i := 234) rfl)) rfl
theorem wIM_X10_settles : Cond.instanceMethod yX10_settles ∈ okW := ok_of (tb_6 (List.mem_of_getElem? (i := 236) rfl)) rfl
theorem wCD_X10_settles : Cond.code yX10_settles cX10_settles 2 none ∈ okW := ok_of (tb_6 (List.mem_of_getElem? (i := 237) rfl)) rfl
theorem wM_L_51 : Cond.methodLink RL 51 yX10_fault ∈ okW := ok_of (tb_6 (List.mem_of_getElem? (i := 238) rfl)) rfl
theorem wIM_X10_fault : Cond.instanceMethod yX10_fault ∈ okW := ok_of (tb_6 (List.mem_of_getElem? (i := 239) rfl)) rfl
theorem wSE_X10_fault : Cond.selects yX10_fault.cls yX10_fault yX10_fault ∈ okW := ok_of (tb_7 (List.mem_of_getElem? (i := 0) rfl)) rfl
theorem wCD_X10_fault : Cond.code yX10_fault cX10_fault 2 (some .int) ∈ okW := ok_of (tb_7 (List.mem_of_getElem? (i := 1) rfl)) rfl
theorem wM_L_55 : Cond.methodLink RL 55 yX10_force ∈ okW := ok_of (tb_7 (List.mem_of_getElem? (i := 2) rfl)) rfl
theorem wIM_X10_force : Cond.instanceMethod yX10_force ∈ okW := ok_of (tb_7 (List.mem_of_getElem? (i := 3) rfl)) rfl
theorem wSE_X10_force : Cond.selects yX10_force.cls yX10_force yX10_force ∈ okW := ok_of (tb_7 (List.mem_of_getElem? (i := 4) rfl)) rfl
theorem wCD_X10_force : Cond.code yX10_force cX10_force 3 (some .int) ∈ okW := ok_of (tb_7 (List.mem_of_getElem? (i := 5) rfl)) rfl
theorem wM_X10_328 : Cond.methodLink RX10 328 yX10_isLaw ∈ okW := ok_of (tb_7 (List.mem_of_getElem? (i := 6) rfl)) rfl
theorem wIM_X10_isLaw : Cond.instanceMethod yX10_isLaw ∈ okW := ok_of (tb_7 (List.mem_of_getElem? (i := 8) rfl)) rfl
theorem wCD_X10_isLaw : Cond.code yX10_isLaw cX10_isLaw 2 (some .boolean) ∈ okW := ok_of (tb_7 (List.mem_of_getElem? (i := 9) rfl)) rfl
theorem wM_L_59 : Cond.methodLink RL 59 yX10_tells ∈ okW := ok_of (tb_7 (List.mem_of_getElem? (i := 10) rfl)) rfl
theorem wIM_X10_tells : Cond.instanceMethod yX10_tells ∈ okW := ok_of (tb_7 (List.mem_of_getElem? (i := 11) rfl)) rfl
theorem wSE_X10_tells : Cond.selects yX10_tells.cls yX10_tells yX10_tells ∈ okW := ok_of (tb_7 (List.mem_of_getElem? (i := 12) rfl)) rfl
theorem wCD_X10_tells : Cond.code yX10_tells cX10_tells 6 (some .int) ∈ okW := ok_of (tb_7 (List.mem_of_getElem? (i := 13) rfl)) rfl
theorem wM_X10_331 : Cond.methodLink RX10 331 yX10_isTone ∈ okW := ok_of (tb_7 (List.mem_of_getElem? (i := 14) rfl)) rfl
theorem wIM_X10_isTone : Cond.instanceMethod yX10_isTone ∈ okW := ok_of (tb_7 (List.mem_of_getElem? (i := 16) rfl)) rfl
theorem wCD_X10_isTone : Cond.code yX10_isTone cX10_isTone 2 (some .boolean) ∈ okW := ok_of (tb_7 (List.mem_of_getElem? (i := 17) rfl)) rfl
theorem wK_X10_334 : Cond.constant RX10 334 (-100000) ∈ okW := ok_of (tb_7 (List.mem_of_getElem? (i := 18) rfl)) rfl
theorem wM_X10_316 : Cond.methodLink RX10 316 yX10_asksSlice ∈ okW := ok_of (tb_7 (List.mem_of_getElem? (i := 19) rfl)) rfl
theorem wIM_X10_asksSlice : Cond.instanceMethod yX10_asksSlice ∈ okW := ok_of (tb_7 (List.mem_of_getElem? (i := 21) rfl)) rfl
theorem wCD_X10_asksSlice : Cond.code yX10_asksSlice cX10_asksSlice 3 none ∈ okW := ok_of (tb_7 (List.mem_of_getElem? (i := 22) rfl)) rfl
theorem wM_X10_312 : Cond.methodLink RX10 312 yX10_asks ∈ okW := ok_of (tb_7 (List.mem_of_getElem? (i := 23) rfl)) rfl
theorem wIM_X10_asks : Cond.instanceMethod yX10_asks ∈ okW := ok_of (tb_7 (List.mem_of_getElem? (i := 25) rfl)) rfl
theorem wCD_X10_asks : Cond.code yX10_asks cX10_asks 8 none ∈ okW := ok_of (tb_7 (List.mem_of_getElem? (i := 26) rfl)) rfl
theorem wM_X10_309 : Cond.methodLink RX10 309 yX10_size ∈ okW := ok_of (tb_7 (List.mem_of_getElem? (i := 27) rfl)) rfl
theorem wIM_X10_size : Cond.instanceMethod yX10_size ∈ okW := ok_of (tb_7 (List.mem_of_getElem? (i := 29) rfl)) rfl
theorem wCD_X10_size : Cond.code yX10_size cX10_size 2 (some .int) ∈ okW := ok_of (tb_7 (List.mem_of_getElem? (i := 30) rfl)) rfl
theorem wM_X10_319 : Cond.methodLink RX10 319 yX10_tellsBy ∈ okW := ok_of (tb_7 (List.mem_of_getElem? (i := 31) rfl)) rfl
theorem wIM_X10_tellsBy : Cond.instanceMethod yX10_tellsBy ∈ okW := ok_of (tb_7 (List.mem_of_getElem? (i := 33) rfl)) rfl
theorem wCD_X10_tellsBy : Cond.code yX10_tellsBy cX10_tellsBy 8 (some .int) ∈ okW := ok_of (tb_7 (List.mem_of_getElem? (i := 34) rfl)) rfl
theorem wM_X10_305 : Cond.methodLink RX10 305 yX10_isSo ∈ okW := ok_of (tb_7 (List.mem_of_getElem? (i := 35) rfl)) rfl
theorem wIM_X10_isSo : Cond.instanceMethod yX10_isSo ∈ okW := ok_of (tb_7 (List.mem_of_getElem? (i := 37) rfl)) rfl
theorem wCD_X10_isSo : Cond.code yX10_isSo cX10_isSo 3 (some .boolean) ∈ okW := ok_of (tb_7 (List.mem_of_getElem? (i := 38) rfl)) rfl
theorem wM_X10_302 : Cond.methodLink RX10 302 yX10_worth ∈ okW := ok_of (tb_7 (List.mem_of_getElem? (i := 39) rfl)) rfl
theorem wIM_X10_worth : Cond.instanceMethod yX10_worth ∈ okW := ok_of (tb_7 (List.mem_of_getElem? (i := 41) rfl)) rfl
theorem wCD_X10_worth : Cond.code yX10_worth cX10_worth 6 (some .int) ∈ okW := ok_of (tb_7 (List.mem_of_getElem? (i := 42) rfl)) rfl
theorem wM_X10_298 : Cond.methodLink RX10 298 yX10_twoOf ∈ okW := ok_of (tb_7 (List.mem_of_getElem? (i := 43) rfl)) rfl
theorem wIM_X10_twoOf : Cond.instanceMethod yX10_twoOf ∈ okW := ok_of (tb_7 (List.mem_of_getElem? (i := 45) rfl)) rfl
theorem wCD_X10_twoOf : Cond.code yX10_twoOf cX10_twoOf 4 (some .int) ∈ okW := ok_of (tb_7 (List.mem_of_getElem? (i := 46) rfl)) rfl
theorem wK_X10_308 : Cond.constant RX10 308 (99999) ∈ okW := ok_of (tb_7 (List.mem_of_getElem? (i := 47) rfl)) rfl
theorem wM_L_63 : Cond.methodLink RL 63 yX10_tone ∈ okW := ok_of (tb_7 (List.mem_of_getElem? (i := 48) rfl)) rfl
theorem wIM_X10_tone : Cond.instanceMethod yX10_tone ∈ okW := ok_of (tb_7 (List.mem_of_getElem? (i := 49) rfl)) rfl
theorem wSE_X10_tone : Cond.selects yX10_tone.cls yX10_tone yX10_tone ∈ okW := ok_of (tb_7 (List.mem_of_getElem? (i := 50) rfl)) rfl
theorem wCD_X10_tone : Cond.code yX10_tone cX10_tone 3 (some .int) ∈ okW := ok_of (tb_7 (List.mem_of_getElem? (i := 51) rfl)) rfl
theorem wM_X10_335 : Cond.methodLink RX10 335 yX10_toneNow ∈ okW := ok_of (tb_7 (List.mem_of_getElem? (i := 52) rfl)) rfl
theorem wIM_X10_toneNow : Cond.instanceMethod yX10_toneNow ∈ okW := ok_of (tb_7 (List.mem_of_getElem? (i := 54) rfl)) rfl
theorem wCD_X10_toneNow : Cond.code yX10_toneNow cX10_toneNow 3 (some .int) ∈ okW := ok_of (tb_7 (List.mem_of_getElem? (i := 55) rfl)) rfl
theorem wM_X10_325 : Cond.methodLink RX10 325 yX10_toneBy ∈ okW := ok_of (tb_7 (List.mem_of_getElem? (i := 56) rfl)) rfl
theorem wIM_X10_toneBy : Cond.instanceMethod yX10_toneBy ∈ okW := ok_of (tb_7 (List.mem_of_getElem? (i := 58) rfl)) rfl
theorem wCD_X10_toneBy : Cond.code yX10_toneBy cX10_toneBy 7 (some .int) ∈ okW := ok_of (tb_7 (List.mem_of_getElem? (i := 59) rfl)) rfl
theorem wM_L_67 : Cond.methodLink RL 67 yX10_shave ∈ okW := ok_of (tb_7 (List.mem_of_getElem? (i := 60) rfl)) rfl
theorem wIM_X10_shave : Cond.instanceMethod yX10_shave ∈ okW := ok_of (tb_7 (List.mem_of_getElem? (i := 61) rfl)) rfl
theorem wSE_X10_shave : Cond.selects yX10_shave.cls yX10_shave yX10_shave ∈ okW := ok_of (tb_7 (List.mem_of_getElem? (i := 62) rfl)) rfl
theorem wCD_X10_shave : Cond.code yX10_shave cX10_shave 4 (some .int) ∈ okW := ok_of (tb_7 (List.mem_of_getElem? (i := 63) rfl)) rfl
theorem wM_X10_341 : Cond.methodLink RX10 341 yX10_canPass ∈ okW := ok_of (tb_7 (List.mem_of_getElem? (i := 64) rfl)) rfl
theorem wIM_X10_canPass : Cond.instanceMethod yX10_canPass ∈ okW := ok_of (tb_7 (List.mem_of_getElem? (i := 66) rfl)) rfl
theorem wCD_X10_canPass : Cond.code yX10_canPass cX10_canPass 4 (some .boolean) ∈ okW := ok_of (tb_7 (List.mem_of_getElem? (i := 67) rfl)) rfl
theorem wM_X10_344 : Cond.methodLink RX10 344 yX10_takesOff ∈ okW := ok_of (tb_7 (List.mem_of_getElem? (i := 68) rfl)) rfl
theorem wIM_X10_takesOff : Cond.instanceMethod yX10_takesOff ∈ okW := ok_of (tb_7 (List.mem_of_getElem? (i := 70) rfl)) rfl
theorem wCD_X10_takesOff : Cond.code yX10_takesOff cX10_takesOff 4 none ∈ okW := ok_of (tb_7 (List.mem_of_getElem? (i := 71) rfl)) rfl
theorem wM_X10_338 : Cond.methodLink RX10 338 yX10_isLost ∈ okW := ok_of (tb_7 (List.mem_of_getElem? (i := 72) rfl)) rfl
theorem wIM_X10_isLost : Cond.instanceMethod yX10_isLost ∈ okW := ok_of (tb_7 (List.mem_of_getElem? (i := 74) rfl)) rfl
theorem wCD_X10_isLost : Cond.code yX10_isLost cX10_isLost 3 (some .boolean) ∈ okW := ok_of (tb_7 (List.mem_of_getElem? (i := 75) rfl)) rfl
theorem wM_L_71 : Cond.methodLink RL 71 yX10_pass ∈ okW := ok_of (tb_7 (List.mem_of_getElem? (i := 76) rfl)) rfl
theorem wIM_X10_pass : Cond.instanceMethod yX10_pass ∈ okW := ok_of (tb_7 (List.mem_of_getElem? (i := 77) rfl)) rfl
theorem wSE_X10_pass : Cond.selects yX10_pass.cls yX10_pass yX10_pass ∈ okW := ok_of (tb_7 (List.mem_of_getElem? (i := 78) rfl)) rfl
theorem wCD_X10_pass : Cond.code yX10_pass cX10_pass 4 (some .int) ∈ okW := ok_of (tb_7 (List.mem_of_getElem? (i := 79) rfl)) rfl
theorem wM_L_75 : Cond.methodLink RL 75 yX10_goal ∈ okW := ok_of (tb_7 (List.mem_of_getElem? (i := 80) rfl)) rfl
theorem wIM_X10_goal : Cond.instanceMethod yX10_goal ∈ okW := ok_of (tb_7 (List.mem_of_getElem? (i := 81) rfl)) rfl
theorem wSE_X10_goal : Cond.selects yX10_goal.cls yX10_goal yX10_goal ∈ okW := ok_of (tb_7 (List.mem_of_getElem? (i := 82) rfl)) rfl
theorem wCD_X10_goal : Cond.code yX10_goal cX10_goal 4 (some .boolean) ∈ okW := ok_of (tb_7 (List.mem_of_getElem? (i := 83) rfl)) rfl
theorem wK_X10_348 : Cond.constant RX10 348 (999999) ∈ okW := ok_of (tb_7 (List.mem_of_getElem? (i := 84) rfl)) rfl
theorem wM_L_79 : Cond.methodLink RL 79 yX10_slack ∈ okW := ok_of (tb_7 (List.mem_of_getElem? (i := 85) rfl)) rfl
theorem wIM_X10_slack : Cond.instanceMethod yX10_slack ∈ okW := ok_of (tb_7 (List.mem_of_getElem? (i := 86) rfl)) rfl
theorem wSE_X10_slack : Cond.selects yX10_slack.cls yX10_slack yX10_slack ∈ okW := ok_of (tb_7 (List.mem_of_getElem? (i := 87) rfl)) rfl
theorem wCD_X10_slack : Cond.code yX10_slack cX10_slack 2 (some .boolean) ∈ okW := ok_of (tb_7 (List.mem_of_getElem? (i := 88) rfl)) rfl
theorem wM_L_87 : Cond.methodLink RL 87 yX10_takes ∈ okW := ok_of (tb_7 (List.mem_of_getElem? (i := 89) rfl)) rfl
theorem wIM_X10_takes : Cond.instanceMethod yX10_takes ∈ okW := ok_of (tb_7 (List.mem_of_getElem? (i := 90) rfl)) rfl
theorem wSE_X10_takes : Cond.selects yX10_takes.cls yX10_takes yX10_takes ∈ okW := ok_of (tb_7 (List.mem_of_getElem? (i := 91) rfl)) rfl
theorem wCD_X10_takes : Cond.code yX10_takes cX10_takes 6 (some .int) ∈ okW := ok_of (tb_7 (List.mem_of_getElem? (i := 92) rfl)) rfl
theorem wK_X10_349 : Cond.constant RX10 349 (-10000000) ∈ okW := ok_of (tb_7 (List.mem_of_getElem? (i := 93) rfl)) rfl
theorem wM_L_91 : Cond.methodLink RL 91 yX10_job ∈ okW := ok_of (tb_7 (List.mem_of_getElem? (i := 94) rfl)) rfl
theorem wIM_X10_job : Cond.instanceMethod yX10_job ∈ okW := ok_of (tb_7 (List.mem_of_getElem? (i := 95) rfl)) rfl
theorem wSE_X10_job : Cond.selects yX10_job.cls yX10_job yX10_job ∈ okW := ok_of (tb_7 (List.mem_of_getElem? (i := 96) rfl)) rfl
theorem wCD_X10_job : Cond.code yX10_job cX10_job 6 (some .int) ∈ okW := ok_of (tb_7 (List.mem_of_getElem? (i := 97) rfl)) rfl
theorem wM_X10_350 : Cond.methodLink RX10 350 yX10_asksJob ∈ okW := ok_of (tb_7 (List.mem_of_getElem? (i := 98) rfl)) rfl
theorem wIM_X10_asksJob : Cond.instanceMethod yX10_asksJob ∈ okW := ok_of (tb_7 (List.mem_of_getElem? (i := 100) rfl)) rfl
theorem wCD_X10_asksJob : Cond.code yX10_asksJob cX10_asksJob 6 none ∈ okW := ok_of (tb_7 (List.mem_of_getElem? (i := 101) rfl)) rfl
theorem wM_X10_353 : Cond.methodLink RX10 353 yX10_doesLine ∈ okW := ok_of (tb_7 (List.mem_of_getElem? (i := 102) rfl)) rfl
theorem wIM_X10_doesLine : Cond.instanceMethod yX10_doesLine ∈ okW := ok_of (tb_7 (List.mem_of_getElem? (i := 104) rfl)) rfl
theorem wCD_X10_doesLine : Cond.code yX10_doesLine cX10_doesLine 7 none ∈ okW := ok_of (tb_7 (List.mem_of_getElem? (i := 105) rfl)) rfl
theorem wM_L_95 : Cond.methodLink RL 95 yX10_fewest ∈ okW := ok_of (tb_7 (List.mem_of_getElem? (i := 106) rfl)) rfl
theorem wIM_X10_fewest : Cond.instanceMethod yX10_fewest ∈ okW := ok_of (tb_7 (List.mem_of_getElem? (i := 107) rfl)) rfl
theorem wSE_X10_fewest : Cond.selects yX10_fewest.cls yX10_fewest yX10_fewest ∈ okW := ok_of (tb_7 (List.mem_of_getElem? (i := 108) rfl)) rfl
theorem wCD_X10_fewest : Cond.code yX10_fewest cX10_fewest 4 (some .int) ∈ okW := ok_of (tb_7 (List.mem_of_getElem? (i := 109) rfl)) rfl
theorem wM_X10_371 : Cond.methodLink RX10 371 yX10_findsFewest ∈ okW := ok_of (tb_7 (List.mem_of_getElem? (i := 110) rfl)) rfl
theorem wIM_X10_findsFewest : Cond.instanceMethod yX10_findsFewest ∈ okW := ok_of (tb_7 (List.mem_of_getElem? (i := 112) rfl)) rfl
theorem wCD_X10_findsFewest : Cond.code yX10_findsFewest cX10_findsFewest 4 (some .int) ∈ okW := ok_of (tb_7 (List.mem_of_getElem? (i := 113) rfl)) rfl
theorem wM_X10_362 : Cond.methodLink RX10 362 yX10_findsTable ∈ okW := ok_of (tb_7 (List.mem_of_getElem? (i := 114) rfl)) rfl
theorem wIM_X10_findsTable : Cond.instanceMethod yX10_findsTable ∈ okW := ok_of (tb_7 (List.mem_of_getElem? (i := 116) rfl)) rfl
theorem wCD_X10_findsTable : Cond.code yX10_findsTable cX10_findsTable 6 none ∈ okW := ok_of (tb_7 (List.mem_of_getElem? (i := 117) rfl)) rfl
theorem wM_X10_365 : Cond.methodLink RX10 365 yX10_does ∈ okW := ok_of (tb_7 (List.mem_of_getElem? (i := 118) rfl)) rfl
theorem wIM_X10_does : Cond.instanceMethod yX10_does ∈ okW := ok_of (tb_7 (List.mem_of_getElem? (i := 120) rfl)) rfl
theorem wCD_X10_does : Cond.code yX10_does cX10_does 6 (some .boolean) ∈ okW := ok_of (tb_7 (List.mem_of_getElem? (i := 121) rfl)) rfl
theorem wM_X10_359 : Cond.methodLink RX10 359 yX10_wouldBe ∈ okW := ok_of (tb_7 (List.mem_of_getElem? (i := 122) rfl)) rfl
theorem wIM_X10_wouldBe : Cond.instanceMethod yX10_wouldBe ∈ okW := ok_of (tb_7 (List.mem_of_getElem? (i := 124) rfl)) rfl
theorem wCD_X10_wouldBe : Cond.code yX10_wouldBe cX10_wouldBe 6 (some .int) ∈ okW := ok_of (tb_7 (List.mem_of_getElem? (i := 125) rfl)) rfl
theorem wM_X10_356 : Cond.methodLink RX10 356 yX10_toneByTable ∈ okW := ok_of (tb_7 (List.mem_of_getElem? (i := 126) rfl)) rfl
theorem wIM_X10_toneByTable : Cond.instanceMethod yX10_toneByTable ∈ okW := ok_of (tb_7 (List.mem_of_getElem? (i := 128) rfl)) rfl
theorem wCD_X10_toneByTable : Cond.code yX10_toneByTable cX10_toneByTable 6 (some .int) ∈ okW := ok_of (tb_7 (List.mem_of_getElem? (i := 129) rfl)) rfl
theorem wM_X10_368 : Cond.methodLink RX10 368 yX10_goesOn ∈ okW := ok_of (tb_7 (List.mem_of_getElem? (i := 130) rfl)) rfl
theorem wIM_X10_goesOn : Cond.instanceMethod yX10_goesOn ∈ okW := ok_of (tb_7 (List.mem_of_getElem? (i := 132) rfl)) rfl
theorem wCD_X10_goesOn : Cond.code yX10_goesOn cX10_goesOn 4 (some .boolean) ∈ okW := ok_of (tb_7 (List.mem_of_getElem? (i := 133) rfl)) rfl
theorem wM_L_99 : Cond.methodLink RL 99 yX10_tap ∈ okW := ok_of (tb_7 (List.mem_of_getElem? (i := 134) rfl)) rfl
theorem wIM_X10_tap : Cond.instanceMethod yX10_tap ∈ okW := ok_of (tb_7 (List.mem_of_getElem? (i := 135) rfl)) rfl
theorem wSE_X10_tap : Cond.selects yX10_tap.cls yX10_tap yX10_tap ∈ okW := ok_of (tb_7 (List.mem_of_getElem? (i := 136) rfl)) rfl
theorem wCD_X10_tap : Cond.code yX10_tap cX10_tap 6 (some .int) ∈ okW := ok_of (tb_7 (List.mem_of_getElem? (i := 137) rfl)) rfl
theorem wK_X10_374 : Cond.constant RX10 374 (9999999) ∈ okW := ok_of (tb_7 (List.mem_of_getElem? (i := 138) rfl)) rfl
theorem wM_L_104 : Cond.methodLink RL 104 yX10_fits ∈ okW := ok_of (tb_7 (List.mem_of_getElem? (i := 139) rfl)) rfl
theorem wIM_X10_fits : Cond.instanceMethod yX10_fits ∈ okW := ok_of (tb_7 (List.mem_of_getElem? (i := 140) rfl)) rfl
theorem wSE_X10_fits : Cond.selects yX10_fits.cls yX10_fits yX10_fits ∈ okW := ok_of (tb_7 (List.mem_of_getElem? (i := 141) rfl)) rfl
theorem wCD_X10_fits : Cond.code yX10_fits cX10_fits 5 (some .int) ∈ okW := ok_of (tb_7 (List.mem_of_getElem? (i := 142) rfl)) rfl
theorem wM_X10_387 : Cond.methodLink RX10 387 yX10_findsFits ∈ okW := ok_of (tb_7 (List.mem_of_getElem? (i := 143) rfl)) rfl
theorem wIM_X10_findsFits : Cond.instanceMethod yX10_findsFits ∈ okW := ok_of (tb_7 (List.mem_of_getElem? (i := 145) rfl)) rfl
theorem wCD_X10_findsFits : Cond.code yX10_findsFits cX10_findsFits 7 none ∈ okW := ok_of (tb_7 (List.mem_of_getElem? (i := 146) rfl)) rfl
theorem wM_X10_381 : Cond.methodLink RX10 381 yX10_fitsAll ∈ okW := ok_of (tb_7 (List.mem_of_getElem? (i := 147) rfl)) rfl
theorem wIM_X10_fitsAll : Cond.instanceMethod yX10_fitsAll ∈ okW := ok_of (tb_7 (List.mem_of_getElem? (i := 149) rfl)) rfl
theorem wCD_X10_fitsAll : Cond.code yX10_fitsAll cX10_fitsAll 4 (some .boolean) ∈ okW := ok_of (tb_7 (List.mem_of_getElem? (i := 150) rfl)) rfl
theorem wM_X10_375 : Cond.methodLink RX10 375 yX10_toneOf ∈ okW := ok_of (tb_7 (List.mem_of_getElem? (i := 151) rfl)) rfl
theorem wIM_X10_toneOf : Cond.instanceMethod yX10_toneOf ∈ okW := ok_of (tb_7 (List.mem_of_getElem? (i := 153) rfl)) rfl
theorem wCD_X10_toneOf : Cond.code yX10_toneOf cX10_toneOf 7 (some .int) ∈ okW := ok_of (tb_7 (List.mem_of_getElem? (i := 154) rfl)) rfl
theorem wM_X10_390 : Cond.methodLink RX10 390 yX10_nextPass ∈ okW := ok_of (tb_7 (List.mem_of_getElem? (i := 155) rfl)) rfl
theorem wIM_X10_nextPass : Cond.instanceMethod yX10_nextPass ∈ okW := ok_of (tb_7 (List.mem_of_getElem? (i := 157) rfl)) rfl
theorem wCD_X10_nextPass : Cond.code yX10_nextPass cX10_nextPass 6 (some .int) ∈ okW := ok_of (tb_7 (List.mem_of_getElem? (i := 158) rfl)) rfl
theorem wM_X10_384 : Cond.methodLink RX10 384 yX10_unlikeBy ∈ okW := ok_of (tb_7 (List.mem_of_getElem? (i := 159) rfl)) rfl
theorem wIM_X10_unlikeBy : Cond.instanceMethod yX10_unlikeBy ∈ okW := ok_of (tb_7 (List.mem_of_getElem? (i := 161) rfl)) rfl
theorem wCD_X10_unlikeBy : Cond.code yX10_unlikeBy cX10_unlikeBy 8 (some .int) ∈ okW := ok_of (tb_7 (List.mem_of_getElem? (i := 162) rfl)) rfl
theorem wM_X10_393 : Cond.methodLink RX10 393 yX10_sureOf ∈ okW := ok_of (tb_7 (List.mem_of_getElem? (i := 163) rfl)) rfl
theorem wIM_X10_sureOf : Cond.instanceMethod yX10_sureOf ∈ okW := ok_of (tb_7 (List.mem_of_getElem? (i := 165) rfl)) rfl
theorem wCD_X10_sureOf : Cond.code yX10_sureOf cX10_sureOf 3 (some .int) ∈ okW := ok_of (tb_7 (List.mem_of_getElem? (i := 166) rfl)) rfl
theorem wM_L_108 : Cond.methodLink RL 108 yX10_off ∈ okW := ok_of (tb_7 (List.mem_of_getElem? (i := 167) rfl)) rfl
theorem wIM_X10_off : Cond.instanceMethod yX10_off ∈ okW := ok_of (tb_7 (List.mem_of_getElem? (i := 168) rfl)) rfl
theorem wSE_X10_off : Cond.selects yX10_off.cls yX10_off yX10_off ∈ okW := ok_of (tb_7 (List.mem_of_getElem? (i := 169) rfl)) rfl
theorem wCD_X10_off : Cond.code yX10_off cX10_off 2 (some .int) ∈ okW := ok_of (tb_7 (List.mem_of_getElem? (i := 170) rfl)) rfl
theorem wM_X10_399 : Cond.methodLink RX10 399 yX10_offOf ∈ okW := ok_of (tb_7 (List.mem_of_getElem? (i := 171) rfl)) rfl
theorem wIM_X10_offOf : Cond.instanceMethod yX10_offOf ∈ okW := ok_of (tb_7 (List.mem_of_getElem? (i := 173) rfl)) rfl
theorem wCD_X10_offOf : Cond.code yX10_offOf cX10_offOf 6 (some .int) ∈ okW := ok_of (tb_7 (List.mem_of_getElem? (i := 174) rfl)) rfl
theorem wK_X10_396 : Cond.constantLong RX10 396 (999999999) ∈ okW := ok_of (tb_7 (List.mem_of_getElem? (i := 175) rfl)) rfl
theorem wK_X10_398 : Cond.constant RX10 398 (999999999) ∈ okW := ok_of (tb_7 (List.mem_of_getElem? (i := 176) rfl)) rfl
theorem wM_L_112 : Cond.methodLink RL 112 yX10_still ∈ okW := ok_of (tb_7 (List.mem_of_getElem? (i := 177) rfl)) rfl
theorem wIM_X10_still : Cond.instanceMethod yX10_still ∈ okW := ok_of (tb_7 (List.mem_of_getElem? (i := 178) rfl)) rfl
theorem wSE_X10_still : Cond.selects yX10_still.cls yX10_still yX10_still ∈ okW := ok_of (tb_7 (List.mem_of_getElem? (i := 179) rfl)) rfl
theorem wCD_X10_still : Cond.code yX10_still cX10_still 4 (some .int) ∈ okW := ok_of (tb_7 (List.mem_of_getElem? (i := 180) rfl)) rfl
theorem wM_X10_408 : Cond.methodLink RX10 408 yX10_stills ∈ okW := ok_of (tb_7 (List.mem_of_getElem? (i := 181) rfl)) rfl
theorem wIM_X10_stills : Cond.instanceMethod yX10_stills ∈ okW := ok_of (tb_7 (List.mem_of_getElem? (i := 183) rfl)) rfl
theorem wCD_X10_stills : Cond.code yX10_stills cX10_stills 5 (some .int) ∈ okW := ok_of (tb_7 (List.mem_of_getElem? (i := 184) rfl)) rfl
theorem wM_X10_405 : Cond.methodLink RX10 405 yX10_isStill ∈ okW := ok_of (tb_7 (List.mem_of_getElem? (i := 185) rfl)) rfl
theorem wIM_X10_isStill : Cond.instanceMethod yX10_isStill ∈ okW := ok_of (tb_7 (List.mem_of_getElem? (i := 187) rfl)) rfl
theorem wCD_X10_isStill : Cond.code yX10_isStill cX10_isStill 4 (some .boolean) ∈ okW := ok_of (tb_7 (List.mem_of_getElem? (i := 188) rfl)) rfl
theorem wM_X10_402 : Cond.methodLink RX10 402 yX10_sways ∈ okW := ok_of (tb_7 (List.mem_of_getElem? (i := 189) rfl)) rfl
theorem wIM_X10_sways : Cond.instanceMethod yX10_sways ∈ okW := ok_of (tb_7 (List.mem_of_getElem? (i := 191) rfl)) rfl
theorem wCD_X10_sways : Cond.code yX10_sways cX10_sways 4 (some .boolean) ∈ okW := ok_of (tb_7 (List.mem_of_getElem? (i := 192) rfl)) rfl
theorem wM_X10_411 : Cond.methodLink RX10 411 yX10_stillAt ∈ okW := ok_of (tb_7 (List.mem_of_getElem? (i := 193) rfl)) rfl
theorem wIM_X10_stillAt : Cond.instanceMethod yX10_stillAt ∈ okW := ok_of (tb_7 (List.mem_of_getElem? (i := 195) rfl)) rfl
theorem wCD_X10_stillAt : Cond.code yX10_stillAt cX10_stillAt 6 (some .int) ∈ okW := ok_of (tb_7 (List.mem_of_getElem? (i := 196) rfl)) rfl
theorem wM_L_116 : Cond.methodLink RL 116 yX10_holes ∈ okW := ok_of (tb_7 (List.mem_of_getElem? (i := 197) rfl)) rfl
theorem wIM_X10_holes : Cond.instanceMethod yX10_holes ∈ okW := ok_of (tb_7 (List.mem_of_getElem? (i := 198) rfl)) rfl
theorem wSE_X10_holes : Cond.selects yX10_holes.cls yX10_holes yX10_holes ∈ okW := ok_of (tb_7 (List.mem_of_getElem? (i := 199) rfl)) rfl
theorem wCD_X10_holes : Cond.code yX10_holes cX10_holes 4 (some .boolean) ∈ okW := ok_of (tb_7 (List.mem_of_getElem? (i := 200) rfl)) rfl
theorem wM_L_83 : Cond.methodLink RL 83 yX10_state ∈ okW := ok_of (tb_7 (List.mem_of_getElem? (i := 201) rfl)) rfl
theorem wIM_X10_state : Cond.instanceMethod yX10_state ∈ okW := ok_of (tb_7 (List.mem_of_getElem? (i := 202) rfl)) rfl
theorem wSE_X10_state : Cond.selects yX10_state.cls yX10_state yX10_state ∈ okW := ok_of (tb_7 (List.mem_of_getElem? (i := 203) rfl)) rfl
theorem wCD_X10_state : Cond.code yX10_state cX10_state 3 (some .int) ∈ okW := ok_of (tb_7 (List.mem_of_getElem? (i := 204) rfl)) rfl
theorem wM_X10_414 : Cond.methodLink RX10 414 yX10_isTrue ∈ okW := ok_of (tb_7 (List.mem_of_getElem? (i := 205) rfl)) rfl
theorem wIM_X10_isTrue : Cond.instanceMethod yX10_isTrue ∈ okW := ok_of (tb_7 (List.mem_of_getElem? (i := 207) rfl)) rfl
theorem wCD_X10_isTrue : Cond.code yX10_isTrue cX10_isTrue 3 (some .boolean) ∈ okW := ok_of (tb_7 (List.mem_of_getElem? (i := 208) rfl)) rfl
theorem wM_X10_417 : Cond.methodLink RX10 417 yX10_amiss ∈ okW := ok_of (tb_7 (List.mem_of_getElem? (i := 209) rfl)) rfl
theorem wIM_X10_amiss : Cond.instanceMethod yX10_amiss ∈ okW := ok_of (tb_7 (List.mem_of_getElem? (i := 211) rfl)) rfl
theorem wCD_X10_amiss : Cond.code yX10_amiss cX10_amiss 3 (some .int) ∈ okW := ok_of (tb_7 (List.mem_of_getElem? (i := 212) rfl)) rfl
theorem wM_L_120 : Cond.methodLink RL 120 yX10_tube ∈ okW := ok_of (tb_7 (List.mem_of_getElem? (i := 213) rfl)) rfl
theorem wIM_X10_tube : Cond.instanceMethod yX10_tube ∈ okW := ok_of (tb_7 (List.mem_of_getElem? (i := 214) rfl)) rfl
theorem wSE_X10_tube : Cond.selects yX10_tube.cls yX10_tube yX10_tube ∈ okW := ok_of (tb_7 (List.mem_of_getElem? (i := 215) rfl)) rfl
theorem wCD_X10_tube : Cond.code yX10_tube cX10_tube 4 (some .boolean) ∈ okW := ok_of (tb_7 (List.mem_of_getElem? (i := 216) rfl)) rfl
theorem wM_L_124 : Cond.methodLink RL 124 yX10_in ∈ okW := ok_of (tb_7 (List.mem_of_getElem? (i := 217) rfl)) rfl
theorem wIM_X10_in : Cond.instanceMethod yX10_in ∈ okW := ok_of (tb_7 (List.mem_of_getElem? (i := 218) rfl)) rfl
theorem wSE_X10_in : Cond.selects yX10_in.cls yX10_in yX10_in ∈ okW := ok_of (tb_7 (List.mem_of_getElem? (i := 219) rfl)) rfl
theorem wCD_X10_in : Cond.code yX10_in cX10_in 8 (some .int) ∈ okW := ok_of (tb_7 (List.mem_of_getElem? (i := 220) rfl)) rfl
theorem wM_X10_428 : Cond.methodLink RX10 428 yX10_isHeat ∈ okW := ok_of (tb_7 (List.mem_of_getElem? (i := 221) rfl)) rfl
theorem wIM_X10_isHeat : Cond.instanceMethod yX10_isHeat ∈ okW := ok_of (tb_7 (List.mem_of_getElem? (i := 223) rfl)) rfl
theorem wCD_X10_isHeat : Cond.code yX10_isHeat cX10_isHeat 2 (some .boolean) ∈ okW := ok_of (tb_7 (List.mem_of_getElem? (i := 224) rfl)) rfl
theorem wM_X10_431 : Cond.methodLink RX10 431 yX10_isWet ∈ okW := ok_of (tb_7 (List.mem_of_getElem? (i := 225) rfl)) rfl
theorem wIM_X10_isWet : Cond.instanceMethod yX10_isWet ∈ okW := ok_of (tb_7 (List.mem_of_getElem? (i := 227) rfl)) rfl
theorem wCD_X10_isWet : Cond.code yX10_isWet cX10_isWet 2 (some .boolean) ∈ okW := ok_of (tb_7 (List.mem_of_getElem? (i := 228) rfl)) rfl
theorem wM_X10_434 : Cond.methodLink RX10 434 yX10_beatOf ∈ okW := ok_of (tb_7 (List.mem_of_getElem? (i := 229) rfl)) rfl
theorem wIM_X10_beatOf : Cond.instanceMethod yX10_beatOf ∈ okW := ok_of (tb_7 (List.mem_of_getElem? (i := 231) rfl)) rfl
theorem wCD_X10_beatOf : Cond.code yX10_beatOf cX10_beatOf 5 (some .int) ∈ okW := ok_of (tb_7 (List.mem_of_getElem? (i := 232) rfl)) rfl
theorem wM_X10_422 : Cond.methodLink RX10 422 yX10_sounds ∈ okW := ok_of (tb_7 (List.mem_of_getElem? (i := 233) rfl)) rfl
theorem wIM_X10_sounds : Cond.instanceMethod yX10_sounds ∈ okW := ok_of (tb_7 (List.mem_of_getElem? (i := 235) rfl)) rfl
theorem wCD_X10_sounds : Cond.code yX10_sounds cX10_sounds 3 (some .int) ∈ okW := ok_of (tb_7 (List.mem_of_getElem? (i := 236) rfl)) rfl
theorem wM_X10_425 : Cond.methodLink RX10 425 yX10_drifted ∈ okW := ok_of (tb_7 (List.mem_of_getElem? (i := 237) rfl)) rfl
theorem wIM_X10_drifted : Cond.instanceMethod yX10_drifted ∈ okW := ok_of (tb_7 (List.mem_of_getElem? (i := 239) rfl)) rfl
theorem wCD_X10_drifted : Cond.code yX10_drifted cX10_drifted 8 (some .int) ∈ okW := ok_of (tb_8 (List.mem_of_getElem? (i := 0) rfl)) rfl
theorem wK_X10_420 : Cond.constantLong RX10 420 (10000) ∈ okW := ok_of (tb_8 (List.mem_of_getElem? (i := 1) rfl)) rfl
theorem wM_L_128 : Cond.methodLink RL 128 yX10_night ∈ okW := ok_of (tb_8 (List.mem_of_getElem? (i := 2) rfl)) rfl
theorem wIM_X10_night : Cond.instanceMethod yX10_night ∈ okW := ok_of (tb_8 (List.mem_of_getElem? (i := 3) rfl)) rfl
theorem wSE_X10_night : Cond.selects yX10_night.cls yX10_night yX10_night ∈ okW := ok_of (tb_8 (List.mem_of_getElem? (i := 4) rfl)) rfl
theorem wCD_X10_night : Cond.code yX10_night cX10_night 3 (some .int) ∈ okW := ok_of (tb_8 (List.mem_of_getElem? (i := 5) rfl)) rfl
theorem wM_L_132 : Cond.methodLink RL 132 yX10_nights ∈ okW := ok_of (tb_8 (List.mem_of_getElem? (i := 6) rfl)) rfl
theorem wIM_X10_nights : Cond.instanceMethod yX10_nights ∈ okW := ok_of (tb_8 (List.mem_of_getElem? (i := 7) rfl)) rfl
theorem wSE_X10_nights : Cond.selects yX10_nights.cls yX10_nights yX10_nights ∈ okW := ok_of (tb_8 (List.mem_of_getElem? (i := 8) rfl)) rfl
theorem wCD_X10_nights : Cond.code yX10_nights cX10_nights 5 (some .int) ∈ okW := ok_of (tb_8 (List.mem_of_getElem? (i := 9) rfl)) rfl
theorem wM_X10_449 : Cond.methodLink RX10 449 yX10_suits ∈ okW := ok_of (tb_8 (List.mem_of_getElem? (i := 10) rfl)) rfl
theorem wIM_X10_suits : Cond.instanceMethod yX10_suits ∈ okW := ok_of (tb_8 (List.mem_of_getElem? (i := 12) rfl)) rfl
theorem wCD_X10_suits : Cond.code yX10_suits cX10_suits 2 (some .int) ∈ okW := ok_of (tb_8 (List.mem_of_getElem? (i := 13) rfl)) rfl
theorem wM_X10_444 : Cond.methodLink RX10 444 yX10_worstBeat ∈ okW := ok_of (tb_8 (List.mem_of_getElem? (i := 14) rfl)) rfl
theorem wIM_X10_worstBeat : Cond.instanceMethod yX10_worstBeat ∈ okW := ok_of (tb_8 (List.mem_of_getElem? (i := 16) rfl)) rfl
theorem wCD_X10_worstBeat : Cond.code yX10_worstBeat cX10_worstBeat 4 (some .int) ∈ okW := ok_of (tb_8 (List.mem_of_getElem? (i := 17) rfl)) rfl
theorem wM_X10_441 : Cond.methodLink RX10 441 yX10_worstOf ∈ okW := ok_of (tb_8 (List.mem_of_getElem? (i := 18) rfl)) rfl
theorem wIM_X10_worstOf : Cond.instanceMethod yX10_worstOf ∈ okW := ok_of (tb_8 (List.mem_of_getElem? (i := 20) rfl)) rfl
theorem wCD_X10_worstOf : Cond.code yX10_worstOf cX10_worstOf 7 (some .int) ∈ okW := ok_of (tb_8 (List.mem_of_getElem? (i := 21) rfl)) rfl
theorem wM_X10_452 : Cond.methodLink RX10 452 yX10_together ∈ okW := ok_of (tb_8 (List.mem_of_getElem? (i := 22) rfl)) rfl
theorem wIM_X10_together : Cond.instanceMethod yX10_together ∈ okW := ok_of (tb_8 (List.mem_of_getElem? (i := 24) rfl)) rfl
theorem wCD_X10_together : Cond.code yX10_together cX10_together 8 (some .int) ∈ okW := ok_of (tb_8 (List.mem_of_getElem? (i := 25) rfl)) rfl
theorem wK_X10_447 : Cond.constantLong RX10 447 (1000) ∈ okW := ok_of (tb_8 (List.mem_of_getElem? (i := 26) rfl)) rfl
theorem wM_L_136 : Cond.methodLink RL 136 yX10_note ∈ okW := ok_of (tb_8 (List.mem_of_getElem? (i := 27) rfl)) rfl
theorem wIM_X10_note : Cond.instanceMethod yX10_note ∈ okW := ok_of (tb_8 (List.mem_of_getElem? (i := 28) rfl)) rfl
theorem wSE_X10_note : Cond.selects yX10_note.cls yX10_note yX10_note ∈ okW := ok_of (tb_8 (List.mem_of_getElem? (i := 29) rfl)) rfl
theorem wCD_X10_note : Cond.code yX10_note cX10_note 3 (some .int) ∈ okW := ok_of (tb_8 (List.mem_of_getElem? (i := 30) rfl)) rfl
theorem wM_L_140 : Cond.methodLink RL 140 yX10_blank ∈ okW := ok_of (tb_8 (List.mem_of_getElem? (i := 31) rfl)) rfl
theorem wIM_X10_blank : Cond.instanceMethod yX10_blank ∈ okW := ok_of (tb_8 (List.mem_of_getElem? (i := 32) rfl)) rfl
theorem wSE_X10_blank : Cond.selects yX10_blank.cls yX10_blank yX10_blank ∈ okW := ok_of (tb_8 (List.mem_of_getElem? (i := 33) rfl)) rfl
theorem wCD_X10_blank : Cond.code yX10_blank cX10_blank 3 (some .int) ∈ okW := ok_of (tb_8 (List.mem_of_getElem? (i := 34) rfl)) rfl
theorem wM_L_144 : Cond.methodLink RL 144 yX10_set ∈ okW := ok_of (tb_8 (List.mem_of_getElem? (i := 35) rfl)) rfl
theorem wIM_X10_set : Cond.instanceMethod yX10_set ∈ okW := ok_of (tb_8 (List.mem_of_getElem? (i := 36) rfl)) rfl
theorem wSE_X10_set : Cond.selects yX10_set.cls yX10_set yX10_set ∈ okW := ok_of (tb_8 (List.mem_of_getElem? (i := 37) rfl)) rfl
theorem wCD_X10_set : Cond.code yX10_set cX10_set 4 (some .int) ∈ okW := ok_of (tb_8 (List.mem_of_getElem? (i := 38) rfl)) rfl
theorem wM_X10_464 : Cond.methodLink RX10 464 yX10_leastWaste ∈ okW := ok_of (tb_8 (List.mem_of_getElem? (i := 39) rfl)) rfl
theorem wIM_X10_leastWaste : Cond.instanceMethod yX10_leastWaste ∈ okW := ok_of (tb_8 (List.mem_of_getElem? (i := 41) rfl)) rfl
theorem wCD_X10_leastWaste : Cond.code yX10_leastWaste cX10_leastWaste 6 (some .int) ∈ okW := ok_of (tb_8 (List.mem_of_getElem? (i := 42) rfl)) rfl
theorem wM_X10_461 : Cond.methodLink RX10 461 yX10_canHave ∈ okW := ok_of (tb_8 (List.mem_of_getElem? (i := 43) rfl)) rfl
theorem wIM_X10_canHave : Cond.instanceMethod yX10_canHave ∈ okW := ok_of (tb_8 (List.mem_of_getElem? (i := 45) rfl)) rfl
theorem wCD_X10_canHave : Cond.code yX10_canHave cX10_canHave 5 (some .boolean) ∈ okW := ok_of (tb_8 (List.mem_of_getElem? (i := 46) rfl)) rfl
theorem wM_L_148 : Cond.methodLink RL 148 yX10_down ∈ okW := ok_of (tb_8 (List.mem_of_getElem? (i := 47) rfl)) rfl
theorem wIM_X10_down : Cond.instanceMethod yX10_down ∈ okW := ok_of (tb_8 (List.mem_of_getElem? (i := 48) rfl)) rfl
theorem wSE_X10_down : Cond.selects yX10_down.cls yX10_down yX10_down ∈ okW := ok_of (tb_8 (List.mem_of_getElem? (i := 49) rfl)) rfl
theorem wCD_X10_down : Cond.code yX10_down cX10_down 5 (some .int) ∈ okW := ok_of (tb_8 (List.mem_of_getElem? (i := 50) rfl)) rfl
theorem wM_L_152 : Cond.methodLink RL 152 yX10_enough ∈ okW := ok_of (tb_8 (List.mem_of_getElem? (i := 51) rfl)) rfl
theorem wIM_X10_enough : Cond.instanceMethod yX10_enough ∈ okW := ok_of (tb_8 (List.mem_of_getElem? (i := 52) rfl)) rfl
theorem wSE_X10_enough : Cond.selects yX10_enough.cls yX10_enough yX10_enough ∈ okW := ok_of (tb_8 (List.mem_of_getElem? (i := 53) rfl)) rfl
theorem wCD_X10_enough : Cond.code yX10_enough cX10_enough 7 (some .int) ∈ okW := ok_of (tb_8 (List.mem_of_getElem? (i := 54) rfl)) rfl
theorem wM_L_157 : Cond.methodLink RL 157 yX10_image ∈ okW := ok_of (tb_8 (List.mem_of_getElem? (i := 55) rfl)) rfl
theorem wIM_X10_image : Cond.instanceMethod yX10_image ∈ okW := ok_of (tb_8 (List.mem_of_getElem? (i := 56) rfl)) rfl
theorem wSE_X10_image : Cond.selects yX10_image.cls yX10_image yX10_image ∈ okW := ok_of (tb_8 (List.mem_of_getElem? (i := 57) rfl)) rfl
theorem wCD_X10_image : Cond.code yX10_image cX10_image 2 (some .boolean) ∈ okW := ok_of (tb_8 (List.mem_of_getElem? (i := 58) rfl)) rfl
theorem wM_X10_473 : Cond.methodLink RX10 473 yX10_kept ∈ okW := ok_of (tb_8 (List.mem_of_getElem? (i := 59) rfl)) rfl
theorem wIM_X10_kept : Cond.instanceMethod yX10_kept ∈ okW := ok_of (tb_8 (List.mem_of_getElem? (i := 61) rfl)) rfl
theorem wCD_X10_kept : Cond.code yX10_kept cX10_kept 2 (some .int) ∈ okW := ok_of (tb_8 (List.mem_of_getElem? (i := 62) rfl)) rfl
theorem wM_X10_479 : Cond.methodLink RX10 479 yX10_keepsBars ∈ okW := ok_of (tb_8 (List.mem_of_getElem? (i := 63) rfl)) rfl
theorem wIM_X10_keepsBars : Cond.instanceMethod yX10_keepsBars ∈ okW := ok_of (tb_8 (List.mem_of_getElem? (i := 65) rfl)) rfl
theorem wCD_X10_keepsBars : Cond.code yX10_keepsBars cX10_keepsBars 2 none ∈ okW := ok_of (tb_8 (List.mem_of_getElem? (i := 66) rfl)) rfl
theorem wM_X10_482 : Cond.methodLink RX10 482 yX10_keepsTaps ∈ okW := ok_of (tb_8 (List.mem_of_getElem? (i := 67) rfl)) rfl
theorem wIM_X10_keepsTaps : Cond.instanceMethod yX10_keepsTaps ∈ okW := ok_of (tb_8 (List.mem_of_getElem? (i := 69) rfl)) rfl
theorem wCD_X10_keepsTaps : Cond.code yX10_keepsTaps cX10_keepsTaps 2 none ∈ okW := ok_of (tb_8 (List.mem_of_getElem? (i := 70) rfl)) rfl
theorem wM_X10_485 : Cond.methodLink RX10 485 yX10_keepsTexts ∈ okW := ok_of (tb_8 (List.mem_of_getElem? (i := 71) rfl)) rfl
theorem wIM_X10_keepsTexts : Cond.instanceMethod yX10_keepsTexts ∈ okW := ok_of (tb_8 (List.mem_of_getElem? (i := 73) rfl)) rfl
theorem wCD_X10_keepsTexts : Cond.code yX10_keepsTexts cX10_keepsTexts 2 none ∈ okW := ok_of (tb_8 (List.mem_of_getElem? (i := 74) rfl)) rfl
theorem wM_L_161 : Cond.methodLink RL 161 yX10_look ∈ okW := ok_of (tb_8 (List.mem_of_getElem? (i := 75) rfl)) rfl
theorem wIM_X10_look : Cond.instanceMethod yX10_look ∈ okW := ok_of (tb_8 (List.mem_of_getElem? (i := 76) rfl)) rfl
theorem wSE_X10_look : Cond.selects yX10_look.cls yX10_look yX10_look ∈ okW := ok_of (tb_8 (List.mem_of_getElem? (i := 77) rfl)) rfl
theorem wCD_X10_look : Cond.code yX10_look cX10_look 2 (some .int) ∈ okW := ok_of (tb_8 (List.mem_of_getElem? (i := 78) rfl)) rfl
theorem wM_X10_488 : Cond.methodLink RX10 488 yX10_barsThat ∈ okW := ok_of (tb_8 (List.mem_of_getElem? (i := 79) rfl)) rfl
theorem wIM_X10_barsThat : Cond.instanceMethod yX10_barsThat ∈ okW := ok_of (tb_8 (List.mem_of_getElem? (i := 81) rfl)) rfl
theorem wCD_X10_barsThat : Cond.code yX10_barsThat cX10_barsThat 4 (some .int) ∈ okW := ok_of (tb_8 (List.mem_of_getElem? (i := 82) rfl)) rfl
theorem wFJ_J0_15 : Cond.fieldLink RJ0 15 "java/lang/String" "coder" "B" ∈ okW := ok_of (tb_8 (List.mem_of_getElem? (i := 83) rfl)) rfl
theorem wFJ_J0_9 : Cond.fieldLink RJ0 9 "java/lang/String" "value" "[B" ∈ okW := ok_of (tb_8 (List.mem_of_getElem? (i := 84) rfl)) rfl
theorem wSE_X9_barAt : Cond.selects yX9_barAt.cls yX9_barAt yX9_barAt ∈ okW := ok_of (tp_1 (q := (yX9_barAt, 12)) (List.mem_of_getElem? (i := 0) rfl)) rfl
theorem wSE_X9_addBytes : Cond.selects yX9_addBytes.cls yX9_addBytes yX9_addBytes ∈ okW := ok_of (tp_1 (q := (yX9_addBytes, 12)) (List.mem_of_getElem? (i := 1) rfl)) rfl
theorem wSE_X9_textAt : Cond.selects yX9_textAt.cls yX9_textAt yX9_textAt ∈ okW := ok_of (tp_1 (q := (yX9_textAt, 12)) (List.mem_of_getElem? (i := 2) rfl)) rfl
theorem wSE_X4_addToken : Cond.selects yX4_addToken.cls yX4_addToken yX4_addToken ∈ okW := ok_of (tp_1 (q := (yX4_addToken, 9)) (List.mem_of_getElem? (i := 3) rfl)) rfl
theorem wSE_X4_refuse : Cond.selects yX4_refuse.cls yX4_refuse yX4_refuse ∈ okW := ok_of (tp_1 (q := (yX4_refuse, 9)) (List.mem_of_getElem? (i := 4) rfl)) rfl
theorem wSE_X4_lawHead : Cond.selects yX4_lawHead.cls yX4_lawHead yX4_lawHead ∈ okW := ok_of (tp_1 (q := (yX4_lawHead, 9)) (List.mem_of_getElem? (i := 5) rfl)) rfl
theorem wSE_X4_number : Cond.selects yX4_number.cls yX4_number yX4_number ∈ okW := ok_of (tp_1 (q := (yX4_number, 9)) (List.mem_of_getElem? (i := 6) rfl)) rfl
theorem wSE_X4_sum : Cond.selects yX4_sum.cls yX4_sum yX4_sum ∈ okW := ok_of (tp_1 (q := (yX4_sum, 9)) (List.mem_of_getElem? (i := 7) rfl)) rfl
theorem wSE_X4_term : Cond.selects yX4_term.cls yX4_term yX4_term ∈ okW := ok_of (tp_1 (q := (yX4_term, 9)) (List.mem_of_getElem? (i := 8) rfl)) rfl
theorem wSE_X4_isUnit : Cond.selects yX4_isUnit.cls yX4_isUnit yX4_isUnit ∈ okW := ok_of (tp_1 (q := (yX4_isUnit, 9)) (List.mem_of_getElem? (i := 9) rfl)) rfl
theorem wSE_X4_jobHead : Cond.selects yX4_jobHead.cls yX4_jobHead yX4_jobHead ∈ okW := ok_of (tp_1 (q := (yX4_jobHead, 9)) (List.mem_of_getElem? (i := 10) rfl)) rfl
theorem wSE_X4_either : Cond.selects yX4_either.cls yX4_either yX4_either ∈ okW := ok_of (tp_1 (q := (yX4_either, 9)) (List.mem_of_getElem? (i := 11) rfl)) rfl
theorem wSE_X4_both : Cond.selects yX4_both.cls yX4_both yX4_both ∈ okW := ok_of (tp_1 (q := (yX4_both, 9)) (List.mem_of_getElem? (i := 12) rfl)) rfl
theorem wSE_X4_part : Cond.selects yX4_part.cls yX4_part yX4_part ∈ okW := ok_of (tp_1 (q := (yX4_part, 9)) (List.mem_of_getElem? (i := 13) rfl)) rfl
theorem wSE_X4_opened : Cond.selects yX4_opened.cls yX4_opened yX4_opened ∈ okW := ok_of (tp_1 (q := (yX4_opened, 9)) (List.mem_of_getElem? (i := 14) rfl)) rfl
theorem wSE_X9_toneNow : Cond.selects yX9_toneNow.cls yX9_toneNow yX9_toneNow ∈ okW := ok_of (tp_1 (q := (yX9_toneNow, 12)) (List.mem_of_getElem? (i := 15) rfl)) rfl
theorem wSE_X9_takeOff : Cond.selects yX9_takeOff.cls yX9_takeOff yX9_takeOff ∈ okW := ok_of (tp_2 (q := (yX9_takeOff, 12)) (List.mem_of_getElem? (i := 0) rfl)) rfl
theorem wSE_X9_isLost : Cond.selects yX9_isLost.cls yX9_isLost yX9_isLost ∈ okW := ok_of (tp_2 (q := (yX9_isLost, 12)) (List.mem_of_getElem? (i := 1) rfl)) rfl
theorem wSE_X9_isTrue : Cond.selects yX9_isTrue.cls yX9_isTrue yX9_isTrue ∈ okW := ok_of (tp_2 (q := (yX9_isTrue, 12)) (List.mem_of_getElem? (i := 2) rfl)) rfl
theorem wSE_X9_amiss : Cond.selects yX9_amiss.cls yX9_amiss yX9_amiss ∈ okW := ok_of (tp_2 (q := (yX9_amiss, 12)) (List.mem_of_getElem? (i := 3) rfl)) rfl
theorem wSE_X9_findPoints : Cond.selects yX9_findPoints.cls yX9_findPoints yX9_findPoints ∈ okW := ok_of (tp_2 (q := (yX9_findPoints, 12)) (List.mem_of_getElem? (i := 4) rfl)) rfl
theorem wSE_X9_comesTrue : Cond.selects yX9_comesTrue.cls yX9_comesTrue yX9_comesTrue ∈ okW := ok_of (tp_2 (q := (yX9_comesTrue, 12)) (List.mem_of_getElem? (i := 5) rfl)) rfl
theorem wSE_X9_doLine : Cond.selects yX9_doLine.cls yX9_doLine yX9_doLine ∈ okW := ok_of (tp_2 (q := (yX9_doLine, 12)) (List.mem_of_getElem? (i := 6) rfl)) rfl
theorem wSE_X3_fill : Cond.selects yX3_fill.cls yX3_fill yX3_fill ∈ okW := ok_of (tp_2 (q := (yX3_fill, 12)) (List.mem_of_getElem? (i := 7) rfl)) rfl
theorem wSE_X3_isTrueNow : Cond.selects yX3_isTrueNow.cls yX3_isTrueNow yX3_isTrueNow ∈ okW := ok_of (tp_2 (q := (yX3_isTrueNow, 12)) (List.mem_of_getElem? (i := 8) rfl)) rfl
theorem wSE_X3_isNear : Cond.selects yX3_isNear.cls yX3_isNear yX3_isNear ∈ okW := ok_of (tp_2 (q := (yX3_isNear, 12)) (List.mem_of_getElem? (i := 9) rfl)) rfl
theorem wSE_X3_goOn : Cond.selects yX3_goOn.cls yX3_goOn yX3_goOn ∈ okW := ok_of (tp_2 (q := (yX3_goOn, 12)) (List.mem_of_getElem? (i := 10) rfl)) rfl
theorem wSE_X3_isNearBehind : Cond.selects yX3_isNearBehind.cls yX3_isNearBehind yX3_isNearBehind ∈ okW := ok_of (tp_2 (q := (yX3_isNearBehind, 12)) (List.mem_of_getElem? (i := 11) rfl)) rfl
theorem wSE_X3_isReached : Cond.selects yX3_isReached.cls yX3_isReached yX3_isReached ∈ okW := ok_of (tp_2 (q := (yX3_isReached, 12)) (List.mem_of_getElem? (i := 12) rfl)) rfl
theorem wSE_X3_move : Cond.selects yX3_move.cls yX3_move yX3_move ∈ okW := ok_of (tp_2 (q := (yX3_move, 12)) (List.mem_of_getElem? (i := 13) rfl)) rfl
theorem wSE_X1_fill : Cond.selects yX1_fill.cls yX1_fill yX1_fill ∈ okW := ok_of (tp_2 (q := (yX1_fill, 8)) (List.mem_of_getElem? (i := 14) rfl)) rfl
theorem wSE_X1_unfold : Cond.selects yX1_unfold.cls yX1_unfold yX1_unfold ∈ okW := ok_of (tp_2 (q := (yX1_unfold, 8)) (List.mem_of_getElem? (i := 15) rfl)) rfl
theorem wSE_X1_isHeard : Cond.selects yX1_isHeard.cls yX1_isHeard yX1_isHeard ∈ okW := ok_of (tp_3 (q := (yX1_isHeard, 8)) (List.mem_of_getElem? (i := 0) rfl)) rfl
theorem wSE_X1_toneAt : Cond.selects yX1_toneAt.cls yX1_toneAt yX1_toneAt ∈ okW := ok_of (tp_3 (q := (yX1_toneAt, 8)) (List.mem_of_getElem? (i := 1) rfl)) rfl
theorem wSE_X1_countUnlike : Cond.selects yX1_countUnlike.cls yX1_countUnlike yX1_countUnlike ∈ okW := ok_of (tp_3 (q := (yX1_countUnlike, 8)) (List.mem_of_getElem? (i := 2) rfl)) rfl
theorem wSE_X9_offOf : Cond.selects yX9_offOf.cls yX9_offOf yX9_offOf ∈ okW := ok_of (tp_3 (q := (yX9_offOf, 12)) (List.mem_of_getElem? (i := 3) rfl)) rfl
theorem wSE_X9_driftIn : Cond.selects yX9_driftIn.cls yX9_driftIn yX9_driftIn ∈ okW := ok_of (tp_3 (q := (yX9_driftIn, 12)) (List.mem_of_getElem? (i := 4) rfl)) rfl
theorem wSE_X9_fillLowTones : Cond.selects yX9_fillLowTones.cls yX9_fillLowTones yX9_fillLowTones ∈ okW := ok_of (tp_3 (q := (yX9_fillLowTones, 12)) (List.mem_of_getElem? (i := 5) rfl)) rfl
theorem wSE_X9_apart : Cond.selects yX9_apart.cls yX9_apart yX9_apart ∈ okW := ok_of (tp_3 (q := (yX9_apart, 12)) (List.mem_of_getElem? (i := 6) rfl)) rfl
theorem wSE_X9_suiting : Cond.selects yX9_suiting.cls yX9_suiting yX9_suiting ∈ okW := ok_of (tp_3 (q := (yX9_suiting, 12)) (List.mem_of_getElem? (i := 7) rfl)) rfl
theorem wSE_X9_worst : Cond.selects yX9_worst.cls yX9_worst yX9_worst ∈ okW := ok_of (tp_3 (q := (yX9_worst, 12)) (List.mem_of_getElem? (i := 8) rfl)) rfl
theorem wSE_X9_beatIn : Cond.selects yX9_beatIn.cls yX9_beatIn yX9_beatIn ∈ okW := ok_of (tp_3 (q := (yX9_beatIn, 12)) (List.mem_of_getElem? (i := 9) rfl)) rfl
theorem wSE_X9_together : Cond.selects yX9_together.cls yX9_together yX9_together ∈ okW := ok_of (tp_3 (q := (yX9_together, 12)) (List.mem_of_getElem? (i := 10) rfl)) rfl
theorem wSE_X5_goOn : Cond.selects yX5_goOn.cls yX5_goOn yX5_goOn ∈ okW := ok_of (tp_3 (q := (yX5_goOn, 5)) (List.mem_of_getElem? (i := 11) rfl)) rfl
theorem wSE_X5_ringsTogether : Cond.selects yX5_ringsTogether.cls yX5_ringsTogether yX5_ringsTogether ∈ okW := ok_of (tp_3 (q := (yX5_ringsTogether, 5)) (List.mem_of_getElem? (i := 12) rfl)) rfl
theorem wSE_X9_countLost : Cond.selects yX9_countLost.cls yX9_countLost yX9_countLost ∈ okW := ok_of (tp_3 (q := (yX9_countLost, 12)) (List.mem_of_getElem? (i := 13) rfl)) rfl
theorem wSE_X9_countTrue : Cond.selects yX9_countTrue.cls yX9_countTrue yX9_countTrue ∈ okW := ok_of (tp_3 (q := (yX9_countTrue, 12)) (List.mem_of_getElem? (i := 14) rfl)) rfl
theorem wSE_X10_isIn : Cond.selects yX10_isIn.cls yX10_isIn yX10_isIn ∈ okW := ok_of (tp_3 (q := (yX10_isIn, 74)) (List.mem_of_getElem? (i := 15) rfl)) rfl
theorem wSE_X10_isSlice : Cond.selects yX10_isSlice.cls yX10_isSlice yX10_isSlice ∈ okW := ok_of (tp_4 (q := (yX10_isSlice, 74)) (List.mem_of_getElem? (i := 0) rfl)) rfl
theorem wSE_X10_isBar : Cond.selects yX10_isBar.cls yX10_isBar yX10_isBar ∈ okW := ok_of (tp_4 (q := (yX10_isBar, 74)) (List.mem_of_getElem? (i := 1) rfl)) rfl
theorem wSE_X10_puts : Cond.selects yX10_puts.cls yX10_puts yX10_puts ∈ okW := ok_of (tp_4 (q := (yX10_puts, 74)) (List.mem_of_getElem? (i := 2) rfl)) rfl
theorem wSE_X10_reads : Cond.selects yX10_reads.cls yX10_reads yX10_reads ∈ okW := ok_of (tp_4 (q := (yX10_reads, 74)) (List.mem_of_getElem? (i := 3) rfl)) rfl
theorem wSE_X10_raw : Cond.selects yX10_raw.cls yX10_raw yX10_raw ∈ okW := ok_of (tp_4 (q := (yX10_raw, 74)) (List.mem_of_getElem? (i := 4) rfl)) rfl
theorem wSE_X10_isLetter : Cond.selects yX10_isLetter.cls yX10_isLetter yX10_isLetter ∈ okW := ok_of (tp_4 (q := (yX10_isLetter, 74)) (List.mem_of_getElem? (i := 5) rfl)) rfl
theorem wSE_X10_wordAt : Cond.selects yX10_wordAt.cls yX10_wordAt yX10_wordAt ∈ okW := ok_of (tp_4 (q := (yX10_wordAt, 74)) (List.mem_of_getElem? (i := 6) rfl)) rfl
theorem wSE_X10_isDigit : Cond.selects yX10_isDigit.cls yX10_isDigit yX10_isDigit ∈ okW := ok_of (tp_4 (q := (yX10_isDigit, 74)) (List.mem_of_getElem? (i := 7) rfl)) rfl
theorem wSE_X10_isMarkSign : Cond.selects yX10_isMarkSign.cls yX10_isMarkSign yX10_isMarkSign ∈ okW := ok_of (tp_4 (q := (yX10_isMarkSign, 74)) (List.mem_of_getElem? (i := 8) rfl)) rfl
theorem wSE_X10_readText : Cond.selects yX10_readText.cls yX10_readText yX10_readText ∈ okW := ok_of (tp_4 (q := (yX10_readText, 74)) (List.mem_of_getElem? (i := 9) rfl)) rfl
theorem wSE_X10_isBegin : Cond.selects yX10_isBegin.cls yX10_isBegin yX10_isBegin ∈ okW := ok_of (tp_4 (q := (yX10_isBegin, 74)) (List.mem_of_getElem? (i := 10) rfl)) rfl
theorem wSE_X10_fails : Cond.selects yX10_fails.cls yX10_fails yX10_fails ∈ okW := ok_of (tp_4 (q := (yX10_fails, 74)) (List.mem_of_getElem? (i := 11) rfl)) rfl
theorem wSE_X10_readLine : Cond.selects yX10_readLine.cls yX10_readLine yX10_readLine ∈ okW := ok_of (tp_4 (q := (yX10_readLine, 74)) (List.mem_of_getElem? (i := 12) rfl)) rfl
theorem wSE_X10_readNumbers : Cond.selects yX10_readNumbers.cls yX10_readNumbers yX10_readNumbers ∈ okW := ok_of (tp_4 (q := (yX10_readNumbers, 74)) (List.mem_of_getElem? (i := 13) rfl)) rfl
theorem wSE_X10_readNumber : Cond.selects yX10_readNumber.cls yX10_readNumber yX10_readNumber ∈ okW := ok_of (tp_4 (q := (yX10_readNumber, 74)) (List.mem_of_getElem? (i := 14) rfl)) rfl
theorem wSE_X10_readSum : Cond.selects yX10_readSum.cls yX10_readSum yX10_readSum ∈ okW := ok_of (tp_4 (q := (yX10_readSum, 74)) (List.mem_of_getElem? (i := 15) rfl)) rfl
theorem wSE_X10_readProduct : Cond.selects yX10_readProduct.cls yX10_readProduct yX10_readProduct ∈ okW := ok_of (tp_5 (q := (yX10_readProduct, 74)) (List.mem_of_getElem? (i := 0) rfl)) rfl
theorem wSE_X10_readUnit : Cond.selects yX10_readUnit.cls yX10_readUnit yX10_readUnit ∈ okW := ok_of (tp_5 (q := (yX10_readUnit, 74)) (List.mem_of_getElem? (i := 1) rfl)) rfl
theorem wSE_X10_emits : Cond.selects yX10_emits.cls yX10_emits yX10_emits ∈ okW := ok_of (tp_5 (q := (yX10_emits, 74)) (List.mem_of_getElem? (i := 2) rfl)) rfl
theorem wSE_X10_isSign : Cond.selects yX10_isSign.cls yX10_isSign yX10_isSign ∈ okW := ok_of (tp_5 (q := (yX10_isSign, 74)) (List.mem_of_getElem? (i := 3) rfl)) rfl
theorem wSE_X10_isWord : Cond.selects yX10_isWord.cls yX10_isWord yX10_isWord ∈ okW := ok_of (tp_5 (q := (yX10_isWord, 74)) (List.mem_of_getElem? (i := 4) rfl)) rfl
theorem wSE_X10_readAny : Cond.selects yX10_readAny.cls yX10_readAny yX10_readAny ∈ okW := ok_of (tp_5 (q := (yX10_readAny, 74)) (List.mem_of_getElem? (i := 5) rfl)) rfl
theorem wSE_X10_waits : Cond.selects yX10_waits.cls yX10_waits yX10_waits ∈ okW := ok_of (tp_5 (q := (yX10_waits, 74)) (List.mem_of_getElem? (i := 6) rfl)) rfl
theorem wSE_X10_readCompared : Cond.selects yX10_readCompared.cls yX10_readCompared yX10_readCompared ∈ okW := ok_of (tp_5 (q := (yX10_readCompared, 74)) (List.mem_of_getElem? (i := 7) rfl)) rfl
theorem wSE_X10_settles : Cond.selects yX10_settles.cls yX10_settles yX10_settles ∈ okW := ok_of (tp_5 (q := (yX10_settles, 74)) (List.mem_of_getElem? (i := 8) rfl)) rfl
theorem wSE_X10_isLaw : Cond.selects yX10_isLaw.cls yX10_isLaw yX10_isLaw ∈ okW := ok_of (tp_5 (q := (yX10_isLaw, 74)) (List.mem_of_getElem? (i := 9) rfl)) rfl
theorem wSE_X10_isTone : Cond.selects yX10_isTone.cls yX10_isTone yX10_isTone ∈ okW := ok_of (tp_5 (q := (yX10_isTone, 74)) (List.mem_of_getElem? (i := 10) rfl)) rfl
theorem wSE_X10_asksSlice : Cond.selects yX10_asksSlice.cls yX10_asksSlice yX10_asksSlice ∈ okW := ok_of (tp_5 (q := (yX10_asksSlice, 74)) (List.mem_of_getElem? (i := 11) rfl)) rfl
theorem wSE_X10_asks : Cond.selects yX10_asks.cls yX10_asks yX10_asks ∈ okW := ok_of (tp_5 (q := (yX10_asks, 74)) (List.mem_of_getElem? (i := 12) rfl)) rfl
theorem wSE_X10_size : Cond.selects yX10_size.cls yX10_size yX10_size ∈ okW := ok_of (tp_5 (q := (yX10_size, 74)) (List.mem_of_getElem? (i := 13) rfl)) rfl
theorem wSE_X10_tellsBy : Cond.selects yX10_tellsBy.cls yX10_tellsBy yX10_tellsBy ∈ okW := ok_of (tp_5 (q := (yX10_tellsBy, 74)) (List.mem_of_getElem? (i := 14) rfl)) rfl
theorem wSE_X10_isSo : Cond.selects yX10_isSo.cls yX10_isSo yX10_isSo ∈ okW := ok_of (tp_5 (q := (yX10_isSo, 74)) (List.mem_of_getElem? (i := 15) rfl)) rfl
theorem wSE_X10_worth : Cond.selects yX10_worth.cls yX10_worth yX10_worth ∈ okW := ok_of (tp_6 (q := (yX10_worth, 74)) (List.mem_of_getElem? (i := 0) rfl)) rfl
theorem wSE_X10_twoOf : Cond.selects yX10_twoOf.cls yX10_twoOf yX10_twoOf ∈ okW := ok_of (tp_6 (q := (yX10_twoOf, 74)) (List.mem_of_getElem? (i := 1) rfl)) rfl
theorem wSE_X10_toneNow : Cond.selects yX10_toneNow.cls yX10_toneNow yX10_toneNow ∈ okW := ok_of (tp_6 (q := (yX10_toneNow, 74)) (List.mem_of_getElem? (i := 2) rfl)) rfl
theorem wSE_X10_toneBy : Cond.selects yX10_toneBy.cls yX10_toneBy yX10_toneBy ∈ okW := ok_of (tp_6 (q := (yX10_toneBy, 74)) (List.mem_of_getElem? (i := 3) rfl)) rfl
theorem wSE_X10_canPass : Cond.selects yX10_canPass.cls yX10_canPass yX10_canPass ∈ okW := ok_of (tp_6 (q := (yX10_canPass, 74)) (List.mem_of_getElem? (i := 4) rfl)) rfl
theorem wSE_X10_takesOff : Cond.selects yX10_takesOff.cls yX10_takesOff yX10_takesOff ∈ okW := ok_of (tp_6 (q := (yX10_takesOff, 74)) (List.mem_of_getElem? (i := 5) rfl)) rfl
theorem wSE_X10_isLost : Cond.selects yX10_isLost.cls yX10_isLost yX10_isLost ∈ okW := ok_of (tp_6 (q := (yX10_isLost, 74)) (List.mem_of_getElem? (i := 6) rfl)) rfl
theorem wSE_X10_asksJob : Cond.selects yX10_asksJob.cls yX10_asksJob yX10_asksJob ∈ okW := ok_of (tp_6 (q := (yX10_asksJob, 74)) (List.mem_of_getElem? (i := 7) rfl)) rfl
theorem wSE_X10_doesLine : Cond.selects yX10_doesLine.cls yX10_doesLine yX10_doesLine ∈ okW := ok_of (tp_6 (q := (yX10_doesLine, 74)) (List.mem_of_getElem? (i := 8) rfl)) rfl
theorem wSE_X10_findsFewest : Cond.selects yX10_findsFewest.cls yX10_findsFewest yX10_findsFewest ∈ okW := ok_of (tp_6 (q := (yX10_findsFewest, 74)) (List.mem_of_getElem? (i := 9) rfl)) rfl
theorem wSE_X10_findsTable : Cond.selects yX10_findsTable.cls yX10_findsTable yX10_findsTable ∈ okW := ok_of (tp_6 (q := (yX10_findsTable, 74)) (List.mem_of_getElem? (i := 10) rfl)) rfl
theorem wSE_X10_does : Cond.selects yX10_does.cls yX10_does yX10_does ∈ okW := ok_of (tp_6 (q := (yX10_does, 74)) (List.mem_of_getElem? (i := 11) rfl)) rfl
theorem wSE_X10_wouldBe : Cond.selects yX10_wouldBe.cls yX10_wouldBe yX10_wouldBe ∈ okW := ok_of (tp_6 (q := (yX10_wouldBe, 74)) (List.mem_of_getElem? (i := 12) rfl)) rfl
theorem wSE_X10_toneByTable : Cond.selects yX10_toneByTable.cls yX10_toneByTable yX10_toneByTable ∈ okW := ok_of (tp_6 (q := (yX10_toneByTable, 74)) (List.mem_of_getElem? (i := 13) rfl)) rfl
theorem wSE_X10_goesOn : Cond.selects yX10_goesOn.cls yX10_goesOn yX10_goesOn ∈ okW := ok_of (tp_6 (q := (yX10_goesOn, 74)) (List.mem_of_getElem? (i := 14) rfl)) rfl
theorem wSE_X10_findsFits : Cond.selects yX10_findsFits.cls yX10_findsFits yX10_findsFits ∈ okW := ok_of (tp_6 (q := (yX10_findsFits, 74)) (List.mem_of_getElem? (i := 15) rfl)) rfl
theorem wSE_X10_fitsAll : Cond.selects yX10_fitsAll.cls yX10_fitsAll yX10_fitsAll ∈ okW := ok_of (tp_7 (q := (yX10_fitsAll, 74)) (List.mem_of_getElem? (i := 0) rfl)) rfl
theorem wSE_X10_toneOf : Cond.selects yX10_toneOf.cls yX10_toneOf yX10_toneOf ∈ okW := ok_of (tp_7 (q := (yX10_toneOf, 74)) (List.mem_of_getElem? (i := 1) rfl)) rfl
theorem wSE_X10_nextPass : Cond.selects yX10_nextPass.cls yX10_nextPass yX10_nextPass ∈ okW := ok_of (tp_7 (q := (yX10_nextPass, 74)) (List.mem_of_getElem? (i := 2) rfl)) rfl
theorem wSE_X10_unlikeBy : Cond.selects yX10_unlikeBy.cls yX10_unlikeBy yX10_unlikeBy ∈ okW := ok_of (tp_7 (q := (yX10_unlikeBy, 74)) (List.mem_of_getElem? (i := 3) rfl)) rfl
theorem wSE_X10_sureOf : Cond.selects yX10_sureOf.cls yX10_sureOf yX10_sureOf ∈ okW := ok_of (tp_7 (q := (yX10_sureOf, 74)) (List.mem_of_getElem? (i := 4) rfl)) rfl
theorem wSE_X10_offOf : Cond.selects yX10_offOf.cls yX10_offOf yX10_offOf ∈ okW := ok_of (tp_7 (q := (yX10_offOf, 74)) (List.mem_of_getElem? (i := 5) rfl)) rfl
theorem wSE_X10_stills : Cond.selects yX10_stills.cls yX10_stills yX10_stills ∈ okW := ok_of (tp_7 (q := (yX10_stills, 74)) (List.mem_of_getElem? (i := 6) rfl)) rfl
theorem wSE_X10_isStill : Cond.selects yX10_isStill.cls yX10_isStill yX10_isStill ∈ okW := ok_of (tp_7 (q := (yX10_isStill, 74)) (List.mem_of_getElem? (i := 7) rfl)) rfl
theorem wSE_X10_sways : Cond.selects yX10_sways.cls yX10_sways yX10_sways ∈ okW := ok_of (tp_7 (q := (yX10_sways, 74)) (List.mem_of_getElem? (i := 8) rfl)) rfl
theorem wSE_X10_stillAt : Cond.selects yX10_stillAt.cls yX10_stillAt yX10_stillAt ∈ okW := ok_of (tp_7 (q := (yX10_stillAt, 74)) (List.mem_of_getElem? (i := 9) rfl)) rfl
theorem wSE_X10_isTrue : Cond.selects yX10_isTrue.cls yX10_isTrue yX10_isTrue ∈ okW := ok_of (tp_7 (q := (yX10_isTrue, 74)) (List.mem_of_getElem? (i := 10) rfl)) rfl
theorem wSE_X10_amiss : Cond.selects yX10_amiss.cls yX10_amiss yX10_amiss ∈ okW := ok_of (tp_7 (q := (yX10_amiss, 74)) (List.mem_of_getElem? (i := 11) rfl)) rfl
theorem wSE_X10_isHeat : Cond.selects yX10_isHeat.cls yX10_isHeat yX10_isHeat ∈ okW := ok_of (tp_7 (q := (yX10_isHeat, 74)) (List.mem_of_getElem? (i := 12) rfl)) rfl
theorem wSE_X10_isWet : Cond.selects yX10_isWet.cls yX10_isWet yX10_isWet ∈ okW := ok_of (tp_7 (q := (yX10_isWet, 74)) (List.mem_of_getElem? (i := 13) rfl)) rfl
theorem wSE_X10_beatOf : Cond.selects yX10_beatOf.cls yX10_beatOf yX10_beatOf ∈ okW := ok_of (tp_7 (q := (yX10_beatOf, 74)) (List.mem_of_getElem? (i := 14) rfl)) rfl
theorem wSE_X10_sounds : Cond.selects yX10_sounds.cls yX10_sounds yX10_sounds ∈ okW := ok_of (tp_7 (q := (yX10_sounds, 74)) (List.mem_of_getElem? (i := 15) rfl)) rfl
theorem wSE_X10_drifted : Cond.selects yX10_drifted.cls yX10_drifted yX10_drifted ∈ okW := ok_of (tp_8 (q := (yX10_drifted, 74)) (List.mem_of_getElem? (i := 0) rfl)) rfl
theorem wSE_X10_suits : Cond.selects yX10_suits.cls yX10_suits yX10_suits ∈ okW := ok_of (tp_8 (q := (yX10_suits, 74)) (List.mem_of_getElem? (i := 1) rfl)) rfl
theorem wSE_X10_worstBeat : Cond.selects yX10_worstBeat.cls yX10_worstBeat yX10_worstBeat ∈ okW := ok_of (tp_8 (q := (yX10_worstBeat, 74)) (List.mem_of_getElem? (i := 2) rfl)) rfl
theorem wSE_X10_worstOf : Cond.selects yX10_worstOf.cls yX10_worstOf yX10_worstOf ∈ okW := ok_of (tp_8 (q := (yX10_worstOf, 74)) (List.mem_of_getElem? (i := 3) rfl)) rfl
theorem wSE_X10_together : Cond.selects yX10_together.cls yX10_together yX10_together ∈ okW := ok_of (tp_8 (q := (yX10_together, 74)) (List.mem_of_getElem? (i := 4) rfl)) rfl
theorem wSE_X10_leastWaste : Cond.selects yX10_leastWaste.cls yX10_leastWaste yX10_leastWaste ∈ okW := ok_of (tp_8 (q := (yX10_leastWaste, 74)) (List.mem_of_getElem? (i := 5) rfl)) rfl
theorem wSE_X10_canHave : Cond.selects yX10_canHave.cls yX10_canHave yX10_canHave ∈ okW := ok_of (tp_8 (q := (yX10_canHave, 74)) (List.mem_of_getElem? (i := 6) rfl)) rfl
theorem wSE_X10_kept : Cond.selects yX10_kept.cls yX10_kept yX10_kept ∈ okW := ok_of (tp_8 (q := (yX10_kept, 74)) (List.mem_of_getElem? (i := 7) rfl)) rfl
theorem wSE_X10_keepsBars : Cond.selects yX10_keepsBars.cls yX10_keepsBars yX10_keepsBars ∈ okW := ok_of (tp_8 (q := (yX10_keepsBars, 74)) (List.mem_of_getElem? (i := 8) rfl)) rfl
theorem wSE_X10_keepsTaps : Cond.selects yX10_keepsTaps.cls yX10_keepsTaps yX10_keepsTaps ∈ okW := ok_of (tp_8 (q := (yX10_keepsTaps, 74)) (List.mem_of_getElem? (i := 9) rfl)) rfl
theorem wSE_X10_keepsTexts : Cond.selects yX10_keepsTexts.cls yX10_keepsTexts yX10_keepsTexts ∈ okW := ok_of (tp_8 (q := (yX10_keepsTexts, 74)) (List.mem_of_getElem? (i := 10) rfl)) rfl
theorem wSE_X10_barsThat : Cond.selects yX10_barsThat.cls yX10_barsThat yX10_barsThat ∈ okW := ok_of (tp_8 (q := (yX10_barsThat, 74)) (List.mem_of_getElem? (i := 11) rfl)) rfl
theorem lyX0 : ∀ k, k < 18 → u_lay RX0 TX0 k ∈ okW := fun k hk => match k, hk with
  | 0, _ => wLY_0_0
  | 1, _ => wLY_0_1
  | 2, _ => wLY_0_2
  | 3, _ => wLY_0_3
  | 4, _ => wLY_0_4
  | 5, _ => wLY_0_5
  | 6, _ => wLY_0_6
  | 7, _ => wLY_0_7
  | 8, _ => wLY_0_8
  | 9, _ => wLY_0_9
  | 10, _ => wLY_0_10
  | 11, _ => wLY_0_11
  | 12, _ => wLY_0_12
  | 13, _ => wLY_0_13
  | 14, _ => wLY_0_14
  | 15, _ => wLY_0_15
  | 16, _ => wLY_0_16
  | 17, _ => wLY_0_17
  | k + 18, h => absurd h (by omega)
theorem inX0 : ∀ w ∈ u_ws RX0 TX0 18, w ∈ okW := by
  intro w hw
  obtain ⟨k, hk, rfl⟩ := List.mem_map.mp hw
  exact lyX0 k (List.mem_range.mp hk)
theorem lyX1 : ∀ k, k < 8 → u_lay RX1 TX1 k ∈ okW := fun k hk => match k, hk with
  | 0, _ => wLY_1_0
  | 1, _ => wLY_1_1
  | 2, _ => wLY_1_2
  | 3, _ => wLY_1_3
  | 4, _ => wLY_1_4
  | 5, _ => wLY_1_5
  | 6, _ => wLY_1_6
  | 7, _ => wLY_1_7
  | k + 8, h => absurd h (by omega)
theorem inX1 : ∀ w ∈ u_ws RX1 TX1 8, w ∈ okW := by
  intro w hw
  obtain ⟨k, hk, rfl⟩ := List.mem_map.mp hw
  exact lyX1 k (List.mem_range.mp hk)
theorem lyX2 : ∀ k, k < 2 → u_lay RX2 TX2 k ∈ okW := fun k hk => match k, hk with
  | 0, _ => wLY_2_0
  | 1, _ => wLY_2_1
  | k + 2, h => absurd h (by omega)
theorem inX2 : ∀ w ∈ u_ws RX2 TX2 2, w ∈ okW := by
  intro w hw
  obtain ⟨k, hk, rfl⟩ := List.mem_map.mp hw
  exact lyX2 k (List.mem_range.mp hk)
theorem lyX3 : ∀ k, k < 12 → u_lay RX3 TX3 k ∈ okW := fun k hk => match k, hk with
  | 0, _ => wLY_3_0
  | 1, _ => wLY_3_1
  | 2, _ => wLY_3_2
  | 3, _ => wLY_3_3
  | 4, _ => wLY_3_4
  | 5, _ => wLY_3_5
  | 6, _ => wLY_3_6
  | 7, _ => wLY_3_7
  | 8, _ => wLY_3_8
  | 9, _ => wLY_3_9
  | 10, _ => wLY_3_10
  | 11, _ => wLY_3_11
  | k + 12, h => absurd h (by omega)
theorem inX3 : ∀ w ∈ u_ws RX3 TX3 12, w ∈ okW := by
  intro w hw
  obtain ⟨k, hk, rfl⟩ := List.mem_map.mp hw
  exact lyX3 k (List.mem_range.mp hk)
theorem lyX4 : ∀ k, k < 9 → u_lay RX4 TX4 k ∈ okW := fun k hk => match k, hk with
  | 0, _ => wLY_4_0
  | 1, _ => wLY_4_1
  | 2, _ => wLY_4_2
  | 3, _ => wLY_4_3
  | 4, _ => wLY_4_4
  | 5, _ => wLY_4_5
  | 6, _ => wLY_4_6
  | 7, _ => wLY_4_7
  | 8, _ => wLY_4_8
  | k + 9, h => absurd h (by omega)
theorem inX4 : ∀ w ∈ u_ws RX4 TX4 9, w ∈ okW := by
  intro w hw
  obtain ⟨k, hk, rfl⟩ := List.mem_map.mp hw
  exact lyX4 k (List.mem_range.mp hk)
theorem lyX5 : ∀ k, k < 5 → u_lay RX5 TX5 k ∈ okW := fun k hk => match k, hk with
  | 0, _ => wLY_5_0
  | 1, _ => wLY_5_1
  | 2, _ => wLY_5_2
  | 3, _ => wLY_5_3
  | 4, _ => wLY_5_4
  | k + 5, h => absurd h (by omega)
theorem inX5 : ∀ w ∈ u_ws RX5 TX5 5, w ∈ okW := by
  intro w hw
  obtain ⟨k, hk, rfl⟩ := List.mem_map.mp hw
  exact lyX5 k (List.mem_range.mp hk)
theorem lyX6 : ∀ k, k < 2 → u_lay RX6 TX6 k ∈ okW := fun k hk => match k, hk with
  | 0, _ => wLY_6_0
  | 1, _ => wLY_6_1
  | k + 2, h => absurd h (by omega)
theorem inX6 : ∀ w ∈ u_ws RX6 TX6 2, w ∈ okW := by
  intro w hw
  obtain ⟨k, hk, rfl⟩ := List.mem_map.mp hw
  exact lyX6 k (List.mem_range.mp hk)
theorem lyX7 : ∀ k, k < 10 → u_lay RX7 TX7 k ∈ okW := fun k hk => match k, hk with
  | 0, _ => wLY_7_0
  | 1, _ => wLY_7_1
  | 2, _ => wLY_7_2
  | 3, _ => wLY_7_3
  | 4, _ => wLY_7_4
  | 5, _ => wLY_7_5
  | 6, _ => wLY_7_6
  | 7, _ => wLY_7_7
  | 8, _ => wLY_7_8
  | 9, _ => wLY_7_9
  | k + 10, h => absurd h (by omega)
theorem inX7 : ∀ w ∈ u_ws RX7 TX7 10, w ∈ okW := by
  intro w hw
  obtain ⟨k, hk, rfl⟩ := List.mem_map.mp hw
  exact lyX7 k (List.mem_range.mp hk)
theorem lyX8 : ∀ k, k < 17 → u_lay RX8 TX8 k ∈ okW := fun k hk => match k, hk with
  | 0, _ => wLY_8_0
  | 1, _ => wLY_8_1
  | 2, _ => wLY_8_2
  | 3, _ => wLY_8_3
  | 4, _ => wLY_8_4
  | 5, _ => wLY_8_5
  | 6, _ => wLY_8_6
  | 7, _ => wLY_8_7
  | 8, _ => wLY_8_8
  | 9, _ => wLY_8_9
  | 10, _ => wLY_8_10
  | 11, _ => wLY_8_11
  | 12, _ => wLY_8_12
  | 13, _ => wLY_8_13
  | 14, _ => wLY_8_14
  | 15, _ => wLY_8_15
  | 16, _ => wLY_8_16
  | k + 17, h => absurd h (by omega)
theorem inX8 : ∀ w ∈ u_ws RX8 TX8 17, w ∈ okW := by
  intro w hw
  obtain ⟨k, hk, rfl⟩ := List.mem_map.mp hw
  exact lyX8 k (List.mem_range.mp hk)
theorem lyX9 : ∀ k, k < 12 → u_lay RX9 TX9 k ∈ okW := fun k hk => match k, hk with
  | 0, _ => wLY_9_0
  | 1, _ => wLY_9_1
  | 2, _ => wLY_9_2
  | 3, _ => wLY_9_3
  | 4, _ => wLY_9_4
  | 5, _ => wLY_9_5
  | 6, _ => wLY_9_6
  | 7, _ => wLY_9_7
  | 8, _ => wLY_9_8
  | 9, _ => wLY_9_9
  | 10, _ => wLY_9_10
  | 11, _ => wLY_9_11
  | k + 12, h => absurd h (by omega)
theorem inX9 : ∀ w ∈ u_ws RX9 TX9 12, w ∈ okW := by
  intro w hw
  obtain ⟨k, hk, rfl⟩ := List.mem_map.mp hw
  exact lyX9 k (List.mem_range.mp hk)
theorem lyX10 : ∀ k, k < 74 → u_lay RX10 TX10 k ∈ okW := fun k hk => match k, hk with
  | 0, _ => wLY_10_0
  | 1, _ => wLY_10_1
  | 2, _ => wLY_10_2
  | 3, _ => wLY_10_3
  | 4, _ => wLY_10_4
  | 5, _ => wLY_10_5
  | 6, _ => wLY_10_6
  | 7, _ => wLY_10_7
  | 8, _ => wLY_10_8
  | 9, _ => wLY_10_9
  | 10, _ => wLY_10_10
  | 11, _ => wLY_10_11
  | 12, _ => wLY_10_12
  | 13, _ => wLY_10_13
  | 14, _ => wLY_10_14
  | 15, _ => wLY_10_15
  | 16, _ => wLY_10_16
  | 17, _ => wLY_10_17
  | 18, _ => wLY_10_18
  | 19, _ => wLY_10_19
  | 20, _ => wLY_10_20
  | 21, _ => wLY_10_21
  | 22, _ => wLY_10_22
  | 23, _ => wLY_10_23
  | 24, _ => wLY_10_24
  | 25, _ => wLY_10_25
  | 26, _ => wLY_10_26
  | 27, _ => wLY_10_27
  | 28, _ => wLY_10_28
  | 29, _ => wLY_10_29
  | 30, _ => wLY_10_30
  | 31, _ => wLY_10_31
  | 32, _ => wLY_10_32
  | 33, _ => wLY_10_33
  | 34, _ => wLY_10_34
  | 35, _ => wLY_10_35
  | 36, _ => wLY_10_36
  | 37, _ => wLY_10_37
  | 38, _ => wLY_10_38
  | 39, _ => wLY_10_39
  | 40, _ => wLY_10_40
  | 41, _ => wLY_10_41
  | 42, _ => wLY_10_42
  | 43, _ => wLY_10_43
  | 44, _ => wLY_10_44
  | 45, _ => wLY_10_45
  | 46, _ => wLY_10_46
  | 47, _ => wLY_10_47
  | 48, _ => wLY_10_48
  | 49, _ => wLY_10_49
  | 50, _ => wLY_10_50
  | 51, _ => wLY_10_51
  | 52, _ => wLY_10_52
  | 53, _ => wLY_10_53
  | 54, _ => wLY_10_54
  | 55, _ => wLY_10_55
  | 56, _ => wLY_10_56
  | 57, _ => wLY_10_57
  | 58, _ => wLY_10_58
  | 59, _ => wLY_10_59
  | 60, _ => wLY_10_60
  | 61, _ => wLY_10_61
  | 62, _ => wLY_10_62
  | 63, _ => wLY_10_63
  | 64, _ => wLY_10_64
  | 65, _ => wLY_10_65
  | 66, _ => wLY_10_66
  | 67, _ => wLY_10_67
  | 68, _ => wLY_10_68
  | 69, _ => wLY_10_69
  | 70, _ => wLY_10_70
  | 71, _ => wLY_10_71
  | 72, _ => wLY_10_72
  | 73, _ => wLY_10_73
  | k + 74, h => absurd h (by omega)
theorem inX10 : ∀ w ∈ u_ws RX10 TX10 74, w ∈ okW := by
  intro w hw
  obtain ⟨k, hk, rfl⟩ := List.mem_map.mp hw
  exact lyX10 k (List.mem_range.mp hk)
