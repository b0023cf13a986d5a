
set_option maxHeartbeats 4000000 in
set_option maxRecDepth 100000 in
theorem a_X10_raw_e (l : Launch) (K : KE) (G : Nat → Option Nat) (H : Heap) {a0 : Nat} (x1 : Int32) {tq : Nat} (tp : Int32) (bt : Nat → Int) (hT : TY K G H) (ga0 : G a0 = some 112) (hx1 : 0 ≤ x1.toInt ∧ x1.toInt ≤ 500) (gtq : G tq = some 126) (etq : @Eq Ad tq (fR H a0 (K.1.2 10 17))) (etp : tp = fI H a0 (K.1.2 10 18)) (hv_bt : ∀ j : Nat, bt j = (fI H tq j).toInt) : MX l K yX10_raw cX10_raw 2 (some .int) 0 0 0 0 [.ref a0, .int x1] H (AE G [] H.size) (fun v H1 => ∃ (r : Int32), v = some (.int r) ∧ ((x1.toInt < tp.toInt ∧ r.toInt = bt x1.toNatClampNeg) ∨ (tp.toInt ≤ x1.toInt ∧ r.toInt = -1)) ∧ TY K G H1) := by
  refine MX.of (by decide +kernel) (Nat.le_of_ble_eq_true rfl) ?_
  intro p e s m below meth c ls Q C hH hl hQ
  subst hH
  have C : CX p K s m _ meth c RX10 cX10_raw 2 (some .int) "raw" := C
  obtain ⟨hx, hb, hml, hown, hts, hKT, hr, hlocks, hnm⟩ := id C
  have hl : lv_has ls 2 [(0, .ref a0), (1, .int x1)] := hl
  have hS : va_S (AE G [] s.heap.size) s.heap s.heap [] := va_S.rf
  have n_m1 : ((-1) : Int32).toInt = -1 := rfl
  have btp := ty_fi (x := tp) (k := 18) etp hT ga0 rg_112 rfl
  have hap : ∀ x y, x < 74 → y < 74 → x ≠ y → K.1.2 10 x ≠ K.1.2 10 y := x_apart hKT hts inX10 tyX10 tyX10_ok nmX10 rfl
  have f0_bt := hv_bt
  refine lv_iload_n hx hb dX10_raw_0 rfl (lv_at hl 1 rfl) ?_
  refine lv_aload_n hx hb dX10_raw_1 rfl (lv_at hl 0 rfl) ?_
  refine x_gi C hT (ci := 10) (k := 18) rfl inX10 (by decide) wF_X10_185 ga0 rg_112 rfl dX10_raw_2 (fun x121 ex121 bx121 => ?_)
  have ux121 : tp = x121 := (etp).trans ex121.symm
  subst ux121
  refine lv_icmp_ge (tgt := 17) hx hb dX10_raw_5 (by decide) (fun c122 => ?_) (fun c122 => ?_)
  · have k123 := i_le c122
    refine lv_iconst (v := (-1)) hx hb dX10_raw_17 (by decide) ?_
    exact x_iret C hQ dX10_raw_18 hS (by decide) (by decide) (⟨(-1), rfl, by omega, hT⟩)
  · have k123 := i_nle c122
    refine lv_aload_n hx hb dX10_raw_8 rfl (lv_at hl 0 rfl) ?_
    refine x_gr C hT (ci := 10) (k := 17) rfl inX10 (by decide) wF_X10_53 ga0 rg_112 rfl dX10_raw_9 (fun q124 eq124 gq124 => ?_)
    have uq124 : tq = q124 := (etq).trans eq124.symm
    subst uq124
    refine lv_iload_n hx hb dX10_raw_12 rfl (lv_at hl 1 rfl) ?_
    refine x_ai C hT gtq rg_126 ⟨by omega, by show _ < ((500 : Nat) : Int); omega⟩ dX10_raw_13 (fun x125 ex125 bx125 => ?_)
    have qvx125 : bt x1.toNatClampNeg = x125.toInt := (f0_bt _).trans (congrArg Int32.toInt ex125.symm)
    refine lv_goto (tgt := 18) hx hb dX10_raw_14 (by decide) ?_
    exact x_iret C hQ dX10_raw_18 hS (by decide) (by decide) (⟨x125, rfl, by omega, hT⟩)

set_option maxHeartbeats 4000000 in
set_option maxRecDepth 100000 in
theorem a_X10_isLetter_e (l : Launch) (K : KE) (G : Nat → Option Nat) (H : Heap) {a0 : Nat} (x1 : Int32) (hT : TY K G H) (ga0 : G a0 = some 112) : MX l K yX10_isLetter cX10_isLetter 2 (some .boolean) 1 23 0 0 [.ref a0, .int x1] H (AE G [] H.size) (fun v H1 => ∃ (r : Int32), v = some (.int r) ∧ (0 ≤ r.toInt ∧ r.toInt ≤ 1) ∧ ((r.toInt = 1 ∧ ((97 ≤ x1.toInt ∧ x1.toInt ≤ 122) ∨ (65 ≤ x1.toInt ∧ x1.toInt ≤ 90))) ∨ (r.toInt = 0 ∧ ((x1.toInt < 97 ∨ 122 < x1.toInt) ∧ (x1.toInt < 65 ∨ 90 < x1.toInt)))) ∧ TY K G H1) := by
  refine MX.of (by decide +kernel) (Nat.le_of_ble_eq_true rfl) ?_
  intro p e s m below meth c ls Q C hH hl hQ
  subst hH
  have C : CX p K s m _ meth c RX10 cX10_isLetter 2 (some .boolean) "isLetter" := C
  obtain ⟨hx, hb, hml, hown, hts, hKT, hr, hlocks, hnm⟩ := id C
  have hl : lv_has ls 2 [(0, .ref a0), (1, .int x1)] := hl
  have hS : va_S (AE G [] s.heap.size) s.heap s.heap [] := va_S.rf
  have n_0 : (0 : Int32).toInt = 0 := rfl
  have n_1 : (1 : Int32).toInt = 1 := rfl
  have n_65 : (65 : Int32).toInt = 65 := rfl
  have n_90 : (90 : Int32).toInt = 90 := rfl
  have n_97 : (97 : Int32).toInt = 97 := rfl
  have n_122 : (122 : Int32).toInt = 122 := rfl
  have hap : ∀ x y, x < 74 → y < 74 → x ≠ y → K.1.2 10 x ≠ K.1.2 10 y := x_apart hKT hts inX10 tyX10 tyX10_ok nmX10 rfl
  refine lv_aload_n hx hb dX10_isLetter_0 rfl (lv_at hl 0 rfl) ?_
  refine lv_iload_n hx hb dX10_isLetter_1 rfl (lv_at hl 1 rfl) ?_
  refine lv_bipush (v := 97) hx hb dX10_isLetter_2 (by decide) ?_
  refine lv_bipush (v := 122) hx hb dX10_isLetter_4 (by decide) ?_
  refine x_V (As := [.int x1, .int 97, .int 122]) (rest := []) C (c_X10_isIn l K G s.heap (x1) (97) (122) hT ga0) yo_X10_isIn wM_X10_177 ⟨⟨by decide, by decide⟩, by decide, by decide⟩ (x_rv C hT (ci := 10) rfl ga0 rg_112) rfl hl.1 rfl (Nat.le_of_ble_eq_true rfl) dX10_isLetter_6 hS (AE_sub (fun _ _ => rfl) (by decide) hS.1) (fun vH141 H141 locsH141 pH141 zH141 kH141 hSH141 => ?_)
  have hqH141 := pH141.1.symm
  subst hqH141
  rcases pH141.2 with ⟨hvH141, hcH141⟩ | ⟨hvH141, hcH141⟩
  · subst hvH141
    refine W.eq (g2 := F0 m 9 ls [.int 1]) rfl ?_
    refine lv_if_ne (tgt := 24) hx hb dX10_isLetter_9 (by decide) (fun c142 => ?_) (fun c142 => ?_)
    · have k143 := i_ne c142
      refine lv_iconst (v := 1) hx hb dX10_isLetter_24 (by decide) ?_
      refine lv_goto (tgt := 29) hx hb dX10_isLetter_25 (by decide) ?_
      exact x_zret C hQ (Or.inr rfl) dX10_isLetter_29 hSH141 (by decide) (by decide) (⟨1, rfl, by decide, by omega, hT⟩)
    · have k143 := i_eq c142
      exfalso
      omega
  · subst hvH141
    refine W.eq (g2 := F0 m 9 ls [.int 0]) rfl ?_
    refine lv_if_ne (tgt := 24) hx hb dX10_isLetter_9 (by decide) (fun c144 => ?_) (fun c144 => ?_)
    · have k145 := i_ne c144
      exfalso
      omega
    · have k145 := i_eq c144
      refine lv_aload_n hx hb dX10_isLetter_12 rfl (lv_at hl 0 rfl) ?_
      refine lv_iload_n hx hb dX10_isLetter_13 rfl (lv_at hl 1 rfl) ?_
      refine lv_bipush (v := 65) hx hb dX10_isLetter_14 (by decide) ?_
      refine lv_bipush (v := 90) hx hb dX10_isLetter_16 (by decide) ?_
      refine x_V (As := [.int x1, .int 65, .int 90]) (rest := []) C (c_X10_isIn l K G s.heap (x1) (65) (90) hT ga0) yo_X10_isIn wM_X10_177 ⟨⟨by decide, by decide⟩, by decide, by decide⟩ (x_rv C hT (ci := 10) rfl ga0 rg_112) rfl hl.1 rfl (Nat.le_of_ble_eq_true rfl) dX10_isLetter_18 hSH141 (AE_sub (fun _ _ => rfl) (by decide) hSH141.1) (fun vH146 H146 locsH146 pH146 zH146 kH146 hSH146 => ?_)
      have hqH146 := pH146.1.symm
      subst hqH146
      rcases pH146.2 with ⟨hvH146, hcH146⟩ | ⟨hvH146, hcH146⟩
      · subst hvH146
        refine W.eq (g2 := F0 m 21 ls [.int 1]) rfl ?_
        refine lv_if_eq (tgt := 28) hx hb dX10_isLetter_21 (by decide) (fun c147 => ?_) (fun c147 => ?_)
        · have k148 := i_eq c147
          exfalso
          omega
        · have k148 := i_ne c147
          refine lv_iconst (v := 1) hx hb dX10_isLetter_24 (by decide) ?_
          refine lv_goto (tgt := 29) hx hb dX10_isLetter_25 (by decide) ?_
          exact x_zret C hQ (Or.inr rfl) dX10_isLetter_29 hSH146 (by decide) (by decide) (⟨1, rfl, by decide, by omega, hT⟩)
      · subst hvH146
        refine W.eq (g2 := F0 m 21 ls [.int 0]) rfl ?_
        refine lv_if_eq (tgt := 28) hx hb dX10_isLetter_21 (by decide) (fun c149 => ?_) (fun c149 => ?_)
        · have k150 := i_eq c149
          refine lv_iconst (v := 0) hx hb dX10_isLetter_28 (by decide) ?_
          exact x_zret C hQ (Or.inl rfl) dX10_isLetter_29 hSH146 (by decide) (by decide) (⟨0, rfl, by decide, by omega, hT⟩)
        · have k150 := i_ne c149
          exfalso
          omega

set_option maxHeartbeats 4000000 in
set_option maxRecDepth 100000 in
theorem a_X10_isDigit_e (l : Launch) (K : KE) (G : Nat → Option Nat) (H : Heap) {a0 : Nat} (x1 : Int32) (hT : TY K G H) (ga0 : G a0 = some 112) : MX l K yX10_isDigit cX10_isDigit 2 (some .boolean) 1 23 0 0 [.ref a0, .int x1] H (AE G [] H.size) (fun v H1 => ∃ (r : Int32), v = some (.int r) ∧ (0 ≤ r.toInt ∧ r.toInt ≤ 1) ∧ ((r.toInt = 1 ∧ 48 ≤ x1.toInt ∧ x1.toInt ≤ 57) ∨ (r.toInt = 0 ∧ (x1.toInt < 48 ∨ 57 < x1.toInt))) ∧ TY K G H1) := by
  refine MX.of (by decide +kernel) (Nat.le_of_ble_eq_true rfl) ?_
  intro p e s m below meth c ls Q C hH hl hQ
  subst hH
  have C : CX p K s m _ meth c RX10 cX10_isDigit 2 (some .boolean) "isDigit" := C
  obtain ⟨hx, hb, hml, hown, hts, hKT, hr, hlocks, hnm⟩ := id C
  have hl : lv_has ls 2 [(0, .ref a0), (1, .int x1)] := hl
  have hS : va_S (AE G [] s.heap.size) s.heap s.heap [] := va_S.rf
  have n_0 : (0 : Int32).toInt = 0 := rfl
  have n_1 : (1 : Int32).toInt = 1 := rfl
  have n_48 : (48 : Int32).toInt = 48 := rfl
  have n_57 : (57 : Int32).toInt = 57 := rfl
  have hap : ∀ x y, x < 74 → y < 74 → x ≠ y → K.1.2 10 x ≠ K.1.2 10 y := x_apart hKT hts inX10 tyX10 tyX10_ok nmX10 rfl
  refine lv_aload_n hx hb dX10_isDigit_0 rfl (lv_at hl 0 rfl) ?_
  refine lv_iload_n hx hb dX10_isDigit_1 rfl (lv_at hl 1 rfl) ?_
  refine lv_bipush (v := 48) hx hb dX10_isDigit_2 (by decide) ?_
  refine lv_bipush (v := 57) hx hb dX10_isDigit_4 (by decide) ?_
  refine x_V (As := [.int x1, .int 48, .int 57]) (rest := []) C (c_X10_isIn l K G s.heap (x1) (48) (57) hT ga0) yo_X10_isIn wM_X10_177 ⟨⟨by decide, by decide⟩, by decide, by decide⟩ (x_rv C hT (ci := 10) rfl ga0 rg_112) rfl hl.1 rfl (Nat.le_of_ble_eq_true rfl) dX10_isDigit_6 hS (AE_sub (fun _ _ => rfl) (by decide) hS.1) (fun vH105 H105 locsH105 pH105 zH105 kH105 hSH105 => ?_)
  have hqH105 := pH105.1.symm
  subst hqH105
  rcases pH105.2 with ⟨hvH105, hcH105⟩ | ⟨hvH105, hcH105⟩
  · subst hvH105
    refine W.eq (g2 := F0 m 9 ls [.int 1]) rfl ?_
    exact x_zret C hQ (Or.inr rfl) dX10_isDigit_9 hSH105 (by decide) (by decide) (⟨1, rfl, by decide, by omega, hT⟩)
  · subst hvH105
    refine W.eq (g2 := F0 m 9 ls [.int 0]) rfl ?_
    exact x_zret C hQ (Or.inl rfl) dX10_isDigit_9 hSH105 (by decide) (by decide) (⟨0, rfl, by decide, by omega, hT⟩)

set_option maxHeartbeats 4000000 in
set_option maxRecDepth 100000 in
theorem a_X10_isMarkSign_e (l : Launch) (K : KE) (G : Nat → Option Nat) (H : Heap) {a0 : Nat} (x1 : Int32) (hT : TY K G H) (ga0 : G a0 = some 112) : MX l K yX10_isMarkSign cX10_isMarkSign 2 (some .boolean) 0 0 0 0 [.ref a0, .int x1] H (AE G [] H.size) (fun v H1 => ∃ (r : Int32), v = some (.int r) ∧ (0 ≤ r.toInt ∧ r.toInt ≤ 1) ∧ ((r.toInt = 1 ∧ ((40 ≤ x1.toInt ∧ x1.toInt ≤ 43) ∨ x1.toInt = 45 ∨ x1.toInt = 47 ∨ (59 ≤ x1.toInt ∧ x1.toInt ≤ 62))) ∨ (r.toInt = 0 ∧ ((x1.toInt < 40 ∨ 43 < x1.toInt) ∧ x1.toInt ≠ 45 ∧ x1.toInt ≠ 47 ∧ (x1.toInt < 59 ∨ 62 < x1.toInt)))) ∧ TY K G H1) := by
  refine MX.of (by decide +kernel) (Nat.le_of_ble_eq_true rfl) ?_
  intro p e s m below meth c ls Q C hH hl hQ
  subst hH
  have C : CX p K s m _ meth c RX10 cX10_isMarkSign 2 (some .boolean) "isMarkSign" := C
  obtain ⟨hx, hb, hml, hown, hts, hKT, hr, hlocks, hnm⟩ := id C
  have hl : lv_has ls 2 [(0, .ref a0), (1, .int x1)] := hl
  have hS : va_S (AE G [] s.heap.size) s.heap s.heap [] := va_S.rf
  have n_0 : (0 : Int32).toInt = 0 := rfl
  have n_1 : (1 : Int32).toInt = 1 := rfl
  have n_40 : (40 : Int32).toInt = 40 := rfl
  have n_41 : (41 : Int32).toInt = 41 := rfl
  have n_42 : (42 : Int32).toInt = 42 := rfl
  have n_43 : (43 : Int32).toInt = 43 := rfl
  have n_45 : (45 : Int32).toInt = 45 := rfl
  have n_47 : (47 : Int32).toInt = 47 := rfl
  have n_59 : (59 : Int32).toInt = 59 := rfl
  have n_60 : (60 : Int32).toInt = 60 := rfl
  have n_61 : (61 : Int32).toInt = 61 := rfl
  have n_62 : (62 : Int32).toInt = 62 := rfl
  have hap : ∀ x y, x < 74 → y < 74 → x ≠ y → K.1.2 10 x ≠ K.1.2 10 y := x_apart hKT hts inX10 tyX10 tyX10_ok nmX10 rfl
  refine lv_iload_n hx hb dX10_isMarkSign_0 rfl (lv_at hl 1 rfl) ?_
  refine lv_bipush (v := 59) hx hb dX10_isMarkSign_1 (by decide) ?_
  refine lv_icmp_eq (tgt := 60) hx hb dX10_isMarkSign_3 (by decide) (fun c181 => ?_) (fun c181 => ?_)
  · have k182 := i_eq c181
    refine lv_iconst (v := 1) hx hb dX10_isMarkSign_60 (by decide) ?_
    refine lv_goto (tgt := 65) hx hb dX10_isMarkSign_61 (by decide) ?_
    exact x_zret C hQ (Or.inr rfl) dX10_isMarkSign_65 hS (by decide) (by decide) (⟨1, rfl, by decide, by omega, hT⟩)
  · have k182 := i_ne c181
    refine lv_iload_n hx hb dX10_isMarkSign_6 rfl (lv_at hl 1 rfl) ?_
    refine lv_bipush (v := 43) hx hb dX10_isMarkSign_7 (by decide) ?_
    refine lv_icmp_eq (tgt := 60) hx hb dX10_isMarkSign_9 (by decide) (fun c183 => ?_) (fun c183 => ?_)
    · have k184 := i_eq c183
      refine lv_iconst (v := 1) hx hb dX10_isMarkSign_60 (by decide) ?_
      refine lv_goto (tgt := 65) hx hb dX10_isMarkSign_61 (by decide) ?_
      exact x_zret C hQ (Or.inr rfl) dX10_isMarkSign_65 hS (by decide) (by decide) (⟨1, rfl, by decide, by omega, hT⟩)
    · have k184 := i_ne c183
      refine lv_iload_n hx hb dX10_isMarkSign_12 rfl (lv_at hl 1 rfl) ?_
      refine lv_bipush (v := 45) hx hb dX10_isMarkSign_13 (by decide) ?_
      refine lv_icmp_eq (tgt := 60) hx hb dX10_isMarkSign_15 (by decide) (fun c185 => ?_) (fun c185 => ?_)
      · have k186 := i_eq c185
        refine lv_iconst (v := 1) hx hb dX10_isMarkSign_60 (by decide) ?_
        refine lv_goto (tgt := 65) hx hb dX10_isMarkSign_61 (by decide) ?_
        exact x_zret C hQ (Or.inr rfl) dX10_isMarkSign_65 hS (by decide) (by decide) (⟨1, rfl, by decide, by omega, hT⟩)
      · have k186 := i_ne c185
        refine lv_iload_n hx hb dX10_isMarkSign_18 rfl (lv_at hl 1 rfl) ?_
        refine lv_bipush (v := 42) hx hb dX10_isMarkSign_19 (by decide) ?_
        refine lv_icmp_eq (tgt := 60) hx hb dX10_isMarkSign_21 (by decide) (fun c187 => ?_) (fun c187 => ?_)
        · have k188 := i_eq c187
          refine lv_iconst (v := 1) hx hb dX10_isMarkSign_60 (by decide) ?_
          refine lv_goto (tgt := 65) hx hb dX10_isMarkSign_61 (by decide) ?_
          exact x_zret C hQ (Or.inr rfl) dX10_isMarkSign_65 hS (by decide) (by decide) (⟨1, rfl, by decide, by omega, hT⟩)
        · have k188 := i_ne c187
          refine lv_iload_n hx hb dX10_isMarkSign_24 rfl (lv_at hl 1 rfl) ?_
          refine lv_bipush (v := 47) hx hb dX10_isMarkSign_25 (by decide) ?_
          refine lv_icmp_eq (tgt := 60) hx hb dX10_isMarkSign_27 (by decide) (fun c189 => ?_) (fun c189 => ?_)
          · have k190 := i_eq c189
            refine lv_iconst (v := 1) hx hb dX10_isMarkSign_60 (by decide) ?_
            refine lv_goto (tgt := 65) hx hb dX10_isMarkSign_61 (by decide) ?_
            exact x_zret C hQ (Or.inr rfl) dX10_isMarkSign_65 hS (by decide) (by decide) (⟨1, rfl, by decide, by omega, hT⟩)
          · have k190 := i_ne c189
            refine lv_iload_n hx hb dX10_isMarkSign_30 rfl (lv_at hl 1 rfl) ?_
            refine lv_bipush (v := 40) hx hb dX10_isMarkSign_31 (by decide) ?_
            refine lv_icmp_eq (tgt := 60) hx hb dX10_isMarkSign_33 (by decide) (fun c191 => ?_) (fun c191 => ?_)
            · have k192 := i_eq c191
              refine lv_iconst (v := 1) hx hb dX10_isMarkSign_60 (by decide) ?_
              refine lv_goto (tgt := 65) hx hb dX10_isMarkSign_61 (by decide) ?_
              exact x_zret C hQ (Or.inr rfl) dX10_isMarkSign_65 hS (by decide) (by decide) (⟨1, rfl, by decide, by omega, hT⟩)
            · have k192 := i_ne c191
              refine lv_iload_n hx hb dX10_isMarkSign_36 rfl (lv_at hl 1 rfl) ?_
              refine lv_bipush (v := 41) hx hb dX10_isMarkSign_37 (by decide) ?_
              refine lv_icmp_eq (tgt := 60) hx hb dX10_isMarkSign_39 (by decide) (fun c193 => ?_) (fun c193 => ?_)
              · have k194 := i_eq c193
                refine lv_iconst (v := 1) hx hb dX10_isMarkSign_60 (by decide) ?_
                refine lv_goto (tgt := 65) hx hb dX10_isMarkSign_61 (by decide) ?_
                exact x_zret C hQ (Or.inr rfl) dX10_isMarkSign_65 hS (by decide) (by decide) (⟨1, rfl, by decide, by omega, hT⟩)
              · have k194 := i_ne c193
                refine lv_iload_n hx hb dX10_isMarkSign_42 rfl (lv_at hl 1 rfl) ?_
                refine lv_bipush (v := 60) hx hb dX10_isMarkSign_43 (by decide) ?_
                refine lv_icmp_eq (tgt := 60) hx hb dX10_isMarkSign_45 (by decide) (fun c195 => ?_) (fun c195 => ?_)
                · have k196 := i_eq c195
                  refine lv_iconst (v := 1) hx hb dX10_isMarkSign_60 (by decide) ?_
                  refine lv_goto (tgt := 65) hx hb dX10_isMarkSign_61 (by decide) ?_
                  exact x_zret C hQ (Or.inr rfl) dX10_isMarkSign_65 hS (by decide) (by decide) (⟨1, rfl, by decide, by omega, hT⟩)
                · have k196 := i_ne c195
                  refine lv_iload_n hx hb dX10_isMarkSign_48 rfl (lv_at hl 1 rfl) ?_
                  refine lv_bipush (v := 61) hx hb dX10_isMarkSign_49 (by decide) ?_
                  refine lv_icmp_eq (tgt := 60) hx hb dX10_isMarkSign_51 (by decide) (fun c197 => ?_) (fun c197 => ?_)
                  · have k198 := i_eq c197
                    refine lv_iconst (v := 1) hx hb dX10_isMarkSign_60 (by decide) ?_
                    refine lv_goto (tgt := 65) hx hb dX10_isMarkSign_61 (by decide) ?_
                    exact x_zret C hQ (Or.inr rfl) dX10_isMarkSign_65 hS (by decide) (by decide) (⟨1, rfl, by decide, by omega, hT⟩)
                  · have k198 := i_ne c197
                    refine lv_iload_n hx hb dX10_isMarkSign_54 rfl (lv_at hl 1 rfl) ?_
                    refine lv_bipush (v := 62) hx hb dX10_isMarkSign_55 (by decide) ?_
                    refine lv_icmp_ne (tgt := 64) hx hb dX10_isMarkSign_57 (by decide) (fun c199 => ?_) (fun c199 => ?_)
                    · have k200 := i_ne c199
                      refine lv_iconst (v := 0) hx hb dX10_isMarkSign_64 (by decide) ?_
                      exact x_zret C hQ (Or.inl rfl) dX10_isMarkSign_65 hS (by decide) (by decide) (⟨0, rfl, by decide, by omega, hT⟩)
                    · have k200 := i_eq c199
                      refine lv_iconst (v := 1) hx hb dX10_isMarkSign_60 (by decide) ?_
                      refine lv_goto (tgt := 65) hx hb dX10_isMarkSign_61 (by decide) ?_
                      exact x_zret C hQ (Or.inr rfl) dX10_isMarkSign_65 hS (by decide) (by decide) (⟨1, rfl, by decide, by omega, hT⟩)

set_option maxHeartbeats 4000000 in
set_option maxRecDepth 100000 in
theorem a_X10_wordAt_e (l : Launch) (K : KE) (G : Nat → Option Nat) (H : Heap) {a0 : Nat} (x1 : Int32) (x2 : Int32) {wq : Nat} {tq : Nat} (bt : Nat → Int) (hT : TY K G H) (ga0 : G a0 = some 112) (hx1 : 0 ≤ x1.toInt ∧ x1.toInt ≤ 499) (hx2 : 1 ≤ x2.toInt ∧ x2.toInt ≤ 500) (gwq : G wq = some 127) (ewq : @Eq Ad wq (fR H a0 (K.1.2 10 23))) (gtq : G tq = some 126) (etq : @Eq Ad tq (fR H a0 (K.1.2 10 17))) (hg_WD : WD (avw K H a0)) (hp0 : x1.toInt < x2.toInt) (hy0 : ∀ j : Nat, x1.toNatClampNeg ≤ j → j < x2.toNatClampNeg → bt j ≠ 32) (hv_bt : ∀ j : Nat, bt j = (fI H tq j).toInt) : MX l K yX10_wordAt cX10_wordAt 6 (some .int) 0 0 0 0 [.ref a0, .int x1, .int x2] H (AE G [] H.size) (fun v H1 => ∃ (r : Int32), v = some (.int r) ∧ ((-1) ≤ r.toInt ∧ r.toInt ≤ 23) ∧ (rWn bt x1.toNatClampNeg x2.toNatClampNeg 24 0 = r.toInt) ∧ TY K G H1) := by
  refine MX.of (by decide +kernel) (Nat.le_of_ble_eq_true rfl) ?_
  intro p e s m below meth c ls Q C hH hl hQ
  subst hH
  have C : CX p K s m _ meth c RX10 cX10_wordAt 6 (some .int) "wordAt" := C
  obtain ⟨hx, hb, hml, hown, hts, hKT, hr, hlocks, hnm⟩ := id C
  have hl : lv_has ls 6 [(0, .ref a0), (1, .int x1), (2, .int x2)] := hl
  have hS : va_S (AE G [] s.heap.size) s.heap s.heap [] := va_S.rf
  have n_m1 : ((-1) : Int32).toInt = -1 := rfl
  have n_0 : (0 : Int32).toInt = 0 := rfl
  have n_1 : (1 : Int32).toInt = 1 := rfl
  have n_32 : (32 : Int32).toInt = 32 := rfl
  have n_114 : (114 : Int32).toInt = 114 := rfl
  have hap : ∀ x y, x < 74 → y < 74 → x ≠ y → K.1.2 10 x ≠ K.1.2 10 y := x_apart hKT hts inX10 tyX10 tyX10_ok nmX10 rfl
  have f0_bt := hv_bt
  have J5 : ∀ (nf : Nat) (kn : Nat) (ls2863 : Array Slot) (H2862 : Heap) (locsH2862 : List Loc) (x2865 : Int32) (x2866 : Int32), lv_has ls2863 6 [(0, .ref a0), (1, .int x1), (2, .int x2), (3, .int x2865), (4, .int x2866)] → TY K G H2862 → va_S (AE G [] s.heap.size) s.heap H2862 locsH2862 → ((-1) ≤ x2865.toInt ∧ x2865.toInt ≤ 23) → (0 ≤ x2866.toInt ∧ x2866.toInt ≤ 114) → (@Eq Ad wq (fR H2862 a0 (K.1.2 10 23))) → (@Eq Ad tq (fR H2862 a0 (K.1.2 10 17))) → (WD (avw K H2862 a0)) → (∀ j : Nat, bt j = (fI H2862 tq j).toInt) → (114 - x2866.toInt < (nf : Int)) → (x2866.toInt = (kn : Int)) → (wdN kn = 32) → (x2865.toInt + 1 = (cntW kn : Int)) → (kn ≤ 114) → (rWn bt x1.toNatClampNeg x2.toNatClampNeg 24 0 = rWn bt x1.toNatClampNeg x2.toNatClampNeg (24 - cntW kn) (cntW kn)) → W p l e ({ frames := 0, cells := 0, slots := 0, locals := 0 } : Room) s m (([.ref a0, .int x1, .int x2] : List Value).toArray) below meth c H2862 locsH2862 0 0 Q (F0 m 5 ls2863 []) := by
    intro nf
    induction nf with
    | zero =>
      intro kn ls2863 H2862 locsH2862 x2865 x2866 hl2864 hTH2862 hSH2862 bx2865 bx2866 cy2867_0 cy2867_1 gy2867_WD fy2867_bt hm5 hk1 hk2 hk3 hk4 hsp5
      exfalso
      omega
    | succ nf ih5 =>
      intro kn ls2863 H2862 locsH2862 x2865 x2866 hl2864 hTH2862 hSH2862 bx2865 bx2866 cy2867_0 cy2867_1 gy2867_WD fy2867_bt hm5 hk1 hk2 hk3 hk4 hsp5
      have J19 : ∀ (nf : Nat)  (ls2869 : Array Slot) (H2868 : Heap) (locsH2868 : List Loc) (x2871 : Int32) (x2873 : Int32), lv_has ls2869 6 [(0, .ref a0), (1, .int x1), (2, .int x2), (3, .int x2871), (4, .int x2866), (5, .int x2873)] → TY K G H2868 → va_S (AE G [] s.heap.size) s.heap H2868 locsH2868 → (0 ≤ x2871.toInt ∧ x2871.toInt ≤ 23) → (0 ≤ x2866.toInt ∧ x2866.toInt ≤ 113) → (0 ≤ x2873.toInt ∧ x2873.toInt ≤ 114) → (@Eq Ad wq (fR H2868 a0 (K.1.2 10 23))) → (@Eq Ad tq (fR H2868 a0 (K.1.2 10 17))) → (WD (avw K H2868 a0)) → (∀ j : Nat, bt j = (fI H2868 tq j).toInt) → (114 - x2873.toInt < (nf : Int)) → (x2871.toInt = (cntW kn : Int) ∧ x2866.toInt ≤ 113 ∧ x2866.toInt + 1 + x2873.toInt ≤ 114 ∧ x2866.toInt = (kn : Int)) → (rMi bt x1.toNatClampNeg x2.toNatClampNeg kn 500 0 = rMi bt x1.toNatClampNeg x2.toNatClampNeg kn (500 - x2873.toNatClampNeg) x2873.toNatClampNeg) → W p l e ({ frames := 0, cells := 0, slots := 0, locals := 0 } : Room) s m (([.ref a0, .int x1, .int x2] : List Value).toArray) below meth c H2868 locsH2868 0 0 Q (F0 m 19 ls2869 []) := by
        intro nf
        induction nf with
        | zero =>
          intro  ls2869 H2868 locsH2868 x2871 x2873 hl2870 hTH2868 hSH2868 bx2871 b2872 bx2873 cy2874_0 cy2874_1 gy2874_WD fy2874_bt hm19 iv19 hsp19
          exfalso
          omega
        | succ nf ih19 =>
          intro  ls2869 H2868 locsH2868 x2871 x2873 hl2870 hTH2868 hSH2868 bx2871 b2872 bx2873 cy2874_0 cy2874_1 gy2874_WD fy2874_bt hm19 iv19 hsp19
          have J93 : ∀ (nf : Nat) (km : Nat) (ls2876 : Array Slot) (H2875 : Heap) (locsH2875 : List Loc) (x2878 : Int32), lv_has ls2876 6 [(0, .ref a0), (1, .int x1), (2, .int x2), (3, .int x2871), (4, .int x2878)] → TY K G H2875 → va_S (AE G [] s.heap.size) s.heap H2875 locsH2875 → (1 ≤ x2878.toInt ∧ x2878.toInt ≤ 114) → (@Eq Ad wq (fR H2875 a0 (K.1.2 10 23))) → (@Eq Ad tq (fR H2875 a0 (K.1.2 10 17))) → (WD (avw K H2875 a0)) → (∀ j : Nat, bt j = (fI H2875 tq j).toInt) → (114 - x2878.toInt < (nf : Int)) → (x2871.toInt = (cntW kn : Int)) → (x2878.toInt = (km : Int)) → (kn < km ∧ km ≤ 114) → (cntW km = cntW kn + 1) → (rMt bt x1.toNatClampNeg x2.toNatClampNeg kn = false) → W p l e ({ frames := 0, cells := 0, slots := 0, locals := 0 } : Room) s m (([.ref a0, .int x1, .int x2] : List Value).toArray) below meth c H2875 locsH2875 0 0 Q (F0 m 93 ls2876 []) := by
            intro nf
            induction nf with
            | zero =>
              intro km ls2876 H2875 locsH2875 x2878 hl2877 hTH2875 hSH2875 bx2878 cy2879_0 cy2879_1 gy2879_WD fy2879_bt hm93 iv93 hm1 hm2 hm3 hm4
              exfalso
              omega
            | succ nf ih93 =>
              intro km ls2876 H2875 locsH2875 x2878 hl2877 hTH2875 hSH2875 bx2878 cy2879_0 cy2879_1 gy2879_WD fy2879_bt hm93 iv93 hm1 hm2 hm3 hm4
              have h114 : km ≠ 114 ∨ wdN km = 32 := (Nat.lt_or_ge km 114).elim (fun h => Or.inl (by omega)) (fun h => Or.inr (by rw [show km = 114 by omega]; decide))
              refine lv_aload_n hx hb dX10_wordAt_93 rfl (lv_at hl2877 0 rfl) ?_
              refine x_gr C hTH2875 (ci := 10) (k := 23) rfl inX10 (by decide) wF_X10_56 ga0 rg_112 rfl dX10_wordAt_94 (fun q2880 eq2880 gq2880 => ?_)
              have uq2880 : wq = q2880 := (cy2879_0).trans eq2880.symm
              subst uq2880
              refine lv_iload hx hb dX10_wordAt_97 (lv_at hl2877 4 rfl) ?_
              refine x_ai C hTH2875 gwq rg_127 ⟨by omega, by show _ < ((115 : Nat) : Int); omega⟩ dX10_wordAt_99 (fun x2881 ex2881 bx2881 => ?_)
              have wdx2881 := wd_at (n := km) gy2879_WD cy2879_0 ex2881 (by omega) (by omega)
              refine lv_bipush (v := 32) hx hb dX10_wordAt_100 (by decide) ?_
              refine lv_icmp_eq (tgt := 114) hx hb dX10_wordAt_102 (by decide) (fun c2882 => ?_) (fun c2882 => ?_)
              · have k2883 := i_eq c2882
                refine lv_goto (tgt := 5) hx hb dX10_wordAt_114 (by decide) ?_
                have hc24 := cntW_le kn (by omega) hk2
                exact ih5 km ls2876 H2875 locsH2875 (x2871) (x2878) (lv_sub hl2877 [0, 1, 2, 3, 4] rfl) hTH2875 hSH2875 ⟨Int.le_trans (by decide) bx2871.1, Int.le_trans bx2871.2 (by decide)⟩ ⟨Int.le_trans (by decide) bx2878.1, Int.le_trans bx2878.2 (by decide)⟩ cy2879_0 cy2879_1 gy2879_WD fy2879_bt (by omega) (by omega) (by omega) (by omega) (by omega) (hsp5.trans (rWn_n (by rw [wPos_cnt kn (by omega) hk2]; exact hm4) (by omega) (by omega)))
              · have k2883 := i_ne c2882
                refine lv_iload hx hb dX10_wordAt_105 (lv_at hl2877 4 rfl) ?_
                refine lv_iconst (v := 1) hx hb dX10_wordAt_107 (by decide) ?_
                refine lv_iadd hx hb dX10_wordAt_108 ?_
                refine lv_topi (fun x2884 ex2884 => ?_)
                have tx2884 := i_add ex2884 (by omega)
                refine lv_istore (lv' := [(4, .int x2884), (0, .ref a0), (1, .int x1), (2, .int x2), (3, .int x2871)]) hx hb dX10_wordAt_109 hl2877 (by decide) rfl (fun ls2885 hl2886 => ?_)
                refine lv_goto (tgt := 93) hx hb dX10_wordAt_111 (by decide) ?_
                have hcn := cntW_n (n := km) (by omega)
                exact ih93 (km + 1) ls2885 H2875 locsH2875 (x2884) (lv_sub hl2886 [1, 2, 3, 4, 0] rfl) hTH2875 hSH2875 (by have := i_rng x2884; omega) cy2879_0 cy2879_1 gy2879_WD fy2879_bt (by omega) (by omega) (by omega) (by omega) (by omega) hm4
          refine lv_iload_n hx hb dX10_wordAt_19 rfl (lv_at hl2870 1 rfl) ?_
          refine lv_iload hx hb dX10_wordAt_20 (lv_at hl2870 5 rfl) ?_
          refine lv_iadd hx hb dX10_wordAt_22 ?_
          refine lv_topi (fun x2887 ex2887 => ?_)
          have tx2887 := i_add ex2887 (by omega)
          refine lv_iload_n hx hb dX10_wordAt_23 rfl (lv_at hl2870 2 rfl) ?_
          refine lv_icmp_ge (tgt := 60) hx hb dX10_wordAt_24 (by decide) (fun c2888 => ?_) (fun c2888 => ?_)
          · have k2889 := i_le c2888
            refine lv_iload_n hx hb dX10_wordAt_60 rfl (lv_at hl2870 1 rfl) ?_
            refine lv_iload hx hb dX10_wordAt_61 (lv_at hl2870 5 rfl) ?_
            refine lv_iadd hx hb dX10_wordAt_63 ?_
            refine lv_topi (fun x2890 ex2890 => ?_)
            have tx2890 := i_add ex2890 (by omega)
            refine lv_iload_n hx hb dX10_wordAt_64 rfl (lv_at hl2870 2 rfl) ?_
            refine lv_icmp_ne (tgt := 87) hx hb dX10_wordAt_65 (by decide) (fun c2891 => ?_) (fun c2891 => ?_)
            · have k2892 := i_ne c2891
              refine lv_iload hx hb dX10_wordAt_87 (lv_at hl2870 4 rfl) ?_
              refine lv_iconst (v := 1) hx hb dX10_wordAt_89 (by decide) ?_
              refine lv_iadd hx hb dX10_wordAt_90 ?_
              refine lv_topi (fun x2893 ex2893 => ?_)
              have tx2893 := i_add ex2893 (by omega)
              refine lv_istore (lv' := [(4, .int x2893), (0, .ref a0), (1, .int x1), (2, .int x2), (3, .int x2871), (5, .int x2873)]) hx hb dX10_wordAt_91 hl2870 (by decide) rfl (fun ls2894 hl2895 => ?_)
              have cn_x2873 := i_cl (x := x2873) bx2873.1
              have cn_x1 := i_cl (x := x1) (by omega)
              have cn_x2 := i_cl (x := x2) (by omega)
              have me2896 : rMi bt x1.toNatClampNeg x2.toNatClampNeg kn 500 0 = x2873.toNatClampNeg := hsp19.trans (rMi_end (by first | (exact Or.inl (by omega)) | (refine Or.inr ?_; rw [← None, None]; omega)))
              have mm0 : rMt bt x1.toNatClampNeg x2.toNatClampNeg kn = false := decide_eq_false (by rw [me2896]; omega)
              exact J93 ((114 - x2893.toInt).toNat + 1) (kn + 1) ls2894 H2868 locsH2868 (x2893) (lv_sub hl2895 [1, 2, 3, 4, 0] rfl) hTH2868 hSH2868 (by have := i_rng x2893; omega) cy2874_0 cy2874_1 gy2874_WD fy2874_bt (by omega) (by omega) (by omega) (by omega) (cntW_s hk2) mm0
            · have k2892 := i_eq c2891
              refine lv_aload_n hx hb dX10_wordAt_68 rfl (lv_at hl2870 0 rfl) ?_
              refine x_gr C hTH2868 (ci := 10) (k := 23) rfl inX10 (by decide) wF_X10_56 ga0 rg_112 rfl dX10_wordAt_69 (fun q2897 eq2897 gq2897 => ?_)
              have uq2897 : wq = q2897 := (cy2874_0).trans eq2897.symm
              subst uq2897
              refine lv_iload hx hb dX10_wordAt_72 (lv_at hl2870 4 rfl) ?_
              refine lv_iconst (v := 1) hx hb dX10_wordAt_74 (by decide) ?_
              refine lv_iadd hx hb dX10_wordAt_75 ?_
              refine lv_topi (fun x2898 ex2898 => ?_)
              have tx2898 := i_add ex2898 (by omega)
              refine lv_iload hx hb dX10_wordAt_76 (lv_at hl2870 5 rfl) ?_
              refine lv_iadd hx hb dX10_wordAt_78 ?_
              refine lv_topi (fun x2899 ex2899 => ?_)
              have tx2899 := i_add ex2899 (by omega)
              refine x_ai C hTH2868 gwq rg_127 ⟨by omega, by show _ < ((115 : Nat) : Int); omega⟩ dX10_wordAt_79 (fun x2900 ex2900 bx2900 => ?_)
              have cn_x2873 := i_cl (x := x2873) bx2873.1
              have wdx2900 := wd_at (n := kn + 1 + x2873.toNatClampNeg) gy2874_WD cy2874_0 ex2900 (by omega) (by omega)
              refine lv_bipush (v := 32) hx hb dX10_wordAt_80 (by decide) ?_
              refine lv_icmp_ne (tgt := 87) hx hb dX10_wordAt_82 (by decide) (fun c2901 => ?_) (fun c2901 => ?_)
              · have k2902 := i_ne c2901
                refine lv_iload hx hb dX10_wordAt_87 (lv_at hl2870 4 rfl) ?_
                refine lv_iconst (v := 1) hx hb dX10_wordAt_89 (by decide) ?_
                refine lv_iadd hx hb dX10_wordAt_90 ?_
                refine lv_topi (fun x2903 ex2903 => ?_)
                have tx2903 := i_add ex2903 (by omega)
                refine lv_istore (lv' := [(4, .int x2903), (0, .ref a0), (1, .int x1), (2, .int x2), (3, .int x2871), (5, .int x2873)]) hx hb dX10_wordAt_91 hl2870 (by decide) rfl (fun ls2904 hl2905 => ?_)
                have cn_x1 := i_cl (x := x1) (by omega)
                have cn_x2 := i_cl (x := x2) (by omega)
                have me2906 : rMi bt x1.toNatClampNeg x2.toNatClampNeg kn 500 0 = x2873.toNatClampNeg := hsp19.trans (rMi_end (by first | (exact Or.inl (by omega)) | (refine Or.inr ?_; rw [← None, None]; omega)))
                have mm0 : rMt bt x1.toNatClampNeg x2.toNatClampNeg kn = false := decide_eq_false (by rw [me2906]; rw [← wdx2900]; omega)
                exact J93 ((114 - x2903.toInt).toNat + 1) (kn + 1) ls2904 H2868 locsH2868 (x2903) (lv_sub hl2905 [1, 2, 3, 4, 0] rfl) hTH2868 hSH2868 (by have := i_rng x2903; omega) cy2874_0 cy2874_1 gy2874_WD fy2874_bt (by omega) (by omega) (by omega) (by omega) (cntW_s hk2) mm0
              · have k2902 := i_eq c2901
                refine lv_iload_n hx hb dX10_wordAt_85 rfl (lv_at hl2870 3 rfl) ?_
                have cn_x1 := i_cl (x := x1) (by omega)
                have cn_x2 := i_cl (x := x2) (by omega)
                have me2907 : rMi bt x1.toNatClampNeg x2.toNatClampNeg kn 500 0 = x2873.toNatClampNeg := hsp19.trans (rMi_end (by first | (exact Or.inl (by omega)) | (refine Or.inr ?_; rw [← None, None]; omega)))
                have hc24 := cntW_le kn (by omega) hk2
                exact x_iret C hQ dX10_wordAt_86 hSH2868 (by decide) (by decide) (⟨x2871, rfl, by omega, (hsp5.trans (rWn_y (by rw [wPos_cnt kn (by omega) hk2]; exact decide_eq_true ⟨by rw [me2907]; omega, by rw [me2907, ← wdx2900]; omega⟩) (by omega))).trans (by omega), hTH2868⟩)
          · have k2889 := i_nle c2888
            refine lv_aload_n hx hb dX10_wordAt_27 rfl (lv_at hl2870 0 rfl) ?_
            refine x_gr C hTH2868 (ci := 10) (k := 23) rfl inX10 (by decide) wF_X10_56 ga0 rg_112 rfl dX10_wordAt_28 (fun q2908 eq2908 gq2908 => ?_)
            have uq2908 : wq = q2908 := (cy2874_0).trans eq2908.symm
            subst uq2908
            refine lv_iload hx hb dX10_wordAt_31 (lv_at hl2870 4 rfl) ?_
            refine lv_iconst (v := 1) hx hb dX10_wordAt_33 (by decide) ?_
            refine lv_iadd hx hb dX10_wordAt_34 ?_
            refine lv_topi (fun x2909 ex2909 => ?_)
            have tx2909 := i_add ex2909 (by omega)
            refine lv_iload hx hb dX10_wordAt_35 (lv_at hl2870 5 rfl) ?_
            refine lv_iadd hx hb dX10_wordAt_37 ?_
            refine lv_topi (fun x2910 ex2910 => ?_)
            have tx2910 := i_add ex2910 (by omega)
            refine x_ai C hTH2868 gwq rg_127 ⟨by omega, by show _ < ((115 : Nat) : Int); omega⟩ dX10_wordAt_38 (fun x2911 ex2911 bx2911 => ?_)
            have cn_x2873 := i_cl (x := x2873) bx2873.1
            have wdx2911 := wd_at (n := kn + 1 + x2873.toNatClampNeg) gy2874_WD cy2874_0 ex2911 (by omega) (by omega)
            refine lv_aload_n hx hb dX10_wordAt_39 rfl (lv_at hl2870 0 rfl) ?_
            refine x_gr C hTH2868 (ci := 10) (k := 17) rfl inX10 (by decide) wF_X10_53 ga0 rg_112 rfl dX10_wordAt_40 (fun q2912 eq2912 gq2912 => ?_)
            have uq2912 : tq = q2912 := (cy2874_1).trans eq2912.symm
            subst uq2912
            refine lv_iload_n hx hb dX10_wordAt_43 rfl (lv_at hl2870 1 rfl) ?_
            refine lv_iload hx hb dX10_wordAt_44 (lv_at hl2870 5 rfl) ?_
            refine lv_iadd hx hb dX10_wordAt_46 ?_
            refine lv_topi (fun x2913 ex2913 => ?_)
            have tx2913 := i_add ex2913 (by omega)
            refine x_ai C hTH2868 gtq rg_126 ⟨by omega, by show _ < ((500 : Nat) : Int); omega⟩ dX10_wordAt_47 (fun x2914 ex2914 bx2914 => ?_)
            have qvx2914 : bt x2913.toNatClampNeg = x2914.toInt := (fy2874_bt _).trans (congrArg Int32.toInt ex2914.symm)
            have cn_x2913 := i_cl (x := x2913) (by omega)
            have cn_x1 := i_cl (x := x1) (by omega)
            have qn2915 : bt (x1.toNatClampNeg + x2873.toNatClampNeg) = x2914.toInt := by rw [show x1.toNatClampNeg + x2873.toNatClampNeg = x2913.toNatClampNeg by omega]; exact qvx2914
            refine lv_icmp_ne (tgt := 60) hx hb dX10_wordAt_48 (by decide) (fun c2916 => ?_) (fun c2916 => ?_)
            · have k2917 := i_ne c2916
              refine lv_iload_n hx hb dX10_wordAt_60 rfl (lv_at hl2870 1 rfl) ?_
              refine lv_iload hx hb dX10_wordAt_61 (lv_at hl2870 5 rfl) ?_
              refine lv_iadd hx hb dX10_wordAt_63 ?_
              refine lv_topi (fun x2918 ex2918 => ?_)
              have tx2918 := i_add ex2918 (by omega)
              refine lv_iload_n hx hb dX10_wordAt_64 rfl (lv_at hl2870 2 rfl) ?_
              refine lv_icmp_ne (tgt := 87) hx hb dX10_wordAt_65 (by decide) (fun c2919 => ?_) (fun c2919 => ?_)
              · have k2920 := i_ne c2919
                refine lv_iload hx hb dX10_wordAt_87 (lv_at hl2870 4 rfl) ?_
                refine lv_iconst (v := 1) hx hb dX10_wordAt_89 (by decide) ?_
                refine lv_iadd hx hb dX10_wordAt_90 ?_
                refine lv_topi (fun x2921 ex2921 => ?_)
                have tx2921 := i_add ex2921 (by omega)
                refine lv_istore (lv' := [(4, .int x2921), (0, .ref a0), (1, .int x1), (2, .int x2), (3, .int x2871), (5, .int x2873)]) hx hb dX10_wordAt_91 hl2870 (by decide) rfl (fun ls2922 hl2923 => ?_)
                have cn_x2 := i_cl (x := x2) (by omega)
                have me2924 : rMi bt x1.toNatClampNeg x2.toNatClampNeg kn 500 0 = x2873.toNatClampNeg := hsp19.trans (rMi_end (by first | (exact Or.inl (by omega)) | (refine Or.inr ?_; rw [← wdx2911, qn2915]; omega)))
                have mm0 : rMt bt x1.toNatClampNeg x2.toNatClampNeg kn = false := decide_eq_false (by rw [me2924]; omega)
                exact J93 ((114 - x2921.toInt).toNat + 1) (kn + 1) ls2922 H2868 locsH2868 (x2921) (lv_sub hl2923 [1, 2, 3, 4, 0] rfl) hTH2868 hSH2868 (by have := i_rng x2921; omega) cy2874_0 cy2874_1 gy2874_WD fy2874_bt (by omega) (by omega) (by omega) (by omega) (cntW_s hk2) mm0
              · have k2920 := i_eq c2919
                refine lv_aload_n hx hb dX10_wordAt_68 rfl (lv_at hl2870 0 rfl) ?_
                refine x_gr C hTH2868 (ci := 10) (k := 23) rfl inX10 (by decide) wF_X10_56 ga0 rg_112 rfl dX10_wordAt_69 (fun q2925 eq2925 gq2925 => ?_)
                have uq2925 : wq = q2925 := (cy2874_0).trans eq2925.symm
                subst uq2925
                refine lv_iload hx hb dX10_wordAt_72 (lv_at hl2870 4 rfl) ?_
                refine lv_iconst (v := 1) hx hb dX10_wordAt_74 (by decide) ?_
                refine lv_iadd hx hb dX10_wordAt_75 ?_
                refine lv_topi (fun x2926 ex2926 => ?_)
                have tx2926 := i_add ex2926 (by omega)
                refine lv_iload hx hb dX10_wordAt_76 (lv_at hl2870 5 rfl) ?_
                refine lv_iadd hx hb dX10_wordAt_78 ?_
                refine lv_topi (fun x2927 ex2927 => ?_)
                have tx2927 := i_add ex2927 (by omega)
                refine x_ai C hTH2868 gwq rg_127 ⟨by omega, by show _ < ((115 : Nat) : Int); omega⟩ dX10_wordAt_79 (fun x2928 ex2928 bx2928 => ?_)
                have wdx2928 := wd_at (n := kn + 1 + x2873.toNatClampNeg) gy2874_WD cy2874_0 ex2928 (by omega) (by omega)
                refine lv_bipush (v := 32) hx hb dX10_wordAt_80 (by decide) ?_
                refine lv_icmp_ne (tgt := 87) hx hb dX10_wordAt_82 (by decide) (fun c2929 => ?_) (fun c2929 => ?_)
                · have k2930 := i_ne c2929
                  refine lv_iload hx hb dX10_wordAt_87 (lv_at hl2870 4 rfl) ?_
                  refine lv_iconst (v := 1) hx hb dX10_wordAt_89 (by decide) ?_
                  refine lv_iadd hx hb dX10_wordAt_90 ?_
                  refine lv_topi (fun x2931 ex2931 => ?_)
                  have tx2931 := i_add ex2931 (by omega)
                  refine lv_istore (lv' := [(4, .int x2931), (0, .ref a0), (1, .int x1), (2, .int x2), (3, .int x2871), (5, .int x2873)]) hx hb dX10_wordAt_91 hl2870 (by decide) rfl (fun ls2932 hl2933 => ?_)
                  have cn_x2 := i_cl (x := x2) (by omega)
                  have me2934 : rMi bt x1.toNatClampNeg x2.toNatClampNeg kn 500 0 = x2873.toNatClampNeg := hsp19.trans (rMi_end (by first | (exact Or.inl (by omega)) | (refine Or.inr ?_; rw [← wdx2911, qn2915]; omega)))
                  have mm0 : rMt bt x1.toNatClampNeg x2.toNatClampNeg kn = false := decide_eq_false (by rw [me2934]; rw [← wdx2928]; omega)
                  exact J93 ((114 - x2931.toInt).toNat + 1) (kn + 1) ls2932 H2868 locsH2868 (x2931) (lv_sub hl2933 [1, 2, 3, 4, 0] rfl) hTH2868 hSH2868 (by have := i_rng x2931; omega) cy2874_0 cy2874_1 gy2874_WD fy2874_bt (by omega) (by omega) (by omega) (by omega) (cntW_s hk2) mm0
                · have k2930 := i_eq c2929
                  refine lv_iload_n hx hb dX10_wordAt_85 rfl (lv_at hl2870 3 rfl) ?_
                  have cn_x2 := i_cl (x := x2) (by omega)
                  have me2935 : rMi bt x1.toNatClampNeg x2.toNatClampNeg kn 500 0 = x2873.toNatClampNeg := hsp19.trans (rMi_end (by first | (exact Or.inl (by omega)) | (refine Or.inr ?_; rw [← wdx2911, qn2915]; omega)))
                  have hc24 := cntW_le kn (by omega) hk2
                  exact x_iret C hQ dX10_wordAt_86 hSH2868 (by decide) (by decide) (⟨x2871, rfl, by omega, (hsp5.trans (rWn_y (by rw [wPos_cnt kn (by omega) hk2]; exact decide_eq_true ⟨by rw [me2935]; omega, by rw [me2935, ← wdx2928]; omega⟩) (by omega))).trans (by omega), hTH2868⟩)
            · have k2917 := i_eq c2916
              refine lv_iload hx hb dX10_wordAt_51 (lv_at hl2870 5 rfl) ?_
              refine lv_iconst (v := 1) hx hb dX10_wordAt_53 (by decide) ?_
              refine lv_iadd hx hb dX10_wordAt_54 ?_
              refine lv_topi (fun x2936 ex2936 => ?_)
              have tx2936 := i_add ex2936 (by omega)
              refine lv_istore (lv' := [(5, .int x2936), (0, .ref a0), (1, .int x1), (2, .int x2), (3, .int x2871), (4, .int x2866)]) hx hb dX10_wordAt_55 hl2870 (by decide) rfl (fun ls2937 hl2938 => ?_)
              refine lv_goto (tgt := 19) hx hb dX10_wordAt_57 (by decide) ?_
              have cn_x2936 := i_cl (x := x2936) (by omega)
              have cn_x2 := i_cl (x := x2) (by omega)
              have nbx := hy0 (x1.toNatClampNeg + x2873.toNatClampNeg) (by omega) (by omega)
              rw [qn2915] at nbx
              have w114 : kn + 1 + x2873.toNatClampNeg ≠ 114 := fun e => by rw [e] at wdx2911; have e3 : wdN 114 = 32 := (by decide); omega
              exact ih19  ls2937 H2868 locsH2868 (x2871) (x2936) (lv_sub hl2938 [1, 2, 3, 4, 5, 0] rfl) hTH2868 hSH2868 bx2871 (by have := i_rng x2866; omega) (by have := i_rng x2936; omega) cy2874_0 cy2874_1 gy2874_WD fy2874_bt (by omega) (by omega) (hsp19.trans (rMi_go ⟨by omega, by rw [← wdx2911, qn2915]; omega⟩ (by omega) (by omega)))
      refine lv_iload hx hb dX10_wordAt_5 (lv_at hl2864 4 rfl) ?_
      refine lv_bipush (v := 114) hx hb dX10_wordAt_7 (by decide) ?_
      refine lv_icmp_ge (tgt := 117) hx hb dX10_wordAt_9 (by decide) (fun c2939 => ?_) (fun c2939 => ?_)
      · have k2940 := i_le c2939
        refine lv_iconst (v := (-1)) hx hb dX10_wordAt_117 (by decide) ?_
        have cn_x1 := i_cl (x := x1) (by omega)
        exact x_iret C hQ dX10_wordAt_118 hSH2862 (by decide) (by decide) (⟨(-1), rfl, by decide, hsp5.trans (by rw [show kn = 114 by omega]; rfl), hTH2862⟩)
      · have k2940 := i_nle c2939
        refine lv_iconst (v := 0) hx hb dX10_wordAt_12 (by decide) ?_
        refine lv_istore (lv' := [(5, .int 0), (0, .ref a0), (1, .int x1), (2, .int x2), (3, .int x2865), (4, .int x2866)]) hx hb dX10_wordAt_13 hl2864 (by decide) rfl (fun ls2941 hl2942 => ?_)
        have hc23 := cntW_le kn (by omega) hk2
        refine lv_iload_n hx hb dX10_wordAt_15 rfl (lv_at hl2942 4 rfl) ?_
        refine lv_iconst (v := 1) hx hb dX10_wordAt_16 (by decide) ?_
        refine lv_iadd hx hb dX10_wordAt_17 ?_
        refine lv_topi (fun x2943 ex2943 => ?_)
        have tx2943 := i_add ex2943 (by omega)
        refine lv_istore_n (lv' := [(3, .int x2943), (5, .int 0), (0, .ref a0), (1, .int x1), (2, .int x2), (4, .int x2866)]) hx hb dX10_wordAt_18 rfl hl2942 (by decide) rfl (fun ls2944 hl2945 => ?_)
        exact J19 ((114 - (0 : Int32).toInt).toNat + 1)  ls2944 H2862 locsH2862 (x2943) (0) (lv_sub hl2945 [2, 3, 4, 0, 5, 1] rfl) hTH2862 hSH2862 (by have := i_rng x2943; omega) (by have := i_rng x2866; omega) (by decide) cy2867_0 cy2867_1 gy2867_WD fy2867_bt (by omega) (by omega) rfl
  refine lv_iconst (v := (-1)) hx hb dX10_wordAt_0 (by decide) ?_
  refine lv_istore_n (lv' := [(3, .int (-1)), (0, .ref a0), (1, .int x1), (2, .int x2)]) hx hb dX10_wordAt_1 rfl hl (by decide) rfl (fun ls2946 hl2947 => ?_)
  refine lv_iconst (v := 0) hx hb dX10_wordAt_2 (by decide) ?_
  refine lv_istore (lv' := [(4, .int 0), (3, .int (-1)), (0, .ref a0), (1, .int x1), (2, .int x2)]) hx hb dX10_wordAt_3 hl2947 (by decide) rfl (fun ls2948 hl2949 => ?_)
  exact J5 ((114 - (0 : Int32).toInt).toNat + 1) (0 : Nat) ls2948 s.heap [] ((-1)) (0) (lv_sub hl2949 [2, 3, 4, 1, 0] rfl) hT hS (by decide) (by decide) ewq etq hg_WD f0_bt (by omega) (by omega) (by decide) (by show _ = ((0 : Nat) : Int); omega) (by decide) rfl
