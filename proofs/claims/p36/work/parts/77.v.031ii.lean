set_option maxHeartbeats 4000000 in
set_option maxRecDepth 100000 in
theorem k_X9_init_main_x (l : Launch) (K : KE) (G : Nat → Option Nat) (H : Heap) {a : Nat} (hT : TY K G H) (hn : G a = none) (hR : RAW K H a 9 [.null, .null, .null, .int 0, .null, .null, .null, .null, .null, .null, .null, .null]) : MX l K yX9_init cX9_init 1 none 3 53 477 22009 [.ref a] H (fun q => q = a ∨ H.size ≤ q) (fun v H1 => v = none ∧ ∃ G1 : Nat → Option Nat, (∀ q, q < H.size → q ≠ a → G1 q = G q) ∧ G1 a = some 68 ∧ TY K G1 H1 ∧ ∃ w : Nat, G1 w = some 0 ∧ FX K H1 a w ∧ OWN K H1 w ∧ OWZ K H1 w) := by
  refine MX.of (by decide +kernel) (Nat.le_of_ble_eq_true rfl) ?_
  intro p e s m below meth c ls Q C hH hl hQ
  subst hH
  have C : CX p K s m _ meth c RX9 cX9_init 1 none "<init>" := C
  obtain ⟨hx, hb, hml, hown, hts, hKT, hr, hlocks, hnm⟩ := id C
  have hl : lv_has ls 1 [(0, .ref a)] := hl
  have hS : va_S (fun q => q = a ∨ s.heap.size ≤ q) s.heap s.heap [] := va_S.rf
  have n_0 : (0 : Int32).toInt = 0 := rfl
  have n_10 : (10 : Int32).toInt = 10 := rfl
  have n_16 : (16 : Int32).toInt = 16 := rfl
  have n_500 : (500 : Int32).toInt = 500 := rfl
  have hGo : ∀ q, q < s.heap.size → q ≠ a → G q = G q := fun _ _ _ => rfl
  refine lv_aload_n hx hb dX9_init_0 rfl (lv_at hl 0 rfl) ?_
  refine x_objInit C wM_X9_3 wIM_OBJ wCD_OBJ hl.1 (by decide) dX9_init_1 ?_
  refine lv_aload_n hx hb dX9_init_4 rfl (lv_at hl 0 rfl) ?_
  refine x_new C hT hS (ci := 8) (ty0 := tyX8) (vs := [.null, .int 0, .null, .null, .int 0, .int 0, .int 0, .int 0, .null, .null, .int 0, .null, .null, .int 0, .null, .null, .int 0]) rfl inX8 tyX8_ok wC_X9_9 wIS_X8 wIN_X8 dfX8 ⟨by decide, by decide⟩ dX9_init_5 (fun H101 hR103 hTH101 hSH101 oH101 zH101 => ?_)
  have hNq102 : G s.heap.size = none := hT.gb _ (Nat.le_refl _)
  have nr_a_q102 : a ≠ s.heap.size := Nat.ne_of_lt hR.lt
  replace hR := hR.kept (oH101 _ hR.lt)
  obtain ⟨q102, eq102⟩ : ∃ q, q = s.heap.size := ⟨_, rfl⟩
  have leq102 : s.heap.size ≤ q102 := by rw [eq102]; exact hS.1
  rw [← eq102] at hNq102 hR103 nr_a_q102
  rw [← eq102]
  clear eq102
  clear oH101 zH101 hT
  refine lv_dup hx hb dX9_init_8 rfl ?_
  have lt_a_H104 := hR.lt
  refine x_I (As := []) (rest := [.ref q102, .ref a]) C (k_X8_init_now_x l K G H101 (a := q102) hTH101 hNq102 hR103) yo_X8_init rfl wM_X9_11 ⟨⟨by decide, by decide⟩, by decide, by decide⟩ rfl hl.1 rfl (Nat.le_of_ble_eq_true rfl) dX9_init_9 hSH101 (fun x h => Or.inr (h.elim (fun e => by rw [e]; exact leq102) (fun h => Nat.le_trans hSH101.1 h))) (fun vH104 H104 locsH104 pH104 zH104 kH104 hSH104 => ?_)
  obtain ⟨hvH104, G105, hgH104, ggH104, hTH104, fq102_1, fq102_4, fq102_5, fq102_6, fq102_7, fq102_10, fq102_13, fq102_16, owq102, ozq102⟩ := pH104
  subst hvH104
  replace hR := hR.kept (kH104 _ lt_a_H104 (fun h => h.elim nr_a_q102 (Nat.not_le.mpr lt_a_H104)))
  replace hn : G105 a = none := (hgH104 _ lt_a_H104 nr_a_q102).trans hn
  replace hGo : ∀ q, q < s.heap.size → q ≠ a → G105 q = G q := fun q hq hqa => (hgH104 q (Nat.lt_of_lt_of_le hq hSH101.1) (Nat.ne_of_lt (Nat.lt_of_lt_of_le hq leq102))).trans (hGo q hq hqa)
  have gq102 : G105 q102 = some 0 := ggH104
  clear hR103 hNq102 ggH104 hgH104 kH104 zH104 hTH101 lt_a_H104
  refine W.eq (g2 := F0 m 12 ls [.ref q102, .ref a]) rfl ?_
  refine x_putR C hTH104 hSH104 (ci := 9) (k := 0) (v := .ref q102) (ty0 := tyX9) hR hn rfl inX9 tyX9_ok nmX9 (by decide) (Or.inr ⟨rfl, rfl, rfl⟩) wF_X9_12 (Nat.le_of_ble_eq_true rfl) rfl rfl (Or.inl rfl) dX9_init_12 (fun H106 locsH106 hR2 hTH106 hSH106 oH106 zH106 => ?_)
  clear hR
  have hR : RAW K H106 a 9 [.ref q102, .null, .null, .int 0, .null, .null, .null, .null, .null, .null, .null, .null] := hR2
  clear hR2
  replace owq102 := OWN.kept hTH104 gq102 (fun q t hq => oH106 _ (g_ne hq hn)) owq102
  replace ozq102 := OWZ.kept hTH104 gq102 (fun q t hq => oH106 _ (g_ne hq hn)) ozq102
  have m107 := (fI_kept (oH106 _ (g_ne gq102 hn))).trans fq102_1
  have m108 := (fI_kept (oH106 _ (g_ne gq102 hn))).trans fq102_4
  have m109 := (fI_kept (oH106 _ (g_ne gq102 hn))).trans fq102_5
  have m110 := (fI_kept (oH106 _ (g_ne gq102 hn))).trans fq102_6
  have m111 := (fI_kept (oH106 _ (g_ne gq102 hn))).trans fq102_7
  have m112 := (fI_kept (oH106 _ (g_ne gq102 hn))).trans fq102_10
  have m113 := (fI_kept (oH106 _ (g_ne gq102 hn))).trans fq102_13
  have m114 := (fI_kept (oH106 _ (g_ne gq102 hn))).trans fq102_16
  clear oH106 zH106 hTH104
  refine lv_aload_n hx hb dX9_init_15 rfl (lv_at hl 0 rfl) ?_
  refine lv_sipush (v := 500) hx hb dX9_init_16 (by decide) ?_
  refine x_newa C hTH106 hSH106 wAC_int rg_108 (by decide) rfl (by decide) ⟨by decide, by decide⟩ dX9_init_19 (fun H115 hTH115 hSH115 oH115 zH115 vH115 => ?_)
  have hNH115 : G105 H106.size = none := hTH106.gb _ (Nat.le_refl _)
  obtain ⟨G117, eGG117⟩ : ∃ g, g = gU G105 H106.size 108 := ⟨_, rfl⟩
  rw [← eGG117] at hTH115
  have nr_a_q116 : a ≠ H106.size := Nat.ne_of_lt hR.lt
  replace owq102 := OWN.kept hTH106 gq102 (fun q t hq => oH115 _ (hTH106.lt hq)) owq102
  replace ozq102 := OWZ.kept hTH106 gq102 (fun q t hq => oH115 _ (hTH106.lt hq)) ozq102
  have m118 := (fI_kept (oH115 _ (hTH106.lt gq102))).trans m107
  clear m107
  have m119 := (fI_kept (oH115 _ (hTH106.lt gq102))).trans m108
  clear m108
  have m120 := (fI_kept (oH115 _ (hTH106.lt gq102))).trans m109
  clear m109
  have m121 := (fI_kept (oH115 _ (hTH106.lt gq102))).trans m110
  clear m110
  have m122 := (fI_kept (oH115 _ (hTH106.lt gq102))).trans m111
  clear m111
  have m123 := (fI_kept (oH115 _ (hTH106.lt gq102))).trans m112
  clear m112
  have m124 := (fI_kept (oH115 _ (hTH106.lt gq102))).trans m113
  clear m113
  have m125 := (fI_kept (oH115 _ (hTH106.lt gq102))).trans m114
  clear m114
  replace hR := hR.kept (oH115 _ hR.lt)
  replace gq102 : G117 q102 = some 0 := by rw [eGG117]; exact gU_mono hNH115 _ _ gq102
  replace hn : G117 a = none := by rw [eGG117, gU_ne nr_a_q116]; exact hn
  replace hGo : ∀ q, q < s.heap.size → q ≠ a → G117 q = G q := fun q hq hqa => (show G117 q = G105 q by rw [eGG117, gU_ne (Nat.ne_of_lt (Nat.lt_of_lt_of_le hq hSH106.1))]).trans (hGo q hq hqa)
  have gq116 : G117 H106.size = some 108 := by rw [eGG117]; exact gU_at
  obtain ⟨q116, eq116⟩ : ∃ q, q = H106.size := ⟨_, rfl⟩
  have leq116 : s.heap.size ≤ q116 := by rw [eq116]; exact hSH106.1
  rw [← eq116] at gq116 nr_a_q116
  rw [← eq116]
  clear eq116
  clear hNH115 eGG117 oH115 zH115 vH115 hTH106
  refine x_putR C hTH115 hSH115 (ci := 9) (k := 2) (v := .ref q116) (ty0 := tyX9) hR hn rfl inX9 tyX9_ok nmX9 (by decide) (Or.inr ⟨rfl, rfl, rfl⟩) wF_X9_16 (Nat.le_of_ble_eq_true rfl) rfl rfl (Or.inl rfl) dX9_init_21 (fun H126 locsH126 hR2 hTH126 hSH126 oH126 zH126 => ?_)
  clear hR
  have hR : RAW K H126 a 9 [.ref q102, .null, .ref q116, .int 0, .null, .null, .null, .null, .null, .null, .null, .null] := hR2
  clear hR2
  replace owq102 := OWN.kept hTH115 gq102 (fun q t hq => oH126 _ (g_ne hq hn)) owq102
  replace ozq102 := OWZ.kept hTH115 gq102 (fun q t hq => oH126 _ (g_ne hq hn)) ozq102
  have m127 := (fI_kept (oH126 _ (g_ne gq102 hn))).trans m118
  clear m118
  have m128 := (fI_kept (oH126 _ (g_ne gq102 hn))).trans m119
  clear m119
  have m129 := (fI_kept (oH126 _ (g_ne gq102 hn))).trans m120
  clear m120
  have m130 := (fI_kept (oH126 _ (g_ne gq102 hn))).trans m121
  clear m121
  have m131 := (fI_kept (oH126 _ (g_ne gq102 hn))).trans m122
  clear m122
  have m132 := (fI_kept (oH126 _ (g_ne gq102 hn))).trans m123
  clear m123
  have m133 := (fI_kept (oH126 _ (g_ne gq102 hn))).trans m124
  clear m124
  have m134 := (fI_kept (oH126 _ (g_ne gq102 hn))).trans m125
  clear m125
  clear oH126 zH126 hTH115
  refine lv_aload_n hx hb dX9_init_24 rfl (lv_at hl 0 rfl) ?_
  refine x_new C hTH126 hSH126 (ci := 4) (ty0 := tyX4) (vs := [.null, .int 0, .int 0, .null, .null, .null, .int 0, .int 0, .int 0]) rfl inX4 tyX4_ok wC_X9_20 wIS_X4 wIN_X4 dfX4 ⟨by decide, by decide⟩ dX9_init_25 (fun H135 hR137 hTH135 hSH135 oH135 zH135 => ?_)
  have hNq136 : G117 H126.size = none := hTH126.gb _ (Nat.le_refl _)
  have nr_a_q136 : a ≠ H126.size := Nat.ne_of_lt hR.lt
  replace owq102 := OWN.kept hTH126 gq102 (fun q t hq => oH135 _ (hTH126.lt hq)) owq102
  replace ozq102 := OWZ.kept hTH126 gq102 (fun q t hq => oH135 _ (hTH126.lt hq)) ozq102
  have m138 := (fI_kept (oH135 _ (hTH126.lt gq102))).trans m127
  clear m127
  have m139 := (fI_kept (oH135 _ (hTH126.lt gq102))).trans m128
  clear m128
  have m140 := (fI_kept (oH135 _ (hTH126.lt gq102))).trans m129
  clear m129
  have m141 := (fI_kept (oH135 _ (hTH126.lt gq102))).trans m130
  clear m130
  have m142 := (fI_kept (oH135 _ (hTH126.lt gq102))).trans m131
  clear m131
  have m143 := (fI_kept (oH135 _ (hTH126.lt gq102))).trans m132
  clear m132
  have m144 := (fI_kept (oH135 _ (hTH126.lt gq102))).trans m133
  clear m133
  have m145 := (fI_kept (oH135 _ (hTH126.lt gq102))).trans m134
  clear m134
  replace hR := hR.kept (oH135 _ hR.lt)
  obtain ⟨q136, eq136⟩ : ∃ q, q = H126.size := ⟨_, rfl⟩
  have leq136 : s.heap.size ≤ q136 := by rw [eq136]; exact hSH126.1
  rw [← eq136] at hNq136 hR137 nr_a_q136
  rw [← eq136]
  clear eq136
  clear oH135 zH135 hTH126
  refine lv_dup hx hb dX9_init_28 rfl ?_
  have lt_a_H146 := hR.lt
  refine x_IN (As := []) (rest := [.ref q136, .ref a]) C (k_X4_init_reader l K G117 H135 (a := q136) hTH135 hNq136 hR137) yo_X4_init rfl wN_X9_22 ⟨⟨by decide, by decide⟩, by decide, by decide⟩ rfl hl.1 rfl (Nat.le_of_ble_eq_true rfl) dX9_init_29 hSH135 (fun x h => Or.inr (h.elim (fun e => by rw [e]; exact leq136) (fun h => Nat.le_trans hSH135.1 h))) (fun vH146 H146 locsH146 pH146 zH146 kH146 hSH146 => ?_)
  obtain ⟨hvH146, G147, hgH146, ggH146, hTH146⟩ := pH146
  subst hvH146
  replace owq102 := OWN.kept hTH135 gq102 (fun q t hq => kH146 _ (hTH135.lt hq) (fun h => h.elim (g_ne hq hNq136) (Nat.not_le.mpr (hTH135.lt hq)))) owq102
  replace ozq102 := OWZ.kept hTH135 gq102 (fun q t hq => kH146 _ (hTH135.lt hq) (fun h => h.elim (g_ne hq hNq136) (Nat.not_le.mpr (hTH135.lt hq)))) ozq102
  have m148 := (fI_kept (kH146 _ (hTH135.lt gq102) (fun h => h.elim (g_ne gq102 hNq136) (Nat.not_le.mpr (hTH135.lt gq102))))).trans m138
  clear m138
  have m149 := (fI_kept (kH146 _ (hTH135.lt gq102) (fun h => h.elim (g_ne gq102 hNq136) (Nat.not_le.mpr (hTH135.lt gq102))))).trans m139
  clear m139
  have m150 := (fI_kept (kH146 _ (hTH135.lt gq102) (fun h => h.elim (g_ne gq102 hNq136) (Nat.not_le.mpr (hTH135.lt gq102))))).trans m140
  clear m140
  have m151 := (fI_kept (kH146 _ (hTH135.lt gq102) (fun h => h.elim (g_ne gq102 hNq136) (Nat.not_le.mpr (hTH135.lt gq102))))).trans m141
  clear m141
  have m152 := (fI_kept (kH146 _ (hTH135.lt gq102) (fun h => h.elim (g_ne gq102 hNq136) (Nat.not_le.mpr (hTH135.lt gq102))))).trans m142
  clear m142
  have m153 := (fI_kept (kH146 _ (hTH135.lt gq102) (fun h => h.elim (g_ne gq102 hNq136) (Nat.not_le.mpr (hTH135.lt gq102))))).trans m143
  clear m143
  have m154 := (fI_kept (kH146 _ (hTH135.lt gq102) (fun h => h.elim (g_ne gq102 hNq136) (Nat.not_le.mpr (hTH135.lt gq102))))).trans m144
  clear m144
  have m155 := (fI_kept (kH146 _ (hTH135.lt gq102) (fun h => h.elim (g_ne gq102 hNq136) (Nat.not_le.mpr (hTH135.lt gq102))))).trans m145
  clear m145
  replace hR := hR.kept (kH146 _ lt_a_H146 (fun h => h.elim nr_a_q136 (Nat.not_le.mpr lt_a_H146)))
  replace gq102 : G147 q102 = some 0 := (hgH146 _ (hTH135.lt gq102) (g_ne gq102 hNq136)).trans gq102
  replace gq116 : G147 q116 = some 108 := (hgH146 _ (hTH135.lt gq116) (g_ne gq116 hNq136)).trans gq116
  replace hn : G147 a = none := (hgH146 _ lt_a_H146 nr_a_q136).trans hn
  replace hGo : ∀ q, q < s.heap.size → q ≠ a → G147 q = G q := fun q hq hqa => (hgH146 q (Nat.lt_of_lt_of_le hq hSH135.1) (Nat.ne_of_lt (Nat.lt_of_lt_of_le hq leq136))).trans (hGo q hq hqa)
  have gq136 : G147 q136 = some 78 := ggH146
  clear hR137 hNq136 ggH146 hgH146 kH146 zH146 hTH135 lt_a_H146
  refine W.eq (g2 := F0 m 32 ls [.ref q136, .ref a]) rfl ?_
  refine x_putR C hTH146 hSH146 (ci := 9) (k := 4) (v := .ref q136) (ty0 := tyX9) hR hn rfl inX9 tyX9_ok nmX9 (by decide) (Or.inr ⟨rfl, rfl, rfl⟩) wF_X9_23 (Nat.le_of_ble_eq_true rfl) rfl rfl (Or.inl rfl) dX9_init_32 (fun H156 locsH156 hR2 hTH156 hSH156 oH156 zH156 => ?_)
  clear hR
  have hR : RAW K H156 a 9 [.ref q102, .null, .ref q116, .int 0, .ref q136, .null, .null, .null, .null, .null, .null, .null] := hR2
  clear hR2
  replace owq102 := OWN.kept hTH146 gq102 (fun q t hq => oH156 _ (g_ne hq hn)) owq102
  replace ozq102 := OWZ.kept hTH146 gq102 (fun q t hq => oH156 _ (g_ne hq hn)) ozq102
  have m157 := (fI_kept (oH156 _ (g_ne gq102 hn))).trans m148
  clear m148
  have m158 := (fI_kept (oH156 _ (g_ne gq102 hn))).trans m149
  clear m149
  have m159 := (fI_kept (oH156 _ (g_ne gq102 hn))).trans m150
  clear m150
  have m160 := (fI_kept (oH156 _ (g_ne gq102 hn))).trans m151
  clear m151
  have m161 := (fI_kept (oH156 _ (g_ne gq102 hn))).trans m152
  clear m152
  have m162 := (fI_kept (oH156 _ (g_ne gq102 hn))).trans m153
  clear m153
  have m163 := (fI_kept (oH156 _ (g_ne gq102 hn))).trans m154
  clear m154
  have m164 := (fI_kept (oH156 _ (g_ne gq102 hn))).trans m155
  clear m155
  clear oH156 zH156 hTH146
  refine lv_aload_n hx hb dX9_init_35 rfl (lv_at hl 0 rfl) ?_
  refine x_new C hTH156 hSH156 (ci := 6) (ty0 := tyX6) (vs := [.null, .null]) rfl inX6 tyX6_ok wC_X9_27 wIS_X6 wIN_X6 dfX6 ⟨by decide, by decide⟩ dX9_init_36 (fun H165 hR167 hTH165 hSH165 oH165 zH165 => ?_)
  have hNq166 : G147 H156.size = none := hTH156.gb _ (Nat.le_refl _)
  have nr_a_q166 : a ≠ H156.size := Nat.ne_of_lt hR.lt
  replace owq102 := OWN.kept hTH156 gq102 (fun q t hq => oH165 _ (hTH156.lt hq)) owq102
  replace ozq102 := OWZ.kept hTH156 gq102 (fun q t hq => oH165 _ (hTH156.lt hq)) ozq102
  have m168 := (fI_kept (oH165 _ (hTH156.lt gq102))).trans m157
  clear m157
  have m169 := (fI_kept (oH165 _ (hTH156.lt gq102))).trans m158
  clear m158
  have m170 := (fI_kept (oH165 _ (hTH156.lt gq102))).trans m159
  clear m159
  have m171 := (fI_kept (oH165 _ (hTH156.lt gq102))).trans m160
  clear m160
  have m172 := (fI_kept (oH165 _ (hTH156.lt gq102))).trans m161
  clear m161
  have m173 := (fI_kept (oH165 _ (hTH156.lt gq102))).trans m162
  clear m162
  have m174 := (fI_kept (oH165 _ (hTH156.lt gq102))).trans m163
  clear m163
  have m175 := (fI_kept (oH165 _ (hTH156.lt gq102))).trans m164
  clear m164
  replace hR := hR.kept (oH165 _ hR.lt)
  obtain ⟨q166, eq166⟩ : ∃ q, q = H156.size := ⟨_, rfl⟩
  have leq166 : s.heap.size ≤ q166 := by rw [eq166]; exact hSH156.1
  rw [← eq166] at hNq166 hR167 nr_a_q166
  rw [← eq166]
  clear eq166
  clear oH165 zH165 hTH156
  refine lv_dup hx hb dX9_init_39 rfl ?_
  have lt_a_H176 := hR.lt
  refine x_IN (As := []) (rest := [.ref q166, .ref a]) C (k_X6_init_sums l K G147 H165 (a := q166) hTH165 hNq166 hR167) yo_X6_init rfl wN_X9_29 ⟨⟨by decide, by decide⟩, by decide, by decide⟩ rfl hl.1 rfl (Nat.le_of_ble_eq_true rfl) dX9_init_40 hSH165 (fun x h => Or.inr (h.elim (fun e => by rw [e]; exact leq166) (fun h => Nat.le_trans hSH165.1 h))) (fun vH176 H176 locsH176 pH176 zH176 kH176 hSH176 => ?_)
  obtain ⟨hvH176, G177, hgH176, ggH176, hTH176⟩ := pH176
  subst hvH176
  replace owq102 := OWN.kept hTH165 gq102 (fun q t hq => kH176 _ (hTH165.lt hq) (fun h => h.elim (g_ne hq hNq166) (Nat.not_le.mpr (hTH165.lt hq)))) owq102
  replace ozq102 := OWZ.kept hTH165 gq102 (fun q t hq => kH176 _ (hTH165.lt hq) (fun h => h.elim (g_ne hq hNq166) (Nat.not_le.mpr (hTH165.lt hq)))) ozq102
  have m178 := (fI_kept (kH176 _ (hTH165.lt gq102) (fun h => h.elim (g_ne gq102 hNq166) (Nat.not_le.mpr (hTH165.lt gq102))))).trans m168
  clear m168
  have m179 := (fI_kept (kH176 _ (hTH165.lt gq102) (fun h => h.elim (g_ne gq102 hNq166) (Nat.not_le.mpr (hTH165.lt gq102))))).trans m169
  clear m169
  have m180 := (fI_kept (kH176 _ (hTH165.lt gq102) (fun h => h.elim (g_ne gq102 hNq166) (Nat.not_le.mpr (hTH165.lt gq102))))).trans m170
  clear m170
  have m181 := (fI_kept (kH176 _ (hTH165.lt gq102) (fun h => h.elim (g_ne gq102 hNq166) (Nat.not_le.mpr (hTH165.lt gq102))))).trans m171
  clear m171
  have m182 := (fI_kept (kH176 _ (hTH165.lt gq102) (fun h => h.elim (g_ne gq102 hNq166) (Nat.not_le.mpr (hTH165.lt gq102))))).trans m172
  clear m172
  have m183 := (fI_kept (kH176 _ (hTH165.lt gq102) (fun h => h.elim (g_ne gq102 hNq166) (Nat.not_le.mpr (hTH165.lt gq102))))).trans m173
  clear m173
  have m184 := (fI_kept (kH176 _ (hTH165.lt gq102) (fun h => h.elim (g_ne gq102 hNq166) (Nat.not_le.mpr (hTH165.lt gq102))))).trans m174
  clear m174
  have m185 := (fI_kept (kH176 _ (hTH165.lt gq102) (fun h => h.elim (g_ne gq102 hNq166) (Nat.not_le.mpr (hTH165.lt gq102))))).trans m175
  clear m175
  replace hR := hR.kept (kH176 _ lt_a_H176 (fun h => h.elim nr_a_q166 (Nat.not_le.mpr lt_a_H176)))
  replace gq102 : G177 q102 = some 0 := (hgH176 _ (hTH165.lt gq102) (g_ne gq102 hNq166)).trans gq102
  replace gq116 : G177 q116 = some 108 := (hgH176 _ (hTH165.lt gq116) (g_ne gq116 hNq166)).trans gq116
  replace gq136 : G177 q136 = some 78 := (hgH176 _ (hTH165.lt gq136) (g_ne gq136 hNq166)).trans gq136
  replace hn : G177 a = none := (hgH176 _ lt_a_H176 nr_a_q166).trans hn
  replace hGo : ∀ q, q < s.heap.size → q ≠ a → G177 q = G q := fun q hq hqa => (hgH176 q (Nat.lt_of_lt_of_le hq hSH165.1) (Nat.ne_of_lt (Nat.lt_of_lt_of_le hq leq166))).trans (hGo q hq hqa)
  have gq166 : G177 q166 = some 82 := ggH176
  clear hR167 hNq166 ggH176 hgH176 kH176 zH176 hTH165 lt_a_H176
  refine W.eq (g2 := F0 m 43 ls [.ref q166, .ref a]) rfl ?_
  refine x_putR C hTH176 hSH176 (ci := 9) (k := 5) (v := .ref q166) (ty0 := tyX9) hR hn rfl inX9 tyX9_ok nmX9 (by decide) (Or.inr ⟨rfl, rfl, rfl⟩) wF_X9_30 (Nat.le_of_ble_eq_true rfl) rfl rfl (Or.inl rfl) dX9_init_43 (fun H186 locsH186 hR2 hTH186 hSH186 oH186 zH186 => ?_)
  clear hR
  have hR : RAW K H186 a 9 [.ref q102, .null, .ref q116, .int 0, .ref q136, .ref q166, .null, .null, .null, .null, .null, .null] := hR2
  clear hR2
  replace owq102 := OWN.kept hTH176 gq102 (fun q t hq => oH186 _ (g_ne hq hn)) owq102
  replace ozq102 := OWZ.kept hTH176 gq102 (fun q t hq => oH186 _ (g_ne hq hn)) ozq102
  have m187 := (fI_kept (oH186 _ (g_ne gq102 hn))).trans m178
  clear m178
  have m188 := (fI_kept (oH186 _ (g_ne gq102 hn))).trans m179
  clear m179
  have m189 := (fI_kept (oH186 _ (g_ne gq102 hn))).trans m180
  clear m180
  have m190 := (fI_kept (oH186 _ (g_ne gq102 hn))).trans m181
  clear m181
  have m191 := (fI_kept (oH186 _ (g_ne gq102 hn))).trans m182
  clear m182
  have m192 := (fI_kept (oH186 _ (g_ne gq102 hn))).trans m183
  clear m183
  have m193 := (fI_kept (oH186 _ (g_ne gq102 hn))).trans m184
  clear m184
  have m194 := (fI_kept (oH186 _ (g_ne gq102 hn))).trans m185
  clear m185
  clear oH186 zH186 hTH176
  refine lv_aload_n hx hb dX9_init_46 rfl (lv_at hl 0 rfl) ?_
  refine x_new C hTH186 hSH186 (ci := 3) (ty0 := tyX3) (vs := [.null, .null, .null, .null, .null, .null, .null, .null, .null, .int 0, .int 0, .int 0]) rfl inX3 tyX3_ok wC_X9_34 wIS_X3 wIN_X3 dfX3 ⟨by decide, by decide⟩ dX9_init_47 (fun H195 hR197 hTH195 hSH195 oH195 zH195 => ?_)
  have hNq196 : G177 H186.size = none := hTH186.gb _ (Nat.le_refl _)
  have nr_a_q196 : a ≠ H186.size := Nat.ne_of_lt hR.lt
  replace owq102 := OWN.kept hTH186 gq102 (fun q t hq => oH195 _ (hTH186.lt hq)) owq102
  replace ozq102 := OWZ.kept hTH186 gq102 (fun q t hq => oH195 _ (hTH186.lt hq)) ozq102
  have m198 := (fI_kept (oH195 _ (hTH186.lt gq102))).trans m187
  clear m187
  have m199 := (fI_kept (oH195 _ (hTH186.lt gq102))).trans m188
  clear m188
  have m200 := (fI_kept (oH195 _ (hTH186.lt gq102))).trans m189
  clear m189
  have m201 := (fI_kept (oH195 _ (hTH186.lt gq102))).trans m190
  clear m190
  have m202 := (fI_kept (oH195 _ (hTH186.lt gq102))).trans m191
  clear m191
  have m203 := (fI_kept (oH195 _ (hTH186.lt gq102))).trans m192
  clear m192
  have m204 := (fI_kept (oH195 _ (hTH186.lt gq102))).trans m193
  clear m193
  have m205 := (fI_kept (oH195 _ (hTH186.lt gq102))).trans m194
  clear m194
  replace hR := hR.kept (oH195 _ hR.lt)
  obtain ⟨q196, eq196⟩ : ∃ q, q = H186.size := ⟨_, rfl⟩
  have leq196 : s.heap.size ≤ q196 := by rw [eq196]; exact hSH186.1
  rw [← eq196] at hNq196 hR197 nr_a_q196
  rw [← eq196]
  clear eq196
  clear oH195 zH195 hTH186
  refine lv_dup hx hb dX9_init_50 rfl ?_
  have lt_a_H206 := hR.lt
  refine x_IN (As := []) (rest := [.ref q196, .ref a]) C (k_X3_init_passS l K G177 H195 (a := q196) hTH195 hNq196 hR197) yo_X3_init rfl wN_X9_36 ⟨⟨by decide, by decide⟩, by decide, by decide⟩ rfl hl.1 rfl (Nat.le_of_ble_eq_true rfl) dX9_init_51 hSH195 (fun x h => Or.inr (h.elim (fun e => by rw [e]; exact leq196) (fun h => Nat.le_trans hSH195.1 h))) (fun vH206 H206 locsH206 pH206 zH206 kH206 hSH206 => ?_)
  obtain ⟨hvH206, G207, hgH206, ggH206, hTH206⟩ := pH206
  subst hvH206
  replace owq102 := OWN.kept hTH195 gq102 (fun q t hq => kH206 _ (hTH195.lt hq) (fun h => h.elim (g_ne hq hNq196) (Nat.not_le.mpr (hTH195.lt hq)))) owq102
  replace ozq102 := OWZ.kept hTH195 gq102 (fun q t hq => kH206 _ (hTH195.lt hq) (fun h => h.elim (g_ne hq hNq196) (Nat.not_le.mpr (hTH195.lt hq)))) ozq102
  have m208 := (fI_kept (kH206 _ (hTH195.lt gq102) (fun h => h.elim (g_ne gq102 hNq196) (Nat.not_le.mpr (hTH195.lt gq102))))).trans m198
  clear m198
  have m209 := (fI_kept (kH206 _ (hTH195.lt gq102) (fun h => h.elim (g_ne gq102 hNq196) (Nat.not_le.mpr (hTH195.lt gq102))))).trans m199
  clear m199
  have m210 := (fI_kept (kH206 _ (hTH195.lt gq102) (fun h => h.elim (g_ne gq102 hNq196) (Nat.not_le.mpr (hTH195.lt gq102))))).trans m200
  clear m200
  have m211 := (fI_kept (kH206 _ (hTH195.lt gq102) (fun h => h.elim (g_ne gq102 hNq196) (Nat.not_le.mpr (hTH195.lt gq102))))).trans m201
  clear m201
  have m212 := (fI_kept (kH206 _ (hTH195.lt gq102) (fun h => h.elim (g_ne gq102 hNq196) (Nat.not_le.mpr (hTH195.lt gq102))))).trans m202
  clear m202
  have m213 := (fI_kept (kH206 _ (hTH195.lt gq102) (fun h => h.elim (g_ne gq102 hNq196) (Nat.not_le.mpr (hTH195.lt gq102))))).trans m203
  clear m203
  have m214 := (fI_kept (kH206 _ (hTH195.lt gq102) (fun h => h.elim (g_ne gq102 hNq196) (Nat.not_le.mpr (hTH195.lt gq102))))).trans m204
  clear m204
  have m215 := (fI_kept (kH206 _ (hTH195.lt gq102) (fun h => h.elim (g_ne gq102 hNq196) (Nat.not_le.mpr (hTH195.lt gq102))))).trans m205
  clear m205
  replace hR := hR.kept (kH206 _ lt_a_H206 (fun h => h.elim nr_a_q196 (Nat.not_le.mpr lt_a_H206)))
  replace gq102 : G207 q102 = some 0 := (hgH206 _ (hTH195.lt gq102) (g_ne gq102 hNq196)).trans gq102
  replace gq116 : G207 q116 = some 108 := (hgH206 _ (hTH195.lt gq116) (g_ne gq116 hNq196)).trans gq116
  replace gq136 : G207 q136 = some 78 := (hgH206 _ (hTH195.lt gq136) (g_ne gq136 hNq196)).trans gq136
  replace gq166 : G207 q166 = some 82 := (hgH206 _ (hTH195.lt gq166) (g_ne gq166 hNq196)).trans gq166
  replace hn : G207 a = none := (hgH206 _ lt_a_H206 nr_a_q196).trans hn
  replace hGo : ∀ q, q < s.heap.size → q ≠ a → G207 q = G q := fun q hq hqa => (hgH206 q (Nat.lt_of_lt_of_le hq hSH195.1) (Nat.ne_of_lt (Nat.lt_of_lt_of_le hq leq196))).trans (hGo q hq hqa)
  have gq196 : G207 q196 = some 89 := ggH206
  clear hR197 hNq196 ggH206 hgH206 kH206 zH206 hTH195 lt_a_H206
  refine W.eq (g2 := F0 m 54 ls [.ref q196, .ref a]) rfl ?_
  refine x_putR C hTH206 hSH206 (ci := 9) (k := 6) (v := .ref q196) (ty0 := tyX9) hR hn rfl inX9 tyX9_ok nmX9 (by decide) (Or.inr ⟨rfl, rfl, rfl⟩) wF_X9_37 (Nat.le_of_ble_eq_true rfl) rfl rfl (Or.inl rfl) dX9_init_54 (fun H216 locsH216 hR2 hTH216 hSH216 oH216 zH216 => ?_)
  clear hR
  have hR : RAW K H216 a 9 [.ref q102, .null, .ref q116, .int 0, .ref q136, .ref q166, .ref q196, .null, .null, .null, .null, .null] := hR2
  clear hR2
  replace owq102 := OWN.kept hTH206 gq102 (fun q t hq => oH216 _ (g_ne hq hn)) owq102
  replace ozq102 := OWZ.kept hTH206 gq102 (fun q t hq => oH216 _ (g_ne hq hn)) ozq102
  have m217 := (fI_kept (oH216 _ (g_ne gq102 hn))).trans m208
  clear m208
  have m218 := (fI_kept (oH216 _ (g_ne gq102 hn))).trans m209
  clear m209
  have m219 := (fI_kept (oH216 _ (g_ne gq102 hn))).trans m210
  clear m210
  have m220 := (fI_kept (oH216 _ (g_ne gq102 hn))).trans m211
  clear m211
  have m221 := (fI_kept (oH216 _ (g_ne gq102 hn))).trans m212
  clear m212
  have m222 := (fI_kept (oH216 _ (g_ne gq102 hn))).trans m213
  clear m213
  have m223 := (fI_kept (oH216 _ (g_ne gq102 hn))).trans m214
  clear m214
  have m224 := (fI_kept (oH216 _ (g_ne gq102 hn))).trans m215
  clear m215
  clear oH216 zH216 hTH206
  refine lv_aload_n hx hb dX9_init_57 rfl (lv_at hl 0 rfl) ?_
  refine x_new C hTH216 hSH216 (ci := 1) (ty0 := tyX1) (vs := [.null, .null, .null, .null, .int 0, .int 0, .null, .null]) rfl inX1 tyX1_ok wC_X9_41 wIS_X1 wIN_X1 dfX1 ⟨by decide, by decide⟩ dX9_init_58 (fun H225 hR227 hTH225 hSH225 oH225 zH225 => ?_)
  have hNq226 : G207 H216.size = none := hTH216.gb _ (Nat.le_refl _)
  have nr_a_q226 : a ≠ H216.size := Nat.ne_of_lt hR.lt
  replace owq102 := OWN.kept hTH216 gq102 (fun q t hq => oH225 _ (hTH216.lt hq)) owq102
  replace ozq102 := OWZ.kept hTH216 gq102 (fun q t hq => oH225 _ (hTH216.lt hq)) ozq102
  have m228 := (fI_kept (oH225 _ (hTH216.lt gq102))).trans m217
  clear m217
  have m229 := (fI_kept (oH225 _ (hTH216.lt gq102))).trans m218
  clear m218
  have m230 := (fI_kept (oH225 _ (hTH216.lt gq102))).trans m219
  clear m219
  have m231 := (fI_kept (oH225 _ (hTH216.lt gq102))).trans m220
  clear m220
  have m232 := (fI_kept (oH225 _ (hTH216.lt gq102))).trans m221
  clear m221
  have m233 := (fI_kept (oH225 _ (hTH216.lt gq102))).trans m222
  clear m222
  have m234 := (fI_kept (oH225 _ (hTH216.lt gq102))).trans m223
  clear m223
  have m235 := (fI_kept (oH225 _ (hTH216.lt gq102))).trans m224
  clear m224
  replace hR := hR.kept (oH225 _ hR.lt)
  obtain ⟨q226, eq226⟩ : ∃ q, q = H216.size := ⟨_, rfl⟩
  have leq226 : s.heap.size ≤ q226 := by rw [eq226]; exact hSH216.1
  rw [← eq226] at hNq226 hR227 nr_a_q226
  rw [← eq226]
  clear eq226
  clear oH225 zH225 hTH216
  refine lv_dup hx hb dX9_init_61 rfl ?_
  have lt_a_H236 := hR.lt
  refine x_IN (As := []) (rest := [.ref q226, .ref a]) C (k_X1_init_grainS l K G207 H225 (a := q226) hTH225 hNq226 hR227) yo_X1_init rfl wN_X9_43 ⟨⟨by decide, by decide⟩, by decide, by decide⟩ rfl hl.1 rfl (Nat.le_of_ble_eq_true rfl) dX9_init_62 hSH225 (fun x h => Or.inr (h.elim (fun e => by rw [e]; exact leq226) (fun h => Nat.le_trans hSH225.1 h))) (fun vH236 H236 locsH236 pH236 zH236 kH236 hSH236 => ?_)
  obtain ⟨hvH236, G237, hgH236, ggH236, hTH236⟩ := pH236
  subst hvH236
  replace owq102 := OWN.kept hTH225 gq102 (fun q t hq => kH236 _ (hTH225.lt hq) (fun h => h.elim (g_ne hq hNq226) (Nat.not_le.mpr (hTH225.lt hq)))) owq102
  replace ozq102 := OWZ.kept hTH225 gq102 (fun q t hq => kH236 _ (hTH225.lt hq) (fun h => h.elim (g_ne hq hNq226) (Nat.not_le.mpr (hTH225.lt hq)))) ozq102
  have m238 := (fI_kept (kH236 _ (hTH225.lt gq102) (fun h => h.elim (g_ne gq102 hNq226) (Nat.not_le.mpr (hTH225.lt gq102))))).trans m228
  clear m228
  have m239 := (fI_kept (kH236 _ (hTH225.lt gq102) (fun h => h.elim (g_ne gq102 hNq226) (Nat.not_le.mpr (hTH225.lt gq102))))).trans m229
  clear m229
  have m240 := (fI_kept (kH236 _ (hTH225.lt gq102) (fun h => h.elim (g_ne gq102 hNq226) (Nat.not_le.mpr (hTH225.lt gq102))))).trans m230
  clear m230
  have m241 := (fI_kept (kH236 _ (hTH225.lt gq102) (fun h => h.elim (g_ne gq102 hNq226) (Nat.not_le.mpr (hTH225.lt gq102))))).trans m231
  clear m231
  have m242 := (fI_kept (kH236 _ (hTH225.lt gq102) (fun h => h.elim (g_ne gq102 hNq226) (Nat.not_le.mpr (hTH225.lt gq102))))).trans m232
  clear m232
  have m243 := (fI_kept (kH236 _ (hTH225.lt gq102) (fun h => h.elim (g_ne gq102 hNq226) (Nat.not_le.mpr (hTH225.lt gq102))))).trans m233
  clear m233
  have m244 := (fI_kept (kH236 _ (hTH225.lt gq102) (fun h => h.elim (g_ne gq102 hNq226) (Nat.not_le.mpr (hTH225.lt gq102))))).trans m234
  clear m234
  have m245 := (fI_kept (kH236 _ (hTH225.lt gq102) (fun h => h.elim (g_ne gq102 hNq226) (Nat.not_le.mpr (hTH225.lt gq102))))).trans m235
  clear m235
  replace hR := hR.kept (kH236 _ lt_a_H236 (fun h => h.elim nr_a_q226 (Nat.not_le.mpr lt_a_H236)))
  replace gq102 : G237 q102 = some 0 := (hgH236 _ (hTH225.lt gq102) (g_ne gq102 hNq226)).trans gq102
  replace gq116 : G237 q116 = some 108 := (hgH236 _ (hTH225.lt gq116) (g_ne gq116 hNq226)).trans gq116
  replace gq136 : G237 q136 = some 78 := (hgH236 _ (hTH225.lt gq136) (g_ne gq136 hNq226)).trans gq136
  replace gq166 : G237 q166 = some 82 := (hgH236 _ (hTH225.lt gq166) (g_ne gq166 hNq226)).trans gq166
  replace gq196 : G237 q196 = some 89 := (hgH236 _ (hTH225.lt gq196) (g_ne gq196 hNq226)).trans gq196
  replace hn : G237 a = none := (hgH236 _ lt_a_H236 nr_a_q226).trans hn
  replace hGo : ∀ q, q < s.heap.size → q ≠ a → G237 q = G q := fun q hq hqa => (hgH236 q (Nat.lt_of_lt_of_le hq hSH225.1) (Nat.ne_of_lt (Nat.lt_of_lt_of_le hq leq226))).trans (hGo q hq hqa)
  have gq226 : G237 q226 = some 98 := ggH236
  clear hR227 hNq226 ggH236 hgH236 kH236 zH236 hTH225 lt_a_H236
  refine W.eq (g2 := F0 m 65 ls [.ref q226, .ref a]) rfl ?_
  refine x_putR C hTH236 hSH236 (ci := 9) (k := 7) (v := .ref q226) (ty0 := tyX9) hR hn rfl inX9 tyX9_ok nmX9 (by decide) (Or.inr ⟨rfl, rfl, rfl⟩) wF_X9_44 (Nat.le_of_ble_eq_true rfl) rfl rfl (Or.inl rfl) dX9_init_65 (fun H246 locsH246 hR2 hTH246 hSH246 oH246 zH246 => ?_)
  clear hR
  have hR : RAW K H246 a 9 [.ref q102, .null, .ref q116, .int 0, .ref q136, .ref q166, .ref q196, .ref q226, .null, .null, .null, .null] := hR2
  clear hR2
  replace owq102 := OWN.kept hTH236 gq102 (fun q t hq => oH246 _ (g_ne hq hn)) owq102
  replace ozq102 := OWZ.kept hTH236 gq102 (fun q t hq => oH246 _ (g_ne hq hn)) ozq102
  have m247 := (fI_kept (oH246 _ (g_ne gq102 hn))).trans m238
  clear m238
  have m248 := (fI_kept (oH246 _ (g_ne gq102 hn))).trans m239
  clear m239
  have m249 := (fI_kept (oH246 _ (g_ne gq102 hn))).trans m240
  clear m240
  have m250 := (fI_kept (oH246 _ (g_ne gq102 hn))).trans m241
  clear m241
  have m251 := (fI_kept (oH246 _ (g_ne gq102 hn))).trans m242
  clear m242
  have m252 := (fI_kept (oH246 _ (g_ne gq102 hn))).trans m243
  clear m243
  have m253 := (fI_kept (oH246 _ (g_ne gq102 hn))).trans m244
  clear m244
  have m254 := (fI_kept (oH246 _ (g_ne gq102 hn))).trans m245
  clear m245
  clear oH246 zH246 hTH236
  refine lv_aload_n hx hb dX9_init_68 rfl (lv_at hl 0 rfl) ?_
  refine x_new C hTH246 hSH246 (ci := 5) (ty0 := tyX5) (vs := [.null, .null, .null, .int 0, .int 0]) rfl inX5 tyX5_ok wC_X9_48 wIS_X5 wIN_X5 dfX5 ⟨by decide, by decide⟩ dX9_init_69 (fun H255 hR257 hTH255 hSH255 oH255 zH255 => ?_)
  have hNq256 : G237 H246.size = none := hTH246.gb _ (Nat.le_refl _)
  have nr_a_q256 : a ≠ H246.size := Nat.ne_of_lt hR.lt
  replace owq102 := OWN.kept hTH246 gq102 (fun q t hq => oH255 _ (hTH246.lt hq)) owq102
  replace ozq102 := OWZ.kept hTH246 gq102 (fun q t hq => oH255 _ (hTH246.lt hq)) ozq102
  have m258 := (fI_kept (oH255 _ (hTH246.lt gq102))).trans m247
  clear m247
  have m259 := (fI_kept (oH255 _ (hTH246.lt gq102))).trans m248
  clear m248
  have m260 := (fI_kept (oH255 _ (hTH246.lt gq102))).trans m249
  clear m249
  have m261 := (fI_kept (oH255 _ (hTH246.lt gq102))).trans m250
  clear m250
  have m262 := (fI_kept (oH255 _ (hTH246.lt gq102))).trans m251
  clear m251
  have m263 := (fI_kept (oH255 _ (hTH246.lt gq102))).trans m252
  clear m252
  have m264 := (fI_kept (oH255 _ (hTH246.lt gq102))).trans m253
  clear m253
  have m265 := (fI_kept (oH255 _ (hTH246.lt gq102))).trans m254
  clear m254
  replace hR := hR.kept (oH255 _ hR.lt)
  obtain ⟨q256, eq256⟩ : ∃ q, q = H246.size := ⟨_, rfl⟩
  have leq256 : s.heap.size ≤ q256 := by rw [eq256]; exact hSH246.1
  rw [← eq256] at hNq256 hR257 nr_a_q256
  rw [← eq256]
  clear eq256
  clear oH255 zH255 hTH246
  refine lv_dup hx hb dX9_init_72 rfl ?_
  have lt_a_H266 := hR.lt
  refine x_IN (As := []) (rest := [.ref q256, .ref a]) C (k_X5_init_setS l K G237 H255 (a := q256) hTH255 hNq256 hR257) yo_X5_init rfl wN_X9_50 ⟨⟨by decide, by decide⟩, by decide, by decide⟩ rfl hl.1 rfl (Nat.le_of_ble_eq_true rfl) dX9_init_73 hSH255 (fun x h => Or.inr (h.elim (fun e => by rw [e]; exact leq256) (fun h => Nat.le_trans hSH255.1 h))) (fun vH266 H266 locsH266 pH266 zH266 kH266 hSH266 => ?_)
  obtain ⟨hvH266, G267, hgH266, ggH266, hTH266⟩ := pH266
  subst hvH266
  replace owq102 := OWN.kept hTH255 gq102 (fun q t hq => kH266 _ (hTH255.lt hq) (fun h => h.elim (g_ne hq hNq256) (Nat.not_le.mpr (hTH255.lt hq)))) owq102
  replace ozq102 := OWZ.kept hTH255 gq102 (fun q t hq => kH266 _ (hTH255.lt hq) (fun h => h.elim (g_ne hq hNq256) (Nat.not_le.mpr (hTH255.lt hq)))) ozq102
  have m268 := (fI_kept (kH266 _ (hTH255.lt gq102) (fun h => h.elim (g_ne gq102 hNq256) (Nat.not_le.mpr (hTH255.lt gq102))))).trans m258
  clear m258
  have m269 := (fI_kept (kH266 _ (hTH255.lt gq102) (fun h => h.elim (g_ne gq102 hNq256) (Nat.not_le.mpr (hTH255.lt gq102))))).trans m259
  clear m259
  have m270 := (fI_kept (kH266 _ (hTH255.lt gq102) (fun h => h.elim (g_ne gq102 hNq256) (Nat.not_le.mpr (hTH255.lt gq102))))).trans m260
  clear m260
  have m271 := (fI_kept (kH266 _ (hTH255.lt gq102) (fun h => h.elim (g_ne gq102 hNq256) (Nat.not_le.mpr (hTH255.lt gq102))))).trans m261
  clear m261
  have m272 := (fI_kept (kH266 _ (hTH255.lt gq102) (fun h => h.elim (g_ne gq102 hNq256) (Nat.not_le.mpr (hTH255.lt gq102))))).trans m262
  clear m262
  have m273 := (fI_kept (kH266 _ (hTH255.lt gq102) (fun h => h.elim (g_ne gq102 hNq256) (Nat.not_le.mpr (hTH255.lt gq102))))).trans m263
  clear m263
  have m274 := (fI_kept (kH266 _ (hTH255.lt gq102) (fun h => h.elim (g_ne gq102 hNq256) (Nat.not_le.mpr (hTH255.lt gq102))))).trans m264
  clear m264
  have m275 := (fI_kept (kH266 _ (hTH255.lt gq102) (fun h => h.elim (g_ne gq102 hNq256) (Nat.not_le.mpr (hTH255.lt gq102))))).trans m265
  clear m265
  replace hR := hR.kept (kH266 _ lt_a_H266 (fun h => h.elim nr_a_q256 (Nat.not_le.mpr lt_a_H266)))
  replace gq102 : G267 q102 = some 0 := (hgH266 _ (hTH255.lt gq102) (g_ne gq102 hNq256)).trans gq102
  replace gq116 : G267 q116 = some 108 := (hgH266 _ (hTH255.lt gq116) (g_ne gq116 hNq256)).trans gq116
  replace gq136 : G267 q136 = some 78 := (hgH266 _ (hTH255.lt gq136) (g_ne gq136 hNq256)).trans gq136
  replace gq166 : G267 q166 = some 82 := (hgH266 _ (hTH255.lt gq166) (g_ne gq166 hNq256)).trans gq166
  replace gq196 : G267 q196 = some 89 := (hgH266 _ (hTH255.lt gq196) (g_ne gq196 hNq256)).trans gq196
  replace gq226 : G267 q226 = some 98 := (hgH266 _ (hTH255.lt gq226) (g_ne gq226 hNq256)).trans gq226
  replace hn : G267 a = none := (hgH266 _ lt_a_H266 nr_a_q256).trans hn
  replace hGo : ∀ q, q < s.heap.size → q ≠ a → G267 q = G q := fun q hq hqa => (hgH266 q (Nat.lt_of_lt_of_le hq hSH255.1) (Nat.ne_of_lt (Nat.lt_of_lt_of_le hq leq256))).trans (hGo q hq hqa)
  have gq256 : G267 q256 = some 104 := ggH266
  clear hR257 hNq256 ggH266 hgH266 kH266 zH266 hTH255 lt_a_H266
  refine W.eq (g2 := F0 m 76 ls [.ref q256, .ref a]) rfl ?_
  refine x_putR C hTH266 hSH266 (ci := 9) (k := 8) (v := .ref q256) (ty0 := tyX9) hR hn rfl inX9 tyX9_ok nmX9 (by decide) (Or.inr ⟨rfl, rfl, rfl⟩) wF_X9_51 (Nat.le_of_ble_eq_true rfl) rfl rfl (Or.inl rfl) dX9_init_76 (fun H276 locsH276 hR2 hTH276 hSH276 oH276 zH276 => ?_)
  clear hR
  have hR : RAW K H276 a 9 [.ref q102, .null, .ref q116, .int 0, .ref q136, .ref q166, .ref q196, .ref q226, .ref q256, .null, .null, .null] := hR2
  clear hR2
  replace owq102 := OWN.kept hTH266 gq102 (fun q t hq => oH276 _ (g_ne hq hn)) owq102
  replace ozq102 := OWZ.kept hTH266 gq102 (fun q t hq => oH276 _ (g_ne hq hn)) ozq102
  have m277 := (fI_kept (oH276 _ (g_ne gq102 hn))).trans m268
  clear m268
  have m278 := (fI_kept (oH276 _ (g_ne gq102 hn))).trans m269
  clear m269
  have m279 := (fI_kept (oH276 _ (g_ne gq102 hn))).trans m270
  clear m270
  have m280 := (fI_kept (oH276 _ (g_ne gq102 hn))).trans m271
  clear m271
  have m281 := (fI_kept (oH276 _ (g_ne gq102 hn))).trans m272
  clear m272
  have m282 := (fI_kept (oH276 _ (g_ne gq102 hn))).trans m273
  clear m273
  have m283 := (fI_kept (oH276 _ (g_ne gq102 hn))).trans m274
  clear m274
  have m284 := (fI_kept (oH276 _ (g_ne gq102 hn))).trans m275
  clear m275
  clear oH276 zH276 hTH266
  refine lv_aload_n hx hb dX9_init_79 rfl (lv_at hl 0 rfl) ?_
  refine lv_bipush (v := 10) hx hb dX9_init_80 (by decide) ?_
  refine x_newa C hTH276 hSH276 wAC_int rg_109 (by decide) rfl (by decide) ⟨by decide, by decide⟩ dX9_init_82 (fun H285 hTH285 hSH285 oH285 zH285 vH285 => ?_)
  have hNH285 : G267 H276.size = none := hTH276.gb _ (Nat.le_refl _)
  obtain ⟨G287, eGG287⟩ : ∃ g, g = gU G267 H276.size 109 := ⟨_, rfl⟩
  rw [← eGG287] at hTH285
  have nr_a_q286 : a ≠ H276.size := Nat.ne_of_lt hR.lt
  replace owq102 := OWN.kept hTH276 gq102 (fun q t hq => oH285 _ (hTH276.lt hq)) owq102
  replace ozq102 := OWZ.kept hTH276 gq102 (fun q t hq => oH285 _ (hTH276.lt hq)) ozq102
  have m288 := (fI_kept (oH285 _ (hTH276.lt gq102))).trans m277
  clear m277
  have m289 := (fI_kept (oH285 _ (hTH276.lt gq102))).trans m278
  clear m278
  have m290 := (fI_kept (oH285 _ (hTH276.lt gq102))).trans m279
  clear m279
  have m291 := (fI_kept (oH285 _ (hTH276.lt gq102))).trans m280
  clear m280
  have m292 := (fI_kept (oH285 _ (hTH276.lt gq102))).trans m281
  clear m281
  have m293 := (fI_kept (oH285 _ (hTH276.lt gq102))).trans m282
  clear m282
  have m294 := (fI_kept (oH285 _ (hTH276.lt gq102))).trans m283
  clear m283
  have m295 := (fI_kept (oH285 _ (hTH276.lt gq102))).trans m284
  clear m284
  replace hR := hR.kept (oH285 _ hR.lt)
  replace gq102 : G287 q102 = some 0 := by rw [eGG287]; exact gU_mono hNH285 _ _ gq102
  replace gq116 : G287 q116 = some 108 := by rw [eGG287]; exact gU_mono hNH285 _ _ gq116
  replace gq136 : G287 q136 = some 78 := by rw [eGG287]; exact gU_mono hNH285 _ _ gq136
  replace gq166 : G287 q166 = some 82 := by rw [eGG287]; exact gU_mono hNH285 _ _ gq166
  replace gq196 : G287 q196 = some 89 := by rw [eGG287]; exact gU_mono hNH285 _ _ gq196
  replace gq226 : G287 q226 = some 98 := by rw [eGG287]; exact gU_mono hNH285 _ _ gq226
  replace gq256 : G287 q256 = some 104 := by rw [eGG287]; exact gU_mono hNH285 _ _ gq256
  replace hn : G287 a = none := by rw [eGG287, gU_ne nr_a_q286]; exact hn
  replace hGo : ∀ q, q < s.heap.size → q ≠ a → G287 q = G q := fun q hq hqa => (show G287 q = G267 q by rw [eGG287, gU_ne (Nat.ne_of_lt (Nat.lt_of_lt_of_le hq hSH276.1))]).trans (hGo q hq hqa)
  have gq286 : G287 H276.size = some 109 := by rw [eGG287]; exact gU_at
  obtain ⟨q286, eq286⟩ : ∃ q, q = H276.size := ⟨_, rfl⟩
  have leq286 : s.heap.size ≤ q286 := by rw [eq286]; exact hSH276.1
  rw [← eq286] at gq286 nr_a_q286
  rw [← eq286]
  clear eq286
  clear hNH285 eGG287 oH285 zH285 vH285 hTH276
  refine x_putR C hTH285 hSH285 (ci := 9) (k := 9) (v := .ref q286) (ty0 := tyX9) hR hn rfl inX9 tyX9_ok nmX9 (by decide) (Or.inr ⟨rfl, rfl, rfl⟩) wF_X9_55 (Nat.le_of_ble_eq_true rfl) rfl rfl (Or.inl rfl) dX9_init_84 (fun H296 locsH296 hR2 hTH296 hSH296 oH296 zH296 => ?_)
  clear hR
  have hR : RAW K H296 a 9 [.ref q102, .null, .ref q116, .int 0, .ref q136, .ref q166, .ref q196, .ref q226, .ref q256, .ref q286, .null, .null] := hR2
  clear hR2
  replace owq102 := OWN.kept hTH285 gq102 (fun q t hq => oH296 _ (g_ne hq hn)) owq102
  replace ozq102 := OWZ.kept hTH285 gq102 (fun q t hq => oH296 _ (g_ne hq hn)) ozq102
  have m297 := (fI_kept (oH296 _ (g_ne gq102 hn))).trans m288
  clear m288
  have m298 := (fI_kept (oH296 _ (g_ne gq102 hn))).trans m289
  clear m289
  have m299 := (fI_kept (oH296 _ (g_ne gq102 hn))).trans m290
  clear m290
  have m300 := (fI_kept (oH296 _ (g_ne gq102 hn))).trans m291
  clear m291
  have m301 := (fI_kept (oH296 _ (g_ne gq102 hn))).trans m292
  clear m292
  have m302 := (fI_kept (oH296 _ (g_ne gq102 hn))).trans m293
  clear m293
  have m303 := (fI_kept (oH296 _ (g_ne gq102 hn))).trans m294
  clear m294
  have m304 := (fI_kept (oH296 _ (g_ne gq102 hn))).trans m295
  clear m295
  clear oH296 zH296 hTH285
  refine lv_aload_n hx hb dX9_init_87 rfl (lv_at hl 0 rfl) ?_
  refine lv_bipush (v := 16) hx hb dX9_init_88 (by decide) ?_
  refine x_newa C hTH296 hSH296 wAC_int rg_110 (by decide) rfl (by decide) ⟨by decide, by decide⟩ dX9_init_90 (fun H305 hTH305 hSH305 oH305 zH305 vH305 => ?_)
  have hNH305 : G287 H296.size = none := hTH296.gb _ (Nat.le_refl _)
  obtain ⟨G307, eGG307⟩ : ∃ g, g = gU G287 H296.size 110 := ⟨_, rfl⟩
  rw [← eGG307] at hTH305
  have nr_a_q306 : a ≠ H296.size := Nat.ne_of_lt hR.lt
  replace owq102 := OWN.kept hTH296 gq102 (fun q t hq => oH305 _ (hTH296.lt hq)) owq102
  replace ozq102 := OWZ.kept hTH296 gq102 (fun q t hq => oH305 _ (hTH296.lt hq)) ozq102
  have m308 := (fI_kept (oH305 _ (hTH296.lt gq102))).trans m297
  clear m297
  have m309 := (fI_kept (oH305 _ (hTH296.lt gq102))).trans m298
  clear m298
  have m310 := (fI_kept (oH305 _ (hTH296.lt gq102))).trans m299
  clear m299
  have m311 := (fI_kept (oH305 _ (hTH296.lt gq102))).trans m300
  clear m300
  have m312 := (fI_kept (oH305 _ (hTH296.lt gq102))).trans m301
  clear m301
  have m313 := (fI_kept (oH305 _ (hTH296.lt gq102))).trans m302
  clear m302
  have m314 := (fI_kept (oH305 _ (hTH296.lt gq102))).trans m303
  clear m303
  have m315 := (fI_kept (oH305 _ (hTH296.lt gq102))).trans m304
  clear m304
  replace hR := hR.kept (oH305 _ hR.lt)
  replace gq102 : G307 q102 = some 0 := by rw [eGG307]; exact gU_mono hNH305 _ _ gq102
  replace gq116 : G307 q116 = some 108 := by rw [eGG307]; exact gU_mono hNH305 _ _ gq116
  replace gq136 : G307 q136 = some 78 := by rw [eGG307]; exact gU_mono hNH305 _ _ gq136
  replace gq166 : G307 q166 = some 82 := by rw [eGG307]; exact gU_mono hNH305 _ _ gq166
  replace gq196 : G307 q196 = some 89 := by rw [eGG307]; exact gU_mono hNH305 _ _ gq196
  replace gq226 : G307 q226 = some 98 := by rw [eGG307]; exact gU_mono hNH305 _ _ gq226
  replace gq256 : G307 q256 = some 104 := by rw [eGG307]; exact gU_mono hNH305 _ _ gq256
  replace gq286 : G307 q286 = some 109 := by rw [eGG307]; exact gU_mono hNH305 _ _ gq286
  replace hn : G307 a = none := by rw [eGG307, gU_ne nr_a_q306]; exact hn
  replace hGo : ∀ q, q < s.heap.size → q ≠ a → G307 q = G q := fun q hq hqa => (show G307 q = G287 q by rw [eGG307, gU_ne (Nat.ne_of_lt (Nat.lt_of_lt_of_le hq hSH296.1))]).trans (hGo q hq hqa)
  have gq306 : G307 H296.size = some 110 := by rw [eGG307]; exact gU_at
  obtain ⟨q306, eq306⟩ : ∃ q, q = H296.size := ⟨_, rfl⟩
  have leq306 : s.heap.size ≤ q306 := by rw [eq306]; exact hSH296.1
  rw [← eq306] at gq306 nr_a_q306
  rw [← eq306]
  clear eq306
  clear hNH305 eGG307 oH305 zH305 vH305 hTH296
  refine x_putR C hTH305 hSH305 (ci := 9) (k := 10) (v := .ref q306) (ty0 := tyX9) hR hn rfl inX9 tyX9_ok nmX9 (by decide) (Or.inr ⟨rfl, rfl, rfl⟩) wF_X9_58 (Nat.le_of_ble_eq_true rfl) rfl rfl (Or.inl rfl) dX9_init_92 (fun H316 locsH316 hR2 hTH316 hSH316 oH316 zH316 => ?_)
  clear hR
  have hR : RAW K H316 a 9 [.ref q102, .null, .ref q116, .int 0, .ref q136, .ref q166, .ref q196, .ref q226, .ref q256, .ref q286, .ref q306, .null] := hR2
  clear hR2
  replace owq102 := OWN.kept hTH305 gq102 (fun q t hq => oH316 _ (g_ne hq hn)) owq102
  replace ozq102 := OWZ.kept hTH305 gq102 (fun q t hq => oH316 _ (g_ne hq hn)) ozq102
  have m317 := (fI_kept (oH316 _ (g_ne gq102 hn))).trans m308
  clear m308
  have m318 := (fI_kept (oH316 _ (g_ne gq102 hn))).trans m309
  clear m309
  have m319 := (fI_kept (oH316 _ (g_ne gq102 hn))).trans m310
  clear m310
  have m320 := (fI_kept (oH316 _ (g_ne gq102 hn))).trans m311
  clear m311
  have m321 := (fI_kept (oH316 _ (g_ne gq102 hn))).trans m312
  clear m312
  have m322 := (fI_kept (oH316 _ (g_ne gq102 hn))).trans m313
  clear m313
  have m323 := (fI_kept (oH316 _ (g_ne gq102 hn))).trans m314
  clear m314
  have m324 := (fI_kept (oH316 _ (g_ne gq102 hn))).trans m315
  clear m315
  clear oH316 zH316 hTH305
  refine lv_aload_n hx hb dX9_init_95 rfl (lv_at hl 0 rfl) ?_
  refine lv_bipush (v := 16) hx hb dX9_init_96 (by decide) ?_
  refine x_newa C hTH316 hSH316 wAC_int rg_111 (by decide) rfl (by decide) ⟨by decide, by decide⟩ dX9_init_98 (fun H325 hTH325 hSH325 oH325 zH325 vH325 => ?_)
  have hNH325 : G307 H316.size = none := hTH316.gb _ (Nat.le_refl _)
  obtain ⟨G327, eGG327⟩ : ∃ g, g = gU G307 H316.size 111 := ⟨_, rfl⟩
  rw [← eGG327] at hTH325
  have nr_a_q326 : a ≠ H316.size := Nat.ne_of_lt hR.lt
  replace owq102 := OWN.kept hTH316 gq102 (fun q t hq => oH325 _ (hTH316.lt hq)) owq102
  replace ozq102 := OWZ.kept hTH316 gq102 (fun q t hq => oH325 _ (hTH316.lt hq)) ozq102
  have m328 := (fI_kept (oH325 _ (hTH316.lt gq102))).trans m317
  clear m317
  have m329 := (fI_kept (oH325 _ (hTH316.lt gq102))).trans m318
  clear m318
  have m330 := (fI_kept (oH325 _ (hTH316.lt gq102))).trans m319
  clear m319
  have m331 := (fI_kept (oH325 _ (hTH316.lt gq102))).trans m320
  clear m320
  have m332 := (fI_kept (oH325 _ (hTH316.lt gq102))).trans m321
  clear m321
  have m333 := (fI_kept (oH325 _ (hTH316.lt gq102))).trans m322
  clear m322
  have m334 := (fI_kept (oH325 _ (hTH316.lt gq102))).trans m323
  clear m323
  have m335 := (fI_kept (oH325 _ (hTH316.lt gq102))).trans m324
  clear m324
  replace hR := hR.kept (oH325 _ hR.lt)
  replace gq102 : G327 q102 = some 0 := by rw [eGG327]; exact gU_mono hNH325 _ _ gq102
  replace gq116 : G327 q116 = some 108 := by rw [eGG327]; exact gU_mono hNH325 _ _ gq116
  replace gq136 : G327 q136 = some 78 := by rw [eGG327]; exact gU_mono hNH325 _ _ gq136
  replace gq166 : G327 q166 = some 82 := by rw [eGG327]; exact gU_mono hNH325 _ _ gq166
  replace gq196 : G327 q196 = some 89 := by rw [eGG327]; exact gU_mono hNH325 _ _ gq196
  replace gq226 : G327 q226 = some 98 := by rw [eGG327]; exact gU_mono hNH325 _ _ gq226
  replace gq256 : G327 q256 = some 104 := by rw [eGG327]; exact gU_mono hNH325 _ _ gq256
  replace gq286 : G327 q286 = some 109 := by rw [eGG327]; exact gU_mono hNH325 _ _ gq286
  replace gq306 : G327 q306 = some 110 := by rw [eGG327]; exact gU_mono hNH325 _ _ gq306
  replace hn : G327 a = none := by rw [eGG327, gU_ne nr_a_q326]; exact hn
  replace hGo : ∀ q, q < s.heap.size → q ≠ a → G327 q = G q := fun q hq hqa => (show G327 q = G307 q by rw [eGG327, gU_ne (Nat.ne_of_lt (Nat.lt_of_lt_of_le hq hSH316.1))]).trans (hGo q hq hqa)
  have gq326 : G327 H316.size = some 111 := by rw [eGG327]; exact gU_at
  obtain ⟨q326, eq326⟩ : ∃ q, q = H316.size := ⟨_, rfl⟩
  have leq326 : s.heap.size ≤ q326 := by rw [eq326]; exact hSH316.1
  rw [← eq326] at gq326 nr_a_q326
  rw [← eq326]
  clear eq326
  clear hNH325 eGG327 oH325 zH325 vH325 hTH316
  refine x_putR C hTH325 hSH325 (ci := 9) (k := 11) (v := .ref q326) (ty0 := tyX9) hR hn rfl inX9 tyX9_ok nmX9 (by decide) (Or.inr ⟨rfl, rfl, rfl⟩) wF_X9_61 (Nat.le_of_ble_eq_true rfl) rfl rfl (Or.inl rfl) dX9_init_100 (fun H336 locsH336 hR2 hTH336 hSH336 oH336 zH336 => ?_)
  clear hR
  have hR : RAW K H336 a 9 [.ref q102, .null, .ref q116, .int 0, .ref q136, .ref q166, .ref q196, .ref q226, .ref q256, .ref q286, .ref q306, .ref q326] := hR2
  clear hR2
  replace owq102 := OWN.kept hTH325 gq102 (fun q t hq => oH336 _ (g_ne hq hn)) owq102
  replace ozq102 := OWZ.kept hTH325 gq102 (fun q t hq => oH336 _ (g_ne hq hn)) ozq102
  have m337 := (fI_kept (oH336 _ (g_ne gq102 hn))).trans m328
  clear m328
  have m338 := (fI_kept (oH336 _ (g_ne gq102 hn))).trans m329
  clear m329
  have m339 := (fI_kept (oH336 _ (g_ne gq102 hn))).trans m330
  clear m330
  have m340 := (fI_kept (oH336 _ (g_ne gq102 hn))).trans m331
  clear m331
  have m341 := (fI_kept (oH336 _ (g_ne gq102 hn))).trans m332
  clear m332
  have m342 := (fI_kept (oH336 _ (g_ne gq102 hn))).trans m333
  clear m333
  have m343 := (fI_kept (oH336 _ (g_ne gq102 hn))).trans m334
  clear m334
  have m344 := (fI_kept (oH336 _ (g_ne gq102 hn))).trans m335
  clear m335
  clear oH336 zH336 hTH325
  have hTZ := x_born (t := 68) hTH336 hn hR rfl rg_68 rfl (fun k f h => match k, f, h with | 0, _, h => by cases h; exact ⟨_, rfl, q102, rfl, gU_mono hn _ _ gq102⟩ | 1, _, h => by cases h; exact ⟨_, rfl, Or.inl rfl⟩ | 2, _, h => by cases h; exact ⟨_, rfl, q116, rfl, gU_mono hn _ _ gq116⟩ | 3, _, h => by cases h; exact ⟨_, rfl, 0, rfl, by decide, by decide⟩ | 4, _, h => by cases h; exact ⟨_, rfl, q136, rfl, gU_mono hn _ _ gq136⟩ | 5, _, h => by cases h; exact ⟨_, rfl, q166, rfl, gU_mono hn _ _ gq166⟩ | 6, _, h => by cases h; exact ⟨_, rfl, q196, rfl, gU_mono hn _ _ gq196⟩ | 7, _, h => by cases h; exact ⟨_, rfl, q226, rfl, gU_mono hn _ _ gq226⟩ | 8, _, h => by cases h; exact ⟨_, rfl, q256, rfl, gU_mono hn _ _ gq256⟩ | 9, _, h => by cases h; exact ⟨_, rfl, q286, rfl, gU_mono hn _ _ gq286⟩ | 10, _, h => by cases h; exact ⟨_, rfl, q306, rfl, gU_mono hn _ _ gq306⟩ | 11, _, h => by cases h; exact ⟨_, rfl, q326, rfl, gU_mono hn _ _ gq326⟩ | k + 12, _, h => by simp at h)
  exact x_vret C hQ dX9_init_103 hSH336 (by decide) (by decide) (⟨rfl, gU G327 a 68, fun q hq hqa => by rw [gU_ne hqa]; exact hGo q hq hqa, gU_at, hTZ, q102, gU_mono hn _ _ gq102, ⟨kn_r (hR.fv rfl (by decide) rfl), hR.fv rfl (by decide) rfl, kn_i (v := .int 0) (hR.fv rfl (by decide) rfl), m337, m338, m339, m340, m341, m342, m343, m344⟩, owq102, ozq102⟩)
