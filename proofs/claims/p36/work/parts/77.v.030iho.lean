set_option maxHeartbeats 4000000 in
set_option maxRecDepth 100000 in
theorem k_X8_init_kept_x (l : Launch) (K : KE) (G : Nat → Option Nat) (H : Heap) {a : Nat} (hT : TY K G H) (hn : G a = none) (hR : RAW K H a 8 [.null, .int 0, .null, .null, .int 0, .int 0, .int 0, .int 0, .null, .null, .int 0, .null, .null, .int 0, .null, .null, .int 0]) : MX l K yX8_init cX8_init 2 none 2 32 433 13010 [.ref a] H (fun q => q = a ∨ H.size ≤ q) (fun v H1 => v = none ∧ ∃ G1 : Nat → Option Nat, (∀ q, q < H.size → q ≠ a → G1 q = G q) ∧ G1 a = some 34 ∧ TY K G1 H1 ∧ fI H1 a (K.1.2 8 1) = 0 ∧ fI H1 a (K.1.2 8 4) = 0 ∧ fI H1 a (K.1.2 8 5) = 10 ∧ fI H1 a (K.1.2 8 6) = 0 ∧ fI H1 a (K.1.2 8 7) = (-1) ∧ fI H1 a (K.1.2 8 10) = 0 ∧ fI H1 a (K.1.2 8 13) = 0 ∧ fI H1 a (K.1.2 8 16) = 0 ∧ OWN K H1 a) := by
  refine MX.of (by decide +kernel) (Nat.le_of_ble_eq_true rfl) ?_
  intro p e s m below meth c ls Q C hH hl hQ
  subst hH
  have C : CX p K s m _ meth c RX8 cX8_init 2 none "<init>" := C
  obtain ⟨hx, hb, hml, hown, hts, hKT, hr, hlocks, hnm⟩ := id C
  have hl : lv_has ls 2 [(0, .ref a)] := hl
  have hS : va_S (fun q => q = a ∨ s.heap.size ≤ q) s.heap s.heap [] := va_S.rf
  have n_m1 : ((-1) : Int32).toInt = -1 := rfl
  have n_0 : (0 : Int32).toInt = 0 := rfl
  have n_1 : (1 : Int32).toInt = 1 := rfl
  have n_2 : (2 : Int32).toInt = 2 := rfl
  have n_3 : (3 : Int32).toInt = 3 := rfl
  have n_4 : (4 : Int32).toInt = 4 := rfl
  have n_5 : (5 : Int32).toInt = 5 := rfl
  have n_6 : (6 : Int32).toInt = 6 := rfl
  have n_7 : (7 : Int32).toInt = 7 := rfl
  have n_8 : (8 : Int32).toInt = 8 := rfl
  have n_9 : (9 : Int32).toInt = 9 := rfl
  have n_10 : (10 : Int32).toInt = 10 := rfl
  have n_20 : (20 : Int32).toInt = 20 := rfl
  have hGo : ∀ q, q < s.heap.size → q ≠ a → G q = G q := fun _ _ _ => rfl
  refine lv_aload_n hx hb dX8_init_0 rfl (lv_at hl 0 rfl) ?_
  refine x_objInit C wM_X8_3 wIM_OBJ wCD_OBJ hl.1 (by decide) dX8_init_1 ?_
  refine lv_aload_n hx hb dX8_init_4 rfl (lv_at hl 0 rfl) ?_
  refine lv_bipush (v := 10) hx hb dX8_init_5 (by decide) ?_
  refine x_anew (ti := 1) C hT hS wC_X8_9 hKT.2.2.1 rfl rfl (by decide) ⟨by decide, by decide⟩ dX8_init_7 (fun H101 hR103 hTH101 hSH101 oH101 zH101 => ?_)
  have hNq102 : G s.heap.size = none := hT.gb _ (Nat.le_refl _)
  have nr_a_q102 : a ≠ s.heap.size := Nat.ne_of_lt hR.lt
  replace hR := hR.kept (oH101 _ hR.lt)
  obtain ⟨q102, eq102⟩ : ∃ q, q = s.heap.size := ⟨_, rfl⟩
  have leq102 : s.heap.size ≤ q102 := by rw [eq102]; exact hS.1
  rw [← eq102] at hNq102 hR103 nr_a_q102
  rw [← eq102]
  clear eq102
  clear oH101 zH101 hT
  refine x_putR C hTH101 hSH101 (ci := 8) (k := 0) (v := .ref q102) (ty0 := tyX8) hR hn rfl inX8 tyX8_ok nmX8 (by decide) (Or.inr ⟨rfl, rfl, rfl⟩) wF_X8_11 (Nat.le_of_ble_eq_true rfl) rfl rfl (Or.inl rfl) dX8_init_10 (fun H104 locsH104 hR2 hTH104 hSH104 oH104 zH104 => ?_)
  clear hR
  have hR : RAW K H104 a 8 [.ref q102, .int 0, .null, .null, .int 0, .int 0, .int 0, .int 0, .null, .null, .int 0, .null, .null, .int 0, .null, .null, .int 0] := hR2
  clear hR2
  replace hR103 := hR103.kept (oH104 _ (Ne.symm nr_a_q102))
  clear oH104 zH104 hTH101
  refine lv_aload_n hx hb dX8_init_13 rfl (lv_at hl 0 rfl) ?_
  refine lv_iconst (v := 2) hx hb dX8_init_14 (by decide) ?_
  refine x_anew (ti := 2) C hTH104 hSH104 wC_X8_17 hKT.2.2.2.1 rfl rfl (by decide) ⟨by decide, by decide⟩ dX8_init_15 (fun H105 hR107 hTH105 hSH105 oH105 zH105 => ?_)
  have hNq106 : G H104.size = none := hTH104.gb _ (Nat.le_refl _)
  have nr_a_q106 : a ≠ H104.size := Nat.ne_of_lt hR.lt
  have nr_q102_q106 : q102 ≠ H104.size := Nat.ne_of_lt hR103.lt
  replace hR := hR.kept (oH105 _ hR.lt)
  replace hR103 := hR103.kept (oH105 _ hR103.lt)
  obtain ⟨q106, eq106⟩ : ∃ q, q = H104.size := ⟨_, rfl⟩
  have leq106 : s.heap.size ≤ q106 := by rw [eq106]; exact hSH104.1
  rw [← eq106] at hNq106 hR107 nr_a_q106 nr_q102_q106
  rw [← eq106]
  clear eq106
  clear oH105 zH105 hTH104
  refine x_putR C hTH105 hSH105 (ci := 8) (k := 2) (v := .ref q106) (ty0 := tyX8) hR hn rfl inX8 tyX8_ok nmX8 (by decide) (Or.inr ⟨rfl, rfl, rfl⟩) wF_X8_19 (Nat.le_of_ble_eq_true rfl) rfl rfl (Or.inl rfl) dX8_init_18 (fun H108 locsH108 hR2 hTH108 hSH108 oH108 zH108 => ?_)
  clear hR
  have hR : RAW K H108 a 8 [.ref q102, .int 0, .ref q106, .null, .int 0, .int 0, .int 0, .int 0, .null, .null, .int 0, .null, .null, .int 0, .null, .null, .int 0] := hR2
  clear hR2
  replace hR103 := hR103.kept (oH108 _ (Ne.symm nr_a_q102))
  replace hR107 := hR107.kept (oH108 _ (Ne.symm nr_a_q106))
  clear oH108 zH108 hTH105
  refine lv_aload_n hx hb dX8_init_21 rfl (lv_at hl 0 rfl) ?_
  refine lv_iconst (v := 4) hx hb dX8_init_22 (by decide) ?_
  refine x_anew (ti := 2) C hTH108 hSH108 wC_X8_17 hKT.2.2.2.1 rfl rfl (by decide) ⟨by decide, by decide⟩ dX8_init_23 (fun H109 hR111 hTH109 hSH109 oH109 zH109 => ?_)
  have hNq110 : G H108.size = none := hTH108.gb _ (Nat.le_refl _)
  have nr_a_q110 : a ≠ H108.size := Nat.ne_of_lt hR.lt
  have nr_q102_q110 : q102 ≠ H108.size := Nat.ne_of_lt hR103.lt
  have nr_q106_q110 : q106 ≠ H108.size := Nat.ne_of_lt hR107.lt
  replace hR := hR.kept (oH109 _ hR.lt)
  replace hR103 := hR103.kept (oH109 _ hR103.lt)
  replace hR107 := hR107.kept (oH109 _ hR107.lt)
  obtain ⟨q110, eq110⟩ : ∃ q, q = H108.size := ⟨_, rfl⟩
  have leq110 : s.heap.size ≤ q110 := by rw [eq110]; exact hSH108.1
  rw [← eq110] at hNq110 hR111 nr_a_q110 nr_q102_q110 nr_q106_q110
  rw [← eq110]
  clear eq110
  clear oH109 zH109 hTH108
  refine x_putR C hTH109 hSH109 (ci := 8) (k := 3) (v := .ref q110) (ty0 := tyX8) hR hn rfl inX8 tyX8_ok nmX8 (by decide) (Or.inr ⟨rfl, rfl, rfl⟩) wF_X8_23 (Nat.le_of_ble_eq_true rfl) rfl rfl (Or.inl rfl) dX8_init_26 (fun H112 locsH112 hR2 hTH112 hSH112 oH112 zH112 => ?_)
  clear hR
  have hR : RAW K H112 a 8 [.ref q102, .int 0, .ref q106, .ref q110, .int 0, .int 0, .int 0, .int 0, .null, .null, .int 0, .null, .null, .int 0, .null, .null, .int 0] := hR2
  clear hR2
  replace hR103 := hR103.kept (oH112 _ (Ne.symm nr_a_q102))
  replace hR107 := hR107.kept (oH112 _ (Ne.symm nr_a_q106))
  replace hR111 := hR111.kept (oH112 _ (Ne.symm nr_a_q110))
  clear oH112 zH112 hTH109
  refine lv_aload_n hx hb dX8_init_29 rfl (lv_at hl 0 rfl) ?_
  refine lv_bipush (v := 10) hx hb dX8_init_30 (by decide) ?_
  refine x_putR C hTH112 hSH112 (ci := 8) (k := 5) (v := .int 10) (ty0 := tyX8) hR hn rfl inX8 tyX8_ok nmX8 (by decide) (Or.inl rfl) wF_X8_26 (Nat.le_of_ble_eq_true rfl) rfl rfl (Or.inl rfl) dX8_init_32 (fun H113 locsH113 hR2 hTH113 hSH113 oH113 zH113 => ?_)
  clear hR
  have hR : RAW K H113 a 8 [.ref q102, .int 0, .ref q106, .ref q110, .int 0, .int 10, .int 0, .int 0, .null, .null, .int 0, .null, .null, .int 0, .null, .null, .int 0] := hR2
  clear hR2
  replace hR103 := hR103.kept (oH113 _ (Ne.symm nr_a_q102))
  replace hR107 := hR107.kept (oH113 _ (Ne.symm nr_a_q106))
  replace hR111 := hR111.kept (oH113 _ (Ne.symm nr_a_q110))
  clear oH113 zH113 hTH112
  refine lv_aload_n hx hb dX8_init_35 rfl (lv_at hl 0 rfl) ?_
  refine lv_iconst (v := (-1)) hx hb dX8_init_36 (by decide) ?_
  refine x_putR C hTH113 hSH113 (ci := 8) (k := 7) (v := .int (-1)) (ty0 := tyX8) hR hn rfl inX8 tyX8_ok nmX8 (by decide) (Or.inl rfl) wF_X8_30 (Nat.le_of_ble_eq_true rfl) rfl rfl (Or.inl rfl) dX8_init_37 (fun H114 locsH114 hR2 hTH114 hSH114 oH114 zH114 => ?_)
  clear hR
  have hR : RAW K H114 a 8 [.ref q102, .int 0, .ref q106, .ref q110, .int 0, .int 10, .int 0, .int (-1), .null, .null, .int 0, .null, .null, .int 0, .null, .null, .int 0] := hR2
  clear hR2
  replace hR103 := hR103.kept (oH114 _ (Ne.symm nr_a_q102))
  replace hR107 := hR107.kept (oH114 _ (Ne.symm nr_a_q106))
  replace hR111 := hR111.kept (oH114 _ (Ne.symm nr_a_q110))
  clear oH114 zH114 hTH113
  refine lv_aload_n hx hb dX8_init_40 rfl (lv_at hl 0 rfl) ?_
  refine lv_bipush (v := 20) hx hb dX8_init_41 (by decide) ?_
  refine x_newa C hTH114 hSH114 wAC_int rg_62 (by decide) rfl (by decide) ⟨by decide, by decide⟩ dX8_init_43 (fun H115 hTH115 hSH115 oH115 zH115 vH115 => ?_)
  have hNH115 : G H114.size = none := hTH114.gb _ (Nat.le_refl _)
  obtain ⟨G117, eGG117⟩ : ∃ g, g = gU G H114.size 62 := ⟨_, rfl⟩
  rw [← eGG117] at hTH115
  have nr_a_q116 : a ≠ H114.size := Nat.ne_of_lt hR.lt
  have nr_q102_q116 : q102 ≠ H114.size := Nat.ne_of_lt hR103.lt
  have nr_q106_q116 : q106 ≠ H114.size := Nat.ne_of_lt hR107.lt
  have nr_q110_q116 : q110 ≠ H114.size := Nat.ne_of_lt hR111.lt
  replace hR := hR.kept (oH115 _ hR.lt)
  replace hR103 := hR103.kept (oH115 _ hR103.lt)
  replace hR107 := hR107.kept (oH115 _ hR107.lt)
  replace hR111 := hR111.kept (oH115 _ hR111.lt)
  replace hn : G117 a = none := by rw [eGG117, gU_ne nr_a_q116]; exact hn
  replace hNq102 : G117 q102 = none := by rw [eGG117, gU_ne nr_q102_q116]; exact hNq102
  replace hNq106 : G117 q106 = none := by rw [eGG117, gU_ne nr_q106_q116]; exact hNq106
  replace hNq110 : G117 q110 = none := by rw [eGG117, gU_ne nr_q110_q116]; exact hNq110
  replace hGo : ∀ q, q < s.heap.size → q ≠ a → G117 q = G q := fun q hq hqa => (show G117 q = G q by rw [eGG117, gU_ne (Nat.ne_of_lt (Nat.lt_of_lt_of_le hq hSH114.1))]).trans (hGo q hq hqa)
  have gq116 : G117 H114.size = some 62 := by rw [eGG117]; exact gU_at
  obtain ⟨q116, eq116⟩ : ∃ q, q = H114.size := ⟨_, rfl⟩
  have leq116 : s.heap.size ≤ q116 := by rw [eq116]; exact hSH114.1
  rw [← eq116] at gq116 nr_a_q116 nr_q102_q116 nr_q106_q116 nr_q110_q116
  rw [← eq116]
  clear eq116
  clear hNH115 eGG117 oH115 zH115 vH115 hTH114
  refine x_putR C hTH115 hSH115 (ci := 8) (k := 8) (v := .ref q116) (ty0 := tyX8) hR hn rfl inX8 tyX8_ok nmX8 (by decide) (Or.inr ⟨rfl, rfl, rfl⟩) wF_X8_33 (Nat.le_of_ble_eq_true rfl) rfl rfl (Or.inl rfl) dX8_init_45 (fun H118 locsH118 hR2 hTH118 hSH118 oH118 zH118 => ?_)
  clear hR
  have hR : RAW K H118 a 8 [.ref q102, .int 0, .ref q106, .ref q110, .int 0, .int 10, .int 0, .int (-1), .ref q116, .null, .int 0, .null, .null, .int 0, .null, .null, .int 0] := hR2
  clear hR2
  replace hR103 := hR103.kept (oH118 _ (Ne.symm nr_a_q102))
  replace hR107 := hR107.kept (oH118 _ (Ne.symm nr_a_q106))
  replace hR111 := hR111.kept (oH118 _ (Ne.symm nr_a_q110))
  clear oH118 zH118 hTH115
  refine lv_aload_n hx hb dX8_init_48 rfl (lv_at hl 0 rfl) ?_
  refine lv_bipush (v := 20) hx hb dX8_init_49 (by decide) ?_
  refine x_newa C hTH118 hSH118 wAC_int rg_63 (by decide) rfl (by decide) ⟨by decide, by decide⟩ dX8_init_51 (fun H119 hTH119 hSH119 oH119 zH119 vH119 => ?_)
  have hNH119 : G117 H118.size = none := hTH118.gb _ (Nat.le_refl _)
  obtain ⟨G121, eGG121⟩ : ∃ g, g = gU G117 H118.size 63 := ⟨_, rfl⟩
  rw [← eGG121] at hTH119
  have nr_a_q120 : a ≠ H118.size := Nat.ne_of_lt hR.lt
  have nr_q102_q120 : q102 ≠ H118.size := Nat.ne_of_lt hR103.lt
  have nr_q106_q120 : q106 ≠ H118.size := Nat.ne_of_lt hR107.lt
  have nr_q110_q120 : q110 ≠ H118.size := Nat.ne_of_lt hR111.lt
  replace hR := hR.kept (oH119 _ hR.lt)
  replace hR103 := hR103.kept (oH119 _ hR103.lt)
  replace hR107 := hR107.kept (oH119 _ hR107.lt)
  replace hR111 := hR111.kept (oH119 _ hR111.lt)
  replace gq116 : G121 q116 = some 62 := by rw [eGG121]; exact gU_mono hNH119 _ _ gq116
  replace hn : G121 a = none := by rw [eGG121, gU_ne nr_a_q120]; exact hn
  replace hNq102 : G121 q102 = none := by rw [eGG121, gU_ne nr_q102_q120]; exact hNq102
  replace hNq106 : G121 q106 = none := by rw [eGG121, gU_ne nr_q106_q120]; exact hNq106
  replace hNq110 : G121 q110 = none := by rw [eGG121, gU_ne nr_q110_q120]; exact hNq110
  replace hGo : ∀ q, q < s.heap.size → q ≠ a → G121 q = G q := fun q hq hqa => (show G121 q = G117 q by rw [eGG121, gU_ne (Nat.ne_of_lt (Nat.lt_of_lt_of_le hq hSH118.1))]).trans (hGo q hq hqa)
  have gq120 : G121 H118.size = some 63 := by rw [eGG121]; exact gU_at
  obtain ⟨q120, eq120⟩ : ∃ q, q = H118.size := ⟨_, rfl⟩
  have leq120 : s.heap.size ≤ q120 := by rw [eq120]; exact hSH118.1
  rw [← eq120] at gq120 nr_a_q120 nr_q102_q120 nr_q106_q120 nr_q110_q120
  rw [← eq120]
  clear eq120
  clear hNH119 eGG121 oH119 zH119 vH119 hTH118
  refine x_putR C hTH119 hSH119 (ci := 8) (k := 9) (v := .ref q120) (ty0 := tyX8) hR hn rfl inX8 tyX8_ok nmX8 (by decide) (Or.inr ⟨rfl, rfl, rfl⟩) wF_X8_37 (Nat.le_of_ble_eq_true rfl) rfl rfl (Or.inl rfl) dX8_init_53 (fun H122 locsH122 hR2 hTH122 hSH122 oH122 zH122 => ?_)
  clear hR
  have hR : RAW K H122 a 8 [.ref q102, .int 0, .ref q106, .ref q110, .int 0, .int 10, .int 0, .int (-1), .ref q116, .ref q120, .int 0, .null, .null, .int 0, .null, .null, .int 0] := hR2
  clear hR2
  replace hR103 := hR103.kept (oH122 _ (Ne.symm nr_a_q102))
  replace hR107 := hR107.kept (oH122 _ (Ne.symm nr_a_q106))
  replace hR111 := hR111.kept (oH122 _ (Ne.symm nr_a_q110))
  clear oH122 zH122 hTH119
  refine lv_aload_n hx hb dX8_init_56 rfl (lv_at hl 0 rfl) ?_
  refine lv_bipush (v := 8) hx hb dX8_init_57 (by decide) ?_
  refine x_newa C hTH122 hSH122 wAC_int rg_64 (by decide) rfl (by decide) ⟨by decide, by decide⟩ dX8_init_59 (fun H123 hTH123 hSH123 oH123 zH123 vH123 => ?_)
  have hNH123 : G121 H122.size = none := hTH122.gb _ (Nat.le_refl _)
  obtain ⟨G125, eGG125⟩ : ∃ g, g = gU G121 H122.size 64 := ⟨_, rfl⟩
  rw [← eGG125] at hTH123
  have nr_a_q124 : a ≠ H122.size := Nat.ne_of_lt hR.lt
  have nr_q102_q124 : q102 ≠ H122.size := Nat.ne_of_lt hR103.lt
  have nr_q106_q124 : q106 ≠ H122.size := Nat.ne_of_lt hR107.lt
  have nr_q110_q124 : q110 ≠ H122.size := Nat.ne_of_lt hR111.lt
  replace hR := hR.kept (oH123 _ hR.lt)
  replace hR103 := hR103.kept (oH123 _ hR103.lt)
  replace hR107 := hR107.kept (oH123 _ hR107.lt)
  replace hR111 := hR111.kept (oH123 _ hR111.lt)
  replace gq116 : G125 q116 = some 62 := by rw [eGG125]; exact gU_mono hNH123 _ _ gq116
  replace gq120 : G125 q120 = some 63 := by rw [eGG125]; exact gU_mono hNH123 _ _ gq120
  replace hn : G125 a = none := by rw [eGG125, gU_ne nr_a_q124]; exact hn
  replace hNq102 : G125 q102 = none := by rw [eGG125, gU_ne nr_q102_q124]; exact hNq102
  replace hNq106 : G125 q106 = none := by rw [eGG125, gU_ne nr_q106_q124]; exact hNq106
  replace hNq110 : G125 q110 = none := by rw [eGG125, gU_ne nr_q110_q124]; exact hNq110
  replace hGo : ∀ q, q < s.heap.size → q ≠ a → G125 q = G q := fun q hq hqa => (show G125 q = G121 q by rw [eGG125, gU_ne (Nat.ne_of_lt (Nat.lt_of_lt_of_le hq hSH122.1))]).trans (hGo q hq hqa)
  have gq124 : G125 H122.size = some 64 := by rw [eGG125]; exact gU_at
  obtain ⟨q124, eq124⟩ : ∃ q, q = H122.size := ⟨_, rfl⟩
  have leq124 : s.heap.size ≤ q124 := by rw [eq124]; exact hSH122.1
  rw [← eq124] at gq124 nr_a_q124 nr_q102_q124 nr_q106_q124 nr_q110_q124
  rw [← eq124]
  clear eq124
  clear hNH123 eGG125 oH123 zH123 vH123 hTH122
  refine x_putR C hTH123 hSH123 (ci := 8) (k := 11) (v := .ref q124) (ty0 := tyX8) hR hn rfl inX8 tyX8_ok nmX8 (by decide) (Or.inr ⟨rfl, rfl, rfl⟩) wF_X8_40 (Nat.le_of_ble_eq_true rfl) rfl rfl (Or.inl rfl) dX8_init_61 (fun H126 locsH126 hR2 hTH126 hSH126 oH126 zH126 => ?_)
  clear hR
  have hR : RAW K H126 a 8 [.ref q102, .int 0, .ref q106, .ref q110, .int 0, .int 10, .int 0, .int (-1), .ref q116, .ref q120, .int 0, .ref q124, .null, .int 0, .null, .null, .int 0] := hR2
  clear hR2
  replace hR103 := hR103.kept (oH126 _ (Ne.symm nr_a_q102))
  replace hR107 := hR107.kept (oH126 _ (Ne.symm nr_a_q106))
  replace hR111 := hR111.kept (oH126 _ (Ne.symm nr_a_q110))
  clear oH126 zH126 hTH123
  refine lv_aload_n hx hb dX8_init_64 rfl (lv_at hl 0 rfl) ?_
  refine lv_bipush (v := 8) hx hb dX8_init_65 (by decide) ?_
  refine x_newa C hTH126 hSH126 wAC_int rg_65 (by decide) rfl (by decide) ⟨by decide, by decide⟩ dX8_init_67 (fun H127 hTH127 hSH127 oH127 zH127 vH127 => ?_)
  have hNH127 : G125 H126.size = none := hTH126.gb _ (Nat.le_refl _)
  obtain ⟨G129, eGG129⟩ : ∃ g, g = gU G125 H126.size 65 := ⟨_, rfl⟩
  rw [← eGG129] at hTH127
  have nr_a_q128 : a ≠ H126.size := Nat.ne_of_lt hR.lt
  have nr_q102_q128 : q102 ≠ H126.size := Nat.ne_of_lt hR103.lt
  have nr_q106_q128 : q106 ≠ H126.size := Nat.ne_of_lt hR107.lt
  have nr_q110_q128 : q110 ≠ H126.size := Nat.ne_of_lt hR111.lt
  replace hR := hR.kept (oH127 _ hR.lt)
  replace hR103 := hR103.kept (oH127 _ hR103.lt)
  replace hR107 := hR107.kept (oH127 _ hR107.lt)
  replace hR111 := hR111.kept (oH127 _ hR111.lt)
  replace gq116 : G129 q116 = some 62 := by rw [eGG129]; exact gU_mono hNH127 _ _ gq116
  replace gq120 : G129 q120 = some 63 := by rw [eGG129]; exact gU_mono hNH127 _ _ gq120
  replace gq124 : G129 q124 = some 64 := by rw [eGG129]; exact gU_mono hNH127 _ _ gq124
  replace hn : G129 a = none := by rw [eGG129, gU_ne nr_a_q128]; exact hn
  replace hNq102 : G129 q102 = none := by rw [eGG129, gU_ne nr_q102_q128]; exact hNq102
  replace hNq106 : G129 q106 = none := by rw [eGG129, gU_ne nr_q106_q128]; exact hNq106
  replace hNq110 : G129 q110 = none := by rw [eGG129, gU_ne nr_q110_q128]; exact hNq110
  replace hGo : ∀ q, q < s.heap.size → q ≠ a → G129 q = G q := fun q hq hqa => (show G129 q = G125 q by rw [eGG129, gU_ne (Nat.ne_of_lt (Nat.lt_of_lt_of_le hq hSH126.1))]).trans (hGo q hq hqa)
  have gq128 : G129 H126.size = some 65 := by rw [eGG129]; exact gU_at
  obtain ⟨q128, eq128⟩ : ∃ q, q = H126.size := ⟨_, rfl⟩
  have leq128 : s.heap.size ≤ q128 := by rw [eq128]; exact hSH126.1
  rw [← eq128] at gq128 nr_a_q128 nr_q102_q128 nr_q106_q128 nr_q110_q128
  rw [← eq128]
  clear eq128
  clear hNH127 eGG129 oH127 zH127 vH127 hTH126
  refine x_putR C hTH127 hSH127 (ci := 8) (k := 12) (v := .ref q128) (ty0 := tyX8) hR hn rfl inX8 tyX8_ok nmX8 (by decide) (Or.inr ⟨rfl, rfl, rfl⟩) wF_X8_43 (Nat.le_of_ble_eq_true rfl) rfl rfl (Or.inl rfl) dX8_init_69 (fun H130 locsH130 hR2 hTH130 hSH130 oH130 zH130 => ?_)
  clear hR
  have hR : RAW K H130 a 8 [.ref q102, .int 0, .ref q106, .ref q110, .int 0, .int 10, .int 0, .int (-1), .ref q116, .ref q120, .int 0, .ref q124, .ref q128, .int 0, .null, .null, .int 0] := hR2
  clear hR2
  replace hR103 := hR103.kept (oH130 _ (Ne.symm nr_a_q102))
  replace hR107 := hR107.kept (oH130 _ (Ne.symm nr_a_q106))
  replace hR111 := hR111.kept (oH130 _ (Ne.symm nr_a_q110))
  clear oH130 zH130 hTH127
  refine lv_aload_n hx hb dX8_init_72 rfl (lv_at hl 0 rfl) ?_
  refine lv_bipush (v := 8) hx hb dX8_init_73 (by decide) ?_
  refine x_newa C hTH130 hSH130 wAC_int rg_66 (by decide) rfl (by decide) ⟨by decide, by decide⟩ dX8_init_75 (fun H131 hTH131 hSH131 oH131 zH131 vH131 => ?_)
  have hNH131 : G129 H130.size = none := hTH130.gb _ (Nat.le_refl _)
  obtain ⟨G133, eGG133⟩ : ∃ g, g = gU G129 H130.size 66 := ⟨_, rfl⟩
  rw [← eGG133] at hTH131
  have nr_a_q132 : a ≠ H130.size := Nat.ne_of_lt hR.lt
  have nr_q102_q132 : q102 ≠ H130.size := Nat.ne_of_lt hR103.lt
  have nr_q106_q132 : q106 ≠ H130.size := Nat.ne_of_lt hR107.lt
  have nr_q110_q132 : q110 ≠ H130.size := Nat.ne_of_lt hR111.lt
  replace hR := hR.kept (oH131 _ hR.lt)
  replace hR103 := hR103.kept (oH131 _ hR103.lt)
  replace hR107 := hR107.kept (oH131 _ hR107.lt)
  replace hR111 := hR111.kept (oH131 _ hR111.lt)
  replace gq116 : G133 q116 = some 62 := by rw [eGG133]; exact gU_mono hNH131 _ _ gq116
  replace gq120 : G133 q120 = some 63 := by rw [eGG133]; exact gU_mono hNH131 _ _ gq120
  replace gq124 : G133 q124 = some 64 := by rw [eGG133]; exact gU_mono hNH131 _ _ gq124
  replace gq128 : G133 q128 = some 65 := by rw [eGG133]; exact gU_mono hNH131 _ _ gq128
  replace hn : G133 a = none := by rw [eGG133, gU_ne nr_a_q132]; exact hn
  replace hNq102 : G133 q102 = none := by rw [eGG133, gU_ne nr_q102_q132]; exact hNq102
  replace hNq106 : G133 q106 = none := by rw [eGG133, gU_ne nr_q106_q132]; exact hNq106
  replace hNq110 : G133 q110 = none := by rw [eGG133, gU_ne nr_q110_q132]; exact hNq110
  replace hGo : ∀ q, q < s.heap.size → q ≠ a → G133 q = G q := fun q hq hqa => (show G133 q = G129 q by rw [eGG133, gU_ne (Nat.ne_of_lt (Nat.lt_of_lt_of_le hq hSH130.1))]).trans (hGo q hq hqa)
  have gq132 : G133 H130.size = some 66 := by rw [eGG133]; exact gU_at
  obtain ⟨q132, eq132⟩ : ∃ q, q = H130.size := ⟨_, rfl⟩
  have leq132 : s.heap.size ≤ q132 := by rw [eq132]; exact hSH130.1
  rw [← eq132] at gq132 nr_a_q132 nr_q102_q132 nr_q106_q132 nr_q110_q132
  rw [← eq132]
  clear eq132
  clear hNH131 eGG133 oH131 zH131 vH131 hTH130
  refine x_putR C hTH131 hSH131 (ci := 8) (k := 14) (v := .ref q132) (ty0 := tyX8) hR hn rfl inX8 tyX8_ok nmX8 (by decide) (Or.inr ⟨rfl, rfl, rfl⟩) wF_X8_46 (Nat.le_of_ble_eq_true rfl) rfl rfl (Or.inl rfl) dX8_init_77 (fun H134 locsH134 hR2 hTH134 hSH134 oH134 zH134 => ?_)
  clear hR
  have hR : RAW K H134 a 8 [.ref q102, .int 0, .ref q106, .ref q110, .int 0, .int 10, .int 0, .int (-1), .ref q116, .ref q120, .int 0, .ref q124, .ref q128, .int 0, .ref q132, .null, .int 0] := hR2
  clear hR2
  replace hR103 := hR103.kept (oH134 _ (Ne.symm nr_a_q102))
  replace hR107 := hR107.kept (oH134 _ (Ne.symm nr_a_q106))
  replace hR111 := hR111.kept (oH134 _ (Ne.symm nr_a_q110))
  clear oH134 zH134 hTH131
  refine lv_aload_n hx hb dX8_init_80 rfl (lv_at hl 0 rfl) ?_
  refine lv_bipush (v := 8) hx hb dX8_init_81 (by decide) ?_
  refine x_newa C hTH134 hSH134 wAC_int rg_67 (by decide) rfl (by decide) ⟨by decide, by decide⟩ dX8_init_83 (fun H135 hTH135 hSH135 oH135 zH135 vH135 => ?_)
  have hNH135 : G133 H134.size = none := hTH134.gb _ (Nat.le_refl _)
  obtain ⟨G137, eGG137⟩ : ∃ g, g = gU G133 H134.size 67 := ⟨_, rfl⟩
  rw [← eGG137] at hTH135
  have nr_a_q136 : a ≠ H134.size := Nat.ne_of_lt hR.lt
  have nr_q102_q136 : q102 ≠ H134.size := Nat.ne_of_lt hR103.lt
  have nr_q106_q136 : q106 ≠ H134.size := Nat.ne_of_lt hR107.lt
  have nr_q110_q136 : q110 ≠ H134.size := Nat.ne_of_lt hR111.lt
  replace hR := hR.kept (oH135 _ hR.lt)
  replace hR103 := hR103.kept (oH135 _ hR103.lt)
  replace hR107 := hR107.kept (oH135 _ hR107.lt)
  replace hR111 := hR111.kept (oH135 _ hR111.lt)
  replace gq116 : G137 q116 = some 62 := by rw [eGG137]; exact gU_mono hNH135 _ _ gq116
  replace gq120 : G137 q120 = some 63 := by rw [eGG137]; exact gU_mono hNH135 _ _ gq120
  replace gq124 : G137 q124 = some 64 := by rw [eGG137]; exact gU_mono hNH135 _ _ gq124
  replace gq128 : G137 q128 = some 65 := by rw [eGG137]; exact gU_mono hNH135 _ _ gq128
  replace gq132 : G137 q132 = some 66 := by rw [eGG137]; exact gU_mono hNH135 _ _ gq132
  replace hn : G137 a = none := by rw [eGG137, gU_ne nr_a_q136]; exact hn
  replace hNq102 : G137 q102 = none := by rw [eGG137, gU_ne nr_q102_q136]; exact hNq102
  replace hNq106 : G137 q106 = none := by rw [eGG137, gU_ne nr_q106_q136]; exact hNq106
  replace hNq110 : G137 q110 = none := by rw [eGG137, gU_ne nr_q110_q136]; exact hNq110
  replace hGo : ∀ q, q < s.heap.size → q ≠ a → G137 q = G q := fun q hq hqa => (show G137 q = G133 q by rw [eGG137, gU_ne (Nat.ne_of_lt (Nat.lt_of_lt_of_le hq hSH134.1))]).trans (hGo q hq hqa)
  have gq136 : G137 H134.size = some 67 := by rw [eGG137]; exact gU_at
  obtain ⟨q136, eq136⟩ : ∃ q, q = H134.size := ⟨_, rfl⟩
  have leq136 : s.heap.size ≤ q136 := by rw [eq136]; exact hSH134.1
  rw [← eq136] at gq136 nr_a_q136 nr_q102_q136 nr_q106_q136 nr_q110_q136
  rw [← eq136]
  clear eq136
  clear hNH135 eGG137 oH135 zH135 vH135 hTH134
  refine x_putR C hTH135 hSH135 (ci := 8) (k := 15) (v := .ref q136) (ty0 := tyX8) hR hn rfl inX8 tyX8_ok nmX8 (by decide) (Or.inr ⟨rfl, rfl, rfl⟩) wF_X8_49 (Nat.le_of_ble_eq_true rfl) rfl rfl (Or.inl rfl) dX8_init_85 (fun H138 locsH138 hR2 hTH138 hSH138 oH138 zH138 => ?_)
  clear hR
  have hR : RAW K H138 a 8 [.ref q102, .int 0, .ref q106, .ref q110, .int 0, .int 10, .int 0, .int (-1), .ref q116, .ref q120, .int 0, .ref q124, .ref q128, .int 0, .ref q132, .ref q136, .int 0] := hR2
  clear hR2
  replace hR103 := hR103.kept (oH138 _ (Ne.symm nr_a_q102))
  replace hR107 := hR107.kept (oH138 _ (Ne.symm nr_a_q106))
  replace hR111 := hR111.kept (oH138 _ (Ne.symm nr_a_q110))
  clear oH138 zH138 hTH135
  refine lv_iconst (v := 0) hx hb dX8_init_88 (by decide) ?_
  refine lv_istore_n (lv' := [(1, .int 0), (0, .ref a)]) hx hb dX8_init_89 rfl hl (by decide) rfl (fun ls139 hl140 => ?_)
  refine lv_iload_n hx hb dX8_init_90 rfl (lv_at hl140 0 rfl) ?_
  refine lv_bipush (v := 10) hx hb dX8_init_91 (by decide) ?_
  refine lv_icmp_ge (tgt := 115) hx hb dX8_init_93 (by decide) (fun c141 => ?_) (fun c141 => ?_)
  · have k142 := i_le c141
    exact absurd c141 (by decide)
  · have k142 := i_nle c141
    refine lv_aload_n hx hb dX8_init_96 rfl (lv_at hl140 1 rfl) ?_
    refine x_getR C (ci := 8) (k := 0) hR rfl inX8 (by decide) wF_X8_11 rfl dX8_init_97 ?_
    refine lv_iload_n hx hb dX8_init_100 rfl (lv_at hl140 0 rfl) ?_
    refine x_new C hTH138 hSH138 (ci := 0) (ty0 := tyX0) (vs := [.int 0, .null, .null, .null, .null, .null, .null, .null, .int 0, .int 0, .null, .null, .null, .null, .int 0, .int 0, .int 0, .null]) rfl inX0 tyX0_ok wC_X8_9 wIS_X0 wIN_X0 dfX0 ⟨by decide, by decide⟩ dX8_init_101 (fun H143 hR145 hTH143 hSH143 oH143 zH143 => ?_)
    have hNq144 : G137 H138.size = none := hTH138.gb _ (Nat.le_refl _)
    have nr_a_q144 : a ≠ H138.size := Nat.ne_of_lt hR.lt
    have nr_q102_q144 : q102 ≠ H138.size := Nat.ne_of_lt hR103.lt
    have nr_q106_q144 : q106 ≠ H138.size := Nat.ne_of_lt hR107.lt
    have nr_q110_q144 : q110 ≠ H138.size := Nat.ne_of_lt hR111.lt
    replace hR := hR.kept (oH143 _ hR.lt)
    replace hR103 := hR103.kept (oH143 _ hR103.lt)
    replace hR107 := hR107.kept (oH143 _ hR107.lt)
    replace hR111 := hR111.kept (oH143 _ hR111.lt)
    obtain ⟨q144, eq144⟩ : ∃ q, q = H138.size := ⟨_, rfl⟩
    have leq144 : s.heap.size ≤ q144 := by rw [eq144]; exact hSH138.1
    rw [← eq144] at hNq144 hR145 nr_a_q144 nr_q102_q144 nr_q106_q144 nr_q110_q144
    rw [← eq144]
    clear eq144
    clear oH143 zH143 hTH138
    refine lv_dup hx hb dX8_init_104 rfl ?_
    have lt_a_H146 := hR.lt
    have lt_q102_H146 := hR103.lt
    have lt_q106_H146 := hR107.lt
    have lt_q110_H146 := hR111.lt
    refine x_IN (As := []) (rest := [.ref q144, .int 0, .ref q102]) C (k_X0_init_kept_B_x l K G137 H143 (a := q144) hTH143 hNq144 hR145) yo_X0_init rfl wN_X8_52 ⟨⟨by decide, by decide⟩, by decide, by decide⟩ rfl hl140.1 rfl (Nat.le_of_ble_eq_true rfl) dX8_init_105 hSH143 (fun x h => Or.inr (h.elim (fun e => by rw [e]; exact leq144) (fun h => Nat.le_trans hSH143.1 h))) (fun vH146 H146 locsH146 pH146 zH146 kH146 hSH146 => ?_)
    obtain ⟨hvH146, G147, hgH146, ggH146, hTH146, b1q144⟩ := pH146
    subst hvH146
    replace hR := hR.kept (kH146 _ lt_a_H146 (fun h => h.elim nr_a_q144 (Nat.not_le.mpr lt_a_H146)))
    replace hR103 := hR103.kept (kH146 _ lt_q102_H146 (fun h => h.elim nr_q102_q144 (Nat.not_le.mpr lt_q102_H146)))
    replace hR107 := hR107.kept (kH146 _ lt_q106_H146 (fun h => h.elim nr_q106_q144 (Nat.not_le.mpr lt_q106_H146)))
    replace hR111 := hR111.kept (kH146 _ lt_q110_H146 (fun h => h.elim nr_q110_q144 (Nat.not_le.mpr lt_q110_H146)))
    replace gq116 : G147 q116 = some 62 := (hgH146 _ (hTH143.lt gq116) (g_ne gq116 hNq144)).trans gq116
    replace gq120 : G147 q120 = some 63 := (hgH146 _ (hTH143.lt gq120) (g_ne gq120 hNq144)).trans gq120
    replace gq124 : G147 q124 = some 64 := (hgH146 _ (hTH143.lt gq124) (g_ne gq124 hNq144)).trans gq124
    replace gq128 : G147 q128 = some 65 := (hgH146 _ (hTH143.lt gq128) (g_ne gq128 hNq144)).trans gq128
    replace gq132 : G147 q132 = some 66 := (hgH146 _ (hTH143.lt gq132) (g_ne gq132 hNq144)).trans gq132
    replace gq136 : G147 q136 = some 67 := (hgH146 _ (hTH143.lt gq136) (g_ne gq136 hNq144)).trans gq136
    replace hn : G147 a = none := (hgH146 _ lt_a_H146 nr_a_q144).trans hn
    replace hNq102 : G147 q102 = none := (hgH146 _ lt_q102_H146 nr_q102_q144).trans hNq102
    replace hNq106 : G147 q106 = none := (hgH146 _ lt_q106_H146 nr_q106_q144).trans hNq106
    replace hNq110 : G147 q110 = none := (hgH146 _ lt_q110_H146 nr_q110_q144).trans hNq110
    replace hGo : ∀ q, q < s.heap.size → q ≠ a → G147 q = G q := fun q hq hqa => (hgH146 q (Nat.lt_of_lt_of_le hq hSH143.1) (Nat.ne_of_lt (Nat.lt_of_lt_of_le hq leq144))).trans (hGo q hq hqa)
    have gq144 : G147 q144 = some 35 := ggH146
    clear hR145 hNq144 ggH146 hgH146 kH146 zH146 hTH143 lt_a_H146 lt_q102_H146 lt_q106_H146 lt_q110_H146
    refine W.eq (g2 := F0 m 108 ls139 [.ref q144, .int 0, .ref q102]) rfl ?_
    refine x_astR (ti := 1) (ci := 0) C hTH146 hSH146 hR103 hNq102 gq144 rg_35 rfl rfl (by decide) (by decide) (Or.inr leq102) dX8_init_108 (fun H148 locsH148 hR1032 hTH148 hSH148 oH148 zH148 => ?_)
    clear hR103
    have hR103 : RAR K H148 q102 1 10 (va_up (fun _ => none) 0 (some q144)) := hR1032
    clear hR1032
    replace b1q144 := BK1.kept b1q144 (oH148 _ (g_ne gq144 hNq102))
    replace hR := hR.kept (oH148 _ nr_a_q102)
    replace hR107 := hR107.kept (oH148 _ (Ne.symm nr_q102_q106))
    replace hR111 := hR111.kept (oH148 _ (Ne.symm nr_q102_q110))
    clear oH148 zH148 hTH146
    refine lv_iinc (v := 1) (lv' := [(1, .int 1), (0, .ref a)]) hx hb dX8_init_109 hl140 (k := 0) rfl (by decide) (by decide) rfl (fun ls150 hl151 => ?_)
    refine lv_goto (tgt := 90) hx hb dX8_init_112 (by decide) ?_
    refine lv_iload_n hx hb dX8_init_90 rfl (lv_at hl151 0 rfl) ?_
    refine lv_bipush (v := 10) hx hb dX8_init_91 (by decide) ?_
    refine lv_icmp_ge (tgt := 115) hx hb dX8_init_93 (by decide) (fun c152 => ?_) (fun c152 => ?_)
    · have k153 := i_le c152
      exact absurd c152 (by decide)
    · have k153 := i_nle c152
      refine lv_aload_n hx hb dX8_init_96 rfl (lv_at hl151 1 rfl) ?_
      refine x_getR C (ci := 8) (k := 0) hR rfl inX8 (by decide) wF_X8_11 rfl dX8_init_97 ?_
      refine lv_iload_n hx hb dX8_init_100 rfl (lv_at hl151 0 rfl) ?_
      refine x_new C hTH148 hSH148 (ci := 0) (ty0 := tyX0) (vs := [.int 0, .null, .null, .null, .null, .null, .null, .null, .int 0, .int 0, .null, .null, .null, .null, .int 0, .int 0, .int 0, .null]) rfl inX0 tyX0_ok wC_X8_9 wIS_X0 wIN_X0 dfX0 ⟨by decide, by decide⟩ dX8_init_101 (fun H154 hR156 hTH154 hSH154 oH154 zH154 => ?_)
      have hNq155 : G147 H148.size = none := hTH148.gb _ (Nat.le_refl _)
      have lt_q144_q155 : q144 < H148.size := hTH148.lt gq144
      have b2q144 := BK1.hi b1q144 hTH148 (fun k hk => bkt_35 hTH148 gq144 k hk)
      clear b1q144
      have nr_a_q155 : a ≠ H148.size := Nat.ne_of_lt hR.lt
      have nr_q102_q155 : q102 ≠ H148.size := Nat.ne_of_lt hR103.lt
      have nr_q106_q155 : q106 ≠ H148.size := Nat.ne_of_lt hR107.lt
      have nr_q110_q155 : q110 ≠ H148.size := Nat.ne_of_lt hR111.lt
      replace b2q144 := BK2.kept b2q144 (oH154 _ (hTH148.lt gq144))
      replace hR := hR.kept (oH154 _ hR.lt)
      replace hR103 := hR103.kept (oH154 _ hR103.lt)
      replace hR107 := hR107.kept (oH154 _ hR107.lt)
      replace hR111 := hR111.kept (oH154 _ hR111.lt)
      obtain ⟨q155, eq155⟩ : ∃ q, q = H148.size := ⟨_, rfl⟩
      have leq155 : s.heap.size ≤ q155 := by rw [eq155]; exact hSH148.1
      rw [← eq155] at hNq155 hR156 lt_q144_q155 b2q144 nr_a_q155 nr_q102_q155 nr_q106_q155 nr_q110_q155
      rw [← eq155]
      clear eq155
      clear oH154 zH154 hTH148
      refine lv_dup hx hb dX8_init_104 rfl ?_
      have lt_a_H157 := hR.lt
      have lt_q102_H157 := hR103.lt
      have lt_q106_H157 := hR107.lt
      have lt_q110_H157 := hR111.lt
      refine x_IN (As := []) (rest := [.ref q155, .int 1, .ref q102]) C (k_X0_init_kept_B_x l K G147 H154 (a := q155) hTH154 hNq155 hR156) yo_X0_init rfl wN_X8_52 ⟨⟨by decide, by decide⟩, by decide, by decide⟩ rfl hl151.1 rfl (Nat.le_of_ble_eq_true rfl) dX8_init_105 hSH154 (fun x h => Or.inr (h.elim (fun e => by rw [e]; exact leq155) (fun h => Nat.le_trans hSH154.1 h))) (fun vH157 H157 locsH157 pH157 zH157 kH157 hSH157 => ?_)
      obtain ⟨hvH157, G158, hgH157, ggH157, hTH157, b1q155⟩ := pH157
      subst hvH157
      replace b2q144 := BK2.kept b2q144 (kH157 _ (hTH154.lt gq144) (fun h => h.elim (g_ne gq144 hNq155) (Nat.not_le.mpr (hTH154.lt gq144))))
      replace hR := hR.kept (kH157 _ lt_a_H157 (fun h => h.elim nr_a_q155 (Nat.not_le.mpr lt_a_H157)))
      replace hR103 := hR103.kept (kH157 _ lt_q102_H157 (fun h => h.elim nr_q102_q155 (Nat.not_le.mpr lt_q102_H157)))
      replace hR107 := hR107.kept (kH157 _ lt_q106_H157 (fun h => h.elim nr_q106_q155 (Nat.not_le.mpr lt_q106_H157)))
      replace hR111 := hR111.kept (kH157 _ lt_q110_H157 (fun h => h.elim nr_q110_q155 (Nat.not_le.mpr lt_q110_H157)))
      replace gq116 : G158 q116 = some 62 := (hgH157 _ (hTH154.lt gq116) (g_ne gq116 hNq155)).trans gq116
      replace gq120 : G158 q120 = some 63 := (hgH157 _ (hTH154.lt gq120) (g_ne gq120 hNq155)).trans gq120
      replace gq124 : G158 q124 = some 64 := (hgH157 _ (hTH154.lt gq124) (g_ne gq124 hNq155)).trans gq124
      replace gq128 : G158 q128 = some 65 := (hgH157 _ (hTH154.lt gq128) (g_ne gq128 hNq155)).trans gq128
      replace gq132 : G158 q132 = some 66 := (hgH157 _ (hTH154.lt gq132) (g_ne gq132 hNq155)).trans gq132
      replace gq136 : G158 q136 = some 67 := (hgH157 _ (hTH154.lt gq136) (g_ne gq136 hNq155)).trans gq136
      replace gq144 : G158 q144 = some 35 := (hgH157 _ (hTH154.lt gq144) (g_ne gq144 hNq155)).trans gq144
      replace hn : G158 a = none := (hgH157 _ lt_a_H157 nr_a_q155).trans hn
      replace hNq102 : G158 q102 = none := (hgH157 _ lt_q102_H157 nr_q102_q155).trans hNq102
      replace hNq106 : G158 q106 = none := (hgH157 _ lt_q106_H157 nr_q106_q155).trans hNq106
      replace hNq110 : G158 q110 = none := (hgH157 _ lt_q110_H157 nr_q110_q155).trans hNq110
      replace hGo : ∀ q, q < s.heap.size → q ≠ a → G158 q = G q := fun q hq hqa => (hgH157 q (Nat.lt_of_lt_of_le hq hSH154.1) (Nat.ne_of_lt (Nat.lt_of_lt_of_le hq leq155))).trans (hGo q hq hqa)
      have gq155 : G158 q155 = some 35 := ggH157
      clear hR156 hNq155 ggH157 hgH157 kH157 zH157 hTH154 lt_a_H157 lt_q102_H157 lt_q106_H157 lt_q110_H157
      refine W.eq (g2 := F0 m 108 ls150 [.ref q155, .int 1, .ref q102]) rfl ?_
      refine x_astR (ti := 1) (ci := 0) C hTH157 hSH157 hR103 hNq102 gq155 rg_35 rfl rfl (by decide) (by decide) (Or.inr leq102) dX8_init_108 (fun H159 locsH159 hR1032 hTH159 hSH159 oH159 zH159 => ?_)
      clear hR103
      have hR103 : RAR K H159 q102 1 10 (va_up (va_up (fun _ => none) 0 (some q144)) 1 (some q155)) := hR1032
      clear hR1032
      replace b2q144 := BK2.kept b2q144 (oH159 _ (g_ne gq144 hNq102))
      replace b1q155 := BK1.kept b1q155 (oH159 _ (g_ne gq155 hNq102))
      replace hR := hR.kept (oH159 _ nr_a_q102)
      replace hR107 := hR107.kept (oH159 _ (Ne.symm nr_q102_q106))
      replace hR111 := hR111.kept (oH159 _ (Ne.symm nr_q102_q110))
      clear oH159 zH159 hTH157
      refine lv_iinc (v := 2) (lv' := [(1, .int 2), (0, .ref a)]) hx hb dX8_init_109 hl151 (k := 0) rfl (by decide) (by decide) rfl (fun ls161 hl162 => ?_)
      refine lv_goto (tgt := 90) hx hb dX8_init_112 (by decide) ?_
      refine lv_iload_n hx hb dX8_init_90 rfl (lv_at hl162 0 rfl) ?_
      refine lv_bipush (v := 10) hx hb dX8_init_91 (by decide) ?_
      refine lv_icmp_ge (tgt := 115) hx hb dX8_init_93 (by decide) (fun c163 => ?_) (fun c163 => ?_)
      · have k164 := i_le c163
        exact absurd c163 (by decide)
      · have k164 := i_nle c163
        refine lv_aload_n hx hb dX8_init_96 rfl (lv_at hl162 1 rfl) ?_
        refine x_getR C (ci := 8) (k := 0) hR rfl inX8 (by decide) wF_X8_11 rfl dX8_init_97 ?_
        refine lv_iload_n hx hb dX8_init_100 rfl (lv_at hl162 0 rfl) ?_
        refine x_new C hTH159 hSH159 (ci := 0) (ty0 := tyX0) (vs := [.int 0, .null, .null, .null, .null, .null, .null, .null, .int 0, .int 0, .null, .null, .null, .null, .int 0, .int 0, .int 0, .null]) rfl inX0 tyX0_ok wC_X8_9 wIS_X0 wIN_X0 dfX0 ⟨by decide, by decide⟩ dX8_init_101 (fun H165 hR167 hTH165 hSH165 oH165 zH165 => ?_)
        have hNq166 : G158 H159.size = none := hTH159.gb _ (Nat.le_refl _)
        have lt_q155_q166 : q155 < H159.size := hTH159.lt gq155
        have b2q155 := BK1.hi b1q155 hTH159 (fun k hk => bkt_35 hTH159 gq155 k hk)
        clear b1q155
        have nr_a_q166 : a ≠ H159.size := Nat.ne_of_lt hR.lt
        have nr_q102_q166 : q102 ≠ H159.size := Nat.ne_of_lt hR103.lt
        have nr_q106_q166 : q106 ≠ H159.size := Nat.ne_of_lt hR107.lt
        have nr_q110_q166 : q110 ≠ H159.size := Nat.ne_of_lt hR111.lt
        replace b2q144 := BK2.kept b2q144 (oH165 _ (hTH159.lt gq144))
        replace b2q155 := BK2.kept b2q155 (oH165 _ (hTH159.lt gq155))
        replace hR := hR.kept (oH165 _ hR.lt)
        replace hR103 := hR103.kept (oH165 _ hR103.lt)
        replace hR107 := hR107.kept (oH165 _ hR107.lt)
        replace hR111 := hR111.kept (oH165 _ hR111.lt)
        obtain ⟨q166, eq166⟩ : ∃ q, q = H159.size := ⟨_, rfl⟩
        have leq166 : s.heap.size ≤ q166 := by rw [eq166]; exact hSH159.1
        rw [← eq166] at hNq166 hR167 lt_q155_q166 b2q155 nr_a_q166 nr_q102_q166 nr_q106_q166 nr_q110_q166
        rw [← eq166]
        clear eq166
        clear oH165 zH165 hTH159
        refine lv_dup hx hb dX8_init_104 rfl ?_
        have lt_a_H168 := hR.lt
        have lt_q102_H168 := hR103.lt
        have lt_q106_H168 := hR107.lt
        have lt_q110_H168 := hR111.lt
        refine x_IN (As := []) (rest := [.ref q166, .int 2, .ref q102]) C (k_X0_init_kept_B_x l K G158 H165 (a := q166) hTH165 hNq166 hR167) yo_X0_init rfl wN_X8_52 ⟨⟨by decide, by decide⟩, by decide, by decide⟩ rfl hl162.1 rfl (Nat.le_of_ble_eq_true rfl) dX8_init_105 hSH165 (fun x h => Or.inr (h.elim (fun e => by rw [e]; exact leq166) (fun h => Nat.le_trans hSH165.1 h))) (fun vH168 H168 locsH168 pH168 zH168 kH168 hSH168 => ?_)
        obtain ⟨hvH168, G169, hgH168, ggH168, hTH168, b1q166⟩ := pH168
        subst hvH168
        replace b2q144 := BK2.kept b2q144 (kH168 _ (hTH165.lt gq144) (fun h => h.elim (g_ne gq144 hNq166) (Nat.not_le.mpr (hTH165.lt gq144))))
        replace b2q155 := BK2.kept b2q155 (kH168 _ (hTH165.lt gq155) (fun h => h.elim (g_ne gq155 hNq166) (Nat.not_le.mpr (hTH165.lt gq155))))
        replace hR := hR.kept (kH168 _ lt_a_H168 (fun h => h.elim nr_a_q166 (Nat.not_le.mpr lt_a_H168)))
        replace hR103 := hR103.kept (kH168 _ lt_q102_H168 (fun h => h.elim nr_q102_q166 (Nat.not_le.mpr lt_q102_H168)))
        replace hR107 := hR107.kept (kH168 _ lt_q106_H168 (fun h => h.elim nr_q106_q166 (Nat.not_le.mpr lt_q106_H168)))
        replace hR111 := hR111.kept (kH168 _ lt_q110_H168 (fun h => h.elim nr_q110_q166 (Nat.not_le.mpr lt_q110_H168)))
        replace gq116 : G169 q116 = some 62 := (hgH168 _ (hTH165.lt gq116) (g_ne gq116 hNq166)).trans gq116
        replace gq120 : G169 q120 = some 63 := (hgH168 _ (hTH165.lt gq120) (g_ne gq120 hNq166)).trans gq120
        replace gq124 : G169 q124 = some 64 := (hgH168 _ (hTH165.lt gq124) (g_ne gq124 hNq166)).trans gq124
        replace gq128 : G169 q128 = some 65 := (hgH168 _ (hTH165.lt gq128) (g_ne gq128 hNq166)).trans gq128
        replace gq132 : G169 q132 = some 66 := (hgH168 _ (hTH165.lt gq132) (g_ne gq132 hNq166)).trans gq132
        replace gq136 : G169 q136 = some 67 := (hgH168 _ (hTH165.lt gq136) (g_ne gq136 hNq166)).trans gq136
        replace gq144 : G169 q144 = some 35 := (hgH168 _ (hTH165.lt gq144) (g_ne gq144 hNq166)).trans gq144
        replace gq155 : G169 q155 = some 35 := (hgH168 _ (hTH165.lt gq155) (g_ne gq155 hNq166)).trans gq155
        replace hn : G169 a = none := (hgH168 _ lt_a_H168 nr_a_q166).trans hn
        replace hNq102 : G169 q102 = none := (hgH168 _ lt_q102_H168 nr_q102_q166).trans hNq102
        replace hNq106 : G169 q106 = none := (hgH168 _ lt_q106_H168 nr_q106_q166).trans hNq106
        replace hNq110 : G169 q110 = none := (hgH168 _ lt_q110_H168 nr_q110_q166).trans hNq110
        replace hGo : ∀ q, q < s.heap.size → q ≠ a → G169 q = G q := fun q hq hqa => (hgH168 q (Nat.lt_of_lt_of_le hq hSH165.1) (Nat.ne_of_lt (Nat.lt_of_lt_of_le hq leq166))).trans (hGo q hq hqa)
        have gq166 : G169 q166 = some 35 := ggH168
        clear hR167 hNq166 ggH168 hgH168 kH168 zH168 hTH165 lt_a_H168 lt_q102_H168 lt_q106_H168 lt_q110_H168
        refine W.eq (g2 := F0 m 108 ls161 [.ref q166, .int 2, .ref q102]) rfl ?_
        refine x_astR (ti := 1) (ci := 0) C hTH168 hSH168 hR103 hNq102 gq166 rg_35 rfl rfl (by decide) (by decide) (Or.inr leq102) dX8_init_108 (fun H170 locsH170 hR1032 hTH170 hSH170 oH170 zH170 => ?_)
        clear hR103
        have hR103 : RAR K H170 q102 1 10 (va_up (va_up (va_up (fun _ => none) 0 (some q144)) 1 (some q155)) 2 (some q166)) := hR1032
        clear hR1032
        replace b2q144 := BK2.kept b2q144 (oH170 _ (g_ne gq144 hNq102))
        replace b2q155 := BK2.kept b2q155 (oH170 _ (g_ne gq155 hNq102))
        replace b1q166 := BK1.kept b1q166 (oH170 _ (g_ne gq166 hNq102))
        replace hR := hR.kept (oH170 _ nr_a_q102)
        replace hR107 := hR107.kept (oH170 _ (Ne.symm nr_q102_q106))
        replace hR111 := hR111.kept (oH170 _ (Ne.symm nr_q102_q110))
        clear oH170 zH170 hTH168
        refine lv_iinc (v := 3) (lv' := [(1, .int 3), (0, .ref a)]) hx hb dX8_init_109 hl162 (k := 0) rfl (by decide) (by decide) rfl (fun ls172 hl173 => ?_)
        refine lv_goto (tgt := 90) hx hb dX8_init_112 (by decide) ?_
        refine lv_iload_n hx hb dX8_init_90 rfl (lv_at hl173 0 rfl) ?_
        refine lv_bipush (v := 10) hx hb dX8_init_91 (by decide) ?_
        refine lv_icmp_ge (tgt := 115) hx hb dX8_init_93 (by decide) (fun c174 => ?_) (fun c174 => ?_)
        · have k175 := i_le c174
          exact absurd c174 (by decide)
        · have k175 := i_nle c174
          refine lv_aload_n hx hb dX8_init_96 rfl (lv_at hl173 1 rfl) ?_
          refine x_getR C (ci := 8) (k := 0) hR rfl inX8 (by decide) wF_X8_11 rfl dX8_init_97 ?_
          refine lv_iload_n hx hb dX8_init_100 rfl (lv_at hl173 0 rfl) ?_
          refine x_new C hTH170 hSH170 (ci := 0) (ty0 := tyX0) (vs := [.int 0, .null, .null, .null, .null, .null, .null, .null, .int 0, .int 0, .null, .null, .null, .null, .int 0, .int 0, .int 0, .null]) rfl inX0 tyX0_ok wC_X8_9 wIS_X0 wIN_X0 dfX0 ⟨by decide, by decide⟩ dX8_init_101 (fun H176 hR178 hTH176 hSH176 oH176 zH176 => ?_)
          have hNq177 : G169 H170.size = none := hTH170.gb _ (Nat.le_refl _)
          have lt_q166_q177 : q166 < H170.size := hTH170.lt gq166
          have b2q166 := BK1.hi b1q166 hTH170 (fun k hk => bkt_35 hTH170 gq166 k hk)
          clear b1q166
          have nr_a_q177 : a ≠ H170.size := Nat.ne_of_lt hR.lt
          have nr_q102_q177 : q102 ≠ H170.size := Nat.ne_of_lt hR103.lt
          have nr_q106_q177 : q106 ≠ H170.size := Nat.ne_of_lt hR107.lt
          have nr_q110_q177 : q110 ≠ H170.size := Nat.ne_of_lt hR111.lt
          replace b2q144 := BK2.kept b2q144 (oH176 _ (hTH170.lt gq144))
          replace b2q155 := BK2.kept b2q155 (oH176 _ (hTH170.lt gq155))
          replace b2q166 := BK2.kept b2q166 (oH176 _ (hTH170.lt gq166))
          replace hR := hR.kept (oH176 _ hR.lt)
          replace hR103 := hR103.kept (oH176 _ hR103.lt)
          replace hR107 := hR107.kept (oH176 _ hR107.lt)
          replace hR111 := hR111.kept (oH176 _ hR111.lt)
          obtain ⟨q177, eq177⟩ : ∃ q, q = H170.size := ⟨_, rfl⟩
          have leq177 : s.heap.size ≤ q177 := by rw [eq177]; exact hSH170.1
          rw [← eq177] at hNq177 hR178 lt_q166_q177 b2q166 nr_a_q177 nr_q102_q177 nr_q106_q177 nr_q110_q177
          rw [← eq177]
          clear eq177
          clear oH176 zH176 hTH170
          refine lv_dup hx hb dX8_init_104 rfl ?_
          have lt_a_H179 := hR.lt
          have lt_q102_H179 := hR103.lt
          have lt_q106_H179 := hR107.lt
          have lt_q110_H179 := hR111.lt
          refine x_IN (As := []) (rest := [.ref q177, .int 3, .ref q102]) C (k_X0_init_kept_B_x l K G169 H176 (a := q177) hTH176 hNq177 hR178) yo_X0_init rfl wN_X8_52 ⟨⟨by decide, by decide⟩, by decide, by decide⟩ rfl hl173.1 rfl (Nat.le_of_ble_eq_true rfl) dX8_init_105 hSH176 (fun x h => Or.inr (h.elim (fun e => by rw [e]; exact leq177) (fun h => Nat.le_trans hSH176.1 h))) (fun vH179 H179 locsH179 pH179 zH179 kH179 hSH179 => ?_)
          obtain ⟨hvH179, G180, hgH179, ggH179, hTH179, b1q177⟩ := pH179
          subst hvH179
          replace b2q144 := BK2.kept b2q144 (kH179 _ (hTH176.lt gq144) (fun h => h.elim (g_ne gq144 hNq177) (Nat.not_le.mpr (hTH176.lt gq144))))
          replace b2q155 := BK2.kept b2q155 (kH179 _ (hTH176.lt gq155) (fun h => h.elim (g_ne gq155 hNq177) (Nat.not_le.mpr (hTH176.lt gq155))))
          replace b2q166 := BK2.kept b2q166 (kH179 _ (hTH176.lt gq166) (fun h => h.elim (g_ne gq166 hNq177) (Nat.not_le.mpr (hTH176.lt gq166))))
          replace hR := hR.kept (kH179 _ lt_a_H179 (fun h => h.elim nr_a_q177 (Nat.not_le.mpr lt_a_H179)))
          replace hR103 := hR103.kept (kH179 _ lt_q102_H179 (fun h => h.elim nr_q102_q177 (Nat.not_le.mpr lt_q102_H179)))
          replace hR107 := hR107.kept (kH179 _ lt_q106_H179 (fun h => h.elim nr_q106_q177 (Nat.not_le.mpr lt_q106_H179)))
          replace hR111 := hR111.kept (kH179 _ lt_q110_H179 (fun h => h.elim nr_q110_q177 (Nat.not_le.mpr lt_q110_H179)))
          replace gq116 : G180 q116 = some 62 := (hgH179 _ (hTH176.lt gq116) (g_ne gq116 hNq177)).trans gq116
          replace gq120 : G180 q120 = some 63 := (hgH179 _ (hTH176.lt gq120) (g_ne gq120 hNq177)).trans gq120
          replace gq124 : G180 q124 = some 64 := (hgH179 _ (hTH176.lt gq124) (g_ne gq124 hNq177)).trans gq124
          replace gq128 : G180 q128 = some 65 := (hgH179 _ (hTH176.lt gq128) (g_ne gq128 hNq177)).trans gq128
          replace gq132 : G180 q132 = some 66 := (hgH179 _ (hTH176.lt gq132) (g_ne gq132 hNq177)).trans gq132
          replace gq136 : G180 q136 = some 67 := (hgH179 _ (hTH176.lt gq136) (g_ne gq136 hNq177)).trans gq136
          replace gq144 : G180 q144 = some 35 := (hgH179 _ (hTH176.lt gq144) (g_ne gq144 hNq177)).trans gq144
          replace gq155 : G180 q155 = some 35 := (hgH179 _ (hTH176.lt gq155) (g_ne gq155 hNq177)).trans gq155
          replace gq166 : G180 q166 = some 35 := (hgH179 _ (hTH176.lt gq166) (g_ne gq166 hNq177)).trans gq166
          replace hn : G180 a = none := (hgH179 _ lt_a_H179 nr_a_q177).trans hn
          replace hNq102 : G180 q102 = none := (hgH179 _ lt_q102_H179 nr_q102_q177).trans hNq102
          replace hNq106 : G180 q106 = none := (hgH179 _ lt_q106_H179 nr_q106_q177).trans hNq106
          replace hNq110 : G180 q110 = none := (hgH179 _ lt_q110_H179 nr_q110_q177).trans hNq110
          replace hGo : ∀ q, q < s.heap.size → q ≠ a → G180 q = G q := fun q hq hqa => (hgH179 q (Nat.lt_of_lt_of_le hq hSH176.1) (Nat.ne_of_lt (Nat.lt_of_lt_of_le hq leq177))).trans (hGo q hq hqa)
          have gq177 : G180 q177 = some 35 := ggH179
          clear hR178 hNq177 ggH179 hgH179 kH179 zH179 hTH176 lt_a_H179 lt_q102_H179 lt_q106_H179 lt_q110_H179
          refine W.eq (g2 := F0 m 108 ls172 [.ref q177, .int 3, .ref q102]) rfl ?_
          refine x_astR (ti := 1) (ci := 0) C hTH179 hSH179 hR103 hNq102 gq177 rg_35 rfl rfl (by decide) (by decide) (Or.inr leq102) dX8_init_108 (fun H181 locsH181 hR1032 hTH181 hSH181 oH181 zH181 => ?_)
          clear hR103
          have hR103 : RAR K H181 q102 1 10 (va_up (va_up (va_up (va_up (fun _ => none) 0 (some q144)) 1 (some q155)) 2 (some q166)) 3 (some q177)) := hR1032
          clear hR1032
          replace b2q144 := BK2.kept b2q144 (oH181 _ (g_ne gq144 hNq102))
          replace b2q155 := BK2.kept b2q155 (oH181 _ (g_ne gq155 hNq102))
          replace b2q166 := BK2.kept b2q166 (oH181 _ (g_ne gq166 hNq102))
          replace b1q177 := BK1.kept b1q177 (oH181 _ (g_ne gq177 hNq102))
          replace hR := hR.kept (oH181 _ nr_a_q102)
          replace hR107 := hR107.kept (oH181 _ (Ne.symm nr_q102_q106))
          replace hR111 := hR111.kept (oH181 _ (Ne.symm nr_q102_q110))
          clear oH181 zH181 hTH179
          refine lv_iinc (v := 4) (lv' := [(1, .int 4), (0, .ref a)]) hx hb dX8_init_109 hl173 (k := 0) rfl (by decide) (by decide) rfl (fun ls183 hl184 => ?_)
          refine lv_goto (tgt := 90) hx hb dX8_init_112 (by decide) ?_
          refine lv_iload_n hx hb dX8_init_90 rfl (lv_at hl184 0 rfl) ?_
          refine lv_bipush (v := 10) hx hb dX8_init_91 (by decide) ?_
          refine lv_icmp_ge (tgt := 115) hx hb dX8_init_93 (by decide) (fun c185 => ?_) (fun c185 => ?_)
          · have k186 := i_le c185
            exact absurd c185 (by decide)
          · have k186 := i_nle c185
            refine lv_aload_n hx hb dX8_init_96 rfl (lv_at hl184 1 rfl) ?_
            refine x_getR C (ci := 8) (k := 0) hR rfl inX8 (by decide) wF_X8_11 rfl dX8_init_97 ?_
            refine lv_iload_n hx hb dX8_init_100 rfl (lv_at hl184 0 rfl) ?_
            refine x_new C hTH181 hSH181 (ci := 0) (ty0 := tyX0) (vs := [.int 0, .null, .null, .null, .null, .null, .null, .null, .int 0, .int 0, .null, .null, .null, .null, .int 0, .int 0, .int 0, .null]) rfl inX0 tyX0_ok wC_X8_9 wIS_X0 wIN_X0 dfX0 ⟨by decide, by decide⟩ dX8_init_101 (fun H187 hR189 hTH187 hSH187 oH187 zH187 => ?_)
            have hNq188 : G180 H181.size = none := hTH181.gb _ (Nat.le_refl _)
            have lt_q177_q188 : q177 < H181.size := hTH181.lt gq177
            have b2q177 := BK1.hi b1q177 hTH181 (fun k hk => bkt_35 hTH181 gq177 k hk)
            clear b1q177
            have nr_a_q188 : a ≠ H181.size := Nat.ne_of_lt hR.lt
            have nr_q102_q188 : q102 ≠ H181.size := Nat.ne_of_lt hR103.lt
            have nr_q106_q188 : q106 ≠ H181.size := Nat.ne_of_lt hR107.lt
            have nr_q110_q188 : q110 ≠ H181.size := Nat.ne_of_lt hR111.lt
            replace b2q144 := BK2.kept b2q144 (oH187 _ (hTH181.lt gq144))
            replace b2q155 := BK2.kept b2q155 (oH187 _ (hTH181.lt gq155))
            replace b2q166 := BK2.kept b2q166 (oH187 _ (hTH181.lt gq166))
            replace b2q177 := BK2.kept b2q177 (oH187 _ (hTH181.lt gq177))
            replace hR := hR.kept (oH187 _ hR.lt)
            replace hR103 := hR103.kept (oH187 _ hR103.lt)
            replace hR107 := hR107.kept (oH187 _ hR107.lt)
            replace hR111 := hR111.kept (oH187 _ hR111.lt)
            obtain ⟨q188, eq188⟩ : ∃ q, q = H181.size := ⟨_, rfl⟩
            have leq188 : s.heap.size ≤ q188 := by rw [eq188]; exact hSH181.1
            rw [← eq188] at hNq188 hR189 lt_q177_q188 b2q177 nr_a_q188 nr_q102_q188 nr_q106_q188 nr_q110_q188
            rw [← eq188]
            clear eq188
            clear oH187 zH187 hTH181
            refine lv_dup hx hb dX8_init_104 rfl ?_
            have lt_a_H190 := hR.lt
            have lt_q102_H190 := hR103.lt
            have lt_q106_H190 := hR107.lt
            have lt_q110_H190 := hR111.lt
            refine x_IN (As := []) (rest := [.ref q188, .int 4, .ref q102]) C (k_X0_init_kept_B_x l K G180 H187 (a := q188) hTH187 hNq188 hR189) yo_X0_init rfl wN_X8_52 ⟨⟨by decide, by decide⟩, by decide, by decide⟩ rfl hl184.1 rfl (Nat.le_of_ble_eq_true rfl) dX8_init_105 hSH187 (fun x h => Or.inr (h.elim (fun e => by rw [e]; exact leq188) (fun h => Nat.le_trans hSH187.1 h))) (fun vH190 H190 locsH190 pH190 zH190 kH190 hSH190 => ?_)
            obtain ⟨hvH190, G191, hgH190, ggH190, hTH190, b1q188⟩ := pH190
            subst hvH190
            replace b2q144 := BK2.kept b2q144 (kH190 _ (hTH187.lt gq144) (fun h => h.elim (g_ne gq144 hNq188) (Nat.not_le.mpr (hTH187.lt gq144))))
            replace b2q155 := BK2.kept b2q155 (kH190 _ (hTH187.lt gq155) (fun h => h.elim (g_ne gq155 hNq188) (Nat.not_le.mpr (hTH187.lt gq155))))
            replace b2q166 := BK2.kept b2q166 (kH190 _ (hTH187.lt gq166) (fun h => h.elim (g_ne gq166 hNq188) (Nat.not_le.mpr (hTH187.lt gq166))))
            replace b2q177 := BK2.kept b2q177 (kH190 _ (hTH187.lt gq177) (fun h => h.elim (g_ne gq177 hNq188) (Nat.not_le.mpr (hTH187.lt gq177))))
            replace hR := hR.kept (kH190 _ lt_a_H190 (fun h => h.elim nr_a_q188 (Nat.not_le.mpr lt_a_H190)))
            replace hR103 := hR103.kept (kH190 _ lt_q102_H190 (fun h => h.elim nr_q102_q188 (Nat.not_le.mpr lt_q102_H190)))
            replace hR107 := hR107.kept (kH190 _ lt_q106_H190 (fun h => h.elim nr_q106_q188 (Nat.not_le.mpr lt_q106_H190)))
            replace hR111 := hR111.kept (kH190 _ lt_q110_H190 (fun h => h.elim nr_q110_q188 (Nat.not_le.mpr lt_q110_H190)))
            replace gq116 : G191 q116 = some 62 := (hgH190 _ (hTH187.lt gq116) (g_ne gq116 hNq188)).trans gq116
            replace gq120 : G191 q120 = some 63 := (hgH190 _ (hTH187.lt gq120) (g_ne gq120 hNq188)).trans gq120
            replace gq124 : G191 q124 = some 64 := (hgH190 _ (hTH187.lt gq124) (g_ne gq124 hNq188)).trans gq124
            replace gq128 : G191 q128 = some 65 := (hgH190 _ (hTH187.lt gq128) (g_ne gq128 hNq188)).trans gq128
            replace gq132 : G191 q132 = some 66 := (hgH190 _ (hTH187.lt gq132) (g_ne gq132 hNq188)).trans gq132
            replace gq136 : G191 q136 = some 67 := (hgH190 _ (hTH187.lt gq136) (g_ne gq136 hNq188)).trans gq136
            replace gq144 : G191 q144 = some 35 := (hgH190 _ (hTH187.lt gq144) (g_ne gq144 hNq188)).trans gq144
            replace gq155 : G191 q155 = some 35 := (hgH190 _ (hTH187.lt gq155) (g_ne gq155 hNq188)).trans gq155
            replace gq166 : G191 q166 = some 35 := (hgH190 _ (hTH187.lt gq166) (g_ne gq166 hNq188)).trans gq166
            replace gq177 : G191 q177 = some 35 := (hgH190 _ (hTH187.lt gq177) (g_ne gq177 hNq188)).trans gq177
            replace hn : G191 a = none := (hgH190 _ lt_a_H190 nr_a_q188).trans hn
            replace hNq102 : G191 q102 = none := (hgH190 _ lt_q102_H190 nr_q102_q188).trans hNq102
            replace hNq106 : G191 q106 = none := (hgH190 _ lt_q106_H190 nr_q106_q188).trans hNq106
            replace hNq110 : G191 q110 = none := (hgH190 _ lt_q110_H190 nr_q110_q188).trans hNq110
            replace hGo : ∀ q, q < s.heap.size → q ≠ a → G191 q = G q := fun q hq hqa => (hgH190 q (Nat.lt_of_lt_of_le hq hSH187.1) (Nat.ne_of_lt (Nat.lt_of_lt_of_le hq leq188))).trans (hGo q hq hqa)
            have gq188 : G191 q188 = some 35 := ggH190
            clear hR189 hNq188 ggH190 hgH190 kH190 zH190 hTH187 lt_a_H190 lt_q102_H190 lt_q106_H190 lt_q110_H190
            refine W.eq (g2 := F0 m 108 ls183 [.ref q188, .int 4, .ref q102]) rfl ?_
            refine x_astR (ti := 1) (ci := 0) C hTH190 hSH190 hR103 hNq102 gq188 rg_35 rfl rfl (by decide) (by decide) (Or.inr leq102) dX8_init_108 (fun H192 locsH192 hR1032 hTH192 hSH192 oH192 zH192 => ?_)
            clear hR103
            have hR103 : RAR K H192 q102 1 10 (va_up (va_up (va_up (va_up (va_up (fun _ => none) 0 (some q144)) 1 (some q155)) 2 (some q166)) 3 (some q177)) 4 (some q188)) := hR1032
            clear hR1032
            replace b2q144 := BK2.kept b2q144 (oH192 _ (g_ne gq144 hNq102))
            replace b2q155 := BK2.kept b2q155 (oH192 _ (g_ne gq155 hNq102))
            replace b2q166 := BK2.kept b2q166 (oH192 _ (g_ne gq166 hNq102))
            replace b2q177 := BK2.kept b2q177 (oH192 _ (g_ne gq177 hNq102))
            replace b1q188 := BK1.kept b1q188 (oH192 _ (g_ne gq188 hNq102))
            replace hR := hR.kept (oH192 _ nr_a_q102)
            replace hR107 := hR107.kept (oH192 _ (Ne.symm nr_q102_q106))
            replace hR111 := hR111.kept (oH192 _ (Ne.symm nr_q102_q110))
            clear oH192 zH192 hTH190
            refine lv_iinc (v := 5) (lv' := [(1, .int 5), (0, .ref a)]) hx hb dX8_init_109 hl184 (k := 0) rfl (by decide) (by decide) rfl (fun ls194 hl195 => ?_)
            refine lv_goto (tgt := 90) hx hb dX8_init_112 (by decide) ?_
            refine lv_iload_n hx hb dX8_init_90 rfl (lv_at hl195 0 rfl) ?_
            refine lv_bipush (v := 10) hx hb dX8_init_91 (by decide) ?_
            refine lv_icmp_ge (tgt := 115) hx hb dX8_init_93 (by decide) (fun c196 => ?_) (fun c196 => ?_)
            · have k197 := i_le c196
              exact absurd c196 (by decide)
            · have k197 := i_nle c196
              refine lv_aload_n hx hb dX8_init_96 rfl (lv_at hl195 1 rfl) ?_
              refine x_getR C (ci := 8) (k := 0) hR rfl inX8 (by decide) wF_X8_11 rfl dX8_init_97 ?_
              refine lv_iload_n hx hb dX8_init_100 rfl (lv_at hl195 0 rfl) ?_
              refine x_new C hTH192 hSH192 (ci := 0) (ty0 := tyX0) (vs := [.int 0, .null, .null, .null, .null, .null, .null, .null, .int 0, .int 0, .null, .null, .null, .null, .int 0, .int 0, .int 0, .null]) rfl inX0 tyX0_ok wC_X8_9 wIS_X0 wIN_X0 dfX0 ⟨by decide, by decide⟩ dX8_init_101 (fun H198 hR200 hTH198 hSH198 oH198 zH198 => ?_)
              have hNq199 : G191 H192.size = none := hTH192.gb _ (Nat.le_refl _)
              have lt_q188_q199 : q188 < H192.size := hTH192.lt gq188
              have b2q188 := BK1.hi b1q188 hTH192 (fun k hk => bkt_35 hTH192 gq188 k hk)
              clear b1q188
              have nr_a_q199 : a ≠ H192.size := Nat.ne_of_lt hR.lt
              have nr_q102_q199 : q102 ≠ H192.size := Nat.ne_of_lt hR103.lt
              have nr_q106_q199 : q106 ≠ H192.size := Nat.ne_of_lt hR107.lt
              have nr_q110_q199 : q110 ≠ H192.size := Nat.ne_of_lt hR111.lt
              replace b2q144 := BK2.kept b2q144 (oH198 _ (hTH192.lt gq144))
              replace b2q155 := BK2.kept b2q155 (oH198 _ (hTH192.lt gq155))
              replace b2q166 := BK2.kept b2q166 (oH198 _ (hTH192.lt gq166))
              replace b2q177 := BK2.kept b2q177 (oH198 _ (hTH192.lt gq177))
              replace b2q188 := BK2.kept b2q188 (oH198 _ (hTH192.lt gq188))
              replace hR := hR.kept (oH198 _ hR.lt)
              replace hR103 := hR103.kept (oH198 _ hR103.lt)
              replace hR107 := hR107.kept (oH198 _ hR107.lt)
              replace hR111 := hR111.kept (oH198 _ hR111.lt)
              obtain ⟨q199, eq199⟩ : ∃ q, q = H192.size := ⟨_, rfl⟩
              have leq199 : s.heap.size ≤ q199 := by rw [eq199]; exact hSH192.1
              rw [← eq199] at hNq199 hR200 lt_q188_q199 b2q188 nr_a_q199 nr_q102_q199 nr_q106_q199 nr_q110_q199
              rw [← eq199]
              clear eq199
              clear oH198 zH198 hTH192
              refine lv_dup hx hb dX8_init_104 rfl ?_
              have lt_a_H201 := hR.lt
              have lt_q102_H201 := hR103.lt
              have lt_q106_H201 := hR107.lt
              have lt_q110_H201 := hR111.lt
              refine x_IN (As := []) (rest := [.ref q199, .int 5, .ref q102]) C (k_X0_init_kept_B_x l K G191 H198 (a := q199) hTH198 hNq199 hR200) yo_X0_init rfl wN_X8_52 ⟨⟨by decide, by decide⟩, by decide, by decide⟩ rfl hl195.1 rfl (Nat.le_of_ble_eq_true rfl) dX8_init_105 hSH198 (fun x h => Or.inr (h.elim (fun e => by rw [e]; exact leq199) (fun h => Nat.le_trans hSH198.1 h))) (fun vH201 H201 locsH201 pH201 zH201 kH201 hSH201 => ?_)
              obtain ⟨hvH201, G202, hgH201, ggH201, hTH201, b1q199⟩ := pH201
              subst hvH201
              replace b2q144 := BK2.kept b2q144 (kH201 _ (hTH198.lt gq144) (fun h => h.elim (g_ne gq144 hNq199) (Nat.not_le.mpr (hTH198.lt gq144))))
              replace b2q155 := BK2.kept b2q155 (kH201 _ (hTH198.lt gq155) (fun h => h.elim (g_ne gq155 hNq199) (Nat.not_le.mpr (hTH198.lt gq155))))
              replace b2q166 := BK2.kept b2q166 (kH201 _ (hTH198.lt gq166) (fun h => h.elim (g_ne gq166 hNq199) (Nat.not_le.mpr (hTH198.lt gq166))))
              replace b2q177 := BK2.kept b2q177 (kH201 _ (hTH198.lt gq177) (fun h => h.elim (g_ne gq177 hNq199) (Nat.not_le.mpr (hTH198.lt gq177))))
              replace b2q188 := BK2.kept b2q188 (kH201 _ (hTH198.lt gq188) (fun h => h.elim (g_ne gq188 hNq199) (Nat.not_le.mpr (hTH198.lt gq188))))
              replace hR := hR.kept (kH201 _ lt_a_H201 (fun h => h.elim nr_a_q199 (Nat.not_le.mpr lt_a_H201)))
              replace hR103 := hR103.kept (kH201 _ lt_q102_H201 (fun h => h.elim nr_q102_q199 (Nat.not_le.mpr lt_q102_H201)))
              replace hR107 := hR107.kept (kH201 _ lt_q106_H201 (fun h => h.elim nr_q106_q199 (Nat.not_le.mpr lt_q106_H201)))
              replace hR111 := hR111.kept (kH201 _ lt_q110_H201 (fun h => h.elim nr_q110_q199 (Nat.not_le.mpr lt_q110_H201)))
              replace gq116 : G202 q116 = some 62 := (hgH201 _ (hTH198.lt gq116) (g_ne gq116 hNq199)).trans gq116
              replace gq120 : G202 q120 = some 63 := (hgH201 _ (hTH198.lt gq120) (g_ne gq120 hNq199)).trans gq120
              replace gq124 : G202 q124 = some 64 := (hgH201 _ (hTH198.lt gq124) (g_ne gq124 hNq199)).trans gq124
              replace gq128 : G202 q128 = some 65 := (hgH201 _ (hTH198.lt gq128) (g_ne gq128 hNq199)).trans gq128
              replace gq132 : G202 q132 = some 66 := (hgH201 _ (hTH198.lt gq132) (g_ne gq132 hNq199)).trans gq132
              replace gq136 : G202 q136 = some 67 := (hgH201 _ (hTH198.lt gq136) (g_ne gq136 hNq199)).trans gq136
              replace gq144 : G202 q144 = some 35 := (hgH201 _ (hTH198.lt gq144) (g_ne gq144 hNq199)).trans gq144
              replace gq155 : G202 q155 = some 35 := (hgH201 _ (hTH198.lt gq155) (g_ne gq155 hNq199)).trans gq155
              replace gq166 : G202 q166 = some 35 := (hgH201 _ (hTH198.lt gq166) (g_ne gq166 hNq199)).trans gq166
              replace gq177 : G202 q177 = some 35 := (hgH201 _ (hTH198.lt gq177) (g_ne gq177 hNq199)).trans gq177
              replace gq188 : G202 q188 = some 35 := (hgH201 _ (hTH198.lt gq188) (g_ne gq188 hNq199)).trans gq188
              replace hn : G202 a = none := (hgH201 _ lt_a_H201 nr_a_q199).trans hn
              replace hNq102 : G202 q102 = none := (hgH201 _ lt_q102_H201 nr_q102_q199).trans hNq102
              replace hNq106 : G202 q106 = none := (hgH201 _ lt_q106_H201 nr_q106_q199).trans hNq106
              replace hNq110 : G202 q110 = none := (hgH201 _ lt_q110_H201 nr_q110_q199).trans hNq110
              replace hGo : ∀ q, q < s.heap.size → q ≠ a → G202 q = G q := fun q hq hqa => (hgH201 q (Nat.lt_of_lt_of_le hq hSH198.1) (Nat.ne_of_lt (Nat.lt_of_lt_of_le hq leq199))).trans (hGo q hq hqa)
              have gq199 : G202 q199 = some 35 := ggH201
              clear hR200 hNq199 ggH201 hgH201 kH201 zH201 hTH198 lt_a_H201 lt_q102_H201 lt_q106_H201 lt_q110_H201
              refine W.eq (g2 := F0 m 108 ls194 [.ref q199, .int 5, .ref q102]) rfl ?_
              refine x_astR (ti := 1) (ci := 0) C hTH201 hSH201 hR103 hNq102 gq199 rg_35 rfl rfl (by decide) (by decide) (Or.inr leq102) dX8_init_108 (fun H203 locsH203 hR1032 hTH203 hSH203 oH203 zH203 => ?_)
              clear hR103
              have hR103 : RAR K H203 q102 1 10 (va_up (va_up (va_up (va_up (va_up (va_up (fun _ => none) 0 (some q144)) 1 (some q155)) 2 (some q166)) 3 (some q177)) 4 (some q188)) 5 (some q199)) := hR1032
              clear hR1032
              replace b2q144 := BK2.kept b2q144 (oH203 _ (g_ne gq144 hNq102))
              replace b2q155 := BK2.kept b2q155 (oH203 _ (g_ne gq155 hNq102))
              replace b2q166 := BK2.kept b2q166 (oH203 _ (g_ne gq166 hNq102))
              replace b2q177 := BK2.kept b2q177 (oH203 _ (g_ne gq177 hNq102))
              replace b2q188 := BK2.kept b2q188 (oH203 _ (g_ne gq188 hNq102))
              replace b1q199 := BK1.kept b1q199 (oH203 _ (g_ne gq199 hNq102))
              replace hR := hR.kept (oH203 _ nr_a_q102)
              replace hR107 := hR107.kept (oH203 _ (Ne.symm nr_q102_q106))
              replace hR111 := hR111.kept (oH203 _ (Ne.symm nr_q102_q110))
              clear oH203 zH203 hTH201
              refine lv_iinc (v := 6) (lv' := [(1, .int 6), (0, .ref a)]) hx hb dX8_init_109 hl195 (k := 0) rfl (by decide) (by decide) rfl (fun ls205 hl206 => ?_)
              refine lv_goto (tgt := 90) hx hb dX8_init_112 (by decide) ?_
              refine lv_iload_n hx hb dX8_init_90 rfl (lv_at hl206 0 rfl) ?_
              refine lv_bipush (v := 10) hx hb dX8_init_91 (by decide) ?_
              refine lv_icmp_ge (tgt := 115) hx hb dX8_init_93 (by decide) (fun c207 => ?_) (fun c207 => ?_)
              · have k208 := i_le c207
                exact absurd c207 (by decide)
              · have k208 := i_nle c207
                refine lv_aload_n hx hb dX8_init_96 rfl (lv_at hl206 1 rfl) ?_
                refine x_getR C (ci := 8) (k := 0) hR rfl inX8 (by decide) wF_X8_11 rfl dX8_init_97 ?_
                refine lv_iload_n hx hb dX8_init_100 rfl (lv_at hl206 0 rfl) ?_
                refine x_new C hTH203 hSH203 (ci := 0) (ty0 := tyX0) (vs := [.int 0, .null, .null, .null, .null, .null, .null, .null, .int 0, .int 0, .null, .null, .null, .null, .int 0, .int 0, .int 0, .null]) rfl inX0 tyX0_ok wC_X8_9 wIS_X0 wIN_X0 dfX0 ⟨by decide, by decide⟩ dX8_init_101 (fun H209 hR211 hTH209 hSH209 oH209 zH209 => ?_)
                have hNq210 : G202 H203.size = none := hTH203.gb _ (Nat.le_refl _)
                have lt_q199_q210 : q199 < H203.size := hTH203.lt gq199
                have b2q199 := BK1.hi b1q199 hTH203 (fun k hk => bkt_35 hTH203 gq199 k hk)
                clear b1q199
                have nr_a_q210 : a ≠ H203.size := Nat.ne_of_lt hR.lt
                have nr_q102_q210 : q102 ≠ H203.size := Nat.ne_of_lt hR103.lt
                have nr_q106_q210 : q106 ≠ H203.size := Nat.ne_of_lt hR107.lt
                have nr_q110_q210 : q110 ≠ H203.size := Nat.ne_of_lt hR111.lt
                replace b2q144 := BK2.kept b2q144 (oH209 _ (hTH203.lt gq144))
                replace b2q155 := BK2.kept b2q155 (oH209 _ (hTH203.lt gq155))
                replace b2q166 := BK2.kept b2q166 (oH209 _ (hTH203.lt gq166))
                replace b2q177 := BK2.kept b2q177 (oH209 _ (hTH203.lt gq177))
                replace b2q188 := BK2.kept b2q188 (oH209 _ (hTH203.lt gq188))
                replace b2q199 := BK2.kept b2q199 (oH209 _ (hTH203.lt gq199))
                replace hR := hR.kept (oH209 _ hR.lt)
                replace hR103 := hR103.kept (oH209 _ hR103.lt)
                replace hR107 := hR107.kept (oH209 _ hR107.lt)
                replace hR111 := hR111.kept (oH209 _ hR111.lt)
                obtain ⟨q210, eq210⟩ : ∃ q, q = H203.size := ⟨_, rfl⟩
                have leq210 : s.heap.size ≤ q210 := by rw [eq210]; exact hSH203.1
                rw [← eq210] at hNq210 hR211 lt_q199_q210 b2q199 nr_a_q210 nr_q102_q210 nr_q106_q210 nr_q110_q210
                rw [← eq210]
                clear eq210
                clear oH209 zH209 hTH203
                refine lv_dup hx hb dX8_init_104 rfl ?_
                have lt_a_H212 := hR.lt
                have lt_q102_H212 := hR103.lt
                have lt_q106_H212 := hR107.lt
                have lt_q110_H212 := hR111.lt
                refine x_IN (As := []) (rest := [.ref q210, .int 6, .ref q102]) C (k_X0_init_kept_B_x l K G202 H209 (a := q210) hTH209 hNq210 hR211) yo_X0_init rfl wN_X8_52 ⟨⟨by decide, by decide⟩, by decide, by decide⟩ rfl hl206.1 rfl (Nat.le_of_ble_eq_true rfl) dX8_init_105 hSH209 (fun x h => Or.inr (h.elim (fun e => by rw [e]; exact leq210) (fun h => Nat.le_trans hSH209.1 h))) (fun vH212 H212 locsH212 pH212 zH212 kH212 hSH212 => ?_)
                obtain ⟨hvH212, G213, hgH212, ggH212, hTH212, b1q210⟩ := pH212
                subst hvH212
                replace b2q144 := BK2.kept b2q144 (kH212 _ (hTH209.lt gq144) (fun h => h.elim (g_ne gq144 hNq210) (Nat.not_le.mpr (hTH209.lt gq144))))
                replace b2q155 := BK2.kept b2q155 (kH212 _ (hTH209.lt gq155) (fun h => h.elim (g_ne gq155 hNq210) (Nat.not_le.mpr (hTH209.lt gq155))))
                replace b2q166 := BK2.kept b2q166 (kH212 _ (hTH209.lt gq166) (fun h => h.elim (g_ne gq166 hNq210) (Nat.not_le.mpr (hTH209.lt gq166))))
                replace b2q177 := BK2.kept b2q177 (kH212 _ (hTH209.lt gq177) (fun h => h.elim (g_ne gq177 hNq210) (Nat.not_le.mpr (hTH209.lt gq177))))
                replace b2q188 := BK2.kept b2q188 (kH212 _ (hTH209.lt gq188) (fun h => h.elim (g_ne gq188 hNq210) (Nat.not_le.mpr (hTH209.lt gq188))))
                replace b2q199 := BK2.kept b2q199 (kH212 _ (hTH209.lt gq199) (fun h => h.elim (g_ne gq199 hNq210) (Nat.not_le.mpr (hTH209.lt gq199))))
                replace hR := hR.kept (kH212 _ lt_a_H212 (fun h => h.elim nr_a_q210 (Nat.not_le.mpr lt_a_H212)))
                replace hR103 := hR103.kept (kH212 _ lt_q102_H212 (fun h => h.elim nr_q102_q210 (Nat.not_le.mpr lt_q102_H212)))
                replace hR107 := hR107.kept (kH212 _ lt_q106_H212 (fun h => h.elim nr_q106_q210 (Nat.not_le.mpr lt_q106_H212)))
                replace hR111 := hR111.kept (kH212 _ lt_q110_H212 (fun h => h.elim nr_q110_q210 (Nat.not_le.mpr lt_q110_H212)))
                replace gq116 : G213 q116 = some 62 := (hgH212 _ (hTH209.lt gq116) (g_ne gq116 hNq210)).trans gq116
                replace gq120 : G213 q120 = some 63 := (hgH212 _ (hTH209.lt gq120) (g_ne gq120 hNq210)).trans gq120
                replace gq124 : G213 q124 = some 64 := (hgH212 _ (hTH209.lt gq124) (g_ne gq124 hNq210)).trans gq124
                replace gq128 : G213 q128 = some 65 := (hgH212 _ (hTH209.lt gq128) (g_ne gq128 hNq210)).trans gq128
                replace gq132 : G213 q132 = some 66 := (hgH212 _ (hTH209.lt gq132) (g_ne gq132 hNq210)).trans gq132
                replace gq136 : G213 q136 = some 67 := (hgH212 _ (hTH209.lt gq136) (g_ne gq136 hNq210)).trans gq136
                replace gq144 : G213 q144 = some 35 := (hgH212 _ (hTH209.lt gq144) (g_ne gq144 hNq210)).trans gq144
                replace gq155 : G213 q155 = some 35 := (hgH212 _ (hTH209.lt gq155) (g_ne gq155 hNq210)).trans gq155
                replace gq166 : G213 q166 = some 35 := (hgH212 _ (hTH209.lt gq166) (g_ne gq166 hNq210)).trans gq166
                replace gq177 : G213 q177 = some 35 := (hgH212 _ (hTH209.lt gq177) (g_ne gq177 hNq210)).trans gq177
                replace gq188 : G213 q188 = some 35 := (hgH212 _ (hTH209.lt gq188) (g_ne gq188 hNq210)).trans gq188
                replace gq199 : G213 q199 = some 35 := (hgH212 _ (hTH209.lt gq199) (g_ne gq199 hNq210)).trans gq199
                replace hn : G213 a = none := (hgH212 _ lt_a_H212 nr_a_q210).trans hn
                replace hNq102 : G213 q102 = none := (hgH212 _ lt_q102_H212 nr_q102_q210).trans hNq102
                replace hNq106 : G213 q106 = none := (hgH212 _ lt_q106_H212 nr_q106_q210).trans hNq106
                replace hNq110 : G213 q110 = none := (hgH212 _ lt_q110_H212 nr_q110_q210).trans hNq110
                replace hGo : ∀ q, q < s.heap.size → q ≠ a → G213 q = G q := fun q hq hqa => (hgH212 q (Nat.lt_of_lt_of_le hq hSH209.1) (Nat.ne_of_lt (Nat.lt_of_lt_of_le hq leq210))).trans (hGo q hq hqa)
                have gq210 : G213 q210 = some 35 := ggH212
                clear hR211 hNq210 ggH212 hgH212 kH212 zH212 hTH209 lt_a_H212 lt_q102_H212 lt_q106_H212 lt_q110_H212
                refine W.eq (g2 := F0 m 108 ls205 [.ref q210, .int 6, .ref q102]) rfl ?_
                refine x_astR (ti := 1) (ci := 0) C hTH212 hSH212 hR103 hNq102 gq210 rg_35 rfl rfl (by decide) (by decide) (Or.inr leq102) dX8_init_108 (fun H214 locsH214 hR1032 hTH214 hSH214 oH214 zH214 => ?_)
                clear hR103
                have hR103 : RAR K H214 q102 1 10 (va_up (va_up (va_up (va_up (va_up (va_up (va_up (fun _ => none) 0 (some q144)) 1 (some q155)) 2 (some q166)) 3 (some q177)) 4 (some q188)) 5 (some q199)) 6 (some q210)) := hR1032
                clear hR1032
                replace b2q144 := BK2.kept b2q144 (oH214 _ (g_ne gq144 hNq102))
                replace b2q155 := BK2.kept b2q155 (oH214 _ (g_ne gq155 hNq102))
                replace b2q166 := BK2.kept b2q166 (oH214 _ (g_ne gq166 hNq102))
                replace b2q177 := BK2.kept b2q177 (oH214 _ (g_ne gq177 hNq102))
                replace b2q188 := BK2.kept b2q188 (oH214 _ (g_ne gq188 hNq102))
                replace b2q199 := BK2.kept b2q199 (oH214 _ (g_ne gq199 hNq102))
                replace b1q210 := BK1.kept b1q210 (oH214 _ (g_ne gq210 hNq102))
                replace hR := hR.kept (oH214 _ nr_a_q102)
                replace hR107 := hR107.kept (oH214 _ (Ne.symm nr_q102_q106))
                replace hR111 := hR111.kept (oH214 _ (Ne.symm nr_q102_q110))
                clear oH214 zH214 hTH212
                refine lv_iinc (v := 7) (lv' := [(1, .int 7), (0, .ref a)]) hx hb dX8_init_109 hl206 (k := 0) rfl (by decide) (by decide) rfl (fun ls216 hl217 => ?_)
                refine lv_goto (tgt := 90) hx hb dX8_init_112 (by decide) ?_
                refine lv_iload_n hx hb dX8_init_90 rfl (lv_at hl217 0 rfl) ?_
                refine lv_bipush (v := 10) hx hb dX8_init_91 (by decide) ?_
                refine lv_icmp_ge (tgt := 115) hx hb dX8_init_93 (by decide) (fun c218 => ?_) (fun c218 => ?_)
                · have k219 := i_le c218
                  exact absurd c218 (by decide)
                · have k219 := i_nle c218
                  refine lv_aload_n hx hb dX8_init_96 rfl (lv_at hl217 1 rfl) ?_
                  refine x_getR C (ci := 8) (k := 0) hR rfl inX8 (by decide) wF_X8_11 rfl dX8_init_97 ?_
                  refine lv_iload_n hx hb dX8_init_100 rfl (lv_at hl217 0 rfl) ?_
                  refine x_new C hTH214 hSH214 (ci := 0) (ty0 := tyX0) (vs := [.int 0, .null, .null, .null, .null, .null, .null, .null, .int 0, .int 0, .null, .null, .null, .null, .int 0, .int 0, .int 0, .null]) rfl inX0 tyX0_ok wC_X8_9 wIS_X0 wIN_X0 dfX0 ⟨by decide, by decide⟩ dX8_init_101 (fun H220 hR222 hTH220 hSH220 oH220 zH220 => ?_)
                  have hNq221 : G213 H214.size = none := hTH214.gb _ (Nat.le_refl _)
                  have lt_q210_q221 : q210 < H214.size := hTH214.lt gq210
                  have b2q210 := BK1.hi b1q210 hTH214 (fun k hk => bkt_35 hTH214 gq210 k hk)
                  clear b1q210
                  have nr_a_q221 : a ≠ H214.size := Nat.ne_of_lt hR.lt
                  have nr_q102_q221 : q102 ≠ H214.size := Nat.ne_of_lt hR103.lt
                  have nr_q106_q221 : q106 ≠ H214.size := Nat.ne_of_lt hR107.lt
                  have nr_q110_q221 : q110 ≠ H214.size := Nat.ne_of_lt hR111.lt
                  replace b2q144 := BK2.kept b2q144 (oH220 _ (hTH214.lt gq144))
                  replace b2q155 := BK2.kept b2q155 (oH220 _ (hTH214.lt gq155))
                  replace b2q166 := BK2.kept b2q166 (oH220 _ (hTH214.lt gq166))
                  replace b2q177 := BK2.kept b2q177 (oH220 _ (hTH214.lt gq177))
                  replace b2q188 := BK2.kept b2q188 (oH220 _ (hTH214.lt gq188))
                  replace b2q199 := BK2.kept b2q199 (oH220 _ (hTH214.lt gq199))
                  replace b2q210 := BK2.kept b2q210 (oH220 _ (hTH214.lt gq210))
                  replace hR := hR.kept (oH220 _ hR.lt)
                  replace hR103 := hR103.kept (oH220 _ hR103.lt)
                  replace hR107 := hR107.kept (oH220 _ hR107.lt)
                  replace hR111 := hR111.kept (oH220 _ hR111.lt)
                  obtain ⟨q221, eq221⟩ : ∃ q, q = H214.size := ⟨_, rfl⟩
                  have leq221 : s.heap.size ≤ q221 := by rw [eq221]; exact hSH214.1
                  rw [← eq221] at hNq221 hR222 lt_q210_q221 b2q210 nr_a_q221 nr_q102_q221 nr_q106_q221 nr_q110_q221
                  rw [← eq221]
                  clear eq221
                  clear oH220 zH220 hTH214
                  refine lv_dup hx hb dX8_init_104 rfl ?_
                  have lt_a_H223 := hR.lt
                  have lt_q102_H223 := hR103.lt
                  have lt_q106_H223 := hR107.lt
                  have lt_q110_H223 := hR111.lt
                  refine x_IN (As := []) (rest := [.ref q221, .int 7, .ref q102]) C (k_X0_init_kept_B_x l K G213 H220 (a := q221) hTH220 hNq221 hR222) yo_X0_init rfl wN_X8_52 ⟨⟨by decide, by decide⟩, by decide, by decide⟩ rfl hl217.1 rfl (Nat.le_of_ble_eq_true rfl) dX8_init_105 hSH220 (fun x h => Or.inr (h.elim (fun e => by rw [e]; exact leq221) (fun h => Nat.le_trans hSH220.1 h))) (fun vH223 H223 locsH223 pH223 zH223 kH223 hSH223 => ?_)
                  obtain ⟨hvH223, G224, hgH223, ggH223, hTH223, b1q221⟩ := pH223
                  subst hvH223
                  replace b2q144 := BK2.kept b2q144 (kH223 _ (hTH220.lt gq144) (fun h => h.elim (g_ne gq144 hNq221) (Nat.not_le.mpr (hTH220.lt gq144))))
                  replace b2q155 := BK2.kept b2q155 (kH223 _ (hTH220.lt gq155) (fun h => h.elim (g_ne gq155 hNq221) (Nat.not_le.mpr (hTH220.lt gq155))))
                  replace b2q166 := BK2.kept b2q166 (kH223 _ (hTH220.lt gq166) (fun h => h.elim (g_ne gq166 hNq221) (Nat.not_le.mpr (hTH220.lt gq166))))
                  replace b2q177 := BK2.kept b2q177 (kH223 _ (hTH220.lt gq177) (fun h => h.elim (g_ne gq177 hNq221) (Nat.not_le.mpr (hTH220.lt gq177))))
                  replace b2q188 := BK2.kept b2q188 (kH223 _ (hTH220.lt gq188) (fun h => h.elim (g_ne gq188 hNq221) (Nat.not_le.mpr (hTH220.lt gq188))))
                  replace b2q199 := BK2.kept b2q199 (kH223 _ (hTH220.lt gq199) (fun h => h.elim (g_ne gq199 hNq221) (Nat.not_le.mpr (hTH220.lt gq199))))
                  replace b2q210 := BK2.kept b2q210 (kH223 _ (hTH220.lt gq210) (fun h => h.elim (g_ne gq210 hNq221) (Nat.not_le.mpr (hTH220.lt gq210))))
                  replace hR := hR.kept (kH223 _ lt_a_H223 (fun h => h.elim nr_a_q221 (Nat.not_le.mpr lt_a_H223)))
                  replace hR103 := hR103.kept (kH223 _ lt_q102_H223 (fun h => h.elim nr_q102_q221 (Nat.not_le.mpr lt_q102_H223)))
                  replace hR107 := hR107.kept (kH223 _ lt_q106_H223 (fun h => h.elim nr_q106_q221 (Nat.not_le.mpr lt_q106_H223)))
                  replace hR111 := hR111.kept (kH223 _ lt_q110_H223 (fun h => h.elim nr_q110_q221 (Nat.not_le.mpr lt_q110_H223)))
                  replace gq116 : G224 q116 = some 62 := (hgH223 _ (hTH220.lt gq116) (g_ne gq116 hNq221)).trans gq116
                  replace gq120 : G224 q120 = some 63 := (hgH223 _ (hTH220.lt gq120) (g_ne gq120 hNq221)).trans gq120
                  replace gq124 : G224 q124 = some 64 := (hgH223 _ (hTH220.lt gq124) (g_ne gq124 hNq221)).trans gq124
                  replace gq128 : G224 q128 = some 65 := (hgH223 _ (hTH220.lt gq128) (g_ne gq128 hNq221)).trans gq128
                  replace gq132 : G224 q132 = some 66 := (hgH223 _ (hTH220.lt gq132) (g_ne gq132 hNq221)).trans gq132
                  replace gq136 : G224 q136 = some 67 := (hgH223 _ (hTH220.lt gq136) (g_ne gq136 hNq221)).trans gq136
                  replace gq144 : G224 q144 = some 35 := (hgH223 _ (hTH220.lt gq144) (g_ne gq144 hNq221)).trans gq144
                  replace gq155 : G224 q155 = some 35 := (hgH223 _ (hTH220.lt gq155) (g_ne gq155 hNq221)).trans gq155
                  replace gq166 : G224 q166 = some 35 := (hgH223 _ (hTH220.lt gq166) (g_ne gq166 hNq221)).trans gq166
                  replace gq177 : G224 q177 = some 35 := (hgH223 _ (hTH220.lt gq177) (g_ne gq177 hNq221)).trans gq177
                  replace gq188 : G224 q188 = some 35 := (hgH223 _ (hTH220.lt gq188) (g_ne gq188 hNq221)).trans gq188
                  replace gq199 : G224 q199 = some 35 := (hgH223 _ (hTH220.lt gq199) (g_ne gq199 hNq221)).trans gq199
                  replace gq210 : G224 q210 = some 35 := (hgH223 _ (hTH220.lt gq210) (g_ne gq210 hNq221)).trans gq210
                  replace hn : G224 a = none := (hgH223 _ lt_a_H223 nr_a_q221).trans hn
                  replace hNq102 : G224 q102 = none := (hgH223 _ lt_q102_H223 nr_q102_q221).trans hNq102
                  replace hNq106 : G224 q106 = none := (hgH223 _ lt_q106_H223 nr_q106_q221).trans hNq106
                  replace hNq110 : G224 q110 = none := (hgH223 _ lt_q110_H223 nr_q110_q221).trans hNq110
                  replace hGo : ∀ q, q < s.heap.size → q ≠ a → G224 q = G q := fun q hq hqa => (hgH223 q (Nat.lt_of_lt_of_le hq hSH220.1) (Nat.ne_of_lt (Nat.lt_of_lt_of_le hq leq221))).trans (hGo q hq hqa)
                  have gq221 : G224 q221 = some 35 := ggH223
                  clear hR222 hNq221 ggH223 hgH223 kH223 zH223 hTH220 lt_a_H223 lt_q102_H223 lt_q106_H223 lt_q110_H223
                  refine W.eq (g2 := F0 m 108 ls216 [.ref q221, .int 7, .ref q102]) rfl ?_
                  refine x_astR (ti := 1) (ci := 0) C hTH223 hSH223 hR103 hNq102 gq221 rg_35 rfl rfl (by decide) (by decide) (Or.inr leq102) dX8_init_108 (fun H225 locsH225 hR1032 hTH225 hSH225 oH225 zH225 => ?_)
                  clear hR103
                  have hR103 : RAR K H225 q102 1 10 (va_up (va_up (va_up (va_up (va_up (va_up (va_up (va_up (fun _ => none) 0 (some q144)) 1 (some q155)) 2 (some q166)) 3 (some q177)) 4 (some q188)) 5 (some q199)) 6 (some q210)) 7 (some q221)) := hR1032
                  clear hR1032
                  replace b2q144 := BK2.kept b2q144 (oH225 _ (g_ne gq144 hNq102))
                  replace b2q155 := BK2.kept b2q155 (oH225 _ (g_ne gq155 hNq102))
                  replace b2q166 := BK2.kept b2q166 (oH225 _ (g_ne gq166 hNq102))
                  replace b2q177 := BK2.kept b2q177 (oH225 _ (g_ne gq177 hNq102))
                  replace b2q188 := BK2.kept b2q188 (oH225 _ (g_ne gq188 hNq102))
                  replace b2q199 := BK2.kept b2q199 (oH225 _ (g_ne gq199 hNq102))
                  replace b2q210 := BK2.kept b2q210 (oH225 _ (g_ne gq210 hNq102))
                  replace b1q221 := BK1.kept b1q221 (oH225 _ (g_ne gq221 hNq102))
                  replace hR := hR.kept (oH225 _ nr_a_q102)
                  replace hR107 := hR107.kept (oH225 _ (Ne.symm nr_q102_q106))
                  replace hR111 := hR111.kept (oH225 _ (Ne.symm nr_q102_q110))
                  clear oH225 zH225 hTH223
                  refine lv_iinc (v := 8) (lv' := [(1, .int 8), (0, .ref a)]) hx hb dX8_init_109 hl217 (k := 0) rfl (by decide) (by decide) rfl (fun ls227 hl228 => ?_)
                  refine lv_goto (tgt := 90) hx hb dX8_init_112 (by decide) ?_
                  refine lv_iload_n hx hb dX8_init_90 rfl (lv_at hl228 0 rfl) ?_
                  refine lv_bipush (v := 10) hx hb dX8_init_91 (by decide) ?_
                  refine lv_icmp_ge (tgt := 115) hx hb dX8_init_93 (by decide) (fun c229 => ?_) (fun c229 => ?_)
                  · have k230 := i_le c229
                    exact absurd c229 (by decide)
                  · have k230 := i_nle c229
                    refine lv_aload_n hx hb dX8_init_96 rfl (lv_at hl228 1 rfl) ?_
                    refine x_getR C (ci := 8) (k := 0) hR rfl inX8 (by decide) wF_X8_11 rfl dX8_init_97 ?_
                    refine lv_iload_n hx hb dX8_init_100 rfl (lv_at hl228 0 rfl) ?_
                    refine x_new C hTH225 hSH225 (ci := 0) (ty0 := tyX0) (vs := [.int 0, .null, .null, .null, .null, .null, .null, .null, .int 0, .int 0, .null, .null, .null, .null, .int 0, .int 0, .int 0, .null]) rfl inX0 tyX0_ok wC_X8_9 wIS_X0 wIN_X0 dfX0 ⟨by decide, by decide⟩ dX8_init_101 (fun H231 hR233 hTH231 hSH231 oH231 zH231 => ?_)
                    have hNq232 : G224 H225.size = none := hTH225.gb _ (Nat.le_refl _)
                    have lt_q221_q232 : q221 < H225.size := hTH225.lt gq221
                    have b2q221 := BK1.hi b1q221 hTH225 (fun k hk => bkt_35 hTH225 gq221 k hk)
                    clear b1q221
                    have nr_a_q232 : a ≠ H225.size := Nat.ne_of_lt hR.lt
                    have nr_q102_q232 : q102 ≠ H225.size := Nat.ne_of_lt hR103.lt
                    have nr_q106_q232 : q106 ≠ H225.size := Nat.ne_of_lt hR107.lt
                    have nr_q110_q232 : q110 ≠ H225.size := Nat.ne_of_lt hR111.lt
                    replace b2q144 := BK2.kept b2q144 (oH231 _ (hTH225.lt gq144))
                    replace b2q155 := BK2.kept b2q155 (oH231 _ (hTH225.lt gq155))
                    replace b2q166 := BK2.kept b2q166 (oH231 _ (hTH225.lt gq166))
                    replace b2q177 := BK2.kept b2q177 (oH231 _ (hTH225.lt gq177))
                    replace b2q188 := BK2.kept b2q188 (oH231 _ (hTH225.lt gq188))
                    replace b2q199 := BK2.kept b2q199 (oH231 _ (hTH225.lt gq199))
                    replace b2q210 := BK2.kept b2q210 (oH231 _ (hTH225.lt gq210))
                    replace b2q221 := BK2.kept b2q221 (oH231 _ (hTH225.lt gq221))
                    replace hR := hR.kept (oH231 _ hR.lt)
                    replace hR103 := hR103.kept (oH231 _ hR103.lt)
                    replace hR107 := hR107.kept (oH231 _ hR107.lt)
                    replace hR111 := hR111.kept (oH231 _ hR111.lt)
                    obtain ⟨q232, eq232⟩ : ∃ q, q = H225.size := ⟨_, rfl⟩
                    have leq232 : s.heap.size ≤ q232 := by rw [eq232]; exact hSH225.1
                    rw [← eq232] at hNq232 hR233 lt_q221_q232 b2q221 nr_a_q232 nr_q102_q232 nr_q106_q232 nr_q110_q232
                    rw [← eq232]
                    clear eq232
                    clear oH231 zH231 hTH225
                    refine lv_dup hx hb dX8_init_104 rfl ?_
                    have lt_a_H234 := hR.lt
                    have lt_q102_H234 := hR103.lt
                    have lt_q106_H234 := hR107.lt
                    have lt_q110_H234 := hR111.lt
                    refine x_IN (As := []) (rest := [.ref q232, .int 8, .ref q102]) C (k_X0_init_kept_B_x l K G224 H231 (a := q232) hTH231 hNq232 hR233) yo_X0_init rfl wN_X8_52 ⟨⟨by decide, by decide⟩, by decide, by decide⟩ rfl hl228.1 rfl (Nat.le_of_ble_eq_true rfl) dX8_init_105 hSH231 (fun x h => Or.inr (h.elim (fun e => by rw [e]; exact leq232) (fun h => Nat.le_trans hSH231.1 h))) (fun vH234 H234 locsH234 pH234 zH234 kH234 hSH234 => ?_)
                    obtain ⟨hvH234, G235, hgH234, ggH234, hTH234, b1q232⟩ := pH234
                    subst hvH234
                    replace b2q144 := BK2.kept b2q144 (kH234 _ (hTH231.lt gq144) (fun h => h.elim (g_ne gq144 hNq232) (Nat.not_le.mpr (hTH231.lt gq144))))
                    replace b2q155 := BK2.kept b2q155 (kH234 _ (hTH231.lt gq155) (fun h => h.elim (g_ne gq155 hNq232) (Nat.not_le.mpr (hTH231.lt gq155))))
                    replace b2q166 := BK2.kept b2q166 (kH234 _ (hTH231.lt gq166) (fun h => h.elim (g_ne gq166 hNq232) (Nat.not_le.mpr (hTH231.lt gq166))))
                    replace b2q177 := BK2.kept b2q177 (kH234 _ (hTH231.lt gq177) (fun h => h.elim (g_ne gq177 hNq232) (Nat.not_le.mpr (hTH231.lt gq177))))
                    replace b2q188 := BK2.kept b2q188 (kH234 _ (hTH231.lt gq188) (fun h => h.elim (g_ne gq188 hNq232) (Nat.not_le.mpr (hTH231.lt gq188))))
                    replace b2q199 := BK2.kept b2q199 (kH234 _ (hTH231.lt gq199) (fun h => h.elim (g_ne gq199 hNq232) (Nat.not_le.mpr (hTH231.lt gq199))))
                    replace b2q210 := BK2.kept b2q210 (kH234 _ (hTH231.lt gq210) (fun h => h.elim (g_ne gq210 hNq232) (Nat.not_le.mpr (hTH231.lt gq210))))
                    replace b2q221 := BK2.kept b2q221 (kH234 _ (hTH231.lt gq221) (fun h => h.elim (g_ne gq221 hNq232) (Nat.not_le.mpr (hTH231.lt gq221))))
                    replace hR := hR.kept (kH234 _ lt_a_H234 (fun h => h.elim nr_a_q232 (Nat.not_le.mpr lt_a_H234)))
                    replace hR103 := hR103.kept (kH234 _ lt_q102_H234 (fun h => h.elim nr_q102_q232 (Nat.not_le.mpr lt_q102_H234)))
                    replace hR107 := hR107.kept (kH234 _ lt_q106_H234 (fun h => h.elim nr_q106_q232 (Nat.not_le.mpr lt_q106_H234)))
                    replace hR111 := hR111.kept (kH234 _ lt_q110_H234 (fun h => h.elim nr_q110_q232 (Nat.not_le.mpr lt_q110_H234)))
                    replace gq116 : G235 q116 = some 62 := (hgH234 _ (hTH231.lt gq116) (g_ne gq116 hNq232)).trans gq116
                    replace gq120 : G235 q120 = some 63 := (hgH234 _ (hTH231.lt gq120) (g_ne gq120 hNq232)).trans gq120
                    replace gq124 : G235 q124 = some 64 := (hgH234 _ (hTH231.lt gq124) (g_ne gq124 hNq232)).trans gq124
                    replace gq128 : G235 q128 = some 65 := (hgH234 _ (hTH231.lt gq128) (g_ne gq128 hNq232)).trans gq128
                    replace gq132 : G235 q132 = some 66 := (hgH234 _ (hTH231.lt gq132) (g_ne gq132 hNq232)).trans gq132
                    replace gq136 : G235 q136 = some 67 := (hgH234 _ (hTH231.lt gq136) (g_ne gq136 hNq232)).trans gq136
                    replace gq144 : G235 q144 = some 35 := (hgH234 _ (hTH231.lt gq144) (g_ne gq144 hNq232)).trans gq144
                    replace gq155 : G235 q155 = some 35 := (hgH234 _ (hTH231.lt gq155) (g_ne gq155 hNq232)).trans gq155
                    replace gq166 : G235 q166 = some 35 := (hgH234 _ (hTH231.lt gq166) (g_ne gq166 hNq232)).trans gq166
                    replace gq177 : G235 q177 = some 35 := (hgH234 _ (hTH231.lt gq177) (g_ne gq177 hNq232)).trans gq177
                    replace gq188 : G235 q188 = some 35 := (hgH234 _ (hTH231.lt gq188) (g_ne gq188 hNq232)).trans gq188
                    replace gq199 : G235 q199 = some 35 := (hgH234 _ (hTH231.lt gq199) (g_ne gq199 hNq232)).trans gq199
                    replace gq210 : G235 q210 = some 35 := (hgH234 _ (hTH231.lt gq210) (g_ne gq210 hNq232)).trans gq210
                    replace gq221 : G235 q221 = some 35 := (hgH234 _ (hTH231.lt gq221) (g_ne gq221 hNq232)).trans gq221
                    replace hn : G235 a = none := (hgH234 _ lt_a_H234 nr_a_q232).trans hn
                    replace hNq102 : G235 q102 = none := (hgH234 _ lt_q102_H234 nr_q102_q232).trans hNq102
                    replace hNq106 : G235 q106 = none := (hgH234 _ lt_q106_H234 nr_q106_q232).trans hNq106
                    replace hNq110 : G235 q110 = none := (hgH234 _ lt_q110_H234 nr_q110_q232).trans hNq110
                    replace hGo : ∀ q, q < s.heap.size → q ≠ a → G235 q = G q := fun q hq hqa => (hgH234 q (Nat.lt_of_lt_of_le hq hSH231.1) (Nat.ne_of_lt (Nat.lt_of_lt_of_le hq leq232))).trans (hGo q hq hqa)
                    have gq232 : G235 q232 = some 35 := ggH234
                    clear hR233 hNq232 ggH234 hgH234 kH234 zH234 hTH231 lt_a_H234 lt_q102_H234 lt_q106_H234 lt_q110_H234
                    refine W.eq (g2 := F0 m 108 ls227 [.ref q232, .int 8, .ref q102]) rfl ?_
                    refine x_astR (ti := 1) (ci := 0) C hTH234 hSH234 hR103 hNq102 gq232 rg_35 rfl rfl (by decide) (by decide) (Or.inr leq102) dX8_init_108 (fun H236 locsH236 hR1032 hTH236 hSH236 oH236 zH236 => ?_)
                    clear hR103
                    have hR103 : RAR K H236 q102 1 10 (va_up (va_up (va_up (va_up (va_up (va_up (va_up (va_up (va_up (fun _ => none) 0 (some q144)) 1 (some q155)) 2 (some q166)) 3 (some q177)) 4 (some q188)) 5 (some q199)) 6 (some q210)) 7 (some q221)) 8 (some q232)) := hR1032
                    clear hR1032
                    replace b2q144 := BK2.kept b2q144 (oH236 _ (g_ne gq144 hNq102))
                    replace b2q155 := BK2.kept b2q155 (oH236 _ (g_ne gq155 hNq102))
                    replace b2q166 := BK2.kept b2q166 (oH236 _ (g_ne gq166 hNq102))
                    replace b2q177 := BK2.kept b2q177 (oH236 _ (g_ne gq177 hNq102))
                    replace b2q188 := BK2.kept b2q188 (oH236 _ (g_ne gq188 hNq102))
                    replace b2q199 := BK2.kept b2q199 (oH236 _ (g_ne gq199 hNq102))
                    replace b2q210 := BK2.kept b2q210 (oH236 _ (g_ne gq210 hNq102))
                    replace b2q221 := BK2.kept b2q221 (oH236 _ (g_ne gq221 hNq102))
                    replace b1q232 := BK1.kept b1q232 (oH236 _ (g_ne gq232 hNq102))
                    replace hR := hR.kept (oH236 _ nr_a_q102)
                    replace hR107 := hR107.kept (oH236 _ (Ne.symm nr_q102_q106))
                    replace hR111 := hR111.kept (oH236 _ (Ne.symm nr_q102_q110))
                    clear oH236 zH236 hTH234
                    refine lv_iinc (v := 9) (lv' := [(1, .int 9), (0, .ref a)]) hx hb dX8_init_109 hl228 (k := 0) rfl (by decide) (by decide) rfl (fun ls238 hl239 => ?_)
                    refine lv_goto (tgt := 90) hx hb dX8_init_112 (by decide) ?_
                    refine lv_iload_n hx hb dX8_init_90 rfl (lv_at hl239 0 rfl) ?_
                    refine lv_bipush (v := 10) hx hb dX8_init_91 (by decide) ?_
                    refine lv_icmp_ge (tgt := 115) hx hb dX8_init_93 (by decide) (fun c240 => ?_) (fun c240 => ?_)
                    · have k241 := i_le c240
                      exact absurd c240 (by decide)
                    · have k241 := i_nle c240
                      refine lv_aload_n hx hb dX8_init_96 rfl (lv_at hl239 1 rfl) ?_
                      refine x_getR C (ci := 8) (k := 0) hR rfl inX8 (by decide) wF_X8_11 rfl dX8_init_97 ?_
                      refine lv_iload_n hx hb dX8_init_100 rfl (lv_at hl239 0 rfl) ?_
                      refine x_new C hTH236 hSH236 (ci := 0) (ty0 := tyX0) (vs := [.int 0, .null, .null, .null, .null, .null, .null, .null, .int 0, .int 0, .null, .null, .null, .null, .int 0, .int 0, .int 0, .null]) rfl inX0 tyX0_ok wC_X8_9 wIS_X0 wIN_X0 dfX0 ⟨by decide, by decide⟩ dX8_init_101 (fun H242 hR244 hTH242 hSH242 oH242 zH242 => ?_)
                      have hNq243 : G235 H236.size = none := hTH236.gb _ (Nat.le_refl _)
                      have lt_q232_q243 : q232 < H236.size := hTH236.lt gq232
                      have b2q232 := BK1.hi b1q232 hTH236 (fun k hk => bkt_35 hTH236 gq232 k hk)
                      clear b1q232
                      have nr_a_q243 : a ≠ H236.size := Nat.ne_of_lt hR.lt
                      have nr_q102_q243 : q102 ≠ H236.size := Nat.ne_of_lt hR103.lt
                      have nr_q106_q243 : q106 ≠ H236.size := Nat.ne_of_lt hR107.lt
                      have nr_q110_q243 : q110 ≠ H236.size := Nat.ne_of_lt hR111.lt
                      replace b2q144 := BK2.kept b2q144 (oH242 _ (hTH236.lt gq144))
                      replace b2q155 := BK2.kept b2q155 (oH242 _ (hTH236.lt gq155))
                      replace b2q166 := BK2.kept b2q166 (oH242 _ (hTH236.lt gq166))
                      replace b2q177 := BK2.kept b2q177 (oH242 _ (hTH236.lt gq177))
                      replace b2q188 := BK2.kept b2q188 (oH242 _ (hTH236.lt gq188))
                      replace b2q199 := BK2.kept b2q199 (oH242 _ (hTH236.lt gq199))
                      replace b2q210 := BK2.kept b2q210 (oH242 _ (hTH236.lt gq210))
                      replace b2q221 := BK2.kept b2q221 (oH242 _ (hTH236.lt gq221))
                      replace b2q232 := BK2.kept b2q232 (oH242 _ (hTH236.lt gq232))
                      replace hR := hR.kept (oH242 _ hR.lt)
                      replace hR103 := hR103.kept (oH242 _ hR103.lt)
                      replace hR107 := hR107.kept (oH242 _ hR107.lt)
                      replace hR111 := hR111.kept (oH242 _ hR111.lt)
                      obtain ⟨q243, eq243⟩ : ∃ q, q = H236.size := ⟨_, rfl⟩
                      have leq243 : s.heap.size ≤ q243 := by rw [eq243]; exact hSH236.1
                      rw [← eq243] at hNq243 hR244 lt_q232_q243 b2q232 nr_a_q243 nr_q102_q243 nr_q106_q243 nr_q110_q243
                      rw [← eq243]
                      clear eq243
                      clear oH242 zH242 hTH236
                      refine lv_dup hx hb dX8_init_104 rfl ?_
                      have lt_a_H245 := hR.lt
                      have lt_q102_H245 := hR103.lt
                      have lt_q106_H245 := hR107.lt
                      have lt_q110_H245 := hR111.lt
                      refine x_IN (As := []) (rest := [.ref q243, .int 9, .ref q102]) C (k_X0_init_kept_B_x l K G235 H242 (a := q243) hTH242 hNq243 hR244) yo_X0_init rfl wN_X8_52 ⟨⟨by decide, by decide⟩, by decide, by decide⟩ rfl hl239.1 rfl (Nat.le_of_ble_eq_true rfl) dX8_init_105 hSH242 (fun x h => Or.inr (h.elim (fun e => by rw [e]; exact leq243) (fun h => Nat.le_trans hSH242.1 h))) (fun vH245 H245 locsH245 pH245 zH245 kH245 hSH245 => ?_)
                      obtain ⟨hvH245, G246, hgH245, ggH245, hTH245, b1q243⟩ := pH245
                      subst hvH245
                      replace b2q144 := BK2.kept b2q144 (kH245 _ (hTH242.lt gq144) (fun h => h.elim (g_ne gq144 hNq243) (Nat.not_le.mpr (hTH242.lt gq144))))
                      replace b2q155 := BK2.kept b2q155 (kH245 _ (hTH242.lt gq155) (fun h => h.elim (g_ne gq155 hNq243) (Nat.not_le.mpr (hTH242.lt gq155))))
                      replace b2q166 := BK2.kept b2q166 (kH245 _ (hTH242.lt gq166) (fun h => h.elim (g_ne gq166 hNq243) (Nat.not_le.mpr (hTH242.lt gq166))))
                      replace b2q177 := BK2.kept b2q177 (kH245 _ (hTH242.lt gq177) (fun h => h.elim (g_ne gq177 hNq243) (Nat.not_le.mpr (hTH242.lt gq177))))
                      replace b2q188 := BK2.kept b2q188 (kH245 _ (hTH242.lt gq188) (fun h => h.elim (g_ne gq188 hNq243) (Nat.not_le.mpr (hTH242.lt gq188))))
                      replace b2q199 := BK2.kept b2q199 (kH245 _ (hTH242.lt gq199) (fun h => h.elim (g_ne gq199 hNq243) (Nat.not_le.mpr (hTH242.lt gq199))))
                      replace b2q210 := BK2.kept b2q210 (kH245 _ (hTH242.lt gq210) (fun h => h.elim (g_ne gq210 hNq243) (Nat.not_le.mpr (hTH242.lt gq210))))
                      replace b2q221 := BK2.kept b2q221 (kH245 _ (hTH242.lt gq221) (fun h => h.elim (g_ne gq221 hNq243) (Nat.not_le.mpr (hTH242.lt gq221))))
                      replace b2q232 := BK2.kept b2q232 (kH245 _ (hTH242.lt gq232) (fun h => h.elim (g_ne gq232 hNq243) (Nat.not_le.mpr (hTH242.lt gq232))))
                      replace hR := hR.kept (kH245 _ lt_a_H245 (fun h => h.elim nr_a_q243 (Nat.not_le.mpr lt_a_H245)))
                      replace hR103 := hR103.kept (kH245 _ lt_q102_H245 (fun h => h.elim nr_q102_q243 (Nat.not_le.mpr lt_q102_H245)))
                      replace hR107 := hR107.kept (kH245 _ lt_q106_H245 (fun h => h.elim nr_q106_q243 (Nat.not_le.mpr lt_q106_H245)))
                      replace hR111 := hR111.kept (kH245 _ lt_q110_H245 (fun h => h.elim nr_q110_q243 (Nat.not_le.mpr lt_q110_H245)))
                      replace gq116 : G246 q116 = some 62 := (hgH245 _ (hTH242.lt gq116) (g_ne gq116 hNq243)).trans gq116
                      replace gq120 : G246 q120 = some 63 := (hgH245 _ (hTH242.lt gq120) (g_ne gq120 hNq243)).trans gq120
                      replace gq124 : G246 q124 = some 64 := (hgH245 _ (hTH242.lt gq124) (g_ne gq124 hNq243)).trans gq124
                      replace gq128 : G246 q128 = some 65 := (hgH245 _ (hTH242.lt gq128) (g_ne gq128 hNq243)).trans gq128
                      replace gq132 : G246 q132 = some 66 := (hgH245 _ (hTH242.lt gq132) (g_ne gq132 hNq243)).trans gq132
                      replace gq136 : G246 q136 = some 67 := (hgH245 _ (hTH242.lt gq136) (g_ne gq136 hNq243)).trans gq136
                      replace gq144 : G246 q144 = some 35 := (hgH245 _ (hTH242.lt gq144) (g_ne gq144 hNq243)).trans gq144
                      replace gq155 : G246 q155 = some 35 := (hgH245 _ (hTH242.lt gq155) (g_ne gq155 hNq243)).trans gq155
                      replace gq166 : G246 q166 = some 35 := (hgH245 _ (hTH242.lt gq166) (g_ne gq166 hNq243)).trans gq166
                      replace gq177 : G246 q177 = some 35 := (hgH245 _ (hTH242.lt gq177) (g_ne gq177 hNq243)).trans gq177
                      replace gq188 : G246 q188 = some 35 := (hgH245 _ (hTH242.lt gq188) (g_ne gq188 hNq243)).trans gq188
                      replace gq199 : G246 q199 = some 35 := (hgH245 _ (hTH242.lt gq199) (g_ne gq199 hNq243)).trans gq199
                      replace gq210 : G246 q210 = some 35 := (hgH245 _ (hTH242.lt gq210) (g_ne gq210 hNq243)).trans gq210
                      replace gq221 : G246 q221 = some 35 := (hgH245 _ (hTH242.lt gq221) (g_ne gq221 hNq243)).trans gq221
                      replace gq232 : G246 q232 = some 35 := (hgH245 _ (hTH242.lt gq232) (g_ne gq232 hNq243)).trans gq232
                      replace hn : G246 a = none := (hgH245 _ lt_a_H245 nr_a_q243).trans hn
                      replace hNq102 : G246 q102 = none := (hgH245 _ lt_q102_H245 nr_q102_q243).trans hNq102
                      replace hNq106 : G246 q106 = none := (hgH245 _ lt_q106_H245 nr_q106_q243).trans hNq106
                      replace hNq110 : G246 q110 = none := (hgH245 _ lt_q110_H245 nr_q110_q243).trans hNq110
                      replace hGo : ∀ q, q < s.heap.size → q ≠ a → G246 q = G q := fun q hq hqa => (hgH245 q (Nat.lt_of_lt_of_le hq hSH242.1) (Nat.ne_of_lt (Nat.lt_of_lt_of_le hq leq243))).trans (hGo q hq hqa)
                      have gq243 : G246 q243 = some 35 := ggH245
                      clear hR244 hNq243 ggH245 hgH245 kH245 zH245 hTH242 lt_a_H245 lt_q102_H245 lt_q106_H245 lt_q110_H245
                      refine W.eq (g2 := F0 m 108 ls238 [.ref q243, .int 9, .ref q102]) rfl ?_
                      refine x_astR (ti := 1) (ci := 0) C hTH245 hSH245 hR103 hNq102 gq243 rg_35 rfl rfl (by decide) (by decide) (Or.inr leq102) dX8_init_108 (fun H247 locsH247 hR1032 hTH247 hSH247 oH247 zH247 => ?_)
                      clear hR103
                      have hR103 : RAR K H247 q102 1 10 (va_up (va_up (va_up (va_up (va_up (va_up (va_up (va_up (va_up (va_up (fun _ => none) 0 (some q144)) 1 (some q155)) 2 (some q166)) 3 (some q177)) 4 (some q188)) 5 (some q199)) 6 (some q210)) 7 (some q221)) 8 (some q232)) 9 (some q243)) := hR1032
                      clear hR1032
                      replace b2q144 := BK2.kept b2q144 (oH247 _ (g_ne gq144 hNq102))
                      replace b2q155 := BK2.kept b2q155 (oH247 _ (g_ne gq155 hNq102))
                      replace b2q166 := BK2.kept b2q166 (oH247 _ (g_ne gq166 hNq102))
                      replace b2q177 := BK2.kept b2q177 (oH247 _ (g_ne gq177 hNq102))
                      replace b2q188 := BK2.kept b2q188 (oH247 _ (g_ne gq188 hNq102))
                      replace b2q199 := BK2.kept b2q199 (oH247 _ (g_ne gq199 hNq102))
                      replace b2q210 := BK2.kept b2q210 (oH247 _ (g_ne gq210 hNq102))
                      replace b2q221 := BK2.kept b2q221 (oH247 _ (g_ne gq221 hNq102))
                      replace b2q232 := BK2.kept b2q232 (oH247 _ (g_ne gq232 hNq102))
                      replace b1q243 := BK1.kept b1q243 (oH247 _ (g_ne gq243 hNq102))
                      replace hR := hR.kept (oH247 _ nr_a_q102)
                      replace hR107 := hR107.kept (oH247 _ (Ne.symm nr_q102_q106))
                      replace hR111 := hR111.kept (oH247 _ (Ne.symm nr_q102_q110))
                      clear oH247 zH247 hTH245
                      refine lv_iinc (v := 10) (lv' := [(1, .int 10), (0, .ref a)]) hx hb dX8_init_109 hl239 (k := 0) rfl (by decide) (by decide) rfl (fun ls249 hl250 => ?_)
                      refine lv_goto (tgt := 90) hx hb dX8_init_112 (by decide) ?_
                      refine lv_iload_n hx hb dX8_init_90 rfl (lv_at hl250 0 rfl) ?_
                      refine lv_bipush (v := 10) hx hb dX8_init_91 (by decide) ?_
                      refine lv_icmp_ge (tgt := 115) hx hb dX8_init_93 (by decide) (fun c251 => ?_) (fun c251 => ?_)
                      · have k252 := i_le c251
                        refine lv_iconst (v := 0) hx hb dX8_init_115 (by decide) ?_
                        refine lv_istore_n (lv' := [(1, .int 0), (0, .ref a)]) hx hb dX8_init_116 rfl hl250 (by decide) rfl (fun ls253 hl254 => ?_)
                        refine lv_iload_n hx hb dX8_init_117 rfl (lv_at hl254 0 rfl) ?_
                        refine lv_iconst (v := 2) hx hb dX8_init_118 (by decide) ?_
                        refine lv_icmp_ge (tgt := 141) hx hb dX8_init_119 (by decide) (fun c255 => ?_) (fun c255 => ?_)
                        · have k256 := i_le c255
                          exact absurd c255 (by decide)
                        · have k256 := i_nle c255
                          refine lv_aload_n hx hb dX8_init_122 rfl (lv_at hl254 1 rfl) ?_
                          refine x_getR C (ci := 8) (k := 2) hR rfl inX8 (by decide) wF_X8_19 rfl dX8_init_123 ?_
                          refine lv_iload_n hx hb dX8_init_126 rfl (lv_at hl254 0 rfl) ?_
                          refine x_new C hTH247 hSH247 (ci := 7) (ty0 := tyX7) (vs := [.int 0, .null, .null, .null, .null, .null, .null, .null, .null, .int 0]) rfl inX7 tyX7_ok wC_X8_17 wIS_X7 wIN_X7 dfX7 ⟨by decide, by decide⟩ dX8_init_127 (fun H257 hR259 hTH257 hSH257 oH257 zH257 => ?_)
                          have hNq258 : G246 H247.size = none := hTH247.gb _ (Nat.le_refl _)
                          have lt_q243_q258 : q243 < H247.size := hTH247.lt gq243
                          have b2q243 := BK1.hi b1q243 hTH247 (fun k hk => bkt_35 hTH247 gq243 k hk)
                          clear b1q243
                          have nr_a_q258 : a ≠ H247.size := Nat.ne_of_lt hR.lt
                          have nr_q102_q258 : q102 ≠ H247.size := Nat.ne_of_lt hR103.lt
                          have nr_q106_q258 : q106 ≠ H247.size := Nat.ne_of_lt hR107.lt
                          have nr_q110_q258 : q110 ≠ H247.size := Nat.ne_of_lt hR111.lt
                          replace b2q144 := BK2.kept b2q144 (oH257 _ (hTH247.lt gq144))
                          replace b2q155 := BK2.kept b2q155 (oH257 _ (hTH247.lt gq155))
                          replace b2q166 := BK2.kept b2q166 (oH257 _ (hTH247.lt gq166))
                          replace b2q177 := BK2.kept b2q177 (oH257 _ (hTH247.lt gq177))
                          replace b2q188 := BK2.kept b2q188 (oH257 _ (hTH247.lt gq188))
                          replace b2q199 := BK2.kept b2q199 (oH257 _ (hTH247.lt gq199))
                          replace b2q210 := BK2.kept b2q210 (oH257 _ (hTH247.lt gq210))
                          replace b2q221 := BK2.kept b2q221 (oH257 _ (hTH247.lt gq221))
                          replace b2q232 := BK2.kept b2q232 (oH257 _ (hTH247.lt gq232))
                          replace b2q243 := BK2.kept b2q243 (oH257 _ (hTH247.lt gq243))
                          replace hR := hR.kept (oH257 _ hR.lt)
                          replace hR103 := hR103.kept (oH257 _ hR103.lt)
                          replace hR107 := hR107.kept (oH257 _ hR107.lt)
                          replace hR111 := hR111.kept (oH257 _ hR111.lt)
                          obtain ⟨q258, eq258⟩ : ∃ q, q = H247.size := ⟨_, rfl⟩
                          have leq258 : s.heap.size ≤ q258 := by rw [eq258]; exact hSH247.1
                          rw [← eq258] at hNq258 hR259 lt_q243_q258 b2q243 nr_a_q258 nr_q102_q258 nr_q106_q258 nr_q110_q258
                          rw [← eq258]
                          clear eq258
                          clear oH257 zH257 hTH247
                          refine lv_dup hx hb dX8_init_130 rfl ?_
                          have lt_a_H260 := hR.lt
                          have lt_q102_H260 := hR103.lt
                          have lt_q106_H260 := hR107.lt
                          have lt_q110_H260 := hR111.lt
                          refine x_IN (As := []) (rest := [.ref q258, .int 0, .ref q106]) C (k_X7_init_kept_T_x l K G246 H257 (a := q258) hTH257 hNq258 hR259) yo_X7_init rfl wN_X8_53 ⟨⟨by decide, by decide⟩, by decide, by decide⟩ rfl hl254.1 rfl (Nat.le_of_ble_eq_true rfl) dX8_init_131 hSH257 (fun x h => Or.inr (h.elim (fun e => by rw [e]; exact leq258) (fun h => Nat.le_trans hSH257.1 h))) (fun vH260 H260 locsH260 pH260 zH260 kH260 hSH260 => ?_)
                          obtain ⟨hvH260, G261, hgH260, ggH260, hTH260, b1q258⟩ := pH260
                          subst hvH260
                          replace b2q144 := BK2.kept b2q144 (kH260 _ (hTH257.lt gq144) (fun h => h.elim (g_ne gq144 hNq258) (Nat.not_le.mpr (hTH257.lt gq144))))
                          replace b2q155 := BK2.kept b2q155 (kH260 _ (hTH257.lt gq155) (fun h => h.elim (g_ne gq155 hNq258) (Nat.not_le.mpr (hTH257.lt gq155))))
                          replace b2q166 := BK2.kept b2q166 (kH260 _ (hTH257.lt gq166) (fun h => h.elim (g_ne gq166 hNq258) (Nat.not_le.mpr (hTH257.lt gq166))))
                          replace b2q177 := BK2.kept b2q177 (kH260 _ (hTH257.lt gq177) (fun h => h.elim (g_ne gq177 hNq258) (Nat.not_le.mpr (hTH257.lt gq177))))
                          replace b2q188 := BK2.kept b2q188 (kH260 _ (hTH257.lt gq188) (fun h => h.elim (g_ne gq188 hNq258) (Nat.not_le.mpr (hTH257.lt gq188))))
                          replace b2q199 := BK2.kept b2q199 (kH260 _ (hTH257.lt gq199) (fun h => h.elim (g_ne gq199 hNq258) (Nat.not_le.mpr (hTH257.lt gq199))))
                          replace b2q210 := BK2.kept b2q210 (kH260 _ (hTH257.lt gq210) (fun h => h.elim (g_ne gq210 hNq258) (Nat.not_le.mpr (hTH257.lt gq210))))
                          replace b2q221 := BK2.kept b2q221 (kH260 _ (hTH257.lt gq221) (fun h => h.elim (g_ne gq221 hNq258) (Nat.not_le.mpr (hTH257.lt gq221))))
                          replace b2q232 := BK2.kept b2q232 (kH260 _ (hTH257.lt gq232) (fun h => h.elim (g_ne gq232 hNq258) (Nat.not_le.mpr (hTH257.lt gq232))))
                          replace b2q243 := BK2.kept b2q243 (kH260 _ (hTH257.lt gq243) (fun h => h.elim (g_ne gq243 hNq258) (Nat.not_le.mpr (hTH257.lt gq243))))
                          replace hR := hR.kept (kH260 _ lt_a_H260 (fun h => h.elim nr_a_q258 (Nat.not_le.mpr lt_a_H260)))
                          replace hR103 := hR103.kept (kH260 _ lt_q102_H260 (fun h => h.elim nr_q102_q258 (Nat.not_le.mpr lt_q102_H260)))
                          replace hR107 := hR107.kept (kH260 _ lt_q106_H260 (fun h => h.elim nr_q106_q258 (Nat.not_le.mpr lt_q106_H260)))
                          replace hR111 := hR111.kept (kH260 _ lt_q110_H260 (fun h => h.elim nr_q110_q258 (Nat.not_le.mpr lt_q110_H260)))
                          replace gq116 : G261 q116 = some 62 := (hgH260 _ (hTH257.lt gq116) (g_ne gq116 hNq258)).trans gq116
                          replace gq120 : G261 q120 = some 63 := (hgH260 _ (hTH257.lt gq120) (g_ne gq120 hNq258)).trans gq120
                          replace gq124 : G261 q124 = some 64 := (hgH260 _ (hTH257.lt gq124) (g_ne gq124 hNq258)).trans gq124
                          replace gq128 : G261 q128 = some 65 := (hgH260 _ (hTH257.lt gq128) (g_ne gq128 hNq258)).trans gq128
                          replace gq132 : G261 q132 = some 66 := (hgH260 _ (hTH257.lt gq132) (g_ne gq132 hNq258)).trans gq132
                          replace gq136 : G261 q136 = some 67 := (hgH260 _ (hTH257.lt gq136) (g_ne gq136 hNq258)).trans gq136
                          replace gq144 : G261 q144 = some 35 := (hgH260 _ (hTH257.lt gq144) (g_ne gq144 hNq258)).trans gq144
                          replace gq155 : G261 q155 = some 35 := (hgH260 _ (hTH257.lt gq155) (g_ne gq155 hNq258)).trans gq155
                          replace gq166 : G261 q166 = some 35 := (hgH260 _ (hTH257.lt gq166) (g_ne gq166 hNq258)).trans gq166
                          replace gq177 : G261 q177 = some 35 := (hgH260 _ (hTH257.lt gq177) (g_ne gq177 hNq258)).trans gq177
                          replace gq188 : G261 q188 = some 35 := (hgH260 _ (hTH257.lt gq188) (g_ne gq188 hNq258)).trans gq188
                          replace gq199 : G261 q199 = some 35 := (hgH260 _ (hTH257.lt gq199) (g_ne gq199 hNq258)).trans gq199
                          replace gq210 : G261 q210 = some 35 := (hgH260 _ (hTH257.lt gq210) (g_ne gq210 hNq258)).trans gq210
                          replace gq221 : G261 q221 = some 35 := (hgH260 _ (hTH257.lt gq221) (g_ne gq221 hNq258)).trans gq221
                          replace gq232 : G261 q232 = some 35 := (hgH260 _ (hTH257.lt gq232) (g_ne gq232 hNq258)).trans gq232
                          replace gq243 : G261 q243 = some 35 := (hgH260 _ (hTH257.lt gq243) (g_ne gq243 hNq258)).trans gq243
                          replace hn : G261 a = none := (hgH260 _ lt_a_H260 nr_a_q258).trans hn
                          replace hNq102 : G261 q102 = none := (hgH260 _ lt_q102_H260 nr_q102_q258).trans hNq102
                          replace hNq106 : G261 q106 = none := (hgH260 _ lt_q106_H260 nr_q106_q258).trans hNq106
                          replace hNq110 : G261 q110 = none := (hgH260 _ lt_q110_H260 nr_q110_q258).trans hNq110
                          replace hGo : ∀ q, q < s.heap.size → q ≠ a → G261 q = G q := fun q hq hqa => (hgH260 q (Nat.lt_of_lt_of_le hq hSH257.1) (Nat.ne_of_lt (Nat.lt_of_lt_of_le hq leq258))).trans (hGo q hq hqa)
                          have gq258 : G261 q258 = some 50 := ggH260
                          clear hR259 hNq258 ggH260 hgH260 kH260 zH260 hTH257 lt_a_H260 lt_q102_H260 lt_q106_H260 lt_q110_H260
                          refine W.eq (g2 := F0 m 134 ls253 [.ref q258, .int 0, .ref q106]) rfl ?_
                          refine x_astR (ti := 2) (ci := 7) C hTH260 hSH260 hR107 hNq106 gq258 rg_50 rfl rfl (by decide) (by decide) (Or.inr leq106) dX8_init_134 (fun H262 locsH262 hR1072 hTH262 hSH262 oH262 zH262 => ?_)
                          clear hR107
                          have hR107 : RAR K H262 q106 2 2 (va_up (fun _ => none) 0 (some q258)) := hR1072
                          clear hR1072
                          replace b2q144 := BK2.kept b2q144 (oH262 _ (g_ne gq144 hNq106))
                          replace b2q155 := BK2.kept b2q155 (oH262 _ (g_ne gq155 hNq106))
                          replace b2q166 := BK2.kept b2q166 (oH262 _ (g_ne gq166 hNq106))
                          replace b2q177 := BK2.kept b2q177 (oH262 _ (g_ne gq177 hNq106))
                          replace b2q188 := BK2.kept b2q188 (oH262 _ (g_ne gq188 hNq106))
                          replace b2q199 := BK2.kept b2q199 (oH262 _ (g_ne gq199 hNq106))
                          replace b2q210 := BK2.kept b2q210 (oH262 _ (g_ne gq210 hNq106))
                          replace b2q221 := BK2.kept b2q221 (oH262 _ (g_ne gq221 hNq106))
                          replace b2q232 := BK2.kept b2q232 (oH262 _ (g_ne gq232 hNq106))
                          replace b2q243 := BK2.kept b2q243 (oH262 _ (g_ne gq243 hNq106))
                          replace b1q258 := BK1.kept b1q258 (oH262 _ (g_ne gq258 hNq106))
                          replace hR := hR.kept (oH262 _ nr_a_q106)
                          replace hR103 := hR103.kept (oH262 _ nr_q102_q106)
                          replace hR111 := hR111.kept (oH262 _ (Ne.symm nr_q106_q110))
                          clear oH262 zH262 hTH260
                          refine lv_iinc (v := 1) (lv' := [(1, .int 1), (0, .ref a)]) hx hb dX8_init_135 hl254 (k := 0) rfl (by decide) (by decide) rfl (fun ls264 hl265 => ?_)
                          refine lv_goto (tgt := 117) hx hb dX8_init_138 (by decide) ?_
                          refine lv_iload_n hx hb dX8_init_117 rfl (lv_at hl265 0 rfl) ?_
                          refine lv_iconst (v := 2) hx hb dX8_init_118 (by decide) ?_
                          refine lv_icmp_ge (tgt := 141) hx hb dX8_init_119 (by decide) (fun c266 => ?_) (fun c266 => ?_)
                          · have k267 := i_le c266
                            exact absurd c266 (by decide)
                          · have k267 := i_nle c266
                            refine lv_aload_n hx hb dX8_init_122 rfl (lv_at hl265 1 rfl) ?_
                            refine x_getR C (ci := 8) (k := 2) hR rfl inX8 (by decide) wF_X8_19 rfl dX8_init_123 ?_
                            refine lv_iload_n hx hb dX8_init_126 rfl (lv_at hl265 0 rfl) ?_
                            refine x_new C hTH262 hSH262 (ci := 7) (ty0 := tyX7) (vs := [.int 0, .null, .null, .null, .null, .null, .null, .null, .null, .int 0]) rfl inX7 tyX7_ok wC_X8_17 wIS_X7 wIN_X7 dfX7 ⟨by decide, by decide⟩ dX8_init_127 (fun H268 hR270 hTH268 hSH268 oH268 zH268 => ?_)
                            have hNq269 : G261 H262.size = none := hTH262.gb _ (Nat.le_refl _)
                            have lt_q258_q269 : q258 < H262.size := hTH262.lt gq258
                            have b2q258 := BK1.hi b1q258 hTH262 (fun k hk => bkt_50 hTH262 gq258 k hk)
                            clear b1q258
                            have nr_a_q269 : a ≠ H262.size := Nat.ne_of_lt hR.lt
                            have nr_q102_q269 : q102 ≠ H262.size := Nat.ne_of_lt hR103.lt
                            have nr_q106_q269 : q106 ≠ H262.size := Nat.ne_of_lt hR107.lt
                            have nr_q110_q269 : q110 ≠ H262.size := Nat.ne_of_lt hR111.lt
                            replace b2q144 := BK2.kept b2q144 (oH268 _ (hTH262.lt gq144))
                            replace b2q155 := BK2.kept b2q155 (oH268 _ (hTH262.lt gq155))
                            replace b2q166 := BK2.kept b2q166 (oH268 _ (hTH262.lt gq166))
                            replace b2q177 := BK2.kept b2q177 (oH268 _ (hTH262.lt gq177))
                            replace b2q188 := BK2.kept b2q188 (oH268 _ (hTH262.lt gq188))
                            replace b2q199 := BK2.kept b2q199 (oH268 _ (hTH262.lt gq199))
                            replace b2q210 := BK2.kept b2q210 (oH268 _ (hTH262.lt gq210))
                            replace b2q221 := BK2.kept b2q221 (oH268 _ (hTH262.lt gq221))
                            replace b2q232 := BK2.kept b2q232 (oH268 _ (hTH262.lt gq232))
                            replace b2q243 := BK2.kept b2q243 (oH268 _ (hTH262.lt gq243))
                            replace b2q258 := BK2.kept b2q258 (oH268 _ (hTH262.lt gq258))
                            replace hR := hR.kept (oH268 _ hR.lt)
                            replace hR103 := hR103.kept (oH268 _ hR103.lt)
                            replace hR107 := hR107.kept (oH268 _ hR107.lt)
                            replace hR111 := hR111.kept (oH268 _ hR111.lt)
                            obtain ⟨q269, eq269⟩ : ∃ q, q = H262.size := ⟨_, rfl⟩
                            have leq269 : s.heap.size ≤ q269 := by rw [eq269]; exact hSH262.1
                            rw [← eq269] at hNq269 hR270 lt_q258_q269 b2q258 nr_a_q269 nr_q102_q269 nr_q106_q269 nr_q110_q269
                            rw [← eq269]
                            clear eq269
                            clear oH268 zH268 hTH262
                            refine lv_dup hx hb dX8_init_130 rfl ?_
                            have lt_a_H271 := hR.lt
                            have lt_q102_H271 := hR103.lt
                            have lt_q106_H271 := hR107.lt
                            have lt_q110_H271 := hR111.lt
                            refine x_IN (As := []) (rest := [.ref q269, .int 1, .ref q106]) C (k_X7_init_kept_T_x l K G261 H268 (a := q269) hTH268 hNq269 hR270) yo_X7_init rfl wN_X8_53 ⟨⟨by decide, by decide⟩, by decide, by decide⟩ rfl hl265.1 rfl (Nat.le_of_ble_eq_true rfl) dX8_init_131 hSH268 (fun x h => Or.inr (h.elim (fun e => by rw [e]; exact leq269) (fun h => Nat.le_trans hSH268.1 h))) (fun vH271 H271 locsH271 pH271 zH271 kH271 hSH271 => ?_)
                            obtain ⟨hvH271, G272, hgH271, ggH271, hTH271, b1q269⟩ := pH271
                            subst hvH271
                            replace b2q144 := BK2.kept b2q144 (kH271 _ (hTH268.lt gq144) (fun h => h.elim (g_ne gq144 hNq269) (Nat.not_le.mpr (hTH268.lt gq144))))
                            replace b2q155 := BK2.kept b2q155 (kH271 _ (hTH268.lt gq155) (fun h => h.elim (g_ne gq155 hNq269) (Nat.not_le.mpr (hTH268.lt gq155))))
                            replace b2q166 := BK2.kept b2q166 (kH271 _ (hTH268.lt gq166) (fun h => h.elim (g_ne gq166 hNq269) (Nat.not_le.mpr (hTH268.lt gq166))))
                            replace b2q177 := BK2.kept b2q177 (kH271 _ (hTH268.lt gq177) (fun h => h.elim (g_ne gq177 hNq269) (Nat.not_le.mpr (hTH268.lt gq177))))
                            replace b2q188 := BK2.kept b2q188 (kH271 _ (hTH268.lt gq188) (fun h => h.elim (g_ne gq188 hNq269) (Nat.not_le.mpr (hTH268.lt gq188))))
                            replace b2q199 := BK2.kept b2q199 (kH271 _ (hTH268.lt gq199) (fun h => h.elim (g_ne gq199 hNq269) (Nat.not_le.mpr (hTH268.lt gq199))))
                            replace b2q210 := BK2.kept b2q210 (kH271 _ (hTH268.lt gq210) (fun h => h.elim (g_ne gq210 hNq269) (Nat.not_le.mpr (hTH268.lt gq210))))
                            replace b2q221 := BK2.kept b2q221 (kH271 _ (hTH268.lt gq221) (fun h => h.elim (g_ne gq221 hNq269) (Nat.not_le.mpr (hTH268.lt gq221))))
                            replace b2q232 := BK2.kept b2q232 (kH271 _ (hTH268.lt gq232) (fun h => h.elim (g_ne gq232 hNq269) (Nat.not_le.mpr (hTH268.lt gq232))))
                            replace b2q243 := BK2.kept b2q243 (kH271 _ (hTH268.lt gq243) (fun h => h.elim (g_ne gq243 hNq269) (Nat.not_le.mpr (hTH268.lt gq243))))
                            replace b2q258 := BK2.kept b2q258 (kH271 _ (hTH268.lt gq258) (fun h => h.elim (g_ne gq258 hNq269) (Nat.not_le.mpr (hTH268.lt gq258))))
                            replace hR := hR.kept (kH271 _ lt_a_H271 (fun h => h.elim nr_a_q269 (Nat.not_le.mpr lt_a_H271)))
                            replace hR103 := hR103.kept (kH271 _ lt_q102_H271 (fun h => h.elim nr_q102_q269 (Nat.not_le.mpr lt_q102_H271)))
                            replace hR107 := hR107.kept (kH271 _ lt_q106_H271 (fun h => h.elim nr_q106_q269 (Nat.not_le.mpr lt_q106_H271)))
                            replace hR111 := hR111.kept (kH271 _ lt_q110_H271 (fun h => h.elim nr_q110_q269 (Nat.not_le.mpr lt_q110_H271)))
                            replace gq116 : G272 q116 = some 62 := (hgH271 _ (hTH268.lt gq116) (g_ne gq116 hNq269)).trans gq116
                            replace gq120 : G272 q120 = some 63 := (hgH271 _ (hTH268.lt gq120) (g_ne gq120 hNq269)).trans gq120
                            replace gq124 : G272 q124 = some 64 := (hgH271 _ (hTH268.lt gq124) (g_ne gq124 hNq269)).trans gq124
                            replace gq128 : G272 q128 = some 65 := (hgH271 _ (hTH268.lt gq128) (g_ne gq128 hNq269)).trans gq128
                            replace gq132 : G272 q132 = some 66 := (hgH271 _ (hTH268.lt gq132) (g_ne gq132 hNq269)).trans gq132
                            replace gq136 : G272 q136 = some 67 := (hgH271 _ (hTH268.lt gq136) (g_ne gq136 hNq269)).trans gq136
                            replace gq144 : G272 q144 = some 35 := (hgH271 _ (hTH268.lt gq144) (g_ne gq144 hNq269)).trans gq144
                            replace gq155 : G272 q155 = some 35 := (hgH271 _ (hTH268.lt gq155) (g_ne gq155 hNq269)).trans gq155
                            replace gq166 : G272 q166 = some 35 := (hgH271 _ (hTH268.lt gq166) (g_ne gq166 hNq269)).trans gq166
                            replace gq177 : G272 q177 = some 35 := (hgH271 _ (hTH268.lt gq177) (g_ne gq177 hNq269)).trans gq177
                            replace gq188 : G272 q188 = some 35 := (hgH271 _ (hTH268.lt gq188) (g_ne gq188 hNq269)).trans gq188
                            replace gq199 : G272 q199 = some 35 := (hgH271 _ (hTH268.lt gq199) (g_ne gq199 hNq269)).trans gq199
                            replace gq210 : G272 q210 = some 35 := (hgH271 _ (hTH268.lt gq210) (g_ne gq210 hNq269)).trans gq210
                            replace gq221 : G272 q221 = some 35 := (hgH271 _ (hTH268.lt gq221) (g_ne gq221 hNq269)).trans gq221
                            replace gq232 : G272 q232 = some 35 := (hgH271 _ (hTH268.lt gq232) (g_ne gq232 hNq269)).trans gq232
                            replace gq243 : G272 q243 = some 35 := (hgH271 _ (hTH268.lt gq243) (g_ne gq243 hNq269)).trans gq243
                            replace gq258 : G272 q258 = some 50 := (hgH271 _ (hTH268.lt gq258) (g_ne gq258 hNq269)).trans gq258
                            replace hn : G272 a = none := (hgH271 _ lt_a_H271 nr_a_q269).trans hn
                            replace hNq102 : G272 q102 = none := (hgH271 _ lt_q102_H271 nr_q102_q269).trans hNq102
                            replace hNq106 : G272 q106 = none := (hgH271 _ lt_q106_H271 nr_q106_q269).trans hNq106
                            replace hNq110 : G272 q110 = none := (hgH271 _ lt_q110_H271 nr_q110_q269).trans hNq110
                            replace hGo : ∀ q, q < s.heap.size → q ≠ a → G272 q = G q := fun q hq hqa => (hgH271 q (Nat.lt_of_lt_of_le hq hSH268.1) (Nat.ne_of_lt (Nat.lt_of_lt_of_le hq leq269))).trans (hGo q hq hqa)
                            have gq269 : G272 q269 = some 50 := ggH271
                            clear hR270 hNq269 ggH271 hgH271 kH271 zH271 hTH268 lt_a_H271 lt_q102_H271 lt_q106_H271 lt_q110_H271
                            refine W.eq (g2 := F0 m 134 ls264 [.ref q269, .int 1, .ref q106]) rfl ?_
                            refine x_astR (ti := 2) (ci := 7) C hTH271 hSH271 hR107 hNq106 gq269 rg_50 rfl rfl (by decide) (by decide) (Or.inr leq106) dX8_init_134 (fun H273 locsH273 hR1072 hTH273 hSH273 oH273 zH273 => ?_)
                            clear hR107
                            have hR107 : RAR K H273 q106 2 2 (va_up (va_up (fun _ => none) 0 (some q258)) 1 (some q269)) := hR1072
                            clear hR1072
                            replace b2q144 := BK2.kept b2q144 (oH273 _ (g_ne gq144 hNq106))
                            replace b2q155 := BK2.kept b2q155 (oH273 _ (g_ne gq155 hNq106))
                            replace b2q166 := BK2.kept b2q166 (oH273 _ (g_ne gq166 hNq106))
                            replace b2q177 := BK2.kept b2q177 (oH273 _ (g_ne gq177 hNq106))
                            replace b2q188 := BK2.kept b2q188 (oH273 _ (g_ne gq188 hNq106))
                            replace b2q199 := BK2.kept b2q199 (oH273 _ (g_ne gq199 hNq106))
                            replace b2q210 := BK2.kept b2q210 (oH273 _ (g_ne gq210 hNq106))
                            replace b2q221 := BK2.kept b2q221 (oH273 _ (g_ne gq221 hNq106))
                            replace b2q232 := BK2.kept b2q232 (oH273 _ (g_ne gq232 hNq106))
                            replace b2q243 := BK2.kept b2q243 (oH273 _ (g_ne gq243 hNq106))
                            replace b2q258 := BK2.kept b2q258 (oH273 _ (g_ne gq258 hNq106))
                            replace b1q269 := BK1.kept b1q269 (oH273 _ (g_ne gq269 hNq106))
                            replace hR := hR.kept (oH273 _ nr_a_q106)
                            replace hR103 := hR103.kept (oH273 _ nr_q102_q106)
                            replace hR111 := hR111.kept (oH273 _ (Ne.symm nr_q106_q110))
                            clear oH273 zH273 hTH271
                            refine lv_iinc (v := 2) (lv' := [(1, .int 2), (0, .ref a)]) hx hb dX8_init_135 hl265 (k := 0) rfl (by decide) (by decide) rfl (fun ls275 hl276 => ?_)
                            refine lv_goto (tgt := 117) hx hb dX8_init_138 (by decide) ?_
                            refine lv_iload_n hx hb dX8_init_117 rfl (lv_at hl276 0 rfl) ?_
                            refine lv_iconst (v := 2) hx hb dX8_init_118 (by decide) ?_
                            refine lv_icmp_ge (tgt := 141) hx hb dX8_init_119 (by decide) (fun c277 => ?_) (fun c277 => ?_)
                            · have k278 := i_le c277
                              refine lv_iconst (v := 0) hx hb dX8_init_141 (by decide) ?_
                              refine lv_istore_n (lv' := [(1, .int 0), (0, .ref a)]) hx hb dX8_init_142 rfl hl276 (by decide) rfl (fun ls279 hl280 => ?_)
                              refine lv_iload_n hx hb dX8_init_143 rfl (lv_at hl280 0 rfl) ?_
                              refine lv_iconst (v := 4) hx hb dX8_init_144 (by decide) ?_
                              refine lv_icmp_ge (tgt := 167) hx hb dX8_init_145 (by decide) (fun c281 => ?_) (fun c281 => ?_)
                              · have k282 := i_le c281
                                exact absurd c281 (by decide)
                              · have k282 := i_nle c281
                                refine lv_aload_n hx hb dX8_init_148 rfl (lv_at hl280 1 rfl) ?_
                                refine x_getR C (ci := 8) (k := 3) hR rfl inX8 (by decide) wF_X8_23 rfl dX8_init_149 ?_
                                refine lv_iload_n hx hb dX8_init_152 rfl (lv_at hl280 0 rfl) ?_
                                refine x_new C hTH273 hSH273 (ci := 7) (ty0 := tyX7) (vs := [.int 0, .null, .null, .null, .null, .null, .null, .null, .null, .int 0]) rfl inX7 tyX7_ok wC_X8_17 wIS_X7 wIN_X7 dfX7 ⟨by decide, by decide⟩ dX8_init_153 (fun H283 hR285 hTH283 hSH283 oH283 zH283 => ?_)
                                have hNq284 : G272 H273.size = none := hTH273.gb _ (Nat.le_refl _)
                                have lt_q269_q284 : q269 < H273.size := hTH273.lt gq269
                                have b2q269 := BK1.hi b1q269 hTH273 (fun k hk => bkt_50 hTH273 gq269 k hk)
                                clear b1q269
                                have nr_a_q284 : a ≠ H273.size := Nat.ne_of_lt hR.lt
                                have nr_q102_q284 : q102 ≠ H273.size := Nat.ne_of_lt hR103.lt
                                have nr_q106_q284 : q106 ≠ H273.size := Nat.ne_of_lt hR107.lt
                                have nr_q110_q284 : q110 ≠ H273.size := Nat.ne_of_lt hR111.lt
                                replace b2q144 := BK2.kept b2q144 (oH283 _ (hTH273.lt gq144))
                                replace b2q155 := BK2.kept b2q155 (oH283 _ (hTH273.lt gq155))
                                replace b2q166 := BK2.kept b2q166 (oH283 _ (hTH273.lt gq166))
                                replace b2q177 := BK2.kept b2q177 (oH283 _ (hTH273.lt gq177))
                                replace b2q188 := BK2.kept b2q188 (oH283 _ (hTH273.lt gq188))
                                replace b2q199 := BK2.kept b2q199 (oH283 _ (hTH273.lt gq199))
                                replace b2q210 := BK2.kept b2q210 (oH283 _ (hTH273.lt gq210))
                                replace b2q221 := BK2.kept b2q221 (oH283 _ (hTH273.lt gq221))
                                replace b2q232 := BK2.kept b2q232 (oH283 _ (hTH273.lt gq232))
                                replace b2q243 := BK2.kept b2q243 (oH283 _ (hTH273.lt gq243))
                                replace b2q258 := BK2.kept b2q258 (oH283 _ (hTH273.lt gq258))
                                replace b2q269 := BK2.kept b2q269 (oH283 _ (hTH273.lt gq269))
                                replace hR := hR.kept (oH283 _ hR.lt)
                                replace hR103 := hR103.kept (oH283 _ hR103.lt)
                                replace hR107 := hR107.kept (oH283 _ hR107.lt)
                                replace hR111 := hR111.kept (oH283 _ hR111.lt)
                                obtain ⟨q284, eq284⟩ : ∃ q, q = H273.size := ⟨_, rfl⟩
                                have leq284 : s.heap.size ≤ q284 := by rw [eq284]; exact hSH273.1
                                rw [← eq284] at hNq284 hR285 lt_q269_q284 b2q269 nr_a_q284 nr_q102_q284 nr_q106_q284 nr_q110_q284
                                rw [← eq284]
                                clear eq284
                                clear oH283 zH283 hTH273
                                refine lv_dup hx hb dX8_init_156 rfl ?_
                                have lt_a_H286 := hR.lt
                                have lt_q102_H286 := hR103.lt
                                have lt_q106_H286 := hR107.lt
                                have lt_q110_H286 := hR111.lt
                                refine x_IN (As := []) (rest := [.ref q284, .int 0, .ref q110]) C (k_X7_init_kept_T_x l K G272 H283 (a := q284) hTH283 hNq284 hR285) yo_X7_init rfl wN_X8_53 ⟨⟨by decide, by decide⟩, by decide, by decide⟩ rfl hl280.1 rfl (Nat.le_of_ble_eq_true rfl) dX8_init_157 hSH283 (fun x h => Or.inr (h.elim (fun e => by rw [e]; exact leq284) (fun h => Nat.le_trans hSH283.1 h))) (fun vH286 H286 locsH286 pH286 zH286 kH286 hSH286 => ?_)
                                obtain ⟨hvH286, G287, hgH286, ggH286, hTH286, b1q284⟩ := pH286
                                subst hvH286
                                replace b2q144 := BK2.kept b2q144 (kH286 _ (hTH283.lt gq144) (fun h => h.elim (g_ne gq144 hNq284) (Nat.not_le.mpr (hTH283.lt gq144))))
                                replace b2q155 := BK2.kept b2q155 (kH286 _ (hTH283.lt gq155) (fun h => h.elim (g_ne gq155 hNq284) (Nat.not_le.mpr (hTH283.lt gq155))))
                                replace b2q166 := BK2.kept b2q166 (kH286 _ (hTH283.lt gq166) (fun h => h.elim (g_ne gq166 hNq284) (Nat.not_le.mpr (hTH283.lt gq166))))
                                replace b2q177 := BK2.kept b2q177 (kH286 _ (hTH283.lt gq177) (fun h => h.elim (g_ne gq177 hNq284) (Nat.not_le.mpr (hTH283.lt gq177))))
                                replace b2q188 := BK2.kept b2q188 (kH286 _ (hTH283.lt gq188) (fun h => h.elim (g_ne gq188 hNq284) (Nat.not_le.mpr (hTH283.lt gq188))))
                                replace b2q199 := BK2.kept b2q199 (kH286 _ (hTH283.lt gq199) (fun h => h.elim (g_ne gq199 hNq284) (Nat.not_le.mpr (hTH283.lt gq199))))
                                replace b2q210 := BK2.kept b2q210 (kH286 _ (hTH283.lt gq210) (fun h => h.elim (g_ne gq210 hNq284) (Nat.not_le.mpr (hTH283.lt gq210))))
                                replace b2q221 := BK2.kept b2q221 (kH286 _ (hTH283.lt gq221) (fun h => h.elim (g_ne gq221 hNq284) (Nat.not_le.mpr (hTH283.lt gq221))))
                                replace b2q232 := BK2.kept b2q232 (kH286 _ (hTH283.lt gq232) (fun h => h.elim (g_ne gq232 hNq284) (Nat.not_le.mpr (hTH283.lt gq232))))
                                replace b2q243 := BK2.kept b2q243 (kH286 _ (hTH283.lt gq243) (fun h => h.elim (g_ne gq243 hNq284) (Nat.not_le.mpr (hTH283.lt gq243))))
                                replace b2q258 := BK2.kept b2q258 (kH286 _ (hTH283.lt gq258) (fun h => h.elim (g_ne gq258 hNq284) (Nat.not_le.mpr (hTH283.lt gq258))))
                                replace b2q269 := BK2.kept b2q269 (kH286 _ (hTH283.lt gq269) (fun h => h.elim (g_ne gq269 hNq284) (Nat.not_le.mpr (hTH283.lt gq269))))
                                replace hR := hR.kept (kH286 _ lt_a_H286 (fun h => h.elim nr_a_q284 (Nat.not_le.mpr lt_a_H286)))
                                replace hR103 := hR103.kept (kH286 _ lt_q102_H286 (fun h => h.elim nr_q102_q284 (Nat.not_le.mpr lt_q102_H286)))
                                replace hR107 := hR107.kept (kH286 _ lt_q106_H286 (fun h => h.elim nr_q106_q284 (Nat.not_le.mpr lt_q106_H286)))
                                replace hR111 := hR111.kept (kH286 _ lt_q110_H286 (fun h => h.elim nr_q110_q284 (Nat.not_le.mpr lt_q110_H286)))
                                replace gq116 : G287 q116 = some 62 := (hgH286 _ (hTH283.lt gq116) (g_ne gq116 hNq284)).trans gq116
                                replace gq120 : G287 q120 = some 63 := (hgH286 _ (hTH283.lt gq120) (g_ne gq120 hNq284)).trans gq120
                                replace gq124 : G287 q124 = some 64 := (hgH286 _ (hTH283.lt gq124) (g_ne gq124 hNq284)).trans gq124
                                replace gq128 : G287 q128 = some 65 := (hgH286 _ (hTH283.lt gq128) (g_ne gq128 hNq284)).trans gq128
                                replace gq132 : G287 q132 = some 66 := (hgH286 _ (hTH283.lt gq132) (g_ne gq132 hNq284)).trans gq132
                                replace gq136 : G287 q136 = some 67 := (hgH286 _ (hTH283.lt gq136) (g_ne gq136 hNq284)).trans gq136
                                replace gq144 : G287 q144 = some 35 := (hgH286 _ (hTH283.lt gq144) (g_ne gq144 hNq284)).trans gq144
                                replace gq155 : G287 q155 = some 35 := (hgH286 _ (hTH283.lt gq155) (g_ne gq155 hNq284)).trans gq155
                                replace gq166 : G287 q166 = some 35 := (hgH286 _ (hTH283.lt gq166) (g_ne gq166 hNq284)).trans gq166
                                replace gq177 : G287 q177 = some 35 := (hgH286 _ (hTH283.lt gq177) (g_ne gq177 hNq284)).trans gq177
                                replace gq188 : G287 q188 = some 35 := (hgH286 _ (hTH283.lt gq188) (g_ne gq188 hNq284)).trans gq188
                                replace gq199 : G287 q199 = some 35 := (hgH286 _ (hTH283.lt gq199) (g_ne gq199 hNq284)).trans gq199
                                replace gq210 : G287 q210 = some 35 := (hgH286 _ (hTH283.lt gq210) (g_ne gq210 hNq284)).trans gq210
                                replace gq221 : G287 q221 = some 35 := (hgH286 _ (hTH283.lt gq221) (g_ne gq221 hNq284)).trans gq221
                                replace gq232 : G287 q232 = some 35 := (hgH286 _ (hTH283.lt gq232) (g_ne gq232 hNq284)).trans gq232
                                replace gq243 : G287 q243 = some 35 := (hgH286 _ (hTH283.lt gq243) (g_ne gq243 hNq284)).trans gq243
                                replace gq258 : G287 q258 = some 50 := (hgH286 _ (hTH283.lt gq258) (g_ne gq258 hNq284)).trans gq258
                                replace gq269 : G287 q269 = some 50 := (hgH286 _ (hTH283.lt gq269) (g_ne gq269 hNq284)).trans gq269
                                replace hn : G287 a = none := (hgH286 _ lt_a_H286 nr_a_q284).trans hn
                                replace hNq102 : G287 q102 = none := (hgH286 _ lt_q102_H286 nr_q102_q284).trans hNq102
                                replace hNq106 : G287 q106 = none := (hgH286 _ lt_q106_H286 nr_q106_q284).trans hNq106
                                replace hNq110 : G287 q110 = none := (hgH286 _ lt_q110_H286 nr_q110_q284).trans hNq110
                                replace hGo : ∀ q, q < s.heap.size → q ≠ a → G287 q = G q := fun q hq hqa => (hgH286 q (Nat.lt_of_lt_of_le hq hSH283.1) (Nat.ne_of_lt (Nat.lt_of_lt_of_le hq leq284))).trans (hGo q hq hqa)
                                have gq284 : G287 q284 = some 50 := ggH286
                                clear hR285 hNq284 ggH286 hgH286 kH286 zH286 hTH283 lt_a_H286 lt_q102_H286 lt_q106_H286 lt_q110_H286
                                refine W.eq (g2 := F0 m 160 ls279 [.ref q284, .int 0, .ref q110]) rfl ?_
                                refine x_astR (ti := 2) (ci := 7) C hTH286 hSH286 hR111 hNq110 gq284 rg_50 rfl rfl (by decide) (by decide) (Or.inr leq110) dX8_init_160 (fun H288 locsH288 hR1112 hTH288 hSH288 oH288 zH288 => ?_)
                                clear hR111
                                have hR111 : RAR K H288 q110 2 4 (va_up (fun _ => none) 0 (some q284)) := hR1112
                                clear hR1112
                                replace b2q144 := BK2.kept b2q144 (oH288 _ (g_ne gq144 hNq110))
                                replace b2q155 := BK2.kept b2q155 (oH288 _ (g_ne gq155 hNq110))
                                replace b2q166 := BK2.kept b2q166 (oH288 _ (g_ne gq166 hNq110))
                                replace b2q177 := BK2.kept b2q177 (oH288 _ (g_ne gq177 hNq110))
                                replace b2q188 := BK2.kept b2q188 (oH288 _ (g_ne gq188 hNq110))
                                replace b2q199 := BK2.kept b2q199 (oH288 _ (g_ne gq199 hNq110))
                                replace b2q210 := BK2.kept b2q210 (oH288 _ (g_ne gq210 hNq110))
                                replace b2q221 := BK2.kept b2q221 (oH288 _ (g_ne gq221 hNq110))
                                replace b2q232 := BK2.kept b2q232 (oH288 _ (g_ne gq232 hNq110))
                                replace b2q243 := BK2.kept b2q243 (oH288 _ (g_ne gq243 hNq110))
                                replace b2q258 := BK2.kept b2q258 (oH288 _ (g_ne gq258 hNq110))
                                replace b2q269 := BK2.kept b2q269 (oH288 _ (g_ne gq269 hNq110))
                                replace b1q284 := BK1.kept b1q284 (oH288 _ (g_ne gq284 hNq110))
                                replace hR := hR.kept (oH288 _ nr_a_q110)
                                replace hR103 := hR103.kept (oH288 _ nr_q102_q110)
                                replace hR107 := hR107.kept (oH288 _ nr_q106_q110)
                                clear oH288 zH288 hTH286
                                refine lv_iinc (v := 1) (lv' := [(1, .int 1), (0, .ref a)]) hx hb dX8_init_161 hl280 (k := 0) rfl (by decide) (by decide) rfl (fun ls290 hl291 => ?_)
                                refine lv_goto (tgt := 143) hx hb dX8_init_164 (by decide) ?_
                                refine lv_iload_n hx hb dX8_init_143 rfl (lv_at hl291 0 rfl) ?_
                                refine lv_iconst (v := 4) hx hb dX8_init_144 (by decide) ?_
                                refine lv_icmp_ge (tgt := 167) hx hb dX8_init_145 (by decide) (fun c292 => ?_) (fun c292 => ?_)
                                · have k293 := i_le c292
                                  exact absurd c292 (by decide)
                                · have k293 := i_nle c292
                                  refine lv_aload_n hx hb dX8_init_148 rfl (lv_at hl291 1 rfl) ?_
                                  refine x_getR C (ci := 8) (k := 3) hR rfl inX8 (by decide) wF_X8_23 rfl dX8_init_149 ?_
                                  refine lv_iload_n hx hb dX8_init_152 rfl (lv_at hl291 0 rfl) ?_
                                  refine x_new C hTH288 hSH288 (ci := 7) (ty0 := tyX7) (vs := [.int 0, .null, .null, .null, .null, .null, .null, .null, .null, .int 0]) rfl inX7 tyX7_ok wC_X8_17 wIS_X7 wIN_X7 dfX7 ⟨by decide, by decide⟩ dX8_init_153 (fun H294 hR296 hTH294 hSH294 oH294 zH294 => ?_)
                                  have hNq295 : G287 H288.size = none := hTH288.gb _ (Nat.le_refl _)
                                  have lt_q284_q295 : q284 < H288.size := hTH288.lt gq284
                                  have b2q284 := BK1.hi b1q284 hTH288 (fun k hk => bkt_50 hTH288 gq284 k hk)
                                  clear b1q284
                                  have nr_a_q295 : a ≠ H288.size := Nat.ne_of_lt hR.lt
                                  have nr_q102_q295 : q102 ≠ H288.size := Nat.ne_of_lt hR103.lt
                                  have nr_q106_q295 : q106 ≠ H288.size := Nat.ne_of_lt hR107.lt
                                  have nr_q110_q295 : q110 ≠ H288.size := Nat.ne_of_lt hR111.lt
                                  replace b2q144 := BK2.kept b2q144 (oH294 _ (hTH288.lt gq144))
                                  replace b2q155 := BK2.kept b2q155 (oH294 _ (hTH288.lt gq155))
                                  replace b2q166 := BK2.kept b2q166 (oH294 _ (hTH288.lt gq166))
                                  replace b2q177 := BK2.kept b2q177 (oH294 _ (hTH288.lt gq177))
                                  replace b2q188 := BK2.kept b2q188 (oH294 _ (hTH288.lt gq188))
                                  replace b2q199 := BK2.kept b2q199 (oH294 _ (hTH288.lt gq199))
                                  replace b2q210 := BK2.kept b2q210 (oH294 _ (hTH288.lt gq210))
                                  replace b2q221 := BK2.kept b2q221 (oH294 _ (hTH288.lt gq221))
                                  replace b2q232 := BK2.kept b2q232 (oH294 _ (hTH288.lt gq232))
                                  replace b2q243 := BK2.kept b2q243 (oH294 _ (hTH288.lt gq243))
                                  replace b2q258 := BK2.kept b2q258 (oH294 _ (hTH288.lt gq258))
                                  replace b2q269 := BK2.kept b2q269 (oH294 _ (hTH288.lt gq269))
                                  replace b2q284 := BK2.kept b2q284 (oH294 _ (hTH288.lt gq284))
                                  replace hR := hR.kept (oH294 _ hR.lt)
                                  replace hR103 := hR103.kept (oH294 _ hR103.lt)
                                  replace hR107 := hR107.kept (oH294 _ hR107.lt)
                                  replace hR111 := hR111.kept (oH294 _ hR111.lt)
                                  obtain ⟨q295, eq295⟩ : ∃ q, q = H288.size := ⟨_, rfl⟩
                                  have leq295 : s.heap.size ≤ q295 := by rw [eq295]; exact hSH288.1
                                  rw [← eq295] at hNq295 hR296 lt_q284_q295 b2q284 nr_a_q295 nr_q102_q295 nr_q106_q295 nr_q110_q295
                                  rw [← eq295]
                                  clear eq295
                                  clear oH294 zH294 hTH288
                                  refine lv_dup hx hb dX8_init_156 rfl ?_
                                  have lt_a_H297 := hR.lt
                                  have lt_q102_H297 := hR103.lt
                                  have lt_q106_H297 := hR107.lt
                                  have lt_q110_H297 := hR111.lt
                                  refine x_IN (As := []) (rest := [.ref q295, .int 1, .ref q110]) C (k_X7_init_kept_T_x l K G287 H294 (a := q295) hTH294 hNq295 hR296) yo_X7_init rfl wN_X8_53 ⟨⟨by decide, by decide⟩, by decide, by decide⟩ rfl hl291.1 rfl (Nat.le_of_ble_eq_true rfl) dX8_init_157 hSH294 (fun x h => Or.inr (h.elim (fun e => by rw [e]; exact leq295) (fun h => Nat.le_trans hSH294.1 h))) (fun vH297 H297 locsH297 pH297 zH297 kH297 hSH297 => ?_)
                                  obtain ⟨hvH297, G298, hgH297, ggH297, hTH297, b1q295⟩ := pH297
                                  subst hvH297
                                  replace b2q144 := BK2.kept b2q144 (kH297 _ (hTH294.lt gq144) (fun h => h.elim (g_ne gq144 hNq295) (Nat.not_le.mpr (hTH294.lt gq144))))
                                  replace b2q155 := BK2.kept b2q155 (kH297 _ (hTH294.lt gq155) (fun h => h.elim (g_ne gq155 hNq295) (Nat.not_le.mpr (hTH294.lt gq155))))
                                  replace b2q166 := BK2.kept b2q166 (kH297 _ (hTH294.lt gq166) (fun h => h.elim (g_ne gq166 hNq295) (Nat.not_le.mpr (hTH294.lt gq166))))
                                  replace b2q177 := BK2.kept b2q177 (kH297 _ (hTH294.lt gq177) (fun h => h.elim (g_ne gq177 hNq295) (Nat.not_le.mpr (hTH294.lt gq177))))
                                  replace b2q188 := BK2.kept b2q188 (kH297 _ (hTH294.lt gq188) (fun h => h.elim (g_ne gq188 hNq295) (Nat.not_le.mpr (hTH294.lt gq188))))
                                  replace b2q199 := BK2.kept b2q199 (kH297 _ (hTH294.lt gq199) (fun h => h.elim (g_ne gq199 hNq295) (Nat.not_le.mpr (hTH294.lt gq199))))
                                  replace b2q210 := BK2.kept b2q210 (kH297 _ (hTH294.lt gq210) (fun h => h.elim (g_ne gq210 hNq295) (Nat.not_le.mpr (hTH294.lt gq210))))
                                  replace b2q221 := BK2.kept b2q221 (kH297 _ (hTH294.lt gq221) (fun h => h.elim (g_ne gq221 hNq295) (Nat.not_le.mpr (hTH294.lt gq221))))
                                  replace b2q232 := BK2.kept b2q232 (kH297 _ (hTH294.lt gq232) (fun h => h.elim (g_ne gq232 hNq295) (Nat.not_le.mpr (hTH294.lt gq232))))
                                  replace b2q243 := BK2.kept b2q243 (kH297 _ (hTH294.lt gq243) (fun h => h.elim (g_ne gq243 hNq295) (Nat.not_le.mpr (hTH294.lt gq243))))
                                  replace b2q258 := BK2.kept b2q258 (kH297 _ (hTH294.lt gq258) (fun h => h.elim (g_ne gq258 hNq295) (Nat.not_le.mpr (hTH294.lt gq258))))
                                  replace b2q269 := BK2.kept b2q269 (kH297 _ (hTH294.lt gq269) (fun h => h.elim (g_ne gq269 hNq295) (Nat.not_le.mpr (hTH294.lt gq269))))
                                  replace b2q284 := BK2.kept b2q284 (kH297 _ (hTH294.lt gq284) (fun h => h.elim (g_ne gq284 hNq295) (Nat.not_le.mpr (hTH294.lt gq284))))
                                  replace hR := hR.kept (kH297 _ lt_a_H297 (fun h => h.elim nr_a_q295 (Nat.not_le.mpr lt_a_H297)))
                                  replace hR103 := hR103.kept (kH297 _ lt_q102_H297 (fun h => h.elim nr_q102_q295 (Nat.not_le.mpr lt_q102_H297)))
                                  replace hR107 := hR107.kept (kH297 _ lt_q106_H297 (fun h => h.elim nr_q106_q295 (Nat.not_le.mpr lt_q106_H297)))
                                  replace hR111 := hR111.kept (kH297 _ lt_q110_H297 (fun h => h.elim nr_q110_q295 (Nat.not_le.mpr lt_q110_H297)))
                                  replace gq116 : G298 q116 = some 62 := (hgH297 _ (hTH294.lt gq116) (g_ne gq116 hNq295)).trans gq116
                                  replace gq120 : G298 q120 = some 63 := (hgH297 _ (hTH294.lt gq120) (g_ne gq120 hNq295)).trans gq120
                                  replace gq124 : G298 q124 = some 64 := (hgH297 _ (hTH294.lt gq124) (g_ne gq124 hNq295)).trans gq124
                                  replace gq128 : G298 q128 = some 65 := (hgH297 _ (hTH294.lt gq128) (g_ne gq128 hNq295)).trans gq128
                                  replace gq132 : G298 q132 = some 66 := (hgH297 _ (hTH294.lt gq132) (g_ne gq132 hNq295)).trans gq132
                                  replace gq136 : G298 q136 = some 67 := (hgH297 _ (hTH294.lt gq136) (g_ne gq136 hNq295)).trans gq136
                                  replace gq144 : G298 q144 = some 35 := (hgH297 _ (hTH294.lt gq144) (g_ne gq144 hNq295)).trans gq144
                                  replace gq155 : G298 q155 = some 35 := (hgH297 _ (hTH294.lt gq155) (g_ne gq155 hNq295)).trans gq155
                                  replace gq166 : G298 q166 = some 35 := (hgH297 _ (hTH294.lt gq166) (g_ne gq166 hNq295)).trans gq166
                                  replace gq177 : G298 q177 = some 35 := (hgH297 _ (hTH294.lt gq177) (g_ne gq177 hNq295)).trans gq177
                                  replace gq188 : G298 q188 = some 35 := (hgH297 _ (hTH294.lt gq188) (g_ne gq188 hNq295)).trans gq188
                                  replace gq199 : G298 q199 = some 35 := (hgH297 _ (hTH294.lt gq199) (g_ne gq199 hNq295)).trans gq199
                                  replace gq210 : G298 q210 = some 35 := (hgH297 _ (hTH294.lt gq210) (g_ne gq210 hNq295)).trans gq210
                                  replace gq221 : G298 q221 = some 35 := (hgH297 _ (hTH294.lt gq221) (g_ne gq221 hNq295)).trans gq221
                                  replace gq232 : G298 q232 = some 35 := (hgH297 _ (hTH294.lt gq232) (g_ne gq232 hNq295)).trans gq232
                                  replace gq243 : G298 q243 = some 35 := (hgH297 _ (hTH294.lt gq243) (g_ne gq243 hNq295)).trans gq243
                                  replace gq258 : G298 q258 = some 50 := (hgH297 _ (hTH294.lt gq258) (g_ne gq258 hNq295)).trans gq258
                                  replace gq269 : G298 q269 = some 50 := (hgH297 _ (hTH294.lt gq269) (g_ne gq269 hNq295)).trans gq269
                                  replace gq284 : G298 q284 = some 50 := (hgH297 _ (hTH294.lt gq284) (g_ne gq284 hNq295)).trans gq284
                                  replace hn : G298 a = none := (hgH297 _ lt_a_H297 nr_a_q295).trans hn
                                  replace hNq102 : G298 q102 = none := (hgH297 _ lt_q102_H297 nr_q102_q295).trans hNq102
                                  replace hNq106 : G298 q106 = none := (hgH297 _ lt_q106_H297 nr_q106_q295).trans hNq106
                                  replace hNq110 : G298 q110 = none := (hgH297 _ lt_q110_H297 nr_q110_q295).trans hNq110
                                  replace hGo : ∀ q, q < s.heap.size → q ≠ a → G298 q = G q := fun q hq hqa => (hgH297 q (Nat.lt_of_lt_of_le hq hSH294.1) (Nat.ne_of_lt (Nat.lt_of_lt_of_le hq leq295))).trans (hGo q hq hqa)
                                  have gq295 : G298 q295 = some 50 := ggH297
                                  clear hR296 hNq295 ggH297 hgH297 kH297 zH297 hTH294 lt_a_H297 lt_q102_H297 lt_q106_H297 lt_q110_H297
                                  refine W.eq (g2 := F0 m 160 ls290 [.ref q295, .int 1, .ref q110]) rfl ?_
                                  refine x_astR (ti := 2) (ci := 7) C hTH297 hSH297 hR111 hNq110 gq295 rg_50 rfl rfl (by decide) (by decide) (Or.inr leq110) dX8_init_160 (fun H299 locsH299 hR1112 hTH299 hSH299 oH299 zH299 => ?_)
                                  clear hR111
                                  have hR111 : RAR K H299 q110 2 4 (va_up (va_up (fun _ => none) 0 (some q284)) 1 (some q295)) := hR1112
                                  clear hR1112
                                  replace b2q144 := BK2.kept b2q144 (oH299 _ (g_ne gq144 hNq110))
                                  replace b2q155 := BK2.kept b2q155 (oH299 _ (g_ne gq155 hNq110))
                                  replace b2q166 := BK2.kept b2q166 (oH299 _ (g_ne gq166 hNq110))
                                  replace b2q177 := BK2.kept b2q177 (oH299 _ (g_ne gq177 hNq110))
                                  replace b2q188 := BK2.kept b2q188 (oH299 _ (g_ne gq188 hNq110))
                                  replace b2q199 := BK2.kept b2q199 (oH299 _ (g_ne gq199 hNq110))
                                  replace b2q210 := BK2.kept b2q210 (oH299 _ (g_ne gq210 hNq110))
                                  replace b2q221 := BK2.kept b2q221 (oH299 _ (g_ne gq221 hNq110))
                                  replace b2q232 := BK2.kept b2q232 (oH299 _ (g_ne gq232 hNq110))
                                  replace b2q243 := BK2.kept b2q243 (oH299 _ (g_ne gq243 hNq110))
                                  replace b2q258 := BK2.kept b2q258 (oH299 _ (g_ne gq258 hNq110))
                                  replace b2q269 := BK2.kept b2q269 (oH299 _ (g_ne gq269 hNq110))
                                  replace b2q284 := BK2.kept b2q284 (oH299 _ (g_ne gq284 hNq110))
                                  replace b1q295 := BK1.kept b1q295 (oH299 _ (g_ne gq295 hNq110))
                                  replace hR := hR.kept (oH299 _ nr_a_q110)
                                  replace hR103 := hR103.kept (oH299 _ nr_q102_q110)
                                  replace hR107 := hR107.kept (oH299 _ nr_q106_q110)
                                  clear oH299 zH299 hTH297
                                  refine lv_iinc (v := 2) (lv' := [(1, .int 2), (0, .ref a)]) hx hb dX8_init_161 hl291 (k := 0) rfl (by decide) (by decide) rfl (fun ls301 hl302 => ?_)
                                  refine lv_goto (tgt := 143) hx hb dX8_init_164 (by decide) ?_
                                  refine lv_iload_n hx hb dX8_init_143 rfl (lv_at hl302 0 rfl) ?_
                                  refine lv_iconst (v := 4) hx hb dX8_init_144 (by decide) ?_
                                  refine lv_icmp_ge (tgt := 167) hx hb dX8_init_145 (by decide) (fun c303 => ?_) (fun c303 => ?_)
                                  · have k304 := i_le c303
                                    exact absurd c303 (by decide)
                                  · have k304 := i_nle c303
                                    refine lv_aload_n hx hb dX8_init_148 rfl (lv_at hl302 1 rfl) ?_
                                    refine x_getR C (ci := 8) (k := 3) hR rfl inX8 (by decide) wF_X8_23 rfl dX8_init_149 ?_
                                    refine lv_iload_n hx hb dX8_init_152 rfl (lv_at hl302 0 rfl) ?_
                                    refine x_new C hTH299 hSH299 (ci := 7) (ty0 := tyX7) (vs := [.int 0, .null, .null, .null, .null, .null, .null, .null, .null, .int 0]) rfl inX7 tyX7_ok wC_X8_17 wIS_X7 wIN_X7 dfX7 ⟨by decide, by decide⟩ dX8_init_153 (fun H305 hR307 hTH305 hSH305 oH305 zH305 => ?_)
                                    have hNq306 : G298 H299.size = none := hTH299.gb _ (Nat.le_refl _)
                                    have lt_q295_q306 : q295 < H299.size := hTH299.lt gq295
                                    have b2q295 := BK1.hi b1q295 hTH299 (fun k hk => bkt_50 hTH299 gq295 k hk)
                                    clear b1q295
                                    have nr_a_q306 : a ≠ H299.size := Nat.ne_of_lt hR.lt
                                    have nr_q102_q306 : q102 ≠ H299.size := Nat.ne_of_lt hR103.lt
                                    have nr_q106_q306 : q106 ≠ H299.size := Nat.ne_of_lt hR107.lt
                                    have nr_q110_q306 : q110 ≠ H299.size := Nat.ne_of_lt hR111.lt
                                    replace b2q144 := BK2.kept b2q144 (oH305 _ (hTH299.lt gq144))
                                    replace b2q155 := BK2.kept b2q155 (oH305 _ (hTH299.lt gq155))
                                    replace b2q166 := BK2.kept b2q166 (oH305 _ (hTH299.lt gq166))
                                    replace b2q177 := BK2.kept b2q177 (oH305 _ (hTH299.lt gq177))
                                    replace b2q188 := BK2.kept b2q188 (oH305 _ (hTH299.lt gq188))
                                    replace b2q199 := BK2.kept b2q199 (oH305 _ (hTH299.lt gq199))
                                    replace b2q210 := BK2.kept b2q210 (oH305 _ (hTH299.lt gq210))
                                    replace b2q221 := BK2.kept b2q221 (oH305 _ (hTH299.lt gq221))
                                    replace b2q232 := BK2.kept b2q232 (oH305 _ (hTH299.lt gq232))
                                    replace b2q243 := BK2.kept b2q243 (oH305 _ (hTH299.lt gq243))
                                    replace b2q258 := BK2.kept b2q258 (oH305 _ (hTH299.lt gq258))
                                    replace b2q269 := BK2.kept b2q269 (oH305 _ (hTH299.lt gq269))
                                    replace b2q284 := BK2.kept b2q284 (oH305 _ (hTH299.lt gq284))
                                    replace b2q295 := BK2.kept b2q295 (oH305 _ (hTH299.lt gq295))
                                    replace hR := hR.kept (oH305 _ hR.lt)
                                    replace hR103 := hR103.kept (oH305 _ hR103.lt)
                                    replace hR107 := hR107.kept (oH305 _ hR107.lt)
                                    replace hR111 := hR111.kept (oH305 _ hR111.lt)
                                    obtain ⟨q306, eq306⟩ : ∃ q, q = H299.size := ⟨_, rfl⟩
                                    have leq306 : s.heap.size ≤ q306 := by rw [eq306]; exact hSH299.1
                                    rw [← eq306] at hNq306 hR307 lt_q295_q306 b2q295 nr_a_q306 nr_q102_q306 nr_q106_q306 nr_q110_q306
                                    rw [← eq306]
                                    clear eq306
                                    clear oH305 zH305 hTH299
                                    refine lv_dup hx hb dX8_init_156 rfl ?_
                                    have lt_a_H308 := hR.lt
                                    have lt_q102_H308 := hR103.lt
                                    have lt_q106_H308 := hR107.lt
                                    have lt_q110_H308 := hR111.lt
                                    refine x_IN (As := []) (rest := [.ref q306, .int 2, .ref q110]) C (k_X7_init_kept_T_x l K G298 H305 (a := q306) hTH305 hNq306 hR307) yo_X7_init rfl wN_X8_53 ⟨⟨by decide, by decide⟩, by decide, by decide⟩ rfl hl302.1 rfl (Nat.le_of_ble_eq_true rfl) dX8_init_157 hSH305 (fun x h => Or.inr (h.elim (fun e => by rw [e]; exact leq306) (fun h => Nat.le_trans hSH305.1 h))) (fun vH308 H308 locsH308 pH308 zH308 kH308 hSH308 => ?_)
                                    obtain ⟨hvH308, G309, hgH308, ggH308, hTH308, b1q306⟩ := pH308
                                    subst hvH308
                                    replace b2q144 := BK2.kept b2q144 (kH308 _ (hTH305.lt gq144) (fun h => h.elim (g_ne gq144 hNq306) (Nat.not_le.mpr (hTH305.lt gq144))))
                                    replace b2q155 := BK2.kept b2q155 (kH308 _ (hTH305.lt gq155) (fun h => h.elim (g_ne gq155 hNq306) (Nat.not_le.mpr (hTH305.lt gq155))))
                                    replace b2q166 := BK2.kept b2q166 (kH308 _ (hTH305.lt gq166) (fun h => h.elim (g_ne gq166 hNq306) (Nat.not_le.mpr (hTH305.lt gq166))))
                                    replace b2q177 := BK2.kept b2q177 (kH308 _ (hTH305.lt gq177) (fun h => h.elim (g_ne gq177 hNq306) (Nat.not_le.mpr (hTH305.lt gq177))))
                                    replace b2q188 := BK2.kept b2q188 (kH308 _ (hTH305.lt gq188) (fun h => h.elim (g_ne gq188 hNq306) (Nat.not_le.mpr (hTH305.lt gq188))))
                                    replace b2q199 := BK2.kept b2q199 (kH308 _ (hTH305.lt gq199) (fun h => h.elim (g_ne gq199 hNq306) (Nat.not_le.mpr (hTH305.lt gq199))))
                                    replace b2q210 := BK2.kept b2q210 (kH308 _ (hTH305.lt gq210) (fun h => h.elim (g_ne gq210 hNq306) (Nat.not_le.mpr (hTH305.lt gq210))))
                                    replace b2q221 := BK2.kept b2q221 (kH308 _ (hTH305.lt gq221) (fun h => h.elim (g_ne gq221 hNq306) (Nat.not_le.mpr (hTH305.lt gq221))))
                                    replace b2q232 := BK2.kept b2q232 (kH308 _ (hTH305.lt gq232) (fun h => h.elim (g_ne gq232 hNq306) (Nat.not_le.mpr (hTH305.lt gq232))))
                                    replace b2q243 := BK2.kept b2q243 (kH308 _ (hTH305.lt gq243) (fun h => h.elim (g_ne gq243 hNq306) (Nat.not_le.mpr (hTH305.lt gq243))))
                                    replace b2q258 := BK2.kept b2q258 (kH308 _ (hTH305.lt gq258) (fun h => h.elim (g_ne gq258 hNq306) (Nat.not_le.mpr (hTH305.lt gq258))))
                                    replace b2q269 := BK2.kept b2q269 (kH308 _ (hTH305.lt gq269) (fun h => h.elim (g_ne gq269 hNq306) (Nat.not_le.mpr (hTH305.lt gq269))))
                                    replace b2q284 := BK2.kept b2q284 (kH308 _ (hTH305.lt gq284) (fun h => h.elim (g_ne gq284 hNq306) (Nat.not_le.mpr (hTH305.lt gq284))))
                                    replace b2q295 := BK2.kept b2q295 (kH308 _ (hTH305.lt gq295) (fun h => h.elim (g_ne gq295 hNq306) (Nat.not_le.mpr (hTH305.lt gq295))))
                                    replace hR := hR.kept (kH308 _ lt_a_H308 (fun h => h.elim nr_a_q306 (Nat.not_le.mpr lt_a_H308)))
                                    replace hR103 := hR103.kept (kH308 _ lt_q102_H308 (fun h => h.elim nr_q102_q306 (Nat.not_le.mpr lt_q102_H308)))
                                    replace hR107 := hR107.kept (kH308 _ lt_q106_H308 (fun h => h.elim nr_q106_q306 (Nat.not_le.mpr lt_q106_H308)))
                                    replace hR111 := hR111.kept (kH308 _ lt_q110_H308 (fun h => h.elim nr_q110_q306 (Nat.not_le.mpr lt_q110_H308)))
                                    replace gq116 : G309 q116 = some 62 := (hgH308 _ (hTH305.lt gq116) (g_ne gq116 hNq306)).trans gq116
                                    replace gq120 : G309 q120 = some 63 := (hgH308 _ (hTH305.lt gq120) (g_ne gq120 hNq306)).trans gq120
                                    replace gq124 : G309 q124 = some 64 := (hgH308 _ (hTH305.lt gq124) (g_ne gq124 hNq306)).trans gq124
                                    replace gq128 : G309 q128 = some 65 := (hgH308 _ (hTH305.lt gq128) (g_ne gq128 hNq306)).trans gq128
                                    replace gq132 : G309 q132 = some 66 := (hgH308 _ (hTH305.lt gq132) (g_ne gq132 hNq306)).trans gq132
                                    replace gq136 : G309 q136 = some 67 := (hgH308 _ (hTH305.lt gq136) (g_ne gq136 hNq306)).trans gq136
                                    replace gq144 : G309 q144 = some 35 := (hgH308 _ (hTH305.lt gq144) (g_ne gq144 hNq306)).trans gq144
                                    replace gq155 : G309 q155 = some 35 := (hgH308 _ (hTH305.lt gq155) (g_ne gq155 hNq306)).trans gq155
                                    replace gq166 : G309 q166 = some 35 := (hgH308 _ (hTH305.lt gq166) (g_ne gq166 hNq306)).trans gq166
                                    replace gq177 : G309 q177 = some 35 := (hgH308 _ (hTH305.lt gq177) (g_ne gq177 hNq306)).trans gq177
                                    replace gq188 : G309 q188 = some 35 := (hgH308 _ (hTH305.lt gq188) (g_ne gq188 hNq306)).trans gq188
                                    replace gq199 : G309 q199 = some 35 := (hgH308 _ (hTH305.lt gq199) (g_ne gq199 hNq306)).trans gq199
                                    replace gq210 : G309 q210 = some 35 := (hgH308 _ (hTH305.lt gq210) (g_ne gq210 hNq306)).trans gq210
                                    replace gq221 : G309 q221 = some 35 := (hgH308 _ (hTH305.lt gq221) (g_ne gq221 hNq306)).trans gq221
                                    replace gq232 : G309 q232 = some 35 := (hgH308 _ (hTH305.lt gq232) (g_ne gq232 hNq306)).trans gq232
                                    replace gq243 : G309 q243 = some 35 := (hgH308 _ (hTH305.lt gq243) (g_ne gq243 hNq306)).trans gq243
                                    replace gq258 : G309 q258 = some 50 := (hgH308 _ (hTH305.lt gq258) (g_ne gq258 hNq306)).trans gq258
                                    replace gq269 : G309 q269 = some 50 := (hgH308 _ (hTH305.lt gq269) (g_ne gq269 hNq306)).trans gq269
                                    replace gq284 : G309 q284 = some 50 := (hgH308 _ (hTH305.lt gq284) (g_ne gq284 hNq306)).trans gq284
                                    replace gq295 : G309 q295 = some 50 := (hgH308 _ (hTH305.lt gq295) (g_ne gq295 hNq306)).trans gq295
                                    replace hn : G309 a = none := (hgH308 _ lt_a_H308 nr_a_q306).trans hn
                                    replace hNq102 : G309 q102 = none := (hgH308 _ lt_q102_H308 nr_q102_q306).trans hNq102
                                    replace hNq106 : G309 q106 = none := (hgH308 _ lt_q106_H308 nr_q106_q306).trans hNq106
                                    replace hNq110 : G309 q110 = none := (hgH308 _ lt_q110_H308 nr_q110_q306).trans hNq110
                                    replace hGo : ∀ q, q < s.heap.size → q ≠ a → G309 q = G q := fun q hq hqa => (hgH308 q (Nat.lt_of_lt_of_le hq hSH305.1) (Nat.ne_of_lt (Nat.lt_of_lt_of_le hq leq306))).trans (hGo q hq hqa)
                                    have gq306 : G309 q306 = some 50 := ggH308
                                    clear hR307 hNq306 ggH308 hgH308 kH308 zH308 hTH305 lt_a_H308 lt_q102_H308 lt_q106_H308 lt_q110_H308
                                    refine W.eq (g2 := F0 m 160 ls301 [.ref q306, .int 2, .ref q110]) rfl ?_
                                    refine x_astR (ti := 2) (ci := 7) C hTH308 hSH308 hR111 hNq110 gq306 rg_50 rfl rfl (by decide) (by decide) (Or.inr leq110) dX8_init_160 (fun H310 locsH310 hR1112 hTH310 hSH310 oH310 zH310 => ?_)
                                    clear hR111
                                    have hR111 : RAR K H310 q110 2 4 (va_up (va_up (va_up (fun _ => none) 0 (some q284)) 1 (some q295)) 2 (some q306)) := hR1112
                                    clear hR1112
                                    replace b2q144 := BK2.kept b2q144 (oH310 _ (g_ne gq144 hNq110))
                                    replace b2q155 := BK2.kept b2q155 (oH310 _ (g_ne gq155 hNq110))
                                    replace b2q166 := BK2.kept b2q166 (oH310 _ (g_ne gq166 hNq110))
                                    replace b2q177 := BK2.kept b2q177 (oH310 _ (g_ne gq177 hNq110))
                                    replace b2q188 := BK2.kept b2q188 (oH310 _ (g_ne gq188 hNq110))
                                    replace b2q199 := BK2.kept b2q199 (oH310 _ (g_ne gq199 hNq110))
                                    replace b2q210 := BK2.kept b2q210 (oH310 _ (g_ne gq210 hNq110))
                                    replace b2q221 := BK2.kept b2q221 (oH310 _ (g_ne gq221 hNq110))
                                    replace b2q232 := BK2.kept b2q232 (oH310 _ (g_ne gq232 hNq110))
                                    replace b2q243 := BK2.kept b2q243 (oH310 _ (g_ne gq243 hNq110))
                                    replace b2q258 := BK2.kept b2q258 (oH310 _ (g_ne gq258 hNq110))
                                    replace b2q269 := BK2.kept b2q269 (oH310 _ (g_ne gq269 hNq110))
                                    replace b2q284 := BK2.kept b2q284 (oH310 _ (g_ne gq284 hNq110))
                                    replace b2q295 := BK2.kept b2q295 (oH310 _ (g_ne gq295 hNq110))
                                    replace b1q306 := BK1.kept b1q306 (oH310 _ (g_ne gq306 hNq110))
                                    replace hR := hR.kept (oH310 _ nr_a_q110)
                                    replace hR103 := hR103.kept (oH310 _ nr_q102_q110)
                                    replace hR107 := hR107.kept (oH310 _ nr_q106_q110)
                                    clear oH310 zH310 hTH308
                                    refine lv_iinc (v := 3) (lv' := [(1, .int 3), (0, .ref a)]) hx hb dX8_init_161 hl302 (k := 0) rfl (by decide) (by decide) rfl (fun ls312 hl313 => ?_)
                                    refine lv_goto (tgt := 143) hx hb dX8_init_164 (by decide) ?_
                                    refine lv_iload_n hx hb dX8_init_143 rfl (lv_at hl313 0 rfl) ?_
                                    refine lv_iconst (v := 4) hx hb dX8_init_144 (by decide) ?_
                                    refine lv_icmp_ge (tgt := 167) hx hb dX8_init_145 (by decide) (fun c314 => ?_) (fun c314 => ?_)
                                    · have k315 := i_le c314
                                      exact absurd c314 (by decide)
                                    · have k315 := i_nle c314
                                      refine lv_aload_n hx hb dX8_init_148 rfl (lv_at hl313 1 rfl) ?_
                                      refine x_getR C (ci := 8) (k := 3) hR rfl inX8 (by decide) wF_X8_23 rfl dX8_init_149 ?_
                                      refine lv_iload_n hx hb dX8_init_152 rfl (lv_at hl313 0 rfl) ?_
                                      refine x_new C hTH310 hSH310 (ci := 7) (ty0 := tyX7) (vs := [.int 0, .null, .null, .null, .null, .null, .null, .null, .null, .int 0]) rfl inX7 tyX7_ok wC_X8_17 wIS_X7 wIN_X7 dfX7 ⟨by decide, by decide⟩ dX8_init_153 (fun H316 hR318 hTH316 hSH316 oH316 zH316 => ?_)
                                      have hNq317 : G309 H310.size = none := hTH310.gb _ (Nat.le_refl _)
                                      have lt_q306_q317 : q306 < H310.size := hTH310.lt gq306
                                      have b2q306 := BK1.hi b1q306 hTH310 (fun k hk => bkt_50 hTH310 gq306 k hk)
                                      clear b1q306
                                      have nr_a_q317 : a ≠ H310.size := Nat.ne_of_lt hR.lt
                                      have nr_q102_q317 : q102 ≠ H310.size := Nat.ne_of_lt hR103.lt
                                      have nr_q106_q317 : q106 ≠ H310.size := Nat.ne_of_lt hR107.lt
                                      have nr_q110_q317 : q110 ≠ H310.size := Nat.ne_of_lt hR111.lt
                                      replace b2q144 := BK2.kept b2q144 (oH316 _ (hTH310.lt gq144))
                                      replace b2q155 := BK2.kept b2q155 (oH316 _ (hTH310.lt gq155))
                                      replace b2q166 := BK2.kept b2q166 (oH316 _ (hTH310.lt gq166))
                                      replace b2q177 := BK2.kept b2q177 (oH316 _ (hTH310.lt gq177))
                                      replace b2q188 := BK2.kept b2q188 (oH316 _ (hTH310.lt gq188))
                                      replace b2q199 := BK2.kept b2q199 (oH316 _ (hTH310.lt gq199))
                                      replace b2q210 := BK2.kept b2q210 (oH316 _ (hTH310.lt gq210))
                                      replace b2q221 := BK2.kept b2q221 (oH316 _ (hTH310.lt gq221))
                                      replace b2q232 := BK2.kept b2q232 (oH316 _ (hTH310.lt gq232))
                                      replace b2q243 := BK2.kept b2q243 (oH316 _ (hTH310.lt gq243))
                                      replace b2q258 := BK2.kept b2q258 (oH316 _ (hTH310.lt gq258))
                                      replace b2q269 := BK2.kept b2q269 (oH316 _ (hTH310.lt gq269))
                                      replace b2q284 := BK2.kept b2q284 (oH316 _ (hTH310.lt gq284))
                                      replace b2q295 := BK2.kept b2q295 (oH316 _ (hTH310.lt gq295))
                                      replace b2q306 := BK2.kept b2q306 (oH316 _ (hTH310.lt gq306))
                                      replace hR := hR.kept (oH316 _ hR.lt)
                                      replace hR103 := hR103.kept (oH316 _ hR103.lt)
                                      replace hR107 := hR107.kept (oH316 _ hR107.lt)
                                      replace hR111 := hR111.kept (oH316 _ hR111.lt)
                                      obtain ⟨q317, eq317⟩ : ∃ q, q = H310.size := ⟨_, rfl⟩
                                      have leq317 : s.heap.size ≤ q317 := by rw [eq317]; exact hSH310.1
                                      rw [← eq317] at hNq317 hR318 lt_q306_q317 b2q306 nr_a_q317 nr_q102_q317 nr_q106_q317 nr_q110_q317
                                      rw [← eq317]
                                      clear eq317
                                      clear oH316 zH316 hTH310
                                      refine lv_dup hx hb dX8_init_156 rfl ?_
                                      have lt_a_H319 := hR.lt
                                      have lt_q102_H319 := hR103.lt
                                      have lt_q106_H319 := hR107.lt
                                      have lt_q110_H319 := hR111.lt
                                      refine x_IN (As := []) (rest := [.ref q317, .int 3, .ref q110]) C (k_X7_init_kept_T_x l K G309 H316 (a := q317) hTH316 hNq317 hR318) yo_X7_init rfl wN_X8_53 ⟨⟨by decide, by decide⟩, by decide, by decide⟩ rfl hl313.1 rfl (Nat.le_of_ble_eq_true rfl) dX8_init_157 hSH316 (fun x h => Or.inr (h.elim (fun e => by rw [e]; exact leq317) (fun h => Nat.le_trans hSH316.1 h))) (fun vH319 H319 locsH319 pH319 zH319 kH319 hSH319 => ?_)
                                      obtain ⟨hvH319, G320, hgH319, ggH319, hTH319, b1q317⟩ := pH319
                                      subst hvH319
                                      replace b2q144 := BK2.kept b2q144 (kH319 _ (hTH316.lt gq144) (fun h => h.elim (g_ne gq144 hNq317) (Nat.not_le.mpr (hTH316.lt gq144))))
                                      replace b2q155 := BK2.kept b2q155 (kH319 _ (hTH316.lt gq155) (fun h => h.elim (g_ne gq155 hNq317) (Nat.not_le.mpr (hTH316.lt gq155))))
                                      replace b2q166 := BK2.kept b2q166 (kH319 _ (hTH316.lt gq166) (fun h => h.elim (g_ne gq166 hNq317) (Nat.not_le.mpr (hTH316.lt gq166))))
                                      replace b2q177 := BK2.kept b2q177 (kH319 _ (hTH316.lt gq177) (fun h => h.elim (g_ne gq177 hNq317) (Nat.not_le.mpr (hTH316.lt gq177))))
                                      replace b2q188 := BK2.kept b2q188 (kH319 _ (hTH316.lt gq188) (fun h => h.elim (g_ne gq188 hNq317) (Nat.not_le.mpr (hTH316.lt gq188))))
                                      replace b2q199 := BK2.kept b2q199 (kH319 _ (hTH316.lt gq199) (fun h => h.elim (g_ne gq199 hNq317) (Nat.not_le.mpr (hTH316.lt gq199))))
                                      replace b2q210 := BK2.kept b2q210 (kH319 _ (hTH316.lt gq210) (fun h => h.elim (g_ne gq210 hNq317) (Nat.not_le.mpr (hTH316.lt gq210))))
                                      replace b2q221 := BK2.kept b2q221 (kH319 _ (hTH316.lt gq221) (fun h => h.elim (g_ne gq221 hNq317) (Nat.not_le.mpr (hTH316.lt gq221))))
                                      replace b2q232 := BK2.kept b2q232 (kH319 _ (hTH316.lt gq232) (fun h => h.elim (g_ne gq232 hNq317) (Nat.not_le.mpr (hTH316.lt gq232))))
                                      replace b2q243 := BK2.kept b2q243 (kH319 _ (hTH316.lt gq243) (fun h => h.elim (g_ne gq243 hNq317) (Nat.not_le.mpr (hTH316.lt gq243))))
                                      replace b2q258 := BK2.kept b2q258 (kH319 _ (hTH316.lt gq258) (fun h => h.elim (g_ne gq258 hNq317) (Nat.not_le.mpr (hTH316.lt gq258))))
                                      replace b2q269 := BK2.kept b2q269 (kH319 _ (hTH316.lt gq269) (fun h => h.elim (g_ne gq269 hNq317) (Nat.not_le.mpr (hTH316.lt gq269))))
                                      replace b2q284 := BK2.kept b2q284 (kH319 _ (hTH316.lt gq284) (fun h => h.elim (g_ne gq284 hNq317) (Nat.not_le.mpr (hTH316.lt gq284))))
                                      replace b2q295 := BK2.kept b2q295 (kH319 _ (hTH316.lt gq295) (fun h => h.elim (g_ne gq295 hNq317) (Nat.not_le.mpr (hTH316.lt gq295))))
                                      replace b2q306 := BK2.kept b2q306 (kH319 _ (hTH316.lt gq306) (fun h => h.elim (g_ne gq306 hNq317) (Nat.not_le.mpr (hTH316.lt gq306))))
                                      replace hR := hR.kept (kH319 _ lt_a_H319 (fun h => h.elim nr_a_q317 (Nat.not_le.mpr lt_a_H319)))
                                      replace hR103 := hR103.kept (kH319 _ lt_q102_H319 (fun h => h.elim nr_q102_q317 (Nat.not_le.mpr lt_q102_H319)))
                                      replace hR107 := hR107.kept (kH319 _ lt_q106_H319 (fun h => h.elim nr_q106_q317 (Nat.not_le.mpr lt_q106_H319)))
                                      replace hR111 := hR111.kept (kH319 _ lt_q110_H319 (fun h => h.elim nr_q110_q317 (Nat.not_le.mpr lt_q110_H319)))
                                      replace gq116 : G320 q116 = some 62 := (hgH319 _ (hTH316.lt gq116) (g_ne gq116 hNq317)).trans gq116
                                      replace gq120 : G320 q120 = some 63 := (hgH319 _ (hTH316.lt gq120) (g_ne gq120 hNq317)).trans gq120
                                      replace gq124 : G320 q124 = some 64 := (hgH319 _ (hTH316.lt gq124) (g_ne gq124 hNq317)).trans gq124
                                      replace gq128 : G320 q128 = some 65 := (hgH319 _ (hTH316.lt gq128) (g_ne gq128 hNq317)).trans gq128
                                      replace gq132 : G320 q132 = some 66 := (hgH319 _ (hTH316.lt gq132) (g_ne gq132 hNq317)).trans gq132
                                      replace gq136 : G320 q136 = some 67 := (hgH319 _ (hTH316.lt gq136) (g_ne gq136 hNq317)).trans gq136
                                      replace gq144 : G320 q144 = some 35 := (hgH319 _ (hTH316.lt gq144) (g_ne gq144 hNq317)).trans gq144
                                      replace gq155 : G320 q155 = some 35 := (hgH319 _ (hTH316.lt gq155) (g_ne gq155 hNq317)).trans gq155
                                      replace gq166 : G320 q166 = some 35 := (hgH319 _ (hTH316.lt gq166) (g_ne gq166 hNq317)).trans gq166
                                      replace gq177 : G320 q177 = some 35 := (hgH319 _ (hTH316.lt gq177) (g_ne gq177 hNq317)).trans gq177
                                      replace gq188 : G320 q188 = some 35 := (hgH319 _ (hTH316.lt gq188) (g_ne gq188 hNq317)).trans gq188
                                      replace gq199 : G320 q199 = some 35 := (hgH319 _ (hTH316.lt gq199) (g_ne gq199 hNq317)).trans gq199
                                      replace gq210 : G320 q210 = some 35 := (hgH319 _ (hTH316.lt gq210) (g_ne gq210 hNq317)).trans gq210
                                      replace gq221 : G320 q221 = some 35 := (hgH319 _ (hTH316.lt gq221) (g_ne gq221 hNq317)).trans gq221
                                      replace gq232 : G320 q232 = some 35 := (hgH319 _ (hTH316.lt gq232) (g_ne gq232 hNq317)).trans gq232
                                      replace gq243 : G320 q243 = some 35 := (hgH319 _ (hTH316.lt gq243) (g_ne gq243 hNq317)).trans gq243
                                      replace gq258 : G320 q258 = some 50 := (hgH319 _ (hTH316.lt gq258) (g_ne gq258 hNq317)).trans gq258
                                      replace gq269 : G320 q269 = some 50 := (hgH319 _ (hTH316.lt gq269) (g_ne gq269 hNq317)).trans gq269
                                      replace gq284 : G320 q284 = some 50 := (hgH319 _ (hTH316.lt gq284) (g_ne gq284 hNq317)).trans gq284
                                      replace gq295 : G320 q295 = some 50 := (hgH319 _ (hTH316.lt gq295) (g_ne gq295 hNq317)).trans gq295
                                      replace gq306 : G320 q306 = some 50 := (hgH319 _ (hTH316.lt gq306) (g_ne gq306 hNq317)).trans gq306
                                      replace hn : G320 a = none := (hgH319 _ lt_a_H319 nr_a_q317).trans hn
                                      replace hNq102 : G320 q102 = none := (hgH319 _ lt_q102_H319 nr_q102_q317).trans hNq102
                                      replace hNq106 : G320 q106 = none := (hgH319 _ lt_q106_H319 nr_q106_q317).trans hNq106
                                      replace hNq110 : G320 q110 = none := (hgH319 _ lt_q110_H319 nr_q110_q317).trans hNq110
                                      replace hGo : ∀ q, q < s.heap.size → q ≠ a → G320 q = G q := fun q hq hqa => (hgH319 q (Nat.lt_of_lt_of_le hq hSH316.1) (Nat.ne_of_lt (Nat.lt_of_lt_of_le hq leq317))).trans (hGo q hq hqa)
                                      have gq317 : G320 q317 = some 50 := ggH319
                                      clear hR318 hNq317 ggH319 hgH319 kH319 zH319 hTH316 lt_a_H319 lt_q102_H319 lt_q106_H319 lt_q110_H319
                                      refine W.eq (g2 := F0 m 160 ls312 [.ref q317, .int 3, .ref q110]) rfl ?_
                                      refine x_astR (ti := 2) (ci := 7) C hTH319 hSH319 hR111 hNq110 gq317 rg_50 rfl rfl (by decide) (by decide) (Or.inr leq110) dX8_init_160 (fun H321 locsH321 hR1112 hTH321 hSH321 oH321 zH321 => ?_)
                                      clear hR111
                                      have hR111 : RAR K H321 q110 2 4 (va_up (va_up (va_up (va_up (fun _ => none) 0 (some q284)) 1 (some q295)) 2 (some q306)) 3 (some q317)) := hR1112
                                      clear hR1112
                                      replace b2q144 := BK2.kept b2q144 (oH321 _ (g_ne gq144 hNq110))
                                      replace b2q155 := BK2.kept b2q155 (oH321 _ (g_ne gq155 hNq110))
                                      replace b2q166 := BK2.kept b2q166 (oH321 _ (g_ne gq166 hNq110))
                                      replace b2q177 := BK2.kept b2q177 (oH321 _ (g_ne gq177 hNq110))
                                      replace b2q188 := BK2.kept b2q188 (oH321 _ (g_ne gq188 hNq110))
                                      replace b2q199 := BK2.kept b2q199 (oH321 _ (g_ne gq199 hNq110))
                                      replace b2q210 := BK2.kept b2q210 (oH321 _ (g_ne gq210 hNq110))
                                      replace b2q221 := BK2.kept b2q221 (oH321 _ (g_ne gq221 hNq110))
                                      replace b2q232 := BK2.kept b2q232 (oH321 _ (g_ne gq232 hNq110))
                                      replace b2q243 := BK2.kept b2q243 (oH321 _ (g_ne gq243 hNq110))
                                      replace b2q258 := BK2.kept b2q258 (oH321 _ (g_ne gq258 hNq110))
                                      replace b2q269 := BK2.kept b2q269 (oH321 _ (g_ne gq269 hNq110))
                                      replace b2q284 := BK2.kept b2q284 (oH321 _ (g_ne gq284 hNq110))
                                      replace b2q295 := BK2.kept b2q295 (oH321 _ (g_ne gq295 hNq110))
                                      replace b2q306 := BK2.kept b2q306 (oH321 _ (g_ne gq306 hNq110))
                                      replace b1q317 := BK1.kept b1q317 (oH321 _ (g_ne gq317 hNq110))
                                      replace hR := hR.kept (oH321 _ nr_a_q110)
                                      replace hR103 := hR103.kept (oH321 _ nr_q102_q110)
                                      replace hR107 := hR107.kept (oH321 _ nr_q106_q110)
                                      clear oH321 zH321 hTH319
                                      refine lv_iinc (v := 4) (lv' := [(1, .int 4), (0, .ref a)]) hx hb dX8_init_161 hl313 (k := 0) rfl (by decide) (by decide) rfl (fun ls323 hl324 => ?_)
                                      refine lv_goto (tgt := 143) hx hb dX8_init_164 (by decide) ?_
                                      refine lv_iload_n hx hb dX8_init_143 rfl (lv_at hl324 0 rfl) ?_
                                      refine lv_iconst (v := 4) hx hb dX8_init_144 (by decide) ?_
                                      refine lv_icmp_ge (tgt := 167) hx hb dX8_init_145 (by decide) (fun c325 => ?_) (fun c325 => ?_)
                                      · have k326 := i_le c325
                                        have hTG327 := x_bornA (t := 59) hTH321 hNq102 hR103 rg_59 (fun j hj => match j, hj with | 0, _ => ⟨q144, rfl, gq144⟩ | 1, _ => ⟨q155, rfl, gq155⟩ | 2, _ => ⟨q166, rfl, gq166⟩ | 3, _ => ⟨q177, rfl, gq177⟩ | 4, _ => ⟨q188, rfl, gq188⟩ | 5, _ => ⟨q199, rfl, gq199⟩ | 6, _ => ⟨q210, rfl, gq210⟩ | 7, _ => ⟨q221, rfl, gq221⟩ | 8, _ => ⟨q232, rfl, gq232⟩ | 9, _ => ⟨q243, rfl, gq243⟩ | j + 10, h => absurd h (Nat.not_lt.mpr (Nat.le_add_left _ _)))
                                        obtain ⟨G327, eGG327⟩ : ∃ g, g = gU G320 q102 59 := ⟨_, rfl⟩
                                        rw [← eGG327] at hTG327
                                        have gq102 : G327 q102 = some 59 := by rw [eGG327]; exact gU_at
                                        replace gq116 : G327 q116 = some 62 := by rw [eGG327]; exact gU_mono hNq102 _ _ gq116
                                        replace gq120 : G327 q120 = some 63 := by rw [eGG327]; exact gU_mono hNq102 _ _ gq120
                                        replace gq124 : G327 q124 = some 64 := by rw [eGG327]; exact gU_mono hNq102 _ _ gq124
                                        replace gq128 : G327 q128 = some 65 := by rw [eGG327]; exact gU_mono hNq102 _ _ gq128
                                        replace gq132 : G327 q132 = some 66 := by rw [eGG327]; exact gU_mono hNq102 _ _ gq132
                                        replace gq136 : G327 q136 = some 67 := by rw [eGG327]; exact gU_mono hNq102 _ _ gq136
                                        replace gq258 : G327 q258 = some 50 := by rw [eGG327]; exact gU_mono hNq102 _ _ gq258
                                        replace gq269 : G327 q269 = some 50 := by rw [eGG327]; exact gU_mono hNq102 _ _ gq269
                                        replace gq284 : G327 q284 = some 50 := by rw [eGG327]; exact gU_mono hNq102 _ _ gq284
                                        replace gq295 : G327 q295 = some 50 := by rw [eGG327]; exact gU_mono hNq102 _ _ gq295
                                        replace gq306 : G327 q306 = some 50 := by rw [eGG327]; exact gU_mono hNq102 _ _ gq306
                                        replace gq317 : G327 q317 = some 50 := by rw [eGG327]; exact gU_mono hNq102 _ _ gq317
                                        replace gq144 : G327 q144 = some 35 := by rw [eGG327]; exact gU_mono hNq102 _ _ gq144
                                        replace gq155 : G327 q155 = some 35 := by rw [eGG327]; exact gU_mono hNq102 _ _ gq155
                                        replace gq166 : G327 q166 = some 35 := by rw [eGG327]; exact gU_mono hNq102 _ _ gq166
                                        replace gq177 : G327 q177 = some 35 := by rw [eGG327]; exact gU_mono hNq102 _ _ gq177
                                        replace gq188 : G327 q188 = some 35 := by rw [eGG327]; exact gU_mono hNq102 _ _ gq188
                                        replace gq199 : G327 q199 = some 35 := by rw [eGG327]; exact gU_mono hNq102 _ _ gq199
                                        replace gq210 : G327 q210 = some 35 := by rw [eGG327]; exact gU_mono hNq102 _ _ gq210
                                        replace gq221 : G327 q221 = some 35 := by rw [eGG327]; exact gU_mono hNq102 _ _ gq221
                                        replace gq232 : G327 q232 = some 35 := by rw [eGG327]; exact gU_mono hNq102 _ _ gq232
                                        replace gq243 : G327 q243 = some 35 := by rw [eGG327]; exact gU_mono hNq102 _ _ gq243
                                        replace hn : G327 a = none := by rw [eGG327, gU_ne nr_a_q102]; exact hn
                                        replace hNq106 : G327 q106 = none := by rw [eGG327, gU_ne (Ne.symm nr_q102_q106)]; exact hNq106
                                        replace hNq110 : G327 q110 = none := by rw [eGG327, gU_ne (Ne.symm nr_q102_q110)]; exact hNq110
                                        replace hGo : ∀ q, q < s.heap.size → q ≠ a → G327 q = G q := fun q hq hqa => (show G327 q = G320 q by rw [eGG327, gU_ne (Nat.ne_of_lt (Nat.lt_of_lt_of_le hq leq102))]).trans (hGo q hq hqa)
                                        have hTG328 := x_bornA (t := 60) hTG327 hNq106 hR107 rg_60 (fun j hj => match j, hj with | 0, _ => ⟨q258, rfl, gq258⟩ | 1, _ => ⟨q269, rfl, gq269⟩ | j + 2, h => absurd h (Nat.not_lt.mpr (Nat.le_add_left _ _)))
                                        obtain ⟨G328, eGG328⟩ : ∃ g, g = gU G327 q106 60 := ⟨_, rfl⟩
                                        rw [← eGG328] at hTG328
                                        have gq106 : G328 q106 = some 60 := by rw [eGG328]; exact gU_at
                                        replace gq102 : G328 q102 = some 59 := by rw [eGG328]; exact gU_mono hNq106 _ _ gq102
                                        replace gq116 : G328 q116 = some 62 := by rw [eGG328]; exact gU_mono hNq106 _ _ gq116
                                        replace gq120 : G328 q120 = some 63 := by rw [eGG328]; exact gU_mono hNq106 _ _ gq120
                                        replace gq124 : G328 q124 = some 64 := by rw [eGG328]; exact gU_mono hNq106 _ _ gq124
                                        replace gq128 : G328 q128 = some 65 := by rw [eGG328]; exact gU_mono hNq106 _ _ gq128
                                        replace gq132 : G328 q132 = some 66 := by rw [eGG328]; exact gU_mono hNq106 _ _ gq132
                                        replace gq136 : G328 q136 = some 67 := by rw [eGG328]; exact gU_mono hNq106 _ _ gq136
                                        replace gq284 : G328 q284 = some 50 := by rw [eGG328]; exact gU_mono hNq106 _ _ gq284
                                        replace gq295 : G328 q295 = some 50 := by rw [eGG328]; exact gU_mono hNq106 _ _ gq295
                                        replace gq306 : G328 q306 = some 50 := by rw [eGG328]; exact gU_mono hNq106 _ _ gq306
                                        replace gq317 : G328 q317 = some 50 := by rw [eGG328]; exact gU_mono hNq106 _ _ gq317
                                        replace gq144 : G328 q144 = some 35 := by rw [eGG328]; exact gU_mono hNq106 _ _ gq144
                                        replace gq155 : G328 q155 = some 35 := by rw [eGG328]; exact gU_mono hNq106 _ _ gq155
                                        replace gq166 : G328 q166 = some 35 := by rw [eGG328]; exact gU_mono hNq106 _ _ gq166
                                        replace gq177 : G328 q177 = some 35 := by rw [eGG328]; exact gU_mono hNq106 _ _ gq177
                                        replace gq188 : G328 q188 = some 35 := by rw [eGG328]; exact gU_mono hNq106 _ _ gq188
                                        replace gq199 : G328 q199 = some 35 := by rw [eGG328]; exact gU_mono hNq106 _ _ gq199
                                        replace gq210 : G328 q210 = some 35 := by rw [eGG328]; exact gU_mono hNq106 _ _ gq210
                                        replace gq221 : G328 q221 = some 35 := by rw [eGG328]; exact gU_mono hNq106 _ _ gq221
                                        replace gq232 : G328 q232 = some 35 := by rw [eGG328]; exact gU_mono hNq106 _ _ gq232
                                        replace gq243 : G328 q243 = some 35 := by rw [eGG328]; exact gU_mono hNq106 _ _ gq243
                                        replace gq258 : G328 q258 = some 50 := by rw [eGG328]; exact gU_mono hNq106 _ _ gq258
                                        replace gq269 : G328 q269 = some 50 := by rw [eGG328]; exact gU_mono hNq106 _ _ gq269
                                        replace hn : G328 a = none := by rw [eGG328, gU_ne nr_a_q106]; exact hn
                                        replace hNq110 : G328 q110 = none := by rw [eGG328, gU_ne (Ne.symm nr_q106_q110)]; exact hNq110
                                        replace hGo : ∀ q, q < s.heap.size → q ≠ a → G328 q = G q := fun q hq hqa => (show G328 q = G327 q by rw [eGG328, gU_ne (Nat.ne_of_lt (Nat.lt_of_lt_of_le hq leq106))]).trans (hGo q hq hqa)
                                        have hTG329 := x_bornA (t := 61) hTG328 hNq110 hR111 rg_61 (fun j hj => match j, hj with | 0, _ => ⟨q284, rfl, gq284⟩ | 1, _ => ⟨q295, rfl, gq295⟩ | 2, _ => ⟨q306, rfl, gq306⟩ | 3, _ => ⟨q317, rfl, gq317⟩ | j + 4, h => absurd h (Nat.not_lt.mpr (Nat.le_add_left _ _)))
                                        obtain ⟨G329, eGG329⟩ : ∃ g, g = gU G328 q110 61 := ⟨_, rfl⟩
                                        rw [← eGG329] at hTG329
                                        have gq110 : G329 q110 = some 61 := by rw [eGG329]; exact gU_at
                                        replace gq102 : G329 q102 = some 59 := by rw [eGG329]; exact gU_mono hNq110 _ _ gq102
                                        replace gq106 : G329 q106 = some 60 := by rw [eGG329]; exact gU_mono hNq110 _ _ gq106
                                        replace gq116 : G329 q116 = some 62 := by rw [eGG329]; exact gU_mono hNq110 _ _ gq116
                                        replace gq120 : G329 q120 = some 63 := by rw [eGG329]; exact gU_mono hNq110 _ _ gq120
                                        replace gq124 : G329 q124 = some 64 := by rw [eGG329]; exact gU_mono hNq110 _ _ gq124
                                        replace gq128 : G329 q128 = some 65 := by rw [eGG329]; exact gU_mono hNq110 _ _ gq128
                                        replace gq132 : G329 q132 = some 66 := by rw [eGG329]; exact gU_mono hNq110 _ _ gq132
                                        replace gq136 : G329 q136 = some 67 := by rw [eGG329]; exact gU_mono hNq110 _ _ gq136
                                        replace gq144 : G329 q144 = some 35 := by rw [eGG329]; exact gU_mono hNq110 _ _ gq144
                                        replace gq155 : G329 q155 = some 35 := by rw [eGG329]; exact gU_mono hNq110 _ _ gq155
                                        replace gq166 : G329 q166 = some 35 := by rw [eGG329]; exact gU_mono hNq110 _ _ gq166
                                        replace gq177 : G329 q177 = some 35 := by rw [eGG329]; exact gU_mono hNq110 _ _ gq177
                                        replace gq188 : G329 q188 = some 35 := by rw [eGG329]; exact gU_mono hNq110 _ _ gq188
                                        replace gq199 : G329 q199 = some 35 := by rw [eGG329]; exact gU_mono hNq110 _ _ gq199
                                        replace gq210 : G329 q210 = some 35 := by rw [eGG329]; exact gU_mono hNq110 _ _ gq210
                                        replace gq221 : G329 q221 = some 35 := by rw [eGG329]; exact gU_mono hNq110 _ _ gq221
                                        replace gq232 : G329 q232 = some 35 := by rw [eGG329]; exact gU_mono hNq110 _ _ gq232
                                        replace gq243 : G329 q243 = some 35 := by rw [eGG329]; exact gU_mono hNq110 _ _ gq243
                                        replace gq258 : G329 q258 = some 50 := by rw [eGG329]; exact gU_mono hNq110 _ _ gq258
                                        replace gq269 : G329 q269 = some 50 := by rw [eGG329]; exact gU_mono hNq110 _ _ gq269
                                        replace gq284 : G329 q284 = some 50 := by rw [eGG329]; exact gU_mono hNq110 _ _ gq284
                                        replace gq295 : G329 q295 = some 50 := by rw [eGG329]; exact gU_mono hNq110 _ _ gq295
                                        replace gq306 : G329 q306 = some 50 := by rw [eGG329]; exact gU_mono hNq110 _ _ gq306
                                        replace gq317 : G329 q317 = some 50 := by rw [eGG329]; exact gU_mono hNq110 _ _ gq317
                                        replace hn : G329 a = none := by rw [eGG329, gU_ne nr_a_q110]; exact hn
                                        replace hGo : ∀ q, q < s.heap.size → q ≠ a → G329 q = G q := fun q hq hqa => (show G329 q = G328 q by rw [eGG329, gU_ne (Nat.ne_of_lt (Nat.lt_of_lt_of_le hq leq110))]).trans (hGo q hq hqa)
                                        have hTZ := x_born (t := 34) hTG329 hn hR rfl rg_34 rfl (fun k f h => match k, f, h with | 0, _, h => by cases h; exact ⟨_, rfl, q102, rfl, gU_mono hn _ _ gq102⟩ | 1, _, h => by cases h; exact ⟨_, rfl, 0, rfl, by decide, by decide⟩ | 2, _, h => by cases h; exact ⟨_, rfl, q106, rfl, gU_mono hn _ _ gq106⟩ | 3, _, h => by cases h; exact ⟨_, rfl, q110, rfl, gU_mono hn _ _ gq110⟩ | 4, _, h => by cases h; exact ⟨_, rfl, 0, rfl, by decide, by decide⟩ | 5, _, h => by cases h; exact ⟨_, rfl, 10, rfl, by decide, by decide⟩ | 6, _, h => by cases h; exact ⟨_, rfl, 0, rfl, by decide, by decide⟩ | 7, _, h => by cases h; exact ⟨_, rfl, (-1), rfl, by decide, by decide⟩ | 8, _, h => by cases h; exact ⟨_, rfl, q116, rfl, gU_mono hn _ _ gq116⟩ | 9, _, h => by cases h; exact ⟨_, rfl, q120, rfl, gU_mono hn _ _ gq120⟩ | 10, _, h => by cases h; exact ⟨_, rfl, 0, rfl, by decide, by decide⟩ | 11, _, h => by cases h; exact ⟨_, rfl, q124, rfl, gU_mono hn _ _ gq124⟩ | 12, _, h => by cases h; exact ⟨_, rfl, q128, rfl, gU_mono hn _ _ gq128⟩ | 13, _, h => by cases h; exact ⟨_, rfl, 0, rfl, by decide, by decide⟩ | 14, _, h => by cases h; exact ⟨_, rfl, q132, rfl, gU_mono hn _ _ gq132⟩ | 15, _, h => by cases h; exact ⟨_, rfl, q136, rfl, gU_mono hn _ _ gq136⟩ | 16, _, h => by cases h; exact ⟨_, rfl, 0, rfl, by decide, by decide⟩ | k + 17, _, h => by simp at h)
                                        have eo0 : ow K H321 a 0 = q144 := by rw [show ow K H321 a 0 = fR H321 (fR H321 a (K.1.2 8 0)) 0 from rfl, ← kn_r (hR.fv (k := 0) rfl (by decide) rfl)]; exact RAR.fr hR103 (j := 0) (by decide) rfl
                                        have eo1 : ow K H321 a 1 = q155 := by rw [show ow K H321 a 1 = fR H321 (fR H321 a (K.1.2 8 0)) 1 from rfl, ← kn_r (hR.fv (k := 0) rfl (by decide) rfl)]; exact RAR.fr hR103 (j := 1) (by decide) rfl
                                        have eo2 : ow K H321 a 2 = q166 := by rw [show ow K H321 a 2 = fR H321 (fR H321 a (K.1.2 8 0)) 2 from rfl, ← kn_r (hR.fv (k := 0) rfl (by decide) rfl)]; exact RAR.fr hR103 (j := 2) (by decide) rfl
                                        have eo3 : ow K H321 a 3 = q177 := by rw [show ow K H321 a 3 = fR H321 (fR H321 a (K.1.2 8 0)) 3 from rfl, ← kn_r (hR.fv (k := 0) rfl (by decide) rfl)]; exact RAR.fr hR103 (j := 3) (by decide) rfl
                                        have eo4 : ow K H321 a 4 = q188 := by rw [show ow K H321 a 4 = fR H321 (fR H321 a (K.1.2 8 0)) 4 from rfl, ← kn_r (hR.fv (k := 0) rfl (by decide) rfl)]; exact RAR.fr hR103 (j := 4) (by decide) rfl
                                        have eo5 : ow K H321 a 5 = q199 := by rw [show ow K H321 a 5 = fR H321 (fR H321 a (K.1.2 8 0)) 5 from rfl, ← kn_r (hR.fv (k := 0) rfl (by decide) rfl)]; exact RAR.fr hR103 (j := 5) (by decide) rfl
                                        have eo6 : ow K H321 a 6 = q210 := by rw [show ow K H321 a 6 = fR H321 (fR H321 a (K.1.2 8 0)) 6 from rfl, ← kn_r (hR.fv (k := 0) rfl (by decide) rfl)]; exact RAR.fr hR103 (j := 6) (by decide) rfl
                                        have eo7 : ow K H321 a 7 = q221 := by rw [show ow K H321 a 7 = fR H321 (fR H321 a (K.1.2 8 0)) 7 from rfl, ← kn_r (hR.fv (k := 0) rfl (by decide) rfl)]; exact RAR.fr hR103 (j := 7) (by decide) rfl
                                        have eo8 : ow K H321 a 8 = q232 := by rw [show ow K H321 a 8 = fR H321 (fR H321 a (K.1.2 8 0)) 8 from rfl, ← kn_r (hR.fv (k := 0) rfl (by decide) rfl)]; exact RAR.fr hR103 (j := 8) (by decide) rfl
                                        have eo9 : ow K H321 a 9 = q243 := by rw [show ow K H321 a 9 = fR H321 (fR H321 a (K.1.2 8 0)) 9 from rfl, ← kn_r (hR.fv (k := 0) rfl (by decide) rfl)]; exact RAR.fr hR103 (j := 9) (by decide) rfl
                                        have eo10 : ow K H321 a 10 = q258 := by rw [show ow K H321 a 10 = fR H321 (fR H321 a (K.1.2 8 2)) 0 from rfl, ← kn_r (hR.fv (k := 2) rfl (by decide) rfl)]; exact RAR.fr hR107 (j := 0) (by decide) rfl
                                        have eo11 : ow K H321 a 11 = q269 := by rw [show ow K H321 a 11 = fR H321 (fR H321 a (K.1.2 8 2)) 1 from rfl, ← kn_r (hR.fv (k := 2) rfl (by decide) rfl)]; exact RAR.fr hR107 (j := 1) (by decide) rfl
                                        have eo12 : ow K H321 a 12 = q284 := by rw [show ow K H321 a 12 = fR H321 (fR H321 a (K.1.2 8 3)) 0 from rfl, ← kn_r (hR.fv (k := 3) rfl (by decide) rfl)]; exact RAR.fr hR111 (j := 0) (by decide) rfl
                                        have eo13 : ow K H321 a 13 = q295 := by rw [show ow K H321 a 13 = fR H321 (fR H321 a (K.1.2 8 3)) 1 from rfl, ← kn_r (hR.fv (k := 3) rfl (by decide) rfl)]; exact RAR.fr hR111 (j := 1) (by decide) rfl
                                        have eo14 : ow K H321 a 14 = q306 := by rw [show ow K H321 a 14 = fR H321 (fR H321 a (K.1.2 8 3)) 2 from rfl, ← kn_r (hR.fv (k := 3) rfl (by decide) rfl)]; exact RAR.fr hR111 (j := 2) (by decide) rfl
                                        have eo15 : ow K H321 a 15 = q317 := by rw [show ow K H321 a 15 = fR H321 (fR H321 a (K.1.2 8 3)) 3 from rfl, ← kn_r (hR.fv (k := 3) rfl (by decide) rfl)]; exact RAR.fr hR111 (j := 3) (by decide) rfl
                                        exact x_vret C hQ dX8_init_167 hSH321 (by decide) (by decide) (⟨rfl, gU G329 a 34, fun q hq hqa => by rw [gU_ne hqa]; exact hGo q hq hqa, gU_at, hTZ, kn_i (v := .int 0) (hR.fv rfl (by decide) rfl), kn_i (v := .int 0) (hR.fv rfl (by decide) rfl), kn_i (v := .int 0) (hR.fv rfl (by decide) rfl), kn_i (v := .int 0) (hR.fv rfl (by decide) rfl), kn_i (v := .int 0) (hR.fv rfl (by decide) rfl), kn_i (v := .int 0) (hR.fv rfl (by decide) rfl), kn_i (v := .int 0) (hR.fv rfl (by decide) rfl), kn_i (v := .int 0) (hR.fv rfl (by decide) rfl), ⟨(fun i hi => match i, hi with | 0, _ => by show ow K _ a 0 < ow K _ a 1; rw [eo0, eo1]; exact lt_q144_q155 | 1, _ => by show ow K _ a 1 < ow K _ a 2; rw [eo1, eo2]; exact lt_q155_q166 | 2, _ => by show ow K _ a 2 < ow K _ a 3; rw [eo2, eo3]; exact lt_q166_q177 | 3, _ => by show ow K _ a 3 < ow K _ a 4; rw [eo3, eo4]; exact lt_q177_q188 | 4, _ => by show ow K _ a 4 < ow K _ a 5; rw [eo4, eo5]; exact lt_q188_q199 | 5, _ => by show ow K _ a 5 < ow K _ a 6; rw [eo5, eo6]; exact lt_q199_q210 | 6, _ => by show ow K _ a 6 < ow K _ a 7; rw [eo6, eo7]; exact lt_q210_q221 | 7, _ => by show ow K _ a 7 < ow K _ a 8; rw [eo7, eo8]; exact lt_q221_q232 | 8, _ => by show ow K _ a 8 < ow K _ a 9; rw [eo8, eo9]; exact lt_q232_q243 | 9, _ => by show ow K _ a 9 < ow K _ a 10; rw [eo9, eo10]; exact lt_q243_q258 | 10, _ => by show ow K _ a 10 < ow K _ a 11; rw [eo10, eo11]; exact lt_q258_q269 | 11, _ => by show ow K _ a 11 < ow K _ a 12; rw [eo11, eo12]; exact lt_q269_q284 | 12, _ => by show ow K _ a 12 < ow K _ a 13; rw [eo12, eo13]; exact lt_q284_q295 | 13, _ => by show ow K _ a 13 < ow K _ a 14; rw [eo13, eo14]; exact lt_q295_q306 | 14, _ => by show ow K _ a 14 < ow K _ a 15; rw [eo14, eo15]; exact lt_q306_q317 | i + 15, h => absurd h (Nat.not_lt.mpr (Nat.le_add_left _ _))), (fun i hi => match i, hi with | 0, _ => by show BK2 K _ 0 RKB (ow K _ a 0) (ow K _ a 1); rw [eo0, eo1]; exact b2q144 | 1, _ => by show BK2 K _ 0 RKB (ow K _ a 1) (ow K _ a 2); rw [eo1, eo2]; exact b2q155 | 2, _ => by show BK2 K _ 0 RKB (ow K _ a 2) (ow K _ a 3); rw [eo2, eo3]; exact b2q166 | 3, _ => by show BK2 K _ 0 RKB (ow K _ a 3) (ow K _ a 4); rw [eo3, eo4]; exact b2q177 | 4, _ => by show BK2 K _ 0 RKB (ow K _ a 4) (ow K _ a 5); rw [eo4, eo5]; exact b2q188 | 5, _ => by show BK2 K _ 0 RKB (ow K _ a 5) (ow K _ a 6); rw [eo5, eo6]; exact b2q199 | 6, _ => by show BK2 K _ 0 RKB (ow K _ a 6) (ow K _ a 7); rw [eo6, eo7]; exact b2q210 | 7, _ => by show BK2 K _ 0 RKB (ow K _ a 7) (ow K _ a 8); rw [eo7, eo8]; exact b2q221 | 8, _ => by show BK2 K _ 0 RKB (ow K _ a 8) (ow K _ a 9); rw [eo8, eo9]; exact b2q232 | 9, _ => by show BK2 K _ 0 RKB (ow K _ a 9) (ow K _ a 10); rw [eo9, eo10]; exact b2q243 | i + 10, h => absurd h (Nat.not_lt.mpr (Nat.le_add_left _ _))), (fun i h1 hi => (or_5 h1 hi).elim (fun e => by subst e; rw [eo10, eo11]; exact b2q258) (fun h => h.elim (fun e => by subst e; rw [eo11, eo12]; exact b2q269) (fun h => h.elim (fun e => by subst e; rw [eo12, eo13]; exact b2q284) (fun h => h.elim (fun e => by subst e; rw [eo13, eo14]; exact b2q295) (fun e => by subst e; rw [eo14, eo15]; exact b2q306))))), (by rw [eo15]; exact b1q317)⟩⟩)
                                      · have k326 := i_nle c325
                                        exact absurd c325 (by decide)
                            · have k278 := i_nle c277
                              exact absurd c277 (by decide)
                      · have k252 := i_nle c251
                        exact absurd c251 (by decide)
