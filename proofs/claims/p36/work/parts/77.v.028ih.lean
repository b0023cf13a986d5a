theorem RAR.fr {K : KE} {H : Heap} {q ti n j x : Nat} {f : Nat → Option Nat} (h : RAR K H q ti n f) (hj : j < n) (e : f j = some x) : fR H q j = x := by
  obtain ⟨-, cell, h1, -, -, -, h5⟩ := h
  exact fR_at h1 (by rw [h5 j hj, e]; rfl)
set_option maxHeartbeats 4000000 in
set_option maxRecDepth 100000 in
theorem k_X0_init_now_B_x (l : Launch) (K : KE) (G : Nat → Option Nat) (H : Heap) {a : Nat} (hT : TY K G H) (hn : G a = none) (hR : RAW K H a 0 [.int 0, .null, .null, .null, .null, .null, .null, .null, .int 0, .int 0, .null, .null, .null, .null, .int 0, .int 0, .int 0, .null]) : MX l K yX0_init cX0_init 1 none 1 12 36 901 [.ref a] H (fun q => q = a ∨ H.size ≤ q) (fun v H1 => v = none ∧ ∃ G1 : Nat → Option Nat, (∀ q, q < H.size → q ≠ a → G1 q = G q) ∧ G1 a = some 1 ∧ TY K G1 H1 ∧ BK1 K H1 0 RKB a) := by
  refine MX.of (by decide +kernel) (Nat.le_of_ble_eq_true rfl) ?_
  intro p e s m below meth c ls Q C hH hl hQ
  subst hH
  have C : CX p K s m _ meth c RX0 cX0_init 1 none "<init>" := C
  obtain ⟨hx, hb, hml, hown, hts, hKT, hr, hlocks, hnm⟩ := id C
  have hl : lv_has ls 1 [(0, .ref a)] := hl
  have hS : va_S (fun q => q = a ∨ s.heap.size ≤ q) s.heap s.heap [] := va_S.rf
  have n_0 : (0 : Int32).toInt = 0 := rfl
  have n_2 : (2 : Int32).toInt = 2 := rfl
  have n_3 : (3 : Int32).toInt = 3 := rfl
  have n_12 : (12 : Int32).toInt = 12 := rfl
  have n_16 : (16 : Int32).toInt = 16 := rfl
  have n_200 : (200 : Int32).toInt = 200 := rfl
  have hGo : ∀ q, q < s.heap.size → q ≠ a → G q = G q := fun _ _ _ => rfl
  refine lv_aload_n hx hb dX0_init_0 rfl (lv_at hl 0 rfl) ?_
  refine x_objInit C wM_X0_3 wIM_OBJ wCD_OBJ hl.1 (by decide) dX0_init_1 ?_
  refine lv_aload_n hx hb dX0_init_4 rfl (lv_at hl 0 rfl) ?_
  refine lv_bipush (v := 16) hx hb dX0_init_5 (by decide) ?_
  refine x_newa C hT hS wAC_int rg_2 (by decide) rfl (by decide) ⟨by decide, by decide⟩ dX0_init_7 (fun H101 hTH101 hSH101 oH101 zH101 vH101 => ?_)
  have hNH101 : G s.heap.size = none := hT.gb _ (Nat.le_refl _)
  obtain ⟨G103, eGG103⟩ : ∃ g, g = gU G s.heap.size 2 := ⟨_, rfl⟩
  rw [← eGG103] at hTH101
  have nr_a_q102 : a ≠ s.heap.size := Nat.ne_of_lt hR.lt
  have la_q102 : a < s.heap.size := hR.lt
  replace hR := hR.kept (oH101 _ hR.lt)
  replace hn : G103 a = none := by rw [eGG103, gU_ne nr_a_q102]; exact hn
  replace hGo : ∀ q, q < s.heap.size → q ≠ a → G103 q = G q := fun q hq hqa => (show G103 q = G q by rw [eGG103, gU_ne (Nat.ne_of_lt (Nat.lt_of_lt_of_le hq hS.1))]).trans (hGo q hq hqa)
  have gq102 : G103 s.heap.size = some 2 := by rw [eGG103]; exact gU_at
  obtain ⟨q102, eq102⟩ : ∃ q, q = s.heap.size := ⟨_, rfl⟩
  have leq102 : s.heap.size ≤ q102 := by rw [eq102]; exact hS.1
  rw [← eq102] at gq102 la_q102 nr_a_q102
  rw [← eq102]
  clear eq102
  clear hNH101 eGG103 oH101 zH101 vH101 hT
  refine x_putR C hTH101 hSH101 (ci := 0) (k := 1) (v := .ref q102) (ty0 := tyX0) hR hn rfl inX0 tyX0_ok nmX0 (by decide) (Or.inr ⟨rfl, rfl, rfl⟩) wF_X0_9 (Nat.le_of_ble_eq_true rfl) rfl rfl (Or.inl rfl) dX0_init_9 (fun H104 locsH104 hR2 hTH104 hSH104 oH104 zH104 => ?_)
  clear hR
  have hR : RAW K H104 a 0 [.int 0, .ref q102, .null, .null, .null, .null, .null, .null, .int 0, .int 0, .null, .null, .null, .null, .int 0, .int 0, .int 0, .null] := hR2
  clear hR2
  clear oH104 zH104 hTH101
  refine lv_aload_n hx hb dX0_init_12 rfl (lv_at hl 0 rfl) ?_
  refine lv_bipush (v := 16) hx hb dX0_init_13 (by decide) ?_
  refine x_newa C hTH104 hSH104 wAC_int rg_3 (by decide) rfl (by decide) ⟨by decide, by decide⟩ dX0_init_15 (fun H105 hTH105 hSH105 oH105 zH105 vH105 => ?_)
  have hNH105 : G103 H104.size = none := hTH104.gb _ (Nat.le_refl _)
  obtain ⟨G107, eGG107⟩ : ∃ g, g = gU G103 H104.size 3 := ⟨_, rfl⟩
  rw [← eGG107] at hTH105
  have nr_a_q106 : a ≠ H104.size := Nat.ne_of_lt hR.lt
  have la_q106 : a < H104.size := hR.lt
  replace hR := hR.kept (oH105 _ hR.lt)
  replace gq102 : G107 q102 = some 2 := by rw [eGG107]; exact gU_mono hNH105 _ _ gq102
  replace hn : G107 a = none := by rw [eGG107, gU_ne nr_a_q106]; exact hn
  replace hGo : ∀ q, q < s.heap.size → q ≠ a → G107 q = G q := fun q hq hqa => (show G107 q = G103 q by rw [eGG107, gU_ne (Nat.ne_of_lt (Nat.lt_of_lt_of_le hq hSH104.1))]).trans (hGo q hq hqa)
  have gq106 : G107 H104.size = some 3 := by rw [eGG107]; exact gU_at
  obtain ⟨q106, eq106⟩ : ∃ q, q = H104.size := ⟨_, rfl⟩
  have leq106 : s.heap.size ≤ q106 := by rw [eq106]; exact hSH104.1
  rw [← eq106] at gq106 la_q106 nr_a_q106
  rw [← eq106]
  clear eq106
  clear hNH105 eGG107 oH105 zH105 vH105 hTH104
  refine x_putR C hTH105 hSH105 (ci := 0) (k := 2) (v := .ref q106) (ty0 := tyX0) hR hn rfl inX0 tyX0_ok nmX0 (by decide) (Or.inr ⟨rfl, rfl, rfl⟩) wF_X0_15 (Nat.le_of_ble_eq_true rfl) rfl rfl (Or.inl rfl) dX0_init_17 (fun H108 locsH108 hR2 hTH108 hSH108 oH108 zH108 => ?_)
  clear hR
  have hR : RAW K H108 a 0 [.int 0, .ref q102, .ref q106, .null, .null, .null, .null, .null, .int 0, .int 0, .null, .null, .null, .null, .int 0, .int 0, .int 0, .null] := hR2
  clear hR2
  clear oH108 zH108 hTH105
  refine lv_aload_n hx hb dX0_init_20 rfl (lv_at hl 0 rfl) ?_
  refine lv_bipush (v := 16) hx hb dX0_init_21 (by decide) ?_
  refine x_newa C hTH108 hSH108 wAC_int rg_4 (by decide) rfl (by decide) ⟨by decide, by decide⟩ dX0_init_23 (fun H109 hTH109 hSH109 oH109 zH109 vH109 => ?_)
  have hNH109 : G107 H108.size = none := hTH108.gb _ (Nat.le_refl _)
  obtain ⟨G111, eGG111⟩ : ∃ g, g = gU G107 H108.size 4 := ⟨_, rfl⟩
  rw [← eGG111] at hTH109
  have nr_a_q110 : a ≠ H108.size := Nat.ne_of_lt hR.lt
  have la_q110 : a < H108.size := hR.lt
  replace hR := hR.kept (oH109 _ hR.lt)
  replace gq102 : G111 q102 = some 2 := by rw [eGG111]; exact gU_mono hNH109 _ _ gq102
  replace gq106 : G111 q106 = some 3 := by rw [eGG111]; exact gU_mono hNH109 _ _ gq106
  replace hn : G111 a = none := by rw [eGG111, gU_ne nr_a_q110]; exact hn
  replace hGo : ∀ q, q < s.heap.size → q ≠ a → G111 q = G q := fun q hq hqa => (show G111 q = G107 q by rw [eGG111, gU_ne (Nat.ne_of_lt (Nat.lt_of_lt_of_le hq hSH108.1))]).trans (hGo q hq hqa)
  have gq110 : G111 H108.size = some 4 := by rw [eGG111]; exact gU_at
  obtain ⟨q110, eq110⟩ : ∃ q, q = H108.size := ⟨_, rfl⟩
  have leq110 : s.heap.size ≤ q110 := by rw [eq110]; exact hSH108.1
  rw [← eq110] at gq110 la_q110 nr_a_q110
  rw [← eq110]
  clear eq110
  clear hNH109 eGG111 oH109 zH109 vH109 hTH108
  refine x_putR C hTH109 hSH109 (ci := 0) (k := 3) (v := .ref q110) (ty0 := tyX0) hR hn rfl inX0 tyX0_ok nmX0 (by decide) (Or.inr ⟨rfl, rfl, rfl⟩) wF_X0_18 (Nat.le_of_ble_eq_true rfl) rfl rfl (Or.inl rfl) dX0_init_25 (fun H112 locsH112 hR2 hTH112 hSH112 oH112 zH112 => ?_)
  clear hR
  have hR : RAW K H112 a 0 [.int 0, .ref q102, .ref q106, .ref q110, .null, .null, .null, .null, .int 0, .int 0, .null, .null, .null, .null, .int 0, .int 0, .int 0, .null] := hR2
  clear hR2
  clear oH112 zH112 hTH109
  refine lv_aload_n hx hb dX0_init_28 rfl (lv_at hl 0 rfl) ?_
  refine lv_bipush (v := 16) hx hb dX0_init_29 (by decide) ?_
  refine x_newa C hTH112 hSH112 wAC_int rg_5 (by decide) rfl (by decide) ⟨by decide, by decide⟩ dX0_init_31 (fun H113 hTH113 hSH113 oH113 zH113 vH113 => ?_)
  have hNH113 : G111 H112.size = none := hTH112.gb _ (Nat.le_refl _)
  obtain ⟨G115, eGG115⟩ : ∃ g, g = gU G111 H112.size 5 := ⟨_, rfl⟩
  rw [← eGG115] at hTH113
  have nr_a_q114 : a ≠ H112.size := Nat.ne_of_lt hR.lt
  have la_q114 : a < H112.size := hR.lt
  replace hR := hR.kept (oH113 _ hR.lt)
  replace gq102 : G115 q102 = some 2 := by rw [eGG115]; exact gU_mono hNH113 _ _ gq102
  replace gq106 : G115 q106 = some 3 := by rw [eGG115]; exact gU_mono hNH113 _ _ gq106
  replace gq110 : G115 q110 = some 4 := by rw [eGG115]; exact gU_mono hNH113 _ _ gq110
  replace hn : G115 a = none := by rw [eGG115, gU_ne nr_a_q114]; exact hn
  replace hGo : ∀ q, q < s.heap.size → q ≠ a → G115 q = G q := fun q hq hqa => (show G115 q = G111 q by rw [eGG115, gU_ne (Nat.ne_of_lt (Nat.lt_of_lt_of_le hq hSH112.1))]).trans (hGo q hq hqa)
  have gq114 : G115 H112.size = some 5 := by rw [eGG115]; exact gU_at
  obtain ⟨q114, eq114⟩ : ∃ q, q = H112.size := ⟨_, rfl⟩
  have leq114 : s.heap.size ≤ q114 := by rw [eq114]; exact hSH112.1
  rw [← eq114] at gq114 la_q114 nr_a_q114
  rw [← eq114]
  clear eq114
  clear hNH113 eGG115 oH113 zH113 vH113 hTH112
  refine x_putR C hTH113 hSH113 (ci := 0) (k := 4) (v := .ref q114) (ty0 := tyX0) hR hn rfl inX0 tyX0_ok nmX0 (by decide) (Or.inr ⟨rfl, rfl, rfl⟩) wF_X0_21 (Nat.le_of_ble_eq_true rfl) rfl rfl (Or.inl rfl) dX0_init_33 (fun H116 locsH116 hR2 hTH116 hSH116 oH116 zH116 => ?_)
  clear hR
  have hR : RAW K H116 a 0 [.int 0, .ref q102, .ref q106, .ref q110, .ref q114, .null, .null, .null, .int 0, .int 0, .null, .null, .null, .null, .int 0, .int 0, .int 0, .null] := hR2
  clear hR2
  clear oH116 zH116 hTH113
  refine lv_aload_n hx hb dX0_init_36 rfl (lv_at hl 0 rfl) ?_
  refine lv_iconst (v := 3) hx hb dX0_init_37 (by decide) ?_
  refine x_newa C hTH116 hSH116 wAC_int rg_6 (by decide) rfl (by decide) ⟨by decide, by decide⟩ dX0_init_38 (fun H117 hTH117 hSH117 oH117 zH117 vH117 => ?_)
  have hNH117 : G115 H116.size = none := hTH116.gb _ (Nat.le_refl _)
  obtain ⟨G119, eGG119⟩ : ∃ g, g = gU G115 H116.size 6 := ⟨_, rfl⟩
  rw [← eGG119] at hTH117
  have nr_a_q118 : a ≠ H116.size := Nat.ne_of_lt hR.lt
  have la_q118 : a < H116.size := hR.lt
  replace hR := hR.kept (oH117 _ hR.lt)
  replace gq102 : G119 q102 = some 2 := by rw [eGG119]; exact gU_mono hNH117 _ _ gq102
  replace gq106 : G119 q106 = some 3 := by rw [eGG119]; exact gU_mono hNH117 _ _ gq106
  replace gq110 : G119 q110 = some 4 := by rw [eGG119]; exact gU_mono hNH117 _ _ gq110
  replace gq114 : G119 q114 = some 5 := by rw [eGG119]; exact gU_mono hNH117 _ _ gq114
  replace hn : G119 a = none := by rw [eGG119, gU_ne nr_a_q118]; exact hn
  replace hGo : ∀ q, q < s.heap.size → q ≠ a → G119 q = G q := fun q hq hqa => (show G119 q = G115 q by rw [eGG119, gU_ne (Nat.ne_of_lt (Nat.lt_of_lt_of_le hq hSH116.1))]).trans (hGo q hq hqa)
  have gq118 : G119 H116.size = some 6 := by rw [eGG119]; exact gU_at
  obtain ⟨q118, eq118⟩ : ∃ q, q = H116.size := ⟨_, rfl⟩
  have leq118 : s.heap.size ≤ q118 := by rw [eq118]; exact hSH116.1
  rw [← eq118] at gq118 la_q118 nr_a_q118
  rw [← eq118]
  clear eq118
  clear hNH117 eGG119 oH117 zH117 vH117 hTH116
  refine x_putR C hTH117 hSH117 (ci := 0) (k := 5) (v := .ref q118) (ty0 := tyX0) hR hn rfl inX0 tyX0_ok nmX0 (by decide) (Or.inr ⟨rfl, rfl, rfl⟩) wF_X0_24 (Nat.le_of_ble_eq_true rfl) rfl rfl (Or.inl rfl) dX0_init_40 (fun H120 locsH120 hR2 hTH120 hSH120 oH120 zH120 => ?_)
  clear hR
  have hR : RAW K H120 a 0 [.int 0, .ref q102, .ref q106, .ref q110, .ref q114, .ref q118, .null, .null, .int 0, .int 0, .null, .null, .null, .null, .int 0, .int 0, .int 0, .null] := hR2
  clear hR2
  clear oH120 zH120 hTH117
  refine lv_aload_n hx hb dX0_init_43 rfl (lv_at hl 0 rfl) ?_
  refine lv_sipush (v := 200) hx hb dX0_init_44 (by decide) ?_
  refine x_newa C hTH120 hSH120 wAC_int rg_7 (by decide) rfl (by decide) ⟨by decide, by decide⟩ dX0_init_47 (fun H121 hTH121 hSH121 oH121 zH121 vH121 => ?_)
  have hNH121 : G119 H120.size = none := hTH120.gb _ (Nat.le_refl _)
  obtain ⟨G123, eGG123⟩ : ∃ g, g = gU G119 H120.size 7 := ⟨_, rfl⟩
  rw [← eGG123] at hTH121
  have nr_a_q122 : a ≠ H120.size := Nat.ne_of_lt hR.lt
  have la_q122 : a < H120.size := hR.lt
  replace hR := hR.kept (oH121 _ hR.lt)
  replace gq102 : G123 q102 = some 2 := by rw [eGG123]; exact gU_mono hNH121 _ _ gq102
  replace gq106 : G123 q106 = some 3 := by rw [eGG123]; exact gU_mono hNH121 _ _ gq106
  replace gq110 : G123 q110 = some 4 := by rw [eGG123]; exact gU_mono hNH121 _ _ gq110
  replace gq114 : G123 q114 = some 5 := by rw [eGG123]; exact gU_mono hNH121 _ _ gq114
  replace gq118 : G123 q118 = some 6 := by rw [eGG123]; exact gU_mono hNH121 _ _ gq118
  replace hn : G123 a = none := by rw [eGG123, gU_ne nr_a_q122]; exact hn
  replace hGo : ∀ q, q < s.heap.size → q ≠ a → G123 q = G q := fun q hq hqa => (show G123 q = G119 q by rw [eGG123, gU_ne (Nat.ne_of_lt (Nat.lt_of_lt_of_le hq hSH120.1))]).trans (hGo q hq hqa)
  have gq122 : G123 H120.size = some 7 := by rw [eGG123]; exact gU_at
  obtain ⟨q122, eq122⟩ : ∃ q, q = H120.size := ⟨_, rfl⟩
  have leq122 : s.heap.size ≤ q122 := by rw [eq122]; exact hSH120.1
  rw [← eq122] at gq122 la_q122 nr_a_q122
  rw [← eq122]
  clear eq122
  clear hNH121 eGG123 oH121 zH121 vH121 hTH120
  refine x_putR C hTH121 hSH121 (ci := 0) (k := 6) (v := .ref q122) (ty0 := tyX0) hR hn rfl inX0 tyX0_ok nmX0 (by decide) (Or.inr ⟨rfl, rfl, rfl⟩) wF_X0_27 (Nat.le_of_ble_eq_true rfl) rfl rfl (Or.inl rfl) dX0_init_49 (fun H124 locsH124 hR2 hTH124 hSH124 oH124 zH124 => ?_)
  clear hR
  have hR : RAW K H124 a 0 [.int 0, .ref q102, .ref q106, .ref q110, .ref q114, .ref q118, .ref q122, .null, .int 0, .int 0, .null, .null, .null, .null, .int 0, .int 0, .int 0, .null] := hR2
  clear hR2
  clear oH124 zH124 hTH121
  refine lv_aload_n hx hb dX0_init_52 rfl (lv_at hl 0 rfl) ?_
  refine lv_sipush (v := 200) hx hb dX0_init_53 (by decide) ?_
  refine x_newa C hTH124 hSH124 wAC_int rg_8 (by decide) rfl (by decide) ⟨by decide, by decide⟩ dX0_init_56 (fun H125 hTH125 hSH125 oH125 zH125 vH125 => ?_)
  have hNH125 : G123 H124.size = none := hTH124.gb _ (Nat.le_refl _)
  obtain ⟨G127, eGG127⟩ : ∃ g, g = gU G123 H124.size 8 := ⟨_, rfl⟩
  rw [← eGG127] at hTH125
  have nr_a_q126 : a ≠ H124.size := Nat.ne_of_lt hR.lt
  have la_q126 : a < H124.size := hR.lt
  replace hR := hR.kept (oH125 _ hR.lt)
  replace gq102 : G127 q102 = some 2 := by rw [eGG127]; exact gU_mono hNH125 _ _ gq102
  replace gq106 : G127 q106 = some 3 := by rw [eGG127]; exact gU_mono hNH125 _ _ gq106
  replace gq110 : G127 q110 = some 4 := by rw [eGG127]; exact gU_mono hNH125 _ _ gq110
  replace gq114 : G127 q114 = some 5 := by rw [eGG127]; exact gU_mono hNH125 _ _ gq114
  replace gq118 : G127 q118 = some 6 := by rw [eGG127]; exact gU_mono hNH125 _ _ gq118
  replace gq122 : G127 q122 = some 7 := by rw [eGG127]; exact gU_mono hNH125 _ _ gq122
  replace hn : G127 a = none := by rw [eGG127, gU_ne nr_a_q126]; exact hn
  replace hGo : ∀ q, q < s.heap.size → q ≠ a → G127 q = G q := fun q hq hqa => (show G127 q = G123 q by rw [eGG127, gU_ne (Nat.ne_of_lt (Nat.lt_of_lt_of_le hq hSH124.1))]).trans (hGo q hq hqa)
  have gq126 : G127 H124.size = some 8 := by rw [eGG127]; exact gU_at
  obtain ⟨q126, eq126⟩ : ∃ q, q = H124.size := ⟨_, rfl⟩
  have leq126 : s.heap.size ≤ q126 := by rw [eq126]; exact hSH124.1
  rw [← eq126] at gq126 la_q126 nr_a_q126
  rw [← eq126]
  clear eq126
  clear hNH125 eGG127 oH125 zH125 vH125 hTH124
  refine x_putR C hTH125 hSH125 (ci := 0) (k := 7) (v := .ref q126) (ty0 := tyX0) hR hn rfl inX0 tyX0_ok nmX0 (by decide) (Or.inr ⟨rfl, rfl, rfl⟩) wF_X0_30 (Nat.le_of_ble_eq_true rfl) rfl rfl (Or.inl rfl) dX0_init_58 (fun H128 locsH128 hR2 hTH128 hSH128 oH128 zH128 => ?_)
  clear hR
  have hR : RAW K H128 a 0 [.int 0, .ref q102, .ref q106, .ref q110, .ref q114, .ref q118, .ref q122, .ref q126, .int 0, .int 0, .null, .null, .null, .null, .int 0, .int 0, .int 0, .null] := hR2
  clear hR2
  clear oH128 zH128 hTH125
  refine lv_aload_n hx hb dX0_init_61 rfl (lv_at hl 0 rfl) ?_
  refine lv_bipush (v := 12) hx hb dX0_init_62 (by decide) ?_
  refine x_newa C hTH128 hSH128 wAC_int rg_9 (by decide) rfl (by decide) ⟨by decide, by decide⟩ dX0_init_64 (fun H129 hTH129 hSH129 oH129 zH129 vH129 => ?_)
  have hNH129 : G127 H128.size = none := hTH128.gb _ (Nat.le_refl _)
  obtain ⟨G131, eGG131⟩ : ∃ g, g = gU G127 H128.size 9 := ⟨_, rfl⟩
  rw [← eGG131] at hTH129
  have nr_a_q130 : a ≠ H128.size := Nat.ne_of_lt hR.lt
  have la_q130 : a < H128.size := hR.lt
  replace hR := hR.kept (oH129 _ hR.lt)
  replace gq102 : G131 q102 = some 2 := by rw [eGG131]; exact gU_mono hNH129 _ _ gq102
  replace gq106 : G131 q106 = some 3 := by rw [eGG131]; exact gU_mono hNH129 _ _ gq106
  replace gq110 : G131 q110 = some 4 := by rw [eGG131]; exact gU_mono hNH129 _ _ gq110
  replace gq114 : G131 q114 = some 5 := by rw [eGG131]; exact gU_mono hNH129 _ _ gq114
  replace gq118 : G131 q118 = some 6 := by rw [eGG131]; exact gU_mono hNH129 _ _ gq118
  replace gq122 : G131 q122 = some 7 := by rw [eGG131]; exact gU_mono hNH129 _ _ gq122
  replace gq126 : G131 q126 = some 8 := by rw [eGG131]; exact gU_mono hNH129 _ _ gq126
  replace hn : G131 a = none := by rw [eGG131, gU_ne nr_a_q130]; exact hn
  replace hGo : ∀ q, q < s.heap.size → q ≠ a → G131 q = G q := fun q hq hqa => (show G131 q = G127 q by rw [eGG131, gU_ne (Nat.ne_of_lt (Nat.lt_of_lt_of_le hq hSH128.1))]).trans (hGo q hq hqa)
  have gq130 : G131 H128.size = some 9 := by rw [eGG131]; exact gU_at
  obtain ⟨q130, eq130⟩ : ∃ q, q = H128.size := ⟨_, rfl⟩
  have leq130 : s.heap.size ≤ q130 := by rw [eq130]; exact hSH128.1
  rw [← eq130] at gq130 la_q130 nr_a_q130
  rw [← eq130]
  clear eq130
  clear hNH129 eGG131 oH129 zH129 vH129 hTH128
  refine x_putR C hTH129 hSH129 (ci := 0) (k := 10) (v := .ref q130) (ty0 := tyX0) hR hn rfl inX0 tyX0_ok nmX0 (by decide) (Or.inr ⟨rfl, rfl, rfl⟩) wF_X0_33 (Nat.le_of_ble_eq_true rfl) rfl rfl (Or.inl rfl) dX0_init_66 (fun H132 locsH132 hR2 hTH132 hSH132 oH132 zH132 => ?_)
  clear hR
  have hR : RAW K H132 a 0 [.int 0, .ref q102, .ref q106, .ref q110, .ref q114, .ref q118, .ref q122, .ref q126, .int 0, .int 0, .ref q130, .null, .null, .null, .int 0, .int 0, .int 0, .null] := hR2
  clear hR2
  clear oH132 zH132 hTH129
  refine lv_aload_n hx hb dX0_init_69 rfl (lv_at hl 0 rfl) ?_
  refine lv_bipush (v := 12) hx hb dX0_init_70 (by decide) ?_
  refine x_newa C hTH132 hSH132 wAC_int rg_10 (by decide) rfl (by decide) ⟨by decide, by decide⟩ dX0_init_72 (fun H133 hTH133 hSH133 oH133 zH133 vH133 => ?_)
  have hNH133 : G131 H132.size = none := hTH132.gb _ (Nat.le_refl _)
  obtain ⟨G135, eGG135⟩ : ∃ g, g = gU G131 H132.size 10 := ⟨_, rfl⟩
  rw [← eGG135] at hTH133
  have nr_a_q134 : a ≠ H132.size := Nat.ne_of_lt hR.lt
  have la_q134 : a < H132.size := hR.lt
  replace hR := hR.kept (oH133 _ hR.lt)
  replace gq102 : G135 q102 = some 2 := by rw [eGG135]; exact gU_mono hNH133 _ _ gq102
  replace gq106 : G135 q106 = some 3 := by rw [eGG135]; exact gU_mono hNH133 _ _ gq106
  replace gq110 : G135 q110 = some 4 := by rw [eGG135]; exact gU_mono hNH133 _ _ gq110
  replace gq114 : G135 q114 = some 5 := by rw [eGG135]; exact gU_mono hNH133 _ _ gq114
  replace gq118 : G135 q118 = some 6 := by rw [eGG135]; exact gU_mono hNH133 _ _ gq118
  replace gq122 : G135 q122 = some 7 := by rw [eGG135]; exact gU_mono hNH133 _ _ gq122
  replace gq126 : G135 q126 = some 8 := by rw [eGG135]; exact gU_mono hNH133 _ _ gq126
  replace gq130 : G135 q130 = some 9 := by rw [eGG135]; exact gU_mono hNH133 _ _ gq130
  replace hn : G135 a = none := by rw [eGG135, gU_ne nr_a_q134]; exact hn
  replace hGo : ∀ q, q < s.heap.size → q ≠ a → G135 q = G q := fun q hq hqa => (show G135 q = G131 q by rw [eGG135, gU_ne (Nat.ne_of_lt (Nat.lt_of_lt_of_le hq hSH132.1))]).trans (hGo q hq hqa)
  have gq134 : G135 H132.size = some 10 := by rw [eGG135]; exact gU_at
  obtain ⟨q134, eq134⟩ : ∃ q, q = H132.size := ⟨_, rfl⟩
  have leq134 : s.heap.size ≤ q134 := by rw [eq134]; exact hSH132.1
  rw [← eq134] at gq134 la_q134 nr_a_q134
  rw [← eq134]
  clear eq134
  clear hNH133 eGG135 oH133 zH133 vH133 hTH132
  refine x_putR C hTH133 hSH133 (ci := 0) (k := 11) (v := .ref q134) (ty0 := tyX0) hR hn rfl inX0 tyX0_ok nmX0 (by decide) (Or.inr ⟨rfl, rfl, rfl⟩) wF_X0_36 (Nat.le_of_ble_eq_true rfl) rfl rfl (Or.inl rfl) dX0_init_74 (fun H136 locsH136 hR2 hTH136 hSH136 oH136 zH136 => ?_)
  clear hR
  have hR : RAW K H136 a 0 [.int 0, .ref q102, .ref q106, .ref q110, .ref q114, .ref q118, .ref q122, .ref q126, .int 0, .int 0, .ref q130, .ref q134, .null, .null, .int 0, .int 0, .int 0, .null] := hR2
  clear hR2
  clear oH136 zH136 hTH133
  refine lv_aload_n hx hb dX0_init_77 rfl (lv_at hl 0 rfl) ?_
  refine lv_bipush (v := 12) hx hb dX0_init_78 (by decide) ?_
  refine lv_bipush (v := 16) hx hb dX0_init_80 (by decide) ?_
  have lt_a_H137 := hR.lt
  refine x_mna C hTH136 hSH136 (tu := 11) (tv := 12) (N := 12) (M := 16) wAC_int wC_X0_39 rg_11 rg_12 (by decide) rfl rfl (by decide) (by decide) ⟨by decide, by decide⟩ dX0_init_82 (fun H137 hTH137 hSH137 oH137 zH137 => ?_)
  obtain ⟨G139, eGG139⟩ : ∃ g, g = gM G135 H136.size 12 11 12 := ⟨_, rfl⟩
  rw [← eGG139] at hTH137
  have nr_a_q138 : a ≠ H136.size := Nat.ne_of_lt hR.lt
  have la_q138 : a < H136.size := hR.lt
  replace hR := hR.kept (oH137 _ hR.lt)
  replace gq102 : G139 q102 = some 2 := by rw [eGG139, gM_lt (hTH136.lt gq102)]; exact gq102
  replace gq106 : G139 q106 = some 3 := by rw [eGG139, gM_lt (hTH136.lt gq106)]; exact gq106
  replace gq110 : G139 q110 = some 4 := by rw [eGG139, gM_lt (hTH136.lt gq110)]; exact gq110
  replace gq114 : G139 q114 = some 5 := by rw [eGG139, gM_lt (hTH136.lt gq114)]; exact gq114
  replace gq118 : G139 q118 = some 6 := by rw [eGG139, gM_lt (hTH136.lt gq118)]; exact gq118
  replace gq122 : G139 q122 = some 7 := by rw [eGG139, gM_lt (hTH136.lt gq122)]; exact gq122
  replace gq126 : G139 q126 = some 8 := by rw [eGG139, gM_lt (hTH136.lt gq126)]; exact gq126
  replace gq130 : G139 q130 = some 9 := by rw [eGG139, gM_lt (hTH136.lt gq130)]; exact gq130
  replace gq134 : G139 q134 = some 10 := by rw [eGG139, gM_lt (hTH136.lt gq134)]; exact gq134
  replace hn : G139 a = none := by rw [eGG139, gM_lt lt_a_H137]; exact hn
  replace hGo : ∀ q, q < s.heap.size → q ≠ a → G139 q = G q := fun q hq hqa => (show G139 q = G135 q by rw [eGG139, gM_lt (Nat.lt_of_lt_of_le hq hSH136.1)]).trans (hGo q hq hqa)
  have gq138 : G139 H136.size = some 11 := by rw [eGG139]; exact gM_at
  obtain ⟨q138, eq138⟩ : ∃ q, q = H136.size := ⟨_, rfl⟩
  have leq138 : s.heap.size ≤ q138 := by rw [eq138]; exact hSH136.1
  rw [← eq138] at gq138 la_q138 nr_a_q138
  rw [← eq138]
  clear eq138
  clear eGG139 oH137 zH137 hTH136 lt_a_H137
  refine x_putR C hTH137 hSH137 (ci := 0) (k := 12) (v := .ref q138) (ty0 := tyX0) hR hn rfl inX0 tyX0_ok nmX0 (by decide) (Or.inr ⟨rfl, rfl, rfl⟩) wF_X0_41 (Nat.le_of_ble_eq_true rfl) rfl rfl (Or.inl rfl) dX0_init_86 (fun H140 locsH140 hR2 hTH140 hSH140 oH140 zH140 => ?_)
  clear hR
  have hR : RAW K H140 a 0 [.int 0, .ref q102, .ref q106, .ref q110, .ref q114, .ref q118, .ref q122, .ref q126, .int 0, .int 0, .ref q130, .ref q134, .ref q138, .null, .int 0, .int 0, .int 0, .null] := hR2
  clear hR2
  clear oH140 zH140 hTH137
  refine lv_aload_n hx hb dX0_init_89 rfl (lv_at hl 0 rfl) ?_
  refine lv_bipush (v := 12) hx hb dX0_init_90 (by decide) ?_
  refine lv_bipush (v := 16) hx hb dX0_init_92 (by decide) ?_
  have lt_a_H141 := hR.lt
  refine x_mna C hTH140 hSH140 (tu := 13) (tv := 14) (N := 12) (M := 16) wAC_int wC_X0_39 rg_13 rg_14 (by decide) rfl rfl (by decide) (by decide) ⟨by decide, by decide⟩ dX0_init_94 (fun H141 hTH141 hSH141 oH141 zH141 => ?_)
  obtain ⟨G143, eGG143⟩ : ∃ g, g = gM G139 H140.size 12 13 14 := ⟨_, rfl⟩
  rw [← eGG143] at hTH141
  have nr_a_q142 : a ≠ H140.size := Nat.ne_of_lt hR.lt
  have la_q142 : a < H140.size := hR.lt
  replace hR := hR.kept (oH141 _ hR.lt)
  replace gq102 : G143 q102 = some 2 := by rw [eGG143, gM_lt (hTH140.lt gq102)]; exact gq102
  replace gq106 : G143 q106 = some 3 := by rw [eGG143, gM_lt (hTH140.lt gq106)]; exact gq106
  replace gq110 : G143 q110 = some 4 := by rw [eGG143, gM_lt (hTH140.lt gq110)]; exact gq110
  replace gq114 : G143 q114 = some 5 := by rw [eGG143, gM_lt (hTH140.lt gq114)]; exact gq114
  replace gq118 : G143 q118 = some 6 := by rw [eGG143, gM_lt (hTH140.lt gq118)]; exact gq118
  replace gq122 : G143 q122 = some 7 := by rw [eGG143, gM_lt (hTH140.lt gq122)]; exact gq122
  replace gq126 : G143 q126 = some 8 := by rw [eGG143, gM_lt (hTH140.lt gq126)]; exact gq126
  replace gq130 : G143 q130 = some 9 := by rw [eGG143, gM_lt (hTH140.lt gq130)]; exact gq130
  replace gq134 : G143 q134 = some 10 := by rw [eGG143, gM_lt (hTH140.lt gq134)]; exact gq134
  replace gq138 : G143 q138 = some 11 := by rw [eGG143, gM_lt (hTH140.lt gq138)]; exact gq138
  replace hn : G143 a = none := by rw [eGG143, gM_lt lt_a_H141]; exact hn
  replace hGo : ∀ q, q < s.heap.size → q ≠ a → G143 q = G q := fun q hq hqa => (show G143 q = G139 q by rw [eGG143, gM_lt (Nat.lt_of_lt_of_le hq hSH140.1)]).trans (hGo q hq hqa)
  have gq142 : G143 H140.size = some 13 := by rw [eGG143]; exact gM_at
  obtain ⟨q142, eq142⟩ : ∃ q, q = H140.size := ⟨_, rfl⟩
  have leq142 : s.heap.size ≤ q142 := by rw [eq142]; exact hSH140.1
  rw [← eq142] at gq142 la_q142 nr_a_q142
  rw [← eq142]
  clear eq142
  clear eGG143 oH141 zH141 hTH140 lt_a_H141
  refine x_putR C hTH141 hSH141 (ci := 0) (k := 13) (v := .ref q142) (ty0 := tyX0) hR hn rfl inX0 tyX0_ok nmX0 (by decide) (Or.inr ⟨rfl, rfl, rfl⟩) wF_X0_44 (Nat.le_of_ble_eq_true rfl) rfl rfl (Or.inl rfl) dX0_init_98 (fun H144 locsH144 hR2 hTH144 hSH144 oH144 zH144 => ?_)
  clear hR
  have hR : RAW K H144 a 0 [.int 0, .ref q102, .ref q106, .ref q110, .ref q114, .ref q118, .ref q122, .ref q126, .int 0, .int 0, .ref q130, .ref q134, .ref q138, .ref q142, .int 0, .int 0, .int 0, .null] := hR2
  clear hR2
  clear oH144 zH144 hTH141
  refine lv_aload_n hx hb dX0_init_101 rfl (lv_at hl 0 rfl) ?_
  refine lv_iconst (v := 2) hx hb dX0_init_102 (by decide) ?_
  refine x_newa C hTH144 hSH144 wAC_int rg_15 (by decide) rfl (by decide) ⟨by decide, by decide⟩ dX0_init_103 (fun H145 hTH145 hSH145 oH145 zH145 vH145 => ?_)
  have hNH145 : G143 H144.size = none := hTH144.gb _ (Nat.le_refl _)
  obtain ⟨G147, eGG147⟩ : ∃ g, g = gU G143 H144.size 15 := ⟨_, rfl⟩
  rw [← eGG147] at hTH145
  have nr_a_q146 : a ≠ H144.size := Nat.ne_of_lt hR.lt
  have la_q146 : a < H144.size := hR.lt
  replace hR := hR.kept (oH145 _ hR.lt)
  replace gq102 : G147 q102 = some 2 := by rw [eGG147]; exact gU_mono hNH145 _ _ gq102
  replace gq106 : G147 q106 = some 3 := by rw [eGG147]; exact gU_mono hNH145 _ _ gq106
  replace gq110 : G147 q110 = some 4 := by rw [eGG147]; exact gU_mono hNH145 _ _ gq110
  replace gq114 : G147 q114 = some 5 := by rw [eGG147]; exact gU_mono hNH145 _ _ gq114
  replace gq118 : G147 q118 = some 6 := by rw [eGG147]; exact gU_mono hNH145 _ _ gq118
  replace gq122 : G147 q122 = some 7 := by rw [eGG147]; exact gU_mono hNH145 _ _ gq122
  replace gq126 : G147 q126 = some 8 := by rw [eGG147]; exact gU_mono hNH145 _ _ gq126
  replace gq130 : G147 q130 = some 9 := by rw [eGG147]; exact gU_mono hNH145 _ _ gq130
  replace gq134 : G147 q134 = some 10 := by rw [eGG147]; exact gU_mono hNH145 _ _ gq134
  replace gq138 : G147 q138 = some 11 := by rw [eGG147]; exact gU_mono hNH145 _ _ gq138
  replace gq142 : G147 q142 = some 13 := by rw [eGG147]; exact gU_mono hNH145 _ _ gq142
  replace hn : G147 a = none := by rw [eGG147, gU_ne nr_a_q146]; exact hn
  replace hGo : ∀ q, q < s.heap.size → q ≠ a → G147 q = G q := fun q hq hqa => (show G147 q = G143 q by rw [eGG147, gU_ne (Nat.ne_of_lt (Nat.lt_of_lt_of_le hq hSH144.1))]).trans (hGo q hq hqa)
  have gq146 : G147 H144.size = some 15 := by rw [eGG147]; exact gU_at
  obtain ⟨q146, eq146⟩ : ∃ q, q = H144.size := ⟨_, rfl⟩
  have leq146 : s.heap.size ≤ q146 := by rw [eq146]; exact hSH144.1
  rw [← eq146] at gq146 la_q146 nr_a_q146
  rw [← eq146]
  clear eq146
  clear hNH145 eGG147 oH145 zH145 vH145 hTH144
  refine x_putR C hTH145 hSH145 (ci := 0) (k := 17) (v := .ref q146) (ty0 := tyX0) hR hn rfl inX0 tyX0_ok nmX0 (by decide) (Or.inr ⟨rfl, rfl, rfl⟩) wF_X0_47 (Nat.le_of_ble_eq_true rfl) rfl rfl (Or.inl rfl) dX0_init_105 (fun H148 locsH148 hR2 hTH148 hSH148 oH148 zH148 => ?_)
  clear hR
  have hR : RAW K H148 a 0 [.int 0, .ref q102, .ref q106, .ref q110, .ref q114, .ref q118, .ref q122, .ref q126, .int 0, .int 0, .ref q130, .ref q134, .ref q138, .ref q142, .int 0, .int 0, .int 0, .ref q146] := hR2
  clear hR2
  clear oH148 zH148 hTH145
  have hTZ := x_born (t := 1) hTH148 hn hR rfl rg_1 rfl (fun k f h => match k, f, h with | 0, _, h => by cases h; exact ⟨_, rfl, 0, rfl, by decide, by decide⟩ | 1, _, h => by cases h; exact ⟨_, rfl, q102, rfl, gU_mono hn _ _ gq102⟩ | 2, _, h => by cases h; exact ⟨_, rfl, q106, rfl, gU_mono hn _ _ gq106⟩ | 3, _, h => by cases h; exact ⟨_, rfl, q110, rfl, gU_mono hn _ _ gq110⟩ | 4, _, h => by cases h; exact ⟨_, rfl, q114, rfl, gU_mono hn _ _ gq114⟩ | 5, _, h => by cases h; exact ⟨_, rfl, q118, rfl, gU_mono hn _ _ gq118⟩ | 6, _, h => by cases h; exact ⟨_, rfl, q122, rfl, gU_mono hn _ _ gq122⟩ | 7, _, h => by cases h; exact ⟨_, rfl, q126, rfl, gU_mono hn _ _ gq126⟩ | 8, _, h => by cases h; exact ⟨_, rfl, 0, rfl, by decide, by decide⟩ | 9, _, h => by cases h; exact ⟨_, rfl, 0, rfl, by decide, by decide⟩ | 10, _, h => by cases h; exact ⟨_, rfl, q130, rfl, gU_mono hn _ _ gq130⟩ | 11, _, h => by cases h; exact ⟨_, rfl, q134, rfl, gU_mono hn _ _ gq134⟩ | 12, _, h => by cases h; exact ⟨_, rfl, q138, rfl, gU_mono hn _ _ gq138⟩ | 13, _, h => by cases h; exact ⟨_, rfl, q142, rfl, gU_mono hn _ _ gq142⟩ | 14, _, h => by cases h; exact ⟨_, rfl, 0, rfl, by decide, by decide⟩ | 15, _, h => by cases h; exact ⟨_, rfl, 0, rfl, by decide, by decide⟩ | 16, _, h => by cases h; exact ⟨_, rfl, 0, rfl, by decide, by decide⟩ | 17, _, h => by cases h; exact ⟨_, rfl, q146, rfl, gU_mono hn _ _ gq146⟩ | k + 18, _, h => by simp at h)
  exact x_vret C hQ dX0_init_108 hSH148 (by decide) (by decide) (⟨rfl, gU G147 a 1, fun q hq hqa => by rw [gU_ne hqa]; exact hGo q hq hqa, gU_at, hTZ, (fun k hk => by simp only [RKB, List.mem_cons, List.not_mem_nil, or_false] at hk; rcases hk with rfl | rfl | rfl | rfl | rfl | rfl | rfl | rfl | rfl | rfl | rfl | rfl; exact (kn_r (hR.fv (k := 1) rfl (by decide) rfl)) ▸ la_q102; exact (kn_r (hR.fv (k := 2) rfl (by decide) rfl)) ▸ la_q106; exact (kn_r (hR.fv (k := 3) rfl (by decide) rfl)) ▸ la_q110; exact (kn_r (hR.fv (k := 4) rfl (by decide) rfl)) ▸ la_q114; exact (kn_r (hR.fv (k := 5) rfl (by decide) rfl)) ▸ la_q118; exact (kn_r (hR.fv (k := 6) rfl (by decide) rfl)) ▸ la_q122; exact (kn_r (hR.fv (k := 7) rfl (by decide) rfl)) ▸ la_q126; exact (kn_r (hR.fv (k := 10) rfl (by decide) rfl)) ▸ la_q130; exact (kn_r (hR.fv (k := 11) rfl (by decide) rfl)) ▸ la_q134; exact (kn_r (hR.fv (k := 12) rfl (by decide) rfl)) ▸ la_q138; exact (kn_r (hR.fv (k := 13) rfl (by decide) rfl)) ▸ la_q142; exact (kn_r (hR.fv (k := 17) rfl (by decide) rfl)) ▸ la_q146)⟩)

set_option maxHeartbeats 4000000 in
set_option maxRecDepth 100000 in
theorem k_X0_init_kept_B_x (l : Launch) (K : KE) (G : Nat → Option Nat) (H : Heap) {a : Nat} (hT : TY K G H) (hn : G a = none) (hR : RAW K H a 0 [.int 0, .null, .null, .null, .null, .null, .null, .null, .int 0, .int 0, .null, .null, .null, .null, .int 0, .int 0, .int 0, .null]) : MX l K yX0_init cX0_init 1 none 1 12 36 901 [.ref a] H (fun q => q = a ∨ H.size ≤ q) (fun v H1 => v = none ∧ ∃ G1 : Nat → Option Nat, (∀ q, q < H.size → q ≠ a → G1 q = G q) ∧ G1 a = some 35 ∧ TY K G1 H1 ∧ BK1 K H1 0 RKB a) := by
  refine MX.of (by decide +kernel) (Nat.le_of_ble_eq_true rfl) ?_
  intro p e s m below meth c ls Q C hH hl hQ
  subst hH
  have C : CX p K s m _ meth c RX0 cX0_init 1 none "<init>" := C
  obtain ⟨hx, hb, hml, hown, hts, hKT, hr, hlocks, hnm⟩ := id C
  have hl : lv_has ls 1 [(0, .ref a)] := hl
  have hS : va_S (fun q => q = a ∨ s.heap.size ≤ q) s.heap s.heap [] := va_S.rf
  have n_0 : (0 : Int32).toInt = 0 := rfl
  have n_2 : (2 : Int32).toInt = 2 := rfl
  have n_3 : (3 : Int32).toInt = 3 := rfl
  have n_12 : (12 : Int32).toInt = 12 := rfl
  have n_16 : (16 : Int32).toInt = 16 := rfl
  have n_200 : (200 : Int32).toInt = 200 := rfl
  have hGo : ∀ q, q < s.heap.size → q ≠ a → G q = G q := fun _ _ _ => rfl
  refine lv_aload_n hx hb dX0_init_0 rfl (lv_at hl 0 rfl) ?_
  refine x_objInit C wM_X0_3 wIM_OBJ wCD_OBJ hl.1 (by decide) dX0_init_1 ?_
  refine lv_aload_n hx hb dX0_init_4 rfl (lv_at hl 0 rfl) ?_
  refine lv_bipush (v := 16) hx hb dX0_init_5 (by decide) ?_
  refine x_newa C hT hS wAC_int rg_36 (by decide) rfl (by decide) ⟨by decide, by decide⟩ dX0_init_7 (fun H101 hTH101 hSH101 oH101 zH101 vH101 => ?_)
  have hNH101 : G s.heap.size = none := hT.gb _ (Nat.le_refl _)
  obtain ⟨G103, eGG103⟩ : ∃ g, g = gU G s.heap.size 36 := ⟨_, rfl⟩
  rw [← eGG103] at hTH101
  have nr_a_q102 : a ≠ s.heap.size := Nat.ne_of_lt hR.lt
  have la_q102 : a < s.heap.size := hR.lt
  replace hR := hR.kept (oH101 _ hR.lt)
  replace hn : G103 a = none := by rw [eGG103, gU_ne nr_a_q102]; exact hn
  replace hGo : ∀ q, q < s.heap.size → q ≠ a → G103 q = G q := fun q hq hqa => (show G103 q = G q by rw [eGG103, gU_ne (Nat.ne_of_lt (Nat.lt_of_lt_of_le hq hS.1))]).trans (hGo q hq hqa)
  have gq102 : G103 s.heap.size = some 36 := by rw [eGG103]; exact gU_at
  obtain ⟨q102, eq102⟩ : ∃ q, q = s.heap.size := ⟨_, rfl⟩
  have leq102 : s.heap.size ≤ q102 := by rw [eq102]; exact hS.1
  rw [← eq102] at gq102 la_q102 nr_a_q102
  rw [← eq102]
  clear eq102
  clear hNH101 eGG103 oH101 zH101 vH101 hT
  refine x_putR C hTH101 hSH101 (ci := 0) (k := 1) (v := .ref q102) (ty0 := tyX0) hR hn rfl inX0 tyX0_ok nmX0 (by decide) (Or.inr ⟨rfl, rfl, rfl⟩) wF_X0_9 (Nat.le_of_ble_eq_true rfl) rfl rfl (Or.inl rfl) dX0_init_9 (fun H104 locsH104 hR2 hTH104 hSH104 oH104 zH104 => ?_)
  clear hR
  have hR : RAW K H104 a 0 [.int 0, .ref q102, .null, .null, .null, .null, .null, .null, .int 0, .int 0, .null, .null, .null, .null, .int 0, .int 0, .int 0, .null] := hR2
  clear hR2
  clear oH104 zH104 hTH101
  refine lv_aload_n hx hb dX0_init_12 rfl (lv_at hl 0 rfl) ?_
  refine lv_bipush (v := 16) hx hb dX0_init_13 (by decide) ?_
  refine x_newa C hTH104 hSH104 wAC_int rg_37 (by decide) rfl (by decide) ⟨by decide, by decide⟩ dX0_init_15 (fun H105 hTH105 hSH105 oH105 zH105 vH105 => ?_)
  have hNH105 : G103 H104.size = none := hTH104.gb _ (Nat.le_refl _)
  obtain ⟨G107, eGG107⟩ : ∃ g, g = gU G103 H104.size 37 := ⟨_, rfl⟩
  rw [← eGG107] at hTH105
  have nr_a_q106 : a ≠ H104.size := Nat.ne_of_lt hR.lt
  have la_q106 : a < H104.size := hR.lt
  replace hR := hR.kept (oH105 _ hR.lt)
  replace gq102 : G107 q102 = some 36 := by rw [eGG107]; exact gU_mono hNH105 _ _ gq102
  replace hn : G107 a = none := by rw [eGG107, gU_ne nr_a_q106]; exact hn
  replace hGo : ∀ q, q < s.heap.size → q ≠ a → G107 q = G q := fun q hq hqa => (show G107 q = G103 q by rw [eGG107, gU_ne (Nat.ne_of_lt (Nat.lt_of_lt_of_le hq hSH104.1))]).trans (hGo q hq hqa)
  have gq106 : G107 H104.size = some 37 := by rw [eGG107]; exact gU_at
  obtain ⟨q106, eq106⟩ : ∃ q, q = H104.size := ⟨_, rfl⟩
  have leq106 : s.heap.size ≤ q106 := by rw [eq106]; exact hSH104.1
  rw [← eq106] at gq106 la_q106 nr_a_q106
  rw [← eq106]
  clear eq106
  clear hNH105 eGG107 oH105 zH105 vH105 hTH104
  refine x_putR C hTH105 hSH105 (ci := 0) (k := 2) (v := .ref q106) (ty0 := tyX0) hR hn rfl inX0 tyX0_ok nmX0 (by decide) (Or.inr ⟨rfl, rfl, rfl⟩) wF_X0_15 (Nat.le_of_ble_eq_true rfl) rfl rfl (Or.inl rfl) dX0_init_17 (fun H108 locsH108 hR2 hTH108 hSH108 oH108 zH108 => ?_)
  clear hR
  have hR : RAW K H108 a 0 [.int 0, .ref q102, .ref q106, .null, .null, .null, .null, .null, .int 0, .int 0, .null, .null, .null, .null, .int 0, .int 0, .int 0, .null] := hR2
  clear hR2
  clear oH108 zH108 hTH105
  refine lv_aload_n hx hb dX0_init_20 rfl (lv_at hl 0 rfl) ?_
  refine lv_bipush (v := 16) hx hb dX0_init_21 (by decide) ?_
  refine x_newa C hTH108 hSH108 wAC_int rg_38 (by decide) rfl (by decide) ⟨by decide, by decide⟩ dX0_init_23 (fun H109 hTH109 hSH109 oH109 zH109 vH109 => ?_)
  have hNH109 : G107 H108.size = none := hTH108.gb _ (Nat.le_refl _)
  obtain ⟨G111, eGG111⟩ : ∃ g, g = gU G107 H108.size 38 := ⟨_, rfl⟩
  rw [← eGG111] at hTH109
  have nr_a_q110 : a ≠ H108.size := Nat.ne_of_lt hR.lt
  have la_q110 : a < H108.size := hR.lt
  replace hR := hR.kept (oH109 _ hR.lt)
  replace gq102 : G111 q102 = some 36 := by rw [eGG111]; exact gU_mono hNH109 _ _ gq102
  replace gq106 : G111 q106 = some 37 := by rw [eGG111]; exact gU_mono hNH109 _ _ gq106
  replace hn : G111 a = none := by rw [eGG111, gU_ne nr_a_q110]; exact hn
  replace hGo : ∀ q, q < s.heap.size → q ≠ a → G111 q = G q := fun q hq hqa => (show G111 q = G107 q by rw [eGG111, gU_ne (Nat.ne_of_lt (Nat.lt_of_lt_of_le hq hSH108.1))]).trans (hGo q hq hqa)
  have gq110 : G111 H108.size = some 38 := by rw [eGG111]; exact gU_at
  obtain ⟨q110, eq110⟩ : ∃ q, q = H108.size := ⟨_, rfl⟩
  have leq110 : s.heap.size ≤ q110 := by rw [eq110]; exact hSH108.1
  rw [← eq110] at gq110 la_q110 nr_a_q110
  rw [← eq110]
  clear eq110
  clear hNH109 eGG111 oH109 zH109 vH109 hTH108
  refine x_putR C hTH109 hSH109 (ci := 0) (k := 3) (v := .ref q110) (ty0 := tyX0) hR hn rfl inX0 tyX0_ok nmX0 (by decide) (Or.inr ⟨rfl, rfl, rfl⟩) wF_X0_18 (Nat.le_of_ble_eq_true rfl) rfl rfl (Or.inl rfl) dX0_init_25 (fun H112 locsH112 hR2 hTH112 hSH112 oH112 zH112 => ?_)
  clear hR
  have hR : RAW K H112 a 0 [.int 0, .ref q102, .ref q106, .ref q110, .null, .null, .null, .null, .int 0, .int 0, .null, .null, .null, .null, .int 0, .int 0, .int 0, .null] := hR2
  clear hR2
  clear oH112 zH112 hTH109
  refine lv_aload_n hx hb dX0_init_28 rfl (lv_at hl 0 rfl) ?_
  refine lv_bipush (v := 16) hx hb dX0_init_29 (by decide) ?_
  refine x_newa C hTH112 hSH112 wAC_int rg_39 (by decide) rfl (by decide) ⟨by decide, by decide⟩ dX0_init_31 (fun H113 hTH113 hSH113 oH113 zH113 vH113 => ?_)
  have hNH113 : G111 H112.size = none := hTH112.gb _ (Nat.le_refl _)
  obtain ⟨G115, eGG115⟩ : ∃ g, g = gU G111 H112.size 39 := ⟨_, rfl⟩
  rw [← eGG115] at hTH113
  have nr_a_q114 : a ≠ H112.size := Nat.ne_of_lt hR.lt
  have la_q114 : a < H112.size := hR.lt
  replace hR := hR.kept (oH113 _ hR.lt)
  replace gq102 : G115 q102 = some 36 := by rw [eGG115]; exact gU_mono hNH113 _ _ gq102
  replace gq106 : G115 q106 = some 37 := by rw [eGG115]; exact gU_mono hNH113 _ _ gq106
  replace gq110 : G115 q110 = some 38 := by rw [eGG115]; exact gU_mono hNH113 _ _ gq110
  replace hn : G115 a = none := by rw [eGG115, gU_ne nr_a_q114]; exact hn
  replace hGo : ∀ q, q < s.heap.size → q ≠ a → G115 q = G q := fun q hq hqa => (show G115 q = G111 q by rw [eGG115, gU_ne (Nat.ne_of_lt (Nat.lt_of_lt_of_le hq hSH112.1))]).trans (hGo q hq hqa)
  have gq114 : G115 H112.size = some 39 := by rw [eGG115]; exact gU_at
  obtain ⟨q114, eq114⟩ : ∃ q, q = H112.size := ⟨_, rfl⟩
  have leq114 : s.heap.size ≤ q114 := by rw [eq114]; exact hSH112.1
  rw [← eq114] at gq114 la_q114 nr_a_q114
  rw [← eq114]
  clear eq114
  clear hNH113 eGG115 oH113 zH113 vH113 hTH112
  refine x_putR C hTH113 hSH113 (ci := 0) (k := 4) (v := .ref q114) (ty0 := tyX0) hR hn rfl inX0 tyX0_ok nmX0 (by decide) (Or.inr ⟨rfl, rfl, rfl⟩) wF_X0_21 (Nat.le_of_ble_eq_true rfl) rfl rfl (Or.inl rfl) dX0_init_33 (fun H116 locsH116 hR2 hTH116 hSH116 oH116 zH116 => ?_)
  clear hR
  have hR : RAW K H116 a 0 [.int 0, .ref q102, .ref q106, .ref q110, .ref q114, .null, .null, .null, .int 0, .int 0, .null, .null, .null, .null, .int 0, .int 0, .int 0, .null] := hR2
  clear hR2
  clear oH116 zH116 hTH113
  refine lv_aload_n hx hb dX0_init_36 rfl (lv_at hl 0 rfl) ?_
  refine lv_iconst (v := 3) hx hb dX0_init_37 (by decide) ?_
  refine x_newa C hTH116 hSH116 wAC_int rg_40 (by decide) rfl (by decide) ⟨by decide, by decide⟩ dX0_init_38 (fun H117 hTH117 hSH117 oH117 zH117 vH117 => ?_)
  have hNH117 : G115 H116.size = none := hTH116.gb _ (Nat.le_refl _)
  obtain ⟨G119, eGG119⟩ : ∃ g, g = gU G115 H116.size 40 := ⟨_, rfl⟩
  rw [← eGG119] at hTH117
  have nr_a_q118 : a ≠ H116.size := Nat.ne_of_lt hR.lt
  have la_q118 : a < H116.size := hR.lt
  replace hR := hR.kept (oH117 _ hR.lt)
  replace gq102 : G119 q102 = some 36 := by rw [eGG119]; exact gU_mono hNH117 _ _ gq102
  replace gq106 : G119 q106 = some 37 := by rw [eGG119]; exact gU_mono hNH117 _ _ gq106
  replace gq110 : G119 q110 = some 38 := by rw [eGG119]; exact gU_mono hNH117 _ _ gq110
  replace gq114 : G119 q114 = some 39 := by rw [eGG119]; exact gU_mono hNH117 _ _ gq114
  replace hn : G119 a = none := by rw [eGG119, gU_ne nr_a_q118]; exact hn
  replace hGo : ∀ q, q < s.heap.size → q ≠ a → G119 q = G q := fun q hq hqa => (show G119 q = G115 q by rw [eGG119, gU_ne (Nat.ne_of_lt (Nat.lt_of_lt_of_le hq hSH116.1))]).trans (hGo q hq hqa)
  have gq118 : G119 H116.size = some 40 := by rw [eGG119]; exact gU_at
  obtain ⟨q118, eq118⟩ : ∃ q, q = H116.size := ⟨_, rfl⟩
  have leq118 : s.heap.size ≤ q118 := by rw [eq118]; exact hSH116.1
  rw [← eq118] at gq118 la_q118 nr_a_q118
  rw [← eq118]
  clear eq118
  clear hNH117 eGG119 oH117 zH117 vH117 hTH116
  refine x_putR C hTH117 hSH117 (ci := 0) (k := 5) (v := .ref q118) (ty0 := tyX0) hR hn rfl inX0 tyX0_ok nmX0 (by decide) (Or.inr ⟨rfl, rfl, rfl⟩) wF_X0_24 (Nat.le_of_ble_eq_true rfl) rfl rfl (Or.inl rfl) dX0_init_40 (fun H120 locsH120 hR2 hTH120 hSH120 oH120 zH120 => ?_)
  clear hR
  have hR : RAW K H120 a 0 [.int 0, .ref q102, .ref q106, .ref q110, .ref q114, .ref q118, .null, .null, .int 0, .int 0, .null, .null, .null, .null, .int 0, .int 0, .int 0, .null] := hR2
  clear hR2
  clear oH120 zH120 hTH117
  refine lv_aload_n hx hb dX0_init_43 rfl (lv_at hl 0 rfl) ?_
  refine lv_sipush (v := 200) hx hb dX0_init_44 (by decide) ?_
  refine x_newa C hTH120 hSH120 wAC_int rg_41 (by decide) rfl (by decide) ⟨by decide, by decide⟩ dX0_init_47 (fun H121 hTH121 hSH121 oH121 zH121 vH121 => ?_)
  have hNH121 : G119 H120.size = none := hTH120.gb _ (Nat.le_refl _)
  obtain ⟨G123, eGG123⟩ : ∃ g, g = gU G119 H120.size 41 := ⟨_, rfl⟩
  rw [← eGG123] at hTH121
  have nr_a_q122 : a ≠ H120.size := Nat.ne_of_lt hR.lt
  have la_q122 : a < H120.size := hR.lt
  replace hR := hR.kept (oH121 _ hR.lt)
  replace gq102 : G123 q102 = some 36 := by rw [eGG123]; exact gU_mono hNH121 _ _ gq102
  replace gq106 : G123 q106 = some 37 := by rw [eGG123]; exact gU_mono hNH121 _ _ gq106
  replace gq110 : G123 q110 = some 38 := by rw [eGG123]; exact gU_mono hNH121 _ _ gq110
  replace gq114 : G123 q114 = some 39 := by rw [eGG123]; exact gU_mono hNH121 _ _ gq114
  replace gq118 : G123 q118 = some 40 := by rw [eGG123]; exact gU_mono hNH121 _ _ gq118
  replace hn : G123 a = none := by rw [eGG123, gU_ne nr_a_q122]; exact hn
  replace hGo : ∀ q, q < s.heap.size → q ≠ a → G123 q = G q := fun q hq hqa => (show G123 q = G119 q by rw [eGG123, gU_ne (Nat.ne_of_lt (Nat.lt_of_lt_of_le hq hSH120.1))]).trans (hGo q hq hqa)
  have gq122 : G123 H120.size = some 41 := by rw [eGG123]; exact gU_at
  obtain ⟨q122, eq122⟩ : ∃ q, q = H120.size := ⟨_, rfl⟩
  have leq122 : s.heap.size ≤ q122 := by rw [eq122]; exact hSH120.1
  rw [← eq122] at gq122 la_q122 nr_a_q122
  rw [← eq122]
  clear eq122
  clear hNH121 eGG123 oH121 zH121 vH121 hTH120
  refine x_putR C hTH121 hSH121 (ci := 0) (k := 6) (v := .ref q122) (ty0 := tyX0) hR hn rfl inX0 tyX0_ok nmX0 (by decide) (Or.inr ⟨rfl, rfl, rfl⟩) wF_X0_27 (Nat.le_of_ble_eq_true rfl) rfl rfl (Or.inl rfl) dX0_init_49 (fun H124 locsH124 hR2 hTH124 hSH124 oH124 zH124 => ?_)
  clear hR
  have hR : RAW K H124 a 0 [.int 0, .ref q102, .ref q106, .ref q110, .ref q114, .ref q118, .ref q122, .null, .int 0, .int 0, .null, .null, .null, .null, .int 0, .int 0, .int 0, .null] := hR2
  clear hR2
  clear oH124 zH124 hTH121
  refine lv_aload_n hx hb dX0_init_52 rfl (lv_at hl 0 rfl) ?_
  refine lv_sipush (v := 200) hx hb dX0_init_53 (by decide) ?_
  refine x_newa C hTH124 hSH124 wAC_int rg_42 (by decide) rfl (by decide) ⟨by decide, by decide⟩ dX0_init_56 (fun H125 hTH125 hSH125 oH125 zH125 vH125 => ?_)
  have hNH125 : G123 H124.size = none := hTH124.gb _ (Nat.le_refl _)
  obtain ⟨G127, eGG127⟩ : ∃ g, g = gU G123 H124.size 42 := ⟨_, rfl⟩
  rw [← eGG127] at hTH125
  have nr_a_q126 : a ≠ H124.size := Nat.ne_of_lt hR.lt
  have la_q126 : a < H124.size := hR.lt
  replace hR := hR.kept (oH125 _ hR.lt)
  replace gq102 : G127 q102 = some 36 := by rw [eGG127]; exact gU_mono hNH125 _ _ gq102
  replace gq106 : G127 q106 = some 37 := by rw [eGG127]; exact gU_mono hNH125 _ _ gq106
  replace gq110 : G127 q110 = some 38 := by rw [eGG127]; exact gU_mono hNH125 _ _ gq110
  replace gq114 : G127 q114 = some 39 := by rw [eGG127]; exact gU_mono hNH125 _ _ gq114
  replace gq118 : G127 q118 = some 40 := by rw [eGG127]; exact gU_mono hNH125 _ _ gq118
  replace gq122 : G127 q122 = some 41 := by rw [eGG127]; exact gU_mono hNH125 _ _ gq122
  replace hn : G127 a = none := by rw [eGG127, gU_ne nr_a_q126]; exact hn
  replace hGo : ∀ q, q < s.heap.size → q ≠ a → G127 q = G q := fun q hq hqa => (show G127 q = G123 q by rw [eGG127, gU_ne (Nat.ne_of_lt (Nat.lt_of_lt_of_le hq hSH124.1))]).trans (hGo q hq hqa)
  have gq126 : G127 H124.size = some 42 := by rw [eGG127]; exact gU_at
  obtain ⟨q126, eq126⟩ : ∃ q, q = H124.size := ⟨_, rfl⟩
  have leq126 : s.heap.size ≤ q126 := by rw [eq126]; exact hSH124.1
  rw [← eq126] at gq126 la_q126 nr_a_q126
  rw [← eq126]
  clear eq126
  clear hNH125 eGG127 oH125 zH125 vH125 hTH124
  refine x_putR C hTH125 hSH125 (ci := 0) (k := 7) (v := .ref q126) (ty0 := tyX0) hR hn rfl inX0 tyX0_ok nmX0 (by decide) (Or.inr ⟨rfl, rfl, rfl⟩) wF_X0_30 (Nat.le_of_ble_eq_true rfl) rfl rfl (Or.inl rfl) dX0_init_58 (fun H128 locsH128 hR2 hTH128 hSH128 oH128 zH128 => ?_)
  clear hR
  have hR : RAW K H128 a 0 [.int 0, .ref q102, .ref q106, .ref q110, .ref q114, .ref q118, .ref q122, .ref q126, .int 0, .int 0, .null, .null, .null, .null, .int 0, .int 0, .int 0, .null] := hR2
  clear hR2
  clear oH128 zH128 hTH125
  refine lv_aload_n hx hb dX0_init_61 rfl (lv_at hl 0 rfl) ?_
  refine lv_bipush (v := 12) hx hb dX0_init_62 (by decide) ?_
  refine x_newa C hTH128 hSH128 wAC_int rg_43 (by decide) rfl (by decide) ⟨by decide, by decide⟩ dX0_init_64 (fun H129 hTH129 hSH129 oH129 zH129 vH129 => ?_)
  have hNH129 : G127 H128.size = none := hTH128.gb _ (Nat.le_refl _)
  obtain ⟨G131, eGG131⟩ : ∃ g, g = gU G127 H128.size 43 := ⟨_, rfl⟩
  rw [← eGG131] at hTH129
  have nr_a_q130 : a ≠ H128.size := Nat.ne_of_lt hR.lt
  have la_q130 : a < H128.size := hR.lt
  replace hR := hR.kept (oH129 _ hR.lt)
  replace gq102 : G131 q102 = some 36 := by rw [eGG131]; exact gU_mono hNH129 _ _ gq102
  replace gq106 : G131 q106 = some 37 := by rw [eGG131]; exact gU_mono hNH129 _ _ gq106
  replace gq110 : G131 q110 = some 38 := by rw [eGG131]; exact gU_mono hNH129 _ _ gq110
  replace gq114 : G131 q114 = some 39 := by rw [eGG131]; exact gU_mono hNH129 _ _ gq114
  replace gq118 : G131 q118 = some 40 := by rw [eGG131]; exact gU_mono hNH129 _ _ gq118
  replace gq122 : G131 q122 = some 41 := by rw [eGG131]; exact gU_mono hNH129 _ _ gq122
  replace gq126 : G131 q126 = some 42 := by rw [eGG131]; exact gU_mono hNH129 _ _ gq126
  replace hn : G131 a = none := by rw [eGG131, gU_ne nr_a_q130]; exact hn
  replace hGo : ∀ q, q < s.heap.size → q ≠ a → G131 q = G q := fun q hq hqa => (show G131 q = G127 q by rw [eGG131, gU_ne (Nat.ne_of_lt (Nat.lt_of_lt_of_le hq hSH128.1))]).trans (hGo q hq hqa)
  have gq130 : G131 H128.size = some 43 := by rw [eGG131]; exact gU_at
  obtain ⟨q130, eq130⟩ : ∃ q, q = H128.size := ⟨_, rfl⟩
  have leq130 : s.heap.size ≤ q130 := by rw [eq130]; exact hSH128.1
  rw [← eq130] at gq130 la_q130 nr_a_q130
  rw [← eq130]
  clear eq130
  clear hNH129 eGG131 oH129 zH129 vH129 hTH128
  refine x_putR C hTH129 hSH129 (ci := 0) (k := 10) (v := .ref q130) (ty0 := tyX0) hR hn rfl inX0 tyX0_ok nmX0 (by decide) (Or.inr ⟨rfl, rfl, rfl⟩) wF_X0_33 (Nat.le_of_ble_eq_true rfl) rfl rfl (Or.inl rfl) dX0_init_66 (fun H132 locsH132 hR2 hTH132 hSH132 oH132 zH132 => ?_)
  clear hR
  have hR : RAW K H132 a 0 [.int 0, .ref q102, .ref q106, .ref q110, .ref q114, .ref q118, .ref q122, .ref q126, .int 0, .int 0, .ref q130, .null, .null, .null, .int 0, .int 0, .int 0, .null] := hR2
  clear hR2
  clear oH132 zH132 hTH129
  refine lv_aload_n hx hb dX0_init_69 rfl (lv_at hl 0 rfl) ?_
  refine lv_bipush (v := 12) hx hb dX0_init_70 (by decide) ?_
  refine x_newa C hTH132 hSH132 wAC_int rg_44 (by decide) rfl (by decide) ⟨by decide, by decide⟩ dX0_init_72 (fun H133 hTH133 hSH133 oH133 zH133 vH133 => ?_)
  have hNH133 : G131 H132.size = none := hTH132.gb _ (Nat.le_refl _)
  obtain ⟨G135, eGG135⟩ : ∃ g, g = gU G131 H132.size 44 := ⟨_, rfl⟩
  rw [← eGG135] at hTH133
  have nr_a_q134 : a ≠ H132.size := Nat.ne_of_lt hR.lt
  have la_q134 : a < H132.size := hR.lt
  replace hR := hR.kept (oH133 _ hR.lt)
  replace gq102 : G135 q102 = some 36 := by rw [eGG135]; exact gU_mono hNH133 _ _ gq102
  replace gq106 : G135 q106 = some 37 := by rw [eGG135]; exact gU_mono hNH133 _ _ gq106
  replace gq110 : G135 q110 = some 38 := by rw [eGG135]; exact gU_mono hNH133 _ _ gq110
  replace gq114 : G135 q114 = some 39 := by rw [eGG135]; exact gU_mono hNH133 _ _ gq114
  replace gq118 : G135 q118 = some 40 := by rw [eGG135]; exact gU_mono hNH133 _ _ gq118
  replace gq122 : G135 q122 = some 41 := by rw [eGG135]; exact gU_mono hNH133 _ _ gq122
  replace gq126 : G135 q126 = some 42 := by rw [eGG135]; exact gU_mono hNH133 _ _ gq126
  replace gq130 : G135 q130 = some 43 := by rw [eGG135]; exact gU_mono hNH133 _ _ gq130
  replace hn : G135 a = none := by rw [eGG135, gU_ne nr_a_q134]; exact hn
  replace hGo : ∀ q, q < s.heap.size → q ≠ a → G135 q = G q := fun q hq hqa => (show G135 q = G131 q by rw [eGG135, gU_ne (Nat.ne_of_lt (Nat.lt_of_lt_of_le hq hSH132.1))]).trans (hGo q hq hqa)
  have gq134 : G135 H132.size = some 44 := by rw [eGG135]; exact gU_at
  obtain ⟨q134, eq134⟩ : ∃ q, q = H132.size := ⟨_, rfl⟩
  have leq134 : s.heap.size ≤ q134 := by rw [eq134]; exact hSH132.1
  rw [← eq134] at gq134 la_q134 nr_a_q134
  rw [← eq134]
  clear eq134
  clear hNH133 eGG135 oH133 zH133 vH133 hTH132
  refine x_putR C hTH133 hSH133 (ci := 0) (k := 11) (v := .ref q134) (ty0 := tyX0) hR hn rfl inX0 tyX0_ok nmX0 (by decide) (Or.inr ⟨rfl, rfl, rfl⟩) wF_X0_36 (Nat.le_of_ble_eq_true rfl) rfl rfl (Or.inl rfl) dX0_init_74 (fun H136 locsH136 hR2 hTH136 hSH136 oH136 zH136 => ?_)
  clear hR
  have hR : RAW K H136 a 0 [.int 0, .ref q102, .ref q106, .ref q110, .ref q114, .ref q118, .ref q122, .ref q126, .int 0, .int 0, .ref q130, .ref q134, .null, .null, .int 0, .int 0, .int 0, .null] := hR2
  clear hR2
  clear oH136 zH136 hTH133
  refine lv_aload_n hx hb dX0_init_77 rfl (lv_at hl 0 rfl) ?_
  refine lv_bipush (v := 12) hx hb dX0_init_78 (by decide) ?_
  refine lv_bipush (v := 16) hx hb dX0_init_80 (by decide) ?_
  have lt_a_H137 := hR.lt
  refine x_mna C hTH136 hSH136 (tu := 45) (tv := 46) (N := 12) (M := 16) wAC_int wC_X0_39 rg_45 rg_46 (by decide) rfl rfl (by decide) (by decide) ⟨by decide, by decide⟩ dX0_init_82 (fun H137 hTH137 hSH137 oH137 zH137 => ?_)
  obtain ⟨G139, eGG139⟩ : ∃ g, g = gM G135 H136.size 12 45 46 := ⟨_, rfl⟩
  rw [← eGG139] at hTH137
  have nr_a_q138 : a ≠ H136.size := Nat.ne_of_lt hR.lt
  have la_q138 : a < H136.size := hR.lt
  replace hR := hR.kept (oH137 _ hR.lt)
  replace gq102 : G139 q102 = some 36 := by rw [eGG139, gM_lt (hTH136.lt gq102)]; exact gq102
  replace gq106 : G139 q106 = some 37 := by rw [eGG139, gM_lt (hTH136.lt gq106)]; exact gq106
  replace gq110 : G139 q110 = some 38 := by rw [eGG139, gM_lt (hTH136.lt gq110)]; exact gq110
  replace gq114 : G139 q114 = some 39 := by rw [eGG139, gM_lt (hTH136.lt gq114)]; exact gq114
  replace gq118 : G139 q118 = some 40 := by rw [eGG139, gM_lt (hTH136.lt gq118)]; exact gq118
  replace gq122 : G139 q122 = some 41 := by rw [eGG139, gM_lt (hTH136.lt gq122)]; exact gq122
  replace gq126 : G139 q126 = some 42 := by rw [eGG139, gM_lt (hTH136.lt gq126)]; exact gq126
  replace gq130 : G139 q130 = some 43 := by rw [eGG139, gM_lt (hTH136.lt gq130)]; exact gq130
  replace gq134 : G139 q134 = some 44 := by rw [eGG139, gM_lt (hTH136.lt gq134)]; exact gq134
  replace hn : G139 a = none := by rw [eGG139, gM_lt lt_a_H137]; exact hn
  replace hGo : ∀ q, q < s.heap.size → q ≠ a → G139 q = G q := fun q hq hqa => (show G139 q = G135 q by rw [eGG139, gM_lt (Nat.lt_of_lt_of_le hq hSH136.1)]).trans (hGo q hq hqa)
  have gq138 : G139 H136.size = some 45 := by rw [eGG139]; exact gM_at
  obtain ⟨q138, eq138⟩ : ∃ q, q = H136.size := ⟨_, rfl⟩
  have leq138 : s.heap.size ≤ q138 := by rw [eq138]; exact hSH136.1
  rw [← eq138] at gq138 la_q138 nr_a_q138
  rw [← eq138]
  clear eq138
  clear eGG139 oH137 zH137 hTH136 lt_a_H137
  refine x_putR C hTH137 hSH137 (ci := 0) (k := 12) (v := .ref q138) (ty0 := tyX0) hR hn rfl inX0 tyX0_ok nmX0 (by decide) (Or.inr ⟨rfl, rfl, rfl⟩) wF_X0_41 (Nat.le_of_ble_eq_true rfl) rfl rfl (Or.inl rfl) dX0_init_86 (fun H140 locsH140 hR2 hTH140 hSH140 oH140 zH140 => ?_)
  clear hR
  have hR : RAW K H140 a 0 [.int 0, .ref q102, .ref q106, .ref q110, .ref q114, .ref q118, .ref q122, .ref q126, .int 0, .int 0, .ref q130, .ref q134, .ref q138, .null, .int 0, .int 0, .int 0, .null] := hR2
  clear hR2
  clear oH140 zH140 hTH137
  refine lv_aload_n hx hb dX0_init_89 rfl (lv_at hl 0 rfl) ?_
  refine lv_bipush (v := 12) hx hb dX0_init_90 (by decide) ?_
  refine lv_bipush (v := 16) hx hb dX0_init_92 (by decide) ?_
  have lt_a_H141 := hR.lt
  refine x_mna C hTH140 hSH140 (tu := 47) (tv := 48) (N := 12) (M := 16) wAC_int wC_X0_39 rg_47 rg_48 (by decide) rfl rfl (by decide) (by decide) ⟨by decide, by decide⟩ dX0_init_94 (fun H141 hTH141 hSH141 oH141 zH141 => ?_)
  obtain ⟨G143, eGG143⟩ : ∃ g, g = gM G139 H140.size 12 47 48 := ⟨_, rfl⟩
  rw [← eGG143] at hTH141
  have nr_a_q142 : a ≠ H140.size := Nat.ne_of_lt hR.lt
  have la_q142 : a < H140.size := hR.lt
  replace hR := hR.kept (oH141 _ hR.lt)
  replace gq102 : G143 q102 = some 36 := by rw [eGG143, gM_lt (hTH140.lt gq102)]; exact gq102
  replace gq106 : G143 q106 = some 37 := by rw [eGG143, gM_lt (hTH140.lt gq106)]; exact gq106
  replace gq110 : G143 q110 = some 38 := by rw [eGG143, gM_lt (hTH140.lt gq110)]; exact gq110
  replace gq114 : G143 q114 = some 39 := by rw [eGG143, gM_lt (hTH140.lt gq114)]; exact gq114
  replace gq118 : G143 q118 = some 40 := by rw [eGG143, gM_lt (hTH140.lt gq118)]; exact gq118
  replace gq122 : G143 q122 = some 41 := by rw [eGG143, gM_lt (hTH140.lt gq122)]; exact gq122
  replace gq126 : G143 q126 = some 42 := by rw [eGG143, gM_lt (hTH140.lt gq126)]; exact gq126
  replace gq130 : G143 q130 = some 43 := by rw [eGG143, gM_lt (hTH140.lt gq130)]; exact gq130
  replace gq134 : G143 q134 = some 44 := by rw [eGG143, gM_lt (hTH140.lt gq134)]; exact gq134
  replace gq138 : G143 q138 = some 45 := by rw [eGG143, gM_lt (hTH140.lt gq138)]; exact gq138
  replace hn : G143 a = none := by rw [eGG143, gM_lt lt_a_H141]; exact hn
  replace hGo : ∀ q, q < s.heap.size → q ≠ a → G143 q = G q := fun q hq hqa => (show G143 q = G139 q by rw [eGG143, gM_lt (Nat.lt_of_lt_of_le hq hSH140.1)]).trans (hGo q hq hqa)
  have gq142 : G143 H140.size = some 47 := by rw [eGG143]; exact gM_at
  obtain ⟨q142, eq142⟩ : ∃ q, q = H140.size := ⟨_, rfl⟩
  have leq142 : s.heap.size ≤ q142 := by rw [eq142]; exact hSH140.1
  rw [← eq142] at gq142 la_q142 nr_a_q142
  rw [← eq142]
  clear eq142
  clear eGG143 oH141 zH141 hTH140 lt_a_H141
  refine x_putR C hTH141 hSH141 (ci := 0) (k := 13) (v := .ref q142) (ty0 := tyX0) hR hn rfl inX0 tyX0_ok nmX0 (by decide) (Or.inr ⟨rfl, rfl, rfl⟩) wF_X0_44 (Nat.le_of_ble_eq_true rfl) rfl rfl (Or.inl rfl) dX0_init_98 (fun H144 locsH144 hR2 hTH144 hSH144 oH144 zH144 => ?_)
  clear hR
  have hR : RAW K H144 a 0 [.int 0, .ref q102, .ref q106, .ref q110, .ref q114, .ref q118, .ref q122, .ref q126, .int 0, .int 0, .ref q130, .ref q134, .ref q138, .ref q142, .int 0, .int 0, .int 0, .null] := hR2
  clear hR2
  clear oH144 zH144 hTH141
  refine lv_aload_n hx hb dX0_init_101 rfl (lv_at hl 0 rfl) ?_
  refine lv_iconst (v := 2) hx hb dX0_init_102 (by decide) ?_
  refine x_newa C hTH144 hSH144 wAC_int rg_49 (by decide) rfl (by decide) ⟨by decide, by decide⟩ dX0_init_103 (fun H145 hTH145 hSH145 oH145 zH145 vH145 => ?_)
  have hNH145 : G143 H144.size = none := hTH144.gb _ (Nat.le_refl _)
  obtain ⟨G147, eGG147⟩ : ∃ g, g = gU G143 H144.size 49 := ⟨_, rfl⟩
  rw [← eGG147] at hTH145
  have nr_a_q146 : a ≠ H144.size := Nat.ne_of_lt hR.lt
  have la_q146 : a < H144.size := hR.lt
  replace hR := hR.kept (oH145 _ hR.lt)
  replace gq102 : G147 q102 = some 36 := by rw [eGG147]; exact gU_mono hNH145 _ _ gq102
  replace gq106 : G147 q106 = some 37 := by rw [eGG147]; exact gU_mono hNH145 _ _ gq106
  replace gq110 : G147 q110 = some 38 := by rw [eGG147]; exact gU_mono hNH145 _ _ gq110
  replace gq114 : G147 q114 = some 39 := by rw [eGG147]; exact gU_mono hNH145 _ _ gq114
  replace gq118 : G147 q118 = some 40 := by rw [eGG147]; exact gU_mono hNH145 _ _ gq118
  replace gq122 : G147 q122 = some 41 := by rw [eGG147]; exact gU_mono hNH145 _ _ gq122
  replace gq126 : G147 q126 = some 42 := by rw [eGG147]; exact gU_mono hNH145 _ _ gq126
  replace gq130 : G147 q130 = some 43 := by rw [eGG147]; exact gU_mono hNH145 _ _ gq130
  replace gq134 : G147 q134 = some 44 := by rw [eGG147]; exact gU_mono hNH145 _ _ gq134
  replace gq138 : G147 q138 = some 45 := by rw [eGG147]; exact gU_mono hNH145 _ _ gq138
  replace gq142 : G147 q142 = some 47 := by rw [eGG147]; exact gU_mono hNH145 _ _ gq142
  replace hn : G147 a = none := by rw [eGG147, gU_ne nr_a_q146]; exact hn
  replace hGo : ∀ q, q < s.heap.size → q ≠ a → G147 q = G q := fun q hq hqa => (show G147 q = G143 q by rw [eGG147, gU_ne (Nat.ne_of_lt (Nat.lt_of_lt_of_le hq hSH144.1))]).trans (hGo q hq hqa)
  have gq146 : G147 H144.size = some 49 := by rw [eGG147]; exact gU_at
  obtain ⟨q146, eq146⟩ : ∃ q, q = H144.size := ⟨_, rfl⟩
  have leq146 : s.heap.size ≤ q146 := by rw [eq146]; exact hSH144.1
  rw [← eq146] at gq146 la_q146 nr_a_q146
  rw [← eq146]
  clear eq146
  clear hNH145 eGG147 oH145 zH145 vH145 hTH144
  refine x_putR C hTH145 hSH145 (ci := 0) (k := 17) (v := .ref q146) (ty0 := tyX0) hR hn rfl inX0 tyX0_ok nmX0 (by decide) (Or.inr ⟨rfl, rfl, rfl⟩) wF_X0_47 (Nat.le_of_ble_eq_true rfl) rfl rfl (Or.inl rfl) dX0_init_105 (fun H148 locsH148 hR2 hTH148 hSH148 oH148 zH148 => ?_)
  clear hR
  have hR : RAW K H148 a 0 [.int 0, .ref q102, .ref q106, .ref q110, .ref q114, .ref q118, .ref q122, .ref q126, .int 0, .int 0, .ref q130, .ref q134, .ref q138, .ref q142, .int 0, .int 0, .int 0, .ref q146] := hR2
  clear hR2
  clear oH148 zH148 hTH145
  have hTZ := x_born (t := 35) hTH148 hn hR rfl rg_35 rfl (fun k f h => match k, f, h with | 0, _, h => by cases h; exact ⟨_, rfl, 0, rfl, by decide, by decide⟩ | 1, _, h => by cases h; exact ⟨_, rfl, q102, rfl, gU_mono hn _ _ gq102⟩ | 2, _, h => by cases h; exact ⟨_, rfl, q106, rfl, gU_mono hn _ _ gq106⟩ | 3, _, h => by cases h; exact ⟨_, rfl, q110, rfl, gU_mono hn _ _ gq110⟩ | 4, _, h => by cases h; exact ⟨_, rfl, q114, rfl, gU_mono hn _ _ gq114⟩ | 5, _, h => by cases h; exact ⟨_, rfl, q118, rfl, gU_mono hn _ _ gq118⟩ | 6, _, h => by cases h; exact ⟨_, rfl, q122, rfl, gU_mono hn _ _ gq122⟩ | 7, _, h => by cases h; exact ⟨_, rfl, q126, rfl, gU_mono hn _ _ gq126⟩ | 8, _, h => by cases h; exact ⟨_, rfl, 0, rfl, by decide, by decide⟩ | 9, _, h => by cases h; exact ⟨_, rfl, 0, rfl, by decide, by decide⟩ | 10, _, h => by cases h; exact ⟨_, rfl, q130, rfl, gU_mono hn _ _ gq130⟩ | 11, _, h => by cases h; exact ⟨_, rfl, q134, rfl, gU_mono hn _ _ gq134⟩ | 12, _, h => by cases h; exact ⟨_, rfl, q138, rfl, gU_mono hn _ _ gq138⟩ | 13, _, h => by cases h; exact ⟨_, rfl, q142, rfl, gU_mono hn _ _ gq142⟩ | 14, _, h => by cases h; exact ⟨_, rfl, 0, rfl, by decide, by decide⟩ | 15, _, h => by cases h; exact ⟨_, rfl, 0, rfl, by decide, by decide⟩ | 16, _, h => by cases h; exact ⟨_, rfl, 0, rfl, by decide, by decide⟩ | 17, _, h => by cases h; exact ⟨_, rfl, q146, rfl, gU_mono hn _ _ gq146⟩ | k + 18, _, h => by simp at h)
  exact x_vret C hQ dX0_init_108 hSH148 (by decide) (by decide) (⟨rfl, gU G147 a 35, fun q hq hqa => by rw [gU_ne hqa]; exact hGo q hq hqa, gU_at, hTZ, (fun k hk => by simp only [RKB, List.mem_cons, List.not_mem_nil, or_false] at hk; rcases hk with rfl | rfl | rfl | rfl | rfl | rfl | rfl | rfl | rfl | rfl | rfl | rfl; exact (kn_r (hR.fv (k := 1) rfl (by decide) rfl)) ▸ la_q102; exact (kn_r (hR.fv (k := 2) rfl (by decide) rfl)) ▸ la_q106; exact (kn_r (hR.fv (k := 3) rfl (by decide) rfl)) ▸ la_q110; exact (kn_r (hR.fv (k := 4) rfl (by decide) rfl)) ▸ la_q114; exact (kn_r (hR.fv (k := 5) rfl (by decide) rfl)) ▸ la_q118; exact (kn_r (hR.fv (k := 6) rfl (by decide) rfl)) ▸ la_q122; exact (kn_r (hR.fv (k := 7) rfl (by decide) rfl)) ▸ la_q126; exact (kn_r (hR.fv (k := 10) rfl (by decide) rfl)) ▸ la_q130; exact (kn_r (hR.fv (k := 11) rfl (by decide) rfl)) ▸ la_q134; exact (kn_r (hR.fv (k := 12) rfl (by decide) rfl)) ▸ la_q138; exact (kn_r (hR.fv (k := 13) rfl (by decide) rfl)) ▸ la_q142; exact (kn_r (hR.fv (k := 17) rfl (by decide) rfl)) ▸ la_q146)⟩)

set_option maxHeartbeats 4000000 in
set_option maxRecDepth 100000 in
theorem k_X7_init_now_T_x (l : Launch) (K : KE) (G : Nat → Option Nat) (H : Heap) {a : Nat} (hT : TY K G H) (hn : G a = none) (hR : RAW K H a 7 [.int 0, .null, .null, .null, .null, .null, .null, .null, .null, .int 0]) : MX l K yX7_init cX7_init 1 none 1 12 8 612 [.ref a] H (fun q => q = a ∨ H.size ≤ q) (fun v H1 => v = none ∧ ∃ G1 : Nat → Option Nat, (∀ q, q < H.size → q ≠ a → G1 q = G q) ∧ G1 a = some 16 ∧ TY K G1 H1 ∧ BK1 K H1 7 RKT a ∧ fI H1 a (K.1.2 7 0) = 0) := by
  refine MX.of (by decide +kernel) (Nat.le_of_ble_eq_true rfl) ?_
  intro p e s m below meth c ls Q C hH hl hQ
  subst hH
  have C : CX p K s m _ meth c RX7 cX7_init 1 none "<init>" := C
  obtain ⟨hx, hb, hml, hown, hts, hKT, hr, hlocks, hnm⟩ := id C
  have hl : lv_has ls 1 [(0, .ref a)] := hl
  have hS : va_S (fun q => q = a ∨ s.heap.size ≤ q) s.heap s.heap [] := va_S.rf
  have n_0 : (0 : Int32).toInt = 0 := rfl
  have n_16 : (16 : Int32).toInt = 16 := rfl
  have n_500 : (500 : Int32).toInt = 500 := rfl
  have hGo : ∀ q, q < s.heap.size → q ≠ a → G q = G q := fun _ _ _ => rfl
  refine lv_aload_n hx hb dX7_init_0 rfl (lv_at hl 0 rfl) ?_
  refine x_objInit C wM_X7_3 wIM_OBJ wCD_OBJ hl.1 (by decide) dX7_init_1 ?_
  refine lv_aload_n hx hb dX7_init_4 rfl (lv_at hl 0 rfl) ?_
  refine lv_bipush (v := 16) hx hb dX7_init_5 (by decide) ?_
  refine x_newa C hT hS wAC_int rg_17 (by decide) rfl (by decide) ⟨by decide, by decide⟩ dX7_init_7 (fun H101 hTH101 hSH101 oH101 zH101 vH101 => ?_)
  have hNH101 : G s.heap.size = none := hT.gb _ (Nat.le_refl _)
  obtain ⟨G103, eGG103⟩ : ∃ g, g = gU G s.heap.size 17 := ⟨_, rfl⟩
  rw [← eGG103] at hTH101
  have nr_a_q102 : a ≠ s.heap.size := Nat.ne_of_lt hR.lt
  have la_q102 : a < s.heap.size := hR.lt
  replace hR := hR.kept (oH101 _ hR.lt)
  replace hn : G103 a = none := by rw [eGG103, gU_ne nr_a_q102]; exact hn
  replace hGo : ∀ q, q < s.heap.size → q ≠ a → G103 q = G q := fun q hq hqa => (show G103 q = G q by rw [eGG103, gU_ne (Nat.ne_of_lt (Nat.lt_of_lt_of_le hq hS.1))]).trans (hGo q hq hqa)
  have gq102 : G103 s.heap.size = some 17 := by rw [eGG103]; exact gU_at
  obtain ⟨q102, eq102⟩ : ∃ q, q = s.heap.size := ⟨_, rfl⟩
  have leq102 : s.heap.size ≤ q102 := by rw [eq102]; exact hS.1
  rw [← eq102] at gq102 la_q102 nr_a_q102
  rw [← eq102]
  clear eq102
  clear hNH101 eGG103 oH101 zH101 vH101 hT
  refine x_putR C hTH101 hSH101 (ci := 7) (k := 1) (v := .ref q102) (ty0 := tyX7) hR hn rfl inX7 tyX7_ok nmX7 (by decide) (Or.inr ⟨rfl, rfl, rfl⟩) wF_X7_9 (Nat.le_of_ble_eq_true rfl) rfl rfl (Or.inl rfl) dX7_init_9 (fun H104 locsH104 hR2 hTH104 hSH104 oH104 zH104 => ?_)
  clear hR
  have hR : RAW K H104 a 7 [.int 0, .ref q102, .null, .null, .null, .null, .null, .null, .null, .int 0] := hR2
  clear hR2
  clear oH104 zH104 hTH101
  refine lv_aload_n hx hb dX7_init_12 rfl (lv_at hl 0 rfl) ?_
  refine lv_bipush (v := 16) hx hb dX7_init_13 (by decide) ?_
  refine x_newa C hTH104 hSH104 wAC_int rg_18 (by decide) rfl (by decide) ⟨by decide, by decide⟩ dX7_init_15 (fun H105 hTH105 hSH105 oH105 zH105 vH105 => ?_)
  have hNH105 : G103 H104.size = none := hTH104.gb _ (Nat.le_refl _)
  obtain ⟨G107, eGG107⟩ : ∃ g, g = gU G103 H104.size 18 := ⟨_, rfl⟩
  rw [← eGG107] at hTH105
  have nr_a_q106 : a ≠ H104.size := Nat.ne_of_lt hR.lt
  have la_q106 : a < H104.size := hR.lt
  replace hR := hR.kept (oH105 _ hR.lt)
  replace gq102 : G107 q102 = some 17 := by rw [eGG107]; exact gU_mono hNH105 _ _ gq102
  replace hn : G107 a = none := by rw [eGG107, gU_ne nr_a_q106]; exact hn
  replace hGo : ∀ q, q < s.heap.size → q ≠ a → G107 q = G q := fun q hq hqa => (show G107 q = G103 q by rw [eGG107, gU_ne (Nat.ne_of_lt (Nat.lt_of_lt_of_le hq hSH104.1))]).trans (hGo q hq hqa)
  have gq106 : G107 H104.size = some 18 := by rw [eGG107]; exact gU_at
  obtain ⟨q106, eq106⟩ : ∃ q, q = H104.size := ⟨_, rfl⟩
  have leq106 : s.heap.size ≤ q106 := by rw [eq106]; exact hSH104.1
  rw [← eq106] at gq106 la_q106 nr_a_q106
  rw [← eq106]
  clear eq106
  clear hNH105 eGG107 oH105 zH105 vH105 hTH104
  refine x_putR C hTH105 hSH105 (ci := 7) (k := 2) (v := .ref q106) (ty0 := tyX7) hR hn rfl inX7 tyX7_ok nmX7 (by decide) (Or.inr ⟨rfl, rfl, rfl⟩) wF_X7_15 (Nat.le_of_ble_eq_true rfl) rfl rfl (Or.inl rfl) dX7_init_17 (fun H108 locsH108 hR2 hTH108 hSH108 oH108 zH108 => ?_)
  clear hR
  have hR : RAW K H108 a 7 [.int 0, .ref q102, .ref q106, .null, .null, .null, .null, .null, .null, .int 0] := hR2
  clear hR2
  clear oH108 zH108 hTH105
  refine lv_aload_n hx hb dX7_init_20 rfl (lv_at hl 0 rfl) ?_
  refine lv_bipush (v := 16) hx hb dX7_init_21 (by decide) ?_
  refine x_newa C hTH108 hSH108 wAC_int rg_19 (by decide) rfl (by decide) ⟨by decide, by decide⟩ dX7_init_23 (fun H109 hTH109 hSH109 oH109 zH109 vH109 => ?_)
  have hNH109 : G107 H108.size = none := hTH108.gb _ (Nat.le_refl _)
  obtain ⟨G111, eGG111⟩ : ∃ g, g = gU G107 H108.size 19 := ⟨_, rfl⟩
  rw [← eGG111] at hTH109
  have nr_a_q110 : a ≠ H108.size := Nat.ne_of_lt hR.lt
  have la_q110 : a < H108.size := hR.lt
  replace hR := hR.kept (oH109 _ hR.lt)
  replace gq102 : G111 q102 = some 17 := by rw [eGG111]; exact gU_mono hNH109 _ _ gq102
  replace gq106 : G111 q106 = some 18 := by rw [eGG111]; exact gU_mono hNH109 _ _ gq106
  replace hn : G111 a = none := by rw [eGG111, gU_ne nr_a_q110]; exact hn
  replace hGo : ∀ q, q < s.heap.size → q ≠ a → G111 q = G q := fun q hq hqa => (show G111 q = G107 q by rw [eGG111, gU_ne (Nat.ne_of_lt (Nat.lt_of_lt_of_le hq hSH108.1))]).trans (hGo q hq hqa)
  have gq110 : G111 H108.size = some 19 := by rw [eGG111]; exact gU_at
  obtain ⟨q110, eq110⟩ : ∃ q, q = H108.size := ⟨_, rfl⟩
  have leq110 : s.heap.size ≤ q110 := by rw [eq110]; exact hSH108.1
  rw [← eq110] at gq110 la_q110 nr_a_q110
  rw [← eq110]
  clear eq110
  clear hNH109 eGG111 oH109 zH109 vH109 hTH108
  refine x_putR C hTH109 hSH109 (ci := 7) (k := 3) (v := .ref q110) (ty0 := tyX7) hR hn rfl inX7 tyX7_ok nmX7 (by decide) (Or.inr ⟨rfl, rfl, rfl⟩) wF_X7_18 (Nat.le_of_ble_eq_true rfl) rfl rfl (Or.inl rfl) dX7_init_25 (fun H112 locsH112 hR2 hTH112 hSH112 oH112 zH112 => ?_)
  clear hR
  have hR : RAW K H112 a 7 [.int 0, .ref q102, .ref q106, .ref q110, .null, .null, .null, .null, .null, .int 0] := hR2
  clear hR2
  clear oH112 zH112 hTH109
  refine lv_aload_n hx hb dX7_init_28 rfl (lv_at hl 0 rfl) ?_
  refine lv_bipush (v := 16) hx hb dX7_init_29 (by decide) ?_
  refine x_newa C hTH112 hSH112 wAC_int rg_20 (by decide) rfl (by decide) ⟨by decide, by decide⟩ dX7_init_31 (fun H113 hTH113 hSH113 oH113 zH113 vH113 => ?_)
  have hNH113 : G111 H112.size = none := hTH112.gb _ (Nat.le_refl _)
  obtain ⟨G115, eGG115⟩ : ∃ g, g = gU G111 H112.size 20 := ⟨_, rfl⟩
  rw [← eGG115] at hTH113
  have nr_a_q114 : a ≠ H112.size := Nat.ne_of_lt hR.lt
  have la_q114 : a < H112.size := hR.lt
  replace hR := hR.kept (oH113 _ hR.lt)
  replace gq102 : G115 q102 = some 17 := by rw [eGG115]; exact gU_mono hNH113 _ _ gq102
  replace gq106 : G115 q106 = some 18 := by rw [eGG115]; exact gU_mono hNH113 _ _ gq106
  replace gq110 : G115 q110 = some 19 := by rw [eGG115]; exact gU_mono hNH113 _ _ gq110
  replace hn : G115 a = none := by rw [eGG115, gU_ne nr_a_q114]; exact hn
  replace hGo : ∀ q, q < s.heap.size → q ≠ a → G115 q = G q := fun q hq hqa => (show G115 q = G111 q by rw [eGG115, gU_ne (Nat.ne_of_lt (Nat.lt_of_lt_of_le hq hSH112.1))]).trans (hGo q hq hqa)
  have gq114 : G115 H112.size = some 20 := by rw [eGG115]; exact gU_at
  obtain ⟨q114, eq114⟩ : ∃ q, q = H112.size := ⟨_, rfl⟩
  have leq114 : s.heap.size ≤ q114 := by rw [eq114]; exact hSH112.1
  rw [← eq114] at gq114 la_q114 nr_a_q114
  rw [← eq114]
  clear eq114
  clear hNH113 eGG115 oH113 zH113 vH113 hTH112
  refine x_putR C hTH113 hSH113 (ci := 7) (k := 4) (v := .ref q114) (ty0 := tyX7) hR hn rfl inX7 tyX7_ok nmX7 (by decide) (Or.inr ⟨rfl, rfl, rfl⟩) wF_X7_21 (Nat.le_of_ble_eq_true rfl) rfl rfl (Or.inl rfl) dX7_init_33 (fun H116 locsH116 hR2 hTH116 hSH116 oH116 zH116 => ?_)
  clear hR
  have hR : RAW K H116 a 7 [.int 0, .ref q102, .ref q106, .ref q110, .ref q114, .null, .null, .null, .null, .int 0] := hR2
  clear hR2
  clear oH116 zH116 hTH113
  refine lv_aload_n hx hb dX7_init_36 rfl (lv_at hl 0 rfl) ?_
  refine lv_bipush (v := 16) hx hb dX7_init_37 (by decide) ?_
  refine x_newa C hTH116 hSH116 wAC_int rg_21 (by decide) rfl (by decide) ⟨by decide, by decide⟩ dX7_init_39 (fun H117 hTH117 hSH117 oH117 zH117 vH117 => ?_)
  have hNH117 : G115 H116.size = none := hTH116.gb _ (Nat.le_refl _)
  obtain ⟨G119, eGG119⟩ : ∃ g, g = gU G115 H116.size 21 := ⟨_, rfl⟩
  rw [← eGG119] at hTH117
  have nr_a_q118 : a ≠ H116.size := Nat.ne_of_lt hR.lt
  have la_q118 : a < H116.size := hR.lt
  replace hR := hR.kept (oH117 _ hR.lt)
  replace gq102 : G119 q102 = some 17 := by rw [eGG119]; exact gU_mono hNH117 _ _ gq102
  replace gq106 : G119 q106 = some 18 := by rw [eGG119]; exact gU_mono hNH117 _ _ gq106
  replace gq110 : G119 q110 = some 19 := by rw [eGG119]; exact gU_mono hNH117 _ _ gq110
  replace gq114 : G119 q114 = some 20 := by rw [eGG119]; exact gU_mono hNH117 _ _ gq114
  replace hn : G119 a = none := by rw [eGG119, gU_ne nr_a_q118]; exact hn
  replace hGo : ∀ q, q < s.heap.size → q ≠ a → G119 q = G q := fun q hq hqa => (show G119 q = G115 q by rw [eGG119, gU_ne (Nat.ne_of_lt (Nat.lt_of_lt_of_le hq hSH116.1))]).trans (hGo q hq hqa)
  have gq118 : G119 H116.size = some 21 := by rw [eGG119]; exact gU_at
  obtain ⟨q118, eq118⟩ : ∃ q, q = H116.size := ⟨_, rfl⟩
  have leq118 : s.heap.size ≤ q118 := by rw [eq118]; exact hSH116.1
  rw [← eq118] at gq118 la_q118 nr_a_q118
  rw [← eq118]
  clear eq118
  clear hNH117 eGG119 oH117 zH117 vH117 hTH116
  refine x_putR C hTH117 hSH117 (ci := 7) (k := 5) (v := .ref q118) (ty0 := tyX7) hR hn rfl inX7 tyX7_ok nmX7 (by decide) (Or.inr ⟨rfl, rfl, rfl⟩) wF_X7_24 (Nat.le_of_ble_eq_true rfl) rfl rfl (Or.inl rfl) dX7_init_41 (fun H120 locsH120 hR2 hTH120 hSH120 oH120 zH120 => ?_)
  clear hR
  have hR : RAW K H120 a 7 [.int 0, .ref q102, .ref q106, .ref q110, .ref q114, .ref q118, .null, .null, .null, .int 0] := hR2
  clear hR2
  clear oH120 zH120 hTH117
  refine lv_aload_n hx hb dX7_init_44 rfl (lv_at hl 0 rfl) ?_
  refine lv_bipush (v := 16) hx hb dX7_init_45 (by decide) ?_
  refine x_newa C hTH120 hSH120 wAC_int rg_22 (by decide) rfl (by decide) ⟨by decide, by decide⟩ dX7_init_47 (fun H121 hTH121 hSH121 oH121 zH121 vH121 => ?_)
  have hNH121 : G119 H120.size = none := hTH120.gb _ (Nat.le_refl _)
  obtain ⟨G123, eGG123⟩ : ∃ g, g = gU G119 H120.size 22 := ⟨_, rfl⟩
  rw [← eGG123] at hTH121
  have nr_a_q122 : a ≠ H120.size := Nat.ne_of_lt hR.lt
  have la_q122 : a < H120.size := hR.lt
  replace hR := hR.kept (oH121 _ hR.lt)
  replace gq102 : G123 q102 = some 17 := by rw [eGG123]; exact gU_mono hNH121 _ _ gq102
  replace gq106 : G123 q106 = some 18 := by rw [eGG123]; exact gU_mono hNH121 _ _ gq106
  replace gq110 : G123 q110 = some 19 := by rw [eGG123]; exact gU_mono hNH121 _ _ gq110
  replace gq114 : G123 q114 = some 20 := by rw [eGG123]; exact gU_mono hNH121 _ _ gq114
  replace gq118 : G123 q118 = some 21 := by rw [eGG123]; exact gU_mono hNH121 _ _ gq118
  replace hn : G123 a = none := by rw [eGG123, gU_ne nr_a_q122]; exact hn
  replace hGo : ∀ q, q < s.heap.size → q ≠ a → G123 q = G q := fun q hq hqa => (show G123 q = G119 q by rw [eGG123, gU_ne (Nat.ne_of_lt (Nat.lt_of_lt_of_le hq hSH120.1))]).trans (hGo q hq hqa)
  have gq122 : G123 H120.size = some 22 := by rw [eGG123]; exact gU_at
  obtain ⟨q122, eq122⟩ : ∃ q, q = H120.size := ⟨_, rfl⟩
  have leq122 : s.heap.size ≤ q122 := by rw [eq122]; exact hSH120.1
  rw [← eq122] at gq122 la_q122 nr_a_q122
  rw [← eq122]
  clear eq122
  clear hNH121 eGG123 oH121 zH121 vH121 hTH120
  refine x_putR C hTH121 hSH121 (ci := 7) (k := 6) (v := .ref q122) (ty0 := tyX7) hR hn rfl inX7 tyX7_ok nmX7 (by decide) (Or.inr ⟨rfl, rfl, rfl⟩) wF_X7_27 (Nat.le_of_ble_eq_true rfl) rfl rfl (Or.inl rfl) dX7_init_49 (fun H124 locsH124 hR2 hTH124 hSH124 oH124 zH124 => ?_)
  clear hR
  have hR : RAW K H124 a 7 [.int 0, .ref q102, .ref q106, .ref q110, .ref q114, .ref q118, .ref q122, .null, .null, .int 0] := hR2
  clear hR2
  clear oH124 zH124 hTH121
  refine lv_aload_n hx hb dX7_init_52 rfl (lv_at hl 0 rfl) ?_
  refine lv_bipush (v := 16) hx hb dX7_init_53 (by decide) ?_
  refine x_newa C hTH124 hSH124 wAC_int rg_23 (by decide) rfl (by decide) ⟨by decide, by decide⟩ dX7_init_55 (fun H125 hTH125 hSH125 oH125 zH125 vH125 => ?_)
  have hNH125 : G123 H124.size = none := hTH124.gb _ (Nat.le_refl _)
  obtain ⟨G127, eGG127⟩ : ∃ g, g = gU G123 H124.size 23 := ⟨_, rfl⟩
  rw [← eGG127] at hTH125
  have nr_a_q126 : a ≠ H124.size := Nat.ne_of_lt hR.lt
  have la_q126 : a < H124.size := hR.lt
  replace hR := hR.kept (oH125 _ hR.lt)
  replace gq102 : G127 q102 = some 17 := by rw [eGG127]; exact gU_mono hNH125 _ _ gq102
  replace gq106 : G127 q106 = some 18 := by rw [eGG127]; exact gU_mono hNH125 _ _ gq106
  replace gq110 : G127 q110 = some 19 := by rw [eGG127]; exact gU_mono hNH125 _ _ gq110
  replace gq114 : G127 q114 = some 20 := by rw [eGG127]; exact gU_mono hNH125 _ _ gq114
  replace gq118 : G127 q118 = some 21 := by rw [eGG127]; exact gU_mono hNH125 _ _ gq118
  replace gq122 : G127 q122 = some 22 := by rw [eGG127]; exact gU_mono hNH125 _ _ gq122
  replace hn : G127 a = none := by rw [eGG127, gU_ne nr_a_q126]; exact hn
  replace hGo : ∀ q, q < s.heap.size → q ≠ a → G127 q = G q := fun q hq hqa => (show G127 q = G123 q by rw [eGG127, gU_ne (Nat.ne_of_lt (Nat.lt_of_lt_of_le hq hSH124.1))]).trans (hGo q hq hqa)
  have gq126 : G127 H124.size = some 23 := by rw [eGG127]; exact gU_at
  obtain ⟨q126, eq126⟩ : ∃ q, q = H124.size := ⟨_, rfl⟩
  have leq126 : s.heap.size ≤ q126 := by rw [eq126]; exact hSH124.1
  rw [← eq126] at gq126 la_q126 nr_a_q126
  rw [← eq126]
  clear eq126
  clear hNH125 eGG127 oH125 zH125 vH125 hTH124
  refine x_putR C hTH125 hSH125 (ci := 7) (k := 7) (v := .ref q126) (ty0 := tyX7) hR hn rfl inX7 tyX7_ok nmX7 (by decide) (Or.inr ⟨rfl, rfl, rfl⟩) wF_X7_30 (Nat.le_of_ble_eq_true rfl) rfl rfl (Or.inl rfl) dX7_init_57 (fun H128 locsH128 hR2 hTH128 hSH128 oH128 zH128 => ?_)
  clear hR
  have hR : RAW K H128 a 7 [.int 0, .ref q102, .ref q106, .ref q110, .ref q114, .ref q118, .ref q122, .ref q126, .null, .int 0] := hR2
  clear hR2
  clear oH128 zH128 hTH125
  refine lv_aload_n hx hb dX7_init_60 rfl (lv_at hl 0 rfl) ?_
  refine lv_sipush (v := 500) hx hb dX7_init_61 (by decide) ?_
  refine x_newa C hTH128 hSH128 wAC_int rg_24 (by decide) rfl (by decide) ⟨by decide, by decide⟩ dX7_init_64 (fun H129 hTH129 hSH129 oH129 zH129 vH129 => ?_)
  have hNH129 : G127 H128.size = none := hTH128.gb _ (Nat.le_refl _)
  obtain ⟨G131, eGG131⟩ : ∃ g, g = gU G127 H128.size 24 := ⟨_, rfl⟩
  rw [← eGG131] at hTH129
  have nr_a_q130 : a ≠ H128.size := Nat.ne_of_lt hR.lt
  have la_q130 : a < H128.size := hR.lt
  replace hR := hR.kept (oH129 _ hR.lt)
  replace gq102 : G131 q102 = some 17 := by rw [eGG131]; exact gU_mono hNH129 _ _ gq102
  replace gq106 : G131 q106 = some 18 := by rw [eGG131]; exact gU_mono hNH129 _ _ gq106
  replace gq110 : G131 q110 = some 19 := by rw [eGG131]; exact gU_mono hNH129 _ _ gq110
  replace gq114 : G131 q114 = some 20 := by rw [eGG131]; exact gU_mono hNH129 _ _ gq114
  replace gq118 : G131 q118 = some 21 := by rw [eGG131]; exact gU_mono hNH129 _ _ gq118
  replace gq122 : G131 q122 = some 22 := by rw [eGG131]; exact gU_mono hNH129 _ _ gq122
  replace gq126 : G131 q126 = some 23 := by rw [eGG131]; exact gU_mono hNH129 _ _ gq126
  replace hn : G131 a = none := by rw [eGG131, gU_ne nr_a_q130]; exact hn
  replace hGo : ∀ q, q < s.heap.size → q ≠ a → G131 q = G q := fun q hq hqa => (show G131 q = G127 q by rw [eGG131, gU_ne (Nat.ne_of_lt (Nat.lt_of_lt_of_le hq hSH128.1))]).trans (hGo q hq hqa)
  have gq130 : G131 H128.size = some 24 := by rw [eGG131]; exact gU_at
  obtain ⟨q130, eq130⟩ : ∃ q, q = H128.size := ⟨_, rfl⟩
  have leq130 : s.heap.size ≤ q130 := by rw [eq130]; exact hSH128.1
  rw [← eq130] at gq130 la_q130 nr_a_q130
  rw [← eq130]
  clear eq130
  clear hNH129 eGG131 oH129 zH129 vH129 hTH128
  refine x_putR C hTH129 hSH129 (ci := 7) (k := 8) (v := .ref q130) (ty0 := tyX7) hR hn rfl inX7 tyX7_ok nmX7 (by decide) (Or.inr ⟨rfl, rfl, rfl⟩) wF_X7_33 (Nat.le_of_ble_eq_true rfl) rfl rfl (Or.inl rfl) dX7_init_66 (fun H132 locsH132 hR2 hTH132 hSH132 oH132 zH132 => ?_)
  clear hR
  have hR : RAW K H132 a 7 [.int 0, .ref q102, .ref q106, .ref q110, .ref q114, .ref q118, .ref q122, .ref q126, .ref q130, .int 0] := hR2
  clear hR2
  clear oH132 zH132 hTH129
  have hTZ := x_born (t := 16) hTH132 hn hR rfl rg_16 rfl (fun k f h => match k, f, h with | 0, _, h => by cases h; exact ⟨_, rfl, 0, rfl, by decide, by decide⟩ | 1, _, h => by cases h; exact ⟨_, rfl, q102, rfl, gU_mono hn _ _ gq102⟩ | 2, _, h => by cases h; exact ⟨_, rfl, q106, rfl, gU_mono hn _ _ gq106⟩ | 3, _, h => by cases h; exact ⟨_, rfl, q110, rfl, gU_mono hn _ _ gq110⟩ | 4, _, h => by cases h; exact ⟨_, rfl, q114, rfl, gU_mono hn _ _ gq114⟩ | 5, _, h => by cases h; exact ⟨_, rfl, q118, rfl, gU_mono hn _ _ gq118⟩ | 6, _, h => by cases h; exact ⟨_, rfl, q122, rfl, gU_mono hn _ _ gq122⟩ | 7, _, h => by cases h; exact ⟨_, rfl, q126, rfl, gU_mono hn _ _ gq126⟩ | 8, _, h => by cases h; exact ⟨_, rfl, q130, rfl, gU_mono hn _ _ gq130⟩ | 9, _, h => by cases h; exact ⟨_, rfl, 0, rfl, by decide, by decide⟩ | k + 10, _, h => by simp at h)
  exact x_vret C hQ dX7_init_69 hSH132 (by decide) (by decide) (⟨rfl, gU G131 a 16, fun q hq hqa => by rw [gU_ne hqa]; exact hGo q hq hqa, gU_at, hTZ, (fun k hk => by simp only [RKT, List.mem_cons, List.not_mem_nil, or_false] at hk; rcases hk with rfl | rfl | rfl | rfl | rfl | rfl | rfl | rfl; exact (kn_r (hR.fv (k := 1) rfl (by decide) rfl)) ▸ la_q102; exact (kn_r (hR.fv (k := 2) rfl (by decide) rfl)) ▸ la_q106; exact (kn_r (hR.fv (k := 3) rfl (by decide) rfl)) ▸ la_q110; exact (kn_r (hR.fv (k := 4) rfl (by decide) rfl)) ▸ la_q114; exact (kn_r (hR.fv (k := 5) rfl (by decide) rfl)) ▸ la_q118; exact (kn_r (hR.fv (k := 6) rfl (by decide) rfl)) ▸ la_q122; exact (kn_r (hR.fv (k := 7) rfl (by decide) rfl)) ▸ la_q126; exact (kn_r (hR.fv (k := 8) rfl (by decide) rfl)) ▸ la_q130), kn_i (v := .int 0) (hR.fv (k := 0) rfl (by decide) rfl)⟩)

set_option maxHeartbeats 4000000 in
set_option maxRecDepth 100000 in
theorem k_X7_init_kept_T_x (l : Launch) (K : KE) (G : Nat → Option Nat) (H : Heap) {a : Nat} (hT : TY K G H) (hn : G a = none) (hR : RAW K H a 7 [.int 0, .null, .null, .null, .null, .null, .null, .null, .null, .int 0]) : MX l K yX7_init cX7_init 1 none 1 12 8 612 [.ref a] H (fun q => q = a ∨ H.size ≤ q) (fun v H1 => v = none ∧ ∃ G1 : Nat → Option Nat, (∀ q, q < H.size → q ≠ a → G1 q = G q) ∧ G1 a = some 50 ∧ TY K G1 H1 ∧ BK1 K H1 7 RKT a) := by
  refine MX.of (by decide +kernel) (Nat.le_of_ble_eq_true rfl) ?_
  intro p e s m below meth c ls Q C hH hl hQ
  subst hH
  have C : CX p K s m _ meth c RX7 cX7_init 1 none "<init>" := C
  obtain ⟨hx, hb, hml, hown, hts, hKT, hr, hlocks, hnm⟩ := id C
  have hl : lv_has ls 1 [(0, .ref a)] := hl
  have hS : va_S (fun q => q = a ∨ s.heap.size ≤ q) s.heap s.heap [] := va_S.rf
  have n_0 : (0 : Int32).toInt = 0 := rfl
  have n_16 : (16 : Int32).toInt = 16 := rfl
  have n_500 : (500 : Int32).toInt = 500 := rfl
  have hGo : ∀ q, q < s.heap.size → q ≠ a → G q = G q := fun _ _ _ => rfl
  refine lv_aload_n hx hb dX7_init_0 rfl (lv_at hl 0 rfl) ?_
  refine x_objInit C wM_X7_3 wIM_OBJ wCD_OBJ hl.1 (by decide) dX7_init_1 ?_
  refine lv_aload_n hx hb dX7_init_4 rfl (lv_at hl 0 rfl) ?_
  refine lv_bipush (v := 16) hx hb dX7_init_5 (by decide) ?_
  refine x_newa C hT hS wAC_int rg_51 (by decide) rfl (by decide) ⟨by decide, by decide⟩ dX7_init_7 (fun H101 hTH101 hSH101 oH101 zH101 vH101 => ?_)
  have hNH101 : G s.heap.size = none := hT.gb _ (Nat.le_refl _)
  obtain ⟨G103, eGG103⟩ : ∃ g, g = gU G s.heap.size 51 := ⟨_, rfl⟩
  rw [← eGG103] at hTH101
  have nr_a_q102 : a ≠ s.heap.size := Nat.ne_of_lt hR.lt
  have la_q102 : a < s.heap.size := hR.lt
  replace hR := hR.kept (oH101 _ hR.lt)
  replace hn : G103 a = none := by rw [eGG103, gU_ne nr_a_q102]; exact hn
  replace hGo : ∀ q, q < s.heap.size → q ≠ a → G103 q = G q := fun q hq hqa => (show G103 q = G q by rw [eGG103, gU_ne (Nat.ne_of_lt (Nat.lt_of_lt_of_le hq hS.1))]).trans (hGo q hq hqa)
  have gq102 : G103 s.heap.size = some 51 := by rw [eGG103]; exact gU_at
  obtain ⟨q102, eq102⟩ : ∃ q, q = s.heap.size := ⟨_, rfl⟩
  have leq102 : s.heap.size ≤ q102 := by rw [eq102]; exact hS.1
  rw [← eq102] at gq102 la_q102 nr_a_q102
  rw [← eq102]
  clear eq102
  clear hNH101 eGG103 oH101 zH101 vH101 hT
  refine x_putR C hTH101 hSH101 (ci := 7) (k := 1) (v := .ref q102) (ty0 := tyX7) hR hn rfl inX7 tyX7_ok nmX7 (by decide) (Or.inr ⟨rfl, rfl, rfl⟩) wF_X7_9 (Nat.le_of_ble_eq_true rfl) rfl rfl (Or.inl rfl) dX7_init_9 (fun H104 locsH104 hR2 hTH104 hSH104 oH104 zH104 => ?_)
  clear hR
  have hR : RAW K H104 a 7 [.int 0, .ref q102, .null, .null, .null, .null, .null, .null, .null, .int 0] := hR2
  clear hR2
  clear oH104 zH104 hTH101
  refine lv_aload_n hx hb dX7_init_12 rfl (lv_at hl 0 rfl) ?_
  refine lv_bipush (v := 16) hx hb dX7_init_13 (by decide) ?_
  refine x_newa C hTH104 hSH104 wAC_int rg_52 (by decide) rfl (by decide) ⟨by decide, by decide⟩ dX7_init_15 (fun H105 hTH105 hSH105 oH105 zH105 vH105 => ?_)
  have hNH105 : G103 H104.size = none := hTH104.gb _ (Nat.le_refl _)
  obtain ⟨G107, eGG107⟩ : ∃ g, g = gU G103 H104.size 52 := ⟨_, rfl⟩
  rw [← eGG107] at hTH105
  have nr_a_q106 : a ≠ H104.size := Nat.ne_of_lt hR.lt
  have la_q106 : a < H104.size := hR.lt
  replace hR := hR.kept (oH105 _ hR.lt)
  replace gq102 : G107 q102 = some 51 := by rw [eGG107]; exact gU_mono hNH105 _ _ gq102
  replace hn : G107 a = none := by rw [eGG107, gU_ne nr_a_q106]; exact hn
  replace hGo : ∀ q, q < s.heap.size → q ≠ a → G107 q = G q := fun q hq hqa => (show G107 q = G103 q by rw [eGG107, gU_ne (Nat.ne_of_lt (Nat.lt_of_lt_of_le hq hSH104.1))]).trans (hGo q hq hqa)
  have gq106 : G107 H104.size = some 52 := by rw [eGG107]; exact gU_at
  obtain ⟨q106, eq106⟩ : ∃ q, q = H104.size := ⟨_, rfl⟩
  have leq106 : s.heap.size ≤ q106 := by rw [eq106]; exact hSH104.1
  rw [← eq106] at gq106 la_q106 nr_a_q106
  rw [← eq106]
  clear eq106
  clear hNH105 eGG107 oH105 zH105 vH105 hTH104
  refine x_putR C hTH105 hSH105 (ci := 7) (k := 2) (v := .ref q106) (ty0 := tyX7) hR hn rfl inX7 tyX7_ok nmX7 (by decide) (Or.inr ⟨rfl, rfl, rfl⟩) wF_X7_15 (Nat.le_of_ble_eq_true rfl) rfl rfl (Or.inl rfl) dX7_init_17 (fun H108 locsH108 hR2 hTH108 hSH108 oH108 zH108 => ?_)
  clear hR
  have hR : RAW K H108 a 7 [.int 0, .ref q102, .ref q106, .null, .null, .null, .null, .null, .null, .int 0] := hR2
  clear hR2
  clear oH108 zH108 hTH105
  refine lv_aload_n hx hb dX7_init_20 rfl (lv_at hl 0 rfl) ?_
  refine lv_bipush (v := 16) hx hb dX7_init_21 (by decide) ?_
  refine x_newa C hTH108 hSH108 wAC_int rg_53 (by decide) rfl (by decide) ⟨by decide, by decide⟩ dX7_init_23 (fun H109 hTH109 hSH109 oH109 zH109 vH109 => ?_)
  have hNH109 : G107 H108.size = none := hTH108.gb _ (Nat.le_refl _)
  obtain ⟨G111, eGG111⟩ : ∃ g, g = gU G107 H108.size 53 := ⟨_, rfl⟩
  rw [← eGG111] at hTH109
  have nr_a_q110 : a ≠ H108.size := Nat.ne_of_lt hR.lt
  have la_q110 : a < H108.size := hR.lt
  replace hR := hR.kept (oH109 _ hR.lt)
  replace gq102 : G111 q102 = some 51 := by rw [eGG111]; exact gU_mono hNH109 _ _ gq102
  replace gq106 : G111 q106 = some 52 := by rw [eGG111]; exact gU_mono hNH109 _ _ gq106
  replace hn : G111 a = none := by rw [eGG111, gU_ne nr_a_q110]; exact hn
  replace hGo : ∀ q, q < s.heap.size → q ≠ a → G111 q = G q := fun q hq hqa => (show G111 q = G107 q by rw [eGG111, gU_ne (Nat.ne_of_lt (Nat.lt_of_lt_of_le hq hSH108.1))]).trans (hGo q hq hqa)
  have gq110 : G111 H108.size = some 53 := by rw [eGG111]; exact gU_at
  obtain ⟨q110, eq110⟩ : ∃ q, q = H108.size := ⟨_, rfl⟩
  have leq110 : s.heap.size ≤ q110 := by rw [eq110]; exact hSH108.1
  rw [← eq110] at gq110 la_q110 nr_a_q110
  rw [← eq110]
  clear eq110
  clear hNH109 eGG111 oH109 zH109 vH109 hTH108
  refine x_putR C hTH109 hSH109 (ci := 7) (k := 3) (v := .ref q110) (ty0 := tyX7) hR hn rfl inX7 tyX7_ok nmX7 (by decide) (Or.inr ⟨rfl, rfl, rfl⟩) wF_X7_18 (Nat.le_of_ble_eq_true rfl) rfl rfl (Or.inl rfl) dX7_init_25 (fun H112 locsH112 hR2 hTH112 hSH112 oH112 zH112 => ?_)
  clear hR
  have hR : RAW K H112 a 7 [.int 0, .ref q102, .ref q106, .ref q110, .null, .null, .null, .null, .null, .int 0] := hR2
  clear hR2
  clear oH112 zH112 hTH109
  refine lv_aload_n hx hb dX7_init_28 rfl (lv_at hl 0 rfl) ?_
  refine lv_bipush (v := 16) hx hb dX7_init_29 (by decide) ?_
  refine x_newa C hTH112 hSH112 wAC_int rg_54 (by decide) rfl (by decide) ⟨by decide, by decide⟩ dX7_init_31 (fun H113 hTH113 hSH113 oH113 zH113 vH113 => ?_)
  have hNH113 : G111 H112.size = none := hTH112.gb _ (Nat.le_refl _)
  obtain ⟨G115, eGG115⟩ : ∃ g, g = gU G111 H112.size 54 := ⟨_, rfl⟩
  rw [← eGG115] at hTH113
  have nr_a_q114 : a ≠ H112.size := Nat.ne_of_lt hR.lt
  have la_q114 : a < H112.size := hR.lt
  replace hR := hR.kept (oH113 _ hR.lt)
  replace gq102 : G115 q102 = some 51 := by rw [eGG115]; exact gU_mono hNH113 _ _ gq102
  replace gq106 : G115 q106 = some 52 := by rw [eGG115]; exact gU_mono hNH113 _ _ gq106
  replace gq110 : G115 q110 = some 53 := by rw [eGG115]; exact gU_mono hNH113 _ _ gq110
  replace hn : G115 a = none := by rw [eGG115, gU_ne nr_a_q114]; exact hn
  replace hGo : ∀ q, q < s.heap.size → q ≠ a → G115 q = G q := fun q hq hqa => (show G115 q = G111 q by rw [eGG115, gU_ne (Nat.ne_of_lt (Nat.lt_of_lt_of_le hq hSH112.1))]).trans (hGo q hq hqa)
  have gq114 : G115 H112.size = some 54 := by rw [eGG115]; exact gU_at
  obtain ⟨q114, eq114⟩ : ∃ q, q = H112.size := ⟨_, rfl⟩
  have leq114 : s.heap.size ≤ q114 := by rw [eq114]; exact hSH112.1
  rw [← eq114] at gq114 la_q114 nr_a_q114
  rw [← eq114]
  clear eq114
  clear hNH113 eGG115 oH113 zH113 vH113 hTH112
  refine x_putR C hTH113 hSH113 (ci := 7) (k := 4) (v := .ref q114) (ty0 := tyX7) hR hn rfl inX7 tyX7_ok nmX7 (by decide) (Or.inr ⟨rfl, rfl, rfl⟩) wF_X7_21 (Nat.le_of_ble_eq_true rfl) rfl rfl (Or.inl rfl) dX7_init_33 (fun H116 locsH116 hR2 hTH116 hSH116 oH116 zH116 => ?_)
  clear hR
  have hR : RAW K H116 a 7 [.int 0, .ref q102, .ref q106, .ref q110, .ref q114, .null, .null, .null, .null, .int 0] := hR2
  clear hR2
  clear oH116 zH116 hTH113
  refine lv_aload_n hx hb dX7_init_36 rfl (lv_at hl 0 rfl) ?_
  refine lv_bipush (v := 16) hx hb dX7_init_37 (by decide) ?_
  refine x_newa C hTH116 hSH116 wAC_int rg_55 (by decide) rfl (by decide) ⟨by decide, by decide⟩ dX7_init_39 (fun H117 hTH117 hSH117 oH117 zH117 vH117 => ?_)
  have hNH117 : G115 H116.size = none := hTH116.gb _ (Nat.le_refl _)
  obtain ⟨G119, eGG119⟩ : ∃ g, g = gU G115 H116.size 55 := ⟨_, rfl⟩
  rw [← eGG119] at hTH117
  have nr_a_q118 : a ≠ H116.size := Nat.ne_of_lt hR.lt
  have la_q118 : a < H116.size := hR.lt
  replace hR := hR.kept (oH117 _ hR.lt)
  replace gq102 : G119 q102 = some 51 := by rw [eGG119]; exact gU_mono hNH117 _ _ gq102
  replace gq106 : G119 q106 = some 52 := by rw [eGG119]; exact gU_mono hNH117 _ _ gq106
  replace gq110 : G119 q110 = some 53 := by rw [eGG119]; exact gU_mono hNH117 _ _ gq110
  replace gq114 : G119 q114 = some 54 := by rw [eGG119]; exact gU_mono hNH117 _ _ gq114
  replace hn : G119 a = none := by rw [eGG119, gU_ne nr_a_q118]; exact hn
  replace hGo : ∀ q, q < s.heap.size → q ≠ a → G119 q = G q := fun q hq hqa => (show G119 q = G115 q by rw [eGG119, gU_ne (Nat.ne_of_lt (Nat.lt_of_lt_of_le hq hSH116.1))]).trans (hGo q hq hqa)
  have gq118 : G119 H116.size = some 55 := by rw [eGG119]; exact gU_at
  obtain ⟨q118, eq118⟩ : ∃ q, q = H116.size := ⟨_, rfl⟩
  have leq118 : s.heap.size ≤ q118 := by rw [eq118]; exact hSH116.1
  rw [← eq118] at gq118 la_q118 nr_a_q118
  rw [← eq118]
  clear eq118
  clear hNH117 eGG119 oH117 zH117 vH117 hTH116
  refine x_putR C hTH117 hSH117 (ci := 7) (k := 5) (v := .ref q118) (ty0 := tyX7) hR hn rfl inX7 tyX7_ok nmX7 (by decide) (Or.inr ⟨rfl, rfl, rfl⟩) wF_X7_24 (Nat.le_of_ble_eq_true rfl) rfl rfl (Or.inl rfl) dX7_init_41 (fun H120 locsH120 hR2 hTH120 hSH120 oH120 zH120 => ?_)
  clear hR
  have hR : RAW K H120 a 7 [.int 0, .ref q102, .ref q106, .ref q110, .ref q114, .ref q118, .null, .null, .null, .int 0] := hR2
  clear hR2
  clear oH120 zH120 hTH117
  refine lv_aload_n hx hb dX7_init_44 rfl (lv_at hl 0 rfl) ?_
  refine lv_bipush (v := 16) hx hb dX7_init_45 (by decide) ?_
  refine x_newa C hTH120 hSH120 wAC_int rg_56 (by decide) rfl (by decide) ⟨by decide, by decide⟩ dX7_init_47 (fun H121 hTH121 hSH121 oH121 zH121 vH121 => ?_)
  have hNH121 : G119 H120.size = none := hTH120.gb _ (Nat.le_refl _)
  obtain ⟨G123, eGG123⟩ : ∃ g, g = gU G119 H120.size 56 := ⟨_, rfl⟩
  rw [← eGG123] at hTH121
  have nr_a_q122 : a ≠ H120.size := Nat.ne_of_lt hR.lt
  have la_q122 : a < H120.size := hR.lt
  replace hR := hR.kept (oH121 _ hR.lt)
  replace gq102 : G123 q102 = some 51 := by rw [eGG123]; exact gU_mono hNH121 _ _ gq102
  replace gq106 : G123 q106 = some 52 := by rw [eGG123]; exact gU_mono hNH121 _ _ gq106
  replace gq110 : G123 q110 = some 53 := by rw [eGG123]; exact gU_mono hNH121 _ _ gq110
  replace gq114 : G123 q114 = some 54 := by rw [eGG123]; exact gU_mono hNH121 _ _ gq114
  replace gq118 : G123 q118 = some 55 := by rw [eGG123]; exact gU_mono hNH121 _ _ gq118
  replace hn : G123 a = none := by rw [eGG123, gU_ne nr_a_q122]; exact hn
  replace hGo : ∀ q, q < s.heap.size → q ≠ a → G123 q = G q := fun q hq hqa => (show G123 q = G119 q by rw [eGG123, gU_ne (Nat.ne_of_lt (Nat.lt_of_lt_of_le hq hSH120.1))]).trans (hGo q hq hqa)
  have gq122 : G123 H120.size = some 56 := by rw [eGG123]; exact gU_at
  obtain ⟨q122, eq122⟩ : ∃ q, q = H120.size := ⟨_, rfl⟩
  have leq122 : s.heap.size ≤ q122 := by rw [eq122]; exact hSH120.1
  rw [← eq122] at gq122 la_q122 nr_a_q122
  rw [← eq122]
  clear eq122
  clear hNH121 eGG123 oH121 zH121 vH121 hTH120
  refine x_putR C hTH121 hSH121 (ci := 7) (k := 6) (v := .ref q122) (ty0 := tyX7) hR hn rfl inX7 tyX7_ok nmX7 (by decide) (Or.inr ⟨rfl, rfl, rfl⟩) wF_X7_27 (Nat.le_of_ble_eq_true rfl) rfl rfl (Or.inl rfl) dX7_init_49 (fun H124 locsH124 hR2 hTH124 hSH124 oH124 zH124 => ?_)
  clear hR
  have hR : RAW K H124 a 7 [.int 0, .ref q102, .ref q106, .ref q110, .ref q114, .ref q118, .ref q122, .null, .null, .int 0] := hR2
  clear hR2
  clear oH124 zH124 hTH121
  refine lv_aload_n hx hb dX7_init_52 rfl (lv_at hl 0 rfl) ?_
  refine lv_bipush (v := 16) hx hb dX7_init_53 (by decide) ?_
  refine x_newa C hTH124 hSH124 wAC_int rg_57 (by decide) rfl (by decide) ⟨by decide, by decide⟩ dX7_init_55 (fun H125 hTH125 hSH125 oH125 zH125 vH125 => ?_)
  have hNH125 : G123 H124.size = none := hTH124.gb _ (Nat.le_refl _)
  obtain ⟨G127, eGG127⟩ : ∃ g, g = gU G123 H124.size 57 := ⟨_, rfl⟩
  rw [← eGG127] at hTH125
  have nr_a_q126 : a ≠ H124.size := Nat.ne_of_lt hR.lt
  have la_q126 : a < H124.size := hR.lt
  replace hR := hR.kept (oH125 _ hR.lt)
  replace gq102 : G127 q102 = some 51 := by rw [eGG127]; exact gU_mono hNH125 _ _ gq102
  replace gq106 : G127 q106 = some 52 := by rw [eGG127]; exact gU_mono hNH125 _ _ gq106
  replace gq110 : G127 q110 = some 53 := by rw [eGG127]; exact gU_mono hNH125 _ _ gq110
  replace gq114 : G127 q114 = some 54 := by rw [eGG127]; exact gU_mono hNH125 _ _ gq114
  replace gq118 : G127 q118 = some 55 := by rw [eGG127]; exact gU_mono hNH125 _ _ gq118
  replace gq122 : G127 q122 = some 56 := by rw [eGG127]; exact gU_mono hNH125 _ _ gq122
  replace hn : G127 a = none := by rw [eGG127, gU_ne nr_a_q126]; exact hn
  replace hGo : ∀ q, q < s.heap.size → q ≠ a → G127 q = G q := fun q hq hqa => (show G127 q = G123 q by rw [eGG127, gU_ne (Nat.ne_of_lt (Nat.lt_of_lt_of_le hq hSH124.1))]).trans (hGo q hq hqa)
  have gq126 : G127 H124.size = some 57 := by rw [eGG127]; exact gU_at
  obtain ⟨q126, eq126⟩ : ∃ q, q = H124.size := ⟨_, rfl⟩
  have leq126 : s.heap.size ≤ q126 := by rw [eq126]; exact hSH124.1
  rw [← eq126] at gq126 la_q126 nr_a_q126
  rw [← eq126]
  clear eq126
  clear hNH125 eGG127 oH125 zH125 vH125 hTH124
  refine x_putR C hTH125 hSH125 (ci := 7) (k := 7) (v := .ref q126) (ty0 := tyX7) hR hn rfl inX7 tyX7_ok nmX7 (by decide) (Or.inr ⟨rfl, rfl, rfl⟩) wF_X7_30 (Nat.le_of_ble_eq_true rfl) rfl rfl (Or.inl rfl) dX7_init_57 (fun H128 locsH128 hR2 hTH128 hSH128 oH128 zH128 => ?_)
  clear hR
  have hR : RAW K H128 a 7 [.int 0, .ref q102, .ref q106, .ref q110, .ref q114, .ref q118, .ref q122, .ref q126, .null, .int 0] := hR2
  clear hR2
  clear oH128 zH128 hTH125
  refine lv_aload_n hx hb dX7_init_60 rfl (lv_at hl 0 rfl) ?_
  refine lv_sipush (v := 500) hx hb dX7_init_61 (by decide) ?_
  refine x_newa C hTH128 hSH128 wAC_int rg_58 (by decide) rfl (by decide) ⟨by decide, by decide⟩ dX7_init_64 (fun H129 hTH129 hSH129 oH129 zH129 vH129 => ?_)
  have hNH129 : G127 H128.size = none := hTH128.gb _ (Nat.le_refl _)
  obtain ⟨G131, eGG131⟩ : ∃ g, g = gU G127 H128.size 58 := ⟨_, rfl⟩
  rw [← eGG131] at hTH129
  have nr_a_q130 : a ≠ H128.size := Nat.ne_of_lt hR.lt
  have la_q130 : a < H128.size := hR.lt
  replace hR := hR.kept (oH129 _ hR.lt)
  replace gq102 : G131 q102 = some 51 := by rw [eGG131]; exact gU_mono hNH129 _ _ gq102
  replace gq106 : G131 q106 = some 52 := by rw [eGG131]; exact gU_mono hNH129 _ _ gq106
  replace gq110 : G131 q110 = some 53 := by rw [eGG131]; exact gU_mono hNH129 _ _ gq110
  replace gq114 : G131 q114 = some 54 := by rw [eGG131]; exact gU_mono hNH129 _ _ gq114
  replace gq118 : G131 q118 = some 55 := by rw [eGG131]; exact gU_mono hNH129 _ _ gq118
  replace gq122 : G131 q122 = some 56 := by rw [eGG131]; exact gU_mono hNH129 _ _ gq122
  replace gq126 : G131 q126 = some 57 := by rw [eGG131]; exact gU_mono hNH129 _ _ gq126
  replace hn : G131 a = none := by rw [eGG131, gU_ne nr_a_q130]; exact hn
  replace hGo : ∀ q, q < s.heap.size → q ≠ a → G131 q = G q := fun q hq hqa => (show G131 q = G127 q by rw [eGG131, gU_ne (Nat.ne_of_lt (Nat.lt_of_lt_of_le hq hSH128.1))]).trans (hGo q hq hqa)
  have gq130 : G131 H128.size = some 58 := by rw [eGG131]; exact gU_at
  obtain ⟨q130, eq130⟩ : ∃ q, q = H128.size := ⟨_, rfl⟩
  have leq130 : s.heap.size ≤ q130 := by rw [eq130]; exact hSH128.1
  rw [← eq130] at gq130 la_q130 nr_a_q130
  rw [← eq130]
  clear eq130
  clear hNH129 eGG131 oH129 zH129 vH129 hTH128
  refine x_putR C hTH129 hSH129 (ci := 7) (k := 8) (v := .ref q130) (ty0 := tyX7) hR hn rfl inX7 tyX7_ok nmX7 (by decide) (Or.inr ⟨rfl, rfl, rfl⟩) wF_X7_33 (Nat.le_of_ble_eq_true rfl) rfl rfl (Or.inl rfl) dX7_init_66 (fun H132 locsH132 hR2 hTH132 hSH132 oH132 zH132 => ?_)
  clear hR
  have hR : RAW K H132 a 7 [.int 0, .ref q102, .ref q106, .ref q110, .ref q114, .ref q118, .ref q122, .ref q126, .ref q130, .int 0] := hR2
  clear hR2
  clear oH132 zH132 hTH129
  have hTZ := x_born (t := 50) hTH132 hn hR rfl rg_50 rfl (fun k f h => match k, f, h with | 0, _, h => by cases h; exact ⟨_, rfl, 0, rfl, by decide, by decide⟩ | 1, _, h => by cases h; exact ⟨_, rfl, q102, rfl, gU_mono hn _ _ gq102⟩ | 2, _, h => by cases h; exact ⟨_, rfl, q106, rfl, gU_mono hn _ _ gq106⟩ | 3, _, h => by cases h; exact ⟨_, rfl, q110, rfl, gU_mono hn _ _ gq110⟩ | 4, _, h => by cases h; exact ⟨_, rfl, q114, rfl, gU_mono hn _ _ gq114⟩ | 5, _, h => by cases h; exact ⟨_, rfl, q118, rfl, gU_mono hn _ _ gq118⟩ | 6, _, h => by cases h; exact ⟨_, rfl, q122, rfl, gU_mono hn _ _ gq122⟩ | 7, _, h => by cases h; exact ⟨_, rfl, q126, rfl, gU_mono hn _ _ gq126⟩ | 8, _, h => by cases h; exact ⟨_, rfl, q130, rfl, gU_mono hn _ _ gq130⟩ | 9, _, h => by cases h; exact ⟨_, rfl, 0, rfl, by decide, by decide⟩ | k + 10, _, h => by simp at h)
  exact x_vret C hQ dX7_init_69 hSH132 (by decide) (by decide) (⟨rfl, gU G131 a 50, fun q hq hqa => by rw [gU_ne hqa]; exact hGo q hq hqa, gU_at, hTZ, (fun k hk => by simp only [RKT, List.mem_cons, List.not_mem_nil, or_false] at hk; rcases hk with rfl | rfl | rfl | rfl | rfl | rfl | rfl | rfl; exact (kn_r (hR.fv (k := 1) rfl (by decide) rfl)) ▸ la_q102; exact (kn_r (hR.fv (k := 2) rfl (by decide) rfl)) ▸ la_q106; exact (kn_r (hR.fv (k := 3) rfl (by decide) rfl)) ▸ la_q110; exact (kn_r (hR.fv (k := 4) rfl (by decide) rfl)) ▸ la_q114; exact (kn_r (hR.fv (k := 5) rfl (by decide) rfl)) ▸ la_q118; exact (kn_r (hR.fv (k := 6) rfl (by decide) rfl)) ▸ la_q122; exact (kn_r (hR.fv (k := 7) rfl (by decide) rfl)) ▸ la_q126; exact (kn_r (hR.fv (k := 8) rfl (by decide) rfl)) ▸ la_q130)⟩)

theorem bkt_1 {K : KE} {G : Nat → Option Nat} {H : Heap} {q : Nat} (hT : TY K G H) (g : G q = some 1) : ∀ k : Nat, k ∈ RKB → ∃ t, G (fR H q (K.1.2 0 k)) = some t := fun k hk => by
  simp only [RKB, List.mem_cons, List.not_mem_nil, or_false] at hk
  rcases hk with rfl | rfl | rfl | rfl | rfl | rfl | rfl | rfl | rfl | rfl | rfl | rfl
  · exact ⟨_, ty_fr (q := _) (k := 1) (u := 2) rfl hT g rg_1 rfl⟩
  · exact ⟨_, ty_fr (q := _) (k := 2) (u := 3) rfl hT g rg_1 rfl⟩
  · exact ⟨_, ty_fr (q := _) (k := 3) (u := 4) rfl hT g rg_1 rfl⟩
  · exact ⟨_, ty_fr (q := _) (k := 4) (u := 5) rfl hT g rg_1 rfl⟩
  · exact ⟨_, ty_fr (q := _) (k := 5) (u := 6) rfl hT g rg_1 rfl⟩
  · exact ⟨_, ty_fr (q := _) (k := 6) (u := 7) rfl hT g rg_1 rfl⟩
  · exact ⟨_, ty_fr (q := _) (k := 7) (u := 8) rfl hT g rg_1 rfl⟩
  · exact ⟨_, ty_fr (q := _) (k := 10) (u := 9) rfl hT g rg_1 rfl⟩
  · exact ⟨_, ty_fr (q := _) (k := 11) (u := 10) rfl hT g rg_1 rfl⟩
  · exact ⟨_, ty_fr (q := _) (k := 12) (u := 11) rfl hT g rg_1 rfl⟩
  · exact ⟨_, ty_fr (q := _) (k := 13) (u := 13) rfl hT g rg_1 rfl⟩
  · exact ⟨_, ty_fr (q := _) (k := 17) (u := 15) rfl hT g rg_1 rfl⟩
theorem bkt_35 {K : KE} {G : Nat → Option Nat} {H : Heap} {q : Nat} (hT : TY K G H) (g : G q = some 35) : ∀ k : Nat, k ∈ RKB → ∃ t, G (fR H q (K.1.2 0 k)) = some t := fun k hk => by
  simp only [RKB, List.mem_cons, List.not_mem_nil, or_false] at hk
  rcases hk with rfl | rfl | rfl | rfl | rfl | rfl | rfl | rfl | rfl | rfl | rfl | rfl
  · exact ⟨_, ty_fr (q := _) (k := 1) (u := 36) rfl hT g rg_35 rfl⟩
  · exact ⟨_, ty_fr (q := _) (k := 2) (u := 37) rfl hT g rg_35 rfl⟩
  · exact ⟨_, ty_fr (q := _) (k := 3) (u := 38) rfl hT g rg_35 rfl⟩
  · exact ⟨_, ty_fr (q := _) (k := 4) (u := 39) rfl hT g rg_35 rfl⟩
  · exact ⟨_, ty_fr (q := _) (k := 5) (u := 40) rfl hT g rg_35 rfl⟩
  · exact ⟨_, ty_fr (q := _) (k := 6) (u := 41) rfl hT g rg_35 rfl⟩
  · exact ⟨_, ty_fr (q := _) (k := 7) (u := 42) rfl hT g rg_35 rfl⟩
  · exact ⟨_, ty_fr (q := _) (k := 10) (u := 43) rfl hT g rg_35 rfl⟩
  · exact ⟨_, ty_fr (q := _) (k := 11) (u := 44) rfl hT g rg_35 rfl⟩
  · exact ⟨_, ty_fr (q := _) (k := 12) (u := 45) rfl hT g rg_35 rfl⟩
  · exact ⟨_, ty_fr (q := _) (k := 13) (u := 47) rfl hT g rg_35 rfl⟩
  · exact ⟨_, ty_fr (q := _) (k := 17) (u := 49) rfl hT g rg_35 rfl⟩
theorem bkt_16 {K : KE} {G : Nat → Option Nat} {H : Heap} {q : Nat} (hT : TY K G H) (g : G q = some 16) : ∀ k : Nat, k ∈ RKT → ∃ t, G (fR H q (K.1.2 7 k)) = some t := fun k hk => by
  simp only [RKT, List.mem_cons, List.not_mem_nil, or_false] at hk
  rcases hk with rfl | rfl | rfl | rfl | rfl | rfl | rfl | rfl
  · exact ⟨_, ty_fr (q := _) (k := 1) (u := 17) rfl hT g rg_16 rfl⟩
  · exact ⟨_, ty_fr (q := _) (k := 2) (u := 18) rfl hT g rg_16 rfl⟩
  · exact ⟨_, ty_fr (q := _) (k := 3) (u := 19) rfl hT g rg_16 rfl⟩
  · exact ⟨_, ty_fr (q := _) (k := 4) (u := 20) rfl hT g rg_16 rfl⟩
  · exact ⟨_, ty_fr (q := _) (k := 5) (u := 21) rfl hT g rg_16 rfl⟩
  · exact ⟨_, ty_fr (q := _) (k := 6) (u := 22) rfl hT g rg_16 rfl⟩
  · exact ⟨_, ty_fr (q := _) (k := 7) (u := 23) rfl hT g rg_16 rfl⟩
  · exact ⟨_, ty_fr (q := _) (k := 8) (u := 24) rfl hT g rg_16 rfl⟩
theorem bkt_50 {K : KE} {G : Nat → Option Nat} {H : Heap} {q : Nat} (hT : TY K G H) (g : G q = some 50) : ∀ k : Nat, k ∈ RKT → ∃ t, G (fR H q (K.1.2 7 k)) = some t := fun k hk => by
  simp only [RKT, List.mem_cons, List.not_mem_nil, or_false] at hk
  rcases hk with rfl | rfl | rfl | rfl | rfl | rfl | rfl | rfl
  · exact ⟨_, ty_fr (q := _) (k := 1) (u := 51) rfl hT g rg_50 rfl⟩
  · exact ⟨_, ty_fr (q := _) (k := 2) (u := 52) rfl hT g rg_50 rfl⟩
  · exact ⟨_, ty_fr (q := _) (k := 3) (u := 53) rfl hT g rg_50 rfl⟩
  · exact ⟨_, ty_fr (q := _) (k := 4) (u := 54) rfl hT g rg_50 rfl⟩
  · exact ⟨_, ty_fr (q := _) (k := 5) (u := 55) rfl hT g rg_50 rfl⟩
  · exact ⟨_, ty_fr (q := _) (k := 6) (u := 56) rfl hT g rg_50 rfl⟩
  · exact ⟨_, ty_fr (q := _) (k := 7) (u := 57) rfl hT g rg_50 rfl⟩
  · exact ⟨_, ty_fr (q := _) (k := 8) (u := 58) rfl hT g rg_50 rfl⟩
theorem or_5 {i : Nat} (h1 : 10 ≤ i) (hi : i < 15) : i = 10 ∨ i = 11 ∨ i = 12 ∨ i = 13 ∨ i = 14 := by omega
theorem or_6 {i : Nat} (h1 : 10 ≤ i) (hi : i < 16) : i = 10 ∨ i = 11 ∨ i = 12 ∨ i = 13 ∨ i = 14 ∨ i = 15 := by omega