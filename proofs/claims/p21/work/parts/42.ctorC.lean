set_option maxHeartbeats 4000000 in
set_option maxRecDepth 100000 in
theorem k_X4_init_reader (l : Launch) (K : KE) (G : Nat → Option Nat) (H : Heap) {a : Nat} (hT : TY K G H) (hn : G a = none) (hR : RAW K H a 4 [.null, .int 0, .int 0, .null, .null, .null, .int 0, .int 0, .int 0]) : MX l K yX4_init cX4_init 1 none 2 32 12 2125 [.ref a] H (fun q => q = a ∨ H.size ≤ q) (fun v H1 => v = none ∧ ∃ G1 : Nat → Option Nat, (∀ q, q < H.size → q ≠ a → G1 q = G q) ∧ G1 a = some 78 ∧ TY K G1 H1) := by
  refine MX.of (by decide +kernel) (Nat.le_of_ble_eq_true rfl) ?_
  intro p e s m below meth c ls Q C hH hl hQ
  subst hH
  have C : CX p K s m _ meth c RX4 cX4_init 1 none "<init>" := C
  obtain ⟨hx, hb, hml, hown, hts, hKT, hr, hlocks, hnm⟩ := id C
  have hl : lv_has ls 1 [(0, .ref a)] := hl
  have hS : va_S (fun q => q = a ∨ s.heap.size ≤ q) s.heap s.heap [] := va_S.rf
  have n_0 : (0 : Int32).toInt = 0 := rfl
  have n_501 : (501 : Int32).toInt = 501 := rfl
  have hGo : ∀ q, q < s.heap.size → q ≠ a → G q = G q := fun _ _ _ => rfl
  refine lv_aload_n hx hb dX4_init_0 rfl (lv_at hl 0 rfl) ?_
  refine x_objInit C wM_X4_3 wIM_OBJ wCD_OBJ hl.1 (by decide) dX4_init_1 ?_
  refine lv_aload_n hx hb dX4_init_4 rfl (lv_at hl 0 rfl) ?_
  refine x_new C hT hS (ci := 7) (ty0 := tyX7) (vs := [.int 0, .null, .null, .null, .null, .null, .null, .null, .null, .int 0]) rfl inX7 tyX7_ok wC_X4_9 wIS_X7 wIN_X7 dfX7 ⟨by decide, by decide⟩ dX4_init_5 (fun H101 hR103 hTH101 hSH101 oH101 zH101 => ?_)
  have hNq102 : G s.heap.size = none := hT.gb _ (Nat.le_refl _)
  have nr_a_q102 : a ≠ s.heap.size := Nat.ne_of_lt hR.lt
  replace hR := hR.kept (oH101 _ hR.lt)
  obtain ⟨q102, eq102⟩ : ∃ q, q = s.heap.size := ⟨_, rfl⟩
  have leq102 : s.heap.size ≤ q102 := by rw [eq102]; exact hS.1
  rw [← eq102] at hNq102 hR103 nr_a_q102
  rw [← eq102]
  clear eq102
  clear oH101 zH101 hT
  refine lv_dup hx hb dX4_init_8 rfl ?_
  have lt_a_H104 := hR.lt
  refine x_IN (As := []) (rest := [.ref q102, .ref a]) C (k_X7_init_made l K G H101 (a := q102) hTH101 hNq102 hR103) yo_X7_init rfl wN_X4_11 ⟨⟨by decide, by decide⟩, by decide, by decide⟩ rfl hl.1 rfl (Nat.le_of_ble_eq_true rfl) dX4_init_9 hSH101 (fun x h => Or.inr (h.elim (fun e => by rw [e]; exact leq102) (fun h => Nat.le_trans hSH101.1 h))) (fun vH104 H104 locsH104 pH104 zH104 kH104 hSH104 => ?_)
  obtain ⟨hvH104, G105, hgH104, ggH104, hTH104⟩ := pH104
  subst hvH104
  replace hR := hR.kept (kH104 _ lt_a_H104 (fun h => h.elim nr_a_q102 (Nat.not_le.mpr lt_a_H104)))
  replace hn : G105 a = none := (hgH104 _ lt_a_H104 nr_a_q102).trans hn
  replace hGo : ∀ q, q < s.heap.size → q ≠ a → G105 q = G q := fun q hq hqa => (hgH104 q (Nat.lt_of_lt_of_le hq hSH101.1) (Nat.ne_of_lt (Nat.lt_of_lt_of_le hq leq102))).trans (hGo q hq hqa)
  have gq102 : G105 q102 = some 69 := ggH104
  clear hR103 hNq102 ggH104 hgH104 kH104 zH104 hTH101 lt_a_H104
  refine W.eq (g2 := F0 m 12 ls [.ref q102, .ref a]) rfl ?_
  refine x_putR C hTH104 hSH104 (ci := 4) (k := 0) (v := .ref q102) (ty0 := tyX4) hR hn rfl inX4 tyX4_ok nmX4 (by decide) (Or.inr ⟨rfl, rfl, rfl⟩) wF_X4_12 (Nat.le_of_ble_eq_true rfl) rfl rfl (Or.inl rfl) dX4_init_12 (fun H106 locsH106 hR2 hTH106 hSH106 oH106 zH106 => ?_)
  clear hR
  have hR : RAW K H106 a 4 [.ref q102, .int 0, .int 0, .null, .null, .null, .int 0, .int 0, .int 0] := hR2
  clear hR2
  clear oH106 zH106 hTH104
  refine lv_aload_n hx hb dX4_init_15 rfl (lv_at hl 0 rfl) ?_
  refine lv_sipush (v := 501) hx hb dX4_init_16 (by decide) ?_
  refine x_newa C hTH106 hSH106 wAC_int rg_79 (by decide) rfl (by decide) ⟨by decide, by decide⟩ dX4_init_19 (fun H107 hTH107 hSH107 oH107 zH107 vH107 => ?_)
  have hNH107 : G105 H106.size = none := hTH106.gb _ (Nat.le_refl _)
  obtain ⟨G109, eGG109⟩ : ∃ g, g = gU G105 H106.size 79 := ⟨_, rfl⟩
  rw [← eGG109] at hTH107
  have nr_a_q108 : a ≠ H106.size := Nat.ne_of_lt hR.lt
  replace hR := hR.kept (oH107 _ hR.lt)
  replace gq102 : G109 q102 = some 69 := by rw [eGG109]; exact gU_mono hNH107 _ _ gq102
  replace hn : G109 a = none := by rw [eGG109, gU_ne nr_a_q108]; exact hn
  replace hGo : ∀ q, q < s.heap.size → q ≠ a → G109 q = G q := fun q hq hqa => (show G109 q = G105 q by rw [eGG109, gU_ne (Nat.ne_of_lt (Nat.lt_of_lt_of_le hq hSH106.1))]).trans (hGo q hq hqa)
  have gq108 : G109 H106.size = some 79 := by rw [eGG109]; exact gU_at
  obtain ⟨q108, eq108⟩ : ∃ q, q = H106.size := ⟨_, rfl⟩
  have leq108 : s.heap.size ≤ q108 := by rw [eq108]; exact hSH106.1
  rw [← eq108] at gq108 nr_a_q108
  rw [← eq108]
  clear eq108
  clear hNH107 eGG109 oH107 zH107 vH107 hTH106
  refine x_putR C hTH107 hSH107 (ci := 4) (k := 3) (v := .ref q108) (ty0 := tyX4) hR hn rfl inX4 tyX4_ok nmX4 (by decide) (Or.inr ⟨rfl, rfl, rfl⟩) wF_X4_18 (Nat.le_of_ble_eq_true rfl) rfl rfl (Or.inl rfl) dX4_init_21 (fun H110 locsH110 hR2 hTH110 hSH110 oH110 zH110 => ?_)
  clear hR
  have hR : RAW K H110 a 4 [.ref q102, .int 0, .int 0, .ref q108, .null, .null, .int 0, .int 0, .int 0] := hR2
  clear hR2
  clear oH110 zH110 hTH107
  refine lv_aload_n hx hb dX4_init_24 rfl (lv_at hl 0 rfl) ?_
  refine lv_sipush (v := 501) hx hb dX4_init_25 (by decide) ?_
  refine x_newa C hTH110 hSH110 wAC_int rg_80 (by decide) rfl (by decide) ⟨by decide, by decide⟩ dX4_init_28 (fun H111 hTH111 hSH111 oH111 zH111 vH111 => ?_)
  have hNH111 : G109 H110.size = none := hTH110.gb _ (Nat.le_refl _)
  obtain ⟨G113, eGG113⟩ : ∃ g, g = gU G109 H110.size 80 := ⟨_, rfl⟩
  rw [← eGG113] at hTH111
  have nr_a_q112 : a ≠ H110.size := Nat.ne_of_lt hR.lt
  replace hR := hR.kept (oH111 _ hR.lt)
  replace gq102 : G113 q102 = some 69 := by rw [eGG113]; exact gU_mono hNH111 _ _ gq102
  replace gq108 : G113 q108 = some 79 := by rw [eGG113]; exact gU_mono hNH111 _ _ gq108
  replace hn : G113 a = none := by rw [eGG113, gU_ne nr_a_q112]; exact hn
  replace hGo : ∀ q, q < s.heap.size → q ≠ a → G113 q = G q := fun q hq hqa => (show G113 q = G109 q by rw [eGG113, gU_ne (Nat.ne_of_lt (Nat.lt_of_lt_of_le hq hSH110.1))]).trans (hGo q hq hqa)
  have gq112 : G113 H110.size = some 80 := by rw [eGG113]; exact gU_at
  obtain ⟨q112, eq112⟩ : ∃ q, q = H110.size := ⟨_, rfl⟩
  have leq112 : s.heap.size ≤ q112 := by rw [eq112]; exact hSH110.1
  rw [← eq112] at gq112 nr_a_q112
  rw [← eq112]
  clear eq112
  clear hNH111 eGG113 oH111 zH111 vH111 hTH110
  refine x_putR C hTH111 hSH111 (ci := 4) (k := 4) (v := .ref q112) (ty0 := tyX4) hR hn rfl inX4 tyX4_ok nmX4 (by decide) (Or.inr ⟨rfl, rfl, rfl⟩) wF_X4_22 (Nat.le_of_ble_eq_true rfl) rfl rfl (Or.inl rfl) dX4_init_30 (fun H114 locsH114 hR2 hTH114 hSH114 oH114 zH114 => ?_)
  clear hR
  have hR : RAW K H114 a 4 [.ref q102, .int 0, .int 0, .ref q108, .ref q112, .null, .int 0, .int 0, .int 0] := hR2
  clear hR2
  clear oH114 zH114 hTH111
  refine lv_aload_n hx hb dX4_init_33 rfl (lv_at hl 0 rfl) ?_
  refine lv_sipush (v := 501) hx hb dX4_init_34 (by decide) ?_
  refine x_newa C hTH114 hSH114 wAC_int rg_81 (by decide) rfl (by decide) ⟨by decide, by decide⟩ dX4_init_37 (fun H115 hTH115 hSH115 oH115 zH115 vH115 => ?_)
  have hNH115 : G113 H114.size = none := hTH114.gb _ (Nat.le_refl _)
  obtain ⟨G117, eGG117⟩ : ∃ g, g = gU G113 H114.size 81 := ⟨_, rfl⟩
  rw [← eGG117] at hTH115
  have nr_a_q116 : a ≠ H114.size := Nat.ne_of_lt hR.lt
  replace hR := hR.kept (oH115 _ hR.lt)
  replace gq102 : G117 q102 = some 69 := by rw [eGG117]; exact gU_mono hNH115 _ _ gq102
  replace gq108 : G117 q108 = some 79 := by rw [eGG117]; exact gU_mono hNH115 _ _ gq108
  replace gq112 : G117 q112 = some 80 := by rw [eGG117]; exact gU_mono hNH115 _ _ gq112
  replace hn : G117 a = none := by rw [eGG117, gU_ne nr_a_q116]; exact hn
  replace hGo : ∀ q, q < s.heap.size → q ≠ a → G117 q = G q := fun q hq hqa => (show G117 q = G113 q by rw [eGG117, gU_ne (Nat.ne_of_lt (Nat.lt_of_lt_of_le hq hSH114.1))]).trans (hGo q hq hqa)
  have gq116 : G117 H114.size = some 81 := by rw [eGG117]; exact gU_at
  obtain ⟨q116, eq116⟩ : ∃ q, q = H114.size := ⟨_, rfl⟩
  have leq116 : s.heap.size ≤ q116 := by rw [eq116]; exact hSH114.1
  rw [← eq116] at gq116 nr_a_q116
  rw [← eq116]
  clear eq116
  clear hNH115 eGG117 oH115 zH115 vH115 hTH114
  refine x_putR C hTH115 hSH115 (ci := 4) (k := 5) (v := .ref q116) (ty0 := tyX4) hR hn rfl inX4 tyX4_ok nmX4 (by decide) (Or.inr ⟨rfl, rfl, rfl⟩) wF_X4_25 (Nat.le_of_ble_eq_true rfl) rfl rfl (Or.inl rfl) dX4_init_39 (fun H118 locsH118 hR2 hTH118 hSH118 oH118 zH118 => ?_)
  clear hR
  have hR : RAW K H118 a 4 [.ref q102, .int 0, .int 0, .ref q108, .ref q112, .ref q116, .int 0, .int 0, .int 0] := hR2
  clear hR2
  clear oH118 zH118 hTH115
  have hTZ := x_born (t := 78) hTH118 hn hR rfl rg_78 rfl (fun k f h => match k, f, h with | 0, _, h => by cases h; exact ⟨_, rfl, q102, rfl, gU_mono hn _ _ gq102⟩ | 1, _, h => by cases h; exact ⟨_, rfl, 0, rfl, by decide, by decide⟩ | 2, _, h => by cases h; exact ⟨_, rfl, 0, rfl, by decide, by decide⟩ | 3, _, h => by cases h; exact ⟨_, rfl, q108, rfl, gU_mono hn _ _ gq108⟩ | 4, _, h => by cases h; exact ⟨_, rfl, q112, rfl, gU_mono hn _ _ gq112⟩ | 5, _, h => by cases h; exact ⟨_, rfl, q116, rfl, gU_mono hn _ _ gq116⟩ | 6, _, h => by cases h; exact ⟨_, rfl, 0, rfl, by decide, by decide⟩ | 7, _, h => by cases h; exact ⟨_, rfl, 0, rfl, by decide, by decide⟩ | 8, _, h => by cases h; exact ⟨_, rfl, 0, rfl, by decide, by decide⟩ | k + 9, _, h => by simp at h)
  exact x_vret C hQ dX4_init_42 hSH118 (by decide) (by decide) (⟨rfl, gU G117 a 78, fun q hq hqa => by rw [gU_ne hqa]; exact hGo q hq hqa, gU_at, hTZ⟩)

set_option maxHeartbeats 4000000 in
set_option maxRecDepth 100000 in
theorem k_X3_init_passS (l : Launch) (K : KE) (G : Nat → Option Nat) (H : Heap) {a : Nat} (hT : TY K G H) (hn : G a = none) (hR : RAW K H a 3 [.null, .null, .null, .null, .null, .null, .null, .null, .null, .int 0, .int 0, .int 0]) : MX l K yX3_init cX3_init 1 none 2 32 10 2368 [.ref a] H (fun q => q = a ∨ H.size ≤ q) (fun v H1 => v = none ∧ ∃ G1 : Nat → Option Nat, (∀ q, q < H.size → q ≠ a → G1 q = G q) ∧ G1 a = some 89 ∧ TY K G1 H1) := by
  refine MX.of (by decide +kernel) (Nat.le_of_ble_eq_true rfl) ?_
  intro p e s m below meth c ls Q C hH hl hQ
  subst hH
  have C : CX p K s m _ meth c RX3 cX3_init 1 none "<init>" := C
  obtain ⟨hx, hb, hml, hown, hts, hKT, hr, hlocks, hnm⟩ := id C
  have hl : lv_has ls 1 [(0, .ref a)] := hl
  have hS : va_S (fun q => q = a ∨ s.heap.size ≤ q) s.heap s.heap [] := va_S.rf
  have n_0 : (0 : Int32).toInt = 0 := rfl
  have n_3 : (3 : Int32).toInt = 3 := rfl
  have n_5 : (5 : Int32).toInt = 5 := rfl
  have n_8 : (8 : Int32).toInt = 8 := rfl
  have n_144 : (144 : Int32).toInt = 144 := rfl
  have hGo : ∀ q, q < s.heap.size → q ≠ a → G q = G q := fun _ _ _ => rfl
  refine lv_aload_n hx hb dX3_init_0 rfl (lv_at hl 0 rfl) ?_
  refine x_objInit C wM_X3_5 wIM_OBJ wCD_OBJ hl.1 (by decide) dX3_init_1 ?_
  refine lv_aload_n hx hb dX3_init_4 rfl (lv_at hl 0 rfl) ?_
  refine lv_iconst (v := 5) hx hb dX3_init_5 (by decide) ?_
  refine x_newa C hT hS wAC_int rg_90 (by decide) rfl (by decide) ⟨by decide, by decide⟩ dX3_init_6 (fun H101 hTH101 hSH101 oH101 zH101 vH101 => ?_)
  have hNH101 : G s.heap.size = none := hT.gb _ (Nat.le_refl _)
  obtain ⟨G103, eGG103⟩ : ∃ g, g = gU G s.heap.size 90 := ⟨_, rfl⟩
  rw [← eGG103] at hTH101
  have nr_a_q102 : a ≠ s.heap.size := Nat.ne_of_lt hR.lt
  replace hR := hR.kept (oH101 _ hR.lt)
  replace hn : G103 a = none := by rw [eGG103, gU_ne nr_a_q102]; exact hn
  replace hGo : ∀ q, q < s.heap.size → q ≠ a → G103 q = G q := fun q hq hqa => (show G103 q = G q by rw [eGG103, gU_ne (Nat.ne_of_lt (Nat.lt_of_lt_of_le hq hS.1))]).trans (hGo q hq hqa)
  have gq102 : G103 s.heap.size = some 90 := by rw [eGG103]; exact gU_at
  obtain ⟨q102, eq102⟩ : ∃ q, q = s.heap.size := ⟨_, rfl⟩
  have leq102 : s.heap.size ≤ q102 := by rw [eq102]; exact hS.1
  rw [← eq102] at gq102 nr_a_q102
  rw [← eq102]
  clear eq102
  clear hNH101 eGG103 oH101 zH101 vH101 hT
  refine x_putR C hTH101 hSH101 (ci := 3) (k := 0) (v := .ref q102) (ty0 := tyX3) hR hn rfl inX3 tyX3_ok nmX3 (by decide) (Or.inr ⟨rfl, rfl, rfl⟩) wF_X3_11 (Nat.le_of_ble_eq_true rfl) rfl rfl (Or.inl rfl) dX3_init_8 (fun H104 locsH104 hR2 hTH104 hSH104 oH104 zH104 => ?_)
  clear hR
  have hR : RAW K H104 a 3 [.ref q102, .null, .null, .null, .null, .null, .null, .null, .null, .int 0, .int 0, .int 0] := hR2
  clear hR2
  clear oH104 zH104 hTH101
  refine lv_aload_n hx hb dX3_init_11 rfl (lv_at hl 0 rfl) ?_
  refine lv_sipush (v := 144) hx hb dX3_init_12 (by decide) ?_
  refine x_newa C hTH104 hSH104 wAC_int rg_91 (by decide) rfl (by decide) ⟨by decide, by decide⟩ dX3_init_15 (fun H105 hTH105 hSH105 oH105 zH105 vH105 => ?_)
  have hNH105 : G103 H104.size = none := hTH104.gb _ (Nat.le_refl _)
  obtain ⟨G107, eGG107⟩ : ∃ g, g = gU G103 H104.size 91 := ⟨_, rfl⟩
  rw [← eGG107] at hTH105
  have nr_a_q106 : a ≠ H104.size := Nat.ne_of_lt hR.lt
  replace hR := hR.kept (oH105 _ hR.lt)
  replace gq102 : G107 q102 = some 90 := by rw [eGG107]; exact gU_mono hNH105 _ _ gq102
  replace hn : G107 a = none := by rw [eGG107, gU_ne nr_a_q106]; exact hn
  replace hGo : ∀ q, q < s.heap.size → q ≠ a → G107 q = G q := fun q hq hqa => (show G107 q = G103 q by rw [eGG107, gU_ne (Nat.ne_of_lt (Nat.lt_of_lt_of_le hq hSH104.1))]).trans (hGo q hq hqa)
  have gq106 : G107 H104.size = some 91 := by rw [eGG107]; exact gU_at
  obtain ⟨q106, eq106⟩ : ∃ q, q = H104.size := ⟨_, rfl⟩
  have leq106 : s.heap.size ≤ q106 := by rw [eq106]; exact hSH104.1
  rw [← eq106] at gq106 nr_a_q106
  rw [← eq106]
  clear eq106
  clear hNH105 eGG107 oH105 zH105 vH105 hTH104
  refine x_putR C hTH105 hSH105 (ci := 3) (k := 1) (v := .ref q106) (ty0 := tyX3) hR hn rfl inX3 tyX3_ok nmX3 (by decide) (Or.inr ⟨rfl, rfl, rfl⟩) wF_X3_15 (Nat.le_of_ble_eq_true rfl) rfl rfl (Or.inl rfl) dX3_init_17 (fun H108 locsH108 hR2 hTH108 hSH108 oH108 zH108 => ?_)
  clear hR
  have hR : RAW K H108 a 3 [.ref q102, .ref q106, .null, .null, .null, .null, .null, .null, .null, .int 0, .int 0, .int 0] := hR2
  clear hR2
  clear oH108 zH108 hTH105
  refine lv_aload_n hx hb dX3_init_20 rfl (lv_at hl 0 rfl) ?_
  refine lv_sipush (v := 144) hx hb dX3_init_21 (by decide) ?_
  refine x_newa C hTH108 hSH108 wAC_int rg_92 (by decide) rfl (by decide) ⟨by decide, by decide⟩ dX3_init_24 (fun H109 hTH109 hSH109 oH109 zH109 vH109 => ?_)
  have hNH109 : G107 H108.size = none := hTH108.gb _ (Nat.le_refl _)
  obtain ⟨G111, eGG111⟩ : ∃ g, g = gU G107 H108.size 92 := ⟨_, rfl⟩
  rw [← eGG111] at hTH109
  have nr_a_q110 : a ≠ H108.size := Nat.ne_of_lt hR.lt
  replace hR := hR.kept (oH109 _ hR.lt)
  replace gq102 : G111 q102 = some 90 := by rw [eGG111]; exact gU_mono hNH109 _ _ gq102
  replace gq106 : G111 q106 = some 91 := by rw [eGG111]; exact gU_mono hNH109 _ _ gq106
  replace hn : G111 a = none := by rw [eGG111, gU_ne nr_a_q110]; exact hn
  replace hGo : ∀ q, q < s.heap.size → q ≠ a → G111 q = G q := fun q hq hqa => (show G111 q = G107 q by rw [eGG111, gU_ne (Nat.ne_of_lt (Nat.lt_of_lt_of_le hq hSH108.1))]).trans (hGo q hq hqa)
  have gq110 : G111 H108.size = some 92 := by rw [eGG111]; exact gU_at
  obtain ⟨q110, eq110⟩ : ∃ q, q = H108.size := ⟨_, rfl⟩
  have leq110 : s.heap.size ≤ q110 := by rw [eq110]; exact hSH108.1
  rw [← eq110] at gq110 nr_a_q110
  rw [← eq110]
  clear eq110
  clear hNH109 eGG111 oH109 zH109 vH109 hTH108
  refine x_putR C hTH109 hSH109 (ci := 3) (k := 2) (v := .ref q110) (ty0 := tyX3) hR hn rfl inX3 tyX3_ok nmX3 (by decide) (Or.inr ⟨rfl, rfl, rfl⟩) wF_X3_18 (Nat.le_of_ble_eq_true rfl) rfl rfl (Or.inl rfl) dX3_init_26 (fun H112 locsH112 hR2 hTH112 hSH112 oH112 zH112 => ?_)
  clear hR
  have hR : RAW K H112 a 3 [.ref q102, .ref q106, .ref q110, .null, .null, .null, .null, .null, .null, .int 0, .int 0, .int 0] := hR2
  clear hR2
  clear oH112 zH112 hTH109
  refine lv_aload_n hx hb dX3_init_29 rfl (lv_at hl 0 rfl) ?_
  refine lv_iconst (v := 3) hx hb dX3_init_30 (by decide) ?_
  refine x_newa C hTH112 hSH112 wAC_int rg_93 (by decide) rfl (by decide) ⟨by decide, by decide⟩ dX3_init_31 (fun H113 hTH113 hSH113 oH113 zH113 vH113 => ?_)
  have hNH113 : G111 H112.size = none := hTH112.gb _ (Nat.le_refl _)
  obtain ⟨G115, eGG115⟩ : ∃ g, g = gU G111 H112.size 93 := ⟨_, rfl⟩
  rw [← eGG115] at hTH113
  have nr_a_q114 : a ≠ H112.size := Nat.ne_of_lt hR.lt
  replace hR := hR.kept (oH113 _ hR.lt)
  replace gq102 : G115 q102 = some 90 := by rw [eGG115]; exact gU_mono hNH113 _ _ gq102
  replace gq106 : G115 q106 = some 91 := by rw [eGG115]; exact gU_mono hNH113 _ _ gq106
  replace gq110 : G115 q110 = some 92 := by rw [eGG115]; exact gU_mono hNH113 _ _ gq110
  replace hn : G115 a = none := by rw [eGG115, gU_ne nr_a_q114]; exact hn
  replace hGo : ∀ q, q < s.heap.size → q ≠ a → G115 q = G q := fun q hq hqa => (show G115 q = G111 q by rw [eGG115, gU_ne (Nat.ne_of_lt (Nat.lt_of_lt_of_le hq hSH112.1))]).trans (hGo q hq hqa)
  have gq114 : G115 H112.size = some 93 := by rw [eGG115]; exact gU_at
  obtain ⟨q114, eq114⟩ : ∃ q, q = H112.size := ⟨_, rfl⟩
  have leq114 : s.heap.size ≤ q114 := by rw [eq114]; exact hSH112.1
  rw [← eq114] at gq114 nr_a_q114
  rw [← eq114]
  clear eq114
  clear hNH113 eGG115 oH113 zH113 vH113 hTH112
  refine x_putR C hTH113 hSH113 (ci := 3) (k := 3) (v := .ref q114) (ty0 := tyX3) hR hn rfl inX3 tyX3_ok nmX3 (by decide) (Or.inr ⟨rfl, rfl, rfl⟩) wF_X3_21 (Nat.le_of_ble_eq_true rfl) rfl rfl (Or.inl rfl) dX3_init_33 (fun H116 locsH116 hR2 hTH116 hSH116 oH116 zH116 => ?_)
  clear hR
  have hR : RAW K H116 a 3 [.ref q102, .ref q106, .ref q110, .ref q114, .null, .null, .null, .null, .null, .int 0, .int 0, .int 0] := hR2
  clear hR2
  clear oH116 zH116 hTH113
  refine lv_aload_n hx hb dX3_init_36 rfl (lv_at hl 0 rfl) ?_
  refine lv_iconst (v := 3) hx hb dX3_init_37 (by decide) ?_
  refine x_newa C hTH116 hSH116 wAC_int rg_94 (by decide) rfl (by decide) ⟨by decide, by decide⟩ dX3_init_38 (fun H117 hTH117 hSH117 oH117 zH117 vH117 => ?_)
  have hNH117 : G115 H116.size = none := hTH116.gb _ (Nat.le_refl _)
  obtain ⟨G119, eGG119⟩ : ∃ g, g = gU G115 H116.size 94 := ⟨_, rfl⟩
  rw [← eGG119] at hTH117
  have nr_a_q118 : a ≠ H116.size := Nat.ne_of_lt hR.lt
  replace hR := hR.kept (oH117 _ hR.lt)
  replace gq102 : G119 q102 = some 90 := by rw [eGG119]; exact gU_mono hNH117 _ _ gq102
  replace gq106 : G119 q106 = some 91 := by rw [eGG119]; exact gU_mono hNH117 _ _ gq106
  replace gq110 : G119 q110 = some 92 := by rw [eGG119]; exact gU_mono hNH117 _ _ gq110
  replace gq114 : G119 q114 = some 93 := by rw [eGG119]; exact gU_mono hNH117 _ _ gq114
  replace hn : G119 a = none := by rw [eGG119, gU_ne nr_a_q118]; exact hn
  replace hGo : ∀ q, q < s.heap.size → q ≠ a → G119 q = G q := fun q hq hqa => (show G119 q = G115 q by rw [eGG119, gU_ne (Nat.ne_of_lt (Nat.lt_of_lt_of_le hq hSH116.1))]).trans (hGo q hq hqa)
  have gq118 : G119 H116.size = some 94 := by rw [eGG119]; exact gU_at
  obtain ⟨q118, eq118⟩ : ∃ q, q = H116.size := ⟨_, rfl⟩
  have leq118 : s.heap.size ≤ q118 := by rw [eq118]; exact hSH116.1
  rw [← eq118] at gq118 nr_a_q118
  rw [← eq118]
  clear eq118
  clear hNH117 eGG119 oH117 zH117 vH117 hTH116
  refine x_putR C hTH117 hSH117 (ci := 3) (k := 4) (v := .ref q118) (ty0 := tyX3) hR hn rfl inX3 tyX3_ok nmX3 (by decide) (Or.inr ⟨rfl, rfl, rfl⟩) wF_X3_24 (Nat.le_of_ble_eq_true rfl) rfl rfl (Or.inl rfl) dX3_init_40 (fun H120 locsH120 hR2 hTH120 hSH120 oH120 zH120 => ?_)
  clear hR
  have hR : RAW K H120 a 3 [.ref q102, .ref q106, .ref q110, .ref q114, .ref q118, .null, .null, .null, .null, .int 0, .int 0, .int 0] := hR2
  clear hR2
  clear oH120 zH120 hTH117
  refine lv_aload_n hx hb dX3_init_43 rfl (lv_at hl 0 rfl) ?_
  refine lv_iconst (v := 3) hx hb dX3_init_44 (by decide) ?_
  refine x_newa C hTH120 hSH120 wAC_int rg_95 (by decide) rfl (by decide) ⟨by decide, by decide⟩ dX3_init_45 (fun H121 hTH121 hSH121 oH121 zH121 vH121 => ?_)
  have hNH121 : G119 H120.size = none := hTH120.gb _ (Nat.le_refl _)
  obtain ⟨G123, eGG123⟩ : ∃ g, g = gU G119 H120.size 95 := ⟨_, rfl⟩
  rw [← eGG123] at hTH121
  have nr_a_q122 : a ≠ H120.size := Nat.ne_of_lt hR.lt
  replace hR := hR.kept (oH121 _ hR.lt)
  replace gq102 : G123 q102 = some 90 := by rw [eGG123]; exact gU_mono hNH121 _ _ gq102
  replace gq106 : G123 q106 = some 91 := by rw [eGG123]; exact gU_mono hNH121 _ _ gq106
  replace gq110 : G123 q110 = some 92 := by rw [eGG123]; exact gU_mono hNH121 _ _ gq110
  replace gq114 : G123 q114 = some 93 := by rw [eGG123]; exact gU_mono hNH121 _ _ gq114
  replace gq118 : G123 q118 = some 94 := by rw [eGG123]; exact gU_mono hNH121 _ _ gq118
  replace hn : G123 a = none := by rw [eGG123, gU_ne nr_a_q122]; exact hn
  replace hGo : ∀ q, q < s.heap.size → q ≠ a → G123 q = G q := fun q hq hqa => (show G123 q = G119 q by rw [eGG123, gU_ne (Nat.ne_of_lt (Nat.lt_of_lt_of_le hq hSH120.1))]).trans (hGo q hq hqa)
  have gq122 : G123 H120.size = some 95 := by rw [eGG123]; exact gU_at
  obtain ⟨q122, eq122⟩ : ∃ q, q = H120.size := ⟨_, rfl⟩
  have leq122 : s.heap.size ≤ q122 := by rw [eq122]; exact hSH120.1
  rw [← eq122] at gq122 nr_a_q122
  rw [← eq122]
  clear eq122
  clear hNH121 eGG123 oH121 zH121 vH121 hTH120
  refine x_putR C hTH121 hSH121 (ci := 3) (k := 5) (v := .ref q122) (ty0 := tyX3) hR hn rfl inX3 tyX3_ok nmX3 (by decide) (Or.inr ⟨rfl, rfl, rfl⟩) wF_X3_27 (Nat.le_of_ble_eq_true rfl) rfl rfl (Or.inl rfl) dX3_init_47 (fun H124 locsH124 hR2 hTH124 hSH124 oH124 zH124 => ?_)
  clear hR
  have hR : RAW K H124 a 3 [.ref q102, .ref q106, .ref q110, .ref q114, .ref q118, .ref q122, .null, .null, .null, .int 0, .int 0, .int 0] := hR2
  clear hR2
  clear oH124 zH124 hTH121
  refine lv_aload_n hx hb dX3_init_50 rfl (lv_at hl 0 rfl) ?_
  refine lv_bipush (v := 8) hx hb dX3_init_51 (by decide) ?_
  refine x_newa C hTH124 hSH124 wAC_int rg_96 (by decide) rfl (by decide) ⟨by decide, by decide⟩ dX3_init_53 (fun H125 hTH125 hSH125 oH125 zH125 vH125 => ?_)
  have hNH125 : G123 H124.size = none := hTH124.gb _ (Nat.le_refl _)
  obtain ⟨G127, eGG127⟩ : ∃ g, g = gU G123 H124.size 96 := ⟨_, rfl⟩
  rw [← eGG127] at hTH125
  have nr_a_q126 : a ≠ H124.size := Nat.ne_of_lt hR.lt
  replace hR := hR.kept (oH125 _ hR.lt)
  replace gq102 : G127 q102 = some 90 := by rw [eGG127]; exact gU_mono hNH125 _ _ gq102
  replace gq106 : G127 q106 = some 91 := by rw [eGG127]; exact gU_mono hNH125 _ _ gq106
  replace gq110 : G127 q110 = some 92 := by rw [eGG127]; exact gU_mono hNH125 _ _ gq110
  replace gq114 : G127 q114 = some 93 := by rw [eGG127]; exact gU_mono hNH125 _ _ gq114
  replace gq118 : G127 q118 = some 94 := by rw [eGG127]; exact gU_mono hNH125 _ _ gq118
  replace gq122 : G127 q122 = some 95 := by rw [eGG127]; exact gU_mono hNH125 _ _ gq122
  replace hn : G127 a = none := by rw [eGG127, gU_ne nr_a_q126]; exact hn
  replace hGo : ∀ q, q < s.heap.size → q ≠ a → G127 q = G q := fun q hq hqa => (show G127 q = G123 q by rw [eGG127, gU_ne (Nat.ne_of_lt (Nat.lt_of_lt_of_le hq hSH124.1))]).trans (hGo q hq hqa)
  have gq126 : G127 H124.size = some 96 := by rw [eGG127]; exact gU_at
  obtain ⟨q126, eq126⟩ : ∃ q, q = H124.size := ⟨_, rfl⟩
  have leq126 : s.heap.size ≤ q126 := by rw [eq126]; exact hSH124.1
  rw [← eq126] at gq126 nr_a_q126
  rw [← eq126]
  clear eq126
  clear hNH125 eGG127 oH125 zH125 vH125 hTH124
  refine x_putR C hTH125 hSH125 (ci := 3) (k := 6) (v := .ref q126) (ty0 := tyX3) hR hn rfl inX3 tyX3_ok nmX3 (by decide) (Or.inr ⟨rfl, rfl, rfl⟩) wF_X3_30 (Nat.le_of_ble_eq_true rfl) rfl rfl (Or.inl rfl) dX3_init_55 (fun H128 locsH128 hR2 hTH128 hSH128 oH128 zH128 => ?_)
  clear hR
  have hR : RAW K H128 a 3 [.ref q102, .ref q106, .ref q110, .ref q114, .ref q118, .ref q122, .ref q126, .null, .null, .int 0, .int 0, .int 0] := hR2
  clear hR2
  clear oH128 zH128 hTH125
  refine lv_aload_n hx hb dX3_init_58 rfl (lv_at hl 0 rfl) ?_
  refine lv_bipush (v := 8) hx hb dX3_init_59 (by decide) ?_
  refine x_newa C hTH128 hSH128 wAC_int rg_97 (by decide) rfl (by decide) ⟨by decide, by decide⟩ dX3_init_61 (fun H129 hTH129 hSH129 oH129 zH129 vH129 => ?_)
  have hNH129 : G127 H128.size = none := hTH128.gb _ (Nat.le_refl _)
  obtain ⟨G131, eGG131⟩ : ∃ g, g = gU G127 H128.size 97 := ⟨_, rfl⟩
  rw [← eGG131] at hTH129
  have nr_a_q130 : a ≠ H128.size := Nat.ne_of_lt hR.lt
  replace hR := hR.kept (oH129 _ hR.lt)
  replace gq102 : G131 q102 = some 90 := by rw [eGG131]; exact gU_mono hNH129 _ _ gq102
  replace gq106 : G131 q106 = some 91 := by rw [eGG131]; exact gU_mono hNH129 _ _ gq106
  replace gq110 : G131 q110 = some 92 := by rw [eGG131]; exact gU_mono hNH129 _ _ gq110
  replace gq114 : G131 q114 = some 93 := by rw [eGG131]; exact gU_mono hNH129 _ _ gq114
  replace gq118 : G131 q118 = some 94 := by rw [eGG131]; exact gU_mono hNH129 _ _ gq118
  replace gq122 : G131 q122 = some 95 := by rw [eGG131]; exact gU_mono hNH129 _ _ gq122
  replace gq126 : G131 q126 = some 96 := by rw [eGG131]; exact gU_mono hNH129 _ _ gq126
  replace hn : G131 a = none := by rw [eGG131, gU_ne nr_a_q130]; exact hn
  replace hGo : ∀ q, q < s.heap.size → q ≠ a → G131 q = G q := fun q hq hqa => (show G131 q = G127 q by rw [eGG131, gU_ne (Nat.ne_of_lt (Nat.lt_of_lt_of_le hq hSH128.1))]).trans (hGo q hq hqa)
  have gq130 : G131 H128.size = some 97 := by rw [eGG131]; exact gU_at
  obtain ⟨q130, eq130⟩ : ∃ q, q = H128.size := ⟨_, rfl⟩
  have leq130 : s.heap.size ≤ q130 := by rw [eq130]; exact hSH128.1
  rw [← eq130] at gq130 nr_a_q130
  rw [← eq130]
  clear eq130
  clear hNH129 eGG131 oH129 zH129 vH129 hTH128
  refine x_putR C hTH129 hSH129 (ci := 3) (k := 7) (v := .ref q130) (ty0 := tyX3) hR hn rfl inX3 tyX3_ok nmX3 (by decide) (Or.inr ⟨rfl, rfl, rfl⟩) wF_X3_33 (Nat.le_of_ble_eq_true rfl) rfl rfl (Or.inl rfl) dX3_init_63 (fun H132 locsH132 hR2 hTH132 hSH132 oH132 zH132 => ?_)
  clear hR
  have hR : RAW K H132 a 3 [.ref q102, .ref q106, .ref q110, .ref q114, .ref q118, .ref q122, .ref q126, .ref q130, .null, .int 0, .int 0, .int 0] := hR2
  clear hR2
  clear oH132 zH132 hTH129
  refine lv_aload_n hx hb dX3_init_66 rfl (lv_at hl 0 rfl) ?_
  refine x_new C hTH132 hSH132 (ci := 2) (ty0 := tyX2) (vs := [.null, .int 0]) rfl inX2 tyX2_ok wC_X3_36 wIS_X2 wIN_X2 dfX2 ⟨by decide, by decide⟩ dX3_init_67 (fun H133 hR135 hTH133 hSH133 oH133 zH133 => ?_)
  have hNq134 : G131 H132.size = none := hTH132.gb _ (Nat.le_refl _)
  have nr_a_q134 : a ≠ H132.size := Nat.ne_of_lt hR.lt
  replace hR := hR.kept (oH133 _ hR.lt)
  obtain ⟨q134, eq134⟩ : ∃ q, q = H132.size := ⟨_, rfl⟩
  have leq134 : s.heap.size ≤ q134 := by rw [eq134]; exact hSH132.1
  rw [← eq134] at hNq134 hR135 nr_a_q134
  rw [← eq134]
  clear eq134
  clear oH133 zH133 hTH132
  refine lv_dup hx hb dX3_init_70 rfl ?_
  have lt_a_H136 := hR.lt
  refine x_IN (As := []) (rest := [.ref q134, .ref a]) C (k_X2_init_met l K G131 H133 (a := q134) hTH133 hNq134 hR135) yo_X2_init rfl wN_X3_38 ⟨⟨by decide, by decide⟩, by decide, by decide⟩ rfl hl.1 rfl (Nat.le_of_ble_eq_true rfl) dX3_init_71 hSH133 (fun x h => Or.inr (h.elim (fun e => by rw [e]; exact leq134) (fun h => Nat.le_trans hSH133.1 h))) (fun vH136 H136 locsH136 pH136 zH136 kH136 hSH136 => ?_)
  obtain ⟨hvH136, G137, hgH136, ggH136, hTH136⟩ := pH136
  subst hvH136
  replace hR := hR.kept (kH136 _ lt_a_H136 (fun h => h.elim nr_a_q134 (Nat.not_le.mpr lt_a_H136)))
  replace gq102 : G137 q102 = some 90 := (hgH136 _ (hTH133.lt gq102) (g_ne gq102 hNq134)).trans gq102
  replace gq106 : G137 q106 = some 91 := (hgH136 _ (hTH133.lt gq106) (g_ne gq106 hNq134)).trans gq106
  replace gq110 : G137 q110 = some 92 := (hgH136 _ (hTH133.lt gq110) (g_ne gq110 hNq134)).trans gq110
  replace gq114 : G137 q114 = some 93 := (hgH136 _ (hTH133.lt gq114) (g_ne gq114 hNq134)).trans gq114
  replace gq118 : G137 q118 = some 94 := (hgH136 _ (hTH133.lt gq118) (g_ne gq118 hNq134)).trans gq118
  replace gq122 : G137 q122 = some 95 := (hgH136 _ (hTH133.lt gq122) (g_ne gq122 hNq134)).trans gq122
  replace gq126 : G137 q126 = some 96 := (hgH136 _ (hTH133.lt gq126) (g_ne gq126 hNq134)).trans gq126
  replace gq130 : G137 q130 = some 97 := (hgH136 _ (hTH133.lt gq130) (g_ne gq130 hNq134)).trans gq130
  replace hn : G137 a = none := (hgH136 _ lt_a_H136 nr_a_q134).trans hn
  replace hGo : ∀ q, q < s.heap.size → q ≠ a → G137 q = G q := fun q hq hqa => (hgH136 q (Nat.lt_of_lt_of_le hq hSH133.1) (Nat.ne_of_lt (Nat.lt_of_lt_of_le hq leq134))).trans (hGo q hq hqa)
  have gq134 : G137 q134 = some 85 := ggH136
  clear hR135 hNq134 ggH136 hgH136 kH136 zH136 hTH133 lt_a_H136
  refine W.eq (g2 := F0 m 74 ls [.ref q134, .ref a]) rfl ?_
  refine x_putR C hTH136 hSH136 (ci := 3) (k := 8) (v := .ref q134) (ty0 := tyX3) hR hn rfl inX3 tyX3_ok nmX3 (by decide) (Or.inr ⟨rfl, rfl, rfl⟩) wF_X3_39 (Nat.le_of_ble_eq_true rfl) rfl rfl (Or.inl rfl) dX3_init_74 (fun H138 locsH138 hR2 hTH138 hSH138 oH138 zH138 => ?_)
  clear hR
  have hR : RAW K H138 a 3 [.ref q102, .ref q106, .ref q110, .ref q114, .ref q118, .ref q122, .ref q126, .ref q130, .ref q134, .int 0, .int 0, .int 0] := hR2
  clear hR2
  clear oH138 zH138 hTH136
  have hTZ := x_born (t := 89) hTH138 hn hR rfl rg_89 rfl (fun k f h => match k, f, h with | 0, _, h => by cases h; exact ⟨_, rfl, q102, rfl, gU_mono hn _ _ gq102⟩ | 1, _, h => by cases h; exact ⟨_, rfl, q106, rfl, gU_mono hn _ _ gq106⟩ | 2, _, h => by cases h; exact ⟨_, rfl, q110, rfl, gU_mono hn _ _ gq110⟩ | 3, _, h => by cases h; exact ⟨_, rfl, q114, rfl, gU_mono hn _ _ gq114⟩ | 4, _, h => by cases h; exact ⟨_, rfl, q118, rfl, gU_mono hn _ _ gq118⟩ | 5, _, h => by cases h; exact ⟨_, rfl, q122, rfl, gU_mono hn _ _ gq122⟩ | 6, _, h => by cases h; exact ⟨_, rfl, q126, rfl, gU_mono hn _ _ gq126⟩ | 7, _, h => by cases h; exact ⟨_, rfl, q130, rfl, gU_mono hn _ _ gq130⟩ | 8, _, h => by cases h; exact ⟨_, rfl, q134, rfl, gU_mono hn _ _ gq134⟩ | 9, _, h => by cases h; exact ⟨_, rfl, 0, rfl, by decide, by decide⟩ | 10, _, h => by cases h; exact ⟨_, rfl, 0, rfl, by decide, by decide⟩ | 11, _, h => by cases h; exact ⟨_, rfl, 0, rfl, by decide, by decide⟩ | k + 12, _, h => by simp at h)
  exact x_vret C hQ dX3_init_77 hSH138 (by decide) (by decide) (⟨rfl, gU G137 a 89, fun q hq hqa => by rw [gU_ne hqa]; exact hGo q hq hqa, gU_at, hTZ⟩)

set_option maxHeartbeats 4000000 in
set_option maxRecDepth 100000 in
theorem k_X1_init_grainS (l : Launch) (K : KE) (G : Nat → Option Nat) (H : Heap) {a : Nat} (hT : TY K G H) (hn : G a = none) (hR : RAW K H a 1 [.null, .null, .null, .null, .int 0, .int 0, .null, .null]) : MX l K yX1_init cX1_init 1 none 2 32 7 3575 [.ref a] H (fun q => q = a ∨ H.size ≤ q) (fun v H1 => v = none ∧ ∃ G1 : Nat → Option Nat, (∀ q, q < H.size → q ≠ a → G1 q = G q) ∧ G1 a = some 98 ∧ TY K G1 H1) := by
  refine MX.of (by decide +kernel) (Nat.le_of_ble_eq_true rfl) ?_
  intro p e s m below meth c ls Q C hH hl hQ
  subst hH
  have C : CX p K s m _ meth c RX1 cX1_init 1 none "<init>" := C
  obtain ⟨hx, hb, hml, hown, hts, hKT, hr, hlocks, hnm⟩ := id C
  have hl : lv_has ls 1 [(0, .ref a)] := hl
  have hS : va_S (fun q => q = a ∨ s.heap.size ≤ q) s.heap s.heap [] := va_S.rf
  have n_0 : (0 : Int32).toInt = 0 := rfl
  have n_5 : (5 : Int32).toInt = 5 := rfl
  have n_16 : (16 : Int32).toInt = 16 := rfl
  have n_240 : (240 : Int32).toInt = 240 := rfl
  have n_1024 : (1024 : Int32).toInt = 1024 := rfl
  have hGo : ∀ q, q < s.heap.size → q ≠ a → G q = G q := fun _ _ _ => rfl
  refine lv_aload_n hx hb dX1_init_0 rfl (lv_at hl 0 rfl) ?_
  refine x_objInit C wM_X1_3 wIM_OBJ wCD_OBJ hl.1 (by decide) dX1_init_1 ?_
  refine lv_aload_n hx hb dX1_init_4 rfl (lv_at hl 0 rfl) ?_
  refine lv_sipush (v := 240) hx hb dX1_init_5 (by decide) ?_
  refine x_newa C hT hS wAC_int rg_99 (by decide) rfl (by decide) ⟨by decide, by decide⟩ dX1_init_8 (fun H101 hTH101 hSH101 oH101 zH101 vH101 => ?_)
  have hNH101 : G s.heap.size = none := hT.gb _ (Nat.le_refl _)
  obtain ⟨G103, eGG103⟩ : ∃ g, g = gU G s.heap.size 99 := ⟨_, rfl⟩
  rw [← eGG103] at hTH101
  have nr_a_q102 : a ≠ s.heap.size := Nat.ne_of_lt hR.lt
  replace hR := hR.kept (oH101 _ hR.lt)
  replace hn : G103 a = none := by rw [eGG103, gU_ne nr_a_q102]; exact hn
  replace hGo : ∀ q, q < s.heap.size → q ≠ a → G103 q = G q := fun q hq hqa => (show G103 q = G q by rw [eGG103, gU_ne (Nat.ne_of_lt (Nat.lt_of_lt_of_le hq hS.1))]).trans (hGo q hq hqa)
  have gq102 : G103 s.heap.size = some 99 := by rw [eGG103]; exact gU_at
  obtain ⟨q102, eq102⟩ : ∃ q, q = s.heap.size := ⟨_, rfl⟩
  have leq102 : s.heap.size ≤ q102 := by rw [eq102]; exact hS.1
  rw [← eq102] at gq102 nr_a_q102
  rw [← eq102]
  clear eq102
  clear hNH101 eGG103 oH101 zH101 vH101 hT
  refine x_putR C hTH101 hSH101 (ci := 1) (k := 0) (v := .ref q102) (ty0 := tyX1) hR hn rfl inX1 tyX1_ok nmX1 (by decide) (Or.inr ⟨rfl, rfl, rfl⟩) wF_X1_11 (Nat.le_of_ble_eq_true rfl) rfl rfl (Or.inl rfl) dX1_init_10 (fun H104 locsH104 hR2 hTH104 hSH104 oH104 zH104 => ?_)
  clear hR
  have hR : RAW K H104 a 1 [.ref q102, .null, .null, .null, .int 0, .int 0, .null, .null] := hR2
  clear hR2
  clear oH104 zH104 hTH101
  refine lv_aload_n hx hb dX1_init_13 rfl (lv_at hl 0 rfl) ?_
  refine lv_sipush (v := 240) hx hb dX1_init_14 (by decide) ?_
  refine x_newa C hTH104 hSH104 wAC_int rg_100 (by decide) rfl (by decide) ⟨by decide, by decide⟩ dX1_init_17 (fun H105 hTH105 hSH105 oH105 zH105 vH105 => ?_)
  have hNH105 : G103 H104.size = none := hTH104.gb _ (Nat.le_refl _)
  obtain ⟨G107, eGG107⟩ : ∃ g, g = gU G103 H104.size 100 := ⟨_, rfl⟩
  rw [← eGG107] at hTH105
  have nr_a_q106 : a ≠ H104.size := Nat.ne_of_lt hR.lt
  replace hR := hR.kept (oH105 _ hR.lt)
  replace gq102 : G107 q102 = some 99 := by rw [eGG107]; exact gU_mono hNH105 _ _ gq102
  replace hn : G107 a = none := by rw [eGG107, gU_ne nr_a_q106]; exact hn
  replace hGo : ∀ q, q < s.heap.size → q ≠ a → G107 q = G q := fun q hq hqa => (show G107 q = G103 q by rw [eGG107, gU_ne (Nat.ne_of_lt (Nat.lt_of_lt_of_le hq hSH104.1))]).trans (hGo q hq hqa)
  have gq106 : G107 H104.size = some 100 := by rw [eGG107]; exact gU_at
  obtain ⟨q106, eq106⟩ : ∃ q, q = H104.size := ⟨_, rfl⟩
  have leq106 : s.heap.size ≤ q106 := by rw [eq106]; exact hSH104.1
  rw [← eq106] at gq106 nr_a_q106
  rw [← eq106]
  clear eq106
  clear hNH105 eGG107 oH105 zH105 vH105 hTH104
  refine x_putR C hTH105 hSH105 (ci := 1) (k := 1) (v := .ref q106) (ty0 := tyX1) hR hn rfl inX1 tyX1_ok nmX1 (by decide) (Or.inr ⟨rfl, rfl, rfl⟩) wF_X1_15 (Nat.le_of_ble_eq_true rfl) rfl rfl (Or.inl rfl) dX1_init_19 (fun H108 locsH108 hR2 hTH108 hSH108 oH108 zH108 => ?_)
  clear hR
  have hR : RAW K H108 a 1 [.ref q102, .ref q106, .null, .null, .int 0, .int 0, .null, .null] := hR2
  clear hR2
  clear oH108 zH108 hTH105
  refine lv_aload_n hx hb dX1_init_22 rfl (lv_at hl 0 rfl) ?_
  refine lv_iconst (v := 5) hx hb dX1_init_23 (by decide) ?_
  refine x_newa C hTH108 hSH108 wAC_int rg_101 (by decide) rfl (by decide) ⟨by decide, by decide⟩ dX1_init_24 (fun H109 hTH109 hSH109 oH109 zH109 vH109 => ?_)
  have hNH109 : G107 H108.size = none := hTH108.gb _ (Nat.le_refl _)
  obtain ⟨G111, eGG111⟩ : ∃ g, g = gU G107 H108.size 101 := ⟨_, rfl⟩
  rw [← eGG111] at hTH109
  have nr_a_q110 : a ≠ H108.size := Nat.ne_of_lt hR.lt
  replace hR := hR.kept (oH109 _ hR.lt)
  replace gq102 : G111 q102 = some 99 := by rw [eGG111]; exact gU_mono hNH109 _ _ gq102
  replace gq106 : G111 q106 = some 100 := by rw [eGG111]; exact gU_mono hNH109 _ _ gq106
  replace hn : G111 a = none := by rw [eGG111, gU_ne nr_a_q110]; exact hn
  replace hGo : ∀ q, q < s.heap.size → q ≠ a → G111 q = G q := fun q hq hqa => (show G111 q = G107 q by rw [eGG111, gU_ne (Nat.ne_of_lt (Nat.lt_of_lt_of_le hq hSH108.1))]).trans (hGo q hq hqa)
  have gq110 : G111 H108.size = some 101 := by rw [eGG111]; exact gU_at
  obtain ⟨q110, eq110⟩ : ∃ q, q = H108.size := ⟨_, rfl⟩
  have leq110 : s.heap.size ≤ q110 := by rw [eq110]; exact hSH108.1
  rw [← eq110] at gq110 nr_a_q110
  rw [← eq110]
  clear eq110
  clear hNH109 eGG111 oH109 zH109 vH109 hTH108
  refine x_putR C hTH109 hSH109 (ci := 1) (k := 2) (v := .ref q110) (ty0 := tyX1) hR hn rfl inX1 tyX1_ok nmX1 (by decide) (Or.inr ⟨rfl, rfl, rfl⟩) wF_X1_18 (Nat.le_of_ble_eq_true rfl) rfl rfl (Or.inl rfl) dX1_init_26 (fun H112 locsH112 hR2 hTH112 hSH112 oH112 zH112 => ?_)
  clear hR
  have hR : RAW K H112 a 1 [.ref q102, .ref q106, .ref q110, .null, .int 0, .int 0, .null, .null] := hR2
  clear hR2
  clear oH112 zH112 hTH109
  refine lv_aload_n hx hb dX1_init_29 rfl (lv_at hl 0 rfl) ?_
  refine lv_sipush (v := 1024) hx hb dX1_init_30 (by decide) ?_
  refine x_newa C hTH112 hSH112 wAC_int rg_102 (by decide) rfl (by decide) ⟨by decide, by decide⟩ dX1_init_33 (fun H113 hTH113 hSH113 oH113 zH113 vH113 => ?_)
  have hNH113 : G111 H112.size = none := hTH112.gb _ (Nat.le_refl _)
  obtain ⟨G115, eGG115⟩ : ∃ g, g = gU G111 H112.size 102 := ⟨_, rfl⟩
  rw [← eGG115] at hTH113
  have nr_a_q114 : a ≠ H112.size := Nat.ne_of_lt hR.lt
  replace hR := hR.kept (oH113 _ hR.lt)
  replace gq102 : G115 q102 = some 99 := by rw [eGG115]; exact gU_mono hNH113 _ _ gq102
  replace gq106 : G115 q106 = some 100 := by rw [eGG115]; exact gU_mono hNH113 _ _ gq106
  replace gq110 : G115 q110 = some 101 := by rw [eGG115]; exact gU_mono hNH113 _ _ gq110
  replace hn : G115 a = none := by rw [eGG115, gU_ne nr_a_q114]; exact hn
  replace hGo : ∀ q, q < s.heap.size → q ≠ a → G115 q = G q := fun q hq hqa => (show G115 q = G111 q by rw [eGG115, gU_ne (Nat.ne_of_lt (Nat.lt_of_lt_of_le hq hSH112.1))]).trans (hGo q hq hqa)
  have gq114 : G115 H112.size = some 102 := by rw [eGG115]; exact gU_at
  obtain ⟨q114, eq114⟩ : ∃ q, q = H112.size := ⟨_, rfl⟩
  have leq114 : s.heap.size ≤ q114 := by rw [eq114]; exact hSH112.1
  rw [← eq114] at gq114 nr_a_q114
  rw [← eq114]
  clear eq114
  clear hNH113 eGG115 oH113 zH113 vH113 hTH112
  refine x_putR C hTH113 hSH113 (ci := 1) (k := 3) (v := .ref q114) (ty0 := tyX1) hR hn rfl inX1 tyX1_ok nmX1 (by decide) (Or.inr ⟨rfl, rfl, rfl⟩) wF_X1_21 (Nat.le_of_ble_eq_true rfl) rfl rfl (Or.inl rfl) dX1_init_35 (fun H116 locsH116 hR2 hTH116 hSH116 oH116 zH116 => ?_)
  clear hR
  have hR : RAW K H116 a 1 [.ref q102, .ref q106, .ref q110, .ref q114, .int 0, .int 0, .null, .null] := hR2
  clear hR2
  clear oH116 zH116 hTH113
  refine lv_aload_n hx hb dX1_init_38 rfl (lv_at hl 0 rfl) ?_
  refine lv_bipush (v := 16) hx hb dX1_init_39 (by decide) ?_
  refine x_newa C hTH116 hSH116 wAC_int rg_103 (by decide) rfl (by decide) ⟨by decide, by decide⟩ dX1_init_41 (fun H117 hTH117 hSH117 oH117 zH117 vH117 => ?_)
  have hNH117 : G115 H116.size = none := hTH116.gb _ (Nat.le_refl _)
  obtain ⟨G119, eGG119⟩ : ∃ g, g = gU G115 H116.size 103 := ⟨_, rfl⟩
  rw [← eGG119] at hTH117
  have nr_a_q118 : a ≠ H116.size := Nat.ne_of_lt hR.lt
  replace hR := hR.kept (oH117 _ hR.lt)
  replace gq102 : G119 q102 = some 99 := by rw [eGG119]; exact gU_mono hNH117 _ _ gq102
  replace gq106 : G119 q106 = some 100 := by rw [eGG119]; exact gU_mono hNH117 _ _ gq106
  replace gq110 : G119 q110 = some 101 := by rw [eGG119]; exact gU_mono hNH117 _ _ gq110
  replace gq114 : G119 q114 = some 102 := by rw [eGG119]; exact gU_mono hNH117 _ _ gq114
  replace hn : G119 a = none := by rw [eGG119, gU_ne nr_a_q118]; exact hn
  replace hGo : ∀ q, q < s.heap.size → q ≠ a → G119 q = G q := fun q hq hqa => (show G119 q = G115 q by rw [eGG119, gU_ne (Nat.ne_of_lt (Nat.lt_of_lt_of_le hq hSH116.1))]).trans (hGo q hq hqa)
  have gq118 : G119 H116.size = some 103 := by rw [eGG119]; exact gU_at
  obtain ⟨q118, eq118⟩ : ∃ q, q = H116.size := ⟨_, rfl⟩
  have leq118 : s.heap.size ≤ q118 := by rw [eq118]; exact hSH116.1
  rw [← eq118] at gq118 nr_a_q118
  rw [← eq118]
  clear eq118
  clear hNH117 eGG119 oH117 zH117 vH117 hTH116
  refine x_putR C hTH117 hSH117 (ci := 1) (k := 6) (v := .ref q118) (ty0 := tyX1) hR hn rfl inX1 tyX1_ok nmX1 (by decide) (Or.inr ⟨rfl, rfl, rfl⟩) wF_X1_24 (Nat.le_of_ble_eq_true rfl) rfl rfl (Or.inl rfl) dX1_init_43 (fun H120 locsH120 hR2 hTH120 hSH120 oH120 zH120 => ?_)
  clear hR
  have hR : RAW K H120 a 1 [.ref q102, .ref q106, .ref q110, .ref q114, .int 0, .int 0, .ref q118, .null] := hR2
  clear hR2
  clear oH120 zH120 hTH117
  refine lv_aload_n hx hb dX1_init_46 rfl (lv_at hl 0 rfl) ?_
  refine x_new C hTH120 hSH120 (ci := 2) (ty0 := tyX2) (vs := [.null, .int 0]) rfl inX2 tyX2_ok wC_X1_27 wIS_X2 wIN_X2 dfX2 ⟨by decide, by decide⟩ dX1_init_47 (fun H121 hR123 hTH121 hSH121 oH121 zH121 => ?_)
  have hNq122 : G119 H120.size = none := hTH120.gb _ (Nat.le_refl _)
  have nr_a_q122 : a ≠ H120.size := Nat.ne_of_lt hR.lt
  replace hR := hR.kept (oH121 _ hR.lt)
  obtain ⟨q122, eq122⟩ : ∃ q, q = H120.size := ⟨_, rfl⟩
  have leq122 : s.heap.size ≤ q122 := by rw [eq122]; exact hSH120.1
  rw [← eq122] at hNq122 hR123 nr_a_q122
  rw [← eq122]
  clear eq122
  clear oH121 zH121 hTH120
  refine lv_dup hx hb dX1_init_50 rfl ?_
  have lt_a_H124 := hR.lt
  refine x_IN (As := []) (rest := [.ref q122, .ref a]) C (k_X2_init_unlike l K G119 H121 (a := q122) hTH121 hNq122 hR123) yo_X2_init rfl wN_X1_29 ⟨⟨by decide, by decide⟩, by decide, by decide⟩ rfl hl.1 rfl (Nat.le_of_ble_eq_true rfl) dX1_init_51 hSH121 (fun x h => Or.inr (h.elim (fun e => by rw [e]; exact leq122) (fun h => Nat.le_trans hSH121.1 h))) (fun vH124 H124 locsH124 pH124 zH124 kH124 hSH124 => ?_)
  obtain ⟨hvH124, G125, hgH124, ggH124, hTH124⟩ := pH124
  subst hvH124
  replace hR := hR.kept (kH124 _ lt_a_H124 (fun h => h.elim nr_a_q122 (Nat.not_le.mpr lt_a_H124)))
  replace gq102 : G125 q102 = some 99 := (hgH124 _ (hTH121.lt gq102) (g_ne gq102 hNq122)).trans gq102
  replace gq106 : G125 q106 = some 100 := (hgH124 _ (hTH121.lt gq106) (g_ne gq106 hNq122)).trans gq106
  replace gq110 : G125 q110 = some 101 := (hgH124 _ (hTH121.lt gq110) (g_ne gq110 hNq122)).trans gq110
  replace gq114 : G125 q114 = some 102 := (hgH124 _ (hTH121.lt gq114) (g_ne gq114 hNq122)).trans gq114
  replace gq118 : G125 q118 = some 103 := (hgH124 _ (hTH121.lt gq118) (g_ne gq118 hNq122)).trans gq118
  replace hn : G125 a = none := (hgH124 _ lt_a_H124 nr_a_q122).trans hn
  replace hGo : ∀ q, q < s.heap.size → q ≠ a → G125 q = G q := fun q hq hqa => (hgH124 q (Nat.lt_of_lt_of_le hq hSH121.1) (Nat.ne_of_lt (Nat.lt_of_lt_of_le hq leq122))).trans (hGo q hq hqa)
  have gq122 : G125 q122 = some 87 := ggH124
  clear hR123 hNq122 ggH124 hgH124 kH124 zH124 hTH121 lt_a_H124
  refine W.eq (g2 := F0 m 54 ls [.ref q122, .ref a]) rfl ?_
  refine x_putR C hTH124 hSH124 (ci := 1) (k := 7) (v := .ref q122) (ty0 := tyX1) hR hn rfl inX1 tyX1_ok nmX1 (by decide) (Or.inr ⟨rfl, rfl, rfl⟩) wF_X1_30 (Nat.le_of_ble_eq_true rfl) rfl rfl (Or.inl rfl) dX1_init_54 (fun H126 locsH126 hR2 hTH126 hSH126 oH126 zH126 => ?_)
  clear hR
  have hR : RAW K H126 a 1 [.ref q102, .ref q106, .ref q110, .ref q114, .int 0, .int 0, .ref q118, .ref q122] := hR2
  clear hR2
  clear oH126 zH126 hTH124
  have hTZ := x_born (t := 98) hTH126 hn hR rfl rg_98 rfl (fun k f h => match k, f, h with | 0, _, h => by cases h; exact ⟨_, rfl, q102, rfl, gU_mono hn _ _ gq102⟩ | 1, _, h => by cases h; exact ⟨_, rfl, q106, rfl, gU_mono hn _ _ gq106⟩ | 2, _, h => by cases h; exact ⟨_, rfl, q110, rfl, gU_mono hn _ _ gq110⟩ | 3, _, h => by cases h; exact ⟨_, rfl, q114, rfl, gU_mono hn _ _ gq114⟩ | 4, _, h => by cases h; exact ⟨_, rfl, 0, rfl, by decide, by decide⟩ | 5, _, h => by cases h; exact ⟨_, rfl, 0, rfl, by decide, by decide⟩ | 6, _, h => by cases h; exact ⟨_, rfl, q118, rfl, gU_mono hn _ _ gq118⟩ | 7, _, h => by cases h; exact ⟨_, rfl, q122, rfl, gU_mono hn _ _ gq122⟩ | k + 8, _, h => by simp at h)
  exact x_vret C hQ dX1_init_57 hSH126 (by decide) (by decide) (⟨rfl, gU G125 a 98, fun q hq hqa => by rw [gU_ne hqa]; exact hGo q hq hqa, gU_at, hTZ⟩)

set_option maxHeartbeats 4000000 in
set_option maxRecDepth 100000 in
theorem k_X9_init_main (l : Launch) (K : KE) (G : Nat → Option Nat) (H : Heap) {a : Nat} (hT : TY K G H) (hn : G a = none) (hR : RAW K H a 9 [.null, .null, .null, .int 0, .null, .null, .null, .null, .null, .null, .null, .null]) : MX l K yX9_init cX9_init 1 none 3 53 477 22009 [.ref a] H (fun q => q = a ∨ H.size ≤ q) (fun v H1 => v = none ∧ ∃ G1 : Nat → Option Nat, (∀ q, q < H.size → q ≠ a → G1 q = G q) ∧ G1 a = some 68 ∧ TY K G1 H1 ∧ ∃ w : Nat, G1 w = some 0 ∧ FX K H1 a w ∧ ∃ bq : Nat, G1 bq = some 25 ∧ bq = fR H1 w (K.1.2 8 0) ∧ DB H1 bq) := by
  refine MX.of (by decide +kernel) (Nat.le_of_ble_eq_true rfl) ?_
  intro p e s m below meth c ls Q C hH hl hQ
  subst hH
  have C : CX p K s m _ meth c RX9 cX9_init 1 none "<init>" := C
  obtain ⟨hx, hb, hml, hown, hts, hKT, hr, hlocks, hnm⟩ := id C
  have hl : lv_has ls 1 [(0, .ref a)] := hl
  have hS : va_S (fun q => q = a ∨ s.heap.size ≤ q) s.heap s.heap [] := va_S.rf
  have n_0 : (0 : Int32).toInt = 0 := rfl
  have n_10 : (10 : Int32).toInt = 10 := rfl
  have n_16 : (16 : Int32).toInt = 16 := rfl
  have n_500 : (500 : Int32).toInt = 500 := rfl
  have hGo : ∀ q, q < s.heap.size → q ≠ a → G q = G q := fun _ _ _ => rfl
  refine lv_aload_n hx hb dX9_init_0 rfl (lv_at hl 0 rfl) ?_
  refine x_objInit C wM_X9_3 wIM_OBJ wCD_OBJ hl.1 (by decide) dX9_init_1 ?_
  refine lv_aload_n hx hb dX9_init_4 rfl (lv_at hl 0 rfl) ?_
  refine x_new C hT hS (ci := 8) (ty0 := tyX8) (vs := [.null, .int 0, .null, .null, .int 0, .int 0, .int 0, .int 0, .null, .null, .int 0, .null, .null, .int 0, .null, .null, .int 0]) rfl inX8 tyX8_ok wC_X9_9 wIS_X8 wIN_X8 dfX8 ⟨by decide, by decide⟩ dX9_init_5 (fun H101 hR103 hTH101 hSH101 oH101 zH101 => ?_)
  have hNq102 : G s.heap.size = none := hT.gb _ (Nat.le_refl _)
  have nr_a_q102 : a ≠ s.heap.size := Nat.ne_of_lt hR.lt
  replace hR := hR.kept (oH101 _ hR.lt)
  obtain ⟨q102, eq102⟩ : ∃ q, q = s.heap.size := ⟨_, rfl⟩
  have leq102 : s.heap.size ≤ q102 := by rw [eq102]; exact hS.1
  rw [← eq102] at hNq102 hR103 nr_a_q102
  rw [← eq102]
  clear eq102
  clear oH101 zH101 hT
  refine lv_dup hx hb dX9_init_8 rfl ?_
  have lt_a_H104 := hR.lt
  refine x_I (As := []) (rest := [.ref q102, .ref a]) C (k_X8_init_now l K G H101 (a := q102) hTH101 hNq102 hR103) yo_X8_init rfl wM_X9_11 ⟨⟨by decide, by decide⟩, by decide, by decide⟩ rfl hl.1 rfl (Nat.le_of_ble_eq_true rfl) dX9_init_9 hSH101 (fun x h => Or.inr (h.elim (fun e => by rw [e]; exact leq102) (fun h => Nat.le_trans hSH101.1 h))) (fun vH104 H104 locsH104 pH104 zH104 kH104 hSH104 => ?_)
  obtain ⟨hvH104, G105, hgH104, ggH104, hTH104, bqq102, gbqq102, ebqq102, dbq102, fq102_1, fq102_4, fq102_5, fq102_6, fq102_7, fq102_10, fq102_13, fq102_16⟩ := pH104
  subst hvH104
  replace hR := hR.kept (kH104 _ lt_a_H104 (fun h => h.elim nr_a_q102 (Nat.not_le.mpr lt_a_H104)))
  replace hn : G105 a = none := (hgH104 _ lt_a_H104 nr_a_q102).trans hn
  replace hGo : ∀ q, q < s.heap.size → q ≠ a → G105 q = G q := fun q hq hqa => (hgH104 q (Nat.lt_of_lt_of_le hq hSH101.1) (Nat.ne_of_lt (Nat.lt_of_lt_of_le hq leq102))).trans (hGo q hq hqa)
  have gq102 : G105 q102 = some 0 := ggH104
  clear hR103 hNq102 ggH104 hgH104 kH104 zH104 hTH101 lt_a_H104
  refine W.eq (g2 := F0 m 12 ls [.ref q102, .ref a]) rfl ?_
  refine x_putR C hTH104 hSH104 (ci := 9) (k := 0) (v := .ref q102) (ty0 := tyX9) hR hn rfl inX9 tyX9_ok nmX9 (by decide) (Or.inr ⟨rfl, rfl, rfl⟩) wF_X9_12 (Nat.le_of_ble_eq_true rfl) rfl rfl (Or.inl rfl) dX9_init_12 (fun H106 locsH106 hR2 hTH106 hSH106 oH106 zH106 => ?_)
  clear hR
  have hR : RAW K H106 a 9 [.ref q102, .null, .null, .int 0, .null, .null, .null, .null, .null, .null, .null, .null] := hR2
  clear hR2
  replace dbq102 := DB.kept dbq102 (oH106 _ (g_ne gbqq102 hn))
  have m107 := (ebqq102).trans (fR_kept (oH106 _ (g_ne gq102 hn))).symm
  have m108 := (fI_kept (oH106 _ (g_ne gq102 hn))).trans fq102_1
  have m109 := (fI_kept (oH106 _ (g_ne gq102 hn))).trans fq102_4
  have m110 := (fI_kept (oH106 _ (g_ne gq102 hn))).trans fq102_5
  have m111 := (fI_kept (oH106 _ (g_ne gq102 hn))).trans fq102_6
  have m112 := (fI_kept (oH106 _ (g_ne gq102 hn))).trans fq102_7
  have m113 := (fI_kept (oH106 _ (g_ne gq102 hn))).trans fq102_10
  have m114 := (fI_kept (oH106 _ (g_ne gq102 hn))).trans fq102_13
  have m115 := (fI_kept (oH106 _ (g_ne gq102 hn))).trans fq102_16
  clear oH106 zH106 hTH104
  refine lv_aload_n hx hb dX9_init_15 rfl (lv_at hl 0 rfl) ?_
  refine lv_sipush (v := 500) hx hb dX9_init_16 (by decide) ?_
  refine x_newa C hTH106 hSH106 wAC_int rg_108 (by decide) rfl (by decide) ⟨by decide, by decide⟩ dX9_init_19 (fun H116 hTH116 hSH116 oH116 zH116 vH116 => ?_)
  have hNH116 : G105 H106.size = none := hTH106.gb _ (Nat.le_refl _)
  obtain ⟨G118, eGG118⟩ : ∃ g, g = gU G105 H106.size 108 := ⟨_, rfl⟩
  rw [← eGG118] at hTH116
  have nr_a_q117 : a ≠ H106.size := Nat.ne_of_lt hR.lt
  replace dbq102 := DB.kept dbq102 (oH116 _ (hTH106.lt gbqq102))
  have m119 := (m107).trans (fR_kept (oH116 _ (hTH106.lt gq102))).symm
  clear m107
  have m120 := (fI_kept (oH116 _ (hTH106.lt gq102))).trans m108
  clear m108
  have m121 := (fI_kept (oH116 _ (hTH106.lt gq102))).trans m109
  clear m109
  have m122 := (fI_kept (oH116 _ (hTH106.lt gq102))).trans m110
  clear m110
  have m123 := (fI_kept (oH116 _ (hTH106.lt gq102))).trans m111
  clear m111
  have m124 := (fI_kept (oH116 _ (hTH106.lt gq102))).trans m112
  clear m112
  have m125 := (fI_kept (oH116 _ (hTH106.lt gq102))).trans m113
  clear m113
  have m126 := (fI_kept (oH116 _ (hTH106.lt gq102))).trans m114
  clear m114
  have m127 := (fI_kept (oH116 _ (hTH106.lt gq102))).trans m115
  clear m115
  replace hR := hR.kept (oH116 _ hR.lt)
  replace gq102 : G118 q102 = some 0 := by rw [eGG118]; exact gU_mono hNH116 _ _ gq102
  replace gbqq102 : G118 bqq102 = some 25 := by rw [eGG118]; exact gU_mono hNH116 _ _ gbqq102
  replace hn : G118 a = none := by rw [eGG118, gU_ne nr_a_q117]; exact hn
  replace hGo : ∀ q, q < s.heap.size → q ≠ a → G118 q = G q := fun q hq hqa => (show G118 q = G105 q by rw [eGG118, gU_ne (Nat.ne_of_lt (Nat.lt_of_lt_of_le hq hSH106.1))]).trans (hGo q hq hqa)
  have gq117 : G118 H106.size = some 108 := by rw [eGG118]; exact gU_at
  obtain ⟨q117, eq117⟩ : ∃ q, q = H106.size := ⟨_, rfl⟩
  have leq117 : s.heap.size ≤ q117 := by rw [eq117]; exact hSH106.1
  rw [← eq117] at gq117 nr_a_q117
  rw [← eq117]
  clear eq117
  clear hNH116 eGG118 oH116 zH116 vH116 hTH106
  refine x_putR C hTH116 hSH116 (ci := 9) (k := 2) (v := .ref q117) (ty0 := tyX9) hR hn rfl inX9 tyX9_ok nmX9 (by decide) (Or.inr ⟨rfl, rfl, rfl⟩) wF_X9_16 (Nat.le_of_ble_eq_true rfl) rfl rfl (Or.inl rfl) dX9_init_21 (fun H128 locsH128 hR2 hTH128 hSH128 oH128 zH128 => ?_)
  clear hR
  have hR : RAW K H128 a 9 [.ref q102, .null, .ref q117, .int 0, .null, .null, .null, .null, .null, .null, .null, .null] := hR2
  clear hR2
  replace dbq102 := DB.kept dbq102 (oH128 _ (g_ne gbqq102 hn))
  have m129 := (m119).trans (fR_kept (oH128 _ (g_ne gq102 hn))).symm
  clear m119
  have m130 := (fI_kept (oH128 _ (g_ne gq102 hn))).trans m120
  clear m120
  have m131 := (fI_kept (oH128 _ (g_ne gq102 hn))).trans m121
  clear m121
  have m132 := (fI_kept (oH128 _ (g_ne gq102 hn))).trans m122
  clear m122
  have m133 := (fI_kept (oH128 _ (g_ne gq102 hn))).trans m123
  clear m123
  have m134 := (fI_kept (oH128 _ (g_ne gq102 hn))).trans m124
  clear m124
  have m135 := (fI_kept (oH128 _ (g_ne gq102 hn))).trans m125
  clear m125
  have m136 := (fI_kept (oH128 _ (g_ne gq102 hn))).trans m126
  clear m126
  have m137 := (fI_kept (oH128 _ (g_ne gq102 hn))).trans m127
  clear m127
  clear oH128 zH128 hTH116
  refine lv_aload_n hx hb dX9_init_24 rfl (lv_at hl 0 rfl) ?_
  refine x_new C hTH128 hSH128 (ci := 4) (ty0 := tyX4) (vs := [.null, .int 0, .int 0, .null, .null, .null, .int 0, .int 0, .int 0]) rfl inX4 tyX4_ok wC_X9_20 wIS_X4 wIN_X4 dfX4 ⟨by decide, by decide⟩ dX9_init_25 (fun H138 hR140 hTH138 hSH138 oH138 zH138 => ?_)
  have hNq139 : G118 H128.size = none := hTH128.gb _ (Nat.le_refl _)
  have nr_a_q139 : a ≠ H128.size := Nat.ne_of_lt hR.lt
  replace dbq102 := DB.kept dbq102 (oH138 _ (hTH128.lt gbqq102))
  have m141 := (m129).trans (fR_kept (oH138 _ (hTH128.lt gq102))).symm
  clear m129
  have m142 := (fI_kept (oH138 _ (hTH128.lt gq102))).trans m130
  clear m130
  have m143 := (fI_kept (oH138 _ (hTH128.lt gq102))).trans m131
  clear m131
  have m144 := (fI_kept (oH138 _ (hTH128.lt gq102))).trans m132
  clear m132
  have m145 := (fI_kept (oH138 _ (hTH128.lt gq102))).trans m133
  clear m133
  have m146 := (fI_kept (oH138 _ (hTH128.lt gq102))).trans m134
  clear m134
  have m147 := (fI_kept (oH138 _ (hTH128.lt gq102))).trans m135
  clear m135
  have m148 := (fI_kept (oH138 _ (hTH128.lt gq102))).trans m136
  clear m136
  have m149 := (fI_kept (oH138 _ (hTH128.lt gq102))).trans m137
  clear m137
  replace hR := hR.kept (oH138 _ hR.lt)
  obtain ⟨q139, eq139⟩ : ∃ q, q = H128.size := ⟨_, rfl⟩
  have leq139 : s.heap.size ≤ q139 := by rw [eq139]; exact hSH128.1
  rw [← eq139] at hNq139 hR140 nr_a_q139
  rw [← eq139]
  clear eq139
  clear oH138 zH138 hTH128
  refine lv_dup hx hb dX9_init_28 rfl ?_
  have lt_a_H150 := hR.lt
  refine x_IN (As := []) (rest := [.ref q139, .ref a]) C (k_X4_init_reader l K G118 H138 (a := q139) hTH138 hNq139 hR140) yo_X4_init rfl wN_X9_22 ⟨⟨by decide, by decide⟩, by decide, by decide⟩ rfl hl.1 rfl (Nat.le_of_ble_eq_true rfl) dX9_init_29 hSH138 (fun x h => Or.inr (h.elim (fun e => by rw [e]; exact leq139) (fun h => Nat.le_trans hSH138.1 h))) (fun vH150 H150 locsH150 pH150 zH150 kH150 hSH150 => ?_)
  obtain ⟨hvH150, G151, hgH150, ggH150, hTH150⟩ := pH150
  subst hvH150
  replace dbq102 := DB.kept dbq102 (kH150 _ (hTH138.lt gbqq102) (fun h => h.elim (g_ne gbqq102 hNq139) (Nat.not_le.mpr (hTH138.lt gbqq102))))
  have m152 := (m141).trans (fR_kept (kH150 _ (hTH138.lt gq102) (fun h => h.elim (g_ne gq102 hNq139) (Nat.not_le.mpr (hTH138.lt gq102))))).symm
  clear m141
  have m153 := (fI_kept (kH150 _ (hTH138.lt gq102) (fun h => h.elim (g_ne gq102 hNq139) (Nat.not_le.mpr (hTH138.lt gq102))))).trans m142
  clear m142
  have m154 := (fI_kept (kH150 _ (hTH138.lt gq102) (fun h => h.elim (g_ne gq102 hNq139) (Nat.not_le.mpr (hTH138.lt gq102))))).trans m143
  clear m143
  have m155 := (fI_kept (kH150 _ (hTH138.lt gq102) (fun h => h.elim (g_ne gq102 hNq139) (Nat.not_le.mpr (hTH138.lt gq102))))).trans m144
  clear m144
  have m156 := (fI_kept (kH150 _ (hTH138.lt gq102) (fun h => h.elim (g_ne gq102 hNq139) (Nat.not_le.mpr (hTH138.lt gq102))))).trans m145
  clear m145
  have m157 := (fI_kept (kH150 _ (hTH138.lt gq102) (fun h => h.elim (g_ne gq102 hNq139) (Nat.not_le.mpr (hTH138.lt gq102))))).trans m146
  clear m146
  have m158 := (fI_kept (kH150 _ (hTH138.lt gq102) (fun h => h.elim (g_ne gq102 hNq139) (Nat.not_le.mpr (hTH138.lt gq102))))).trans m147
  clear m147
  have m159 := (fI_kept (kH150 _ (hTH138.lt gq102) (fun h => h.elim (g_ne gq102 hNq139) (Nat.not_le.mpr (hTH138.lt gq102))))).trans m148
  clear m148
  have m160 := (fI_kept (kH150 _ (hTH138.lt gq102) (fun h => h.elim (g_ne gq102 hNq139) (Nat.not_le.mpr (hTH138.lt gq102))))).trans m149
  clear m149
  replace hR := hR.kept (kH150 _ lt_a_H150 (fun h => h.elim nr_a_q139 (Nat.not_le.mpr lt_a_H150)))
  replace gq102 : G151 q102 = some 0 := (hgH150 _ (hTH138.lt gq102) (g_ne gq102 hNq139)).trans gq102
  replace gq117 : G151 q117 = some 108 := (hgH150 _ (hTH138.lt gq117) (g_ne gq117 hNq139)).trans gq117
  replace gbqq102 : G151 bqq102 = some 25 := (hgH150 _ (hTH138.lt gbqq102) (g_ne gbqq102 hNq139)).trans gbqq102
  replace hn : G151 a = none := (hgH150 _ lt_a_H150 nr_a_q139).trans hn
  replace hGo : ∀ q, q < s.heap.size → q ≠ a → G151 q = G q := fun q hq hqa => (hgH150 q (Nat.lt_of_lt_of_le hq hSH138.1) (Nat.ne_of_lt (Nat.lt_of_lt_of_le hq leq139))).trans (hGo q hq hqa)
  have gq139 : G151 q139 = some 78 := ggH150
  clear hR140 hNq139 ggH150 hgH150 kH150 zH150 hTH138 lt_a_H150
  refine W.eq (g2 := F0 m 32 ls [.ref q139, .ref a]) rfl ?_
  refine x_putR C hTH150 hSH150 (ci := 9) (k := 4) (v := .ref q139) (ty0 := tyX9) hR hn rfl inX9 tyX9_ok nmX9 (by decide) (Or.inr ⟨rfl, rfl, rfl⟩) wF_X9_23 (Nat.le_of_ble_eq_true rfl) rfl rfl (Or.inl rfl) dX9_init_32 (fun H161 locsH161 hR2 hTH161 hSH161 oH161 zH161 => ?_)
  clear hR
  have hR : RAW K H161 a 9 [.ref q102, .null, .ref q117, .int 0, .ref q139, .null, .null, .null, .null, .null, .null, .null] := hR2
  clear hR2
  replace dbq102 := DB.kept dbq102 (oH161 _ (g_ne gbqq102 hn))
  have m162 := (m152).trans (fR_kept (oH161 _ (g_ne gq102 hn))).symm
  clear m152
  have m163 := (fI_kept (oH161 _ (g_ne gq102 hn))).trans m153
  clear m153
  have m164 := (fI_kept (oH161 _ (g_ne gq102 hn))).trans m154
  clear m154
  have m165 := (fI_kept (oH161 _ (g_ne gq102 hn))).trans m155
  clear m155
  have m166 := (fI_kept (oH161 _ (g_ne gq102 hn))).trans m156
  clear m156
  have m167 := (fI_kept (oH161 _ (g_ne gq102 hn))).trans m157
  clear m157
  have m168 := (fI_kept (oH161 _ (g_ne gq102 hn))).trans m158
  clear m158
  have m169 := (fI_kept (oH161 _ (g_ne gq102 hn))).trans m159
  clear m159
  have m170 := (fI_kept (oH161 _ (g_ne gq102 hn))).trans m160
  clear m160
  clear oH161 zH161 hTH150
  refine lv_aload_n hx hb dX9_init_35 rfl (lv_at hl 0 rfl) ?_
  refine x_new C hTH161 hSH161 (ci := 6) (ty0 := tyX6) (vs := [.null, .null]) rfl inX6 tyX6_ok wC_X9_27 wIS_X6 wIN_X6 dfX6 ⟨by decide, by decide⟩ dX9_init_36 (fun H171 hR173 hTH171 hSH171 oH171 zH171 => ?_)
  have hNq172 : G151 H161.size = none := hTH161.gb _ (Nat.le_refl _)
  have nr_a_q172 : a ≠ H161.size := Nat.ne_of_lt hR.lt
  replace dbq102 := DB.kept dbq102 (oH171 _ (hTH161.lt gbqq102))
  have m174 := (m162).trans (fR_kept (oH171 _ (hTH161.lt gq102))).symm
  clear m162
  have m175 := (fI_kept (oH171 _ (hTH161.lt gq102))).trans m163
  clear m163
  have m176 := (fI_kept (oH171 _ (hTH161.lt gq102))).trans m164
  clear m164
  have m177 := (fI_kept (oH171 _ (hTH161.lt gq102))).trans m165
  clear m165
  have m178 := (fI_kept (oH171 _ (hTH161.lt gq102))).trans m166
  clear m166
  have m179 := (fI_kept (oH171 _ (hTH161.lt gq102))).trans m167
  clear m167
  have m180 := (fI_kept (oH171 _ (hTH161.lt gq102))).trans m168
  clear m168
  have m181 := (fI_kept (oH171 _ (hTH161.lt gq102))).trans m169
  clear m169
  have m182 := (fI_kept (oH171 _ (hTH161.lt gq102))).trans m170
  clear m170
  replace hR := hR.kept (oH171 _ hR.lt)
  obtain ⟨q172, eq172⟩ : ∃ q, q = H161.size := ⟨_, rfl⟩
  have leq172 : s.heap.size ≤ q172 := by rw [eq172]; exact hSH161.1
  rw [← eq172] at hNq172 hR173 nr_a_q172
  rw [← eq172]
  clear eq172
  clear oH171 zH171 hTH161
  refine lv_dup hx hb dX9_init_39 rfl ?_
  have lt_a_H183 := hR.lt
  refine x_IN (As := []) (rest := [.ref q172, .ref a]) C (k_X6_init_sums l K G151 H171 (a := q172) hTH171 hNq172 hR173) yo_X6_init rfl wN_X9_29 ⟨⟨by decide, by decide⟩, by decide, by decide⟩ rfl hl.1 rfl (Nat.le_of_ble_eq_true rfl) dX9_init_40 hSH171 (fun x h => Or.inr (h.elim (fun e => by rw [e]; exact leq172) (fun h => Nat.le_trans hSH171.1 h))) (fun vH183 H183 locsH183 pH183 zH183 kH183 hSH183 => ?_)
  obtain ⟨hvH183, G184, hgH183, ggH183, hTH183⟩ := pH183
  subst hvH183
  replace dbq102 := DB.kept dbq102 (kH183 _ (hTH171.lt gbqq102) (fun h => h.elim (g_ne gbqq102 hNq172) (Nat.not_le.mpr (hTH171.lt gbqq102))))
  have m185 := (m174).trans (fR_kept (kH183 _ (hTH171.lt gq102) (fun h => h.elim (g_ne gq102 hNq172) (Nat.not_le.mpr (hTH171.lt gq102))))).symm
  clear m174
  have m186 := (fI_kept (kH183 _ (hTH171.lt gq102) (fun h => h.elim (g_ne gq102 hNq172) (Nat.not_le.mpr (hTH171.lt gq102))))).trans m175
  clear m175
  have m187 := (fI_kept (kH183 _ (hTH171.lt gq102) (fun h => h.elim (g_ne gq102 hNq172) (Nat.not_le.mpr (hTH171.lt gq102))))).trans m176
  clear m176
  have m188 := (fI_kept (kH183 _ (hTH171.lt gq102) (fun h => h.elim (g_ne gq102 hNq172) (Nat.not_le.mpr (hTH171.lt gq102))))).trans m177
  clear m177
  have m189 := (fI_kept (kH183 _ (hTH171.lt gq102) (fun h => h.elim (g_ne gq102 hNq172) (Nat.not_le.mpr (hTH171.lt gq102))))).trans m178
  clear m178
  have m190 := (fI_kept (kH183 _ (hTH171.lt gq102) (fun h => h.elim (g_ne gq102 hNq172) (Nat.not_le.mpr (hTH171.lt gq102))))).trans m179
  clear m179
  have m191 := (fI_kept (kH183 _ (hTH171.lt gq102) (fun h => h.elim (g_ne gq102 hNq172) (Nat.not_le.mpr (hTH171.lt gq102))))).trans m180
  clear m180
  have m192 := (fI_kept (kH183 _ (hTH171.lt gq102) (fun h => h.elim (g_ne gq102 hNq172) (Nat.not_le.mpr (hTH171.lt gq102))))).trans m181
  clear m181
  have m193 := (fI_kept (kH183 _ (hTH171.lt gq102) (fun h => h.elim (g_ne gq102 hNq172) (Nat.not_le.mpr (hTH171.lt gq102))))).trans m182
  clear m182
  replace hR := hR.kept (kH183 _ lt_a_H183 (fun h => h.elim nr_a_q172 (Nat.not_le.mpr lt_a_H183)))
  replace gq102 : G184 q102 = some 0 := (hgH183 _ (hTH171.lt gq102) (g_ne gq102 hNq172)).trans gq102
  replace gq117 : G184 q117 = some 108 := (hgH183 _ (hTH171.lt gq117) (g_ne gq117 hNq172)).trans gq117
  replace gq139 : G184 q139 = some 78 := (hgH183 _ (hTH171.lt gq139) (g_ne gq139 hNq172)).trans gq139
  replace gbqq102 : G184 bqq102 = some 25 := (hgH183 _ (hTH171.lt gbqq102) (g_ne gbqq102 hNq172)).trans gbqq102
  replace hn : G184 a = none := (hgH183 _ lt_a_H183 nr_a_q172).trans hn
  replace hGo : ∀ q, q < s.heap.size → q ≠ a → G184 q = G q := fun q hq hqa => (hgH183 q (Nat.lt_of_lt_of_le hq hSH171.1) (Nat.ne_of_lt (Nat.lt_of_lt_of_le hq leq172))).trans (hGo q hq hqa)
  have gq172 : G184 q172 = some 82 := ggH183
  clear hR173 hNq172 ggH183 hgH183 kH183 zH183 hTH171 lt_a_H183
  refine W.eq (g2 := F0 m 43 ls [.ref q172, .ref a]) rfl ?_
  refine x_putR C hTH183 hSH183 (ci := 9) (k := 5) (v := .ref q172) (ty0 := tyX9) hR hn rfl inX9 tyX9_ok nmX9 (by decide) (Or.inr ⟨rfl, rfl, rfl⟩) wF_X9_30 (Nat.le_of_ble_eq_true rfl) rfl rfl (Or.inl rfl) dX9_init_43 (fun H194 locsH194 hR2 hTH194 hSH194 oH194 zH194 => ?_)
  clear hR
  have hR : RAW K H194 a 9 [.ref q102, .null, .ref q117, .int 0, .ref q139, .ref q172, .null, .null, .null, .null, .null, .null] := hR2
  clear hR2
  replace dbq102 := DB.kept dbq102 (oH194 _ (g_ne gbqq102 hn))
  have m195 := (m185).trans (fR_kept (oH194 _ (g_ne gq102 hn))).symm
  clear m185
  have m196 := (fI_kept (oH194 _ (g_ne gq102 hn))).trans m186
  clear m186
  have m197 := (fI_kept (oH194 _ (g_ne gq102 hn))).trans m187
  clear m187
  have m198 := (fI_kept (oH194 _ (g_ne gq102 hn))).trans m188
  clear m188
  have m199 := (fI_kept (oH194 _ (g_ne gq102 hn))).trans m189
  clear m189
  have m200 := (fI_kept (oH194 _ (g_ne gq102 hn))).trans m190
  clear m190
  have m201 := (fI_kept (oH194 _ (g_ne gq102 hn))).trans m191
  clear m191
  have m202 := (fI_kept (oH194 _ (g_ne gq102 hn))).trans m192
  clear m192
  have m203 := (fI_kept (oH194 _ (g_ne gq102 hn))).trans m193
  clear m193
  clear oH194 zH194 hTH183
  refine lv_aload_n hx hb dX9_init_46 rfl (lv_at hl 0 rfl) ?_
  refine x_new C hTH194 hSH194 (ci := 3) (ty0 := tyX3) (vs := [.null, .null, .null, .null, .null, .null, .null, .null, .null, .int 0, .int 0, .int 0]) rfl inX3 tyX3_ok wC_X9_34 wIS_X3 wIN_X3 dfX3 ⟨by decide, by decide⟩ dX9_init_47 (fun H204 hR206 hTH204 hSH204 oH204 zH204 => ?_)
  have hNq205 : G184 H194.size = none := hTH194.gb _ (Nat.le_refl _)
  have nr_a_q205 : a ≠ H194.size := Nat.ne_of_lt hR.lt
  replace dbq102 := DB.kept dbq102 (oH204 _ (hTH194.lt gbqq102))
  have m207 := (m195).trans (fR_kept (oH204 _ (hTH194.lt gq102))).symm
  clear m195
  have m208 := (fI_kept (oH204 _ (hTH194.lt gq102))).trans m196
  clear m196
  have m209 := (fI_kept (oH204 _ (hTH194.lt gq102))).trans m197
  clear m197
  have m210 := (fI_kept (oH204 _ (hTH194.lt gq102))).trans m198
  clear m198
  have m211 := (fI_kept (oH204 _ (hTH194.lt gq102))).trans m199
  clear m199
  have m212 := (fI_kept (oH204 _ (hTH194.lt gq102))).trans m200
  clear m200
  have m213 := (fI_kept (oH204 _ (hTH194.lt gq102))).trans m201
  clear m201
  have m214 := (fI_kept (oH204 _ (hTH194.lt gq102))).trans m202
  clear m202
  have m215 := (fI_kept (oH204 _ (hTH194.lt gq102))).trans m203
  clear m203
  replace hR := hR.kept (oH204 _ hR.lt)
  obtain ⟨q205, eq205⟩ : ∃ q, q = H194.size := ⟨_, rfl⟩
  have leq205 : s.heap.size ≤ q205 := by rw [eq205]; exact hSH194.1
  rw [← eq205] at hNq205 hR206 nr_a_q205
  rw [← eq205]
  clear eq205
  clear oH204 zH204 hTH194
  refine lv_dup hx hb dX9_init_50 rfl ?_
  have lt_a_H216 := hR.lt
  refine x_IN (As := []) (rest := [.ref q205, .ref a]) C (k_X3_init_passS l K G184 H204 (a := q205) hTH204 hNq205 hR206) yo_X3_init rfl wN_X9_36 ⟨⟨by decide, by decide⟩, by decide, by decide⟩ rfl hl.1 rfl (Nat.le_of_ble_eq_true rfl) dX9_init_51 hSH204 (fun x h => Or.inr (h.elim (fun e => by rw [e]; exact leq205) (fun h => Nat.le_trans hSH204.1 h))) (fun vH216 H216 locsH216 pH216 zH216 kH216 hSH216 => ?_)
  obtain ⟨hvH216, G217, hgH216, ggH216, hTH216⟩ := pH216
  subst hvH216
  replace dbq102 := DB.kept dbq102 (kH216 _ (hTH204.lt gbqq102) (fun h => h.elim (g_ne gbqq102 hNq205) (Nat.not_le.mpr (hTH204.lt gbqq102))))
  have m218 := (m207).trans (fR_kept (kH216 _ (hTH204.lt gq102) (fun h => h.elim (g_ne gq102 hNq205) (Nat.not_le.mpr (hTH204.lt gq102))))).symm
  clear m207
  have m219 := (fI_kept (kH216 _ (hTH204.lt gq102) (fun h => h.elim (g_ne gq102 hNq205) (Nat.not_le.mpr (hTH204.lt gq102))))).trans m208
  clear m208
  have m220 := (fI_kept (kH216 _ (hTH204.lt gq102) (fun h => h.elim (g_ne gq102 hNq205) (Nat.not_le.mpr (hTH204.lt gq102))))).trans m209
  clear m209
  have m221 := (fI_kept (kH216 _ (hTH204.lt gq102) (fun h => h.elim (g_ne gq102 hNq205) (Nat.not_le.mpr (hTH204.lt gq102))))).trans m210
  clear m210
  have m222 := (fI_kept (kH216 _ (hTH204.lt gq102) (fun h => h.elim (g_ne gq102 hNq205) (Nat.not_le.mpr (hTH204.lt gq102))))).trans m211
  clear m211
  have m223 := (fI_kept (kH216 _ (hTH204.lt gq102) (fun h => h.elim (g_ne gq102 hNq205) (Nat.not_le.mpr (hTH204.lt gq102))))).trans m212
  clear m212
  have m224 := (fI_kept (kH216 _ (hTH204.lt gq102) (fun h => h.elim (g_ne gq102 hNq205) (Nat.not_le.mpr (hTH204.lt gq102))))).trans m213
  clear m213
  have m225 := (fI_kept (kH216 _ (hTH204.lt gq102) (fun h => h.elim (g_ne gq102 hNq205) (Nat.not_le.mpr (hTH204.lt gq102))))).trans m214
  clear m214
  have m226 := (fI_kept (kH216 _ (hTH204.lt gq102) (fun h => h.elim (g_ne gq102 hNq205) (Nat.not_le.mpr (hTH204.lt gq102))))).trans m215
  clear m215
  replace hR := hR.kept (kH216 _ lt_a_H216 (fun h => h.elim nr_a_q205 (Nat.not_le.mpr lt_a_H216)))
  replace gq102 : G217 q102 = some 0 := (hgH216 _ (hTH204.lt gq102) (g_ne gq102 hNq205)).trans gq102
  replace gq117 : G217 q117 = some 108 := (hgH216 _ (hTH204.lt gq117) (g_ne gq117 hNq205)).trans gq117
  replace gq139 : G217 q139 = some 78 := (hgH216 _ (hTH204.lt gq139) (g_ne gq139 hNq205)).trans gq139
  replace gq172 : G217 q172 = some 82 := (hgH216 _ (hTH204.lt gq172) (g_ne gq172 hNq205)).trans gq172
  replace gbqq102 : G217 bqq102 = some 25 := (hgH216 _ (hTH204.lt gbqq102) (g_ne gbqq102 hNq205)).trans gbqq102
  replace hn : G217 a = none := (hgH216 _ lt_a_H216 nr_a_q205).trans hn
  replace hGo : ∀ q, q < s.heap.size → q ≠ a → G217 q = G q := fun q hq hqa => (hgH216 q (Nat.lt_of_lt_of_le hq hSH204.1) (Nat.ne_of_lt (Nat.lt_of_lt_of_le hq leq205))).trans (hGo q hq hqa)
  have gq205 : G217 q205 = some 89 := ggH216
  clear hR206 hNq205 ggH216 hgH216 kH216 zH216 hTH204 lt_a_H216
  refine W.eq (g2 := F0 m 54 ls [.ref q205, .ref a]) rfl ?_
  refine x_putR C hTH216 hSH216 (ci := 9) (k := 6) (v := .ref q205) (ty0 := tyX9) hR hn rfl inX9 tyX9_ok nmX9 (by decide) (Or.inr ⟨rfl, rfl, rfl⟩) wF_X9_37 (Nat.le_of_ble_eq_true rfl) rfl rfl (Or.inl rfl) dX9_init_54 (fun H227 locsH227 hR2 hTH227 hSH227 oH227 zH227 => ?_)
  clear hR
  have hR : RAW K H227 a 9 [.ref q102, .null, .ref q117, .int 0, .ref q139, .ref q172, .ref q205, .null, .null, .null, .null, .null] := hR2
  clear hR2
  replace dbq102 := DB.kept dbq102 (oH227 _ (g_ne gbqq102 hn))
  have m228 := (m218).trans (fR_kept (oH227 _ (g_ne gq102 hn))).symm
  clear m218
  have m229 := (fI_kept (oH227 _ (g_ne gq102 hn))).trans m219
  clear m219
  have m230 := (fI_kept (oH227 _ (g_ne gq102 hn))).trans m220
  clear m220
  have m231 := (fI_kept (oH227 _ (g_ne gq102 hn))).trans m221
  clear m221
  have m232 := (fI_kept (oH227 _ (g_ne gq102 hn))).trans m222
  clear m222
  have m233 := (fI_kept (oH227 _ (g_ne gq102 hn))).trans m223
  clear m223
  have m234 := (fI_kept (oH227 _ (g_ne gq102 hn))).trans m224
  clear m224
  have m235 := (fI_kept (oH227 _ (g_ne gq102 hn))).trans m225
  clear m225
  have m236 := (fI_kept (oH227 _ (g_ne gq102 hn))).trans m226
  clear m226
  clear oH227 zH227 hTH216
  refine lv_aload_n hx hb dX9_init_57 rfl (lv_at hl 0 rfl) ?_
  refine x_new C hTH227 hSH227 (ci := 1) (ty0 := tyX1) (vs := [.null, .null, .null, .null, .int 0, .int 0, .null, .null]) rfl inX1 tyX1_ok wC_X9_41 wIS_X1 wIN_X1 dfX1 ⟨by decide, by decide⟩ dX9_init_58 (fun H237 hR239 hTH237 hSH237 oH237 zH237 => ?_)
  have hNq238 : G217 H227.size = none := hTH227.gb _ (Nat.le_refl _)
  have nr_a_q238 : a ≠ H227.size := Nat.ne_of_lt hR.lt
  replace dbq102 := DB.kept dbq102 (oH237 _ (hTH227.lt gbqq102))
  have m240 := (m228).trans (fR_kept (oH237 _ (hTH227.lt gq102))).symm
  clear m228
  have m241 := (fI_kept (oH237 _ (hTH227.lt gq102))).trans m229
  clear m229
  have m242 := (fI_kept (oH237 _ (hTH227.lt gq102))).trans m230
  clear m230
  have m243 := (fI_kept (oH237 _ (hTH227.lt gq102))).trans m231
  clear m231
  have m244 := (fI_kept (oH237 _ (hTH227.lt gq102))).trans m232
  clear m232
  have m245 := (fI_kept (oH237 _ (hTH227.lt gq102))).trans m233
  clear m233
  have m246 := (fI_kept (oH237 _ (hTH227.lt gq102))).trans m234
  clear m234
  have m247 := (fI_kept (oH237 _ (hTH227.lt gq102))).trans m235
  clear m235
  have m248 := (fI_kept (oH237 _ (hTH227.lt gq102))).trans m236
  clear m236
  replace hR := hR.kept (oH237 _ hR.lt)
  obtain ⟨q238, eq238⟩ : ∃ q, q = H227.size := ⟨_, rfl⟩
  have leq238 : s.heap.size ≤ q238 := by rw [eq238]; exact hSH227.1
  rw [← eq238] at hNq238 hR239 nr_a_q238
  rw [← eq238]
  clear eq238
  clear oH237 zH237 hTH227
  refine lv_dup hx hb dX9_init_61 rfl ?_
  have lt_a_H249 := hR.lt
  refine x_IN (As := []) (rest := [.ref q238, .ref a]) C (k_X1_init_grainS l K G217 H237 (a := q238) hTH237 hNq238 hR239) yo_X1_init rfl wN_X9_43 ⟨⟨by decide, by decide⟩, by decide, by decide⟩ rfl hl.1 rfl (Nat.le_of_ble_eq_true rfl) dX9_init_62 hSH237 (fun x h => Or.inr (h.elim (fun e => by rw [e]; exact leq238) (fun h => Nat.le_trans hSH237.1 h))) (fun vH249 H249 locsH249 pH249 zH249 kH249 hSH249 => ?_)
  obtain ⟨hvH249, G250, hgH249, ggH249, hTH249⟩ := pH249
  subst hvH249
  replace dbq102 := DB.kept dbq102 (kH249 _ (hTH237.lt gbqq102) (fun h => h.elim (g_ne gbqq102 hNq238) (Nat.not_le.mpr (hTH237.lt gbqq102))))
  have m251 := (m240).trans (fR_kept (kH249 _ (hTH237.lt gq102) (fun h => h.elim (g_ne gq102 hNq238) (Nat.not_le.mpr (hTH237.lt gq102))))).symm
  clear m240
  have m252 := (fI_kept (kH249 _ (hTH237.lt gq102) (fun h => h.elim (g_ne gq102 hNq238) (Nat.not_le.mpr (hTH237.lt gq102))))).trans m241
  clear m241
  have m253 := (fI_kept (kH249 _ (hTH237.lt gq102) (fun h => h.elim (g_ne gq102 hNq238) (Nat.not_le.mpr (hTH237.lt gq102))))).trans m242
  clear m242
  have m254 := (fI_kept (kH249 _ (hTH237.lt gq102) (fun h => h.elim (g_ne gq102 hNq238) (Nat.not_le.mpr (hTH237.lt gq102))))).trans m243
  clear m243
  have m255 := (fI_kept (kH249 _ (hTH237.lt gq102) (fun h => h.elim (g_ne gq102 hNq238) (Nat.not_le.mpr (hTH237.lt gq102))))).trans m244
  clear m244
  have m256 := (fI_kept (kH249 _ (hTH237.lt gq102) (fun h => h.elim (g_ne gq102 hNq238) (Nat.not_le.mpr (hTH237.lt gq102))))).trans m245
  clear m245
  have m257 := (fI_kept (kH249 _ (hTH237.lt gq102) (fun h => h.elim (g_ne gq102 hNq238) (Nat.not_le.mpr (hTH237.lt gq102))))).trans m246
  clear m246
  have m258 := (fI_kept (kH249 _ (hTH237.lt gq102) (fun h => h.elim (g_ne gq102 hNq238) (Nat.not_le.mpr (hTH237.lt gq102))))).trans m247
  clear m247
  have m259 := (fI_kept (kH249 _ (hTH237.lt gq102) (fun h => h.elim (g_ne gq102 hNq238) (Nat.not_le.mpr (hTH237.lt gq102))))).trans m248
  clear m248
  replace hR := hR.kept (kH249 _ lt_a_H249 (fun h => h.elim nr_a_q238 (Nat.not_le.mpr lt_a_H249)))
  replace gq102 : G250 q102 = some 0 := (hgH249 _ (hTH237.lt gq102) (g_ne gq102 hNq238)).trans gq102
  replace gq117 : G250 q117 = some 108 := (hgH249 _ (hTH237.lt gq117) (g_ne gq117 hNq238)).trans gq117
  replace gq139 : G250 q139 = some 78 := (hgH249 _ (hTH237.lt gq139) (g_ne gq139 hNq238)).trans gq139
  replace gq172 : G250 q172 = some 82 := (hgH249 _ (hTH237.lt gq172) (g_ne gq172 hNq238)).trans gq172
  replace gq205 : G250 q205 = some 89 := (hgH249 _ (hTH237.lt gq205) (g_ne gq205 hNq238)).trans gq205
  replace gbqq102 : G250 bqq102 = some 25 := (hgH249 _ (hTH237.lt gbqq102) (g_ne gbqq102 hNq238)).trans gbqq102
  replace hn : G250 a = none := (hgH249 _ lt_a_H249 nr_a_q238).trans hn
  replace hGo : ∀ q, q < s.heap.size → q ≠ a → G250 q = G q := fun q hq hqa => (hgH249 q (Nat.lt_of_lt_of_le hq hSH237.1) (Nat.ne_of_lt (Nat.lt_of_lt_of_le hq leq238))).trans (hGo q hq hqa)
  have gq238 : G250 q238 = some 98 := ggH249
  clear hR239 hNq238 ggH249 hgH249 kH249 zH249 hTH237 lt_a_H249
  refine W.eq (g2 := F0 m 65 ls [.ref q238, .ref a]) rfl ?_
  refine x_putR C hTH249 hSH249 (ci := 9) (k := 7) (v := .ref q238) (ty0 := tyX9) hR hn rfl inX9 tyX9_ok nmX9 (by decide) (Or.inr ⟨rfl, rfl, rfl⟩) wF_X9_44 (Nat.le_of_ble_eq_true rfl) rfl rfl (Or.inl rfl) dX9_init_65 (fun H260 locsH260 hR2 hTH260 hSH260 oH260 zH260 => ?_)
  clear hR
  have hR : RAW K H260 a 9 [.ref q102, .null, .ref q117, .int 0, .ref q139, .ref q172, .ref q205, .ref q238, .null, .null, .null, .null] := hR2
  clear hR2
  replace dbq102 := DB.kept dbq102 (oH260 _ (g_ne gbqq102 hn))
  have m261 := (m251).trans (fR_kept (oH260 _ (g_ne gq102 hn))).symm
  clear m251
  have m262 := (fI_kept (oH260 _ (g_ne gq102 hn))).trans m252
  clear m252
  have m263 := (fI_kept (oH260 _ (g_ne gq102 hn))).trans m253
  clear m253
  have m264 := (fI_kept (oH260 _ (g_ne gq102 hn))).trans m254
  clear m254
  have m265 := (fI_kept (oH260 _ (g_ne gq102 hn))).trans m255
  clear m255
  have m266 := (fI_kept (oH260 _ (g_ne gq102 hn))).trans m256
  clear m256
  have m267 := (fI_kept (oH260 _ (g_ne gq102 hn))).trans m257
  clear m257
  have m268 := (fI_kept (oH260 _ (g_ne gq102 hn))).trans m258
  clear m258
  have m269 := (fI_kept (oH260 _ (g_ne gq102 hn))).trans m259
  clear m259
  clear oH260 zH260 hTH249
  refine lv_aload_n hx hb dX9_init_68 rfl (lv_at hl 0 rfl) ?_
  refine x_new C hTH260 hSH260 (ci := 5) (ty0 := tyX5) (vs := [.null, .null, .null, .int 0, .int 0]) rfl inX5 tyX5_ok wC_X9_48 wIS_X5 wIN_X5 dfX5 ⟨by decide, by decide⟩ dX9_init_69 (fun H270 hR272 hTH270 hSH270 oH270 zH270 => ?_)
  have hNq271 : G250 H260.size = none := hTH260.gb _ (Nat.le_refl _)
  have nr_a_q271 : a ≠ H260.size := Nat.ne_of_lt hR.lt
  replace dbq102 := DB.kept dbq102 (oH270 _ (hTH260.lt gbqq102))
  have m273 := (m261).trans (fR_kept (oH270 _ (hTH260.lt gq102))).symm
  clear m261
  have m274 := (fI_kept (oH270 _ (hTH260.lt gq102))).trans m262
  clear m262
  have m275 := (fI_kept (oH270 _ (hTH260.lt gq102))).trans m263
  clear m263
  have m276 := (fI_kept (oH270 _ (hTH260.lt gq102))).trans m264
  clear m264
  have m277 := (fI_kept (oH270 _ (hTH260.lt gq102))).trans m265
  clear m265
  have m278 := (fI_kept (oH270 _ (hTH260.lt gq102))).trans m266
  clear m266
  have m279 := (fI_kept (oH270 _ (hTH260.lt gq102))).trans m267
  clear m267
  have m280 := (fI_kept (oH270 _ (hTH260.lt gq102))).trans m268
  clear m268
  have m281 := (fI_kept (oH270 _ (hTH260.lt gq102))).trans m269
  clear m269
  replace hR := hR.kept (oH270 _ hR.lt)
  obtain ⟨q271, eq271⟩ : ∃ q, q = H260.size := ⟨_, rfl⟩
  have leq271 : s.heap.size ≤ q271 := by rw [eq271]; exact hSH260.1
  rw [← eq271] at hNq271 hR272 nr_a_q271
  rw [← eq271]
  clear eq271
  clear oH270 zH270 hTH260
  refine lv_dup hx hb dX9_init_72 rfl ?_
  have lt_a_H282 := hR.lt
  refine x_IN (As := []) (rest := [.ref q271, .ref a]) C (k_X5_init_setS l K G250 H270 (a := q271) hTH270 hNq271 hR272) yo_X5_init rfl wN_X9_50 ⟨⟨by decide, by decide⟩, by decide, by decide⟩ rfl hl.1 rfl (Nat.le_of_ble_eq_true rfl) dX9_init_73 hSH270 (fun x h => Or.inr (h.elim (fun e => by rw [e]; exact leq271) (fun h => Nat.le_trans hSH270.1 h))) (fun vH282 H282 locsH282 pH282 zH282 kH282 hSH282 => ?_)
  obtain ⟨hvH282, G283, hgH282, ggH282, hTH282⟩ := pH282
  subst hvH282
  replace dbq102 := DB.kept dbq102 (kH282 _ (hTH270.lt gbqq102) (fun h => h.elim (g_ne gbqq102 hNq271) (Nat.not_le.mpr (hTH270.lt gbqq102))))
  have m284 := (m273).trans (fR_kept (kH282 _ (hTH270.lt gq102) (fun h => h.elim (g_ne gq102 hNq271) (Nat.not_le.mpr (hTH270.lt gq102))))).symm
  clear m273
  have m285 := (fI_kept (kH282 _ (hTH270.lt gq102) (fun h => h.elim (g_ne gq102 hNq271) (Nat.not_le.mpr (hTH270.lt gq102))))).trans m274
  clear m274
  have m286 := (fI_kept (kH282 _ (hTH270.lt gq102) (fun h => h.elim (g_ne gq102 hNq271) (Nat.not_le.mpr (hTH270.lt gq102))))).trans m275
  clear m275
  have m287 := (fI_kept (kH282 _ (hTH270.lt gq102) (fun h => h.elim (g_ne gq102 hNq271) (Nat.not_le.mpr (hTH270.lt gq102))))).trans m276
  clear m276
  have m288 := (fI_kept (kH282 _ (hTH270.lt gq102) (fun h => h.elim (g_ne gq102 hNq271) (Nat.not_le.mpr (hTH270.lt gq102))))).trans m277
  clear m277
  have m289 := (fI_kept (kH282 _ (hTH270.lt gq102) (fun h => h.elim (g_ne gq102 hNq271) (Nat.not_le.mpr (hTH270.lt gq102))))).trans m278
  clear m278
  have m290 := (fI_kept (kH282 _ (hTH270.lt gq102) (fun h => h.elim (g_ne gq102 hNq271) (Nat.not_le.mpr (hTH270.lt gq102))))).trans m279
  clear m279
  have m291 := (fI_kept (kH282 _ (hTH270.lt gq102) (fun h => h.elim (g_ne gq102 hNq271) (Nat.not_le.mpr (hTH270.lt gq102))))).trans m280
  clear m280
  have m292 := (fI_kept (kH282 _ (hTH270.lt gq102) (fun h => h.elim (g_ne gq102 hNq271) (Nat.not_le.mpr (hTH270.lt gq102))))).trans m281
  clear m281
  replace hR := hR.kept (kH282 _ lt_a_H282 (fun h => h.elim nr_a_q271 (Nat.not_le.mpr lt_a_H282)))
  replace gq102 : G283 q102 = some 0 := (hgH282 _ (hTH270.lt gq102) (g_ne gq102 hNq271)).trans gq102
  replace gq117 : G283 q117 = some 108 := (hgH282 _ (hTH270.lt gq117) (g_ne gq117 hNq271)).trans gq117
  replace gq139 : G283 q139 = some 78 := (hgH282 _ (hTH270.lt gq139) (g_ne gq139 hNq271)).trans gq139
  replace gq172 : G283 q172 = some 82 := (hgH282 _ (hTH270.lt gq172) (g_ne gq172 hNq271)).trans gq172
  replace gq205 : G283 q205 = some 89 := (hgH282 _ (hTH270.lt gq205) (g_ne gq205 hNq271)).trans gq205
  replace gq238 : G283 q238 = some 98 := (hgH282 _ (hTH270.lt gq238) (g_ne gq238 hNq271)).trans gq238
  replace gbqq102 : G283 bqq102 = some 25 := (hgH282 _ (hTH270.lt gbqq102) (g_ne gbqq102 hNq271)).trans gbqq102
  replace hn : G283 a = none := (hgH282 _ lt_a_H282 nr_a_q271).trans hn
  replace hGo : ∀ q, q < s.heap.size → q ≠ a → G283 q = G q := fun q hq hqa => (hgH282 q (Nat.lt_of_lt_of_le hq hSH270.1) (Nat.ne_of_lt (Nat.lt_of_lt_of_le hq leq271))).trans (hGo q hq hqa)
  have gq271 : G283 q271 = some 104 := ggH282
  clear hR272 hNq271 ggH282 hgH282 kH282 zH282 hTH270 lt_a_H282
  refine W.eq (g2 := F0 m 76 ls [.ref q271, .ref a]) rfl ?_
  refine x_putR C hTH282 hSH282 (ci := 9) (k := 8) (v := .ref q271) (ty0 := tyX9) hR hn rfl inX9 tyX9_ok nmX9 (by decide) (Or.inr ⟨rfl, rfl, rfl⟩) wF_X9_51 (Nat.le_of_ble_eq_true rfl) rfl rfl (Or.inl rfl) dX9_init_76 (fun H293 locsH293 hR2 hTH293 hSH293 oH293 zH293 => ?_)
  clear hR
  have hR : RAW K H293 a 9 [.ref q102, .null, .ref q117, .int 0, .ref q139, .ref q172, .ref q205, .ref q238, .ref q271, .null, .null, .null] := hR2
  clear hR2
  replace dbq102 := DB.kept dbq102 (oH293 _ (g_ne gbqq102 hn))
  have m294 := (m284).trans (fR_kept (oH293 _ (g_ne gq102 hn))).symm
  clear m284
  have m295 := (fI_kept (oH293 _ (g_ne gq102 hn))).trans m285
  clear m285
  have m296 := (fI_kept (oH293 _ (g_ne gq102 hn))).trans m286
  clear m286
  have m297 := (fI_kept (oH293 _ (g_ne gq102 hn))).trans m287
  clear m287
  have m298 := (fI_kept (oH293 _ (g_ne gq102 hn))).trans m288
  clear m288
  have m299 := (fI_kept (oH293 _ (g_ne gq102 hn))).trans m289
  clear m289
  have m300 := (fI_kept (oH293 _ (g_ne gq102 hn))).trans m290
  clear m290
  have m301 := (fI_kept (oH293 _ (g_ne gq102 hn))).trans m291
  clear m291
  have m302 := (fI_kept (oH293 _ (g_ne gq102 hn))).trans m292
  clear m292
  clear oH293 zH293 hTH282
  refine lv_aload_n hx hb dX9_init_79 rfl (lv_at hl 0 rfl) ?_
  refine lv_bipush (v := 10) hx hb dX9_init_80 (by decide) ?_
  refine x_newa C hTH293 hSH293 wAC_int rg_109 (by decide) rfl (by decide) ⟨by decide, by decide⟩ dX9_init_82 (fun H303 hTH303 hSH303 oH303 zH303 vH303 => ?_)
  have hNH303 : G283 H293.size = none := hTH293.gb _ (Nat.le_refl _)
  obtain ⟨G305, eGG305⟩ : ∃ g, g = gU G283 H293.size 109 := ⟨_, rfl⟩
  rw [← eGG305] at hTH303
  have nr_a_q304 : a ≠ H293.size := Nat.ne_of_lt hR.lt
  replace dbq102 := DB.kept dbq102 (oH303 _ (hTH293.lt gbqq102))
  have m306 := (m294).trans (fR_kept (oH303 _ (hTH293.lt gq102))).symm
  clear m294
  have m307 := (fI_kept (oH303 _ (hTH293.lt gq102))).trans m295
  clear m295
  have m308 := (fI_kept (oH303 _ (hTH293.lt gq102))).trans m296
  clear m296
  have m309 := (fI_kept (oH303 _ (hTH293.lt gq102))).trans m297
  clear m297
  have m310 := (fI_kept (oH303 _ (hTH293.lt gq102))).trans m298
  clear m298
  have m311 := (fI_kept (oH303 _ (hTH293.lt gq102))).trans m299
  clear m299
  have m312 := (fI_kept (oH303 _ (hTH293.lt gq102))).trans m300
  clear m300
  have m313 := (fI_kept (oH303 _ (hTH293.lt gq102))).trans m301
  clear m301
  have m314 := (fI_kept (oH303 _ (hTH293.lt gq102))).trans m302
  clear m302
  replace hR := hR.kept (oH303 _ hR.lt)
  replace gq102 : G305 q102 = some 0 := by rw [eGG305]; exact gU_mono hNH303 _ _ gq102
  replace gq117 : G305 q117 = some 108 := by rw [eGG305]; exact gU_mono hNH303 _ _ gq117
  replace gq139 : G305 q139 = some 78 := by rw [eGG305]; exact gU_mono hNH303 _ _ gq139
  replace gq172 : G305 q172 = some 82 := by rw [eGG305]; exact gU_mono hNH303 _ _ gq172
  replace gq205 : G305 q205 = some 89 := by rw [eGG305]; exact gU_mono hNH303 _ _ gq205
  replace gq238 : G305 q238 = some 98 := by rw [eGG305]; exact gU_mono hNH303 _ _ gq238
  replace gq271 : G305 q271 = some 104 := by rw [eGG305]; exact gU_mono hNH303 _ _ gq271
  replace gbqq102 : G305 bqq102 = some 25 := by rw [eGG305]; exact gU_mono hNH303 _ _ gbqq102
  replace hn : G305 a = none := by rw [eGG305, gU_ne nr_a_q304]; exact hn
  replace hGo : ∀ q, q < s.heap.size → q ≠ a → G305 q = G q := fun q hq hqa => (show G305 q = G283 q by rw [eGG305, gU_ne (Nat.ne_of_lt (Nat.lt_of_lt_of_le hq hSH293.1))]).trans (hGo q hq hqa)
  have gq304 : G305 H293.size = some 109 := by rw [eGG305]; exact gU_at
  obtain ⟨q304, eq304⟩ : ∃ q, q = H293.size := ⟨_, rfl⟩
  have leq304 : s.heap.size ≤ q304 := by rw [eq304]; exact hSH293.1
  rw [← eq304] at gq304 nr_a_q304
  rw [← eq304]
  clear eq304
  clear hNH303 eGG305 oH303 zH303 vH303 hTH293
  refine x_putR C hTH303 hSH303 (ci := 9) (k := 9) (v := .ref q304) (ty0 := tyX9) hR hn rfl inX9 tyX9_ok nmX9 (by decide) (Or.inr ⟨rfl, rfl, rfl⟩) wF_X9_55 (Nat.le_of_ble_eq_true rfl) rfl rfl (Or.inl rfl) dX9_init_84 (fun H315 locsH315 hR2 hTH315 hSH315 oH315 zH315 => ?_)
  clear hR
  have hR : RAW K H315 a 9 [.ref q102, .null, .ref q117, .int 0, .ref q139, .ref q172, .ref q205, .ref q238, .ref q271, .ref q304, .null, .null] := hR2
  clear hR2
  replace dbq102 := DB.kept dbq102 (oH315 _ (g_ne gbqq102 hn))
  have m316 := (m306).trans (fR_kept (oH315 _ (g_ne gq102 hn))).symm
  clear m306
  have m317 := (fI_kept (oH315 _ (g_ne gq102 hn))).trans m307
  clear m307
  have m318 := (fI_kept (oH315 _ (g_ne gq102 hn))).trans m308
  clear m308
  have m319 := (fI_kept (oH315 _ (g_ne gq102 hn))).trans m309
  clear m309
  have m320 := (fI_kept (oH315 _ (g_ne gq102 hn))).trans m310
  clear m310
  have m321 := (fI_kept (oH315 _ (g_ne gq102 hn))).trans m311
  clear m311
  have m322 := (fI_kept (oH315 _ (g_ne gq102 hn))).trans m312
  clear m312
  have m323 := (fI_kept (oH315 _ (g_ne gq102 hn))).trans m313
  clear m313
  have m324 := (fI_kept (oH315 _ (g_ne gq102 hn))).trans m314
  clear m314
  clear oH315 zH315 hTH303
  refine lv_aload_n hx hb dX9_init_87 rfl (lv_at hl 0 rfl) ?_
  refine lv_bipush (v := 16) hx hb dX9_init_88 (by decide) ?_
  refine x_newa C hTH315 hSH315 wAC_int rg_110 (by decide) rfl (by decide) ⟨by decide, by decide⟩ dX9_init_90 (fun H325 hTH325 hSH325 oH325 zH325 vH325 => ?_)
  have hNH325 : G305 H315.size = none := hTH315.gb _ (Nat.le_refl _)
  obtain ⟨G327, eGG327⟩ : ∃ g, g = gU G305 H315.size 110 := ⟨_, rfl⟩
  rw [← eGG327] at hTH325
  have nr_a_q326 : a ≠ H315.size := Nat.ne_of_lt hR.lt
  replace dbq102 := DB.kept dbq102 (oH325 _ (hTH315.lt gbqq102))
  have m328 := (m316).trans (fR_kept (oH325 _ (hTH315.lt gq102))).symm
  clear m316
  have m329 := (fI_kept (oH325 _ (hTH315.lt gq102))).trans m317
  clear m317
  have m330 := (fI_kept (oH325 _ (hTH315.lt gq102))).trans m318
  clear m318
  have m331 := (fI_kept (oH325 _ (hTH315.lt gq102))).trans m319
  clear m319
  have m332 := (fI_kept (oH325 _ (hTH315.lt gq102))).trans m320
  clear m320
  have m333 := (fI_kept (oH325 _ (hTH315.lt gq102))).trans m321
  clear m321
  have m334 := (fI_kept (oH325 _ (hTH315.lt gq102))).trans m322
  clear m322
  have m335 := (fI_kept (oH325 _ (hTH315.lt gq102))).trans m323
  clear m323
  have m336 := (fI_kept (oH325 _ (hTH315.lt gq102))).trans m324
  clear m324
  replace hR := hR.kept (oH325 _ hR.lt)
  replace gq102 : G327 q102 = some 0 := by rw [eGG327]; exact gU_mono hNH325 _ _ gq102
  replace gq117 : G327 q117 = some 108 := by rw [eGG327]; exact gU_mono hNH325 _ _ gq117
  replace gq139 : G327 q139 = some 78 := by rw [eGG327]; exact gU_mono hNH325 _ _ gq139
  replace gq172 : G327 q172 = some 82 := by rw [eGG327]; exact gU_mono hNH325 _ _ gq172
  replace gq205 : G327 q205 = some 89 := by rw [eGG327]; exact gU_mono hNH325 _ _ gq205
  replace gq238 : G327 q238 = some 98 := by rw [eGG327]; exact gU_mono hNH325 _ _ gq238
  replace gq271 : G327 q271 = some 104 := by rw [eGG327]; exact gU_mono hNH325 _ _ gq271
  replace gq304 : G327 q304 = some 109 := by rw [eGG327]; exact gU_mono hNH325 _ _ gq304
  replace gbqq102 : G327 bqq102 = some 25 := by rw [eGG327]; exact gU_mono hNH325 _ _ gbqq102
  replace hn : G327 a = none := by rw [eGG327, gU_ne nr_a_q326]; exact hn
  replace hGo : ∀ q, q < s.heap.size → q ≠ a → G327 q = G q := fun q hq hqa => (show G327 q = G305 q by rw [eGG327, gU_ne (Nat.ne_of_lt (Nat.lt_of_lt_of_le hq hSH315.1))]).trans (hGo q hq hqa)
  have gq326 : G327 H315.size = some 110 := by rw [eGG327]; exact gU_at
  obtain ⟨q326, eq326⟩ : ∃ q, q = H315.size := ⟨_, rfl⟩
  have leq326 : s.heap.size ≤ q326 := by rw [eq326]; exact hSH315.1
  rw [← eq326] at gq326 nr_a_q326
  rw [← eq326]
  clear eq326
  clear hNH325 eGG327 oH325 zH325 vH325 hTH315
  refine x_putR C hTH325 hSH325 (ci := 9) (k := 10) (v := .ref q326) (ty0 := tyX9) hR hn rfl inX9 tyX9_ok nmX9 (by decide) (Or.inr ⟨rfl, rfl, rfl⟩) wF_X9_58 (Nat.le_of_ble_eq_true rfl) rfl rfl (Or.inl rfl) dX9_init_92 (fun H337 locsH337 hR2 hTH337 hSH337 oH337 zH337 => ?_)
  clear hR
  have hR : RAW K H337 a 9 [.ref q102, .null, .ref q117, .int 0, .ref q139, .ref q172, .ref q205, .ref q238, .ref q271, .ref q304, .ref q326, .null] := hR2
  clear hR2
  replace dbq102 := DB.kept dbq102 (oH337 _ (g_ne gbqq102 hn))
  have m338 := (m328).trans (fR_kept (oH337 _ (g_ne gq102 hn))).symm
  clear m328
  have m339 := (fI_kept (oH337 _ (g_ne gq102 hn))).trans m329
  clear m329
  have m340 := (fI_kept (oH337 _ (g_ne gq102 hn))).trans m330
  clear m330
  have m341 := (fI_kept (oH337 _ (g_ne gq102 hn))).trans m331
  clear m331
  have m342 := (fI_kept (oH337 _ (g_ne gq102 hn))).trans m332
  clear m332
  have m343 := (fI_kept (oH337 _ (g_ne gq102 hn))).trans m333
  clear m333
  have m344 := (fI_kept (oH337 _ (g_ne gq102 hn))).trans m334
  clear m334
  have m345 := (fI_kept (oH337 _ (g_ne gq102 hn))).trans m335
  clear m335
  have m346 := (fI_kept (oH337 _ (g_ne gq102 hn))).trans m336
  clear m336
  clear oH337 zH337 hTH325
  refine lv_aload_n hx hb dX9_init_95 rfl (lv_at hl 0 rfl) ?_
  refine lv_bipush (v := 16) hx hb dX9_init_96 (by decide) ?_
  refine x_newa C hTH337 hSH337 wAC_int rg_111 (by decide) rfl (by decide) ⟨by decide, by decide⟩ dX9_init_98 (fun H347 hTH347 hSH347 oH347 zH347 vH347 => ?_)
  have hNH347 : G327 H337.size = none := hTH337.gb _ (Nat.le_refl _)
  obtain ⟨G349, eGG349⟩ : ∃ g, g = gU G327 H337.size 111 := ⟨_, rfl⟩
  rw [← eGG349] at hTH347
  have nr_a_q348 : a ≠ H337.size := Nat.ne_of_lt hR.lt
  replace dbq102 := DB.kept dbq102 (oH347 _ (hTH337.lt gbqq102))
  have m350 := (m338).trans (fR_kept (oH347 _ (hTH337.lt gq102))).symm
  clear m338
  have m351 := (fI_kept (oH347 _ (hTH337.lt gq102))).trans m339
  clear m339
  have m352 := (fI_kept (oH347 _ (hTH337.lt gq102))).trans m340
  clear m340
  have m353 := (fI_kept (oH347 _ (hTH337.lt gq102))).trans m341
  clear m341
  have m354 := (fI_kept (oH347 _ (hTH337.lt gq102))).trans m342
  clear m342
  have m355 := (fI_kept (oH347 _ (hTH337.lt gq102))).trans m343
  clear m343
  have m356 := (fI_kept (oH347 _ (hTH337.lt gq102))).trans m344
  clear m344
  have m357 := (fI_kept (oH347 _ (hTH337.lt gq102))).trans m345
  clear m345
  have m358 := (fI_kept (oH347 _ (hTH337.lt gq102))).trans m346
  clear m346
  replace hR := hR.kept (oH347 _ hR.lt)
  replace gq102 : G349 q102 = some 0 := by rw [eGG349]; exact gU_mono hNH347 _ _ gq102
  replace gq117 : G349 q117 = some 108 := by rw [eGG349]; exact gU_mono hNH347 _ _ gq117
  replace gq139 : G349 q139 = some 78 := by rw [eGG349]; exact gU_mono hNH347 _ _ gq139
  replace gq172 : G349 q172 = some 82 := by rw [eGG349]; exact gU_mono hNH347 _ _ gq172
  replace gq205 : G349 q205 = some 89 := by rw [eGG349]; exact gU_mono hNH347 _ _ gq205
  replace gq238 : G349 q238 = some 98 := by rw [eGG349]; exact gU_mono hNH347 _ _ gq238
  replace gq271 : G349 q271 = some 104 := by rw [eGG349]; exact gU_mono hNH347 _ _ gq271
  replace gq304 : G349 q304 = some 109 := by rw [eGG349]; exact gU_mono hNH347 _ _ gq304
  replace gq326 : G349 q326 = some 110 := by rw [eGG349]; exact gU_mono hNH347 _ _ gq326
  replace gbqq102 : G349 bqq102 = some 25 := by rw [eGG349]; exact gU_mono hNH347 _ _ gbqq102
  replace hn : G349 a = none := by rw [eGG349, gU_ne nr_a_q348]; exact hn
  replace hGo : ∀ q, q < s.heap.size → q ≠ a → G349 q = G q := fun q hq hqa => (show G349 q = G327 q by rw [eGG349, gU_ne (Nat.ne_of_lt (Nat.lt_of_lt_of_le hq hSH337.1))]).trans (hGo q hq hqa)
  have gq348 : G349 H337.size = some 111 := by rw [eGG349]; exact gU_at
  obtain ⟨q348, eq348⟩ : ∃ q, q = H337.size := ⟨_, rfl⟩
  have leq348 : s.heap.size ≤ q348 := by rw [eq348]; exact hSH337.1
  rw [← eq348] at gq348 nr_a_q348
  rw [← eq348]
  clear eq348
  clear hNH347 eGG349 oH347 zH347 vH347 hTH337
  refine x_putR C hTH347 hSH347 (ci := 9) (k := 11) (v := .ref q348) (ty0 := tyX9) hR hn rfl inX9 tyX9_ok nmX9 (by decide) (Or.inr ⟨rfl, rfl, rfl⟩) wF_X9_61 (Nat.le_of_ble_eq_true rfl) rfl rfl (Or.inl rfl) dX9_init_100 (fun H359 locsH359 hR2 hTH359 hSH359 oH359 zH359 => ?_)
  clear hR
  have hR : RAW K H359 a 9 [.ref q102, .null, .ref q117, .int 0, .ref q139, .ref q172, .ref q205, .ref q238, .ref q271, .ref q304, .ref q326, .ref q348] := hR2
  clear hR2
  replace dbq102 := DB.kept dbq102 (oH359 _ (g_ne gbqq102 hn))
  have m360 := (m350).trans (fR_kept (oH359 _ (g_ne gq102 hn))).symm
  clear m350
  have m361 := (fI_kept (oH359 _ (g_ne gq102 hn))).trans m351
  clear m351
  have m362 := (fI_kept (oH359 _ (g_ne gq102 hn))).trans m352
  clear m352
  have m363 := (fI_kept (oH359 _ (g_ne gq102 hn))).trans m353
  clear m353
  have m364 := (fI_kept (oH359 _ (g_ne gq102 hn))).trans m354
  clear m354
  have m365 := (fI_kept (oH359 _ (g_ne gq102 hn))).trans m355
  clear m355
  have m366 := (fI_kept (oH359 _ (g_ne gq102 hn))).trans m356
  clear m356
  have m367 := (fI_kept (oH359 _ (g_ne gq102 hn))).trans m357
  clear m357
  have m368 := (fI_kept (oH359 _ (g_ne gq102 hn))).trans m358
  clear m358
  clear oH359 zH359 hTH347
  have hTZ := x_born (t := 68) hTH359 hn hR rfl rg_68 rfl (fun k f h => match k, f, h with | 0, _, h => by cases h; exact ⟨_, rfl, q102, rfl, gU_mono hn _ _ gq102⟩ | 1, _, h => by cases h; exact ⟨_, rfl, Or.inl rfl⟩ | 2, _, h => by cases h; exact ⟨_, rfl, q117, rfl, gU_mono hn _ _ gq117⟩ | 3, _, h => by cases h; exact ⟨_, rfl, 0, rfl, by decide, by decide⟩ | 4, _, h => by cases h; exact ⟨_, rfl, q139, rfl, gU_mono hn _ _ gq139⟩ | 5, _, h => by cases h; exact ⟨_, rfl, q172, rfl, gU_mono hn _ _ gq172⟩ | 6, _, h => by cases h; exact ⟨_, rfl, q205, rfl, gU_mono hn _ _ gq205⟩ | 7, _, h => by cases h; exact ⟨_, rfl, q238, rfl, gU_mono hn _ _ gq238⟩ | 8, _, h => by cases h; exact ⟨_, rfl, q271, rfl, gU_mono hn _ _ gq271⟩ | 9, _, h => by cases h; exact ⟨_, rfl, q304, rfl, gU_mono hn _ _ gq304⟩ | 10, _, h => by cases h; exact ⟨_, rfl, q326, rfl, gU_mono hn _ _ gq326⟩ | 11, _, h => by cases h; exact ⟨_, rfl, q348, rfl, gU_mono hn _ _ gq348⟩ | k + 12, _, h => by simp at h)
  exact x_vret C hQ dX9_init_103 hSH359 (by decide) (by decide) (⟨rfl, gU G349 a 68, fun q hq hqa => by rw [gU_ne hqa]; exact hGo q hq hqa, gU_at, hTZ, q102, gU_mono hn _ _ gq102, ⟨kn_r (hR.fv rfl (by decide) rfl), hR.fv rfl (by decide) rfl, kn_i (v := .int 0) (hR.fv rfl (by decide) rfl), m361, m362, m363, m364, m365, m366, m367, m368⟩, bqq102, gU_mono hn _ _ gbqq102, m360, dbq102⟩)
