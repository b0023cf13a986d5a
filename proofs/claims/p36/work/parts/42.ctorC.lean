set_option maxHeartbeats 4000000 in
set_option maxRecDepth 100000 in
theorem k_X4_init_reader (l : Launch) (K : KE) (G : Nat → Option Nat) (H : Heap) {a : Nat} (hT : TY K G H) (hn : G a = none) (hR : RAW K H a 4 [.null, .int 0, .int 0, .null, .null, .null, .int 0, .int 0, .int 0]) : MX l K yX4_init cX4_init 1 none 2 32 12 2125 [.ref a] H (fun q => q = a ∨ H.size ≤ q) (fun v H1 => v = none ∧ ∃ G1 : Nat → Option Nat, (∀ q, q < H.size → q ≠ a → G1 q = G q) ∧ G1 a = some 78 ∧ TY K G1 H1) := by
  refine MX.of (by decide +kernel) (Nat.le_of_ble_eq_true rfl) ?_
  intro p e s m below meth c ls Q C hH hl hQ
  subst hH
  have C : CX p K s m _ meth c RX4 cX4_init 1 none "<init>" := C
  obtain ⟨hx, hb, hml, hown, hts, hKT, hr, hlocks, hnm⟩ := id C
  have hl : lv_has ls 1 [(0, .ref a)] := hl
  have hS : va_S (fun q => q = a ∨ s.heap.size ≤ q) s.heap s.heap [] := va_S.rf
  have n_0 : (0 : Int32).toInt = 0 := rfl
  have n_501 : (501 : Int32).toInt = 501 := rfl
  have hGo : ∀ q, q < s.heap.size → q ≠ a → G q = G q := fun _ _ _ => rfl
  refine lv_aload_n hx hb dX4_init_0 rfl (lv_at hl 0 rfl) ?_
  refine x_objInit C wM_X4_3 wIM_OBJ wCD_OBJ hl.1 (by decide) dX4_init_1 ?_
  refine lv_aload_n hx hb dX4_init_4 rfl (lv_at hl 0 rfl) ?_
  refine x_new C hT hS (ci := 7) (ty0 := tyX7) (vs := [.int 0, .null, .null, .null, .null, .null, .null, .null, .null, .int 0]) rfl inX7 tyX7_ok wC_X4_9 wIS_X7 wIN_X7 dfX7 ⟨by decide, by decide⟩ dX4_init_5 (fun H101 hR103 hTH101 hSH101 oH101 zH101 => ?_)
  have hNq102 : G s.heap.size = none := hT.gb _ (Nat.le_refl _)
  have nr_a_q102 : a ≠ s.heap.size := Nat.ne_of_lt hR.lt
  replace hR := hR.kept (oH101 _ hR.lt)
  obtain ⟨q102, eq102⟩ : ∃ q, q = s.heap.size := ⟨_, rfl⟩
  have leq102 : s.heap.size ≤ q102 := by rw [eq102]; exact hS.1
  rw [← eq102] at hNq102 hR103 nr_a_q102
  rw [← eq102]
  clear eq102
  clear oH101 zH101 hT
  refine lv_dup hx hb dX4_init_8 rfl ?_
  have lt_a_H104 := hR.lt
  refine x_IN (As := []) (rest := [.ref q102, .ref a]) C (k_X7_init_made l K G H101 (a := q102) hTH101 hNq102 hR103) yo_X7_init rfl wN_X4_11 ⟨⟨by decide, by decide⟩, by decide, by decide⟩ rfl hl.1 rfl (Nat.le_of_ble_eq_true rfl) dX4_init_9 hSH101 (fun x h => Or.inr (h.elim (fun e => by rw [e]; exact leq102) (fun h => Nat.le_trans hSH101.1 h))) (fun vH104 H104 locsH104 pH104 zH104 kH104 hSH104 => ?_)
  obtain ⟨hvH104, G105, hgH104, ggH104, hTH104⟩ := pH104
  subst hvH104
  replace hR := hR.kept (kH104 _ lt_a_H104 (fun h => h.elim nr_a_q102 (Nat.not_le.mpr lt_a_H104)))
  replace hn : G105 a = none := (hgH104 _ lt_a_H104 nr_a_q102).trans hn
  replace hGo : ∀ q, q < s.heap.size → q ≠ a → G105 q = G q := fun q hq hqa => (hgH104 q (Nat.lt_of_lt_of_le hq hSH101.1) (Nat.ne_of_lt (Nat.lt_of_lt_of_le hq leq102))).trans (hGo q hq hqa)
  have gq102 : G105 q102 = some 69 := ggH104
  clear hR103 hNq102 ggH104 hgH104 kH104 zH104 hTH101 lt_a_H104
  refine W.eq (g2 := F0 m 12 ls [.ref q102, .ref a]) rfl ?_
  refine x_putR C hTH104 hSH104 (ci := 4) (k := 0) (v := .ref q102) (ty0 := tyX4) hR hn rfl inX4 tyX4_ok nmX4 (by decide) (Or.inr ⟨rfl, rfl, rfl⟩) wF_X4_12 (Nat.le_of_ble_eq_true rfl) rfl rfl (Or.inl rfl) dX4_init_12 (fun H106 locsH106 hR2 hTH106 hSH106 oH106 zH106 => ?_)
  clear hR
  have hR : RAW K H106 a 4 [.ref q102, .int 0, .int 0, .null, .null, .null, .int 0, .int 0, .int 0] := hR2
  clear hR2
  clear oH106 zH106 hTH104
  refine lv_aload_n hx hb dX4_init_15 rfl (lv_at hl 0 rfl) ?_
  refine lv_sipush (v := 501) hx hb dX4_init_16 (by decide) ?_
  refine x_newa C hTH106 hSH106 wAC_int rg_79 (by decide) rfl (by decide) ⟨by decide, by decide⟩ dX4_init_19 (fun H107 hTH107 hSH107 oH107 zH107 vH107 => ?_)
  have hNH107 : G105 H106.size = none := hTH106.gb _ (Nat.le_refl _)
  obtain ⟨G109, eGG109⟩ : ∃ g, g = gU G105 H106.size 79 := ⟨_, rfl⟩
  rw [← eGG109] at hTH107
  have nr_a_q108 : a ≠ H106.size := Nat.ne_of_lt hR.lt
  replace hR := hR.kept (oH107 _ hR.lt)
  replace gq102 : G109 q102 = some 69 := by rw [eGG109]; exact gU_mono hNH107 _ _ gq102
  replace hn : G109 a = none := by rw [eGG109, gU_ne nr_a_q108]; exact hn
  replace hGo : ∀ q, q < s.heap.size → q ≠ a → G109 q = G q := fun q hq hqa => (show G109 q = G105 q by rw [eGG109, gU_ne (Nat.ne_of_lt (Nat.lt_of_lt_of_le hq hSH106.1))]).trans (hGo q hq hqa)
  have gq108 : G109 H106.size = some 79 := by rw [eGG109]; exact gU_at
  obtain ⟨q108, eq108⟩ : ∃ q, q = H106.size := ⟨_, rfl⟩
  have leq108 : s.heap.size ≤ q108 := by rw [eq108]; exact hSH106.1
  rw [← eq108] at gq108 nr_a_q108
  rw [← eq108]
  clear eq108
  clear hNH107 eGG109 oH107 zH107 vH107 hTH106
  refine x_putR C hTH107 hSH107 (ci := 4) (k := 3) (v := .ref q108) (ty0 := tyX4) hR hn rfl inX4 tyX4_ok nmX4 (by decide) (Or.inr ⟨rfl, rfl, rfl⟩) wF_X4_18 (Nat.le_of_ble_eq_true rfl) rfl rfl (Or.inl rfl) dX4_init_21 (fun H110 locsH110 hR2 hTH110 hSH110 oH110 zH110 => ?_)
  clear hR
  have hR : RAW K H110 a 4 [.ref q102, .int 0, .int 0, .ref q108, .null, .null, .int 0, .int 0, .int 0] := hR2
  clear hR2
  clear oH110 zH110 hTH107
  refine lv_aload_n hx hb dX4_init_24 rfl (lv_at hl 0 rfl) ?_
  refine lv_sipush (v := 501) hx hb dX4_init_25 (by decide) ?_
  refine x_newa C hTH110 hSH110 wAC_int rg_80 (by decide) rfl (by decide) ⟨by decide, by decide⟩ dX4_init_28 (fun H111 hTH111 hSH111 oH111 zH111 vH111 => ?_)
  have hNH111 : G109 H110.size = none := hTH110.gb _ (Nat.le_refl _)
  obtain ⟨G113, eGG113⟩ : ∃ g, g = gU G109 H110.size 80 := ⟨_, rfl⟩
  rw [← eGG113] at hTH111
  have nr_a_q112 : a ≠ H110.size := Nat.ne_of_lt hR.lt
  replace hR := hR.kept (oH111 _ hR.lt)
  replace gq102 : G113 q102 = some 69 := by rw [eGG113]; exact gU_mono hNH111 _ _ gq102
  replace gq108 : G113 q108 = some 79 := by rw [eGG113]; exact gU_mono hNH111 _ _ gq108
  replace hn : G113 a = none := by rw [eGG113, gU_ne nr_a_q112]; exact hn
  replace hGo : ∀ q, q < s.heap.size → q ≠ a → G113 q = G q := fun q hq hqa => (show G113 q = G109 q by rw [eGG113, gU_ne (Nat.ne_of_lt (Nat.lt_of_lt_of_le hq hSH110.1))]).trans (hGo q hq hqa)
  have gq112 : G113 H110.size = some 80 := by rw [eGG113]; exact gU_at
  obtain ⟨q112, eq112⟩ : ∃ q, q = H110.size := ⟨_, rfl⟩
  have leq112 : s.heap.size ≤ q112 := by rw [eq112]; exact hSH110.1
  rw [← eq112] at gq112 nr_a_q112
  rw [← eq112]
  clear eq112
  clear hNH111 eGG113 oH111 zH111 vH111 hTH110
  refine x_putR C hTH111 hSH111 (ci := 4) (k := 4) (v := .ref q112) (ty0 := tyX4) hR hn rfl inX4 tyX4_ok nmX4 (by decide) (Or.inr ⟨rfl, rfl, rfl⟩) wF_X4_22 (Nat.le_of_ble_eq_true rfl) rfl rfl (Or.inl rfl) dX4_init_30 (fun H114 locsH114 hR2 hTH114 hSH114 oH114 zH114 => ?_)
  clear hR
  have hR : RAW K H114 a 4 [.ref q102, .int 0, .int 0, .ref q108, .ref q112, .null, .int 0, .int 0, .int 0] := hR2
  clear hR2
  clear oH114 zH114 hTH111
  refine lv_aload_n hx hb dX4_init_33 rfl (lv_at hl 0 rfl) ?_
  refine lv_sipush (v := 501) hx hb dX4_init_34 (by decide) ?_
  refine x_newa C hTH114 hSH114 wAC_int rg_81 (by decide) rfl (by decide) ⟨by decide, by decide⟩ dX4_init_37 (fun H115 hTH115 hSH115 oH115 zH115 vH115 => ?_)
  have hNH115 : G113 H114.size = none := hTH114.gb _ (Nat.le_refl _)
  obtain ⟨G117, eGG117⟩ : ∃ g, g = gU G113 H114.size 81 := ⟨_, rfl⟩
  rw [← eGG117] at hTH115
  have nr_a_q116 : a ≠ H114.size := Nat.ne_of_lt hR.lt
  replace hR := hR.kept (oH115 _ hR.lt)
  replace gq102 : G117 q102 = some 69 := by rw [eGG117]; exact gU_mono hNH115 _ _ gq102
  replace gq108 : G117 q108 = some 79 := by rw [eGG117]; exact gU_mono hNH115 _ _ gq108
  replace gq112 : G117 q112 = some 80 := by rw [eGG117]; exact gU_mono hNH115 _ _ gq112
  replace hn : G117 a = none := by rw [eGG117, gU_ne nr_a_q116]; exact hn
  replace hGo : ∀ q, q < s.heap.size → q ≠ a → G117 q = G q := fun q hq hqa => (show G117 q = G113 q by rw [eGG117, gU_ne (Nat.ne_of_lt (Nat.lt_of_lt_of_le hq hSH114.1))]).trans (hGo q hq hqa)
  have gq116 : G117 H114.size = some 81 := by rw [eGG117]; exact gU_at
  obtain ⟨q116, eq116⟩ : ∃ q, q = H114.size := ⟨_, rfl⟩
  have leq116 : s.heap.size ≤ q116 := by rw [eq116]; exact hSH114.1
  rw [← eq116] at gq116 nr_a_q116
  rw [← eq116]
  clear eq116
  clear hNH115 eGG117 oH115 zH115 vH115 hTH114
  refine x_putR C hTH115 hSH115 (ci := 4) (k := 5) (v := .ref q116) (ty0 := tyX4) hR hn rfl inX4 tyX4_ok nmX4 (by decide) (Or.inr ⟨rfl, rfl, rfl⟩) wF_X4_25 (Nat.le_of_ble_eq_true rfl) rfl rfl (Or.inl rfl) dX4_init_39 (fun H118 locsH118 hR2 hTH118 hSH118 oH118 zH118 => ?_)
  clear hR
  have hR : RAW K H118 a 4 [.ref q102, .int 0, .int 0, .ref q108, .ref q112, .ref q116, .int 0, .int 0, .int 0] := hR2
  clear hR2
  clear oH118 zH118 hTH115
  have hTZ := x_born (t := 78) hTH118 hn hR rfl rg_78 rfl (fun k f h => match k, f, h with | 0, _, h => by cases h; exact ⟨_, rfl, q102, rfl, gU_mono hn _ _ gq102⟩ | 1, _, h => by cases h; exact ⟨_, rfl, 0, rfl, by decide, by decide⟩ | 2, _, h => by cases h; exact ⟨_, rfl, 0, rfl, by decide, by decide⟩ | 3, _, h => by cases h; exact ⟨_, rfl, q108, rfl, gU_mono hn _ _ gq108⟩ | 4, _, h => by cases h; exact ⟨_, rfl, q112, rfl, gU_mono hn _ _ gq112⟩ | 5, _, h => by cases h; exact ⟨_, rfl, q116, rfl, gU_mono hn _ _ gq116⟩ | 6, _, h => by cases h; exact ⟨_, rfl, 0, rfl, by decide, by decide⟩ | 7, _, h => by cases h; exact ⟨_, rfl, 0, rfl, by decide, by decide⟩ | 8, _, h => by cases h; exact ⟨_, rfl, 0, rfl, by decide, by decide⟩ | k + 9, _, h => by simp at h)
  exact x_vret C hQ dX4_init_42 hSH118 (by decide) (by decide) (⟨rfl, gU G117 a 78, fun q hq hqa => by rw [gU_ne hqa]; exact hGo q hq hqa, gU_at, hTZ⟩)

set_option maxHeartbeats 4000000 in
set_option maxRecDepth 100000 in
theorem k_X3_init_passS (l : Launch) (K : KE) (G : Nat → Option Nat) (H : Heap) {a : Nat} (hT : TY K G H) (hn : G a = none) (hR : RAW K H a 3 [.null, .null, .null, .null, .null, .null, .null, .null, .null, .int 0, .int 0, .int 0]) : MX l K yX3_init cX3_init 1 none 2 32 10 2368 [.ref a] H (fun q => q = a ∨ H.size ≤ q) (fun v H1 => v = none ∧ ∃ G1 : Nat → Option Nat, (∀ q, q < H.size → q ≠ a → G1 q = G q) ∧ G1 a = some 89 ∧ TY K G1 H1) := by
  refine MX.of (by decide +kernel) (Nat.le_of_ble_eq_true rfl) ?_
  intro p e s m below meth c ls Q C hH hl hQ
  subst hH
  have C : CX p K s m _ meth c RX3 cX3_init 1 none "<init>" := C
  obtain ⟨hx, hb, hml, hown, hts, hKT, hr, hlocks, hnm⟩ := id C
  have hl : lv_has ls 1 [(0, .ref a)] := hl
  have hS : va_S (fun q => q = a ∨ s.heap.size ≤ q) s.heap s.heap [] := va_S.rf
  have n_0 : (0 : Int32).toInt = 0 := rfl
  have n_3 : (3 : Int32).toInt = 3 := rfl
  have n_5 : (5 : Int32).toInt = 5 := rfl
  have n_8 : (8 : Int32).toInt = 8 := rfl
  have n_144 : (144 : Int32).toInt = 144 := rfl
  have hGo : ∀ q, q < s.heap.size → q ≠ a → G q = G q := fun _ _ _ => rfl
  refine lv_aload_n hx hb dX3_init_0 rfl (lv_at hl 0 rfl) ?_
  refine x_objInit C wM_X3_5 wIM_OBJ wCD_OBJ hl.1 (by decide) dX3_init_1 ?_
  refine lv_aload_n hx hb dX3_init_4 rfl (lv_at hl 0 rfl) ?_
  refine lv_iconst (v := 5) hx hb dX3_init_5 (by decide) ?_
  refine x_newa C hT hS wAC_int rg_90 (by decide) rfl (by decide) ⟨by decide, by decide⟩ dX3_init_6 (fun H101 hTH101 hSH101 oH101 zH101 vH101 => ?_)
  have hNH101 : G s.heap.size = none := hT.gb _ (Nat.le_refl _)
  obtain ⟨G103, eGG103⟩ : ∃ g, g = gU G s.heap.size 90 := ⟨_, rfl⟩
  rw [← eGG103] at hTH101
  have nr_a_q102 : a ≠ s.heap.size := Nat.ne_of_lt hR.lt
  replace hR := hR.kept (oH101 _ hR.lt)
  replace hn : G103 a = none := by rw [eGG103, gU_ne nr_a_q102]; exact hn
  replace hGo : ∀ q, q < s.heap.size → q ≠ a → G103 q = G q := fun q hq hqa => (show G103 q = G q by rw [eGG103, gU_ne (Nat.ne_of_lt (Nat.lt_of_lt_of_le hq hS.1))]).trans (hGo q hq hqa)
  have gq102 : G103 s.heap.size = some 90 := by rw [eGG103]; exact gU_at
  obtain ⟨q102, eq102⟩ : ∃ q, q = s.heap.size := ⟨_, rfl⟩
  have leq102 : s.heap.size ≤ q102 := by rw [eq102]; exact hS.1
  rw [← eq102] at gq102 nr_a_q102
  rw [← eq102]
  clear eq102
  clear hNH101 eGG103 oH101 zH101 vH101 hT
  refine x_putR C hTH101 hSH101 (ci := 3) (k := 0) (v := .ref q102) (ty0 := tyX3) hR hn rfl inX3 tyX3_ok nmX3 (by decide) (Or.inr ⟨rfl, rfl, rfl⟩) wF_X3_11 (Nat.le_of_ble_eq_true rfl) rfl rfl (Or.inl rfl) dX3_init_8 (fun H104 locsH104 hR2 hTH104 hSH104 oH104 zH104 => ?_)
  clear hR
  have hR : RAW K H104 a 3 [.ref q102, .null, .null, .null, .null, .null, .null, .null, .null, .int 0, .int 0, .int 0] := hR2
  clear hR2
  clear oH104 zH104 hTH101
  refine lv_aload_n hx hb dX3_init_11 rfl (lv_at hl 0 rfl) ?_
  refine lv_sipush (v := 144) hx hb dX3_init_12 (by decide) ?_
  refine x_newa C hTH104 hSH104 wAC_int rg_91 (by decide) rfl (by decide) ⟨by decide, by decide⟩ dX3_init_15 (fun H105 hTH105 hSH105 oH105 zH105 vH105 => ?_)
  have hNH105 : G103 H104.size = none := hTH104.gb _ (Nat.le_refl _)
  obtain ⟨G107, eGG107⟩ : ∃ g, g = gU G103 H104.size 91 := ⟨_, rfl⟩
  rw [← eGG107] at hTH105
  have nr_a_q106 : a ≠ H104.size := Nat.ne_of_lt hR.lt
  replace hR := hR.kept (oH105 _ hR.lt)
  replace gq102 : G107 q102 = some 90 := by rw [eGG107]; exact gU_mono hNH105 _ _ gq102
  replace hn : G107 a = none := by rw [eGG107, gU_ne nr_a_q106]; exact hn
  replace hGo : ∀ q, q < s.heap.size → q ≠ a → G107 q = G q := fun q hq hqa => (show G107 q = G103 q by rw [eGG107, gU_ne (Nat.ne_of_lt (Nat.lt_of_lt_of_le hq hSH104.1))]).trans (hGo q hq hqa)
  have gq106 : G107 H104.size = some 91 := by rw [eGG107]; exact gU_at
  obtain ⟨q106, eq106⟩ : ∃ q, q = H104.size := ⟨_, rfl⟩
  have leq106 : s.heap.size ≤ q106 := by rw [eq106]; exact hSH104.1
  rw [← eq106] at gq106 nr_a_q106
  rw [← eq106]
  clear eq106
  clear hNH105 eGG107 oH105 zH105 vH105 hTH104
  refine x_putR C hTH105 hSH105 (ci := 3) (k := 1) (v := .ref q106) (ty0 := tyX3) hR hn rfl inX3 tyX3_ok nmX3 (by decide) (Or.inr ⟨rfl, rfl, rfl⟩) wF_X3_15 (Nat.le_of_ble_eq_true rfl) rfl rfl (Or.inl rfl) dX3_init_17 (fun H108 locsH108 hR2 hTH108 hSH108 oH108 zH108 => ?_)
  clear hR
  have hR : RAW K H108 a 3 [.ref q102, .ref q106, .null, .null, .null, .null, .null, .null, .null, .int 0, .int 0, .int 0] := hR2
  clear hR2
  clear oH108 zH108 hTH105
  refine lv_aload_n hx hb dX3_init_20 rfl (lv_at hl 0 rfl) ?_
  refine lv_sipush (v := 144) hx hb dX3_init_21 (by decide) ?_
  refine x_newa C hTH108 hSH108 wAC_int rg_92 (by decide) rfl (by decide) ⟨by decide, by decide⟩ dX3_init_24 (fun H109 hTH109 hSH109 oH109 zH109 vH109 => ?_)
  have hNH109 : G107 H108.size = none := hTH108.gb _ (Nat.le_refl _)
  obtain ⟨G111, eGG111⟩ : ∃ g, g = gU G107 H108.size 92 := ⟨_, rfl⟩
  rw [← eGG111] at hTH109
  have nr_a_q110 : a ≠ H108.size := Nat.ne_of_lt hR.lt
  replace hR := hR.kept (oH109 _ hR.lt)
  replace gq102 : G111 q102 = some 90 := by rw [eGG111]; exact gU_mono hNH109 _ _ gq102
  replace gq106 : G111 q106 = some 91 := by rw [eGG111]; exact gU_mono hNH109 _ _ gq106
  replace hn : G111 a = none := by rw [eGG111, gU_ne nr_a_q110]; exact hn
  replace hGo : ∀ q, q < s.heap.size → q ≠ a → G111 q = G q := fun q hq hqa => (show G111 q = G107 q by rw [eGG111, gU_ne (Nat.ne_of_lt (Nat.lt_of_lt_of_le hq hSH108.1))]).trans (hGo q hq hqa)
  have gq110 : G111 H108.size = some 92 := by rw [eGG111]; exact gU_at
  obtain ⟨q110, eq110⟩ : ∃ q, q = H108.size := ⟨_, rfl⟩
  have leq110 : s.heap.size ≤ q110 := by rw [eq110]; exact hSH108.1
  rw [← eq110] at gq110 nr_a_q110
  rw [← eq110]
  clear eq110
  clear hNH109 eGG111 oH109 zH109 vH109 hTH108
  refine x_putR C hTH109 hSH109 (ci := 3) (k := 2) (v := .ref q110) (ty0 := tyX3) hR hn rfl inX3 tyX3_ok nmX3 (by decide) (Or.inr ⟨rfl, rfl, rfl⟩) wF_X3_18 (Nat.le_of_ble_eq_true rfl) rfl rfl (Or.inl rfl) dX3_init_26 (fun H112 locsH112 hR2 hTH112 hSH112 oH112 zH112 => ?_)
  clear hR
  have hR : RAW K H112 a 3 [.ref q102, .ref q106, .ref q110, .null, .null, .null, .null, .null, .null, .int 0, .int 0, .int 0] := hR2
  clear hR2
  clear oH112 zH112 hTH109
  refine lv_aload_n hx hb dX3_init_29 rfl (lv_at hl 0 rfl) ?_
  refine lv_iconst (v := 3) hx hb dX3_init_30 (by decide) ?_
  refine x_newa C hTH112 hSH112 wAC_int rg_93 (by decide) rfl (by decide) ⟨by decide, by decide⟩ dX3_init_31 (fun H113 hTH113 hSH113 oH113 zH113 vH113 => ?_)
  have hNH113 : G111 H112.size = none := hTH112.gb _ (Nat.le_refl _)
  obtain ⟨G115, eGG115⟩ : ∃ g, g = gU G111 H112.size 93 := ⟨_, rfl⟩
  rw [← eGG115] at hTH113
  have nr_a_q114 : a ≠ H112.size := Nat.ne_of_lt hR.lt
  replace hR := hR.kept (oH113 _ hR.lt)
  replace gq102 : G115 q102 = some 90 := by rw [eGG115]; exact gU_mono hNH113 _ _ gq102
  replace gq106 : G115 q106 = some 91 := by rw [eGG115]; exact gU_mono hNH113 _ _ gq106
  replace gq110 : G115 q110 = some 92 := by rw [eGG115]; exact gU_mono hNH113 _ _ gq110
  replace hn : G115 a = none := by rw [eGG115, gU_ne nr_a_q114]; exact hn
  replace hGo : ∀ q, q < s.heap.size → q ≠ a → G115 q = G q := fun q hq hqa => (show G115 q = G111 q by rw [eGG115, gU_ne (Nat.ne_of_lt (Nat.lt_of_lt_of_le hq hSH112.1))]).trans (hGo q hq hqa)
  have gq114 : G115 H112.size = some 93 := by rw [eGG115]; exact gU_at
  obtain ⟨q114, eq114⟩ : ∃ q, q = H112.size := ⟨_, rfl⟩
  have leq114 : s.heap.size ≤ q114 := by rw [eq114]; exact hSH112.1
  rw [← eq114] at gq114 nr_a_q114
  rw [← eq114]
  clear eq114
  clear hNH113 eGG115 oH113 zH113 vH113 hTH112
  refine x_putR C hTH113 hSH113 (ci := 3) (k := 3) (v := .ref q114) (ty0 := tyX3) hR hn rfl inX3 tyX3_ok nmX3 (by decide) (Or.inr ⟨rfl, rfl, rfl⟩) wF_X3_21 (Nat.le_of_ble_eq_true rfl) rfl rfl (Or.inl rfl) dX3_init_33 (fun H116 locsH116 hR2 hTH116 hSH116 oH116 zH116 => ?_)
  clear hR
  have hR : RAW K H116 a 3 [.ref q102, .ref q106, .ref q110, .ref q114, .null, .null, .null, .null, .null, .int 0, .int 0, .int 0] := hR2
  clear hR2
  clear oH116 zH116 hTH113
  refine lv_aload_n hx hb dX3_init_36 rfl (lv_at hl 0 rfl) ?_
  refine lv_iconst (v := 3) hx hb dX3_init_37 (by decide) ?_
  refine x_newa C hTH116 hSH116 wAC_int rg_94 (by decide) rfl (by decide) ⟨by decide, by decide⟩ dX3_init_38 (fun H117 hTH117 hSH117 oH117 zH117 vH117 => ?_)
  have hNH117 : G115 H116.size = none := hTH116.gb _ (Nat.le_refl _)
  obtain ⟨G119, eGG119⟩ : ∃ g, g = gU G115 H116.size 94 := ⟨_, rfl⟩
  rw [← eGG119] at hTH117
  have nr_a_q118 : a ≠ H116.size := Nat.ne_of_lt hR.lt
  replace hR := hR.kept (oH117 _ hR.lt)
  replace gq102 : G119 q102 = some 90 := by rw [eGG119]; exact gU_mono hNH117 _ _ gq102
  replace gq106 : G119 q106 = some 91 := by rw [eGG119]; exact gU_mono hNH117 _ _ gq106
  replace gq110 : G119 q110 = some 92 := by rw [eGG119]; exact gU_mono hNH117 _ _ gq110
  replace gq114 : G119 q114 = some 93 := by rw [eGG119]; exact gU_mono hNH117 _ _ gq114
  replace hn : G119 a = none := by rw [eGG119, gU_ne nr_a_q118]; exact hn
  replace hGo : ∀ q, q < s.heap.size → q ≠ a → G119 q = G q := fun q hq hqa => (show G119 q = G115 q by rw [eGG119, gU_ne (Nat.ne_of_lt (Nat.lt_of_lt_of_le hq hSH116.1))]).trans (hGo q hq hqa)
  have gq118 : G119 H116.size = some 94 := by rw [eGG119]; exact gU_at
  obtain ⟨q118, eq118⟩ : ∃ q, q = H116.size := ⟨_, rfl⟩
  have leq118 : s.heap.size ≤ q118 := by rw [eq118]; exact hSH116.1
  rw [← eq118] at gq118 nr_a_q118
  rw [← eq118]
  clear eq118
  clear hNH117 eGG119 oH117 zH117 vH117 hTH116
  refine x_putR C hTH117 hSH117 (ci := 3) (k := 4) (v := .ref q118) (ty0 := tyX3) hR hn rfl inX3 tyX3_ok nmX3 (by decide) (Or.inr ⟨rfl, rfl, rfl⟩) wF_X3_24 (Nat.le_of_ble_eq_true rfl) rfl rfl (Or.inl rfl) dX3_init_40 (fun H120 locsH120 hR2 hTH120 hSH120 oH120 zH120 => ?_)
  clear hR
  have hR : RAW K H120 a 3 [.ref q102, .ref q106, .ref q110, .ref q114, .ref q118, .null, .null, .null, .null, .int 0, .int 0, .int 0] := hR2
  clear hR2
  clear oH120 zH120 hTH117
  refine lv_aload_n hx hb dX3_init_43 rfl (lv_at hl 0 rfl) ?_
  refine lv_iconst (v := 3) hx hb dX3_init_44 (by decide) ?_
  refine x_newa C hTH120 hSH120 wAC_int rg_95 (by decide) rfl (by decide) ⟨by decide, by decide⟩ dX3_init_45 (fun H121 hTH121 hSH121 oH121 zH121 vH121 => ?_)
  have hNH121 : G119 H120.size = none := hTH120.gb _ (Nat.le_refl _)
  obtain ⟨G123, eGG123⟩ : ∃ g, g = gU G119 H120.size 95 := ⟨_, rfl⟩
  rw [← eGG123] at hTH121
  have nr_a_q122 : a ≠ H120.size := Nat.ne_of_lt hR.lt
  replace hR := hR.kept (oH121 _ hR.lt)
  replace gq102 : G123 q102 = some 90 := by rw [eGG123]; exact gU_mono hNH121 _ _ gq102
  replace gq106 : G123 q106 = some 91 := by rw [eGG123]; exact gU_mono hNH121 _ _ gq106
  replace gq110 : G123 q110 = some 92 := by rw [eGG123]; exact gU_mono hNH121 _ _ gq110
  replace gq114 : G123 q114 = some 93 := by rw [eGG123]; exact gU_mono hNH121 _ _ gq114
  replace gq118 : G123 q118 = some 94 := by rw [eGG123]; exact gU_mono hNH121 _ _ gq118
  replace hn : G123 a = none := by rw [eGG123, gU_ne nr_a_q122]; exact hn
  replace hGo : ∀ q, q < s.heap.size → q ≠ a → G123 q = G q := fun q hq hqa => (show G123 q = G119 q by rw [eGG123, gU_ne (Nat.ne_of_lt (Nat.lt_of_lt_of_le hq hSH120.1))]).trans (hGo q hq hqa)
  have gq122 : G123 H120.size = some 95 := by rw [eGG123]; exact gU_at
  obtain ⟨q122, eq122⟩ : ∃ q, q = H120.size := ⟨_, rfl⟩
  have leq122 : s.heap.size ≤ q122 := by rw [eq122]; exact hSH120.1
  rw [← eq122] at gq122 nr_a_q122
  rw [← eq122]
  clear eq122
  clear hNH121 eGG123 oH121 zH121 vH121 hTH120
  refine x_putR C hTH121 hSH121 (ci := 3) (k := 5) (v := .ref q122) (ty0 := tyX3) hR hn rfl inX3 tyX3_ok nmX3 (by decide) (Or.inr ⟨rfl, rfl, rfl⟩) wF_X3_27 (Nat.le_of_ble_eq_true rfl) rfl rfl (Or.inl rfl) dX3_init_47 (fun H124 locsH124 hR2 hTH124 hSH124 oH124 zH124 => ?_)
  clear hR
  have hR : RAW K H124 a 3 [.ref q102, .ref q106, .ref q110, .ref q114, .ref q118, .ref q122, .null, .null, .null, .int 0, .int 0, .int 0] := hR2
  clear hR2
  clear oH124 zH124 hTH121
  refine lv_aload_n hx hb dX3_init_50 rfl (lv_at hl 0 rfl) ?_
  refine lv_bipush (v := 8) hx hb dX3_init_51 (by decide) ?_
  refine x_newa C hTH124 hSH124 wAC_int rg_96 (by decide) rfl (by decide) ⟨by decide, by decide⟩ dX3_init_53 (fun H125 hTH125 hSH125 oH125 zH125 vH125 => ?_)
  have hNH125 : G123 H124.size = none := hTH124.gb _ (Nat.le_refl _)
  obtain ⟨G127, eGG127⟩ : ∃ g, g = gU G123 H124.size 96 := ⟨_, rfl⟩
  rw [← eGG127] at hTH125
  have nr_a_q126 : a ≠ H124.size := Nat.ne_of_lt hR.lt
  replace hR := hR.kept (oH125 _ hR.lt)
  replace gq102 : G127 q102 = some 90 := by rw [eGG127]; exact gU_mono hNH125 _ _ gq102
  replace gq106 : G127 q106 = some 91 := by rw [eGG127]; exact gU_mono hNH125 _ _ gq106
  replace gq110 : G127 q110 = some 92 := by rw [eGG127]; exact gU_mono hNH125 _ _ gq110
  replace gq114 : G127 q114 = some 93 := by rw [eGG127]; exact gU_mono hNH125 _ _ gq114
  replace gq118 : G127 q118 = some 94 := by rw [eGG127]; exact gU_mono hNH125 _ _ gq118
  replace gq122 : G127 q122 = some 95 := by rw [eGG127]; exact gU_mono hNH125 _ _ gq122
  replace hn : G127 a = none := by rw [eGG127, gU_ne nr_a_q126]; exact hn
  replace hGo : ∀ q, q < s.heap.size → q ≠ a → G127 q = G q := fun q hq hqa => (show G127 q = G123 q by rw [eGG127, gU_ne (Nat.ne_of_lt (Nat.lt_of_lt_of_le hq hSH124.1))]).trans (hGo q hq hqa)
  have gq126 : G127 H124.size = some 96 := by rw [eGG127]; exact gU_at
  obtain ⟨q126, eq126⟩ : ∃ q, q = H124.size := ⟨_, rfl⟩
  have leq126 : s.heap.size ≤ q126 := by rw [eq126]; exact hSH124.1
  rw [← eq126] at gq126 nr_a_q126
  rw [← eq126]
  clear eq126
  clear hNH125 eGG127 oH125 zH125 vH125 hTH124
  refine x_putR C hTH125 hSH125 (ci := 3) (k := 6) (v := .ref q126) (ty0 := tyX3) hR hn rfl inX3 tyX3_ok nmX3 (by decide) (Or.inr ⟨rfl, rfl, rfl⟩) wF_X3_30 (Nat.le_of_ble_eq_true rfl) rfl rfl (Or.inl rfl) dX3_init_55 (fun H128 locsH128 hR2 hTH128 hSH128 oH128 zH128 => ?_)
  clear hR
  have hR : RAW K H128 a 3 [.ref q102, .ref q106, .ref q110, .ref q114, .ref q118, .ref q122, .ref q126, .null, .null, .int 0, .int 0, .int 0] := hR2
  clear hR2
  clear oH128 zH128 hTH125
  refine lv_aload_n hx hb dX3_init_58 rfl (lv_at hl 0 rfl) ?_
  refine lv_bipush (v := 8) hx hb dX3_init_59 (by decide) ?_
  refine x_newa C hTH128 hSH128 wAC_int rg_97 (by decide) rfl (by decide) ⟨by decide, by decide⟩ dX3_init_61 (fun H129 hTH129 hSH129 oH129 zH129 vH129 => ?_)
  have hNH129 : G127 H128.size = none := hTH128.gb _ (Nat.le_refl _)
  obtain ⟨G131, eGG131⟩ : ∃ g, g = gU G127 H128.size 97 := ⟨_, rfl⟩
  rw [← eGG131] at hTH129
  have nr_a_q130 : a ≠ H128.size := Nat.ne_of_lt hR.lt
  replace hR := hR.kept (oH129 _ hR.lt)
  replace gq102 : G131 q102 = some 90 := by rw [eGG131]; exact gU_mono hNH129 _ _ gq102
  replace gq106 : G131 q106 = some 91 := by rw [eGG131]; exact gU_mono hNH129 _ _ gq106
  replace gq110 : G131 q110 = some 92 := by rw [eGG131]; exact gU_mono hNH129 _ _ gq110
  replace gq114 : G131 q114 = some 93 := by rw [eGG131]; exact gU_mono hNH129 _ _ gq114
  replace gq118 : G131 q118 = some 94 := by rw [eGG131]; exact gU_mono hNH129 _ _ gq118
  replace gq122 : G131 q122 = some 95 := by rw [eGG131]; exact gU_mono hNH129 _ _ gq122
  replace gq126 : G131 q126 = some 96 := by rw [eGG131]; exact gU_mono hNH129 _ _ gq126
  replace hn : G131 a = none := by rw [eGG131, gU_ne nr_a_q130]; exact hn
  replace hGo : ∀ q, q < s.heap.size → q ≠ a → G131 q = G q := fun q hq hqa => (show G131 q = G127 q by rw [eGG131, gU_ne (Nat.ne_of_lt (Nat.lt_of_lt_of_le hq hSH128.1))]).trans (hGo q hq hqa)
  have gq130 : G131 H128.size = some 97 := by rw [eGG131]; exact gU_at
  obtain ⟨q130, eq130⟩ : ∃ q, q = H128.size := ⟨_, rfl⟩
  have leq130 : s.heap.size ≤ q130 := by rw [eq130]; exact hSH128.1
  rw [← eq130] at gq130 nr_a_q130
  rw [← eq130]
  clear eq130
  clear hNH129 eGG131 oH129 zH129 vH129 hTH128
  refine x_putR C hTH129 hSH129 (ci := 3) (k := 7) (v := .ref q130) (ty0 := tyX3) hR hn rfl inX3 tyX3_ok nmX3 (by decide) (Or.inr ⟨rfl, rfl, rfl⟩) wF_X3_33 (Nat.le_of_ble_eq_true rfl) rfl rfl (Or.inl rfl) dX3_init_63 (fun H132 locsH132 hR2 hTH132 hSH132 oH132 zH132 => ?_)
  clear hR
  have hR : RAW K H132 a 3 [.ref q102, .ref q106, .ref q110, .ref q114, .ref q118, .ref q122, .ref q126, .ref q130, .null, .int 0, .int 0, .int 0] := hR2
  clear hR2
  clear oH132 zH132 hTH129
  refine lv_aload_n hx hb dX3_init_66 rfl (lv_at hl 0 rfl) ?_
  refine x_new C hTH132 hSH132 (ci := 2) (ty0 := tyX2) (vs := [.null, .int 0]) rfl inX2 tyX2_ok wC_X3_36 wIS_X2 wIN_X2 dfX2 ⟨by decide, by decide⟩ dX3_init_67 (fun H133 hR135 hTH133 hSH133 oH133 zH133 => ?_)
  have hNq134 : G131 H132.size = none := hTH132.gb _ (Nat.le_refl _)
  have nr_a_q134 : a ≠ H132.size := Nat.ne_of_lt hR.lt
  replace hR := hR.kept (oH133 _ hR.lt)
  obtain ⟨q134, eq134⟩ : ∃ q, q = H132.size := ⟨_, rfl⟩
  have leq134 : s.heap.size ≤ q134 := by rw [eq134]; exact hSH132.1
  rw [← eq134] at hNq134 hR135 nr_a_q134
  rw [← eq134]
  clear eq134
  clear oH133 zH133 hTH132
  refine lv_dup hx hb dX3_init_70 rfl ?_
  have lt_a_H136 := hR.lt
  refine x_IN (As := []) (rest := [.ref q134, .ref a]) C (k_X2_init_met l K G131 H133 (a := q134) hTH133 hNq134 hR135) yo_X2_init rfl wN_X3_38 ⟨⟨by decide, by decide⟩, by decide, by decide⟩ rfl hl.1 rfl (Nat.le_of_ble_eq_true rfl) dX3_init_71 hSH133 (fun x h => Or.inr (h.elim (fun e => by rw [e]; exact leq134) (fun h => Nat.le_trans hSH133.1 h))) (fun vH136 H136 locsH136 pH136 zH136 kH136 hSH136 => ?_)
  obtain ⟨hvH136, G137, hgH136, ggH136, hTH136⟩ := pH136
  subst hvH136
  replace hR := hR.kept (kH136 _ lt_a_H136 (fun h => h.elim nr_a_q134 (Nat.not_le.mpr lt_a_H136)))
  replace gq102 : G137 q102 = some 90 := (hgH136 _ (hTH133.lt gq102) (g_ne gq102 hNq134)).trans gq102
  replace gq106 : G137 q106 = some 91 := (hgH136 _ (hTH133.lt gq106) (g_ne gq106 hNq134)).trans gq106
  replace gq110 : G137 q110 = some 92 := (hgH136 _ (hTH133.lt gq110) (g_ne gq110 hNq134)).trans gq110
  replace gq114 : G137 q114 = some 93 := (hgH136 _ (hTH133.lt gq114) (g_ne gq114 hNq134)).trans gq114
  replace gq118 : G137 q118 = some 94 := (hgH136 _ (hTH133.lt gq118) (g_ne gq118 hNq134)).trans gq118
  replace gq122 : G137 q122 = some 95 := (hgH136 _ (hTH133.lt gq122) (g_ne gq122 hNq134)).trans gq122
  replace gq126 : G137 q126 = some 96 := (hgH136 _ (hTH133.lt gq126) (g_ne gq126 hNq134)).trans gq126
  replace gq130 : G137 q130 = some 97 := (hgH136 _ (hTH133.lt gq130) (g_ne gq130 hNq134)).trans gq130
  replace hn : G137 a = none := (hgH136 _ lt_a_H136 nr_a_q134).trans hn
  replace hGo : ∀ q, q < s.heap.size → q ≠ a → G137 q = G q := fun q hq hqa => (hgH136 q (Nat.lt_of_lt_of_le hq hSH133.1) (Nat.ne_of_lt (Nat.lt_of_lt_of_le hq leq134))).trans (hGo q hq hqa)
  have gq134 : G137 q134 = some 85 := ggH136
  clear hR135 hNq134 ggH136 hgH136 kH136 zH136 hTH133 lt_a_H136
  refine W.eq (g2 := F0 m 74 ls [.ref q134, .ref a]) rfl ?_
  refine x_putR C hTH136 hSH136 (ci := 3) (k := 8) (v := .ref q134) (ty0 := tyX3) hR hn rfl inX3 tyX3_ok nmX3 (by decide) (Or.inr ⟨rfl, rfl, rfl⟩) wF_X3_39 (Nat.le_of_ble_eq_true rfl) rfl rfl (Or.inl rfl) dX3_init_74 (fun H138 locsH138 hR2 hTH138 hSH138 oH138 zH138 => ?_)
  clear hR
  have hR : RAW K H138 a 3 [.ref q102, .ref q106, .ref q110, .ref q114, .ref q118, .ref q122, .ref q126, .ref q130, .ref q134, .int 0, .int 0, .int 0] := hR2
  clear hR2
  clear oH138 zH138 hTH136
  have hTZ := x_born (t := 89) hTH138 hn hR rfl rg_89 rfl (fun k f h => match k, f, h with | 0, _, h => by cases h; exact ⟨_, rfl, q102, rfl, gU_mono hn _ _ gq102⟩ | 1, _, h => by cases h; exact ⟨_, rfl, q106, rfl, gU_mono hn _ _ gq106⟩ | 2, _, h => by cases h; exact ⟨_, rfl, q110, rfl, gU_mono hn _ _ gq110⟩ | 3, _, h => by cases h; exact ⟨_, rfl, q114, rfl, gU_mono hn _ _ gq114⟩ | 4, _, h => by cases h; exact ⟨_, rfl, q118, rfl, gU_mono hn _ _ gq118⟩ | 5, _, h => by cases h; exact ⟨_, rfl, q122, rfl, gU_mono hn _ _ gq122⟩ | 6, _, h => by cases h; exact ⟨_, rfl, q126, rfl, gU_mono hn _ _ gq126⟩ | 7, _, h => by cases h; exact ⟨_, rfl, q130, rfl, gU_mono hn _ _ gq130⟩ | 8, _, h => by cases h; exact ⟨_, rfl, q134, rfl, gU_mono hn _ _ gq134⟩ | 9, _, h => by cases h; exact ⟨_, rfl, 0, rfl, by decide, by decide⟩ | 10, _, h => by cases h; exact ⟨_, rfl, 0, rfl, by decide, by decide⟩ | 11, _, h => by cases h; exact ⟨_, rfl, 0, rfl, by decide, by decide⟩ | k + 12, _, h => by simp at h)
  exact x_vret C hQ dX3_init_77 hSH138 (by decide) (by decide) (⟨rfl, gU G137 a 89, fun q hq hqa => by rw [gU_ne hqa]; exact hGo q hq hqa, gU_at, hTZ⟩)

set_option maxHeartbeats 4000000 in
set_option maxRecDepth 100000 in
theorem k_X1_init_grainS (l : Launch) (K : KE) (G : Nat → Option Nat) (H : Heap) {a : Nat} (hT : TY K G H) (hn : G a = none) (hR : RAW K H a 1 [.null, .null, .null, .null, .int 0, .int 0, .null, .null]) : MX l K yX1_init cX1_init 1 none 2 32 7 3575 [.ref a] H (fun q => q = a ∨ H.size ≤ q) (fun v H1 => v = none ∧ ∃ G1 : Nat → Option Nat, (∀ q, q < H.size → q ≠ a → G1 q = G q) ∧ G1 a = some 98 ∧ TY K G1 H1) := by
  refine MX.of (by decide +kernel) (Nat.le_of_ble_eq_true rfl) ?_
  intro p e s m below meth c ls Q C hH hl hQ
  subst hH
  have C : CX p K s m _ meth c RX1 cX1_init 1 none "<init>" := C
  obtain ⟨hx, hb, hml, hown, hts, hKT, hr, hlocks, hnm⟩ := id C
  have hl : lv_has ls 1 [(0, .ref a)] := hl
  have hS : va_S (fun q => q = a ∨ s.heap.size ≤ q) s.heap s.heap [] := va_S.rf
  have n_0 : (0 : Int32).toInt = 0 := rfl
  have n_5 : (5 : Int32).toInt = 5 := rfl
  have n_16 : (16 : Int32).toInt = 16 := rfl
  have n_240 : (240 : Int32).toInt = 240 := rfl
  have n_1024 : (1024 : Int32).toInt = 1024 := rfl
  have hGo : ∀ q, q < s.heap.size → q ≠ a → G q = G q := fun _ _ _ => rfl
  refine lv_aload_n hx hb dX1_init_0 rfl (lv_at hl 0 rfl) ?_
  refine x_objInit C wM_X1_3 wIM_OBJ wCD_OBJ hl.1 (by decide) dX1_init_1 ?_
  refine lv_aload_n hx hb dX1_init_4 rfl (lv_at hl 0 rfl) ?_
  refine lv_sipush (v := 240) hx hb dX1_init_5 (by decide) ?_
  refine x_newa C hT hS wAC_int rg_99 (by decide) rfl (by decide) ⟨by decide, by decide⟩ dX1_init_8 (fun H101 hTH101 hSH101 oH101 zH101 vH101 => ?_)
  have hNH101 : G s.heap.size = none := hT.gb _ (Nat.le_refl _)
  obtain ⟨G103, eGG103⟩ : ∃ g, g = gU G s.heap.size 99 := ⟨_, rfl⟩
  rw [← eGG103] at hTH101
  have nr_a_q102 : a ≠ s.heap.size := Nat.ne_of_lt hR.lt
  replace hR := hR.kept (oH101 _ hR.lt)
  replace hn : G103 a = none := by rw [eGG103, gU_ne nr_a_q102]; exact hn
  replace hGo : ∀ q, q < s.heap.size → q ≠ a → G103 q = G q := fun q hq hqa => (show G103 q = G q by rw [eGG103, gU_ne (Nat.ne_of_lt (Nat.lt_of_lt_of_le hq hS.1))]).trans (hGo q hq hqa)
  have gq102 : G103 s.heap.size = some 99 := by rw [eGG103]; exact gU_at
  obtain ⟨q102, eq102⟩ : ∃ q, q = s.heap.size := ⟨_, rfl⟩
  have leq102 : s.heap.size ≤ q102 := by rw [eq102]; exact hS.1
  rw [← eq102] at gq102 nr_a_q102
  rw [← eq102]
  clear eq102
  clear hNH101 eGG103 oH101 zH101 vH101 hT
  refine x_putR C hTH101 hSH101 (ci := 1) (k := 0) (v := .ref q102) (ty0 := tyX1) hR hn rfl inX1 tyX1_ok nmX1 (by decide) (Or.inr ⟨rfl, rfl, rfl⟩) wF_X1_11 (Nat.le_of_ble_eq_true rfl) rfl rfl (Or.inl rfl) dX1_init_10 (fun H104 locsH104 hR2 hTH104 hSH104 oH104 zH104 => ?_)
  clear hR
  have hR : RAW K H104 a 1 [.ref q102, .null, .null, .null, .int 0, .int 0, .null, .null] := hR2
  clear hR2
  clear oH104 zH104 hTH101
  refine lv_aload_n hx hb dX1_init_13 rfl (lv_at hl 0 rfl) ?_
  refine lv_sipush (v := 240) hx hb dX1_init_14 (by decide) ?_
  refine x_newa C hTH104 hSH104 wAC_int rg_100 (by decide) rfl (by decide) ⟨by decide, by decide⟩ dX1_init_17 (fun H105 hTH105 hSH105 oH105 zH105 vH105 => ?_)
  have hNH105 : G103 H104.size = none := hTH104.gb _ (Nat.le_refl _)
  obtain ⟨G107, eGG107⟩ : ∃ g, g = gU G103 H104.size 100 := ⟨_, rfl⟩
  rw [← eGG107] at hTH105
  have nr_a_q106 : a ≠ H104.size := Nat.ne_of_lt hR.lt
  replace hR := hR.kept (oH105 _ hR.lt)
  replace gq102 : G107 q102 = some 99 := by rw [eGG107]; exact gU_mono hNH105 _ _ gq102
  replace hn : G107 a = none := by rw [eGG107, gU_ne nr_a_q106]; exact hn
  replace hGo : ∀ q, q < s.heap.size → q ≠ a → G107 q = G q := fun q hq hqa => (show G107 q = G103 q by rw [eGG107, gU_ne (Nat.ne_of_lt (Nat.lt_of_lt_of_le hq hSH104.1))]).trans (hGo q hq hqa)
  have gq106 : G107 H104.size = some 100 := by rw [eGG107]; exact gU_at
  obtain ⟨q106, eq106⟩ : ∃ q, q = H104.size := ⟨_, rfl⟩
  have leq106 : s.heap.size ≤ q106 := by rw [eq106]; exact hSH104.1
  rw [← eq106] at gq106 nr_a_q106
  rw [← eq106]
  clear eq106
  clear hNH105 eGG107 oH105 zH105 vH105 hTH104
  refine x_putR C hTH105 hSH105 (ci := 1) (k := 1) (v := .ref q106) (ty0 := tyX1) hR hn rfl inX1 tyX1_ok nmX1 (by decide) (Or.inr ⟨rfl, rfl, rfl⟩) wF_X1_15 (Nat.le_of_ble_eq_true rfl) rfl rfl (Or.inl rfl) dX1_init_19 (fun H108 locsH108 hR2 hTH108 hSH108 oH108 zH108 => ?_)
  clear hR
  have hR : RAW K H108 a 1 [.ref q102, .ref q106, .null, .null, .int 0, .int 0, .null, .null] := hR2
  clear hR2
  clear oH108 zH108 hTH105
  refine lv_aload_n hx hb dX1_init_22 rfl (lv_at hl 0 rfl) ?_
  refine lv_iconst (v := 5) hx hb dX1_init_23 (by decide) ?_
  refine x_newa C hTH108 hSH108 wAC_int rg_101 (by decide) rfl (by decide) ⟨by decide, by decide⟩ dX1_init_24 (fun H109 hTH109 hSH109 oH109 zH109 vH109 => ?_)
  have hNH109 : G107 H108.size = none := hTH108.gb _ (Nat.le_refl _)
  obtain ⟨G111, eGG111⟩ : ∃ g, g = gU G107 H108.size 101 := ⟨_, rfl⟩
  rw [← eGG111] at hTH109
  have nr_a_q110 : a ≠ H108.size := Nat.ne_of_lt hR.lt
  replace hR := hR.kept (oH109 _ hR.lt)
  replace gq102 : G111 q102 = some 99 := by rw [eGG111]; exact gU_mono hNH109 _ _ gq102
  replace gq106 : G111 q106 = some 100 := by rw [eGG111]; exact gU_mono hNH109 _ _ gq106
  replace hn : G111 a = none := by rw [eGG111, gU_ne nr_a_q110]; exact hn
  replace hGo : ∀ q, q < s.heap.size → q ≠ a → G111 q = G q := fun q hq hqa => (show G111 q = G107 q by rw [eGG111, gU_ne (Nat.ne_of_lt (Nat.lt_of_lt_of_le hq hSH108.1))]).trans (hGo q hq hqa)
  have gq110 : G111 H108.size = some 101 := by rw [eGG111]; exact gU_at
  obtain ⟨q110, eq110⟩ : ∃ q, q = H108.size := ⟨_, rfl⟩
  have leq110 : s.heap.size ≤ q110 := by rw [eq110]; exact hSH108.1
  rw [← eq110] at gq110 nr_a_q110
  rw [← eq110]
  clear eq110
  clear hNH109 eGG111 oH109 zH109 vH109 hTH108
  refine x_putR C hTH109 hSH109 (ci := 1) (k := 2) (v := .ref q110) (ty0 := tyX1) hR hn rfl inX1 tyX1_ok nmX1 (by decide) (Or.inr ⟨rfl, rfl, rfl⟩) wF_X1_18 (Nat.le_of_ble_eq_true rfl) rfl rfl (Or.inl rfl) dX1_init_26 (fun H112 locsH112 hR2 hTH112 hSH112 oH112 zH112 => ?_)
  clear hR
  have hR : RAW K H112 a 1 [.ref q102, .ref q106, .ref q110, .null, .int 0, .int 0, .null, .null] := hR2
  clear hR2
  clear oH112 zH112 hTH109
  refine lv_aload_n hx hb dX1_init_29 rfl (lv_at hl 0 rfl) ?_
  refine lv_sipush (v := 1024) hx hb dX1_init_30 (by decide) ?_
  refine x_newa C hTH112 hSH112 wAC_int rg_102 (by decide) rfl (by decide) ⟨by decide, by decide⟩ dX1_init_33 (fun H113 hTH113 hSH113 oH113 zH113 vH113 => ?_)
  have hNH113 : G111 H112.size = none := hTH112.gb _ (Nat.le_refl _)
  obtain ⟨G115, eGG115⟩ : ∃ g, g = gU G111 H112.size 102 := ⟨_, rfl⟩
  rw [← eGG115] at hTH113
  have nr_a_q114 : a ≠ H112.size := Nat.ne_of_lt hR.lt
  replace hR := hR.kept (oH113 _ hR.lt)
  replace gq102 : G115 q102 = some 99 := by rw [eGG115]; exact gU_mono hNH113 _ _ gq102
  replace gq106 : G115 q106 = some 100 := by rw [eGG115]; exact gU_mono hNH113 _ _ gq106
  replace gq110 : G115 q110 = some 101 := by rw [eGG115]; exact gU_mono hNH113 _ _ gq110
  replace hn : G115 a = none := by rw [eGG115, gU_ne nr_a_q114]; exact hn
  replace hGo : ∀ q, q < s.heap.size → q ≠ a → G115 q = G q := fun q hq hqa => (show G115 q = G111 q by rw [eGG115, gU_ne (Nat.ne_of_lt (Nat.lt_of_lt_of_le hq hSH112.1))]).trans (hGo q hq hqa)
  have gq114 : G115 H112.size = some 102 := by rw [eGG115]; exact gU_at
  obtain ⟨q114, eq114⟩ : ∃ q, q = H112.size := ⟨_, rfl⟩
  have leq114 : s.heap.size ≤ q114 := by rw [eq114]; exact hSH112.1
  rw [← eq114] at gq114 nr_a_q114
  rw [← eq114]
  clear eq114
  clear hNH113 eGG115 oH113 zH113 vH113 hTH112
  refine x_putR C hTH113 hSH113 (ci := 1) (k := 3) (v := .ref q114) (ty0 := tyX1) hR hn rfl inX1 tyX1_ok nmX1 (by decide) (Or.inr ⟨rfl, rfl, rfl⟩) wF_X1_21 (Nat.le_of_ble_eq_true rfl) rfl rfl (Or.inl rfl) dX1_init_35 (fun H116 locsH116 hR2 hTH116 hSH116 oH116 zH116 => ?_)
  clear hR
  have hR : RAW K H116 a 1 [.ref q102, .ref q106, .ref q110, .ref q114, .int 0, .int 0, .null, .null] := hR2
  clear hR2
  clear oH116 zH116 hTH113
  refine lv_aload_n hx hb dX1_init_38 rfl (lv_at hl 0 rfl) ?_
  refine lv_bipush (v := 16) hx hb dX1_init_39 (by decide) ?_
  refine x_newa C hTH116 hSH116 wAC_int rg_103 (by decide) rfl (by decide) ⟨by decide, by decide⟩ dX1_init_41 (fun H117 hTH117 hSH117 oH117 zH117 vH117 => ?_)
  have hNH117 : G115 H116.size = none := hTH116.gb _ (Nat.le_refl _)
  obtain ⟨G119, eGG119⟩ : ∃ g, g = gU G115 H116.size 103 := ⟨_, rfl⟩
  rw [← eGG119] at hTH117
  have nr_a_q118 : a ≠ H116.size := Nat.ne_of_lt hR.lt
  replace hR := hR.kept (oH117 _ hR.lt)
  replace gq102 : G119 q102 = some 99 := by rw [eGG119]; exact gU_mono hNH117 _ _ gq102
  replace gq106 : G119 q106 = some 100 := by rw [eGG119]; exact gU_mono hNH117 _ _ gq106
  replace gq110 : G119 q110 = some 101 := by rw [eGG119]; exact gU_mono hNH117 _ _ gq110
  replace gq114 : G119 q114 = some 102 := by rw [eGG119]; exact gU_mono hNH117 _ _ gq114
  replace hn : G119 a = none := by rw [eGG119, gU_ne nr_a_q118]; exact hn
  replace hGo : ∀ q, q < s.heap.size → q ≠ a → G119 q = G q := fun q hq hqa => (show G119 q = G115 q by rw [eGG119, gU_ne (Nat.ne_of_lt (Nat.lt_of_lt_of_le hq hSH116.1))]).trans (hGo q hq hqa)
  have gq118 : G119 H116.size = some 103 := by rw [eGG119]; exact gU_at
  obtain ⟨q118, eq118⟩ : ∃ q, q = H116.size := ⟨_, rfl⟩
  have leq118 : s.heap.size ≤ q118 := by rw [eq118]; exact hSH116.1
  rw [← eq118] at gq118 nr_a_q118
  rw [← eq118]
  clear eq118
  clear hNH117 eGG119 oH117 zH117 vH117 hTH116
  refine x_putR C hTH117 hSH117 (ci := 1) (k := 6) (v := .ref q118) (ty0 := tyX1) hR hn rfl inX1 tyX1_ok nmX1 (by decide) (Or.inr ⟨rfl, rfl, rfl⟩) wF_X1_24 (Nat.le_of_ble_eq_true rfl) rfl rfl (Or.inl rfl) dX1_init_43 (fun H120 locsH120 hR2 hTH120 hSH120 oH120 zH120 => ?_)
  clear hR
  have hR : RAW K H120 a 1 [.ref q102, .ref q106, .ref q110, .ref q114, .int 0, .int 0, .ref q118, .null] := hR2
  clear hR2
  clear oH120 zH120 hTH117
  refine lv_aload_n hx hb dX1_init_46 rfl (lv_at hl 0 rfl) ?_
  refine x_new C hTH120 hSH120 (ci := 2) (ty0 := tyX2) (vs := [.null, .int 0]) rfl inX2 tyX2_ok wC_X1_27 wIS_X2 wIN_X2 dfX2 ⟨by decide, by decide⟩ dX1_init_47 (fun H121 hR123 hTH121 hSH121 oH121 zH121 => ?_)
  have hNq122 : G119 H120.size = none := hTH120.gb _ (Nat.le_refl _)
  have nr_a_q122 : a ≠ H120.size := Nat.ne_of_lt hR.lt
  replace hR := hR.kept (oH121 _ hR.lt)
  obtain ⟨q122, eq122⟩ : ∃ q, q = H120.size := ⟨_, rfl⟩
  have leq122 : s.heap.size ≤ q122 := by rw [eq122]; exact hSH120.1
  rw [← eq122] at hNq122 hR123 nr_a_q122
  rw [← eq122]
  clear eq122
  clear oH121 zH121 hTH120
  refine lv_dup hx hb dX1_init_50 rfl ?_
  have lt_a_H124 := hR.lt
  refine x_IN (As := []) (rest := [.ref q122, .ref a]) C (k_X2_init_unlike l K G119 H121 (a := q122) hTH121 hNq122 hR123) yo_X2_init rfl wN_X1_29 ⟨⟨by decide, by decide⟩, by decide, by decide⟩ rfl hl.1 rfl (Nat.le_of_ble_eq_true rfl) dX1_init_51 hSH121 (fun x h => Or.inr (h.elim (fun e => by rw [e]; exact leq122) (fun h => Nat.le_trans hSH121.1 h))) (fun vH124 H124 locsH124 pH124 zH124 kH124 hSH124 => ?_)
  obtain ⟨hvH124, G125, hgH124, ggH124, hTH124⟩ := pH124
  subst hvH124
  replace hR := hR.kept (kH124 _ lt_a_H124 (fun h => h.elim nr_a_q122 (Nat.not_le.mpr lt_a_H124)))
  replace gq102 : G125 q102 = some 99 := (hgH124 _ (hTH121.lt gq102) (g_ne gq102 hNq122)).trans gq102
  replace gq106 : G125 q106 = some 100 := (hgH124 _ (hTH121.lt gq106) (g_ne gq106 hNq122)).trans gq106
  replace gq110 : G125 q110 = some 101 := (hgH124 _ (hTH121.lt gq110) (g_ne gq110 hNq122)).trans gq110
  replace gq114 : G125 q114 = some 102 := (hgH124 _ (hTH121.lt gq114) (g_ne gq114 hNq122)).trans gq114
  replace gq118 : G125 q118 = some 103 := (hgH124 _ (hTH121.lt gq118) (g_ne gq118 hNq122)).trans gq118
  replace hn : G125 a = none := (hgH124 _ lt_a_H124 nr_a_q122).trans hn
  replace hGo : ∀ q, q < s.heap.size → q ≠ a → G125 q = G q := fun q hq hqa => (hgH124 q (Nat.lt_of_lt_of_le hq hSH121.1) (Nat.ne_of_lt (Nat.lt_of_lt_of_le hq leq122))).trans (hGo q hq hqa)
  have gq122 : G125 q122 = some 87 := ggH124
  clear hR123 hNq122 ggH124 hgH124 kH124 zH124 hTH121 lt_a_H124
  refine W.eq (g2 := F0 m 54 ls [.ref q122, .ref a]) rfl ?_
  refine x_putR C hTH124 hSH124 (ci := 1) (k := 7) (v := .ref q122) (ty0 := tyX1) hR hn rfl inX1 tyX1_ok nmX1 (by decide) (Or.inr ⟨rfl, rfl, rfl⟩) wF_X1_30 (Nat.le_of_ble_eq_true rfl) rfl rfl (Or.inl rfl) dX1_init_54 (fun H126 locsH126 hR2 hTH126 hSH126 oH126 zH126 => ?_)
  clear hR
  have hR : RAW K H126 a 1 [.ref q102, .ref q106, .ref q110, .ref q114, .int 0, .int 0, .ref q118, .ref q122] := hR2
  clear hR2
  clear oH126 zH126 hTH124
  have hTZ := x_born (t := 98) hTH126 hn hR rfl rg_98 rfl (fun k f h => match k, f, h with | 0, _, h => by cases h; exact ⟨_, rfl, q102, rfl, gU_mono hn _ _ gq102⟩ | 1, _, h => by cases h; exact ⟨_, rfl, q106, rfl, gU_mono hn _ _ gq106⟩ | 2, _, h => by cases h; exact ⟨_, rfl, q110, rfl, gU_mono hn _ _ gq110⟩ | 3, _, h => by cases h; exact ⟨_, rfl, q114, rfl, gU_mono hn _ _ gq114⟩ | 4, _, h => by cases h; exact ⟨_, rfl, 0, rfl, by decide, by decide⟩ | 5, _, h => by cases h; exact ⟨_, rfl, 0, rfl, by decide, by decide⟩ | 6, _, h => by cases h; exact ⟨_, rfl, q118, rfl, gU_mono hn _ _ gq118⟩ | 7, _, h => by cases h; exact ⟨_, rfl, q122, rfl, gU_mono hn _ _ gq122⟩ | k + 8, _, h => by simp at h)
  exact x_vret C hQ dX1_init_57 hSH126 (by decide) (by decide) (⟨rfl, gU G125 a 98, fun q hq hqa => by rw [gU_ne hqa]; exact hGo q hq hqa, gU_at, hTZ⟩)
