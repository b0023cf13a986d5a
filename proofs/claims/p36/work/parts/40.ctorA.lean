theorem dfX0 : ∀ j, j < 18 → defaultValue (tyX0 j) = vp_V [.int 0, .null, .null, .null, .null, .null, .null, .null, .int 0, .int 0, .null, .null, .null, .null, .int 0, .int 0, .int 0, .null] j := fun j hj => match j, hj with
  | 0, _ => rfl
  | 1, _ => rfl
  | 2, _ => rfl
  | 3, _ => rfl
  | 4, _ => rfl
  | 5, _ => rfl
  | 6, _ => rfl
  | 7, _ => rfl
  | 8, _ => rfl
  | 9, _ => rfl
  | 10, _ => rfl
  | 11, _ => rfl
  | 12, _ => rfl
  | 13, _ => rfl
  | 14, _ => rfl
  | 15, _ => rfl
  | 16, _ => rfl
  | 17, _ => rfl
  | k + 18, h => absurd h (by omega)
theorem dfX1 : ∀ j, j < 8 → defaultValue (tyX1 j) = vp_V [.null, .null, .null, .null, .int 0, .int 0, .null, .null] j := fun j hj => match j, hj with
  | 0, _ => rfl
  | 1, _ => rfl
  | 2, _ => rfl
  | 3, _ => rfl
  | 4, _ => rfl
  | 5, _ => rfl
  | 6, _ => rfl
  | 7, _ => rfl
  | k + 8, h => absurd h (by omega)
theorem dfX2 : ∀ j, j < 2 → defaultValue (tyX2 j) = vp_V [.null, .int 0] j := fun j hj => match j, hj with
  | 0, _ => rfl
  | 1, _ => rfl
  | k + 2, h => absurd h (by omega)
theorem dfX3 : ∀ j, j < 12 → defaultValue (tyX3 j) = vp_V [.null, .null, .null, .null, .null, .null, .null, .null, .null, .int 0, .int 0, .int 0] j := fun j hj => match j, hj with
  | 0, _ => rfl
  | 1, _ => rfl
  | 2, _ => rfl
  | 3, _ => rfl
  | 4, _ => rfl
  | 5, _ => rfl
  | 6, _ => rfl
  | 7, _ => rfl
  | 8, _ => rfl
  | 9, _ => rfl
  | 10, _ => rfl
  | 11, _ => rfl
  | k + 12, h => absurd h (by omega)
theorem dfX4 : ∀ j, j < 9 → defaultValue (tyX4 j) = vp_V [.null, .int 0, .int 0, .null, .null, .null, .int 0, .int 0, .int 0] j := fun j hj => match j, hj with
  | 0, _ => rfl
  | 1, _ => rfl
  | 2, _ => rfl
  | 3, _ => rfl
  | 4, _ => rfl
  | 5, _ => rfl
  | 6, _ => rfl
  | 7, _ => rfl
  | 8, _ => rfl
  | k + 9, h => absurd h (by omega)
theorem dfX5 : ∀ j, j < 5 → defaultValue (tyX5 j) = vp_V [.null, .null, .null, .int 0, .int 0] j := fun j hj => match j, hj with
  | 0, _ => rfl
  | 1, _ => rfl
  | 2, _ => rfl
  | 3, _ => rfl
  | 4, _ => rfl
  | k + 5, h => absurd h (by omega)
theorem dfX6 : ∀ j, j < 2 → defaultValue (tyX6 j) = vp_V [.null, .null] j := fun j hj => match j, hj with
  | 0, _ => rfl
  | 1, _ => rfl
  | k + 2, h => absurd h (by omega)
theorem dfX7 : ∀ j, j < 10 → defaultValue (tyX7 j) = vp_V [.int 0, .null, .null, .null, .null, .null, .null, .null, .null, .int 0] j := fun j hj => match j, hj with
  | 0, _ => rfl
  | 1, _ => rfl
  | 2, _ => rfl
  | 3, _ => rfl
  | 4, _ => rfl
  | 5, _ => rfl
  | 6, _ => rfl
  | 7, _ => rfl
  | 8, _ => rfl
  | 9, _ => rfl
  | k + 10, h => absurd h (by omega)
theorem dfX8 : ∀ j, j < 17 → defaultValue (tyX8 j) = vp_V [.null, .int 0, .null, .null, .int 0, .int 0, .int 0, .int 0, .null, .null, .int 0, .null, .null, .int 0, .null, .null, .int 0] j := fun j hj => match j, hj with
  | 0, _ => rfl
  | 1, _ => rfl
  | 2, _ => rfl
  | 3, _ => rfl
  | 4, _ => rfl
  | 5, _ => rfl
  | 6, _ => rfl
  | 7, _ => rfl
  | 8, _ => rfl
  | 9, _ => rfl
  | 10, _ => rfl
  | 11, _ => rfl
  | 12, _ => rfl
  | 13, _ => rfl
  | 14, _ => rfl
  | 15, _ => rfl
  | 16, _ => rfl
  | k + 17, h => absurd h (by omega)
theorem dfX9 : ∀ j, j < 12 → defaultValue (tyX9 j) = vp_V [.null, .null, .null, .int 0, .null, .null, .null, .null, .null, .null, .null, .null] j := fun j hj => match j, hj with
  | 0, _ => rfl
  | 1, _ => rfl
  | 2, _ => rfl
  | 3, _ => rfl
  | 4, _ => rfl
  | 5, _ => rfl
  | 6, _ => rfl
  | 7, _ => rfl
  | 8, _ => rfl
  | 9, _ => rfl
  | 10, _ => rfl
  | 11, _ => rfl
  | k + 12, h => absurd h (by omega)
theorem dfX10 : ∀ j, j < 74 → defaultValue (tyX10 j) = vp_V [.int 0, .int 0, .int 0, .int 0, .null, .null, .null, .null, .null, .null, .null, .null, .null, .null, .null, .null, .null, .null, .int 0, .int 0, .int 0, .int 0, .int 0, .null, .null, .null, .null, .null, .null, .null, .null, .null, .null, .null, .int 0, .int 0, .int 0, .null, .int 0, .int 0, .int 0, .int 0, .int 0, .null, .null, .null, .null, .null, .null, .null, .null, .null, .null, .null, .null, .null, .int 0, .null, .null, .int 0, .null, .null, .int 0, .null, .null, .int 0, .null, .null, .null, .null, .int 0, .int 0, .int 0, .null] j := fun j hj => match j, hj with
  | 0, _ => rfl
  | 1, _ => rfl
  | 2, _ => rfl
  | 3, _ => rfl
  | 4, _ => rfl
  | 5, _ => rfl
  | 6, _ => rfl
  | 7, _ => rfl
  | 8, _ => rfl
  | 9, _ => rfl
  | 10, _ => rfl
  | 11, _ => rfl
  | 12, _ => rfl
  | 13, _ => rfl
  | 14, _ => rfl
  | 15, _ => rfl
  | 16, _ => rfl
  | 17, _ => rfl
  | 18, _ => rfl
  | 19, _ => rfl
  | 20, _ => rfl
  | 21, _ => rfl
  | 22, _ => rfl
  | 23, _ => rfl
  | 24, _ => rfl
  | 25, _ => rfl
  | 26, _ => rfl
  | 27, _ => rfl
  | 28, _ => rfl
  | 29, _ => rfl
  | 30, _ => rfl
  | 31, _ => rfl
  | 32, _ => rfl
  | 33, _ => rfl
  | 34, _ => rfl
  | 35, _ => rfl
  | 36, _ => rfl
  | 37, _ => rfl
  | 38, _ => rfl
  | 39, _ => rfl
  | 40, _ => rfl
  | 41, _ => rfl
  | 42, _ => rfl
  | 43, _ => rfl
  | 44, _ => rfl
  | 45, _ => rfl
  | 46, _ => rfl
  | 47, _ => rfl
  | 48, _ => rfl
  | 49, _ => rfl
  | 50, _ => rfl
  | 51, _ => rfl
  | 52, _ => rfl
  | 53, _ => rfl
  | 54, _ => rfl
  | 55, _ => rfl
  | 56, _ => rfl
  | 57, _ => rfl
  | 58, _ => rfl
  | 59, _ => rfl
  | 60, _ => rfl
  | 61, _ => rfl
  | 62, _ => rfl
  | 63, _ => rfl
  | 64, _ => rfl
  | 65, _ => rfl
  | 66, _ => rfl
  | 67, _ => rfl
  | 68, _ => rfl
  | 69, _ => rfl
  | 70, _ => rfl
  | 71, _ => rfl
  | 72, _ => rfl
  | 73, _ => rfl
  | k + 74, h => absurd h (by omega)
set_option maxHeartbeats 4000000 in
set_option maxRecDepth 100000 in
theorem k_X6_init_sums (l : Launch) (K : KE) (G : Nat → Option Nat) (H : Heap) {a : Nat} (hT : TY K G H) (hn : G a = none) (hR : RAW K H a 6 [.null, .null]) : MX l K yX6_init cX6_init 1 none 1 12 2 64 [.ref a] H (fun q => q = a ∨ H.size ≤ q) (fun v H1 => v = none ∧ ∃ G1 : Nat → Option Nat, (∀ q, q < H.size → q ≠ a → G1 q = G q) ∧ G1 a = some 82 ∧ TY K G1 H1) := by
  refine MX.of (by decide +kernel) (Nat.le_of_ble_eq_true rfl) ?_
  intro p e s m below meth c ls Q C hH hl hQ
  subst hH
  have C : CX p K s m _ meth c RX6 cX6_init 1 none "<init>" := C
  obtain ⟨hx, hb, hml, hown, hts, hKT, hr, hlocks, hnm⟩ := id C
  have hl : lv_has ls 1 [(0, .ref a)] := hl
  have hS : va_S (fun q => q = a ∨ s.heap.size ≤ q) s.heap s.heap [] := va_S.rf
  have n_24 : (24 : Int32).toInt = 24 := rfl
  have n_40 : (40 : Int32).toInt = 40 := rfl
  have hGo : ∀ q, q < s.heap.size → q ≠ a → G q = G q := fun _ _ _ => rfl
  refine lv_aload_n hx hb dX6_init_0 rfl (lv_at hl 0 rfl) ?_
  refine x_objInit C wM_X6_3 wIM_OBJ wCD_OBJ hl.1 (by decide) dX6_init_1 ?_
  refine lv_aload_n hx hb dX6_init_4 rfl (lv_at hl 0 rfl) ?_
  refine lv_bipush (v := 24) hx hb dX6_init_5 (by decide) ?_
  refine x_newa C hT hS wAC_int rg_83 (by decide) rfl (by decide) ⟨by decide, by decide⟩ dX6_init_7 (fun H101 hTH101 hSH101 oH101 zH101 vH101 => ?_)
  have hNH101 : G s.heap.size = none := hT.gb _ (Nat.le_refl _)
  obtain ⟨G103, eGG103⟩ : ∃ g, g = gU G s.heap.size 83 := ⟨_, rfl⟩
  rw [← eGG103] at hTH101
  have nr_a_q102 : a ≠ s.heap.size := Nat.ne_of_lt hR.lt
  replace hR := hR.kept (oH101 _ hR.lt)
  replace hn : G103 a = none := by rw [eGG103, gU_ne nr_a_q102]; exact hn
  replace hGo : ∀ q, q < s.heap.size → q ≠ a → G103 q = G q := fun q hq hqa => (show G103 q = G q by rw [eGG103, gU_ne (Nat.ne_of_lt (Nat.lt_of_lt_of_le hq hS.1))]).trans (hGo q hq hqa)
  have gq102 : G103 s.heap.size = some 83 := by rw [eGG103]; exact gU_at
  obtain ⟨q102, eq102⟩ : ∃ q, q = s.heap.size := ⟨_, rfl⟩
  have leq102 : s.heap.size ≤ q102 := by rw [eq102]; exact hS.1
  rw [← eq102] at gq102 nr_a_q102
  rw [← eq102]
  clear eq102
  clear hNH101 eGG103 oH101 zH101 vH101 hT
  refine x_putR C hTH101 hSH101 (ci := 6) (k := 0) (v := .ref q102) (ty0 := tyX6) hR hn rfl inX6 tyX6_ok nmX6 (by decide) (Or.inr ⟨rfl, rfl, rfl⟩) wF_X6_9 (Nat.le_of_ble_eq_true rfl) rfl rfl (Or.inl rfl) dX6_init_9 (fun H104 locsH104 hR2 hTH104 hSH104 oH104 zH104 => ?_)
  clear hR
  have hR : RAW K H104 a 6 [.ref q102, .null] := hR2
  clear hR2
  clear oH104 zH104 hTH101
  refine lv_aload_n hx hb dX6_init_12 rfl (lv_at hl 0 rfl) ?_
  refine lv_bipush (v := 40) hx hb dX6_init_13 (by decide) ?_
  refine x_newa C hTH104 hSH104 wAC_int rg_84 (by decide) rfl (by decide) ⟨by decide, by decide⟩ dX6_init_15 (fun H105 hTH105 hSH105 oH105 zH105 vH105 => ?_)
  have hNH105 : G103 H104.size = none := hTH104.gb _ (Nat.le_refl _)
  obtain ⟨G107, eGG107⟩ : ∃ g, g = gU G103 H104.size 84 := ⟨_, rfl⟩
  rw [← eGG107] at hTH105
  have nr_a_q106 : a ≠ H104.size := Nat.ne_of_lt hR.lt
  replace hR := hR.kept (oH105 _ hR.lt)
  replace gq102 : G107 q102 = some 83 := by rw [eGG107]; exact gU_mono hNH105 _ _ gq102
  replace hn : G107 a = none := by rw [eGG107, gU_ne nr_a_q106]; exact hn
  replace hGo : ∀ q, q < s.heap.size → q ≠ a → G107 q = G q := fun q hq hqa => (show G107 q = G103 q by rw [eGG107, gU_ne (Nat.ne_of_lt (Nat.lt_of_lt_of_le hq hSH104.1))]).trans (hGo q hq hqa)
  have gq106 : G107 H104.size = some 84 := by rw [eGG107]; exact gU_at
  obtain ⟨q106, eq106⟩ : ∃ q, q = H104.size := ⟨_, rfl⟩
  have leq106 : s.heap.size ≤ q106 := by rw [eq106]; exact hSH104.1
  rw [← eq106] at gq106 nr_a_q106
  rw [← eq106]
  clear eq106
  clear hNH105 eGG107 oH105 zH105 vH105 hTH104
  refine x_putR C hTH105 hSH105 (ci := 6) (k := 1) (v := .ref q106) (ty0 := tyX6) hR hn rfl inX6 tyX6_ok nmX6 (by decide) (Or.inr ⟨rfl, rfl, rfl⟩) wF_X6_15 (Nat.le_of_ble_eq_true rfl) rfl rfl (Or.inl rfl) dX6_init_17 (fun H108 locsH108 hR2 hTH108 hSH108 oH108 zH108 => ?_)
  clear hR
  have hR : RAW K H108 a 6 [.ref q102, .ref q106] := hR2
  clear hR2
  clear oH108 zH108 hTH105
  have hTZ := x_born (t := 82) hTH108 hn hR rfl rg_82 rfl (fun k f h => match k, f, h with | 0, _, h => by cases h; exact ⟨_, rfl, q102, rfl, gU_mono hn _ _ gq102⟩ | 1, _, h => by cases h; exact ⟨_, rfl, q106, rfl, gU_mono hn _ _ gq106⟩ | k + 2, _, h => by simp at h)
  exact x_vret C hQ dX6_init_20 hSH108 (by decide) (by decide) (⟨rfl, gU G107 a 82, fun q hq hqa => by rw [gU_ne hqa]; exact hGo q hq hqa, gU_at, hTZ⟩)

set_option maxHeartbeats 4000000 in
set_option maxRecDepth 100000 in
theorem k_X2_init_met (l : Launch) (K : KE) (G : Nat → Option Nat) (H : Heap) {a : Nat} (hT : TY K G H) (hn : G a = none) (hR : RAW K H a 2 [.null, .int 0]) : MX l K yX2_init cX2_init 1 none 1 12 1 2048 [.ref a] H (fun q => q = a ∨ H.size ≤ q) (fun v H1 => v = none ∧ ∃ G1 : Nat → Option Nat, (∀ q, q < H.size → q ≠ a → G1 q = G q) ∧ G1 a = some 85 ∧ TY K G1 H1) := by
  refine MX.of (by decide +kernel) (Nat.le_of_ble_eq_true rfl) ?_
  intro p e s m below meth c ls Q C hH hl hQ
  subst hH
  have C : CX p K s m _ meth c RX2 cX2_init 1 none "<init>" := C
  obtain ⟨hx, hb, hml, hown, hts, hKT, hr, hlocks, hnm⟩ := id C
  have hl : lv_has ls 1 [(0, .ref a)] := hl
  have hS : va_S (fun q => q = a ∨ s.heap.size ≤ q) s.heap s.heap [] := va_S.rf
  have n_0 : (0 : Int32).toInt = 0 := rfl
  have n_2048 : (2048 : Int32).toInt = 2048 := rfl
  have hGo : ∀ q, q < s.heap.size → q ≠ a → G q = G q := fun _ _ _ => rfl
  refine lv_aload_n hx hb dX2_init_0 rfl (lv_at hl 0 rfl) ?_
  refine x_objInit C wM_X2_1 wIM_OBJ wCD_OBJ hl.1 (by decide) dX2_init_1 ?_
  refine lv_aload_n hx hb dX2_init_4 rfl (lv_at hl 0 rfl) ?_
  refine lv_sipush (v := 2048) hx hb dX2_init_5 (by decide) ?_
  refine x_newa C hT hS wAC_int rg_86 (by decide) rfl (by decide) ⟨by decide, by decide⟩ dX2_init_8 (fun H101 hTH101 hSH101 oH101 zH101 vH101 => ?_)
  have hNH101 : G s.heap.size = none := hT.gb _ (Nat.le_refl _)
  obtain ⟨G103, eGG103⟩ : ∃ g, g = gU G s.heap.size 86 := ⟨_, rfl⟩
  rw [← eGG103] at hTH101
  have nr_a_q102 : a ≠ s.heap.size := Nat.ne_of_lt hR.lt
  replace hR := hR.kept (oH101 _ hR.lt)
  replace hn : G103 a = none := by rw [eGG103, gU_ne nr_a_q102]; exact hn
  replace hGo : ∀ q, q < s.heap.size → q ≠ a → G103 q = G q := fun q hq hqa => (show G103 q = G q by rw [eGG103, gU_ne (Nat.ne_of_lt (Nat.lt_of_lt_of_le hq hS.1))]).trans (hGo q hq hqa)
  have gq102 : G103 s.heap.size = some 86 := by rw [eGG103]; exact gU_at
  obtain ⟨q102, eq102⟩ : ∃ q, q = s.heap.size := ⟨_, rfl⟩
  have leq102 : s.heap.size ≤ q102 := by rw [eq102]; exact hS.1
  rw [← eq102] at gq102 nr_a_q102
  rw [← eq102]
  clear eq102
  clear hNH101 eGG103 oH101 zH101 vH101 hT
  refine x_putR C hTH101 hSH101 (ci := 2) (k := 0) (v := .ref q102) (ty0 := tyX2) hR hn rfl inX2 tyX2_ok nmX2 (by decide) (Or.inr ⟨rfl, rfl, rfl⟩) wF_X2_9 (Nat.le_of_ble_eq_true rfl) rfl rfl (Or.inl rfl) dX2_init_10 (fun H104 locsH104 hR2 hTH104 hSH104 oH104 zH104 => ?_)
  clear hR
  have hR : RAW K H104 a 2 [.ref q102, .int 0] := hR2
  clear hR2
  clear oH104 zH104 hTH101
  have hTZ := x_born (t := 85) hTH104 hn hR rfl rg_85 rfl (fun k f h => match k, f, h with | 0, _, h => by cases h; exact ⟨_, rfl, q102, rfl, gU_mono hn _ _ gq102⟩ | 1, _, h => by cases h; exact ⟨_, rfl, 0, rfl, by decide, by decide⟩ | k + 2, _, h => by simp at h)
  exact x_vret C hQ dX2_init_13 hSH104 (by decide) (by decide) (⟨rfl, gU G103 a 85, fun q hq hqa => by rw [gU_ne hqa]; exact hGo q hq hqa, gU_at, hTZ⟩)

set_option maxHeartbeats 4000000 in
set_option maxRecDepth 100000 in
theorem k_X2_init_unlike (l : Launch) (K : KE) (G : Nat → Option Nat) (H : Heap) {a : Nat} (hT : TY K G H) (hn : G a = none) (hR : RAW K H a 2 [.null, .int 0]) : MX l K yX2_init cX2_init 1 none 1 12 1 2048 [.ref a] H (fun q => q = a ∨ H.size ≤ q) (fun v H1 => v = none ∧ ∃ G1 : Nat → Option Nat, (∀ q, q < H.size → q ≠ a → G1 q = G q) ∧ G1 a = some 87 ∧ TY K G1 H1) := by
  refine MX.of (by decide +kernel) (Nat.le_of_ble_eq_true rfl) ?_
  intro p e s m below meth c ls Q C hH hl hQ
  subst hH
  have C : CX p K s m _ meth c RX2 cX2_init 1 none "<init>" := C
  obtain ⟨hx, hb, hml, hown, hts, hKT, hr, hlocks, hnm⟩ := id C
  have hl : lv_has ls 1 [(0, .ref a)] := hl
  have hS : va_S (fun q => q = a ∨ s.heap.size ≤ q) s.heap s.heap [] := va_S.rf
  have n_0 : (0 : Int32).toInt = 0 := rfl
  have n_2048 : (2048 : Int32).toInt = 2048 := rfl
  have hGo : ∀ q, q < s.heap.size → q ≠ a → G q = G q := fun _ _ _ => rfl
  refine lv_aload_n hx hb dX2_init_0 rfl (lv_at hl 0 rfl) ?_
  refine x_objInit C wM_X2_1 wIM_OBJ wCD_OBJ hl.1 (by decide) dX2_init_1 ?_
  refine lv_aload_n hx hb dX2_init_4 rfl (lv_at hl 0 rfl) ?_
  refine lv_sipush (v := 2048) hx hb dX2_init_5 (by decide) ?_
  refine x_newa C hT hS wAC_int rg_88 (by decide) rfl (by decide) ⟨by decide, by decide⟩ dX2_init_8 (fun H101 hTH101 hSH101 oH101 zH101 vH101 => ?_)
  have hNH101 : G s.heap.size = none := hT.gb _ (Nat.le_refl _)
  obtain ⟨G103, eGG103⟩ : ∃ g, g = gU G s.heap.size 88 := ⟨_, rfl⟩
  rw [← eGG103] at hTH101
  have nr_a_q102 : a ≠ s.heap.size := Nat.ne_of_lt hR.lt
  replace hR := hR.kept (oH101 _ hR.lt)
  replace hn : G103 a = none := by rw [eGG103, gU_ne nr_a_q102]; exact hn
  replace hGo : ∀ q, q < s.heap.size → q ≠ a → G103 q = G q := fun q hq hqa => (show G103 q = G q by rw [eGG103, gU_ne (Nat.ne_of_lt (Nat.lt_of_lt_of_le hq hS.1))]).trans (hGo q hq hqa)
  have gq102 : G103 s.heap.size = some 88 := by rw [eGG103]; exact gU_at
  obtain ⟨q102, eq102⟩ : ∃ q, q = s.heap.size := ⟨_, rfl⟩
  have leq102 : s.heap.size ≤ q102 := by rw [eq102]; exact hS.1
  rw [← eq102] at gq102 nr_a_q102
  rw [← eq102]
  clear eq102
  clear hNH101 eGG103 oH101 zH101 vH101 hT
  refine x_putR C hTH101 hSH101 (ci := 2) (k := 0) (v := .ref q102) (ty0 := tyX2) hR hn rfl inX2 tyX2_ok nmX2 (by decide) (Or.inr ⟨rfl, rfl, rfl⟩) wF_X2_9 (Nat.le_of_ble_eq_true rfl) rfl rfl (Or.inl rfl) dX2_init_10 (fun H104 locsH104 hR2 hTH104 hSH104 oH104 zH104 => ?_)
  clear hR
  have hR : RAW K H104 a 2 [.ref q102, .int 0] := hR2
  clear hR2
  clear oH104 zH104 hTH101
  have hTZ := x_born (t := 87) hTH104 hn hR rfl rg_87 rfl (fun k f h => match k, f, h with | 0, _, h => by cases h; exact ⟨_, rfl, q102, rfl, gU_mono hn _ _ gq102⟩ | 1, _, h => by cases h; exact ⟨_, rfl, 0, rfl, by decide, by decide⟩ | k + 2, _, h => by simp at h)
  exact x_vret C hQ dX2_init_13 hSH104 (by decide) (by decide) (⟨rfl, gU G103 a 87, fun q hq hqa => by rw [gU_ne hqa]; exact hGo q hq hqa, gU_at, hTZ⟩)

set_option maxHeartbeats 4000000 in
set_option maxRecDepth 100000 in
theorem k_X7_init_made (l : Launch) (K : KE) (G : Nat → Option Nat) (H : Heap) {a : Nat} (hT : TY K G H) (hn : G a = none) (hR : RAW K H a 7 [.int 0, .null, .null, .null, .null, .null, .null, .null, .null, .int 0]) : MX l K yX7_init cX7_init 1 none 1 12 8 612 [.ref a] H (fun q => q = a ∨ H.size ≤ q) (fun v H1 => v = none ∧ ∃ G1 : Nat → Option Nat, (∀ q, q < H.size → q ≠ a → G1 q = G q) ∧ G1 a = some 69 ∧ TY K G1 H1) := by
  refine MX.of (by decide +kernel) (Nat.le_of_ble_eq_true rfl) ?_
  intro p e s m below meth c ls Q C hH hl hQ
  subst hH
  have C : CX p K s m _ meth c RX7 cX7_init 1 none "<init>" := C
  obtain ⟨hx, hb, hml, hown, hts, hKT, hr, hlocks, hnm⟩ := id C
  have hl : lv_has ls 1 [(0, .ref a)] := hl
  have hS : va_S (fun q => q = a ∨ s.heap.size ≤ q) s.heap s.heap [] := va_S.rf
  have n_0 : (0 : Int32).toInt = 0 := rfl
  have n_16 : (16 : Int32).toInt = 16 := rfl
  have n_500 : (500 : Int32).toInt = 500 := rfl
  have hGo : ∀ q, q < s.heap.size → q ≠ a → G q = G q := fun _ _ _ => rfl
  refine lv_aload_n hx hb dX7_init_0 rfl (lv_at hl 0 rfl) ?_
  refine x_objInit C wM_X7_3 wIM_OBJ wCD_OBJ hl.1 (by decide) dX7_init_1 ?_
  refine lv_aload_n hx hb dX7_init_4 rfl (lv_at hl 0 rfl) ?_
  refine lv_bipush (v := 16) hx hb dX7_init_5 (by decide) ?_
  refine x_newa C hT hS wAC_int rg_70 (by decide) rfl (by decide) ⟨by decide, by decide⟩ dX7_init_7 (fun H101 hTH101 hSH101 oH101 zH101 vH101 => ?_)
  have hNH101 : G s.heap.size = none := hT.gb _ (Nat.le_refl _)
  obtain ⟨G103, eGG103⟩ : ∃ g, g = gU G s.heap.size 70 := ⟨_, rfl⟩
  rw [← eGG103] at hTH101
  have nr_a_q102 : a ≠ s.heap.size := Nat.ne_of_lt hR.lt
  replace hR := hR.kept (oH101 _ hR.lt)
  replace hn : G103 a = none := by rw [eGG103, gU_ne nr_a_q102]; exact hn
  replace hGo : ∀ q, q < s.heap.size → q ≠ a → G103 q = G q := fun q hq hqa => (show G103 q = G q by rw [eGG103, gU_ne (Nat.ne_of_lt (Nat.lt_of_lt_of_le hq hS.1))]).trans (hGo q hq hqa)
  have gq102 : G103 s.heap.size = some 70 := by rw [eGG103]; exact gU_at
  obtain ⟨q102, eq102⟩ : ∃ q, q = s.heap.size := ⟨_, rfl⟩
  have leq102 : s.heap.size ≤ q102 := by rw [eq102]; exact hS.1
  rw [← eq102] at gq102 nr_a_q102
  rw [← eq102]
  clear eq102
  clear hNH101 eGG103 oH101 zH101 vH101 hT
  refine x_putR C hTH101 hSH101 (ci := 7) (k := 1) (v := .ref q102) (ty0 := tyX7) hR hn rfl inX7 tyX7_ok nmX7 (by decide) (Or.inr ⟨rfl, rfl, rfl⟩) wF_X7_9 (Nat.le_of_ble_eq_true rfl) rfl rfl (Or.inl rfl) dX7_init_9 (fun H104 locsH104 hR2 hTH104 hSH104 oH104 zH104 => ?_)
  clear hR
  have hR : RAW K H104 a 7 [.int 0, .ref q102, .null, .null, .null, .null, .null, .null, .null, .int 0] := hR2
  clear hR2
  clear oH104 zH104 hTH101
  refine lv_aload_n hx hb dX7_init_12 rfl (lv_at hl 0 rfl) ?_
  refine lv_bipush (v := 16) hx hb dX7_init_13 (by decide) ?_
  refine x_newa C hTH104 hSH104 wAC_int rg_71 (by decide) rfl (by decide) ⟨by decide, by decide⟩ dX7_init_15 (fun H105 hTH105 hSH105 oH105 zH105 vH105 => ?_)
  have hNH105 : G103 H104.size = none := hTH104.gb _ (Nat.le_refl _)
  obtain ⟨G107, eGG107⟩ : ∃ g, g = gU G103 H104.size 71 := ⟨_, rfl⟩
  rw [← eGG107] at hTH105
  have nr_a_q106 : a ≠ H104.size := Nat.ne_of_lt hR.lt
  replace hR := hR.kept (oH105 _ hR.lt)
  replace gq102 : G107 q102 = some 70 := by rw [eGG107]; exact gU_mono hNH105 _ _ gq102
  replace hn : G107 a = none := by rw [eGG107, gU_ne nr_a_q106]; exact hn
  replace hGo : ∀ q, q < s.heap.size → q ≠ a → G107 q = G q := fun q hq hqa => (show G107 q = G103 q by rw [eGG107, gU_ne (Nat.ne_of_lt (Nat.lt_of_lt_of_le hq hSH104.1))]).trans (hGo q hq hqa)
  have gq106 : G107 H104.size = some 71 := by rw [eGG107]; exact gU_at
  obtain ⟨q106, eq106⟩ : ∃ q, q = H104.size := ⟨_, rfl⟩
  have leq106 : s.heap.size ≤ q106 := by rw [eq106]; exact hSH104.1
  rw [← eq106] at gq106 nr_a_q106
  rw [← eq106]
  clear eq106
  clear hNH105 eGG107 oH105 zH105 vH105 hTH104
  refine x_putR C hTH105 hSH105 (ci := 7) (k := 2) (v := .ref q106) (ty0 := tyX7) hR hn rfl inX7 tyX7_ok nmX7 (by decide) (Or.inr ⟨rfl, rfl, rfl⟩) wF_X7_15 (Nat.le_of_ble_eq_true rfl) rfl rfl (Or.inl rfl) dX7_init_17 (fun H108 locsH108 hR2 hTH108 hSH108 oH108 zH108 => ?_)
  clear hR
  have hR : RAW K H108 a 7 [.int 0, .ref q102, .ref q106, .null, .null, .null, .null, .null, .null, .int 0] := hR2
  clear hR2
  clear oH108 zH108 hTH105
  refine lv_aload_n hx hb dX7_init_20 rfl (lv_at hl 0 rfl) ?_
  refine lv_bipush (v := 16) hx hb dX7_init_21 (by decide) ?_
  refine x_newa C hTH108 hSH108 wAC_int rg_72 (by decide) rfl (by decide) ⟨by decide, by decide⟩ dX7_init_23 (fun H109 hTH109 hSH109 oH109 zH109 vH109 => ?_)
  have hNH109 : G107 H108.size = none := hTH108.gb _ (Nat.le_refl _)
  obtain ⟨G111, eGG111⟩ : ∃ g, g = gU G107 H108.size 72 := ⟨_, rfl⟩
  rw [← eGG111] at hTH109
  have nr_a_q110 : a ≠ H108.size := Nat.ne_of_lt hR.lt
  replace hR := hR.kept (oH109 _ hR.lt)
  replace gq102 : G111 q102 = some 70 := by rw [eGG111]; exact gU_mono hNH109 _ _ gq102
  replace gq106 : G111 q106 = some 71 := by rw [eGG111]; exact gU_mono hNH109 _ _ gq106
  replace hn : G111 a = none := by rw [eGG111, gU_ne nr_a_q110]; exact hn
  replace hGo : ∀ q, q < s.heap.size → q ≠ a → G111 q = G q := fun q hq hqa => (show G111 q = G107 q by rw [eGG111, gU_ne (Nat.ne_of_lt (Nat.lt_of_lt_of_le hq hSH108.1))]).trans (hGo q hq hqa)
  have gq110 : G111 H108.size = some 72 := by rw [eGG111]; exact gU_at
  obtain ⟨q110, eq110⟩ : ∃ q, q = H108.size := ⟨_, rfl⟩
  have leq110 : s.heap.size ≤ q110 := by rw [eq110]; exact hSH108.1
  rw [← eq110] at gq110 nr_a_q110
  rw [← eq110]
  clear eq110
  clear hNH109 eGG111 oH109 zH109 vH109 hTH108
  refine x_putR C hTH109 hSH109 (ci := 7) (k := 3) (v := .ref q110) (ty0 := tyX7) hR hn rfl inX7 tyX7_ok nmX7 (by decide) (Or.inr ⟨rfl, rfl, rfl⟩) wF_X7_18 (Nat.le_of_ble_eq_true rfl) rfl rfl (Or.inl rfl) dX7_init_25 (fun H112 locsH112 hR2 hTH112 hSH112 oH112 zH112 => ?_)
  clear hR
  have hR : RAW K H112 a 7 [.int 0, .ref q102, .ref q106, .ref q110, .null, .null, .null, .null, .null, .int 0] := hR2
  clear hR2
  clear oH112 zH112 hTH109
  refine lv_aload_n hx hb dX7_init_28 rfl (lv_at hl 0 rfl) ?_
  refine lv_bipush (v := 16) hx hb dX7_init_29 (by decide) ?_
  refine x_newa C hTH112 hSH112 wAC_int rg_73 (by decide) rfl (by decide) ⟨by decide, by decide⟩ dX7_init_31 (fun H113 hTH113 hSH113 oH113 zH113 vH113 => ?_)
  have hNH113 : G111 H112.size = none := hTH112.gb _ (Nat.le_refl _)
  obtain ⟨G115, eGG115⟩ : ∃ g, g = gU G111 H112.size 73 := ⟨_, rfl⟩
  rw [← eGG115] at hTH113
  have nr_a_q114 : a ≠ H112.size := Nat.ne_of_lt hR.lt
  replace hR := hR.kept (oH113 _ hR.lt)
  replace gq102 : G115 q102 = some 70 := by rw [eGG115]; exact gU_mono hNH113 _ _ gq102
  replace gq106 : G115 q106 = some 71 := by rw [eGG115]; exact gU_mono hNH113 _ _ gq106
  replace gq110 : G115 q110 = some 72 := by rw [eGG115]; exact gU_mono hNH113 _ _ gq110
  replace hn : G115 a = none := by rw [eGG115, gU_ne nr_a_q114]; exact hn
  replace hGo : ∀ q, q < s.heap.size → q ≠ a → G115 q = G q := fun q hq hqa => (show G115 q = G111 q by rw [eGG115, gU_ne (Nat.ne_of_lt (Nat.lt_of_lt_of_le hq hSH112.1))]).trans (hGo q hq hqa)
  have gq114 : G115 H112.size = some 73 := by rw [eGG115]; exact gU_at
  obtain ⟨q114, eq114⟩ : ∃ q, q = H112.size := ⟨_, rfl⟩
  have leq114 : s.heap.size ≤ q114 := by rw [eq114]; exact hSH112.1
  rw [← eq114] at gq114 nr_a_q114
  rw [← eq114]
  clear eq114
  clear hNH113 eGG115 oH113 zH113 vH113 hTH112
  refine x_putR C hTH113 hSH113 (ci := 7) (k := 4) (v := .ref q114) (ty0 := tyX7) hR hn rfl inX7 tyX7_ok nmX7 (by decide) (Or.inr ⟨rfl, rfl, rfl⟩) wF_X7_21 (Nat.le_of_ble_eq_true rfl) rfl rfl (Or.inl rfl) dX7_init_33 (fun H116 locsH116 hR2 hTH116 hSH116 oH116 zH116 => ?_)
  clear hR
  have hR : RAW K H116 a 7 [.int 0, .ref q102, .ref q106, .ref q110, .ref q114, .null, .null, .null, .null, .int 0] := hR2
  clear hR2
  clear oH116 zH116 hTH113
  refine lv_aload_n hx hb dX7_init_36 rfl (lv_at hl 0 rfl) ?_
  refine lv_bipush (v := 16) hx hb dX7_init_37 (by decide) ?_
  refine x_newa C hTH116 hSH116 wAC_int rg_74 (by decide) rfl (by decide) ⟨by decide, by decide⟩ dX7_init_39 (fun H117 hTH117 hSH117 oH117 zH117 vH117 => ?_)
  have hNH117 : G115 H116.size = none := hTH116.gb _ (Nat.le_refl _)
  obtain ⟨G119, eGG119⟩ : ∃ g, g = gU G115 H116.size 74 := ⟨_, rfl⟩
  rw [← eGG119] at hTH117
  have nr_a_q118 : a ≠ H116.size := Nat.ne_of_lt hR.lt
  replace hR := hR.kept (oH117 _ hR.lt)
  replace gq102 : G119 q102 = some 70 := by rw [eGG119]; exact gU_mono hNH117 _ _ gq102
  replace gq106 : G119 q106 = some 71 := by rw [eGG119]; exact gU_mono hNH117 _ _ gq106
  replace gq110 : G119 q110 = some 72 := by rw [eGG119]; exact gU_mono hNH117 _ _ gq110
  replace gq114 : G119 q114 = some 73 := by rw [eGG119]; exact gU_mono hNH117 _ _ gq114
  replace hn : G119 a = none := by rw [eGG119, gU_ne nr_a_q118]; exact hn
  replace hGo : ∀ q, q < s.heap.size → q ≠ a → G119 q = G q := fun q hq hqa => (show G119 q = G115 q by rw [eGG119, gU_ne (Nat.ne_of_lt (Nat.lt_of_lt_of_le hq hSH116.1))]).trans (hGo q hq hqa)
  have gq118 : G119 H116.size = some 74 := by rw [eGG119]; exact gU_at
  obtain ⟨q118, eq118⟩ : ∃ q, q = H116.size := ⟨_, rfl⟩
  have leq118 : s.heap.size ≤ q118 := by rw [eq118]; exact hSH116.1
  rw [← eq118] at gq118 nr_a_q118
  rw [← eq118]
  clear eq118
  clear hNH117 eGG119 oH117 zH117 vH117 hTH116
  refine x_putR C hTH117 hSH117 (ci := 7) (k := 5) (v := .ref q118) (ty0 := tyX7) hR hn rfl inX7 tyX7_ok nmX7 (by decide) (Or.inr ⟨rfl, rfl, rfl⟩) wF_X7_24 (Nat.le_of_ble_eq_true rfl) rfl rfl (Or.inl rfl) dX7_init_41 (fun H120 locsH120 hR2 hTH120 hSH120 oH120 zH120 => ?_)
  clear hR
  have hR : RAW K H120 a 7 [.int 0, .ref q102, .ref q106, .ref q110, .ref q114, .ref q118, .null, .null, .null, .int 0] := hR2
  clear hR2
  clear oH120 zH120 hTH117
  refine lv_aload_n hx hb dX7_init_44 rfl (lv_at hl 0 rfl) ?_
  refine lv_bipush (v := 16) hx hb dX7_init_45 (by decide) ?_
  refine x_newa C hTH120 hSH120 wAC_int rg_75 (by decide) rfl (by decide) ⟨by decide, by decide⟩ dX7_init_47 (fun H121 hTH121 hSH121 oH121 zH121 vH121 => ?_)
  have hNH121 : G119 H120.size = none := hTH120.gb _ (Nat.le_refl _)
  obtain ⟨G123, eGG123⟩ : ∃ g, g = gU G119 H120.size 75 := ⟨_, rfl⟩
  rw [← eGG123] at hTH121
  have nr_a_q122 : a ≠ H120.size := Nat.ne_of_lt hR.lt
  replace hR := hR.kept (oH121 _ hR.lt)
  replace gq102 : G123 q102 = some 70 := by rw [eGG123]; exact gU_mono hNH121 _ _ gq102
  replace gq106 : G123 q106 = some 71 := by rw [eGG123]; exact gU_mono hNH121 _ _ gq106
  replace gq110 : G123 q110 = some 72 := by rw [eGG123]; exact gU_mono hNH121 _ _ gq110
  replace gq114 : G123 q114 = some 73 := by rw [eGG123]; exact gU_mono hNH121 _ _ gq114
  replace gq118 : G123 q118 = some 74 := by rw [eGG123]; exact gU_mono hNH121 _ _ gq118
  replace hn : G123 a = none := by rw [eGG123, gU_ne nr_a_q122]; exact hn
  replace hGo : ∀ q, q < s.heap.size → q ≠ a → G123 q = G q := fun q hq hqa => (show G123 q = G119 q by rw [eGG123, gU_ne (Nat.ne_of_lt (Nat.lt_of_lt_of_le hq hSH120.1))]).trans (hGo q hq hqa)
  have gq122 : G123 H120.size = some 75 := by rw [eGG123]; exact gU_at
  obtain ⟨q122, eq122⟩ : ∃ q, q = H120.size := ⟨_, rfl⟩
  have leq122 : s.heap.size ≤ q122 := by rw [eq122]; exact hSH120.1
  rw [← eq122] at gq122 nr_a_q122
  rw [← eq122]
  clear eq122
  clear hNH121 eGG123 oH121 zH121 vH121 hTH120
  refine x_putR C hTH121 hSH121 (ci := 7) (k := 6) (v := .ref q122) (ty0 := tyX7) hR hn rfl inX7 tyX7_ok nmX7 (by decide) (Or.inr ⟨rfl, rfl, rfl⟩) wF_X7_27 (Nat.le_of_ble_eq_true rfl) rfl rfl (Or.inl rfl) dX7_init_49 (fun H124 locsH124 hR2 hTH124 hSH124 oH124 zH124 => ?_)
  clear hR
  have hR : RAW K H124 a 7 [.int 0, .ref q102, .ref q106, .ref q110, .ref q114, .ref q118, .ref q122, .null, .null, .int 0] := hR2
  clear hR2
  clear oH124 zH124 hTH121
  refine lv_aload_n hx hb dX7_init_52 rfl (lv_at hl 0 rfl) ?_
  refine lv_bipush (v := 16) hx hb dX7_init_53 (by decide) ?_
  refine x_newa C hTH124 hSH124 wAC_int rg_76 (by decide) rfl (by decide) ⟨by decide, by decide⟩ dX7_init_55 (fun H125 hTH125 hSH125 oH125 zH125 vH125 => ?_)
  have hNH125 : G123 H124.size = none := hTH124.gb _ (Nat.le_refl _)
  obtain ⟨G127, eGG127⟩ : ∃ g, g = gU G123 H124.size 76 := ⟨_, rfl⟩
  rw [← eGG127] at hTH125
  have nr_a_q126 : a ≠ H124.size := Nat.ne_of_lt hR.lt
  replace hR := hR.kept (oH125 _ hR.lt)
  replace gq102 : G127 q102 = some 70 := by rw [eGG127]; exact gU_mono hNH125 _ _ gq102
  replace gq106 : G127 q106 = some 71 := by rw [eGG127]; exact gU_mono hNH125 _ _ gq106
  replace gq110 : G127 q110 = some 72 := by rw [eGG127]; exact gU_mono hNH125 _ _ gq110
  replace gq114 : G127 q114 = some 73 := by rw [eGG127]; exact gU_mono hNH125 _ _ gq114
  replace gq118 : G127 q118 = some 74 := by rw [eGG127]; exact gU_mono hNH125 _ _ gq118
  replace gq122 : G127 q122 = some 75 := by rw [eGG127]; exact gU_mono hNH125 _ _ gq122
  replace hn : G127 a = none := by rw [eGG127, gU_ne nr_a_q126]; exact hn
  replace hGo : ∀ q, q < s.heap.size → q ≠ a → G127 q = G q := fun q hq hqa => (show G127 q = G123 q by rw [eGG127, gU_ne (Nat.ne_of_lt (Nat.lt_of_lt_of_le hq hSH124.1))]).trans (hGo q hq hqa)
  have gq126 : G127 H124.size = some 76 := by rw [eGG127]; exact gU_at
  obtain ⟨q126, eq126⟩ : ∃ q, q = H124.size := ⟨_, rfl⟩
  have leq126 : s.heap.size ≤ q126 := by rw [eq126]; exact hSH124.1
  rw [← eq126] at gq126 nr_a_q126
  rw [← eq126]
  clear eq126
  clear hNH125 eGG127 oH125 zH125 vH125 hTH124
  refine x_putR C hTH125 hSH125 (ci := 7) (k := 7) (v := .ref q126) (ty0 := tyX7) hR hn rfl inX7 tyX7_ok nmX7 (by decide) (Or.inr ⟨rfl, rfl, rfl⟩) wF_X7_30 (Nat.le_of_ble_eq_true rfl) rfl rfl (Or.inl rfl) dX7_init_57 (fun H128 locsH128 hR2 hTH128 hSH128 oH128 zH128 => ?_)
  clear hR
  have hR : RAW K H128 a 7 [.int 0, .ref q102, .ref q106, .ref q110, .ref q114, .ref q118, .ref q122, .ref q126, .null, .int 0] := hR2
  clear hR2
  clear oH128 zH128 hTH125
  refine lv_aload_n hx hb dX7_init_60 rfl (lv_at hl 0 rfl) ?_
  refine lv_sipush (v := 500) hx hb dX7_init_61 (by decide) ?_
  refine x_newa C hTH128 hSH128 wAC_int rg_77 (by decide) rfl (by decide) ⟨by decide, by decide⟩ dX7_init_64 (fun H129 hTH129 hSH129 oH129 zH129 vH129 => ?_)
  have hNH129 : G127 H128.size = none := hTH128.gb _ (Nat.le_refl _)
  obtain ⟨G131, eGG131⟩ : ∃ g, g = gU G127 H128.size 77 := ⟨_, rfl⟩
  rw [← eGG131] at hTH129
  have nr_a_q130 : a ≠ H128.size := Nat.ne_of_lt hR.lt
  replace hR := hR.kept (oH129 _ hR.lt)
  replace gq102 : G131 q102 = some 70 := by rw [eGG131]; exact gU_mono hNH129 _ _ gq102
  replace gq106 : G131 q106 = some 71 := by rw [eGG131]; exact gU_mono hNH129 _ _ gq106
  replace gq110 : G131 q110 = some 72 := by rw [eGG131]; exact gU_mono hNH129 _ _ gq110
  replace gq114 : G131 q114 = some 73 := by rw [eGG131]; exact gU_mono hNH129 _ _ gq114
  replace gq118 : G131 q118 = some 74 := by rw [eGG131]; exact gU_mono hNH129 _ _ gq118
  replace gq122 : G131 q122 = some 75 := by rw [eGG131]; exact gU_mono hNH129 _ _ gq122
  replace gq126 : G131 q126 = some 76 := by rw [eGG131]; exact gU_mono hNH129 _ _ gq126
  replace hn : G131 a = none := by rw [eGG131, gU_ne nr_a_q130]; exact hn
  replace hGo : ∀ q, q < s.heap.size → q ≠ a → G131 q = G q := fun q hq hqa => (show G131 q = G127 q by rw [eGG131, gU_ne (Nat.ne_of_lt (Nat.lt_of_lt_of_le hq hSH128.1))]).trans (hGo q hq hqa)
  have gq130 : G131 H128.size = some 77 := by rw [eGG131]; exact gU_at
  obtain ⟨q130, eq130⟩ : ∃ q, q = H128.size := ⟨_, rfl⟩
  have leq130 : s.heap.size ≤ q130 := by rw [eq130]; exact hSH128.1
  rw [← eq130] at gq130 nr_a_q130
  rw [← eq130]
  clear eq130
  clear hNH129 eGG131 oH129 zH129 vH129 hTH128
  refine x_putR C hTH129 hSH129 (ci := 7) (k := 8) (v := .ref q130) (ty0 := tyX7) hR hn rfl inX7 tyX7_ok nmX7 (by decide) (Or.inr ⟨rfl, rfl, rfl⟩) wF_X7_33 (Nat.le_of_ble_eq_true rfl) rfl rfl (Or.inl rfl) dX7_init_66 (fun H132 locsH132 hR2 hTH132 hSH132 oH132 zH132 => ?_)
  clear hR
  have hR : RAW K H132 a 7 [.int 0, .ref q102, .ref q106, .ref q110, .ref q114, .ref q118, .ref q122, .ref q126, .ref q130, .int 0] := hR2
  clear hR2
  clear oH132 zH132 hTH129
  have hTZ := x_born (t := 69) hTH132 hn hR rfl rg_69 rfl (fun k f h => match k, f, h with | 0, _, h => by cases h; exact ⟨_, rfl, 0, rfl, by decide, by decide⟩ | 1, _, h => by cases h; exact ⟨_, rfl, q102, rfl, gU_mono hn _ _ gq102⟩ | 2, _, h => by cases h; exact ⟨_, rfl, q106, rfl, gU_mono hn _ _ gq106⟩ | 3, _, h => by cases h; exact ⟨_, rfl, q110, rfl, gU_mono hn _ _ gq110⟩ | 4, _, h => by cases h; exact ⟨_, rfl, q114, rfl, gU_mono hn _ _ gq114⟩ | 5, _, h => by cases h; exact ⟨_, rfl, q118, rfl, gU_mono hn _ _ gq118⟩ | 6, _, h => by cases h; exact ⟨_, rfl, q122, rfl, gU_mono hn _ _ gq122⟩ | 7, _, h => by cases h; exact ⟨_, rfl, q126, rfl, gU_mono hn _ _ gq126⟩ | 8, _, h => by cases h; exact ⟨_, rfl, q130, rfl, gU_mono hn _ _ gq130⟩ | 9, _, h => by cases h; exact ⟨_, rfl, 0, rfl, by decide, by decide⟩ | k + 10, _, h => by simp at h)
  exact x_vret C hQ dX7_init_69 hSH132 (by decide) (by decide) (⟨rfl, gU G131 a 69, fun q hq hqa => by rw [gU_ne hqa]; exact hGo q hq hqa, gU_at, hTZ⟩)

set_option maxHeartbeats 4000000 in
set_option maxRecDepth 100000 in
theorem k_X5_init_setS (l : Launch) (K : KE) (G : Nat → Option Nat) (H : Heap) {a : Nat} (hT : TY K G H) (hn : G a = none) (hR : RAW K H a 5 [.null, .null, .null, .int 0, .int 0]) : MX l K yX5_init cX5_init 1 none 1 12 3 272 [.ref a] H (fun q => q = a ∨ H.size ≤ q) (fun v H1 => v = none ∧ ∃ G1 : Nat → Option Nat, (∀ q, q < H.size → q ≠ a → G1 q = G q) ∧ G1 a = some 104 ∧ TY K G1 H1) := by
  refine MX.of (by decide +kernel) (Nat.le_of_ble_eq_true rfl) ?_
  intro p e s m below meth c ls Q C hH hl hQ
  subst hH
  have C : CX p K s m _ meth c RX5 cX5_init 1 none "<init>" := C
  obtain ⟨hx, hb, hml, hown, hts, hKT, hr, hlocks, hnm⟩ := id C
  have hl : lv_has ls 1 [(0, .ref a)] := hl
  have hS : va_S (fun q => q = a ∨ s.heap.size ≤ q) s.heap s.heap [] := va_S.rf
  have n_0 : (0 : Int32).toInt = 0 := rfl
  have n_8 : (8 : Int32).toInt = 8 := rfl
  have n_256 : (256 : Int32).toInt = 256 := rfl
  have hGo : ∀ q, q < s.heap.size → q ≠ a → G q = G q := fun _ _ _ => rfl
  refine lv_aload_n hx hb dX5_init_0 rfl (lv_at hl 0 rfl) ?_
  refine x_objInit C wM_X5_3 wIM_OBJ wCD_OBJ hl.1 (by decide) dX5_init_1 ?_
  refine lv_aload_n hx hb dX5_init_4 rfl (lv_at hl 0 rfl) ?_
  refine lv_bipush (v := 8) hx hb dX5_init_5 (by decide) ?_
  refine x_newa C hT hS wAC_int rg_105 (by decide) rfl (by decide) ⟨by decide, by decide⟩ dX5_init_7 (fun H101 hTH101 hSH101 oH101 zH101 vH101 => ?_)
  have hNH101 : G s.heap.size = none := hT.gb _ (Nat.le_refl _)
  obtain ⟨G103, eGG103⟩ : ∃ g, g = gU G s.heap.size 105 := ⟨_, rfl⟩
  rw [← eGG103] at hTH101
  have nr_a_q102 : a ≠ s.heap.size := Nat.ne_of_lt hR.lt
  replace hR := hR.kept (oH101 _ hR.lt)
  replace hn : G103 a = none := by rw [eGG103, gU_ne nr_a_q102]; exact hn
  replace hGo : ∀ q, q < s.heap.size → q ≠ a → G103 q = G q := fun q hq hqa => (show G103 q = G q by rw [eGG103, gU_ne (Nat.ne_of_lt (Nat.lt_of_lt_of_le hq hS.1))]).trans (hGo q hq hqa)
  have gq102 : G103 s.heap.size = some 105 := by rw [eGG103]; exact gU_at
  obtain ⟨q102, eq102⟩ : ∃ q, q = s.heap.size := ⟨_, rfl⟩
  have leq102 : s.heap.size ≤ q102 := by rw [eq102]; exact hS.1
  rw [← eq102] at gq102 nr_a_q102
  rw [← eq102]
  clear eq102
  clear hNH101 eGG103 oH101 zH101 vH101 hT
  refine x_putR C hTH101 hSH101 (ci := 5) (k := 0) (v := .ref q102) (ty0 := tyX5) hR hn rfl inX5 tyX5_ok nmX5 (by decide) (Or.inr ⟨rfl, rfl, rfl⟩) wF_X5_9 (Nat.le_of_ble_eq_true rfl) rfl rfl (Or.inl rfl) dX5_init_9 (fun H104 locsH104 hR2 hTH104 hSH104 oH104 zH104 => ?_)
  clear hR
  have hR : RAW K H104 a 5 [.ref q102, .null, .null, .int 0, .int 0] := hR2
  clear hR2
  clear oH104 zH104 hTH101
  refine lv_aload_n hx hb dX5_init_12 rfl (lv_at hl 0 rfl) ?_
  refine lv_bipush (v := 8) hx hb dX5_init_13 (by decide) ?_
  refine x_newa C hTH104 hSH104 wAC_int rg_106 (by decide) rfl (by decide) ⟨by decide, by decide⟩ dX5_init_15 (fun H105 hTH105 hSH105 oH105 zH105 vH105 => ?_)
  have hNH105 : G103 H104.size = none := hTH104.gb _ (Nat.le_refl _)
  obtain ⟨G107, eGG107⟩ : ∃ g, g = gU G103 H104.size 106 := ⟨_, rfl⟩
  rw [← eGG107] at hTH105
  have nr_a_q106 : a ≠ H104.size := Nat.ne_of_lt hR.lt
  replace hR := hR.kept (oH105 _ hR.lt)
  replace gq102 : G107 q102 = some 105 := by rw [eGG107]; exact gU_mono hNH105 _ _ gq102
  replace hn : G107 a = none := by rw [eGG107, gU_ne nr_a_q106]; exact hn
  replace hGo : ∀ q, q < s.heap.size → q ≠ a → G107 q = G q := fun q hq hqa => (show G107 q = G103 q by rw [eGG107, gU_ne (Nat.ne_of_lt (Nat.lt_of_lt_of_le hq hSH104.1))]).trans (hGo q hq hqa)
  have gq106 : G107 H104.size = some 106 := by rw [eGG107]; exact gU_at
  obtain ⟨q106, eq106⟩ : ∃ q, q = H104.size := ⟨_, rfl⟩
  have leq106 : s.heap.size ≤ q106 := by rw [eq106]; exact hSH104.1
  rw [← eq106] at gq106 nr_a_q106
  rw [← eq106]
  clear eq106
  clear hNH105 eGG107 oH105 zH105 vH105 hTH104
  refine x_putR C hTH105 hSH105 (ci := 5) (k := 1) (v := .ref q106) (ty0 := tyX5) hR hn rfl inX5 tyX5_ok nmX5 (by decide) (Or.inr ⟨rfl, rfl, rfl⟩) wF_X5_15 (Nat.le_of_ble_eq_true rfl) rfl rfl (Or.inl rfl) dX5_init_17 (fun H108 locsH108 hR2 hTH108 hSH108 oH108 zH108 => ?_)
  clear hR
  have hR : RAW K H108 a 5 [.ref q102, .ref q106, .null, .int 0, .int 0] := hR2
  clear hR2
  clear oH108 zH108 hTH105
  refine lv_aload_n hx hb dX5_init_20 rfl (lv_at hl 0 rfl) ?_
  refine lv_sipush (v := 256) hx hb dX5_init_21 (by decide) ?_
  refine x_newa C hTH108 hSH108 wAC_int rg_107 (by decide) rfl (by decide) ⟨by decide, by decide⟩ dX5_init_24 (fun H109 hTH109 hSH109 oH109 zH109 vH109 => ?_)
  have hNH109 : G107 H108.size = none := hTH108.gb _ (Nat.le_refl _)
  obtain ⟨G111, eGG111⟩ : ∃ g, g = gU G107 H108.size 107 := ⟨_, rfl⟩
  rw [← eGG111] at hTH109
  have nr_a_q110 : a ≠ H108.size := Nat.ne_of_lt hR.lt
  replace hR := hR.kept (oH109 _ hR.lt)
  replace gq102 : G111 q102 = some 105 := by rw [eGG111]; exact gU_mono hNH109 _ _ gq102
  replace gq106 : G111 q106 = some 106 := by rw [eGG111]; exact gU_mono hNH109 _ _ gq106
  replace hn : G111 a = none := by rw [eGG111, gU_ne nr_a_q110]; exact hn
  replace hGo : ∀ q, q < s.heap.size → q ≠ a → G111 q = G q := fun q hq hqa => (show G111 q = G107 q by rw [eGG111, gU_ne (Nat.ne_of_lt (Nat.lt_of_lt_of_le hq hSH108.1))]).trans (hGo q hq hqa)
  have gq110 : G111 H108.size = some 107 := by rw [eGG111]; exact gU_at
  obtain ⟨q110, eq110⟩ : ∃ q, q = H108.size := ⟨_, rfl⟩
  have leq110 : s.heap.size ≤ q110 := by rw [eq110]; exact hSH108.1
  rw [← eq110] at gq110 nr_a_q110
  rw [← eq110]
  clear eq110
  clear hNH109 eGG111 oH109 zH109 vH109 hTH108
  refine x_putR C hTH109 hSH109 (ci := 5) (k := 2) (v := .ref q110) (ty0 := tyX5) hR hn rfl inX5 tyX5_ok nmX5 (by decide) (Or.inr ⟨rfl, rfl, rfl⟩) wF_X5_18 (Nat.le_of_ble_eq_true rfl) rfl rfl (Or.inl rfl) dX5_init_26 (fun H112 locsH112 hR2 hTH112 hSH112 oH112 zH112 => ?_)
  clear hR
  have hR : RAW K H112 a 5 [.ref q102, .ref q106, .ref q110, .int 0, .int 0] := hR2
  clear hR2
  clear oH112 zH112 hTH109
  have hTZ := x_born (t := 104) hTH112 hn hR rfl rg_104 rfl (fun k f h => match k, f, h with | 0, _, h => by cases h; exact ⟨_, rfl, q102, rfl, gU_mono hn _ _ gq102⟩ | 1, _, h => by cases h; exact ⟨_, rfl, q106, rfl, gU_mono hn _ _ gq106⟩ | 2, _, h => by cases h; exact ⟨_, rfl, q110, rfl, gU_mono hn _ _ gq110⟩ | 3, _, h => by cases h; exact ⟨_, rfl, 0, rfl, by decide, by decide⟩ | 4, _, h => by cases h; exact ⟨_, rfl, 0, rfl, by decide, by decide⟩ | k + 5, _, h => by simp at h)
  exact x_vret C hQ dX5_init_29 hSH112 (by decide) (by decide) (⟨rfl, gU G111 a 104, fun q hq hqa => by rw [gU_ne hqa]; exact hGo q hq hqa, gU_at, hTZ⟩)
