set_option maxHeartbeats 4000000 in
set_option maxRecDepth 100000 in
theorem k_X10_init_M3 (l : Launch) (K : KE) (G : Nat → Option Nat) (H : Heap) {a : Nat} (hT : TY K G H) (hn : G a = none) (hR : RAW K H a 10 [.int 0, .int 0, .int 0, .int 0, .null, .null, .null, .null, .null, .null, .null, .null, .null, .null, .null, .null, .null, .null, .int 0, .int 0, .int 0, .int 0, .int 0, .null, .null, .null, .null, .null, .null, .null, .null, .null, .null, .null, .int 0, .int 0, .int 0, .null, .int 0, .int 0, .int 0, .int 0, .int 0, .null, .null, .null, .null, .null, .null, .null, .null, .null, .null, .null, .null, .null, .int 0, .null, .null, .int 0, .null, .null, .int 0, .null, .null, .int 0, .null, .null, .null, .null, .int 0, .int 0, .int 0, .null]) : MX l K yX10_init cX10_init 1 none 1 12 50 40753 [.ref a] H (fun q => q = a ∨ H.size ≤ q) (fun v H1 => v = none ∧ ∃ G1 : Nat → Option Nat, (∀ q, q < H.size → q ≠ a → G1 q = G q) ∧ G1 a = some 112 ∧ TY K G1 H1 ∧ FM K H1 a ∧ CG (avw K H1 a) ∧ TU (avw K H1 a) (svw K H1 a) ∧ WD (avw K H1 a) ∧ IM (avw K H1 a) ∧ (∀ bar : Nat, PrsV (vwR K H1 a bar)) ∧ ∀ j : Nat, fI H1 (fR H1 a (K.1.2 10 24)) j = 0) := by
  refine MX.of (by decide +kernel) (Nat.le_of_ble_eq_true rfl) ?_
  intro p e s m below meth c ls Q C hH hl hQ
  subst hH
  have C : CX p K s m _ meth c RX10 cX10_init 1 none "<init>" := C
  obtain ⟨hx, hb, hml, hown, hts, hKT, hr, hlocks, hnm⟩ := id C
  have hl : lv_has ls 1 [(0, .ref a)] := hl
  have hS : va_S (fun q => q = a ∨ s.heap.size ≤ q) s.heap s.heap [] := va_S.rf
  have n_m1 : ((-1) : Int32).toInt = -1 := rfl
  have n_0 : (0 : Int32).toInt = 0 := rfl
  have n_1 : (1 : Int32).toInt = 1 := rfl
  have n_2 : (2 : Int32).toInt = 2 := rfl
  have n_3 : (3 : Int32).toInt = 3 := rfl
  have n_4 : (4 : Int32).toInt = 4 := rfl
  have n_5 : (5 : Int32).toInt = 5 := rfl
  have n_6 : (6 : Int32).toInt = 6 := rfl
  have n_7 : (7 : Int32).toInt = 7 := rfl
  have n_8 : (8 : Int32).toInt = 8 := rfl
  have n_9 : (9 : Int32).toInt = 9 := rfl
  have n_10 : (10 : Int32).toInt = 10 := rfl
  have n_11 : (11 : Int32).toInt = 11 := rfl
  have n_12 : (12 : Int32).toInt = 12 := rfl
  have n_13 : (13 : Int32).toInt = 13 := rfl
  have n_14 : (14 : Int32).toInt = 14 := rfl
  have n_15 : (15 : Int32).toInt = 15 := rfl
  have n_16 : (16 : Int32).toInt = 16 := rfl
  have n_17 : (17 : Int32).toInt = 17 := rfl
  have n_18 : (18 : Int32).toInt = 18 := rfl
  have n_19 : (19 : Int32).toInt = 19 := rfl
  have n_20 : (20 : Int32).toInt = 20 := rfl
  have n_21 : (21 : Int32).toInt = 21 := rfl
  have n_22 : (22 : Int32).toInt = 22 := rfl
  have n_23 : (23 : Int32).toInt = 23 := rfl
  have n_24 : (24 : Int32).toInt = 24 := rfl
  have n_25 : (25 : Int32).toInt = 25 := rfl
  have n_26 : (26 : Int32).toInt = 26 := rfl
  have n_27 : (27 : Int32).toInt = 27 := rfl
  have n_28 : (28 : Int32).toInt = 28 := rfl
  have n_29 : (29 : Int32).toInt = 29 := rfl
  have n_30 : (30 : Int32).toInt = 30 := rfl
  have n_31 : (31 : Int32).toInt = 31 := rfl
  have n_32 : (32 : Int32).toInt = 32 := rfl
  have n_33 : (33 : Int32).toInt = 33 := rfl
  have n_34 : (34 : Int32).toInt = 34 := rfl
  have n_35 : (35 : Int32).toInt = 35 := rfl
  have n_36 : (36 : Int32).toInt = 36 := rfl
  have n_37 : (37 : Int32).toInt = 37 := rfl
  have n_38 : (38 : Int32).toInt = 38 := rfl
  have n_39 : (39 : Int32).toInt = 39 := rfl
  have n_40 : (40 : Int32).toInt = 40 := rfl
  have n_41 : (41 : Int32).toInt = 41 := rfl
  have n_42 : (42 : Int32).toInt = 42 := rfl
  have n_43 : (43 : Int32).toInt = 43 := rfl
  have n_44 : (44 : Int32).toInt = 44 := rfl
  have n_45 : (45 : Int32).toInt = 45 := rfl
  have n_46 : (46 : Int32).toInt = 46 := rfl
  have n_47 : (47 : Int32).toInt = 47 := rfl
  have n_48 : (48 : Int32).toInt = 48 := rfl
  have n_49 : (49 : Int32).toInt = 49 := rfl
  have n_50 : (50 : Int32).toInt = 50 := rfl
  have n_51 : (51 : Int32).toInt = 51 := rfl
  have n_52 : (52 : Int32).toInt = 52 := rfl
  have n_53 : (53 : Int32).toInt = 53 := rfl
  have n_54 : (54 : Int32).toInt = 54 := rfl
  have n_55 : (55 : Int32).toInt = 55 := rfl
  have n_56 : (56 : Int32).toInt = 56 := rfl
  have n_57 : (57 : Int32).toInt = 57 := rfl
  have n_58 : (58 : Int32).toInt = 58 := rfl
  have n_59 : (59 : Int32).toInt = 59 := rfl
  have n_60 : (60 : Int32).toInt = 60 := rfl
  have n_61 : (61 : Int32).toInt = 61 := rfl
  have n_62 : (62 : Int32).toInt = 62 := rfl
  have n_63 : (63 : Int32).toInt = 63 := rfl
  have n_64 : (64 : Int32).toInt = 64 := rfl
  have n_65 : (65 : Int32).toInt = 65 := rfl
  have n_66 : (66 : Int32).toInt = 66 := rfl
  have n_67 : (67 : Int32).toInt = 67 := rfl
  have n_68 : (68 : Int32).toInt = 68 := rfl
  have n_69 : (69 : Int32).toInt = 69 := rfl
  have n_70 : (70 : Int32).toInt = 70 := rfl
  have n_71 : (71 : Int32).toInt = 71 := rfl
  have n_72 : (72 : Int32).toInt = 72 := rfl
  have n_73 : (73 : Int32).toInt = 73 := rfl
  have n_74 : (74 : Int32).toInt = 74 := rfl
  have n_75 : (75 : Int32).toInt = 75 := rfl
  have n_76 : (76 : Int32).toInt = 76 := rfl
  have n_77 : (77 : Int32).toInt = 77 := rfl
  have n_78 : (78 : Int32).toInt = 78 := rfl
  have n_79 : (79 : Int32).toInt = 79 := rfl
  have n_80 : (80 : Int32).toInt = 80 := rfl
  have n_81 : (81 : Int32).toInt = 81 := rfl
  have n_82 : (82 : Int32).toInt = 82 := rfl
  have n_83 : (83 : Int32).toInt = 83 := rfl
  have n_84 : (84 : Int32).toInt = 84 := rfl
  have n_85 : (85 : Int32).toInt = 85 := rfl
  have n_86 : (86 : Int32).toInt = 86 := rfl
  have n_87 : (87 : Int32).toInt = 87 := rfl
  have n_88 : (88 : Int32).toInt = 88 := rfl
  have n_89 : (89 : Int32).toInt = 89 := rfl
  have n_90 : (90 : Int32).toInt = 90 := rfl
  have n_91 : (91 : Int32).toInt = 91 := rfl
  have n_92 : (92 : Int32).toInt = 92 := rfl
  have n_93 : (93 : Int32).toInt = 93 := rfl
  have n_94 : (94 : Int32).toInt = 94 := rfl
  have n_95 : (95 : Int32).toInt = 95 := rfl
  have n_96 : (96 : Int32).toInt = 96 := rfl
  have n_97 : (97 : Int32).toInt = 97 := rfl
  have n_98 : (98 : Int32).toInt = 98 := rfl
  have n_99 : (99 : Int32).toInt = 99 := rfl
  have n_100 : (100 : Int32).toInt = 100 := rfl
  have n_101 : (101 : Int32).toInt = 101 := rfl
  have n_102 : (102 : Int32).toInt = 102 := rfl
  have n_103 : (103 : Int32).toInt = 103 := rfl
  have n_104 : (104 : Int32).toInt = 104 := rfl
  have n_105 : (105 : Int32).toInt = 105 := rfl
  have n_106 : (106 : Int32).toInt = 106 := rfl
  have n_107 : (107 : Int32).toInt = 107 := rfl
  have n_108 : (108 : Int32).toInt = 108 := rfl
  have n_109 : (109 : Int32).toInt = 109 := rfl
  have n_110 : (110 : Int32).toInt = 110 := rfl
  have n_111 : (111 : Int32).toInt = 111 := rfl
  have n_112 : (112 : Int32).toInt = 112 := rfl
  have n_113 : (113 : Int32).toInt = 113 := rfl
  have n_114 : (114 : Int32).toInt = 114 := rfl
  have n_115 : (115 : Int32).toInt = 115 := rfl
  have n_116 : (116 : Int32).toInt = 116 := rfl
  have n_118 : (118 : Int32).toInt = 118 := rfl
  have n_119 : (119 : Int32).toInt = 119 := rfl
  have n_120 : (120 : Int32).toInt = 120 := rfl
  have n_121 : (121 : Int32).toInt = 121 := rfl
  have n_122 : (122 : Int32).toInt = 122 := rfl
  have n_144 : (144 : Int32).toInt = 144 := rfl
  have n_160 : (160 : Int32).toInt = 160 := rfl
  have n_500 : (500 : Int32).toInt = 500 := rfl
  have n_520 : (520 : Int32).toInt = 520 := rfl
  have n_1024 : (1024 : Int32).toInt = 1024 := rfl
  have n_1920 : (1920 : Int32).toInt = 1920 := rfl
  have n_2000 : (2000 : Int32).toInt = 2000 := rfl
  have n_3500 : (3500 : Int32).toInt = 3500 := rfl
  have n_5120 : (5120 : Int32).toInt = 5120 := rfl
  have n_16400 : (16400 : Int32).toInt = 16400 := rfl
  have hGo : ∀ q, q < s.heap.size → q ≠ a → G q = G q := fun _ _ _ => rfl
  refine lv_aload_n hx hb dX10_init_0 rfl (lv_at hl 0 rfl) ?_
  refine x_objInit C wM_X10_1 wIM_OBJ wCD_OBJ hl.1 (by decide) dX10_init_1 ?_
  refine lv_aload_n hx hb dX10_init_4 rfl (lv_at hl 0 rfl) ?_
  refine lv_bipush (v := 10) hx hb dX10_init_5 (by decide) ?_
  refine x_putR C hT hS (ci := 10) (k := 3) (v := .int 10) (ty0 := tyX10) hR hn rfl inX10 tyX10_ok nmX10 (by decide) (Or.inl rfl) wF_X10_7 (Nat.le_of_ble_eq_true rfl) rfl rfl (Or.inl rfl) dX10_init_7 (fun H101 locsH101 hR2 hTH101 hSH101 oH101 zH101 => ?_)
  clear hR
  have hR : RAW K H101 a 10 [.int 0, .int 0, .int 0, .int 10, .null, .null, .null, .null, .null, .null, .null, .null, .null, .null, .null, .null, .null, .null, .int 0, .int 0, .int 0, .int 0, .int 0, .null, .null, .null, .null, .null, .null, .null, .null, .null, .null, .null, .int 0, .int 0, .int 0, .null, .int 0, .int 0, .int 0, .int 0, .int 0, .null, .null, .null, .null, .null, .null, .null, .null, .null, .null, .null, .null, .null, .int 0, .null, .null, .int 0, .null, .null, .int 0, .null, .null, .int 0, .null, .null, .null, .null, .int 0, .int 0, .int 0, .null] := hR2
  clear hR2
  clear oH101 zH101 hT
  refine lv_aload_n hx hb dX10_init_10 rfl (lv_at hl 0 rfl) ?_
  refine lv_bipush (v := 10) hx hb dX10_init_11 (by decide) ?_
  refine x_newa C hTH101 hSH101 wAC_int rg_113 (by decide) rfl (by decide) ⟨by decide, by decide⟩ dX10_init_13 (fun H102 hTH102 hSH102 oH102 zH102 vH102 => ?_)
  have hNH102 : G H101.size = none := hTH101.gb _ (Nat.le_refl _)
  obtain ⟨G104, eGG104⟩ : ∃ g, g = gU G H101.size 113 := ⟨_, rfl⟩
  rw [← eGG104] at hTH102
  have nr_a_q103 : a ≠ H101.size := Nat.ne_of_lt hR.lt
  replace hR := hR.kept (oH102 _ hR.lt)
  replace hn : G104 a = none := by rw [eGG104, gU_ne nr_a_q103]; exact hn
  replace hGo : ∀ q, q < s.heap.size → q ≠ a → G104 q = G q := fun q hq hqa => (show G104 q = G q by rw [eGG104, gU_ne (Nat.ne_of_lt (Nat.lt_of_lt_of_le hq hSH101.1))]).trans (hGo q hq hqa)
  have gq103 : G104 H101.size = some 113 := by rw [eGG104]; exact gU_at
  obtain ⟨q103, eq103⟩ : ∃ q, q = H101.size := ⟨_, rfl⟩
  have leq103 : s.heap.size ≤ q103 := by rw [eq103]; exact hSH101.1
  rw [← eq103] at gq103 nr_a_q103
  rw [← eq103]
  clear eq103
  clear hNH102 eGG104 oH102 zH102 vH102 hTH101
  refine x_putR C hTH102 hSH102 (ci := 10) (k := 4) (v := .ref q103) (ty0 := tyX10) hR hn rfl inX10 tyX10_ok nmX10 (by decide) (Or.inr ⟨rfl, rfl, rfl⟩) wF_X10_13 (Nat.le_of_ble_eq_true rfl) rfl rfl (Or.inl rfl) dX10_init_15 (fun H105 locsH105 hR2 hTH105 hSH105 oH105 zH105 => ?_)
  clear hR
  have hR : RAW K H105 a 10 [.int 0, .int 0, .int 0, .int 10, .ref q103, .null, .null, .null, .null, .null, .null, .null, .null, .null, .null, .null, .null, .null, .int 0, .int 0, .int 0, .int 0, .int 0, .null, .null, .null, .null, .null, .null, .null, .null, .null, .null, .null, .int 0, .int 0, .int 0, .null, .int 0, .int 0, .int 0, .int 0, .int 0, .null, .null, .null, .null, .null, .null, .null, .null, .null, .null, .null, .null, .null, .int 0, .null, .null, .int 0, .null, .null, .int 0, .null, .null, .int 0, .null, .null, .null, .null, .int 0, .int 0, .int 0, .null] := hR2
  clear hR2
  clear oH105 zH105 hTH102
  refine lv_aload_n hx hb dX10_init_18 rfl (lv_at hl 0 rfl) ?_
  refine lv_sipush (v := 160) hx hb dX10_init_19 (by decide) ?_
  refine x_newa C hTH105 hSH105 wAC_int rg_114 (by decide) rfl (by decide) ⟨by decide, by decide⟩ dX10_init_22 (fun H106 hTH106 hSH106 oH106 zH106 vH106 => ?_)
  have hNH106 : G104 H105.size = none := hTH105.gb _ (Nat.le_refl _)
  obtain ⟨G108, eGG108⟩ : ∃ g, g = gU G104 H105.size 114 := ⟨_, rfl⟩
  rw [← eGG108] at hTH106
  have nr_a_q107 : a ≠ H105.size := Nat.ne_of_lt hR.lt
  replace hR := hR.kept (oH106 _ hR.lt)
  replace gq103 : G108 q103 = some 113 := by rw [eGG108]; exact gU_mono hNH106 _ _ gq103
  replace hn : G108 a = none := by rw [eGG108, gU_ne nr_a_q107]; exact hn
  replace hGo : ∀ q, q < s.heap.size → q ≠ a → G108 q = G q := fun q hq hqa => (show G108 q = G104 q by rw [eGG108, gU_ne (Nat.ne_of_lt (Nat.lt_of_lt_of_le hq hSH105.1))]).trans (hGo q hq hqa)
  have gq107 : G108 H105.size = some 114 := by rw [eGG108]; exact gU_at
  obtain ⟨q107, eq107⟩ : ∃ q, q = H105.size := ⟨_, rfl⟩
  have leq107 : s.heap.size ≤ q107 := by rw [eq107]; exact hSH105.1
  rw [← eq107] at gq107 nr_a_q107
  rw [← eq107]
  clear eq107
  clear hNH106 eGG108 oH106 zH106 vH106 hTH105
  refine x_putR C hTH106 hSH106 (ci := 10) (k := 5) (v := .ref q107) (ty0 := tyX10) hR hn rfl inX10 tyX10_ok nmX10 (by decide) (Or.inr ⟨rfl, rfl, rfl⟩) wF_X10_17 (Nat.le_of_ble_eq_true rfl) rfl rfl (Or.inl rfl) dX10_init_24 (fun H109 locsH109 hR2 hTH109 hSH109 oH109 zH109 => ?_)
  clear hR
  have hR : RAW K H109 a 10 [.int 0, .int 0, .int 0, .int 10, .ref q103, .ref q107, .null, .null, .null, .null, .null, .null, .null, .null, .null, .null, .null, .null, .int 0, .int 0, .int 0, .int 0, .int 0, .null, .null, .null, .null, .null, .null, .null, .null, .null, .null, .null, .int 0, .int 0, .int 0, .null, .int 0, .int 0, .int 0, .int 0, .int 0, .null, .null, .null, .null, .null, .null, .null, .null, .null, .null, .null, .null, .null, .int 0, .null, .null, .int 0, .null, .null, .int 0, .null, .null, .int 0, .null, .null, .null, .null, .int 0, .int 0, .int 0, .null] := hR2
  clear hR2
  clear oH109 zH109 hTH106
  refine lv_aload_n hx hb dX10_init_27 rfl (lv_at hl 0 rfl) ?_
  refine lv_sipush (v := 160) hx hb dX10_init_28 (by decide) ?_
  refine x_newa C hTH109 hSH109 wAC_int rg_115 (by decide) rfl (by decide) ⟨by decide, by decide⟩ dX10_init_31 (fun H110 hTH110 hSH110 oH110 zH110 vH110 => ?_)
  have hNH110 : G108 H109.size = none := hTH109.gb _ (Nat.le_refl _)
  obtain ⟨G112, eGG112⟩ : ∃ g, g = gU G108 H109.size 115 := ⟨_, rfl⟩
  rw [← eGG112] at hTH110
  have nr_a_q111 : a ≠ H109.size := Nat.ne_of_lt hR.lt
  replace hR := hR.kept (oH110 _ hR.lt)
  replace gq103 : G112 q103 = some 113 := by rw [eGG112]; exact gU_mono hNH110 _ _ gq103
  replace gq107 : G112 q107 = some 114 := by rw [eGG112]; exact gU_mono hNH110 _ _ gq107
  replace hn : G112 a = none := by rw [eGG112, gU_ne nr_a_q111]; exact hn
  replace hGo : ∀ q, q < s.heap.size → q ≠ a → G112 q = G q := fun q hq hqa => (show G112 q = G108 q by rw [eGG112, gU_ne (Nat.ne_of_lt (Nat.lt_of_lt_of_le hq hSH109.1))]).trans (hGo q hq hqa)
  have gq111 : G112 H109.size = some 115 := by rw [eGG112]; exact gU_at
  obtain ⟨q111, eq111⟩ : ∃ q, q = H109.size := ⟨_, rfl⟩
  have leq111 : s.heap.size ≤ q111 := by rw [eq111]; exact hSH109.1
  rw [← eq111] at gq111 nr_a_q111
  rw [← eq111]
  clear eq111
  clear hNH110 eGG112 oH110 zH110 vH110 hTH109
  refine x_putR C hTH110 hSH110 (ci := 10) (k := 6) (v := .ref q111) (ty0 := tyX10) hR hn rfl inX10 tyX10_ok nmX10 (by decide) (Or.inr ⟨rfl, rfl, rfl⟩) wF_X10_20 (Nat.le_of_ble_eq_true rfl) rfl rfl (Or.inl rfl) dX10_init_33 (fun H113 locsH113 hR2 hTH113 hSH113 oH113 zH113 => ?_)
  clear hR
  have hR : RAW K H113 a 10 [.int 0, .int 0, .int 0, .int 10, .ref q103, .ref q107, .ref q111, .null, .null, .null, .null, .null, .null, .null, .null, .null, .null, .null, .int 0, .int 0, .int 0, .int 0, .int 0, .null, .null, .null, .null, .null, .null, .null, .null, .null, .null, .null, .int 0, .int 0, .int 0, .null, .int 0, .int 0, .int 0, .int 0, .int 0, .null, .null, .null, .null, .null, .null, .null, .null, .null, .null, .null, .null, .null, .int 0, .null, .null, .int 0, .null, .null, .int 0, .null, .null, .int 0, .null, .null, .null, .null, .int 0, .int 0, .int 0, .null] := hR2
  clear hR2
  clear oH113 zH113 hTH110
  refine lv_aload_n hx hb dX10_init_36 rfl (lv_at hl 0 rfl) ?_
  refine lv_sipush (v := 160) hx hb dX10_init_37 (by decide) ?_
  refine x_newa C hTH113 hSH113 wAC_int rg_116 (by decide) rfl (by decide) ⟨by decide, by decide⟩ dX10_init_40 (fun H114 hTH114 hSH114 oH114 zH114 vH114 => ?_)
  have hNH114 : G112 H113.size = none := hTH113.gb _ (Nat.le_refl _)
  obtain ⟨G116, eGG116⟩ : ∃ g, g = gU G112 H113.size 116 := ⟨_, rfl⟩
  rw [← eGG116] at hTH114
  have nr_a_q115 : a ≠ H113.size := Nat.ne_of_lt hR.lt
  replace hR := hR.kept (oH114 _ hR.lt)
  replace gq103 : G116 q103 = some 113 := by rw [eGG116]; exact gU_mono hNH114 _ _ gq103
  replace gq107 : G116 q107 = some 114 := by rw [eGG116]; exact gU_mono hNH114 _ _ gq107
  replace gq111 : G116 q111 = some 115 := by rw [eGG116]; exact gU_mono hNH114 _ _ gq111
  replace hn : G116 a = none := by rw [eGG116, gU_ne nr_a_q115]; exact hn
  replace hGo : ∀ q, q < s.heap.size → q ≠ a → G116 q = G q := fun q hq hqa => (show G116 q = G112 q by rw [eGG116, gU_ne (Nat.ne_of_lt (Nat.lt_of_lt_of_le hq hSH113.1))]).trans (hGo q hq hqa)
  have gq115 : G116 H113.size = some 116 := by rw [eGG116]; exact gU_at
  obtain ⟨q115, eq115⟩ : ∃ q, q = H113.size := ⟨_, rfl⟩
  have leq115 : s.heap.size ≤ q115 := by rw [eq115]; exact hSH113.1
  rw [← eq115] at gq115 nr_a_q115
  rw [← eq115]
  clear eq115
  clear hNH114 eGG116 oH114 zH114 vH114 hTH113
  refine x_putR C hTH114 hSH114 (ci := 10) (k := 7) (v := .ref q115) (ty0 := tyX10) hR hn rfl inX10 tyX10_ok nmX10 (by decide) (Or.inr ⟨rfl, rfl, rfl⟩) wF_X10_23 (Nat.le_of_ble_eq_true rfl) rfl rfl (Or.inl rfl) dX10_init_42 (fun H117 locsH117 hR2 hTH117 hSH117 oH117 zH117 => ?_)
  clear hR
  have hR : RAW K H117 a 10 [.int 0, .int 0, .int 0, .int 10, .ref q103, .ref q107, .ref q111, .ref q115, .null, .null, .null, .null, .null, .null, .null, .null, .null, .null, .int 0, .int 0, .int 0, .int 0, .int 0, .null, .null, .null, .null, .null, .null, .null, .null, .null, .null, .null, .int 0, .int 0, .int 0, .null, .int 0, .int 0, .int 0, .int 0, .int 0, .null, .null, .null, .null, .null, .null, .null, .null, .null, .null, .null, .null, .null, .int 0, .null, .null, .int 0, .null, .null, .int 0, .null, .null, .int 0, .null, .null, .null, .null, .int 0, .int 0, .int 0, .null] := hR2
  clear hR2
  clear oH117 zH117 hTH114
  refine lv_aload_n hx hb dX10_init_45 rfl (lv_at hl 0 rfl) ?_
  refine lv_sipush (v := 160) hx hb dX10_init_46 (by decide) ?_
  refine x_newa C hTH117 hSH117 wAC_int rg_117 (by decide) rfl (by decide) ⟨by decide, by decide⟩ dX10_init_49 (fun H118 hTH118 hSH118 oH118 zH118 vH118 => ?_)
  have hNH118 : G116 H117.size = none := hTH117.gb _ (Nat.le_refl _)
  obtain ⟨G120, eGG120⟩ : ∃ g, g = gU G116 H117.size 117 := ⟨_, rfl⟩
  rw [← eGG120] at hTH118
  have nr_a_q119 : a ≠ H117.size := Nat.ne_of_lt hR.lt
  replace hR := hR.kept (oH118 _ hR.lt)
  replace gq103 : G120 q103 = some 113 := by rw [eGG120]; exact gU_mono hNH118 _ _ gq103
  replace gq107 : G120 q107 = some 114 := by rw [eGG120]; exact gU_mono hNH118 _ _ gq107
  replace gq111 : G120 q111 = some 115 := by rw [eGG120]; exact gU_mono hNH118 _ _ gq111
  replace gq115 : G120 q115 = some 116 := by rw [eGG120]; exact gU_mono hNH118 _ _ gq115
  replace hn : G120 a = none := by rw [eGG120, gU_ne nr_a_q119]; exact hn
  replace hGo : ∀ q, q < s.heap.size → q ≠ a → G120 q = G q := fun q hq hqa => (show G120 q = G116 q by rw [eGG120, gU_ne (Nat.ne_of_lt (Nat.lt_of_lt_of_le hq hSH117.1))]).trans (hGo q hq hqa)
  have gq119 : G120 H117.size = some 117 := by rw [eGG120]; exact gU_at
  obtain ⟨q119, eq119⟩ : ∃ q, q = H117.size := ⟨_, rfl⟩
  have leq119 : s.heap.size ≤ q119 := by rw [eq119]; exact hSH117.1
  rw [← eq119] at gq119 nr_a_q119
  rw [← eq119]
  clear eq119
  clear hNH118 eGG120 oH118 zH118 vH118 hTH117
  refine x_putR C hTH118 hSH118 (ci := 10) (k := 8) (v := .ref q119) (ty0 := tyX10) hR hn rfl inX10 tyX10_ok nmX10 (by decide) (Or.inr ⟨rfl, rfl, rfl⟩) wF_X10_26 (Nat.le_of_ble_eq_true rfl) rfl rfl (Or.inl rfl) dX10_init_51 (fun H121 locsH121 hR2 hTH121 hSH121 oH121 zH121 => ?_)
  clear hR
  have hR : RAW K H121 a 10 [.int 0, .int 0, .int 0, .int 10, .ref q103, .ref q107, .ref q111, .ref q115, .ref q119, .null, .null, .null, .null, .null, .null, .null, .null, .null, .int 0, .int 0, .int 0, .int 0, .int 0, .null, .null, .null, .null, .null, .null, .null, .null, .null, .null, .null, .int 0, .int 0, .int 0, .null, .int 0, .int 0, .int 0, .int 0, .int 0, .null, .null, .null, .null, .null, .null, .null, .null, .null, .null, .null, .null, .null, .int 0, .null, .null, .int 0, .null, .null, .int 0, .null, .null, .int 0, .null, .null, .null, .null, .int 0, .int 0, .int 0, .null] := hR2
  clear hR2
  clear oH121 zH121 hTH118
  refine lv_aload_n hx hb dX10_init_54 rfl (lv_at hl 0 rfl) ?_
  refine lv_bipush (v := 30) hx hb dX10_init_55 (by decide) ?_
  refine x_newa C hTH121 hSH121 wAC_int rg_118 (by decide) rfl (by decide) ⟨by decide, by decide⟩ dX10_init_57 (fun H122 hTH122 hSH122 oH122 zH122 vH122 => ?_)
  have hNH122 : G120 H121.size = none := hTH121.gb _ (Nat.le_refl _)
  obtain ⟨G124, eGG124⟩ : ∃ g, g = gU G120 H121.size 118 := ⟨_, rfl⟩
  rw [← eGG124] at hTH122
  have nr_a_q123 : a ≠ H121.size := Nat.ne_of_lt hR.lt
  replace hR := hR.kept (oH122 _ hR.lt)
  replace gq103 : G124 q103 = some 113 := by rw [eGG124]; exact gU_mono hNH122 _ _ gq103
  replace gq107 : G124 q107 = some 114 := by rw [eGG124]; exact gU_mono hNH122 _ _ gq107
  replace gq111 : G124 q111 = some 115 := by rw [eGG124]; exact gU_mono hNH122 _ _ gq111
  replace gq115 : G124 q115 = some 116 := by rw [eGG124]; exact gU_mono hNH122 _ _ gq115
  replace gq119 : G124 q119 = some 117 := by rw [eGG124]; exact gU_mono hNH122 _ _ gq119
  replace hn : G124 a = none := by rw [eGG124, gU_ne nr_a_q123]; exact hn
  replace hGo : ∀ q, q < s.heap.size → q ≠ a → G124 q = G q := fun q hq hqa => (show G124 q = G120 q by rw [eGG124, gU_ne (Nat.ne_of_lt (Nat.lt_of_lt_of_le hq hSH121.1))]).trans (hGo q hq hqa)
  have gq123 : G124 H121.size = some 118 := by rw [eGG124]; exact gU_at
  obtain ⟨q123, eq123⟩ : ∃ q, q = H121.size := ⟨_, rfl⟩
  have leq123 : s.heap.size ≤ q123 := by rw [eq123]; exact hSH121.1
  rw [← eq123] at gq123 nr_a_q123 vH122
  rw [← eq123]
  clear eq123
  clear hNH122 eGG124 oH122 zH122 hTH121
  have z9 : ZR H122 q123 := vH122
  clear vH122
  refine x_putR C hTH122 hSH122 (ci := 10) (k := 9) (v := .ref q123) (ty0 := tyX10) hR hn rfl inX10 tyX10_ok nmX10 (by decide) (Or.inr ⟨rfl, rfl, rfl⟩) wF_X10_29 (Nat.le_of_ble_eq_true rfl) rfl rfl (Or.inl rfl) dX10_init_59 (fun H125 locsH125 hR2 hTH125 hSH125 oH125 zH125 => ?_)
  clear hR
  have hR : RAW K H125 a 10 [.int 0, .int 0, .int 0, .int 10, .ref q103, .ref q107, .ref q111, .ref q115, .ref q119, .ref q123, .null, .null, .null, .null, .null, .null, .null, .null, .int 0, .int 0, .int 0, .int 0, .int 0, .null, .null, .null, .null, .null, .null, .null, .null, .null, .null, .null, .int 0, .int 0, .int 0, .null, .int 0, .int 0, .int 0, .int 0, .int 0, .null, .null, .null, .null, .null, .null, .null, .null, .null, .null, .null, .null, .null, .int 0, .null, .null, .int 0, .null, .null, .int 0, .null, .null, .int 0, .null, .null, .null, .null, .int 0, .int 0, .int 0, .null] := hR2
  clear hR2
  replace z9 := ZR.kept (oH125 _ (g_ne gq123 hn)) z9
  clear oH125 zH125 hTH122
  refine lv_aload_n hx hb dX10_init_62 rfl (lv_at hl 0 rfl) ?_
  refine lv_bipush (v := 10) hx hb dX10_init_63 (by decide) ?_
  refine x_newa C hTH125 hSH125 wAC_int rg_119 (by decide) rfl (by decide) ⟨by decide, by decide⟩ dX10_init_65 (fun H126 hTH126 hSH126 oH126 zH126 vH126 => ?_)
  have hNH126 : G124 H125.size = none := hTH125.gb _ (Nat.le_refl _)
  obtain ⟨G128, eGG128⟩ : ∃ g, g = gU G124 H125.size 119 := ⟨_, rfl⟩
  rw [← eGG128] at hTH126
  have nr_a_q127 : a ≠ H125.size := Nat.ne_of_lt hR.lt
  replace hR := hR.kept (oH126 _ hR.lt)
  replace z9 := ZR.kept (oH126 _ (hTH125.lt gq123)) z9
  replace gq103 : G128 q103 = some 113 := by rw [eGG128]; exact gU_mono hNH126 _ _ gq103
  replace gq107 : G128 q107 = some 114 := by rw [eGG128]; exact gU_mono hNH126 _ _ gq107
  replace gq111 : G128 q111 = some 115 := by rw [eGG128]; exact gU_mono hNH126 _ _ gq111
  replace gq115 : G128 q115 = some 116 := by rw [eGG128]; exact gU_mono hNH126 _ _ gq115
  replace gq119 : G128 q119 = some 117 := by rw [eGG128]; exact gU_mono hNH126 _ _ gq119
  replace gq123 : G128 q123 = some 118 := by rw [eGG128]; exact gU_mono hNH126 _ _ gq123
  replace hn : G128 a = none := by rw [eGG128, gU_ne nr_a_q127]; exact hn
  replace hGo : ∀ q, q < s.heap.size → q ≠ a → G128 q = G q := fun q hq hqa => (show G128 q = G124 q by rw [eGG128, gU_ne (Nat.ne_of_lt (Nat.lt_of_lt_of_le hq hSH125.1))]).trans (hGo q hq hqa)
  have gq127 : G128 H125.size = some 119 := by rw [eGG128]; exact gU_at
  obtain ⟨q127, eq127⟩ : ∃ q, q = H125.size := ⟨_, rfl⟩
  have leq127 : s.heap.size ≤ q127 := by rw [eq127]; exact hSH125.1
  rw [← eq127] at gq127 nr_a_q127 vH126
  rw [← eq127]
  clear eq127
  clear hNH126 eGG128 oH126 zH126 hTH125
  have z10 : ZR H126 q127 := vH126
  clear vH126
  refine x_putR C hTH126 hSH126 (ci := 10) (k := 10) (v := .ref q127) (ty0 := tyX10) hR hn rfl inX10 tyX10_ok nmX10 (by decide) (Or.inr ⟨rfl, rfl, rfl⟩) wF_X10_32 (Nat.le_of_ble_eq_true rfl) rfl rfl (Or.inl rfl) dX10_init_67 (fun H129 locsH129 hR2 hTH129 hSH129 oH129 zH129 => ?_)
  clear hR
  have hR : RAW K H129 a 10 [.int 0, .int 0, .int 0, .int 10, .ref q103, .ref q107, .ref q111, .ref q115, .ref q119, .ref q123, .ref q127, .null, .null, .null, .null, .null, .null, .null, .int 0, .int 0, .int 0, .int 0, .int 0, .null, .null, .null, .null, .null, .null, .null, .null, .null, .null, .null, .int 0, .int 0, .int 0, .null, .int 0, .int 0, .int 0, .int 0, .int 0, .null, .null, .null, .null, .null, .null, .null, .null, .null, .null, .null, .null, .null, .int 0, .null, .null, .int 0, .null, .null, .int 0, .null, .null, .int 0, .null, .null, .null, .null, .int 0, .int 0, .int 0, .null] := hR2
  clear hR2
  replace z9 := ZR.kept (oH129 _ (g_ne gq123 hn)) z9
  replace z10 := ZR.kept (oH129 _ (g_ne gq127 hn)) z10
  clear oH129 zH129 hTH126
  refine lv_aload_n hx hb dX10_init_70 rfl (lv_at hl 0 rfl) ?_
  refine lv_sipush (v := 2000) hx hb dX10_init_71 (by decide) ?_
  refine x_newa C hTH129 hSH129 wAC_int rg_120 (by decide) rfl (by decide) ⟨by decide, by decide⟩ dX10_init_74 (fun H130 hTH130 hSH130 oH130 zH130 vH130 => ?_)
  have hNH130 : G128 H129.size = none := hTH129.gb _ (Nat.le_refl _)
  obtain ⟨G132, eGG132⟩ : ∃ g, g = gU G128 H129.size 120 := ⟨_, rfl⟩
  rw [← eGG132] at hTH130
  have nr_a_q131 : a ≠ H129.size := Nat.ne_of_lt hR.lt
  replace hR := hR.kept (oH130 _ hR.lt)
  replace z9 := ZR.kept (oH130 _ (hTH129.lt gq123)) z9
  replace z10 := ZR.kept (oH130 _ (hTH129.lt gq127)) z10
  replace gq103 : G132 q103 = some 113 := by rw [eGG132]; exact gU_mono hNH130 _ _ gq103
  replace gq107 : G132 q107 = some 114 := by rw [eGG132]; exact gU_mono hNH130 _ _ gq107
  replace gq111 : G132 q111 = some 115 := by rw [eGG132]; exact gU_mono hNH130 _ _ gq111
  replace gq115 : G132 q115 = some 116 := by rw [eGG132]; exact gU_mono hNH130 _ _ gq115
  replace gq119 : G132 q119 = some 117 := by rw [eGG132]; exact gU_mono hNH130 _ _ gq119
  replace gq123 : G132 q123 = some 118 := by rw [eGG132]; exact gU_mono hNH130 _ _ gq123
  replace gq127 : G132 q127 = some 119 := by rw [eGG132]; exact gU_mono hNH130 _ _ gq127
  replace hn : G132 a = none := by rw [eGG132, gU_ne nr_a_q131]; exact hn
  replace hGo : ∀ q, q < s.heap.size → q ≠ a → G132 q = G q := fun q hq hqa => (show G132 q = G128 q by rw [eGG132, gU_ne (Nat.ne_of_lt (Nat.lt_of_lt_of_le hq hSH129.1))]).trans (hGo q hq hqa)
  have gq131 : G132 H129.size = some 120 := by rw [eGG132]; exact gU_at
  obtain ⟨q131, eq131⟩ : ∃ q, q = H129.size := ⟨_, rfl⟩
  have leq131 : s.heap.size ≤ q131 := by rw [eq131]; exact hSH129.1
  rw [← eq131] at gq131 nr_a_q131
  rw [← eq131]
  clear eq131
  clear hNH130 eGG132 oH130 zH130 vH130 hTH129
  refine x_putR C hTH130 hSH130 (ci := 10) (k := 11) (v := .ref q131) (ty0 := tyX10) hR hn rfl inX10 tyX10_ok nmX10 (by decide) (Or.inr ⟨rfl, rfl, rfl⟩) wF_X10_35 (Nat.le_of_ble_eq_true rfl) rfl rfl (Or.inl rfl) dX10_init_76 (fun H133 locsH133 hR2 hTH133 hSH133 oH133 zH133 => ?_)
  clear hR
  have hR : RAW K H133 a 10 [.int 0, .int 0, .int 0, .int 10, .ref q103, .ref q107, .ref q111, .ref q115, .ref q119, .ref q123, .ref q127, .ref q131, .null, .null, .null, .null, .null, .null, .int 0, .int 0, .int 0, .int 0, .int 0, .null, .null, .null, .null, .null, .null, .null, .null, .null, .null, .null, .int 0, .int 0, .int 0, .null, .int 0, .int 0, .int 0, .int 0, .int 0, .null, .null, .null, .null, .null, .null, .null, .null, .null, .null, .null, .null, .null, .int 0, .null, .null, .int 0, .null, .null, .int 0, .null, .null, .int 0, .null, .null, .null, .null, .int 0, .int 0, .int 0, .null] := hR2
  clear hR2
  replace z9 := ZR.kept (oH133 _ (g_ne gq123 hn)) z9
  replace z10 := ZR.kept (oH133 _ (g_ne gq127 hn)) z10
  clear oH133 zH133 hTH130
  refine lv_aload_n hx hb dX10_init_79 rfl (lv_at hl 0 rfl) ?_
  refine lv_sipush (v := 2000) hx hb dX10_init_80 (by decide) ?_
  refine x_newa C hTH133 hSH133 wAC_int rg_121 (by decide) rfl (by decide) ⟨by decide, by decide⟩ dX10_init_83 (fun H134 hTH134 hSH134 oH134 zH134 vH134 => ?_)
  have hNH134 : G132 H133.size = none := hTH133.gb _ (Nat.le_refl _)
  obtain ⟨G136, eGG136⟩ : ∃ g, g = gU G132 H133.size 121 := ⟨_, rfl⟩
  rw [← eGG136] at hTH134
  have nr_a_q135 : a ≠ H133.size := Nat.ne_of_lt hR.lt
  replace hR := hR.kept (oH134 _ hR.lt)
  replace z9 := ZR.kept (oH134 _ (hTH133.lt gq123)) z9
  replace z10 := ZR.kept (oH134 _ (hTH133.lt gq127)) z10
  replace gq103 : G136 q103 = some 113 := by rw [eGG136]; exact gU_mono hNH134 _ _ gq103
  replace gq107 : G136 q107 = some 114 := by rw [eGG136]; exact gU_mono hNH134 _ _ gq107
  replace gq111 : G136 q111 = some 115 := by rw [eGG136]; exact gU_mono hNH134 _ _ gq111
  replace gq115 : G136 q115 = some 116 := by rw [eGG136]; exact gU_mono hNH134 _ _ gq115
  replace gq119 : G136 q119 = some 117 := by rw [eGG136]; exact gU_mono hNH134 _ _ gq119
  replace gq123 : G136 q123 = some 118 := by rw [eGG136]; exact gU_mono hNH134 _ _ gq123
  replace gq127 : G136 q127 = some 119 := by rw [eGG136]; exact gU_mono hNH134 _ _ gq127
  replace gq131 : G136 q131 = some 120 := by rw [eGG136]; exact gU_mono hNH134 _ _ gq131
  replace hn : G136 a = none := by rw [eGG136, gU_ne nr_a_q135]; exact hn
  replace hGo : ∀ q, q < s.heap.size → q ≠ a → G136 q = G q := fun q hq hqa => (show G136 q = G132 q by rw [eGG136, gU_ne (Nat.ne_of_lt (Nat.lt_of_lt_of_le hq hSH133.1))]).trans (hGo q hq hqa)
  have gq135 : G136 H133.size = some 121 := by rw [eGG136]; exact gU_at
  obtain ⟨q135, eq135⟩ : ∃ q, q = H133.size := ⟨_, rfl⟩
  have leq135 : s.heap.size ≤ q135 := by rw [eq135]; exact hSH133.1
  rw [← eq135] at gq135 nr_a_q135
  rw [← eq135]
  clear eq135
  clear hNH134 eGG136 oH134 zH134 vH134 hTH133
  refine x_putR C hTH134 hSH134 (ci := 10) (k := 12) (v := .ref q135) (ty0 := tyX10) hR hn rfl inX10 tyX10_ok nmX10 (by decide) (Or.inr ⟨rfl, rfl, rfl⟩) wF_X10_38 (Nat.le_of_ble_eq_true rfl) rfl rfl (Or.inl rfl) dX10_init_85 (fun H137 locsH137 hR2 hTH137 hSH137 oH137 zH137 => ?_)
  clear hR
  have hR : RAW K H137 a 10 [.int 0, .int 0, .int 0, .int 10, .ref q103, .ref q107, .ref q111, .ref q115, .ref q119, .ref q123, .ref q127, .ref q131, .ref q135, .null, .null, .null, .null, .null, .int 0, .int 0, .int 0, .int 0, .int 0, .null, .null, .null, .null, .null, .null, .null, .null, .null, .null, .null, .int 0, .int 0, .int 0, .null, .int 0, .int 0, .int 0, .int 0, .int 0, .null, .null, .null, .null, .null, .null, .null, .null, .null, .null, .null, .null, .null, .int 0, .null, .null, .int 0, .null, .null, .int 0, .null, .null, .int 0, .null, .null, .null, .null, .int 0, .int 0, .int 0, .null] := hR2
  clear hR2
  replace z9 := ZR.kept (oH137 _ (g_ne gq123 hn)) z9
  replace z10 := ZR.kept (oH137 _ (g_ne gq127 hn)) z10
  clear oH137 zH137 hTH134
  refine lv_aload_n hx hb dX10_init_88 rfl (lv_at hl 0 rfl) ?_
  refine lv_bipush (v := 10) hx hb dX10_init_89 (by decide) ?_
  refine x_newa C hTH137 hSH137 wAC_int rg_122 (by decide) rfl (by decide) ⟨by decide, by decide⟩ dX10_init_91 (fun H138 hTH138 hSH138 oH138 zH138 vH138 => ?_)
  have hNH138 : G136 H137.size = none := hTH137.gb _ (Nat.le_refl _)
  obtain ⟨G140, eGG140⟩ : ∃ g, g = gU G136 H137.size 122 := ⟨_, rfl⟩
  rw [← eGG140] at hTH138
  have nr_a_q139 : a ≠ H137.size := Nat.ne_of_lt hR.lt
  replace hR := hR.kept (oH138 _ hR.lt)
  replace z9 := ZR.kept (oH138 _ (hTH137.lt gq123)) z9
  replace z10 := ZR.kept (oH138 _ (hTH137.lt gq127)) z10
  replace gq103 : G140 q103 = some 113 := by rw [eGG140]; exact gU_mono hNH138 _ _ gq103
  replace gq107 : G140 q107 = some 114 := by rw [eGG140]; exact gU_mono hNH138 _ _ gq107
  replace gq111 : G140 q111 = some 115 := by rw [eGG140]; exact gU_mono hNH138 _ _ gq111
  replace gq115 : G140 q115 = some 116 := by rw [eGG140]; exact gU_mono hNH138 _ _ gq115
  replace gq119 : G140 q119 = some 117 := by rw [eGG140]; exact gU_mono hNH138 _ _ gq119
  replace gq123 : G140 q123 = some 118 := by rw [eGG140]; exact gU_mono hNH138 _ _ gq123
  replace gq127 : G140 q127 = some 119 := by rw [eGG140]; exact gU_mono hNH138 _ _ gq127
  replace gq131 : G140 q131 = some 120 := by rw [eGG140]; exact gU_mono hNH138 _ _ gq131
  replace gq135 : G140 q135 = some 121 := by rw [eGG140]; exact gU_mono hNH138 _ _ gq135
  replace hn : G140 a = none := by rw [eGG140, gU_ne nr_a_q139]; exact hn
  replace hGo : ∀ q, q < s.heap.size → q ≠ a → G140 q = G q := fun q hq hqa => (show G140 q = G136 q by rw [eGG140, gU_ne (Nat.ne_of_lt (Nat.lt_of_lt_of_le hq hSH137.1))]).trans (hGo q hq hqa)
  have gq139 : G140 H137.size = some 122 := by rw [eGG140]; exact gU_at
  obtain ⟨q139, eq139⟩ : ∃ q, q = H137.size := ⟨_, rfl⟩
  have leq139 : s.heap.size ≤ q139 := by rw [eq139]; exact hSH137.1
  rw [← eq139] at gq139 nr_a_q139 vH138
  rw [← eq139]
  clear eq139
  clear hNH138 eGG140 oH138 zH138 hTH137
  have z13 : ZR H138 q139 := vH138
  clear vH138
  refine x_putR C hTH138 hSH138 (ci := 10) (k := 13) (v := .ref q139) (ty0 := tyX10) hR hn rfl inX10 tyX10_ok nmX10 (by decide) (Or.inr ⟨rfl, rfl, rfl⟩) wF_X10_41 (Nat.le_of_ble_eq_true rfl) rfl rfl (Or.inl rfl) dX10_init_93 (fun H141 locsH141 hR2 hTH141 hSH141 oH141 zH141 => ?_)
  clear hR
  have hR : RAW K H141 a 10 [.int 0, .int 0, .int 0, .int 10, .ref q103, .ref q107, .ref q111, .ref q115, .ref q119, .ref q123, .ref q127, .ref q131, .ref q135, .ref q139, .null, .null, .null, .null, .int 0, .int 0, .int 0, .int 0, .int 0, .null, .null, .null, .null, .null, .null, .null, .null, .null, .null, .null, .int 0, .int 0, .int 0, .null, .int 0, .int 0, .int 0, .int 0, .int 0, .null, .null, .null, .null, .null, .null, .null, .null, .null, .null, .null, .null, .null, .int 0, .null, .null, .int 0, .null, .null, .int 0, .null, .null, .int 0, .null, .null, .null, .null, .int 0, .int 0, .int 0, .null] := hR2
  clear hR2
  replace z9 := ZR.kept (oH141 _ (g_ne gq123 hn)) z9
  replace z10 := ZR.kept (oH141 _ (g_ne gq127 hn)) z10
  replace z13 := ZR.kept (oH141 _ (g_ne gq139 hn)) z13
  clear oH141 zH141 hTH138
  refine lv_aload_n hx hb dX10_init_96 rfl (lv_at hl 0 rfl) ?_
  refine lv_bipush (v := 10) hx hb dX10_init_97 (by decide) ?_
  refine x_newa C hTH141 hSH141 wAC_int rg_123 (by decide) rfl (by decide) ⟨by decide, by decide⟩ dX10_init_99 (fun H142 hTH142 hSH142 oH142 zH142 vH142 => ?_)
  have hNH142 : G140 H141.size = none := hTH141.gb _ (Nat.le_refl _)
  obtain ⟨G144, eGG144⟩ : ∃ g, g = gU G140 H141.size 123 := ⟨_, rfl⟩
  rw [← eGG144] at hTH142
  have nr_a_q143 : a ≠ H141.size := Nat.ne_of_lt hR.lt
  replace hR := hR.kept (oH142 _ hR.lt)
  replace z9 := ZR.kept (oH142 _ (hTH141.lt gq123)) z9
  replace z10 := ZR.kept (oH142 _ (hTH141.lt gq127)) z10
  replace z13 := ZR.kept (oH142 _ (hTH141.lt gq139)) z13
  replace gq103 : G144 q103 = some 113 := by rw [eGG144]; exact gU_mono hNH142 _ _ gq103
  replace gq107 : G144 q107 = some 114 := by rw [eGG144]; exact gU_mono hNH142 _ _ gq107
  replace gq111 : G144 q111 = some 115 := by rw [eGG144]; exact gU_mono hNH142 _ _ gq111
  replace gq115 : G144 q115 = some 116 := by rw [eGG144]; exact gU_mono hNH142 _ _ gq115
  replace gq119 : G144 q119 = some 117 := by rw [eGG144]; exact gU_mono hNH142 _ _ gq119
  replace gq123 : G144 q123 = some 118 := by rw [eGG144]; exact gU_mono hNH142 _ _ gq123
  replace gq127 : G144 q127 = some 119 := by rw [eGG144]; exact gU_mono hNH142 _ _ gq127
  replace gq131 : G144 q131 = some 120 := by rw [eGG144]; exact gU_mono hNH142 _ _ gq131
  replace gq135 : G144 q135 = some 121 := by rw [eGG144]; exact gU_mono hNH142 _ _ gq135
  replace gq139 : G144 q139 = some 122 := by rw [eGG144]; exact gU_mono hNH142 _ _ gq139
  replace hn : G144 a = none := by rw [eGG144, gU_ne nr_a_q143]; exact hn
  replace hGo : ∀ q, q < s.heap.size → q ≠ a → G144 q = G q := fun q hq hqa => (show G144 q = G140 q by rw [eGG144, gU_ne (Nat.ne_of_lt (Nat.lt_of_lt_of_le hq hSH141.1))]).trans (hGo q hq hqa)
  have gq143 : G144 H141.size = some 123 := by rw [eGG144]; exact gU_at
  obtain ⟨q143, eq143⟩ : ∃ q, q = H141.size := ⟨_, rfl⟩
  have leq143 : s.heap.size ≤ q143 := by rw [eq143]; exact hSH141.1
  rw [← eq143] at gq143 nr_a_q143
  rw [← eq143]
  clear eq143
  clear hNH142 eGG144 oH142 zH142 vH142 hTH141
  refine lv_dup hx hb dX10_init_101 rfl ?_
  refine lv_iconst (v := 0) hx hb dX10_init_102 (by decide) ?_
  refine lv_iconst (v := (-1)) hx hb dX10_init_103 (by decide) ?_
  refine x_iast C hTH142 hSH142 gq143 rg_123 (by decide) (by decide) (by decide) (Or.inr leq143) dX10_init_104 (fun H145 locsH145 hTH145 hSH145 wH145 => ?_)
  replace z9 := ZR.kept (wH145.off (G_ne gq123 gq143 (by decide))) z9
  replace z10 := ZR.kept (wH145.off (G_ne gq127 gq143 (by decide))) z10
  replace z13 := ZR.kept (wH145.off (G_ne gq139 gq143 (by decide))) z13
  replace hR := hR.kept (wH145.off (Ne.symm (g_ne gq143 hn)))
  clear hTH142
  clear wH145
  refine lv_dup hx hb dX10_init_105 rfl ?_
  refine lv_iconst (v := 1) hx hb dX10_init_106 (by decide) ?_
  refine lv_iconst (v := (-1)) hx hb dX10_init_107 (by decide) ?_
  refine x_iast C hTH145 hSH145 gq143 rg_123 (by decide) (by decide) (by decide) (Or.inr leq143) dX10_init_108 (fun H146 locsH146 hTH146 hSH146 wH146 => ?_)
  replace z9 := ZR.kept (wH146.off (G_ne gq123 gq143 (by decide))) z9
  replace z10 := ZR.kept (wH146.off (G_ne gq127 gq143 (by decide))) z10
  replace z13 := ZR.kept (wH146.off (G_ne gq139 gq143 (by decide))) z13
  replace hR := hR.kept (wH146.off (Ne.symm (g_ne gq143 hn)))
  clear hTH145
  clear wH146
  refine lv_dup hx hb dX10_init_109 rfl ?_
  refine lv_iconst (v := 2) hx hb dX10_init_110 (by decide) ?_
  refine lv_iconst (v := (-1)) hx hb dX10_init_111 (by decide) ?_
  refine x_iast C hTH146 hSH146 gq143 rg_123 (by decide) (by decide) (by decide) (Or.inr leq143) dX10_init_112 (fun H147 locsH147 hTH147 hSH147 wH147 => ?_)
  replace z9 := ZR.kept (wH147.off (G_ne gq123 gq143 (by decide))) z9
  replace z10 := ZR.kept (wH147.off (G_ne gq127 gq143 (by decide))) z10
  replace z13 := ZR.kept (wH147.off (G_ne gq139 gq143 (by decide))) z13
  replace hR := hR.kept (wH147.off (Ne.symm (g_ne gq143 hn)))
  clear hTH146
  clear wH147
  refine lv_dup hx hb dX10_init_113 rfl ?_
  refine lv_iconst (v := 3) hx hb dX10_init_114 (by decide) ?_
  refine lv_iconst (v := (-1)) hx hb dX10_init_115 (by decide) ?_
  refine x_iast C hTH147 hSH147 gq143 rg_123 (by decide) (by decide) (by decide) (Or.inr leq143) dX10_init_116 (fun H148 locsH148 hTH148 hSH148 wH148 => ?_)
  replace z9 := ZR.kept (wH148.off (G_ne gq123 gq143 (by decide))) z9
  replace z10 := ZR.kept (wH148.off (G_ne gq127 gq143 (by decide))) z10
  replace z13 := ZR.kept (wH148.off (G_ne gq139 gq143 (by decide))) z13
  replace hR := hR.kept (wH148.off (Ne.symm (g_ne gq143 hn)))
  clear hTH147
  clear wH148
  refine lv_dup hx hb dX10_init_117 rfl ?_
  refine lv_iconst (v := 4) hx hb dX10_init_118 (by decide) ?_
  refine lv_iconst (v := (-1)) hx hb dX10_init_119 (by decide) ?_
  refine x_iast C hTH148 hSH148 gq143 rg_123 (by decide) (by decide) (by decide) (Or.inr leq143) dX10_init_120 (fun H149 locsH149 hTH149 hSH149 wH149 => ?_)
  replace z9 := ZR.kept (wH149.off (G_ne gq123 gq143 (by decide))) z9
  replace z10 := ZR.kept (wH149.off (G_ne gq127 gq143 (by decide))) z10
  replace z13 := ZR.kept (wH149.off (G_ne gq139 gq143 (by decide))) z13
  replace hR := hR.kept (wH149.off (Ne.symm (g_ne gq143 hn)))
  clear hTH148
  clear wH149
  refine lv_dup hx hb dX10_init_121 rfl ?_
  refine lv_iconst (v := 5) hx hb dX10_init_122 (by decide) ?_
  refine lv_iconst (v := (-1)) hx hb dX10_init_123 (by decide) ?_
  refine x_iast C hTH149 hSH149 gq143 rg_123 (by decide) (by decide) (by decide) (Or.inr leq143) dX10_init_124 (fun H150 locsH150 hTH150 hSH150 wH150 => ?_)
  replace z9 := ZR.kept (wH150.off (G_ne gq123 gq143 (by decide))) z9
  replace z10 := ZR.kept (wH150.off (G_ne gq127 gq143 (by decide))) z10
  replace z13 := ZR.kept (wH150.off (G_ne gq139 gq143 (by decide))) z13
  replace hR := hR.kept (wH150.off (Ne.symm (g_ne gq143 hn)))
  clear hTH149
  clear wH150
  refine lv_dup hx hb dX10_init_125 rfl ?_
  refine lv_bipush (v := 6) hx hb dX10_init_126 (by decide) ?_
  refine lv_iconst (v := (-1)) hx hb dX10_init_128 (by decide) ?_
  refine x_iast C hTH150 hSH150 gq143 rg_123 (by decide) (by decide) (by decide) (Or.inr leq143) dX10_init_129 (fun H151 locsH151 hTH151 hSH151 wH151 => ?_)
  replace z9 := ZR.kept (wH151.off (G_ne gq123 gq143 (by decide))) z9
  replace z10 := ZR.kept (wH151.off (G_ne gq127 gq143 (by decide))) z10
  replace z13 := ZR.kept (wH151.off (G_ne gq139 gq143 (by decide))) z13
  replace hR := hR.kept (wH151.off (Ne.symm (g_ne gq143 hn)))
  clear hTH150
  clear wH151
  refine lv_dup hx hb dX10_init_130 rfl ?_
  refine lv_bipush (v := 7) hx hb dX10_init_131 (by decide) ?_
  refine lv_iconst (v := (-1)) hx hb dX10_init_133 (by decide) ?_
  refine x_iast C hTH151 hSH151 gq143 rg_123 (by decide) (by decide) (by decide) (Or.inr leq143) dX10_init_134 (fun H152 locsH152 hTH152 hSH152 wH152 => ?_)
  replace z9 := ZR.kept (wH152.off (G_ne gq123 gq143 (by decide))) z9
  replace z10 := ZR.kept (wH152.off (G_ne gq127 gq143 (by decide))) z10
  replace z13 := ZR.kept (wH152.off (G_ne gq139 gq143 (by decide))) z13
  replace hR := hR.kept (wH152.off (Ne.symm (g_ne gq143 hn)))
  clear hTH151
  clear wH152
  refine lv_dup hx hb dX10_init_135 rfl ?_
  refine lv_bipush (v := 8) hx hb dX10_init_136 (by decide) ?_
  refine lv_iconst (v := (-1)) hx hb dX10_init_138 (by decide) ?_
  refine x_iast C hTH152 hSH152 gq143 rg_123 (by decide) (by decide) (by decide) (Or.inr leq143) dX10_init_139 (fun H153 locsH153 hTH153 hSH153 wH153 => ?_)
  replace z9 := ZR.kept (wH153.off (G_ne gq123 gq143 (by decide))) z9
  replace z10 := ZR.kept (wH153.off (G_ne gq127 gq143 (by decide))) z10
  replace z13 := ZR.kept (wH153.off (G_ne gq139 gq143 (by decide))) z13
  replace hR := hR.kept (wH153.off (Ne.symm (g_ne gq143 hn)))
  clear hTH152
  clear wH153
  refine lv_dup hx hb dX10_init_140 rfl ?_
  refine lv_bipush (v := 9) hx hb dX10_init_141 (by decide) ?_
  refine lv_iconst (v := (-1)) hx hb dX10_init_143 (by decide) ?_
  refine x_iast C hTH153 hSH153 gq143 rg_123 (by decide) (by decide) (by decide) (Or.inr leq143) dX10_init_144 (fun H154 locsH154 hTH154 hSH154 wH154 => ?_)
  replace z9 := ZR.kept (wH154.off (G_ne gq123 gq143 (by decide))) z9
  replace z10 := ZR.kept (wH154.off (G_ne gq127 gq143 (by decide))) z10
  replace z13 := ZR.kept (wH154.off (G_ne gq139 gq143 (by decide))) z13
  replace hR := hR.kept (wH154.off (Ne.symm (g_ne gq143 hn)))
  clear hTH153
  clear wH154
  refine x_putR C hTH154 hSH154 (ci := 10) (k := 14) (v := .ref q143) (ty0 := tyX10) hR hn rfl inX10 tyX10_ok nmX10 (by decide) (Or.inr ⟨rfl, rfl, rfl⟩) wF_X10_44 (Nat.le_of_ble_eq_true rfl) rfl rfl (Or.inl rfl) dX10_init_145 (fun H155 locsH155 hR2 hTH155 hSH155 oH155 zH155 => ?_)
  clear hR
  have hR : RAW K H155 a 10 [.int 0, .int 0, .int 0, .int 10, .ref q103, .ref q107, .ref q111, .ref q115, .ref q119, .ref q123, .ref q127, .ref q131, .ref q135, .ref q139, .ref q143, .null, .null, .null, .int 0, .int 0, .int 0, .int 0, .int 0, .null, .null, .null, .null, .null, .null, .null, .null, .null, .null, .null, .int 0, .int 0, .int 0, .null, .int 0, .int 0, .int 0, .int 0, .int 0, .null, .null, .null, .null, .null, .null, .null, .null, .null, .null, .null, .null, .null, .int 0, .null, .null, .int 0, .null, .null, .int 0, .null, .null, .int 0, .null, .null, .null, .null, .int 0, .int 0, .int 0, .null] := hR2
  clear hR2
  replace z9 := ZR.kept (oH155 _ (g_ne gq123 hn)) z9
  replace z10 := ZR.kept (oH155 _ (g_ne gq127 hn)) z10
  replace z13 := ZR.kept (oH155 _ (g_ne gq139 hn)) z13
  clear oH155 zH155 hTH154
  refine lv_aload_n hx hb dX10_init_148 rfl (lv_at hl 0 rfl) ?_
  refine lv_bipush (v := 10) hx hb dX10_init_149 (by decide) ?_
  refine x_newa C hTH155 hSH155 wAC_int rg_124 (by decide) rfl (by decide) ⟨by decide, by decide⟩ dX10_init_151 (fun H156 hTH156 hSH156 oH156 zH156 vH156 => ?_)
  have hNH156 : G144 H155.size = none := hTH155.gb _ (Nat.le_refl _)
  obtain ⟨G158, eGG158⟩ : ∃ g, g = gU G144 H155.size 124 := ⟨_, rfl⟩
  rw [← eGG158] at hTH156
  have nr_a_q157 : a ≠ H155.size := Nat.ne_of_lt hR.lt
  replace hR := hR.kept (oH156 _ hR.lt)
  replace z9 := ZR.kept (oH156 _ (hTH155.lt gq123)) z9
  replace z10 := ZR.kept (oH156 _ (hTH155.lt gq127)) z10
  replace z13 := ZR.kept (oH156 _ (hTH155.lt gq139)) z13
  replace gq103 : G158 q103 = some 113 := by rw [eGG158]; exact gU_mono hNH156 _ _ gq103
  replace gq107 : G158 q107 = some 114 := by rw [eGG158]; exact gU_mono hNH156 _ _ gq107
  replace gq111 : G158 q111 = some 115 := by rw [eGG158]; exact gU_mono hNH156 _ _ gq111
  replace gq115 : G158 q115 = some 116 := by rw [eGG158]; exact gU_mono hNH156 _ _ gq115
  replace gq119 : G158 q119 = some 117 := by rw [eGG158]; exact gU_mono hNH156 _ _ gq119
  replace gq123 : G158 q123 = some 118 := by rw [eGG158]; exact gU_mono hNH156 _ _ gq123
  replace gq127 : G158 q127 = some 119 := by rw [eGG158]; exact gU_mono hNH156 _ _ gq127
  replace gq131 : G158 q131 = some 120 := by rw [eGG158]; exact gU_mono hNH156 _ _ gq131
  replace gq135 : G158 q135 = some 121 := by rw [eGG158]; exact gU_mono hNH156 _ _ gq135
  replace gq139 : G158 q139 = some 122 := by rw [eGG158]; exact gU_mono hNH156 _ _ gq139
  replace gq143 : G158 q143 = some 123 := by rw [eGG158]; exact gU_mono hNH156 _ _ gq143
  replace hn : G158 a = none := by rw [eGG158, gU_ne nr_a_q157]; exact hn
  replace hGo : ∀ q, q < s.heap.size → q ≠ a → G158 q = G q := fun q hq hqa => (show G158 q = G144 q by rw [eGG158, gU_ne (Nat.ne_of_lt (Nat.lt_of_lt_of_le hq hSH155.1))]).trans (hGo q hq hqa)
  have gq157 : G158 H155.size = some 124 := by rw [eGG158]; exact gU_at
  obtain ⟨q157, eq157⟩ : ∃ q, q = H155.size := ⟨_, rfl⟩
  have leq157 : s.heap.size ≤ q157 := by rw [eq157]; exact hSH155.1
  rw [← eq157] at gq157 nr_a_q157
  rw [← eq157]
  clear eq157
  clear hNH156 eGG158 oH156 zH156 vH156 hTH155
  refine x_putR C hTH156 hSH156 (ci := 10) (k := 15) (v := .ref q157) (ty0 := tyX10) hR hn rfl inX10 tyX10_ok nmX10 (by decide) (Or.inr ⟨rfl, rfl, rfl⟩) wF_X10_47 (Nat.le_of_ble_eq_true rfl) rfl rfl (Or.inl rfl) dX10_init_153 (fun H159 locsH159 hR2 hTH159 hSH159 oH159 zH159 => ?_)
  clear hR
  have hR : RAW K H159 a 10 [.int 0, .int 0, .int 0, .int 10, .ref q103, .ref q107, .ref q111, .ref q115, .ref q119, .ref q123, .ref q127, .ref q131, .ref q135, .ref q139, .ref q143, .ref q157, .null, .null, .int 0, .int 0, .int 0, .int 0, .int 0, .null, .null, .null, .null, .null, .null, .null, .null, .null, .null, .null, .int 0, .int 0, .int 0, .null, .int 0, .int 0, .int 0, .int 0, .int 0, .null, .null, .null, .null, .null, .null, .null, .null, .null, .null, .null, .null, .null, .int 0, .null, .null, .int 0, .null, .null, .int 0, .null, .null, .int 0, .null, .null, .null, .null, .int 0, .int 0, .int 0, .null] := hR2
  clear hR2
  replace z9 := ZR.kept (oH159 _ (g_ne gq123 hn)) z9
  replace z10 := ZR.kept (oH159 _ (g_ne gq127 hn)) z10
  replace z13 := ZR.kept (oH159 _ (g_ne gq139 hn)) z13
  clear oH159 zH159 hTH156
  refine lv_aload_n hx hb dX10_init_156 rfl (lv_at hl 0 rfl) ?_
  refine lv_bipush (v := 20) hx hb dX10_init_157 (by decide) ?_
  refine x_newa C hTH159 hSH159 wAC_int rg_125 (by decide) rfl (by decide) ⟨by decide, by decide⟩ dX10_init_159 (fun H160 hTH160 hSH160 oH160 zH160 vH160 => ?_)
  have hNH160 : G158 H159.size = none := hTH159.gb _ (Nat.le_refl _)
  obtain ⟨G162, eGG162⟩ : ∃ g, g = gU G158 H159.size 125 := ⟨_, rfl⟩
  rw [← eGG162] at hTH160
  have nr_a_q161 : a ≠ H159.size := Nat.ne_of_lt hR.lt
  replace hR := hR.kept (oH160 _ hR.lt)
  replace z9 := ZR.kept (oH160 _ (hTH159.lt gq123)) z9
  replace z10 := ZR.kept (oH160 _ (hTH159.lt gq127)) z10
  replace z13 := ZR.kept (oH160 _ (hTH159.lt gq139)) z13
  replace gq103 : G162 q103 = some 113 := by rw [eGG162]; exact gU_mono hNH160 _ _ gq103
  replace gq107 : G162 q107 = some 114 := by rw [eGG162]; exact gU_mono hNH160 _ _ gq107
  replace gq111 : G162 q111 = some 115 := by rw [eGG162]; exact gU_mono hNH160 _ _ gq111
  replace gq115 : G162 q115 = some 116 := by rw [eGG162]; exact gU_mono hNH160 _ _ gq115
  replace gq119 : G162 q119 = some 117 := by rw [eGG162]; exact gU_mono hNH160 _ _ gq119
  replace gq123 : G162 q123 = some 118 := by rw [eGG162]; exact gU_mono hNH160 _ _ gq123
  replace gq127 : G162 q127 = some 119 := by rw [eGG162]; exact gU_mono hNH160 _ _ gq127
  replace gq131 : G162 q131 = some 120 := by rw [eGG162]; exact gU_mono hNH160 _ _ gq131
  replace gq135 : G162 q135 = some 121 := by rw [eGG162]; exact gU_mono hNH160 _ _ gq135
  replace gq139 : G162 q139 = some 122 := by rw [eGG162]; exact gU_mono hNH160 _ _ gq139
  replace gq143 : G162 q143 = some 123 := by rw [eGG162]; exact gU_mono hNH160 _ _ gq143
  replace gq157 : G162 q157 = some 124 := by rw [eGG162]; exact gU_mono hNH160 _ _ gq157
  replace hn : G162 a = none := by rw [eGG162, gU_ne nr_a_q161]; exact hn
  replace hGo : ∀ q, q < s.heap.size → q ≠ a → G162 q = G q := fun q hq hqa => (show G162 q = G158 q by rw [eGG162, gU_ne (Nat.ne_of_lt (Nat.lt_of_lt_of_le hq hSH159.1))]).trans (hGo q hq hqa)
  have gq161 : G162 H159.size = some 125 := by rw [eGG162]; exact gU_at
  obtain ⟨q161, eq161⟩ : ∃ q, q = H159.size := ⟨_, rfl⟩
  have leq161 : s.heap.size ≤ q161 := by rw [eq161]; exact hSH159.1
  rw [← eq161] at gq161 nr_a_q161
  rw [← eq161]
  clear eq161
  clear hNH160 eGG162 oH160 zH160 vH160 hTH159
  refine x_putR C hTH160 hSH160 (ci := 10) (k := 16) (v := .ref q161) (ty0 := tyX10) hR hn rfl inX10 tyX10_ok nmX10 (by decide) (Or.inr ⟨rfl, rfl, rfl⟩) wF_X10_50 (Nat.le_of_ble_eq_true rfl) rfl rfl (Or.inl rfl) dX10_init_161 (fun H163 locsH163 hR2 hTH163 hSH163 oH163 zH163 => ?_)
  clear hR
  have hR : RAW K H163 a 10 [.int 0, .int 0, .int 0, .int 10, .ref q103, .ref q107, .ref q111, .ref q115, .ref q119, .ref q123, .ref q127, .ref q131, .ref q135, .ref q139, .ref q143, .ref q157, .ref q161, .null, .int 0, .int 0, .int 0, .int 0, .int 0, .null, .null, .null, .null, .null, .null, .null, .null, .null, .null, .null, .int 0, .int 0, .int 0, .null, .int 0, .int 0, .int 0, .int 0, .int 0, .null, .null, .null, .null, .null, .null, .null, .null, .null, .null, .null, .null, .null, .int 0, .null, .null, .int 0, .null, .null, .int 0, .null, .null, .int 0, .null, .null, .null, .null, .int 0, .int 0, .int 0, .null] := hR2
  clear hR2
  replace z9 := ZR.kept (oH163 _ (g_ne gq123 hn)) z9
  replace z10 := ZR.kept (oH163 _ (g_ne gq127 hn)) z10
  replace z13 := ZR.kept (oH163 _ (g_ne gq139 hn)) z13
  clear oH163 zH163 hTH160
  refine lv_aload_n hx hb dX10_init_164 rfl (lv_at hl 0 rfl) ?_
  refine lv_sipush (v := 500) hx hb dX10_init_165 (by decide) ?_
  refine x_newa C hTH163 hSH163 wAC_int rg_126 (by decide) rfl (by decide) ⟨by decide, by decide⟩ dX10_init_168 (fun H164 hTH164 hSH164 oH164 zH164 vH164 => ?_)
  have hNH164 : G162 H163.size = none := hTH163.gb _ (Nat.le_refl _)
  obtain ⟨G166, eGG166⟩ : ∃ g, g = gU G162 H163.size 126 := ⟨_, rfl⟩
  rw [← eGG166] at hTH164
  have nr_a_q165 : a ≠ H163.size := Nat.ne_of_lt hR.lt
  replace hR := hR.kept (oH164 _ hR.lt)
  replace z9 := ZR.kept (oH164 _ (hTH163.lt gq123)) z9
  replace z10 := ZR.kept (oH164 _ (hTH163.lt gq127)) z10
  replace z13 := ZR.kept (oH164 _ (hTH163.lt gq139)) z13
  replace gq103 : G166 q103 = some 113 := by rw [eGG166]; exact gU_mono hNH164 _ _ gq103
  replace gq107 : G166 q107 = some 114 := by rw [eGG166]; exact gU_mono hNH164 _ _ gq107
  replace gq111 : G166 q111 = some 115 := by rw [eGG166]; exact gU_mono hNH164 _ _ gq111
  replace gq115 : G166 q115 = some 116 := by rw [eGG166]; exact gU_mono hNH164 _ _ gq115
  replace gq119 : G166 q119 = some 117 := by rw [eGG166]; exact gU_mono hNH164 _ _ gq119
  replace gq123 : G166 q123 = some 118 := by rw [eGG166]; exact gU_mono hNH164 _ _ gq123
  replace gq127 : G166 q127 = some 119 := by rw [eGG166]; exact gU_mono hNH164 _ _ gq127
  replace gq131 : G166 q131 = some 120 := by rw [eGG166]; exact gU_mono hNH164 _ _ gq131
  replace gq135 : G166 q135 = some 121 := by rw [eGG166]; exact gU_mono hNH164 _ _ gq135
  replace gq139 : G166 q139 = some 122 := by rw [eGG166]; exact gU_mono hNH164 _ _ gq139
  replace gq143 : G166 q143 = some 123 := by rw [eGG166]; exact gU_mono hNH164 _ _ gq143
  replace gq157 : G166 q157 = some 124 := by rw [eGG166]; exact gU_mono hNH164 _ _ gq157
  replace gq161 : G166 q161 = some 125 := by rw [eGG166]; exact gU_mono hNH164 _ _ gq161
  replace hn : G166 a = none := by rw [eGG166, gU_ne nr_a_q165]; exact hn
  replace hGo : ∀ q, q < s.heap.size → q ≠ a → G166 q = G q := fun q hq hqa => (show G166 q = G162 q by rw [eGG166, gU_ne (Nat.ne_of_lt (Nat.lt_of_lt_of_le hq hSH163.1))]).trans (hGo q hq hqa)
  have gq165 : G166 H163.size = some 126 := by rw [eGG166]; exact gU_at
  obtain ⟨q165, eq165⟩ : ∃ q, q = H163.size := ⟨_, rfl⟩
  have leq165 : s.heap.size ≤ q165 := by rw [eq165]; exact hSH163.1
  rw [← eq165] at gq165 nr_a_q165
  rw [← eq165]
  clear eq165
  clear hNH164 eGG166 oH164 zH164 vH164 hTH163
  refine x_putR C hTH164 hSH164 (ci := 10) (k := 17) (v := .ref q165) (ty0 := tyX10) hR hn rfl inX10 tyX10_ok nmX10 (by decide) (Or.inr ⟨rfl, rfl, rfl⟩) wF_X10_53 (Nat.le_of_ble_eq_true rfl) rfl rfl (Or.inl rfl) dX10_init_170 (fun H167 locsH167 hR2 hTH167 hSH167 oH167 zH167 => ?_)
  clear hR
  have hR : RAW K H167 a 10 [.int 0, .int 0, .int 0, .int 10, .ref q103, .ref q107, .ref q111, .ref q115, .ref q119, .ref q123, .ref q127, .ref q131, .ref q135, .ref q139, .ref q143, .ref q157, .ref q161, .ref q165, .int 0, .int 0, .int 0, .int 0, .int 0, .null, .null, .null, .null, .null, .null, .null, .null, .null, .null, .null, .int 0, .int 0, .int 0, .null, .int 0, .int 0, .int 0, .int 0, .int 0, .null, .null, .null, .null, .null, .null, .null, .null, .null, .null, .null, .null, .null, .int 0, .null, .null, .int 0, .null, .null, .int 0, .null, .null, .int 0, .null, .null, .null, .null, .int 0, .int 0, .int 0, .null] := hR2
  clear hR2
  replace z9 := ZR.kept (oH167 _ (g_ne gq123 hn)) z9
  replace z10 := ZR.kept (oH167 _ (g_ne gq127 hn)) z10
  replace z13 := ZR.kept (oH167 _ (g_ne gq139 hn)) z13
  clear oH167 zH167 hTH164
  refine lv_aload_n hx hb dX10_init_173 rfl (lv_at hl 0 rfl) ?_
  refine lv_bipush (v := 115) hx hb dX10_init_174 (by decide) ?_
  refine x_newa C hTH167 hSH167 wAC_int rg_127 (by decide) rfl (by decide) ⟨by decide, by decide⟩ dX10_init_176 (fun H168 hTH168 hSH168 oH168 zH168 vH168 => ?_)
  have hNH168 : G166 H167.size = none := hTH167.gb _ (Nat.le_refl _)
  obtain ⟨G170, eGG170⟩ : ∃ g, g = gU G166 H167.size 127 := ⟨_, rfl⟩
  rw [← eGG170] at hTH168
  have nr_a_q169 : a ≠ H167.size := Nat.ne_of_lt hR.lt
  replace hR := hR.kept (oH168 _ hR.lt)
  replace z9 := ZR.kept (oH168 _ (hTH167.lt gq123)) z9
  replace z10 := ZR.kept (oH168 _ (hTH167.lt gq127)) z10
  replace z13 := ZR.kept (oH168 _ (hTH167.lt gq139)) z13
  replace gq103 : G170 q103 = some 113 := by rw [eGG170]; exact gU_mono hNH168 _ _ gq103
  replace gq107 : G170 q107 = some 114 := by rw [eGG170]; exact gU_mono hNH168 _ _ gq107
  replace gq111 : G170 q111 = some 115 := by rw [eGG170]; exact gU_mono hNH168 _ _ gq111
  replace gq115 : G170 q115 = some 116 := by rw [eGG170]; exact gU_mono hNH168 _ _ gq115
  replace gq119 : G170 q119 = some 117 := by rw [eGG170]; exact gU_mono hNH168 _ _ gq119
  replace gq123 : G170 q123 = some 118 := by rw [eGG170]; exact gU_mono hNH168 _ _ gq123
  replace gq127 : G170 q127 = some 119 := by rw [eGG170]; exact gU_mono hNH168 _ _ gq127
  replace gq131 : G170 q131 = some 120 := by rw [eGG170]; exact gU_mono hNH168 _ _ gq131
  replace gq135 : G170 q135 = some 121 := by rw [eGG170]; exact gU_mono hNH168 _ _ gq135
  replace gq139 : G170 q139 = some 122 := by rw [eGG170]; exact gU_mono hNH168 _ _ gq139
  replace gq143 : G170 q143 = some 123 := by rw [eGG170]; exact gU_mono hNH168 _ _ gq143
  replace gq157 : G170 q157 = some 124 := by rw [eGG170]; exact gU_mono hNH168 _ _ gq157
  replace gq161 : G170 q161 = some 125 := by rw [eGG170]; exact gU_mono hNH168 _ _ gq161
  replace gq165 : G170 q165 = some 126 := by rw [eGG170]; exact gU_mono hNH168 _ _ gq165
  replace hn : G170 a = none := by rw [eGG170, gU_ne nr_a_q169]; exact hn
  replace hGo : ∀ q, q < s.heap.size → q ≠ a → G170 q = G q := fun q hq hqa => (show G170 q = G166 q by rw [eGG170, gU_ne (Nat.ne_of_lt (Nat.lt_of_lt_of_le hq hSH167.1))]).trans (hGo q hq hqa)
  have gq169 : G170 H167.size = some 127 := by rw [eGG170]; exact gU_at
  obtain ⟨q169, eq169⟩ : ∃ q, q = H167.size := ⟨_, rfl⟩
  have leq169 : s.heap.size ≤ q169 := by rw [eq169]; exact hSH167.1
  rw [← eq169] at gq169 nr_a_q169 vH168
  rw [← eq169]
  clear eq169
  clear hNH168 eGG170 oH168 zH168 hTH167
  have w23 : WDN H168 q169 0 := WDN.nil
  clear vH168
  refine lv_dup hx hb dX10_init_178 rfl ?_
  refine lv_iconst (v := 0) hx hb dX10_init_179 (by decide) ?_
  refine lv_bipush (v := 32) hx hb dX10_init_180 (by decide) ?_
  refine x_iast C hTH168 hSH168 gq169 rg_127 (by decide) (by decide) (by decide) (Or.inr leq169) dX10_init_182 (fun H171 locsH171 hTH171 hSH171 wH171 => ?_)
  replace z9 := ZR.kept (wH171.off (G_ne gq123 gq169 (by decide))) z9
  replace z10 := ZR.kept (wH171.off (G_ne gq127 gq169 (by decide))) z10
  replace z13 := ZR.kept (wH171.off (G_ne gq139 gq169 (by decide))) z13
  replace w23 : WDN H171 q169 1 := WDN.put w23 wH171 rfl (by decide)
  replace hR := hR.kept (wH171.off (Ne.symm (g_ne gq169 hn)))
  clear hTH168
  clear wH171
  refine lv_dup hx hb dX10_init_183 rfl ?_
  refine lv_iconst (v := 1) hx hb dX10_init_184 (by decide) ?_
  refine lv_bipush (v := 98) hx hb dX10_init_185 (by decide) ?_
  refine x_iast C hTH171 hSH171 gq169 rg_127 (by decide) (by decide) (by decide) (Or.inr leq169) dX10_init_187 (fun H172 locsH172 hTH172 hSH172 wH172 => ?_)
  replace z9 := ZR.kept (wH172.off (G_ne gq123 gq169 (by decide))) z9
  replace z10 := ZR.kept (wH172.off (G_ne gq127 gq169 (by decide))) z10
  replace z13 := ZR.kept (wH172.off (G_ne gq139 gq169 (by decide))) z13
  replace w23 : WDN H172 q169 2 := WDN.put w23 wH172 rfl (by decide)
  replace hR := hR.kept (wH172.off (Ne.symm (g_ne gq169 hn)))
  clear hTH171
  clear wH172
  refine lv_dup hx hb dX10_init_188 rfl ?_
  refine lv_iconst (v := 2) hx hb dX10_init_189 (by decide) ?_
  refine lv_bipush (v := 101) hx hb dX10_init_190 (by decide) ?_
  refine x_iast C hTH172 hSH172 gq169 rg_127 (by decide) (by decide) (by decide) (Or.inr leq169) dX10_init_192 (fun H173 locsH173 hTH173 hSH173 wH173 => ?_)
  replace z9 := ZR.kept (wH173.off (G_ne gq123 gq169 (by decide))) z9
  replace z10 := ZR.kept (wH173.off (G_ne gq127 gq169 (by decide))) z10
  replace z13 := ZR.kept (wH173.off (G_ne gq139 gq169 (by decide))) z13
  replace w23 : WDN H173 q169 3 := WDN.put w23 wH173 rfl (by decide)
  replace hR := hR.kept (wH173.off (Ne.symm (g_ne gq169 hn)))
  clear hTH172
  clear wH173
  refine lv_dup hx hb dX10_init_193 rfl ?_
  refine lv_iconst (v := 3) hx hb dX10_init_194 (by decide) ?_
  refine lv_bipush (v := 110) hx hb dX10_init_195 (by decide) ?_
  refine x_iast C hTH173 hSH173 gq169 rg_127 (by decide) (by decide) (by decide) (Or.inr leq169) dX10_init_197 (fun H174 locsH174 hTH174 hSH174 wH174 => ?_)
  replace z9 := ZR.kept (wH174.off (G_ne gq123 gq169 (by decide))) z9
  replace z10 := ZR.kept (wH174.off (G_ne gq127 gq169 (by decide))) z10
  replace z13 := ZR.kept (wH174.off (G_ne gq139 gq169 (by decide))) z13
  replace w23 : WDN H174 q169 4 := WDN.put w23 wH174 rfl (by decide)
  replace hR := hR.kept (wH174.off (Ne.symm (g_ne gq169 hn)))
  clear hTH173
  clear wH174
  refine lv_dup hx hb dX10_init_198 rfl ?_
  refine lv_iconst (v := 4) hx hb dX10_init_199 (by decide) ?_
  refine lv_bipush (v := 100) hx hb dX10_init_200 (by decide) ?_
  refine x_iast C hTH174 hSH174 gq169 rg_127 (by decide) (by decide) (by decide) (Or.inr leq169) dX10_init_202 (fun H175 locsH175 hTH175 hSH175 wH175 => ?_)
  replace z9 := ZR.kept (wH175.off (G_ne gq123 gq169 (by decide))) z9
  replace z10 := ZR.kept (wH175.off (G_ne gq127 gq169 (by decide))) z10
  replace z13 := ZR.kept (wH175.off (G_ne gq139 gq169 (by decide))) z13
  replace w23 : WDN H175 q169 5 := WDN.put w23 wH175 rfl (by decide)
  replace hR := hR.kept (wH175.off (Ne.symm (g_ne gq169 hn)))
  clear hTH174
  clear wH175
  refine lv_dup hx hb dX10_init_203 rfl ?_
  refine lv_iconst (v := 5) hx hb dX10_init_204 (by decide) ?_
  refine lv_bipush (v := 32) hx hb dX10_init_205 (by decide) ?_
  refine x_iast C hTH175 hSH175 gq169 rg_127 (by decide) (by decide) (by decide) (Or.inr leq169) dX10_init_207 (fun H176 locsH176 hTH176 hSH176 wH176 => ?_)
  replace z9 := ZR.kept (wH176.off (G_ne gq123 gq169 (by decide))) z9
  replace z10 := ZR.kept (wH176.off (G_ne gq127 gq169 (by decide))) z10
  replace z13 := ZR.kept (wH176.off (G_ne gq139 gq169 (by decide))) z13
  replace w23 : WDN H176 q169 6 := WDN.put w23 wH176 rfl (by decide)
  replace hR := hR.kept (wH176.off (Ne.symm (g_ne gq169 hn)))
  clear hTH175
  clear wH176
  refine lv_dup hx hb dX10_init_208 rfl ?_
  refine lv_bipush (v := 6) hx hb dX10_init_209 (by decide) ?_
  refine lv_bipush (v := 109) hx hb dX10_init_211 (by decide) ?_
  refine x_iast C hTH176 hSH176 gq169 rg_127 (by decide) (by decide) (by decide) (Or.inr leq169) dX10_init_213 (fun H177 locsH177 hTH177 hSH177 wH177 => ?_)
  replace z9 := ZR.kept (wH177.off (G_ne gq123 gq169 (by decide))) z9
  replace z10 := ZR.kept (wH177.off (G_ne gq127 gq169 (by decide))) z10
  replace z13 := ZR.kept (wH177.off (G_ne gq139 gq169 (by decide))) z13
  replace w23 : WDN H177 q169 7 := WDN.put w23 wH177 rfl (by decide)
  replace hR := hR.kept (wH177.off (Ne.symm (g_ne gq169 hn)))
  clear hTH176
  clear wH177
  refine lv_dup hx hb dX10_init_214 rfl ?_
  refine lv_bipush (v := 7) hx hb dX10_init_215 (by decide) ?_
  refine lv_bipush (v := 97) hx hb dX10_init_217 (by decide) ?_
  refine x_iast C hTH177 hSH177 gq169 rg_127 (by decide) (by decide) (by decide) (Or.inr leq169) dX10_init_219 (fun H178 locsH178 hTH178 hSH178 wH178 => ?_)
  replace z9 := ZR.kept (wH178.off (G_ne gq123 gq169 (by decide))) z9
  replace z10 := ZR.kept (wH178.off (G_ne gq127 gq169 (by decide))) z10
  replace z13 := ZR.kept (wH178.off (G_ne gq139 gq169 (by decide))) z13
  replace w23 : WDN H178 q169 8 := WDN.put w23 wH178 rfl (by decide)
  replace hR := hR.kept (wH178.off (Ne.symm (g_ne gq169 hn)))
  clear hTH177
  clear wH178
  refine lv_dup hx hb dX10_init_220 rfl ?_
  refine lv_bipush (v := 8) hx hb dX10_init_221 (by decide) ?_
  refine lv_bipush (v := 115) hx hb dX10_init_223 (by decide) ?_
  refine x_iast C hTH178 hSH178 gq169 rg_127 (by decide) (by decide) (by decide) (Or.inr leq169) dX10_init_225 (fun H179 locsH179 hTH179 hSH179 wH179 => ?_)
  replace z9 := ZR.kept (wH179.off (G_ne gq123 gq169 (by decide))) z9
  replace z10 := ZR.kept (wH179.off (G_ne gq127 gq169 (by decide))) z10
  replace z13 := ZR.kept (wH179.off (G_ne gq139 gq169 (by decide))) z13
  replace w23 : WDN H179 q169 9 := WDN.put w23 wH179 rfl (by decide)
  replace hR := hR.kept (wH179.off (Ne.symm (g_ne gq169 hn)))
  clear hTH178
  clear wH179
  refine lv_dup hx hb dX10_init_226 rfl ?_
  refine lv_bipush (v := 9) hx hb dX10_init_227 (by decide) ?_
  refine lv_bipush (v := 115) hx hb dX10_init_229 (by decide) ?_
  refine x_iast C hTH179 hSH179 gq169 rg_127 (by decide) (by decide) (by decide) (Or.inr leq169) dX10_init_231 (fun H180 locsH180 hTH180 hSH180 wH180 => ?_)
  replace z9 := ZR.kept (wH180.off (G_ne gq123 gq169 (by decide))) z9
  replace z10 := ZR.kept (wH180.off (G_ne gq127 gq169 (by decide))) z10
  replace z13 := ZR.kept (wH180.off (G_ne gq139 gq169 (by decide))) z13
  replace w23 : WDN H180 q169 10 := WDN.put w23 wH180 rfl (by decide)
  replace hR := hR.kept (wH180.off (Ne.symm (g_ne gq169 hn)))
  clear hTH179
  clear wH180
  refine lv_dup hx hb dX10_init_232 rfl ?_
  refine lv_bipush (v := 10) hx hb dX10_init_233 (by decide) ?_
  refine lv_bipush (v := 32) hx hb dX10_init_235 (by decide) ?_
  refine x_iast C hTH180 hSH180 gq169 rg_127 (by decide) (by decide) (by decide) (Or.inr leq169) dX10_init_237 (fun H181 locsH181 hTH181 hSH181 wH181 => ?_)
  replace z9 := ZR.kept (wH181.off (G_ne gq123 gq169 (by decide))) z9
  replace z10 := ZR.kept (wH181.off (G_ne gq127 gq169 (by decide))) z10
  replace z13 := ZR.kept (wH181.off (G_ne gq139 gq169 (by decide))) z13
  replace w23 : WDN H181 q169 11 := WDN.put w23 wH181 rfl (by decide)
  replace hR := hR.kept (wH181.off (Ne.symm (g_ne gq169 hn)))
  clear hTH180
  clear wH181
  refine lv_dup hx hb dX10_init_238 rfl ?_
  refine lv_bipush (v := 11) hx hb dX10_init_239 (by decide) ?_
  refine lv_bipush (v := 115) hx hb dX10_init_241 (by decide) ?_
  refine x_iast C hTH181 hSH181 gq169 rg_127 (by decide) (by decide) (by decide) (Or.inr leq169) dX10_init_243 (fun H182 locsH182 hTH182 hSH182 wH182 => ?_)
  replace z9 := ZR.kept (wH182.off (G_ne gq123 gq169 (by decide))) z9
  replace z10 := ZR.kept (wH182.off (G_ne gq127 gq169 (by decide))) z10
  replace z13 := ZR.kept (wH182.off (G_ne gq139 gq169 (by decide))) z13
  replace w23 : WDN H182 q169 12 := WDN.put w23 wH182 rfl (by decide)
  replace hR := hR.kept (wH182.off (Ne.symm (g_ne gq169 hn)))
  clear hTH181
  clear wH182
  refine lv_dup hx hb dX10_init_244 rfl ?_
  refine lv_bipush (v := 12) hx hb dX10_init_245 (by decide) ?_
  refine lv_bipush (v := 119) hx hb dX10_init_247 (by decide) ?_
  refine x_iast C hTH182 hSH182 gq169 rg_127 (by decide) (by decide) (by decide) (Or.inr leq169) dX10_init_249 (fun H183 locsH183 hTH183 hSH183 wH183 => ?_)
  replace z9 := ZR.kept (wH183.off (G_ne gq123 gq169 (by decide))) z9
  replace z10 := ZR.kept (wH183.off (G_ne gq127 gq169 (by decide))) z10
  replace z13 := ZR.kept (wH183.off (G_ne gq139 gq169 (by decide))) z13
  replace w23 : WDN H183 q169 13 := WDN.put w23 wH183 rfl (by decide)
  replace hR := hR.kept (wH183.off (Ne.symm (g_ne gq169 hn)))
  clear hTH182
  clear wH183
  refine lv_dup hx hb dX10_init_250 rfl ?_
  refine lv_bipush (v := 13) hx hb dX10_init_251 (by decide) ?_
  refine lv_bipush (v := 97) hx hb dX10_init_253 (by decide) ?_
  refine x_iast C hTH183 hSH183 gq169 rg_127 (by decide) (by decide) (by decide) (Or.inr leq169) dX10_init_255 (fun H184 locsH184 hTH184 hSH184 wH184 => ?_)
  replace z9 := ZR.kept (wH184.off (G_ne gq123 gq169 (by decide))) z9
  replace z10 := ZR.kept (wH184.off (G_ne gq127 gq169 (by decide))) z10
  replace z13 := ZR.kept (wH184.off (G_ne gq139 gq169 (by decide))) z13
  replace w23 : WDN H184 q169 14 := WDN.put w23 wH184 rfl (by decide)
  replace hR := hR.kept (wH184.off (Ne.symm (g_ne gq169 hn)))
  clear hTH183
  clear wH184
  refine lv_dup hx hb dX10_init_256 rfl ?_
  refine lv_bipush (v := 14) hx hb dX10_init_257 (by decide) ?_
  refine lv_bipush (v := 121) hx hb dX10_init_259 (by decide) ?_
  refine x_iast C hTH184 hSH184 gq169 rg_127 (by decide) (by decide) (by decide) (Or.inr leq169) dX10_init_261 (fun H185 locsH185 hTH185 hSH185 wH185 => ?_)
  replace z9 := ZR.kept (wH185.off (G_ne gq123 gq169 (by decide))) z9
  replace z10 := ZR.kept (wH185.off (G_ne gq127 gq169 (by decide))) z10
  replace z13 := ZR.kept (wH185.off (G_ne gq139 gq169 (by decide))) z13
  replace w23 : WDN H185 q169 15 := WDN.put w23 wH185 rfl (by decide)
  replace hR := hR.kept (wH185.off (Ne.symm (g_ne gq169 hn)))
  clear hTH184
  clear wH185
  refine lv_dup hx hb dX10_init_262 rfl ?_
  refine lv_bipush (v := 15) hx hb dX10_init_263 (by decide) ?_
  refine lv_bipush (v := 32) hx hb dX10_init_265 (by decide) ?_
  refine x_iast C hTH185 hSH185 gq169 rg_127 (by decide) (by decide) (by decide) (Or.inr leq169) dX10_init_267 (fun H186 locsH186 hTH186 hSH186 wH186 => ?_)
  replace z9 := ZR.kept (wH186.off (G_ne gq123 gq169 (by decide))) z9
  replace z10 := ZR.kept (wH186.off (G_ne gq127 gq169 (by decide))) z10
  replace z13 := ZR.kept (wH186.off (G_ne gq139 gq169 (by decide))) z13
  replace w23 : WDN H186 q169 16 := WDN.put w23 wH186 rfl (by decide)
  replace hR := hR.kept (wH186.off (Ne.symm (g_ne gq169 hn)))
  clear hTH185
  clear wH186
  refine lv_dup hx hb dX10_init_268 rfl ?_
  refine lv_bipush (v := 16) hx hb dX10_init_269 (by decide) ?_
  refine lv_bipush (v := 100) hx hb dX10_init_271 (by decide) ?_
  refine x_iast C hTH186 hSH186 gq169 rg_127 (by decide) (by decide) (by decide) (Or.inr leq169) dX10_init_273 (fun H187 locsH187 hTH187 hSH187 wH187 => ?_)
  replace z9 := ZR.kept (wH187.off (G_ne gq123 gq169 (by decide))) z9
  replace z10 := ZR.kept (wH187.off (G_ne gq127 gq169 (by decide))) z10
  replace z13 := ZR.kept (wH187.off (G_ne gq139 gq169 (by decide))) z13
  replace w23 : WDN H187 q169 17 := WDN.put w23 wH187 rfl (by decide)
  replace hR := hR.kept (wH187.off (Ne.symm (g_ne gq169 hn)))
  clear hTH186
  clear wH187
  refine lv_dup hx hb dX10_init_274 rfl ?_
  refine lv_bipush (v := 17) hx hb dX10_init_275 (by decide) ?_
  refine lv_bipush (v := 114) hx hb dX10_init_277 (by decide) ?_
  refine x_iast C hTH187 hSH187 gq169 rg_127 (by decide) (by decide) (by decide) (Or.inr leq169) dX10_init_279 (fun H188 locsH188 hTH188 hSH188 wH188 => ?_)
  replace z9 := ZR.kept (wH188.off (G_ne gq123 gq169 (by decide))) z9
  replace z10 := ZR.kept (wH188.off (G_ne gq127 gq169 (by decide))) z10
  replace z13 := ZR.kept (wH188.off (G_ne gq139 gq169 (by decide))) z13
  replace w23 : WDN H188 q169 18 := WDN.put w23 wH188 rfl (by decide)
  replace hR := hR.kept (wH188.off (Ne.symm (g_ne gq169 hn)))
  clear hTH187
  clear wH188
  refine lv_dup hx hb dX10_init_280 rfl ?_
  refine lv_bipush (v := 18) hx hb dX10_init_281 (by decide) ?_
  refine lv_bipush (v := 105) hx hb dX10_init_283 (by decide) ?_
  refine x_iast C hTH188 hSH188 gq169 rg_127 (by decide) (by decide) (by decide) (Or.inr leq169) dX10_init_285 (fun H189 locsH189 hTH189 hSH189 wH189 => ?_)
  replace z9 := ZR.kept (wH189.off (G_ne gq123 gq169 (by decide))) z9
  replace z10 := ZR.kept (wH189.off (G_ne gq127 gq169 (by decide))) z10
  replace z13 := ZR.kept (wH189.off (G_ne gq139 gq169 (by decide))) z13
  replace w23 : WDN H189 q169 19 := WDN.put w23 wH189 rfl (by decide)
  replace hR := hR.kept (wH189.off (Ne.symm (g_ne gq169 hn)))
  clear hTH188
  clear wH189
  refine lv_dup hx hb dX10_init_286 rfl ?_
  refine lv_bipush (v := 19) hx hb dX10_init_287 (by decide) ?_
  refine lv_bipush (v := 102) hx hb dX10_init_289 (by decide) ?_
  refine x_iast C hTH189 hSH189 gq169 rg_127 (by decide) (by decide) (by decide) (Or.inr leq169) dX10_init_291 (fun H190 locsH190 hTH190 hSH190 wH190 => ?_)
  replace z9 := ZR.kept (wH190.off (G_ne gq123 gq169 (by decide))) z9
  replace z10 := ZR.kept (wH190.off (G_ne gq127 gq169 (by decide))) z10
  replace z13 := ZR.kept (wH190.off (G_ne gq139 gq169 (by decide))) z13
  replace w23 : WDN H190 q169 20 := WDN.put w23 wH190 rfl (by decide)
  replace hR := hR.kept (wH190.off (Ne.symm (g_ne gq169 hn)))
  clear hTH189
  clear wH190
  refine lv_dup hx hb dX10_init_292 rfl ?_
  refine lv_bipush (v := 20) hx hb dX10_init_293 (by decide) ?_
  refine lv_bipush (v := 116) hx hb dX10_init_295 (by decide) ?_
  refine x_iast C hTH190 hSH190 gq169 rg_127 (by decide) (by decide) (by decide) (Or.inr leq169) dX10_init_297 (fun H191 locsH191 hTH191 hSH191 wH191 => ?_)
  replace z9 := ZR.kept (wH191.off (G_ne gq123 gq169 (by decide))) z9
  replace z10 := ZR.kept (wH191.off (G_ne gq127 gq169 (by decide))) z10
  replace z13 := ZR.kept (wH191.off (G_ne gq139 gq169 (by decide))) z13
  replace w23 : WDN H191 q169 21 := WDN.put w23 wH191 rfl (by decide)
  replace hR := hR.kept (wH191.off (Ne.symm (g_ne gq169 hn)))
  clear hTH190
  clear wH191
  refine lv_dup hx hb dX10_init_298 rfl ?_
  refine lv_bipush (v := 21) hx hb dX10_init_299 (by decide) ?_
  refine lv_bipush (v := 32) hx hb dX10_init_301 (by decide) ?_
  refine x_iast C hTH191 hSH191 gq169 rg_127 (by decide) (by decide) (by decide) (Or.inr leq169) dX10_init_303 (fun H192 locsH192 hTH192 hSH192 wH192 => ?_)
  replace z9 := ZR.kept (wH192.off (G_ne gq123 gq169 (by decide))) z9
  replace z10 := ZR.kept (wH192.off (G_ne gq127 gq169 (by decide))) z10
  replace z13 := ZR.kept (wH192.off (G_ne gq139 gq169 (by decide))) z13
  replace w23 : WDN H192 q169 22 := WDN.put w23 wH192 rfl (by decide)
  replace hR := hR.kept (wH192.off (Ne.symm (g_ne gq169 hn)))
  clear hTH191
  clear wH192
  refine lv_dup hx hb dX10_init_304 rfl ?_
  refine lv_bipush (v := 22) hx hb dX10_init_305 (by decide) ?_
  refine lv_bipush (v := 115) hx hb dX10_init_307 (by decide) ?_
  refine x_iast C hTH192 hSH192 gq169 rg_127 (by decide) (by decide) (by decide) (Or.inr leq169) dX10_init_309 (fun H193 locsH193 hTH193 hSH193 wH193 => ?_)
  replace z9 := ZR.kept (wH193.off (G_ne gq123 gq169 (by decide))) z9
  replace z10 := ZR.kept (wH193.off (G_ne gq127 gq169 (by decide))) z10
  replace z13 := ZR.kept (wH193.off (G_ne gq139 gq169 (by decide))) z13
  replace w23 : WDN H193 q169 23 := WDN.put w23 wH193 rfl (by decide)
  replace hR := hR.kept (wH193.off (Ne.symm (g_ne gq169 hn)))
  clear hTH192
  clear wH193
  refine lv_dup hx hb dX10_init_310 rfl ?_
  refine lv_bipush (v := 23) hx hb dX10_init_311 (by decide) ?_
  refine lv_bipush (v := 104) hx hb dX10_init_313 (by decide) ?_
  refine x_iast C hTH193 hSH193 gq169 rg_127 (by decide) (by decide) (by decide) (Or.inr leq169) dX10_init_315 (fun H194 locsH194 hTH194 hSH194 wH194 => ?_)
  replace z9 := ZR.kept (wH194.off (G_ne gq123 gq169 (by decide))) z9
  replace z10 := ZR.kept (wH194.off (G_ne gq127 gq169 (by decide))) z10
  replace z13 := ZR.kept (wH194.off (G_ne gq139 gq169 (by decide))) z13
  replace w23 : WDN H194 q169 24 := WDN.put w23 wH194 rfl (by decide)
  replace hR := hR.kept (wH194.off (Ne.symm (g_ne gq169 hn)))
  clear hTH193
  clear wH194
  refine lv_dup hx hb dX10_init_316 rfl ?_
  refine lv_bipush (v := 24) hx hb dX10_init_317 (by decide) ?_
  refine lv_bipush (v := 97) hx hb dX10_init_319 (by decide) ?_
  refine x_iast C hTH194 hSH194 gq169 rg_127 (by decide) (by decide) (by decide) (Or.inr leq169) dX10_init_321 (fun H195 locsH195 hTH195 hSH195 wH195 => ?_)
  replace z9 := ZR.kept (wH195.off (G_ne gq123 gq169 (by decide))) z9
  replace z10 := ZR.kept (wH195.off (G_ne gq127 gq169 (by decide))) z10
  replace z13 := ZR.kept (wH195.off (G_ne gq139 gq169 (by decide))) z13
  replace w23 : WDN H195 q169 25 := WDN.put w23 wH195 rfl (by decide)
  replace hR := hR.kept (wH195.off (Ne.symm (g_ne gq169 hn)))
  clear hTH194
  clear wH195
  refine lv_dup hx hb dX10_init_322 rfl ?_
  refine lv_bipush (v := 25) hx hb dX10_init_323 (by decide) ?_
  refine lv_bipush (v := 118) hx hb dX10_init_325 (by decide) ?_
  refine x_iast C hTH195 hSH195 gq169 rg_127 (by decide) (by decide) (by decide) (Or.inr leq169) dX10_init_327 (fun H196 locsH196 hTH196 hSH196 wH196 => ?_)
  replace z9 := ZR.kept (wH196.off (G_ne gq123 gq169 (by decide))) z9
  replace z10 := ZR.kept (wH196.off (G_ne gq127 gq169 (by decide))) z10
  replace z13 := ZR.kept (wH196.off (G_ne gq139 gq169 (by decide))) z13
  replace w23 : WDN H196 q169 26 := WDN.put w23 wH196 rfl (by decide)
  replace hR := hR.kept (wH196.off (Ne.symm (g_ne gq169 hn)))
  clear hTH195
  clear wH196
  refine lv_dup hx hb dX10_init_328 rfl ?_
  refine lv_bipush (v := 26) hx hb dX10_init_329 (by decide) ?_
  refine lv_bipush (v := 101) hx hb dX10_init_331 (by decide) ?_
  refine x_iast C hTH196 hSH196 gq169 rg_127 (by decide) (by decide) (by decide) (Or.inr leq169) dX10_init_333 (fun H197 locsH197 hTH197 hSH197 wH197 => ?_)
  replace z9 := ZR.kept (wH197.off (G_ne gq123 gq169 (by decide))) z9
  replace z10 := ZR.kept (wH197.off (G_ne gq127 gq169 (by decide))) z10
  replace z13 := ZR.kept (wH197.off (G_ne gq139 gq169 (by decide))) z13
  replace w23 : WDN H197 q169 27 := WDN.put w23 wH197 rfl (by decide)
  replace hR := hR.kept (wH197.off (Ne.symm (g_ne gq169 hn)))
  clear hTH196
  clear wH197
  refine lv_dup hx hb dX10_init_334 rfl ?_
  refine lv_bipush (v := 27) hx hb dX10_init_335 (by decide) ?_
  refine lv_bipush (v := 32) hx hb dX10_init_337 (by decide) ?_
  refine x_iast C hTH197 hSH197 gq169 rg_127 (by decide) (by decide) (by decide) (Or.inr leq169) dX10_init_339 (fun H198 locsH198 hTH198 hSH198 wH198 => ?_)
  replace z9 := ZR.kept (wH198.off (G_ne gq123 gq169 (by decide))) z9
  replace z10 := ZR.kept (wH198.off (G_ne gq127 gq169 (by decide))) z10
  replace z13 := ZR.kept (wH198.off (G_ne gq139 gq169 (by decide))) z13
  replace w23 : WDN H198 q169 28 := WDN.put w23 wH198 rfl (by decide)
  replace hR := hR.kept (wH198.off (Ne.symm (g_ne gq169 hn)))
  clear hTH197
  clear wH198
  refine lv_dup hx hb dX10_init_340 rfl ?_
  refine lv_bipush (v := 28) hx hb dX10_init_341 (by decide) ?_
  refine lv_bipush (v := 97) hx hb dX10_init_343 (by decide) ?_
  refine x_iast C hTH198 hSH198 gq169 rg_127 (by decide) (by decide) (by decide) (Or.inr leq169) dX10_init_345 (fun H199 locsH199 hTH199 hSH199 wH199 => ?_)
  replace z9 := ZR.kept (wH199.off (G_ne gq123 gq169 (by decide))) z9
  replace z10 := ZR.kept (wH199.off (G_ne gq127 gq169 (by decide))) z10
  replace z13 := ZR.kept (wH199.off (G_ne gq139 gq169 (by decide))) z13
  replace w23 : WDN H199 q169 29 := WDN.put w23 wH199 rfl (by decide)
  replace hR := hR.kept (wH199.off (Ne.symm (g_ne gq169 hn)))
  clear hTH198
  clear wH199
  refine lv_dup hx hb dX10_init_346 rfl ?_
  refine lv_bipush (v := 29) hx hb dX10_init_347 (by decide) ?_
  refine lv_bipush (v := 114) hx hb dX10_init_349 (by decide) ?_
  refine x_iast C hTH199 hSH199 gq169 rg_127 (by decide) (by decide) (by decide) (Or.inr leq169) dX10_init_351 (fun H200 locsH200 hTH200 hSH200 wH200 => ?_)
  replace z9 := ZR.kept (wH200.off (G_ne gq123 gq169 (by decide))) z9
  replace z10 := ZR.kept (wH200.off (G_ne gq127 gq169 (by decide))) z10
  replace z13 := ZR.kept (wH200.off (G_ne gq139 gq169 (by decide))) z13
  replace w23 : WDN H200 q169 30 := WDN.put w23 wH200 rfl (by decide)
  replace hR := hR.kept (wH200.off (Ne.symm (g_ne gq169 hn)))
  clear hTH199
  clear wH200
  refine lv_dup hx hb dX10_init_352 rfl ?_
  refine lv_bipush (v := 30) hx hb dX10_init_353 (by decide) ?_
  refine lv_bipush (v := 99) hx hb dX10_init_355 (by decide) ?_
  refine x_iast C hTH200 hSH200 gq169 rg_127 (by decide) (by decide) (by decide) (Or.inr leq169) dX10_init_357 (fun H201 locsH201 hTH201 hSH201 wH201 => ?_)
  replace z9 := ZR.kept (wH201.off (G_ne gq123 gq169 (by decide))) z9
  replace z10 := ZR.kept (wH201.off (G_ne gq127 gq169 (by decide))) z10
  replace z13 := ZR.kept (wH201.off (G_ne gq139 gq169 (by decide))) z13
  replace w23 : WDN H201 q169 31 := WDN.put w23 wH201 rfl (by decide)
  replace hR := hR.kept (wH201.off (Ne.symm (g_ne gq169 hn)))
  clear hTH200
  clear wH201
  refine lv_dup hx hb dX10_init_358 rfl ?_
  refine lv_bipush (v := 31) hx hb dX10_init_359 (by decide) ?_
  refine lv_bipush (v := 32) hx hb dX10_init_361 (by decide) ?_
  refine x_iast C hTH201 hSH201 gq169 rg_127 (by decide) (by decide) (by decide) (Or.inr leq169) dX10_init_363 (fun H202 locsH202 hTH202 hSH202 wH202 => ?_)
  replace z9 := ZR.kept (wH202.off (G_ne gq123 gq169 (by decide))) z9
  replace z10 := ZR.kept (wH202.off (G_ne gq127 gq169 (by decide))) z10
  replace z13 := ZR.kept (wH202.off (G_ne gq139 gq169 (by decide))) z13
  replace w23 : WDN H202 q169 32 := WDN.put w23 wH202 rfl (by decide)
  replace hR := hR.kept (wH202.off (Ne.symm (g_ne gq169 hn)))
  clear hTH201
  clear wH202
  refine lv_dup hx hb dX10_init_364 rfl ?_
  refine lv_bipush (v := 32) hx hb dX10_init_365 (by decide) ?_
  refine lv_bipush (v := 119) hx hb dX10_init_367 (by decide) ?_
  refine x_iast C hTH202 hSH202 gq169 rg_127 (by decide) (by decide) (by decide) (Or.inr leq169) dX10_init_369 (fun H203 locsH203 hTH203 hSH203 wH203 => ?_)
  replace z9 := ZR.kept (wH203.off (G_ne gq123 gq169 (by decide))) z9
  replace z10 := ZR.kept (wH203.off (G_ne gq127 gq169 (by decide))) z10
  replace z13 := ZR.kept (wH203.off (G_ne gq139 gq169 (by decide))) z13
  replace w23 : WDN H203 q169 33 := WDN.put w23 wH203 rfl (by decide)
  replace hR := hR.kept (wH203.off (Ne.symm (g_ne gq169 hn)))
  clear hTH202
  clear wH203
  refine lv_dup hx hb dX10_init_370 rfl ?_
  refine lv_bipush (v := 33) hx hb dX10_init_371 (by decide) ?_
  refine lv_bipush (v := 104) hx hb dX10_init_373 (by decide) ?_
  refine x_iast C hTH203 hSH203 gq169 rg_127 (by decide) (by decide) (by decide) (Or.inr leq169) dX10_init_375 (fun H204 locsH204 hTH204 hSH204 wH204 => ?_)
  replace z9 := ZR.kept (wH204.off (G_ne gq123 gq169 (by decide))) z9
  replace z10 := ZR.kept (wH204.off (G_ne gq127 gq169 (by decide))) z10
  replace z13 := ZR.kept (wH204.off (G_ne gq139 gq169 (by decide))) z13
  replace w23 : WDN H204 q169 34 := WDN.put w23 wH204 rfl (by decide)
  replace hR := hR.kept (wH204.off (Ne.symm (g_ne gq169 hn)))
  clear hTH203
  clear wH204
  refine lv_dup hx hb dX10_init_376 rfl ?_
  refine lv_bipush (v := 34) hx hb dX10_init_377 (by decide) ?_
  refine lv_bipush (v := 101) hx hb dX10_init_379 (by decide) ?_
  refine x_iast C hTH204 hSH204 gq169 rg_127 (by decide) (by decide) (by decide) (Or.inr leq169) dX10_init_381 (fun H205 locsH205 hTH205 hSH205 wH205 => ?_)
  replace z9 := ZR.kept (wH205.off (G_ne gq123 gq169 (by decide))) z9
  replace z10 := ZR.kept (wH205.off (G_ne gq127 gq169 (by decide))) z10
  replace z13 := ZR.kept (wH205.off (G_ne gq139 gq169 (by decide))) z13
  replace w23 : WDN H205 q169 35 := WDN.put w23 wH205 rfl (by decide)
  replace hR := hR.kept (wH205.off (Ne.symm (g_ne gq169 hn)))
  clear hTH204
  clear wH205
  refine lv_dup hx hb dX10_init_382 rfl ?_
  refine lv_bipush (v := 35) hx hb dX10_init_383 (by decide) ?_
  refine lv_bipush (v := 110) hx hb dX10_init_385 (by decide) ?_
  refine x_iast C hTH205 hSH205 gq169 rg_127 (by decide) (by decide) (by decide) (Or.inr leq169) dX10_init_387 (fun H206 locsH206 hTH206 hSH206 wH206 => ?_)
  replace z9 := ZR.kept (wH206.off (G_ne gq123 gq169 (by decide))) z9
  replace z10 := ZR.kept (wH206.off (G_ne gq127 gq169 (by decide))) z10
  replace z13 := ZR.kept (wH206.off (G_ne gq139 gq169 (by decide))) z13
  replace w23 : WDN H206 q169 36 := WDN.put w23 wH206 rfl (by decide)
  replace hR := hR.kept (wH206.off (Ne.symm (g_ne gq169 hn)))
  clear hTH205
  clear wH206
  refine lv_dup hx hb dX10_init_388 rfl ?_
  refine lv_bipush (v := 36) hx hb dX10_init_389 (by decide) ?_
  refine lv_bipush (v := 32) hx hb dX10_init_391 (by decide) ?_
  refine x_iast C hTH206 hSH206 gq169 rg_127 (by decide) (by decide) (by decide) (Or.inr leq169) dX10_init_393 (fun H207 locsH207 hTH207 hSH207 wH207 => ?_)
  replace z9 := ZR.kept (wH207.off (G_ne gq123 gq169 (by decide))) z9
  replace z10 := ZR.kept (wH207.off (G_ne gq127 gq169 (by decide))) z10
  replace z13 := ZR.kept (wH207.off (G_ne gq139 gq169 (by decide))) z13
  replace w23 : WDN H207 q169 37 := WDN.put w23 wH207 rfl (by decide)
  replace hR := hR.kept (wH207.off (Ne.symm (g_ne gq169 hn)))
  clear hTH206
  clear wH207
  refine lv_dup hx hb dX10_init_394 rfl ?_
  refine lv_bipush (v := 37) hx hb dX10_init_395 (by decide) ?_
  refine lv_bipush (v := 111) hx hb dX10_init_397 (by decide) ?_
  refine x_iast C hTH207 hSH207 gq169 rg_127 (by decide) (by decide) (by decide) (Or.inr leq169) dX10_init_399 (fun H208 locsH208 hTH208 hSH208 wH208 => ?_)
  replace z9 := ZR.kept (wH208.off (G_ne gq123 gq169 (by decide))) z9
  replace z10 := ZR.kept (wH208.off (G_ne gq127 gq169 (by decide))) z10
  replace z13 := ZR.kept (wH208.off (G_ne gq139 gq169 (by decide))) z13
  replace w23 : WDN H208 q169 38 := WDN.put w23 wH208 rfl (by decide)
  replace hR := hR.kept (wH208.off (Ne.symm (g_ne gq169 hn)))
  clear hTH207
  clear wH208
  refine lv_dup hx hb dX10_init_400 rfl ?_
  refine lv_bipush (v := 38) hx hb dX10_init_401 (by decide) ?_
  refine lv_bipush (v := 114) hx hb dX10_init_403 (by decide) ?_
  refine x_iast C hTH208 hSH208 gq169 rg_127 (by decide) (by decide) (by decide) (Or.inr leq169) dX10_init_405 (fun H209 locsH209 hTH209 hSH209 wH209 => ?_)
  replace z9 := ZR.kept (wH209.off (G_ne gq123 gq169 (by decide))) z9
  replace z10 := ZR.kept (wH209.off (G_ne gq127 gq169 (by decide))) z10
  replace z13 := ZR.kept (wH209.off (G_ne gq139 gq169 (by decide))) z13
  replace w23 : WDN H209 q169 39 := WDN.put w23 wH209 rfl (by decide)
  replace hR := hR.kept (wH209.off (Ne.symm (g_ne gq169 hn)))
  clear hTH208
  clear wH209
  refine lv_dup hx hb dX10_init_406 rfl ?_
  refine lv_bipush (v := 39) hx hb dX10_init_407 (by decide) ?_
  refine lv_bipush (v := 32) hx hb dX10_init_409 (by decide) ?_
  refine x_iast C hTH209 hSH209 gq169 rg_127 (by decide) (by decide) (by decide) (Or.inr leq169) dX10_init_411 (fun H210 locsH210 hTH210 hSH210 wH210 => ?_)
  replace z9 := ZR.kept (wH210.off (G_ne gq123 gq169 (by decide))) z9
  replace z10 := ZR.kept (wH210.off (G_ne gq127 gq169 (by decide))) z10
  replace z13 := ZR.kept (wH210.off (G_ne gq139 gq169 (by decide))) z13
  replace w23 : WDN H210 q169 40 := WDN.put w23 wH210 rfl (by decide)
  replace hR := hR.kept (wH210.off (Ne.symm (g_ne gq169 hn)))
  clear hTH209
  clear wH210
  refine lv_dup hx hb dX10_init_412 rfl ?_
  refine lv_bipush (v := 40) hx hb dX10_init_413 (by decide) ?_
  refine lv_bipush (v := 97) hx hb dX10_init_415 (by decide) ?_
  refine x_iast C hTH210 hSH210 gq169 rg_127 (by decide) (by decide) (by decide) (Or.inr leq169) dX10_init_417 (fun H211 locsH211 hTH211 hSH211 wH211 => ?_)
  replace z9 := ZR.kept (wH211.off (G_ne gq123 gq169 (by decide))) z9
  replace z10 := ZR.kept (wH211.off (G_ne gq127 gq169 (by decide))) z10
  replace z13 := ZR.kept (wH211.off (G_ne gq139 gq169 (by decide))) z13
  replace w23 : WDN H211 q169 41 := WDN.put w23 wH211 rfl (by decide)
  replace hR := hR.kept (wH211.off (Ne.symm (g_ne gq169 hn)))
  clear hTH210
  clear wH211
  refine lv_dup hx hb dX10_init_418 rfl ?_
  refine lv_bipush (v := 41) hx hb dX10_init_419 (by decide) ?_
  refine lv_bipush (v := 110) hx hb dX10_init_421 (by decide) ?_
  refine x_iast C hTH211 hSH211 gq169 rg_127 (by decide) (by decide) (by decide) (Or.inr leq169) dX10_init_423 (fun H212 locsH212 hTH212 hSH212 wH212 => ?_)
  replace z9 := ZR.kept (wH212.off (G_ne gq123 gq169 (by decide))) z9
  replace z10 := ZR.kept (wH212.off (G_ne gq127 gq169 (by decide))) z10
  replace z13 := ZR.kept (wH212.off (G_ne gq139 gq169 (by decide))) z13
  replace w23 : WDN H212 q169 42 := WDN.put w23 wH212 rfl (by decide)
  replace hR := hR.kept (wH212.off (Ne.symm (g_ne gq169 hn)))
  clear hTH211
  clear wH212
  refine lv_dup hx hb dX10_init_424 rfl ?_
  refine lv_bipush (v := 42) hx hb dX10_init_425 (by decide) ?_
  refine lv_bipush (v := 100) hx hb dX10_init_427 (by decide) ?_
  refine x_iast C hTH212 hSH212 gq169 rg_127 (by decide) (by decide) (by decide) (Or.inr leq169) dX10_init_429 (fun H213 locsH213 hTH213 hSH213 wH213 => ?_)
  replace z9 := ZR.kept (wH213.off (G_ne gq123 gq169 (by decide))) z9
  replace z10 := ZR.kept (wH213.off (G_ne gq127 gq169 (by decide))) z10
  replace z13 := ZR.kept (wH213.off (G_ne gq139 gq169 (by decide))) z13
  replace w23 : WDN H213 q169 43 := WDN.put w23 wH213 rfl (by decide)
  replace hR := hR.kept (wH213.off (Ne.symm (g_ne gq169 hn)))
  clear hTH212
  clear wH213
  refine lv_dup hx hb dX10_init_430 rfl ?_
  refine lv_bipush (v := 43) hx hb dX10_init_431 (by decide) ?_
  refine lv_bipush (v := 32) hx hb dX10_init_433 (by decide) ?_
  refine x_iast C hTH213 hSH213 gq169 rg_127 (by decide) (by decide) (by decide) (Or.inr leq169) dX10_init_435 (fun H214 locsH214 hTH214 hSH214 wH214 => ?_)
  replace z9 := ZR.kept (wH214.off (G_ne gq123 gq169 (by decide))) z9
  replace z10 := ZR.kept (wH214.off (G_ne gq127 gq169 (by decide))) z10
  replace z13 := ZR.kept (wH214.off (G_ne gq139 gq169 (by decide))) z13
  replace w23 : WDN H214 q169 44 := WDN.put w23 wH214 rfl (by decide)
  replace hR := hR.kept (wH214.off (Ne.symm (g_ne gq169 hn)))
  clear hTH213
  clear wH214
  refine lv_dup hx hb dX10_init_436 rfl ?_
  refine lv_bipush (v := 44) hx hb dX10_init_437 (by decide) ?_
  refine lv_bipush (v := 110) hx hb dX10_init_439 (by decide) ?_
  refine x_iast C hTH214 hSH214 gq169 rg_127 (by decide) (by decide) (by decide) (Or.inr leq169) dX10_init_441 (fun H215 locsH215 hTH215 hSH215 wH215 => ?_)
  replace z9 := ZR.kept (wH215.off (G_ne gq123 gq169 (by decide))) z9
  replace z10 := ZR.kept (wH215.off (G_ne gq127 gq169 (by decide))) z10
  replace z13 := ZR.kept (wH215.off (G_ne gq139 gq169 (by decide))) z13
  replace w23 : WDN H215 q169 45 := WDN.put w23 wH215 rfl (by decide)
  replace hR := hR.kept (wH215.off (Ne.symm (g_ne gq169 hn)))
  clear hTH214
  clear wH215
  refine lv_dup hx hb dX10_init_442 rfl ?_
  refine lv_bipush (v := 45) hx hb dX10_init_443 (by decide) ?_
  refine lv_bipush (v := 111) hx hb dX10_init_445 (by decide) ?_
  refine x_iast C hTH215 hSH215 gq169 rg_127 (by decide) (by decide) (by decide) (Or.inr leq169) dX10_init_447 (fun H216 locsH216 hTH216 hSH216 wH216 => ?_)
  replace z9 := ZR.kept (wH216.off (G_ne gq123 gq169 (by decide))) z9
  replace z10 := ZR.kept (wH216.off (G_ne gq127 gq169 (by decide))) z10
  replace z13 := ZR.kept (wH216.off (G_ne gq139 gq169 (by decide))) z13
  replace w23 : WDN H216 q169 46 := WDN.put w23 wH216 rfl (by decide)
  replace hR := hR.kept (wH216.off (Ne.symm (g_ne gq169 hn)))
  clear hTH215
  clear wH216
  refine lv_dup hx hb dX10_init_448 rfl ?_
  refine lv_bipush (v := 46) hx hb dX10_init_449 (by decide) ?_
  refine lv_bipush (v := 116) hx hb dX10_init_451 (by decide) ?_
  refine x_iast C hTH216 hSH216 gq169 rg_127 (by decide) (by decide) (by decide) (Or.inr leq169) dX10_init_453 (fun H217 locsH217 hTH217 hSH217 wH217 => ?_)
  replace z9 := ZR.kept (wH217.off (G_ne gq123 gq169 (by decide))) z9
  replace z10 := ZR.kept (wH217.off (G_ne gq127 gq169 (by decide))) z10
  replace z13 := ZR.kept (wH217.off (G_ne gq139 gq169 (by decide))) z13
  replace w23 : WDN H217 q169 47 := WDN.put w23 wH217 rfl (by decide)
  replace hR := hR.kept (wH217.off (Ne.symm (g_ne gq169 hn)))
  clear hTH216
  clear wH217
  refine lv_dup hx hb dX10_init_454 rfl ?_
  refine lv_bipush (v := 47) hx hb dX10_init_455 (by decide) ?_
  refine lv_bipush (v := 32) hx hb dX10_init_457 (by decide) ?_
  refine x_iast C hTH217 hSH217 gq169 rg_127 (by decide) (by decide) (by decide) (Or.inr leq169) dX10_init_459 (fun H218 locsH218 hTH218 hSH218 wH218 => ?_)
  replace z9 := ZR.kept (wH218.off (G_ne gq123 gq169 (by decide))) z9
  replace z10 := ZR.kept (wH218.off (G_ne gq127 gq169 (by decide))) z10
  replace z13 := ZR.kept (wH218.off (G_ne gq139 gq169 (by decide))) z13
  replace w23 : WDN H218 q169 48 := WDN.put w23 wH218 rfl (by decide)
  replace hR := hR.kept (wH218.off (Ne.symm (g_ne gq169 hn)))
  clear hTH217
  clear wH218
  refine lv_dup hx hb dX10_init_460 rfl ?_
  refine lv_bipush (v := 48) hx hb dX10_init_461 (by decide) ?_
  refine lv_bipush (v := 97) hx hb dX10_init_463 (by decide) ?_
  refine x_iast C hTH218 hSH218 gq169 rg_127 (by decide) (by decide) (by decide) (Or.inr leq169) dX10_init_465 (fun H219 locsH219 hTH219 hSH219 wH219 => ?_)
  replace z9 := ZR.kept (wH219.off (G_ne gq123 gq169 (by decide))) z9
  replace z10 := ZR.kept (wH219.off (G_ne gq127 gq169 (by decide))) z10
  replace z13 := ZR.kept (wH219.off (G_ne gq139 gq169 (by decide))) z13
  replace w23 : WDN H219 q169 49 := WDN.put w23 wH219 rfl (by decide)
  replace hR := hR.kept (wH219.off (Ne.symm (g_ne gq169 hn)))
  clear hTH218
  clear wH219
  refine lv_dup hx hb dX10_init_466 rfl ?_
  refine lv_bipush (v := 49) hx hb dX10_init_467 (by decide) ?_
  refine lv_bipush (v := 116) hx hb dX10_init_469 (by decide) ?_
  refine x_iast C hTH219 hSH219 gq169 rg_127 (by decide) (by decide) (by decide) (Or.inr leq169) dX10_init_471 (fun H220 locsH220 hTH220 hSH220 wH220 => ?_)
  replace z9 := ZR.kept (wH220.off (G_ne gq123 gq169 (by decide))) z9
  replace z10 := ZR.kept (wH220.off (G_ne gq127 gq169 (by decide))) z10
  replace z13 := ZR.kept (wH220.off (G_ne gq139 gq169 (by decide))) z13
  replace w23 : WDN H220 q169 50 := WDN.put w23 wH220 rfl (by decide)
  replace hR := hR.kept (wH220.off (Ne.symm (g_ne gq169 hn)))
  clear hTH219
  clear wH220
  refine lv_dup hx hb dX10_init_472 rfl ?_
  refine lv_bipush (v := 50) hx hb dX10_init_473 (by decide) ?_
  refine lv_bipush (v := 32) hx hb dX10_init_475 (by decide) ?_
  refine x_iast C hTH220 hSH220 gq169 rg_127 (by decide) (by decide) (by decide) (Or.inr leq169) dX10_init_477 (fun H221 locsH221 hTH221 hSH221 wH221 => ?_)
  replace z9 := ZR.kept (wH221.off (G_ne gq123 gq169 (by decide))) z9
  replace z10 := ZR.kept (wH221.off (G_ne gq127 gq169 (by decide))) z10
  replace z13 := ZR.kept (wH221.off (G_ne gq139 gq169 (by decide))) z13
  replace w23 : WDN H221 q169 51 := WDN.put w23 wH221 rfl (by decide)
  replace hR := hR.kept (wH221.off (Ne.symm (g_ne gq169 hn)))
  clear hTH220
  clear wH221
  refine lv_dup hx hb dX10_init_478 rfl ?_
  refine lv_bipush (v := 51) hx hb dX10_init_479 (by decide) ?_
  refine lv_bipush (v := 115) hx hb dX10_init_481 (by decide) ?_
  refine x_iast C hTH221 hSH221 gq169 rg_127 (by decide) (by decide) (by decide) (Or.inr leq169) dX10_init_483 (fun H222 locsH222 hTH222 hSH222 wH222 => ?_)
  replace z9 := ZR.kept (wH222.off (G_ne gq123 gq169 (by decide))) z9
  replace z10 := ZR.kept (wH222.off (G_ne gq127 gq169 (by decide))) z10
  replace z13 := ZR.kept (wH222.off (G_ne gq139 gq169 (by decide))) z13
  replace w23 : WDN H222 q169 52 := WDN.put w23 wH222 rfl (by decide)
  replace hR := hR.kept (wH222.off (Ne.symm (g_ne gq169 hn)))
  clear hTH221
  clear wH222
  refine lv_dup hx hb dX10_init_484 rfl ?_
  refine lv_bipush (v := 52) hx hb dX10_init_485 (by decide) ?_
  refine lv_bipush (v := 105) hx hb dX10_init_487 (by decide) ?_
  refine x_iast C hTH222 hSH222 gq169 rg_127 (by decide) (by decide) (by decide) (Or.inr leq169) dX10_init_489 (fun H223 locsH223 hTH223 hSH223 wH223 => ?_)
  replace z9 := ZR.kept (wH223.off (G_ne gq123 gq169 (by decide))) z9
  replace z10 := ZR.kept (wH223.off (G_ne gq127 gq169 (by decide))) z10
  replace z13 := ZR.kept (wH223.off (G_ne gq139 gq169 (by decide))) z13
  replace w23 : WDN H223 q169 53 := WDN.put w23 wH223 rfl (by decide)
  replace hR := hR.kept (wH223.off (Ne.symm (g_ne gq169 hn)))
  clear hTH222
  clear wH223
  refine lv_dup hx hb dX10_init_490 rfl ?_
  refine lv_bipush (v := 53) hx hb dX10_init_491 (by decide) ?_
  refine lv_bipush (v := 122) hx hb dX10_init_493 (by decide) ?_
  refine x_iast C hTH223 hSH223 gq169 rg_127 (by decide) (by decide) (by decide) (Or.inr leq169) dX10_init_495 (fun H224 locsH224 hTH224 hSH224 wH224 => ?_)
  replace z9 := ZR.kept (wH224.off (G_ne gq123 gq169 (by decide))) z9
  replace z10 := ZR.kept (wH224.off (G_ne gq127 gq169 (by decide))) z10
  replace z13 := ZR.kept (wH224.off (G_ne gq139 gq169 (by decide))) z13
  replace w23 : WDN H224 q169 54 := WDN.put w23 wH224 rfl (by decide)
  replace hR := hR.kept (wH224.off (Ne.symm (g_ne gq169 hn)))
  clear hTH223
  clear wH224
  refine lv_dup hx hb dX10_init_496 rfl ?_
  refine lv_bipush (v := 54) hx hb dX10_init_497 (by decide) ?_
  refine lv_bipush (v := 101) hx hb dX10_init_499 (by decide) ?_
  refine x_iast C hTH224 hSH224 gq169 rg_127 (by decide) (by decide) (by decide) (Or.inr leq169) dX10_init_501 (fun H225 locsH225 hTH225 hSH225 wH225 => ?_)
  replace z9 := ZR.kept (wH225.off (G_ne gq123 gq169 (by decide))) z9
  replace z10 := ZR.kept (wH225.off (G_ne gq127 gq169 (by decide))) z10
  replace z13 := ZR.kept (wH225.off (G_ne gq139 gq169 (by decide))) z13
  replace w23 : WDN H225 q169 55 := WDN.put w23 wH225 rfl (by decide)
  replace hR := hR.kept (wH225.off (Ne.symm (g_ne gq169 hn)))
  clear hTH224
  clear wH225
  refine lv_dup hx hb dX10_init_502 rfl ?_
  refine lv_bipush (v := 55) hx hb dX10_init_503 (by decide) ?_
  refine lv_bipush (v := 32) hx hb dX10_init_505 (by decide) ?_
  refine x_iast C hTH225 hSH225 gq169 rg_127 (by decide) (by decide) (by decide) (Or.inr leq169) dX10_init_507 (fun H226 locsH226 hTH226 hSH226 wH226 => ?_)
  replace z9 := ZR.kept (wH226.off (G_ne gq123 gq169 (by decide))) z9
  replace z10 := ZR.kept (wH226.off (G_ne gq127 gq169 (by decide))) z10
  replace z13 := ZR.kept (wH226.off (G_ne gq139 gq169 (by decide))) z13
  replace w23 : WDN H226 q169 56 := WDN.put w23 wH226 rfl (by decide)
  replace hR := hR.kept (wH226.off (Ne.symm (g_ne gq169 hn)))
  clear hTH225
  clear wH226
  refine lv_dup hx hb dX10_init_508 rfl ?_
  refine lv_bipush (v := 56) hx hb dX10_init_509 (by decide) ?_
  refine lv_bipush (v := 109) hx hb dX10_init_511 (by decide) ?_
  refine x_iast C hTH226 hSH226 gq169 rg_127 (by decide) (by decide) (by decide) (Or.inr leq169) dX10_init_513 (fun H227 locsH227 hTH227 hSH227 wH227 => ?_)
  replace z9 := ZR.kept (wH227.off (G_ne gq123 gq169 (by decide))) z9
  replace z10 := ZR.kept (wH227.off (G_ne gq127 gq169 (by decide))) z10
  replace z13 := ZR.kept (wH227.off (G_ne gq139 gq169 (by decide))) z13
  replace w23 : WDN H227 q169 57 := WDN.put w23 wH227 rfl (by decide)
  replace hR := hR.kept (wH227.off (Ne.symm (g_ne gq169 hn)))
  clear hTH226
  clear wH227
  refine lv_dup hx hb dX10_init_514 rfl ?_
  refine lv_bipush (v := 57) hx hb dX10_init_515 (by decide) ?_
  refine lv_bipush (v := 105) hx hb dX10_init_517 (by decide) ?_
  refine x_iast C hTH227 hSH227 gq169 rg_127 (by decide) (by decide) (by decide) (Or.inr leq169) dX10_init_519 (fun H228 locsH228 hTH228 hSH228 wH228 => ?_)
  replace z9 := ZR.kept (wH228.off (G_ne gq123 gq169 (by decide))) z9
  replace z10 := ZR.kept (wH228.off (G_ne gq127 gq169 (by decide))) z10
  replace z13 := ZR.kept (wH228.off (G_ne gq139 gq169 (by decide))) z13
  replace w23 : WDN H228 q169 58 := WDN.put w23 wH228 rfl (by decide)
  replace hR := hR.kept (wH228.off (Ne.symm (g_ne gq169 hn)))
  clear hTH227
  clear wH228
  refine lv_dup hx hb dX10_init_520 rfl ?_
  refine lv_bipush (v := 58) hx hb dX10_init_521 (by decide) ?_
  refine lv_bipush (v := 100) hx hb dX10_init_523 (by decide) ?_
  refine x_iast C hTH228 hSH228 gq169 rg_127 (by decide) (by decide) (by decide) (Or.inr leq169) dX10_init_525 (fun H229 locsH229 hTH229 hSH229 wH229 => ?_)
  replace z9 := ZR.kept (wH229.off (G_ne gq123 gq169 (by decide))) z9
  replace z10 := ZR.kept (wH229.off (G_ne gq127 gq169 (by decide))) z10
  replace z13 := ZR.kept (wH229.off (G_ne gq139 gq169 (by decide))) z13
  replace w23 : WDN H229 q169 59 := WDN.put w23 wH229 rfl (by decide)
  replace hR := hR.kept (wH229.off (Ne.symm (g_ne gq169 hn)))
  clear hTH228
  clear wH229
  refine lv_dup hx hb dX10_init_526 rfl ?_
  refine lv_bipush (v := 59) hx hb dX10_init_527 (by decide) ?_
  refine lv_bipush (v := 32) hx hb dX10_init_529 (by decide) ?_
  refine x_iast C hTH229 hSH229 gq169 rg_127 (by decide) (by decide) (by decide) (Or.inr leq169) dX10_init_531 (fun H230 locsH230 hTH230 hSH230 wH230 => ?_)
  replace z9 := ZR.kept (wH230.off (G_ne gq123 gq169 (by decide))) z9
  replace z10 := ZR.kept (wH230.off (G_ne gq127 gq169 (by decide))) z10
  replace z13 := ZR.kept (wH230.off (G_ne gq139 gq169 (by decide))) z13
  replace w23 : WDN H230 q169 60 := WDN.put w23 wH230 rfl (by decide)
  replace hR := hR.kept (wH230.off (Ne.symm (g_ne gq169 hn)))
  clear hTH229
  clear wH230
  refine lv_dup hx hb dX10_init_532 rfl ?_
  refine lv_bipush (v := 60) hx hb dX10_init_533 (by decide) ?_
  refine lv_bipush (v := 101) hx hb dX10_init_535 (by decide) ?_
  refine x_iast C hTH230 hSH230 gq169 rg_127 (by decide) (by decide) (by decide) (Or.inr leq169) dX10_init_537 (fun H231 locsH231 hTH231 hSH231 wH231 => ?_)
  replace z9 := ZR.kept (wH231.off (G_ne gq123 gq169 (by decide))) z9
  replace z10 := ZR.kept (wH231.off (G_ne gq127 gq169 (by decide))) z10
  replace z13 := ZR.kept (wH231.off (G_ne gq139 gq169 (by decide))) z13
  replace w23 : WDN H231 q169 61 := WDN.put w23 wH231 rfl (by decide)
  replace hR := hR.kept (wH231.off (Ne.symm (g_ne gq169 hn)))
  clear hTH230
  clear wH231
  refine lv_dup hx hb dX10_init_538 rfl ?_
  refine lv_bipush (v := 61) hx hb dX10_init_539 (by decide) ?_
  refine lv_bipush (v := 110) hx hb dX10_init_541 (by decide) ?_
  refine x_iast C hTH231 hSH231 gq169 rg_127 (by decide) (by decide) (by decide) (Or.inr leq169) dX10_init_543 (fun H232 locsH232 hTH232 hSH232 wH232 => ?_)
  replace z9 := ZR.kept (wH232.off (G_ne gq123 gq169 (by decide))) z9
  replace z10 := ZR.kept (wH232.off (G_ne gq127 gq169 (by decide))) z10
  replace z13 := ZR.kept (wH232.off (G_ne gq139 gq169 (by decide))) z13
  replace w23 : WDN H232 q169 62 := WDN.put w23 wH232 rfl (by decide)
  replace hR := hR.kept (wH232.off (Ne.symm (g_ne gq169 hn)))
  clear hTH231
  clear wH232
  refine lv_dup hx hb dX10_init_544 rfl ?_
  refine lv_bipush (v := 62) hx hb dX10_init_545 (by decide) ?_
  refine lv_bipush (v := 100) hx hb dX10_init_547 (by decide) ?_
  refine x_iast C hTH232 hSH232 gq169 rg_127 (by decide) (by decide) (by decide) (Or.inr leq169) dX10_init_549 (fun H233 locsH233 hTH233 hSH233 wH233 => ?_)
  replace z9 := ZR.kept (wH233.off (G_ne gq123 gq169 (by decide))) z9
  replace z10 := ZR.kept (wH233.off (G_ne gq127 gq169 (by decide))) z10
  replace z13 := ZR.kept (wH233.off (G_ne gq139 gq169 (by decide))) z13
  replace w23 : WDN H233 q169 63 := WDN.put w23 wH233 rfl (by decide)
  replace hR := hR.kept (wH233.off (Ne.symm (g_ne gq169 hn)))
  clear hTH232
  clear wH233
  refine lv_dup hx hb dX10_init_550 rfl ?_
  refine lv_bipush (v := 63) hx hb dX10_init_551 (by decide) ?_
  refine lv_bipush (v := 32) hx hb dX10_init_553 (by decide) ?_
  refine x_iast C hTH233 hSH233 gq169 rg_127 (by decide) (by decide) (by decide) (Or.inr leq169) dX10_init_555 (fun H234 locsH234 hTH234 hSH234 wH234 => ?_)
  replace z9 := ZR.kept (wH234.off (G_ne gq123 gq169 (by decide))) z9
  replace z10 := ZR.kept (wH234.off (G_ne gq127 gq169 (by decide))) z10
  replace z13 := ZR.kept (wH234.off (G_ne gq139 gq169 (by decide))) z13
  replace w23 : WDN H234 q169 64 := WDN.put w23 wH234 rfl (by decide)
  replace hR := hR.kept (wH234.off (Ne.symm (g_ne gq169 hn)))
  clear hTH233
  clear wH234
  refine lv_dup hx hb dX10_init_556 rfl ?_
  refine lv_bipush (v := 64) hx hb dX10_init_557 (by decide) ?_
  refine lv_bipush (v := 116) hx hb dX10_init_559 (by decide) ?_
  refine x_iast C hTH234 hSH234 gq169 rg_127 (by decide) (by decide) (by decide) (Or.inr leq169) dX10_init_561 (fun H235 locsH235 hTH235 hSH235 wH235 => ?_)
  replace z9 := ZR.kept (wH235.off (G_ne gq123 gq169 (by decide))) z9
  replace z10 := ZR.kept (wH235.off (G_ne gq127 gq169 (by decide))) z10
  replace z13 := ZR.kept (wH235.off (G_ne gq139 gq169 (by decide))) z13
  replace w23 : WDN H235 q169 65 := WDN.put w23 wH235 rfl (by decide)
  replace hR := hR.kept (wH235.off (Ne.symm (g_ne gq169 hn)))
  clear hTH234
  clear wH235
  refine lv_dup hx hb dX10_init_562 rfl ?_
  refine lv_bipush (v := 65) hx hb dX10_init_563 (by decide) ?_
  refine lv_bipush (v := 104) hx hb dX10_init_565 (by decide) ?_
  refine x_iast C hTH235 hSH235 gq169 rg_127 (by decide) (by decide) (by decide) (Or.inr leq169) dX10_init_567 (fun H236 locsH236 hTH236 hSH236 wH236 => ?_)
  replace z9 := ZR.kept (wH236.off (G_ne gq123 gq169 (by decide))) z9
  replace z10 := ZR.kept (wH236.off (G_ne gq127 gq169 (by decide))) z10
  replace z13 := ZR.kept (wH236.off (G_ne gq139 gq169 (by decide))) z13
  replace w23 : WDN H236 q169 66 := WDN.put w23 wH236 rfl (by decide)
  replace hR := hR.kept (wH236.off (Ne.symm (g_ne gq169 hn)))
  clear hTH235
  clear wH236
  refine lv_dup hx hb dX10_init_568 rfl ?_
  refine lv_bipush (v := 66) hx hb dX10_init_569 (by decide) ?_
  refine lv_bipush (v := 105) hx hb dX10_init_571 (by decide) ?_
  refine x_iast C hTH236 hSH236 gq169 rg_127 (by decide) (by decide) (by decide) (Or.inr leq169) dX10_init_573 (fun H237 locsH237 hTH237 hSH237 wH237 => ?_)
  replace z9 := ZR.kept (wH237.off (G_ne gq123 gq169 (by decide))) z9
  replace z10 := ZR.kept (wH237.off (G_ne gq127 gq169 (by decide))) z10
  replace z13 := ZR.kept (wH237.off (G_ne gq139 gq169 (by decide))) z13
  replace w23 : WDN H237 q169 67 := WDN.put w23 wH237 rfl (by decide)
  replace hR := hR.kept (wH237.off (Ne.symm (g_ne gq169 hn)))
  clear hTH236
  clear wH237
  refine lv_dup hx hb dX10_init_574 rfl ?_
  refine lv_bipush (v := 67) hx hb dX10_init_575 (by decide) ?_
  refine lv_bipush (v := 99) hx hb dX10_init_577 (by decide) ?_
  refine x_iast C hTH237 hSH237 gq169 rg_127 (by decide) (by decide) (by decide) (Or.inr leq169) dX10_init_579 (fun H238 locsH238 hTH238 hSH238 wH238 => ?_)
  replace z9 := ZR.kept (wH238.off (G_ne gq123 gq169 (by decide))) z9
  replace z10 := ZR.kept (wH238.off (G_ne gq127 gq169 (by decide))) z10
  replace z13 := ZR.kept (wH238.off (G_ne gq139 gq169 (by decide))) z13
  replace w23 : WDN H238 q169 68 := WDN.put w23 wH238 rfl (by decide)
  replace hR := hR.kept (wH238.off (Ne.symm (g_ne gq169 hn)))
  clear hTH237
  clear wH238
  refine lv_dup hx hb dX10_init_580 rfl ?_
  refine lv_bipush (v := 68) hx hb dX10_init_581 (by decide) ?_
  refine lv_bipush (v := 107) hx hb dX10_init_583 (by decide) ?_
  refine x_iast C hTH238 hSH238 gq169 rg_127 (by decide) (by decide) (by decide) (Or.inr leq169) dX10_init_585 (fun H239 locsH239 hTH239 hSH239 wH239 => ?_)
  replace z9 := ZR.kept (wH239.off (G_ne gq123 gq169 (by decide))) z9
  replace z10 := ZR.kept (wH239.off (G_ne gq127 gq169 (by decide))) z10
  replace z13 := ZR.kept (wH239.off (G_ne gq139 gq169 (by decide))) z13
  replace w23 : WDN H239 q169 69 := WDN.put w23 wH239 rfl (by decide)
  replace hR := hR.kept (wH239.off (Ne.symm (g_ne gq169 hn)))
  clear hTH238
  clear wH239
  refine lv_dup hx hb dX10_init_586 rfl ?_
  refine lv_bipush (v := 69) hx hb dX10_init_587 (by decide) ?_
  refine lv_bipush (v := 32) hx hb dX10_init_589 (by decide) ?_
  refine x_iast C hTH239 hSH239 gq169 rg_127 (by decide) (by decide) (by decide) (Or.inr leq169) dX10_init_591 (fun H240 locsH240 hTH240 hSH240 wH240 => ?_)
  replace z9 := ZR.kept (wH240.off (G_ne gq123 gq169 (by decide))) z9
  replace z10 := ZR.kept (wH240.off (G_ne gq127 gq169 (by decide))) z10
  replace z13 := ZR.kept (wH240.off (G_ne gq139 gq169 (by decide))) z13
  replace w23 : WDN H240 q169 70 := WDN.put w23 wH240 rfl (by decide)
  replace hR := hR.kept (wH240.off (Ne.symm (g_ne gq169 hn)))
  clear hTH239
  clear wH240
  refine lv_dup hx hb dX10_init_592 rfl ?_
  refine lv_bipush (v := 70) hx hb dX10_init_593 (by decide) ?_
  refine lv_bipush (v := 103) hx hb dX10_init_595 (by decide) ?_
  refine x_iast C hTH240 hSH240 gq169 rg_127 (by decide) (by decide) (by decide) (Or.inr leq169) dX10_init_597 (fun H241 locsH241 hTH241 hSH241 wH241 => ?_)
  replace z9 := ZR.kept (wH241.off (G_ne gq123 gq169 (by decide))) z9
  replace z10 := ZR.kept (wH241.off (G_ne gq127 gq169 (by decide))) z10
  replace z13 := ZR.kept (wH241.off (G_ne gq139 gq169 (by decide))) z13
  replace w23 : WDN H241 q169 71 := WDN.put w23 wH241 rfl (by decide)
  replace hR := hR.kept (wH241.off (Ne.symm (g_ne gq169 hn)))
  clear hTH240
  clear wH241
  refine lv_dup hx hb dX10_init_598 rfl ?_
  refine lv_bipush (v := 71) hx hb dX10_init_599 (by decide) ?_
  refine lv_bipush (v := 114) hx hb dX10_init_601 (by decide) ?_
  refine x_iast C hTH241 hSH241 gq169 rg_127 (by decide) (by decide) (by decide) (Or.inr leq169) dX10_init_603 (fun H242 locsH242 hTH242 hSH242 wH242 => ?_)
  replace z9 := ZR.kept (wH242.off (G_ne gq123 gq169 (by decide))) z9
  replace z10 := ZR.kept (wH242.off (G_ne gq127 gq169 (by decide))) z10
  replace z13 := ZR.kept (wH242.off (G_ne gq139 gq169 (by decide))) z13
  replace w23 : WDN H242 q169 72 := WDN.put w23 wH242 rfl (by decide)
  replace hR := hR.kept (wH242.off (Ne.symm (g_ne gq169 hn)))
  clear hTH241
  clear wH242
  refine lv_dup hx hb dX10_init_604 rfl ?_
  refine lv_bipush (v := 72) hx hb dX10_init_605 (by decide) ?_
  refine lv_bipush (v := 97) hx hb dX10_init_607 (by decide) ?_
  refine x_iast C hTH242 hSH242 gq169 rg_127 (by decide) (by decide) (by decide) (Or.inr leq169) dX10_init_609 (fun H243 locsH243 hTH243 hSH243 wH243 => ?_)
  replace z9 := ZR.kept (wH243.off (G_ne gq123 gq169 (by decide))) z9
  replace z10 := ZR.kept (wH243.off (G_ne gq127 gq169 (by decide))) z10
  replace z13 := ZR.kept (wH243.off (G_ne gq139 gq169 (by decide))) z13
  replace w23 : WDN H243 q169 73 := WDN.put w23 wH243 rfl (by decide)
  replace hR := hR.kept (wH243.off (Ne.symm (g_ne gq169 hn)))
  clear hTH242
  clear wH243
  refine lv_dup hx hb dX10_init_610 rfl ?_
  refine lv_bipush (v := 73) hx hb dX10_init_611 (by decide) ?_
  refine lv_bipush (v := 105) hx hb dX10_init_613 (by decide) ?_
  refine x_iast C hTH243 hSH243 gq169 rg_127 (by decide) (by decide) (by decide) (Or.inr leq169) dX10_init_615 (fun H244 locsH244 hTH244 hSH244 wH244 => ?_)
  replace z9 := ZR.kept (wH244.off (G_ne gq123 gq169 (by decide))) z9
  replace z10 := ZR.kept (wH244.off (G_ne gq127 gq169 (by decide))) z10
  replace z13 := ZR.kept (wH244.off (G_ne gq139 gq169 (by decide))) z13
  replace w23 : WDN H244 q169 74 := WDN.put w23 wH244 rfl (by decide)
  replace hR := hR.kept (wH244.off (Ne.symm (g_ne gq169 hn)))
  clear hTH243
  clear wH244
  refine lv_dup hx hb dX10_init_616 rfl ?_
  refine lv_bipush (v := 74) hx hb dX10_init_617 (by decide) ?_
  refine lv_bipush (v := 110) hx hb dX10_init_619 (by decide) ?_
  refine x_iast C hTH244 hSH244 gq169 rg_127 (by decide) (by decide) (by decide) (Or.inr leq169) dX10_init_621 (fun H245 locsH245 hTH245 hSH245 wH245 => ?_)
  replace z9 := ZR.kept (wH245.off (G_ne gq123 gq169 (by decide))) z9
  replace z10 := ZR.kept (wH245.off (G_ne gq127 gq169 (by decide))) z10
  replace z13 := ZR.kept (wH245.off (G_ne gq139 gq169 (by decide))) z13
  replace w23 : WDN H245 q169 75 := WDN.put w23 wH245 rfl (by decide)
  replace hR := hR.kept (wH245.off (Ne.symm (g_ne gq169 hn)))
  clear hTH244
  clear wH245
  refine lv_dup hx hb dX10_init_622 rfl ?_
  refine lv_bipush (v := 75) hx hb dX10_init_623 (by decide) ?_
  refine lv_bipush (v := 32) hx hb dX10_init_625 (by decide) ?_
  refine x_iast C hTH245 hSH245 gq169 rg_127 (by decide) (by decide) (by decide) (Or.inr leq169) dX10_init_627 (fun H246 locsH246 hTH246 hSH246 wH246 => ?_)
  replace z9 := ZR.kept (wH246.off (G_ne gq123 gq169 (by decide))) z9
  replace z10 := ZR.kept (wH246.off (G_ne gq127 gq169 (by decide))) z10
  replace z13 := ZR.kept (wH246.off (G_ne gq139 gq169 (by decide))) z13
  replace w23 : WDN H246 q169 76 := WDN.put w23 wH246 rfl (by decide)
  replace hR := hR.kept (wH246.off (Ne.symm (g_ne gq169 hn)))
  clear hTH245
  clear wH246
  refine lv_dup hx hb dX10_init_628 rfl ?_
  refine lv_bipush (v := 76) hx hb dX10_init_629 (by decide) ?_
  refine lv_bipush (v := 104) hx hb dX10_init_631 (by decide) ?_
  refine x_iast C hTH246 hSH246 gq169 rg_127 (by decide) (by decide) (by decide) (Or.inr leq169) dX10_init_633 (fun H247 locsH247 hTH247 hSH247 wH247 => ?_)
  replace z9 := ZR.kept (wH247.off (G_ne gq123 gq169 (by decide))) z9
  replace z10 := ZR.kept (wH247.off (G_ne gq127 gq169 (by decide))) z10
  replace z13 := ZR.kept (wH247.off (G_ne gq139 gq169 (by decide))) z13
  replace w23 : WDN H247 q169 77 := WDN.put w23 wH247 rfl (by decide)
  replace hR := hR.kept (wH247.off (Ne.symm (g_ne gq169 hn)))
  clear hTH246
  clear wH247
  refine lv_dup hx hb dX10_init_634 rfl ?_
  refine lv_bipush (v := 77) hx hb dX10_init_635 (by decide) ?_
  refine lv_bipush (v := 101) hx hb dX10_init_637 (by decide) ?_
  refine x_iast C hTH247 hSH247 gq169 rg_127 (by decide) (by decide) (by decide) (Or.inr leq169) dX10_init_639 (fun H248 locsH248 hTH248 hSH248 wH248 => ?_)
  replace z9 := ZR.kept (wH248.off (G_ne gq123 gq169 (by decide))) z9
  replace z10 := ZR.kept (wH248.off (G_ne gq127 gq169 (by decide))) z10
  replace z13 := ZR.kept (wH248.off (G_ne gq139 gq169 (by decide))) z13
  replace w23 : WDN H248 q169 78 := WDN.put w23 wH248 rfl (by decide)
  replace hR := hR.kept (wH248.off (Ne.symm (g_ne gq169 hn)))
  clear hTH247
  clear wH248
  refine lv_dup hx hb dX10_init_640 rfl ?_
  refine lv_bipush (v := 78) hx hb dX10_init_641 (by decide) ?_
  refine lv_bipush (v := 97) hx hb dX10_init_643 (by decide) ?_
  refine x_iast C hTH248 hSH248 gq169 rg_127 (by decide) (by decide) (by decide) (Or.inr leq169) dX10_init_645 (fun H249 locsH249 hTH249 hSH249 wH249 => ?_)
  replace z9 := ZR.kept (wH249.off (G_ne gq123 gq169 (by decide))) z9
  replace z10 := ZR.kept (wH249.off (G_ne gq127 gq169 (by decide))) z10
  replace z13 := ZR.kept (wH249.off (G_ne gq139 gq169 (by decide))) z13
  replace w23 : WDN H249 q169 79 := WDN.put w23 wH249 rfl (by decide)
  replace hR := hR.kept (wH249.off (Ne.symm (g_ne gq169 hn)))
  clear hTH248
  clear wH249
  refine lv_dup hx hb dX10_init_646 rfl ?_
  refine lv_bipush (v := 79) hx hb dX10_init_647 (by decide) ?_
  refine lv_bipush (v := 118) hx hb dX10_init_649 (by decide) ?_
  refine x_iast C hTH249 hSH249 gq169 rg_127 (by decide) (by decide) (by decide) (Or.inr leq169) dX10_init_651 (fun H250 locsH250 hTH250 hSH250 wH250 => ?_)
  replace z9 := ZR.kept (wH250.off (G_ne gq123 gq169 (by decide))) z9
  replace z10 := ZR.kept (wH250.off (G_ne gq127 gq169 (by decide))) z10
  replace z13 := ZR.kept (wH250.off (G_ne gq139 gq169 (by decide))) z13
  replace w23 : WDN H250 q169 80 := WDN.put w23 wH250 rfl (by decide)
  replace hR := hR.kept (wH250.off (Ne.symm (g_ne gq169 hn)))
  clear hTH249
  clear wH250
  refine lv_dup hx hb dX10_init_652 rfl ?_
  refine lv_bipush (v := 80) hx hb dX10_init_653 (by decide) ?_
  refine lv_bipush (v := 121) hx hb dX10_init_655 (by decide) ?_
  refine x_iast C hTH250 hSH250 gq169 rg_127 (by decide) (by decide) (by decide) (Or.inr leq169) dX10_init_657 (fun H251 locsH251 hTH251 hSH251 wH251 => ?_)
  replace z9 := ZR.kept (wH251.off (G_ne gq123 gq169 (by decide))) z9
  replace z10 := ZR.kept (wH251.off (G_ne gq127 gq169 (by decide))) z10
  replace z13 := ZR.kept (wH251.off (G_ne gq139 gq169 (by decide))) z13
  replace w23 : WDN H251 q169 81 := WDN.put w23 wH251 rfl (by decide)
  replace hR := hR.kept (wH251.off (Ne.symm (g_ne gq169 hn)))
  clear hTH250
  clear wH251
  refine lv_dup hx hb dX10_init_658 rfl ?_
  refine lv_bipush (v := 81) hx hb dX10_init_659 (by decide) ?_
  refine lv_bipush (v := 32) hx hb dX10_init_661 (by decide) ?_
  refine x_iast C hTH251 hSH251 gq169 rg_127 (by decide) (by decide) (by decide) (Or.inr leq169) dX10_init_663 (fun H252 locsH252 hTH252 hSH252 wH252 => ?_)
  replace z9 := ZR.kept (wH252.off (G_ne gq123 gq169 (by decide))) z9
  replace z10 := ZR.kept (wH252.off (G_ne gq127 gq169 (by decide))) z10
  replace z13 := ZR.kept (wH252.off (G_ne gq139 gq169 (by decide))) z13
  replace w23 : WDN H252 q169 82 := WDN.put w23 wH252 rfl (by decide)
  replace hR := hR.kept (wH252.off (Ne.symm (g_ne gq169 hn)))
  clear hTH251
  clear wH252
  refine lv_dup hx hb dX10_init_664 rfl ?_
  refine lv_bipush (v := 82) hx hb dX10_init_665 (by decide) ?_
  refine lv_bipush (v := 119) hx hb dX10_init_667 (by decide) ?_
  refine x_iast C hTH252 hSH252 gq169 rg_127 (by decide) (by decide) (by decide) (Or.inr leq169) dX10_init_669 (fun H253 locsH253 hTH253 hSH253 wH253 => ?_)
  replace z9 := ZR.kept (wH253.off (G_ne gq123 gq169 (by decide))) z9
  replace z10 := ZR.kept (wH253.off (G_ne gq127 gq169 (by decide))) z10
  replace z13 := ZR.kept (wH253.off (G_ne gq139 gq169 (by decide))) z13
  replace w23 : WDN H253 q169 83 := WDN.put w23 wH253 rfl (by decide)
  replace hR := hR.kept (wH253.off (Ne.symm (g_ne gq169 hn)))
  clear hTH252
  clear wH253
  refine lv_dup hx hb dX10_init_670 rfl ?_
  refine lv_bipush (v := 83) hx hb dX10_init_671 (by decide) ?_
  refine lv_bipush (v := 97) hx hb dX10_init_673 (by decide) ?_
  refine x_iast C hTH253 hSH253 gq169 rg_127 (by decide) (by decide) (by decide) (Or.inr leq169) dX10_init_675 (fun H254 locsH254 hTH254 hSH254 wH254 => ?_)
  replace z9 := ZR.kept (wH254.off (G_ne gq123 gq169 (by decide))) z9
  replace z10 := ZR.kept (wH254.off (G_ne gq127 gq169 (by decide))) z10
  replace z13 := ZR.kept (wH254.off (G_ne gq139 gq169 (by decide))) z13
  replace w23 : WDN H254 q169 84 := WDN.put w23 wH254 rfl (by decide)
  replace hR := hR.kept (wH254.off (Ne.symm (g_ne gq169 hn)))
  clear hTH253
  clear wH254
  refine lv_dup hx hb dX10_init_676 rfl ?_
  refine lv_bipush (v := 84) hx hb dX10_init_677 (by decide) ?_
  refine lv_bipush (v := 120) hx hb dX10_init_679 (by decide) ?_
  refine x_iast C hTH254 hSH254 gq169 rg_127 (by decide) (by decide) (by decide) (Or.inr leq169) dX10_init_681 (fun H255 locsH255 hTH255 hSH255 wH255 => ?_)
  replace z9 := ZR.kept (wH255.off (G_ne gq123 gq169 (by decide))) z9
  replace z10 := ZR.kept (wH255.off (G_ne gq127 gq169 (by decide))) z10
  replace z13 := ZR.kept (wH255.off (G_ne gq139 gq169 (by decide))) z13
  replace w23 : WDN H255 q169 85 := WDN.put w23 wH255 rfl (by decide)
  replace hR := hR.kept (wH255.off (Ne.symm (g_ne gq169 hn)))
  clear hTH254
  clear wH255
  refine lv_dup hx hb dX10_init_682 rfl ?_
  refine lv_bipush (v := 85) hx hb dX10_init_683 (by decide) ?_
  refine lv_bipush (v := 32) hx hb dX10_init_685 (by decide) ?_
  refine x_iast C hTH255 hSH255 gq169 rg_127 (by decide) (by decide) (by decide) (Or.inr leq169) dX10_init_687 (fun H256 locsH256 hTH256 hSH256 wH256 => ?_)
  replace z9 := ZR.kept (wH256.off (G_ne gq123 gq169 (by decide))) z9
  replace z10 := ZR.kept (wH256.off (G_ne gq127 gq169 (by decide))) z10
  replace z13 := ZR.kept (wH256.off (G_ne gq139 gq169 (by decide))) z13
  replace w23 : WDN H256 q169 86 := WDN.put w23 wH256 rfl (by decide)
  replace hR := hR.kept (wH256.off (Ne.symm (g_ne gq169 hn)))
  clear hTH255
  clear wH256
  refine lv_dup hx hb dX10_init_688 rfl ?_
  refine lv_bipush (v := 86) hx hb dX10_init_689 (by decide) ?_
  refine lv_bipush (v := 104) hx hb dX10_init_691 (by decide) ?_
  refine x_iast C hTH256 hSH256 gq169 rg_127 (by decide) (by decide) (by decide) (Or.inr leq169) dX10_init_693 (fun H257 locsH257 hTH257 hSH257 wH257 => ?_)
  replace z9 := ZR.kept (wH257.off (G_ne gq123 gq169 (by decide))) z9
  replace z10 := ZR.kept (wH257.off (G_ne gq127 gq169 (by decide))) z10
  replace z13 := ZR.kept (wH257.off (G_ne gq139 gq169 (by decide))) z13
  replace w23 : WDN H257 q169 87 := WDN.put w23 wH257 rfl (by decide)
  replace hR := hR.kept (wH257.off (Ne.symm (g_ne gq169 hn)))
  clear hTH256
  clear wH257
  refine lv_dup hx hb dX10_init_694 rfl ?_
  refine lv_bipush (v := 87) hx hb dX10_init_695 (by decide) ?_
  refine lv_bipush (v := 101) hx hb dX10_init_697 (by decide) ?_
  refine x_iast C hTH257 hSH257 gq169 rg_127 (by decide) (by decide) (by decide) (Or.inr leq169) dX10_init_699 (fun H258 locsH258 hTH258 hSH258 wH258 => ?_)
  replace z9 := ZR.kept (wH258.off (G_ne gq123 gq169 (by decide))) z9
  replace z10 := ZR.kept (wH258.off (G_ne gq127 gq169 (by decide))) z10
  replace z13 := ZR.kept (wH258.off (G_ne gq139 gq169 (by decide))) z13
  replace w23 : WDN H258 q169 88 := WDN.put w23 wH258 rfl (by decide)
  replace hR := hR.kept (wH258.off (Ne.symm (g_ne gq169 hn)))
  clear hTH257
  clear wH258
  refine lv_dup hx hb dX10_init_700 rfl ?_
  refine lv_bipush (v := 88) hx hb dX10_init_701 (by decide) ?_
  refine lv_bipush (v := 97) hx hb dX10_init_703 (by decide) ?_
  refine x_iast C hTH258 hSH258 gq169 rg_127 (by decide) (by decide) (by decide) (Or.inr leq169) dX10_init_705 (fun H259 locsH259 hTH259 hSH259 wH259 => ?_)
  replace z9 := ZR.kept (wH259.off (G_ne gq123 gq169 (by decide))) z9
  replace z10 := ZR.kept (wH259.off (G_ne gq127 gq169 (by decide))) z10
  replace z13 := ZR.kept (wH259.off (G_ne gq139 gq169 (by decide))) z13
  replace w23 : WDN H259 q169 89 := WDN.put w23 wH259 rfl (by decide)
  replace hR := hR.kept (wH259.off (Ne.symm (g_ne gq169 hn)))
  clear hTH258
  clear wH259
  refine lv_dup hx hb dX10_init_706 rfl ?_
  refine lv_bipush (v := 89) hx hb dX10_init_707 (by decide) ?_
  refine lv_bipush (v := 116) hx hb dX10_init_709 (by decide) ?_
  refine x_iast C hTH259 hSH259 gq169 rg_127 (by decide) (by decide) (by decide) (Or.inr leq169) dX10_init_711 (fun H260 locsH260 hTH260 hSH260 wH260 => ?_)
  replace z9 := ZR.kept (wH260.off (G_ne gq123 gq169 (by decide))) z9
  replace z10 := ZR.kept (wH260.off (G_ne gq127 gq169 (by decide))) z10
  replace z13 := ZR.kept (wH260.off (G_ne gq139 gq169 (by decide))) z13
  replace w23 : WDN H260 q169 90 := WDN.put w23 wH260 rfl (by decide)
  replace hR := hR.kept (wH260.off (Ne.symm (g_ne gq169 hn)))
  clear hTH259
  clear wH260
  refine lv_dup hx hb dX10_init_712 rfl ?_
  refine lv_bipush (v := 90) hx hb dX10_init_713 (by decide) ?_
  refine lv_bipush (v := 32) hx hb dX10_init_715 (by decide) ?_
  refine x_iast C hTH260 hSH260 gq169 rg_127 (by decide) (by decide) (by decide) (Or.inr leq169) dX10_init_717 (fun H261 locsH261 hTH261 hSH261 wH261 => ?_)
  replace z9 := ZR.kept (wH261.off (G_ne gq123 gq169 (by decide))) z9
  replace z10 := ZR.kept (wH261.off (G_ne gq127 gq169 (by decide))) z10
  replace z13 := ZR.kept (wH261.off (G_ne gq139 gq169 (by decide))) z13
  replace w23 : WDN H261 q169 91 := WDN.put w23 wH261 rfl (by decide)
  replace hR := hR.kept (wH261.off (Ne.symm (g_ne gq169 hn)))
  clear hTH260
  clear wH261
  refine lv_dup hx hb dX10_init_718 rfl ?_
  refine lv_bipush (v := 91) hx hb dX10_init_719 (by decide) ?_
  refine lv_bipush (v := 119) hx hb dX10_init_721 (by decide) ?_
  refine x_iast C hTH261 hSH261 gq169 rg_127 (by decide) (by decide) (by decide) (Or.inr leq169) dX10_init_723 (fun H262 locsH262 hTH262 hSH262 wH262 => ?_)
  replace z9 := ZR.kept (wH262.off (G_ne gq123 gq169 (by decide))) z9
  replace z10 := ZR.kept (wH262.off (G_ne gq127 gq169 (by decide))) z10
  replace z13 := ZR.kept (wH262.off (G_ne gq139 gq169 (by decide))) z13
  replace w23 : WDN H262 q169 92 := WDN.put w23 wH262 rfl (by decide)
  replace hR := hR.kept (wH262.off (Ne.symm (g_ne gq169 hn)))
  clear hTH261
  clear wH262
  refine lv_dup hx hb dX10_init_724 rfl ?_
  refine lv_bipush (v := 92) hx hb dX10_init_725 (by decide) ?_
  refine lv_bipush (v := 101) hx hb dX10_init_727 (by decide) ?_
  refine x_iast C hTH262 hSH262 gq169 rg_127 (by decide) (by decide) (by decide) (Or.inr leq169) dX10_init_729 (fun H263 locsH263 hTH263 hSH263 wH263 => ?_)
  replace z9 := ZR.kept (wH263.off (G_ne gq123 gq169 (by decide))) z9
  replace z10 := ZR.kept (wH263.off (G_ne gq127 gq169 (by decide))) z10
  replace z13 := ZR.kept (wH263.off (G_ne gq139 gq169 (by decide))) z13
  replace w23 : WDN H263 q169 93 := WDN.put w23 wH263 rfl (by decide)
  replace hR := hR.kept (wH263.off (Ne.symm (g_ne gq169 hn)))
  clear hTH262
  clear wH263
  refine lv_dup hx hb dX10_init_730 rfl ?_
  refine lv_bipush (v := 93) hx hb dX10_init_731 (by decide) ?_
  refine lv_bipush (v := 116) hx hb dX10_init_733 (by decide) ?_
  refine x_iast C hTH263 hSH263 gq169 rg_127 (by decide) (by decide) (by decide) (Or.inr leq169) dX10_init_735 (fun H264 locsH264 hTH264 hSH264 wH264 => ?_)
  replace z9 := ZR.kept (wH264.off (G_ne gq123 gq169 (by decide))) z9
  replace z10 := ZR.kept (wH264.off (G_ne gq127 gq169 (by decide))) z10
  replace z13 := ZR.kept (wH264.off (G_ne gq139 gq169 (by decide))) z13
  replace w23 : WDN H264 q169 94 := WDN.put w23 wH264 rfl (by decide)
  replace hR := hR.kept (wH264.off (Ne.symm (g_ne gq169 hn)))
  clear hTH263
  clear wH264
  refine lv_dup hx hb dX10_init_736 rfl ?_
  refine lv_bipush (v := 94) hx hb dX10_init_737 (by decide) ?_
  refine lv_bipush (v := 32) hx hb dX10_init_739 (by decide) ?_
  refine x_iast C hTH264 hSH264 gq169 rg_127 (by decide) (by decide) (by decide) (Or.inr leq169) dX10_init_741 (fun H265 locsH265 hTH265 hSH265 wH265 => ?_)
  replace z9 := ZR.kept (wH265.off (G_ne gq123 gq169 (by decide))) z9
  replace z10 := ZR.kept (wH265.off (G_ne gq127 gq169 (by decide))) z10
  replace z13 := ZR.kept (wH265.off (G_ne gq139 gq169 (by decide))) z13
  replace w23 : WDN H265 q169 95 := WDN.put w23 wH265 rfl (by decide)
  replace hR := hR.kept (wH265.off (Ne.symm (g_ne gq169 hn)))
  clear hTH264
  clear wH265
  refine lv_dup hx hb dX10_init_742 rfl ?_
  refine lv_bipush (v := 95) hx hb dX10_init_743 (by decide) ?_
  refine lv_bipush (v := 108) hx hb dX10_init_745 (by decide) ?_
  refine x_iast C hTH265 hSH265 gq169 rg_127 (by decide) (by decide) (by decide) (Or.inr leq169) dX10_init_747 (fun H266 locsH266 hTH266 hSH266 wH266 => ?_)
  replace z9 := ZR.kept (wH266.off (G_ne gq123 gq169 (by decide))) z9
  replace z10 := ZR.kept (wH266.off (G_ne gq127 gq169 (by decide))) z10
  replace z13 := ZR.kept (wH266.off (G_ne gq139 gq169 (by decide))) z13
  replace w23 : WDN H266 q169 96 := WDN.put w23 wH266 rfl (by decide)
  replace hR := hR.kept (wH266.off (Ne.symm (g_ne gq169 hn)))
  clear hTH265
  clear wH266
  refine lv_dup hx hb dX10_init_748 rfl ?_
  refine lv_bipush (v := 96) hx hb dX10_init_749 (by decide) ?_
  refine lv_bipush (v := 111) hx hb dX10_init_751 (by decide) ?_
  refine x_iast C hTH266 hSH266 gq169 rg_127 (by decide) (by decide) (by decide) (Or.inr leq169) dX10_init_753 (fun H267 locsH267 hTH267 hSH267 wH267 => ?_)
  replace z9 := ZR.kept (wH267.off (G_ne gq123 gq169 (by decide))) z9
  replace z10 := ZR.kept (wH267.off (G_ne gq127 gq169 (by decide))) z10
  replace z13 := ZR.kept (wH267.off (G_ne gq139 gq169 (by decide))) z13
  replace w23 : WDN H267 q169 97 := WDN.put w23 wH267 rfl (by decide)
  replace hR := hR.kept (wH267.off (Ne.symm (g_ne gq169 hn)))
  clear hTH266
  clear wH267
  refine lv_dup hx hb dX10_init_754 rfl ?_
  refine lv_bipush (v := 97) hx hb dX10_init_755 (by decide) ?_
  refine lv_bipush (v := 119) hx hb dX10_init_757 (by decide) ?_
  refine x_iast C hTH267 hSH267 gq169 rg_127 (by decide) (by decide) (by decide) (Or.inr leq169) dX10_init_759 (fun H268 locsH268 hTH268 hSH268 wH268 => ?_)
  replace z9 := ZR.kept (wH268.off (G_ne gq123 gq169 (by decide))) z9
  replace z10 := ZR.kept (wH268.off (G_ne gq127 gq169 (by decide))) z10
  replace z13 := ZR.kept (wH268.off (G_ne gq139 gq169 (by decide))) z13
  replace w23 : WDN H268 q169 98 := WDN.put w23 wH268 rfl (by decide)
  replace hR := hR.kept (wH268.off (Ne.symm (g_ne gq169 hn)))
  clear hTH267
  clear wH268
  refine lv_dup hx hb dX10_init_760 rfl ?_
  refine lv_bipush (v := 98) hx hb dX10_init_761 (by decide) ?_
  refine lv_bipush (v := 32) hx hb dX10_init_763 (by decide) ?_
  refine x_iast C hTH268 hSH268 gq169 rg_127 (by decide) (by decide) (by decide) (Or.inr leq169) dX10_init_765 (fun H269 locsH269 hTH269 hSH269 wH269 => ?_)
  replace z9 := ZR.kept (wH269.off (G_ne gq123 gq169 (by decide))) z9
  replace z10 := ZR.kept (wH269.off (G_ne gq127 gq169 (by decide))) z10
  replace z13 := ZR.kept (wH269.off (G_ne gq139 gq169 (by decide))) z13
  replace w23 : WDN H269 q169 99 := WDN.put w23 wH269 rfl (by decide)
  replace hR := hR.kept (wH269.off (Ne.symm (g_ne gq169 hn)))
  clear hTH268
  clear wH269
  refine lv_dup hx hb dX10_init_766 rfl ?_
  refine lv_bipush (v := 99) hx hb dX10_init_767 (by decide) ?_
  refine lv_bipush (v := 104) hx hb dX10_init_769 (by decide) ?_
  refine x_iast C hTH269 hSH269 gq169 rg_127 (by decide) (by decide) (by decide) (Or.inr leq169) dX10_init_771 (fun H270 locsH270 hTH270 hSH270 wH270 => ?_)
  replace z9 := ZR.kept (wH270.off (G_ne gq123 gq169 (by decide))) z9
  replace z10 := ZR.kept (wH270.off (G_ne gq127 gq169 (by decide))) z10
  replace z13 := ZR.kept (wH270.off (G_ne gq139 gq169 (by decide))) z13
  replace w23 : WDN H270 q169 100 := WDN.put w23 wH270 rfl (by decide)
  replace hR := hR.kept (wH270.off (Ne.symm (g_ne gq169 hn)))
  clear hTH269
  clear wH270
  refine lv_dup hx hb dX10_init_772 rfl ?_
  refine lv_bipush (v := 100) hx hb dX10_init_773 (by decide) ?_
  refine lv_bipush (v := 105) hx hb dX10_init_775 (by decide) ?_
  refine x_iast C hTH270 hSH270 gq169 rg_127 (by decide) (by decide) (by decide) (Or.inr leq169) dX10_init_777 (fun H271 locsH271 hTH271 hSH271 wH271 => ?_)
  replace z9 := ZR.kept (wH271.off (G_ne gq123 gq169 (by decide))) z9
  replace z10 := ZR.kept (wH271.off (G_ne gq127 gq169 (by decide))) z10
  replace z13 := ZR.kept (wH271.off (G_ne gq139 gq169 (by decide))) z13
  replace w23 : WDN H271 q169 101 := WDN.put w23 wH271 rfl (by decide)
  replace hR := hR.kept (wH271.off (Ne.symm (g_ne gq169 hn)))
  clear hTH270
  clear wH271
  refine lv_dup hx hb dX10_init_778 rfl ?_
  refine lv_bipush (v := 101) hx hb dX10_init_779 (by decide) ?_
  refine lv_bipush (v := 103) hx hb dX10_init_781 (by decide) ?_
  refine x_iast C hTH271 hSH271 gq169 rg_127 (by decide) (by decide) (by decide) (Or.inr leq169) dX10_init_783 (fun H272 locsH272 hTH272 hSH272 wH272 => ?_)
  replace z9 := ZR.kept (wH272.off (G_ne gq123 gq169 (by decide))) z9
  replace z10 := ZR.kept (wH272.off (G_ne gq127 gq169 (by decide))) z10
  replace z13 := ZR.kept (wH272.off (G_ne gq139 gq169 (by decide))) z13
  replace w23 : WDN H272 q169 102 := WDN.put w23 wH272 rfl (by decide)
  replace hR := hR.kept (wH272.off (Ne.symm (g_ne gq169 hn)))
  clear hTH271
  clear wH272
  refine lv_dup hx hb dX10_init_784 rfl ?_
  refine lv_bipush (v := 102) hx hb dX10_init_785 (by decide) ?_
  refine lv_bipush (v := 104) hx hb dX10_init_787 (by decide) ?_
  refine x_iast C hTH272 hSH272 gq169 rg_127 (by decide) (by decide) (by decide) (Or.inr leq169) dX10_init_789 (fun H273 locsH273 hTH273 hSH273 wH273 => ?_)
  replace z9 := ZR.kept (wH273.off (G_ne gq123 gq169 (by decide))) z9
  replace z10 := ZR.kept (wH273.off (G_ne gq127 gq169 (by decide))) z10
  replace z13 := ZR.kept (wH273.off (G_ne gq139 gq169 (by decide))) z13
  replace w23 : WDN H273 q169 103 := WDN.put w23 wH273 rfl (by decide)
  replace hR := hR.kept (wH273.off (Ne.symm (g_ne gq169 hn)))
  clear hTH272
  clear wH273
  refine lv_dup hx hb dX10_init_790 rfl ?_
  refine lv_bipush (v := 103) hx hb dX10_init_791 (by decide) ?_
  refine lv_bipush (v := 32) hx hb dX10_init_793 (by decide) ?_
  refine x_iast C hTH273 hSH273 gq169 rg_127 (by decide) (by decide) (by decide) (Or.inr leq169) dX10_init_795 (fun H274 locsH274 hTH274 hSH274 wH274 => ?_)
  replace z9 := ZR.kept (wH274.off (G_ne gq123 gq169 (by decide))) z9
  replace z10 := ZR.kept (wH274.off (G_ne gq127 gq169 (by decide))) z10
  replace z13 := ZR.kept (wH274.off (G_ne gq139 gq169 (by decide))) z13
  replace w23 : WDN H274 q169 104 := WDN.put w23 wH274 rfl (by decide)
  replace hR := hR.kept (wH274.off (Ne.symm (g_ne gq169 hn)))
  clear hTH273
  clear wH274
  refine lv_dup hx hb dX10_init_796 rfl ?_
  refine lv_bipush (v := 104) hx hb dX10_init_797 (by decide) ?_
  refine lv_bipush (v := 116) hx hb dX10_init_799 (by decide) ?_
  refine x_iast C hTH274 hSH274 gq169 rg_127 (by decide) (by decide) (by decide) (Or.inr leq169) dX10_init_801 (fun H275 locsH275 hTH275 hSH275 wH275 => ?_)
  replace z9 := ZR.kept (wH275.off (G_ne gq123 gq169 (by decide))) z9
  replace z10 := ZR.kept (wH275.off (G_ne gq127 gq169 (by decide))) z10
  replace z13 := ZR.kept (wH275.off (G_ne gq139 gq169 (by decide))) z13
  replace w23 : WDN H275 q169 105 := WDN.put w23 wH275 rfl (by decide)
  replace hR := hR.kept (wH275.off (Ne.symm (g_ne gq169 hn)))
  clear hTH274
  clear wH275
  refine lv_dup hx hb dX10_init_802 rfl ?_
  refine lv_bipush (v := 105) hx hb dX10_init_803 (by decide) ?_
  refine lv_bipush (v := 111) hx hb dX10_init_805 (by decide) ?_
  refine x_iast C hTH275 hSH275 gq169 rg_127 (by decide) (by decide) (by decide) (Or.inr leq169) dX10_init_807 (fun H276 locsH276 hTH276 hSH276 wH276 => ?_)
  replace z9 := ZR.kept (wH276.off (G_ne gq123 gq169 (by decide))) z9
  replace z10 := ZR.kept (wH276.off (G_ne gq127 gq169 (by decide))) z10
  replace z13 := ZR.kept (wH276.off (G_ne gq139 gq169 (by decide))) z13
  replace w23 : WDN H276 q169 106 := WDN.put w23 wH276 rfl (by decide)
  replace hR := hR.kept (wH276.off (Ne.symm (g_ne gq169 hn)))
  clear hTH275
  clear wH276
  refine lv_dup hx hb dX10_init_808 rfl ?_
  refine lv_bipush (v := 106) hx hb dX10_init_809 (by decide) ?_
  refine lv_bipush (v := 112) hx hb dX10_init_811 (by decide) ?_
  refine x_iast C hTH276 hSH276 gq169 rg_127 (by decide) (by decide) (by decide) (Or.inr leq169) dX10_init_813 (fun H277 locsH277 hTH277 hSH277 wH277 => ?_)
  replace z9 := ZR.kept (wH277.off (G_ne gq123 gq169 (by decide))) z9
  replace z10 := ZR.kept (wH277.off (G_ne gq127 gq169 (by decide))) z10
  replace z13 := ZR.kept (wH277.off (G_ne gq139 gq169 (by decide))) z13
  replace w23 : WDN H277 q169 107 := WDN.put w23 wH277 rfl (by decide)
  replace hR := hR.kept (wH277.off (Ne.symm (g_ne gq169 hn)))
  clear hTH276
  clear wH277
  refine lv_dup hx hb dX10_init_814 rfl ?_
  refine lv_bipush (v := 107) hx hb dX10_init_815 (by decide) ?_
  refine lv_bipush (v := 32) hx hb dX10_init_817 (by decide) ?_
  refine x_iast C hTH277 hSH277 gq169 rg_127 (by decide) (by decide) (by decide) (Or.inr leq169) dX10_init_819 (fun H278 locsH278 hTH278 hSH278 wH278 => ?_)
  replace z9 := ZR.kept (wH278.off (G_ne gq123 gq169 (by decide))) z9
  replace z10 := ZR.kept (wH278.off (G_ne gq127 gq169 (by decide))) z10
  replace z13 := ZR.kept (wH278.off (G_ne gq139 gq169 (by decide))) z13
  replace w23 : WDN H278 q169 108 := WDN.put w23 wH278 rfl (by decide)
  replace hR := hR.kept (wH278.off (Ne.symm (g_ne gq169 hn)))
  clear hTH277
  clear wH278
  refine lv_dup hx hb dX10_init_820 rfl ?_
  refine lv_bipush (v := 108) hx hb dX10_init_821 (by decide) ?_
  refine lv_bipush (v := 112) hx hb dX10_init_823 (by decide) ?_
  refine x_iast C hTH278 hSH278 gq169 rg_127 (by decide) (by decide) (by decide) (Or.inr leq169) dX10_init_825 (fun H279 locsH279 hTH279 hSH279 wH279 => ?_)
  replace z9 := ZR.kept (wH279.off (G_ne gq123 gq169 (by decide))) z9
  replace z10 := ZR.kept (wH279.off (G_ne gq127 gq169 (by decide))) z10
  replace z13 := ZR.kept (wH279.off (G_ne gq139 gq169 (by decide))) z13
  replace w23 : WDN H279 q169 109 := WDN.put w23 wH279 rfl (by decide)
  replace hR := hR.kept (wH279.off (Ne.symm (g_ne gq169 hn)))
  clear hTH278
  clear wH279
  refine lv_dup hx hb dX10_init_826 rfl ?_
  refine lv_bipush (v := 109) hx hb dX10_init_827 (by decide) ?_
  refine lv_bipush (v := 97) hx hb dX10_init_829 (by decide) ?_
  refine x_iast C hTH279 hSH279 gq169 rg_127 (by decide) (by decide) (by decide) (Or.inr leq169) dX10_init_831 (fun H280 locsH280 hTH280 hSH280 wH280 => ?_)
  replace z9 := ZR.kept (wH280.off (G_ne gq123 gq169 (by decide))) z9
  replace z10 := ZR.kept (wH280.off (G_ne gq127 gq169 (by decide))) z10
  replace z13 := ZR.kept (wH280.off (G_ne gq139 gq169 (by decide))) z13
  replace w23 : WDN H280 q169 110 := WDN.put w23 wH280 rfl (by decide)
  replace hR := hR.kept (wH280.off (Ne.symm (g_ne gq169 hn)))
  clear hTH279
  clear wH280
  refine lv_dup hx hb dX10_init_832 rfl ?_
  refine lv_bipush (v := 110) hx hb dX10_init_833 (by decide) ?_
  refine lv_bipush (v := 115) hx hb dX10_init_835 (by decide) ?_
  refine x_iast C hTH280 hSH280 gq169 rg_127 (by decide) (by decide) (by decide) (Or.inr leq169) dX10_init_837 (fun H281 locsH281 hTH281 hSH281 wH281 => ?_)
  replace z9 := ZR.kept (wH281.off (G_ne gq123 gq169 (by decide))) z9
  replace z10 := ZR.kept (wH281.off (G_ne gq127 gq169 (by decide))) z10
  replace z13 := ZR.kept (wH281.off (G_ne gq139 gq169 (by decide))) z13
  replace w23 : WDN H281 q169 111 := WDN.put w23 wH281 rfl (by decide)
  replace hR := hR.kept (wH281.off (Ne.symm (g_ne gq169 hn)))
  clear hTH280
  clear wH281
  refine lv_dup hx hb dX10_init_838 rfl ?_
  refine lv_bipush (v := 111) hx hb dX10_init_839 (by decide) ?_
  refine lv_bipush (v := 115) hx hb dX10_init_841 (by decide) ?_
  refine x_iast C hTH281 hSH281 gq169 rg_127 (by decide) (by decide) (by decide) (Or.inr leq169) dX10_init_843 (fun H282 locsH282 hTH282 hSH282 wH282 => ?_)
  replace z9 := ZR.kept (wH282.off (G_ne gq123 gq169 (by decide))) z9
  replace z10 := ZR.kept (wH282.off (G_ne gq127 gq169 (by decide))) z10
  replace z13 := ZR.kept (wH282.off (G_ne gq139 gq169 (by decide))) z13
  replace w23 : WDN H282 q169 112 := WDN.put w23 wH282 rfl (by decide)
  replace hR := hR.kept (wH282.off (Ne.symm (g_ne gq169 hn)))
  clear hTH281
  clear wH282
  refine lv_dup hx hb dX10_init_844 rfl ?_
  refine lv_bipush (v := 112) hx hb dX10_init_845 (by decide) ?_
  refine lv_bipush (v := 101) hx hb dX10_init_847 (by decide) ?_
  refine x_iast C hTH282 hSH282 gq169 rg_127 (by decide) (by decide) (by decide) (Or.inr leq169) dX10_init_849 (fun H283 locsH283 hTH283 hSH283 wH283 => ?_)
  replace z9 := ZR.kept (wH283.off (G_ne gq123 gq169 (by decide))) z9
  replace z10 := ZR.kept (wH283.off (G_ne gq127 gq169 (by decide))) z10
  replace z13 := ZR.kept (wH283.off (G_ne gq139 gq169 (by decide))) z13
  replace w23 : WDN H283 q169 113 := WDN.put w23 wH283 rfl (by decide)
  replace hR := hR.kept (wH283.off (Ne.symm (g_ne gq169 hn)))
  clear hTH282
  clear wH283
  refine lv_dup hx hb dX10_init_850 rfl ?_
  refine lv_bipush (v := 113) hx hb dX10_init_851 (by decide) ?_
  refine lv_bipush (v := 115) hx hb dX10_init_853 (by decide) ?_
  refine x_iast C hTH283 hSH283 gq169 rg_127 (by decide) (by decide) (by decide) (Or.inr leq169) dX10_init_855 (fun H284 locsH284 hTH284 hSH284 wH284 => ?_)
  replace z9 := ZR.kept (wH284.off (G_ne gq123 gq169 (by decide))) z9
  replace z10 := ZR.kept (wH284.off (G_ne gq127 gq169 (by decide))) z10
  replace z13 := ZR.kept (wH284.off (G_ne gq139 gq169 (by decide))) z13
  replace w23 : WDN H284 q169 114 := WDN.put w23 wH284 rfl (by decide)
  replace hR := hR.kept (wH284.off (Ne.symm (g_ne gq169 hn)))
  clear hTH283
  clear wH284
  refine lv_dup hx hb dX10_init_856 rfl ?_
  refine lv_bipush (v := 114) hx hb dX10_init_857 (by decide) ?_
  refine lv_bipush (v := 32) hx hb dX10_init_859 (by decide) ?_
  refine x_iast C hTH284 hSH284 gq169 rg_127 (by decide) (by decide) (by decide) (Or.inr leq169) dX10_init_861 (fun H285 locsH285 hTH285 hSH285 wH285 => ?_)
  replace z9 := ZR.kept (wH285.off (G_ne gq123 gq169 (by decide))) z9
  replace z10 := ZR.kept (wH285.off (G_ne gq127 gq169 (by decide))) z10
  replace z13 := ZR.kept (wH285.off (G_ne gq139 gq169 (by decide))) z13
  replace w23 : WDN H285 q169 115 := WDN.put w23 wH285 rfl (by decide)
  replace hR := hR.kept (wH285.off (Ne.symm (g_ne gq169 hn)))
  clear hTH284
  clear wH285
  refine x_putR C hTH285 hSH285 (ci := 10) (k := 23) (v := .ref q169) (ty0 := tyX10) hR hn rfl inX10 tyX10_ok nmX10 (by decide) (Or.inr ⟨rfl, rfl, rfl⟩) wF_X10_56 (Nat.le_of_ble_eq_true rfl) rfl rfl (Or.inl rfl) dX10_init_862 (fun H286 locsH286 hR2 hTH286 hSH286 oH286 zH286 => ?_)
  clear hR
  have hR : RAW K H286 a 10 [.int 0, .int 0, .int 0, .int 10, .ref q103, .ref q107, .ref q111, .ref q115, .ref q119, .ref q123, .ref q127, .ref q131, .ref q135, .ref q139, .ref q143, .ref q157, .ref q161, .ref q165, .int 0, .int 0, .int 0, .int 0, .int 0, .ref q169, .null, .null, .null, .null, .null, .null, .null, .null, .null, .null, .int 0, .int 0, .int 0, .null, .int 0, .int 0, .int 0, .int 0, .int 0, .null, .null, .null, .null, .null, .null, .null, .null, .null, .null, .null, .null, .null, .int 0, .null, .null, .int 0, .null, .null, .int 0, .null, .null, .int 0, .null, .null, .null, .null, .int 0, .int 0, .int 0, .null] := hR2
  clear hR2
  replace z9 := ZR.kept (oH286 _ (g_ne gq123 hn)) z9
  replace z10 := ZR.kept (oH286 _ (g_ne gq127 hn)) z10
  replace z13 := ZR.kept (oH286 _ (g_ne gq139 hn)) z13
  replace w23 := WDN.kept (oH286 _ (g_ne gq169 hn)) w23
  clear oH286 zH286 hTH285
  refine lv_aload_n hx hb dX10_init_865 rfl (lv_at hl 0 rfl) ?_
  refine lv_bipush (v := 7) hx hb dX10_init_866 (by decide) ?_
  refine x_newa C hTH286 hSH286 wAC_int rg_128 (by decide) rfl (by decide) ⟨by decide, by decide⟩ dX10_init_868 (fun H287 hTH287 hSH287 oH287 zH287 vH287 => ?_)
  have hNH287 : G170 H286.size = none := hTH286.gb _ (Nat.le_refl _)
  obtain ⟨G289, eGG289⟩ : ∃ g, g = gU G170 H286.size 128 := ⟨_, rfl⟩
  rw [← eGG289] at hTH287
  have nr_a_q288 : a ≠ H286.size := Nat.ne_of_lt hR.lt
  replace hR := hR.kept (oH287 _ hR.lt)
  replace z9 := ZR.kept (oH287 _ (hTH286.lt gq123)) z9
  replace z10 := ZR.kept (oH287 _ (hTH286.lt gq127)) z10
  replace z13 := ZR.kept (oH287 _ (hTH286.lt gq139)) z13
  replace w23 := WDN.kept (oH287 _ (hTH286.lt gq169)) w23
  replace gq103 : G289 q103 = some 113 := by rw [eGG289]; exact gU_mono hNH287 _ _ gq103
  replace gq107 : G289 q107 = some 114 := by rw [eGG289]; exact gU_mono hNH287 _ _ gq107
  replace gq111 : G289 q111 = some 115 := by rw [eGG289]; exact gU_mono hNH287 _ _ gq111
  replace gq115 : G289 q115 = some 116 := by rw [eGG289]; exact gU_mono hNH287 _ _ gq115
  replace gq119 : G289 q119 = some 117 := by rw [eGG289]; exact gU_mono hNH287 _ _ gq119
  replace gq123 : G289 q123 = some 118 := by rw [eGG289]; exact gU_mono hNH287 _ _ gq123
  replace gq127 : G289 q127 = some 119 := by rw [eGG289]; exact gU_mono hNH287 _ _ gq127
  replace gq131 : G289 q131 = some 120 := by rw [eGG289]; exact gU_mono hNH287 _ _ gq131
  replace gq135 : G289 q135 = some 121 := by rw [eGG289]; exact gU_mono hNH287 _ _ gq135
  replace gq139 : G289 q139 = some 122 := by rw [eGG289]; exact gU_mono hNH287 _ _ gq139
  replace gq143 : G289 q143 = some 123 := by rw [eGG289]; exact gU_mono hNH287 _ _ gq143
  replace gq157 : G289 q157 = some 124 := by rw [eGG289]; exact gU_mono hNH287 _ _ gq157
  replace gq161 : G289 q161 = some 125 := by rw [eGG289]; exact gU_mono hNH287 _ _ gq161
  replace gq165 : G289 q165 = some 126 := by rw [eGG289]; exact gU_mono hNH287 _ _ gq165
  replace gq169 : G289 q169 = some 127 := by rw [eGG289]; exact gU_mono hNH287 _ _ gq169
  replace hn : G289 a = none := by rw [eGG289, gU_ne nr_a_q288]; exact hn
  replace hGo : ∀ q, q < s.heap.size → q ≠ a → G289 q = G q := fun q hq hqa => (show G289 q = G170 q by rw [eGG289, gU_ne (Nat.ne_of_lt (Nat.lt_of_lt_of_le hq hSH286.1))]).trans (hGo q hq hqa)
  have gq288 : G289 H286.size = some 128 := by rw [eGG289]; exact gU_at
  obtain ⟨q288, eq288⟩ : ∃ q, q = H286.size := ⟨_, rfl⟩
  have leq288 : s.heap.size ≤ q288 := by rw [eq288]; exact hSH286.1
  rw [← eq288] at gq288 nr_a_q288 vH287
  rw [← eq288]
  clear eq288
  clear hNH287 eGG289 oH287 zH287 hTH286
  have z24 : ZR H287 q288 := vH287
  clear vH287
  refine x_putR C hTH287 hSH287 (ci := 10) (k := 24) (v := .ref q288) (ty0 := tyX10) hR hn rfl inX10 tyX10_ok nmX10 (by decide) (Or.inr ⟨rfl, rfl, rfl⟩) wF_X10_59 (Nat.le_of_ble_eq_true rfl) rfl rfl (Or.inl rfl) dX10_init_870 (fun H290 locsH290 hR2 hTH290 hSH290 oH290 zH290 => ?_)
  clear hR
  have hR : RAW K H290 a 10 [.int 0, .int 0, .int 0, .int 10, .ref q103, .ref q107, .ref q111, .ref q115, .ref q119, .ref q123, .ref q127, .ref q131, .ref q135, .ref q139, .ref q143, .ref q157, .ref q161, .ref q165, .int 0, .int 0, .int 0, .int 0, .int 0, .ref q169, .ref q288, .null, .null, .null, .null, .null, .null, .null, .null, .null, .int 0, .int 0, .int 0, .null, .int 0, .int 0, .int 0, .int 0, .int 0, .null, .null, .null, .null, .null, .null, .null, .null, .null, .null, .null, .null, .null, .int 0, .null, .null, .int 0, .null, .null, .int 0, .null, .null, .int 0, .null, .null, .null, .null, .int 0, .int 0, .int 0, .null] := hR2
  clear hR2
  replace z9 := ZR.kept (oH290 _ (g_ne gq123 hn)) z9
  replace z10 := ZR.kept (oH290 _ (g_ne gq127 hn)) z10
  replace z13 := ZR.kept (oH290 _ (g_ne gq139 hn)) z13
  replace w23 := WDN.kept (oH290 _ (g_ne gq169 hn)) w23
  replace z24 := ZR.kept (oH290 _ (g_ne gq288 hn)) z24
  clear oH290 zH290 hTH287
  refine lv_aload_n hx hb dX10_init_873 rfl (lv_at hl 0 rfl) ?_
  refine lv_bipush (v := 112) hx hb dX10_init_874 (by decide) ?_
  refine x_newa C hTH290 hSH290 wAC_int rg_129 (by decide) rfl (by decide) ⟨by decide, by decide⟩ dX10_init_876 (fun H291 hTH291 hSH291 oH291 zH291 vH291 => ?_)
  have hNH291 : G289 H290.size = none := hTH290.gb _ (Nat.le_refl _)
  obtain ⟨G293, eGG293⟩ : ∃ g, g = gU G289 H290.size 129 := ⟨_, rfl⟩
  rw [← eGG293] at hTH291
  have nr_a_q292 : a ≠ H290.size := Nat.ne_of_lt hR.lt
  replace hR := hR.kept (oH291 _ hR.lt)
  replace z9 := ZR.kept (oH291 _ (hTH290.lt gq123)) z9
  replace z10 := ZR.kept (oH291 _ (hTH290.lt gq127)) z10
  replace z13 := ZR.kept (oH291 _ (hTH290.lt gq139)) z13
  replace w23 := WDN.kept (oH291 _ (hTH290.lt gq169)) w23
  replace z24 := ZR.kept (oH291 _ (hTH290.lt gq288)) z24
  replace gq103 : G293 q103 = some 113 := by rw [eGG293]; exact gU_mono hNH291 _ _ gq103
  replace gq107 : G293 q107 = some 114 := by rw [eGG293]; exact gU_mono hNH291 _ _ gq107
  replace gq111 : G293 q111 = some 115 := by rw [eGG293]; exact gU_mono hNH291 _ _ gq111
  replace gq115 : G293 q115 = some 116 := by rw [eGG293]; exact gU_mono hNH291 _ _ gq115
  replace gq119 : G293 q119 = some 117 := by rw [eGG293]; exact gU_mono hNH291 _ _ gq119
  replace gq123 : G293 q123 = some 118 := by rw [eGG293]; exact gU_mono hNH291 _ _ gq123
  replace gq127 : G293 q127 = some 119 := by rw [eGG293]; exact gU_mono hNH291 _ _ gq127
  replace gq131 : G293 q131 = some 120 := by rw [eGG293]; exact gU_mono hNH291 _ _ gq131
  replace gq135 : G293 q135 = some 121 := by rw [eGG293]; exact gU_mono hNH291 _ _ gq135
  replace gq139 : G293 q139 = some 122 := by rw [eGG293]; exact gU_mono hNH291 _ _ gq139
  replace gq143 : G293 q143 = some 123 := by rw [eGG293]; exact gU_mono hNH291 _ _ gq143
  replace gq157 : G293 q157 = some 124 := by rw [eGG293]; exact gU_mono hNH291 _ _ gq157
  replace gq161 : G293 q161 = some 125 := by rw [eGG293]; exact gU_mono hNH291 _ _ gq161
  replace gq165 : G293 q165 = some 126 := by rw [eGG293]; exact gU_mono hNH291 _ _ gq165
  replace gq169 : G293 q169 = some 127 := by rw [eGG293]; exact gU_mono hNH291 _ _ gq169
  replace gq288 : G293 q288 = some 128 := by rw [eGG293]; exact gU_mono hNH291 _ _ gq288
  replace hn : G293 a = none := by rw [eGG293, gU_ne nr_a_q292]; exact hn
  replace hGo : ∀ q, q < s.heap.size → q ≠ a → G293 q = G q := fun q hq hqa => (show G293 q = G289 q by rw [eGG293, gU_ne (Nat.ne_of_lt (Nat.lt_of_lt_of_le hq hSH290.1))]).trans (hGo q hq hqa)
  have gq292 : G293 H290.size = some 129 := by rw [eGG293]; exact gU_at
  obtain ⟨q292, eq292⟩ : ∃ q, q = H290.size := ⟨_, rfl⟩
  have leq292 : s.heap.size ≤ q292 := by rw [eq292]; exact hSH290.1
  rw [← eq292] at gq292 nr_a_q292
  rw [← eq292]
  clear eq292
  clear hNH291 eGG293 oH291 zH291 vH291 hTH290
  refine x_putR C hTH291 hSH291 (ci := 10) (k := 25) (v := .ref q292) (ty0 := tyX10) hR hn rfl inX10 tyX10_ok nmX10 (by decide) (Or.inr ⟨rfl, rfl, rfl⟩) wF_X10_62 (Nat.le_of_ble_eq_true rfl) rfl rfl (Or.inl rfl) dX10_init_878 (fun H294 locsH294 hR2 hTH294 hSH294 oH294 zH294 => ?_)
  clear hR
  have hR : RAW K H294 a 10 [.int 0, .int 0, .int 0, .int 10, .ref q103, .ref q107, .ref q111, .ref q115, .ref q119, .ref q123, .ref q127, .ref q131, .ref q135, .ref q139, .ref q143, .ref q157, .ref q161, .ref q165, .int 0, .int 0, .int 0, .int 0, .int 0, .ref q169, .ref q288, .ref q292, .null, .null, .null, .null, .null, .null, .null, .null, .int 0, .int 0, .int 0, .null, .int 0, .int 0, .int 0, .int 0, .int 0, .null, .null, .null, .null, .null, .null, .null, .null, .null, .null, .null, .null, .null, .int 0, .null, .null, .int 0, .null, .null, .int 0, .null, .null, .int 0, .null, .null, .null, .null, .int 0, .int 0, .int 0, .null] := hR2
  clear hR2
  replace z9 := ZR.kept (oH294 _ (g_ne gq123 hn)) z9
  replace z10 := ZR.kept (oH294 _ (g_ne gq127 hn)) z10
  replace z13 := ZR.kept (oH294 _ (g_ne gq139 hn)) z13
  replace w23 := WDN.kept (oH294 _ (g_ne gq169 hn)) w23
  replace z24 := ZR.kept (oH294 _ (g_ne gq288 hn)) z24
  clear oH294 zH294 hTH291
  refine lv_aload_n hx hb dX10_init_881 rfl (lv_at hl 0 rfl) ?_
  refine lv_bipush (v := 112) hx hb dX10_init_882 (by decide) ?_
  refine x_newa C hTH294 hSH294 wAC_int rg_130 (by decide) rfl (by decide) ⟨by decide, by decide⟩ dX10_init_884 (fun H295 hTH295 hSH295 oH295 zH295 vH295 => ?_)
  have hNH295 : G293 H294.size = none := hTH294.gb _ (Nat.le_refl _)
  obtain ⟨G297, eGG297⟩ : ∃ g, g = gU G293 H294.size 130 := ⟨_, rfl⟩
  rw [← eGG297] at hTH295
  have nr_a_q296 : a ≠ H294.size := Nat.ne_of_lt hR.lt
  replace hR := hR.kept (oH295 _ hR.lt)
  replace z9 := ZR.kept (oH295 _ (hTH294.lt gq123)) z9
  replace z10 := ZR.kept (oH295 _ (hTH294.lt gq127)) z10
  replace z13 := ZR.kept (oH295 _ (hTH294.lt gq139)) z13
  replace w23 := WDN.kept (oH295 _ (hTH294.lt gq169)) w23
  replace z24 := ZR.kept (oH295 _ (hTH294.lt gq288)) z24
  replace gq103 : G297 q103 = some 113 := by rw [eGG297]; exact gU_mono hNH295 _ _ gq103
  replace gq107 : G297 q107 = some 114 := by rw [eGG297]; exact gU_mono hNH295 _ _ gq107
  replace gq111 : G297 q111 = some 115 := by rw [eGG297]; exact gU_mono hNH295 _ _ gq111
  replace gq115 : G297 q115 = some 116 := by rw [eGG297]; exact gU_mono hNH295 _ _ gq115
  replace gq119 : G297 q119 = some 117 := by rw [eGG297]; exact gU_mono hNH295 _ _ gq119
  replace gq123 : G297 q123 = some 118 := by rw [eGG297]; exact gU_mono hNH295 _ _ gq123
  replace gq127 : G297 q127 = some 119 := by rw [eGG297]; exact gU_mono hNH295 _ _ gq127
  replace gq131 : G297 q131 = some 120 := by rw [eGG297]; exact gU_mono hNH295 _ _ gq131
  replace gq135 : G297 q135 = some 121 := by rw [eGG297]; exact gU_mono hNH295 _ _ gq135
  replace gq139 : G297 q139 = some 122 := by rw [eGG297]; exact gU_mono hNH295 _ _ gq139
  replace gq143 : G297 q143 = some 123 := by rw [eGG297]; exact gU_mono hNH295 _ _ gq143
  replace gq157 : G297 q157 = some 124 := by rw [eGG297]; exact gU_mono hNH295 _ _ gq157
  replace gq161 : G297 q161 = some 125 := by rw [eGG297]; exact gU_mono hNH295 _ _ gq161
  replace gq165 : G297 q165 = some 126 := by rw [eGG297]; exact gU_mono hNH295 _ _ gq165
  replace gq169 : G297 q169 = some 127 := by rw [eGG297]; exact gU_mono hNH295 _ _ gq169
  replace gq288 : G297 q288 = some 128 := by rw [eGG297]; exact gU_mono hNH295 _ _ gq288
  replace gq292 : G297 q292 = some 129 := by rw [eGG297]; exact gU_mono hNH295 _ _ gq292
  replace hn : G297 a = none := by rw [eGG297, gU_ne nr_a_q296]; exact hn
  replace hGo : ∀ q, q < s.heap.size → q ≠ a → G297 q = G q := fun q hq hqa => (show G297 q = G293 q by rw [eGG297, gU_ne (Nat.ne_of_lt (Nat.lt_of_lt_of_le hq hSH294.1))]).trans (hGo q hq hqa)
  have gq296 : G297 H294.size = some 130 := by rw [eGG297]; exact gU_at
  obtain ⟨q296, eq296⟩ : ∃ q, q = H294.size := ⟨_, rfl⟩
  have leq296 : s.heap.size ≤ q296 := by rw [eq296]; exact hSH294.1
  rw [← eq296] at gq296 nr_a_q296
  rw [← eq296]
  clear eq296
  clear hNH295 eGG297 oH295 zH295 vH295 hTH294
  refine x_putR C hTH295 hSH295 (ci := 10) (k := 26) (v := .ref q296) (ty0 := tyX10) hR hn rfl inX10 tyX10_ok nmX10 (by decide) (Or.inr ⟨rfl, rfl, rfl⟩) wF_X10_65 (Nat.le_of_ble_eq_true rfl) rfl rfl (Or.inl rfl) dX10_init_886 (fun H298 locsH298 hR2 hTH298 hSH298 oH298 zH298 => ?_)
  clear hR
  have hR : RAW K H298 a 10 [.int 0, .int 0, .int 0, .int 10, .ref q103, .ref q107, .ref q111, .ref q115, .ref q119, .ref q123, .ref q127, .ref q131, .ref q135, .ref q139, .ref q143, .ref q157, .ref q161, .ref q165, .int 0, .int 0, .int 0, .int 0, .int 0, .ref q169, .ref q288, .ref q292, .ref q296, .null, .null, .null, .null, .null, .null, .null, .int 0, .int 0, .int 0, .null, .int 0, .int 0, .int 0, .int 0, .int 0, .null, .null, .null, .null, .null, .null, .null, .null, .null, .null, .null, .null, .null, .int 0, .null, .null, .int 0, .null, .null, .int 0, .null, .null, .int 0, .null, .null, .null, .null, .int 0, .int 0, .int 0, .null] := hR2
  clear hR2
  replace z9 := ZR.kept (oH298 _ (g_ne gq123 hn)) z9
  replace z10 := ZR.kept (oH298 _ (g_ne gq127 hn)) z10
  replace z13 := ZR.kept (oH298 _ (g_ne gq139 hn)) z13
  replace w23 := WDN.kept (oH298 _ (g_ne gq169 hn)) w23
  replace z24 := ZR.kept (oH298 _ (g_ne gq288 hn)) z24
  clear oH298 zH298 hTH295
  refine lv_aload_n hx hb dX10_init_889 rfl (lv_at hl 0 rfl) ?_
  refine lv_bipush (v := 112) hx hb dX10_init_890 (by decide) ?_
  refine x_newa C hTH298 hSH298 wAC_int rg_131 (by decide) rfl (by decide) ⟨by decide, by decide⟩ dX10_init_892 (fun H299 hTH299 hSH299 oH299 zH299 vH299 => ?_)
  have hNH299 : G297 H298.size = none := hTH298.gb _ (Nat.le_refl _)
  obtain ⟨G301, eGG301⟩ : ∃ g, g = gU G297 H298.size 131 := ⟨_, rfl⟩
  rw [← eGG301] at hTH299
  have nr_a_q300 : a ≠ H298.size := Nat.ne_of_lt hR.lt
  replace hR := hR.kept (oH299 _ hR.lt)
  replace z9 := ZR.kept (oH299 _ (hTH298.lt gq123)) z9
  replace z10 := ZR.kept (oH299 _ (hTH298.lt gq127)) z10
  replace z13 := ZR.kept (oH299 _ (hTH298.lt gq139)) z13
  replace w23 := WDN.kept (oH299 _ (hTH298.lt gq169)) w23
  replace z24 := ZR.kept (oH299 _ (hTH298.lt gq288)) z24
  replace gq103 : G301 q103 = some 113 := by rw [eGG301]; exact gU_mono hNH299 _ _ gq103
  replace gq107 : G301 q107 = some 114 := by rw [eGG301]; exact gU_mono hNH299 _ _ gq107
  replace gq111 : G301 q111 = some 115 := by rw [eGG301]; exact gU_mono hNH299 _ _ gq111
  replace gq115 : G301 q115 = some 116 := by rw [eGG301]; exact gU_mono hNH299 _ _ gq115
  replace gq119 : G301 q119 = some 117 := by rw [eGG301]; exact gU_mono hNH299 _ _ gq119
  replace gq123 : G301 q123 = some 118 := by rw [eGG301]; exact gU_mono hNH299 _ _ gq123
  replace gq127 : G301 q127 = some 119 := by rw [eGG301]; exact gU_mono hNH299 _ _ gq127
  replace gq131 : G301 q131 = some 120 := by rw [eGG301]; exact gU_mono hNH299 _ _ gq131
  replace gq135 : G301 q135 = some 121 := by rw [eGG301]; exact gU_mono hNH299 _ _ gq135
  replace gq139 : G301 q139 = some 122 := by rw [eGG301]; exact gU_mono hNH299 _ _ gq139
  replace gq143 : G301 q143 = some 123 := by rw [eGG301]; exact gU_mono hNH299 _ _ gq143
  replace gq157 : G301 q157 = some 124 := by rw [eGG301]; exact gU_mono hNH299 _ _ gq157
  replace gq161 : G301 q161 = some 125 := by rw [eGG301]; exact gU_mono hNH299 _ _ gq161
  replace gq165 : G301 q165 = some 126 := by rw [eGG301]; exact gU_mono hNH299 _ _ gq165
  replace gq169 : G301 q169 = some 127 := by rw [eGG301]; exact gU_mono hNH299 _ _ gq169
  replace gq288 : G301 q288 = some 128 := by rw [eGG301]; exact gU_mono hNH299 _ _ gq288
  replace gq292 : G301 q292 = some 129 := by rw [eGG301]; exact gU_mono hNH299 _ _ gq292
  replace gq296 : G301 q296 = some 130 := by rw [eGG301]; exact gU_mono hNH299 _ _ gq296
  replace hn : G301 a = none := by rw [eGG301, gU_ne nr_a_q300]; exact hn
  replace hGo : ∀ q, q < s.heap.size → q ≠ a → G301 q = G q := fun q hq hqa => (show G301 q = G297 q by rw [eGG301, gU_ne (Nat.ne_of_lt (Nat.lt_of_lt_of_le hq hSH298.1))]).trans (hGo q hq hqa)
  have gq300 : G301 H298.size = some 131 := by rw [eGG301]; exact gU_at
  obtain ⟨q300, eq300⟩ : ∃ q, q = H298.size := ⟨_, rfl⟩
  have leq300 : s.heap.size ≤ q300 := by rw [eq300]; exact hSH298.1
  rw [← eq300] at gq300 nr_a_q300
  rw [← eq300]
  clear eq300
  clear hNH299 eGG301 oH299 zH299 vH299 hTH298
  refine x_putR C hTH299 hSH299 (ci := 10) (k := 27) (v := .ref q300) (ty0 := tyX10) hR hn rfl inX10 tyX10_ok nmX10 (by decide) (Or.inr ⟨rfl, rfl, rfl⟩) wF_X10_68 (Nat.le_of_ble_eq_true rfl) rfl rfl (Or.inl rfl) dX10_init_894 (fun H302 locsH302 hR2 hTH302 hSH302 oH302 zH302 => ?_)
  clear hR
  have hR : RAW K H302 a 10 [.int 0, .int 0, .int 0, .int 10, .ref q103, .ref q107, .ref q111, .ref q115, .ref q119, .ref q123, .ref q127, .ref q131, .ref q135, .ref q139, .ref q143, .ref q157, .ref q161, .ref q165, .int 0, .int 0, .int 0, .int 0, .int 0, .ref q169, .ref q288, .ref q292, .ref q296, .ref q300, .null, .null, .null, .null, .null, .null, .int 0, .int 0, .int 0, .null, .int 0, .int 0, .int 0, .int 0, .int 0, .null, .null, .null, .null, .null, .null, .null, .null, .null, .null, .null, .null, .null, .int 0, .null, .null, .int 0, .null, .null, .int 0, .null, .null, .int 0, .null, .null, .null, .null, .int 0, .int 0, .int 0, .null] := hR2
  clear hR2
  replace z9 := ZR.kept (oH302 _ (g_ne gq123 hn)) z9
  replace z10 := ZR.kept (oH302 _ (g_ne gq127 hn)) z10
  replace z13 := ZR.kept (oH302 _ (g_ne gq139 hn)) z13
  replace w23 := WDN.kept (oH302 _ (g_ne gq169 hn)) w23
  replace z24 := ZR.kept (oH302 _ (g_ne gq288 hn)) z24
  clear oH302 zH302 hTH299
  refine lv_aload_n hx hb dX10_init_897 rfl (lv_at hl 0 rfl) ?_
  refine lv_bipush (v := 112) hx hb dX10_init_898 (by decide) ?_
  refine x_newa C hTH302 hSH302 wAC_int rg_132 (by decide) rfl (by decide) ⟨by decide, by decide⟩ dX10_init_900 (fun H303 hTH303 hSH303 oH303 zH303 vH303 => ?_)
  have hNH303 : G301 H302.size = none := hTH302.gb _ (Nat.le_refl _)
  obtain ⟨G305, eGG305⟩ : ∃ g, g = gU G301 H302.size 132 := ⟨_, rfl⟩
  rw [← eGG305] at hTH303
  have nr_a_q304 : a ≠ H302.size := Nat.ne_of_lt hR.lt
  replace hR := hR.kept (oH303 _ hR.lt)
  replace z9 := ZR.kept (oH303 _ (hTH302.lt gq123)) z9
  replace z10 := ZR.kept (oH303 _ (hTH302.lt gq127)) z10
  replace z13 := ZR.kept (oH303 _ (hTH302.lt gq139)) z13
  replace w23 := WDN.kept (oH303 _ (hTH302.lt gq169)) w23
  replace z24 := ZR.kept (oH303 _ (hTH302.lt gq288)) z24
  replace gq103 : G305 q103 = some 113 := by rw [eGG305]; exact gU_mono hNH303 _ _ gq103
  replace gq107 : G305 q107 = some 114 := by rw [eGG305]; exact gU_mono hNH303 _ _ gq107
  replace gq111 : G305 q111 = some 115 := by rw [eGG305]; exact gU_mono hNH303 _ _ gq111
  replace gq115 : G305 q115 = some 116 := by rw [eGG305]; exact gU_mono hNH303 _ _ gq115
  replace gq119 : G305 q119 = some 117 := by rw [eGG305]; exact gU_mono hNH303 _ _ gq119
  replace gq123 : G305 q123 = some 118 := by rw [eGG305]; exact gU_mono hNH303 _ _ gq123
  replace gq127 : G305 q127 = some 119 := by rw [eGG305]; exact gU_mono hNH303 _ _ gq127
  replace gq131 : G305 q131 = some 120 := by rw [eGG305]; exact gU_mono hNH303 _ _ gq131
  replace gq135 : G305 q135 = some 121 := by rw [eGG305]; exact gU_mono hNH303 _ _ gq135
  replace gq139 : G305 q139 = some 122 := by rw [eGG305]; exact gU_mono hNH303 _ _ gq139
  replace gq143 : G305 q143 = some 123 := by rw [eGG305]; exact gU_mono hNH303 _ _ gq143
  replace gq157 : G305 q157 = some 124 := by rw [eGG305]; exact gU_mono hNH303 _ _ gq157
  replace gq161 : G305 q161 = some 125 := by rw [eGG305]; exact gU_mono hNH303 _ _ gq161
  replace gq165 : G305 q165 = some 126 := by rw [eGG305]; exact gU_mono hNH303 _ _ gq165
  replace gq169 : G305 q169 = some 127 := by rw [eGG305]; exact gU_mono hNH303 _ _ gq169
  replace gq288 : G305 q288 = some 128 := by rw [eGG305]; exact gU_mono hNH303 _ _ gq288
  replace gq292 : G305 q292 = some 129 := by rw [eGG305]; exact gU_mono hNH303 _ _ gq292
  replace gq296 : G305 q296 = some 130 := by rw [eGG305]; exact gU_mono hNH303 _ _ gq296
  replace gq300 : G305 q300 = some 131 := by rw [eGG305]; exact gU_mono hNH303 _ _ gq300
  replace hn : G305 a = none := by rw [eGG305, gU_ne nr_a_q304]; exact hn
  replace hGo : ∀ q, q < s.heap.size → q ≠ a → G305 q = G q := fun q hq hqa => (show G305 q = G301 q by rw [eGG305, gU_ne (Nat.ne_of_lt (Nat.lt_of_lt_of_le hq hSH302.1))]).trans (hGo q hq hqa)
  have gq304 : G305 H302.size = some 132 := by rw [eGG305]; exact gU_at
  obtain ⟨q304, eq304⟩ : ∃ q, q = H302.size := ⟨_, rfl⟩
  have leq304 : s.heap.size ≤ q304 := by rw [eq304]; exact hSH302.1
  rw [← eq304] at gq304 nr_a_q304
  rw [← eq304]
  clear eq304
  clear hNH303 eGG305 oH303 zH303 vH303 hTH302
  refine x_putR C hTH303 hSH303 (ci := 10) (k := 28) (v := .ref q304) (ty0 := tyX10) hR hn rfl inX10 tyX10_ok nmX10 (by decide) (Or.inr ⟨rfl, rfl, rfl⟩) wF_X10_71 (Nat.le_of_ble_eq_true rfl) rfl rfl (Or.inl rfl) dX10_init_902 (fun H306 locsH306 hR2 hTH306 hSH306 oH306 zH306 => ?_)
  clear hR
  have hR : RAW K H306 a 10 [.int 0, .int 0, .int 0, .int 10, .ref q103, .ref q107, .ref q111, .ref q115, .ref q119, .ref q123, .ref q127, .ref q131, .ref q135, .ref q139, .ref q143, .ref q157, .ref q161, .ref q165, .int 0, .int 0, .int 0, .int 0, .int 0, .ref q169, .ref q288, .ref q292, .ref q296, .ref q300, .ref q304, .null, .null, .null, .null, .null, .int 0, .int 0, .int 0, .null, .int 0, .int 0, .int 0, .int 0, .int 0, .null, .null, .null, .null, .null, .null, .null, .null, .null, .null, .null, .null, .null, .int 0, .null, .null, .int 0, .null, .null, .int 0, .null, .null, .int 0, .null, .null, .null, .null, .int 0, .int 0, .int 0, .null] := hR2
  clear hR2
  replace z9 := ZR.kept (oH306 _ (g_ne gq123 hn)) z9
  replace z10 := ZR.kept (oH306 _ (g_ne gq127 hn)) z10
  replace z13 := ZR.kept (oH306 _ (g_ne gq139 hn)) z13
  replace w23 := WDN.kept (oH306 _ (g_ne gq169 hn)) w23
  replace z24 := ZR.kept (oH306 _ (g_ne gq288 hn)) z24
  clear oH306 zH306 hTH303
  refine lv_aload_n hx hb dX10_init_905 rfl (lv_at hl 0 rfl) ?_
  refine lv_bipush (v := 112) hx hb dX10_init_906 (by decide) ?_
  refine x_newa C hTH306 hSH306 wAC_int rg_133 (by decide) rfl (by decide) ⟨by decide, by decide⟩ dX10_init_908 (fun H307 hTH307 hSH307 oH307 zH307 vH307 => ?_)
  have hNH307 : G305 H306.size = none := hTH306.gb _ (Nat.le_refl _)
  obtain ⟨G309, eGG309⟩ : ∃ g, g = gU G305 H306.size 133 := ⟨_, rfl⟩
  rw [← eGG309] at hTH307
  have nr_a_q308 : a ≠ H306.size := Nat.ne_of_lt hR.lt
  replace hR := hR.kept (oH307 _ hR.lt)
  replace z9 := ZR.kept (oH307 _ (hTH306.lt gq123)) z9
  replace z10 := ZR.kept (oH307 _ (hTH306.lt gq127)) z10
  replace z13 := ZR.kept (oH307 _ (hTH306.lt gq139)) z13
  replace w23 := WDN.kept (oH307 _ (hTH306.lt gq169)) w23
  replace z24 := ZR.kept (oH307 _ (hTH306.lt gq288)) z24
  replace gq103 : G309 q103 = some 113 := by rw [eGG309]; exact gU_mono hNH307 _ _ gq103
  replace gq107 : G309 q107 = some 114 := by rw [eGG309]; exact gU_mono hNH307 _ _ gq107
  replace gq111 : G309 q111 = some 115 := by rw [eGG309]; exact gU_mono hNH307 _ _ gq111
  replace gq115 : G309 q115 = some 116 := by rw [eGG309]; exact gU_mono hNH307 _ _ gq115
  replace gq119 : G309 q119 = some 117 := by rw [eGG309]; exact gU_mono hNH307 _ _ gq119
  replace gq123 : G309 q123 = some 118 := by rw [eGG309]; exact gU_mono hNH307 _ _ gq123
  replace gq127 : G309 q127 = some 119 := by rw [eGG309]; exact gU_mono hNH307 _ _ gq127
  replace gq131 : G309 q131 = some 120 := by rw [eGG309]; exact gU_mono hNH307 _ _ gq131
  replace gq135 : G309 q135 = some 121 := by rw [eGG309]; exact gU_mono hNH307 _ _ gq135
  replace gq139 : G309 q139 = some 122 := by rw [eGG309]; exact gU_mono hNH307 _ _ gq139
  replace gq143 : G309 q143 = some 123 := by rw [eGG309]; exact gU_mono hNH307 _ _ gq143
  replace gq157 : G309 q157 = some 124 := by rw [eGG309]; exact gU_mono hNH307 _ _ gq157
  replace gq161 : G309 q161 = some 125 := by rw [eGG309]; exact gU_mono hNH307 _ _ gq161
  replace gq165 : G309 q165 = some 126 := by rw [eGG309]; exact gU_mono hNH307 _ _ gq165
  replace gq169 : G309 q169 = some 127 := by rw [eGG309]; exact gU_mono hNH307 _ _ gq169
  replace gq288 : G309 q288 = some 128 := by rw [eGG309]; exact gU_mono hNH307 _ _ gq288
  replace gq292 : G309 q292 = some 129 := by rw [eGG309]; exact gU_mono hNH307 _ _ gq292
  replace gq296 : G309 q296 = some 130 := by rw [eGG309]; exact gU_mono hNH307 _ _ gq296
  replace gq300 : G309 q300 = some 131 := by rw [eGG309]; exact gU_mono hNH307 _ _ gq300
  replace gq304 : G309 q304 = some 132 := by rw [eGG309]; exact gU_mono hNH307 _ _ gq304
  replace hn : G309 a = none := by rw [eGG309, gU_ne nr_a_q308]; exact hn
  replace hGo : ∀ q, q < s.heap.size → q ≠ a → G309 q = G q := fun q hq hqa => (show G309 q = G305 q by rw [eGG309, gU_ne (Nat.ne_of_lt (Nat.lt_of_lt_of_le hq hSH306.1))]).trans (hGo q hq hqa)
  have gq308 : G309 H306.size = some 133 := by rw [eGG309]; exact gU_at
  obtain ⟨q308, eq308⟩ : ∃ q, q = H306.size := ⟨_, rfl⟩
  have leq308 : s.heap.size ≤ q308 := by rw [eq308]; exact hSH306.1
  rw [← eq308] at gq308 nr_a_q308
  rw [← eq308]
  clear eq308
  clear hNH307 eGG309 oH307 zH307 vH307 hTH306
  refine x_putR C hTH307 hSH307 (ci := 10) (k := 29) (v := .ref q308) (ty0 := tyX10) hR hn rfl inX10 tyX10_ok nmX10 (by decide) (Or.inr ⟨rfl, rfl, rfl⟩) wF_X10_74 (Nat.le_of_ble_eq_true rfl) rfl rfl (Or.inl rfl) dX10_init_910 (fun H310 locsH310 hR2 hTH310 hSH310 oH310 zH310 => ?_)
  clear hR
  have hR : RAW K H310 a 10 [.int 0, .int 0, .int 0, .int 10, .ref q103, .ref q107, .ref q111, .ref q115, .ref q119, .ref q123, .ref q127, .ref q131, .ref q135, .ref q139, .ref q143, .ref q157, .ref q161, .ref q165, .int 0, .int 0, .int 0, .int 0, .int 0, .ref q169, .ref q288, .ref q292, .ref q296, .ref q300, .ref q304, .ref q308, .null, .null, .null, .null, .int 0, .int 0, .int 0, .null, .int 0, .int 0, .int 0, .int 0, .int 0, .null, .null, .null, .null, .null, .null, .null, .null, .null, .null, .null, .null, .null, .int 0, .null, .null, .int 0, .null, .null, .int 0, .null, .null, .int 0, .null, .null, .null, .null, .int 0, .int 0, .int 0, .null] := hR2
  clear hR2
  replace z9 := ZR.kept (oH310 _ (g_ne gq123 hn)) z9
  replace z10 := ZR.kept (oH310 _ (g_ne gq127 hn)) z10
  replace z13 := ZR.kept (oH310 _ (g_ne gq139 hn)) z13
  replace w23 := WDN.kept (oH310 _ (g_ne gq169 hn)) w23
  replace z24 := ZR.kept (oH310 _ (g_ne gq288 hn)) z24
  clear oH310 zH310 hTH307
  refine lv_aload_n hx hb dX10_init_913 rfl (lv_at hl 0 rfl) ?_
  refine lv_bipush (v := 112) hx hb dX10_init_914 (by decide) ?_
  refine x_newa C hTH310 hSH310 wAC_int rg_134 (by decide) rfl (by decide) ⟨by decide, by decide⟩ dX10_init_916 (fun H311 hTH311 hSH311 oH311 zH311 vH311 => ?_)
  have hNH311 : G309 H310.size = none := hTH310.gb _ (Nat.le_refl _)
  obtain ⟨G313, eGG313⟩ : ∃ g, g = gU G309 H310.size 134 := ⟨_, rfl⟩
  rw [← eGG313] at hTH311
  have nr_a_q312 : a ≠ H310.size := Nat.ne_of_lt hR.lt
  replace hR := hR.kept (oH311 _ hR.lt)
  replace z9 := ZR.kept (oH311 _ (hTH310.lt gq123)) z9
  replace z10 := ZR.kept (oH311 _ (hTH310.lt gq127)) z10
  replace z13 := ZR.kept (oH311 _ (hTH310.lt gq139)) z13
  replace w23 := WDN.kept (oH311 _ (hTH310.lt gq169)) w23
  replace z24 := ZR.kept (oH311 _ (hTH310.lt gq288)) z24
  replace gq103 : G313 q103 = some 113 := by rw [eGG313]; exact gU_mono hNH311 _ _ gq103
  replace gq107 : G313 q107 = some 114 := by rw [eGG313]; exact gU_mono hNH311 _ _ gq107
  replace gq111 : G313 q111 = some 115 := by rw [eGG313]; exact gU_mono hNH311 _ _ gq111
  replace gq115 : G313 q115 = some 116 := by rw [eGG313]; exact gU_mono hNH311 _ _ gq115
  replace gq119 : G313 q119 = some 117 := by rw [eGG313]; exact gU_mono hNH311 _ _ gq119
  replace gq123 : G313 q123 = some 118 := by rw [eGG313]; exact gU_mono hNH311 _ _ gq123
  replace gq127 : G313 q127 = some 119 := by rw [eGG313]; exact gU_mono hNH311 _ _ gq127
  replace gq131 : G313 q131 = some 120 := by rw [eGG313]; exact gU_mono hNH311 _ _ gq131
  replace gq135 : G313 q135 = some 121 := by rw [eGG313]; exact gU_mono hNH311 _ _ gq135
  replace gq139 : G313 q139 = some 122 := by rw [eGG313]; exact gU_mono hNH311 _ _ gq139
  replace gq143 : G313 q143 = some 123 := by rw [eGG313]; exact gU_mono hNH311 _ _ gq143
  replace gq157 : G313 q157 = some 124 := by rw [eGG313]; exact gU_mono hNH311 _ _ gq157
  replace gq161 : G313 q161 = some 125 := by rw [eGG313]; exact gU_mono hNH311 _ _ gq161
  replace gq165 : G313 q165 = some 126 := by rw [eGG313]; exact gU_mono hNH311 _ _ gq165
  replace gq169 : G313 q169 = some 127 := by rw [eGG313]; exact gU_mono hNH311 _ _ gq169
  replace gq288 : G313 q288 = some 128 := by rw [eGG313]; exact gU_mono hNH311 _ _ gq288
  replace gq292 : G313 q292 = some 129 := by rw [eGG313]; exact gU_mono hNH311 _ _ gq292
  replace gq296 : G313 q296 = some 130 := by rw [eGG313]; exact gU_mono hNH311 _ _ gq296
  replace gq300 : G313 q300 = some 131 := by rw [eGG313]; exact gU_mono hNH311 _ _ gq300
  replace gq304 : G313 q304 = some 132 := by rw [eGG313]; exact gU_mono hNH311 _ _ gq304
  replace gq308 : G313 q308 = some 133 := by rw [eGG313]; exact gU_mono hNH311 _ _ gq308
  replace hn : G313 a = none := by rw [eGG313, gU_ne nr_a_q312]; exact hn
  replace hGo : ∀ q, q < s.heap.size → q ≠ a → G313 q = G q := fun q hq hqa => (show G313 q = G309 q by rw [eGG313, gU_ne (Nat.ne_of_lt (Nat.lt_of_lt_of_le hq hSH310.1))]).trans (hGo q hq hqa)
  have gq312 : G313 H310.size = some 134 := by rw [eGG313]; exact gU_at
  obtain ⟨q312, eq312⟩ : ∃ q, q = H310.size := ⟨_, rfl⟩
  have leq312 : s.heap.size ≤ q312 := by rw [eq312]; exact hSH310.1
  rw [← eq312] at gq312 nr_a_q312
  rw [← eq312]
  clear eq312
  clear hNH311 eGG313 oH311 zH311 vH311 hTH310
  refine x_putR C hTH311 hSH311 (ci := 10) (k := 30) (v := .ref q312) (ty0 := tyX10) hR hn rfl inX10 tyX10_ok nmX10 (by decide) (Or.inr ⟨rfl, rfl, rfl⟩) wF_X10_77 (Nat.le_of_ble_eq_true rfl) rfl rfl (Or.inl rfl) dX10_init_918 (fun H314 locsH314 hR2 hTH314 hSH314 oH314 zH314 => ?_)
  clear hR
  have hR : RAW K H314 a 10 [.int 0, .int 0, .int 0, .int 10, .ref q103, .ref q107, .ref q111, .ref q115, .ref q119, .ref q123, .ref q127, .ref q131, .ref q135, .ref q139, .ref q143, .ref q157, .ref q161, .ref q165, .int 0, .int 0, .int 0, .int 0, .int 0, .ref q169, .ref q288, .ref q292, .ref q296, .ref q300, .ref q304, .ref q308, .ref q312, .null, .null, .null, .int 0, .int 0, .int 0, .null, .int 0, .int 0, .int 0, .int 0, .int 0, .null, .null, .null, .null, .null, .null, .null, .null, .null, .null, .null, .null, .null, .int 0, .null, .null, .int 0, .null, .null, .int 0, .null, .null, .int 0, .null, .null, .null, .null, .int 0, .int 0, .int 0, .null] := hR2
  clear hR2
  replace z9 := ZR.kept (oH314 _ (g_ne gq123 hn)) z9
  replace z10 := ZR.kept (oH314 _ (g_ne gq127 hn)) z10
  replace z13 := ZR.kept (oH314 _ (g_ne gq139 hn)) z13
  replace w23 := WDN.kept (oH314 _ (g_ne gq169 hn)) w23
  replace z24 := ZR.kept (oH314 _ (g_ne gq288 hn)) z24
  clear oH314 zH314 hTH311
  refine lv_aload_n hx hb dX10_init_921 rfl (lv_at hl 0 rfl) ?_
  refine lv_bipush (v := 112) hx hb dX10_init_922 (by decide) ?_
  refine x_newa C hTH314 hSH314 wAC_int rg_135 (by decide) rfl (by decide) ⟨by decide, by decide⟩ dX10_init_924 (fun H315 hTH315 hSH315 oH315 zH315 vH315 => ?_)
  have hNH315 : G313 H314.size = none := hTH314.gb _ (Nat.le_refl _)
  obtain ⟨G317, eGG317⟩ : ∃ g, g = gU G313 H314.size 135 := ⟨_, rfl⟩
  rw [← eGG317] at hTH315
  have nr_a_q316 : a ≠ H314.size := Nat.ne_of_lt hR.lt
  replace hR := hR.kept (oH315 _ hR.lt)
  replace z9 := ZR.kept (oH315 _ (hTH314.lt gq123)) z9
  replace z10 := ZR.kept (oH315 _ (hTH314.lt gq127)) z10
  replace z13 := ZR.kept (oH315 _ (hTH314.lt gq139)) z13
  replace w23 := WDN.kept (oH315 _ (hTH314.lt gq169)) w23
  replace z24 := ZR.kept (oH315 _ (hTH314.lt gq288)) z24
  replace gq103 : G317 q103 = some 113 := by rw [eGG317]; exact gU_mono hNH315 _ _ gq103
  replace gq107 : G317 q107 = some 114 := by rw [eGG317]; exact gU_mono hNH315 _ _ gq107
  replace gq111 : G317 q111 = some 115 := by rw [eGG317]; exact gU_mono hNH315 _ _ gq111
  replace gq115 : G317 q115 = some 116 := by rw [eGG317]; exact gU_mono hNH315 _ _ gq115
  replace gq119 : G317 q119 = some 117 := by rw [eGG317]; exact gU_mono hNH315 _ _ gq119
  replace gq123 : G317 q123 = some 118 := by rw [eGG317]; exact gU_mono hNH315 _ _ gq123
  replace gq127 : G317 q127 = some 119 := by rw [eGG317]; exact gU_mono hNH315 _ _ gq127
  replace gq131 : G317 q131 = some 120 := by rw [eGG317]; exact gU_mono hNH315 _ _ gq131
  replace gq135 : G317 q135 = some 121 := by rw [eGG317]; exact gU_mono hNH315 _ _ gq135
  replace gq139 : G317 q139 = some 122 := by rw [eGG317]; exact gU_mono hNH315 _ _ gq139
  replace gq143 : G317 q143 = some 123 := by rw [eGG317]; exact gU_mono hNH315 _ _ gq143
  replace gq157 : G317 q157 = some 124 := by rw [eGG317]; exact gU_mono hNH315 _ _ gq157
  replace gq161 : G317 q161 = some 125 := by rw [eGG317]; exact gU_mono hNH315 _ _ gq161
  replace gq165 : G317 q165 = some 126 := by rw [eGG317]; exact gU_mono hNH315 _ _ gq165
  replace gq169 : G317 q169 = some 127 := by rw [eGG317]; exact gU_mono hNH315 _ _ gq169
  replace gq288 : G317 q288 = some 128 := by rw [eGG317]; exact gU_mono hNH315 _ _ gq288
  replace gq292 : G317 q292 = some 129 := by rw [eGG317]; exact gU_mono hNH315 _ _ gq292
  replace gq296 : G317 q296 = some 130 := by rw [eGG317]; exact gU_mono hNH315 _ _ gq296
  replace gq300 : G317 q300 = some 131 := by rw [eGG317]; exact gU_mono hNH315 _ _ gq300
  replace gq304 : G317 q304 = some 132 := by rw [eGG317]; exact gU_mono hNH315 _ _ gq304
  replace gq308 : G317 q308 = some 133 := by rw [eGG317]; exact gU_mono hNH315 _ _ gq308
  replace gq312 : G317 q312 = some 134 := by rw [eGG317]; exact gU_mono hNH315 _ _ gq312
  replace hn : G317 a = none := by rw [eGG317, gU_ne nr_a_q316]; exact hn
  replace hGo : ∀ q, q < s.heap.size → q ≠ a → G317 q = G q := fun q hq hqa => (show G317 q = G313 q by rw [eGG317, gU_ne (Nat.ne_of_lt (Nat.lt_of_lt_of_le hq hSH314.1))]).trans (hGo q hq hqa)
  have gq316 : G317 H314.size = some 135 := by rw [eGG317]; exact gU_at
  obtain ⟨q316, eq316⟩ : ∃ q, q = H314.size := ⟨_, rfl⟩
  have leq316 : s.heap.size ≤ q316 := by rw [eq316]; exact hSH314.1
  rw [← eq316] at gq316 nr_a_q316
  rw [← eq316]
  clear eq316
  clear hNH315 eGG317 oH315 zH315 vH315 hTH314
  refine x_putR C hTH315 hSH315 (ci := 10) (k := 31) (v := .ref q316) (ty0 := tyX10) hR hn rfl inX10 tyX10_ok nmX10 (by decide) (Or.inr ⟨rfl, rfl, rfl⟩) wF_X10_80 (Nat.le_of_ble_eq_true rfl) rfl rfl (Or.inl rfl) dX10_init_926 (fun H318 locsH318 hR2 hTH318 hSH318 oH318 zH318 => ?_)
  clear hR
  have hR : RAW K H318 a 10 [.int 0, .int 0, .int 0, .int 10, .ref q103, .ref q107, .ref q111, .ref q115, .ref q119, .ref q123, .ref q127, .ref q131, .ref q135, .ref q139, .ref q143, .ref q157, .ref q161, .ref q165, .int 0, .int 0, .int 0, .int 0, .int 0, .ref q169, .ref q288, .ref q292, .ref q296, .ref q300, .ref q304, .ref q308, .ref q312, .ref q316, .null, .null, .int 0, .int 0, .int 0, .null, .int 0, .int 0, .int 0, .int 0, .int 0, .null, .null, .null, .null, .null, .null, .null, .null, .null, .null, .null, .null, .null, .int 0, .null, .null, .int 0, .null, .null, .int 0, .null, .null, .int 0, .null, .null, .null, .null, .int 0, .int 0, .int 0, .null] := hR2
  clear hR2
  replace z9 := ZR.kept (oH318 _ (g_ne gq123 hn)) z9
  replace z10 := ZR.kept (oH318 _ (g_ne gq127 hn)) z10
  replace z13 := ZR.kept (oH318 _ (g_ne gq139 hn)) z13
  replace w23 := WDN.kept (oH318 _ (g_ne gq169 hn)) w23
  replace z24 := ZR.kept (oH318 _ (g_ne gq288 hn)) z24
  clear oH318 zH318 hTH315
  refine lv_aload_n hx hb dX10_init_929 rfl (lv_at hl 0 rfl) ?_
  refine lv_sipush (v := 3500) hx hb dX10_init_930 (by decide) ?_
  refine x_newa C hTH318 hSH318 wAC_int rg_136 (by decide) rfl (by decide) ⟨by decide, by decide⟩ dX10_init_933 (fun H319 hTH319 hSH319 oH319 zH319 vH319 => ?_)
  have hNH319 : G317 H318.size = none := hTH318.gb _ (Nat.le_refl _)
  obtain ⟨G321, eGG321⟩ : ∃ g, g = gU G317 H318.size 136 := ⟨_, rfl⟩
  rw [← eGG321] at hTH319
  have nr_a_q320 : a ≠ H318.size := Nat.ne_of_lt hR.lt
  replace hR := hR.kept (oH319 _ hR.lt)
  replace z9 := ZR.kept (oH319 _ (hTH318.lt gq123)) z9
  replace z10 := ZR.kept (oH319 _ (hTH318.lt gq127)) z10
  replace z13 := ZR.kept (oH319 _ (hTH318.lt gq139)) z13
  replace w23 := WDN.kept (oH319 _ (hTH318.lt gq169)) w23
  replace z24 := ZR.kept (oH319 _ (hTH318.lt gq288)) z24
  replace gq103 : G321 q103 = some 113 := by rw [eGG321]; exact gU_mono hNH319 _ _ gq103
  replace gq107 : G321 q107 = some 114 := by rw [eGG321]; exact gU_mono hNH319 _ _ gq107
  replace gq111 : G321 q111 = some 115 := by rw [eGG321]; exact gU_mono hNH319 _ _ gq111
  replace gq115 : G321 q115 = some 116 := by rw [eGG321]; exact gU_mono hNH319 _ _ gq115
  replace gq119 : G321 q119 = some 117 := by rw [eGG321]; exact gU_mono hNH319 _ _ gq119
  replace gq123 : G321 q123 = some 118 := by rw [eGG321]; exact gU_mono hNH319 _ _ gq123
  replace gq127 : G321 q127 = some 119 := by rw [eGG321]; exact gU_mono hNH319 _ _ gq127
  replace gq131 : G321 q131 = some 120 := by rw [eGG321]; exact gU_mono hNH319 _ _ gq131
  replace gq135 : G321 q135 = some 121 := by rw [eGG321]; exact gU_mono hNH319 _ _ gq135
  replace gq139 : G321 q139 = some 122 := by rw [eGG321]; exact gU_mono hNH319 _ _ gq139
  replace gq143 : G321 q143 = some 123 := by rw [eGG321]; exact gU_mono hNH319 _ _ gq143
  replace gq157 : G321 q157 = some 124 := by rw [eGG321]; exact gU_mono hNH319 _ _ gq157
  replace gq161 : G321 q161 = some 125 := by rw [eGG321]; exact gU_mono hNH319 _ _ gq161
  replace gq165 : G321 q165 = some 126 := by rw [eGG321]; exact gU_mono hNH319 _ _ gq165
  replace gq169 : G321 q169 = some 127 := by rw [eGG321]; exact gU_mono hNH319 _ _ gq169
  replace gq288 : G321 q288 = some 128 := by rw [eGG321]; exact gU_mono hNH319 _ _ gq288
  replace gq292 : G321 q292 = some 129 := by rw [eGG321]; exact gU_mono hNH319 _ _ gq292
  replace gq296 : G321 q296 = some 130 := by rw [eGG321]; exact gU_mono hNH319 _ _ gq296
  replace gq300 : G321 q300 = some 131 := by rw [eGG321]; exact gU_mono hNH319 _ _ gq300
  replace gq304 : G321 q304 = some 132 := by rw [eGG321]; exact gU_mono hNH319 _ _ gq304
  replace gq308 : G321 q308 = some 133 := by rw [eGG321]; exact gU_mono hNH319 _ _ gq308
  replace gq312 : G321 q312 = some 134 := by rw [eGG321]; exact gU_mono hNH319 _ _ gq312
  replace gq316 : G321 q316 = some 135 := by rw [eGG321]; exact gU_mono hNH319 _ _ gq316
  replace hn : G321 a = none := by rw [eGG321, gU_ne nr_a_q320]; exact hn
  replace hGo : ∀ q, q < s.heap.size → q ≠ a → G321 q = G q := fun q hq hqa => (show G321 q = G317 q by rw [eGG321, gU_ne (Nat.ne_of_lt (Nat.lt_of_lt_of_le hq hSH318.1))]).trans (hGo q hq hqa)
  have gq320 : G321 H318.size = some 136 := by rw [eGG321]; exact gU_at
  obtain ⟨q320, eq320⟩ : ∃ q, q = H318.size := ⟨_, rfl⟩
  have leq320 : s.heap.size ≤ q320 := by rw [eq320]; exact hSH318.1
  rw [← eq320] at gq320 nr_a_q320
  rw [← eq320]
  clear eq320
  clear hNH319 eGG321 oH319 zH319 vH319 hTH318
  refine x_putR C hTH319 hSH319 (ci := 10) (k := 32) (v := .ref q320) (ty0 := tyX10) hR hn rfl inX10 tyX10_ok nmX10 (by decide) (Or.inr ⟨rfl, rfl, rfl⟩) wF_X10_83 (Nat.le_of_ble_eq_true rfl) rfl rfl (Or.inl rfl) dX10_init_935 (fun H322 locsH322 hR2 hTH322 hSH322 oH322 zH322 => ?_)
  clear hR
  have hR : RAW K H322 a 10 [.int 0, .int 0, .int 0, .int 10, .ref q103, .ref q107, .ref q111, .ref q115, .ref q119, .ref q123, .ref q127, .ref q131, .ref q135, .ref q139, .ref q143, .ref q157, .ref q161, .ref q165, .int 0, .int 0, .int 0, .int 0, .int 0, .ref q169, .ref q288, .ref q292, .ref q296, .ref q300, .ref q304, .ref q308, .ref q312, .ref q316, .ref q320, .null, .int 0, .int 0, .int 0, .null, .int 0, .int 0, .int 0, .int 0, .int 0, .null, .null, .null, .null, .null, .null, .null, .null, .null, .null, .null, .null, .null, .int 0, .null, .null, .int 0, .null, .null, .int 0, .null, .null, .int 0, .null, .null, .null, .null, .int 0, .int 0, .int 0, .null] := hR2
  clear hR2
  replace z9 := ZR.kept (oH322 _ (g_ne gq123 hn)) z9
  replace z10 := ZR.kept (oH322 _ (g_ne gq127 hn)) z10
  replace z13 := ZR.kept (oH322 _ (g_ne gq139 hn)) z13
  replace w23 := WDN.kept (oH322 _ (g_ne gq169 hn)) w23
  replace z24 := ZR.kept (oH322 _ (g_ne gq288 hn)) z24
  clear oH322 zH322 hTH319
  refine lv_aload_n hx hb dX10_init_938 rfl (lv_at hl 0 rfl) ?_
  refine lv_sipush (v := 3500) hx hb dX10_init_939 (by decide) ?_
  refine x_newa C hTH322 hSH322 wAC_int rg_137 (by decide) rfl (by decide) ⟨by decide, by decide⟩ dX10_init_942 (fun H323 hTH323 hSH323 oH323 zH323 vH323 => ?_)
  have hNH323 : G321 H322.size = none := hTH322.gb _ (Nat.le_refl _)
  obtain ⟨G325, eGG325⟩ : ∃ g, g = gU G321 H322.size 137 := ⟨_, rfl⟩
  rw [← eGG325] at hTH323
  have nr_a_q324 : a ≠ H322.size := Nat.ne_of_lt hR.lt
  replace hR := hR.kept (oH323 _ hR.lt)
  replace z9 := ZR.kept (oH323 _ (hTH322.lt gq123)) z9
  replace z10 := ZR.kept (oH323 _ (hTH322.lt gq127)) z10
  replace z13 := ZR.kept (oH323 _ (hTH322.lt gq139)) z13
  replace w23 := WDN.kept (oH323 _ (hTH322.lt gq169)) w23
  replace z24 := ZR.kept (oH323 _ (hTH322.lt gq288)) z24
  replace gq103 : G325 q103 = some 113 := by rw [eGG325]; exact gU_mono hNH323 _ _ gq103
  replace gq107 : G325 q107 = some 114 := by rw [eGG325]; exact gU_mono hNH323 _ _ gq107
  replace gq111 : G325 q111 = some 115 := by rw [eGG325]; exact gU_mono hNH323 _ _ gq111
  replace gq115 : G325 q115 = some 116 := by rw [eGG325]; exact gU_mono hNH323 _ _ gq115
  replace gq119 : G325 q119 = some 117 := by rw [eGG325]; exact gU_mono hNH323 _ _ gq119
  replace gq123 : G325 q123 = some 118 := by rw [eGG325]; exact gU_mono hNH323 _ _ gq123
  replace gq127 : G325 q127 = some 119 := by rw [eGG325]; exact gU_mono hNH323 _ _ gq127
  replace gq131 : G325 q131 = some 120 := by rw [eGG325]; exact gU_mono hNH323 _ _ gq131
  replace gq135 : G325 q135 = some 121 := by rw [eGG325]; exact gU_mono hNH323 _ _ gq135
  replace gq139 : G325 q139 = some 122 := by rw [eGG325]; exact gU_mono hNH323 _ _ gq139
  replace gq143 : G325 q143 = some 123 := by rw [eGG325]; exact gU_mono hNH323 _ _ gq143
  replace gq157 : G325 q157 = some 124 := by rw [eGG325]; exact gU_mono hNH323 _ _ gq157
  replace gq161 : G325 q161 = some 125 := by rw [eGG325]; exact gU_mono hNH323 _ _ gq161
  replace gq165 : G325 q165 = some 126 := by rw [eGG325]; exact gU_mono hNH323 _ _ gq165
  replace gq169 : G325 q169 = some 127 := by rw [eGG325]; exact gU_mono hNH323 _ _ gq169
  replace gq288 : G325 q288 = some 128 := by rw [eGG325]; exact gU_mono hNH323 _ _ gq288
  replace gq292 : G325 q292 = some 129 := by rw [eGG325]; exact gU_mono hNH323 _ _ gq292
  replace gq296 : G325 q296 = some 130 := by rw [eGG325]; exact gU_mono hNH323 _ _ gq296
  replace gq300 : G325 q300 = some 131 := by rw [eGG325]; exact gU_mono hNH323 _ _ gq300
  replace gq304 : G325 q304 = some 132 := by rw [eGG325]; exact gU_mono hNH323 _ _ gq304
  replace gq308 : G325 q308 = some 133 := by rw [eGG325]; exact gU_mono hNH323 _ _ gq308
  replace gq312 : G325 q312 = some 134 := by rw [eGG325]; exact gU_mono hNH323 _ _ gq312
  replace gq316 : G325 q316 = some 135 := by rw [eGG325]; exact gU_mono hNH323 _ _ gq316
  replace gq320 : G325 q320 = some 136 := by rw [eGG325]; exact gU_mono hNH323 _ _ gq320
  replace hn : G325 a = none := by rw [eGG325, gU_ne nr_a_q324]; exact hn
  replace hGo : ∀ q, q < s.heap.size → q ≠ a → G325 q = G q := fun q hq hqa => (show G325 q = G321 q by rw [eGG325, gU_ne (Nat.ne_of_lt (Nat.lt_of_lt_of_le hq hSH322.1))]).trans (hGo q hq hqa)
  have gq324 : G325 H322.size = some 137 := by rw [eGG325]; exact gU_at
  obtain ⟨q324, eq324⟩ : ∃ q, q = H322.size := ⟨_, rfl⟩
  have leq324 : s.heap.size ≤ q324 := by rw [eq324]; exact hSH322.1
  rw [← eq324] at gq324 nr_a_q324
  rw [← eq324]
  clear eq324
  clear hNH323 eGG325 oH323 zH323 vH323 hTH322
  refine x_putR C hTH323 hSH323 (ci := 10) (k := 33) (v := .ref q324) (ty0 := tyX10) hR hn rfl inX10 tyX10_ok nmX10 (by decide) (Or.inr ⟨rfl, rfl, rfl⟩) wF_X10_86 (Nat.le_of_ble_eq_true rfl) rfl rfl (Or.inl rfl) dX10_init_944 (fun H326 locsH326 hR2 hTH326 hSH326 oH326 zH326 => ?_)
  clear hR
  have hR : RAW K H326 a 10 [.int 0, .int 0, .int 0, .int 10, .ref q103, .ref q107, .ref q111, .ref q115, .ref q119, .ref q123, .ref q127, .ref q131, .ref q135, .ref q139, .ref q143, .ref q157, .ref q161, .ref q165, .int 0, .int 0, .int 0, .int 0, .int 0, .ref q169, .ref q288, .ref q292, .ref q296, .ref q300, .ref q304, .ref q308, .ref q312, .ref q316, .ref q320, .ref q324, .int 0, .int 0, .int 0, .null, .int 0, .int 0, .int 0, .int 0, .int 0, .null, .null, .null, .null, .null, .null, .null, .null, .null, .null, .null, .null, .null, .int 0, .null, .null, .int 0, .null, .null, .int 0, .null, .null, .int 0, .null, .null, .null, .null, .int 0, .int 0, .int 0, .null] := hR2
  clear hR2
  replace z9 := ZR.kept (oH326 _ (g_ne gq123 hn)) z9
  replace z10 := ZR.kept (oH326 _ (g_ne gq127 hn)) z10
  replace z13 := ZR.kept (oH326 _ (g_ne gq139 hn)) z13
  replace w23 := WDN.kept (oH326 _ (g_ne gq169 hn)) w23
  replace z24 := ZR.kept (oH326 _ (g_ne gq288 hn)) z24
  clear oH326 zH326 hTH323
  refine lv_aload_n hx hb dX10_init_947 rfl (lv_at hl 0 rfl) ?_
  refine lv_bipush (v := 40) hx hb dX10_init_948 (by decide) ?_
  refine x_newa C hTH326 hSH326 wAC_int rg_138 (by decide) rfl (by decide) ⟨by decide, by decide⟩ dX10_init_950 (fun H327 hTH327 hSH327 oH327 zH327 vH327 => ?_)
  have hNH327 : G325 H326.size = none := hTH326.gb _ (Nat.le_refl _)
  obtain ⟨G329, eGG329⟩ : ∃ g, g = gU G325 H326.size 138 := ⟨_, rfl⟩
  rw [← eGG329] at hTH327
  have nr_a_q328 : a ≠ H326.size := Nat.ne_of_lt hR.lt
  replace hR := hR.kept (oH327 _ hR.lt)
  replace z9 := ZR.kept (oH327 _ (hTH326.lt gq123)) z9
  replace z10 := ZR.kept (oH327 _ (hTH326.lt gq127)) z10
  replace z13 := ZR.kept (oH327 _ (hTH326.lt gq139)) z13
  replace w23 := WDN.kept (oH327 _ (hTH326.lt gq169)) w23
  replace z24 := ZR.kept (oH327 _ (hTH326.lt gq288)) z24
  replace gq103 : G329 q103 = some 113 := by rw [eGG329]; exact gU_mono hNH327 _ _ gq103
  replace gq107 : G329 q107 = some 114 := by rw [eGG329]; exact gU_mono hNH327 _ _ gq107
  replace gq111 : G329 q111 = some 115 := by rw [eGG329]; exact gU_mono hNH327 _ _ gq111
  replace gq115 : G329 q115 = some 116 := by rw [eGG329]; exact gU_mono hNH327 _ _ gq115
  replace gq119 : G329 q119 = some 117 := by rw [eGG329]; exact gU_mono hNH327 _ _ gq119
  replace gq123 : G329 q123 = some 118 := by rw [eGG329]; exact gU_mono hNH327 _ _ gq123
  replace gq127 : G329 q127 = some 119 := by rw [eGG329]; exact gU_mono hNH327 _ _ gq127
  replace gq131 : G329 q131 = some 120 := by rw [eGG329]; exact gU_mono hNH327 _ _ gq131
  replace gq135 : G329 q135 = some 121 := by rw [eGG329]; exact gU_mono hNH327 _ _ gq135
  replace gq139 : G329 q139 = some 122 := by rw [eGG329]; exact gU_mono hNH327 _ _ gq139
  replace gq143 : G329 q143 = some 123 := by rw [eGG329]; exact gU_mono hNH327 _ _ gq143
  replace gq157 : G329 q157 = some 124 := by rw [eGG329]; exact gU_mono hNH327 _ _ gq157
  replace gq161 : G329 q161 = some 125 := by rw [eGG329]; exact gU_mono hNH327 _ _ gq161
  replace gq165 : G329 q165 = some 126 := by rw [eGG329]; exact gU_mono hNH327 _ _ gq165
  replace gq169 : G329 q169 = some 127 := by rw [eGG329]; exact gU_mono hNH327 _ _ gq169
  replace gq288 : G329 q288 = some 128 := by rw [eGG329]; exact gU_mono hNH327 _ _ gq288
  replace gq292 : G329 q292 = some 129 := by rw [eGG329]; exact gU_mono hNH327 _ _ gq292
  replace gq296 : G329 q296 = some 130 := by rw [eGG329]; exact gU_mono hNH327 _ _ gq296
  replace gq300 : G329 q300 = some 131 := by rw [eGG329]; exact gU_mono hNH327 _ _ gq300
  replace gq304 : G329 q304 = some 132 := by rw [eGG329]; exact gU_mono hNH327 _ _ gq304
  replace gq308 : G329 q308 = some 133 := by rw [eGG329]; exact gU_mono hNH327 _ _ gq308
  replace gq312 : G329 q312 = some 134 := by rw [eGG329]; exact gU_mono hNH327 _ _ gq312
  replace gq316 : G329 q316 = some 135 := by rw [eGG329]; exact gU_mono hNH327 _ _ gq316
  replace gq320 : G329 q320 = some 136 := by rw [eGG329]; exact gU_mono hNH327 _ _ gq320
  replace gq324 : G329 q324 = some 137 := by rw [eGG329]; exact gU_mono hNH327 _ _ gq324
  replace hn : G329 a = none := by rw [eGG329, gU_ne nr_a_q328]; exact hn
  replace hGo : ∀ q, q < s.heap.size → q ≠ a → G329 q = G q := fun q hq hqa => (show G329 q = G325 q by rw [eGG329, gU_ne (Nat.ne_of_lt (Nat.lt_of_lt_of_le hq hSH326.1))]).trans (hGo q hq hqa)
  have gq328 : G329 H326.size = some 138 := by rw [eGG329]; exact gU_at
  obtain ⟨q328, eq328⟩ : ∃ q, q = H326.size := ⟨_, rfl⟩
  have leq328 : s.heap.size ≤ q328 := by rw [eq328]; exact hSH326.1
  rw [← eq328] at gq328 nr_a_q328
  rw [← eq328]
  clear eq328
  clear hNH327 eGG329 oH327 zH327 vH327 hTH326
  refine x_putR C hTH327 hSH327 (ci := 10) (k := 37) (v := .ref q328) (ty0 := tyX10) hR hn rfl inX10 tyX10_ok nmX10 (by decide) (Or.inr ⟨rfl, rfl, rfl⟩) wF_X10_89 (Nat.le_of_ble_eq_true rfl) rfl rfl (Or.inl rfl) dX10_init_952 (fun H330 locsH330 hR2 hTH330 hSH330 oH330 zH330 => ?_)
  clear hR
  have hR : RAW K H330 a 10 [.int 0, .int 0, .int 0, .int 10, .ref q103, .ref q107, .ref q111, .ref q115, .ref q119, .ref q123, .ref q127, .ref q131, .ref q135, .ref q139, .ref q143, .ref q157, .ref q161, .ref q165, .int 0, .int 0, .int 0, .int 0, .int 0, .ref q169, .ref q288, .ref q292, .ref q296, .ref q300, .ref q304, .ref q308, .ref q312, .ref q316, .ref q320, .ref q324, .int 0, .int 0, .int 0, .ref q328, .int 0, .int 0, .int 0, .int 0, .int 0, .null, .null, .null, .null, .null, .null, .null, .null, .null, .null, .null, .null, .null, .int 0, .null, .null, .int 0, .null, .null, .int 0, .null, .null, .int 0, .null, .null, .null, .null, .int 0, .int 0, .int 0, .null] := hR2
  clear hR2
  replace z9 := ZR.kept (oH330 _ (g_ne gq123 hn)) z9
  replace z10 := ZR.kept (oH330 _ (g_ne gq127 hn)) z10
  replace z13 := ZR.kept (oH330 _ (g_ne gq139 hn)) z13
  replace w23 := WDN.kept (oH330 _ (g_ne gq169 hn)) w23
  replace z24 := ZR.kept (oH330 _ (g_ne gq288 hn)) z24
  clear oH330 zH330 hTH327
  refine lv_aload_n hx hb dX10_init_955 rfl (lv_at hl 0 rfl) ?_
  refine lv_iconst (v := (-1)) hx hb dX10_init_956 (by decide) ?_
  refine x_putR C hTH330 hSH330 (ci := 10) (k := 42) (v := .int (-1)) (ty0 := tyX10) hR hn rfl inX10 tyX10_ok nmX10 (by decide) (Or.inl rfl) wF_X10_92 (Nat.le_of_ble_eq_true rfl) rfl rfl (Or.inl rfl) dX10_init_957 (fun H331 locsH331 hR2 hTH331 hSH331 oH331 zH331 => ?_)
  clear hR
  have hR : RAW K H331 a 10 [.int 0, .int 0, .int 0, .int 10, .ref q103, .ref q107, .ref q111, .ref q115, .ref q119, .ref q123, .ref q127, .ref q131, .ref q135, .ref q139, .ref q143, .ref q157, .ref q161, .ref q165, .int 0, .int 0, .int 0, .int 0, .int 0, .ref q169, .ref q288, .ref q292, .ref q296, .ref q300, .ref q304, .ref q308, .ref q312, .ref q316, .ref q320, .ref q324, .int 0, .int 0, .int 0, .ref q328, .int 0, .int 0, .int 0, .int 0, .int (-1), .null, .null, .null, .null, .null, .null, .null, .null, .null, .null, .null, .null, .null, .int 0, .null, .null, .int 0, .null, .null, .int 0, .null, .null, .int 0, .null, .null, .null, .null, .int 0, .int 0, .int 0, .null] := hR2
  clear hR2
  replace z9 := ZR.kept (oH331 _ (g_ne gq123 hn)) z9
  replace z10 := ZR.kept (oH331 _ (g_ne gq127 hn)) z10
  replace z13 := ZR.kept (oH331 _ (g_ne gq139 hn)) z13
  replace w23 := WDN.kept (oH331 _ (g_ne gq169 hn)) w23
  replace z24 := ZR.kept (oH331 _ (g_ne gq288 hn)) z24
  clear oH331 zH331 hTH330
  refine lv_aload_n hx hb dX10_init_960 rfl (lv_at hl 0 rfl) ?_
  refine lv_bipush (v := 14) hx hb dX10_init_961 (by decide) ?_
  refine x_newa C hTH331 hSH331 wAC_int rg_139 (by decide) rfl (by decide) ⟨by decide, by decide⟩ dX10_init_963 (fun H332 hTH332 hSH332 oH332 zH332 vH332 => ?_)
  have hNH332 : G329 H331.size = none := hTH331.gb _ (Nat.le_refl _)
  obtain ⟨G334, eGG334⟩ : ∃ g, g = gU G329 H331.size 139 := ⟨_, rfl⟩
  rw [← eGG334] at hTH332
  have nr_a_q333 : a ≠ H331.size := Nat.ne_of_lt hR.lt
  replace hR := hR.kept (oH332 _ hR.lt)
  replace z9 := ZR.kept (oH332 _ (hTH331.lt gq123)) z9
  replace z10 := ZR.kept (oH332 _ (hTH331.lt gq127)) z10
  replace z13 := ZR.kept (oH332 _ (hTH331.lt gq139)) z13
  replace w23 := WDN.kept (oH332 _ (hTH331.lt gq169)) w23
  replace z24 := ZR.kept (oH332 _ (hTH331.lt gq288)) z24
  replace gq103 : G334 q103 = some 113 := by rw [eGG334]; exact gU_mono hNH332 _ _ gq103
  replace gq107 : G334 q107 = some 114 := by rw [eGG334]; exact gU_mono hNH332 _ _ gq107
  replace gq111 : G334 q111 = some 115 := by rw [eGG334]; exact gU_mono hNH332 _ _ gq111
  replace gq115 : G334 q115 = some 116 := by rw [eGG334]; exact gU_mono hNH332 _ _ gq115
  replace gq119 : G334 q119 = some 117 := by rw [eGG334]; exact gU_mono hNH332 _ _ gq119
  replace gq123 : G334 q123 = some 118 := by rw [eGG334]; exact gU_mono hNH332 _ _ gq123
  replace gq127 : G334 q127 = some 119 := by rw [eGG334]; exact gU_mono hNH332 _ _ gq127
  replace gq131 : G334 q131 = some 120 := by rw [eGG334]; exact gU_mono hNH332 _ _ gq131
  replace gq135 : G334 q135 = some 121 := by rw [eGG334]; exact gU_mono hNH332 _ _ gq135
  replace gq139 : G334 q139 = some 122 := by rw [eGG334]; exact gU_mono hNH332 _ _ gq139
  replace gq143 : G334 q143 = some 123 := by rw [eGG334]; exact gU_mono hNH332 _ _ gq143
  replace gq157 : G334 q157 = some 124 := by rw [eGG334]; exact gU_mono hNH332 _ _ gq157
  replace gq161 : G334 q161 = some 125 := by rw [eGG334]; exact gU_mono hNH332 _ _ gq161
  replace gq165 : G334 q165 = some 126 := by rw [eGG334]; exact gU_mono hNH332 _ _ gq165
  replace gq169 : G334 q169 = some 127 := by rw [eGG334]; exact gU_mono hNH332 _ _ gq169
  replace gq288 : G334 q288 = some 128 := by rw [eGG334]; exact gU_mono hNH332 _ _ gq288
  replace gq292 : G334 q292 = some 129 := by rw [eGG334]; exact gU_mono hNH332 _ _ gq292
  replace gq296 : G334 q296 = some 130 := by rw [eGG334]; exact gU_mono hNH332 _ _ gq296
  replace gq300 : G334 q300 = some 131 := by rw [eGG334]; exact gU_mono hNH332 _ _ gq300
  replace gq304 : G334 q304 = some 132 := by rw [eGG334]; exact gU_mono hNH332 _ _ gq304
  replace gq308 : G334 q308 = some 133 := by rw [eGG334]; exact gU_mono hNH332 _ _ gq308
  replace gq312 : G334 q312 = some 134 := by rw [eGG334]; exact gU_mono hNH332 _ _ gq312
  replace gq316 : G334 q316 = some 135 := by rw [eGG334]; exact gU_mono hNH332 _ _ gq316
  replace gq320 : G334 q320 = some 136 := by rw [eGG334]; exact gU_mono hNH332 _ _ gq320
  replace gq324 : G334 q324 = some 137 := by rw [eGG334]; exact gU_mono hNH332 _ _ gq324
  replace gq328 : G334 q328 = some 138 := by rw [eGG334]; exact gU_mono hNH332 _ _ gq328
  replace hn : G334 a = none := by rw [eGG334, gU_ne nr_a_q333]; exact hn
  replace hGo : ∀ q, q < s.heap.size → q ≠ a → G334 q = G q := fun q hq hqa => (show G334 q = G329 q by rw [eGG334, gU_ne (Nat.ne_of_lt (Nat.lt_of_lt_of_le hq hSH331.1))]).trans (hGo q hq hqa)
  have gq333 : G334 H331.size = some 139 := by rw [eGG334]; exact gU_at
  obtain ⟨q333, eq333⟩ : ∃ q, q = H331.size := ⟨_, rfl⟩
  have leq333 : s.heap.size ≤ q333 := by rw [eq333]; exact hSH331.1
  rw [← eq333] at gq333 nr_a_q333
  rw [← eq333]
  clear eq333
  clear hNH332 eGG334 oH332 zH332 vH332 hTH331
  refine x_putR C hTH332 hSH332 (ci := 10) (k := 43) (v := .ref q333) (ty0 := tyX10) hR hn rfl inX10 tyX10_ok nmX10 (by decide) (Or.inr ⟨rfl, rfl, rfl⟩) wF_X10_95 (Nat.le_of_ble_eq_true rfl) rfl rfl (Or.inl rfl) dX10_init_965 (fun H335 locsH335 hR2 hTH335 hSH335 oH335 zH335 => ?_)
  clear hR
  have hR : RAW K H335 a 10 [.int 0, .int 0, .int 0, .int 10, .ref q103, .ref q107, .ref q111, .ref q115, .ref q119, .ref q123, .ref q127, .ref q131, .ref q135, .ref q139, .ref q143, .ref q157, .ref q161, .ref q165, .int 0, .int 0, .int 0, .int 0, .int 0, .ref q169, .ref q288, .ref q292, .ref q296, .ref q300, .ref q304, .ref q308, .ref q312, .ref q316, .ref q320, .ref q324, .int 0, .int 0, .int 0, .ref q328, .int 0, .int 0, .int 0, .int 0, .int (-1), .ref q333, .null, .null, .null, .null, .null, .null, .null, .null, .null, .null, .null, .null, .int 0, .null, .null, .int 0, .null, .null, .int 0, .null, .null, .int 0, .null, .null, .null, .null, .int 0, .int 0, .int 0, .null] := hR2
  clear hR2
  replace z9 := ZR.kept (oH335 _ (g_ne gq123 hn)) z9
  replace z10 := ZR.kept (oH335 _ (g_ne gq127 hn)) z10
  replace z13 := ZR.kept (oH335 _ (g_ne gq139 hn)) z13
  replace w23 := WDN.kept (oH335 _ (g_ne gq169 hn)) w23
  replace z24 := ZR.kept (oH335 _ (g_ne gq288 hn)) z24
  clear oH335 zH335 hTH332
  refine lv_aload_n hx hb dX10_init_968 rfl (lv_at hl 0 rfl) ?_
  refine lv_sipush (v := 520) hx hb dX10_init_969 (by decide) ?_
  refine x_newa C hTH335 hSH335 wAC_int rg_140 (by decide) rfl (by decide) ⟨by decide, by decide⟩ dX10_init_972 (fun H336 hTH336 hSH336 oH336 zH336 vH336 => ?_)
  have hNH336 : G334 H335.size = none := hTH335.gb _ (Nat.le_refl _)
  obtain ⟨G338, eGG338⟩ : ∃ g, g = gU G334 H335.size 140 := ⟨_, rfl⟩
  rw [← eGG338] at hTH336
  have nr_a_q337 : a ≠ H335.size := Nat.ne_of_lt hR.lt
  replace hR := hR.kept (oH336 _ hR.lt)
  replace z9 := ZR.kept (oH336 _ (hTH335.lt gq123)) z9
  replace z10 := ZR.kept (oH336 _ (hTH335.lt gq127)) z10
  replace z13 := ZR.kept (oH336 _ (hTH335.lt gq139)) z13
  replace w23 := WDN.kept (oH336 _ (hTH335.lt gq169)) w23
  replace z24 := ZR.kept (oH336 _ (hTH335.lt gq288)) z24
  replace gq103 : G338 q103 = some 113 := by rw [eGG338]; exact gU_mono hNH336 _ _ gq103
  replace gq107 : G338 q107 = some 114 := by rw [eGG338]; exact gU_mono hNH336 _ _ gq107
  replace gq111 : G338 q111 = some 115 := by rw [eGG338]; exact gU_mono hNH336 _ _ gq111
  replace gq115 : G338 q115 = some 116 := by rw [eGG338]; exact gU_mono hNH336 _ _ gq115
  replace gq119 : G338 q119 = some 117 := by rw [eGG338]; exact gU_mono hNH336 _ _ gq119
  replace gq123 : G338 q123 = some 118 := by rw [eGG338]; exact gU_mono hNH336 _ _ gq123
  replace gq127 : G338 q127 = some 119 := by rw [eGG338]; exact gU_mono hNH336 _ _ gq127
  replace gq131 : G338 q131 = some 120 := by rw [eGG338]; exact gU_mono hNH336 _ _ gq131
  replace gq135 : G338 q135 = some 121 := by rw [eGG338]; exact gU_mono hNH336 _ _ gq135
  replace gq139 : G338 q139 = some 122 := by rw [eGG338]; exact gU_mono hNH336 _ _ gq139
  replace gq143 : G338 q143 = some 123 := by rw [eGG338]; exact gU_mono hNH336 _ _ gq143
  replace gq157 : G338 q157 = some 124 := by rw [eGG338]; exact gU_mono hNH336 _ _ gq157
  replace gq161 : G338 q161 = some 125 := by rw [eGG338]; exact gU_mono hNH336 _ _ gq161
  replace gq165 : G338 q165 = some 126 := by rw [eGG338]; exact gU_mono hNH336 _ _ gq165
  replace gq169 : G338 q169 = some 127 := by rw [eGG338]; exact gU_mono hNH336 _ _ gq169
  replace gq288 : G338 q288 = some 128 := by rw [eGG338]; exact gU_mono hNH336 _ _ gq288
  replace gq292 : G338 q292 = some 129 := by rw [eGG338]; exact gU_mono hNH336 _ _ gq292
  replace gq296 : G338 q296 = some 130 := by rw [eGG338]; exact gU_mono hNH336 _ _ gq296
  replace gq300 : G338 q300 = some 131 := by rw [eGG338]; exact gU_mono hNH336 _ _ gq300
  replace gq304 : G338 q304 = some 132 := by rw [eGG338]; exact gU_mono hNH336 _ _ gq304
  replace gq308 : G338 q308 = some 133 := by rw [eGG338]; exact gU_mono hNH336 _ _ gq308
  replace gq312 : G338 q312 = some 134 := by rw [eGG338]; exact gU_mono hNH336 _ _ gq312
  replace gq316 : G338 q316 = some 135 := by rw [eGG338]; exact gU_mono hNH336 _ _ gq316
  replace gq320 : G338 q320 = some 136 := by rw [eGG338]; exact gU_mono hNH336 _ _ gq320
  replace gq324 : G338 q324 = some 137 := by rw [eGG338]; exact gU_mono hNH336 _ _ gq324
  replace gq328 : G338 q328 = some 138 := by rw [eGG338]; exact gU_mono hNH336 _ _ gq328
  replace gq333 : G338 q333 = some 139 := by rw [eGG338]; exact gU_mono hNH336 _ _ gq333
  replace hn : G338 a = none := by rw [eGG338, gU_ne nr_a_q337]; exact hn
  replace hGo : ∀ q, q < s.heap.size → q ≠ a → G338 q = G q := fun q hq hqa => (show G338 q = G334 q by rw [eGG338, gU_ne (Nat.ne_of_lt (Nat.lt_of_lt_of_le hq hSH335.1))]).trans (hGo q hq hqa)
  have gq337 : G338 H335.size = some 140 := by rw [eGG338]; exact gU_at
  obtain ⟨q337, eq337⟩ : ∃ q, q = H335.size := ⟨_, rfl⟩
  have leq337 : s.heap.size ≤ q337 := by rw [eq337]; exact hSH335.1
  rw [← eq337] at gq337 nr_a_q337
  rw [← eq337]
  clear eq337
  clear hNH336 eGG338 oH336 zH336 vH336 hTH335
  refine x_putR C hTH336 hSH336 (ci := 10) (k := 44) (v := .ref q337) (ty0 := tyX10) hR hn rfl inX10 tyX10_ok nmX10 (by decide) (Or.inr ⟨rfl, rfl, rfl⟩) wF_X10_98 (Nat.le_of_ble_eq_true rfl) rfl rfl (Or.inl rfl) dX10_init_974 (fun H339 locsH339 hR2 hTH339 hSH339 oH339 zH339 => ?_)
  clear hR
  have hR : RAW K H339 a 10 [.int 0, .int 0, .int 0, .int 10, .ref q103, .ref q107, .ref q111, .ref q115, .ref q119, .ref q123, .ref q127, .ref q131, .ref q135, .ref q139, .ref q143, .ref q157, .ref q161, .ref q165, .int 0, .int 0, .int 0, .int 0, .int 0, .ref q169, .ref q288, .ref q292, .ref q296, .ref q300, .ref q304, .ref q308, .ref q312, .ref q316, .ref q320, .ref q324, .int 0, .int 0, .int 0, .ref q328, .int 0, .int 0, .int 0, .int 0, .int (-1), .ref q333, .ref q337, .null, .null, .null, .null, .null, .null, .null, .null, .null, .null, .null, .int 0, .null, .null, .int 0, .null, .null, .int 0, .null, .null, .int 0, .null, .null, .null, .null, .int 0, .int 0, .int 0, .null] := hR2
  clear hR2
  replace z9 := ZR.kept (oH339 _ (g_ne gq123 hn)) z9
  replace z10 := ZR.kept (oH339 _ (g_ne gq127 hn)) z10
  replace z13 := ZR.kept (oH339 _ (g_ne gq139 hn)) z13
  replace w23 := WDN.kept (oH339 _ (g_ne gq169 hn)) w23
  replace z24 := ZR.kept (oH339 _ (g_ne gq288 hn)) z24
  clear oH339 zH339 hTH336
  refine lv_aload_n hx hb dX10_init_977 rfl (lv_at hl 0 rfl) ?_
  refine lv_iconst (v := 5) hx hb dX10_init_978 (by decide) ?_
  refine x_newa C hTH339 hSH339 wAC_int rg_141 (by decide) rfl (by decide) ⟨by decide, by decide⟩ dX10_init_979 (fun H340 hTH340 hSH340 oH340 zH340 vH340 => ?_)
  have hNH340 : G338 H339.size = none := hTH339.gb _ (Nat.le_refl _)
  obtain ⟨G342, eGG342⟩ : ∃ g, g = gU G338 H339.size 141 := ⟨_, rfl⟩
  rw [← eGG342] at hTH340
  have nr_a_q341 : a ≠ H339.size := Nat.ne_of_lt hR.lt
  replace hR := hR.kept (oH340 _ hR.lt)
  replace z9 := ZR.kept (oH340 _ (hTH339.lt gq123)) z9
  replace z10 := ZR.kept (oH340 _ (hTH339.lt gq127)) z10
  replace z13 := ZR.kept (oH340 _ (hTH339.lt gq139)) z13
  replace w23 := WDN.kept (oH340 _ (hTH339.lt gq169)) w23
  replace z24 := ZR.kept (oH340 _ (hTH339.lt gq288)) z24
  replace gq103 : G342 q103 = some 113 := by rw [eGG342]; exact gU_mono hNH340 _ _ gq103
  replace gq107 : G342 q107 = some 114 := by rw [eGG342]; exact gU_mono hNH340 _ _ gq107
  replace gq111 : G342 q111 = some 115 := by rw [eGG342]; exact gU_mono hNH340 _ _ gq111
  replace gq115 : G342 q115 = some 116 := by rw [eGG342]; exact gU_mono hNH340 _ _ gq115
  replace gq119 : G342 q119 = some 117 := by rw [eGG342]; exact gU_mono hNH340 _ _ gq119
  replace gq123 : G342 q123 = some 118 := by rw [eGG342]; exact gU_mono hNH340 _ _ gq123
  replace gq127 : G342 q127 = some 119 := by rw [eGG342]; exact gU_mono hNH340 _ _ gq127
  replace gq131 : G342 q131 = some 120 := by rw [eGG342]; exact gU_mono hNH340 _ _ gq131
  replace gq135 : G342 q135 = some 121 := by rw [eGG342]; exact gU_mono hNH340 _ _ gq135
  replace gq139 : G342 q139 = some 122 := by rw [eGG342]; exact gU_mono hNH340 _ _ gq139
  replace gq143 : G342 q143 = some 123 := by rw [eGG342]; exact gU_mono hNH340 _ _ gq143
  replace gq157 : G342 q157 = some 124 := by rw [eGG342]; exact gU_mono hNH340 _ _ gq157
  replace gq161 : G342 q161 = some 125 := by rw [eGG342]; exact gU_mono hNH340 _ _ gq161
  replace gq165 : G342 q165 = some 126 := by rw [eGG342]; exact gU_mono hNH340 _ _ gq165
  replace gq169 : G342 q169 = some 127 := by rw [eGG342]; exact gU_mono hNH340 _ _ gq169
  replace gq288 : G342 q288 = some 128 := by rw [eGG342]; exact gU_mono hNH340 _ _ gq288
  replace gq292 : G342 q292 = some 129 := by rw [eGG342]; exact gU_mono hNH340 _ _ gq292
  replace gq296 : G342 q296 = some 130 := by rw [eGG342]; exact gU_mono hNH340 _ _ gq296
  replace gq300 : G342 q300 = some 131 := by rw [eGG342]; exact gU_mono hNH340 _ _ gq300
  replace gq304 : G342 q304 = some 132 := by rw [eGG342]; exact gU_mono hNH340 _ _ gq304
  replace gq308 : G342 q308 = some 133 := by rw [eGG342]; exact gU_mono hNH340 _ _ gq308
  replace gq312 : G342 q312 = some 134 := by rw [eGG342]; exact gU_mono hNH340 _ _ gq312
  replace gq316 : G342 q316 = some 135 := by rw [eGG342]; exact gU_mono hNH340 _ _ gq316
  replace gq320 : G342 q320 = some 136 := by rw [eGG342]; exact gU_mono hNH340 _ _ gq320
  replace gq324 : G342 q324 = some 137 := by rw [eGG342]; exact gU_mono hNH340 _ _ gq324
  replace gq328 : G342 q328 = some 138 := by rw [eGG342]; exact gU_mono hNH340 _ _ gq328
  replace gq333 : G342 q333 = some 139 := by rw [eGG342]; exact gU_mono hNH340 _ _ gq333
  replace gq337 : G342 q337 = some 140 := by rw [eGG342]; exact gU_mono hNH340 _ _ gq337
  replace hn : G342 a = none := by rw [eGG342, gU_ne nr_a_q341]; exact hn
  replace hGo : ∀ q, q < s.heap.size → q ≠ a → G342 q = G q := fun q hq hqa => (show G342 q = G338 q by rw [eGG342, gU_ne (Nat.ne_of_lt (Nat.lt_of_lt_of_le hq hSH339.1))]).trans (hGo q hq hqa)
  have gq341 : G342 H339.size = some 141 := by rw [eGG342]; exact gU_at
  obtain ⟨q341, eq341⟩ : ∃ q, q = H339.size := ⟨_, rfl⟩
  have leq341 : s.heap.size ≤ q341 := by rw [eq341]; exact hSH339.1
  rw [← eq341] at gq341 nr_a_q341
  rw [← eq341]
  clear eq341
  clear hNH340 eGG342 oH340 zH340 vH340 hTH339
  refine x_putR C hTH340 hSH340 (ci := 10) (k := 45) (v := .ref q341) (ty0 := tyX10) hR hn rfl inX10 tyX10_ok nmX10 (by decide) (Or.inr ⟨rfl, rfl, rfl⟩) wF_X10_101 (Nat.le_of_ble_eq_true rfl) rfl rfl (Or.inl rfl) dX10_init_981 (fun H343 locsH343 hR2 hTH343 hSH343 oH343 zH343 => ?_)
  clear hR
  have hR : RAW K H343 a 10 [.int 0, .int 0, .int 0, .int 10, .ref q103, .ref q107, .ref q111, .ref q115, .ref q119, .ref q123, .ref q127, .ref q131, .ref q135, .ref q139, .ref q143, .ref q157, .ref q161, .ref q165, .int 0, .int 0, .int 0, .int 0, .int 0, .ref q169, .ref q288, .ref q292, .ref q296, .ref q300, .ref q304, .ref q308, .ref q312, .ref q316, .ref q320, .ref q324, .int 0, .int 0, .int 0, .ref q328, .int 0, .int 0, .int 0, .int 0, .int (-1), .ref q333, .ref q337, .ref q341, .null, .null, .null, .null, .null, .null, .null, .null, .null, .null, .int 0, .null, .null, .int 0, .null, .null, .int 0, .null, .null, .int 0, .null, .null, .null, .null, .int 0, .int 0, .int 0, .null] := hR2
  clear hR2
  replace z9 := ZR.kept (oH343 _ (g_ne gq123 hn)) z9
  replace z10 := ZR.kept (oH343 _ (g_ne gq127 hn)) z10
  replace z13 := ZR.kept (oH343 _ (g_ne gq139 hn)) z13
  replace w23 := WDN.kept (oH343 _ (g_ne gq169 hn)) w23
  replace z24 := ZR.kept (oH343 _ (g_ne gq288 hn)) z24
  clear oH343 zH343 hTH340
  refine lv_aload_n hx hb dX10_init_984 rfl (lv_at hl 0 rfl) ?_
  refine lv_iconst (v := 5) hx hb dX10_init_985 (by decide) ?_
  refine x_newa C hTH343 hSH343 wAC_int rg_142 (by decide) rfl (by decide) ⟨by decide, by decide⟩ dX10_init_986 (fun H344 hTH344 hSH344 oH344 zH344 vH344 => ?_)
  have hNH344 : G342 H343.size = none := hTH343.gb _ (Nat.le_refl _)
  obtain ⟨G346, eGG346⟩ : ∃ g, g = gU G342 H343.size 142 := ⟨_, rfl⟩
  rw [← eGG346] at hTH344
  have nr_a_q345 : a ≠ H343.size := Nat.ne_of_lt hR.lt
  replace hR := hR.kept (oH344 _ hR.lt)
  replace z9 := ZR.kept (oH344 _ (hTH343.lt gq123)) z9
  replace z10 := ZR.kept (oH344 _ (hTH343.lt gq127)) z10
  replace z13 := ZR.kept (oH344 _ (hTH343.lt gq139)) z13
  replace w23 := WDN.kept (oH344 _ (hTH343.lt gq169)) w23
  replace z24 := ZR.kept (oH344 _ (hTH343.lt gq288)) z24
  replace gq103 : G346 q103 = some 113 := by rw [eGG346]; exact gU_mono hNH344 _ _ gq103
  replace gq107 : G346 q107 = some 114 := by rw [eGG346]; exact gU_mono hNH344 _ _ gq107
  replace gq111 : G346 q111 = some 115 := by rw [eGG346]; exact gU_mono hNH344 _ _ gq111
  replace gq115 : G346 q115 = some 116 := by rw [eGG346]; exact gU_mono hNH344 _ _ gq115
  replace gq119 : G346 q119 = some 117 := by rw [eGG346]; exact gU_mono hNH344 _ _ gq119
  replace gq123 : G346 q123 = some 118 := by rw [eGG346]; exact gU_mono hNH344 _ _ gq123
  replace gq127 : G346 q127 = some 119 := by rw [eGG346]; exact gU_mono hNH344 _ _ gq127
  replace gq131 : G346 q131 = some 120 := by rw [eGG346]; exact gU_mono hNH344 _ _ gq131
  replace gq135 : G346 q135 = some 121 := by rw [eGG346]; exact gU_mono hNH344 _ _ gq135
  replace gq139 : G346 q139 = some 122 := by rw [eGG346]; exact gU_mono hNH344 _ _ gq139
  replace gq143 : G346 q143 = some 123 := by rw [eGG346]; exact gU_mono hNH344 _ _ gq143
  replace gq157 : G346 q157 = some 124 := by rw [eGG346]; exact gU_mono hNH344 _ _ gq157
  replace gq161 : G346 q161 = some 125 := by rw [eGG346]; exact gU_mono hNH344 _ _ gq161
  replace gq165 : G346 q165 = some 126 := by rw [eGG346]; exact gU_mono hNH344 _ _ gq165
  replace gq169 : G346 q169 = some 127 := by rw [eGG346]; exact gU_mono hNH344 _ _ gq169
  replace gq288 : G346 q288 = some 128 := by rw [eGG346]; exact gU_mono hNH344 _ _ gq288
  replace gq292 : G346 q292 = some 129 := by rw [eGG346]; exact gU_mono hNH344 _ _ gq292
  replace gq296 : G346 q296 = some 130 := by rw [eGG346]; exact gU_mono hNH344 _ _ gq296
  replace gq300 : G346 q300 = some 131 := by rw [eGG346]; exact gU_mono hNH344 _ _ gq300
  replace gq304 : G346 q304 = some 132 := by rw [eGG346]; exact gU_mono hNH344 _ _ gq304
  replace gq308 : G346 q308 = some 133 := by rw [eGG346]; exact gU_mono hNH344 _ _ gq308
  replace gq312 : G346 q312 = some 134 := by rw [eGG346]; exact gU_mono hNH344 _ _ gq312
  replace gq316 : G346 q316 = some 135 := by rw [eGG346]; exact gU_mono hNH344 _ _ gq316
  replace gq320 : G346 q320 = some 136 := by rw [eGG346]; exact gU_mono hNH344 _ _ gq320
  replace gq324 : G346 q324 = some 137 := by rw [eGG346]; exact gU_mono hNH344 _ _ gq324
  replace gq328 : G346 q328 = some 138 := by rw [eGG346]; exact gU_mono hNH344 _ _ gq328
  replace gq333 : G346 q333 = some 139 := by rw [eGG346]; exact gU_mono hNH344 _ _ gq333
  replace gq337 : G346 q337 = some 140 := by rw [eGG346]; exact gU_mono hNH344 _ _ gq337
  replace gq341 : G346 q341 = some 141 := by rw [eGG346]; exact gU_mono hNH344 _ _ gq341
  replace hn : G346 a = none := by rw [eGG346, gU_ne nr_a_q345]; exact hn
  replace hGo : ∀ q, q < s.heap.size → q ≠ a → G346 q = G q := fun q hq hqa => (show G346 q = G342 q by rw [eGG346, gU_ne (Nat.ne_of_lt (Nat.lt_of_lt_of_le hq hSH343.1))]).trans (hGo q hq hqa)
  have gq345 : G346 H343.size = some 142 := by rw [eGG346]; exact gU_at
  obtain ⟨q345, eq345⟩ : ∃ q, q = H343.size := ⟨_, rfl⟩
  have leq345 : s.heap.size ≤ q345 := by rw [eq345]; exact hSH343.1
  rw [← eq345] at gq345 nr_a_q345
  rw [← eq345]
  clear eq345
  clear hNH344 eGG346 oH344 zH344 vH344 hTH343
  refine x_putR C hTH344 hSH344 (ci := 10) (k := 46) (v := .ref q345) (ty0 := tyX10) hR hn rfl inX10 tyX10_ok nmX10 (by decide) (Or.inr ⟨rfl, rfl, rfl⟩) wF_X10_104 (Nat.le_of_ble_eq_true rfl) rfl rfl (Or.inl rfl) dX10_init_988 (fun H347 locsH347 hR2 hTH347 hSH347 oH347 zH347 => ?_)
  clear hR
  have hR : RAW K H347 a 10 [.int 0, .int 0, .int 0, .int 10, .ref q103, .ref q107, .ref q111, .ref q115, .ref q119, .ref q123, .ref q127, .ref q131, .ref q135, .ref q139, .ref q143, .ref q157, .ref q161, .ref q165, .int 0, .int 0, .int 0, .int 0, .int 0, .ref q169, .ref q288, .ref q292, .ref q296, .ref q300, .ref q304, .ref q308, .ref q312, .ref q316, .ref q320, .ref q324, .int 0, .int 0, .int 0, .ref q328, .int 0, .int 0, .int 0, .int 0, .int (-1), .ref q333, .ref q337, .ref q341, .ref q345, .null, .null, .null, .null, .null, .null, .null, .null, .null, .int 0, .null, .null, .int 0, .null, .null, .int 0, .null, .null, .int 0, .null, .null, .null, .null, .int 0, .int 0, .int 0, .null] := hR2
  clear hR2
  replace z9 := ZR.kept (oH347 _ (g_ne gq123 hn)) z9
  replace z10 := ZR.kept (oH347 _ (g_ne gq127 hn)) z10
  replace z13 := ZR.kept (oH347 _ (g_ne gq139 hn)) z13
  replace w23 := WDN.kept (oH347 _ (g_ne gq169 hn)) w23
  replace z24 := ZR.kept (oH347 _ (g_ne gq288 hn)) z24
  clear oH347 zH347 hTH344
  refine lv_aload_n hx hb dX10_init_991 rfl (lv_at hl 0 rfl) ?_
  refine lv_sipush (v := 144) hx hb dX10_init_992 (by decide) ?_
  refine x_newa C hTH347 hSH347 wAC_int rg_143 (by decide) rfl (by decide) ⟨by decide, by decide⟩ dX10_init_995 (fun H348 hTH348 hSH348 oH348 zH348 vH348 => ?_)
  have hNH348 : G346 H347.size = none := hTH347.gb _ (Nat.le_refl _)
  obtain ⟨G350, eGG350⟩ : ∃ g, g = gU G346 H347.size 143 := ⟨_, rfl⟩
  rw [← eGG350] at hTH348
  have nr_a_q349 : a ≠ H347.size := Nat.ne_of_lt hR.lt
  replace hR := hR.kept (oH348 _ hR.lt)
  replace z9 := ZR.kept (oH348 _ (hTH347.lt gq123)) z9
  replace z10 := ZR.kept (oH348 _ (hTH347.lt gq127)) z10
  replace z13 := ZR.kept (oH348 _ (hTH347.lt gq139)) z13
  replace w23 := WDN.kept (oH348 _ (hTH347.lt gq169)) w23
  replace z24 := ZR.kept (oH348 _ (hTH347.lt gq288)) z24
  replace gq103 : G350 q103 = some 113 := by rw [eGG350]; exact gU_mono hNH348 _ _ gq103
  replace gq107 : G350 q107 = some 114 := by rw [eGG350]; exact gU_mono hNH348 _ _ gq107
  replace gq111 : G350 q111 = some 115 := by rw [eGG350]; exact gU_mono hNH348 _ _ gq111
  replace gq115 : G350 q115 = some 116 := by rw [eGG350]; exact gU_mono hNH348 _ _ gq115
  replace gq119 : G350 q119 = some 117 := by rw [eGG350]; exact gU_mono hNH348 _ _ gq119
  replace gq123 : G350 q123 = some 118 := by rw [eGG350]; exact gU_mono hNH348 _ _ gq123
  replace gq127 : G350 q127 = some 119 := by rw [eGG350]; exact gU_mono hNH348 _ _ gq127
  replace gq131 : G350 q131 = some 120 := by rw [eGG350]; exact gU_mono hNH348 _ _ gq131
  replace gq135 : G350 q135 = some 121 := by rw [eGG350]; exact gU_mono hNH348 _ _ gq135
  replace gq139 : G350 q139 = some 122 := by rw [eGG350]; exact gU_mono hNH348 _ _ gq139
  replace gq143 : G350 q143 = some 123 := by rw [eGG350]; exact gU_mono hNH348 _ _ gq143
  replace gq157 : G350 q157 = some 124 := by rw [eGG350]; exact gU_mono hNH348 _ _ gq157
  replace gq161 : G350 q161 = some 125 := by rw [eGG350]; exact gU_mono hNH348 _ _ gq161
  replace gq165 : G350 q165 = some 126 := by rw [eGG350]; exact gU_mono hNH348 _ _ gq165
  replace gq169 : G350 q169 = some 127 := by rw [eGG350]; exact gU_mono hNH348 _ _ gq169
  replace gq288 : G350 q288 = some 128 := by rw [eGG350]; exact gU_mono hNH348 _ _ gq288
  replace gq292 : G350 q292 = some 129 := by rw [eGG350]; exact gU_mono hNH348 _ _ gq292
  replace gq296 : G350 q296 = some 130 := by rw [eGG350]; exact gU_mono hNH348 _ _ gq296
  replace gq300 : G350 q300 = some 131 := by rw [eGG350]; exact gU_mono hNH348 _ _ gq300
  replace gq304 : G350 q304 = some 132 := by rw [eGG350]; exact gU_mono hNH348 _ _ gq304
  replace gq308 : G350 q308 = some 133 := by rw [eGG350]; exact gU_mono hNH348 _ _ gq308
  replace gq312 : G350 q312 = some 134 := by rw [eGG350]; exact gU_mono hNH348 _ _ gq312
  replace gq316 : G350 q316 = some 135 := by rw [eGG350]; exact gU_mono hNH348 _ _ gq316
  replace gq320 : G350 q320 = some 136 := by rw [eGG350]; exact gU_mono hNH348 _ _ gq320
  replace gq324 : G350 q324 = some 137 := by rw [eGG350]; exact gU_mono hNH348 _ _ gq324
  replace gq328 : G350 q328 = some 138 := by rw [eGG350]; exact gU_mono hNH348 _ _ gq328
  replace gq333 : G350 q333 = some 139 := by rw [eGG350]; exact gU_mono hNH348 _ _ gq333
  replace gq337 : G350 q337 = some 140 := by rw [eGG350]; exact gU_mono hNH348 _ _ gq337
  replace gq341 : G350 q341 = some 141 := by rw [eGG350]; exact gU_mono hNH348 _ _ gq341
  replace gq345 : G350 q345 = some 142 := by rw [eGG350]; exact gU_mono hNH348 _ _ gq345
  replace hn : G350 a = none := by rw [eGG350, gU_ne nr_a_q349]; exact hn
  replace hGo : ∀ q, q < s.heap.size → q ≠ a → G350 q = G q := fun q hq hqa => (show G350 q = G346 q by rw [eGG350, gU_ne (Nat.ne_of_lt (Nat.lt_of_lt_of_le hq hSH347.1))]).trans (hGo q hq hqa)
  have gq349 : G350 H347.size = some 143 := by rw [eGG350]; exact gU_at
  obtain ⟨q349, eq349⟩ : ∃ q, q = H347.size := ⟨_, rfl⟩
  have leq349 : s.heap.size ≤ q349 := by rw [eq349]; exact hSH347.1
  rw [← eq349] at gq349 nr_a_q349
  rw [← eq349]
  clear eq349
  clear hNH348 eGG350 oH348 zH348 vH348 hTH347
  refine x_putR C hTH348 hSH348 (ci := 10) (k := 47) (v := .ref q349) (ty0 := tyX10) hR hn rfl inX10 tyX10_ok nmX10 (by decide) (Or.inr ⟨rfl, rfl, rfl⟩) wF_X10_107 (Nat.le_of_ble_eq_true rfl) rfl rfl (Or.inl rfl) dX10_init_997 (fun H351 locsH351 hR2 hTH351 hSH351 oH351 zH351 => ?_)
  clear hR
  have hR : RAW K H351 a 10 [.int 0, .int 0, .int 0, .int 10, .ref q103, .ref q107, .ref q111, .ref q115, .ref q119, .ref q123, .ref q127, .ref q131, .ref q135, .ref q139, .ref q143, .ref q157, .ref q161, .ref q165, .int 0, .int 0, .int 0, .int 0, .int 0, .ref q169, .ref q288, .ref q292, .ref q296, .ref q300, .ref q304, .ref q308, .ref q312, .ref q316, .ref q320, .ref q324, .int 0, .int 0, .int 0, .ref q328, .int 0, .int 0, .int 0, .int 0, .int (-1), .ref q333, .ref q337, .ref q341, .ref q345, .ref q349, .null, .null, .null, .null, .null, .null, .null, .null, .int 0, .null, .null, .int 0, .null, .null, .int 0, .null, .null, .int 0, .null, .null, .null, .null, .int 0, .int 0, .int 0, .null] := hR2
  clear hR2
  replace z9 := ZR.kept (oH351 _ (g_ne gq123 hn)) z9
  replace z10 := ZR.kept (oH351 _ (g_ne gq127 hn)) z10
  replace z13 := ZR.kept (oH351 _ (g_ne gq139 hn)) z13
  replace w23 := WDN.kept (oH351 _ (g_ne gq169 hn)) w23
  replace z24 := ZR.kept (oH351 _ (g_ne gq288 hn)) z24
  clear oH351 zH351 hTH348
  refine lv_aload_n hx hb dX10_init_1000 rfl (lv_at hl 0 rfl) ?_
  refine lv_sipush (v := 144) hx hb dX10_init_1001 (by decide) ?_
  refine x_newa C hTH351 hSH351 wAC_int rg_144 (by decide) rfl (by decide) ⟨by decide, by decide⟩ dX10_init_1004 (fun H352 hTH352 hSH352 oH352 zH352 vH352 => ?_)
  have hNH352 : G350 H351.size = none := hTH351.gb _ (Nat.le_refl _)
  obtain ⟨G354, eGG354⟩ : ∃ g, g = gU G350 H351.size 144 := ⟨_, rfl⟩
  rw [← eGG354] at hTH352
  have nr_a_q353 : a ≠ H351.size := Nat.ne_of_lt hR.lt
  replace hR := hR.kept (oH352 _ hR.lt)
  replace z9 := ZR.kept (oH352 _ (hTH351.lt gq123)) z9
  replace z10 := ZR.kept (oH352 _ (hTH351.lt gq127)) z10
  replace z13 := ZR.kept (oH352 _ (hTH351.lt gq139)) z13
  replace w23 := WDN.kept (oH352 _ (hTH351.lt gq169)) w23
  replace z24 := ZR.kept (oH352 _ (hTH351.lt gq288)) z24
  replace gq103 : G354 q103 = some 113 := by rw [eGG354]; exact gU_mono hNH352 _ _ gq103
  replace gq107 : G354 q107 = some 114 := by rw [eGG354]; exact gU_mono hNH352 _ _ gq107
  replace gq111 : G354 q111 = some 115 := by rw [eGG354]; exact gU_mono hNH352 _ _ gq111
  replace gq115 : G354 q115 = some 116 := by rw [eGG354]; exact gU_mono hNH352 _ _ gq115
  replace gq119 : G354 q119 = some 117 := by rw [eGG354]; exact gU_mono hNH352 _ _ gq119
  replace gq123 : G354 q123 = some 118 := by rw [eGG354]; exact gU_mono hNH352 _ _ gq123
  replace gq127 : G354 q127 = some 119 := by rw [eGG354]; exact gU_mono hNH352 _ _ gq127
  replace gq131 : G354 q131 = some 120 := by rw [eGG354]; exact gU_mono hNH352 _ _ gq131
  replace gq135 : G354 q135 = some 121 := by rw [eGG354]; exact gU_mono hNH352 _ _ gq135
  replace gq139 : G354 q139 = some 122 := by rw [eGG354]; exact gU_mono hNH352 _ _ gq139
  replace gq143 : G354 q143 = some 123 := by rw [eGG354]; exact gU_mono hNH352 _ _ gq143
  replace gq157 : G354 q157 = some 124 := by rw [eGG354]; exact gU_mono hNH352 _ _ gq157
  replace gq161 : G354 q161 = some 125 := by rw [eGG354]; exact gU_mono hNH352 _ _ gq161
  replace gq165 : G354 q165 = some 126 := by rw [eGG354]; exact gU_mono hNH352 _ _ gq165
  replace gq169 : G354 q169 = some 127 := by rw [eGG354]; exact gU_mono hNH352 _ _ gq169
  replace gq288 : G354 q288 = some 128 := by rw [eGG354]; exact gU_mono hNH352 _ _ gq288
  replace gq292 : G354 q292 = some 129 := by rw [eGG354]; exact gU_mono hNH352 _ _ gq292
  replace gq296 : G354 q296 = some 130 := by rw [eGG354]; exact gU_mono hNH352 _ _ gq296
  replace gq300 : G354 q300 = some 131 := by rw [eGG354]; exact gU_mono hNH352 _ _ gq300
  replace gq304 : G354 q304 = some 132 := by rw [eGG354]; exact gU_mono hNH352 _ _ gq304
  replace gq308 : G354 q308 = some 133 := by rw [eGG354]; exact gU_mono hNH352 _ _ gq308
  replace gq312 : G354 q312 = some 134 := by rw [eGG354]; exact gU_mono hNH352 _ _ gq312
  replace gq316 : G354 q316 = some 135 := by rw [eGG354]; exact gU_mono hNH352 _ _ gq316
  replace gq320 : G354 q320 = some 136 := by rw [eGG354]; exact gU_mono hNH352 _ _ gq320
  replace gq324 : G354 q324 = some 137 := by rw [eGG354]; exact gU_mono hNH352 _ _ gq324
  replace gq328 : G354 q328 = some 138 := by rw [eGG354]; exact gU_mono hNH352 _ _ gq328
  replace gq333 : G354 q333 = some 139 := by rw [eGG354]; exact gU_mono hNH352 _ _ gq333
  replace gq337 : G354 q337 = some 140 := by rw [eGG354]; exact gU_mono hNH352 _ _ gq337
  replace gq341 : G354 q341 = some 141 := by rw [eGG354]; exact gU_mono hNH352 _ _ gq341
  replace gq345 : G354 q345 = some 142 := by rw [eGG354]; exact gU_mono hNH352 _ _ gq345
  replace gq349 : G354 q349 = some 143 := by rw [eGG354]; exact gU_mono hNH352 _ _ gq349
  replace hn : G354 a = none := by rw [eGG354, gU_ne nr_a_q353]; exact hn
  replace hGo : ∀ q, q < s.heap.size → q ≠ a → G354 q = G q := fun q hq hqa => (show G354 q = G350 q by rw [eGG354, gU_ne (Nat.ne_of_lt (Nat.lt_of_lt_of_le hq hSH351.1))]).trans (hGo q hq hqa)
  have gq353 : G354 H351.size = some 144 := by rw [eGG354]; exact gU_at
  obtain ⟨q353, eq353⟩ : ∃ q, q = H351.size := ⟨_, rfl⟩
  have leq353 : s.heap.size ≤ q353 := by rw [eq353]; exact hSH351.1
  rw [← eq353] at gq353 nr_a_q353
  rw [← eq353]
  clear eq353
  clear hNH352 eGG354 oH352 zH352 vH352 hTH351
  refine x_putR C hTH352 hSH352 (ci := 10) (k := 48) (v := .ref q353) (ty0 := tyX10) hR hn rfl inX10 tyX10_ok nmX10 (by decide) (Or.inr ⟨rfl, rfl, rfl⟩) wF_X10_110 (Nat.le_of_ble_eq_true rfl) rfl rfl (Or.inl rfl) dX10_init_1006 (fun H355 locsH355 hR2 hTH355 hSH355 oH355 zH355 => ?_)
  clear hR
  have hR : RAW K H355 a 10 [.int 0, .int 0, .int 0, .int 10, .ref q103, .ref q107, .ref q111, .ref q115, .ref q119, .ref q123, .ref q127, .ref q131, .ref q135, .ref q139, .ref q143, .ref q157, .ref q161, .ref q165, .int 0, .int 0, .int 0, .int 0, .int 0, .ref q169, .ref q288, .ref q292, .ref q296, .ref q300, .ref q304, .ref q308, .ref q312, .ref q316, .ref q320, .ref q324, .int 0, .int 0, .int 0, .ref q328, .int 0, .int 0, .int 0, .int 0, .int (-1), .ref q333, .ref q337, .ref q341, .ref q345, .ref q349, .ref q353, .null, .null, .null, .null, .null, .null, .null, .int 0, .null, .null, .int 0, .null, .null, .int 0, .null, .null, .int 0, .null, .null, .null, .null, .int 0, .int 0, .int 0, .null] := hR2
  clear hR2
  replace z9 := ZR.kept (oH355 _ (g_ne gq123 hn)) z9
  replace z10 := ZR.kept (oH355 _ (g_ne gq127 hn)) z10
  replace z13 := ZR.kept (oH355 _ (g_ne gq139 hn)) z13
  replace w23 := WDN.kept (oH355 _ (g_ne gq169 hn)) w23
  replace z24 := ZR.kept (oH355 _ (g_ne gq288 hn)) z24
  clear oH355 zH355 hTH352
  refine lv_aload_n hx hb dX10_init_1009 rfl (lv_at hl 0 rfl) ?_
  refine lv_bipush (v := 8) hx hb dX10_init_1010 (by decide) ?_
  refine x_newa C hTH355 hSH355 wAC_int rg_145 (by decide) rfl (by decide) ⟨by decide, by decide⟩ dX10_init_1012 (fun H356 hTH356 hSH356 oH356 zH356 vH356 => ?_)
  have hNH356 : G354 H355.size = none := hTH355.gb _ (Nat.le_refl _)
  obtain ⟨G358, eGG358⟩ : ∃ g, g = gU G354 H355.size 145 := ⟨_, rfl⟩
  rw [← eGG358] at hTH356
  have nr_a_q357 : a ≠ H355.size := Nat.ne_of_lt hR.lt
  replace hR := hR.kept (oH356 _ hR.lt)
  replace z9 := ZR.kept (oH356 _ (hTH355.lt gq123)) z9
  replace z10 := ZR.kept (oH356 _ (hTH355.lt gq127)) z10
  replace z13 := ZR.kept (oH356 _ (hTH355.lt gq139)) z13
  replace w23 := WDN.kept (oH356 _ (hTH355.lt gq169)) w23
  replace z24 := ZR.kept (oH356 _ (hTH355.lt gq288)) z24
  replace gq103 : G358 q103 = some 113 := by rw [eGG358]; exact gU_mono hNH356 _ _ gq103
  replace gq107 : G358 q107 = some 114 := by rw [eGG358]; exact gU_mono hNH356 _ _ gq107
  replace gq111 : G358 q111 = some 115 := by rw [eGG358]; exact gU_mono hNH356 _ _ gq111
  replace gq115 : G358 q115 = some 116 := by rw [eGG358]; exact gU_mono hNH356 _ _ gq115
  replace gq119 : G358 q119 = some 117 := by rw [eGG358]; exact gU_mono hNH356 _ _ gq119
  replace gq123 : G358 q123 = some 118 := by rw [eGG358]; exact gU_mono hNH356 _ _ gq123
  replace gq127 : G358 q127 = some 119 := by rw [eGG358]; exact gU_mono hNH356 _ _ gq127
  replace gq131 : G358 q131 = some 120 := by rw [eGG358]; exact gU_mono hNH356 _ _ gq131
  replace gq135 : G358 q135 = some 121 := by rw [eGG358]; exact gU_mono hNH356 _ _ gq135
  replace gq139 : G358 q139 = some 122 := by rw [eGG358]; exact gU_mono hNH356 _ _ gq139
  replace gq143 : G358 q143 = some 123 := by rw [eGG358]; exact gU_mono hNH356 _ _ gq143
  replace gq157 : G358 q157 = some 124 := by rw [eGG358]; exact gU_mono hNH356 _ _ gq157
  replace gq161 : G358 q161 = some 125 := by rw [eGG358]; exact gU_mono hNH356 _ _ gq161
  replace gq165 : G358 q165 = some 126 := by rw [eGG358]; exact gU_mono hNH356 _ _ gq165
  replace gq169 : G358 q169 = some 127 := by rw [eGG358]; exact gU_mono hNH356 _ _ gq169
  replace gq288 : G358 q288 = some 128 := by rw [eGG358]; exact gU_mono hNH356 _ _ gq288
  replace gq292 : G358 q292 = some 129 := by rw [eGG358]; exact gU_mono hNH356 _ _ gq292
  replace gq296 : G358 q296 = some 130 := by rw [eGG358]; exact gU_mono hNH356 _ _ gq296
  replace gq300 : G358 q300 = some 131 := by rw [eGG358]; exact gU_mono hNH356 _ _ gq300
  replace gq304 : G358 q304 = some 132 := by rw [eGG358]; exact gU_mono hNH356 _ _ gq304
  replace gq308 : G358 q308 = some 133 := by rw [eGG358]; exact gU_mono hNH356 _ _ gq308
  replace gq312 : G358 q312 = some 134 := by rw [eGG358]; exact gU_mono hNH356 _ _ gq312
  replace gq316 : G358 q316 = some 135 := by rw [eGG358]; exact gU_mono hNH356 _ _ gq316
  replace gq320 : G358 q320 = some 136 := by rw [eGG358]; exact gU_mono hNH356 _ _ gq320
  replace gq324 : G358 q324 = some 137 := by rw [eGG358]; exact gU_mono hNH356 _ _ gq324
  replace gq328 : G358 q328 = some 138 := by rw [eGG358]; exact gU_mono hNH356 _ _ gq328
  replace gq333 : G358 q333 = some 139 := by rw [eGG358]; exact gU_mono hNH356 _ _ gq333
  replace gq337 : G358 q337 = some 140 := by rw [eGG358]; exact gU_mono hNH356 _ _ gq337
  replace gq341 : G358 q341 = some 141 := by rw [eGG358]; exact gU_mono hNH356 _ _ gq341
  replace gq345 : G358 q345 = some 142 := by rw [eGG358]; exact gU_mono hNH356 _ _ gq345
  replace gq349 : G358 q349 = some 143 := by rw [eGG358]; exact gU_mono hNH356 _ _ gq349
  replace gq353 : G358 q353 = some 144 := by rw [eGG358]; exact gU_mono hNH356 _ _ gq353
  replace hn : G358 a = none := by rw [eGG358, gU_ne nr_a_q357]; exact hn
  replace hGo : ∀ q, q < s.heap.size → q ≠ a → G358 q = G q := fun q hq hqa => (show G358 q = G354 q by rw [eGG358, gU_ne (Nat.ne_of_lt (Nat.lt_of_lt_of_le hq hSH355.1))]).trans (hGo q hq hqa)
  have gq357 : G358 H355.size = some 145 := by rw [eGG358]; exact gU_at
  obtain ⟨q357, eq357⟩ : ∃ q, q = H355.size := ⟨_, rfl⟩
  have leq357 : s.heap.size ≤ q357 := by rw [eq357]; exact hSH355.1
  rw [← eq357] at gq357 nr_a_q357
  rw [← eq357]
  clear eq357
  clear hNH356 eGG358 oH356 zH356 vH356 hTH355
  refine x_putR C hTH356 hSH356 (ci := 10) (k := 49) (v := .ref q357) (ty0 := tyX10) hR hn rfl inX10 tyX10_ok nmX10 (by decide) (Or.inr ⟨rfl, rfl, rfl⟩) wF_X10_113 (Nat.le_of_ble_eq_true rfl) rfl rfl (Or.inl rfl) dX10_init_1014 (fun H359 locsH359 hR2 hTH359 hSH359 oH359 zH359 => ?_)
  clear hR
  have hR : RAW K H359 a 10 [.int 0, .int 0, .int 0, .int 10, .ref q103, .ref q107, .ref q111, .ref q115, .ref q119, .ref q123, .ref q127, .ref q131, .ref q135, .ref q139, .ref q143, .ref q157, .ref q161, .ref q165, .int 0, .int 0, .int 0, .int 0, .int 0, .ref q169, .ref q288, .ref q292, .ref q296, .ref q300, .ref q304, .ref q308, .ref q312, .ref q316, .ref q320, .ref q324, .int 0, .int 0, .int 0, .ref q328, .int 0, .int 0, .int 0, .int 0, .int (-1), .ref q333, .ref q337, .ref q341, .ref q345, .ref q349, .ref q353, .ref q357, .null, .null, .null, .null, .null, .null, .int 0, .null, .null, .int 0, .null, .null, .int 0, .null, .null, .int 0, .null, .null, .null, .null, .int 0, .int 0, .int 0, .null] := hR2
  clear hR2
  replace z9 := ZR.kept (oH359 _ (g_ne gq123 hn)) z9
  replace z10 := ZR.kept (oH359 _ (g_ne gq127 hn)) z10
  replace z13 := ZR.kept (oH359 _ (g_ne gq139 hn)) z13
  replace w23 := WDN.kept (oH359 _ (g_ne gq169 hn)) w23
  replace z24 := ZR.kept (oH359 _ (g_ne gq288 hn)) z24
  clear oH359 zH359 hTH356
  refine lv_aload_n hx hb dX10_init_1017 rfl (lv_at hl 0 rfl) ?_
  refine lv_bipush (v := 10) hx hb dX10_init_1018 (by decide) ?_
  refine x_newa C hTH359 hSH359 wAC_int rg_146 (by decide) rfl (by decide) ⟨by decide, by decide⟩ dX10_init_1020 (fun H360 hTH360 hSH360 oH360 zH360 vH360 => ?_)
  have hNH360 : G358 H359.size = none := hTH359.gb _ (Nat.le_refl _)
  obtain ⟨G362, eGG362⟩ : ∃ g, g = gU G358 H359.size 146 := ⟨_, rfl⟩
  rw [← eGG362] at hTH360
  have nr_a_q361 : a ≠ H359.size := Nat.ne_of_lt hR.lt
  replace hR := hR.kept (oH360 _ hR.lt)
  replace z9 := ZR.kept (oH360 _ (hTH359.lt gq123)) z9
  replace z10 := ZR.kept (oH360 _ (hTH359.lt gq127)) z10
  replace z13 := ZR.kept (oH360 _ (hTH359.lt gq139)) z13
  replace w23 := WDN.kept (oH360 _ (hTH359.lt gq169)) w23
  replace z24 := ZR.kept (oH360 _ (hTH359.lt gq288)) z24
  replace gq103 : G362 q103 = some 113 := by rw [eGG362]; exact gU_mono hNH360 _ _ gq103
  replace gq107 : G362 q107 = some 114 := by rw [eGG362]; exact gU_mono hNH360 _ _ gq107
  replace gq111 : G362 q111 = some 115 := by rw [eGG362]; exact gU_mono hNH360 _ _ gq111
  replace gq115 : G362 q115 = some 116 := by rw [eGG362]; exact gU_mono hNH360 _ _ gq115
  replace gq119 : G362 q119 = some 117 := by rw [eGG362]; exact gU_mono hNH360 _ _ gq119
  replace gq123 : G362 q123 = some 118 := by rw [eGG362]; exact gU_mono hNH360 _ _ gq123
  replace gq127 : G362 q127 = some 119 := by rw [eGG362]; exact gU_mono hNH360 _ _ gq127
  replace gq131 : G362 q131 = some 120 := by rw [eGG362]; exact gU_mono hNH360 _ _ gq131
  replace gq135 : G362 q135 = some 121 := by rw [eGG362]; exact gU_mono hNH360 _ _ gq135
  replace gq139 : G362 q139 = some 122 := by rw [eGG362]; exact gU_mono hNH360 _ _ gq139
  replace gq143 : G362 q143 = some 123 := by rw [eGG362]; exact gU_mono hNH360 _ _ gq143
  replace gq157 : G362 q157 = some 124 := by rw [eGG362]; exact gU_mono hNH360 _ _ gq157
  replace gq161 : G362 q161 = some 125 := by rw [eGG362]; exact gU_mono hNH360 _ _ gq161
  replace gq165 : G362 q165 = some 126 := by rw [eGG362]; exact gU_mono hNH360 _ _ gq165
  replace gq169 : G362 q169 = some 127 := by rw [eGG362]; exact gU_mono hNH360 _ _ gq169
  replace gq288 : G362 q288 = some 128 := by rw [eGG362]; exact gU_mono hNH360 _ _ gq288
  replace gq292 : G362 q292 = some 129 := by rw [eGG362]; exact gU_mono hNH360 _ _ gq292
  replace gq296 : G362 q296 = some 130 := by rw [eGG362]; exact gU_mono hNH360 _ _ gq296
  replace gq300 : G362 q300 = some 131 := by rw [eGG362]; exact gU_mono hNH360 _ _ gq300
  replace gq304 : G362 q304 = some 132 := by rw [eGG362]; exact gU_mono hNH360 _ _ gq304
  replace gq308 : G362 q308 = some 133 := by rw [eGG362]; exact gU_mono hNH360 _ _ gq308
  replace gq312 : G362 q312 = some 134 := by rw [eGG362]; exact gU_mono hNH360 _ _ gq312
  replace gq316 : G362 q316 = some 135 := by rw [eGG362]; exact gU_mono hNH360 _ _ gq316
  replace gq320 : G362 q320 = some 136 := by rw [eGG362]; exact gU_mono hNH360 _ _ gq320
  replace gq324 : G362 q324 = some 137 := by rw [eGG362]; exact gU_mono hNH360 _ _ gq324
  replace gq328 : G362 q328 = some 138 := by rw [eGG362]; exact gU_mono hNH360 _ _ gq328
  replace gq333 : G362 q333 = some 139 := by rw [eGG362]; exact gU_mono hNH360 _ _ gq333
  replace gq337 : G362 q337 = some 140 := by rw [eGG362]; exact gU_mono hNH360 _ _ gq337
  replace gq341 : G362 q341 = some 141 := by rw [eGG362]; exact gU_mono hNH360 _ _ gq341
  replace gq345 : G362 q345 = some 142 := by rw [eGG362]; exact gU_mono hNH360 _ _ gq345
  replace gq349 : G362 q349 = some 143 := by rw [eGG362]; exact gU_mono hNH360 _ _ gq349
  replace gq353 : G362 q353 = some 144 := by rw [eGG362]; exact gU_mono hNH360 _ _ gq353
  replace gq357 : G362 q357 = some 145 := by rw [eGG362]; exact gU_mono hNH360 _ _ gq357
  replace hn : G362 a = none := by rw [eGG362, gU_ne nr_a_q361]; exact hn
  replace hGo : ∀ q, q < s.heap.size → q ≠ a → G362 q = G q := fun q hq hqa => (show G362 q = G358 q by rw [eGG362, gU_ne (Nat.ne_of_lt (Nat.lt_of_lt_of_le hq hSH359.1))]).trans (hGo q hq hqa)
  have gq361 : G362 H359.size = some 146 := by rw [eGG362]; exact gU_at
  obtain ⟨q361, eq361⟩ : ∃ q, q = H359.size := ⟨_, rfl⟩
  have leq361 : s.heap.size ≤ q361 := by rw [eq361]; exact hSH359.1
  rw [← eq361] at gq361 nr_a_q361
  rw [← eq361]
  clear eq361
  clear hNH360 eGG362 oH360 zH360 vH360 hTH359
  refine x_putR C hTH360 hSH360 (ci := 10) (k := 50) (v := .ref q361) (ty0 := tyX10) hR hn rfl inX10 tyX10_ok nmX10 (by decide) (Or.inr ⟨rfl, rfl, rfl⟩) wF_X10_116 (Nat.le_of_ble_eq_true rfl) rfl rfl (Or.inl rfl) dX10_init_1022 (fun H363 locsH363 hR2 hTH363 hSH363 oH363 zH363 => ?_)
  clear hR
  have hR : RAW K H363 a 10 [.int 0, .int 0, .int 0, .int 10, .ref q103, .ref q107, .ref q111, .ref q115, .ref q119, .ref q123, .ref q127, .ref q131, .ref q135, .ref q139, .ref q143, .ref q157, .ref q161, .ref q165, .int 0, .int 0, .int 0, .int 0, .int 0, .ref q169, .ref q288, .ref q292, .ref q296, .ref q300, .ref q304, .ref q308, .ref q312, .ref q316, .ref q320, .ref q324, .int 0, .int 0, .int 0, .ref q328, .int 0, .int 0, .int 0, .int 0, .int (-1), .ref q333, .ref q337, .ref q341, .ref q345, .ref q349, .ref q353, .ref q357, .ref q361, .null, .null, .null, .null, .null, .int 0, .null, .null, .int 0, .null, .null, .int 0, .null, .null, .int 0, .null, .null, .null, .null, .int 0, .int 0, .int 0, .null] := hR2
  clear hR2
  replace z9 := ZR.kept (oH363 _ (g_ne gq123 hn)) z9
  replace z10 := ZR.kept (oH363 _ (g_ne gq127 hn)) z10
  replace z13 := ZR.kept (oH363 _ (g_ne gq139 hn)) z13
  replace w23 := WDN.kept (oH363 _ (g_ne gq169 hn)) w23
  replace z24 := ZR.kept (oH363 _ (g_ne gq288 hn)) z24
  clear oH363 zH363 hTH360
  refine lv_aload_n hx hb dX10_init_1025 rfl (lv_at hl 0 rfl) ?_
  refine lv_bipush (v := 120) hx hb dX10_init_1026 (by decide) ?_
  refine x_newa C hTH363 hSH363 wAC_int rg_147 (by decide) rfl (by decide) ⟨by decide, by decide⟩ dX10_init_1028 (fun H364 hTH364 hSH364 oH364 zH364 vH364 => ?_)
  have hNH364 : G362 H363.size = none := hTH363.gb _ (Nat.le_refl _)
  obtain ⟨G366, eGG366⟩ : ∃ g, g = gU G362 H363.size 147 := ⟨_, rfl⟩
  rw [← eGG366] at hTH364
  have nr_a_q365 : a ≠ H363.size := Nat.ne_of_lt hR.lt
  replace hR := hR.kept (oH364 _ hR.lt)
  replace z9 := ZR.kept (oH364 _ (hTH363.lt gq123)) z9
  replace z10 := ZR.kept (oH364 _ (hTH363.lt gq127)) z10
  replace z13 := ZR.kept (oH364 _ (hTH363.lt gq139)) z13
  replace w23 := WDN.kept (oH364 _ (hTH363.lt gq169)) w23
  replace z24 := ZR.kept (oH364 _ (hTH363.lt gq288)) z24
  replace gq103 : G366 q103 = some 113 := by rw [eGG366]; exact gU_mono hNH364 _ _ gq103
  replace gq107 : G366 q107 = some 114 := by rw [eGG366]; exact gU_mono hNH364 _ _ gq107
  replace gq111 : G366 q111 = some 115 := by rw [eGG366]; exact gU_mono hNH364 _ _ gq111
  replace gq115 : G366 q115 = some 116 := by rw [eGG366]; exact gU_mono hNH364 _ _ gq115
  replace gq119 : G366 q119 = some 117 := by rw [eGG366]; exact gU_mono hNH364 _ _ gq119
  replace gq123 : G366 q123 = some 118 := by rw [eGG366]; exact gU_mono hNH364 _ _ gq123
  replace gq127 : G366 q127 = some 119 := by rw [eGG366]; exact gU_mono hNH364 _ _ gq127
  replace gq131 : G366 q131 = some 120 := by rw [eGG366]; exact gU_mono hNH364 _ _ gq131
  replace gq135 : G366 q135 = some 121 := by rw [eGG366]; exact gU_mono hNH364 _ _ gq135
  replace gq139 : G366 q139 = some 122 := by rw [eGG366]; exact gU_mono hNH364 _ _ gq139
  replace gq143 : G366 q143 = some 123 := by rw [eGG366]; exact gU_mono hNH364 _ _ gq143
  replace gq157 : G366 q157 = some 124 := by rw [eGG366]; exact gU_mono hNH364 _ _ gq157
  replace gq161 : G366 q161 = some 125 := by rw [eGG366]; exact gU_mono hNH364 _ _ gq161
  replace gq165 : G366 q165 = some 126 := by rw [eGG366]; exact gU_mono hNH364 _ _ gq165
  replace gq169 : G366 q169 = some 127 := by rw [eGG366]; exact gU_mono hNH364 _ _ gq169
  replace gq288 : G366 q288 = some 128 := by rw [eGG366]; exact gU_mono hNH364 _ _ gq288
  replace gq292 : G366 q292 = some 129 := by rw [eGG366]; exact gU_mono hNH364 _ _ gq292
  replace gq296 : G366 q296 = some 130 := by rw [eGG366]; exact gU_mono hNH364 _ _ gq296
  replace gq300 : G366 q300 = some 131 := by rw [eGG366]; exact gU_mono hNH364 _ _ gq300
  replace gq304 : G366 q304 = some 132 := by rw [eGG366]; exact gU_mono hNH364 _ _ gq304
  replace gq308 : G366 q308 = some 133 := by rw [eGG366]; exact gU_mono hNH364 _ _ gq308
  replace gq312 : G366 q312 = some 134 := by rw [eGG366]; exact gU_mono hNH364 _ _ gq312
  replace gq316 : G366 q316 = some 135 := by rw [eGG366]; exact gU_mono hNH364 _ _ gq316
  replace gq320 : G366 q320 = some 136 := by rw [eGG366]; exact gU_mono hNH364 _ _ gq320
  replace gq324 : G366 q324 = some 137 := by rw [eGG366]; exact gU_mono hNH364 _ _ gq324
  replace gq328 : G366 q328 = some 138 := by rw [eGG366]; exact gU_mono hNH364 _ _ gq328
  replace gq333 : G366 q333 = some 139 := by rw [eGG366]; exact gU_mono hNH364 _ _ gq333
  replace gq337 : G366 q337 = some 140 := by rw [eGG366]; exact gU_mono hNH364 _ _ gq337
  replace gq341 : G366 q341 = some 141 := by rw [eGG366]; exact gU_mono hNH364 _ _ gq341
  replace gq345 : G366 q345 = some 142 := by rw [eGG366]; exact gU_mono hNH364 _ _ gq345
  replace gq349 : G366 q349 = some 143 := by rw [eGG366]; exact gU_mono hNH364 _ _ gq349
  replace gq353 : G366 q353 = some 144 := by rw [eGG366]; exact gU_mono hNH364 _ _ gq353
  replace gq357 : G366 q357 = some 145 := by rw [eGG366]; exact gU_mono hNH364 _ _ gq357
  replace gq361 : G366 q361 = some 146 := by rw [eGG366]; exact gU_mono hNH364 _ _ gq361
  replace hn : G366 a = none := by rw [eGG366, gU_ne nr_a_q365]; exact hn
  replace hGo : ∀ q, q < s.heap.size → q ≠ a → G366 q = G q := fun q hq hqa => (show G366 q = G362 q by rw [eGG366, gU_ne (Nat.ne_of_lt (Nat.lt_of_lt_of_le hq hSH363.1))]).trans (hGo q hq hqa)
  have gq365 : G366 H363.size = some 147 := by rw [eGG366]; exact gU_at
  obtain ⟨q365, eq365⟩ : ∃ q, q = H363.size := ⟨_, rfl⟩
  have leq365 : s.heap.size ≤ q365 := by rw [eq365]; exact hSH363.1
  rw [← eq365] at gq365 nr_a_q365
  rw [← eq365]
  clear eq365
  clear hNH364 eGG366 oH364 zH364 vH364 hTH363
  refine x_putR C hTH364 hSH364 (ci := 10) (k := 51) (v := .ref q365) (ty0 := tyX10) hR hn rfl inX10 tyX10_ok nmX10 (by decide) (Or.inr ⟨rfl, rfl, rfl⟩) wF_X10_119 (Nat.le_of_ble_eq_true rfl) rfl rfl (Or.inl rfl) dX10_init_1030 (fun H367 locsH367 hR2 hTH367 hSH367 oH367 zH367 => ?_)
  clear hR
  have hR : RAW K H367 a 10 [.int 0, .int 0, .int 0, .int 10, .ref q103, .ref q107, .ref q111, .ref q115, .ref q119, .ref q123, .ref q127, .ref q131, .ref q135, .ref q139, .ref q143, .ref q157, .ref q161, .ref q165, .int 0, .int 0, .int 0, .int 0, .int 0, .ref q169, .ref q288, .ref q292, .ref q296, .ref q300, .ref q304, .ref q308, .ref q312, .ref q316, .ref q320, .ref q324, .int 0, .int 0, .int 0, .ref q328, .int 0, .int 0, .int 0, .int 0, .int (-1), .ref q333, .ref q337, .ref q341, .ref q345, .ref q349, .ref q353, .ref q357, .ref q361, .ref q365, .null, .null, .null, .null, .int 0, .null, .null, .int 0, .null, .null, .int 0, .null, .null, .int 0, .null, .null, .null, .null, .int 0, .int 0, .int 0, .null] := hR2
  clear hR2
  replace z9 := ZR.kept (oH367 _ (g_ne gq123 hn)) z9
  replace z10 := ZR.kept (oH367 _ (g_ne gq127 hn)) z10
  replace z13 := ZR.kept (oH367 _ (g_ne gq139 hn)) z13
  replace w23 := WDN.kept (oH367 _ (g_ne gq169 hn)) w23
  replace z24 := ZR.kept (oH367 _ (g_ne gq288 hn)) z24
  clear oH367 zH367 hTH364
  refine lv_aload_n hx hb dX10_init_1033 rfl (lv_at hl 0 rfl) ?_
  refine lv_bipush (v := 120) hx hb dX10_init_1034 (by decide) ?_
  refine x_newa C hTH367 hSH367 wAC_int rg_148 (by decide) rfl (by decide) ⟨by decide, by decide⟩ dX10_init_1036 (fun H368 hTH368 hSH368 oH368 zH368 vH368 => ?_)
  have hNH368 : G366 H367.size = none := hTH367.gb _ (Nat.le_refl _)
  obtain ⟨G370, eGG370⟩ : ∃ g, g = gU G366 H367.size 148 := ⟨_, rfl⟩
  rw [← eGG370] at hTH368
  have nr_a_q369 : a ≠ H367.size := Nat.ne_of_lt hR.lt
  replace hR := hR.kept (oH368 _ hR.lt)
  replace z9 := ZR.kept (oH368 _ (hTH367.lt gq123)) z9
  replace z10 := ZR.kept (oH368 _ (hTH367.lt gq127)) z10
  replace z13 := ZR.kept (oH368 _ (hTH367.lt gq139)) z13
  replace w23 := WDN.kept (oH368 _ (hTH367.lt gq169)) w23
  replace z24 := ZR.kept (oH368 _ (hTH367.lt gq288)) z24
  replace gq103 : G370 q103 = some 113 := by rw [eGG370]; exact gU_mono hNH368 _ _ gq103
  replace gq107 : G370 q107 = some 114 := by rw [eGG370]; exact gU_mono hNH368 _ _ gq107
  replace gq111 : G370 q111 = some 115 := by rw [eGG370]; exact gU_mono hNH368 _ _ gq111
  replace gq115 : G370 q115 = some 116 := by rw [eGG370]; exact gU_mono hNH368 _ _ gq115
  replace gq119 : G370 q119 = some 117 := by rw [eGG370]; exact gU_mono hNH368 _ _ gq119
  replace gq123 : G370 q123 = some 118 := by rw [eGG370]; exact gU_mono hNH368 _ _ gq123
  replace gq127 : G370 q127 = some 119 := by rw [eGG370]; exact gU_mono hNH368 _ _ gq127
  replace gq131 : G370 q131 = some 120 := by rw [eGG370]; exact gU_mono hNH368 _ _ gq131
  replace gq135 : G370 q135 = some 121 := by rw [eGG370]; exact gU_mono hNH368 _ _ gq135
  replace gq139 : G370 q139 = some 122 := by rw [eGG370]; exact gU_mono hNH368 _ _ gq139
  replace gq143 : G370 q143 = some 123 := by rw [eGG370]; exact gU_mono hNH368 _ _ gq143
  replace gq157 : G370 q157 = some 124 := by rw [eGG370]; exact gU_mono hNH368 _ _ gq157
  replace gq161 : G370 q161 = some 125 := by rw [eGG370]; exact gU_mono hNH368 _ _ gq161
  replace gq165 : G370 q165 = some 126 := by rw [eGG370]; exact gU_mono hNH368 _ _ gq165
  replace gq169 : G370 q169 = some 127 := by rw [eGG370]; exact gU_mono hNH368 _ _ gq169
  replace gq288 : G370 q288 = some 128 := by rw [eGG370]; exact gU_mono hNH368 _ _ gq288
  replace gq292 : G370 q292 = some 129 := by rw [eGG370]; exact gU_mono hNH368 _ _ gq292
  replace gq296 : G370 q296 = some 130 := by rw [eGG370]; exact gU_mono hNH368 _ _ gq296
  replace gq300 : G370 q300 = some 131 := by rw [eGG370]; exact gU_mono hNH368 _ _ gq300
  replace gq304 : G370 q304 = some 132 := by rw [eGG370]; exact gU_mono hNH368 _ _ gq304
  replace gq308 : G370 q308 = some 133 := by rw [eGG370]; exact gU_mono hNH368 _ _ gq308
  replace gq312 : G370 q312 = some 134 := by rw [eGG370]; exact gU_mono hNH368 _ _ gq312
  replace gq316 : G370 q316 = some 135 := by rw [eGG370]; exact gU_mono hNH368 _ _ gq316
  replace gq320 : G370 q320 = some 136 := by rw [eGG370]; exact gU_mono hNH368 _ _ gq320
  replace gq324 : G370 q324 = some 137 := by rw [eGG370]; exact gU_mono hNH368 _ _ gq324
  replace gq328 : G370 q328 = some 138 := by rw [eGG370]; exact gU_mono hNH368 _ _ gq328
  replace gq333 : G370 q333 = some 139 := by rw [eGG370]; exact gU_mono hNH368 _ _ gq333
  replace gq337 : G370 q337 = some 140 := by rw [eGG370]; exact gU_mono hNH368 _ _ gq337
  replace gq341 : G370 q341 = some 141 := by rw [eGG370]; exact gU_mono hNH368 _ _ gq341
  replace gq345 : G370 q345 = some 142 := by rw [eGG370]; exact gU_mono hNH368 _ _ gq345
  replace gq349 : G370 q349 = some 143 := by rw [eGG370]; exact gU_mono hNH368 _ _ gq349
  replace gq353 : G370 q353 = some 144 := by rw [eGG370]; exact gU_mono hNH368 _ _ gq353
  replace gq357 : G370 q357 = some 145 := by rw [eGG370]; exact gU_mono hNH368 _ _ gq357
  replace gq361 : G370 q361 = some 146 := by rw [eGG370]; exact gU_mono hNH368 _ _ gq361
  replace gq365 : G370 q365 = some 147 := by rw [eGG370]; exact gU_mono hNH368 _ _ gq365
  replace hn : G370 a = none := by rw [eGG370, gU_ne nr_a_q369]; exact hn
  replace hGo : ∀ q, q < s.heap.size → q ≠ a → G370 q = G q := fun q hq hqa => (show G370 q = G366 q by rw [eGG370, gU_ne (Nat.ne_of_lt (Nat.lt_of_lt_of_le hq hSH367.1))]).trans (hGo q hq hqa)
  have gq369 : G370 H367.size = some 148 := by rw [eGG370]; exact gU_at
  obtain ⟨q369, eq369⟩ : ∃ q, q = H367.size := ⟨_, rfl⟩
  have leq369 : s.heap.size ≤ q369 := by rw [eq369]; exact hSH367.1
  rw [← eq369] at gq369 nr_a_q369
  rw [← eq369]
  clear eq369
  clear hNH368 eGG370 oH368 zH368 vH368 hTH367
  refine x_putR C hTH368 hSH368 (ci := 10) (k := 52) (v := .ref q369) (ty0 := tyX10) hR hn rfl inX10 tyX10_ok nmX10 (by decide) (Or.inr ⟨rfl, rfl, rfl⟩) wF_X10_122 (Nat.le_of_ble_eq_true rfl) rfl rfl (Or.inl rfl) dX10_init_1038 (fun H371 locsH371 hR2 hTH371 hSH371 oH371 zH371 => ?_)
  clear hR
  have hR : RAW K H371 a 10 [.int 0, .int 0, .int 0, .int 10, .ref q103, .ref q107, .ref q111, .ref q115, .ref q119, .ref q123, .ref q127, .ref q131, .ref q135, .ref q139, .ref q143, .ref q157, .ref q161, .ref q165, .int 0, .int 0, .int 0, .int 0, .int 0, .ref q169, .ref q288, .ref q292, .ref q296, .ref q300, .ref q304, .ref q308, .ref q312, .ref q316, .ref q320, .ref q324, .int 0, .int 0, .int 0, .ref q328, .int 0, .int 0, .int 0, .int 0, .int (-1), .ref q333, .ref q337, .ref q341, .ref q345, .ref q349, .ref q353, .ref q357, .ref q361, .ref q365, .ref q369, .null, .null, .null, .int 0, .null, .null, .int 0, .null, .null, .int 0, .null, .null, .int 0, .null, .null, .null, .null, .int 0, .int 0, .int 0, .null] := hR2
  clear hR2
  replace z9 := ZR.kept (oH371 _ (g_ne gq123 hn)) z9
  replace z10 := ZR.kept (oH371 _ (g_ne gq127 hn)) z10
  replace z13 := ZR.kept (oH371 _ (g_ne gq139 hn)) z13
  replace w23 := WDN.kept (oH371 _ (g_ne gq169 hn)) w23
  replace z24 := ZR.kept (oH371 _ (g_ne gq288 hn)) z24
  clear oH371 zH371 hTH368
  refine lv_aload_n hx hb dX10_init_1041 rfl (lv_at hl 0 rfl) ?_
  refine lv_sipush (v := 1920) hx hb dX10_init_1042 (by decide) ?_
  refine x_newa C hTH371 hSH371 wAC_int rg_149 (by decide) rfl (by decide) ⟨by decide, by decide⟩ dX10_init_1045 (fun H372 hTH372 hSH372 oH372 zH372 vH372 => ?_)
  have hNH372 : G370 H371.size = none := hTH371.gb _ (Nat.le_refl _)
  obtain ⟨G374, eGG374⟩ : ∃ g, g = gU G370 H371.size 149 := ⟨_, rfl⟩
  rw [← eGG374] at hTH372
  have nr_a_q373 : a ≠ H371.size := Nat.ne_of_lt hR.lt
  replace hR := hR.kept (oH372 _ hR.lt)
  replace z9 := ZR.kept (oH372 _ (hTH371.lt gq123)) z9
  replace z10 := ZR.kept (oH372 _ (hTH371.lt gq127)) z10
  replace z13 := ZR.kept (oH372 _ (hTH371.lt gq139)) z13
  replace w23 := WDN.kept (oH372 _ (hTH371.lt gq169)) w23
  replace z24 := ZR.kept (oH372 _ (hTH371.lt gq288)) z24
  replace gq103 : G374 q103 = some 113 := by rw [eGG374]; exact gU_mono hNH372 _ _ gq103
  replace gq107 : G374 q107 = some 114 := by rw [eGG374]; exact gU_mono hNH372 _ _ gq107
  replace gq111 : G374 q111 = some 115 := by rw [eGG374]; exact gU_mono hNH372 _ _ gq111
  replace gq115 : G374 q115 = some 116 := by rw [eGG374]; exact gU_mono hNH372 _ _ gq115
  replace gq119 : G374 q119 = some 117 := by rw [eGG374]; exact gU_mono hNH372 _ _ gq119
  replace gq123 : G374 q123 = some 118 := by rw [eGG374]; exact gU_mono hNH372 _ _ gq123
  replace gq127 : G374 q127 = some 119 := by rw [eGG374]; exact gU_mono hNH372 _ _ gq127
  replace gq131 : G374 q131 = some 120 := by rw [eGG374]; exact gU_mono hNH372 _ _ gq131
  replace gq135 : G374 q135 = some 121 := by rw [eGG374]; exact gU_mono hNH372 _ _ gq135
  replace gq139 : G374 q139 = some 122 := by rw [eGG374]; exact gU_mono hNH372 _ _ gq139
  replace gq143 : G374 q143 = some 123 := by rw [eGG374]; exact gU_mono hNH372 _ _ gq143
  replace gq157 : G374 q157 = some 124 := by rw [eGG374]; exact gU_mono hNH372 _ _ gq157
  replace gq161 : G374 q161 = some 125 := by rw [eGG374]; exact gU_mono hNH372 _ _ gq161
  replace gq165 : G374 q165 = some 126 := by rw [eGG374]; exact gU_mono hNH372 _ _ gq165
  replace gq169 : G374 q169 = some 127 := by rw [eGG374]; exact gU_mono hNH372 _ _ gq169
  replace gq288 : G374 q288 = some 128 := by rw [eGG374]; exact gU_mono hNH372 _ _ gq288
  replace gq292 : G374 q292 = some 129 := by rw [eGG374]; exact gU_mono hNH372 _ _ gq292
  replace gq296 : G374 q296 = some 130 := by rw [eGG374]; exact gU_mono hNH372 _ _ gq296
  replace gq300 : G374 q300 = some 131 := by rw [eGG374]; exact gU_mono hNH372 _ _ gq300
  replace gq304 : G374 q304 = some 132 := by rw [eGG374]; exact gU_mono hNH372 _ _ gq304
  replace gq308 : G374 q308 = some 133 := by rw [eGG374]; exact gU_mono hNH372 _ _ gq308
  replace gq312 : G374 q312 = some 134 := by rw [eGG374]; exact gU_mono hNH372 _ _ gq312
  replace gq316 : G374 q316 = some 135 := by rw [eGG374]; exact gU_mono hNH372 _ _ gq316
  replace gq320 : G374 q320 = some 136 := by rw [eGG374]; exact gU_mono hNH372 _ _ gq320
  replace gq324 : G374 q324 = some 137 := by rw [eGG374]; exact gU_mono hNH372 _ _ gq324
  replace gq328 : G374 q328 = some 138 := by rw [eGG374]; exact gU_mono hNH372 _ _ gq328
  replace gq333 : G374 q333 = some 139 := by rw [eGG374]; exact gU_mono hNH372 _ _ gq333
  replace gq337 : G374 q337 = some 140 := by rw [eGG374]; exact gU_mono hNH372 _ _ gq337
  replace gq341 : G374 q341 = some 141 := by rw [eGG374]; exact gU_mono hNH372 _ _ gq341
  replace gq345 : G374 q345 = some 142 := by rw [eGG374]; exact gU_mono hNH372 _ _ gq345
  replace gq349 : G374 q349 = some 143 := by rw [eGG374]; exact gU_mono hNH372 _ _ gq349
  replace gq353 : G374 q353 = some 144 := by rw [eGG374]; exact gU_mono hNH372 _ _ gq353
  replace gq357 : G374 q357 = some 145 := by rw [eGG374]; exact gU_mono hNH372 _ _ gq357
  replace gq361 : G374 q361 = some 146 := by rw [eGG374]; exact gU_mono hNH372 _ _ gq361
  replace gq365 : G374 q365 = some 147 := by rw [eGG374]; exact gU_mono hNH372 _ _ gq365
  replace gq369 : G374 q369 = some 148 := by rw [eGG374]; exact gU_mono hNH372 _ _ gq369
  replace hn : G374 a = none := by rw [eGG374, gU_ne nr_a_q373]; exact hn
  replace hGo : ∀ q, q < s.heap.size → q ≠ a → G374 q = G q := fun q hq hqa => (show G374 q = G370 q by rw [eGG374, gU_ne (Nat.ne_of_lt (Nat.lt_of_lt_of_le hq hSH371.1))]).trans (hGo q hq hqa)
  have gq373 : G374 H371.size = some 149 := by rw [eGG374]; exact gU_at
  obtain ⟨q373, eq373⟩ : ∃ q, q = H371.size := ⟨_, rfl⟩
  have leq373 : s.heap.size ≤ q373 := by rw [eq373]; exact hSH371.1
  rw [← eq373] at gq373 nr_a_q373
  rw [← eq373]
  clear eq373
  clear hNH372 eGG374 oH372 zH372 vH372 hTH371
  refine x_putR C hTH372 hSH372 (ci := 10) (k := 53) (v := .ref q373) (ty0 := tyX10) hR hn rfl inX10 tyX10_ok nmX10 (by decide) (Or.inr ⟨rfl, rfl, rfl⟩) wF_X10_125 (Nat.le_of_ble_eq_true rfl) rfl rfl (Or.inl rfl) dX10_init_1047 (fun H375 locsH375 hR2 hTH375 hSH375 oH375 zH375 => ?_)
  clear hR
  have hR : RAW K H375 a 10 [.int 0, .int 0, .int 0, .int 10, .ref q103, .ref q107, .ref q111, .ref q115, .ref q119, .ref q123, .ref q127, .ref q131, .ref q135, .ref q139, .ref q143, .ref q157, .ref q161, .ref q165, .int 0, .int 0, .int 0, .int 0, .int 0, .ref q169, .ref q288, .ref q292, .ref q296, .ref q300, .ref q304, .ref q308, .ref q312, .ref q316, .ref q320, .ref q324, .int 0, .int 0, .int 0, .ref q328, .int 0, .int 0, .int 0, .int 0, .int (-1), .ref q333, .ref q337, .ref q341, .ref q345, .ref q349, .ref q353, .ref q357, .ref q361, .ref q365, .ref q369, .ref q373, .null, .null, .int 0, .null, .null, .int 0, .null, .null, .int 0, .null, .null, .int 0, .null, .null, .null, .null, .int 0, .int 0, .int 0, .null] := hR2
  clear hR2
  replace z9 := ZR.kept (oH375 _ (g_ne gq123 hn)) z9
  replace z10 := ZR.kept (oH375 _ (g_ne gq127 hn)) z10
  replace z13 := ZR.kept (oH375 _ (g_ne gq139 hn)) z13
  replace w23 := WDN.kept (oH375 _ (g_ne gq169 hn)) w23
  replace z24 := ZR.kept (oH375 _ (g_ne gq288 hn)) z24
  clear oH375 zH375 hTH372
  refine lv_aload_n hx hb dX10_init_1050 rfl (lv_at hl 0 rfl) ?_
  refine lv_sipush (v := 1920) hx hb dX10_init_1051 (by decide) ?_
  refine x_newa C hTH375 hSH375 wAC_int rg_150 (by decide) rfl (by decide) ⟨by decide, by decide⟩ dX10_init_1054 (fun H376 hTH376 hSH376 oH376 zH376 vH376 => ?_)
  have hNH376 : G374 H375.size = none := hTH375.gb _ (Nat.le_refl _)
  obtain ⟨G378, eGG378⟩ : ∃ g, g = gU G374 H375.size 150 := ⟨_, rfl⟩
  rw [← eGG378] at hTH376
  have nr_a_q377 : a ≠ H375.size := Nat.ne_of_lt hR.lt
  replace hR := hR.kept (oH376 _ hR.lt)
  replace z9 := ZR.kept (oH376 _ (hTH375.lt gq123)) z9
  replace z10 := ZR.kept (oH376 _ (hTH375.lt gq127)) z10
  replace z13 := ZR.kept (oH376 _ (hTH375.lt gq139)) z13
  replace w23 := WDN.kept (oH376 _ (hTH375.lt gq169)) w23
  replace z24 := ZR.kept (oH376 _ (hTH375.lt gq288)) z24
  replace gq103 : G378 q103 = some 113 := by rw [eGG378]; exact gU_mono hNH376 _ _ gq103
  replace gq107 : G378 q107 = some 114 := by rw [eGG378]; exact gU_mono hNH376 _ _ gq107
  replace gq111 : G378 q111 = some 115 := by rw [eGG378]; exact gU_mono hNH376 _ _ gq111
  replace gq115 : G378 q115 = some 116 := by rw [eGG378]; exact gU_mono hNH376 _ _ gq115
  replace gq119 : G378 q119 = some 117 := by rw [eGG378]; exact gU_mono hNH376 _ _ gq119
  replace gq123 : G378 q123 = some 118 := by rw [eGG378]; exact gU_mono hNH376 _ _ gq123
  replace gq127 : G378 q127 = some 119 := by rw [eGG378]; exact gU_mono hNH376 _ _ gq127
  replace gq131 : G378 q131 = some 120 := by rw [eGG378]; exact gU_mono hNH376 _ _ gq131
  replace gq135 : G378 q135 = some 121 := by rw [eGG378]; exact gU_mono hNH376 _ _ gq135
  replace gq139 : G378 q139 = some 122 := by rw [eGG378]; exact gU_mono hNH376 _ _ gq139
  replace gq143 : G378 q143 = some 123 := by rw [eGG378]; exact gU_mono hNH376 _ _ gq143
  replace gq157 : G378 q157 = some 124 := by rw [eGG378]; exact gU_mono hNH376 _ _ gq157
  replace gq161 : G378 q161 = some 125 := by rw [eGG378]; exact gU_mono hNH376 _ _ gq161
  replace gq165 : G378 q165 = some 126 := by rw [eGG378]; exact gU_mono hNH376 _ _ gq165
  replace gq169 : G378 q169 = some 127 := by rw [eGG378]; exact gU_mono hNH376 _ _ gq169
  replace gq288 : G378 q288 = some 128 := by rw [eGG378]; exact gU_mono hNH376 _ _ gq288
  replace gq292 : G378 q292 = some 129 := by rw [eGG378]; exact gU_mono hNH376 _ _ gq292
  replace gq296 : G378 q296 = some 130 := by rw [eGG378]; exact gU_mono hNH376 _ _ gq296
  replace gq300 : G378 q300 = some 131 := by rw [eGG378]; exact gU_mono hNH376 _ _ gq300
  replace gq304 : G378 q304 = some 132 := by rw [eGG378]; exact gU_mono hNH376 _ _ gq304
  replace gq308 : G378 q308 = some 133 := by rw [eGG378]; exact gU_mono hNH376 _ _ gq308
  replace gq312 : G378 q312 = some 134 := by rw [eGG378]; exact gU_mono hNH376 _ _ gq312
  replace gq316 : G378 q316 = some 135 := by rw [eGG378]; exact gU_mono hNH376 _ _ gq316
  replace gq320 : G378 q320 = some 136 := by rw [eGG378]; exact gU_mono hNH376 _ _ gq320
  replace gq324 : G378 q324 = some 137 := by rw [eGG378]; exact gU_mono hNH376 _ _ gq324
  replace gq328 : G378 q328 = some 138 := by rw [eGG378]; exact gU_mono hNH376 _ _ gq328
  replace gq333 : G378 q333 = some 139 := by rw [eGG378]; exact gU_mono hNH376 _ _ gq333
  replace gq337 : G378 q337 = some 140 := by rw [eGG378]; exact gU_mono hNH376 _ _ gq337
  replace gq341 : G378 q341 = some 141 := by rw [eGG378]; exact gU_mono hNH376 _ _ gq341
  replace gq345 : G378 q345 = some 142 := by rw [eGG378]; exact gU_mono hNH376 _ _ gq345
  replace gq349 : G378 q349 = some 143 := by rw [eGG378]; exact gU_mono hNH376 _ _ gq349
  replace gq353 : G378 q353 = some 144 := by rw [eGG378]; exact gU_mono hNH376 _ _ gq353
  replace gq357 : G378 q357 = some 145 := by rw [eGG378]; exact gU_mono hNH376 _ _ gq357
  replace gq361 : G378 q361 = some 146 := by rw [eGG378]; exact gU_mono hNH376 _ _ gq361
  replace gq365 : G378 q365 = some 147 := by rw [eGG378]; exact gU_mono hNH376 _ _ gq365
  replace gq369 : G378 q369 = some 148 := by rw [eGG378]; exact gU_mono hNH376 _ _ gq369
  replace gq373 : G378 q373 = some 149 := by rw [eGG378]; exact gU_mono hNH376 _ _ gq373
  replace hn : G378 a = none := by rw [eGG378, gU_ne nr_a_q377]; exact hn
  replace hGo : ∀ q, q < s.heap.size → q ≠ a → G378 q = G q := fun q hq hqa => (show G378 q = G374 q by rw [eGG378, gU_ne (Nat.ne_of_lt (Nat.lt_of_lt_of_le hq hSH375.1))]).trans (hGo q hq hqa)
  have gq377 : G378 H375.size = some 150 := by rw [eGG378]; exact gU_at
  obtain ⟨q377, eq377⟩ : ∃ q, q = H375.size := ⟨_, rfl⟩
  have leq377 : s.heap.size ≤ q377 := by rw [eq377]; exact hSH375.1
  rw [← eq377] at gq377 nr_a_q377
  rw [← eq377]
  clear eq377
  clear hNH376 eGG378 oH376 zH376 vH376 hTH375
  refine x_putR C hTH376 hSH376 (ci := 10) (k := 54) (v := .ref q377) (ty0 := tyX10) hR hn rfl inX10 tyX10_ok nmX10 (by decide) (Or.inr ⟨rfl, rfl, rfl⟩) wF_X10_128 (Nat.le_of_ble_eq_true rfl) rfl rfl (Or.inl rfl) dX10_init_1056 (fun H379 locsH379 hR2 hTH379 hSH379 oH379 zH379 => ?_)
  clear hR
  have hR : RAW K H379 a 10 [.int 0, .int 0, .int 0, .int 10, .ref q103, .ref q107, .ref q111, .ref q115, .ref q119, .ref q123, .ref q127, .ref q131, .ref q135, .ref q139, .ref q143, .ref q157, .ref q161, .ref q165, .int 0, .int 0, .int 0, .int 0, .int 0, .ref q169, .ref q288, .ref q292, .ref q296, .ref q300, .ref q304, .ref q308, .ref q312, .ref q316, .ref q320, .ref q324, .int 0, .int 0, .int 0, .ref q328, .int 0, .int 0, .int 0, .int 0, .int (-1), .ref q333, .ref q337, .ref q341, .ref q345, .ref q349, .ref q353, .ref q357, .ref q361, .ref q365, .ref q369, .ref q373, .ref q377, .null, .int 0, .null, .null, .int 0, .null, .null, .int 0, .null, .null, .int 0, .null, .null, .null, .null, .int 0, .int 0, .int 0, .null] := hR2
  clear hR2
  replace z9 := ZR.kept (oH379 _ (g_ne gq123 hn)) z9
  replace z10 := ZR.kept (oH379 _ (g_ne gq127 hn)) z10
  replace z13 := ZR.kept (oH379 _ (g_ne gq139 hn)) z13
  replace w23 := WDN.kept (oH379 _ (g_ne gq169 hn)) w23
  replace z24 := ZR.kept (oH379 _ (g_ne gq288 hn)) z24
  clear oH379 zH379 hTH376
  refine lv_aload_n hx hb dX10_init_1059 rfl (lv_at hl 0 rfl) ?_
  refine lv_iconst (v := 5) hx hb dX10_init_1060 (by decide) ?_
  refine x_newa C hTH379 hSH379 wAC_int rg_151 (by decide) rfl (by decide) ⟨by decide, by decide⟩ dX10_init_1061 (fun H380 hTH380 hSH380 oH380 zH380 vH380 => ?_)
  have hNH380 : G378 H379.size = none := hTH379.gb _ (Nat.le_refl _)
  obtain ⟨G382, eGG382⟩ : ∃ g, g = gU G378 H379.size 151 := ⟨_, rfl⟩
  rw [← eGG382] at hTH380
  have nr_a_q381 : a ≠ H379.size := Nat.ne_of_lt hR.lt
  replace hR := hR.kept (oH380 _ hR.lt)
  replace z9 := ZR.kept (oH380 _ (hTH379.lt gq123)) z9
  replace z10 := ZR.kept (oH380 _ (hTH379.lt gq127)) z10
  replace z13 := ZR.kept (oH380 _ (hTH379.lt gq139)) z13
  replace w23 := WDN.kept (oH380 _ (hTH379.lt gq169)) w23
  replace z24 := ZR.kept (oH380 _ (hTH379.lt gq288)) z24
  replace gq103 : G382 q103 = some 113 := by rw [eGG382]; exact gU_mono hNH380 _ _ gq103
  replace gq107 : G382 q107 = some 114 := by rw [eGG382]; exact gU_mono hNH380 _ _ gq107
  replace gq111 : G382 q111 = some 115 := by rw [eGG382]; exact gU_mono hNH380 _ _ gq111
  replace gq115 : G382 q115 = some 116 := by rw [eGG382]; exact gU_mono hNH380 _ _ gq115
  replace gq119 : G382 q119 = some 117 := by rw [eGG382]; exact gU_mono hNH380 _ _ gq119
  replace gq123 : G382 q123 = some 118 := by rw [eGG382]; exact gU_mono hNH380 _ _ gq123
  replace gq127 : G382 q127 = some 119 := by rw [eGG382]; exact gU_mono hNH380 _ _ gq127
  replace gq131 : G382 q131 = some 120 := by rw [eGG382]; exact gU_mono hNH380 _ _ gq131
  replace gq135 : G382 q135 = some 121 := by rw [eGG382]; exact gU_mono hNH380 _ _ gq135
  replace gq139 : G382 q139 = some 122 := by rw [eGG382]; exact gU_mono hNH380 _ _ gq139
  replace gq143 : G382 q143 = some 123 := by rw [eGG382]; exact gU_mono hNH380 _ _ gq143
  replace gq157 : G382 q157 = some 124 := by rw [eGG382]; exact gU_mono hNH380 _ _ gq157
  replace gq161 : G382 q161 = some 125 := by rw [eGG382]; exact gU_mono hNH380 _ _ gq161
  replace gq165 : G382 q165 = some 126 := by rw [eGG382]; exact gU_mono hNH380 _ _ gq165
  replace gq169 : G382 q169 = some 127 := by rw [eGG382]; exact gU_mono hNH380 _ _ gq169
  replace gq288 : G382 q288 = some 128 := by rw [eGG382]; exact gU_mono hNH380 _ _ gq288
  replace gq292 : G382 q292 = some 129 := by rw [eGG382]; exact gU_mono hNH380 _ _ gq292
  replace gq296 : G382 q296 = some 130 := by rw [eGG382]; exact gU_mono hNH380 _ _ gq296
  replace gq300 : G382 q300 = some 131 := by rw [eGG382]; exact gU_mono hNH380 _ _ gq300
  replace gq304 : G382 q304 = some 132 := by rw [eGG382]; exact gU_mono hNH380 _ _ gq304
  replace gq308 : G382 q308 = some 133 := by rw [eGG382]; exact gU_mono hNH380 _ _ gq308
  replace gq312 : G382 q312 = some 134 := by rw [eGG382]; exact gU_mono hNH380 _ _ gq312
  replace gq316 : G382 q316 = some 135 := by rw [eGG382]; exact gU_mono hNH380 _ _ gq316
  replace gq320 : G382 q320 = some 136 := by rw [eGG382]; exact gU_mono hNH380 _ _ gq320
  replace gq324 : G382 q324 = some 137 := by rw [eGG382]; exact gU_mono hNH380 _ _ gq324
  replace gq328 : G382 q328 = some 138 := by rw [eGG382]; exact gU_mono hNH380 _ _ gq328
  replace gq333 : G382 q333 = some 139 := by rw [eGG382]; exact gU_mono hNH380 _ _ gq333
  replace gq337 : G382 q337 = some 140 := by rw [eGG382]; exact gU_mono hNH380 _ _ gq337
  replace gq341 : G382 q341 = some 141 := by rw [eGG382]; exact gU_mono hNH380 _ _ gq341
  replace gq345 : G382 q345 = some 142 := by rw [eGG382]; exact gU_mono hNH380 _ _ gq345
  replace gq349 : G382 q349 = some 143 := by rw [eGG382]; exact gU_mono hNH380 _ _ gq349
  replace gq353 : G382 q353 = some 144 := by rw [eGG382]; exact gU_mono hNH380 _ _ gq353
  replace gq357 : G382 q357 = some 145 := by rw [eGG382]; exact gU_mono hNH380 _ _ gq357
  replace gq361 : G382 q361 = some 146 := by rw [eGG382]; exact gU_mono hNH380 _ _ gq361
  replace gq365 : G382 q365 = some 147 := by rw [eGG382]; exact gU_mono hNH380 _ _ gq365
  replace gq369 : G382 q369 = some 148 := by rw [eGG382]; exact gU_mono hNH380 _ _ gq369
  replace gq373 : G382 q373 = some 149 := by rw [eGG382]; exact gU_mono hNH380 _ _ gq373
  replace gq377 : G382 q377 = some 150 := by rw [eGG382]; exact gU_mono hNH380 _ _ gq377
  replace hn : G382 a = none := by rw [eGG382, gU_ne nr_a_q381]; exact hn
  replace hGo : ∀ q, q < s.heap.size → q ≠ a → G382 q = G q := fun q hq hqa => (show G382 q = G378 q by rw [eGG382, gU_ne (Nat.ne_of_lt (Nat.lt_of_lt_of_le hq hSH379.1))]).trans (hGo q hq hqa)
  have gq381 : G382 H379.size = some 151 := by rw [eGG382]; exact gU_at
  obtain ⟨q381, eq381⟩ : ∃ q, q = H379.size := ⟨_, rfl⟩
  have leq381 : s.heap.size ≤ q381 := by rw [eq381]; exact hSH379.1
  rw [← eq381] at gq381 nr_a_q381
  rw [← eq381]
  clear eq381
  clear hNH380 eGG382 oH380 zH380 vH380 hTH379
  refine x_putR C hTH380 hSH380 (ci := 10) (k := 55) (v := .ref q381) (ty0 := tyX10) hR hn rfl inX10 tyX10_ok nmX10 (by decide) (Or.inr ⟨rfl, rfl, rfl⟩) wF_X10_131 (Nat.le_of_ble_eq_true rfl) rfl rfl (Or.inl rfl) dX10_init_1063 (fun H383 locsH383 hR2 hTH383 hSH383 oH383 zH383 => ?_)
  clear hR
  have hR : RAW K H383 a 10 [.int 0, .int 0, .int 0, .int 10, .ref q103, .ref q107, .ref q111, .ref q115, .ref q119, .ref q123, .ref q127, .ref q131, .ref q135, .ref q139, .ref q143, .ref q157, .ref q161, .ref q165, .int 0, .int 0, .int 0, .int 0, .int 0, .ref q169, .ref q288, .ref q292, .ref q296, .ref q300, .ref q304, .ref q308, .ref q312, .ref q316, .ref q320, .ref q324, .int 0, .int 0, .int 0, .ref q328, .int 0, .int 0, .int 0, .int 0, .int (-1), .ref q333, .ref q337, .ref q341, .ref q345, .ref q349, .ref q353, .ref q357, .ref q361, .ref q365, .ref q369, .ref q373, .ref q377, .ref q381, .int 0, .null, .null, .int 0, .null, .null, .int 0, .null, .null, .int 0, .null, .null, .null, .null, .int 0, .int 0, .int 0, .null] := hR2
  clear hR2
  replace z9 := ZR.kept (oH383 _ (g_ne gq123 hn)) z9
  replace z10 := ZR.kept (oH383 _ (g_ne gq127 hn)) z10
  replace z13 := ZR.kept (oH383 _ (g_ne gq139 hn)) z13
  replace w23 := WDN.kept (oH383 _ (g_ne gq169 hn)) w23
  replace z24 := ZR.kept (oH383 _ (g_ne gq288 hn)) z24
  clear oH383 zH383 hTH380
  refine lv_aload_n hx hb dX10_init_1066 rfl (lv_at hl 0 rfl) ?_
  refine lv_sipush (v := 5120) hx hb dX10_init_1067 (by decide) ?_
  refine x_newa C hTH383 hSH383 wAC_int rg_152 (by decide) rfl (by decide) ⟨by decide, by decide⟩ dX10_init_1070 (fun H384 hTH384 hSH384 oH384 zH384 vH384 => ?_)
  have hNH384 : G382 H383.size = none := hTH383.gb _ (Nat.le_refl _)
  obtain ⟨G386, eGG386⟩ : ∃ g, g = gU G382 H383.size 152 := ⟨_, rfl⟩
  rw [← eGG386] at hTH384
  have nr_a_q385 : a ≠ H383.size := Nat.ne_of_lt hR.lt
  replace hR := hR.kept (oH384 _ hR.lt)
  replace z9 := ZR.kept (oH384 _ (hTH383.lt gq123)) z9
  replace z10 := ZR.kept (oH384 _ (hTH383.lt gq127)) z10
  replace z13 := ZR.kept (oH384 _ (hTH383.lt gq139)) z13
  replace w23 := WDN.kept (oH384 _ (hTH383.lt gq169)) w23
  replace z24 := ZR.kept (oH384 _ (hTH383.lt gq288)) z24
  replace gq103 : G386 q103 = some 113 := by rw [eGG386]; exact gU_mono hNH384 _ _ gq103
  replace gq107 : G386 q107 = some 114 := by rw [eGG386]; exact gU_mono hNH384 _ _ gq107
  replace gq111 : G386 q111 = some 115 := by rw [eGG386]; exact gU_mono hNH384 _ _ gq111
  replace gq115 : G386 q115 = some 116 := by rw [eGG386]; exact gU_mono hNH384 _ _ gq115
  replace gq119 : G386 q119 = some 117 := by rw [eGG386]; exact gU_mono hNH384 _ _ gq119
  replace gq123 : G386 q123 = some 118 := by rw [eGG386]; exact gU_mono hNH384 _ _ gq123
  replace gq127 : G386 q127 = some 119 := by rw [eGG386]; exact gU_mono hNH384 _ _ gq127
  replace gq131 : G386 q131 = some 120 := by rw [eGG386]; exact gU_mono hNH384 _ _ gq131
  replace gq135 : G386 q135 = some 121 := by rw [eGG386]; exact gU_mono hNH384 _ _ gq135
  replace gq139 : G386 q139 = some 122 := by rw [eGG386]; exact gU_mono hNH384 _ _ gq139
  replace gq143 : G386 q143 = some 123 := by rw [eGG386]; exact gU_mono hNH384 _ _ gq143
  replace gq157 : G386 q157 = some 124 := by rw [eGG386]; exact gU_mono hNH384 _ _ gq157
  replace gq161 : G386 q161 = some 125 := by rw [eGG386]; exact gU_mono hNH384 _ _ gq161
  replace gq165 : G386 q165 = some 126 := by rw [eGG386]; exact gU_mono hNH384 _ _ gq165
  replace gq169 : G386 q169 = some 127 := by rw [eGG386]; exact gU_mono hNH384 _ _ gq169
  replace gq288 : G386 q288 = some 128 := by rw [eGG386]; exact gU_mono hNH384 _ _ gq288
  replace gq292 : G386 q292 = some 129 := by rw [eGG386]; exact gU_mono hNH384 _ _ gq292
  replace gq296 : G386 q296 = some 130 := by rw [eGG386]; exact gU_mono hNH384 _ _ gq296
  replace gq300 : G386 q300 = some 131 := by rw [eGG386]; exact gU_mono hNH384 _ _ gq300
  replace gq304 : G386 q304 = some 132 := by rw [eGG386]; exact gU_mono hNH384 _ _ gq304
  replace gq308 : G386 q308 = some 133 := by rw [eGG386]; exact gU_mono hNH384 _ _ gq308
  replace gq312 : G386 q312 = some 134 := by rw [eGG386]; exact gU_mono hNH384 _ _ gq312
  replace gq316 : G386 q316 = some 135 := by rw [eGG386]; exact gU_mono hNH384 _ _ gq316
  replace gq320 : G386 q320 = some 136 := by rw [eGG386]; exact gU_mono hNH384 _ _ gq320
  replace gq324 : G386 q324 = some 137 := by rw [eGG386]; exact gU_mono hNH384 _ _ gq324
  replace gq328 : G386 q328 = some 138 := by rw [eGG386]; exact gU_mono hNH384 _ _ gq328
  replace gq333 : G386 q333 = some 139 := by rw [eGG386]; exact gU_mono hNH384 _ _ gq333
  replace gq337 : G386 q337 = some 140 := by rw [eGG386]; exact gU_mono hNH384 _ _ gq337
  replace gq341 : G386 q341 = some 141 := by rw [eGG386]; exact gU_mono hNH384 _ _ gq341
  replace gq345 : G386 q345 = some 142 := by rw [eGG386]; exact gU_mono hNH384 _ _ gq345
  replace gq349 : G386 q349 = some 143 := by rw [eGG386]; exact gU_mono hNH384 _ _ gq349
  replace gq353 : G386 q353 = some 144 := by rw [eGG386]; exact gU_mono hNH384 _ _ gq353
  replace gq357 : G386 q357 = some 145 := by rw [eGG386]; exact gU_mono hNH384 _ _ gq357
  replace gq361 : G386 q361 = some 146 := by rw [eGG386]; exact gU_mono hNH384 _ _ gq361
  replace gq365 : G386 q365 = some 147 := by rw [eGG386]; exact gU_mono hNH384 _ _ gq365
  replace gq369 : G386 q369 = some 148 := by rw [eGG386]; exact gU_mono hNH384 _ _ gq369
  replace gq373 : G386 q373 = some 149 := by rw [eGG386]; exact gU_mono hNH384 _ _ gq373
  replace gq377 : G386 q377 = some 150 := by rw [eGG386]; exact gU_mono hNH384 _ _ gq377
  replace gq381 : G386 q381 = some 151 := by rw [eGG386]; exact gU_mono hNH384 _ _ gq381
  replace hn : G386 a = none := by rw [eGG386, gU_ne nr_a_q385]; exact hn
  replace hGo : ∀ q, q < s.heap.size → q ≠ a → G386 q = G q := fun q hq hqa => (show G386 q = G382 q by rw [eGG386, gU_ne (Nat.ne_of_lt (Nat.lt_of_lt_of_le hq hSH383.1))]).trans (hGo q hq hqa)
  have gq385 : G386 H383.size = some 152 := by rw [eGG386]; exact gU_at
  obtain ⟨q385, eq385⟩ : ∃ q, q = H383.size := ⟨_, rfl⟩
  have leq385 : s.heap.size ≤ q385 := by rw [eq385]; exact hSH383.1
  rw [← eq385] at gq385 nr_a_q385
  rw [← eq385]
  clear eq385
  clear hNH384 eGG386 oH384 zH384 vH384 hTH383
  refine x_putR C hTH384 hSH384 (ci := 10) (k := 57) (v := .ref q385) (ty0 := tyX10) hR hn rfl inX10 tyX10_ok nmX10 (by decide) (Or.inr ⟨rfl, rfl, rfl⟩) wF_X10_134 (Nat.le_of_ble_eq_true rfl) rfl rfl (Or.inl rfl) dX10_init_1072 (fun H387 locsH387 hR2 hTH387 hSH387 oH387 zH387 => ?_)
  clear hR
  have hR : RAW K H387 a 10 [.int 0, .int 0, .int 0, .int 10, .ref q103, .ref q107, .ref q111, .ref q115, .ref q119, .ref q123, .ref q127, .ref q131, .ref q135, .ref q139, .ref q143, .ref q157, .ref q161, .ref q165, .int 0, .int 0, .int 0, .int 0, .int 0, .ref q169, .ref q288, .ref q292, .ref q296, .ref q300, .ref q304, .ref q308, .ref q312, .ref q316, .ref q320, .ref q324, .int 0, .int 0, .int 0, .ref q328, .int 0, .int 0, .int 0, .int 0, .int (-1), .ref q333, .ref q337, .ref q341, .ref q345, .ref q349, .ref q353, .ref q357, .ref q361, .ref q365, .ref q369, .ref q373, .ref q377, .ref q381, .int 0, .ref q385, .null, .int 0, .null, .null, .int 0, .null, .null, .int 0, .null, .null, .null, .null, .int 0, .int 0, .int 0, .null] := hR2
  clear hR2
  replace z9 := ZR.kept (oH387 _ (g_ne gq123 hn)) z9
  replace z10 := ZR.kept (oH387 _ (g_ne gq127 hn)) z10
  replace z13 := ZR.kept (oH387 _ (g_ne gq139 hn)) z13
  replace w23 := WDN.kept (oH387 _ (g_ne gq169 hn)) w23
  replace z24 := ZR.kept (oH387 _ (g_ne gq288 hn)) z24
  clear oH387 zH387 hTH384
  refine lv_aload_n hx hb dX10_init_1075 rfl (lv_at hl 0 rfl) ?_
  refine lv_sipush (v := 1024) hx hb dX10_init_1076 (by decide) ?_
  refine x_newa C hTH387 hSH387 wAC_int rg_153 (by decide) rfl (by decide) ⟨by decide, by decide⟩ dX10_init_1079 (fun H388 hTH388 hSH388 oH388 zH388 vH388 => ?_)
  have hNH388 : G386 H387.size = none := hTH387.gb _ (Nat.le_refl _)
  obtain ⟨G390, eGG390⟩ : ∃ g, g = gU G386 H387.size 153 := ⟨_, rfl⟩
  rw [← eGG390] at hTH388
  have nr_a_q389 : a ≠ H387.size := Nat.ne_of_lt hR.lt
  replace hR := hR.kept (oH388 _ hR.lt)
  replace z9 := ZR.kept (oH388 _ (hTH387.lt gq123)) z9
  replace z10 := ZR.kept (oH388 _ (hTH387.lt gq127)) z10
  replace z13 := ZR.kept (oH388 _ (hTH387.lt gq139)) z13
  replace w23 := WDN.kept (oH388 _ (hTH387.lt gq169)) w23
  replace z24 := ZR.kept (oH388 _ (hTH387.lt gq288)) z24
  replace gq103 : G390 q103 = some 113 := by rw [eGG390]; exact gU_mono hNH388 _ _ gq103
  replace gq107 : G390 q107 = some 114 := by rw [eGG390]; exact gU_mono hNH388 _ _ gq107
  replace gq111 : G390 q111 = some 115 := by rw [eGG390]; exact gU_mono hNH388 _ _ gq111
  replace gq115 : G390 q115 = some 116 := by rw [eGG390]; exact gU_mono hNH388 _ _ gq115
  replace gq119 : G390 q119 = some 117 := by rw [eGG390]; exact gU_mono hNH388 _ _ gq119
  replace gq123 : G390 q123 = some 118 := by rw [eGG390]; exact gU_mono hNH388 _ _ gq123
  replace gq127 : G390 q127 = some 119 := by rw [eGG390]; exact gU_mono hNH388 _ _ gq127
  replace gq131 : G390 q131 = some 120 := by rw [eGG390]; exact gU_mono hNH388 _ _ gq131
  replace gq135 : G390 q135 = some 121 := by rw [eGG390]; exact gU_mono hNH388 _ _ gq135
  replace gq139 : G390 q139 = some 122 := by rw [eGG390]; exact gU_mono hNH388 _ _ gq139
  replace gq143 : G390 q143 = some 123 := by rw [eGG390]; exact gU_mono hNH388 _ _ gq143
  replace gq157 : G390 q157 = some 124 := by rw [eGG390]; exact gU_mono hNH388 _ _ gq157
  replace gq161 : G390 q161 = some 125 := by rw [eGG390]; exact gU_mono hNH388 _ _ gq161
  replace gq165 : G390 q165 = some 126 := by rw [eGG390]; exact gU_mono hNH388 _ _ gq165
  replace gq169 : G390 q169 = some 127 := by rw [eGG390]; exact gU_mono hNH388 _ _ gq169
  replace gq288 : G390 q288 = some 128 := by rw [eGG390]; exact gU_mono hNH388 _ _ gq288
  replace gq292 : G390 q292 = some 129 := by rw [eGG390]; exact gU_mono hNH388 _ _ gq292
  replace gq296 : G390 q296 = some 130 := by rw [eGG390]; exact gU_mono hNH388 _ _ gq296
  replace gq300 : G390 q300 = some 131 := by rw [eGG390]; exact gU_mono hNH388 _ _ gq300
  replace gq304 : G390 q304 = some 132 := by rw [eGG390]; exact gU_mono hNH388 _ _ gq304
  replace gq308 : G390 q308 = some 133 := by rw [eGG390]; exact gU_mono hNH388 _ _ gq308
  replace gq312 : G390 q312 = some 134 := by rw [eGG390]; exact gU_mono hNH388 _ _ gq312
  replace gq316 : G390 q316 = some 135 := by rw [eGG390]; exact gU_mono hNH388 _ _ gq316
  replace gq320 : G390 q320 = some 136 := by rw [eGG390]; exact gU_mono hNH388 _ _ gq320
  replace gq324 : G390 q324 = some 137 := by rw [eGG390]; exact gU_mono hNH388 _ _ gq324
  replace gq328 : G390 q328 = some 138 := by rw [eGG390]; exact gU_mono hNH388 _ _ gq328
  replace gq333 : G390 q333 = some 139 := by rw [eGG390]; exact gU_mono hNH388 _ _ gq333
  replace gq337 : G390 q337 = some 140 := by rw [eGG390]; exact gU_mono hNH388 _ _ gq337
  replace gq341 : G390 q341 = some 141 := by rw [eGG390]; exact gU_mono hNH388 _ _ gq341
  replace gq345 : G390 q345 = some 142 := by rw [eGG390]; exact gU_mono hNH388 _ _ gq345
  replace gq349 : G390 q349 = some 143 := by rw [eGG390]; exact gU_mono hNH388 _ _ gq349
  replace gq353 : G390 q353 = some 144 := by rw [eGG390]; exact gU_mono hNH388 _ _ gq353
  replace gq357 : G390 q357 = some 145 := by rw [eGG390]; exact gU_mono hNH388 _ _ gq357
  replace gq361 : G390 q361 = some 146 := by rw [eGG390]; exact gU_mono hNH388 _ _ gq361
  replace gq365 : G390 q365 = some 147 := by rw [eGG390]; exact gU_mono hNH388 _ _ gq365
  replace gq369 : G390 q369 = some 148 := by rw [eGG390]; exact gU_mono hNH388 _ _ gq369
  replace gq373 : G390 q373 = some 149 := by rw [eGG390]; exact gU_mono hNH388 _ _ gq373
  replace gq377 : G390 q377 = some 150 := by rw [eGG390]; exact gU_mono hNH388 _ _ gq377
  replace gq381 : G390 q381 = some 151 := by rw [eGG390]; exact gU_mono hNH388 _ _ gq381
  replace gq385 : G390 q385 = some 152 := by rw [eGG390]; exact gU_mono hNH388 _ _ gq385
  replace hn : G390 a = none := by rw [eGG390, gU_ne nr_a_q389]; exact hn
  replace hGo : ∀ q, q < s.heap.size → q ≠ a → G390 q = G q := fun q hq hqa => (show G390 q = G386 q by rw [eGG390, gU_ne (Nat.ne_of_lt (Nat.lt_of_lt_of_le hq hSH387.1))]).trans (hGo q hq hqa)
  have gq389 : G390 H387.size = some 153 := by rw [eGG390]; exact gU_at
  obtain ⟨q389, eq389⟩ : ∃ q, q = H387.size := ⟨_, rfl⟩
  have leq389 : s.heap.size ≤ q389 := by rw [eq389]; exact hSH387.1
  rw [← eq389] at gq389 nr_a_q389
  rw [← eq389]
  clear eq389
  clear hNH388 eGG390 oH388 zH388 vH388 hTH387
  refine x_putR C hTH388 hSH388 (ci := 10) (k := 58) (v := .ref q389) (ty0 := tyX10) hR hn rfl inX10 tyX10_ok nmX10 (by decide) (Or.inr ⟨rfl, rfl, rfl⟩) wF_X10_137 (Nat.le_of_ble_eq_true rfl) rfl rfl (Or.inl rfl) dX10_init_1081 (fun H391 locsH391 hR2 hTH391 hSH391 oH391 zH391 => ?_)
  clear hR
  have hR : RAW K H391 a 10 [.int 0, .int 0, .int 0, .int 10, .ref q103, .ref q107, .ref q111, .ref q115, .ref q119, .ref q123, .ref q127, .ref q131, .ref q135, .ref q139, .ref q143, .ref q157, .ref q161, .ref q165, .int 0, .int 0, .int 0, .int 0, .int 0, .ref q169, .ref q288, .ref q292, .ref q296, .ref q300, .ref q304, .ref q308, .ref q312, .ref q316, .ref q320, .ref q324, .int 0, .int 0, .int 0, .ref q328, .int 0, .int 0, .int 0, .int 0, .int (-1), .ref q333, .ref q337, .ref q341, .ref q345, .ref q349, .ref q353, .ref q357, .ref q361, .ref q365, .ref q369, .ref q373, .ref q377, .ref q381, .int 0, .ref q385, .ref q389, .int 0, .null, .null, .int 0, .null, .null, .int 0, .null, .null, .null, .null, .int 0, .int 0, .int 0, .null] := hR2
  clear hR2
  replace z9 := ZR.kept (oH391 _ (g_ne gq123 hn)) z9
  replace z10 := ZR.kept (oH391 _ (g_ne gq127 hn)) z10
  replace z13 := ZR.kept (oH391 _ (g_ne gq139 hn)) z13
  replace w23 := WDN.kept (oH391 _ (g_ne gq169 hn)) w23
  replace z24 := ZR.kept (oH391 _ (g_ne gq288 hn)) z24
  clear oH391 zH391 hTH388
  refine lv_aload_n hx hb dX10_init_1084 rfl (lv_at hl 0 rfl) ?_
  refine lv_bipush (v := 20) hx hb dX10_init_1085 (by decide) ?_
  refine x_newa C hTH391 hSH391 wAC_int rg_154 (by decide) rfl (by decide) ⟨by decide, by decide⟩ dX10_init_1087 (fun H392 hTH392 hSH392 oH392 zH392 vH392 => ?_)
  have hNH392 : G390 H391.size = none := hTH391.gb _ (Nat.le_refl _)
  obtain ⟨G394, eGG394⟩ : ∃ g, g = gU G390 H391.size 154 := ⟨_, rfl⟩
  rw [← eGG394] at hTH392
  have nr_a_q393 : a ≠ H391.size := Nat.ne_of_lt hR.lt
  replace hR := hR.kept (oH392 _ hR.lt)
  replace z9 := ZR.kept (oH392 _ (hTH391.lt gq123)) z9
  replace z10 := ZR.kept (oH392 _ (hTH391.lt gq127)) z10
  replace z13 := ZR.kept (oH392 _ (hTH391.lt gq139)) z13
  replace w23 := WDN.kept (oH392 _ (hTH391.lt gq169)) w23
  replace z24 := ZR.kept (oH392 _ (hTH391.lt gq288)) z24
  replace gq103 : G394 q103 = some 113 := by rw [eGG394]; exact gU_mono hNH392 _ _ gq103
  replace gq107 : G394 q107 = some 114 := by rw [eGG394]; exact gU_mono hNH392 _ _ gq107
  replace gq111 : G394 q111 = some 115 := by rw [eGG394]; exact gU_mono hNH392 _ _ gq111
  replace gq115 : G394 q115 = some 116 := by rw [eGG394]; exact gU_mono hNH392 _ _ gq115
  replace gq119 : G394 q119 = some 117 := by rw [eGG394]; exact gU_mono hNH392 _ _ gq119
  replace gq123 : G394 q123 = some 118 := by rw [eGG394]; exact gU_mono hNH392 _ _ gq123
  replace gq127 : G394 q127 = some 119 := by rw [eGG394]; exact gU_mono hNH392 _ _ gq127
  replace gq131 : G394 q131 = some 120 := by rw [eGG394]; exact gU_mono hNH392 _ _ gq131
  replace gq135 : G394 q135 = some 121 := by rw [eGG394]; exact gU_mono hNH392 _ _ gq135
  replace gq139 : G394 q139 = some 122 := by rw [eGG394]; exact gU_mono hNH392 _ _ gq139
  replace gq143 : G394 q143 = some 123 := by rw [eGG394]; exact gU_mono hNH392 _ _ gq143
  replace gq157 : G394 q157 = some 124 := by rw [eGG394]; exact gU_mono hNH392 _ _ gq157
  replace gq161 : G394 q161 = some 125 := by rw [eGG394]; exact gU_mono hNH392 _ _ gq161
  replace gq165 : G394 q165 = some 126 := by rw [eGG394]; exact gU_mono hNH392 _ _ gq165
  replace gq169 : G394 q169 = some 127 := by rw [eGG394]; exact gU_mono hNH392 _ _ gq169
  replace gq288 : G394 q288 = some 128 := by rw [eGG394]; exact gU_mono hNH392 _ _ gq288
  replace gq292 : G394 q292 = some 129 := by rw [eGG394]; exact gU_mono hNH392 _ _ gq292
  replace gq296 : G394 q296 = some 130 := by rw [eGG394]; exact gU_mono hNH392 _ _ gq296
  replace gq300 : G394 q300 = some 131 := by rw [eGG394]; exact gU_mono hNH392 _ _ gq300
  replace gq304 : G394 q304 = some 132 := by rw [eGG394]; exact gU_mono hNH392 _ _ gq304
  replace gq308 : G394 q308 = some 133 := by rw [eGG394]; exact gU_mono hNH392 _ _ gq308
  replace gq312 : G394 q312 = some 134 := by rw [eGG394]; exact gU_mono hNH392 _ _ gq312
  replace gq316 : G394 q316 = some 135 := by rw [eGG394]; exact gU_mono hNH392 _ _ gq316
  replace gq320 : G394 q320 = some 136 := by rw [eGG394]; exact gU_mono hNH392 _ _ gq320
  replace gq324 : G394 q324 = some 137 := by rw [eGG394]; exact gU_mono hNH392 _ _ gq324
  replace gq328 : G394 q328 = some 138 := by rw [eGG394]; exact gU_mono hNH392 _ _ gq328
  replace gq333 : G394 q333 = some 139 := by rw [eGG394]; exact gU_mono hNH392 _ _ gq333
  replace gq337 : G394 q337 = some 140 := by rw [eGG394]; exact gU_mono hNH392 _ _ gq337
  replace gq341 : G394 q341 = some 141 := by rw [eGG394]; exact gU_mono hNH392 _ _ gq341
  replace gq345 : G394 q345 = some 142 := by rw [eGG394]; exact gU_mono hNH392 _ _ gq345
  replace gq349 : G394 q349 = some 143 := by rw [eGG394]; exact gU_mono hNH392 _ _ gq349
  replace gq353 : G394 q353 = some 144 := by rw [eGG394]; exact gU_mono hNH392 _ _ gq353
  replace gq357 : G394 q357 = some 145 := by rw [eGG394]; exact gU_mono hNH392 _ _ gq357
  replace gq361 : G394 q361 = some 146 := by rw [eGG394]; exact gU_mono hNH392 _ _ gq361
  replace gq365 : G394 q365 = some 147 := by rw [eGG394]; exact gU_mono hNH392 _ _ gq365
  replace gq369 : G394 q369 = some 148 := by rw [eGG394]; exact gU_mono hNH392 _ _ gq369
  replace gq373 : G394 q373 = some 149 := by rw [eGG394]; exact gU_mono hNH392 _ _ gq373
  replace gq377 : G394 q377 = some 150 := by rw [eGG394]; exact gU_mono hNH392 _ _ gq377
  replace gq381 : G394 q381 = some 151 := by rw [eGG394]; exact gU_mono hNH392 _ _ gq381
  replace gq385 : G394 q385 = some 152 := by rw [eGG394]; exact gU_mono hNH392 _ _ gq385
  replace gq389 : G394 q389 = some 153 := by rw [eGG394]; exact gU_mono hNH392 _ _ gq389
  replace hn : G394 a = none := by rw [eGG394, gU_ne nr_a_q393]; exact hn
  replace hGo : ∀ q, q < s.heap.size → q ≠ a → G394 q = G q := fun q hq hqa => (show G394 q = G390 q by rw [eGG394, gU_ne (Nat.ne_of_lt (Nat.lt_of_lt_of_le hq hSH391.1))]).trans (hGo q hq hqa)
  have gq393 : G394 H391.size = some 154 := by rw [eGG394]; exact gU_at
  obtain ⟨q393, eq393⟩ : ∃ q, q = H391.size := ⟨_, rfl⟩
  have leq393 : s.heap.size ≤ q393 := by rw [eq393]; exact hSH391.1
  rw [← eq393] at gq393 nr_a_q393
  rw [← eq393]
  clear eq393
  clear hNH392 eGG394 oH392 zH392 vH392 hTH391
  refine x_putR C hTH392 hSH392 (ci := 10) (k := 60) (v := .ref q393) (ty0 := tyX10) hR hn rfl inX10 tyX10_ok nmX10 (by decide) (Or.inr ⟨rfl, rfl, rfl⟩) wF_X10_140 (Nat.le_of_ble_eq_true rfl) rfl rfl (Or.inl rfl) dX10_init_1089 (fun H395 locsH395 hR2 hTH395 hSH395 oH395 zH395 => ?_)
  clear hR
  have hR : RAW K H395 a 10 [.int 0, .int 0, .int 0, .int 10, .ref q103, .ref q107, .ref q111, .ref q115, .ref q119, .ref q123, .ref q127, .ref q131, .ref q135, .ref q139, .ref q143, .ref q157, .ref q161, .ref q165, .int 0, .int 0, .int 0, .int 0, .int 0, .ref q169, .ref q288, .ref q292, .ref q296, .ref q300, .ref q304, .ref q308, .ref q312, .ref q316, .ref q320, .ref q324, .int 0, .int 0, .int 0, .ref q328, .int 0, .int 0, .int 0, .int 0, .int (-1), .ref q333, .ref q337, .ref q341, .ref q345, .ref q349, .ref q353, .ref q357, .ref q361, .ref q365, .ref q369, .ref q373, .ref q377, .ref q381, .int 0, .ref q385, .ref q389, .int 0, .ref q393, .null, .int 0, .null, .null, .int 0, .null, .null, .null, .null, .int 0, .int 0, .int 0, .null] := hR2
  clear hR2
  replace z9 := ZR.kept (oH395 _ (g_ne gq123 hn)) z9
  replace z10 := ZR.kept (oH395 _ (g_ne gq127 hn)) z10
  replace z13 := ZR.kept (oH395 _ (g_ne gq139 hn)) z13
  replace w23 := WDN.kept (oH395 _ (g_ne gq169 hn)) w23
  replace z24 := ZR.kept (oH395 _ (g_ne gq288 hn)) z24
  clear oH395 zH395 hTH392
  refine lv_aload_n hx hb dX10_init_1092 rfl (lv_at hl 0 rfl) ?_
  refine lv_bipush (v := 20) hx hb dX10_init_1093 (by decide) ?_
  refine x_newa C hTH395 hSH395 wAC_int rg_155 (by decide) rfl (by decide) ⟨by decide, by decide⟩ dX10_init_1095 (fun H396 hTH396 hSH396 oH396 zH396 vH396 => ?_)
  have hNH396 : G394 H395.size = none := hTH395.gb _ (Nat.le_refl _)
  obtain ⟨G398, eGG398⟩ : ∃ g, g = gU G394 H395.size 155 := ⟨_, rfl⟩
  rw [← eGG398] at hTH396
  have nr_a_q397 : a ≠ H395.size := Nat.ne_of_lt hR.lt
  replace hR := hR.kept (oH396 _ hR.lt)
  replace z9 := ZR.kept (oH396 _ (hTH395.lt gq123)) z9
  replace z10 := ZR.kept (oH396 _ (hTH395.lt gq127)) z10
  replace z13 := ZR.kept (oH396 _ (hTH395.lt gq139)) z13
  replace w23 := WDN.kept (oH396 _ (hTH395.lt gq169)) w23
  replace z24 := ZR.kept (oH396 _ (hTH395.lt gq288)) z24
  replace gq103 : G398 q103 = some 113 := by rw [eGG398]; exact gU_mono hNH396 _ _ gq103
  replace gq107 : G398 q107 = some 114 := by rw [eGG398]; exact gU_mono hNH396 _ _ gq107
  replace gq111 : G398 q111 = some 115 := by rw [eGG398]; exact gU_mono hNH396 _ _ gq111
  replace gq115 : G398 q115 = some 116 := by rw [eGG398]; exact gU_mono hNH396 _ _ gq115
  replace gq119 : G398 q119 = some 117 := by rw [eGG398]; exact gU_mono hNH396 _ _ gq119
  replace gq123 : G398 q123 = some 118 := by rw [eGG398]; exact gU_mono hNH396 _ _ gq123
  replace gq127 : G398 q127 = some 119 := by rw [eGG398]; exact gU_mono hNH396 _ _ gq127
  replace gq131 : G398 q131 = some 120 := by rw [eGG398]; exact gU_mono hNH396 _ _ gq131
  replace gq135 : G398 q135 = some 121 := by rw [eGG398]; exact gU_mono hNH396 _ _ gq135
  replace gq139 : G398 q139 = some 122 := by rw [eGG398]; exact gU_mono hNH396 _ _ gq139
  replace gq143 : G398 q143 = some 123 := by rw [eGG398]; exact gU_mono hNH396 _ _ gq143
  replace gq157 : G398 q157 = some 124 := by rw [eGG398]; exact gU_mono hNH396 _ _ gq157
  replace gq161 : G398 q161 = some 125 := by rw [eGG398]; exact gU_mono hNH396 _ _ gq161
  replace gq165 : G398 q165 = some 126 := by rw [eGG398]; exact gU_mono hNH396 _ _ gq165
  replace gq169 : G398 q169 = some 127 := by rw [eGG398]; exact gU_mono hNH396 _ _ gq169
  replace gq288 : G398 q288 = some 128 := by rw [eGG398]; exact gU_mono hNH396 _ _ gq288
  replace gq292 : G398 q292 = some 129 := by rw [eGG398]; exact gU_mono hNH396 _ _ gq292
  replace gq296 : G398 q296 = some 130 := by rw [eGG398]; exact gU_mono hNH396 _ _ gq296
  replace gq300 : G398 q300 = some 131 := by rw [eGG398]; exact gU_mono hNH396 _ _ gq300
  replace gq304 : G398 q304 = some 132 := by rw [eGG398]; exact gU_mono hNH396 _ _ gq304
  replace gq308 : G398 q308 = some 133 := by rw [eGG398]; exact gU_mono hNH396 _ _ gq308
  replace gq312 : G398 q312 = some 134 := by rw [eGG398]; exact gU_mono hNH396 _ _ gq312
  replace gq316 : G398 q316 = some 135 := by rw [eGG398]; exact gU_mono hNH396 _ _ gq316
  replace gq320 : G398 q320 = some 136 := by rw [eGG398]; exact gU_mono hNH396 _ _ gq320
  replace gq324 : G398 q324 = some 137 := by rw [eGG398]; exact gU_mono hNH396 _ _ gq324
  replace gq328 : G398 q328 = some 138 := by rw [eGG398]; exact gU_mono hNH396 _ _ gq328
  replace gq333 : G398 q333 = some 139 := by rw [eGG398]; exact gU_mono hNH396 _ _ gq333
  replace gq337 : G398 q337 = some 140 := by rw [eGG398]; exact gU_mono hNH396 _ _ gq337
  replace gq341 : G398 q341 = some 141 := by rw [eGG398]; exact gU_mono hNH396 _ _ gq341
  replace gq345 : G398 q345 = some 142 := by rw [eGG398]; exact gU_mono hNH396 _ _ gq345
  replace gq349 : G398 q349 = some 143 := by rw [eGG398]; exact gU_mono hNH396 _ _ gq349
  replace gq353 : G398 q353 = some 144 := by rw [eGG398]; exact gU_mono hNH396 _ _ gq353
  replace gq357 : G398 q357 = some 145 := by rw [eGG398]; exact gU_mono hNH396 _ _ gq357
  replace gq361 : G398 q361 = some 146 := by rw [eGG398]; exact gU_mono hNH396 _ _ gq361
  replace gq365 : G398 q365 = some 147 := by rw [eGG398]; exact gU_mono hNH396 _ _ gq365
  replace gq369 : G398 q369 = some 148 := by rw [eGG398]; exact gU_mono hNH396 _ _ gq369
  replace gq373 : G398 q373 = some 149 := by rw [eGG398]; exact gU_mono hNH396 _ _ gq373
  replace gq377 : G398 q377 = some 150 := by rw [eGG398]; exact gU_mono hNH396 _ _ gq377
  replace gq381 : G398 q381 = some 151 := by rw [eGG398]; exact gU_mono hNH396 _ _ gq381
  replace gq385 : G398 q385 = some 152 := by rw [eGG398]; exact gU_mono hNH396 _ _ gq385
  replace gq389 : G398 q389 = some 153 := by rw [eGG398]; exact gU_mono hNH396 _ _ gq389
  replace gq393 : G398 q393 = some 154 := by rw [eGG398]; exact gU_mono hNH396 _ _ gq393
  replace hn : G398 a = none := by rw [eGG398, gU_ne nr_a_q397]; exact hn
  replace hGo : ∀ q, q < s.heap.size → q ≠ a → G398 q = G q := fun q hq hqa => (show G398 q = G394 q by rw [eGG398, gU_ne (Nat.ne_of_lt (Nat.lt_of_lt_of_le hq hSH395.1))]).trans (hGo q hq hqa)
  have gq397 : G398 H395.size = some 155 := by rw [eGG398]; exact gU_at
  obtain ⟨q397, eq397⟩ : ∃ q, q = H395.size := ⟨_, rfl⟩
  have leq397 : s.heap.size ≤ q397 := by rw [eq397]; exact hSH395.1
  rw [← eq397] at gq397 nr_a_q397
  rw [← eq397]
  clear eq397
  clear hNH396 eGG398 oH396 zH396 vH396 hTH395
  refine x_putR C hTH396 hSH396 (ci := 10) (k := 61) (v := .ref q397) (ty0 := tyX10) hR hn rfl inX10 tyX10_ok nmX10 (by decide) (Or.inr ⟨rfl, rfl, rfl⟩) wF_X10_143 (Nat.le_of_ble_eq_true rfl) rfl rfl (Or.inl rfl) dX10_init_1097 (fun H399 locsH399 hR2 hTH399 hSH399 oH399 zH399 => ?_)
  clear hR
  have hR : RAW K H399 a 10 [.int 0, .int 0, .int 0, .int 10, .ref q103, .ref q107, .ref q111, .ref q115, .ref q119, .ref q123, .ref q127, .ref q131, .ref q135, .ref q139, .ref q143, .ref q157, .ref q161, .ref q165, .int 0, .int 0, .int 0, .int 0, .int 0, .ref q169, .ref q288, .ref q292, .ref q296, .ref q300, .ref q304, .ref q308, .ref q312, .ref q316, .ref q320, .ref q324, .int 0, .int 0, .int 0, .ref q328, .int 0, .int 0, .int 0, .int 0, .int (-1), .ref q333, .ref q337, .ref q341, .ref q345, .ref q349, .ref q353, .ref q357, .ref q361, .ref q365, .ref q369, .ref q373, .ref q377, .ref q381, .int 0, .ref q385, .ref q389, .int 0, .ref q393, .ref q397, .int 0, .null, .null, .int 0, .null, .null, .null, .null, .int 0, .int 0, .int 0, .null] := hR2
  clear hR2
  replace z9 := ZR.kept (oH399 _ (g_ne gq123 hn)) z9
  replace z10 := ZR.kept (oH399 _ (g_ne gq127 hn)) z10
  replace z13 := ZR.kept (oH399 _ (g_ne gq139 hn)) z13
  replace w23 := WDN.kept (oH399 _ (g_ne gq169 hn)) w23
  replace z24 := ZR.kept (oH399 _ (g_ne gq288 hn)) z24
  clear oH399 zH399 hTH396
  refine lv_aload_n hx hb dX10_init_1100 rfl (lv_at hl 0 rfl) ?_
  refine lv_bipush (v := 8) hx hb dX10_init_1101 (by decide) ?_
  refine x_newa C hTH399 hSH399 wAC_int rg_156 (by decide) rfl (by decide) ⟨by decide, by decide⟩ dX10_init_1103 (fun H400 hTH400 hSH400 oH400 zH400 vH400 => ?_)
  have hNH400 : G398 H399.size = none := hTH399.gb _ (Nat.le_refl _)
  obtain ⟨G402, eGG402⟩ : ∃ g, g = gU G398 H399.size 156 := ⟨_, rfl⟩
  rw [← eGG402] at hTH400
  have nr_a_q401 : a ≠ H399.size := Nat.ne_of_lt hR.lt
  replace hR := hR.kept (oH400 _ hR.lt)
  replace z9 := ZR.kept (oH400 _ (hTH399.lt gq123)) z9
  replace z10 := ZR.kept (oH400 _ (hTH399.lt gq127)) z10
  replace z13 := ZR.kept (oH400 _ (hTH399.lt gq139)) z13
  replace w23 := WDN.kept (oH400 _ (hTH399.lt gq169)) w23
  replace z24 := ZR.kept (oH400 _ (hTH399.lt gq288)) z24
  replace gq103 : G402 q103 = some 113 := by rw [eGG402]; exact gU_mono hNH400 _ _ gq103
  replace gq107 : G402 q107 = some 114 := by rw [eGG402]; exact gU_mono hNH400 _ _ gq107
  replace gq111 : G402 q111 = some 115 := by rw [eGG402]; exact gU_mono hNH400 _ _ gq111
  replace gq115 : G402 q115 = some 116 := by rw [eGG402]; exact gU_mono hNH400 _ _ gq115
  replace gq119 : G402 q119 = some 117 := by rw [eGG402]; exact gU_mono hNH400 _ _ gq119
  replace gq123 : G402 q123 = some 118 := by rw [eGG402]; exact gU_mono hNH400 _ _ gq123
  replace gq127 : G402 q127 = some 119 := by rw [eGG402]; exact gU_mono hNH400 _ _ gq127
  replace gq131 : G402 q131 = some 120 := by rw [eGG402]; exact gU_mono hNH400 _ _ gq131
  replace gq135 : G402 q135 = some 121 := by rw [eGG402]; exact gU_mono hNH400 _ _ gq135
  replace gq139 : G402 q139 = some 122 := by rw [eGG402]; exact gU_mono hNH400 _ _ gq139
  replace gq143 : G402 q143 = some 123 := by rw [eGG402]; exact gU_mono hNH400 _ _ gq143
  replace gq157 : G402 q157 = some 124 := by rw [eGG402]; exact gU_mono hNH400 _ _ gq157
  replace gq161 : G402 q161 = some 125 := by rw [eGG402]; exact gU_mono hNH400 _ _ gq161
  replace gq165 : G402 q165 = some 126 := by rw [eGG402]; exact gU_mono hNH400 _ _ gq165
  replace gq169 : G402 q169 = some 127 := by rw [eGG402]; exact gU_mono hNH400 _ _ gq169
  replace gq288 : G402 q288 = some 128 := by rw [eGG402]; exact gU_mono hNH400 _ _ gq288
  replace gq292 : G402 q292 = some 129 := by rw [eGG402]; exact gU_mono hNH400 _ _ gq292
  replace gq296 : G402 q296 = some 130 := by rw [eGG402]; exact gU_mono hNH400 _ _ gq296
  replace gq300 : G402 q300 = some 131 := by rw [eGG402]; exact gU_mono hNH400 _ _ gq300
  replace gq304 : G402 q304 = some 132 := by rw [eGG402]; exact gU_mono hNH400 _ _ gq304
  replace gq308 : G402 q308 = some 133 := by rw [eGG402]; exact gU_mono hNH400 _ _ gq308
  replace gq312 : G402 q312 = some 134 := by rw [eGG402]; exact gU_mono hNH400 _ _ gq312
  replace gq316 : G402 q316 = some 135 := by rw [eGG402]; exact gU_mono hNH400 _ _ gq316
  replace gq320 : G402 q320 = some 136 := by rw [eGG402]; exact gU_mono hNH400 _ _ gq320
  replace gq324 : G402 q324 = some 137 := by rw [eGG402]; exact gU_mono hNH400 _ _ gq324
  replace gq328 : G402 q328 = some 138 := by rw [eGG402]; exact gU_mono hNH400 _ _ gq328
  replace gq333 : G402 q333 = some 139 := by rw [eGG402]; exact gU_mono hNH400 _ _ gq333
  replace gq337 : G402 q337 = some 140 := by rw [eGG402]; exact gU_mono hNH400 _ _ gq337
  replace gq341 : G402 q341 = some 141 := by rw [eGG402]; exact gU_mono hNH400 _ _ gq341
  replace gq345 : G402 q345 = some 142 := by rw [eGG402]; exact gU_mono hNH400 _ _ gq345
  replace gq349 : G402 q349 = some 143 := by rw [eGG402]; exact gU_mono hNH400 _ _ gq349
  replace gq353 : G402 q353 = some 144 := by rw [eGG402]; exact gU_mono hNH400 _ _ gq353
  replace gq357 : G402 q357 = some 145 := by rw [eGG402]; exact gU_mono hNH400 _ _ gq357
  replace gq361 : G402 q361 = some 146 := by rw [eGG402]; exact gU_mono hNH400 _ _ gq361
  replace gq365 : G402 q365 = some 147 := by rw [eGG402]; exact gU_mono hNH400 _ _ gq365
  replace gq369 : G402 q369 = some 148 := by rw [eGG402]; exact gU_mono hNH400 _ _ gq369
  replace gq373 : G402 q373 = some 149 := by rw [eGG402]; exact gU_mono hNH400 _ _ gq373
  replace gq377 : G402 q377 = some 150 := by rw [eGG402]; exact gU_mono hNH400 _ _ gq377
  replace gq381 : G402 q381 = some 151 := by rw [eGG402]; exact gU_mono hNH400 _ _ gq381
  replace gq385 : G402 q385 = some 152 := by rw [eGG402]; exact gU_mono hNH400 _ _ gq385
  replace gq389 : G402 q389 = some 153 := by rw [eGG402]; exact gU_mono hNH400 _ _ gq389
  replace gq393 : G402 q393 = some 154 := by rw [eGG402]; exact gU_mono hNH400 _ _ gq393
  replace gq397 : G402 q397 = some 155 := by rw [eGG402]; exact gU_mono hNH400 _ _ gq397
  replace hn : G402 a = none := by rw [eGG402, gU_ne nr_a_q401]; exact hn
  replace hGo : ∀ q, q < s.heap.size → q ≠ a → G402 q = G q := fun q hq hqa => (show G402 q = G398 q by rw [eGG402, gU_ne (Nat.ne_of_lt (Nat.lt_of_lt_of_le hq hSH399.1))]).trans (hGo q hq hqa)
  have gq401 : G402 H399.size = some 156 := by rw [eGG402]; exact gU_at
  obtain ⟨q401, eq401⟩ : ∃ q, q = H399.size := ⟨_, rfl⟩
  have leq401 : s.heap.size ≤ q401 := by rw [eq401]; exact hSH399.1
  rw [← eq401] at gq401 nr_a_q401
  rw [← eq401]
  clear eq401
  clear hNH400 eGG402 oH400 zH400 vH400 hTH399
  refine x_putR C hTH400 hSH400 (ci := 10) (k := 63) (v := .ref q401) (ty0 := tyX10) hR hn rfl inX10 tyX10_ok nmX10 (by decide) (Or.inr ⟨rfl, rfl, rfl⟩) wF_X10_146 (Nat.le_of_ble_eq_true rfl) rfl rfl (Or.inl rfl) dX10_init_1105 (fun H403 locsH403 hR2 hTH403 hSH403 oH403 zH403 => ?_)
  clear hR
  have hR : RAW K H403 a 10 [.int 0, .int 0, .int 0, .int 10, .ref q103, .ref q107, .ref q111, .ref q115, .ref q119, .ref q123, .ref q127, .ref q131, .ref q135, .ref q139, .ref q143, .ref q157, .ref q161, .ref q165, .int 0, .int 0, .int 0, .int 0, .int 0, .ref q169, .ref q288, .ref q292, .ref q296, .ref q300, .ref q304, .ref q308, .ref q312, .ref q316, .ref q320, .ref q324, .int 0, .int 0, .int 0, .ref q328, .int 0, .int 0, .int 0, .int 0, .int (-1), .ref q333, .ref q337, .ref q341, .ref q345, .ref q349, .ref q353, .ref q357, .ref q361, .ref q365, .ref q369, .ref q373, .ref q377, .ref q381, .int 0, .ref q385, .ref q389, .int 0, .ref q393, .ref q397, .int 0, .ref q401, .null, .int 0, .null, .null, .null, .null, .int 0, .int 0, .int 0, .null] := hR2
  clear hR2
  replace z9 := ZR.kept (oH403 _ (g_ne gq123 hn)) z9
  replace z10 := ZR.kept (oH403 _ (g_ne gq127 hn)) z10
  replace z13 := ZR.kept (oH403 _ (g_ne gq139 hn)) z13
  replace w23 := WDN.kept (oH403 _ (g_ne gq169 hn)) w23
  replace z24 := ZR.kept (oH403 _ (g_ne gq288 hn)) z24
  clear oH403 zH403 hTH400
  refine lv_aload_n hx hb dX10_init_1108 rfl (lv_at hl 0 rfl) ?_
  refine lv_bipush (v := 8) hx hb dX10_init_1109 (by decide) ?_
  refine x_newa C hTH403 hSH403 wAC_int rg_157 (by decide) rfl (by decide) ⟨by decide, by decide⟩ dX10_init_1111 (fun H404 hTH404 hSH404 oH404 zH404 vH404 => ?_)
  have hNH404 : G402 H403.size = none := hTH403.gb _ (Nat.le_refl _)
  obtain ⟨G406, eGG406⟩ : ∃ g, g = gU G402 H403.size 157 := ⟨_, rfl⟩
  rw [← eGG406] at hTH404
  have nr_a_q405 : a ≠ H403.size := Nat.ne_of_lt hR.lt
  replace hR := hR.kept (oH404 _ hR.lt)
  replace z9 := ZR.kept (oH404 _ (hTH403.lt gq123)) z9
  replace z10 := ZR.kept (oH404 _ (hTH403.lt gq127)) z10
  replace z13 := ZR.kept (oH404 _ (hTH403.lt gq139)) z13
  replace w23 := WDN.kept (oH404 _ (hTH403.lt gq169)) w23
  replace z24 := ZR.kept (oH404 _ (hTH403.lt gq288)) z24
  replace gq103 : G406 q103 = some 113 := by rw [eGG406]; exact gU_mono hNH404 _ _ gq103
  replace gq107 : G406 q107 = some 114 := by rw [eGG406]; exact gU_mono hNH404 _ _ gq107
  replace gq111 : G406 q111 = some 115 := by rw [eGG406]; exact gU_mono hNH404 _ _ gq111
  replace gq115 : G406 q115 = some 116 := by rw [eGG406]; exact gU_mono hNH404 _ _ gq115
  replace gq119 : G406 q119 = some 117 := by rw [eGG406]; exact gU_mono hNH404 _ _ gq119
  replace gq123 : G406 q123 = some 118 := by rw [eGG406]; exact gU_mono hNH404 _ _ gq123
  replace gq127 : G406 q127 = some 119 := by rw [eGG406]; exact gU_mono hNH404 _ _ gq127
  replace gq131 : G406 q131 = some 120 := by rw [eGG406]; exact gU_mono hNH404 _ _ gq131
  replace gq135 : G406 q135 = some 121 := by rw [eGG406]; exact gU_mono hNH404 _ _ gq135
  replace gq139 : G406 q139 = some 122 := by rw [eGG406]; exact gU_mono hNH404 _ _ gq139
  replace gq143 : G406 q143 = some 123 := by rw [eGG406]; exact gU_mono hNH404 _ _ gq143
  replace gq157 : G406 q157 = some 124 := by rw [eGG406]; exact gU_mono hNH404 _ _ gq157
  replace gq161 : G406 q161 = some 125 := by rw [eGG406]; exact gU_mono hNH404 _ _ gq161
  replace gq165 : G406 q165 = some 126 := by rw [eGG406]; exact gU_mono hNH404 _ _ gq165
  replace gq169 : G406 q169 = some 127 := by rw [eGG406]; exact gU_mono hNH404 _ _ gq169
  replace gq288 : G406 q288 = some 128 := by rw [eGG406]; exact gU_mono hNH404 _ _ gq288
  replace gq292 : G406 q292 = some 129 := by rw [eGG406]; exact gU_mono hNH404 _ _ gq292
  replace gq296 : G406 q296 = some 130 := by rw [eGG406]; exact gU_mono hNH404 _ _ gq296
  replace gq300 : G406 q300 = some 131 := by rw [eGG406]; exact gU_mono hNH404 _ _ gq300
  replace gq304 : G406 q304 = some 132 := by rw [eGG406]; exact gU_mono hNH404 _ _ gq304
  replace gq308 : G406 q308 = some 133 := by rw [eGG406]; exact gU_mono hNH404 _ _ gq308
  replace gq312 : G406 q312 = some 134 := by rw [eGG406]; exact gU_mono hNH404 _ _ gq312
  replace gq316 : G406 q316 = some 135 := by rw [eGG406]; exact gU_mono hNH404 _ _ gq316
  replace gq320 : G406 q320 = some 136 := by rw [eGG406]; exact gU_mono hNH404 _ _ gq320
  replace gq324 : G406 q324 = some 137 := by rw [eGG406]; exact gU_mono hNH404 _ _ gq324
  replace gq328 : G406 q328 = some 138 := by rw [eGG406]; exact gU_mono hNH404 _ _ gq328
  replace gq333 : G406 q333 = some 139 := by rw [eGG406]; exact gU_mono hNH404 _ _ gq333
  replace gq337 : G406 q337 = some 140 := by rw [eGG406]; exact gU_mono hNH404 _ _ gq337
  replace gq341 : G406 q341 = some 141 := by rw [eGG406]; exact gU_mono hNH404 _ _ gq341
  replace gq345 : G406 q345 = some 142 := by rw [eGG406]; exact gU_mono hNH404 _ _ gq345
  replace gq349 : G406 q349 = some 143 := by rw [eGG406]; exact gU_mono hNH404 _ _ gq349
  replace gq353 : G406 q353 = some 144 := by rw [eGG406]; exact gU_mono hNH404 _ _ gq353
  replace gq357 : G406 q357 = some 145 := by rw [eGG406]; exact gU_mono hNH404 _ _ gq357
  replace gq361 : G406 q361 = some 146 := by rw [eGG406]; exact gU_mono hNH404 _ _ gq361
  replace gq365 : G406 q365 = some 147 := by rw [eGG406]; exact gU_mono hNH404 _ _ gq365
  replace gq369 : G406 q369 = some 148 := by rw [eGG406]; exact gU_mono hNH404 _ _ gq369
  replace gq373 : G406 q373 = some 149 := by rw [eGG406]; exact gU_mono hNH404 _ _ gq373
  replace gq377 : G406 q377 = some 150 := by rw [eGG406]; exact gU_mono hNH404 _ _ gq377
  replace gq381 : G406 q381 = some 151 := by rw [eGG406]; exact gU_mono hNH404 _ _ gq381
  replace gq385 : G406 q385 = some 152 := by rw [eGG406]; exact gU_mono hNH404 _ _ gq385
  replace gq389 : G406 q389 = some 153 := by rw [eGG406]; exact gU_mono hNH404 _ _ gq389
  replace gq393 : G406 q393 = some 154 := by rw [eGG406]; exact gU_mono hNH404 _ _ gq393
  replace gq397 : G406 q397 = some 155 := by rw [eGG406]; exact gU_mono hNH404 _ _ gq397
  replace gq401 : G406 q401 = some 156 := by rw [eGG406]; exact gU_mono hNH404 _ _ gq401
  replace hn : G406 a = none := by rw [eGG406, gU_ne nr_a_q405]; exact hn
  replace hGo : ∀ q, q < s.heap.size → q ≠ a → G406 q = G q := fun q hq hqa => (show G406 q = G402 q by rw [eGG406, gU_ne (Nat.ne_of_lt (Nat.lt_of_lt_of_le hq hSH403.1))]).trans (hGo q hq hqa)
  have gq405 : G406 H403.size = some 157 := by rw [eGG406]; exact gU_at
  obtain ⟨q405, eq405⟩ : ∃ q, q = H403.size := ⟨_, rfl⟩
  have leq405 : s.heap.size ≤ q405 := by rw [eq405]; exact hSH403.1
  rw [← eq405] at gq405 nr_a_q405
  rw [← eq405]
  clear eq405
  clear hNH404 eGG406 oH404 zH404 vH404 hTH403
  refine x_putR C hTH404 hSH404 (ci := 10) (k := 64) (v := .ref q405) (ty0 := tyX10) hR hn rfl inX10 tyX10_ok nmX10 (by decide) (Or.inr ⟨rfl, rfl, rfl⟩) wF_X10_149 (Nat.le_of_ble_eq_true rfl) rfl rfl (Or.inl rfl) dX10_init_1113 (fun H407 locsH407 hR2 hTH407 hSH407 oH407 zH407 => ?_)
  clear hR
  have hR : RAW K H407 a 10 [.int 0, .int 0, .int 0, .int 10, .ref q103, .ref q107, .ref q111, .ref q115, .ref q119, .ref q123, .ref q127, .ref q131, .ref q135, .ref q139, .ref q143, .ref q157, .ref q161, .ref q165, .int 0, .int 0, .int 0, .int 0, .int 0, .ref q169, .ref q288, .ref q292, .ref q296, .ref q300, .ref q304, .ref q308, .ref q312, .ref q316, .ref q320, .ref q324, .int 0, .int 0, .int 0, .ref q328, .int 0, .int 0, .int 0, .int 0, .int (-1), .ref q333, .ref q337, .ref q341, .ref q345, .ref q349, .ref q353, .ref q357, .ref q361, .ref q365, .ref q369, .ref q373, .ref q377, .ref q381, .int 0, .ref q385, .ref q389, .int 0, .ref q393, .ref q397, .int 0, .ref q401, .ref q405, .int 0, .null, .null, .null, .null, .int 0, .int 0, .int 0, .null] := hR2
  clear hR2
  replace z9 := ZR.kept (oH407 _ (g_ne gq123 hn)) z9
  replace z10 := ZR.kept (oH407 _ (g_ne gq127 hn)) z10
  replace z13 := ZR.kept (oH407 _ (g_ne gq139 hn)) z13
  replace w23 := WDN.kept (oH407 _ (g_ne gq169 hn)) w23
  replace z24 := ZR.kept (oH407 _ (g_ne gq288 hn)) z24
  clear oH407 zH407 hTH404
  refine lv_aload_n hx hb dX10_init_1116 rfl (lv_at hl 0 rfl) ?_
  refine lv_bipush (v := 8) hx hb dX10_init_1117 (by decide) ?_
  refine x_newa C hTH407 hSH407 wAC_int rg_158 (by decide) rfl (by decide) ⟨by decide, by decide⟩ dX10_init_1119 (fun H408 hTH408 hSH408 oH408 zH408 vH408 => ?_)
  have hNH408 : G406 H407.size = none := hTH407.gb _ (Nat.le_refl _)
  obtain ⟨G410, eGG410⟩ : ∃ g, g = gU G406 H407.size 158 := ⟨_, rfl⟩
  rw [← eGG410] at hTH408
  have nr_a_q409 : a ≠ H407.size := Nat.ne_of_lt hR.lt
  replace hR := hR.kept (oH408 _ hR.lt)
  replace z9 := ZR.kept (oH408 _ (hTH407.lt gq123)) z9
  replace z10 := ZR.kept (oH408 _ (hTH407.lt gq127)) z10
  replace z13 := ZR.kept (oH408 _ (hTH407.lt gq139)) z13
  replace w23 := WDN.kept (oH408 _ (hTH407.lt gq169)) w23
  replace z24 := ZR.kept (oH408 _ (hTH407.lt gq288)) z24
  replace gq103 : G410 q103 = some 113 := by rw [eGG410]; exact gU_mono hNH408 _ _ gq103
  replace gq107 : G410 q107 = some 114 := by rw [eGG410]; exact gU_mono hNH408 _ _ gq107
  replace gq111 : G410 q111 = some 115 := by rw [eGG410]; exact gU_mono hNH408 _ _ gq111
  replace gq115 : G410 q115 = some 116 := by rw [eGG410]; exact gU_mono hNH408 _ _ gq115
  replace gq119 : G410 q119 = some 117 := by rw [eGG410]; exact gU_mono hNH408 _ _ gq119
  replace gq123 : G410 q123 = some 118 := by rw [eGG410]; exact gU_mono hNH408 _ _ gq123
  replace gq127 : G410 q127 = some 119 := by rw [eGG410]; exact gU_mono hNH408 _ _ gq127
  replace gq131 : G410 q131 = some 120 := by rw [eGG410]; exact gU_mono hNH408 _ _ gq131
  replace gq135 : G410 q135 = some 121 := by rw [eGG410]; exact gU_mono hNH408 _ _ gq135
  replace gq139 : G410 q139 = some 122 := by rw [eGG410]; exact gU_mono hNH408 _ _ gq139
  replace gq143 : G410 q143 = some 123 := by rw [eGG410]; exact gU_mono hNH408 _ _ gq143
  replace gq157 : G410 q157 = some 124 := by rw [eGG410]; exact gU_mono hNH408 _ _ gq157
  replace gq161 : G410 q161 = some 125 := by rw [eGG410]; exact gU_mono hNH408 _ _ gq161
  replace gq165 : G410 q165 = some 126 := by rw [eGG410]; exact gU_mono hNH408 _ _ gq165
  replace gq169 : G410 q169 = some 127 := by rw [eGG410]; exact gU_mono hNH408 _ _ gq169
  replace gq288 : G410 q288 = some 128 := by rw [eGG410]; exact gU_mono hNH408 _ _ gq288
  replace gq292 : G410 q292 = some 129 := by rw [eGG410]; exact gU_mono hNH408 _ _ gq292
  replace gq296 : G410 q296 = some 130 := by rw [eGG410]; exact gU_mono hNH408 _ _ gq296
  replace gq300 : G410 q300 = some 131 := by rw [eGG410]; exact gU_mono hNH408 _ _ gq300
  replace gq304 : G410 q304 = some 132 := by rw [eGG410]; exact gU_mono hNH408 _ _ gq304
  replace gq308 : G410 q308 = some 133 := by rw [eGG410]; exact gU_mono hNH408 _ _ gq308
  replace gq312 : G410 q312 = some 134 := by rw [eGG410]; exact gU_mono hNH408 _ _ gq312
  replace gq316 : G410 q316 = some 135 := by rw [eGG410]; exact gU_mono hNH408 _ _ gq316
  replace gq320 : G410 q320 = some 136 := by rw [eGG410]; exact gU_mono hNH408 _ _ gq320
  replace gq324 : G410 q324 = some 137 := by rw [eGG410]; exact gU_mono hNH408 _ _ gq324
  replace gq328 : G410 q328 = some 138 := by rw [eGG410]; exact gU_mono hNH408 _ _ gq328
  replace gq333 : G410 q333 = some 139 := by rw [eGG410]; exact gU_mono hNH408 _ _ gq333
  replace gq337 : G410 q337 = some 140 := by rw [eGG410]; exact gU_mono hNH408 _ _ gq337
  replace gq341 : G410 q341 = some 141 := by rw [eGG410]; exact gU_mono hNH408 _ _ gq341
  replace gq345 : G410 q345 = some 142 := by rw [eGG410]; exact gU_mono hNH408 _ _ gq345
  replace gq349 : G410 q349 = some 143 := by rw [eGG410]; exact gU_mono hNH408 _ _ gq349
  replace gq353 : G410 q353 = some 144 := by rw [eGG410]; exact gU_mono hNH408 _ _ gq353
  replace gq357 : G410 q357 = some 145 := by rw [eGG410]; exact gU_mono hNH408 _ _ gq357
  replace gq361 : G410 q361 = some 146 := by rw [eGG410]; exact gU_mono hNH408 _ _ gq361
  replace gq365 : G410 q365 = some 147 := by rw [eGG410]; exact gU_mono hNH408 _ _ gq365
  replace gq369 : G410 q369 = some 148 := by rw [eGG410]; exact gU_mono hNH408 _ _ gq369
  replace gq373 : G410 q373 = some 149 := by rw [eGG410]; exact gU_mono hNH408 _ _ gq373
  replace gq377 : G410 q377 = some 150 := by rw [eGG410]; exact gU_mono hNH408 _ _ gq377
  replace gq381 : G410 q381 = some 151 := by rw [eGG410]; exact gU_mono hNH408 _ _ gq381
  replace gq385 : G410 q385 = some 152 := by rw [eGG410]; exact gU_mono hNH408 _ _ gq385
  replace gq389 : G410 q389 = some 153 := by rw [eGG410]; exact gU_mono hNH408 _ _ gq389
  replace gq393 : G410 q393 = some 154 := by rw [eGG410]; exact gU_mono hNH408 _ _ gq393
  replace gq397 : G410 q397 = some 155 := by rw [eGG410]; exact gU_mono hNH408 _ _ gq397
  replace gq401 : G410 q401 = some 156 := by rw [eGG410]; exact gU_mono hNH408 _ _ gq401
  replace gq405 : G410 q405 = some 157 := by rw [eGG410]; exact gU_mono hNH408 _ _ gq405
  replace hn : G410 a = none := by rw [eGG410, gU_ne nr_a_q409]; exact hn
  replace hGo : ∀ q, q < s.heap.size → q ≠ a → G410 q = G q := fun q hq hqa => (show G410 q = G406 q by rw [eGG410, gU_ne (Nat.ne_of_lt (Nat.lt_of_lt_of_le hq hSH407.1))]).trans (hGo q hq hqa)
  have gq409 : G410 H407.size = some 158 := by rw [eGG410]; exact gU_at
  obtain ⟨q409, eq409⟩ : ∃ q, q = H407.size := ⟨_, rfl⟩
  have leq409 : s.heap.size ≤ q409 := by rw [eq409]; exact hSH407.1
  rw [← eq409] at gq409 nr_a_q409
  rw [← eq409]
  clear eq409
  clear hNH408 eGG410 oH408 zH408 vH408 hTH407
  refine x_putR C hTH408 hSH408 (ci := 10) (k := 66) (v := .ref q409) (ty0 := tyX10) hR hn rfl inX10 tyX10_ok nmX10 (by decide) (Or.inr ⟨rfl, rfl, rfl⟩) wF_X10_152 (Nat.le_of_ble_eq_true rfl) rfl rfl (Or.inl rfl) dX10_init_1121 (fun H411 locsH411 hR2 hTH411 hSH411 oH411 zH411 => ?_)
  clear hR
  have hR : RAW K H411 a 10 [.int 0, .int 0, .int 0, .int 10, .ref q103, .ref q107, .ref q111, .ref q115, .ref q119, .ref q123, .ref q127, .ref q131, .ref q135, .ref q139, .ref q143, .ref q157, .ref q161, .ref q165, .int 0, .int 0, .int 0, .int 0, .int 0, .ref q169, .ref q288, .ref q292, .ref q296, .ref q300, .ref q304, .ref q308, .ref q312, .ref q316, .ref q320, .ref q324, .int 0, .int 0, .int 0, .ref q328, .int 0, .int 0, .int 0, .int 0, .int (-1), .ref q333, .ref q337, .ref q341, .ref q345, .ref q349, .ref q353, .ref q357, .ref q361, .ref q365, .ref q369, .ref q373, .ref q377, .ref q381, .int 0, .ref q385, .ref q389, .int 0, .ref q393, .ref q397, .int 0, .ref q401, .ref q405, .int 0, .ref q409, .null, .null, .null, .int 0, .int 0, .int 0, .null] := hR2
  clear hR2
  replace z9 := ZR.kept (oH411 _ (g_ne gq123 hn)) z9
  replace z10 := ZR.kept (oH411 _ (g_ne gq127 hn)) z10
  replace z13 := ZR.kept (oH411 _ (g_ne gq139 hn)) z13
  replace w23 := WDN.kept (oH411 _ (g_ne gq169 hn)) w23
  replace z24 := ZR.kept (oH411 _ (g_ne gq288 hn)) z24
  clear oH411 zH411 hTH408
  refine lv_aload_n hx hb dX10_init_1124 rfl (lv_at hl 0 rfl) ?_
  refine lv_bipush (v := 8) hx hb dX10_init_1125 (by decide) ?_
  refine x_newa C hTH411 hSH411 wAC_int rg_159 (by decide) rfl (by decide) ⟨by decide, by decide⟩ dX10_init_1127 (fun H412 hTH412 hSH412 oH412 zH412 vH412 => ?_)
  have hNH412 : G410 H411.size = none := hTH411.gb _ (Nat.le_refl _)
  obtain ⟨G414, eGG414⟩ : ∃ g, g = gU G410 H411.size 159 := ⟨_, rfl⟩
  rw [← eGG414] at hTH412
  have nr_a_q413 : a ≠ H411.size := Nat.ne_of_lt hR.lt
  replace hR := hR.kept (oH412 _ hR.lt)
  replace z9 := ZR.kept (oH412 _ (hTH411.lt gq123)) z9
  replace z10 := ZR.kept (oH412 _ (hTH411.lt gq127)) z10
  replace z13 := ZR.kept (oH412 _ (hTH411.lt gq139)) z13
  replace w23 := WDN.kept (oH412 _ (hTH411.lt gq169)) w23
  replace z24 := ZR.kept (oH412 _ (hTH411.lt gq288)) z24
  replace gq103 : G414 q103 = some 113 := by rw [eGG414]; exact gU_mono hNH412 _ _ gq103
  replace gq107 : G414 q107 = some 114 := by rw [eGG414]; exact gU_mono hNH412 _ _ gq107
  replace gq111 : G414 q111 = some 115 := by rw [eGG414]; exact gU_mono hNH412 _ _ gq111
  replace gq115 : G414 q115 = some 116 := by rw [eGG414]; exact gU_mono hNH412 _ _ gq115
  replace gq119 : G414 q119 = some 117 := by rw [eGG414]; exact gU_mono hNH412 _ _ gq119
  replace gq123 : G414 q123 = some 118 := by rw [eGG414]; exact gU_mono hNH412 _ _ gq123
  replace gq127 : G414 q127 = some 119 := by rw [eGG414]; exact gU_mono hNH412 _ _ gq127
  replace gq131 : G414 q131 = some 120 := by rw [eGG414]; exact gU_mono hNH412 _ _ gq131
  replace gq135 : G414 q135 = some 121 := by rw [eGG414]; exact gU_mono hNH412 _ _ gq135
  replace gq139 : G414 q139 = some 122 := by rw [eGG414]; exact gU_mono hNH412 _ _ gq139
  replace gq143 : G414 q143 = some 123 := by rw [eGG414]; exact gU_mono hNH412 _ _ gq143
  replace gq157 : G414 q157 = some 124 := by rw [eGG414]; exact gU_mono hNH412 _ _ gq157
  replace gq161 : G414 q161 = some 125 := by rw [eGG414]; exact gU_mono hNH412 _ _ gq161
  replace gq165 : G414 q165 = some 126 := by rw [eGG414]; exact gU_mono hNH412 _ _ gq165
  replace gq169 : G414 q169 = some 127 := by rw [eGG414]; exact gU_mono hNH412 _ _ gq169
  replace gq288 : G414 q288 = some 128 := by rw [eGG414]; exact gU_mono hNH412 _ _ gq288
  replace gq292 : G414 q292 = some 129 := by rw [eGG414]; exact gU_mono hNH412 _ _ gq292
  replace gq296 : G414 q296 = some 130 := by rw [eGG414]; exact gU_mono hNH412 _ _ gq296
  replace gq300 : G414 q300 = some 131 := by rw [eGG414]; exact gU_mono hNH412 _ _ gq300
  replace gq304 : G414 q304 = some 132 := by rw [eGG414]; exact gU_mono hNH412 _ _ gq304
  replace gq308 : G414 q308 = some 133 := by rw [eGG414]; exact gU_mono hNH412 _ _ gq308
  replace gq312 : G414 q312 = some 134 := by rw [eGG414]; exact gU_mono hNH412 _ _ gq312
  replace gq316 : G414 q316 = some 135 := by rw [eGG414]; exact gU_mono hNH412 _ _ gq316
  replace gq320 : G414 q320 = some 136 := by rw [eGG414]; exact gU_mono hNH412 _ _ gq320
  replace gq324 : G414 q324 = some 137 := by rw [eGG414]; exact gU_mono hNH412 _ _ gq324
  replace gq328 : G414 q328 = some 138 := by rw [eGG414]; exact gU_mono hNH412 _ _ gq328
  replace gq333 : G414 q333 = some 139 := by rw [eGG414]; exact gU_mono hNH412 _ _ gq333
  replace gq337 : G414 q337 = some 140 := by rw [eGG414]; exact gU_mono hNH412 _ _ gq337
  replace gq341 : G414 q341 = some 141 := by rw [eGG414]; exact gU_mono hNH412 _ _ gq341
  replace gq345 : G414 q345 = some 142 := by rw [eGG414]; exact gU_mono hNH412 _ _ gq345
  replace gq349 : G414 q349 = some 143 := by rw [eGG414]; exact gU_mono hNH412 _ _ gq349
  replace gq353 : G414 q353 = some 144 := by rw [eGG414]; exact gU_mono hNH412 _ _ gq353
  replace gq357 : G414 q357 = some 145 := by rw [eGG414]; exact gU_mono hNH412 _ _ gq357
  replace gq361 : G414 q361 = some 146 := by rw [eGG414]; exact gU_mono hNH412 _ _ gq361
  replace gq365 : G414 q365 = some 147 := by rw [eGG414]; exact gU_mono hNH412 _ _ gq365
  replace gq369 : G414 q369 = some 148 := by rw [eGG414]; exact gU_mono hNH412 _ _ gq369
  replace gq373 : G414 q373 = some 149 := by rw [eGG414]; exact gU_mono hNH412 _ _ gq373
  replace gq377 : G414 q377 = some 150 := by rw [eGG414]; exact gU_mono hNH412 _ _ gq377
  replace gq381 : G414 q381 = some 151 := by rw [eGG414]; exact gU_mono hNH412 _ _ gq381
  replace gq385 : G414 q385 = some 152 := by rw [eGG414]; exact gU_mono hNH412 _ _ gq385
  replace gq389 : G414 q389 = some 153 := by rw [eGG414]; exact gU_mono hNH412 _ _ gq389
  replace gq393 : G414 q393 = some 154 := by rw [eGG414]; exact gU_mono hNH412 _ _ gq393
  replace gq397 : G414 q397 = some 155 := by rw [eGG414]; exact gU_mono hNH412 _ _ gq397
  replace gq401 : G414 q401 = some 156 := by rw [eGG414]; exact gU_mono hNH412 _ _ gq401
  replace gq405 : G414 q405 = some 157 := by rw [eGG414]; exact gU_mono hNH412 _ _ gq405
  replace gq409 : G414 q409 = some 158 := by rw [eGG414]; exact gU_mono hNH412 _ _ gq409
  replace hn : G414 a = none := by rw [eGG414, gU_ne nr_a_q413]; exact hn
  replace hGo : ∀ q, q < s.heap.size → q ≠ a → G414 q = G q := fun q hq hqa => (show G414 q = G410 q by rw [eGG414, gU_ne (Nat.ne_of_lt (Nat.lt_of_lt_of_le hq hSH411.1))]).trans (hGo q hq hqa)
  have gq413 : G414 H411.size = some 159 := by rw [eGG414]; exact gU_at
  obtain ⟨q413, eq413⟩ : ∃ q, q = H411.size := ⟨_, rfl⟩
  have leq413 : s.heap.size ≤ q413 := by rw [eq413]; exact hSH411.1
  rw [← eq413] at gq413 nr_a_q413
  rw [← eq413]
  clear eq413
  clear hNH412 eGG414 oH412 zH412 vH412 hTH411
  refine x_putR C hTH412 hSH412 (ci := 10) (k := 67) (v := .ref q413) (ty0 := tyX10) hR hn rfl inX10 tyX10_ok nmX10 (by decide) (Or.inr ⟨rfl, rfl, rfl⟩) wF_X10_155 (Nat.le_of_ble_eq_true rfl) rfl rfl (Or.inl rfl) dX10_init_1129 (fun H415 locsH415 hR2 hTH415 hSH415 oH415 zH415 => ?_)
  clear hR
  have hR : RAW K H415 a 10 [.int 0, .int 0, .int 0, .int 10, .ref q103, .ref q107, .ref q111, .ref q115, .ref q119, .ref q123, .ref q127, .ref q131, .ref q135, .ref q139, .ref q143, .ref q157, .ref q161, .ref q165, .int 0, .int 0, .int 0, .int 0, .int 0, .ref q169, .ref q288, .ref q292, .ref q296, .ref q300, .ref q304, .ref q308, .ref q312, .ref q316, .ref q320, .ref q324, .int 0, .int 0, .int 0, .ref q328, .int 0, .int 0, .int 0, .int 0, .int (-1), .ref q333, .ref q337, .ref q341, .ref q345, .ref q349, .ref q353, .ref q357, .ref q361, .ref q365, .ref q369, .ref q373, .ref q377, .ref q381, .int 0, .ref q385, .ref q389, .int 0, .ref q393, .ref q397, .int 0, .ref q401, .ref q405, .int 0, .ref q409, .ref q413, .null, .null, .int 0, .int 0, .int 0, .null] := hR2
  clear hR2
  replace z9 := ZR.kept (oH415 _ (g_ne gq123 hn)) z9
  replace z10 := ZR.kept (oH415 _ (g_ne gq127 hn)) z10
  replace z13 := ZR.kept (oH415 _ (g_ne gq139 hn)) z13
  replace w23 := WDN.kept (oH415 _ (g_ne gq169 hn)) w23
  replace z24 := ZR.kept (oH415 _ (g_ne gq288 hn)) z24
  clear oH415 zH415 hTH412
  refine lv_aload_n hx hb dX10_init_1132 rfl (lv_at hl 0 rfl) ?_
  refine lv_bipush (v := 8) hx hb dX10_init_1133 (by decide) ?_
  refine x_newa C hTH415 hSH415 wAC_int rg_160 (by decide) rfl (by decide) ⟨by decide, by decide⟩ dX10_init_1135 (fun H416 hTH416 hSH416 oH416 zH416 vH416 => ?_)
  have hNH416 : G414 H415.size = none := hTH415.gb _ (Nat.le_refl _)
  obtain ⟨G418, eGG418⟩ : ∃ g, g = gU G414 H415.size 160 := ⟨_, rfl⟩
  rw [← eGG418] at hTH416
  have nr_a_q417 : a ≠ H415.size := Nat.ne_of_lt hR.lt
  replace hR := hR.kept (oH416 _ hR.lt)
  replace z9 := ZR.kept (oH416 _ (hTH415.lt gq123)) z9
  replace z10 := ZR.kept (oH416 _ (hTH415.lt gq127)) z10
  replace z13 := ZR.kept (oH416 _ (hTH415.lt gq139)) z13
  replace w23 := WDN.kept (oH416 _ (hTH415.lt gq169)) w23
  replace z24 := ZR.kept (oH416 _ (hTH415.lt gq288)) z24
  replace gq103 : G418 q103 = some 113 := by rw [eGG418]; exact gU_mono hNH416 _ _ gq103
  replace gq107 : G418 q107 = some 114 := by rw [eGG418]; exact gU_mono hNH416 _ _ gq107
  replace gq111 : G418 q111 = some 115 := by rw [eGG418]; exact gU_mono hNH416 _ _ gq111
  replace gq115 : G418 q115 = some 116 := by rw [eGG418]; exact gU_mono hNH416 _ _ gq115
  replace gq119 : G418 q119 = some 117 := by rw [eGG418]; exact gU_mono hNH416 _ _ gq119
  replace gq123 : G418 q123 = some 118 := by rw [eGG418]; exact gU_mono hNH416 _ _ gq123
  replace gq127 : G418 q127 = some 119 := by rw [eGG418]; exact gU_mono hNH416 _ _ gq127
  replace gq131 : G418 q131 = some 120 := by rw [eGG418]; exact gU_mono hNH416 _ _ gq131
  replace gq135 : G418 q135 = some 121 := by rw [eGG418]; exact gU_mono hNH416 _ _ gq135
  replace gq139 : G418 q139 = some 122 := by rw [eGG418]; exact gU_mono hNH416 _ _ gq139
  replace gq143 : G418 q143 = some 123 := by rw [eGG418]; exact gU_mono hNH416 _ _ gq143
  replace gq157 : G418 q157 = some 124 := by rw [eGG418]; exact gU_mono hNH416 _ _ gq157
  replace gq161 : G418 q161 = some 125 := by rw [eGG418]; exact gU_mono hNH416 _ _ gq161
  replace gq165 : G418 q165 = some 126 := by rw [eGG418]; exact gU_mono hNH416 _ _ gq165
  replace gq169 : G418 q169 = some 127 := by rw [eGG418]; exact gU_mono hNH416 _ _ gq169
  replace gq288 : G418 q288 = some 128 := by rw [eGG418]; exact gU_mono hNH416 _ _ gq288
  replace gq292 : G418 q292 = some 129 := by rw [eGG418]; exact gU_mono hNH416 _ _ gq292
  replace gq296 : G418 q296 = some 130 := by rw [eGG418]; exact gU_mono hNH416 _ _ gq296
  replace gq300 : G418 q300 = some 131 := by rw [eGG418]; exact gU_mono hNH416 _ _ gq300
  replace gq304 : G418 q304 = some 132 := by rw [eGG418]; exact gU_mono hNH416 _ _ gq304
  replace gq308 : G418 q308 = some 133 := by rw [eGG418]; exact gU_mono hNH416 _ _ gq308
  replace gq312 : G418 q312 = some 134 := by rw [eGG418]; exact gU_mono hNH416 _ _ gq312
  replace gq316 : G418 q316 = some 135 := by rw [eGG418]; exact gU_mono hNH416 _ _ gq316
  replace gq320 : G418 q320 = some 136 := by rw [eGG418]; exact gU_mono hNH416 _ _ gq320
  replace gq324 : G418 q324 = some 137 := by rw [eGG418]; exact gU_mono hNH416 _ _ gq324
  replace gq328 : G418 q328 = some 138 := by rw [eGG418]; exact gU_mono hNH416 _ _ gq328
  replace gq333 : G418 q333 = some 139 := by rw [eGG418]; exact gU_mono hNH416 _ _ gq333
  replace gq337 : G418 q337 = some 140 := by rw [eGG418]; exact gU_mono hNH416 _ _ gq337
  replace gq341 : G418 q341 = some 141 := by rw [eGG418]; exact gU_mono hNH416 _ _ gq341
  replace gq345 : G418 q345 = some 142 := by rw [eGG418]; exact gU_mono hNH416 _ _ gq345
  replace gq349 : G418 q349 = some 143 := by rw [eGG418]; exact gU_mono hNH416 _ _ gq349
  replace gq353 : G418 q353 = some 144 := by rw [eGG418]; exact gU_mono hNH416 _ _ gq353
  replace gq357 : G418 q357 = some 145 := by rw [eGG418]; exact gU_mono hNH416 _ _ gq357
  replace gq361 : G418 q361 = some 146 := by rw [eGG418]; exact gU_mono hNH416 _ _ gq361
  replace gq365 : G418 q365 = some 147 := by rw [eGG418]; exact gU_mono hNH416 _ _ gq365
  replace gq369 : G418 q369 = some 148 := by rw [eGG418]; exact gU_mono hNH416 _ _ gq369
  replace gq373 : G418 q373 = some 149 := by rw [eGG418]; exact gU_mono hNH416 _ _ gq373
  replace gq377 : G418 q377 = some 150 := by rw [eGG418]; exact gU_mono hNH416 _ _ gq377
  replace gq381 : G418 q381 = some 151 := by rw [eGG418]; exact gU_mono hNH416 _ _ gq381
  replace gq385 : G418 q385 = some 152 := by rw [eGG418]; exact gU_mono hNH416 _ _ gq385
  replace gq389 : G418 q389 = some 153 := by rw [eGG418]; exact gU_mono hNH416 _ _ gq389
  replace gq393 : G418 q393 = some 154 := by rw [eGG418]; exact gU_mono hNH416 _ _ gq393
  replace gq397 : G418 q397 = some 155 := by rw [eGG418]; exact gU_mono hNH416 _ _ gq397
  replace gq401 : G418 q401 = some 156 := by rw [eGG418]; exact gU_mono hNH416 _ _ gq401
  replace gq405 : G418 q405 = some 157 := by rw [eGG418]; exact gU_mono hNH416 _ _ gq405
  replace gq409 : G418 q409 = some 158 := by rw [eGG418]; exact gU_mono hNH416 _ _ gq409
  replace gq413 : G418 q413 = some 159 := by rw [eGG418]; exact gU_mono hNH416 _ _ gq413
  replace hn : G418 a = none := by rw [eGG418, gU_ne nr_a_q417]; exact hn
  replace hGo : ∀ q, q < s.heap.size → q ≠ a → G418 q = G q := fun q hq hqa => (show G418 q = G414 q by rw [eGG418, gU_ne (Nat.ne_of_lt (Nat.lt_of_lt_of_le hq hSH415.1))]).trans (hGo q hq hqa)
  have gq417 : G418 H415.size = some 160 := by rw [eGG418]; exact gU_at
  obtain ⟨q417, eq417⟩ : ∃ q, q = H415.size := ⟨_, rfl⟩
  have leq417 : s.heap.size ≤ q417 := by rw [eq417]; exact hSH415.1
  rw [← eq417] at gq417 nr_a_q417
  rw [← eq417]
  clear eq417
  clear hNH416 eGG418 oH416 zH416 vH416 hTH415
  refine x_putR C hTH416 hSH416 (ci := 10) (k := 68) (v := .ref q417) (ty0 := tyX10) hR hn rfl inX10 tyX10_ok nmX10 (by decide) (Or.inr ⟨rfl, rfl, rfl⟩) wF_X10_158 (Nat.le_of_ble_eq_true rfl) rfl rfl (Or.inl rfl) dX10_init_1137 (fun H419 locsH419 hR2 hTH419 hSH419 oH419 zH419 => ?_)
  clear hR
  have hR : RAW K H419 a 10 [.int 0, .int 0, .int 0, .int 10, .ref q103, .ref q107, .ref q111, .ref q115, .ref q119, .ref q123, .ref q127, .ref q131, .ref q135, .ref q139, .ref q143, .ref q157, .ref q161, .ref q165, .int 0, .int 0, .int 0, .int 0, .int 0, .ref q169, .ref q288, .ref q292, .ref q296, .ref q300, .ref q304, .ref q308, .ref q312, .ref q316, .ref q320, .ref q324, .int 0, .int 0, .int 0, .ref q328, .int 0, .int 0, .int 0, .int 0, .int (-1), .ref q333, .ref q337, .ref q341, .ref q345, .ref q349, .ref q353, .ref q357, .ref q361, .ref q365, .ref q369, .ref q373, .ref q377, .ref q381, .int 0, .ref q385, .ref q389, .int 0, .ref q393, .ref q397, .int 0, .ref q401, .ref q405, .int 0, .ref q409, .ref q413, .ref q417, .null, .int 0, .int 0, .int 0, .null] := hR2
  clear hR2
  replace z9 := ZR.kept (oH419 _ (g_ne gq123 hn)) z9
  replace z10 := ZR.kept (oH419 _ (g_ne gq127 hn)) z10
  replace z13 := ZR.kept (oH419 _ (g_ne gq139 hn)) z13
  replace w23 := WDN.kept (oH419 _ (g_ne gq169 hn)) w23
  replace z24 := ZR.kept (oH419 _ (g_ne gq288 hn)) z24
  clear oH419 zH419 hTH416
  refine lv_aload_n hx hb dX10_init_1140 rfl (lv_at hl 0 rfl) ?_
  refine lv_bipush (v := 8) hx hb dX10_init_1141 (by decide) ?_
  refine x_newa C hTH419 hSH419 wAC_int rg_161 (by decide) rfl (by decide) ⟨by decide, by decide⟩ dX10_init_1143 (fun H420 hTH420 hSH420 oH420 zH420 vH420 => ?_)
  have hNH420 : G418 H419.size = none := hTH419.gb _ (Nat.le_refl _)
  obtain ⟨G422, eGG422⟩ : ∃ g, g = gU G418 H419.size 161 := ⟨_, rfl⟩
  rw [← eGG422] at hTH420
  have nr_a_q421 : a ≠ H419.size := Nat.ne_of_lt hR.lt
  replace hR := hR.kept (oH420 _ hR.lt)
  replace z9 := ZR.kept (oH420 _ (hTH419.lt gq123)) z9
  replace z10 := ZR.kept (oH420 _ (hTH419.lt gq127)) z10
  replace z13 := ZR.kept (oH420 _ (hTH419.lt gq139)) z13
  replace w23 := WDN.kept (oH420 _ (hTH419.lt gq169)) w23
  replace z24 := ZR.kept (oH420 _ (hTH419.lt gq288)) z24
  replace gq103 : G422 q103 = some 113 := by rw [eGG422]; exact gU_mono hNH420 _ _ gq103
  replace gq107 : G422 q107 = some 114 := by rw [eGG422]; exact gU_mono hNH420 _ _ gq107
  replace gq111 : G422 q111 = some 115 := by rw [eGG422]; exact gU_mono hNH420 _ _ gq111
  replace gq115 : G422 q115 = some 116 := by rw [eGG422]; exact gU_mono hNH420 _ _ gq115
  replace gq119 : G422 q119 = some 117 := by rw [eGG422]; exact gU_mono hNH420 _ _ gq119
  replace gq123 : G422 q123 = some 118 := by rw [eGG422]; exact gU_mono hNH420 _ _ gq123
  replace gq127 : G422 q127 = some 119 := by rw [eGG422]; exact gU_mono hNH420 _ _ gq127
  replace gq131 : G422 q131 = some 120 := by rw [eGG422]; exact gU_mono hNH420 _ _ gq131
  replace gq135 : G422 q135 = some 121 := by rw [eGG422]; exact gU_mono hNH420 _ _ gq135
  replace gq139 : G422 q139 = some 122 := by rw [eGG422]; exact gU_mono hNH420 _ _ gq139
  replace gq143 : G422 q143 = some 123 := by rw [eGG422]; exact gU_mono hNH420 _ _ gq143
  replace gq157 : G422 q157 = some 124 := by rw [eGG422]; exact gU_mono hNH420 _ _ gq157
  replace gq161 : G422 q161 = some 125 := by rw [eGG422]; exact gU_mono hNH420 _ _ gq161
  replace gq165 : G422 q165 = some 126 := by rw [eGG422]; exact gU_mono hNH420 _ _ gq165
  replace gq169 : G422 q169 = some 127 := by rw [eGG422]; exact gU_mono hNH420 _ _ gq169
  replace gq288 : G422 q288 = some 128 := by rw [eGG422]; exact gU_mono hNH420 _ _ gq288
  replace gq292 : G422 q292 = some 129 := by rw [eGG422]; exact gU_mono hNH420 _ _ gq292
  replace gq296 : G422 q296 = some 130 := by rw [eGG422]; exact gU_mono hNH420 _ _ gq296
  replace gq300 : G422 q300 = some 131 := by rw [eGG422]; exact gU_mono hNH420 _ _ gq300
  replace gq304 : G422 q304 = some 132 := by rw [eGG422]; exact gU_mono hNH420 _ _ gq304
  replace gq308 : G422 q308 = some 133 := by rw [eGG422]; exact gU_mono hNH420 _ _ gq308
  replace gq312 : G422 q312 = some 134 := by rw [eGG422]; exact gU_mono hNH420 _ _ gq312
  replace gq316 : G422 q316 = some 135 := by rw [eGG422]; exact gU_mono hNH420 _ _ gq316
  replace gq320 : G422 q320 = some 136 := by rw [eGG422]; exact gU_mono hNH420 _ _ gq320
  replace gq324 : G422 q324 = some 137 := by rw [eGG422]; exact gU_mono hNH420 _ _ gq324
  replace gq328 : G422 q328 = some 138 := by rw [eGG422]; exact gU_mono hNH420 _ _ gq328
  replace gq333 : G422 q333 = some 139 := by rw [eGG422]; exact gU_mono hNH420 _ _ gq333
  replace gq337 : G422 q337 = some 140 := by rw [eGG422]; exact gU_mono hNH420 _ _ gq337
  replace gq341 : G422 q341 = some 141 := by rw [eGG422]; exact gU_mono hNH420 _ _ gq341
  replace gq345 : G422 q345 = some 142 := by rw [eGG422]; exact gU_mono hNH420 _ _ gq345
  replace gq349 : G422 q349 = some 143 := by rw [eGG422]; exact gU_mono hNH420 _ _ gq349
  replace gq353 : G422 q353 = some 144 := by rw [eGG422]; exact gU_mono hNH420 _ _ gq353
  replace gq357 : G422 q357 = some 145 := by rw [eGG422]; exact gU_mono hNH420 _ _ gq357
  replace gq361 : G422 q361 = some 146 := by rw [eGG422]; exact gU_mono hNH420 _ _ gq361
  replace gq365 : G422 q365 = some 147 := by rw [eGG422]; exact gU_mono hNH420 _ _ gq365
  replace gq369 : G422 q369 = some 148 := by rw [eGG422]; exact gU_mono hNH420 _ _ gq369
  replace gq373 : G422 q373 = some 149 := by rw [eGG422]; exact gU_mono hNH420 _ _ gq373
  replace gq377 : G422 q377 = some 150 := by rw [eGG422]; exact gU_mono hNH420 _ _ gq377
  replace gq381 : G422 q381 = some 151 := by rw [eGG422]; exact gU_mono hNH420 _ _ gq381
  replace gq385 : G422 q385 = some 152 := by rw [eGG422]; exact gU_mono hNH420 _ _ gq385
  replace gq389 : G422 q389 = some 153 := by rw [eGG422]; exact gU_mono hNH420 _ _ gq389
  replace gq393 : G422 q393 = some 154 := by rw [eGG422]; exact gU_mono hNH420 _ _ gq393
  replace gq397 : G422 q397 = some 155 := by rw [eGG422]; exact gU_mono hNH420 _ _ gq397
  replace gq401 : G422 q401 = some 156 := by rw [eGG422]; exact gU_mono hNH420 _ _ gq401
  replace gq405 : G422 q405 = some 157 := by rw [eGG422]; exact gU_mono hNH420 _ _ gq405
  replace gq409 : G422 q409 = some 158 := by rw [eGG422]; exact gU_mono hNH420 _ _ gq409
  replace gq413 : G422 q413 = some 159 := by rw [eGG422]; exact gU_mono hNH420 _ _ gq413
  replace gq417 : G422 q417 = some 160 := by rw [eGG422]; exact gU_mono hNH420 _ _ gq417
  replace hn : G422 a = none := by rw [eGG422, gU_ne nr_a_q421]; exact hn
  replace hGo : ∀ q, q < s.heap.size → q ≠ a → G422 q = G q := fun q hq hqa => (show G422 q = G418 q by rw [eGG422, gU_ne (Nat.ne_of_lt (Nat.lt_of_lt_of_le hq hSH419.1))]).trans (hGo q hq hqa)
  have gq421 : G422 H419.size = some 161 := by rw [eGG422]; exact gU_at
  obtain ⟨q421, eq421⟩ : ∃ q, q = H419.size := ⟨_, rfl⟩
  have leq421 : s.heap.size ≤ q421 := by rw [eq421]; exact hSH419.1
  rw [← eq421] at gq421 nr_a_q421
  rw [← eq421]
  clear eq421
  clear hNH420 eGG422 oH420 zH420 vH420 hTH419
  refine x_putR C hTH420 hSH420 (ci := 10) (k := 69) (v := .ref q421) (ty0 := tyX10) hR hn rfl inX10 tyX10_ok nmX10 (by decide) (Or.inr ⟨rfl, rfl, rfl⟩) wF_X10_161 (Nat.le_of_ble_eq_true rfl) rfl rfl (Or.inl rfl) dX10_init_1145 (fun H423 locsH423 hR2 hTH423 hSH423 oH423 zH423 => ?_)
  clear hR
  have hR : RAW K H423 a 10 [.int 0, .int 0, .int 0, .int 10, .ref q103, .ref q107, .ref q111, .ref q115, .ref q119, .ref q123, .ref q127, .ref q131, .ref q135, .ref q139, .ref q143, .ref q157, .ref q161, .ref q165, .int 0, .int 0, .int 0, .int 0, .int 0, .ref q169, .ref q288, .ref q292, .ref q296, .ref q300, .ref q304, .ref q308, .ref q312, .ref q316, .ref q320, .ref q324, .int 0, .int 0, .int 0, .ref q328, .int 0, .int 0, .int 0, .int 0, .int (-1), .ref q333, .ref q337, .ref q341, .ref q345, .ref q349, .ref q353, .ref q357, .ref q361, .ref q365, .ref q369, .ref q373, .ref q377, .ref q381, .int 0, .ref q385, .ref q389, .int 0, .ref q393, .ref q397, .int 0, .ref q401, .ref q405, .int 0, .ref q409, .ref q413, .ref q417, .ref q421, .int 0, .int 0, .int 0, .null] := hR2
  clear hR2
  replace z9 := ZR.kept (oH423 _ (g_ne gq123 hn)) z9
  replace z10 := ZR.kept (oH423 _ (g_ne gq127 hn)) z10
  replace z13 := ZR.kept (oH423 _ (g_ne gq139 hn)) z13
  replace w23 := WDN.kept (oH423 _ (g_ne gq169 hn)) w23
  replace z24 := ZR.kept (oH423 _ (g_ne gq288 hn)) z24
  clear oH423 zH423 hTH420
  refine lv_aload_n hx hb dX10_init_1148 rfl (lv_at hl 0 rfl) ?_
  refine lv_sipush (v := 16400) hx hb dX10_init_1149 (by decide) ?_
  refine x_newa C hTH423 hSH423 wAC_int rg_162 (by decide) rfl (by decide) ⟨by decide, by decide⟩ dX10_init_1152 (fun H424 hTH424 hSH424 oH424 zH424 vH424 => ?_)
  have hNH424 : G422 H423.size = none := hTH423.gb _ (Nat.le_refl _)
  obtain ⟨G426, eGG426⟩ : ∃ g, g = gU G422 H423.size 162 := ⟨_, rfl⟩
  rw [← eGG426] at hTH424
  have nr_a_q425 : a ≠ H423.size := Nat.ne_of_lt hR.lt
  replace hR := hR.kept (oH424 _ hR.lt)
  replace z9 := ZR.kept (oH424 _ (hTH423.lt gq123)) z9
  replace z10 := ZR.kept (oH424 _ (hTH423.lt gq127)) z10
  replace z13 := ZR.kept (oH424 _ (hTH423.lt gq139)) z13
  replace w23 := WDN.kept (oH424 _ (hTH423.lt gq169)) w23
  replace z24 := ZR.kept (oH424 _ (hTH423.lt gq288)) z24
  replace gq103 : G426 q103 = some 113 := by rw [eGG426]; exact gU_mono hNH424 _ _ gq103
  replace gq107 : G426 q107 = some 114 := by rw [eGG426]; exact gU_mono hNH424 _ _ gq107
  replace gq111 : G426 q111 = some 115 := by rw [eGG426]; exact gU_mono hNH424 _ _ gq111
  replace gq115 : G426 q115 = some 116 := by rw [eGG426]; exact gU_mono hNH424 _ _ gq115
  replace gq119 : G426 q119 = some 117 := by rw [eGG426]; exact gU_mono hNH424 _ _ gq119
  replace gq123 : G426 q123 = some 118 := by rw [eGG426]; exact gU_mono hNH424 _ _ gq123
  replace gq127 : G426 q127 = some 119 := by rw [eGG426]; exact gU_mono hNH424 _ _ gq127
  replace gq131 : G426 q131 = some 120 := by rw [eGG426]; exact gU_mono hNH424 _ _ gq131
  replace gq135 : G426 q135 = some 121 := by rw [eGG426]; exact gU_mono hNH424 _ _ gq135
  replace gq139 : G426 q139 = some 122 := by rw [eGG426]; exact gU_mono hNH424 _ _ gq139
  replace gq143 : G426 q143 = some 123 := by rw [eGG426]; exact gU_mono hNH424 _ _ gq143
  replace gq157 : G426 q157 = some 124 := by rw [eGG426]; exact gU_mono hNH424 _ _ gq157
  replace gq161 : G426 q161 = some 125 := by rw [eGG426]; exact gU_mono hNH424 _ _ gq161
  replace gq165 : G426 q165 = some 126 := by rw [eGG426]; exact gU_mono hNH424 _ _ gq165
  replace gq169 : G426 q169 = some 127 := by rw [eGG426]; exact gU_mono hNH424 _ _ gq169
  replace gq288 : G426 q288 = some 128 := by rw [eGG426]; exact gU_mono hNH424 _ _ gq288
  replace gq292 : G426 q292 = some 129 := by rw [eGG426]; exact gU_mono hNH424 _ _ gq292
  replace gq296 : G426 q296 = some 130 := by rw [eGG426]; exact gU_mono hNH424 _ _ gq296
  replace gq300 : G426 q300 = some 131 := by rw [eGG426]; exact gU_mono hNH424 _ _ gq300
  replace gq304 : G426 q304 = some 132 := by rw [eGG426]; exact gU_mono hNH424 _ _ gq304
  replace gq308 : G426 q308 = some 133 := by rw [eGG426]; exact gU_mono hNH424 _ _ gq308
  replace gq312 : G426 q312 = some 134 := by rw [eGG426]; exact gU_mono hNH424 _ _ gq312
  replace gq316 : G426 q316 = some 135 := by rw [eGG426]; exact gU_mono hNH424 _ _ gq316
  replace gq320 : G426 q320 = some 136 := by rw [eGG426]; exact gU_mono hNH424 _ _ gq320
  replace gq324 : G426 q324 = some 137 := by rw [eGG426]; exact gU_mono hNH424 _ _ gq324
  replace gq328 : G426 q328 = some 138 := by rw [eGG426]; exact gU_mono hNH424 _ _ gq328
  replace gq333 : G426 q333 = some 139 := by rw [eGG426]; exact gU_mono hNH424 _ _ gq333
  replace gq337 : G426 q337 = some 140 := by rw [eGG426]; exact gU_mono hNH424 _ _ gq337
  replace gq341 : G426 q341 = some 141 := by rw [eGG426]; exact gU_mono hNH424 _ _ gq341
  replace gq345 : G426 q345 = some 142 := by rw [eGG426]; exact gU_mono hNH424 _ _ gq345
  replace gq349 : G426 q349 = some 143 := by rw [eGG426]; exact gU_mono hNH424 _ _ gq349
  replace gq353 : G426 q353 = some 144 := by rw [eGG426]; exact gU_mono hNH424 _ _ gq353
  replace gq357 : G426 q357 = some 145 := by rw [eGG426]; exact gU_mono hNH424 _ _ gq357
  replace gq361 : G426 q361 = some 146 := by rw [eGG426]; exact gU_mono hNH424 _ _ gq361
  replace gq365 : G426 q365 = some 147 := by rw [eGG426]; exact gU_mono hNH424 _ _ gq365
  replace gq369 : G426 q369 = some 148 := by rw [eGG426]; exact gU_mono hNH424 _ _ gq369
  replace gq373 : G426 q373 = some 149 := by rw [eGG426]; exact gU_mono hNH424 _ _ gq373
  replace gq377 : G426 q377 = some 150 := by rw [eGG426]; exact gU_mono hNH424 _ _ gq377
  replace gq381 : G426 q381 = some 151 := by rw [eGG426]; exact gU_mono hNH424 _ _ gq381
  replace gq385 : G426 q385 = some 152 := by rw [eGG426]; exact gU_mono hNH424 _ _ gq385
  replace gq389 : G426 q389 = some 153 := by rw [eGG426]; exact gU_mono hNH424 _ _ gq389
  replace gq393 : G426 q393 = some 154 := by rw [eGG426]; exact gU_mono hNH424 _ _ gq393
  replace gq397 : G426 q397 = some 155 := by rw [eGG426]; exact gU_mono hNH424 _ _ gq397
  replace gq401 : G426 q401 = some 156 := by rw [eGG426]; exact gU_mono hNH424 _ _ gq401
  replace gq405 : G426 q405 = some 157 := by rw [eGG426]; exact gU_mono hNH424 _ _ gq405
  replace gq409 : G426 q409 = some 158 := by rw [eGG426]; exact gU_mono hNH424 _ _ gq409
  replace gq413 : G426 q413 = some 159 := by rw [eGG426]; exact gU_mono hNH424 _ _ gq413
  replace gq417 : G426 q417 = some 160 := by rw [eGG426]; exact gU_mono hNH424 _ _ gq417
  replace gq421 : G426 q421 = some 161 := by rw [eGG426]; exact gU_mono hNH424 _ _ gq421
  replace hn : G426 a = none := by rw [eGG426, gU_ne nr_a_q425]; exact hn
  replace hGo : ∀ q, q < s.heap.size → q ≠ a → G426 q = G q := fun q hq hqa => (show G426 q = G422 q by rw [eGG426, gU_ne (Nat.ne_of_lt (Nat.lt_of_lt_of_le hq hSH423.1))]).trans (hGo q hq hqa)
  have gq425 : G426 H423.size = some 162 := by rw [eGG426]; exact gU_at
  obtain ⟨q425, eq425⟩ : ∃ q, q = H423.size := ⟨_, rfl⟩
  have leq425 : s.heap.size ≤ q425 := by rw [eq425]; exact hSH423.1
  rw [← eq425] at gq425 nr_a_q425 vH424
  rw [← eq425]
  clear eq425
  clear hNH424 eGG426 oH424 zH424 hTH423
  have z73 : ZR H424 q425 := vH424
  clear vH424
  refine x_putR C hTH424 hSH424 (ci := 10) (k := 73) (v := .ref q425) (ty0 := tyX10) hR hn rfl inX10 tyX10_ok nmX10 (by decide) (Or.inr ⟨rfl, rfl, rfl⟩) wF_X10_164 (Nat.le_of_ble_eq_true rfl) rfl rfl (Or.inl rfl) dX10_init_1154 (fun H427 locsH427 hR2 hTH427 hSH427 oH427 zH427 => ?_)
  clear hR
  have hR : RAW K H427 a 10 [.int 0, .int 0, .int 0, .int 10, .ref q103, .ref q107, .ref q111, .ref q115, .ref q119, .ref q123, .ref q127, .ref q131, .ref q135, .ref q139, .ref q143, .ref q157, .ref q161, .ref q165, .int 0, .int 0, .int 0, .int 0, .int 0, .ref q169, .ref q288, .ref q292, .ref q296, .ref q300, .ref q304, .ref q308, .ref q312, .ref q316, .ref q320, .ref q324, .int 0, .int 0, .int 0, .ref q328, .int 0, .int 0, .int 0, .int 0, .int (-1), .ref q333, .ref q337, .ref q341, .ref q345, .ref q349, .ref q353, .ref q357, .ref q361, .ref q365, .ref q369, .ref q373, .ref q377, .ref q381, .int 0, .ref q385, .ref q389, .int 0, .ref q393, .ref q397, .int 0, .ref q401, .ref q405, .int 0, .ref q409, .ref q413, .ref q417, .ref q421, .int 0, .int 0, .int 0, .ref q425] := hR2
  clear hR2
  replace z9 := ZR.kept (oH427 _ (g_ne gq123 hn)) z9
  replace z10 := ZR.kept (oH427 _ (g_ne gq127 hn)) z10
  replace z13 := ZR.kept (oH427 _ (g_ne gq139 hn)) z13
  replace w23 := WDN.kept (oH427 _ (g_ne gq169 hn)) w23
  replace z24 := ZR.kept (oH427 _ (g_ne gq288 hn)) z24
  replace z73 := ZR.kept (oH427 _ (g_ne gq425 hn)) z73
  clear oH427 zH427 hTH424
  have hTZ := x_born (t := 112) hTH427 hn hR rfl rg_112 rfl (fun k f h => match k, f, h with | 0, _, h => by cases h; exact ⟨_, rfl, 0, rfl, by decide, by decide⟩ | 1, _, h => by cases h; exact ⟨_, rfl, 0, rfl, by decide, by decide⟩ | 2, _, h => by cases h; exact ⟨_, rfl, 0, rfl, by decide, by decide⟩ | 3, _, h => by cases h; exact ⟨_, rfl, 10, rfl, by decide, by decide⟩ | 4, _, h => by cases h; exact ⟨_, rfl, q103, rfl, gU_mono hn _ _ gq103⟩ | 5, _, h => by cases h; exact ⟨_, rfl, q107, rfl, gU_mono hn _ _ gq107⟩ | 6, _, h => by cases h; exact ⟨_, rfl, q111, rfl, gU_mono hn _ _ gq111⟩ | 7, _, h => by cases h; exact ⟨_, rfl, q115, rfl, gU_mono hn _ _ gq115⟩ | 8, _, h => by cases h; exact ⟨_, rfl, q119, rfl, gU_mono hn _ _ gq119⟩ | 9, _, h => by cases h; exact ⟨_, rfl, q123, rfl, gU_mono hn _ _ gq123⟩ | 10, _, h => by cases h; exact ⟨_, rfl, q127, rfl, gU_mono hn _ _ gq127⟩ | 11, _, h => by cases h; exact ⟨_, rfl, q131, rfl, gU_mono hn _ _ gq131⟩ | 12, _, h => by cases h; exact ⟨_, rfl, q135, rfl, gU_mono hn _ _ gq135⟩ | 13, _, h => by cases h; exact ⟨_, rfl, q139, rfl, gU_mono hn _ _ gq139⟩ | 14, _, h => by cases h; exact ⟨_, rfl, q143, rfl, gU_mono hn _ _ gq143⟩ | 15, _, h => by cases h; exact ⟨_, rfl, q157, rfl, gU_mono hn _ _ gq157⟩ | 16, _, h => by cases h; exact ⟨_, rfl, q161, rfl, gU_mono hn _ _ gq161⟩ | 17, _, h => by cases h; exact ⟨_, rfl, q165, rfl, gU_mono hn _ _ gq165⟩ | 18, _, h => by cases h; exact ⟨_, rfl, 0, rfl, by decide, by decide⟩ | 19, _, h => by cases h; exact ⟨_, rfl, 0, rfl, by decide, by decide⟩ | 20, _, h => by cases h; exact ⟨_, rfl, 0, rfl, by decide, by decide⟩ | 21, _, h => by cases h; exact ⟨_, rfl, 0, rfl, by decide, by decide⟩ | 22, _, h => by cases h; exact ⟨_, rfl, 0, rfl, by decide, by decide⟩ | 23, _, h => by cases h; exact ⟨_, rfl, q169, rfl, gU_mono hn _ _ gq169⟩ | 24, _, h => by cases h; exact ⟨_, rfl, q288, rfl, gU_mono hn _ _ gq288⟩ | 25, _, h => by cases h; exact ⟨_, rfl, q292, rfl, gU_mono hn _ _ gq292⟩ | 26, _, h => by cases h; exact ⟨_, rfl, q296, rfl, gU_mono hn _ _ gq296⟩ | 27, _, h => by cases h; exact ⟨_, rfl, q300, rfl, gU_mono hn _ _ gq300⟩ | 28, _, h => by cases h; exact ⟨_, rfl, q304, rfl, gU_mono hn _ _ gq304⟩ | 29, _, h => by cases h; exact ⟨_, rfl, q308, rfl, gU_mono hn _ _ gq308⟩ | 30, _, h => by cases h; exact ⟨_, rfl, q312, rfl, gU_mono hn _ _ gq312⟩ | 31, _, h => by cases h; exact ⟨_, rfl, q316, rfl, gU_mono hn _ _ gq316⟩ | 32, _, h => by cases h; exact ⟨_, rfl, q320, rfl, gU_mono hn _ _ gq320⟩ | 33, _, h => by cases h; exact ⟨_, rfl, q324, rfl, gU_mono hn _ _ gq324⟩ | 34, _, h => by cases h; exact ⟨_, rfl, 0, rfl, by decide, by decide⟩ | 35, _, h => by cases h; exact ⟨_, rfl, 0, rfl, by decide, by decide⟩ | 36, _, h => by cases h; exact ⟨_, rfl, 0, rfl, by decide, by decide⟩ | 37, _, h => by cases h; exact ⟨_, rfl, q328, rfl, gU_mono hn _ _ gq328⟩ | 38, _, h => by cases h; exact ⟨_, rfl, 0, rfl, by decide, by decide⟩ | 39, _, h => by cases h; exact ⟨_, rfl, 0, rfl, by decide, by decide⟩ | 40, _, h => by cases h; exact ⟨_, rfl, 0, rfl, by decide, by decide⟩ | 41, _, h => by cases h; exact ⟨_, rfl, 0, rfl, by decide, by decide⟩ | 42, _, h => by cases h; exact ⟨_, rfl, (-1), rfl, by decide, by decide⟩ | 43, _, h => by cases h; exact ⟨_, rfl, q333, rfl, gU_mono hn _ _ gq333⟩ | 44, _, h => by cases h; exact ⟨_, rfl, q337, rfl, gU_mono hn _ _ gq337⟩ | 45, _, h => by cases h; exact ⟨_, rfl, q341, rfl, gU_mono hn _ _ gq341⟩ | 46, _, h => by cases h; exact ⟨_, rfl, q345, rfl, gU_mono hn _ _ gq345⟩ | 47, _, h => by cases h; exact ⟨_, rfl, q349, rfl, gU_mono hn _ _ gq349⟩ | 48, _, h => by cases h; exact ⟨_, rfl, q353, rfl, gU_mono hn _ _ gq353⟩ | 49, _, h => by cases h; exact ⟨_, rfl, q357, rfl, gU_mono hn _ _ gq357⟩ | 50, _, h => by cases h; exact ⟨_, rfl, q361, rfl, gU_mono hn _ _ gq361⟩ | 51, _, h => by cases h; exact ⟨_, rfl, q365, rfl, gU_mono hn _ _ gq365⟩ | 52, _, h => by cases h; exact ⟨_, rfl, q369, rfl, gU_mono hn _ _ gq369⟩ | 53, _, h => by cases h; exact ⟨_, rfl, q373, rfl, gU_mono hn _ _ gq373⟩ | 54, _, h => by cases h; exact ⟨_, rfl, q377, rfl, gU_mono hn _ _ gq377⟩ | 55, _, h => by cases h; exact ⟨_, rfl, q381, rfl, gU_mono hn _ _ gq381⟩ | 56, _, h => by cases h; exact ⟨_, rfl, 0, rfl, by decide, by decide⟩ | 57, _, h => by cases h; exact ⟨_, rfl, q385, rfl, gU_mono hn _ _ gq385⟩ | 58, _, h => by cases h; exact ⟨_, rfl, q389, rfl, gU_mono hn _ _ gq389⟩ | 59, _, h => by cases h; exact ⟨_, rfl, 0, rfl, by decide, by decide⟩ | 60, _, h => by cases h; exact ⟨_, rfl, q393, rfl, gU_mono hn _ _ gq393⟩ | 61, _, h => by cases h; exact ⟨_, rfl, q397, rfl, gU_mono hn _ _ gq397⟩ | 62, _, h => by cases h; exact ⟨_, rfl, 0, rfl, by decide, by decide⟩ | 63, _, h => by cases h; exact ⟨_, rfl, q401, rfl, gU_mono hn _ _ gq401⟩ | 64, _, h => by cases h; exact ⟨_, rfl, q405, rfl, gU_mono hn _ _ gq405⟩ | 65, _, h => by cases h; exact ⟨_, rfl, 0, rfl, by decide, by decide⟩ | 66, _, h => by cases h; exact ⟨_, rfl, q409, rfl, gU_mono hn _ _ gq409⟩ | 67, _, h => by cases h; exact ⟨_, rfl, q413, rfl, gU_mono hn _ _ gq413⟩ | 68, _, h => by cases h; exact ⟨_, rfl, q417, rfl, gU_mono hn _ _ gq417⟩ | 69, _, h => by cases h; exact ⟨_, rfl, q421, rfl, gU_mono hn _ _ gq421⟩ | 70, _, h => by cases h; exact ⟨_, rfl, 0, rfl, by decide, by decide⟩ | 71, _, h => by cases h; exact ⟨_, rfl, 0, rfl, by decide, by decide⟩ | 72, _, h => by cases h; exact ⟨_, rfl, 0, rfl, by decide, by decide⟩ | 73, _, h => by cases h; exact ⟨_, rfl, q425, rfl, gU_mono hn _ _ gq425⟩ | k + 74, _, h => by simp at h)
  exact x_vret C hQ dX10_init_1157 hSH427 (by decide) (by decide) (⟨rfl, gU G426 a 112, fun q hq hqa => by rw [gU_ne hqa]; exact hGo q hq hqa, gU_at, hTZ, ⟨kn_i (v := .int 0) (hR.fv rfl (by decide) rfl), kn_i (v := .int 0) (hR.fv rfl (by decide) rfl), kn_i (v := .int 0) (hR.fv rfl (by decide) rfl), kn_i (v := .int 0) (hR.fv rfl (by decide) rfl), kn_i (v := .int 0) (hR.fv rfl (by decide) rfl), kn_i (v := .int 0) (hR.fv rfl (by decide) rfl), kn_i (v := .int 0) (hR.fv rfl (by decide) rfl), kn_i (v := .int 0) (hR.fv rfl (by decide) rfl), kn_i (v := .int 0) (hR.fv rfl (by decide) rfl), kn_i (v := .int 0) (hR.fv rfl (by decide) rfl)⟩, cg_new (kn_r (hR.fv rfl (by decide) rfl)) z24, tu_new (kn_i (v := .int 0) (hR.fv rfl (by decide) rfl)), wd_new (kn_r (hR.fv rfl (by decide) rfl)) w23, im_new (kn_r (hR.fv rfl (by decide) rfl)) z73, prs_new (kn_r (hR.fv rfl (by decide) rfl)) z9 (kn_r (hR.fv rfl (by decide) rfl)) z10 (kn_r (hR.fv rfl (by decide) rfl)) z13, fun j => by rw [← kn_r (hR.fv rfl (by decide) rfl)]; exact z24 j⟩)
