theorem x_rf {K : KE} {G : Nat → Option Nat} {H : Heap} (h : TY K G H) {a t ci k u : Nat} {fs : List FT} {b : Int} (ha : G a = some t) (hs : rgT[t]? = some (.inl (ci, fs))) (hf : fs[k]? = some (2, (u : Int), b)) : ∃ q, G q = some u ∧ q = fR H a (K.1.2 ci k) := by
  obtain ⟨cell, h1, h2, h3, h4, h5⟩ := h.fref ha hs hf
  exact ⟨_, h5, rfl⟩

set_option maxHeartbeats 4000000 in
set_option maxRecDepth 100000 in
theorem f_X7_clear (l : Launch) (K : KE) (G : Nat → Option Nat) (H : Heap) {a : Nat} (hT : TY K G H) (ga : G a = some 69) : MX l K yX7_clear cX7_clear 1 none 0 0 0 0 [.ref a] H (AE G [69] H.size) (fun v H1 => v = none ∧ TY K G H1 ∧ fI H1 a (K.1.2 7 0) = 0 ∧ fI H1 a (K.1.2 7 9) = 0) := by
  refine MX.of (by decide +kernel) (Nat.le_of_ble_eq_true rfl) ?_
  intro p e s m below meth c ls Q C hH hl hQ
  subst hH
  have C : CX p K s m _ meth c RX7 cX7_clear 1 none "clear" := C
  obtain ⟨hx, hb, hml, hown, hts, hKT, hr, hlocks, hnm⟩ := id C
  have hl : lv_has ls 1 [(0, .ref a)] := hl
  have hS : va_S (AE G [69] s.heap.size) s.heap s.heap [] := va_S.rf
  have n_0 : (0 : Int32).toInt = 0 := rfl
  refine lv_aload_n hx hb dX7_clear_0 rfl (lv_at hl 0 rfl) ?_
  refine lv_iconst (v := 0) hx hb dX7_clear_1 (by decide) ?_
  refine x_put C hT hS (ci := 7) (k := 0) (v := .int 0) (ty0 := tyX7) rfl inX7 tyX7_ok nmX7 (by decide) rfl wF_X7_36 ga rg_69 rfl rfl (okI (by have := i_rng (0 : Int32); omega) (by have := i_rng (0 : Int32); omega)) rfl rfl (AE_in ga (by decide)) dX7_clear_2 (fun H101 locsH101 hTH101 hSH101 wH101 => ?_)
  have m102 := Wr.I wH101
  refine lv_aload_n hx hb dX7_clear_5 rfl (lv_at hl 0 rfl) ?_
  refine lv_iconst (v := 0) hx hb dX7_clear_6 (by decide) ?_
  refine x_put C hTH101 hSH101 (ci := 7) (k := 9) (v := .int 0) (ty0 := tyX7) rfl inX7 tyX7_ok nmX7 (by decide) rfl wF_X7_40 ga rg_69 rfl rfl (okI (by have := i_rng (0 : Int32); omega) (by have := i_rng (0 : Int32); omega)) rfl rfl (AE_in ga (by decide)) dX7_clear_7 (fun H103 locsH103 hTH103 hSH103 wH103 => ?_)
  have m104 := (Wr.neI wH103 (Or.inr (x_apart hKT hts inX7 tyX7 tyX7_ok nmX7 rfl 0 9 (by decide) (by decide) (by decide)))).trans m102
  have m105 := Wr.I wH103
  exact x_vret C hQ dX7_clear_10 hSH103 (by decide) (by decide) (⟨rfl, hTH103, m104, m105⟩)

set_option maxHeartbeats 4000000 in
set_option maxRecDepth 100000 in
theorem f_X4_addToken (l : Launch) (K : KE) (G : Nat → Option Nat) (H : Heap) {a r0 : Nat} (hT : TY K G H) (ga : G a = some 78) (gr : G r0 = some 69) (h1 : fI H a (K.1.2 4 6) = 0) (h2 : fI H a (K.1.2 4 1) = 0) (h3 : fI H a (K.1.2 4 7) = 0) (h4 : r0 = fR H a (K.1.2 4 0)) : MX l K yX4_addToken cX4_addToken 4 none 0 0 0 0 [.ref a, .int 26, .int 0, .int 0] H (AE G [78, 79, 80, 81] H.size) (fun v H1 => v = none ∧ TY K G H1 ∧ fI H1 a (K.1.2 4 1) = 0 ∧ fI H1 a (K.1.2 4 7) = 0 ∧ fI H1 (fR H1 a (K.1.2 4 3)) (0 : Int32).toNatClampNeg = 26 ∧ r0 = fR H1 a (K.1.2 4 0)) := by
  refine MX.of (by decide +kernel) (Nat.le_of_ble_eq_true rfl) ?_
  intro p e s m below meth c ls Q C hH hl hQ
  subst hH
  have C : CX p K s m _ meth c RX4 cX4_addToken 4 none "addToken" := C
  obtain ⟨hx, hb, hml, hown, hts, hKT, hr, hlocks, hnm⟩ := id C
  have hl : lv_has ls 4 [(0, .ref a), (1, .int 26), (2, .int 0), (3, .int 0)] := hl
  have hS : va_S (AE G [78, 79, 80, 81] s.heap.size) s.heap s.heap [] := va_S.rf
  have n_0 : (0 : Int32).toInt = 0 := rfl
  have n_1 : (1 : Int32).toInt = 1 := rfl
  have n_26 : (26 : Int32).toInt = 26 := rfl
  have n_500 : (500 : Int32).toInt = 500 := rfl
  refine lv_aload_n hx hb dX4_addToken_0 rfl (lv_at hl 0 rfl) ?_
  refine x_gi C hT (ci := 4) (k := 6) rfl inX4 (by decide) wF_X4_45 ga rg_78 rfl dX4_addToken_1 (fun x101 ex101 bx101 => ?_)
  have ux101 : x101 = 0 := ex101.trans h1
  subst ux101
  refine lv_sipush (v := 500) hx hb dX4_addToken_4 (by decide) ?_
  refine lv_icmp_gt (tgt := 50) hx hb dX4_addToken_7 (by decide) (fun c102 => ?_) (fun c102 => ?_)
  · have k103 := i_lt c102
    exfalso
    omega
  · have k103 := i_nlt c102
    refine lv_aload_n hx hb dX4_addToken_10 rfl (lv_at hl 0 rfl) ?_
    refine x_gr C hT (ci := 4) (k := 3) rfl inX4 (by decide) wF_X4_18 ga rg_78 rfl dX4_addToken_11 (fun q104 eq104 gq104 => ?_)
    refine lv_aload_n hx hb dX4_addToken_14 rfl (lv_at hl 0 rfl) ?_
    refine x_gi C hT (ci := 4) (k := 6) rfl inX4 (by decide) wF_X4_45 ga rg_78 rfl dX4_addToken_15 (fun x105 ex105 bx105 => ?_)
    have ux105 : x105 = 0 := ex105.trans h1
    subst ux105
    refine lv_iload_n hx hb dX4_addToken_18 rfl (lv_at hl 1 rfl) ?_
    refine x_iast C hT hS gq104 rg_79 (by decide) (by decide) (by decide) (AE_in gq104 (by decide)) dX4_addToken_19 (fun H106 locsH106 hTH106 hSH106 wH106 => ?_)
    have m107 := (Wr.neI wH106 (Or.inl (G_ne ga gq104 (by decide)))).trans h1
    have m108 := (Wr.neI wH106 (Or.inl (G_ne ga gq104 (by decide)))).trans h2
    have m109 := (Wr.neI wH106 (Or.inl (G_ne ga gq104 (by decide)))).trans h3
    have m110 := h4.trans (Wr.neR wH106 (Or.inl (G_ne ga gq104 (by decide)))).symm
    have m111 := eq104.trans (Wr.neR wH106 (Or.inl (G_ne ga gq104 (by decide)))).symm
    have m112 := Wr.I wH106
    refine lv_aload_n hx hb dX4_addToken_20 rfl (lv_at hl 0 rfl) ?_
    refine x_gr C hTH106 (ci := 4) (k := 4) rfl inX4 (by decide) wF_X4_22 ga rg_78 rfl dX4_addToken_21 (fun q113 eq113 gq113 => ?_)
    refine lv_aload_n hx hb dX4_addToken_24 rfl (lv_at hl 0 rfl) ?_
    refine x_gi C hTH106 (ci := 4) (k := 6) rfl inX4 (by decide) wF_X4_45 ga rg_78 rfl dX4_addToken_25 (fun x114 ex114 bx114 => ?_)
    have ux114 : x114 = 0 := ex114.trans m107
    subst ux114
    refine lv_iload_n hx hb dX4_addToken_28 rfl (lv_at hl 2 rfl) ?_
    refine x_iast C hTH106 hSH106 gq113 rg_80 (by decide) (by decide) (by decide) (AE_in gq113 (by decide)) dX4_addToken_29 (fun H115 locsH115 hTH115 hSH115 wH115 => ?_)
    have m116 := (Wr.neI wH115 (Or.inl (G_ne ga gq113 (by decide)))).trans m107
    have m117 := (Wr.neI wH115 (Or.inl (G_ne ga gq113 (by decide)))).trans m108
    have m118 := (Wr.neI wH115 (Or.inl (G_ne ga gq113 (by decide)))).trans m109
    have m119 := m110.trans (Wr.neR wH115 (Or.inl (G_ne ga gq113 (by decide)))).symm
    have m120 := m111.trans (Wr.neR wH115 (Or.inl (G_ne ga gq113 (by decide)))).symm
    have m121 := (Wr.neI wH115 (Or.inl (G_ne gq104 gq113 (by decide)))).trans m112
    have m122 := eq113.trans (Wr.neR wH115 (Or.inl (G_ne ga gq113 (by decide)))).symm
    have m123 := Wr.I wH115
    refine lv_aload_n hx hb dX4_addToken_30 rfl (lv_at hl 0 rfl) ?_
    refine x_gr C hTH115 (ci := 4) (k := 5) rfl inX4 (by decide) wF_X4_25 ga rg_78 rfl dX4_addToken_31 (fun q124 eq124 gq124 => ?_)
    refine lv_aload_n hx hb dX4_addToken_34 rfl (lv_at hl 0 rfl) ?_
    refine x_gi C hTH115 (ci := 4) (k := 6) rfl inX4 (by decide) wF_X4_45 ga rg_78 rfl dX4_addToken_35 (fun x125 ex125 bx125 => ?_)
    have ux125 : x125 = 0 := ex125.trans m116
    subst ux125
    refine lv_iload_n hx hb dX4_addToken_38 rfl (lv_at hl 3 rfl) ?_
    refine x_iast C hTH115 hSH115 gq124 rg_81 (by decide) (by decide) (by decide) (AE_in gq124 (by decide)) dX4_addToken_39 (fun H126 locsH126 hTH126 hSH126 wH126 => ?_)
    have m127 := (Wr.neI wH126 (Or.inl (G_ne ga gq124 (by decide)))).trans m116
    have m128 := (Wr.neI wH126 (Or.inl (G_ne ga gq124 (by decide)))).trans m117
    have m129 := (Wr.neI wH126 (Or.inl (G_ne ga gq124 (by decide)))).trans m118
    have m130 := m119.trans (Wr.neR wH126 (Or.inl (G_ne ga gq124 (by decide)))).symm
    have m131 := m120.trans (Wr.neR wH126 (Or.inl (G_ne ga gq124 (by decide)))).symm
    have m132 := (Wr.neI wH126 (Or.inl (G_ne gq104 gq124 (by decide)))).trans m121
    have m133 := m122.trans (Wr.neR wH126 (Or.inl (G_ne ga gq124 (by decide)))).symm
    have m134 := (Wr.neI wH126 (Or.inl (G_ne gq113 gq124 (by decide)))).trans m123
    have m135 := eq124.trans (Wr.neR wH126 (Or.inl (G_ne ga gq124 (by decide)))).symm
    have m136 := Wr.I wH126
    refine lv_aload_n hx hb dX4_addToken_40 rfl (lv_at hl 0 rfl) ?_
    refine lv_dup hx hb dX4_addToken_41 rfl ?_
    refine x_gi C hTH126 (ci := 4) (k := 6) rfl inX4 (by decide) wF_X4_45 ga rg_78 rfl dX4_addToken_42 (fun x137 ex137 bx137 => ?_)
    have ux137 : x137 = 0 := ex137.trans m127
    subst ux137
    refine lv_iconst (v := 1) hx hb dX4_addToken_45 (by decide) ?_
    refine lv_iadd hx hb dX4_addToken_46 ?_
    refine lv_topi (fun x138 ex138 => ?_)
    have tx138 : x138 = 1 := by rw [ex138]; rfl
    rw [tx138] at ex138 ⊢
    clear tx138 ex138
    refine x_put C hTH126 hSH126 (ci := 4) (k := 6) (v := .int 1) (ty0 := tyX4) rfl inX4 tyX4_ok nmX4 (by decide) rfl wF_X4_45 ga rg_78 rfl rfl (okI (by have := i_rng (1 : Int32); omega) (by have := i_rng (1 : Int32); omega)) rfl rfl (AE_in ga (by decide)) dX4_addToken_47 (fun H139 locsH139 hTH139 hSH139 wH139 => ?_)
    have m141 := (Wr.neI wH139 (Or.inr (x_apart hKT hts inX4 tyX4 tyX4_ok nmX4 rfl 1 6 (by decide) (by decide) (by decide)))).trans m128
    have m142 := (Wr.neI wH139 (Or.inr (x_apart hKT hts inX4 tyX4 tyX4_ok nmX4 rfl 7 6 (by decide) (by decide) (by decide)))).trans m129
    have m143 := m130.trans (Wr.neR wH139 (Or.inr (x_apart hKT hts inX4 tyX4 tyX4_ok nmX4 rfl 0 6 (by decide) (by decide) (by decide)))).symm
    have m144 := m131.trans (Wr.neR wH139 (Or.inr (x_apart hKT hts inX4 tyX4 tyX4_ok nmX4 rfl 3 6 (by decide) (by decide) (by decide)))).symm
    have m145 := (Wr.neI wH139 (Or.inl (G_ne gq104 ga (by decide)))).trans m132
    have m146 := m133.trans (Wr.neR wH139 (Or.inr (x_apart hKT hts inX4 tyX4 tyX4_ok nmX4 rfl 4 6 (by decide) (by decide) (by decide)))).symm
    have m147 := (Wr.neI wH139 (Or.inl (G_ne gq113 ga (by decide)))).trans m134
    have m148 := m135.trans (Wr.neR wH139 (Or.inr (x_apart hKT hts inX4 tyX4 tyX4_ok nmX4 rfl 5 6 (by decide) (by decide) (by decide)))).symm
    have m149 := (Wr.neI wH139 (Or.inl (G_ne gq124 ga (by decide)))).trans m136
    have m150 := Wr.I wH139
    exact x_vret C hQ dX4_addToken_50 hSH139 (by decide) (by decide) (⟨rfl, hTH139, m141, m142, by rw [← m144]; exact m145, m143⟩)

set_option maxHeartbeats 4000000 in
set_option maxRecDepth 100000 in
theorem f_X4_start_0 (l : Launch) (K : KE) (G : Nat → Option Nat) (H : Heap) {a b : Nat} (hT : TY K G H) (ga : G a = some 78) (gb : G b = some 108) : MX l K yX4_start cX4_start 7 none 1 23 0 0 [.ref a, .ref b, .int 0, .int 0] H (AE G [78, 79, 80, 81, 69] H.size) (fun v H1 => v = none ∧ TY K G H1 ∧ fI H1 a (K.1.2 4 1) = 0 ∧ fI H1 a (K.1.2 4 7) = 0 ∧ fI H1 (fR H1 a (K.1.2 4 3)) (0 : Int32).toNatClampNeg = 26 ∧ fI H1 (fR H1 a (K.1.2 4 0)) (K.1.2 7 0) = 0 ∧ fI H1 (fR H1 a (K.1.2 4 0)) (K.1.2 7 9) = 0) := by
  refine MX.of (by decide +kernel) (Nat.le_of_ble_eq_true rfl) ?_
  intro p e s m below meth c ls Q C hH hl hQ
  subst hH
  have C : CX p K s m _ meth c RX4 cX4_start 7 none "start" := C
  obtain ⟨hx, hb, hml, hown, hts, hKT, hr, hlocks, hnm⟩ := id C
  have hl : lv_has ls 7 [(0, .ref a), (1, .ref b), (2, .int 0), (3, .int 0)] := hl
  have hS : va_S (AE G [78, 79, 80, 81, 69] s.heap.size) s.heap s.heap [] := va_S.rf
  have n_m1 : ((-1) : Int32).toInt = -1 := rfl
  have n_0 : (0 : Int32).toInt = 0 := rfl
  have n_26 : (26 : Int32).toInt = 26 := rfl
  refine lv_aload_n hx hb dX4_start_0 rfl (lv_at hl 0 rfl) ?_
  refine lv_iload_n hx hb dX4_start_1 rfl (lv_at hl 3 rfl) ?_
  refine x_put C hT hS (ci := 4) (k := 8) (v := .int 0) (ty0 := tyX4) rfl inX4 tyX4_ok nmX4 (by decide) rfl wF_X4_28 ga rg_78 rfl rfl (okI (by have := i_rng (0 : Int32); omega) (by have := i_rng (0 : Int32); omega)) rfl rfl (AE_in ga (by decide)) dX4_start_2 (fun H101 locsH101 hTH101 hSH101 wH101 => ?_)
  have m102 := Wr.I wH101
  refine lv_aload_n hx hb dX4_start_5 rfl (lv_at hl 0 rfl) ?_
  refine lv_iconst (v := 0) hx hb dX4_start_6 (by decide) ?_
  refine x_put C hTH101 hSH101 (ci := 4) (k := 1) (v := .int 0) (ty0 := tyX4) rfl inX4 tyX4_ok nmX4 (by decide) rfl wF_X4_32 ga rg_78 rfl rfl (okI (by have := i_rng (0 : Int32); omega) (by have := i_rng (0 : Int32); omega)) rfl rfl (AE_in ga (by decide)) dX4_start_7 (fun H103 locsH103 hTH103 hSH103 wH103 => ?_)
  have m104 := (Wr.neI wH103 (Or.inr (x_apart hKT hts inX4 tyX4 tyX4_ok nmX4 rfl 8 1 (by decide) (by decide) (by decide)))).trans m102
  have m105 := Wr.I wH103
  refine lv_aload_n hx hb dX4_start_10 rfl (lv_at hl 0 rfl) ?_
  refine lv_iconst (v := (-1)) hx hb dX4_start_11 (by decide) ?_
  refine x_put C hTH103 hSH103 (ci := 4) (k := 2) (v := .int (-1)) (ty0 := tyX4) rfl inX4 tyX4_ok nmX4 (by decide) rfl wF_X4_36 ga rg_78 rfl rfl (okI (by have := i_rng ((-1) : Int32); omega) (by have := i_rng ((-1) : Int32); omega)) rfl rfl (AE_in ga (by decide)) dX4_start_12 (fun H106 locsH106 hTH106 hSH106 wH106 => ?_)
  have m107 := (Wr.neI wH106 (Or.inr (x_apart hKT hts inX4 tyX4 tyX4_ok nmX4 rfl 8 2 (by decide) (by decide) (by decide)))).trans m104
  have m108 := (Wr.neI wH106 (Or.inr (x_apart hKT hts inX4 tyX4 tyX4_ok nmX4 rfl 1 2 (by decide) (by decide) (by decide)))).trans m105
  have m109 := Wr.I wH106
  refine lv_aload_n hx hb dX4_start_15 rfl (lv_at hl 0 rfl) ?_
  refine x_gr C hTH106 (ci := 4) (k := 0) rfl inX4 (by decide) wF_X4_12 ga rg_78 rfl dX4_start_16 (fun q110 eq110 gq110 => ?_)
  refine x_V (As := []) (rest := []) C (f_X7_clear l K G H106 hTH106 gq110) yo_X7_clear wM_X4_39 ⟨⟨by decide, by decide⟩, by decide, by decide⟩ (x_rv C hTH106 (ci := 7) rfl gq110 rg_69) rfl hl.1 rfl (Nat.le_of_ble_eq_true rfl) dX4_start_19 hSH106 (AE_sub (fun _ _ => rfl) (by decide) hSH106.1) (fun vH111 H111 locsH111 pH111 zH111 kH111 hSH111 => ?_)
  have hTH111 := pH111.2.1
  have hvH111 := pH111.1
  subst hvH111
  obtain ⟨c1H111, c2H111⟩ := pH111.2.2
  have m112 := (fI_kept (x_lt hTH106 kH111 ga (by decide))).trans m107
  have m113 := (fI_kept (x_lt hTH106 kH111 ga (by decide))).trans m108
  have m114 := (fI_kept (x_lt hTH106 kH111 ga (by decide))).trans m109
  have m115 := (eq110).trans (fR_kept (x_lt hTH106 kH111 ga (by decide))).symm
  refine W.eq (g2 := F0 m 22 ls []) rfl ?_
  refine lv_aload_n hx hb dX4_start_22 rfl (lv_at hl 0 rfl) ?_
  refine lv_iconst (v := 0) hx hb dX4_start_23 (by decide) ?_
  refine x_put C hTH111 hSH111 (ci := 4) (k := 7) (v := .int 0) (ty0 := tyX4) rfl inX4 tyX4_ok nmX4 (by decide) rfl wF_X4_42 ga rg_78 rfl rfl (okI (by have := i_rng (0 : Int32); omega) (by have := i_rng (0 : Int32); omega)) rfl rfl (AE_in ga (by decide)) dX4_start_24 (fun H116 locsH116 hTH116 hSH116 wH116 => ?_)
  have m117 := (Wr.neI wH116 (Or.inr (x_apart hKT hts inX4 tyX4 tyX4_ok nmX4 rfl 8 7 (by decide) (by decide) (by decide)))).trans m112
  have m118 := (Wr.neI wH116 (Or.inr (x_apart hKT hts inX4 tyX4 tyX4_ok nmX4 rfl 1 7 (by decide) (by decide) (by decide)))).trans m113
  have m119 := (Wr.neI wH116 (Or.inr (x_apart hKT hts inX4 tyX4 tyX4_ok nmX4 rfl 2 7 (by decide) (by decide) (by decide)))).trans m114
  have m120 := m115.trans (Wr.neR wH116 (Or.inr (x_apart hKT hts inX4 tyX4 tyX4_ok nmX4 rfl 0 7 (by decide) (by decide) (by decide)))).symm
  have m121 := (Wr.neI wH116 (Or.inl (G_ne gq110 ga (by decide)))).trans c1H111
  have m122 := (Wr.neI wH116 (Or.inl (G_ne gq110 ga (by decide)))).trans c2H111
  have m123 := Wr.I wH116
  refine lv_aload_n hx hb dX4_start_27 rfl (lv_at hl 0 rfl) ?_
  refine lv_iconst (v := 0) hx hb dX4_start_28 (by decide) ?_
  refine x_put C hTH116 hSH116 (ci := 4) (k := 6) (v := .int 0) (ty0 := tyX4) rfl inX4 tyX4_ok nmX4 (by decide) rfl wF_X4_45 ga rg_78 rfl rfl (okI (by have := i_rng (0 : Int32); omega) (by have := i_rng (0 : Int32); omega)) rfl rfl (AE_in ga (by decide)) dX4_start_29 (fun H124 locsH124 hTH124 hSH124 wH124 => ?_)
  have m125 := (Wr.neI wH124 (Or.inr (x_apart hKT hts inX4 tyX4 tyX4_ok nmX4 rfl 8 6 (by decide) (by decide) (by decide)))).trans m117
  have m126 := (Wr.neI wH124 (Or.inr (x_apart hKT hts inX4 tyX4 tyX4_ok nmX4 rfl 1 6 (by decide) (by decide) (by decide)))).trans m118
  have m127 := (Wr.neI wH124 (Or.inr (x_apart hKT hts inX4 tyX4 tyX4_ok nmX4 rfl 2 6 (by decide) (by decide) (by decide)))).trans m119
  have m128 := m120.trans (Wr.neR wH124 (Or.inr (x_apart hKT hts inX4 tyX4 tyX4_ok nmX4 rfl 0 6 (by decide) (by decide) (by decide)))).symm
  have m129 := (Wr.neI wH124 (Or.inl (G_ne gq110 ga (by decide)))).trans m121
  have m130 := (Wr.neI wH124 (Or.inl (G_ne gq110 ga (by decide)))).trans m122
  have m131 := (Wr.neI wH124 (Or.inr (x_apart hKT hts inX4 tyX4 tyX4_ok nmX4 rfl 7 6 (by decide) (by decide) (by decide)))).trans m123
  have m132 := Wr.I wH124
  refine lv_iconst (v := 0) hx hb dX4_start_32 (by decide) ?_
  refine lv_istore (lv' := [(4, .int 0), (0, .ref a), (1, .ref b), (2, .int 0), (3, .int 0)]) hx hb dX4_start_33 hl (by decide) rfl (fun ls133 hl134 => ?_)
  refine lv_iload hx hb dX4_start_35 (lv_at hl134 0 rfl) ?_
  refine lv_iload_n hx hb dX4_start_37 rfl (lv_at hl134 3 rfl) ?_
  refine lv_icmp_ge (tgt := 204) hx hb dX4_start_38 (by decide) (fun c135 => ?_) (fun c135 => ?_)
  · have k136 := i_le c135
    refine lv_aload_n hx hb dX4_start_204 rfl (lv_at hl134 1 rfl) ?_
    refine lv_bipush (v := 26) hx hb dX4_start_205 (by decide) ?_
    refine lv_iconst (v := 0) hx hb dX4_start_207 (by decide) ?_
    refine lv_iload_n hx hb dX4_start_208 rfl (lv_at hl134 3 rfl) ?_
    refine x_V (As := [.int 26, .int 0, .int 0]) (rest := []) C (f_X4_addToken l K G H124 hTH124 ga gq110 m132 m126 m131 m128) yo_X4_addToken wM_X4_56 ⟨⟨by decide, by decide⟩, by decide, by decide⟩ (x_rv C hTH124 (ci := 4) rfl ga rg_78) rfl hl134.1 rfl (Nat.le_of_ble_eq_true rfl) dX4_start_209 hSH124 (AE_sub (fun _ _ => rfl) (by decide) hSH124.1) (fun vH137 H137 locsH137 pH137 zH137 kH137 hSH137 => ?_)
    have hTH137 := pH137.2.1
    have hvH137 := pH137.1
    subst hvH137
    obtain ⟨c1H137, c2H137, c3H137, c4H137⟩ := pH137.2.2
    have m138 := (fI_kept (x_lt hTH124 kH137 gq110 (by decide))).trans m129
    have m139 := (fI_kept (x_lt hTH124 kH137 gq110 (by decide))).trans m130
    refine W.eq (g2 := F0 m 212 ls133 []) rfl ?_
    exact x_vret C hQ dX4_start_212 hSH137 (by decide) (by decide) (⟨rfl, hTH137, c1H137, c2H137, c3H137, by rw [← c4H137]; exact m138, by rw [← c4H137]; exact m139⟩)
  · have k136 := i_nle c135
    exfalso
    omega

set_option maxHeartbeats 4000000 in
set_option maxRecDepth 100000 in
theorem f_X4_start_1 (l : Launch) (K : KE) (G : Nat → Option Nat) (H : Heap) {a b : Nat} (hT : TY K G H) (ga : G a = some 78) (gb : G b = some 108) : MX l K yX4_start cX4_start 7 none 1 23 0 0 [.ref a, .ref b, .int 0, .int 1] H (AE G [78, 79, 80, 81, 69] H.size) (fun v H1 => v = none ∧ TY K G H1 ∧ fI H1 a (K.1.2 4 1) = 0 ∧ fI H1 a (K.1.2 4 7) = 0 ∧ fI H1 (fR H1 a (K.1.2 4 3)) (0 : Int32).toNatClampNeg = 26 ∧ fI H1 (fR H1 a (K.1.2 4 0)) (K.1.2 7 0) = 0 ∧ fI H1 (fR H1 a (K.1.2 4 0)) (K.1.2 7 9) = 0) := by
  refine MX.of (by decide +kernel) (Nat.le_of_ble_eq_true rfl) ?_
  intro p e s m below meth c ls Q C hH hl hQ
  subst hH
  have C : CX p K s m _ meth c RX4 cX4_start 7 none "start" := C
  obtain ⟨hx, hb, hml, hown, hts, hKT, hr, hlocks, hnm⟩ := id C
  have hl : lv_has ls 7 [(0, .ref a), (1, .ref b), (2, .int 0), (3, .int 1)] := hl
  have hS : va_S (AE G [78, 79, 80, 81, 69] s.heap.size) s.heap s.heap [] := va_S.rf
  have n_m1 : ((-1) : Int32).toInt = -1 := rfl
  have n_0 : (0 : Int32).toInt = 0 := rfl
  have n_1 : (1 : Int32).toInt = 1 := rfl
  have n_26 : (26 : Int32).toInt = 26 := rfl
  refine lv_aload_n hx hb dX4_start_0 rfl (lv_at hl 0 rfl) ?_
  refine lv_iload_n hx hb dX4_start_1 rfl (lv_at hl 3 rfl) ?_
  refine x_put C hT hS (ci := 4) (k := 8) (v := .int 1) (ty0 := tyX4) rfl inX4 tyX4_ok nmX4 (by decide) rfl wF_X4_28 ga rg_78 rfl rfl (okI (by have := i_rng (1 : Int32); omega) (by have := i_rng (1 : Int32); omega)) rfl rfl (AE_in ga (by decide)) dX4_start_2 (fun H101 locsH101 hTH101 hSH101 wH101 => ?_)
  have m102 := Wr.I wH101
  refine lv_aload_n hx hb dX4_start_5 rfl (lv_at hl 0 rfl) ?_
  refine lv_iconst (v := 0) hx hb dX4_start_6 (by decide) ?_
  refine x_put C hTH101 hSH101 (ci := 4) (k := 1) (v := .int 0) (ty0 := tyX4) rfl inX4 tyX4_ok nmX4 (by decide) rfl wF_X4_32 ga rg_78 rfl rfl (okI (by have := i_rng (0 : Int32); omega) (by have := i_rng (0 : Int32); omega)) rfl rfl (AE_in ga (by decide)) dX4_start_7 (fun H103 locsH103 hTH103 hSH103 wH103 => ?_)
  have m104 := (Wr.neI wH103 (Or.inr (x_apart hKT hts inX4 tyX4 tyX4_ok nmX4 rfl 8 1 (by decide) (by decide) (by decide)))).trans m102
  have m105 := Wr.I wH103
  refine lv_aload_n hx hb dX4_start_10 rfl (lv_at hl 0 rfl) ?_
  refine lv_iconst (v := (-1)) hx hb dX4_start_11 (by decide) ?_
  refine x_put C hTH103 hSH103 (ci := 4) (k := 2) (v := .int (-1)) (ty0 := tyX4) rfl inX4 tyX4_ok nmX4 (by decide) rfl wF_X4_36 ga rg_78 rfl rfl (okI (by have := i_rng ((-1) : Int32); omega) (by have := i_rng ((-1) : Int32); omega)) rfl rfl (AE_in ga (by decide)) dX4_start_12 (fun H106 locsH106 hTH106 hSH106 wH106 => ?_)
  have m107 := (Wr.neI wH106 (Or.inr (x_apart hKT hts inX4 tyX4 tyX4_ok nmX4 rfl 8 2 (by decide) (by decide) (by decide)))).trans m104
  have m108 := (Wr.neI wH106 (Or.inr (x_apart hKT hts inX4 tyX4 tyX4_ok nmX4 rfl 1 2 (by decide) (by decide) (by decide)))).trans m105
  have m109 := Wr.I wH106
  refine lv_aload_n hx hb dX4_start_15 rfl (lv_at hl 0 rfl) ?_
  refine x_gr C hTH106 (ci := 4) (k := 0) rfl inX4 (by decide) wF_X4_12 ga rg_78 rfl dX4_start_16 (fun q110 eq110 gq110 => ?_)
  refine x_V (As := []) (rest := []) C (f_X7_clear l K G H106 hTH106 gq110) yo_X7_clear wM_X4_39 ⟨⟨by decide, by decide⟩, by decide, by decide⟩ (x_rv C hTH106 (ci := 7) rfl gq110 rg_69) rfl hl.1 rfl (Nat.le_of_ble_eq_true rfl) dX4_start_19 hSH106 (AE_sub (fun _ _ => rfl) (by decide) hSH106.1) (fun vH111 H111 locsH111 pH111 zH111 kH111 hSH111 => ?_)
  have hTH111 := pH111.2.1
  have hvH111 := pH111.1
  subst hvH111
  obtain ⟨c1H111, c2H111⟩ := pH111.2.2
  have m112 := (fI_kept (x_lt hTH106 kH111 ga (by decide))).trans m107
  have m113 := (fI_kept (x_lt hTH106 kH111 ga (by decide))).trans m108
  have m114 := (fI_kept (x_lt hTH106 kH111 ga (by decide))).trans m109
  have m115 := (eq110).trans (fR_kept (x_lt hTH106 kH111 ga (by decide))).symm
  refine W.eq (g2 := F0 m 22 ls []) rfl ?_
  refine lv_aload_n hx hb dX4_start_22 rfl (lv_at hl 0 rfl) ?_
  refine lv_iconst (v := 0) hx hb dX4_start_23 (by decide) ?_
  refine x_put C hTH111 hSH111 (ci := 4) (k := 7) (v := .int 0) (ty0 := tyX4) rfl inX4 tyX4_ok nmX4 (by decide) rfl wF_X4_42 ga rg_78 rfl rfl (okI (by have := i_rng (0 : Int32); omega) (by have := i_rng (0 : Int32); omega)) rfl rfl (AE_in ga (by decide)) dX4_start_24 (fun H116 locsH116 hTH116 hSH116 wH116 => ?_)
  have m117 := (Wr.neI wH116 (Or.inr (x_apart hKT hts inX4 tyX4 tyX4_ok nmX4 rfl 8 7 (by decide) (by decide) (by decide)))).trans m112
  have m118 := (Wr.neI wH116 (Or.inr (x_apart hKT hts inX4 tyX4 tyX4_ok nmX4 rfl 1 7 (by decide) (by decide) (by decide)))).trans m113
  have m119 := (Wr.neI wH116 (Or.inr (x_apart hKT hts inX4 tyX4 tyX4_ok nmX4 rfl 2 7 (by decide) (by decide) (by decide)))).trans m114
  have m120 := m115.trans (Wr.neR wH116 (Or.inr (x_apart hKT hts inX4 tyX4 tyX4_ok nmX4 rfl 0 7 (by decide) (by decide) (by decide)))).symm
  have m121 := (Wr.neI wH116 (Or.inl (G_ne gq110 ga (by decide)))).trans c1H111
  have m122 := (Wr.neI wH116 (Or.inl (G_ne gq110 ga (by decide)))).trans c2H111
  have m123 := Wr.I wH116
  refine lv_aload_n hx hb dX4_start_27 rfl (lv_at hl 0 rfl) ?_
  refine lv_iconst (v := 0) hx hb dX4_start_28 (by decide) ?_
  refine x_put C hTH116 hSH116 (ci := 4) (k := 6) (v := .int 0) (ty0 := tyX4) rfl inX4 tyX4_ok nmX4 (by decide) rfl wF_X4_45 ga rg_78 rfl rfl (okI (by have := i_rng (0 : Int32); omega) (by have := i_rng (0 : Int32); omega)) rfl rfl (AE_in ga (by decide)) dX4_start_29 (fun H124 locsH124 hTH124 hSH124 wH124 => ?_)
  have m125 := (Wr.neI wH124 (Or.inr (x_apart hKT hts inX4 tyX4 tyX4_ok nmX4 rfl 8 6 (by decide) (by decide) (by decide)))).trans m117
  have m126 := (Wr.neI wH124 (Or.inr (x_apart hKT hts inX4 tyX4 tyX4_ok nmX4 rfl 1 6 (by decide) (by decide) (by decide)))).trans m118
  have m127 := (Wr.neI wH124 (Or.inr (x_apart hKT hts inX4 tyX4 tyX4_ok nmX4 rfl 2 6 (by decide) (by decide) (by decide)))).trans m119
  have m128 := m120.trans (Wr.neR wH124 (Or.inr (x_apart hKT hts inX4 tyX4 tyX4_ok nmX4 rfl 0 6 (by decide) (by decide) (by decide)))).symm
  have m129 := (Wr.neI wH124 (Or.inl (G_ne gq110 ga (by decide)))).trans m121
  have m130 := (Wr.neI wH124 (Or.inl (G_ne gq110 ga (by decide)))).trans m122
  have m131 := (Wr.neI wH124 (Or.inr (x_apart hKT hts inX4 tyX4 tyX4_ok nmX4 rfl 7 6 (by decide) (by decide) (by decide)))).trans m123
  have m132 := Wr.I wH124
  refine lv_iconst (v := 0) hx hb dX4_start_32 (by decide) ?_
  refine lv_istore (lv' := [(4, .int 0), (0, .ref a), (1, .ref b), (2, .int 0), (3, .int 1)]) hx hb dX4_start_33 hl (by decide) rfl (fun ls133 hl134 => ?_)
  refine lv_iload hx hb dX4_start_35 (lv_at hl134 0 rfl) ?_
  refine lv_iload_n hx hb dX4_start_37 rfl (lv_at hl134 3 rfl) ?_
  refine lv_icmp_ge (tgt := 204) hx hb dX4_start_38 (by decide) (fun c135 => ?_) (fun c135 => ?_)
  · have k136 := i_le c135
    refine lv_aload_n hx hb dX4_start_204 rfl (lv_at hl134 1 rfl) ?_
    refine lv_bipush (v := 26) hx hb dX4_start_205 (by decide) ?_
    refine lv_iconst (v := 0) hx hb dX4_start_207 (by decide) ?_
    refine lv_iload_n hx hb dX4_start_208 rfl (lv_at hl134 3 rfl) ?_
    refine x_V (As := [.int 26, .int 0, .int 0]) (rest := []) C (f_X4_addToken l K G H124 hTH124 ga gq110 m132 m126 m131 m128) yo_X4_addToken wM_X4_56 ⟨⟨by decide, by decide⟩, by decide, by decide⟩ (x_rv C hTH124 (ci := 4) rfl ga rg_78) rfl hl134.1 rfl (Nat.le_of_ble_eq_true rfl) dX4_start_209 hSH124 (AE_sub (fun _ _ => rfl) (by decide) hSH124.1) (fun vH137 H137 locsH137 pH137 zH137 kH137 hSH137 => ?_)
    have hTH137 := pH137.2.1
    have hvH137 := pH137.1
    subst hvH137
    obtain ⟨c1H137, c2H137, c3H137, c4H137⟩ := pH137.2.2
    have m138 := (fI_kept (x_lt hTH124 kH137 gq110 (by decide))).trans m129
    have m139 := (fI_kept (x_lt hTH124 kH137 gq110 (by decide))).trans m130
    refine W.eq (g2 := F0 m 212 ls133 []) rfl ?_
    exact x_vret C hQ dX4_start_212 hSH137 (by decide) (by decide) (⟨rfl, hTH137, c1H137, c2H137, c3H137, by rw [← c4H137]; exact m138, by rw [← c4H137]; exact m139⟩)
  · have k136 := i_nle c135
    exfalso
    omega

set_option maxHeartbeats 4000000 in
set_option maxRecDepth 100000 in
theorem f_X4_goesOn (l : Launch) (K : KE) (G : Nat → Option Nat) (H : Heap) {a : Nat} (hT : TY K G H) (ga : G a = some 78) (h1 : fI H a (K.1.2 4 1) = 0) (h2 : fI H a (K.1.2 4 7) = 0) (h3 : fI H (fR H a (K.1.2 4 3)) (0 : Int32).toNatClampNeg = 26) : MX l K yX4_goesOn cX4_goesOn 1 (some .boolean) 0 0 0 0 [.ref a] H (AE G [] H.size) (fun v H1 => H1 = H ∧ v = some (.int 0)) := by
  refine MX.of (by decide +kernel) (Nat.le_of_ble_eq_true rfl) ?_
  intro p e s m below meth c ls Q C hH hl hQ
  subst hH
  have C : CX p K s m _ meth c RX4 cX4_goesOn 1 (some .boolean) "goesOn" := C
  obtain ⟨hx, hb, hml, hown, hts, hKT, hr, hlocks, hnm⟩ := id C
  have hl : lv_has ls 1 [(0, .ref a)] := hl
  have hS : va_S (AE G [] s.heap.size) s.heap s.heap [] := va_S.rf
  have n_0 : (0 : Int32).toInt = 0 := rfl
  have n_26 : (26 : Int32).toInt = 26 := rfl
  obtain ⟨q, gq, hq⟩ : ∃ q, G q = some 79 ∧ q = fR s.heap a (K.1.2 4 3) := x_rf hT (ci := 4) (k := 3) ga rg_78 rfl
  rw [← hq] at h3
  refine lv_aload_n hx hb dX4_goesOn_0 rfl (lv_at hl 0 rfl) ?_
  refine x_gi C hT (ci := 4) (k := 1) rfl inX4 (by decide) wF_X4_32 ga rg_78 rfl dX4_goesOn_1 (fun x101 ex101 bx101 => ?_)
  have ux101 : x101 = 0 := ex101.trans h1
  subst ux101
  refine lv_if_ne (tgt := 25) hx hb dX4_goesOn_4 (by decide) (fun c102 => ?_) (fun c102 => ?_)
  · have k103 := i_ne c102
    exfalso
    omega
  · have k103 := i_eq c102
    refine lv_aload_n hx hb dX4_goesOn_7 rfl (lv_at hl 0 rfl) ?_
    refine x_gr C hT (ci := 4) (k := 3) rfl inX4 (by decide) wF_X4_18 ga rg_78 rfl dX4_goesOn_8 (fun q104 eq104 gq104 => ?_)
    have uq104 : q = q104 := (hq).trans eq104.symm
    subst uq104
    refine lv_aload_n hx hb dX4_goesOn_11 rfl (lv_at hl 0 rfl) ?_
    refine x_gi C hT (ci := 4) (k := 7) rfl inX4 (by decide) wF_X4_42 ga rg_78 rfl dX4_goesOn_12 (fun x105 ex105 bx105 => ?_)
    have ux105 : x105 = 0 := ex105.trans h2
    subst ux105
    refine x_ai C hT gq rg_79 (by decide) dX4_goesOn_15 (fun x106 ex106 bx106 => ?_)
    have ux106 : x106 = 26 := ex106.trans h3
    subst ux106
    refine lv_bipush (v := 26) hx hb dX4_goesOn_16 (by decide) ?_
    refine lv_icmp_eq (tgt := 25) hx hb dX4_goesOn_18 (by decide) (fun c107 => ?_) (fun c107 => ?_)
    · have k108 := i_eq c107
      refine lv_iconst (v := 0) hx hb dX4_goesOn_25 (by decide) ?_
      exact x_zret C hQ (Or.inl rfl) dX4_goesOn_26 hS (by decide) (by decide) (⟨rfl, rfl⟩)
    · have k108 := i_ne c107
      exfalso
      omega

set_option maxHeartbeats 4000000 in
set_option maxRecDepth 100000 in
theorem f_X7_copyFrom_m (l : Launch) (K : KE) (G : Nat → Option Nat) (H : Heap) {a b : Nat} (hT : TY K G H) (ga : G a = some 16) (gb : G b = some 69) (h1 : fI H b (K.1.2 7 0) = 0) : MX l K yX7_copyFrom cX7_copyFrom 2 none 1 40 0 0 [.ref a, .ref b] H (AE G [16, 17, 18, 19, 20, 21, 22, 23, 24] H.size) (fun v H1 => v = none ∧ TY K G H1 ∧ fI H1 a (K.1.2 7 0) = 0) := by
  refine MX.of (by decide +kernel) (Nat.le_of_ble_eq_true rfl) ?_
  intro p e s m below meth c ls Q C hH hl hQ
  subst hH
  have C : CX p K s m _ meth c RX7 cX7_copyFrom 2 none "copyFrom" := C
  obtain ⟨hx, hb, hml, hown, hts, hKT, hr, hlocks, hnm⟩ := id C
  have hl : lv_has ls 2 [(0, .ref a), (1, .ref b)] := hl
  have hS : va_S (AE G [16, 17, 18, 19, 20, 21, 22, 23, 24] s.heap.size) s.heap s.heap [] := va_S.rf
  have n_0 : (0 : Int32).toInt = 0 := rfl
  have n_16 : (16 : Int32).toInt = 16 := rfl
  refine lv_aload_n hx hb dX7_copyFrom_0 rfl (lv_at hl 0 rfl) ?_
  refine lv_aload_n hx hb dX7_copyFrom_1 rfl (lv_at hl 1 rfl) ?_
  refine x_gi C hT (ci := 7) (k := 0) rfl inX7 (by decide) wF_X7_36 gb rg_69 rfl dX7_copyFrom_2 (fun x101 ex101 bx101 => ?_)
  have ux101 : x101 = 0 := ex101.trans h1
  subst ux101
  refine x_put C hT hS (ci := 7) (k := 0) (v := .int 0) (ty0 := tyX7) rfl inX7 tyX7_ok nmX7 (by decide) rfl wF_X7_36 ga rg_16 rfl rfl (okI (by have := i_rng (0 : Int32); omega) (by have := i_rng (0 : Int32); omega)) rfl rfl (AE_in ga (by decide)) dX7_copyFrom_5 (fun H102 locsH102 hTH102 hSH102 wH102 => ?_)
  have m103 := (Wr.neI wH102 (Or.inl (G_ne gb ga (by decide)))).trans h1
  have m104 := Wr.I wH102
  refine lv_aload_n hx hb dX7_copyFrom_8 rfl (lv_at hl 1 rfl) ?_
  refine x_gr C hTH102 (ci := 7) (k := 1) rfl inX7 (by decide) wF_X7_9 gb rg_69 rfl dX7_copyFrom_9 (fun q105 eq105 gq105 => ?_)
  refine lv_iconst (v := 0) hx hb dX7_copyFrom_12 (by decide) ?_
  refine lv_aload_n hx hb dX7_copyFrom_13 rfl (lv_at hl 0 rfl) ?_
  refine x_gr C hTH102 (ci := 7) (k := 1) rfl inX7 (by decide) wF_X7_9 ga rg_16 rfl dX7_copyFrom_14 (fun q106 eq106 gq106 => ?_)
  refine lv_iconst (v := 0) hx hb dX7_copyFrom_17 (by decide) ?_
  refine lv_bipush (v := 16) hx hb dX7_copyFrom_18 (by decide) ?_
  refine x_copy C hTH102 hSH102 wM_X7_44 wNT_arraycopy wST_arraycopy wIN_J10 gq105 gq106 rg_70 rg_17 (by decide) (by omega) (by omega) (by omega) (by show _ ≤ ((16 : Nat) : Int); omega) (by show _ ≤ ((16 : Nat) : Int); omega) (AE_in gq106 (by decide)) hl.1 (by decide) dX7_copyFrom_20 (fun H107 locsH107 hTH107 hSH107 zH107 oH107 vH107 wH107 => ?_)
  have m108 := (fI_kept (oH107 _ (G_ne gb gq106 (by decide)))).trans m103
  have m109 := (fI_kept (oH107 _ (G_ne ga gq106 (by decide)))).trans m104
  have m110 := (eq105).trans (fR_kept (oH107 _ (G_ne gb gq106 (by decide)))).symm
  have m111 := (eq106).trans (fR_kept (oH107 _ (G_ne ga gq106 (by decide)))).symm
  refine lv_aload_n hx hb dX7_copyFrom_23 rfl (lv_at hl 1 rfl) ?_
  refine x_gr C hTH107 (ci := 7) (k := 2) rfl inX7 (by decide) wF_X7_15 gb rg_69 rfl dX7_copyFrom_24 (fun q112 eq112 gq112 => ?_)
  refine lv_iconst (v := 0) hx hb dX7_copyFrom_27 (by decide) ?_
  refine lv_aload_n hx hb dX7_copyFrom_28 rfl (lv_at hl 0 rfl) ?_
  refine x_gr C hTH107 (ci := 7) (k := 2) rfl inX7 (by decide) wF_X7_15 ga rg_16 rfl dX7_copyFrom_29 (fun q113 eq113 gq113 => ?_)
  refine lv_iconst (v := 0) hx hb dX7_copyFrom_32 (by decide) ?_
  refine lv_bipush (v := 16) hx hb dX7_copyFrom_33 (by decide) ?_
  refine x_copy C hTH107 hSH107 wM_X7_44 wNT_arraycopy wST_arraycopy wIN_J10 gq112 gq113 rg_71 rg_18 (by decide) (by omega) (by omega) (by omega) (by show _ ≤ ((16 : Nat) : Int); omega) (by show _ ≤ ((16 : Nat) : Int); omega) (AE_in gq113 (by decide)) hl.1 (by decide) dX7_copyFrom_35 (fun H114 locsH114 hTH114 hSH114 zH114 oH114 vH114 wH114 => ?_)
  have m115 := (fI_kept (oH114 _ (G_ne gb gq113 (by decide)))).trans m108
  have m116 := (fI_kept (oH114 _ (G_ne ga gq113 (by decide)))).trans m109
  have m117 := (m110).trans (fR_kept (oH114 _ (G_ne gb gq113 (by decide)))).symm
  have m118 := (m111).trans (fR_kept (oH114 _ (G_ne ga gq113 (by decide)))).symm
  have m119 := (eq112).trans (fR_kept (oH114 _ (G_ne gb gq113 (by decide)))).symm
  have m120 := (eq113).trans (fR_kept (oH114 _ (G_ne ga gq113 (by decide)))).symm
  refine lv_aload_n hx hb dX7_copyFrom_38 rfl (lv_at hl 1 rfl) ?_
  refine x_gr C hTH114 (ci := 7) (k := 3) rfl inX7 (by decide) wF_X7_18 gb rg_69 rfl dX7_copyFrom_39 (fun q121 eq121 gq121 => ?_)
  refine lv_iconst (v := 0) hx hb dX7_copyFrom_42 (by decide) ?_
  refine lv_aload_n hx hb dX7_copyFrom_43 rfl (lv_at hl 0 rfl) ?_
  refine x_gr C hTH114 (ci := 7) (k := 3) rfl inX7 (by decide) wF_X7_18 ga rg_16 rfl dX7_copyFrom_44 (fun q122 eq122 gq122 => ?_)
  refine lv_iconst (v := 0) hx hb dX7_copyFrom_47 (by decide) ?_
  refine lv_bipush (v := 16) hx hb dX7_copyFrom_48 (by decide) ?_
  refine x_copy C hTH114 hSH114 wM_X7_44 wNT_arraycopy wST_arraycopy wIN_J10 gq121 gq122 rg_72 rg_19 (by decide) (by omega) (by omega) (by omega) (by show _ ≤ ((16 : Nat) : Int); omega) (by show _ ≤ ((16 : Nat) : Int); omega) (AE_in gq122 (by decide)) hl.1 (by decide) dX7_copyFrom_50 (fun H123 locsH123 hTH123 hSH123 zH123 oH123 vH123 wH123 => ?_)
  have m124 := (fI_kept (oH123 _ (G_ne gb gq122 (by decide)))).trans m115
  have m125 := (fI_kept (oH123 _ (G_ne ga gq122 (by decide)))).trans m116
  have m126 := (m117).trans (fR_kept (oH123 _ (G_ne gb gq122 (by decide)))).symm
  have m127 := (m118).trans (fR_kept (oH123 _ (G_ne ga gq122 (by decide)))).symm
  have m128 := (m119).trans (fR_kept (oH123 _ (G_ne gb gq122 (by decide)))).symm
  have m129 := (m120).trans (fR_kept (oH123 _ (G_ne ga gq122 (by decide)))).symm
  have m130 := (eq121).trans (fR_kept (oH123 _ (G_ne gb gq122 (by decide)))).symm
  have m131 := (eq122).trans (fR_kept (oH123 _ (G_ne ga gq122 (by decide)))).symm
  refine lv_aload_n hx hb dX7_copyFrom_53 rfl (lv_at hl 1 rfl) ?_
  refine x_gr C hTH123 (ci := 7) (k := 4) rfl inX7 (by decide) wF_X7_21 gb rg_69 rfl dX7_copyFrom_54 (fun q132 eq132 gq132 => ?_)
  refine lv_iconst (v := 0) hx hb dX7_copyFrom_57 (by decide) ?_
  refine lv_aload_n hx hb dX7_copyFrom_58 rfl (lv_at hl 0 rfl) ?_
  refine x_gr C hTH123 (ci := 7) (k := 4) rfl inX7 (by decide) wF_X7_21 ga rg_16 rfl dX7_copyFrom_59 (fun q133 eq133 gq133 => ?_)
  refine lv_iconst (v := 0) hx hb dX7_copyFrom_62 (by decide) ?_
  refine lv_bipush (v := 16) hx hb dX7_copyFrom_63 (by decide) ?_
  refine x_copy C hTH123 hSH123 wM_X7_44 wNT_arraycopy wST_arraycopy wIN_J10 gq132 gq133 rg_73 rg_20 (by decide) (by omega) (by omega) (by omega) (by show _ ≤ ((16 : Nat) : Int); omega) (by show _ ≤ ((16 : Nat) : Int); omega) (AE_in gq133 (by decide)) hl.1 (by decide) dX7_copyFrom_65 (fun H134 locsH134 hTH134 hSH134 zH134 oH134 vH134 wH134 => ?_)
  have m135 := (fI_kept (oH134 _ (G_ne gb gq133 (by decide)))).trans m124
  have m136 := (fI_kept (oH134 _ (G_ne ga gq133 (by decide)))).trans m125
  have m137 := (m126).trans (fR_kept (oH134 _ (G_ne gb gq133 (by decide)))).symm
  have m138 := (m127).trans (fR_kept (oH134 _ (G_ne ga gq133 (by decide)))).symm
  have m139 := (m128).trans (fR_kept (oH134 _ (G_ne gb gq133 (by decide)))).symm
  have m140 := (m129).trans (fR_kept (oH134 _ (G_ne ga gq133 (by decide)))).symm
  have m141 := (m130).trans (fR_kept (oH134 _ (G_ne gb gq133 (by decide)))).symm
  have m142 := (m131).trans (fR_kept (oH134 _ (G_ne ga gq133 (by decide)))).symm
  have m143 := (eq132).trans (fR_kept (oH134 _ (G_ne gb gq133 (by decide)))).symm
  have m144 := (eq133).trans (fR_kept (oH134 _ (G_ne ga gq133 (by decide)))).symm
  refine lv_aload_n hx hb dX7_copyFrom_68 rfl (lv_at hl 1 rfl) ?_
  refine x_gr C hTH134 (ci := 7) (k := 5) rfl inX7 (by decide) wF_X7_24 gb rg_69 rfl dX7_copyFrom_69 (fun q145 eq145 gq145 => ?_)
  refine lv_iconst (v := 0) hx hb dX7_copyFrom_72 (by decide) ?_
  refine lv_aload_n hx hb dX7_copyFrom_73 rfl (lv_at hl 0 rfl) ?_
  refine x_gr C hTH134 (ci := 7) (k := 5) rfl inX7 (by decide) wF_X7_24 ga rg_16 rfl dX7_copyFrom_74 (fun q146 eq146 gq146 => ?_)
  refine lv_iconst (v := 0) hx hb dX7_copyFrom_77 (by decide) ?_
  refine lv_bipush (v := 16) hx hb dX7_copyFrom_78 (by decide) ?_
  refine x_copy C hTH134 hSH134 wM_X7_44 wNT_arraycopy wST_arraycopy wIN_J10 gq145 gq146 rg_74 rg_21 (by decide) (by omega) (by omega) (by omega) (by show _ ≤ ((16 : Nat) : Int); omega) (by show _ ≤ ((16 : Nat) : Int); omega) (AE_in gq146 (by decide)) hl.1 (by decide) dX7_copyFrom_80 (fun H147 locsH147 hTH147 hSH147 zH147 oH147 vH147 wH147 => ?_)
  have m148 := (fI_kept (oH147 _ (G_ne gb gq146 (by decide)))).trans m135
  have m149 := (fI_kept (oH147 _ (G_ne ga gq146 (by decide)))).trans m136
  have m150 := (m137).trans (fR_kept (oH147 _ (G_ne gb gq146 (by decide)))).symm
  have m151 := (m138).trans (fR_kept (oH147 _ (G_ne ga gq146 (by decide)))).symm
  have m152 := (m139).trans (fR_kept (oH147 _ (G_ne gb gq146 (by decide)))).symm
  have m153 := (m140).trans (fR_kept (oH147 _ (G_ne ga gq146 (by decide)))).symm
  have m154 := (m141).trans (fR_kept (oH147 _ (G_ne gb gq146 (by decide)))).symm
  have m155 := (m142).trans (fR_kept (oH147 _ (G_ne ga gq146 (by decide)))).symm
  have m156 := (m143).trans (fR_kept (oH147 _ (G_ne gb gq146 (by decide)))).symm
  have m157 := (m144).trans (fR_kept (oH147 _ (G_ne ga gq146 (by decide)))).symm
  have m158 := (eq145).trans (fR_kept (oH147 _ (G_ne gb gq146 (by decide)))).symm
  have m159 := (eq146).trans (fR_kept (oH147 _ (G_ne ga gq146 (by decide)))).symm
  refine lv_aload_n hx hb dX7_copyFrom_83 rfl (lv_at hl 1 rfl) ?_
  refine x_gr C hTH147 (ci := 7) (k := 6) rfl inX7 (by decide) wF_X7_27 gb rg_69 rfl dX7_copyFrom_84 (fun q160 eq160 gq160 => ?_)
  refine lv_iconst (v := 0) hx hb dX7_copyFrom_87 (by decide) ?_
  refine lv_aload_n hx hb dX7_copyFrom_88 rfl (lv_at hl 0 rfl) ?_
  refine x_gr C hTH147 (ci := 7) (k := 6) rfl inX7 (by decide) wF_X7_27 ga rg_16 rfl dX7_copyFrom_89 (fun q161 eq161 gq161 => ?_)
  refine lv_iconst (v := 0) hx hb dX7_copyFrom_92 (by decide) ?_
  refine lv_bipush (v := 16) hx hb dX7_copyFrom_93 (by decide) ?_
  refine x_copy C hTH147 hSH147 wM_X7_44 wNT_arraycopy wST_arraycopy wIN_J10 gq160 gq161 rg_75 rg_22 (by decide) (by omega) (by omega) (by omega) (by show _ ≤ ((16 : Nat) : Int); omega) (by show _ ≤ ((16 : Nat) : Int); omega) (AE_in gq161 (by decide)) hl.1 (by decide) dX7_copyFrom_95 (fun H162 locsH162 hTH162 hSH162 zH162 oH162 vH162 wH162 => ?_)
  have m163 := (fI_kept (oH162 _ (G_ne gb gq161 (by decide)))).trans m148
  have m164 := (fI_kept (oH162 _ (G_ne ga gq161 (by decide)))).trans m149
  have m165 := (m150).trans (fR_kept (oH162 _ (G_ne gb gq161 (by decide)))).symm
  have m166 := (m151).trans (fR_kept (oH162 _ (G_ne ga gq161 (by decide)))).symm
  have m167 := (m152).trans (fR_kept (oH162 _ (G_ne gb gq161 (by decide)))).symm
  have m168 := (m153).trans (fR_kept (oH162 _ (G_ne ga gq161 (by decide)))).symm
  have m169 := (m154).trans (fR_kept (oH162 _ (G_ne gb gq161 (by decide)))).symm
  have m170 := (m155).trans (fR_kept (oH162 _ (G_ne ga gq161 (by decide)))).symm
  have m171 := (m156).trans (fR_kept (oH162 _ (G_ne gb gq161 (by decide)))).symm
  have m172 := (m157).trans (fR_kept (oH162 _ (G_ne ga gq161 (by decide)))).symm
  have m173 := (m158).trans (fR_kept (oH162 _ (G_ne gb gq161 (by decide)))).symm
  have m174 := (m159).trans (fR_kept (oH162 _ (G_ne ga gq161 (by decide)))).symm
  have m175 := (eq160).trans (fR_kept (oH162 _ (G_ne gb gq161 (by decide)))).symm
  have m176 := (eq161).trans (fR_kept (oH162 _ (G_ne ga gq161 (by decide)))).symm
  refine lv_aload_n hx hb dX7_copyFrom_98 rfl (lv_at hl 1 rfl) ?_
  refine x_gr C hTH162 (ci := 7) (k := 7) rfl inX7 (by decide) wF_X7_30 gb rg_69 rfl dX7_copyFrom_99 (fun q177 eq177 gq177 => ?_)
  refine lv_iconst (v := 0) hx hb dX7_copyFrom_102 (by decide) ?_
  refine lv_aload_n hx hb dX7_copyFrom_103 rfl (lv_at hl 0 rfl) ?_
  refine x_gr C hTH162 (ci := 7) (k := 7) rfl inX7 (by decide) wF_X7_30 ga rg_16 rfl dX7_copyFrom_104 (fun q178 eq178 gq178 => ?_)
  refine lv_iconst (v := 0) hx hb dX7_copyFrom_107 (by decide) ?_
  refine lv_bipush (v := 16) hx hb dX7_copyFrom_108 (by decide) ?_
  refine x_copy C hTH162 hSH162 wM_X7_44 wNT_arraycopy wST_arraycopy wIN_J10 gq177 gq178 rg_76 rg_23 (by decide) (by omega) (by omega) (by omega) (by show _ ≤ ((16 : Nat) : Int); omega) (by show _ ≤ ((16 : Nat) : Int); omega) (AE_in gq178 (by decide)) hl.1 (by decide) dX7_copyFrom_110 (fun H179 locsH179 hTH179 hSH179 zH179 oH179 vH179 wH179 => ?_)
  have m180 := (fI_kept (oH179 _ (G_ne gb gq178 (by decide)))).trans m163
  have m181 := (fI_kept (oH179 _ (G_ne ga gq178 (by decide)))).trans m164
  have m182 := (m165).trans (fR_kept (oH179 _ (G_ne gb gq178 (by decide)))).symm
  have m183 := (m166).trans (fR_kept (oH179 _ (G_ne ga gq178 (by decide)))).symm
  have m184 := (m167).trans (fR_kept (oH179 _ (G_ne gb gq178 (by decide)))).symm
  have m185 := (m168).trans (fR_kept (oH179 _ (G_ne ga gq178 (by decide)))).symm
  have m186 := (m169).trans (fR_kept (oH179 _ (G_ne gb gq178 (by decide)))).symm
  have m187 := (m170).trans (fR_kept (oH179 _ (G_ne ga gq178 (by decide)))).symm
  have m188 := (m171).trans (fR_kept (oH179 _ (G_ne gb gq178 (by decide)))).symm
  have m189 := (m172).trans (fR_kept (oH179 _ (G_ne ga gq178 (by decide)))).symm
  have m190 := (m173).trans (fR_kept (oH179 _ (G_ne gb gq178 (by decide)))).symm
  have m191 := (m174).trans (fR_kept (oH179 _ (G_ne ga gq178 (by decide)))).symm
  have m192 := (m175).trans (fR_kept (oH179 _ (G_ne gb gq178 (by decide)))).symm
  have m193 := (m176).trans (fR_kept (oH179 _ (G_ne ga gq178 (by decide)))).symm
  have m194 := (eq177).trans (fR_kept (oH179 _ (G_ne gb gq178 (by decide)))).symm
  have m195 := (eq178).trans (fR_kept (oH179 _ (G_ne ga gq178 (by decide)))).symm
  refine lv_aload_n hx hb dX7_copyFrom_113 rfl (lv_at hl 1 rfl) ?_
  refine x_gr C hTH179 (ci := 7) (k := 8) rfl inX7 (by decide) wF_X7_33 gb rg_69 rfl dX7_copyFrom_114 (fun q196 eq196 gq196 => ?_)
  refine lv_iconst (v := 0) hx hb dX7_copyFrom_117 (by decide) ?_
  refine lv_aload_n hx hb dX7_copyFrom_118 rfl (lv_at hl 0 rfl) ?_
  refine x_gr C hTH179 (ci := 7) (k := 8) rfl inX7 (by decide) wF_X7_33 ga rg_16 rfl dX7_copyFrom_119 (fun q197 eq197 gq197 => ?_)
  refine lv_iconst (v := 0) hx hb dX7_copyFrom_122 (by decide) ?_
  refine lv_aload_n hx hb dX7_copyFrom_123 rfl (lv_at hl 1 rfl) ?_
  refine x_gi C hTH179 (ci := 7) (k := 9) rfl inX7 (by decide) wF_X7_40 gb rg_69 rfl dX7_copyFrom_124 (fun x198 ex198 bx198 => ?_)
  refine x_copy C hTH179 hSH179 wM_X7_44 wNT_arraycopy wST_arraycopy wIN_J10 gq196 gq197 rg_77 rg_24 (by decide) (by omega) (by omega) (by omega) (by show _ ≤ ((500 : Nat) : Int); omega) (by show _ ≤ ((500 : Nat) : Int); omega) (AE_in gq197 (by decide)) hl.1 (by decide) dX7_copyFrom_127 (fun H199 locsH199 hTH199 hSH199 zH199 oH199 vH199 wH199 => ?_)
  have m200 := (fI_kept (oH199 _ (G_ne gb gq197 (by decide)))).trans m180
  have m201 := (fI_kept (oH199 _ (G_ne ga gq197 (by decide)))).trans m181
  have m202 := (m182).trans (fR_kept (oH199 _ (G_ne gb gq197 (by decide)))).symm
  have m203 := (m183).trans (fR_kept (oH199 _ (G_ne ga gq197 (by decide)))).symm
  have m204 := (m184).trans (fR_kept (oH199 _ (G_ne gb gq197 (by decide)))).symm
  have m205 := (m185).trans (fR_kept (oH199 _ (G_ne ga gq197 (by decide)))).symm
  have m206 := (m186).trans (fR_kept (oH199 _ (G_ne gb gq197 (by decide)))).symm
  have m207 := (m187).trans (fR_kept (oH199 _ (G_ne ga gq197 (by decide)))).symm
  have m208 := (m188).trans (fR_kept (oH199 _ (G_ne gb gq197 (by decide)))).symm
  have m209 := (m189).trans (fR_kept (oH199 _ (G_ne ga gq197 (by decide)))).symm
  have m210 := (m190).trans (fR_kept (oH199 _ (G_ne gb gq197 (by decide)))).symm
  have m211 := (m191).trans (fR_kept (oH199 _ (G_ne ga gq197 (by decide)))).symm
  have m212 := (m192).trans (fR_kept (oH199 _ (G_ne gb gq197 (by decide)))).symm
  have m213 := (m193).trans (fR_kept (oH199 _ (G_ne ga gq197 (by decide)))).symm
  have m214 := (m194).trans (fR_kept (oH199 _ (G_ne gb gq197 (by decide)))).symm
  have m215 := (m195).trans (fR_kept (oH199 _ (G_ne ga gq197 (by decide)))).symm
  have m216 := (eq196).trans (fR_kept (oH199 _ (G_ne gb gq197 (by decide)))).symm
  have m217 := (eq197).trans (fR_kept (oH199 _ (G_ne ga gq197 (by decide)))).symm
  have m218 := (ex198).trans (fI_kept (oH199 _ (G_ne gb gq197 (by decide)))).symm
  refine lv_aload_n hx hb dX7_copyFrom_130 rfl (lv_at hl 0 rfl) ?_
  refine lv_aload_n hx hb dX7_copyFrom_131 rfl (lv_at hl 1 rfl) ?_
  refine x_gi C hTH199 (ci := 7) (k := 9) rfl inX7 (by decide) wF_X7_40 gb rg_69 rfl dX7_copyFrom_132 (fun x219 ex219 bx219 => ?_)
  have ux219 : x198 = x219 := (m218).trans ex219.symm
  subst ux219
  refine x_put C hTH199 hSH199 (ci := 7) (k := 9) (v := .int x198) (ty0 := tyX7) rfl inX7 tyX7_ok nmX7 (by decide) rfl wF_X7_40 ga rg_16 rfl rfl (okI (by have := i_rng x198; omega) (by have := i_rng x198; omega)) rfl rfl (AE_in ga (by decide)) dX7_copyFrom_135 (fun H220 locsH220 hTH220 hSH220 wH220 => ?_)
  have m221 := (Wr.neI wH220 (Or.inl (G_ne gb ga (by decide)))).trans m200
  have m222 := (Wr.neI wH220 (Or.inr (x_apart hKT hts inX7 tyX7 tyX7_ok nmX7 rfl 0 9 (by decide) (by decide) (by decide)))).trans m201
  have m223 := m202.trans (Wr.neR wH220 (Or.inl (G_ne gb ga (by decide)))).symm
  have m224 := m203.trans (Wr.neR wH220 (Or.inr (x_apart hKT hts inX7 tyX7 tyX7_ok nmX7 rfl 1 9 (by decide) (by decide) (by decide)))).symm
  have m225 := m204.trans (Wr.neR wH220 (Or.inl (G_ne gb ga (by decide)))).symm
  have m226 := m205.trans (Wr.neR wH220 (Or.inr (x_apart hKT hts inX7 tyX7 tyX7_ok nmX7 rfl 2 9 (by decide) (by decide) (by decide)))).symm
  have m227 := m206.trans (Wr.neR wH220 (Or.inl (G_ne gb ga (by decide)))).symm
  have m228 := m207.trans (Wr.neR wH220 (Or.inr (x_apart hKT hts inX7 tyX7 tyX7_ok nmX7 rfl 3 9 (by decide) (by decide) (by decide)))).symm
  have m229 := m208.trans (Wr.neR wH220 (Or.inl (G_ne gb ga (by decide)))).symm
  have m230 := m209.trans (Wr.neR wH220 (Or.inr (x_apart hKT hts inX7 tyX7 tyX7_ok nmX7 rfl 4 9 (by decide) (by decide) (by decide)))).symm
  have m231 := m210.trans (Wr.neR wH220 (Or.inl (G_ne gb ga (by decide)))).symm
  have m232 := m211.trans (Wr.neR wH220 (Or.inr (x_apart hKT hts inX7 tyX7 tyX7_ok nmX7 rfl 5 9 (by decide) (by decide) (by decide)))).symm
  have m233 := m212.trans (Wr.neR wH220 (Or.inl (G_ne gb ga (by decide)))).symm
  have m234 := m213.trans (Wr.neR wH220 (Or.inr (x_apart hKT hts inX7 tyX7 tyX7_ok nmX7 rfl 6 9 (by decide) (by decide) (by decide)))).symm
  have m235 := m214.trans (Wr.neR wH220 (Or.inl (G_ne gb ga (by decide)))).symm
  have m236 := m215.trans (Wr.neR wH220 (Or.inr (x_apart hKT hts inX7 tyX7 tyX7_ok nmX7 rfl 7 9 (by decide) (by decide) (by decide)))).symm
  have m237 := m216.trans (Wr.neR wH220 (Or.inl (G_ne gb ga (by decide)))).symm
  have m238 := m217.trans (Wr.neR wH220 (Or.inr (x_apart hKT hts inX7 tyX7 tyX7_ok nmX7 rfl 8 9 (by decide) (by decide) (by decide)))).symm
  have m239 := m218.trans (Wr.neI wH220 (Or.inl (G_ne gb ga (by decide)))).symm
  have m240 := Wr.I wH220
  have m240 := m240.symm
  exact x_vret C hQ dX7_copyFrom_138 hSH220 (by decide) (by decide) (⟨rfl, hTH220, m222⟩)

set_option maxHeartbeats 4000000 in
set_option maxRecDepth 100000 in
theorem f_X7_copyFrom_k (l : Launch) (K : KE) (G : Nat → Option Nat) (H : Heap) {a b : Nat} (hT : TY K G H) (ga : G a = some 50) (gb : G b = some 16) : MX l K yX7_copyFrom cX7_copyFrom 2 none 1 40 0 0 [.ref a, .ref b] H (AE G [50, 51, 52, 53, 54, 55, 56, 57, 58] H.size) (fun v H1 => v = none ∧ TY K G H1) := by
  refine MX.of (by decide +kernel) (Nat.le_of_ble_eq_true rfl) ?_
  intro p e s m below meth c ls Q C hH hl hQ
  subst hH
  have C : CX p K s m _ meth c RX7 cX7_copyFrom 2 none "copyFrom" := C
  obtain ⟨hx, hb, hml, hown, hts, hKT, hr, hlocks, hnm⟩ := id C
  have hl : lv_has ls 2 [(0, .ref a), (1, .ref b)] := hl
  have hS : va_S (AE G [50, 51, 52, 53, 54, 55, 56, 57, 58] s.heap.size) s.heap s.heap [] := va_S.rf
  have n_0 : (0 : Int32).toInt = 0 := rfl
  have n_16 : (16 : Int32).toInt = 16 := rfl
  refine lv_aload_n hx hb dX7_copyFrom_0 rfl (lv_at hl 0 rfl) ?_
  refine lv_aload_n hx hb dX7_copyFrom_1 rfl (lv_at hl 1 rfl) ?_
  refine x_gi C hT (ci := 7) (k := 0) rfl inX7 (by decide) wF_X7_36 gb rg_16 rfl dX7_copyFrom_2 (fun x101 ex101 bx101 => ?_)
  refine x_put C hT hS (ci := 7) (k := 0) (v := .int x101) (ty0 := tyX7) rfl inX7 tyX7_ok nmX7 (by decide) rfl wF_X7_36 ga rg_50 rfl rfl (okI (by have := i_rng x101; omega) (by have := i_rng x101; omega)) rfl rfl (AE_in ga (by decide)) dX7_copyFrom_5 (fun H102 locsH102 hTH102 hSH102 wH102 => ?_)
  have m103 := ex101.trans (Wr.neI wH102 (Or.inl (G_ne gb ga (by decide)))).symm
  have m104 := Wr.I wH102
  have m104 := m104.symm
  refine lv_aload_n hx hb dX7_copyFrom_8 rfl (lv_at hl 1 rfl) ?_
  refine x_gr C hTH102 (ci := 7) (k := 1) rfl inX7 (by decide) wF_X7_9 gb rg_16 rfl dX7_copyFrom_9 (fun q105 eq105 gq105 => ?_)
  refine lv_iconst (v := 0) hx hb dX7_copyFrom_12 (by decide) ?_
  refine lv_aload_n hx hb dX7_copyFrom_13 rfl (lv_at hl 0 rfl) ?_
  refine x_gr C hTH102 (ci := 7) (k := 1) rfl inX7 (by decide) wF_X7_9 ga rg_50 rfl dX7_copyFrom_14 (fun q106 eq106 gq106 => ?_)
  refine lv_iconst (v := 0) hx hb dX7_copyFrom_17 (by decide) ?_
  refine lv_bipush (v := 16) hx hb dX7_copyFrom_18 (by decide) ?_
  refine x_copy C hTH102 hSH102 wM_X7_44 wNT_arraycopy wST_arraycopy wIN_J10 gq105 gq106 rg_17 rg_51 (by decide) (by omega) (by omega) (by omega) (by show _ ≤ ((16 : Nat) : Int); omega) (by show _ ≤ ((16 : Nat) : Int); omega) (AE_in gq106 (by decide)) hl.1 (by decide) dX7_copyFrom_20 (fun H107 locsH107 hTH107 hSH107 zH107 oH107 vH107 wH107 => ?_)
  have m108 := (m103).trans (fI_kept (oH107 _ (G_ne gb gq106 (by decide)))).symm
  have m109 := (m104).trans (fI_kept (oH107 _ (G_ne ga gq106 (by decide)))).symm
  have m110 := (eq105).trans (fR_kept (oH107 _ (G_ne gb gq106 (by decide)))).symm
  have m111 := (eq106).trans (fR_kept (oH107 _ (G_ne ga gq106 (by decide)))).symm
  refine lv_aload_n hx hb dX7_copyFrom_23 rfl (lv_at hl 1 rfl) ?_
  refine x_gr C hTH107 (ci := 7) (k := 2) rfl inX7 (by decide) wF_X7_15 gb rg_16 rfl dX7_copyFrom_24 (fun q112 eq112 gq112 => ?_)
  refine lv_iconst (v := 0) hx hb dX7_copyFrom_27 (by decide) ?_
  refine lv_aload_n hx hb dX7_copyFrom_28 rfl (lv_at hl 0 rfl) ?_
  refine x_gr C hTH107 (ci := 7) (k := 2) rfl inX7 (by decide) wF_X7_15 ga rg_50 rfl dX7_copyFrom_29 (fun q113 eq113 gq113 => ?_)
  refine lv_iconst (v := 0) hx hb dX7_copyFrom_32 (by decide) ?_
  refine lv_bipush (v := 16) hx hb dX7_copyFrom_33 (by decide) ?_
  refine x_copy C hTH107 hSH107 wM_X7_44 wNT_arraycopy wST_arraycopy wIN_J10 gq112 gq113 rg_18 rg_52 (by decide) (by omega) (by omega) (by omega) (by show _ ≤ ((16 : Nat) : Int); omega) (by show _ ≤ ((16 : Nat) : Int); omega) (AE_in gq113 (by decide)) hl.1 (by decide) dX7_copyFrom_35 (fun H114 locsH114 hTH114 hSH114 zH114 oH114 vH114 wH114 => ?_)
  have m115 := (m108).trans (fI_kept (oH114 _ (G_ne gb gq113 (by decide)))).symm
  have m116 := (m109).trans (fI_kept (oH114 _ (G_ne ga gq113 (by decide)))).symm
  have m117 := (m110).trans (fR_kept (oH114 _ (G_ne gb gq113 (by decide)))).symm
  have m118 := (m111).trans (fR_kept (oH114 _ (G_ne ga gq113 (by decide)))).symm
  have m119 := (eq112).trans (fR_kept (oH114 _ (G_ne gb gq113 (by decide)))).symm
  have m120 := (eq113).trans (fR_kept (oH114 _ (G_ne ga gq113 (by decide)))).symm
  refine lv_aload_n hx hb dX7_copyFrom_38 rfl (lv_at hl 1 rfl) ?_
  refine x_gr C hTH114 (ci := 7) (k := 3) rfl inX7 (by decide) wF_X7_18 gb rg_16 rfl dX7_copyFrom_39 (fun q121 eq121 gq121 => ?_)
  refine lv_iconst (v := 0) hx hb dX7_copyFrom_42 (by decide) ?_
  refine lv_aload_n hx hb dX7_copyFrom_43 rfl (lv_at hl 0 rfl) ?_
  refine x_gr C hTH114 (ci := 7) (k := 3) rfl inX7 (by decide) wF_X7_18 ga rg_50 rfl dX7_copyFrom_44 (fun q122 eq122 gq122 => ?_)
  refine lv_iconst (v := 0) hx hb dX7_copyFrom_47 (by decide) ?_
  refine lv_bipush (v := 16) hx hb dX7_copyFrom_48 (by decide) ?_
  refine x_copy C hTH114 hSH114 wM_X7_44 wNT_arraycopy wST_arraycopy wIN_J10 gq121 gq122 rg_19 rg_53 (by decide) (by omega) (by omega) (by omega) (by show _ ≤ ((16 : Nat) : Int); omega) (by show _ ≤ ((16 : Nat) : Int); omega) (AE_in gq122 (by decide)) hl.1 (by decide) dX7_copyFrom_50 (fun H123 locsH123 hTH123 hSH123 zH123 oH123 vH123 wH123 => ?_)
  have m124 := (m115).trans (fI_kept (oH123 _ (G_ne gb gq122 (by decide)))).symm
  have m125 := (m116).trans (fI_kept (oH123 _ (G_ne ga gq122 (by decide)))).symm
  have m126 := (m117).trans (fR_kept (oH123 _ (G_ne gb gq122 (by decide)))).symm
  have m127 := (m118).trans (fR_kept (oH123 _ (G_ne ga gq122 (by decide)))).symm
  have m128 := (m119).trans (fR_kept (oH123 _ (G_ne gb gq122 (by decide)))).symm
  have m129 := (m120).trans (fR_kept (oH123 _ (G_ne ga gq122 (by decide)))).symm
  have m130 := (eq121).trans (fR_kept (oH123 _ (G_ne gb gq122 (by decide)))).symm
  have m131 := (eq122).trans (fR_kept (oH123 _ (G_ne ga gq122 (by decide)))).symm
  refine lv_aload_n hx hb dX7_copyFrom_53 rfl (lv_at hl 1 rfl) ?_
  refine x_gr C hTH123 (ci := 7) (k := 4) rfl inX7 (by decide) wF_X7_21 gb rg_16 rfl dX7_copyFrom_54 (fun q132 eq132 gq132 => ?_)
  refine lv_iconst (v := 0) hx hb dX7_copyFrom_57 (by decide) ?_
  refine lv_aload_n hx hb dX7_copyFrom_58 rfl (lv_at hl 0 rfl) ?_
  refine x_gr C hTH123 (ci := 7) (k := 4) rfl inX7 (by decide) wF_X7_21 ga rg_50 rfl dX7_copyFrom_59 (fun q133 eq133 gq133 => ?_)
  refine lv_iconst (v := 0) hx hb dX7_copyFrom_62 (by decide) ?_
  refine lv_bipush (v := 16) hx hb dX7_copyFrom_63 (by decide) ?_
  refine x_copy C hTH123 hSH123 wM_X7_44 wNT_arraycopy wST_arraycopy wIN_J10 gq132 gq133 rg_20 rg_54 (by decide) (by omega) (by omega) (by omega) (by show _ ≤ ((16 : Nat) : Int); omega) (by show _ ≤ ((16 : Nat) : Int); omega) (AE_in gq133 (by decide)) hl.1 (by decide) dX7_copyFrom_65 (fun H134 locsH134 hTH134 hSH134 zH134 oH134 vH134 wH134 => ?_)
  have m135 := (m124).trans (fI_kept (oH134 _ (G_ne gb gq133 (by decide)))).symm
  have m136 := (m125).trans (fI_kept (oH134 _ (G_ne ga gq133 (by decide)))).symm
  have m137 := (m126).trans (fR_kept (oH134 _ (G_ne gb gq133 (by decide)))).symm
  have m138 := (m127).trans (fR_kept (oH134 _ (G_ne ga gq133 (by decide)))).symm
  have m139 := (m128).trans (fR_kept (oH134 _ (G_ne gb gq133 (by decide)))).symm
  have m140 := (m129).trans (fR_kept (oH134 _ (G_ne ga gq133 (by decide)))).symm
  have m141 := (m130).trans (fR_kept (oH134 _ (G_ne gb gq133 (by decide)))).symm
  have m142 := (m131).trans (fR_kept (oH134 _ (G_ne ga gq133 (by decide)))).symm
  have m143 := (eq132).trans (fR_kept (oH134 _ (G_ne gb gq133 (by decide)))).symm
  have m144 := (eq133).trans (fR_kept (oH134 _ (G_ne ga gq133 (by decide)))).symm
  refine lv_aload_n hx hb dX7_copyFrom_68 rfl (lv_at hl 1 rfl) ?_
  refine x_gr C hTH134 (ci := 7) (k := 5) rfl inX7 (by decide) wF_X7_24 gb rg_16 rfl dX7_copyFrom_69 (fun q145 eq145 gq145 => ?_)
  refine lv_iconst (v := 0) hx hb dX7_copyFrom_72 (by decide) ?_
  refine lv_aload_n hx hb dX7_copyFrom_73 rfl (lv_at hl 0 rfl) ?_
  refine x_gr C hTH134 (ci := 7) (k := 5) rfl inX7 (by decide) wF_X7_24 ga rg_50 rfl dX7_copyFrom_74 (fun q146 eq146 gq146 => ?_)
  refine lv_iconst (v := 0) hx hb dX7_copyFrom_77 (by decide) ?_
  refine lv_bipush (v := 16) hx hb dX7_copyFrom_78 (by decide) ?_
  refine x_copy C hTH134 hSH134 wM_X7_44 wNT_arraycopy wST_arraycopy wIN_J10 gq145 gq146 rg_21 rg_55 (by decide) (by omega) (by omega) (by omega) (by show _ ≤ ((16 : Nat) : Int); omega) (by show _ ≤ ((16 : Nat) : Int); omega) (AE_in gq146 (by decide)) hl.1 (by decide) dX7_copyFrom_80 (fun H147 locsH147 hTH147 hSH147 zH147 oH147 vH147 wH147 => ?_)
  have m148 := (m135).trans (fI_kept (oH147 _ (G_ne gb gq146 (by decide)))).symm
  have m149 := (m136).trans (fI_kept (oH147 _ (G_ne ga gq146 (by decide)))).symm
  have m150 := (m137).trans (fR_kept (oH147 _ (G_ne gb gq146 (by decide)))).symm
  have m151 := (m138).trans (fR_kept (oH147 _ (G_ne ga gq146 (by decide)))).symm
  have m152 := (m139).trans (fR_kept (oH147 _ (G_ne gb gq146 (by decide)))).symm
  have m153 := (m140).trans (fR_kept (oH147 _ (G_ne ga gq146 (by decide)))).symm
  have m154 := (m141).trans (fR_kept (oH147 _ (G_ne gb gq146 (by decide)))).symm
  have m155 := (m142).trans (fR_kept (oH147 _ (G_ne ga gq146 (by decide)))).symm
  have m156 := (m143).trans (fR_kept (oH147 _ (G_ne gb gq146 (by decide)))).symm
  have m157 := (m144).trans (fR_kept (oH147 _ (G_ne ga gq146 (by decide)))).symm
  have m158 := (eq145).trans (fR_kept (oH147 _ (G_ne gb gq146 (by decide)))).symm
  have m159 := (eq146).trans (fR_kept (oH147 _ (G_ne ga gq146 (by decide)))).symm
  refine lv_aload_n hx hb dX7_copyFrom_83 rfl (lv_at hl 1 rfl) ?_
  refine x_gr C hTH147 (ci := 7) (k := 6) rfl inX7 (by decide) wF_X7_27 gb rg_16 rfl dX7_copyFrom_84 (fun q160 eq160 gq160 => ?_)
  refine lv_iconst (v := 0) hx hb dX7_copyFrom_87 (by decide) ?_
  refine lv_aload_n hx hb dX7_copyFrom_88 rfl (lv_at hl 0 rfl) ?_
  refine x_gr C hTH147 (ci := 7) (k := 6) rfl inX7 (by decide) wF_X7_27 ga rg_50 rfl dX7_copyFrom_89 (fun q161 eq161 gq161 => ?_)
  refine lv_iconst (v := 0) hx hb dX7_copyFrom_92 (by decide) ?_
  refine lv_bipush (v := 16) hx hb dX7_copyFrom_93 (by decide) ?_
  refine x_copy C hTH147 hSH147 wM_X7_44 wNT_arraycopy wST_arraycopy wIN_J10 gq160 gq161 rg_22 rg_56 (by decide) (by omega) (by omega) (by omega) (by show _ ≤ ((16 : Nat) : Int); omega) (by show _ ≤ ((16 : Nat) : Int); omega) (AE_in gq161 (by decide)) hl.1 (by decide) dX7_copyFrom_95 (fun H162 locsH162 hTH162 hSH162 zH162 oH162 vH162 wH162 => ?_)
  have m163 := (m148).trans (fI_kept (oH162 _ (G_ne gb gq161 (by decide)))).symm
  have m164 := (m149).trans (fI_kept (oH162 _ (G_ne ga gq161 (by decide)))).symm
  have m165 := (m150).trans (fR_kept (oH162 _ (G_ne gb gq161 (by decide)))).symm
  have m166 := (m151).trans (fR_kept (oH162 _ (G_ne ga gq161 (by decide)))).symm
  have m167 := (m152).trans (fR_kept (oH162 _ (G_ne gb gq161 (by decide)))).symm
  have m168 := (m153).trans (fR_kept (oH162 _ (G_ne ga gq161 (by decide)))).symm
  have m169 := (m154).trans (fR_kept (oH162 _ (G_ne gb gq161 (by decide)))).symm
  have m170 := (m155).trans (fR_kept (oH162 _ (G_ne ga gq161 (by decide)))).symm
  have m171 := (m156).trans (fR_kept (oH162 _ (G_ne gb gq161 (by decide)))).symm
  have m172 := (m157).trans (fR_kept (oH162 _ (G_ne ga gq161 (by decide)))).symm
  have m173 := (m158).trans (fR_kept (oH162 _ (G_ne gb gq161 (by decide)))).symm
  have m174 := (m159).trans (fR_kept (oH162 _ (G_ne ga gq161 (by decide)))).symm
  have m175 := (eq160).trans (fR_kept (oH162 _ (G_ne gb gq161 (by decide)))).symm
  have m176 := (eq161).trans (fR_kept (oH162 _ (G_ne ga gq161 (by decide)))).symm
  refine lv_aload_n hx hb dX7_copyFrom_98 rfl (lv_at hl 1 rfl) ?_
  refine x_gr C hTH162 (ci := 7) (k := 7) rfl inX7 (by decide) wF_X7_30 gb rg_16 rfl dX7_copyFrom_99 (fun q177 eq177 gq177 => ?_)
  refine lv_iconst (v := 0) hx hb dX7_copyFrom_102 (by decide) ?_
  refine lv_aload_n hx hb dX7_copyFrom_103 rfl (lv_at hl 0 rfl) ?_
  refine x_gr C hTH162 (ci := 7) (k := 7) rfl inX7 (by decide) wF_X7_30 ga rg_50 rfl dX7_copyFrom_104 (fun q178 eq178 gq178 => ?_)
  refine lv_iconst (v := 0) hx hb dX7_copyFrom_107 (by decide) ?_
  refine lv_bipush (v := 16) hx hb dX7_copyFrom_108 (by decide) ?_
  refine x_copy C hTH162 hSH162 wM_X7_44 wNT_arraycopy wST_arraycopy wIN_J10 gq177 gq178 rg_23 rg_57 (by decide) (by omega) (by omega) (by omega) (by show _ ≤ ((16 : Nat) : Int); omega) (by show _ ≤ ((16 : Nat) : Int); omega) (AE_in gq178 (by decide)) hl.1 (by decide) dX7_copyFrom_110 (fun H179 locsH179 hTH179 hSH179 zH179 oH179 vH179 wH179 => ?_)
  have m180 := (m163).trans (fI_kept (oH179 _ (G_ne gb gq178 (by decide)))).symm
  have m181 := (m164).trans (fI_kept (oH179 _ (G_ne ga gq178 (by decide)))).symm
  have m182 := (m165).trans (fR_kept (oH179 _ (G_ne gb gq178 (by decide)))).symm
  have m183 := (m166).trans (fR_kept (oH179 _ (G_ne ga gq178 (by decide)))).symm
  have m184 := (m167).trans (fR_kept (oH179 _ (G_ne gb gq178 (by decide)))).symm
  have m185 := (m168).trans (fR_kept (oH179 _ (G_ne ga gq178 (by decide)))).symm
  have m186 := (m169).trans (fR_kept (oH179 _ (G_ne gb gq178 (by decide)))).symm
  have m187 := (m170).trans (fR_kept (oH179 _ (G_ne ga gq178 (by decide)))).symm
  have m188 := (m171).trans (fR_kept (oH179 _ (G_ne gb gq178 (by decide)))).symm
  have m189 := (m172).trans (fR_kept (oH179 _ (G_ne ga gq178 (by decide)))).symm
  have m190 := (m173).trans (fR_kept (oH179 _ (G_ne gb gq178 (by decide)))).symm
  have m191 := (m174).trans (fR_kept (oH179 _ (G_ne ga gq178 (by decide)))).symm
  have m192 := (m175).trans (fR_kept (oH179 _ (G_ne gb gq178 (by decide)))).symm
  have m193 := (m176).trans (fR_kept (oH179 _ (G_ne ga gq178 (by decide)))).symm
  have m194 := (eq177).trans (fR_kept (oH179 _ (G_ne gb gq178 (by decide)))).symm
  have m195 := (eq178).trans (fR_kept (oH179 _ (G_ne ga gq178 (by decide)))).symm
  refine lv_aload_n hx hb dX7_copyFrom_113 rfl (lv_at hl 1 rfl) ?_
  refine x_gr C hTH179 (ci := 7) (k := 8) rfl inX7 (by decide) wF_X7_33 gb rg_16 rfl dX7_copyFrom_114 (fun q196 eq196 gq196 => ?_)
  refine lv_iconst (v := 0) hx hb dX7_copyFrom_117 (by decide) ?_
  refine lv_aload_n hx hb dX7_copyFrom_118 rfl (lv_at hl 0 rfl) ?_
  refine x_gr C hTH179 (ci := 7) (k := 8) rfl inX7 (by decide) wF_X7_33 ga rg_50 rfl dX7_copyFrom_119 (fun q197 eq197 gq197 => ?_)
  refine lv_iconst (v := 0) hx hb dX7_copyFrom_122 (by decide) ?_
  refine lv_aload_n hx hb dX7_copyFrom_123 rfl (lv_at hl 1 rfl) ?_
  refine x_gi C hTH179 (ci := 7) (k := 9) rfl inX7 (by decide) wF_X7_40 gb rg_16 rfl dX7_copyFrom_124 (fun x198 ex198 bx198 => ?_)
  refine x_copy C hTH179 hSH179 wM_X7_44 wNT_arraycopy wST_arraycopy wIN_J10 gq196 gq197 rg_24 rg_58 (by decide) (by omega) (by omega) (by omega) (by show _ ≤ ((500 : Nat) : Int); omega) (by show _ ≤ ((500 : Nat) : Int); omega) (AE_in gq197 (by decide)) hl.1 (by decide) dX7_copyFrom_127 (fun H199 locsH199 hTH199 hSH199 zH199 oH199 vH199 wH199 => ?_)
  have m200 := (m180).trans (fI_kept (oH199 _ (G_ne gb gq197 (by decide)))).symm
  have m201 := (m181).trans (fI_kept (oH199 _ (G_ne ga gq197 (by decide)))).symm
  have m202 := (m182).trans (fR_kept (oH199 _ (G_ne gb gq197 (by decide)))).symm
  have m203 := (m183).trans (fR_kept (oH199 _ (G_ne ga gq197 (by decide)))).symm
  have m204 := (m184).trans (fR_kept (oH199 _ (G_ne gb gq197 (by decide)))).symm
  have m205 := (m185).trans (fR_kept (oH199 _ (G_ne ga gq197 (by decide)))).symm
  have m206 := (m186).trans (fR_kept (oH199 _ (G_ne gb gq197 (by decide)))).symm
  have m207 := (m187).trans (fR_kept (oH199 _ (G_ne ga gq197 (by decide)))).symm
  have m208 := (m188).trans (fR_kept (oH199 _ (G_ne gb gq197 (by decide)))).symm
  have m209 := (m189).trans (fR_kept (oH199 _ (G_ne ga gq197 (by decide)))).symm
  have m210 := (m190).trans (fR_kept (oH199 _ (G_ne gb gq197 (by decide)))).symm
  have m211 := (m191).trans (fR_kept (oH199 _ (G_ne ga gq197 (by decide)))).symm
  have m212 := (m192).trans (fR_kept (oH199 _ (G_ne gb gq197 (by decide)))).symm
  have m213 := (m193).trans (fR_kept (oH199 _ (G_ne ga gq197 (by decide)))).symm
  have m214 := (m194).trans (fR_kept (oH199 _ (G_ne gb gq197 (by decide)))).symm
  have m215 := (m195).trans (fR_kept (oH199 _ (G_ne ga gq197 (by decide)))).symm
  have m216 := (eq196).trans (fR_kept (oH199 _ (G_ne gb gq197 (by decide)))).symm
  have m217 := (eq197).trans (fR_kept (oH199 _ (G_ne ga gq197 (by decide)))).symm
  have m218 := (ex198).trans (fI_kept (oH199 _ (G_ne gb gq197 (by decide)))).symm
  refine lv_aload_n hx hb dX7_copyFrom_130 rfl (lv_at hl 0 rfl) ?_
  refine lv_aload_n hx hb dX7_copyFrom_131 rfl (lv_at hl 1 rfl) ?_
  refine x_gi C hTH199 (ci := 7) (k := 9) rfl inX7 (by decide) wF_X7_40 gb rg_16 rfl dX7_copyFrom_132 (fun x219 ex219 bx219 => ?_)
  have ux219 : x198 = x219 := (m218).trans ex219.symm
  subst ux219
  refine x_put C hTH199 hSH199 (ci := 7) (k := 9) (v := .int x198) (ty0 := tyX7) rfl inX7 tyX7_ok nmX7 (by decide) rfl wF_X7_40 ga rg_50 rfl rfl (okI (by have := i_rng x198; omega) (by have := i_rng x198; omega)) rfl rfl (AE_in ga (by decide)) dX7_copyFrom_135 (fun H220 locsH220 hTH220 hSH220 wH220 => ?_)
  have m221 := m200.trans (Wr.neI wH220 (Or.inl (G_ne gb ga (by decide)))).symm
  have m222 := m201.trans (Wr.neI wH220 (Or.inr (x_apart hKT hts inX7 tyX7 tyX7_ok nmX7 rfl 0 9 (by decide) (by decide) (by decide)))).symm
  have m223 := m202.trans (Wr.neR wH220 (Or.inl (G_ne gb ga (by decide)))).symm
  have m224 := m203.trans (Wr.neR wH220 (Or.inr (x_apart hKT hts inX7 tyX7 tyX7_ok nmX7 rfl 1 9 (by decide) (by decide) (by decide)))).symm
  have m225 := m204.trans (Wr.neR wH220 (Or.inl (G_ne gb ga (by decide)))).symm
  have m226 := m205.trans (Wr.neR wH220 (Or.inr (x_apart hKT hts inX7 tyX7 tyX7_ok nmX7 rfl 2 9 (by decide) (by decide) (by decide)))).symm
  have m227 := m206.trans (Wr.neR wH220 (Or.inl (G_ne gb ga (by decide)))).symm
  have m228 := m207.trans (Wr.neR wH220 (Or.inr (x_apart hKT hts inX7 tyX7 tyX7_ok nmX7 rfl 3 9 (by decide) (by decide) (by decide)))).symm
  have m229 := m208.trans (Wr.neR wH220 (Or.inl (G_ne gb ga (by decide)))).symm
  have m230 := m209.trans (Wr.neR wH220 (Or.inr (x_apart hKT hts inX7 tyX7 tyX7_ok nmX7 rfl 4 9 (by decide) (by decide) (by decide)))).symm
  have m231 := m210.trans (Wr.neR wH220 (Or.inl (G_ne gb ga (by decide)))).symm
  have m232 := m211.trans (Wr.neR wH220 (Or.inr (x_apart hKT hts inX7 tyX7 tyX7_ok nmX7 rfl 5 9 (by decide) (by decide) (by decide)))).symm
  have m233 := m212.trans (Wr.neR wH220 (Or.inl (G_ne gb ga (by decide)))).symm
  have m234 := m213.trans (Wr.neR wH220 (Or.inr (x_apart hKT hts inX7 tyX7 tyX7_ok nmX7 rfl 6 9 (by decide) (by decide) (by decide)))).symm
  have m235 := m214.trans (Wr.neR wH220 (Or.inl (G_ne gb ga (by decide)))).symm
  have m236 := m215.trans (Wr.neR wH220 (Or.inr (x_apart hKT hts inX7 tyX7 tyX7_ok nmX7 rfl 7 9 (by decide) (by decide) (by decide)))).symm
  have m237 := m216.trans (Wr.neR wH220 (Or.inl (G_ne gb ga (by decide)))).symm
  have m238 := m217.trans (Wr.neR wH220 (Or.inr (x_apart hKT hts inX7 tyX7 tyX7_ok nmX7 rfl 8 9 (by decide) (by decide) (by decide)))).symm
  have m239 := m218.trans (Wr.neI wH220 (Or.inl (G_ne gb ga (by decide)))).symm
  have m240 := Wr.I wH220
  have m240 := m240.symm
  exact x_vret C hQ dX7_copyFrom_138 hSH220 (by decide) (by decide) (⟨rfl, hTH220⟩)

set_option maxHeartbeats 4000000 in
set_option maxRecDepth 100000 in
theorem f_X9_textAt (l : Launch) (K : KE) (G : Nat → Option Nat) (H : Heap) {a : Nat} (x0 x1 : Int32) (hT : TY K G H) (ga : G a = some 68) : MX l K yX9_textAt cX9_textAt 3 (some (.object "RingBars$Text")) 1 22 0 0 [.ref a, .int x0, .int x1] H (AE G [] H.size) (fun v H1 => H1 = H ∧ ((v = some .null ∧ ¬ ((x0.toInt = 0 ∧ 0 ≤ x1.toInt ∧ x1.toInt ≤ 1) ∨ (x0.toInt = 1 ∧ 0 ≤ x1.toInt ∧ x1.toInt ≤ 3))) ∨ (((x0.toInt = 0 ∧ 0 ≤ x1.toInt ∧ x1.toInt ≤ 1) ∨ (x0.toInt = 1 ∧ 0 ≤ x1.toInt ∧ x1.toInt ≤ 3)) ∧ ∃ q, v = some (.ref q) ∧ G q = some 16))) := by
  refine MX.of (by decide +kernel) (Nat.le_of_ble_eq_true rfl) ?_
  intro p e s m below meth c ls Q C hH hl hQ
  subst hH
  have C : CX p K s m _ meth c RX9 cX9_textAt 3 (some (.object "RingBars$Text")) "textAt" := C
  obtain ⟨hx, hb, hml, hown, hts, hKT, hr, hlocks, hnm⟩ := id C
  have hl : lv_has ls 3 [(0, .ref a), (1, .int x0), (2, .int x1)] := hl
  have hS : va_S (AE G [] s.heap.size) s.heap s.heap [] := va_S.rf
  have n_0 : (0 : Int32).toInt = 0 := rfl
  have n_1 : (1 : Int32).toInt = 1 := rfl
  have n_3 : (3 : Int32).toInt = 3 := rfl
  refine lv_iload_n hx hb dX9_textAt_0 rfl (lv_at hl 1 rfl) ?_
  refine lv_if_ne (tgt := 23) hx hb dX9_textAt_1 (by decide) (fun c101 => ?_) (fun c101 => ?_)
  · have k102 := i_ne c101
    refine lv_iload_n hx hb dX9_textAt_23 rfl (lv_at hl 1 rfl) ?_
    refine lv_iconst (v := 1) hx hb dX9_textAt_24 (by decide) ?_
    refine lv_icmp_ne (tgt := 49) hx hb dX9_textAt_25 (by decide) (fun c103 => ?_) (fun c103 => ?_)
    · have k104 := i_ne c103
      refine lv_null hx hb dX9_textAt_49 ?_
      exact x_aret C hQ (Or.inl rfl) dX9_textAt_50 hS (by decide) (by decide) (⟨rfl, Or.inl ⟨rfl, by omega⟩⟩)
    · have k104 := i_eq c103
      refine lv_iload_n hx hb dX9_textAt_28 rfl (lv_at hl 2 rfl) ?_
      refine lv_iconst (v := 0) hx hb dX9_textAt_29 (by decide) ?_
      refine lv_iconst (v := 3) hx hb dX9_textAt_30 (by decide) ?_
      refine x_S (As := [.int x1, .int 0, .int 3]) (rest := []) C (c_X9_within l K G s.heap (x1) (0) (3) hT) yo_X9_within wM_X9_89 ⟨⟨by decide, by decide⟩, by decide, by decide⟩ rfl hl.1 rfl (Nat.le_of_ble_eq_true rfl) dX9_textAt_31 hS (AE_sub (fun _ _ => rfl) (by decide) hS.1) (fun vH105 H105 locsH105 pH105 zH105 kH105 hSH105 => ?_)
      have hqH105 := pH105.1.symm
      subst hqH105
      rcases pH105.2 with ⟨hvH105, hcH105⟩ | ⟨hvH105, hcH105⟩
      · subst hvH105
        refine W.eq (g2 := F0 m 34 ls [.int 1]) rfl ?_
        refine lv_if_eq (tgt := 49) hx hb dX9_textAt_34 (by decide) (fun c106 => ?_) (fun c106 => ?_)
        · have k107 := i_eq c106
          exfalso
          omega
        · have k107 := i_ne c106
          refine lv_aload_n hx hb dX9_textAt_37 rfl (lv_at hl 0 rfl) ?_
          refine x_gr C hT (ci := 9) (k := 0) rfl inX9 (by decide) wF_X9_12 ga rg_68 rfl dX9_textAt_38 (fun q108 eq108 gq108 => ?_)
          refine x_gr C hT (ci := 8) (k := 3) rfl inX8 (by decide) wF_X9_220 gq108 rg_0 rfl dX9_textAt_41 (fun q109 eq109 gq109 => ?_)
          refine lv_iload_n hx hb dX9_textAt_44 rfl (lv_at hl 2 rfl) ?_
          refine x_ar C hT rfl rfl gq109 rg_27 ⟨by omega, by show _ < ((4 : Nat) : Int); omega⟩ dX9_textAt_45 (fun q110 eq110 gq110 => ?_)
          refine lv_goto (tgt := 50) hx hb dX9_textAt_46 (by decide) ?_
          exact x_aret C hQ (Or.inr ⟨_, rfl⟩) dX9_textAt_50 hSH105 (by decide) (by decide) (⟨rfl, Or.inr ⟨by omega, q110, rfl, gq110⟩⟩)
      · subst hvH105
        refine W.eq (g2 := F0 m 34 ls [.int 0]) rfl ?_
        refine lv_if_eq (tgt := 49) hx hb dX9_textAt_34 (by decide) (fun c111 => ?_) (fun c111 => ?_)
        · have k112 := i_eq c111
          refine lv_null hx hb dX9_textAt_49 ?_
          exact x_aret C hQ (Or.inl rfl) dX9_textAt_50 hSH105 (by decide) (by decide) (⟨rfl, Or.inl ⟨rfl, by omega⟩⟩)
        · have k112 := i_ne c111
          exfalso
          omega
  · have k102 := i_eq c101
    refine lv_iload_n hx hb dX9_textAt_4 rfl (lv_at hl 2 rfl) ?_
    refine lv_iconst (v := 0) hx hb dX9_textAt_5 (by decide) ?_
    refine lv_iconst (v := 1) hx hb dX9_textAt_6 (by decide) ?_
    refine x_S (As := [.int x1, .int 0, .int 1]) (rest := []) C (c_X9_within l K G s.heap (x1) (0) (1) hT) yo_X9_within wM_X9_89 ⟨⟨by decide, by decide⟩, by decide, by decide⟩ rfl hl.1 rfl (Nat.le_of_ble_eq_true rfl) dX9_textAt_7 hS (AE_sub (fun _ _ => rfl) (by decide) hS.1) (fun vH113 H113 locsH113 pH113 zH113 kH113 hSH113 => ?_)
    have hqH113 := pH113.1.symm
    subst hqH113
    rcases pH113.2 with ⟨hvH113, hcH113⟩ | ⟨hvH113, hcH113⟩
    · subst hvH113
      refine W.eq (g2 := F0 m 10 ls [.int 1]) rfl ?_
      refine lv_if_eq (tgt := 23) hx hb dX9_textAt_10 (by decide) (fun c114 => ?_) (fun c114 => ?_)
      · have k115 := i_eq c114
        exfalso
        omega
      · have k115 := i_ne c114
        refine lv_aload_n hx hb dX9_textAt_13 rfl (lv_at hl 0 rfl) ?_
        refine x_gr C hT (ci := 9) (k := 0) rfl inX9 (by decide) wF_X9_12 ga rg_68 rfl dX9_textAt_14 (fun q116 eq116 gq116 => ?_)
        refine x_gr C hT (ci := 8) (k := 2) rfl inX8 (by decide) wF_X9_158 gq116 rg_0 rfl dX9_textAt_17 (fun q117 eq117 gq117 => ?_)
        refine lv_iload_n hx hb dX9_textAt_20 rfl (lv_at hl 2 rfl) ?_
        refine x_ar C hT rfl rfl gq117 rg_26 ⟨by omega, by show _ < ((2 : Nat) : Int); omega⟩ dX9_textAt_21 (fun q118 eq118 gq118 => ?_)
        exact x_aret C hQ (Or.inr ⟨_, rfl⟩) dX9_textAt_22 hSH113 (by decide) (by decide) (⟨rfl, Or.inr ⟨by omega, q118, rfl, gq118⟩⟩)
    · subst hvH113
      refine W.eq (g2 := F0 m 10 ls [.int 0]) rfl ?_
      refine lv_if_eq (tgt := 23) hx hb dX9_textAt_10 (by decide) (fun c119 => ?_) (fun c119 => ?_)
      · have k120 := i_eq c119
        refine lv_iload_n hx hb dX9_textAt_23 rfl (lv_at hl 1 rfl) ?_
        refine lv_iconst (v := 1) hx hb dX9_textAt_24 (by decide) ?_
        refine lv_icmp_ne (tgt := 49) hx hb dX9_textAt_25 (by decide) (fun c121 => ?_) (fun c121 => ?_)
        · have k122 := i_ne c121
          refine lv_null hx hb dX9_textAt_49 ?_
          exact x_aret C hQ (Or.inl rfl) dX9_textAt_50 hSH113 (by decide) (by decide) (⟨rfl, Or.inl ⟨rfl, by omega⟩⟩)
        · have k122 := i_eq c121
          exfalso
          omega
      · have k120 := i_ne c119
        exfalso
        omega

set_option maxHeartbeats 4000000 in
set_option maxRecDepth 100000 in
theorem f_X9_text (l : Launch) (K : KE) (G : Nat → Option Nat) (H : Heap) {a w : Nat} (x0 : Int32) (x1 : Int32) (hT : TY K G H) (ga : G a = some 68) (gw : G w = some 0) (fx : FX K H a w) : MX l K yX9_text cX9_text 6 (some .int) 2 61 0 0 [.ref a, .int x0, .int x1] H (AE G [68, 0, 78, 79, 80, 81, 69, 16, 17, 18, 19, 20, 21, 22, 23, 24] H.size) (fun v H1 => (∃ r : Int32, v = some (.int r) ∧ ((((x0.toInt = 0 ∧ 0 ≤ x1.toInt ∧ x1.toInt ≤ 1) ∨ (x0.toInt = 1 ∧ 0 ≤ x1.toInt ∧ x1.toInt ≤ 3)) ∧ r.toInt = 0) ∨ (¬ ((x0.toInt = 0 ∧ 0 ≤ x1.toInt ∧ x1.toInt ≤ 1) ∨ (x0.toInt = 1 ∧ 0 ≤ x1.toInt ∧ x1.toInt ≤ 3)) ∧ r.toInt = -1))) ∧ ∃ G1 : Nat → Option Nat, (∀ q, q < H.size → G1 q = G q) ∧ TY K G1 H1) := by
  refine MX.of (by decide +kernel) (Nat.le_of_ble_eq_true rfl) ?_
  intro p e s m below meth c ls Q C hH hl hQ
  subst hH
  have C : CX p K s m _ meth c RX9 cX9_text 6 (some .int) "text" := C
  obtain ⟨hx, hb, hml, hown, hts, hKT, hr, hlocks, hnm⟩ := id C
  have hl : lv_has ls 6 [(0, .ref a), (1, .int x0), (2, .int x1)] := hl
  have hS : va_S (AE G [68, 0, 78, 79, 80, 81, 69, 16, 17, 18, 19, 20, 21, 22, 23, 24] s.heap.size) s.heap s.heap [] := va_S.rf
  have n_m1 : ((-1) : Int32).toInt = -1 := rfl
  have n_0 : (0 : Int32).toInt = 0 := rfl
  have n_1 : (1 : Int32).toInt = 1 := rfl
  have n_16 : (16 : Int32).toInt = 16 := rfl
  obtain ⟨f0, f1, f2, f3, f4, f5, f6, f7, f8, f9, f10⟩ := fx
  refine lv_aload_n hx hb dX9_text_0 rfl (lv_at hl 0 rfl) ?_
  refine x_gi C hT (ci := 9) (k := 3) rfl inX9 (by decide) wF_X9_105 ga rg_68 rfl dX9_text_1 (fun x101 ex101 bx101 => ?_)
  have ux101 : x101 = 0 := ex101.trans f2
  subst ux101
  refine lv_istore_n (lv' := [(3, .int 0), (0, .ref a), (1, .int x0), (2, .int x1)]) hx hb dX9_text_4 rfl hl (by decide) rfl (fun ls102 hl103 => ?_)
  refine lv_aload_n hx hb dX9_text_5 rfl (lv_at hl103 1 rfl) ?_
  refine lv_iconst (v := 0) hx hb dX9_text_6 (by decide) ?_
  refine x_put C hT hS (ci := 9) (k := 3) (v := .int 0) (ty0 := tyX9) rfl inX9 tyX9_ok nmX9 (by decide) rfl wF_X9_105 ga rg_68 rfl rfl (okI (by have := i_rng (0 : Int32); omega) (by have := i_rng (0 : Int32); omega)) rfl rfl (AE_in ga (by decide)) dX9_text_7 (fun H104 locsH104 hTH104 hSH104 wH104 => ?_)
  have m105 := f0.trans (Wr.neR wH104 (Or.inr (x_apart hKT hts inX9 tyX9 tyX9_ok nmX9 rfl 0 3 (by decide) (by decide) (by decide)))).symm
  have m106 := (Wr.neV wH104 (Or.inr (x_apart hKT hts inX9 tyX9 tyX9_ok nmX9 rfl 1 3 (by decide) (by decide) (by decide)))).trans f1
  have m108 := (Wr.neI wH104 (Or.inl (G_ne gw ga (by decide)))).trans f3
  have m109 := (Wr.neI wH104 (Or.inl (G_ne gw ga (by decide)))).trans f4
  have m110 := (Wr.neI wH104 (Or.inl (G_ne gw ga (by decide)))).trans f5
  have m111 := (Wr.neI wH104 (Or.inl (G_ne gw ga (by decide)))).trans f6
  have m112 := (Wr.neI wH104 (Or.inl (G_ne gw ga (by decide)))).trans f7
  have m113 := (Wr.neI wH104 (Or.inl (G_ne gw ga (by decide)))).trans f8
  have m114 := (Wr.neI wH104 (Or.inl (G_ne gw ga (by decide)))).trans f9
  have m115 := (Wr.neI wH104 (Or.inl (G_ne gw ga (by decide)))).trans f10
  have m116 := Wr.I wH104
  refine lv_aload_n hx hb dX9_text_10 rfl (lv_at hl103 1 rfl) ?_
  refine x_gr C hTH104 (ci := 9) (k := 0) rfl inX9 (by decide) wF_X9_12 ga rg_68 rfl dX9_text_11 (fun q117 eq117 gq117 => ?_)
  have uq117 : w = q117 := (m105).trans eq117.symm
  subst uq117
  refine lv_iconst (v := 0) hx hb dX9_text_14 (by decide) ?_
  refine x_put C hTH104 hSH104 (ci := 8) (k := 6) (v := .int 0) (ty0 := tyX8) rfl inX8 tyX8_ok nmX8 (by decide) rfl wF_X9_111 gw rg_0 rfl rfl (okI (by have := i_rng (0 : Int32); omega) (by have := i_rng (0 : Int32); omega)) rfl rfl (AE_in gw (by decide)) dX9_text_15 (fun H118 locsH118 hTH118 hSH118 wH118 => ?_)
  have m119 := m105.trans (Wr.neR wH118 (Or.inl (G_ne ga gw (by decide)))).symm
  have m120 := (Wr.neV wH118 (Or.inl (G_ne ga gw (by decide)))).trans m106
  have m121 := (Wr.neI wH118 (Or.inr (x_apart hKT hts inX8 tyX8 tyX8_ok nmX8 rfl 1 6 (by decide) (by decide) (by decide)))).trans m108
  have m122 := (Wr.neI wH118 (Or.inr (x_apart hKT hts inX8 tyX8 tyX8_ok nmX8 rfl 4 6 (by decide) (by decide) (by decide)))).trans m109
  have m123 := (Wr.neI wH118 (Or.inr (x_apart hKT hts inX8 tyX8 tyX8_ok nmX8 rfl 5 6 (by decide) (by decide) (by decide)))).trans m110
  have m125 := (Wr.neI wH118 (Or.inr (x_apart hKT hts inX8 tyX8 tyX8_ok nmX8 rfl 7 6 (by decide) (by decide) (by decide)))).trans m112
  have m126 := (Wr.neI wH118 (Or.inr (x_apart hKT hts inX8 tyX8 tyX8_ok nmX8 rfl 10 6 (by decide) (by decide) (by decide)))).trans m113
  have m127 := (Wr.neI wH118 (Or.inr (x_apart hKT hts inX8 tyX8 tyX8_ok nmX8 rfl 13 6 (by decide) (by decide) (by decide)))).trans m114
  have m128 := (Wr.neI wH118 (Or.inr (x_apart hKT hts inX8 tyX8 tyX8_ok nmX8 rfl 16 6 (by decide) (by decide) (by decide)))).trans m115
  have m129 := (Wr.neI wH118 (Or.inl (G_ne ga gw (by decide)))).trans m116
  have m130 := Wr.I wH118
  refine lv_aload_n hx hb dX9_text_18 rfl (lv_at hl103 1 rfl) ?_
  refine x_gr C hTH118 (ci := 9) (k := 0) rfl inX9 (by decide) wF_X9_12 ga rg_68 rfl dX9_text_19 (fun q131 eq131 gq131 => ?_)
  have uq131 : w = q131 := (m119).trans eq131.symm
  subst uq131
  refine lv_iconst (v := (-1)) hx hb dX9_text_22 (by decide) ?_
  refine x_put C hTH118 hSH118 (ci := 8) (k := 7) (v := .int (-1)) (ty0 := tyX8) rfl inX8 tyX8_ok nmX8 (by decide) rfl wF_X9_114 gw rg_0 rfl rfl (okI (by have := i_rng ((-1) : Int32); omega) (by have := i_rng ((-1) : Int32); omega)) rfl rfl (AE_in gw (by decide)) dX9_text_23 (fun H132 locsH132 hTH132 hSH132 wH132 => ?_)
  have m133 := m119.trans (Wr.neR wH132 (Or.inl (G_ne ga gw (by decide)))).symm
  have m134 := (Wr.neV wH132 (Or.inl (G_ne ga gw (by decide)))).trans m120
  have m135 := (Wr.neI wH132 (Or.inr (x_apart hKT hts inX8 tyX8 tyX8_ok nmX8 rfl 1 7 (by decide) (by decide) (by decide)))).trans m121
  have m136 := (Wr.neI wH132 (Or.inr (x_apart hKT hts inX8 tyX8 tyX8_ok nmX8 rfl 4 7 (by decide) (by decide) (by decide)))).trans m122
  have m137 := (Wr.neI wH132 (Or.inr (x_apart hKT hts inX8 tyX8 tyX8_ok nmX8 rfl 5 7 (by decide) (by decide) (by decide)))).trans m123
  have m139 := (Wr.neI wH132 (Or.inr (x_apart hKT hts inX8 tyX8 tyX8_ok nmX8 rfl 10 7 (by decide) (by decide) (by decide)))).trans m126
  have m140 := (Wr.neI wH132 (Or.inr (x_apart hKT hts inX8 tyX8 tyX8_ok nmX8 rfl 13 7 (by decide) (by decide) (by decide)))).trans m127
  have m141 := (Wr.neI wH132 (Or.inr (x_apart hKT hts inX8 tyX8 tyX8_ok nmX8 rfl 16 7 (by decide) (by decide) (by decide)))).trans m128
  have m142 := (Wr.neI wH132 (Or.inl (G_ne ga gw (by decide)))).trans m129
  have m143 := (Wr.neI wH132 (Or.inr (x_apart hKT hts inX8 tyX8 tyX8_ok nmX8 rfl 6 7 (by decide) (by decide) (by decide)))).trans m130
  have m144 := Wr.I wH132
  refine lv_aload_n hx hb dX9_text_26 rfl (lv_at hl103 1 rfl) ?_
  refine lv_iload_n hx hb dX9_text_27 rfl (lv_at hl103 2 rfl) ?_
  refine lv_iload_n hx hb dX9_text_28 rfl (lv_at hl103 3 rfl) ?_
  refine x_V (As := [.int x0, .int x1]) (rest := []) C (f_X9_textAt l K G H132 (x0) (x1) hTH132 ga) yo_X9_textAt wM_X9_117 ⟨⟨by decide, by decide⟩, by decide, by decide⟩ (x_rv C hTH132 (ci := 9) rfl ga rg_68) rfl hl103.1 rfl (Nat.le_of_ble_eq_true rfl) dX9_text_29 hSH132 (AE_sub (fun _ _ => rfl) (by decide) hSH132.1) (fun vH145 H145 locsH145 pH145 zH145 kH145 hSH145 => ?_)
  have hqH145 := pH145.1.symm
  subst hqH145
  rcases pH145.2 with ⟨hvH145, hcH145⟩ | ⟨hcH145, q146, hvH145, gq146⟩
  · subst hvH145
    refine W.eq (g2 := F0 m 32 ls102 [.null]) rfl ?_
    refine lv_astoreN (lv' := [(4, .null), (3, .int 0), (0, .ref a), (1, .int x0), (2, .int x1)]) hx hb dX9_text_32 hl103 (by decide) rfl (fun ls147 hl148 => ?_)
    refine lv_aloadN hx hb dX9_text_34 (lv_at hl148 0 rfl) ?_
    refine lv_ifnonnullN hx hb dX9_text_36 ?_
    refine lv_iconst (v := (-1)) hx hb dX9_text_39 (by decide) ?_
    exact x_iret C hQ dX9_text_40 hSH145 (by decide) (by decide) (⟨⟨(-1), rfl, by omega⟩, G, fun _ _ => rfl, hTH132⟩)
  · subst hvH145
    refine W.eq (g2 := F0 m 32 ls102 [.ref q146]) rfl ?_
    refine lv_astore (lv' := [(4, .ref q146), (3, .int 0), (0, .ref a), (1, .int x0), (2, .int x1)]) hx hb dX9_text_32 hl103 (by decide) rfl (fun ls149 hl150 => ?_)
    refine lv_aload hx hb dX9_text_34 (lv_at hl150 0 rfl) ?_
    refine lv_ifnonnull (tgt := 41) hx hb dX9_text_36 (by decide) ?_
    refine lv_aload_n hx hb dX9_text_41 rfl (lv_at hl150 2 rfl) ?_
    refine x_gr C hTH132 (ci := 9) (k := 4) rfl inX9 (by decide) wF_X9_23 ga rg_68 rfl dX9_text_42 (fun q151 eq151 gq151 => ?_)
    refine lv_aload_n hx hb dX9_text_45 rfl (lv_at hl150 2 rfl) ?_
    refine x_gr C hTH132 (ci := 9) (k := 2) rfl inX9 (by decide) wF_X9_16 ga rg_68 rfl dX9_text_46 (fun q152 eq152 gq152 => ?_)
    refine lv_iload_n hx hb dX9_text_49 rfl (lv_at hl150 1 rfl) ?_
    refine lv_iload_n hx hb dX9_text_50 rfl (lv_at hl150 3 rfl) ?_
    refine lv_if_ne (tgt := 58) hx hb dX9_text_51 (by decide) (fun c153 => ?_) (fun c153 => ?_)
    · have k154 := i_ne c153
      refine lv_iconst (v := 0) hx hb dX9_text_58 (by decide) ?_
      refine x_V (As := [.ref q152, .int 0, .int 0]) (rest := []) C (f_X4_start_0 l K G H132 hTH132 gq151 gq152) yo_X4_start wM_X9_121 ⟨⟨by decide, by decide⟩, by decide, by decide⟩ (x_rv C hTH132 (ci := 4) rfl gq151 rg_78) rfl hl150.1 rfl (Nat.le_of_ble_eq_true rfl) dX9_text_59 hSH145 (AE_sub (fun _ _ => rfl) (by decide) hSH145.1) (fun vH155 H155 locsH155 pH155 zH155 kH155 hSH155 => ?_)
      have hTH155 := pH155.2.1
      have hvH155 := pH155.1
      subst hvH155
      obtain ⟨c1H155, c2H155, c3H155, c4H155, c5H155⟩ := pH155.2.2
      have m156 := (m133).trans (fR_kept (x_lt hTH132 kH155 ga (by decide))).symm
      have m157 := (fV_kept (x_lt hTH132 kH155 ga (by decide))).trans m134
      have m158 := (fI_kept (x_lt hTH132 kH155 gw (by decide))).trans m135
      have m159 := (fI_kept (x_lt hTH132 kH155 gw (by decide))).trans m136
      have m160 := (fI_kept (x_lt hTH132 kH155 gw (by decide))).trans m137
      have m161 := (fI_kept (x_lt hTH132 kH155 gw (by decide))).trans m139
      have m162 := (fI_kept (x_lt hTH132 kH155 gw (by decide))).trans m140
      have m163 := (fI_kept (x_lt hTH132 kH155 gw (by decide))).trans m141
      have m164 := (fI_kept (x_lt hTH132 kH155 ga (by decide))).trans m142
      have m165 := (fI_kept (x_lt hTH132 kH155 gw (by decide))).trans m143
      have m166 := (fI_kept (x_lt hTH132 kH155 gw (by decide))).trans m144
      have m167 := (eq151).trans (fR_kept (x_lt hTH132 kH155 ga (by decide))).symm
      have m168 := (eq152).trans (fR_kept (x_lt hTH132 kH155 ga (by decide))).symm
      refine W.eq (g2 := F0 m 62 ls149 []) rfl ?_
      refine lv_iconst (v := 0) hx hb dX9_text_62 (by decide) ?_
      refine lv_istore (lv' := [(5, .int 0), (4, .ref q146), (3, .int 0), (0, .ref a), (1, .int x0), (2, .int x1)]) hx hb dX9_text_63 hl150 (by decide) rfl (fun ls169 hl170 => ?_)
      refine lv_iload hx hb dX9_text_65 (lv_at hl170 0 rfl) ?_
      refine lv_bipush (v := 16) hx hb dX9_text_67 (by decide) ?_
      refine lv_icmp_gt (tgt := 96) hx hb dX9_text_69 (by decide) (fun c171 => ?_) (fun c171 => ?_)
      · have k172 := i_lt c171
        exfalso
        omega
      · have k172 := i_nlt c171
        refine lv_aload_n hx hb dX9_text_72 rfl (lv_at hl170 3 rfl) ?_
        refine x_gr C hTH155 (ci := 9) (k := 4) rfl inX9 (by decide) wF_X9_23 ga rg_68 rfl dX9_text_73 (fun q173 eq173 gq173 => ?_)
        have uq173 : q151 = q173 := (m167).trans eq173.symm
        subst uq173
        refine x_V (As := []) (rest := []) C (f_X4_goesOn l K G H155 hTH155 gq151 c1H155 c2H155 c3H155) yo_X4_goesOn wM_X9_125 ⟨⟨by decide, by decide⟩, by decide, by decide⟩ (x_rv C hTH155 (ci := 4) rfl gq151 rg_78) rfl hl170.1 rfl (Nat.le_of_ble_eq_true rfl) dX9_text_76 hSH155 (AE_sub (fun _ _ => rfl) (by decide) hSH155.1) (fun vH174 H174 locsH174 pH174 zH174 kH174 hSH174 => ?_)
        have hqH174 := pH174.1.symm
        subst hqH174
        have hvH174 := pH174.2
        subst hvH174
        refine W.eq (g2 := F0 m 79 ls169 [.int 0]) rfl ?_
        refine lv_if_eq (tgt := 96) hx hb dX9_text_79 (by decide) (fun c175 => ?_) (fun c175 => ?_)
        · have k176 := i_eq c175
          refine lv_aload_n hx hb dX9_text_96 rfl (lv_at hl170 3 rfl) ?_
          refine x_gr C hTH155 (ci := 9) (k := 4) rfl inX9 (by decide) wF_X9_23 ga rg_68 rfl dX9_text_97 (fun q177 eq177 gq177 => ?_)
          have uq177 : q151 = q177 := (m167).trans eq177.symm
          subst uq177
          refine x_gi C hTH155 (ci := 4) (k := 1) rfl inX4 (by decide) wF_X9_132 gq151 rg_78 rfl dX9_text_100 (fun x178 ex178 bx178 => ?_)
          have ux178 : x178 = 0 := ex178.trans c1H155
          subst ux178
          refine lv_if_eq (tgt := 136) hx hb dX9_text_103 (by decide) (fun c179 => ?_) (fun c179 => ?_)
          · have k180 := i_eq c179
            refine lv_aload hx hb dX9_text_136 (lv_at hl170 1 rfl) ?_
            refine lv_aload_n hx hb dX9_text_138 rfl (lv_at hl170 3 rfl) ?_
            refine x_gr C hTH155 (ci := 9) (k := 4) rfl inX9 (by decide) wF_X9_23 ga rg_68 rfl dX9_text_139 (fun q181 eq181 gq181 => ?_)
            have uq181 : q151 = q181 := (m167).trans eq181.symm
            subst uq181
            refine x_gr C hTH155 (ci := 4) (k := 0) rfl inX4 (by decide) wF_X9_134 gq151 rg_78 rfl dX9_text_142 (fun q182 eq182 gq182 => ?_)
            have m183 := c4H155
            rw [← eq182] at m183
            refine x_V (As := [.ref q182]) (rest := []) C (f_X7_copyFrom_m l K G H155 hTH155 gq146 gq182 m183) yo_X7_copyFrom wM_X9_138 ⟨⟨by decide, by decide⟩, by decide, by decide⟩ (x_rv C hTH155 (ci := 7) rfl gq146 rg_16) rfl hl170.1 rfl (Nat.le_of_ble_eq_true rfl) dX9_text_145 hSH174 (AE_sub (fun _ _ => rfl) (by decide) hSH174.1) (fun vH184 H184 locsH184 pH184 zH184 kH184 hSH184 => ?_)
            have hTH184 := pH184.2.1
            have hvH184 := pH184.1
            subst hvH184
            have c1H184 := pH184.2.2
            have m185 := (m156).trans (fR_kept (x_lt hTH155 kH184 ga (by decide))).symm
            have m186 := (fV_kept (x_lt hTH155 kH184 ga (by decide))).trans m157
            have m187 := (fI_kept (x_lt hTH155 kH184 gw (by decide))).trans m158
            have m188 := (fI_kept (x_lt hTH155 kH184 gw (by decide))).trans m159
            have m189 := (fI_kept (x_lt hTH155 kH184 gw (by decide))).trans m160
            have m190 := (fI_kept (x_lt hTH155 kH184 gw (by decide))).trans m161
            have m191 := (fI_kept (x_lt hTH155 kH184 gw (by decide))).trans m162
            have m192 := (fI_kept (x_lt hTH155 kH184 gw (by decide))).trans m163
            have m193 := (fI_kept (x_lt hTH155 kH184 ga (by decide))).trans m164
            have m194 := (fI_kept (x_lt hTH155 kH184 gw (by decide))).trans m165
            have m195 := (fI_kept (x_lt hTH155 kH184 gw (by decide))).trans m166
            have m196 := (m167).trans (fR_kept (x_lt hTH155 kH184 ga (by decide))).symm
            have m197 := (m168).trans (fR_kept (x_lt hTH155 kH184 ga (by decide))).symm
            have m198 := (fI_kept (x_lt hTH155 kH184 gq151 (by decide))).trans c1H155
            have m199 := (fI_kept (x_lt hTH155 kH184 gq151 (by decide))).trans c2H155
            have m200 := (eq182).trans (fR_kept (x_lt hTH155 kH184 gq151 (by decide))).symm
            have m201 := (fI_kept (x_lt hTH155 kH184 gq182 (by decide))).trans m183
            refine W.eq (g2 := F0 m 148 ls169 []) rfl ?_
            refine lv_aload hx hb dX9_text_148 (lv_at hl170 1 rfl) ?_
            refine x_gi C hTH184 (ci := 7) (k := 0) rfl inX7 (by decide) wF_X9_144 gq146 rg_16 rfl dX9_text_150 (fun x202 ex202 bx202 => ?_)
            have ux202 : x202 = 0 := ex202.trans c1H184
            subst ux202
            exact x_iret C hQ dX9_text_153 hSH184 (by decide) (by decide) (⟨⟨0, rfl, by omega⟩, G, fun _ _ => rfl, hTH184⟩)
          · have k180 := i_ne c179
            exfalso
            omega
        · have k176 := i_ne c175
          exfalso
          omega
    · have k154 := i_eq c153
      refine lv_iconst (v := 1) hx hb dX9_text_54 (by decide) ?_
      refine lv_goto (tgt := 59) hx hb dX9_text_55 (by decide) ?_
      refine x_V (As := [.ref q152, .int 0, .int 1]) (rest := []) C (f_X4_start_1 l K G H132 hTH132 gq151 gq152) yo_X4_start wM_X9_121 ⟨⟨by decide, by decide⟩, by decide, by decide⟩ (x_rv C hTH132 (ci := 4) rfl gq151 rg_78) rfl hl150.1 rfl (Nat.le_of_ble_eq_true rfl) dX9_text_59 hSH145 (AE_sub (fun _ _ => rfl) (by decide) hSH145.1) (fun vH203 H203 locsH203 pH203 zH203 kH203 hSH203 => ?_)
      have hTH203 := pH203.2.1
      have hvH203 := pH203.1
      subst hvH203
      obtain ⟨c1H203, c2H203, c3H203, c4H203, c5H203⟩ := pH203.2.2
      have m204 := (m133).trans (fR_kept (x_lt hTH132 kH203 ga (by decide))).symm
      have m205 := (fV_kept (x_lt hTH132 kH203 ga (by decide))).trans m134
      have m206 := (fI_kept (x_lt hTH132 kH203 gw (by decide))).trans m135
      have m207 := (fI_kept (x_lt hTH132 kH203 gw (by decide))).trans m136
      have m208 := (fI_kept (x_lt hTH132 kH203 gw (by decide))).trans m137
      have m209 := (fI_kept (x_lt hTH132 kH203 gw (by decide))).trans m139
      have m210 := (fI_kept (x_lt hTH132 kH203 gw (by decide))).trans m140
      have m211 := (fI_kept (x_lt hTH132 kH203 gw (by decide))).trans m141
      have m212 := (fI_kept (x_lt hTH132 kH203 ga (by decide))).trans m142
      have m213 := (fI_kept (x_lt hTH132 kH203 gw (by decide))).trans m143
      have m214 := (fI_kept (x_lt hTH132 kH203 gw (by decide))).trans m144
      have m215 := (eq151).trans (fR_kept (x_lt hTH132 kH203 ga (by decide))).symm
      have m216 := (eq152).trans (fR_kept (x_lt hTH132 kH203 ga (by decide))).symm
      refine W.eq (g2 := F0 m 62 ls149 []) rfl ?_
      refine lv_iconst (v := 0) hx hb dX9_text_62 (by decide) ?_
      refine lv_istore (lv' := [(5, .int 0), (4, .ref q146), (3, .int 0), (0, .ref a), (1, .int x0), (2, .int x1)]) hx hb dX9_text_63 hl150 (by decide) rfl (fun ls217 hl218 => ?_)
      refine lv_iload hx hb dX9_text_65 (lv_at hl218 0 rfl) ?_
      refine lv_bipush (v := 16) hx hb dX9_text_67 (by decide) ?_
      refine lv_icmp_gt (tgt := 96) hx hb dX9_text_69 (by decide) (fun c219 => ?_) (fun c219 => ?_)
      · have k220 := i_lt c219
        exfalso
        omega
      · have k220 := i_nlt c219
        refine lv_aload_n hx hb dX9_text_72 rfl (lv_at hl218 3 rfl) ?_
        refine x_gr C hTH203 (ci := 9) (k := 4) rfl inX9 (by decide) wF_X9_23 ga rg_68 rfl dX9_text_73 (fun q221 eq221 gq221 => ?_)
        have uq221 : q151 = q221 := (m215).trans eq221.symm
        subst uq221
        refine x_V (As := []) (rest := []) C (f_X4_goesOn l K G H203 hTH203 gq151 c1H203 c2H203 c3H203) yo_X4_goesOn wM_X9_125 ⟨⟨by decide, by decide⟩, by decide, by decide⟩ (x_rv C hTH203 (ci := 4) rfl gq151 rg_78) rfl hl218.1 rfl (Nat.le_of_ble_eq_true rfl) dX9_text_76 hSH203 (AE_sub (fun _ _ => rfl) (by decide) hSH203.1) (fun vH222 H222 locsH222 pH222 zH222 kH222 hSH222 => ?_)
        have hqH222 := pH222.1.symm
        subst hqH222
        have hvH222 := pH222.2
        subst hvH222
        refine W.eq (g2 := F0 m 79 ls217 [.int 0]) rfl ?_
        refine lv_if_eq (tgt := 96) hx hb dX9_text_79 (by decide) (fun c223 => ?_) (fun c223 => ?_)
        · have k224 := i_eq c223
          refine lv_aload_n hx hb dX9_text_96 rfl (lv_at hl218 3 rfl) ?_
          refine x_gr C hTH203 (ci := 9) (k := 4) rfl inX9 (by decide) wF_X9_23 ga rg_68 rfl dX9_text_97 (fun q225 eq225 gq225 => ?_)
          have uq225 : q151 = q225 := (m215).trans eq225.symm
          subst uq225
          refine x_gi C hTH203 (ci := 4) (k := 1) rfl inX4 (by decide) wF_X9_132 gq151 rg_78 rfl dX9_text_100 (fun x226 ex226 bx226 => ?_)
          have ux226 : x226 = 0 := ex226.trans c1H203
          subst ux226
          refine lv_if_eq (tgt := 136) hx hb dX9_text_103 (by decide) (fun c227 => ?_) (fun c227 => ?_)
          · have k228 := i_eq c227
            refine lv_aload hx hb dX9_text_136 (lv_at hl218 1 rfl) ?_
            refine lv_aload_n hx hb dX9_text_138 rfl (lv_at hl218 3 rfl) ?_
            refine x_gr C hTH203 (ci := 9) (k := 4) rfl inX9 (by decide) wF_X9_23 ga rg_68 rfl dX9_text_139 (fun q229 eq229 gq229 => ?_)
            have uq229 : q151 = q229 := (m215).trans eq229.symm
            subst uq229
            refine x_gr C hTH203 (ci := 4) (k := 0) rfl inX4 (by decide) wF_X9_134 gq151 rg_78 rfl dX9_text_142 (fun q230 eq230 gq230 => ?_)
            have m231 := c4H203
            rw [← eq230] at m231
            refine x_V (As := [.ref q230]) (rest := []) C (f_X7_copyFrom_m l K G H203 hTH203 gq146 gq230 m231) yo_X7_copyFrom wM_X9_138 ⟨⟨by decide, by decide⟩, by decide, by decide⟩ (x_rv C hTH203 (ci := 7) rfl gq146 rg_16) rfl hl218.1 rfl (Nat.le_of_ble_eq_true rfl) dX9_text_145 hSH222 (AE_sub (fun _ _ => rfl) (by decide) hSH222.1) (fun vH232 H232 locsH232 pH232 zH232 kH232 hSH232 => ?_)
            have hTH232 := pH232.2.1
            have hvH232 := pH232.1
            subst hvH232
            have c1H232 := pH232.2.2
            have m233 := (m204).trans (fR_kept (x_lt hTH203 kH232 ga (by decide))).symm
            have m234 := (fV_kept (x_lt hTH203 kH232 ga (by decide))).trans m205
            have m235 := (fI_kept (x_lt hTH203 kH232 gw (by decide))).trans m206
            have m236 := (fI_kept (x_lt hTH203 kH232 gw (by decide))).trans m207
            have m237 := (fI_kept (x_lt hTH203 kH232 gw (by decide))).trans m208
            have m238 := (fI_kept (x_lt hTH203 kH232 gw (by decide))).trans m209
            have m239 := (fI_kept (x_lt hTH203 kH232 gw (by decide))).trans m210
            have m240 := (fI_kept (x_lt hTH203 kH232 gw (by decide))).trans m211
            have m241 := (fI_kept (x_lt hTH203 kH232 ga (by decide))).trans m212
            have m242 := (fI_kept (x_lt hTH203 kH232 gw (by decide))).trans m213
            have m243 := (fI_kept (x_lt hTH203 kH232 gw (by decide))).trans m214
            have m244 := (m215).trans (fR_kept (x_lt hTH203 kH232 ga (by decide))).symm
            have m245 := (m216).trans (fR_kept (x_lt hTH203 kH232 ga (by decide))).symm
            have m246 := (fI_kept (x_lt hTH203 kH232 gq151 (by decide))).trans c1H203
            have m247 := (fI_kept (x_lt hTH203 kH232 gq151 (by decide))).trans c2H203
            have m248 := (eq230).trans (fR_kept (x_lt hTH203 kH232 gq151 (by decide))).symm
            have m249 := (fI_kept (x_lt hTH203 kH232 gq230 (by decide))).trans m231
            refine W.eq (g2 := F0 m 148 ls217 []) rfl ?_
            refine lv_aload hx hb dX9_text_148 (lv_at hl218 1 rfl) ?_
            refine x_gi C hTH232 (ci := 7) (k := 0) rfl inX7 (by decide) wF_X9_144 gq146 rg_16 rfl dX9_text_150 (fun x250 ex250 bx250 => ?_)
            have ux250 : x250 = 0 := ex250.trans c1H232
            subst ux250
            exact x_iret C hQ dX9_text_153 hSH232 (by decide) (by decide) (⟨⟨0, rfl, by omega⟩, G, fun _ _ => rfl, hTH232⟩)
          · have k228 := i_ne c227
            exfalso
            omega
        · have k224 := i_ne c223
          exfalso
          omega
