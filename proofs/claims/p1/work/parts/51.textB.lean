set_option maxHeartbeats 4000000 in
set_option maxRecDepth 100000 in
theorem f_X10_raw (l : Launch) (K : KE) (G : Nat → Option Nat) (H : Heap) {b : Nat} (hT : TY K G H) (gb : G b = some 112) (h1 : fI H b (K.1.2 10 18) = 0) : MX l K yX10_raw cX10_raw 2 (some .int) 0 0 0 0 [.ref b, .int 0] H (AE G [] H.size) (fun v H1 => H1 = H ∧ v = some (.int (-1))) := by
  refine MX.of (by decide +kernel) (Nat.le_of_ble_eq_true rfl) ?_
  intro p e s m below meth c ls Q C hH hl hQ
  subst hH
  have C : CX p K s m _ meth c RX10 cX10_raw 2 (some .int) "raw" := C
  obtain ⟨hx, hb, hml, hown, hts, hKT, hr, hlocks, hnm⟩ := id C
  have hl : lv_has ls 2 [(0, .ref b), (1, .int 0)] := hl
  have hS : va_S (AE G [] s.heap.size) s.heap s.heap [] := va_S.rf
  have n_m1 : ((-1) : Int32).toInt = -1 := rfl
  have n_0 : (0 : Int32).toInt = 0 := rfl
  refine lv_iload_n hx hb dX10_raw_0 rfl (lv_at hl 1 rfl) ?_
  refine lv_aload_n hx hb dX10_raw_1 rfl (lv_at hl 0 rfl) ?_
  refine x_gi C hT (ci := 10) (k := 18) rfl inX10 (by decide) wF_X10_185 gb rg_112 rfl dX10_raw_2 (fun x101 ex101 bx101 => ?_)
  have ux101 : x101 = 0 := ex101.trans h1
  subst ux101
  refine lv_icmp_ge (tgt := 17) hx hb dX10_raw_5 (by decide) (fun c102 => ?_) (fun c102 => ?_)
  · have k103 := i_le c102
    refine lv_iconst (v := (-1)) hx hb dX10_raw_17 (by decide) ?_
    exact x_iret C hQ dX10_raw_18 hS (by decide) (by decide) (⟨rfl, rfl⟩)
  · have k103 := i_nle c102
    exfalso
    omega

set_option maxHeartbeats 4000000 in
set_option maxRecDepth 100000 in
theorem f_X10_reads (l : Launch) (K : KE) (G : Nat → Option Nat) (H : Heap) {b : Nat} (hT : TY K G H) (gb : G b = some 112) (h1 : fI H b (K.1.2 10 18) = 0) (h2 : fI H b (K.1.2 10 19) = 0) (h3 : fI H b (K.1.2 10 35) = 0) : MX l K yX10_reads cX10_reads 2 none 1 21 0 0 [.ref b] H (AE G [112] H.size) (fun v H1 => v = none ∧ TY K G H1 ∧ fI H1 b (K.1.2 10 21) = 0 ∧ fI H1 b (K.1.2 10 35) = 0) := by
  refine MX.of (by decide +kernel) (Nat.le_of_ble_eq_true rfl) ?_
  intro p e s m below meth c ls Q C hH hl hQ
  subst hH
  have C : CX p K s m _ meth c RX10 cX10_reads 2 none "reads" := C
  obtain ⟨hx, hb, hml, hown, hts, hKT, hr, hlocks, hnm⟩ := id C
  have hl : lv_has ls 2 [(0, .ref b)] := hl
  have hS : va_S (AE G [112] s.heap.size) s.heap s.heap [] := va_S.rf
  have n_m1 : ((-1) : Int32).toInt = -1 := rfl
  have n_0 : (0 : Int32).toInt = 0 := rfl
  have n_1 : (1 : Int32).toInt = 1 := rfl
  have n_10 : (10 : Int32).toInt = 10 := rfl
  have n_32 : (32 : Int32).toInt = 32 := rfl
  refine lv_aload_n hx hb dX10_reads_0 rfl (lv_at hl 0 rfl) ?_
  refine lv_aload_n hx hb dX10_reads_1 rfl (lv_at hl 0 rfl) ?_
  refine x_gi C hT (ci := 10) (k := 19) rfl inX10 (by decide) wF_X10_192 gb rg_112 rfl dX10_reads_2 (fun x101 ex101 bx101 => ?_)
  have ux101 : x101 = 0 := ex101.trans h2
  subst ux101
  refine x_V (As := [.int 0]) (rest := []) C (f_X10_raw l K G s.heap hT gb h1) yo_X10_raw wM_X10_195 ⟨⟨by decide, by decide⟩, by decide, by decide⟩ (x_rv C hT (ci := 10) rfl gb rg_112) rfl hl.1 rfl (Nat.le_of_ble_eq_true rfl) dX10_reads_5 hS (AE_sub (fun _ _ => rfl) (by decide) hS.1) (fun vH102 H102 locsH102 pH102 zH102 kH102 hSH102 => ?_)
  have hqH102 := pH102.1.symm
  subst hqH102
  have hvH102 := pH102.2
  subst hvH102
  refine W.eq (g2 := F0 m 8 ls [.int (-1)]) rfl ?_
  refine lv_bipush (v := 32) hx hb dX10_reads_8 (by decide) ?_
  refine lv_icmp_eq (tgt := 26) hx hb dX10_reads_10 (by decide) (fun c103 => ?_) (fun c103 => ?_)
  · have k104 := i_eq c103
    exfalso
    omega
  · have k104 := i_ne c103
    refine lv_aload_n hx hb dX10_reads_13 rfl (lv_at hl 0 rfl) ?_
    refine lv_aload_n hx hb dX10_reads_14 rfl (lv_at hl 0 rfl) ?_
    refine x_gi C hT (ci := 10) (k := 19) rfl inX10 (by decide) wF_X10_192 gb rg_112 rfl dX10_reads_15 (fun x105 ex105 bx105 => ?_)
    have ux105 : x105 = 0 := ex105.trans h2
    subst ux105
    refine x_V (As := [.int 0]) (rest := []) C (f_X10_raw l K G s.heap hT gb h1) yo_X10_raw wM_X10_195 ⟨⟨by decide, by decide⟩, by decide, by decide⟩ (x_rv C hT (ci := 10) rfl gb rg_112) rfl hl.1 rfl (Nat.le_of_ble_eq_true rfl) dX10_reads_18 hSH102 (AE_sub (fun _ _ => rfl) (by decide) hSH102.1) (fun vH106 H106 locsH106 pH106 zH106 kH106 hSH106 => ?_)
    have hqH106 := pH106.1.symm
    subst hqH106
    have hvH106 := pH106.2
    subst hvH106
    refine W.eq (g2 := F0 m 21 ls [.int (-1)]) rfl ?_
    refine lv_bipush (v := 10) hx hb dX10_reads_21 (by decide) ?_
    refine lv_icmp_ne (tgt := 39) hx hb dX10_reads_23 (by decide) (fun c107 => ?_) (fun c107 => ?_)
    · have k108 := i_ne c107
      refine lv_aload_n hx hb dX10_reads_39 rfl (lv_at hl 0 rfl) ?_
      refine lv_aload_n hx hb dX10_reads_40 rfl (lv_at hl 0 rfl) ?_
      refine x_gi C hT (ci := 10) (k := 19) rfl inX10 (by decide) wF_X10_192 gb rg_112 rfl dX10_reads_41 (fun x109 ex109 bx109 => ?_)
      have ux109 : x109 = 0 := ex109.trans h2
      subst ux109
      refine x_put C hT hSH106 (ci := 10) (k := 20) (v := .int 0) (ty0 := tyX10) rfl inX10 tyX10_ok nmX10 (by decide) rfl wF_X10_199 gb rg_112 rfl rfl (okI (by have := i_rng (0 : Int32); omega) (by have := i_rng (0 : Int32); omega)) rfl rfl (AE_in gb (by decide)) dX10_reads_44 (fun H110 locsH110 hTH110 hSH110 wH110 => ?_)
      have m111 := (Wr.neI wH110 (Or.inr (x_apart hKT hts inX10 tyX10 tyX10_ok nmX10 rfl 18 20 (by decide) (by decide) (by decide)))).trans h1
      have m112 := (Wr.neI wH110 (Or.inr (x_apart hKT hts inX10 tyX10 tyX10_ok nmX10 rfl 19 20 (by decide) (by decide) (by decide)))).trans h2
      have m113 := (Wr.neI wH110 (Or.inr (x_apart hKT hts inX10 tyX10 tyX10_ok nmX10 rfl 35 20 (by decide) (by decide) (by decide)))).trans h3
      have m114 := Wr.I wH110
      refine lv_aload_n hx hb dX10_reads_47 rfl (lv_at hl 0 rfl) ?_
      refine lv_iconst (v := 1) hx hb dX10_reads_48 (by decide) ?_
      refine x_put C hTH110 hSH110 (ci := 10) (k := 21) (v := .int 1) (ty0 := tyX10) rfl inX10 tyX10_ok nmX10 (by decide) rfl wF_X10_202 gb rg_112 rfl rfl (okI (by have := i_rng (1 : Int32); omega) (by have := i_rng (1 : Int32); omega)) rfl rfl (AE_in gb (by decide)) dX10_reads_49 (fun H115 locsH115 hTH115 hSH115 wH115 => ?_)
      have m116 := (Wr.neI wH115 (Or.inr (x_apart hKT hts inX10 tyX10 tyX10_ok nmX10 rfl 18 21 (by decide) (by decide) (by decide)))).trans m111
      have m117 := (Wr.neI wH115 (Or.inr (x_apart hKT hts inX10 tyX10 tyX10_ok nmX10 rfl 19 21 (by decide) (by decide) (by decide)))).trans m112
      have m118 := (Wr.neI wH115 (Or.inr (x_apart hKT hts inX10 tyX10 tyX10_ok nmX10 rfl 35 21 (by decide) (by decide) (by decide)))).trans m113
      have m119 := (Wr.neI wH115 (Or.inr (x_apart hKT hts inX10 tyX10 tyX10_ok nmX10 rfl 20 21 (by decide) (by decide) (by decide)))).trans m114
      have m120 := Wr.I wH115
      refine lv_aload_n hx hb dX10_reads_52 rfl (lv_at hl 0 rfl) ?_
      refine lv_aload_n hx hb dX10_reads_53 rfl (lv_at hl 0 rfl) ?_
      refine x_gi C hTH115 (ci := 10) (k := 19) rfl inX10 (by decide) wF_X10_192 gb rg_112 rfl dX10_reads_54 (fun x121 ex121 bx121 => ?_)
      have ux121 : x121 = 0 := ex121.trans m117
      subst ux121
      refine x_V (As := [.int 0]) (rest := []) C (f_X10_raw l K G H115 hTH115 gb m116) yo_X10_raw wM_X10_195 ⟨⟨by decide, by decide⟩, by decide, by decide⟩ (x_rv C hTH115 (ci := 10) rfl gb rg_112) rfl hl.1 rfl (Nat.le_of_ble_eq_true rfl) dX10_reads_57 hSH115 (AE_sub (fun _ _ => rfl) (by decide) hSH115.1) (fun vH122 H122 locsH122 pH122 zH122 kH122 hSH122 => ?_)
      have hqH122 := pH122.1.symm
      subst hqH122
      have hvH122 := pH122.2
      subst hvH122
      refine W.eq (g2 := F0 m 60 ls [.int (-1)]) rfl ?_
      refine lv_istore_n (lv' := [(1, .int (-1)), (0, .ref b)]) hx hb dX10_reads_60 rfl hl (by decide) rfl (fun ls123 hl124 => ?_)
      refine lv_iload_n hx hb dX10_reads_61 rfl (lv_at hl124 0 rfl) ?_
      refine lv_iconst (v := (-1)) hx hb dX10_reads_62 (by decide) ?_
      refine lv_icmp_ne (tgt := 72) hx hb dX10_reads_63 (by decide) (fun c125 => ?_) (fun c125 => ?_)
      · have k126 := i_ne c125
        exfalso
        omega
      · have k126 := i_eq c125
        refine lv_aload_n hx hb dX10_reads_66 rfl (lv_at hl124 1 rfl) ?_
        refine lv_iconst (v := 0) hx hb dX10_reads_67 (by decide) ?_
        refine x_put C hTH115 hSH122 (ci := 10) (k := 21) (v := .int 0) (ty0 := tyX10) rfl inX10 tyX10_ok nmX10 (by decide) rfl wF_X10_202 gb rg_112 rfl rfl (okI (by have := i_rng (0 : Int32); omega) (by have := i_rng (0 : Int32); omega)) rfl rfl (AE_in gb (by decide)) dX10_reads_68 (fun H127 locsH127 hTH127 hSH127 wH127 => ?_)
        have m128 := (Wr.neI wH127 (Or.inr (x_apart hKT hts inX10 tyX10 tyX10_ok nmX10 rfl 18 21 (by decide) (by decide) (by decide)))).trans m116
        have m129 := (Wr.neI wH127 (Or.inr (x_apart hKT hts inX10 tyX10 tyX10_ok nmX10 rfl 19 21 (by decide) (by decide) (by decide)))).trans m117
        have m130 := (Wr.neI wH127 (Or.inr (x_apart hKT hts inX10 tyX10 tyX10_ok nmX10 rfl 35 21 (by decide) (by decide) (by decide)))).trans m118
        have m131 := (Wr.neI wH127 (Or.inr (x_apart hKT hts inX10 tyX10 tyX10_ok nmX10 rfl 20 21 (by decide) (by decide) (by decide)))).trans m119
        have m133 := Wr.I wH127
        exact x_vret C hQ dX10_reads_71 hSH127 (by decide) (by decide) (⟨rfl, hTH127, m133, m130⟩)
    · have k108 := i_eq c107
      exfalso
      omega

set_option maxHeartbeats 4000000 in
set_option maxRecDepth 100000 in
theorem f_X10_isBegin (l : Launch) (K : KE) (G : Nat → Option Nat) (H : Heap) {b : Nat} (hT : TY K G H) (gb : G b = some 112) (h1 : fI H b (K.1.2 10 21) = 0) : MX l K yX10_isBegin cX10_isBegin 1 (some .boolean) 0 0 0 0 [.ref b] H (AE G [] H.size) (fun v H1 => H1 = H ∧ v = some (.int 0)) := by
  refine MX.of (by decide +kernel) (Nat.le_of_ble_eq_true rfl) ?_
  intro p e s m below meth c ls Q C hH hl hQ
  subst hH
  have C : CX p K s m _ meth c RX10 cX10_isBegin 1 (some .boolean) "isBegin" := C
  obtain ⟨hx, hb, hml, hown, hts, hKT, hr, hlocks, hnm⟩ := id C
  have hl : lv_has ls 1 [(0, .ref b)] := hl
  have hS : va_S (AE G [] s.heap.size) s.heap s.heap [] := va_S.rf
  have n_0 : (0 : Int32).toInt = 0 := rfl
  have n_2 : (2 : Int32).toInt = 2 := rfl
  refine lv_aload_n hx hb dX10_isBegin_0 rfl (lv_at hl 0 rfl) ?_
  refine x_gi C hT (ci := 10) (k := 21) rfl inX10 (by decide) wF_X10_202 gb rg_112 rfl dX10_isBegin_1 (fun x101 ex101 bx101 => ?_)
  have ux101 : x101 = 0 := ex101.trans h1
  subst ux101
  refine lv_iconst (v := 2) hx hb dX10_isBegin_4 (by decide) ?_
  refine lv_icmp_eq (tgt := 10) hx hb dX10_isBegin_5 (by decide) (fun c102 => ?_) (fun c102 => ?_)
  · have k103 := i_eq c102
    exfalso
    omega
  · have k103 := i_ne c102
    refine lv_iconst (v := 0) hx hb dX10_isBegin_8 (by decide) ?_
    exact x_zret C hQ (Or.inl rfl) dX10_isBegin_9 hS (by decide) (by decide) (⟨rfl, rfl⟩)

set_option maxHeartbeats 4000000 in
set_option maxRecDepth 100000 in
theorem f_X10_readText (l : Launch) (K : KE) (G : Nat → Option Nat) (H : Heap) {b : Nat} (hT : TY K G H) (gb : G b = some 112) (h1 : fI H b (K.1.2 10 21) = 0) : MX l K yX10_readText cX10_readText 2 (some .int) 1 20 0 0 [.ref b] H (AE G [] H.size) (fun v H1 => H1 = H ∧ v = some (.int 0)) := by
  refine MX.of (by decide +kernel) (Nat.le_of_ble_eq_true rfl) ?_
  intro p e s m below meth c ls Q C hH hl hQ
  subst hH
  have C : CX p K s m _ meth c RX10 cX10_readText 2 (some .int) "readText" := C
  obtain ⟨hx, hb, hml, hown, hts, hKT, hr, hlocks, hnm⟩ := id C
  have hl : lv_has ls 2 [(0, .ref b)] := hl
  have hS : va_S (AE G [] s.heap.size) s.heap s.heap [] := va_S.rf
  have n_0 : (0 : Int32).toInt = 0 := rfl
  refine lv_iconst (v := 0) hx hb dX10_readText_0 (by decide) ?_
  refine lv_istore_n (lv' := [(1, .int 0), (0, .ref b)]) hx hb dX10_readText_1 rfl hl (by decide) rfl (fun ls101 hl102 => ?_)
  refine lv_aload_n hx hb dX10_readText_2 rfl (lv_at hl102 1 rfl) ?_
  refine x_V (As := []) (rest := []) C (f_X10_isBegin l K G s.heap hT gb h1) yo_X10_isBegin wM_X10_285 ⟨⟨by decide, by decide⟩, by decide, by decide⟩ (x_rv C hT (ci := 10) rfl gb rg_112) rfl hl102.1 rfl (Nat.le_of_ble_eq_true rfl) dX10_readText_3 hS (AE_sub (fun _ _ => rfl) (by decide) hS.1) (fun vH103 H103 locsH103 pH103 zH103 kH103 hSH103 => ?_)
  have hqH103 := pH103.1.symm
  subst hqH103
  have hvH103 := pH103.2
  subst hvH103
  refine W.eq (g2 := F0 m 6 ls101 [.int 0]) rfl ?_
  refine lv_if_eq (tgt := 42) hx hb dX10_readText_6 (by decide) (fun c104 => ?_) (fun c104 => ?_)
  · have k105 := i_eq c104
    refine lv_aload_n hx hb dX10_readText_42 rfl (lv_at hl102 1 rfl) ?_
    refine x_gi C hT (ci := 10) (k := 21) rfl inX10 (by decide) wF_X10_202 gb rg_112 rfl dX10_readText_43 (fun x106 ex106 bx106 => ?_)
    have ux106 : x106 = 0 := ex106.trans h1
    subst ux106
    refine lv_if_ne (tgt := 53) hx hb dX10_readText_46 (by decide) (fun c107 => ?_) (fun c107 => ?_)
    · have k108 := i_ne c107
      exfalso
      omega
    · have k108 := i_eq c107
      refine lv_iload_n hx hb dX10_readText_49 rfl (lv_at hl102 0 rfl) ?_
      refine lv_goto (tgt := 58) hx hb dX10_readText_50 (by decide) ?_
      exact x_iret C hQ dX10_readText_58 hSH103 (by decide) (by decide) (⟨rfl, rfl⟩)
  · have k105 := i_ne c104
    exfalso
    omega

set_option maxHeartbeats 4000000 in
set_option maxRecDepth 100000 in
theorem f_X10_text (l : Launch) (K : KE) (G : Nat → Option Nat) (H : Heap) {b : Nat} (x0 : Int32) (x1 : Int32) (hT : TY K G H) (gb : G b = some 112) (fx : FM K H b) : MX l K yX10_text cX10_text 7 (some .int) 2 42 0 0 [.ref b, .int x0, .int x1] H (AE G [112, 128] H.size) (fun v H1 => (∃ r : Int32, v = some (.int r) ∧ ((((x0.toInt = 0 ∧ 0 ≤ x1.toInt ∧ x1.toInt ≤ 1) ∨ (x0.toInt = 1 ∧ 0 ≤ x1.toInt ∧ x1.toInt ≤ 3)) ∧ r.toInt = 0) ∨ (¬ ((x0.toInt = 0 ∧ 0 ≤ x1.toInt ∧ x1.toInt ≤ 1) ∨ (x0.toInt = 1 ∧ 0 ≤ x1.toInt ∧ x1.toInt ≤ 3)) ∧ r.toInt = -1))) ∧ ∃ G1 : Nat → Option Nat, (∀ q, q < H.size → G1 q = G q) ∧ TY K G1 H1) := by
  refine MX.of (by decide +kernel) (Nat.le_of_ble_eq_true rfl) ?_
  intro p e s m below meth c ls Q C hH hl hQ
  subst hH
  have C : CX p K s m _ meth c RX10 cX10_text 7 (some .int) "text" := C
  obtain ⟨hx, hb, hml, hown, hts, hKT, hr, hlocks, hnm⟩ := id C
  have hl : lv_has ls 7 [(0, .ref b), (1, .int x0), (2, .int x1)] := hl
  have hS : va_S (AE G [112, 128] s.heap.size) s.heap s.heap [] := va_S.rf
  have n_m1 : ((-1) : Int32).toInt = -1 := rfl
  have n_0 : (0 : Int32).toInt = 0 := rfl
  have n_1 : (1 : Int32).toInt = 1 := rfl
  have n_2 : (2 : Int32).toInt = 2 := rfl
  have n_3 : (3 : Int32).toInt = 3 := rfl
  obtain ⟨f1, f2, f3, f4, f5, f6, f7, f8, f9, f10⟩ := fx
  refine lv_aload_n hx hb dX10_text_0 rfl (lv_at hl 0 rfl) ?_
  refine lv_iconst (v := 0) hx hb dX10_text_1 (by decide) ?_
  refine x_put C hT hS (ci := 10) (k := 0) (v := .int 0) (ty0 := tyX10) rfl inX10 tyX10_ok nmX10 (by decide) rfl wF_X10_167 gb rg_112 rfl rfl (okI (by have := i_rng (0 : Int32); omega) (by have := i_rng (0 : Int32); omega)) rfl rfl (AE_in gb (by decide)) dX10_text_2 (fun H101 locsH101 hTH101 hSH101 wH101 => ?_)
  have m102 := (Wr.neI wH101 (Or.inr (x_apart hKT hts inX10 tyX10 tyX10_ok nmX10 rfl 1 0 (by decide) (by decide) (by decide)))).trans f1
  have m103 := (Wr.neI wH101 (Or.inr (x_apart hKT hts inX10 tyX10 tyX10_ok nmX10 rfl 2 0 (by decide) (by decide) (by decide)))).trans f2
  have m104 := (Wr.neI wH101 (Or.inr (x_apart hKT hts inX10 tyX10 tyX10_ok nmX10 rfl 3 0 (by decide) (by decide) (by decide)))).trans f3
  have m105 := (Wr.neI wH101 (Or.inr (x_apart hKT hts inX10 tyX10 tyX10_ok nmX10 rfl 18 0 (by decide) (by decide) (by decide)))).trans f4
  have m106 := (Wr.neI wH101 (Or.inr (x_apart hKT hts inX10 tyX10 tyX10_ok nmX10 rfl 41 0 (by decide) (by decide) (by decide)))).trans f5
  have m107 := (Wr.neI wH101 (Or.inr (x_apart hKT hts inX10 tyX10 tyX10_ok nmX10 rfl 42 0 (by decide) (by decide) (by decide)))).trans f6
  have m108 := (Wr.neI wH101 (Or.inr (x_apart hKT hts inX10 tyX10 tyX10_ok nmX10 rfl 59 0 (by decide) (by decide) (by decide)))).trans f7
  have m109 := (Wr.neI wH101 (Or.inr (x_apart hKT hts inX10 tyX10 tyX10_ok nmX10 rfl 62 0 (by decide) (by decide) (by decide)))).trans f8
  have m110 := (Wr.neI wH101 (Or.inr (x_apart hKT hts inX10 tyX10 tyX10_ok nmX10 rfl 65 0 (by decide) (by decide) (by decide)))).trans f9
  have m111 := (Wr.neI wH101 (Or.inr (x_apart hKT hts inX10 tyX10 tyX10_ok nmX10 rfl 70 0 (by decide) (by decide) (by decide)))).trans f10
  have m112 := Wr.I wH101
  refine lv_aload_n hx hb dX10_text_5 rfl (lv_at hl 0 rfl) ?_
  refine lv_iconst (v := 0) hx hb dX10_text_6 (by decide) ?_
  refine x_put C hTH101 hSH101 (ci := 10) (k := 41) (v := .int 0) (ty0 := tyX10) rfl inX10 tyX10_ok nmX10 (by decide) rfl wF_X10_292 gb rg_112 rfl rfl (okI (by have := i_rng (0 : Int32); omega) (by have := i_rng (0 : Int32); omega)) rfl rfl (AE_in gb (by decide)) dX10_text_7 (fun H113 locsH113 hTH113 hSH113 wH113 => ?_)
  have m114 := (Wr.neI wH113 (Or.inr (x_apart hKT hts inX10 tyX10 tyX10_ok nmX10 rfl 1 41 (by decide) (by decide) (by decide)))).trans m102
  have m115 := (Wr.neI wH113 (Or.inr (x_apart hKT hts inX10 tyX10 tyX10_ok nmX10 rfl 2 41 (by decide) (by decide) (by decide)))).trans m103
  have m116 := (Wr.neI wH113 (Or.inr (x_apart hKT hts inX10 tyX10 tyX10_ok nmX10 rfl 3 41 (by decide) (by decide) (by decide)))).trans m104
  have m117 := (Wr.neI wH113 (Or.inr (x_apart hKT hts inX10 tyX10 tyX10_ok nmX10 rfl 18 41 (by decide) (by decide) (by decide)))).trans m105
  have m119 := (Wr.neI wH113 (Or.inr (x_apart hKT hts inX10 tyX10 tyX10_ok nmX10 rfl 42 41 (by decide) (by decide) (by decide)))).trans m107
  have m120 := (Wr.neI wH113 (Or.inr (x_apart hKT hts inX10 tyX10 tyX10_ok nmX10 rfl 59 41 (by decide) (by decide) (by decide)))).trans m108
  have m121 := (Wr.neI wH113 (Or.inr (x_apart hKT hts inX10 tyX10 tyX10_ok nmX10 rfl 62 41 (by decide) (by decide) (by decide)))).trans m109
  have m122 := (Wr.neI wH113 (Or.inr (x_apart hKT hts inX10 tyX10 tyX10_ok nmX10 rfl 65 41 (by decide) (by decide) (by decide)))).trans m110
  have m123 := (Wr.neI wH113 (Or.inr (x_apart hKT hts inX10 tyX10 tyX10_ok nmX10 rfl 70 41 (by decide) (by decide) (by decide)))).trans m111
  have m124 := (Wr.neI wH113 (Or.inr (x_apart hKT hts inX10 tyX10 tyX10_ok nmX10 rfl 0 41 (by decide) (by decide) (by decide)))).trans m112
  have m125 := Wr.I wH113
  refine lv_aload_n hx hb dX10_text_10 rfl (lv_at hl 0 rfl) ?_
  refine lv_iconst (v := (-1)) hx hb dX10_text_11 (by decide) ?_
  refine x_put C hTH113 hSH113 (ci := 10) (k := 42) (v := .int (-1)) (ty0 := tyX10) rfl inX10 tyX10_ok nmX10 (by decide) rfl wF_X10_92 gb rg_112 rfl rfl (okI (by have := i_rng ((-1) : Int32); omega) (by have := i_rng ((-1) : Int32); omega)) rfl rfl (AE_in gb (by decide)) dX10_text_12 (fun H126 locsH126 hTH126 hSH126 wH126 => ?_)
  have m127 := (Wr.neI wH126 (Or.inr (x_apart hKT hts inX10 tyX10 tyX10_ok nmX10 rfl 1 42 (by decide) (by decide) (by decide)))).trans m114
  have m128 := (Wr.neI wH126 (Or.inr (x_apart hKT hts inX10 tyX10 tyX10_ok nmX10 rfl 2 42 (by decide) (by decide) (by decide)))).trans m115
  have m129 := (Wr.neI wH126 (Or.inr (x_apart hKT hts inX10 tyX10 tyX10_ok nmX10 rfl 3 42 (by decide) (by decide) (by decide)))).trans m116
  have m130 := (Wr.neI wH126 (Or.inr (x_apart hKT hts inX10 tyX10 tyX10_ok nmX10 rfl 18 42 (by decide) (by decide) (by decide)))).trans m117
  have m132 := (Wr.neI wH126 (Or.inr (x_apart hKT hts inX10 tyX10 tyX10_ok nmX10 rfl 59 42 (by decide) (by decide) (by decide)))).trans m120
  have m133 := (Wr.neI wH126 (Or.inr (x_apart hKT hts inX10 tyX10 tyX10_ok nmX10 rfl 62 42 (by decide) (by decide) (by decide)))).trans m121
  have m134 := (Wr.neI wH126 (Or.inr (x_apart hKT hts inX10 tyX10 tyX10_ok nmX10 rfl 65 42 (by decide) (by decide) (by decide)))).trans m122
  have m135 := (Wr.neI wH126 (Or.inr (x_apart hKT hts inX10 tyX10 tyX10_ok nmX10 rfl 70 42 (by decide) (by decide) (by decide)))).trans m123
  have m136 := (Wr.neI wH126 (Or.inr (x_apart hKT hts inX10 tyX10 tyX10_ok nmX10 rfl 0 42 (by decide) (by decide) (by decide)))).trans m124
  have m137 := (Wr.neI wH126 (Or.inr (x_apart hKT hts inX10 tyX10 tyX10_ok nmX10 rfl 41 42 (by decide) (by decide) (by decide)))).trans m125
  have m138 := Wr.I wH126
  refine lv_iload_n hx hb dX10_text_15 rfl (lv_at hl 1 rfl) ?_
  refine lv_if_ne (tgt := 29) hx hb dX10_text_16 (by decide) (fun c139 => ?_) (fun c139 => ?_)
  · have k140 := i_ne c139
    refine lv_iload_n hx hb dX10_text_29 rfl (lv_at hl 1 rfl) ?_
    refine lv_iconst (v := 1) hx hb dX10_text_30 (by decide) ?_
    refine lv_icmp_ne (tgt := 48) hx hb dX10_text_31 (by decide) (fun c141 => ?_) (fun c141 => ?_)
    · have k142 := i_ne c141
      refine lv_iconst (v := 0) hx hb dX10_text_48 (by decide) ?_
      refine lv_istore_n (lv' := [(3, .int 0), (0, .ref b), (1, .int x0), (2, .int x1)]) hx hb dX10_text_49 rfl hl (by decide) rfl (fun ls143 hl144 => ?_)
      refine lv_aload_n hx hb dX10_text_50 rfl (lv_at hl144 1 rfl) ?_
      refine lv_iload_n hx hb dX10_text_51 rfl (lv_at hl144 2 rfl) ?_
      refine lv_iconst (v := 1) hx hb dX10_text_52 (by decide) ?_
      refine lv_icmp_ne (tgt := 60) hx hb dX10_text_53 (by decide) (fun c145 => ?_) (fun c145 => ?_)
      · have k146 := i_ne c145
        refine lv_iconst (v := 0) hx hb dX10_text_60 (by decide) ?_
        refine x_put C hTH126 hSH126 (ci := 10) (k := 34) (v := .int 0) (ty0 := tyX10) rfl inX10 tyX10_ok nmX10 (by decide) rfl wF_X10_231 gb rg_112 rfl rfl (okI (by have := i_rng (0 : Int32); omega) (by have := i_rng (0 : Int32); omega)) rfl rfl (AE_in gb (by decide)) dX10_text_61 (fun H147 locsH147 hTH147 hSH147 wH147 => ?_)
        have m148 := (Wr.neI wH147 (Or.inr (x_apart hKT hts inX10 tyX10 tyX10_ok nmX10 rfl 1 34 (by decide) (by decide) (by decide)))).trans m127
        have m149 := (Wr.neI wH147 (Or.inr (x_apart hKT hts inX10 tyX10 tyX10_ok nmX10 rfl 2 34 (by decide) (by decide) (by decide)))).trans m128
        have m150 := (Wr.neI wH147 (Or.inr (x_apart hKT hts inX10 tyX10 tyX10_ok nmX10 rfl 3 34 (by decide) (by decide) (by decide)))).trans m129
        have m151 := (Wr.neI wH147 (Or.inr (x_apart hKT hts inX10 tyX10 tyX10_ok nmX10 rfl 18 34 (by decide) (by decide) (by decide)))).trans m130
        have m152 := (Wr.neI wH147 (Or.inr (x_apart hKT hts inX10 tyX10 tyX10_ok nmX10 rfl 59 34 (by decide) (by decide) (by decide)))).trans m132
        have m153 := (Wr.neI wH147 (Or.inr (x_apart hKT hts inX10 tyX10 tyX10_ok nmX10 rfl 62 34 (by decide) (by decide) (by decide)))).trans m133
        have m154 := (Wr.neI wH147 (Or.inr (x_apart hKT hts inX10 tyX10 tyX10_ok nmX10 rfl 65 34 (by decide) (by decide) (by decide)))).trans m134
        have m155 := (Wr.neI wH147 (Or.inr (x_apart hKT hts inX10 tyX10 tyX10_ok nmX10 rfl 70 34 (by decide) (by decide) (by decide)))).trans m135
        have m156 := (Wr.neI wH147 (Or.inr (x_apart hKT hts inX10 tyX10 tyX10_ok nmX10 rfl 0 34 (by decide) (by decide) (by decide)))).trans m136
        have m157 := (Wr.neI wH147 (Or.inr (x_apart hKT hts inX10 tyX10 tyX10_ok nmX10 rfl 41 34 (by decide) (by decide) (by decide)))).trans m137
        have m158 := (Wr.neI wH147 (Or.inr (x_apart hKT hts inX10 tyX10 tyX10_ok nmX10 rfl 42 34 (by decide) (by decide) (by decide)))).trans m138
        have m159 := Wr.I wH147
        refine lv_aload_n hx hb dX10_text_64 rfl (lv_at hl144 1 rfl) ?_
        refine lv_iconst (v := 0) hx hb dX10_text_65 (by decide) ?_
        refine x_put C hTH147 hSH147 (ci := 10) (k := 19) (v := .int 0) (ty0 := tyX10) rfl inX10 tyX10_ok nmX10 (by decide) rfl wF_X10_192 gb rg_112 rfl rfl (okI (by have := i_rng (0 : Int32); omega) (by have := i_rng (0 : Int32); omega)) rfl rfl (AE_in gb (by decide)) dX10_text_66 (fun H160 locsH160 hTH160 hSH160 wH160 => ?_)
        have m161 := (Wr.neI wH160 (Or.inr (x_apart hKT hts inX10 tyX10 tyX10_ok nmX10 rfl 1 19 (by decide) (by decide) (by decide)))).trans m148
        have m162 := (Wr.neI wH160 (Or.inr (x_apart hKT hts inX10 tyX10 tyX10_ok nmX10 rfl 2 19 (by decide) (by decide) (by decide)))).trans m149
        have m163 := (Wr.neI wH160 (Or.inr (x_apart hKT hts inX10 tyX10 tyX10_ok nmX10 rfl 3 19 (by decide) (by decide) (by decide)))).trans m150
        have m164 := (Wr.neI wH160 (Or.inr (x_apart hKT hts inX10 tyX10 tyX10_ok nmX10 rfl 18 19 (by decide) (by decide) (by decide)))).trans m151
        have m165 := (Wr.neI wH160 (Or.inr (x_apart hKT hts inX10 tyX10 tyX10_ok nmX10 rfl 59 19 (by decide) (by decide) (by decide)))).trans m152
        have m166 := (Wr.neI wH160 (Or.inr (x_apart hKT hts inX10 tyX10 tyX10_ok nmX10 rfl 62 19 (by decide) (by decide) (by decide)))).trans m153
        have m167 := (Wr.neI wH160 (Or.inr (x_apart hKT hts inX10 tyX10 tyX10_ok nmX10 rfl 65 19 (by decide) (by decide) (by decide)))).trans m154
        have m168 := (Wr.neI wH160 (Or.inr (x_apart hKT hts inX10 tyX10 tyX10_ok nmX10 rfl 70 19 (by decide) (by decide) (by decide)))).trans m155
        have m169 := (Wr.neI wH160 (Or.inr (x_apart hKT hts inX10 tyX10 tyX10_ok nmX10 rfl 0 19 (by decide) (by decide) (by decide)))).trans m156
        have m170 := (Wr.neI wH160 (Or.inr (x_apart hKT hts inX10 tyX10 tyX10_ok nmX10 rfl 41 19 (by decide) (by decide) (by decide)))).trans m157
        have m171 := (Wr.neI wH160 (Or.inr (x_apart hKT hts inX10 tyX10 tyX10_ok nmX10 rfl 42 19 (by decide) (by decide) (by decide)))).trans m158
        have m172 := (Wr.neI wH160 (Or.inr (x_apart hKT hts inX10 tyX10 tyX10_ok nmX10 rfl 34 19 (by decide) (by decide) (by decide)))).trans m159
        have m173 := Wr.I wH160
        refine lv_aload_n hx hb dX10_text_69 rfl (lv_at hl144 1 rfl) ?_
        refine lv_iconst (v := 0) hx hb dX10_text_70 (by decide) ?_
        refine x_put C hTH160 hSH160 (ci := 10) (k := 35) (v := .int 0) (ty0 := tyX10) rfl inX10 tyX10_ok nmX10 (by decide) rfl wF_X10_228 gb rg_112 rfl rfl (okI (by have := i_rng (0 : Int32); omega) (by have := i_rng (0 : Int32); omega)) rfl rfl (AE_in gb (by decide)) dX10_text_71 (fun H174 locsH174 hTH174 hSH174 wH174 => ?_)
        have m175 := (Wr.neI wH174 (Or.inr (x_apart hKT hts inX10 tyX10 tyX10_ok nmX10 rfl 1 35 (by decide) (by decide) (by decide)))).trans m161
        have m176 := (Wr.neI wH174 (Or.inr (x_apart hKT hts inX10 tyX10 tyX10_ok nmX10 rfl 2 35 (by decide) (by decide) (by decide)))).trans m162
        have m177 := (Wr.neI wH174 (Or.inr (x_apart hKT hts inX10 tyX10 tyX10_ok nmX10 rfl 3 35 (by decide) (by decide) (by decide)))).trans m163
        have m178 := (Wr.neI wH174 (Or.inr (x_apart hKT hts inX10 tyX10 tyX10_ok nmX10 rfl 18 35 (by decide) (by decide) (by decide)))).trans m164
        have m179 := (Wr.neI wH174 (Or.inr (x_apart hKT hts inX10 tyX10 tyX10_ok nmX10 rfl 59 35 (by decide) (by decide) (by decide)))).trans m165
        have m180 := (Wr.neI wH174 (Or.inr (x_apart hKT hts inX10 tyX10 tyX10_ok nmX10 rfl 62 35 (by decide) (by decide) (by decide)))).trans m166
        have m181 := (Wr.neI wH174 (Or.inr (x_apart hKT hts inX10 tyX10 tyX10_ok nmX10 rfl 65 35 (by decide) (by decide) (by decide)))).trans m167
        have m182 := (Wr.neI wH174 (Or.inr (x_apart hKT hts inX10 tyX10 tyX10_ok nmX10 rfl 70 35 (by decide) (by decide) (by decide)))).trans m168
        have m183 := (Wr.neI wH174 (Or.inr (x_apart hKT hts inX10 tyX10 tyX10_ok nmX10 rfl 0 35 (by decide) (by decide) (by decide)))).trans m169
        have m184 := (Wr.neI wH174 (Or.inr (x_apart hKT hts inX10 tyX10 tyX10_ok nmX10 rfl 41 35 (by decide) (by decide) (by decide)))).trans m170
        have m185 := (Wr.neI wH174 (Or.inr (x_apart hKT hts inX10 tyX10 tyX10_ok nmX10 rfl 42 35 (by decide) (by decide) (by decide)))).trans m171
        have m186 := (Wr.neI wH174 (Or.inr (x_apart hKT hts inX10 tyX10 tyX10_ok nmX10 rfl 34 35 (by decide) (by decide) (by decide)))).trans m172
        have m187 := (Wr.neI wH174 (Or.inr (x_apart hKT hts inX10 tyX10 tyX10_ok nmX10 rfl 19 35 (by decide) (by decide) (by decide)))).trans m173
        have m188 := Wr.I wH174
        refine lv_aload_n hx hb dX10_text_74 rfl (lv_at hl144 1 rfl) ?_
        refine lv_iconst (v := 0) hx hb dX10_text_75 (by decide) ?_
        refine x_put C hTH174 hSH174 (ci := 10) (k := 36) (v := .int 0) (ty0 := tyX10) rfl inX10 tyX10_ok nmX10 (by decide) rfl wF_X10_261 gb rg_112 rfl rfl (okI (by have := i_rng (0 : Int32); omega) (by have := i_rng (0 : Int32); omega)) rfl rfl (AE_in gb (by decide)) dX10_text_76 (fun H189 locsH189 hTH189 hSH189 wH189 => ?_)
        have m190 := (Wr.neI wH189 (Or.inr (x_apart hKT hts inX10 tyX10 tyX10_ok nmX10 rfl 1 36 (by decide) (by decide) (by decide)))).trans m175
        have m191 := (Wr.neI wH189 (Or.inr (x_apart hKT hts inX10 tyX10 tyX10_ok nmX10 rfl 2 36 (by decide) (by decide) (by decide)))).trans m176
        have m192 := (Wr.neI wH189 (Or.inr (x_apart hKT hts inX10 tyX10 tyX10_ok nmX10 rfl 3 36 (by decide) (by decide) (by decide)))).trans m177
        have m193 := (Wr.neI wH189 (Or.inr (x_apart hKT hts inX10 tyX10 tyX10_ok nmX10 rfl 18 36 (by decide) (by decide) (by decide)))).trans m178
        have m194 := (Wr.neI wH189 (Or.inr (x_apart hKT hts inX10 tyX10 tyX10_ok nmX10 rfl 59 36 (by decide) (by decide) (by decide)))).trans m179
        have m195 := (Wr.neI wH189 (Or.inr (x_apart hKT hts inX10 tyX10 tyX10_ok nmX10 rfl 62 36 (by decide) (by decide) (by decide)))).trans m180
        have m196 := (Wr.neI wH189 (Or.inr (x_apart hKT hts inX10 tyX10 tyX10_ok nmX10 rfl 65 36 (by decide) (by decide) (by decide)))).trans m181
        have m197 := (Wr.neI wH189 (Or.inr (x_apart hKT hts inX10 tyX10 tyX10_ok nmX10 rfl 70 36 (by decide) (by decide) (by decide)))).trans m182
        have m198 := (Wr.neI wH189 (Or.inr (x_apart hKT hts inX10 tyX10 tyX10_ok nmX10 rfl 0 36 (by decide) (by decide) (by decide)))).trans m183
        have m199 := (Wr.neI wH189 (Or.inr (x_apart hKT hts inX10 tyX10 tyX10_ok nmX10 rfl 41 36 (by decide) (by decide) (by decide)))).trans m184
        have m200 := (Wr.neI wH189 (Or.inr (x_apart hKT hts inX10 tyX10 tyX10_ok nmX10 rfl 42 36 (by decide) (by decide) (by decide)))).trans m185
        have m201 := (Wr.neI wH189 (Or.inr (x_apart hKT hts inX10 tyX10 tyX10_ok nmX10 rfl 34 36 (by decide) (by decide) (by decide)))).trans m186
        have m202 := (Wr.neI wH189 (Or.inr (x_apart hKT hts inX10 tyX10 tyX10_ok nmX10 rfl 19 36 (by decide) (by decide) (by decide)))).trans m187
        have m203 := (Wr.neI wH189 (Or.inr (x_apart hKT hts inX10 tyX10 tyX10_ok nmX10 rfl 35 36 (by decide) (by decide) (by decide)))).trans m188
        have m204 := Wr.I wH189
        refine lv_aload_n hx hb dX10_text_79 rfl (lv_at hl144 1 rfl) ?_
        refine x_V (As := []) (rest := []) C (f_X10_reads l K G H189 hTH189 gb m193 m202 m203) yo_X10_reads wM_X10_242 ⟨⟨by decide, by decide⟩, by decide, by decide⟩ (x_rv C hTH189 (ci := 10) rfl gb rg_112) rfl hl144.1 rfl (Nat.le_of_ble_eq_true rfl) dX10_text_80 hSH189 (AE_sub (fun _ _ => rfl) (by decide) hSH189.1) (fun vH205 H205 locsH205 pH205 zH205 kH205 hSH205 => ?_)
        have hTH205 := pH205.2.1
        have hvH205 := pH205.1
        subst hvH205
        obtain ⟨c1H205, c2H205⟩ := pH205.2.2
        refine W.eq (g2 := F0 m 83 ls143 []) rfl ?_
        refine lv_iload_n hx hb dX10_text_83 rfl (lv_at hl144 0 rfl) ?_
        refine lv_if_eq (tgt := 94) hx hb dX10_text_84 (by decide) (fun c206 => ?_) (fun c206 => ?_)
        · have k207 := i_eq c206
          refine lv_iconst (v := (-1)) hx hb dX10_text_94 (by decide) ?_
          refine lv_istore (lv' := [(4, .int (-1)), (3, .int 0), (0, .ref b), (1, .int x0), (2, .int x1)]) hx hb dX10_text_95 hl144 (by decide) rfl (fun ls208 hl209 => ?_)
          refine lv_aload_n hx hb dX10_text_97 rfl (lv_at hl209 2 rfl) ?_
          refine lv_iconst (v := 0) hx hb dX10_text_98 (by decide) ?_
          refine x_put C hTH205 hSH205 (ci := 10) (k := 18) (v := .int 0) (ty0 := tyX10) rfl inX10 tyX10_ok nmX10 (by decide) rfl wF_X10_185 gb rg_112 rfl rfl (okI (by have := i_rng (0 : Int32); omega) (by have := i_rng (0 : Int32); omega)) rfl rfl (AE_in gb (by decide)) dX10_text_99 (fun H210 locsH210 hTH210 hSH210 wH210 => ?_)
          have m211 := (Wr.neI wH210 (Or.inr (x_apart hKT hts inX10 tyX10 tyX10_ok nmX10 rfl 21 18 (by decide) (by decide) (by decide)))).trans c1H205
          have m212 := (Wr.neI wH210 (Or.inr (x_apart hKT hts inX10 tyX10 tyX10_ok nmX10 rfl 35 18 (by decide) (by decide) (by decide)))).trans c2H205
          have m213 := Wr.I wH210
          refine lv_iload_n hx hb dX10_text_102 rfl (lv_at hl209 1 rfl) ?_
          refine lv_if_eq (tgt := 128) hx hb dX10_text_103 (by decide) (fun c214 => ?_) (fun c214 => ?_)
          · have k215 := i_eq c214
            refine lv_iload hx hb dX10_text_128 (lv_at hl209 0 rfl) ?_
            refine lv_iconst (v := (-1)) hx hb dX10_text_130 (by decide) ?_
            refine lv_icmp_ne (tgt := 136) hx hb dX10_text_131 (by decide) (fun c216 => ?_) (fun c216 => ?_)
            · have k217 := i_ne c216
              exfalso
              omega
            · have k217 := i_eq c216
              refine lv_iconst (v := (-1)) hx hb dX10_text_134 (by decide) ?_
              exact x_iret C hQ dX10_text_135 hSH210 (by decide) (by decide) (⟨⟨(-1), rfl, by omega⟩, G, fun _ _ => rfl, hTH210⟩)
          · have k215 := i_ne c214
            exfalso
            omega
        · have k207 := i_ne c206
          exfalso
          omega
      · have k146 := i_eq c145
        refine lv_iconst (v := 1) hx hb dX10_text_56 (by decide) ?_
        refine lv_goto (tgt := 61) hx hb dX10_text_57 (by decide) ?_
        refine x_put C hTH126 hSH126 (ci := 10) (k := 34) (v := .int 1) (ty0 := tyX10) rfl inX10 tyX10_ok nmX10 (by decide) rfl wF_X10_231 gb rg_112 rfl rfl (okI (by have := i_rng (1 : Int32); omega) (by have := i_rng (1 : Int32); omega)) rfl rfl (AE_in gb (by decide)) dX10_text_61 (fun H218 locsH218 hTH218 hSH218 wH218 => ?_)
        have m219 := (Wr.neI wH218 (Or.inr (x_apart hKT hts inX10 tyX10 tyX10_ok nmX10 rfl 1 34 (by decide) (by decide) (by decide)))).trans m127
        have m220 := (Wr.neI wH218 (Or.inr (x_apart hKT hts inX10 tyX10 tyX10_ok nmX10 rfl 2 34 (by decide) (by decide) (by decide)))).trans m128
        have m221 := (Wr.neI wH218 (Or.inr (x_apart hKT hts inX10 tyX10 tyX10_ok nmX10 rfl 3 34 (by decide) (by decide) (by decide)))).trans m129
        have m222 := (Wr.neI wH218 (Or.inr (x_apart hKT hts inX10 tyX10 tyX10_ok nmX10 rfl 18 34 (by decide) (by decide) (by decide)))).trans m130
        have m223 := (Wr.neI wH218 (Or.inr (x_apart hKT hts inX10 tyX10 tyX10_ok nmX10 rfl 59 34 (by decide) (by decide) (by decide)))).trans m132
        have m224 := (Wr.neI wH218 (Or.inr (x_apart hKT hts inX10 tyX10 tyX10_ok nmX10 rfl 62 34 (by decide) (by decide) (by decide)))).trans m133
        have m225 := (Wr.neI wH218 (Or.inr (x_apart hKT hts inX10 tyX10 tyX10_ok nmX10 rfl 65 34 (by decide) (by decide) (by decide)))).trans m134
        have m226 := (Wr.neI wH218 (Or.inr (x_apart hKT hts inX10 tyX10 tyX10_ok nmX10 rfl 70 34 (by decide) (by decide) (by decide)))).trans m135
        have m227 := (Wr.neI wH218 (Or.inr (x_apart hKT hts inX10 tyX10 tyX10_ok nmX10 rfl 0 34 (by decide) (by decide) (by decide)))).trans m136
        have m228 := (Wr.neI wH218 (Or.inr (x_apart hKT hts inX10 tyX10 tyX10_ok nmX10 rfl 41 34 (by decide) (by decide) (by decide)))).trans m137
        have m229 := (Wr.neI wH218 (Or.inr (x_apart hKT hts inX10 tyX10 tyX10_ok nmX10 rfl 42 34 (by decide) (by decide) (by decide)))).trans m138
        have m230 := Wr.I wH218
        refine lv_aload_n hx hb dX10_text_64 rfl (lv_at hl144 1 rfl) ?_
        refine lv_iconst (v := 0) hx hb dX10_text_65 (by decide) ?_
        refine x_put C hTH218 hSH218 (ci := 10) (k := 19) (v := .int 0) (ty0 := tyX10) rfl inX10 tyX10_ok nmX10 (by decide) rfl wF_X10_192 gb rg_112 rfl rfl (okI (by have := i_rng (0 : Int32); omega) (by have := i_rng (0 : Int32); omega)) rfl rfl (AE_in gb (by decide)) dX10_text_66 (fun H231 locsH231 hTH231 hSH231 wH231 => ?_)
        have m232 := (Wr.neI wH231 (Or.inr (x_apart hKT hts inX10 tyX10 tyX10_ok nmX10 rfl 1 19 (by decide) (by decide) (by decide)))).trans m219
        have m233 := (Wr.neI wH231 (Or.inr (x_apart hKT hts inX10 tyX10 tyX10_ok nmX10 rfl 2 19 (by decide) (by decide) (by decide)))).trans m220
        have m234 := (Wr.neI wH231 (Or.inr (x_apart hKT hts inX10 tyX10 tyX10_ok nmX10 rfl 3 19 (by decide) (by decide) (by decide)))).trans m221
        have m235 := (Wr.neI wH231 (Or.inr (x_apart hKT hts inX10 tyX10 tyX10_ok nmX10 rfl 18 19 (by decide) (by decide) (by decide)))).trans m222
        have m236 := (Wr.neI wH231 (Or.inr (x_apart hKT hts inX10 tyX10 tyX10_ok nmX10 rfl 59 19 (by decide) (by decide) (by decide)))).trans m223
        have m237 := (Wr.neI wH231 (Or.inr (x_apart hKT hts inX10 tyX10 tyX10_ok nmX10 rfl 62 19 (by decide) (by decide) (by decide)))).trans m224
        have m238 := (Wr.neI wH231 (Or.inr (x_apart hKT hts inX10 tyX10 tyX10_ok nmX10 rfl 65 19 (by decide) (by decide) (by decide)))).trans m225
        have m239 := (Wr.neI wH231 (Or.inr (x_apart hKT hts inX10 tyX10 tyX10_ok nmX10 rfl 70 19 (by decide) (by decide) (by decide)))).trans m226
        have m240 := (Wr.neI wH231 (Or.inr (x_apart hKT hts inX10 tyX10 tyX10_ok nmX10 rfl 0 19 (by decide) (by decide) (by decide)))).trans m227
        have m241 := (Wr.neI wH231 (Or.inr (x_apart hKT hts inX10 tyX10 tyX10_ok nmX10 rfl 41 19 (by decide) (by decide) (by decide)))).trans m228
        have m242 := (Wr.neI wH231 (Or.inr (x_apart hKT hts inX10 tyX10 tyX10_ok nmX10 rfl 42 19 (by decide) (by decide) (by decide)))).trans m229
        have m243 := (Wr.neI wH231 (Or.inr (x_apart hKT hts inX10 tyX10 tyX10_ok nmX10 rfl 34 19 (by decide) (by decide) (by decide)))).trans m230
        have m244 := Wr.I wH231
        refine lv_aload_n hx hb dX10_text_69 rfl (lv_at hl144 1 rfl) ?_
        refine lv_iconst (v := 0) hx hb dX10_text_70 (by decide) ?_
        refine x_put C hTH231 hSH231 (ci := 10) (k := 35) (v := .int 0) (ty0 := tyX10) rfl inX10 tyX10_ok nmX10 (by decide) rfl wF_X10_228 gb rg_112 rfl rfl (okI (by have := i_rng (0 : Int32); omega) (by have := i_rng (0 : Int32); omega)) rfl rfl (AE_in gb (by decide)) dX10_text_71 (fun H245 locsH245 hTH245 hSH245 wH245 => ?_)
        have m246 := (Wr.neI wH245 (Or.inr (x_apart hKT hts inX10 tyX10 tyX10_ok nmX10 rfl 1 35 (by decide) (by decide) (by decide)))).trans m232
        have m247 := (Wr.neI wH245 (Or.inr (x_apart hKT hts inX10 tyX10 tyX10_ok nmX10 rfl 2 35 (by decide) (by decide) (by decide)))).trans m233
        have m248 := (Wr.neI wH245 (Or.inr (x_apart hKT hts inX10 tyX10 tyX10_ok nmX10 rfl 3 35 (by decide) (by decide) (by decide)))).trans m234
        have m249 := (Wr.neI wH245 (Or.inr (x_apart hKT hts inX10 tyX10 tyX10_ok nmX10 rfl 18 35 (by decide) (by decide) (by decide)))).trans m235
        have m250 := (Wr.neI wH245 (Or.inr (x_apart hKT hts inX10 tyX10 tyX10_ok nmX10 rfl 59 35 (by decide) (by decide) (by decide)))).trans m236
        have m251 := (Wr.neI wH245 (Or.inr (x_apart hKT hts inX10 tyX10 tyX10_ok nmX10 rfl 62 35 (by decide) (by decide) (by decide)))).trans m237
        have m252 := (Wr.neI wH245 (Or.inr (x_apart hKT hts inX10 tyX10 tyX10_ok nmX10 rfl 65 35 (by decide) (by decide) (by decide)))).trans m238
        have m253 := (Wr.neI wH245 (Or.inr (x_apart hKT hts inX10 tyX10 tyX10_ok nmX10 rfl 70 35 (by decide) (by decide) (by decide)))).trans m239
        have m254 := (Wr.neI wH245 (Or.inr (x_apart hKT hts inX10 tyX10 tyX10_ok nmX10 rfl 0 35 (by decide) (by decide) (by decide)))).trans m240
        have m255 := (Wr.neI wH245 (Or.inr (x_apart hKT hts inX10 tyX10 tyX10_ok nmX10 rfl 41 35 (by decide) (by decide) (by decide)))).trans m241
        have m256 := (Wr.neI wH245 (Or.inr (x_apart hKT hts inX10 tyX10 tyX10_ok nmX10 rfl 42 35 (by decide) (by decide) (by decide)))).trans m242
        have m257 := (Wr.neI wH245 (Or.inr (x_apart hKT hts inX10 tyX10 tyX10_ok nmX10 rfl 34 35 (by decide) (by decide) (by decide)))).trans m243
        have m258 := (Wr.neI wH245 (Or.inr (x_apart hKT hts inX10 tyX10 tyX10_ok nmX10 rfl 19 35 (by decide) (by decide) (by decide)))).trans m244
        have m259 := Wr.I wH245
        refine lv_aload_n hx hb dX10_text_74 rfl (lv_at hl144 1 rfl) ?_
        refine lv_iconst (v := 0) hx hb dX10_text_75 (by decide) ?_
        refine x_put C hTH245 hSH245 (ci := 10) (k := 36) (v := .int 0) (ty0 := tyX10) rfl inX10 tyX10_ok nmX10 (by decide) rfl wF_X10_261 gb rg_112 rfl rfl (okI (by have := i_rng (0 : Int32); omega) (by have := i_rng (0 : Int32); omega)) rfl rfl (AE_in gb (by decide)) dX10_text_76 (fun H260 locsH260 hTH260 hSH260 wH260 => ?_)
        have m261 := (Wr.neI wH260 (Or.inr (x_apart hKT hts inX10 tyX10 tyX10_ok nmX10 rfl 1 36 (by decide) (by decide) (by decide)))).trans m246
        have m262 := (Wr.neI wH260 (Or.inr (x_apart hKT hts inX10 tyX10 tyX10_ok nmX10 rfl 2 36 (by decide) (by decide) (by decide)))).trans m247
        have m263 := (Wr.neI wH260 (Or.inr (x_apart hKT hts inX10 tyX10 tyX10_ok nmX10 rfl 3 36 (by decide) (by decide) (by decide)))).trans m248
        have m264 := (Wr.neI wH260 (Or.inr (x_apart hKT hts inX10 tyX10 tyX10_ok nmX10 rfl 18 36 (by decide) (by decide) (by decide)))).trans m249
        have m265 := (Wr.neI wH260 (Or.inr (x_apart hKT hts inX10 tyX10 tyX10_ok nmX10 rfl 59 36 (by decide) (by decide) (by decide)))).trans m250
        have m266 := (Wr.neI wH260 (Or.inr (x_apart hKT hts inX10 tyX10 tyX10_ok nmX10 rfl 62 36 (by decide) (by decide) (by decide)))).trans m251
        have m267 := (Wr.neI wH260 (Or.inr (x_apart hKT hts inX10 tyX10 tyX10_ok nmX10 rfl 65 36 (by decide) (by decide) (by decide)))).trans m252
        have m268 := (Wr.neI wH260 (Or.inr (x_apart hKT hts inX10 tyX10 tyX10_ok nmX10 rfl 70 36 (by decide) (by decide) (by decide)))).trans m253
        have m269 := (Wr.neI wH260 (Or.inr (x_apart hKT hts inX10 tyX10 tyX10_ok nmX10 rfl 0 36 (by decide) (by decide) (by decide)))).trans m254
        have m270 := (Wr.neI wH260 (Or.inr (x_apart hKT hts inX10 tyX10 tyX10_ok nmX10 rfl 41 36 (by decide) (by decide) (by decide)))).trans m255
        have m271 := (Wr.neI wH260 (Or.inr (x_apart hKT hts inX10 tyX10 tyX10_ok nmX10 rfl 42 36 (by decide) (by decide) (by decide)))).trans m256
        have m272 := (Wr.neI wH260 (Or.inr (x_apart hKT hts inX10 tyX10 tyX10_ok nmX10 rfl 34 36 (by decide) (by decide) (by decide)))).trans m257
        have m273 := (Wr.neI wH260 (Or.inr (x_apart hKT hts inX10 tyX10 tyX10_ok nmX10 rfl 19 36 (by decide) (by decide) (by decide)))).trans m258
        have m274 := (Wr.neI wH260 (Or.inr (x_apart hKT hts inX10 tyX10 tyX10_ok nmX10 rfl 35 36 (by decide) (by decide) (by decide)))).trans m259
        have m275 := Wr.I wH260
        refine lv_aload_n hx hb dX10_text_79 rfl (lv_at hl144 1 rfl) ?_
        refine x_V (As := []) (rest := []) C (f_X10_reads l K G H260 hTH260 gb m264 m273 m274) yo_X10_reads wM_X10_242 ⟨⟨by decide, by decide⟩, by decide, by decide⟩ (x_rv C hTH260 (ci := 10) rfl gb rg_112) rfl hl144.1 rfl (Nat.le_of_ble_eq_true rfl) dX10_text_80 hSH260 (AE_sub (fun _ _ => rfl) (by decide) hSH260.1) (fun vH276 H276 locsH276 pH276 zH276 kH276 hSH276 => ?_)
        have hTH276 := pH276.2.1
        have hvH276 := pH276.1
        subst hvH276
        obtain ⟨c1H276, c2H276⟩ := pH276.2.2
        refine W.eq (g2 := F0 m 83 ls143 []) rfl ?_
        refine lv_iload_n hx hb dX10_text_83 rfl (lv_at hl144 0 rfl) ?_
        refine lv_if_eq (tgt := 94) hx hb dX10_text_84 (by decide) (fun c277 => ?_) (fun c277 => ?_)
        · have k278 := i_eq c277
          refine lv_iconst (v := (-1)) hx hb dX10_text_94 (by decide) ?_
          refine lv_istore (lv' := [(4, .int (-1)), (3, .int 0), (0, .ref b), (1, .int x0), (2, .int x1)]) hx hb dX10_text_95 hl144 (by decide) rfl (fun ls279 hl280 => ?_)
          refine lv_aload_n hx hb dX10_text_97 rfl (lv_at hl280 2 rfl) ?_
          refine lv_iconst (v := 0) hx hb dX10_text_98 (by decide) ?_
          refine x_put C hTH276 hSH276 (ci := 10) (k := 18) (v := .int 0) (ty0 := tyX10) rfl inX10 tyX10_ok nmX10 (by decide) rfl wF_X10_185 gb rg_112 rfl rfl (okI (by have := i_rng (0 : Int32); omega) (by have := i_rng (0 : Int32); omega)) rfl rfl (AE_in gb (by decide)) dX10_text_99 (fun H281 locsH281 hTH281 hSH281 wH281 => ?_)
          have m282 := (Wr.neI wH281 (Or.inr (x_apart hKT hts inX10 tyX10 tyX10_ok nmX10 rfl 21 18 (by decide) (by decide) (by decide)))).trans c1H276
          have m283 := (Wr.neI wH281 (Or.inr (x_apart hKT hts inX10 tyX10 tyX10_ok nmX10 rfl 35 18 (by decide) (by decide) (by decide)))).trans c2H276
          have m284 := Wr.I wH281
          refine lv_iload_n hx hb dX10_text_102 rfl (lv_at hl280 1 rfl) ?_
          refine lv_if_eq (tgt := 128) hx hb dX10_text_103 (by decide) (fun c285 => ?_) (fun c285 => ?_)
          · have k286 := i_eq c285
            refine lv_iload hx hb dX10_text_128 (lv_at hl280 0 rfl) ?_
            refine lv_iconst (v := (-1)) hx hb dX10_text_130 (by decide) ?_
            refine lv_icmp_ne (tgt := 136) hx hb dX10_text_131 (by decide) (fun c287 => ?_) (fun c287 => ?_)
            · have k288 := i_ne c287
              exfalso
              omega
            · have k288 := i_eq c287
              refine lv_iconst (v := (-1)) hx hb dX10_text_134 (by decide) ?_
              exact x_iret C hQ dX10_text_135 hSH281 (by decide) (by decide) (⟨⟨(-1), rfl, by omega⟩, G, fun _ _ => rfl, hTH281⟩)
          · have k286 := i_ne c285
            exfalso
            omega
        · have k278 := i_ne c277
          exfalso
          omega
    · have k142 := i_eq c141
      refine lv_aload_n hx hb dX10_text_34 rfl (lv_at hl 0 rfl) ?_
      refine lv_iload_n hx hb dX10_text_35 rfl (lv_at hl 2 rfl) ?_
      refine lv_iconst (v := 0) hx hb dX10_text_36 (by decide) ?_
      refine lv_iconst (v := 3) hx hb dX10_text_37 (by decide) ?_
      refine x_V (As := [.int x1, .int 0, .int 3]) (rest := []) C (c_X10_isIn l K G H126 (x1) (0) (3) hTH126 gb) yo_X10_isIn wM_X10_177 ⟨⟨by decide, by decide⟩, by decide, by decide⟩ (x_rv C hTH126 (ci := 10) rfl gb rg_112) rfl hl.1 rfl (Nat.le_of_ble_eq_true rfl) dX10_text_38 hSH126 (AE_sub (fun _ _ => rfl) (by decide) hSH126.1) (fun vH289 H289 locsH289 pH289 zH289 kH289 hSH289 => ?_)
      have hqH289 := pH289.1.symm
      subst hqH289
      rcases pH289.2 with ⟨hvH289, hcH289⟩ | ⟨hvH289, hcH289⟩
      · subst hvH289
        refine W.eq (g2 := F0 m 41 ls [.int 1]) rfl ?_
        refine lv_if_eq (tgt := 48) hx hb dX10_text_41 (by decide) (fun c290 => ?_) (fun c290 => ?_)
        · have k291 := i_eq c290
          exfalso
          omega
        · have k291 := i_ne c290
          refine lv_iconst (v := 1) hx hb dX10_text_44 (by decide) ?_
          refine lv_goto (tgt := 49) hx hb dX10_text_45 (by decide) ?_
          refine lv_istore_n (lv' := [(3, .int 1), (0, .ref b), (1, .int x0), (2, .int x1)]) hx hb dX10_text_49 rfl hl (by decide) rfl (fun ls292 hl293 => ?_)
          refine lv_aload_n hx hb dX10_text_50 rfl (lv_at hl293 1 rfl) ?_
          refine lv_iload_n hx hb dX10_text_51 rfl (lv_at hl293 2 rfl) ?_
          refine lv_iconst (v := 1) hx hb dX10_text_52 (by decide) ?_
          refine lv_icmp_ne (tgt := 60) hx hb dX10_text_53 (by decide) (fun c294 => ?_) (fun c294 => ?_)
          · have k295 := i_ne c294
            exfalso
            omega
          · have k295 := i_eq c294
            refine lv_iconst (v := 1) hx hb dX10_text_56 (by decide) ?_
            refine lv_goto (tgt := 61) hx hb dX10_text_57 (by decide) ?_
            refine x_put C hTH126 hSH289 (ci := 10) (k := 34) (v := .int 1) (ty0 := tyX10) rfl inX10 tyX10_ok nmX10 (by decide) rfl wF_X10_231 gb rg_112 rfl rfl (okI (by have := i_rng (1 : Int32); omega) (by have := i_rng (1 : Int32); omega)) rfl rfl (AE_in gb (by decide)) dX10_text_61 (fun H296 locsH296 hTH296 hSH296 wH296 => ?_)
            have m297 := (Wr.neI wH296 (Or.inr (x_apart hKT hts inX10 tyX10 tyX10_ok nmX10 rfl 1 34 (by decide) (by decide) (by decide)))).trans m127
            have m298 := (Wr.neI wH296 (Or.inr (x_apart hKT hts inX10 tyX10 tyX10_ok nmX10 rfl 2 34 (by decide) (by decide) (by decide)))).trans m128
            have m299 := (Wr.neI wH296 (Or.inr (x_apart hKT hts inX10 tyX10 tyX10_ok nmX10 rfl 3 34 (by decide) (by decide) (by decide)))).trans m129
            have m300 := (Wr.neI wH296 (Or.inr (x_apart hKT hts inX10 tyX10 tyX10_ok nmX10 rfl 18 34 (by decide) (by decide) (by decide)))).trans m130
            have m301 := (Wr.neI wH296 (Or.inr (x_apart hKT hts inX10 tyX10 tyX10_ok nmX10 rfl 59 34 (by decide) (by decide) (by decide)))).trans m132
            have m302 := (Wr.neI wH296 (Or.inr (x_apart hKT hts inX10 tyX10 tyX10_ok nmX10 rfl 62 34 (by decide) (by decide) (by decide)))).trans m133
            have m303 := (Wr.neI wH296 (Or.inr (x_apart hKT hts inX10 tyX10 tyX10_ok nmX10 rfl 65 34 (by decide) (by decide) (by decide)))).trans m134
            have m304 := (Wr.neI wH296 (Or.inr (x_apart hKT hts inX10 tyX10 tyX10_ok nmX10 rfl 70 34 (by decide) (by decide) (by decide)))).trans m135
            have m305 := (Wr.neI wH296 (Or.inr (x_apart hKT hts inX10 tyX10 tyX10_ok nmX10 rfl 0 34 (by decide) (by decide) (by decide)))).trans m136
            have m306 := (Wr.neI wH296 (Or.inr (x_apart hKT hts inX10 tyX10 tyX10_ok nmX10 rfl 41 34 (by decide) (by decide) (by decide)))).trans m137
            have m307 := (Wr.neI wH296 (Or.inr (x_apart hKT hts inX10 tyX10 tyX10_ok nmX10 rfl 42 34 (by decide) (by decide) (by decide)))).trans m138
            have m308 := Wr.I wH296
            refine lv_aload_n hx hb dX10_text_64 rfl (lv_at hl293 1 rfl) ?_
            refine lv_iconst (v := 0) hx hb dX10_text_65 (by decide) ?_
            refine x_put C hTH296 hSH296 (ci := 10) (k := 19) (v := .int 0) (ty0 := tyX10) rfl inX10 tyX10_ok nmX10 (by decide) rfl wF_X10_192 gb rg_112 rfl rfl (okI (by have := i_rng (0 : Int32); omega) (by have := i_rng (0 : Int32); omega)) rfl rfl (AE_in gb (by decide)) dX10_text_66 (fun H309 locsH309 hTH309 hSH309 wH309 => ?_)
            have m310 := (Wr.neI wH309 (Or.inr (x_apart hKT hts inX10 tyX10 tyX10_ok nmX10 rfl 1 19 (by decide) (by decide) (by decide)))).trans m297
            have m311 := (Wr.neI wH309 (Or.inr (x_apart hKT hts inX10 tyX10 tyX10_ok nmX10 rfl 2 19 (by decide) (by decide) (by decide)))).trans m298
            have m312 := (Wr.neI wH309 (Or.inr (x_apart hKT hts inX10 tyX10 tyX10_ok nmX10 rfl 3 19 (by decide) (by decide) (by decide)))).trans m299
            have m313 := (Wr.neI wH309 (Or.inr (x_apart hKT hts inX10 tyX10 tyX10_ok nmX10 rfl 18 19 (by decide) (by decide) (by decide)))).trans m300
            have m314 := (Wr.neI wH309 (Or.inr (x_apart hKT hts inX10 tyX10 tyX10_ok nmX10 rfl 59 19 (by decide) (by decide) (by decide)))).trans m301
            have m315 := (Wr.neI wH309 (Or.inr (x_apart hKT hts inX10 tyX10 tyX10_ok nmX10 rfl 62 19 (by decide) (by decide) (by decide)))).trans m302
            have m316 := (Wr.neI wH309 (Or.inr (x_apart hKT hts inX10 tyX10 tyX10_ok nmX10 rfl 65 19 (by decide) (by decide) (by decide)))).trans m303
            have m317 := (Wr.neI wH309 (Or.inr (x_apart hKT hts inX10 tyX10 tyX10_ok nmX10 rfl 70 19 (by decide) (by decide) (by decide)))).trans m304
            have m318 := (Wr.neI wH309 (Or.inr (x_apart hKT hts inX10 tyX10 tyX10_ok nmX10 rfl 0 19 (by decide) (by decide) (by decide)))).trans m305
            have m319 := (Wr.neI wH309 (Or.inr (x_apart hKT hts inX10 tyX10 tyX10_ok nmX10 rfl 41 19 (by decide) (by decide) (by decide)))).trans m306
            have m320 := (Wr.neI wH309 (Or.inr (x_apart hKT hts inX10 tyX10 tyX10_ok nmX10 rfl 42 19 (by decide) (by decide) (by decide)))).trans m307
            have m321 := (Wr.neI wH309 (Or.inr (x_apart hKT hts inX10 tyX10 tyX10_ok nmX10 rfl 34 19 (by decide) (by decide) (by decide)))).trans m308
            have m322 := Wr.I wH309
            refine lv_aload_n hx hb dX10_text_69 rfl (lv_at hl293 1 rfl) ?_
            refine lv_iconst (v := 0) hx hb dX10_text_70 (by decide) ?_
            refine x_put C hTH309 hSH309 (ci := 10) (k := 35) (v := .int 0) (ty0 := tyX10) rfl inX10 tyX10_ok nmX10 (by decide) rfl wF_X10_228 gb rg_112 rfl rfl (okI (by have := i_rng (0 : Int32); omega) (by have := i_rng (0 : Int32); omega)) rfl rfl (AE_in gb (by decide)) dX10_text_71 (fun H323 locsH323 hTH323 hSH323 wH323 => ?_)
            have m324 := (Wr.neI wH323 (Or.inr (x_apart hKT hts inX10 tyX10 tyX10_ok nmX10 rfl 1 35 (by decide) (by decide) (by decide)))).trans m310
            have m325 := (Wr.neI wH323 (Or.inr (x_apart hKT hts inX10 tyX10 tyX10_ok nmX10 rfl 2 35 (by decide) (by decide) (by decide)))).trans m311
            have m326 := (Wr.neI wH323 (Or.inr (x_apart hKT hts inX10 tyX10 tyX10_ok nmX10 rfl 3 35 (by decide) (by decide) (by decide)))).trans m312
            have m327 := (Wr.neI wH323 (Or.inr (x_apart hKT hts inX10 tyX10 tyX10_ok nmX10 rfl 18 35 (by decide) (by decide) (by decide)))).trans m313
            have m328 := (Wr.neI wH323 (Or.inr (x_apart hKT hts inX10 tyX10 tyX10_ok nmX10 rfl 59 35 (by decide) (by decide) (by decide)))).trans m314
            have m329 := (Wr.neI wH323 (Or.inr (x_apart hKT hts inX10 tyX10 tyX10_ok nmX10 rfl 62 35 (by decide) (by decide) (by decide)))).trans m315
            have m330 := (Wr.neI wH323 (Or.inr (x_apart hKT hts inX10 tyX10 tyX10_ok nmX10 rfl 65 35 (by decide) (by decide) (by decide)))).trans m316
            have m331 := (Wr.neI wH323 (Or.inr (x_apart hKT hts inX10 tyX10 tyX10_ok nmX10 rfl 70 35 (by decide) (by decide) (by decide)))).trans m317
            have m332 := (Wr.neI wH323 (Or.inr (x_apart hKT hts inX10 tyX10 tyX10_ok nmX10 rfl 0 35 (by decide) (by decide) (by decide)))).trans m318
            have m333 := (Wr.neI wH323 (Or.inr (x_apart hKT hts inX10 tyX10 tyX10_ok nmX10 rfl 41 35 (by decide) (by decide) (by decide)))).trans m319
            have m334 := (Wr.neI wH323 (Or.inr (x_apart hKT hts inX10 tyX10 tyX10_ok nmX10 rfl 42 35 (by decide) (by decide) (by decide)))).trans m320
            have m335 := (Wr.neI wH323 (Or.inr (x_apart hKT hts inX10 tyX10 tyX10_ok nmX10 rfl 34 35 (by decide) (by decide) (by decide)))).trans m321
            have m336 := (Wr.neI wH323 (Or.inr (x_apart hKT hts inX10 tyX10 tyX10_ok nmX10 rfl 19 35 (by decide) (by decide) (by decide)))).trans m322
            have m337 := Wr.I wH323
            refine lv_aload_n hx hb dX10_text_74 rfl (lv_at hl293 1 rfl) ?_
            refine lv_iconst (v := 0) hx hb dX10_text_75 (by decide) ?_
            refine x_put C hTH323 hSH323 (ci := 10) (k := 36) (v := .int 0) (ty0 := tyX10) rfl inX10 tyX10_ok nmX10 (by decide) rfl wF_X10_261 gb rg_112 rfl rfl (okI (by have := i_rng (0 : Int32); omega) (by have := i_rng (0 : Int32); omega)) rfl rfl (AE_in gb (by decide)) dX10_text_76 (fun H338 locsH338 hTH338 hSH338 wH338 => ?_)
            have m339 := (Wr.neI wH338 (Or.inr (x_apart hKT hts inX10 tyX10 tyX10_ok nmX10 rfl 1 36 (by decide) (by decide) (by decide)))).trans m324
            have m340 := (Wr.neI wH338 (Or.inr (x_apart hKT hts inX10 tyX10 tyX10_ok nmX10 rfl 2 36 (by decide) (by decide) (by decide)))).trans m325
            have m341 := (Wr.neI wH338 (Or.inr (x_apart hKT hts inX10 tyX10 tyX10_ok nmX10 rfl 3 36 (by decide) (by decide) (by decide)))).trans m326
            have m342 := (Wr.neI wH338 (Or.inr (x_apart hKT hts inX10 tyX10 tyX10_ok nmX10 rfl 18 36 (by decide) (by decide) (by decide)))).trans m327
            have m343 := (Wr.neI wH338 (Or.inr (x_apart hKT hts inX10 tyX10 tyX10_ok nmX10 rfl 59 36 (by decide) (by decide) (by decide)))).trans m328
            have m344 := (Wr.neI wH338 (Or.inr (x_apart hKT hts inX10 tyX10 tyX10_ok nmX10 rfl 62 36 (by decide) (by decide) (by decide)))).trans m329
            have m345 := (Wr.neI wH338 (Or.inr (x_apart hKT hts inX10 tyX10 tyX10_ok nmX10 rfl 65 36 (by decide) (by decide) (by decide)))).trans m330
            have m346 := (Wr.neI wH338 (Or.inr (x_apart hKT hts inX10 tyX10 tyX10_ok nmX10 rfl 70 36 (by decide) (by decide) (by decide)))).trans m331
            have m347 := (Wr.neI wH338 (Or.inr (x_apart hKT hts inX10 tyX10 tyX10_ok nmX10 rfl 0 36 (by decide) (by decide) (by decide)))).trans m332
            have m348 := (Wr.neI wH338 (Or.inr (x_apart hKT hts inX10 tyX10 tyX10_ok nmX10 rfl 41 36 (by decide) (by decide) (by decide)))).trans m333
            have m349 := (Wr.neI wH338 (Or.inr (x_apart hKT hts inX10 tyX10 tyX10_ok nmX10 rfl 42 36 (by decide) (by decide) (by decide)))).trans m334
            have m350 := (Wr.neI wH338 (Or.inr (x_apart hKT hts inX10 tyX10 tyX10_ok nmX10 rfl 34 36 (by decide) (by decide) (by decide)))).trans m335
            have m351 := (Wr.neI wH338 (Or.inr (x_apart hKT hts inX10 tyX10 tyX10_ok nmX10 rfl 19 36 (by decide) (by decide) (by decide)))).trans m336
            have m352 := (Wr.neI wH338 (Or.inr (x_apart hKT hts inX10 tyX10 tyX10_ok nmX10 rfl 35 36 (by decide) (by decide) (by decide)))).trans m337
            have m353 := Wr.I wH338
            refine lv_aload_n hx hb dX10_text_79 rfl (lv_at hl293 1 rfl) ?_
            refine x_V (As := []) (rest := []) C (f_X10_reads l K G H338 hTH338 gb m342 m351 m352) yo_X10_reads wM_X10_242 ⟨⟨by decide, by decide⟩, by decide, by decide⟩ (x_rv C hTH338 (ci := 10) rfl gb rg_112) rfl hl293.1 rfl (Nat.le_of_ble_eq_true rfl) dX10_text_80 hSH338 (AE_sub (fun _ _ => rfl) (by decide) hSH338.1) (fun vH354 H354 locsH354 pH354 zH354 kH354 hSH354 => ?_)
            have hTH354 := pH354.2.1
            have hvH354 := pH354.1
            subst hvH354
            obtain ⟨c1H354, c2H354⟩ := pH354.2.2
            refine W.eq (g2 := F0 m 83 ls292 []) rfl ?_
            refine lv_iload_n hx hb dX10_text_83 rfl (lv_at hl293 0 rfl) ?_
            refine lv_if_eq (tgt := 94) hx hb dX10_text_84 (by decide) (fun c355 => ?_) (fun c355 => ?_)
            · have k356 := i_eq c355
              exfalso
              omega
            · have k356 := i_ne c355
              refine lv_aload_n hx hb dX10_text_87 rfl (lv_at hl293 1 rfl) ?_
              refine x_V (As := []) (rest := []) C (f_X10_readText l K G H354 hTH354 gb c1H354) yo_X10_readText wM_X10_295 ⟨⟨by decide, by decide⟩, by decide, by decide⟩ (x_rv C hTH354 (ci := 10) rfl gb rg_112) rfl hl293.1 rfl (Nat.le_of_ble_eq_true rfl) dX10_text_88 hSH354 (AE_sub (fun _ _ => rfl) (by decide) hSH354.1) (fun vH357 H357 locsH357 pH357 zH357 kH357 hSH357 => ?_)
              have hqH357 := pH357.1.symm
              subst hqH357
              have hvH357 := pH357.2
              subst hvH357
              refine W.eq (g2 := F0 m 91 ls292 [.int 0]) rfl ?_
              refine lv_goto (tgt := 95) hx hb dX10_text_91 (by decide) ?_
              refine lv_istore (lv' := [(4, .int 0), (3, .int 1), (0, .ref b), (1, .int x0), (2, .int x1)]) hx hb dX10_text_95 hl293 (by decide) rfl (fun ls358 hl359 => ?_)
              refine lv_aload_n hx hb dX10_text_97 rfl (lv_at hl359 2 rfl) ?_
              refine lv_iconst (v := 0) hx hb dX10_text_98 (by decide) ?_
              refine x_put C hTH354 hSH357 (ci := 10) (k := 18) (v := .int 0) (ty0 := tyX10) rfl inX10 tyX10_ok nmX10 (by decide) rfl wF_X10_185 gb rg_112 rfl rfl (okI (by have := i_rng (0 : Int32); omega) (by have := i_rng (0 : Int32); omega)) rfl rfl (AE_in gb (by decide)) dX10_text_99 (fun H360 locsH360 hTH360 hSH360 wH360 => ?_)
              have m361 := (Wr.neI wH360 (Or.inr (x_apart hKT hts inX10 tyX10 tyX10_ok nmX10 rfl 21 18 (by decide) (by decide) (by decide)))).trans c1H354
              have m362 := (Wr.neI wH360 (Or.inr (x_apart hKT hts inX10 tyX10 tyX10_ok nmX10 rfl 35 18 (by decide) (by decide) (by decide)))).trans c2H354
              have m363 := Wr.I wH360
              refine lv_iload_n hx hb dX10_text_102 rfl (lv_at hl359 1 rfl) ?_
              refine lv_if_eq (tgt := 128) hx hb dX10_text_103 (by decide) (fun c364 => ?_) (fun c364 => ?_)
              · have k365 := i_eq c364
                exfalso
                omega
              · have k365 := i_ne c364
                refine lv_iload hx hb dX10_text_106 (lv_at hl359 0 rfl) ?_
                refine lv_iconst (v := (-1)) hx hb dX10_text_108 (by decide) ?_
                refine lv_icmp_ne (tgt := 128) hx hb dX10_text_109 (by decide) (fun c366 => ?_) (fun c366 => ?_)
                · have k367 := i_ne c366
                  refine lv_iload hx hb dX10_text_128 (lv_at hl359 0 rfl) ?_
                  refine lv_iconst (v := (-1)) hx hb dX10_text_130 (by decide) ?_
                  refine lv_icmp_ne (tgt := 136) hx hb dX10_text_131 (by decide) (fun c368 => ?_) (fun c368 => ?_)
                  · have k369 := i_ne c368
                    refine lv_iload_n hx hb dX10_text_136 rfl (lv_at hl359 3 rfl) ?_
                    refine lv_if_ne (tgt := 144) hx hb dX10_text_137 (by decide) (fun c370 => ?_) (fun c370 => ?_)
                    · have k371 := i_ne c370
                      refine lv_iconst (v := 2) hx hb dX10_text_144 (by decide) ?_
                      refine lv_iload_n hx hb dX10_text_145 rfl (lv_at hl359 4 rfl) ?_
                      refine lv_iadd hx hb dX10_text_146 ?_
                      refine lv_topi (fun x372 ex372 => ?_)
                      have tx372 := i_add ex372 (by omega)
                      refine lv_istore (lv' := [(5, .int x372), (4, .int 0), (3, .int 1), (0, .ref b), (1, .int x0), (2, .int x1)]) hx hb dX10_text_147 hl359 (by decide) rfl (fun ls373 hl374 => ?_)
                      refine lv_iconst (v := 0) hx hb dX10_text_149 (by decide) ?_
                      refine lv_istore (lv' := [(6, .int 0), (5, .int x372), (4, .int 0), (3, .int 1), (0, .ref b), (1, .int x0), (2, .int x1)]) hx hb dX10_text_150 hl374 (by decide) rfl (fun ls375 hl376 => ?_)
                      refine lv_iload hx hb dX10_text_152 (lv_at hl376 0 rfl) ?_
                      refine lv_iload hx hb dX10_text_154 (lv_at hl376 2 rfl) ?_
                      refine lv_icmp_ge (tgt := 326) hx hb dX10_text_156 (by decide) (fun c377 => ?_) (fun c377 => ?_)
                      · have k378 := i_le c377
                        refine lv_iconst (v := 0) hx hb dX10_text_326 (by decide) ?_
                        refine lv_istore (lv' := [(6, .int 0), (5, .int x372), (4, .int 0), (3, .int 1), (0, .ref b), (1, .int x0), (2, .int x1)]) hx hb dX10_text_327 hl376 (by decide) rfl (fun ls379 hl380 => ?_)
                        refine lv_iload hx hb dX10_text_329 (lv_at hl380 0 rfl) ?_
                        refine lv_aload_n hx hb dX10_text_331 rfl (lv_at hl380 4 rfl) ?_
                        refine x_gi C hTH360 (ci := 10) (k := 35) rfl inX10 (by decide) wF_X10_228 gb rg_112 rfl dX10_text_332 (fun x381 ex381 bx381 => ?_)
                        have ux381 : x381 = 0 := ex381.trans m362
                        subst ux381
                        refine lv_icmp_ge (tgt := 394) hx hb dX10_text_335 (by decide) (fun c382 => ?_) (fun c382 => ?_)
                        · have k383 := i_le c382
                          refine lv_aload_n hx hb dX10_text_394 rfl (lv_at hl380 4 rfl) ?_
                          refine x_gr C hTH360 (ci := 10) (k := 24) rfl inX10 (by decide) wF_X10_59 gb rg_112 rfl dX10_text_395 (fun q384 eq384 gq384 => ?_)
                          refine lv_iload hx hb dX10_text_398 (lv_at hl380 1 rfl) ?_
                          refine lv_iload hx hb dX10_text_400 (lv_at hl380 2 rfl) ?_
                          refine x_iast C hTH360 hSH360 gq384 rg_128 (by omega) (by show _ < ((7 : Nat) : Int); omega) (by decide) (AE_in gq384 (by decide)) dX10_text_402 (fun H385 locsH385 hTH385 hSH385 wH385 => ?_)
                          have m386 := (Wr.neI wH385 (Or.inl (G_ne gb gq384 (by decide)))).trans m361
                          have m387 := (Wr.neI wH385 (Or.inl (G_ne gb gq384 (by decide)))).trans m362
                          have m388 := (Wr.neI wH385 (Or.inl (G_ne gb gq384 (by decide)))).trans m363
                          have m389 := eq384.trans (Wr.neR wH385 (Or.inl (G_ne gb gq384 (by decide)))).symm
                          refine lv_iload hx hb dX10_text_403 (lv_at hl380 2 rfl) ?_
                          exact x_iret C hQ dX10_text_405 hSH385 (by decide) (by decide) (⟨⟨0, rfl, by omega⟩, G, fun _ _ => rfl, hTH385⟩)
                        · have k383 := i_nle c382
                          exfalso
                          omega
                      · have k378 := i_nle c377
                        exfalso
                        omega
                    · have k371 := i_eq c370
                      exfalso
                      omega
                  · have k369 := i_eq c368
                    exfalso
                    omega
                · have k367 := i_eq c366
                  exfalso
                  omega
      · subst hvH289
        refine W.eq (g2 := F0 m 41 ls [.int 0]) rfl ?_
        refine lv_if_eq (tgt := 48) hx hb dX10_text_41 (by decide) (fun c390 => ?_) (fun c390 => ?_)
        · have k391 := i_eq c390
          refine lv_iconst (v := 0) hx hb dX10_text_48 (by decide) ?_
          refine lv_istore_n (lv' := [(3, .int 0), (0, .ref b), (1, .int x0), (2, .int x1)]) hx hb dX10_text_49 rfl hl (by decide) rfl (fun ls392 hl393 => ?_)
          refine lv_aload_n hx hb dX10_text_50 rfl (lv_at hl393 1 rfl) ?_
          refine lv_iload_n hx hb dX10_text_51 rfl (lv_at hl393 2 rfl) ?_
          refine lv_iconst (v := 1) hx hb dX10_text_52 (by decide) ?_
          refine lv_icmp_ne (tgt := 60) hx hb dX10_text_53 (by decide) (fun c394 => ?_) (fun c394 => ?_)
          · have k395 := i_ne c394
            exfalso
            omega
          · have k395 := i_eq c394
            refine lv_iconst (v := 1) hx hb dX10_text_56 (by decide) ?_
            refine lv_goto (tgt := 61) hx hb dX10_text_57 (by decide) ?_
            refine x_put C hTH126 hSH289 (ci := 10) (k := 34) (v := .int 1) (ty0 := tyX10) rfl inX10 tyX10_ok nmX10 (by decide) rfl wF_X10_231 gb rg_112 rfl rfl (okI (by have := i_rng (1 : Int32); omega) (by have := i_rng (1 : Int32); omega)) rfl rfl (AE_in gb (by decide)) dX10_text_61 (fun H396 locsH396 hTH396 hSH396 wH396 => ?_)
            have m397 := (Wr.neI wH396 (Or.inr (x_apart hKT hts inX10 tyX10 tyX10_ok nmX10 rfl 1 34 (by decide) (by decide) (by decide)))).trans m127
            have m398 := (Wr.neI wH396 (Or.inr (x_apart hKT hts inX10 tyX10 tyX10_ok nmX10 rfl 2 34 (by decide) (by decide) (by decide)))).trans m128
            have m399 := (Wr.neI wH396 (Or.inr (x_apart hKT hts inX10 tyX10 tyX10_ok nmX10 rfl 3 34 (by decide) (by decide) (by decide)))).trans m129
            have m400 := (Wr.neI wH396 (Or.inr (x_apart hKT hts inX10 tyX10 tyX10_ok nmX10 rfl 18 34 (by decide) (by decide) (by decide)))).trans m130
            have m401 := (Wr.neI wH396 (Or.inr (x_apart hKT hts inX10 tyX10 tyX10_ok nmX10 rfl 59 34 (by decide) (by decide) (by decide)))).trans m132
            have m402 := (Wr.neI wH396 (Or.inr (x_apart hKT hts inX10 tyX10 tyX10_ok nmX10 rfl 62 34 (by decide) (by decide) (by decide)))).trans m133
            have m403 := (Wr.neI wH396 (Or.inr (x_apart hKT hts inX10 tyX10 tyX10_ok nmX10 rfl 65 34 (by decide) (by decide) (by decide)))).trans m134
            have m404 := (Wr.neI wH396 (Or.inr (x_apart hKT hts inX10 tyX10 tyX10_ok nmX10 rfl 70 34 (by decide) (by decide) (by decide)))).trans m135
            have m405 := (Wr.neI wH396 (Or.inr (x_apart hKT hts inX10 tyX10 tyX10_ok nmX10 rfl 0 34 (by decide) (by decide) (by decide)))).trans m136
            have m406 := (Wr.neI wH396 (Or.inr (x_apart hKT hts inX10 tyX10 tyX10_ok nmX10 rfl 41 34 (by decide) (by decide) (by decide)))).trans m137
            have m407 := (Wr.neI wH396 (Or.inr (x_apart hKT hts inX10 tyX10 tyX10_ok nmX10 rfl 42 34 (by decide) (by decide) (by decide)))).trans m138
            have m408 := Wr.I wH396
            refine lv_aload_n hx hb dX10_text_64 rfl (lv_at hl393 1 rfl) ?_
            refine lv_iconst (v := 0) hx hb dX10_text_65 (by decide) ?_
            refine x_put C hTH396 hSH396 (ci := 10) (k := 19) (v := .int 0) (ty0 := tyX10) rfl inX10 tyX10_ok nmX10 (by decide) rfl wF_X10_192 gb rg_112 rfl rfl (okI (by have := i_rng (0 : Int32); omega) (by have := i_rng (0 : Int32); omega)) rfl rfl (AE_in gb (by decide)) dX10_text_66 (fun H409 locsH409 hTH409 hSH409 wH409 => ?_)
            have m410 := (Wr.neI wH409 (Or.inr (x_apart hKT hts inX10 tyX10 tyX10_ok nmX10 rfl 1 19 (by decide) (by decide) (by decide)))).trans m397
            have m411 := (Wr.neI wH409 (Or.inr (x_apart hKT hts inX10 tyX10 tyX10_ok nmX10 rfl 2 19 (by decide) (by decide) (by decide)))).trans m398
            have m412 := (Wr.neI wH409 (Or.inr (x_apart hKT hts inX10 tyX10 tyX10_ok nmX10 rfl 3 19 (by decide) (by decide) (by decide)))).trans m399
            have m413 := (Wr.neI wH409 (Or.inr (x_apart hKT hts inX10 tyX10 tyX10_ok nmX10 rfl 18 19 (by decide) (by decide) (by decide)))).trans m400
            have m414 := (Wr.neI wH409 (Or.inr (x_apart hKT hts inX10 tyX10 tyX10_ok nmX10 rfl 59 19 (by decide) (by decide) (by decide)))).trans m401
            have m415 := (Wr.neI wH409 (Or.inr (x_apart hKT hts inX10 tyX10 tyX10_ok nmX10 rfl 62 19 (by decide) (by decide) (by decide)))).trans m402
            have m416 := (Wr.neI wH409 (Or.inr (x_apart hKT hts inX10 tyX10 tyX10_ok nmX10 rfl 65 19 (by decide) (by decide) (by decide)))).trans m403
            have m417 := (Wr.neI wH409 (Or.inr (x_apart hKT hts inX10 tyX10 tyX10_ok nmX10 rfl 70 19 (by decide) (by decide) (by decide)))).trans m404
            have m418 := (Wr.neI wH409 (Or.inr (x_apart hKT hts inX10 tyX10 tyX10_ok nmX10 rfl 0 19 (by decide) (by decide) (by decide)))).trans m405
            have m419 := (Wr.neI wH409 (Or.inr (x_apart hKT hts inX10 tyX10 tyX10_ok nmX10 rfl 41 19 (by decide) (by decide) (by decide)))).trans m406
            have m420 := (Wr.neI wH409 (Or.inr (x_apart hKT hts inX10 tyX10 tyX10_ok nmX10 rfl 42 19 (by decide) (by decide) (by decide)))).trans m407
            have m421 := (Wr.neI wH409 (Or.inr (x_apart hKT hts inX10 tyX10 tyX10_ok nmX10 rfl 34 19 (by decide) (by decide) (by decide)))).trans m408
            have m422 := Wr.I wH409
            refine lv_aload_n hx hb dX10_text_69 rfl (lv_at hl393 1 rfl) ?_
            refine lv_iconst (v := 0) hx hb dX10_text_70 (by decide) ?_
            refine x_put C hTH409 hSH409 (ci := 10) (k := 35) (v := .int 0) (ty0 := tyX10) rfl inX10 tyX10_ok nmX10 (by decide) rfl wF_X10_228 gb rg_112 rfl rfl (okI (by have := i_rng (0 : Int32); omega) (by have := i_rng (0 : Int32); omega)) rfl rfl (AE_in gb (by decide)) dX10_text_71 (fun H423 locsH423 hTH423 hSH423 wH423 => ?_)
            have m424 := (Wr.neI wH423 (Or.inr (x_apart hKT hts inX10 tyX10 tyX10_ok nmX10 rfl 1 35 (by decide) (by decide) (by decide)))).trans m410
            have m425 := (Wr.neI wH423 (Or.inr (x_apart hKT hts inX10 tyX10 tyX10_ok nmX10 rfl 2 35 (by decide) (by decide) (by decide)))).trans m411
            have m426 := (Wr.neI wH423 (Or.inr (x_apart hKT hts inX10 tyX10 tyX10_ok nmX10 rfl 3 35 (by decide) (by decide) (by decide)))).trans m412
            have m427 := (Wr.neI wH423 (Or.inr (x_apart hKT hts inX10 tyX10 tyX10_ok nmX10 rfl 18 35 (by decide) (by decide) (by decide)))).trans m413
            have m428 := (Wr.neI wH423 (Or.inr (x_apart hKT hts inX10 tyX10 tyX10_ok nmX10 rfl 59 35 (by decide) (by decide) (by decide)))).trans m414
            have m429 := (Wr.neI wH423 (Or.inr (x_apart hKT hts inX10 tyX10 tyX10_ok nmX10 rfl 62 35 (by decide) (by decide) (by decide)))).trans m415
            have m430 := (Wr.neI wH423 (Or.inr (x_apart hKT hts inX10 tyX10 tyX10_ok nmX10 rfl 65 35 (by decide) (by decide) (by decide)))).trans m416
            have m431 := (Wr.neI wH423 (Or.inr (x_apart hKT hts inX10 tyX10 tyX10_ok nmX10 rfl 70 35 (by decide) (by decide) (by decide)))).trans m417
            have m432 := (Wr.neI wH423 (Or.inr (x_apart hKT hts inX10 tyX10 tyX10_ok nmX10 rfl 0 35 (by decide) (by decide) (by decide)))).trans m418
            have m433 := (Wr.neI wH423 (Or.inr (x_apart hKT hts inX10 tyX10 tyX10_ok nmX10 rfl 41 35 (by decide) (by decide) (by decide)))).trans m419
            have m434 := (Wr.neI wH423 (Or.inr (x_apart hKT hts inX10 tyX10 tyX10_ok nmX10 rfl 42 35 (by decide) (by decide) (by decide)))).trans m420
            have m435 := (Wr.neI wH423 (Or.inr (x_apart hKT hts inX10 tyX10 tyX10_ok nmX10 rfl 34 35 (by decide) (by decide) (by decide)))).trans m421
            have m436 := (Wr.neI wH423 (Or.inr (x_apart hKT hts inX10 tyX10 tyX10_ok nmX10 rfl 19 35 (by decide) (by decide) (by decide)))).trans m422
            have m437 := Wr.I wH423
            refine lv_aload_n hx hb dX10_text_74 rfl (lv_at hl393 1 rfl) ?_
            refine lv_iconst (v := 0) hx hb dX10_text_75 (by decide) ?_
            refine x_put C hTH423 hSH423 (ci := 10) (k := 36) (v := .int 0) (ty0 := tyX10) rfl inX10 tyX10_ok nmX10 (by decide) rfl wF_X10_261 gb rg_112 rfl rfl (okI (by have := i_rng (0 : Int32); omega) (by have := i_rng (0 : Int32); omega)) rfl rfl (AE_in gb (by decide)) dX10_text_76 (fun H438 locsH438 hTH438 hSH438 wH438 => ?_)
            have m439 := (Wr.neI wH438 (Or.inr (x_apart hKT hts inX10 tyX10 tyX10_ok nmX10 rfl 1 36 (by decide) (by decide) (by decide)))).trans m424
            have m440 := (Wr.neI wH438 (Or.inr (x_apart hKT hts inX10 tyX10 tyX10_ok nmX10 rfl 2 36 (by decide) (by decide) (by decide)))).trans m425
            have m441 := (Wr.neI wH438 (Or.inr (x_apart hKT hts inX10 tyX10 tyX10_ok nmX10 rfl 3 36 (by decide) (by decide) (by decide)))).trans m426
            have m442 := (Wr.neI wH438 (Or.inr (x_apart hKT hts inX10 tyX10 tyX10_ok nmX10 rfl 18 36 (by decide) (by decide) (by decide)))).trans m427
            have m443 := (Wr.neI wH438 (Or.inr (x_apart hKT hts inX10 tyX10 tyX10_ok nmX10 rfl 59 36 (by decide) (by decide) (by decide)))).trans m428
            have m444 := (Wr.neI wH438 (Or.inr (x_apart hKT hts inX10 tyX10 tyX10_ok nmX10 rfl 62 36 (by decide) (by decide) (by decide)))).trans m429
            have m445 := (Wr.neI wH438 (Or.inr (x_apart hKT hts inX10 tyX10 tyX10_ok nmX10 rfl 65 36 (by decide) (by decide) (by decide)))).trans m430
            have m446 := (Wr.neI wH438 (Or.inr (x_apart hKT hts inX10 tyX10 tyX10_ok nmX10 rfl 70 36 (by decide) (by decide) (by decide)))).trans m431
            have m447 := (Wr.neI wH438 (Or.inr (x_apart hKT hts inX10 tyX10 tyX10_ok nmX10 rfl 0 36 (by decide) (by decide) (by decide)))).trans m432
            have m448 := (Wr.neI wH438 (Or.inr (x_apart hKT hts inX10 tyX10 tyX10_ok nmX10 rfl 41 36 (by decide) (by decide) (by decide)))).trans m433
            have m449 := (Wr.neI wH438 (Or.inr (x_apart hKT hts inX10 tyX10 tyX10_ok nmX10 rfl 42 36 (by decide) (by decide) (by decide)))).trans m434
            have m450 := (Wr.neI wH438 (Or.inr (x_apart hKT hts inX10 tyX10 tyX10_ok nmX10 rfl 34 36 (by decide) (by decide) (by decide)))).trans m435
            have m451 := (Wr.neI wH438 (Or.inr (x_apart hKT hts inX10 tyX10 tyX10_ok nmX10 rfl 19 36 (by decide) (by decide) (by decide)))).trans m436
            have m452 := (Wr.neI wH438 (Or.inr (x_apart hKT hts inX10 tyX10 tyX10_ok nmX10 rfl 35 36 (by decide) (by decide) (by decide)))).trans m437
            have m453 := Wr.I wH438
            refine lv_aload_n hx hb dX10_text_79 rfl (lv_at hl393 1 rfl) ?_
            refine x_V (As := []) (rest := []) C (f_X10_reads l K G H438 hTH438 gb m442 m451 m452) yo_X10_reads wM_X10_242 ⟨⟨by decide, by decide⟩, by decide, by decide⟩ (x_rv C hTH438 (ci := 10) rfl gb rg_112) rfl hl393.1 rfl (Nat.le_of_ble_eq_true rfl) dX10_text_80 hSH438 (AE_sub (fun _ _ => rfl) (by decide) hSH438.1) (fun vH454 H454 locsH454 pH454 zH454 kH454 hSH454 => ?_)
            have hTH454 := pH454.2.1
            have hvH454 := pH454.1
            subst hvH454
            obtain ⟨c1H454, c2H454⟩ := pH454.2.2
            refine W.eq (g2 := F0 m 83 ls392 []) rfl ?_
            refine lv_iload_n hx hb dX10_text_83 rfl (lv_at hl393 0 rfl) ?_
            refine lv_if_eq (tgt := 94) hx hb dX10_text_84 (by decide) (fun c455 => ?_) (fun c455 => ?_)
            · have k456 := i_eq c455
              refine lv_iconst (v := (-1)) hx hb dX10_text_94 (by decide) ?_
              refine lv_istore (lv' := [(4, .int (-1)), (3, .int 0), (0, .ref b), (1, .int x0), (2, .int x1)]) hx hb dX10_text_95 hl393 (by decide) rfl (fun ls457 hl458 => ?_)
              refine lv_aload_n hx hb dX10_text_97 rfl (lv_at hl458 2 rfl) ?_
              refine lv_iconst (v := 0) hx hb dX10_text_98 (by decide) ?_
              refine x_put C hTH454 hSH454 (ci := 10) (k := 18) (v := .int 0) (ty0 := tyX10) rfl inX10 tyX10_ok nmX10 (by decide) rfl wF_X10_185 gb rg_112 rfl rfl (okI (by have := i_rng (0 : Int32); omega) (by have := i_rng (0 : Int32); omega)) rfl rfl (AE_in gb (by decide)) dX10_text_99 (fun H459 locsH459 hTH459 hSH459 wH459 => ?_)
              have m460 := (Wr.neI wH459 (Or.inr (x_apart hKT hts inX10 tyX10 tyX10_ok nmX10 rfl 21 18 (by decide) (by decide) (by decide)))).trans c1H454
              have m461 := (Wr.neI wH459 (Or.inr (x_apart hKT hts inX10 tyX10 tyX10_ok nmX10 rfl 35 18 (by decide) (by decide) (by decide)))).trans c2H454
              have m462 := Wr.I wH459
              refine lv_iload_n hx hb dX10_text_102 rfl (lv_at hl458 1 rfl) ?_
              refine lv_if_eq (tgt := 128) hx hb dX10_text_103 (by decide) (fun c463 => ?_) (fun c463 => ?_)
              · have k464 := i_eq c463
                refine lv_iload hx hb dX10_text_128 (lv_at hl458 0 rfl) ?_
                refine lv_iconst (v := (-1)) hx hb dX10_text_130 (by decide) ?_
                refine lv_icmp_ne (tgt := 136) hx hb dX10_text_131 (by decide) (fun c465 => ?_) (fun c465 => ?_)
                · have k466 := i_ne c465
                  exfalso
                  omega
                · have k466 := i_eq c465
                  refine lv_iconst (v := (-1)) hx hb dX10_text_134 (by decide) ?_
                  exact x_iret C hQ dX10_text_135 hSH459 (by decide) (by decide) (⟨⟨(-1), rfl, by omega⟩, G, fun _ _ => rfl, hTH459⟩)
              · have k464 := i_ne c463
                exfalso
                omega
            · have k456 := i_ne c455
              exfalso
              omega
        · have k391 := i_ne c390
          exfalso
          omega
  · have k140 := i_eq c139
    refine lv_aload_n hx hb dX10_text_19 rfl (lv_at hl 0 rfl) ?_
    refine lv_iload_n hx hb dX10_text_20 rfl (lv_at hl 2 rfl) ?_
    refine lv_iconst (v := 0) hx hb dX10_text_21 (by decide) ?_
    refine lv_iconst (v := 1) hx hb dX10_text_22 (by decide) ?_
    refine x_V (As := [.int x1, .int 0, .int 1]) (rest := []) C (c_X10_isIn l K G H126 (x1) (0) (1) hTH126 gb) yo_X10_isIn wM_X10_177 ⟨⟨by decide, by decide⟩, by decide, by decide⟩ (x_rv C hTH126 (ci := 10) rfl gb rg_112) rfl hl.1 rfl (Nat.le_of_ble_eq_true rfl) dX10_text_23 hSH126 (AE_sub (fun _ _ => rfl) (by decide) hSH126.1) (fun vH467 H467 locsH467 pH467 zH467 kH467 hSH467 => ?_)
    have hqH467 := pH467.1.symm
    subst hqH467
    rcases pH467.2 with ⟨hvH467, hcH467⟩ | ⟨hvH467, hcH467⟩
    · subst hvH467
      refine W.eq (g2 := F0 m 26 ls [.int 1]) rfl ?_
      refine lv_if_ne (tgt := 44) hx hb dX10_text_26 (by decide) (fun c468 => ?_) (fun c468 => ?_)
      · have k469 := i_ne c468
        refine lv_iconst (v := 1) hx hb dX10_text_44 (by decide) ?_
        refine lv_goto (tgt := 49) hx hb dX10_text_45 (by decide) ?_
        refine lv_istore_n (lv' := [(3, .int 1), (0, .ref b), (1, .int x0), (2, .int x1)]) hx hb dX10_text_49 rfl hl (by decide) rfl (fun ls470 hl471 => ?_)
        refine lv_aload_n hx hb dX10_text_50 rfl (lv_at hl471 1 rfl) ?_
        refine lv_iload_n hx hb dX10_text_51 rfl (lv_at hl471 2 rfl) ?_
        refine lv_iconst (v := 1) hx hb dX10_text_52 (by decide) ?_
        refine lv_icmp_ne (tgt := 60) hx hb dX10_text_53 (by decide) (fun c472 => ?_) (fun c472 => ?_)
        · have k473 := i_ne c472
          refine lv_iconst (v := 0) hx hb dX10_text_60 (by decide) ?_
          refine x_put C hTH126 hSH467 (ci := 10) (k := 34) (v := .int 0) (ty0 := tyX10) rfl inX10 tyX10_ok nmX10 (by decide) rfl wF_X10_231 gb rg_112 rfl rfl (okI (by have := i_rng (0 : Int32); omega) (by have := i_rng (0 : Int32); omega)) rfl rfl (AE_in gb (by decide)) dX10_text_61 (fun H474 locsH474 hTH474 hSH474 wH474 => ?_)
          have m475 := (Wr.neI wH474 (Or.inr (x_apart hKT hts inX10 tyX10 tyX10_ok nmX10 rfl 1 34 (by decide) (by decide) (by decide)))).trans m127
          have m476 := (Wr.neI wH474 (Or.inr (x_apart hKT hts inX10 tyX10 tyX10_ok nmX10 rfl 2 34 (by decide) (by decide) (by decide)))).trans m128
          have m477 := (Wr.neI wH474 (Or.inr (x_apart hKT hts inX10 tyX10 tyX10_ok nmX10 rfl 3 34 (by decide) (by decide) (by decide)))).trans m129
          have m478 := (Wr.neI wH474 (Or.inr (x_apart hKT hts inX10 tyX10 tyX10_ok nmX10 rfl 18 34 (by decide) (by decide) (by decide)))).trans m130
          have m479 := (Wr.neI wH474 (Or.inr (x_apart hKT hts inX10 tyX10 tyX10_ok nmX10 rfl 59 34 (by decide) (by decide) (by decide)))).trans m132
          have m480 := (Wr.neI wH474 (Or.inr (x_apart hKT hts inX10 tyX10 tyX10_ok nmX10 rfl 62 34 (by decide) (by decide) (by decide)))).trans m133
          have m481 := (Wr.neI wH474 (Or.inr (x_apart hKT hts inX10 tyX10 tyX10_ok nmX10 rfl 65 34 (by decide) (by decide) (by decide)))).trans m134
          have m482 := (Wr.neI wH474 (Or.inr (x_apart hKT hts inX10 tyX10 tyX10_ok nmX10 rfl 70 34 (by decide) (by decide) (by decide)))).trans m135
          have m483 := (Wr.neI wH474 (Or.inr (x_apart hKT hts inX10 tyX10 tyX10_ok nmX10 rfl 0 34 (by decide) (by decide) (by decide)))).trans m136
          have m484 := (Wr.neI wH474 (Or.inr (x_apart hKT hts inX10 tyX10 tyX10_ok nmX10 rfl 41 34 (by decide) (by decide) (by decide)))).trans m137
          have m485 := (Wr.neI wH474 (Or.inr (x_apart hKT hts inX10 tyX10 tyX10_ok nmX10 rfl 42 34 (by decide) (by decide) (by decide)))).trans m138
          have m486 := Wr.I wH474
          refine lv_aload_n hx hb dX10_text_64 rfl (lv_at hl471 1 rfl) ?_
          refine lv_iconst (v := 0) hx hb dX10_text_65 (by decide) ?_
          refine x_put C hTH474 hSH474 (ci := 10) (k := 19) (v := .int 0) (ty0 := tyX10) rfl inX10 tyX10_ok nmX10 (by decide) rfl wF_X10_192 gb rg_112 rfl rfl (okI (by have := i_rng (0 : Int32); omega) (by have := i_rng (0 : Int32); omega)) rfl rfl (AE_in gb (by decide)) dX10_text_66 (fun H487 locsH487 hTH487 hSH487 wH487 => ?_)
          have m488 := (Wr.neI wH487 (Or.inr (x_apart hKT hts inX10 tyX10 tyX10_ok nmX10 rfl 1 19 (by decide) (by decide) (by decide)))).trans m475
          have m489 := (Wr.neI wH487 (Or.inr (x_apart hKT hts inX10 tyX10 tyX10_ok nmX10 rfl 2 19 (by decide) (by decide) (by decide)))).trans m476
          have m490 := (Wr.neI wH487 (Or.inr (x_apart hKT hts inX10 tyX10 tyX10_ok nmX10 rfl 3 19 (by decide) (by decide) (by decide)))).trans m477
          have m491 := (Wr.neI wH487 (Or.inr (x_apart hKT hts inX10 tyX10 tyX10_ok nmX10 rfl 18 19 (by decide) (by decide) (by decide)))).trans m478
          have m492 := (Wr.neI wH487 (Or.inr (x_apart hKT hts inX10 tyX10 tyX10_ok nmX10 rfl 59 19 (by decide) (by decide) (by decide)))).trans m479
          have m493 := (Wr.neI wH487 (Or.inr (x_apart hKT hts inX10 tyX10 tyX10_ok nmX10 rfl 62 19 (by decide) (by decide) (by decide)))).trans m480
          have m494 := (Wr.neI wH487 (Or.inr (x_apart hKT hts inX10 tyX10 tyX10_ok nmX10 rfl 65 19 (by decide) (by decide) (by decide)))).trans m481
          have m495 := (Wr.neI wH487 (Or.inr (x_apart hKT hts inX10 tyX10 tyX10_ok nmX10 rfl 70 19 (by decide) (by decide) (by decide)))).trans m482
          have m496 := (Wr.neI wH487 (Or.inr (x_apart hKT hts inX10 tyX10 tyX10_ok nmX10 rfl 0 19 (by decide) (by decide) (by decide)))).trans m483
          have m497 := (Wr.neI wH487 (Or.inr (x_apart hKT hts inX10 tyX10 tyX10_ok nmX10 rfl 41 19 (by decide) (by decide) (by decide)))).trans m484
          have m498 := (Wr.neI wH487 (Or.inr (x_apart hKT hts inX10 tyX10 tyX10_ok nmX10 rfl 42 19 (by decide) (by decide) (by decide)))).trans m485
          have m499 := (Wr.neI wH487 (Or.inr (x_apart hKT hts inX10 tyX10 tyX10_ok nmX10 rfl 34 19 (by decide) (by decide) (by decide)))).trans m486
          have m500 := Wr.I wH487
          refine lv_aload_n hx hb dX10_text_69 rfl (lv_at hl471 1 rfl) ?_
          refine lv_iconst (v := 0) hx hb dX10_text_70 (by decide) ?_
          refine x_put C hTH487 hSH487 (ci := 10) (k := 35) (v := .int 0) (ty0 := tyX10) rfl inX10 tyX10_ok nmX10 (by decide) rfl wF_X10_228 gb rg_112 rfl rfl (okI (by have := i_rng (0 : Int32); omega) (by have := i_rng (0 : Int32); omega)) rfl rfl (AE_in gb (by decide)) dX10_text_71 (fun H501 locsH501 hTH501 hSH501 wH501 => ?_)
          have m502 := (Wr.neI wH501 (Or.inr (x_apart hKT hts inX10 tyX10 tyX10_ok nmX10 rfl 1 35 (by decide) (by decide) (by decide)))).trans m488
          have m503 := (Wr.neI wH501 (Or.inr (x_apart hKT hts inX10 tyX10 tyX10_ok nmX10 rfl 2 35 (by decide) (by decide) (by decide)))).trans m489
          have m504 := (Wr.neI wH501 (Or.inr (x_apart hKT hts inX10 tyX10 tyX10_ok nmX10 rfl 3 35 (by decide) (by decide) (by decide)))).trans m490
          have m505 := (Wr.neI wH501 (Or.inr (x_apart hKT hts inX10 tyX10 tyX10_ok nmX10 rfl 18 35 (by decide) (by decide) (by decide)))).trans m491
          have m506 := (Wr.neI wH501 (Or.inr (x_apart hKT hts inX10 tyX10 tyX10_ok nmX10 rfl 59 35 (by decide) (by decide) (by decide)))).trans m492
          have m507 := (Wr.neI wH501 (Or.inr (x_apart hKT hts inX10 tyX10 tyX10_ok nmX10 rfl 62 35 (by decide) (by decide) (by decide)))).trans m493
          have m508 := (Wr.neI wH501 (Or.inr (x_apart hKT hts inX10 tyX10 tyX10_ok nmX10 rfl 65 35 (by decide) (by decide) (by decide)))).trans m494
          have m509 := (Wr.neI wH501 (Or.inr (x_apart hKT hts inX10 tyX10 tyX10_ok nmX10 rfl 70 35 (by decide) (by decide) (by decide)))).trans m495
          have m510 := (Wr.neI wH501 (Or.inr (x_apart hKT hts inX10 tyX10 tyX10_ok nmX10 rfl 0 35 (by decide) (by decide) (by decide)))).trans m496
          have m511 := (Wr.neI wH501 (Or.inr (x_apart hKT hts inX10 tyX10 tyX10_ok nmX10 rfl 41 35 (by decide) (by decide) (by decide)))).trans m497
          have m512 := (Wr.neI wH501 (Or.inr (x_apart hKT hts inX10 tyX10 tyX10_ok nmX10 rfl 42 35 (by decide) (by decide) (by decide)))).trans m498
          have m513 := (Wr.neI wH501 (Or.inr (x_apart hKT hts inX10 tyX10 tyX10_ok nmX10 rfl 34 35 (by decide) (by decide) (by decide)))).trans m499
          have m514 := (Wr.neI wH501 (Or.inr (x_apart hKT hts inX10 tyX10 tyX10_ok nmX10 rfl 19 35 (by decide) (by decide) (by decide)))).trans m500
          have m515 := Wr.I wH501
          refine lv_aload_n hx hb dX10_text_74 rfl (lv_at hl471 1 rfl) ?_
          refine lv_iconst (v := 0) hx hb dX10_text_75 (by decide) ?_
          refine x_put C hTH501 hSH501 (ci := 10) (k := 36) (v := .int 0) (ty0 := tyX10) rfl inX10 tyX10_ok nmX10 (by decide) rfl wF_X10_261 gb rg_112 rfl rfl (okI (by have := i_rng (0 : Int32); omega) (by have := i_rng (0 : Int32); omega)) rfl rfl (AE_in gb (by decide)) dX10_text_76 (fun H516 locsH516 hTH516 hSH516 wH516 => ?_)
          have m517 := (Wr.neI wH516 (Or.inr (x_apart hKT hts inX10 tyX10 tyX10_ok nmX10 rfl 1 36 (by decide) (by decide) (by decide)))).trans m502
          have m518 := (Wr.neI wH516 (Or.inr (x_apart hKT hts inX10 tyX10 tyX10_ok nmX10 rfl 2 36 (by decide) (by decide) (by decide)))).trans m503
          have m519 := (Wr.neI wH516 (Or.inr (x_apart hKT hts inX10 tyX10 tyX10_ok nmX10 rfl 3 36 (by decide) (by decide) (by decide)))).trans m504
          have m520 := (Wr.neI wH516 (Or.inr (x_apart hKT hts inX10 tyX10 tyX10_ok nmX10 rfl 18 36 (by decide) (by decide) (by decide)))).trans m505
          have m521 := (Wr.neI wH516 (Or.inr (x_apart hKT hts inX10 tyX10 tyX10_ok nmX10 rfl 59 36 (by decide) (by decide) (by decide)))).trans m506
          have m522 := (Wr.neI wH516 (Or.inr (x_apart hKT hts inX10 tyX10 tyX10_ok nmX10 rfl 62 36 (by decide) (by decide) (by decide)))).trans m507
          have m523 := (Wr.neI wH516 (Or.inr (x_apart hKT hts inX10 tyX10 tyX10_ok nmX10 rfl 65 36 (by decide) (by decide) (by decide)))).trans m508
          have m524 := (Wr.neI wH516 (Or.inr (x_apart hKT hts inX10 tyX10 tyX10_ok nmX10 rfl 70 36 (by decide) (by decide) (by decide)))).trans m509
          have m525 := (Wr.neI wH516 (Or.inr (x_apart hKT hts inX10 tyX10 tyX10_ok nmX10 rfl 0 36 (by decide) (by decide) (by decide)))).trans m510
          have m526 := (Wr.neI wH516 (Or.inr (x_apart hKT hts inX10 tyX10 tyX10_ok nmX10 rfl 41 36 (by decide) (by decide) (by decide)))).trans m511
          have m527 := (Wr.neI wH516 (Or.inr (x_apart hKT hts inX10 tyX10 tyX10_ok nmX10 rfl 42 36 (by decide) (by decide) (by decide)))).trans m512
          have m528 := (Wr.neI wH516 (Or.inr (x_apart hKT hts inX10 tyX10 tyX10_ok nmX10 rfl 34 36 (by decide) (by decide) (by decide)))).trans m513
          have m529 := (Wr.neI wH516 (Or.inr (x_apart hKT hts inX10 tyX10 tyX10_ok nmX10 rfl 19 36 (by decide) (by decide) (by decide)))).trans m514
          have m530 := (Wr.neI wH516 (Or.inr (x_apart hKT hts inX10 tyX10 tyX10_ok nmX10 rfl 35 36 (by decide) (by decide) (by decide)))).trans m515
          have m531 := Wr.I wH516
          refine lv_aload_n hx hb dX10_text_79 rfl (lv_at hl471 1 rfl) ?_
          refine x_V (As := []) (rest := []) C (f_X10_reads l K G H516 hTH516 gb m520 m529 m530) yo_X10_reads wM_X10_242 ⟨⟨by decide, by decide⟩, by decide, by decide⟩ (x_rv C hTH516 (ci := 10) rfl gb rg_112) rfl hl471.1 rfl (Nat.le_of_ble_eq_true rfl) dX10_text_80 hSH516 (AE_sub (fun _ _ => rfl) (by decide) hSH516.1) (fun vH532 H532 locsH532 pH532 zH532 kH532 hSH532 => ?_)
          have hTH532 := pH532.2.1
          have hvH532 := pH532.1
          subst hvH532
          obtain ⟨c1H532, c2H532⟩ := pH532.2.2
          refine W.eq (g2 := F0 m 83 ls470 []) rfl ?_
          refine lv_iload_n hx hb dX10_text_83 rfl (lv_at hl471 0 rfl) ?_
          refine lv_if_eq (tgt := 94) hx hb dX10_text_84 (by decide) (fun c533 => ?_) (fun c533 => ?_)
          · have k534 := i_eq c533
            exfalso
            omega
          · have k534 := i_ne c533
            refine lv_aload_n hx hb dX10_text_87 rfl (lv_at hl471 1 rfl) ?_
            refine x_V (As := []) (rest := []) C (f_X10_readText l K G H532 hTH532 gb c1H532) yo_X10_readText wM_X10_295 ⟨⟨by decide, by decide⟩, by decide, by decide⟩ (x_rv C hTH532 (ci := 10) rfl gb rg_112) rfl hl471.1 rfl (Nat.le_of_ble_eq_true rfl) dX10_text_88 hSH532 (AE_sub (fun _ _ => rfl) (by decide) hSH532.1) (fun vH535 H535 locsH535 pH535 zH535 kH535 hSH535 => ?_)
            have hqH535 := pH535.1.symm
            subst hqH535
            have hvH535 := pH535.2
            subst hvH535
            refine W.eq (g2 := F0 m 91 ls470 [.int 0]) rfl ?_
            refine lv_goto (tgt := 95) hx hb dX10_text_91 (by decide) ?_
            refine lv_istore (lv' := [(4, .int 0), (3, .int 1), (0, .ref b), (1, .int x0), (2, .int x1)]) hx hb dX10_text_95 hl471 (by decide) rfl (fun ls536 hl537 => ?_)
            refine lv_aload_n hx hb dX10_text_97 rfl (lv_at hl537 2 rfl) ?_
            refine lv_iconst (v := 0) hx hb dX10_text_98 (by decide) ?_
            refine x_put C hTH532 hSH535 (ci := 10) (k := 18) (v := .int 0) (ty0 := tyX10) rfl inX10 tyX10_ok nmX10 (by decide) rfl wF_X10_185 gb rg_112 rfl rfl (okI (by have := i_rng (0 : Int32); omega) (by have := i_rng (0 : Int32); omega)) rfl rfl (AE_in gb (by decide)) dX10_text_99 (fun H538 locsH538 hTH538 hSH538 wH538 => ?_)
            have m539 := (Wr.neI wH538 (Or.inr (x_apart hKT hts inX10 tyX10 tyX10_ok nmX10 rfl 21 18 (by decide) (by decide) (by decide)))).trans c1H532
            have m540 := (Wr.neI wH538 (Or.inr (x_apart hKT hts inX10 tyX10 tyX10_ok nmX10 rfl 35 18 (by decide) (by decide) (by decide)))).trans c2H532
            have m541 := Wr.I wH538
            refine lv_iload_n hx hb dX10_text_102 rfl (lv_at hl537 1 rfl) ?_
            refine lv_if_eq (tgt := 128) hx hb dX10_text_103 (by decide) (fun c542 => ?_) (fun c542 => ?_)
            · have k543 := i_eq c542
              exfalso
              omega
            · have k543 := i_ne c542
              refine lv_iload hx hb dX10_text_106 (lv_at hl537 0 rfl) ?_
              refine lv_iconst (v := (-1)) hx hb dX10_text_108 (by decide) ?_
              refine lv_icmp_ne (tgt := 128) hx hb dX10_text_109 (by decide) (fun c544 => ?_) (fun c544 => ?_)
              · have k545 := i_ne c544
                refine lv_iload hx hb dX10_text_128 (lv_at hl537 0 rfl) ?_
                refine lv_iconst (v := (-1)) hx hb dX10_text_130 (by decide) ?_
                refine lv_icmp_ne (tgt := 136) hx hb dX10_text_131 (by decide) (fun c546 => ?_) (fun c546 => ?_)
                · have k547 := i_ne c546
                  refine lv_iload_n hx hb dX10_text_136 rfl (lv_at hl537 3 rfl) ?_
                  refine lv_if_ne (tgt := 144) hx hb dX10_text_137 (by decide) (fun c548 => ?_) (fun c548 => ?_)
                  · have k549 := i_ne c548
                    exfalso
                    omega
                  · have k549 := i_eq c548
                    refine lv_iload_n hx hb dX10_text_140 rfl (lv_at hl537 4 rfl) ?_
                    refine lv_goto (tgt := 147) hx hb dX10_text_141 (by decide) ?_
                    refine lv_istore (lv' := [(5, .int x1), (4, .int 0), (3, .int 1), (0, .ref b), (1, .int x0), (2, .int x1)]) hx hb dX10_text_147 hl537 (by decide) rfl (fun ls550 hl551 => ?_)
                    refine lv_iconst (v := 0) hx hb dX10_text_149 (by decide) ?_
                    refine lv_istore (lv' := [(6, .int 0), (5, .int x1), (4, .int 0), (3, .int 1), (0, .ref b), (1, .int x0), (2, .int x1)]) hx hb dX10_text_150 hl551 (by decide) rfl (fun ls552 hl553 => ?_)
                    refine lv_iload hx hb dX10_text_152 (lv_at hl553 0 rfl) ?_
                    refine lv_iload hx hb dX10_text_154 (lv_at hl553 2 rfl) ?_
                    refine lv_icmp_ge (tgt := 326) hx hb dX10_text_156 (by decide) (fun c554 => ?_) (fun c554 => ?_)
                    · have k555 := i_le c554
                      refine lv_iconst (v := 0) hx hb dX10_text_326 (by decide) ?_
                      refine lv_istore (lv' := [(6, .int 0), (5, .int x1), (4, .int 0), (3, .int 1), (0, .ref b), (1, .int x0), (2, .int x1)]) hx hb dX10_text_327 hl553 (by decide) rfl (fun ls556 hl557 => ?_)
                      refine lv_iload hx hb dX10_text_329 (lv_at hl557 0 rfl) ?_
                      refine lv_aload_n hx hb dX10_text_331 rfl (lv_at hl557 4 rfl) ?_
                      refine x_gi C hTH538 (ci := 10) (k := 35) rfl inX10 (by decide) wF_X10_228 gb rg_112 rfl dX10_text_332 (fun x558 ex558 bx558 => ?_)
                      have ux558 : x558 = 0 := ex558.trans m540
                      subst ux558
                      refine lv_icmp_ge (tgt := 394) hx hb dX10_text_335 (by decide) (fun c559 => ?_) (fun c559 => ?_)
                      · have k560 := i_le c559
                        refine lv_aload_n hx hb dX10_text_394 rfl (lv_at hl557 4 rfl) ?_
                        refine x_gr C hTH538 (ci := 10) (k := 24) rfl inX10 (by decide) wF_X10_59 gb rg_112 rfl dX10_text_395 (fun q561 eq561 gq561 => ?_)
                        refine lv_iload hx hb dX10_text_398 (lv_at hl557 1 rfl) ?_
                        refine lv_iload hx hb dX10_text_400 (lv_at hl557 2 rfl) ?_
                        refine x_iast C hTH538 hSH538 gq561 rg_128 (by omega) (by show _ < ((7 : Nat) : Int); omega) (by decide) (AE_in gq561 (by decide)) dX10_text_402 (fun H562 locsH562 hTH562 hSH562 wH562 => ?_)
                        have m563 := (Wr.neI wH562 (Or.inl (G_ne gb gq561 (by decide)))).trans m539
                        have m564 := (Wr.neI wH562 (Or.inl (G_ne gb gq561 (by decide)))).trans m540
                        have m565 := (Wr.neI wH562 (Or.inl (G_ne gb gq561 (by decide)))).trans m541
                        have m566 := eq561.trans (Wr.neR wH562 (Or.inl (G_ne gb gq561 (by decide)))).symm
                        refine lv_iload hx hb dX10_text_403 (lv_at hl557 2 rfl) ?_
                        exact x_iret C hQ dX10_text_405 hSH562 (by decide) (by decide) (⟨⟨0, rfl, by omega⟩, G, fun _ _ => rfl, hTH562⟩)
                      · have k560 := i_nle c559
                        exfalso
                        omega
                    · have k555 := i_nle c554
                      exfalso
                      omega
                · have k547 := i_eq c546
                  exfalso
                  omega
              · have k545 := i_eq c544
                exfalso
                omega
        · have k473 := i_eq c472
          exfalso
          omega
      · have k469 := i_eq c468
        exfalso
        omega
    · subst hvH467
      refine W.eq (g2 := F0 m 26 ls [.int 0]) rfl ?_
      refine lv_if_ne (tgt := 44) hx hb dX10_text_26 (by decide) (fun c567 => ?_) (fun c567 => ?_)
      · have k568 := i_ne c567
        exfalso
        omega
      · have k568 := i_eq c567
        refine lv_iload_n hx hb dX10_text_29 rfl (lv_at hl 1 rfl) ?_
        refine lv_iconst (v := 1) hx hb dX10_text_30 (by decide) ?_
        refine lv_icmp_ne (tgt := 48) hx hb dX10_text_31 (by decide) (fun c569 => ?_) (fun c569 => ?_)
        · have k570 := i_ne c569
          refine lv_iconst (v := 0) hx hb dX10_text_48 (by decide) ?_
          refine lv_istore_n (lv' := [(3, .int 0), (0, .ref b), (1, .int x0), (2, .int x1)]) hx hb dX10_text_49 rfl hl (by decide) rfl (fun ls571 hl572 => ?_)
          refine lv_aload_n hx hb dX10_text_50 rfl (lv_at hl572 1 rfl) ?_
          refine lv_iload_n hx hb dX10_text_51 rfl (lv_at hl572 2 rfl) ?_
          refine lv_iconst (v := 1) hx hb dX10_text_52 (by decide) ?_
          refine lv_icmp_ne (tgt := 60) hx hb dX10_text_53 (by decide) (fun c573 => ?_) (fun c573 => ?_)
          · have k574 := i_ne c573
            refine lv_iconst (v := 0) hx hb dX10_text_60 (by decide) ?_
            refine x_put C hTH126 hSH467 (ci := 10) (k := 34) (v := .int 0) (ty0 := tyX10) rfl inX10 tyX10_ok nmX10 (by decide) rfl wF_X10_231 gb rg_112 rfl rfl (okI (by have := i_rng (0 : Int32); omega) (by have := i_rng (0 : Int32); omega)) rfl rfl (AE_in gb (by decide)) dX10_text_61 (fun H575 locsH575 hTH575 hSH575 wH575 => ?_)
            have m576 := (Wr.neI wH575 (Or.inr (x_apart hKT hts inX10 tyX10 tyX10_ok nmX10 rfl 1 34 (by decide) (by decide) (by decide)))).trans m127
            have m577 := (Wr.neI wH575 (Or.inr (x_apart hKT hts inX10 tyX10 tyX10_ok nmX10 rfl 2 34 (by decide) (by decide) (by decide)))).trans m128
            have m578 := (Wr.neI wH575 (Or.inr (x_apart hKT hts inX10 tyX10 tyX10_ok nmX10 rfl 3 34 (by decide) (by decide) (by decide)))).trans m129
            have m579 := (Wr.neI wH575 (Or.inr (x_apart hKT hts inX10 tyX10 tyX10_ok nmX10 rfl 18 34 (by decide) (by decide) (by decide)))).trans m130
            have m580 := (Wr.neI wH575 (Or.inr (x_apart hKT hts inX10 tyX10 tyX10_ok nmX10 rfl 59 34 (by decide) (by decide) (by decide)))).trans m132
            have m581 := (Wr.neI wH575 (Or.inr (x_apart hKT hts inX10 tyX10 tyX10_ok nmX10 rfl 62 34 (by decide) (by decide) (by decide)))).trans m133
            have m582 := (Wr.neI wH575 (Or.inr (x_apart hKT hts inX10 tyX10 tyX10_ok nmX10 rfl 65 34 (by decide) (by decide) (by decide)))).trans m134
            have m583 := (Wr.neI wH575 (Or.inr (x_apart hKT hts inX10 tyX10 tyX10_ok nmX10 rfl 70 34 (by decide) (by decide) (by decide)))).trans m135
            have m584 := (Wr.neI wH575 (Or.inr (x_apart hKT hts inX10 tyX10 tyX10_ok nmX10 rfl 0 34 (by decide) (by decide) (by decide)))).trans m136
            have m585 := (Wr.neI wH575 (Or.inr (x_apart hKT hts inX10 tyX10 tyX10_ok nmX10 rfl 41 34 (by decide) (by decide) (by decide)))).trans m137
            have m586 := (Wr.neI wH575 (Or.inr (x_apart hKT hts inX10 tyX10 tyX10_ok nmX10 rfl 42 34 (by decide) (by decide) (by decide)))).trans m138
            have m587 := Wr.I wH575
            refine lv_aload_n hx hb dX10_text_64 rfl (lv_at hl572 1 rfl) ?_
            refine lv_iconst (v := 0) hx hb dX10_text_65 (by decide) ?_
            refine x_put C hTH575 hSH575 (ci := 10) (k := 19) (v := .int 0) (ty0 := tyX10) rfl inX10 tyX10_ok nmX10 (by decide) rfl wF_X10_192 gb rg_112 rfl rfl (okI (by have := i_rng (0 : Int32); omega) (by have := i_rng (0 : Int32); omega)) rfl rfl (AE_in gb (by decide)) dX10_text_66 (fun H588 locsH588 hTH588 hSH588 wH588 => ?_)
            have m589 := (Wr.neI wH588 (Or.inr (x_apart hKT hts inX10 tyX10 tyX10_ok nmX10 rfl 1 19 (by decide) (by decide) (by decide)))).trans m576
            have m590 := (Wr.neI wH588 (Or.inr (x_apart hKT hts inX10 tyX10 tyX10_ok nmX10 rfl 2 19 (by decide) (by decide) (by decide)))).trans m577
            have m591 := (Wr.neI wH588 (Or.inr (x_apart hKT hts inX10 tyX10 tyX10_ok nmX10 rfl 3 19 (by decide) (by decide) (by decide)))).trans m578
            have m592 := (Wr.neI wH588 (Or.inr (x_apart hKT hts inX10 tyX10 tyX10_ok nmX10 rfl 18 19 (by decide) (by decide) (by decide)))).trans m579
            have m593 := (Wr.neI wH588 (Or.inr (x_apart hKT hts inX10 tyX10 tyX10_ok nmX10 rfl 59 19 (by decide) (by decide) (by decide)))).trans m580
            have m594 := (Wr.neI wH588 (Or.inr (x_apart hKT hts inX10 tyX10 tyX10_ok nmX10 rfl 62 19 (by decide) (by decide) (by decide)))).trans m581
            have m595 := (Wr.neI wH588 (Or.inr (x_apart hKT hts inX10 tyX10 tyX10_ok nmX10 rfl 65 19 (by decide) (by decide) (by decide)))).trans m582
            have m596 := (Wr.neI wH588 (Or.inr (x_apart hKT hts inX10 tyX10 tyX10_ok nmX10 rfl 70 19 (by decide) (by decide) (by decide)))).trans m583
            have m597 := (Wr.neI wH588 (Or.inr (x_apart hKT hts inX10 tyX10 tyX10_ok nmX10 rfl 0 19 (by decide) (by decide) (by decide)))).trans m584
            have m598 := (Wr.neI wH588 (Or.inr (x_apart hKT hts inX10 tyX10 tyX10_ok nmX10 rfl 41 19 (by decide) (by decide) (by decide)))).trans m585
            have m599 := (Wr.neI wH588 (Or.inr (x_apart hKT hts inX10 tyX10 tyX10_ok nmX10 rfl 42 19 (by decide) (by decide) (by decide)))).trans m586
            have m600 := (Wr.neI wH588 (Or.inr (x_apart hKT hts inX10 tyX10 tyX10_ok nmX10 rfl 34 19 (by decide) (by decide) (by decide)))).trans m587
            have m601 := Wr.I wH588
            refine lv_aload_n hx hb dX10_text_69 rfl (lv_at hl572 1 rfl) ?_
            refine lv_iconst (v := 0) hx hb dX10_text_70 (by decide) ?_
            refine x_put C hTH588 hSH588 (ci := 10) (k := 35) (v := .int 0) (ty0 := tyX10) rfl inX10 tyX10_ok nmX10 (by decide) rfl wF_X10_228 gb rg_112 rfl rfl (okI (by have := i_rng (0 : Int32); omega) (by have := i_rng (0 : Int32); omega)) rfl rfl (AE_in gb (by decide)) dX10_text_71 (fun H602 locsH602 hTH602 hSH602 wH602 => ?_)
            have m603 := (Wr.neI wH602 (Or.inr (x_apart hKT hts inX10 tyX10 tyX10_ok nmX10 rfl 1 35 (by decide) (by decide) (by decide)))).trans m589
            have m604 := (Wr.neI wH602 (Or.inr (x_apart hKT hts inX10 tyX10 tyX10_ok nmX10 rfl 2 35 (by decide) (by decide) (by decide)))).trans m590
            have m605 := (Wr.neI wH602 (Or.inr (x_apart hKT hts inX10 tyX10 tyX10_ok nmX10 rfl 3 35 (by decide) (by decide) (by decide)))).trans m591
            have m606 := (Wr.neI wH602 (Or.inr (x_apart hKT hts inX10 tyX10 tyX10_ok nmX10 rfl 18 35 (by decide) (by decide) (by decide)))).trans m592
            have m607 := (Wr.neI wH602 (Or.inr (x_apart hKT hts inX10 tyX10 tyX10_ok nmX10 rfl 59 35 (by decide) (by decide) (by decide)))).trans m593
            have m608 := (Wr.neI wH602 (Or.inr (x_apart hKT hts inX10 tyX10 tyX10_ok nmX10 rfl 62 35 (by decide) (by decide) (by decide)))).trans m594
            have m609 := (Wr.neI wH602 (Or.inr (x_apart hKT hts inX10 tyX10 tyX10_ok nmX10 rfl 65 35 (by decide) (by decide) (by decide)))).trans m595
            have m610 := (Wr.neI wH602 (Or.inr (x_apart hKT hts inX10 tyX10 tyX10_ok nmX10 rfl 70 35 (by decide) (by decide) (by decide)))).trans m596
            have m611 := (Wr.neI wH602 (Or.inr (x_apart hKT hts inX10 tyX10 tyX10_ok nmX10 rfl 0 35 (by decide) (by decide) (by decide)))).trans m597
            have m612 := (Wr.neI wH602 (Or.inr (x_apart hKT hts inX10 tyX10 tyX10_ok nmX10 rfl 41 35 (by decide) (by decide) (by decide)))).trans m598
            have m613 := (Wr.neI wH602 (Or.inr (x_apart hKT hts inX10 tyX10 tyX10_ok nmX10 rfl 42 35 (by decide) (by decide) (by decide)))).trans m599
            have m614 := (Wr.neI wH602 (Or.inr (x_apart hKT hts inX10 tyX10 tyX10_ok nmX10 rfl 34 35 (by decide) (by decide) (by decide)))).trans m600
            have m615 := (Wr.neI wH602 (Or.inr (x_apart hKT hts inX10 tyX10 tyX10_ok nmX10 rfl 19 35 (by decide) (by decide) (by decide)))).trans m601
            have m616 := Wr.I wH602
            refine lv_aload_n hx hb dX10_text_74 rfl (lv_at hl572 1 rfl) ?_
            refine lv_iconst (v := 0) hx hb dX10_text_75 (by decide) ?_
            refine x_put C hTH602 hSH602 (ci := 10) (k := 36) (v := .int 0) (ty0 := tyX10) rfl inX10 tyX10_ok nmX10 (by decide) rfl wF_X10_261 gb rg_112 rfl rfl (okI (by have := i_rng (0 : Int32); omega) (by have := i_rng (0 : Int32); omega)) rfl rfl (AE_in gb (by decide)) dX10_text_76 (fun H617 locsH617 hTH617 hSH617 wH617 => ?_)
            have m618 := (Wr.neI wH617 (Or.inr (x_apart hKT hts inX10 tyX10 tyX10_ok nmX10 rfl 1 36 (by decide) (by decide) (by decide)))).trans m603
            have m619 := (Wr.neI wH617 (Or.inr (x_apart hKT hts inX10 tyX10 tyX10_ok nmX10 rfl 2 36 (by decide) (by decide) (by decide)))).trans m604
            have m620 := (Wr.neI wH617 (Or.inr (x_apart hKT hts inX10 tyX10 tyX10_ok nmX10 rfl 3 36 (by decide) (by decide) (by decide)))).trans m605
            have m621 := (Wr.neI wH617 (Or.inr (x_apart hKT hts inX10 tyX10 tyX10_ok nmX10 rfl 18 36 (by decide) (by decide) (by decide)))).trans m606
            have m622 := (Wr.neI wH617 (Or.inr (x_apart hKT hts inX10 tyX10 tyX10_ok nmX10 rfl 59 36 (by decide) (by decide) (by decide)))).trans m607
            have m623 := (Wr.neI wH617 (Or.inr (x_apart hKT hts inX10 tyX10 tyX10_ok nmX10 rfl 62 36 (by decide) (by decide) (by decide)))).trans m608
            have m624 := (Wr.neI wH617 (Or.inr (x_apart hKT hts inX10 tyX10 tyX10_ok nmX10 rfl 65 36 (by decide) (by decide) (by decide)))).trans m609
            have m625 := (Wr.neI wH617 (Or.inr (x_apart hKT hts inX10 tyX10 tyX10_ok nmX10 rfl 70 36 (by decide) (by decide) (by decide)))).trans m610
            have m626 := (Wr.neI wH617 (Or.inr (x_apart hKT hts inX10 tyX10 tyX10_ok nmX10 rfl 0 36 (by decide) (by decide) (by decide)))).trans m611
            have m627 := (Wr.neI wH617 (Or.inr (x_apart hKT hts inX10 tyX10 tyX10_ok nmX10 rfl 41 36 (by decide) (by decide) (by decide)))).trans m612
            have m628 := (Wr.neI wH617 (Or.inr (x_apart hKT hts inX10 tyX10 tyX10_ok nmX10 rfl 42 36 (by decide) (by decide) (by decide)))).trans m613
            have m629 := (Wr.neI wH617 (Or.inr (x_apart hKT hts inX10 tyX10 tyX10_ok nmX10 rfl 34 36 (by decide) (by decide) (by decide)))).trans m614
            have m630 := (Wr.neI wH617 (Or.inr (x_apart hKT hts inX10 tyX10 tyX10_ok nmX10 rfl 19 36 (by decide) (by decide) (by decide)))).trans m615
            have m631 := (Wr.neI wH617 (Or.inr (x_apart hKT hts inX10 tyX10 tyX10_ok nmX10 rfl 35 36 (by decide) (by decide) (by decide)))).trans m616
            have m632 := Wr.I wH617
            refine lv_aload_n hx hb dX10_text_79 rfl (lv_at hl572 1 rfl) ?_
            refine x_V (As := []) (rest := []) C (f_X10_reads l K G H617 hTH617 gb m621 m630 m631) yo_X10_reads wM_X10_242 ⟨⟨by decide, by decide⟩, by decide, by decide⟩ (x_rv C hTH617 (ci := 10) rfl gb rg_112) rfl hl572.1 rfl (Nat.le_of_ble_eq_true rfl) dX10_text_80 hSH617 (AE_sub (fun _ _ => rfl) (by decide) hSH617.1) (fun vH633 H633 locsH633 pH633 zH633 kH633 hSH633 => ?_)
            have hTH633 := pH633.2.1
            have hvH633 := pH633.1
            subst hvH633
            obtain ⟨c1H633, c2H633⟩ := pH633.2.2
            refine W.eq (g2 := F0 m 83 ls571 []) rfl ?_
            refine lv_iload_n hx hb dX10_text_83 rfl (lv_at hl572 0 rfl) ?_
            refine lv_if_eq (tgt := 94) hx hb dX10_text_84 (by decide) (fun c634 => ?_) (fun c634 => ?_)
            · have k635 := i_eq c634
              refine lv_iconst (v := (-1)) hx hb dX10_text_94 (by decide) ?_
              refine lv_istore (lv' := [(4, .int (-1)), (3, .int 0), (0, .ref b), (1, .int x0), (2, .int x1)]) hx hb dX10_text_95 hl572 (by decide) rfl (fun ls636 hl637 => ?_)
              refine lv_aload_n hx hb dX10_text_97 rfl (lv_at hl637 2 rfl) ?_
              refine lv_iconst (v := 0) hx hb dX10_text_98 (by decide) ?_
              refine x_put C hTH633 hSH633 (ci := 10) (k := 18) (v := .int 0) (ty0 := tyX10) rfl inX10 tyX10_ok nmX10 (by decide) rfl wF_X10_185 gb rg_112 rfl rfl (okI (by have := i_rng (0 : Int32); omega) (by have := i_rng (0 : Int32); omega)) rfl rfl (AE_in gb (by decide)) dX10_text_99 (fun H638 locsH638 hTH638 hSH638 wH638 => ?_)
              have m639 := (Wr.neI wH638 (Or.inr (x_apart hKT hts inX10 tyX10 tyX10_ok nmX10 rfl 21 18 (by decide) (by decide) (by decide)))).trans c1H633
              have m640 := (Wr.neI wH638 (Or.inr (x_apart hKT hts inX10 tyX10 tyX10_ok nmX10 rfl 35 18 (by decide) (by decide) (by decide)))).trans c2H633
              have m641 := Wr.I wH638
              refine lv_iload_n hx hb dX10_text_102 rfl (lv_at hl637 1 rfl) ?_
              refine lv_if_eq (tgt := 128) hx hb dX10_text_103 (by decide) (fun c642 => ?_) (fun c642 => ?_)
              · have k643 := i_eq c642
                refine lv_iload hx hb dX10_text_128 (lv_at hl637 0 rfl) ?_
                refine lv_iconst (v := (-1)) hx hb dX10_text_130 (by decide) ?_
                refine lv_icmp_ne (tgt := 136) hx hb dX10_text_131 (by decide) (fun c644 => ?_) (fun c644 => ?_)
                · have k645 := i_ne c644
                  exfalso
                  omega
                · have k645 := i_eq c644
                  refine lv_iconst (v := (-1)) hx hb dX10_text_134 (by decide) ?_
                  exact x_iret C hQ dX10_text_135 hSH638 (by decide) (by decide) (⟨⟨(-1), rfl, by omega⟩, G, fun _ _ => rfl, hTH638⟩)
              · have k643 := i_ne c642
                exfalso
                omega
            · have k635 := i_ne c634
              exfalso
              omega
          · have k574 := i_eq c573
            exfalso
            omega
        · have k570 := i_eq c569
          exfalso
          omega
