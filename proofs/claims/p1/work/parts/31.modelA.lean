set_option maxHeartbeats 4000000 in
set_option maxRecDepth 100000 in
theorem f_X10_isBar (l : Launch) (K : KE) (G : Nat → Option Nat) (H : Heap) {b : Nat} (x0 : Int32) (hT : TY K G H) (gb : G b = some 112) (fx : FM K H b) : MX l K yX10_isBar cX10_isBar 2 (some .boolean) 0 0 0 0 [.ref b, .int x0] H (AE G [] H.size) (fun v H1 => H1 = H ∧ ((v = some (.int 1) ∧ False) ∨ (v = some (.int 0) ∧ ¬ False))) := by
  refine MX.of (by decide +kernel) (Nat.le_of_ble_eq_true rfl) ?_
  intro p e s m below meth c ls Q C hH hl hQ
  subst hH
  have C : CX p K s m _ meth c RX10 cX10_isBar 2 (some .boolean) "isBar" := C
  obtain ⟨hx, hb, hml, hown, hts, hKT, hr, hlocks, hnm⟩ := id C
  have hl : lv_has ls 2 [(0, .ref b), (1, .int x0)] := hl
  have hS : va_S (AE G [] s.heap.size) s.heap s.heap [] := va_S.rf
  have n_0 : (0 : Int32).toInt = 0 := rfl
  obtain ⟨f1, f2, f3, f4, f5, f6, f7, f8, f9, f10⟩ := fx
  refine lv_iload_n hx hb dX10_isBar_0 rfl (lv_at hl 1 rfl) ?_
  refine lv_if_lt (tgt := 16) hx hb dX10_isBar_1 (by decide) (fun c101 => ?_) (fun c101 => ?_)
  · have k102 := i_lt c101
    refine lv_iconst (v := 0) hx hb dX10_isBar_16 (by decide) ?_
    exact x_zret C hQ (Or.inl rfl) dX10_isBar_17 hS (by decide) (by decide) (⟨rfl, Or.inr ⟨rfl, fun h => h⟩⟩)
  · have k102 := i_nlt c101
    refine lv_iload_n hx hb dX10_isBar_4 rfl (lv_at hl 1 rfl) ?_
    refine lv_aload_n hx hb dX10_isBar_5 rfl (lv_at hl 0 rfl) ?_
    refine x_gi C hT (ci := 10) (k := 1) rfl inX10 (by decide) wF_X10_170 gb rg_112 rfl dX10_isBar_6 (fun x103 ex103 bx103 => ?_)
    have ux103 : x103 = 0 := ex103.trans f1
    subst ux103
    refine lv_icmp_ge (tgt := 16) hx hb dX10_isBar_9 (by decide) (fun c104 => ?_) (fun c104 => ?_)
    · have k105 := i_le c104
      refine lv_iconst (v := 0) hx hb dX10_isBar_16 (by decide) ?_
      exact x_zret C hQ (Or.inl rfl) dX10_isBar_17 hS (by decide) (by decide) (⟨rfl, Or.inr ⟨rfl, fun h => h⟩⟩)
    · have k105 := i_nle c104
      exfalso
      omega

set_option maxHeartbeats 4000000 in
set_option maxRecDepth 100000 in
theorem f_X10_isSlice (l : Launch) (K : KE) (G : Nat → Option Nat) (H : Heap) {b : Nat} (x0 : Int32) (x1 : Int32) (hT : TY K G H) (gb : G b = some 112) (fx : FM K H b) : MX l K yX10_isSlice cX10_isSlice 3 (some .boolean) 1 21 0 0 [.ref b, .int x0, .int x1] H (AE G [] H.size) (fun v H1 => H1 = H ∧ ((v = some (.int 1) ∧ False) ∨ (v = some (.int 0) ∧ ¬ False))) := by
  refine MX.of (by decide +kernel) (Nat.le_of_ble_eq_true rfl) ?_
  intro p e s m below meth c ls Q C hH hl hQ
  subst hH
  have C : CX p K s m _ meth c RX10 cX10_isSlice 3 (some .boolean) "isSlice" := C
  obtain ⟨hx, hb, hml, hown, hts, hKT, hr, hlocks, hnm⟩ := id C
  have hl : lv_has ls 3 [(0, .ref b), (1, .int x0), (2, .int x1)] := hl
  have hS : va_S (AE G [] s.heap.size) s.heap s.heap [] := va_S.rf
  have n_0 : (0 : Int32).toInt = 0 := rfl
  have n_1 : (1 : Int32).toInt = 1 := rfl
  obtain ⟨f1, f2, f3, f4, f5, f6, f7, f8, f9, f10⟩ := fx
  refine lv_aload_n hx hb dX10_isSlice_0 rfl (lv_at hl 0 rfl) ?_
  refine lv_iload_n hx hb dX10_isSlice_1 rfl (lv_at hl 1 rfl) ?_
  refine x_V (As := [.int x0]) (rest := []) C (f_X10_isBar l K G s.heap (x0) hT gb ⟨f1, f2, f3, f4, f5, f6, f7, f8, f9, f10⟩) yo_X10_isBar wM_X10_173 ⟨⟨by decide, by decide⟩, by decide, by decide⟩ (x_rv C hT (ci := 10) rfl gb rg_112) rfl hl.1 rfl (Nat.le_of_ble_eq_true rfl) dX10_isSlice_2 hS (AE_sub (fun _ _ => rfl) (by decide) hS.1) (fun vH101 H101 locsH101 pH101 zH101 kH101 hSH101 => ?_)
  have hqH101 := pH101.1.symm
  subst hqH101
  rcases pH101.2 with ⟨hvH101, hcH101⟩ | ⟨hvH101, hcH101⟩
  · exact absurd hcH101 (fun h => h)
  subst hvH101
  refine W.eq (g2 := F0 m 5 ls [.int 0]) rfl ?_
  refine lv_if_eq (tgt := 26) hx hb dX10_isSlice_5 (by decide) (fun c102 => ?_) (fun c102 => ?_)
  · have k103 := i_eq c102
    refine lv_iconst (v := 0) hx hb dX10_isSlice_26 (by decide) ?_
    exact x_zret C hQ (Or.inl rfl) dX10_isSlice_27 hSH101 (by decide) (by decide) (⟨rfl, Or.inr ⟨rfl, fun h => h⟩⟩)
  · have k103 := i_ne c102
    exfalso
    omega

set_option maxHeartbeats 4000000 in
set_option maxRecDepth 100000 in
theorem f_X10_canPass (l : Launch) (K : KE) (G : Nat → Option Nat) (H : Heap) {b : Nat} (x0 : Int32) (x1 : Int32) (x2 : Int32) (hT : TY K G H) (gb : G b = some 112) (fx : FM K H b) : MX l K yX10_canPass cX10_canPass 4 (some .boolean) 2 43 0 0 [.ref b, .int x0, .int x1, .int x2] H (AE G [] H.size) (fun v H1 => H1 = H ∧ ((v = some (.int 1) ∧ False) ∨ (v = some (.int 0) ∧ ¬ False))) := by
  refine MX.of (by decide +kernel) (Nat.le_of_ble_eq_true rfl) ?_
  intro p e s m below meth c ls Q C hH hl hQ
  subst hH
  have C : CX p K s m _ meth c RX10 cX10_canPass 4 (some .boolean) "canPass" := C
  obtain ⟨hx, hb, hml, hown, hts, hKT, hr, hlocks, hnm⟩ := id C
  have hl : lv_has ls 4 [(0, .ref b), (1, .int x0), (2, .int x1), (3, .int x2)] := hl
  have hS : va_S (AE G [] s.heap.size) s.heap s.heap [] := va_S.rf
  have n_0 : (0 : Int32).toInt = 0 := rfl
  have n_1 : (1 : Int32).toInt = 1 := rfl
  obtain ⟨f1, f2, f3, f4, f5, f6, f7, f8, f9, f10⟩ := fx
  refine lv_aload_n hx hb dX10_canPass_0 rfl (lv_at hl 0 rfl) ?_
  refine lv_iload_n hx hb dX10_canPass_1 rfl (lv_at hl 1 rfl) ?_
  refine lv_iload_n hx hb dX10_canPass_2 rfl (lv_at hl 2 rfl) ?_
  refine x_V (As := [.int x0, .int x1]) (rest := []) C (f_X10_isSlice l K G s.heap (x0) (x1) hT gb ⟨f1, f2, f3, f4, f5, f6, f7, f8, f9, f10⟩) yo_X10_isSlice wM_X10_181 ⟨⟨by decide, by decide⟩, by decide, by decide⟩ (x_rv C hT (ci := 10) rfl gb rg_112) rfl hl.1 rfl (Nat.le_of_ble_eq_true rfl) dX10_canPass_3 hS (AE_sub (fun _ _ => rfl) (by decide) hS.1) (fun vH101 H101 locsH101 pH101 zH101 kH101 hSH101 => ?_)
  have hqH101 := pH101.1.symm
  subst hqH101
  rcases pH101.2 with ⟨hvH101, hcH101⟩ | ⟨hvH101, hcH101⟩
  · exact absurd hcH101 (fun h => h)
  subst hvH101
  refine W.eq (g2 := F0 m 6 ls [.int 0]) rfl ?_
  refine lv_if_eq (tgt := 40) hx hb dX10_canPass_6 (by decide) (fun c102 => ?_) (fun c102 => ?_)
  · have k103 := i_eq c102
    refine lv_iconst (v := 0) hx hb dX10_canPass_40 (by decide) ?_
    exact x_zret C hQ (Or.inl rfl) dX10_canPass_41 hSH101 (by decide) (by decide) (⟨rfl, Or.inr ⟨rfl, fun h => h⟩⟩)
  · have k103 := i_ne c102
    exfalso
    omega

set_option maxHeartbeats 4000000 in
set_option maxRecDepth 100000 in
theorem f_X10_slice (l : Launch) (K : KE) (G : Nat → Option Nat) (H : Heap) {b : Nat} (x0 : Int32) (x1 : Int32) (x2 : Int32) (x3 : Int32) (x4 : Int32) (hT : TY K G H) (gb : G b = some 112) (fx : FM K H b) : MX l K yX10_slice cX10_slice 6 (some .boolean) 2 43 0 0 [.ref b, .int x0, .int x1, .int x2, .int x3, .int x4] H (AE G [112] H.size) (fun v H1 => (∃ r : Int32, v = some (.int r) ∧ (r.toInt = 0)) ∧ ∃ G1 : Nat → Option Nat, (∀ q, q < H.size → G1 q = G q) ∧ TY K G1 H1) := by
  refine MX.of (by decide +kernel) (Nat.le_of_ble_eq_true rfl) ?_
  intro p e s m below meth c ls Q C hH hl hQ
  subst hH
  have C : CX p K s m _ meth c RX10 cX10_slice 6 (some .boolean) "slice" := C
  obtain ⟨hx, hb, hml, hown, hts, hKT, hr, hlocks, hnm⟩ := id C
  have hl : lv_has ls 6 [(0, .ref b), (1, .int x0), (2, .int x1), (3, .int x2), (4, .int x3), (5, .int x4)] := hl
  have hS : va_S (AE G [112] s.heap.size) s.heap s.heap [] := va_S.rf
  have n_0 : (0 : Int32).toInt = 0 := rfl
  have n_1 : (1 : Int32).toInt = 1 := rfl
  obtain ⟨f1, f2, f3, f4, f5, f6, f7, f8, f9, f10⟩ := fx
  refine lv_aload_n hx hb dX10_slice_0 rfl (lv_at hl 0 rfl) ?_
  refine lv_iconst (v := 0) hx hb dX10_slice_1 (by decide) ?_
  refine x_put C hT hS (ci := 10) (k := 0) (v := .int 0) (ty0 := tyX10) rfl inX10 tyX10_ok nmX10 (by decide) rfl wF_X10_167 gb rg_112 rfl rfl (okI (by have := i_rng (0 : Int32); omega) (by have := i_rng (0 : Int32); omega)) rfl rfl (AE_in gb (by decide)) dX10_slice_2 (fun H101 locsH101 hTH101 hSH101 wH101 => ?_)
  have m102 := (Wr.neI wH101 (Or.inr (x_apart hKT hts inX10 tyX10 tyX10_ok nmX10 rfl 1 0 (by decide) (by decide) (by decide)))).trans f1
  have m103 := (Wr.neI wH101 (Or.inr (x_apart hKT hts inX10 tyX10 tyX10_ok nmX10 rfl 2 0 (by decide) (by decide) (by decide)))).trans f2
  have m104 := (Wr.neI wH101 (Or.inr (x_apart hKT hts inX10 tyX10 tyX10_ok nmX10 rfl 3 0 (by decide) (by decide) (by decide)))).trans f3
  have m105 := (Wr.neI wH101 (Or.inr (x_apart hKT hts inX10 tyX10 tyX10_ok nmX10 rfl 18 0 (by decide) (by decide) (by decide)))).trans f4
  have m106 := (Wr.neI wH101 (Or.inr (x_apart hKT hts inX10 tyX10 tyX10_ok nmX10 rfl 41 0 (by decide) (by decide) (by decide)))).trans f5
  have m107 := (Wr.neI wH101 (Or.inr (x_apart hKT hts inX10 tyX10 tyX10_ok nmX10 rfl 42 0 (by decide) (by decide) (by decide)))).trans f6
  have m108 := (Wr.neI wH101 (Or.inr (x_apart hKT hts inX10 tyX10 tyX10_ok nmX10 rfl 59 0 (by decide) (by decide) (by decide)))).trans f7
  have m109 := (Wr.neI wH101 (Or.inr (x_apart hKT hts inX10 tyX10 tyX10_ok nmX10 rfl 62 0 (by decide) (by decide) (by decide)))).trans f8
  have m110 := (Wr.neI wH101 (Or.inr (x_apart hKT hts inX10 tyX10 tyX10_ok nmX10 rfl 65 0 (by decide) (by decide) (by decide)))).trans f9
  have m111 := (Wr.neI wH101 (Or.inr (x_apart hKT hts inX10 tyX10 tyX10_ok nmX10 rfl 70 0 (by decide) (by decide) (by decide)))).trans f10
  have m112 := Wr.I wH101
  refine lv_aload_n hx hb dX10_slice_5 rfl (lv_at hl 0 rfl) ?_
  refine lv_iload_n hx hb dX10_slice_6 rfl (lv_at hl 1 rfl) ?_
  refine lv_iload_n hx hb dX10_slice_7 rfl (lv_at hl 2 rfl) ?_
  refine x_V (As := [.int x0, .int x1]) (rest := []) C (f_X10_isSlice l K G H101 (x0) (x1) hTH101 gb ⟨m102, m103, m104, m105, m106, m107, m108, m109, m110, m111⟩) yo_X10_isSlice wM_X10_181 ⟨⟨by decide, by decide⟩, by decide, by decide⟩ (x_rv C hTH101 (ci := 10) rfl gb rg_112) rfl hl.1 rfl (Nat.le_of_ble_eq_true rfl) dX10_slice_8 hSH101 (AE_sub (fun _ _ => rfl) (by decide) hSH101.1) (fun vH113 H113 locsH113 pH113 zH113 kH113 hSH113 => ?_)
  have hqH113 := pH113.1.symm
  subst hqH113
  rcases pH113.2 with ⟨hvH113, hcH113⟩ | ⟨hvH113, hcH113⟩
  · exact absurd hcH113 (fun h => h)
  subst hvH113
  refine W.eq (g2 := F0 m 11 ls [.int 0]) rfl ?_
  refine lv_if_eq (tgt := 58) hx hb dX10_slice_11 (by decide) (fun c114 => ?_) (fun c114 => ?_)
  · have k115 := i_eq c114
    refine lv_iconst (v := 0) hx hb dX10_slice_58 (by decide) ?_
    exact x_zret C hQ (Or.inl rfl) dX10_slice_59 hSH113 (by decide) (by decide) (⟨⟨0, rfl, by omega⟩, G, fun _ _ => rfl, hTH101⟩)
  · have k115 := i_ne c114
    exfalso
    omega

set_option maxHeartbeats 4000000 in
set_option maxRecDepth 100000 in
theorem f_X10_wax (l : Launch) (K : KE) (G : Nat → Option Nat) (H : Heap) {b : Nat} (x0 : Int32) (x1 : Int32) (x2 : Int32) (hT : TY K G H) (gb : G b = some 112) (fx : FM K H b) : MX l K yX10_wax cX10_wax 4 (some .boolean) 2 43 0 0 [.ref b, .int x0, .int x1, .int x2] H (AE G [112] H.size) (fun v H1 => (∃ r : Int32, v = some (.int r) ∧ (r.toInt = 0)) ∧ ∃ G1 : Nat → Option Nat, (∀ q, q < H.size → G1 q = G q) ∧ TY K G1 H1) := by
  refine MX.of (by decide +kernel) (Nat.le_of_ble_eq_true rfl) ?_
  intro p e s m below meth c ls Q C hH hl hQ
  subst hH
  have C : CX p K s m _ meth c RX10 cX10_wax 4 (some .boolean) "wax" := C
  obtain ⟨hx, hb, hml, hown, hts, hKT, hr, hlocks, hnm⟩ := id C
  have hl : lv_has ls 4 [(0, .ref b), (1, .int x0), (2, .int x1), (3, .int x2)] := hl
  have hS : va_S (AE G [112] s.heap.size) s.heap s.heap [] := va_S.rf
  have n_0 : (0 : Int32).toInt = 0 := rfl
  have n_1 : (1 : Int32).toInt = 1 := rfl
  obtain ⟨f1, f2, f3, f4, f5, f6, f7, f8, f9, f10⟩ := fx
  refine lv_aload_n hx hb dX10_wax_0 rfl (lv_at hl 0 rfl) ?_
  refine lv_iconst (v := 0) hx hb dX10_wax_1 (by decide) ?_
  refine x_put C hT hS (ci := 10) (k := 0) (v := .int 0) (ty0 := tyX10) rfl inX10 tyX10_ok nmX10 (by decide) rfl wF_X10_167 gb rg_112 rfl rfl (okI (by have := i_rng (0 : Int32); omega) (by have := i_rng (0 : Int32); omega)) rfl rfl (AE_in gb (by decide)) dX10_wax_2 (fun H101 locsH101 hTH101 hSH101 wH101 => ?_)
  have m102 := (Wr.neI wH101 (Or.inr (x_apart hKT hts inX10 tyX10 tyX10_ok nmX10 rfl 1 0 (by decide) (by decide) (by decide)))).trans f1
  have m103 := (Wr.neI wH101 (Or.inr (x_apart hKT hts inX10 tyX10 tyX10_ok nmX10 rfl 2 0 (by decide) (by decide) (by decide)))).trans f2
  have m104 := (Wr.neI wH101 (Or.inr (x_apart hKT hts inX10 tyX10 tyX10_ok nmX10 rfl 3 0 (by decide) (by decide) (by decide)))).trans f3
  have m105 := (Wr.neI wH101 (Or.inr (x_apart hKT hts inX10 tyX10 tyX10_ok nmX10 rfl 18 0 (by decide) (by decide) (by decide)))).trans f4
  have m106 := (Wr.neI wH101 (Or.inr (x_apart hKT hts inX10 tyX10 tyX10_ok nmX10 rfl 41 0 (by decide) (by decide) (by decide)))).trans f5
  have m107 := (Wr.neI wH101 (Or.inr (x_apart hKT hts inX10 tyX10 tyX10_ok nmX10 rfl 42 0 (by decide) (by decide) (by decide)))).trans f6
  have m108 := (Wr.neI wH101 (Or.inr (x_apart hKT hts inX10 tyX10 tyX10_ok nmX10 rfl 59 0 (by decide) (by decide) (by decide)))).trans f7
  have m109 := (Wr.neI wH101 (Or.inr (x_apart hKT hts inX10 tyX10 tyX10_ok nmX10 rfl 62 0 (by decide) (by decide) (by decide)))).trans f8
  have m110 := (Wr.neI wH101 (Or.inr (x_apart hKT hts inX10 tyX10 tyX10_ok nmX10 rfl 65 0 (by decide) (by decide) (by decide)))).trans f9
  have m111 := (Wr.neI wH101 (Or.inr (x_apart hKT hts inX10 tyX10 tyX10_ok nmX10 rfl 70 0 (by decide) (by decide) (by decide)))).trans f10
  have m112 := Wr.I wH101
  refine lv_aload_n hx hb dX10_wax_5 rfl (lv_at hl 0 rfl) ?_
  refine lv_iload_n hx hb dX10_wax_6 rfl (lv_at hl 1 rfl) ?_
  refine lv_iload_n hx hb dX10_wax_7 rfl (lv_at hl 2 rfl) ?_
  refine x_V (As := [.int x0, .int x1]) (rest := []) C (f_X10_isSlice l K G H101 (x0) (x1) hTH101 gb ⟨m102, m103, m104, m105, m106, m107, m108, m109, m110, m111⟩) yo_X10_isSlice wM_X10_181 ⟨⟨by decide, by decide⟩, by decide, by decide⟩ (x_rv C hTH101 (ci := 10) rfl gb rg_112) rfl hl.1 rfl (Nat.le_of_ble_eq_true rfl) dX10_wax_8 hSH101 (AE_sub (fun _ _ => rfl) (by decide) hSH101.1) (fun vH113 H113 locsH113 pH113 zH113 kH113 hSH113 => ?_)
  have hqH113 := pH113.1.symm
  subst hqH113
  rcases pH113.2 with ⟨hvH113, hcH113⟩ | ⟨hvH113, hcH113⟩
  · exact absurd hcH113 (fun h => h)
  subst hvH113
  refine W.eq (g2 := F0 m 11 ls [.int 0]) rfl ?_
  refine lv_if_eq (tgt := 25) hx hb dX10_wax_11 (by decide) (fun c114 => ?_) (fun c114 => ?_)
  · have k115 := i_eq c114
    refine lv_iconst (v := 0) hx hb dX10_wax_25 (by decide) ?_
    exact x_zret C hQ (Or.inl rfl) dX10_wax_26 hSH113 (by decide) (by decide) (⟨⟨0, rfl, by omega⟩, G, fun _ _ => rfl, hTH101⟩)
  · have k115 := i_ne c114
    exfalso
    omega

set_option maxHeartbeats 4000000 in
set_option maxRecDepth 100000 in
theorem f_X10_of (l : Launch) (K : KE) (G : Nat → Option Nat) (H : Heap) {b : Nat} (x0 : Int32) (x1 : Int32) (x2 : Int32) (hT : TY K G H) (gb : G b = some 112) (fx : FM K H b) : MX l K yX10_of cX10_of 5 (some .int) 2 43 0 0 [.ref b, .int x0, .int x1, .int x2] H (AE G [112] H.size) (fun v H1 => (∃ r : Int32, v = some (.int r) ∧ (r.toInt = -1)) ∧ ∃ G1 : Nat → Option Nat, (∀ q, q < H.size → G1 q = G q) ∧ TY K G1 H1) := by
  refine MX.of (by decide +kernel) (Nat.le_of_ble_eq_true rfl) ?_
  intro p e s m below meth c ls Q C hH hl hQ
  subst hH
  have C : CX p K s m _ meth c RX10 cX10_of 5 (some .int) "of" := C
  obtain ⟨hx, hb, hml, hown, hts, hKT, hr, hlocks, hnm⟩ := id C
  have hl : lv_has ls 5 [(0, .ref b), (1, .int x0), (2, .int x1), (3, .int x2)] := hl
  have hS : va_S (AE G [112] s.heap.size) s.heap s.heap [] := va_S.rf
  have n_m1 : ((-1) : Int32).toInt = -1 := rfl
  have n_0 : (0 : Int32).toInt = 0 := rfl
  have n_1 : (1 : Int32).toInt = 1 := rfl
  obtain ⟨f1, f2, f3, f4, f5, f6, f7, f8, f9, f10⟩ := fx
  refine lv_aload_n hx hb dX10_of_0 rfl (lv_at hl 0 rfl) ?_
  refine lv_iconst (v := 0) hx hb dX10_of_1 (by decide) ?_
  refine x_put C hT hS (ci := 10) (k := 0) (v := .int 0) (ty0 := tyX10) rfl inX10 tyX10_ok nmX10 (by decide) rfl wF_X10_167 gb rg_112 rfl rfl (okI (by have := i_rng (0 : Int32); omega) (by have := i_rng (0 : Int32); omega)) rfl rfl (AE_in gb (by decide)) dX10_of_2 (fun H101 locsH101 hTH101 hSH101 wH101 => ?_)
  have m102 := (Wr.neI wH101 (Or.inr (x_apart hKT hts inX10 tyX10 tyX10_ok nmX10 rfl 1 0 (by decide) (by decide) (by decide)))).trans f1
  have m103 := (Wr.neI wH101 (Or.inr (x_apart hKT hts inX10 tyX10 tyX10_ok nmX10 rfl 2 0 (by decide) (by decide) (by decide)))).trans f2
  have m104 := (Wr.neI wH101 (Or.inr (x_apart hKT hts inX10 tyX10 tyX10_ok nmX10 rfl 3 0 (by decide) (by decide) (by decide)))).trans f3
  have m105 := (Wr.neI wH101 (Or.inr (x_apart hKT hts inX10 tyX10 tyX10_ok nmX10 rfl 18 0 (by decide) (by decide) (by decide)))).trans f4
  have m106 := (Wr.neI wH101 (Or.inr (x_apart hKT hts inX10 tyX10 tyX10_ok nmX10 rfl 41 0 (by decide) (by decide) (by decide)))).trans f5
  have m107 := (Wr.neI wH101 (Or.inr (x_apart hKT hts inX10 tyX10 tyX10_ok nmX10 rfl 42 0 (by decide) (by decide) (by decide)))).trans f6
  have m108 := (Wr.neI wH101 (Or.inr (x_apart hKT hts inX10 tyX10 tyX10_ok nmX10 rfl 59 0 (by decide) (by decide) (by decide)))).trans f7
  have m109 := (Wr.neI wH101 (Or.inr (x_apart hKT hts inX10 tyX10 tyX10_ok nmX10 rfl 62 0 (by decide) (by decide) (by decide)))).trans f8
  have m110 := (Wr.neI wH101 (Or.inr (x_apart hKT hts inX10 tyX10 tyX10_ok nmX10 rfl 65 0 (by decide) (by decide) (by decide)))).trans f9
  have m111 := (Wr.neI wH101 (Or.inr (x_apart hKT hts inX10 tyX10 tyX10_ok nmX10 rfl 70 0 (by decide) (by decide) (by decide)))).trans f10
  have m112 := Wr.I wH101
  refine lv_aload_n hx hb dX10_of_5 rfl (lv_at hl 0 rfl) ?_
  refine lv_iload_n hx hb dX10_of_6 rfl (lv_at hl 1 rfl) ?_
  refine lv_iload_n hx hb dX10_of_7 rfl (lv_at hl 2 rfl) ?_
  refine x_V (As := [.int x0, .int x1]) (rest := []) C (f_X10_isSlice l K G H101 (x0) (x1) hTH101 gb ⟨m102, m103, m104, m105, m106, m107, m108, m109, m110, m111⟩) yo_X10_isSlice wM_X10_181 ⟨⟨by decide, by decide⟩, by decide, by decide⟩ (x_rv C hTH101 (ci := 10) rfl gb rg_112) rfl hl.1 rfl (Nat.le_of_ble_eq_true rfl) dX10_of_8 hSH101 (AE_sub (fun _ _ => rfl) (by decide) hSH101.1) (fun vH113 H113 locsH113 pH113 zH113 kH113 hSH113 => ?_)
  have hqH113 := pH113.1.symm
  subst hqH113
  rcases pH113.2 with ⟨hvH113, hcH113⟩ | ⟨hvH113, hcH113⟩
  · exact absurd hcH113 (fun h => h)
  subst hvH113
  refine W.eq (g2 := F0 m 11 ls [.int 0]) rfl ?_
  refine lv_if_ne (tgt := 16) hx hb dX10_of_11 (by decide) (fun c114 => ?_) (fun c114 => ?_)
  · have k115 := i_ne c114
    exfalso
    omega
  · have k115 := i_eq c114
    refine lv_iconst (v := (-1)) hx hb dX10_of_14 (by decide) ?_
    exact x_iret C hQ dX10_of_15 hSH113 (by decide) (by decide) (⟨⟨(-1), rfl, by omega⟩, G, fun _ _ => rfl, hTH101⟩)

set_option maxHeartbeats 4000000 in
set_option maxRecDepth 100000 in
theorem f_X10_tells (l : Launch) (K : KE) (G : Nat → Option Nat) (H : Heap) {b : Nat} (x0 : Int32) (x1 : Int32) (x2 : Int32) (x3 : Int32) (x4 : Int32) (hT : TY K G H) (gb : G b = some 112) (fx : FM K H b) : MX l K yX10_tells cX10_tells 6 (some .int) 2 44 0 0 [.ref b, .int x0, .int x1, .int x2, .int x3, .int x4] H (AE G [112] H.size) (fun v H1 => (∃ r : Int32, v = some (.int r) ∧ (r.toInt = -100000)) ∧ ∃ G1 : Nat → Option Nat, (∀ q, q < H.size → G1 q = G q) ∧ TY K G1 H1) := by
  refine MX.of (by decide +kernel) (Nat.le_of_ble_eq_true rfl) ?_
  intro p e s m below meth c ls Q C hH hl hQ
  subst hH
  have C : CX p K s m _ meth c RX10 cX10_tells 6 (some .int) "tells" := C
  obtain ⟨hx, hb, hml, hown, hts, hKT, hr, hlocks, hnm⟩ := id C
  have hl : lv_has ls 6 [(0, .ref b), (1, .int x0), (2, .int x1), (3, .int x2), (4, .int x3), (5, .int x4)] := hl
  have hS : va_S (AE G [112] s.heap.size) s.heap s.heap [] := va_S.rf
  have n_m100000 : ((-100000) : Int32).toInt = -100000 := rfl
  have n_0 : (0 : Int32).toInt = 0 := rfl
  have n_1 : (1 : Int32).toInt = 1 := rfl
  have n_2 : (2 : Int32).toInt = 2 := rfl
  obtain ⟨f1, f2, f3, f4, f5, f6, f7, f8, f9, f10⟩ := fx
  refine lv_aload_n hx hb dX10_tells_0 rfl (lv_at hl 0 rfl) ?_
  refine lv_iconst (v := 0) hx hb dX10_tells_1 (by decide) ?_
  refine x_put C hT hS (ci := 10) (k := 0) (v := .int 0) (ty0 := tyX10) rfl inX10 tyX10_ok nmX10 (by decide) rfl wF_X10_167 gb rg_112 rfl rfl (okI (by have := i_rng (0 : Int32); omega) (by have := i_rng (0 : Int32); omega)) rfl rfl (AE_in gb (by decide)) dX10_tells_2 (fun H101 locsH101 hTH101 hSH101 wH101 => ?_)
  have m102 := (Wr.neI wH101 (Or.inr (x_apart hKT hts inX10 tyX10 tyX10_ok nmX10 rfl 1 0 (by decide) (by decide) (by decide)))).trans f1
  have m103 := (Wr.neI wH101 (Or.inr (x_apart hKT hts inX10 tyX10 tyX10_ok nmX10 rfl 2 0 (by decide) (by decide) (by decide)))).trans f2
  have m104 := (Wr.neI wH101 (Or.inr (x_apart hKT hts inX10 tyX10 tyX10_ok nmX10 rfl 3 0 (by decide) (by decide) (by decide)))).trans f3
  have m105 := (Wr.neI wH101 (Or.inr (x_apart hKT hts inX10 tyX10 tyX10_ok nmX10 rfl 18 0 (by decide) (by decide) (by decide)))).trans f4
  have m106 := (Wr.neI wH101 (Or.inr (x_apart hKT hts inX10 tyX10 tyX10_ok nmX10 rfl 41 0 (by decide) (by decide) (by decide)))).trans f5
  have m107 := (Wr.neI wH101 (Or.inr (x_apart hKT hts inX10 tyX10 tyX10_ok nmX10 rfl 42 0 (by decide) (by decide) (by decide)))).trans f6
  have m108 := (Wr.neI wH101 (Or.inr (x_apart hKT hts inX10 tyX10 tyX10_ok nmX10 rfl 59 0 (by decide) (by decide) (by decide)))).trans f7
  have m109 := (Wr.neI wH101 (Or.inr (x_apart hKT hts inX10 tyX10 tyX10_ok nmX10 rfl 62 0 (by decide) (by decide) (by decide)))).trans f8
  have m110 := (Wr.neI wH101 (Or.inr (x_apart hKT hts inX10 tyX10 tyX10_ok nmX10 rfl 65 0 (by decide) (by decide) (by decide)))).trans f9
  have m111 := (Wr.neI wH101 (Or.inr (x_apart hKT hts inX10 tyX10 tyX10_ok nmX10 rfl 70 0 (by decide) (by decide) (by decide)))).trans f10
  have m112 := Wr.I wH101
  refine lv_aload_n hx hb dX10_tells_5 rfl (lv_at hl 0 rfl) ?_
  refine lv_iload_n hx hb dX10_tells_6 rfl (lv_at hl 1 rfl) ?_
  refine x_V (As := [.int x0]) (rest := []) C (c_X10_isLaw l K G H101 (x0) hTH101 gb) yo_X10_isLaw wM_X10_328 ⟨⟨by decide, by decide⟩, by decide, by decide⟩ (x_rv C hTH101 (ci := 10) rfl gb rg_112) rfl hl.1 rfl (Nat.le_of_ble_eq_true rfl) dX10_tells_7 hSH101 (AE_sub (fun _ _ => rfl) (by decide) hSH101.1) (fun vH113 H113 locsH113 pH113 zH113 kH113 hSH113 => ?_)
  have hqH113 := pH113.1.symm
  subst hqH113
  rcases pH113.2 with ⟨hvH113, hcH113⟩ | ⟨hvH113, hcH113⟩
  · subst hvH113
    refine W.eq (g2 := F0 m 10 ls [.int 1]) rfl ?_
    refine lv_if_eq (tgt := 42) hx hb dX10_tells_10 (by decide) (fun c114 => ?_) (fun c114 => ?_)
    · have k115 := i_eq c114
      exfalso
      omega
    · have k115 := i_ne c114
      refine lv_aload_n hx hb dX10_tells_13 rfl (lv_at hl 0 rfl) ?_
      refine lv_iload_n hx hb dX10_tells_14 rfl (lv_at hl 2 rfl) ?_
      refine lv_iconst (v := 0) hx hb dX10_tells_15 (by decide) ?_
      refine lv_iconst (v := 2) hx hb dX10_tells_16 (by decide) ?_
      refine x_V (As := [.int x1, .int 0, .int 2]) (rest := []) C (c_X10_isIn l K G H101 (x1) (0) (2) hTH101 gb) yo_X10_isIn wM_X10_177 ⟨⟨by decide, by decide⟩, by decide, by decide⟩ (x_rv C hTH101 (ci := 10) rfl gb rg_112) rfl hl.1 rfl (Nat.le_of_ble_eq_true rfl) dX10_tells_17 hSH113 (AE_sub (fun _ _ => rfl) (by decide) hSH113.1) (fun vH116 H116 locsH116 pH116 zH116 kH116 hSH116 => ?_)
      have hqH116 := pH116.1.symm
      subst hqH116
      rcases pH116.2 with ⟨hvH116, hcH116⟩ | ⟨hvH116, hcH116⟩
      · subst hvH116
        refine W.eq (g2 := F0 m 20 ls [.int 1]) rfl ?_
        refine lv_if_eq (tgt := 42) hx hb dX10_tells_20 (by decide) (fun c117 => ?_) (fun c117 => ?_)
        · have k118 := i_eq c117
          exfalso
          omega
        · have k118 := i_ne c117
          refine lv_aload_n hx hb dX10_tells_23 rfl (lv_at hl 0 rfl) ?_
          refine lv_iload_n hx hb dX10_tells_24 rfl (lv_at hl 3 rfl) ?_
          refine x_V (As := [.int x2]) (rest := []) C (c_X10_isTone l K G H101 (x2) hTH101 gb) yo_X10_isTone wM_X10_331 ⟨⟨by decide, by decide⟩, by decide, by decide⟩ (x_rv C hTH101 (ci := 10) rfl gb rg_112) rfl hl.1 rfl (Nat.le_of_ble_eq_true rfl) dX10_tells_25 hSH116 (AE_sub (fun _ _ => rfl) (by decide) hSH116.1) (fun vH119 H119 locsH119 pH119 zH119 kH119 hSH119 => ?_)
          have hqH119 := pH119.1.symm
          subst hqH119
          rcases pH119.2 with ⟨hvH119, hcH119⟩ | ⟨hvH119, hcH119⟩
          · subst hvH119
            refine W.eq (g2 := F0 m 28 ls [.int 1]) rfl ?_
            refine lv_if_eq (tgt := 42) hx hb dX10_tells_28 (by decide) (fun c120 => ?_) (fun c120 => ?_)
            · have k121 := i_eq c120
              exfalso
              omega
            · have k121 := i_ne c120
              refine lv_aload_n hx hb dX10_tells_31 rfl (lv_at hl 0 rfl) ?_
              refine lv_iload hx hb dX10_tells_32 (lv_at hl 4 rfl) ?_
              refine lv_iload hx hb dX10_tells_34 (lv_at hl 5 rfl) ?_
              refine x_V (As := [.int x3, .int x4]) (rest := []) C (f_X10_isSlice l K G H101 (x3) (x4) hTH101 gb ⟨m102, m103, m104, m105, m106, m107, m108, m109, m110, m111⟩) yo_X10_isSlice wM_X10_181 ⟨⟨by decide, by decide⟩, by decide, by decide⟩ (x_rv C hTH101 (ci := 10) rfl gb rg_112) rfl hl.1 rfl (Nat.le_of_ble_eq_true rfl) dX10_tells_36 hSH119 (AE_sub (fun _ _ => rfl) (by decide) hSH119.1) (fun vH122 H122 locsH122 pH122 zH122 kH122 hSH122 => ?_)
              have hqH122 := pH122.1.symm
              subst hqH122
              rcases pH122.2 with ⟨hvH122, hcH122⟩ | ⟨hvH122, hcH122⟩
              · exact absurd hcH122 (fun h => h)
              subst hvH122
              refine W.eq (g2 := F0 m 39 ls [.int 0]) rfl ?_
              refine lv_if_ne (tgt := 46) hx hb dX10_tells_39 (by decide) (fun c123 => ?_) (fun c123 => ?_)
              · have k124 := i_ne c123
                exfalso
                omega
              · have k124 := i_eq c123
                refine lv_ldcw (v := (-100000)) hx hb hown (hts _ wK_X10_334) dX10_tells_42 ?_
                exact x_iret C hQ dX10_tells_45 hSH122 (by decide) (by decide) (⟨⟨(-100000), rfl, by omega⟩, G, fun _ _ => rfl, hTH101⟩)
          · subst hvH119
            refine W.eq (g2 := F0 m 28 ls [.int 0]) rfl ?_
            refine lv_if_eq (tgt := 42) hx hb dX10_tells_28 (by decide) (fun c125 => ?_) (fun c125 => ?_)
            · have k126 := i_eq c125
              refine lv_ldcw (v := (-100000)) hx hb hown (hts _ wK_X10_334) dX10_tells_42 ?_
              exact x_iret C hQ dX10_tells_45 hSH119 (by decide) (by decide) (⟨⟨(-100000), rfl, by omega⟩, G, fun _ _ => rfl, hTH101⟩)
            · have k126 := i_ne c125
              exfalso
              omega
      · subst hvH116
        refine W.eq (g2 := F0 m 20 ls [.int 0]) rfl ?_
        refine lv_if_eq (tgt := 42) hx hb dX10_tells_20 (by decide) (fun c127 => ?_) (fun c127 => ?_)
        · have k128 := i_eq c127
          refine lv_ldcw (v := (-100000)) hx hb hown (hts _ wK_X10_334) dX10_tells_42 ?_
          exact x_iret C hQ dX10_tells_45 hSH116 (by decide) (by decide) (⟨⟨(-100000), rfl, by omega⟩, G, fun _ _ => rfl, hTH101⟩)
        · have k128 := i_ne c127
          exfalso
          omega
  · subst hvH113
    refine W.eq (g2 := F0 m 10 ls [.int 0]) rfl ?_
    refine lv_if_eq (tgt := 42) hx hb dX10_tells_10 (by decide) (fun c129 => ?_) (fun c129 => ?_)
    · have k130 := i_eq c129
      refine lv_ldcw (v := (-100000)) hx hb hown (hts _ wK_X10_334) dX10_tells_42 ?_
      exact x_iret C hQ dX10_tells_45 hSH113 (by decide) (by decide) (⟨⟨(-100000), rfl, by omega⟩, G, fun _ _ => rfl, hTH101⟩)
    · have k130 := i_ne c129
      exfalso
      omega

set_option maxHeartbeats 4000000 in
set_option maxRecDepth 100000 in
theorem f_X10_tone (l : Launch) (K : KE) (G : Nat → Option Nat) (H : Heap) {b : Nat} (x0 : Int32) (x1 : Int32) (hT : TY K G H) (gb : G b = some 112) (fx : FM K H b) : MX l K yX10_tone cX10_tone 3 (some .int) 1 21 0 0 [.ref b, .int x0, .int x1] H (AE G [112] H.size) (fun v H1 => (∃ r : Int32, v = some (.int r) ∧ (r.toInt = -1)) ∧ ∃ G1 : Nat → Option Nat, (∀ q, q < H.size → G1 q = G q) ∧ TY K G1 H1) := by
  refine MX.of (by decide +kernel) (Nat.le_of_ble_eq_true rfl) ?_
  intro p e s m below meth c ls Q C hH hl hQ
  subst hH
  have C : CX p K s m _ meth c RX10 cX10_tone 3 (some .int) "tone" := C
  obtain ⟨hx, hb, hml, hown, hts, hKT, hr, hlocks, hnm⟩ := id C
  have hl : lv_has ls 3 [(0, .ref b), (1, .int x0), (2, .int x1)] := hl
  have hS : va_S (AE G [112] s.heap.size) s.heap s.heap [] := va_S.rf
  have n_m1 : ((-1) : Int32).toInt = -1 := rfl
  have n_0 : (0 : Int32).toInt = 0 := rfl
  have n_1 : (1 : Int32).toInt = 1 := rfl
  obtain ⟨f1, f2, f3, f4, f5, f6, f7, f8, f9, f10⟩ := fx
  refine lv_aload_n hx hb dX10_tone_0 rfl (lv_at hl 0 rfl) ?_
  refine lv_iconst (v := 0) hx hb dX10_tone_1 (by decide) ?_
  refine x_put C hT hS (ci := 10) (k := 0) (v := .int 0) (ty0 := tyX10) rfl inX10 tyX10_ok nmX10 (by decide) rfl wF_X10_167 gb rg_112 rfl rfl (okI (by have := i_rng (0 : Int32); omega) (by have := i_rng (0 : Int32); omega)) rfl rfl (AE_in gb (by decide)) dX10_tone_2 (fun H101 locsH101 hTH101 hSH101 wH101 => ?_)
  have m102 := (Wr.neI wH101 (Or.inr (x_apart hKT hts inX10 tyX10 tyX10_ok nmX10 rfl 1 0 (by decide) (by decide) (by decide)))).trans f1
  have m103 := (Wr.neI wH101 (Or.inr (x_apart hKT hts inX10 tyX10 tyX10_ok nmX10 rfl 2 0 (by decide) (by decide) (by decide)))).trans f2
  have m104 := (Wr.neI wH101 (Or.inr (x_apart hKT hts inX10 tyX10 tyX10_ok nmX10 rfl 3 0 (by decide) (by decide) (by decide)))).trans f3
  have m105 := (Wr.neI wH101 (Or.inr (x_apart hKT hts inX10 tyX10 tyX10_ok nmX10 rfl 18 0 (by decide) (by decide) (by decide)))).trans f4
  have m106 := (Wr.neI wH101 (Or.inr (x_apart hKT hts inX10 tyX10 tyX10_ok nmX10 rfl 41 0 (by decide) (by decide) (by decide)))).trans f5
  have m107 := (Wr.neI wH101 (Or.inr (x_apart hKT hts inX10 tyX10 tyX10_ok nmX10 rfl 42 0 (by decide) (by decide) (by decide)))).trans f6
  have m108 := (Wr.neI wH101 (Or.inr (x_apart hKT hts inX10 tyX10 tyX10_ok nmX10 rfl 59 0 (by decide) (by decide) (by decide)))).trans f7
  have m109 := (Wr.neI wH101 (Or.inr (x_apart hKT hts inX10 tyX10 tyX10_ok nmX10 rfl 62 0 (by decide) (by decide) (by decide)))).trans f8
  have m110 := (Wr.neI wH101 (Or.inr (x_apart hKT hts inX10 tyX10 tyX10_ok nmX10 rfl 65 0 (by decide) (by decide) (by decide)))).trans f9
  have m111 := (Wr.neI wH101 (Or.inr (x_apart hKT hts inX10 tyX10 tyX10_ok nmX10 rfl 70 0 (by decide) (by decide) (by decide)))).trans f10
  have m112 := Wr.I wH101
  refine lv_aload_n hx hb dX10_tone_5 rfl (lv_at hl 0 rfl) ?_
  refine lv_iload_n hx hb dX10_tone_6 rfl (lv_at hl 1 rfl) ?_
  refine x_V (As := [.int x0]) (rest := []) C (f_X10_isBar l K G H101 (x0) hTH101 gb ⟨m102, m103, m104, m105, m106, m107, m108, m109, m110, m111⟩) yo_X10_isBar wM_X10_173 ⟨⟨by decide, by decide⟩, by decide, by decide⟩ (x_rv C hTH101 (ci := 10) rfl gb rg_112) rfl hl.1 rfl (Nat.le_of_ble_eq_true rfl) dX10_tone_7 hSH101 (AE_sub (fun _ _ => rfl) (by decide) hSH101.1) (fun vH113 H113 locsH113 pH113 zH113 kH113 hSH113 => ?_)
  have hqH113 := pH113.1.symm
  subst hqH113
  rcases pH113.2 with ⟨hvH113, hcH113⟩ | ⟨hvH113, hcH113⟩
  · exact absurd hcH113 (fun h => h)
  subst hvH113
  refine W.eq (g2 := F0 m 10 ls [.int 0]) rfl ?_
  refine lv_if_eq (tgt := 30) hx hb dX10_tone_10 (by decide) (fun c114 => ?_) (fun c114 => ?_)
  · have k115 := i_eq c114
    refine lv_iconst (v := (-1)) hx hb dX10_tone_30 (by decide) ?_
    exact x_iret C hQ dX10_tone_31 hSH113 (by decide) (by decide) (⟨⟨(-1), rfl, by omega⟩, G, fun _ _ => rfl, hTH101⟩)
  · have k115 := i_ne c114
    exfalso
    omega

set_option maxHeartbeats 4000000 in
set_option maxRecDepth 100000 in
theorem f_X10_shave (l : Launch) (K : KE) (G : Nat → Option Nat) (H : Heap) {b : Nat} (x0 : Int32) (x1 : Int32) (x2 : Int32) (hT : TY K G H) (gb : G b = some 112) (fx : FM K H b) : MX l K yX10_shave cX10_shave 4 (some .int) 3 66 0 0 [.ref b, .int x0, .int x1, .int x2] H (AE G [112] H.size) (fun v H1 => (∃ r : Int32, v = some (.int r) ∧ (r.toInt = -1)) ∧ ∃ G1 : Nat → Option Nat, (∀ q, q < H.size → G1 q = G q) ∧ TY K G1 H1) := by
  refine MX.of (by decide +kernel) (Nat.le_of_ble_eq_true rfl) ?_
  intro p e s m below meth c ls Q C hH hl hQ
  subst hH
  have C : CX p K s m _ meth c RX10 cX10_shave 4 (some .int) "shave" := C
  obtain ⟨hx, hb, hml, hown, hts, hKT, hr, hlocks, hnm⟩ := id C
  have hl : lv_has ls 4 [(0, .ref b), (1, .int x0), (2, .int x1), (3, .int x2)] := hl
  have hS : va_S (AE G [112] s.heap.size) s.heap s.heap [] := va_S.rf
  have n_m1 : ((-1) : Int32).toInt = -1 := rfl
  have n_0 : (0 : Int32).toInt = 0 := rfl
  have n_1 : (1 : Int32).toInt = 1 := rfl
  have n_9 : (9 : Int32).toInt = 9 := rfl
  obtain ⟨f1, f2, f3, f4, f5, f6, f7, f8, f9, f10⟩ := fx
  refine lv_aload_n hx hb dX10_shave_0 rfl (lv_at hl 0 rfl) ?_
  refine lv_iconst (v := 0) hx hb dX10_shave_1 (by decide) ?_
  refine x_put C hT hS (ci := 10) (k := 0) (v := .int 0) (ty0 := tyX10) rfl inX10 tyX10_ok nmX10 (by decide) rfl wF_X10_167 gb rg_112 rfl rfl (okI (by have := i_rng (0 : Int32); omega) (by have := i_rng (0 : Int32); omega)) rfl rfl (AE_in gb (by decide)) dX10_shave_2 (fun H101 locsH101 hTH101 hSH101 wH101 => ?_)
  have m102 := (Wr.neI wH101 (Or.inr (x_apart hKT hts inX10 tyX10 tyX10_ok nmX10 rfl 1 0 (by decide) (by decide) (by decide)))).trans f1
  have m103 := (Wr.neI wH101 (Or.inr (x_apart hKT hts inX10 tyX10 tyX10_ok nmX10 rfl 2 0 (by decide) (by decide) (by decide)))).trans f2
  have m104 := (Wr.neI wH101 (Or.inr (x_apart hKT hts inX10 tyX10 tyX10_ok nmX10 rfl 3 0 (by decide) (by decide) (by decide)))).trans f3
  have m105 := (Wr.neI wH101 (Or.inr (x_apart hKT hts inX10 tyX10 tyX10_ok nmX10 rfl 18 0 (by decide) (by decide) (by decide)))).trans f4
  have m106 := (Wr.neI wH101 (Or.inr (x_apart hKT hts inX10 tyX10 tyX10_ok nmX10 rfl 41 0 (by decide) (by decide) (by decide)))).trans f5
  have m107 := (Wr.neI wH101 (Or.inr (x_apart hKT hts inX10 tyX10 tyX10_ok nmX10 rfl 42 0 (by decide) (by decide) (by decide)))).trans f6
  have m108 := (Wr.neI wH101 (Or.inr (x_apart hKT hts inX10 tyX10 tyX10_ok nmX10 rfl 59 0 (by decide) (by decide) (by decide)))).trans f7
  have m109 := (Wr.neI wH101 (Or.inr (x_apart hKT hts inX10 tyX10 tyX10_ok nmX10 rfl 62 0 (by decide) (by decide) (by decide)))).trans f8
  have m110 := (Wr.neI wH101 (Or.inr (x_apart hKT hts inX10 tyX10 tyX10_ok nmX10 rfl 65 0 (by decide) (by decide) (by decide)))).trans f9
  have m111 := (Wr.neI wH101 (Or.inr (x_apart hKT hts inX10 tyX10 tyX10_ok nmX10 rfl 70 0 (by decide) (by decide) (by decide)))).trans f10
  have m112 := Wr.I wH101
  refine lv_aload_n hx hb dX10_shave_5 rfl (lv_at hl 0 rfl) ?_
  refine lv_iload_n hx hb dX10_shave_6 rfl (lv_at hl 3 rfl) ?_
  refine lv_iconst (v := 1) hx hb dX10_shave_7 (by decide) ?_
  refine lv_bipush (v := 9) hx hb dX10_shave_8 (by decide) ?_
  refine x_V (As := [.int x2, .int 1, .int 9]) (rest := []) C (c_X10_isIn l K G H101 (x2) (1) (9) hTH101 gb) yo_X10_isIn wM_X10_177 ⟨⟨by decide, by decide⟩, by decide, by decide⟩ (x_rv C hTH101 (ci := 10) rfl gb rg_112) rfl hl.1 rfl (Nat.le_of_ble_eq_true rfl) dX10_shave_10 hSH101 (AE_sub (fun _ _ => rfl) (by decide) hSH101.1) (fun vH113 H113 locsH113 pH113 zH113 kH113 hSH113 => ?_)
  have hqH113 := pH113.1.symm
  subst hqH113
  rcases pH113.2 with ⟨hvH113, hcH113⟩ | ⟨hvH113, hcH113⟩
  · subst hvH113
    refine W.eq (g2 := F0 m 13 ls [.int 1]) rfl ?_
    refine lv_if_eq (tgt := 26) hx hb dX10_shave_13 (by decide) (fun c114 => ?_) (fun c114 => ?_)
    · have k115 := i_eq c114
      exfalso
      omega
    · have k115 := i_ne c114
      refine lv_aload_n hx hb dX10_shave_16 rfl (lv_at hl 0 rfl) ?_
      refine lv_iload_n hx hb dX10_shave_17 rfl (lv_at hl 1 rfl) ?_
      refine lv_iload_n hx hb dX10_shave_18 rfl (lv_at hl 2 rfl) ?_
      refine lv_iload_n hx hb dX10_shave_19 rfl (lv_at hl 3 rfl) ?_
      refine x_V (As := [.int x0, .int x1, .int x2]) (rest := []) C (f_X10_canPass l K G H101 (x0) (x1) (x2) hTH101 gb ⟨m102, m103, m104, m105, m106, m107, m108, m109, m110, m111⟩) yo_X10_canPass wM_X10_341 ⟨⟨by decide, by decide⟩, by decide, by decide⟩ (x_rv C hTH101 (ci := 10) rfl gb rg_112) rfl hl.1 rfl (Nat.le_of_ble_eq_true rfl) dX10_shave_20 hSH113 (AE_sub (fun _ _ => rfl) (by decide) hSH113.1) (fun vH116 H116 locsH116 pH116 zH116 kH116 hSH116 => ?_)
      have hqH116 := pH116.1.symm
      subst hqH116
      rcases pH116.2 with ⟨hvH116, hcH116⟩ | ⟨hvH116, hcH116⟩
      · exact absurd hcH116 (fun h => h)
      subst hvH116
      refine W.eq (g2 := F0 m 23 ls [.int 0]) rfl ?_
      refine lv_if_ne (tgt := 28) hx hb dX10_shave_23 (by decide) (fun c117 => ?_) (fun c117 => ?_)
      · have k118 := i_ne c117
        exfalso
        omega
      · have k118 := i_eq c117
        refine lv_iconst (v := (-1)) hx hb dX10_shave_26 (by decide) ?_
        exact x_iret C hQ dX10_shave_27 hSH116 (by decide) (by decide) (⟨⟨(-1), rfl, by omega⟩, G, fun _ _ => rfl, hTH101⟩)
  · subst hvH113
    refine W.eq (g2 := F0 m 13 ls [.int 0]) rfl ?_
    refine lv_if_eq (tgt := 26) hx hb dX10_shave_13 (by decide) (fun c119 => ?_) (fun c119 => ?_)
    · have k120 := i_eq c119
      refine lv_iconst (v := (-1)) hx hb dX10_shave_26 (by decide) ?_
      exact x_iret C hQ dX10_shave_27 hSH113 (by decide) (by decide) (⟨⟨(-1), rfl, by omega⟩, G, fun _ _ => rfl, hTH101⟩)
    · have k120 := i_ne c119
      exfalso
      omega

set_option maxHeartbeats 4000000 in
set_option maxRecDepth 100000 in
theorem f_X10_pass (l : Launch) (K : KE) (G : Nat → Option Nat) (H : Heap) {b : Nat} (x0 : Int32) (x1 : Int32) (x2 : Int32) (hT : TY K G H) (gb : G b = some 112) (fx : FM K H b) : MX l K yX10_pass cX10_pass 4 (some .int) 1 21 0 0 [.ref b, .int x0, .int x1, .int x2] H (AE G [112] H.size) (fun v H1 => (∃ r : Int32, v = some (.int r) ∧ (r.toInt = -1)) ∧ ∃ G1 : Nat → Option Nat, (∀ q, q < H.size → G1 q = G q) ∧ TY K G1 H1) := by
  refine MX.of (by decide +kernel) (Nat.le_of_ble_eq_true rfl) ?_
  intro p e s m below meth c ls Q C hH hl hQ
  subst hH
  have C : CX p K s m _ meth c RX10 cX10_pass 4 (some .int) "pass" := C
  obtain ⟨hx, hb, hml, hown, hts, hKT, hr, hlocks, hnm⟩ := id C
  have hl : lv_has ls 4 [(0, .ref b), (1, .int x0), (2, .int x1), (3, .int x2)] := hl
  have hS : va_S (AE G [112] s.heap.size) s.heap s.heap [] := va_S.rf
  have n_m1 : ((-1) : Int32).toInt = -1 := rfl
  have n_0 : (0 : Int32).toInt = 0 := rfl
  have n_1 : (1 : Int32).toInt = 1 := rfl
  obtain ⟨f1, f2, f3, f4, f5, f6, f7, f8, f9, f10⟩ := fx
  refine lv_aload_n hx hb dX10_pass_0 rfl (lv_at hl 0 rfl) ?_
  refine lv_iconst (v := 0) hx hb dX10_pass_1 (by decide) ?_
  refine x_put C hT hS (ci := 10) (k := 0) (v := .int 0) (ty0 := tyX10) rfl inX10 tyX10_ok nmX10 (by decide) rfl wF_X10_167 gb rg_112 rfl rfl (okI (by have := i_rng (0 : Int32); omega) (by have := i_rng (0 : Int32); omega)) rfl rfl (AE_in gb (by decide)) dX10_pass_2 (fun H101 locsH101 hTH101 hSH101 wH101 => ?_)
  have m102 := (Wr.neI wH101 (Or.inr (x_apart hKT hts inX10 tyX10 tyX10_ok nmX10 rfl 1 0 (by decide) (by decide) (by decide)))).trans f1
  have m103 := (Wr.neI wH101 (Or.inr (x_apart hKT hts inX10 tyX10 tyX10_ok nmX10 rfl 2 0 (by decide) (by decide) (by decide)))).trans f2
  have m104 := (Wr.neI wH101 (Or.inr (x_apart hKT hts inX10 tyX10 tyX10_ok nmX10 rfl 3 0 (by decide) (by decide) (by decide)))).trans f3
  have m105 := (Wr.neI wH101 (Or.inr (x_apart hKT hts inX10 tyX10 tyX10_ok nmX10 rfl 18 0 (by decide) (by decide) (by decide)))).trans f4
  have m106 := (Wr.neI wH101 (Or.inr (x_apart hKT hts inX10 tyX10 tyX10_ok nmX10 rfl 41 0 (by decide) (by decide) (by decide)))).trans f5
  have m107 := (Wr.neI wH101 (Or.inr (x_apart hKT hts inX10 tyX10 tyX10_ok nmX10 rfl 42 0 (by decide) (by decide) (by decide)))).trans f6
  have m108 := (Wr.neI wH101 (Or.inr (x_apart hKT hts inX10 tyX10 tyX10_ok nmX10 rfl 59 0 (by decide) (by decide) (by decide)))).trans f7
  have m109 := (Wr.neI wH101 (Or.inr (x_apart hKT hts inX10 tyX10 tyX10_ok nmX10 rfl 62 0 (by decide) (by decide) (by decide)))).trans f8
  have m110 := (Wr.neI wH101 (Or.inr (x_apart hKT hts inX10 tyX10 tyX10_ok nmX10 rfl 65 0 (by decide) (by decide) (by decide)))).trans f9
  have m111 := (Wr.neI wH101 (Or.inr (x_apart hKT hts inX10 tyX10 tyX10_ok nmX10 rfl 70 0 (by decide) (by decide) (by decide)))).trans f10
  have m112 := Wr.I wH101
  refine lv_aload_n hx hb dX10_pass_5 rfl (lv_at hl 0 rfl) ?_
  refine lv_iload_n hx hb dX10_pass_6 rfl (lv_at hl 1 rfl) ?_
  refine x_V (As := [.int x0]) (rest := []) C (f_X10_isBar l K G H101 (x0) hTH101 gb ⟨m102, m103, m104, m105, m106, m107, m108, m109, m110, m111⟩) yo_X10_isBar wM_X10_173 ⟨⟨by decide, by decide⟩, by decide, by decide⟩ (x_rv C hTH101 (ci := 10) rfl gb rg_112) rfl hl.1 rfl (Nat.le_of_ble_eq_true rfl) dX10_pass_7 hSH101 (AE_sub (fun _ _ => rfl) (by decide) hSH101.1) (fun vH113 H113 locsH113 pH113 zH113 kH113 hSH113 => ?_)
  have hqH113 := pH113.1.symm
  subst hqH113
  rcases pH113.2 with ⟨hvH113, hcH113⟩ | ⟨hvH113, hcH113⟩
  · exact absurd hcH113 (fun h => h)
  subst hvH113
  refine W.eq (g2 := F0 m 10 ls [.int 0]) rfl ?_
  refine lv_if_eq (tgt := 28) hx hb dX10_pass_10 (by decide) (fun c114 => ?_) (fun c114 => ?_)
  · have k115 := i_eq c114
    refine lv_iconst (v := (-1)) hx hb dX10_pass_28 (by decide) ?_
    exact x_iret C hQ dX10_pass_29 hSH113 (by decide) (by decide) (⟨⟨(-1), rfl, by omega⟩, G, fun _ _ => rfl, hTH101⟩)
  · have k115 := i_ne c114
    exfalso
    omega

set_option maxHeartbeats 4000000 in
set_option maxRecDepth 100000 in
theorem f_X10_goal (l : Launch) (K : KE) (G : Nat → Option Nat) (H : Heap) {b : Nat} (x0 : Int32) (x1 : Int32) (x2 : Int32) (hT : TY K G H) (gb : G b = some 112) (fx : FM K H b) : MX l K yX10_goal cX10_goal 4 (some .boolean) 1 21 0 0 [.ref b, .int x0, .int x1, .int x2] H (AE G [112] H.size) (fun v H1 => (∃ r : Int32, v = some (.int r) ∧ (r.toInt = 0)) ∧ ∃ G1 : Nat → Option Nat, (∀ q, q < H.size → G1 q = G q) ∧ TY K G1 H1) := by
  refine MX.of (by decide +kernel) (Nat.le_of_ble_eq_true rfl) ?_
  intro p e s m below meth c ls Q C hH hl hQ
  subst hH
  have C : CX p K s m _ meth c RX10 cX10_goal 4 (some .boolean) "goal" := C
  obtain ⟨hx, hb, hml, hown, hts, hKT, hr, hlocks, hnm⟩ := id C
  have hl : lv_has ls 4 [(0, .ref b), (1, .int x0), (2, .int x1), (3, .int x2)] := hl
  have hS : va_S (AE G [112] s.heap.size) s.heap s.heap [] := va_S.rf
  have n_0 : (0 : Int32).toInt = 0 := rfl
  have n_1 : (1 : Int32).toInt = 1 := rfl
  obtain ⟨f1, f2, f3, f4, f5, f6, f7, f8, f9, f10⟩ := fx
  refine lv_aload_n hx hb dX10_goal_0 rfl (lv_at hl 0 rfl) ?_
  refine lv_iconst (v := 0) hx hb dX10_goal_1 (by decide) ?_
  refine x_put C hT hS (ci := 10) (k := 0) (v := .int 0) (ty0 := tyX10) rfl inX10 tyX10_ok nmX10 (by decide) rfl wF_X10_167 gb rg_112 rfl rfl (okI (by have := i_rng (0 : Int32); omega) (by have := i_rng (0 : Int32); omega)) rfl rfl (AE_in gb (by decide)) dX10_goal_2 (fun H101 locsH101 hTH101 hSH101 wH101 => ?_)
  have m102 := (Wr.neI wH101 (Or.inr (x_apart hKT hts inX10 tyX10 tyX10_ok nmX10 rfl 1 0 (by decide) (by decide) (by decide)))).trans f1
  have m103 := (Wr.neI wH101 (Or.inr (x_apart hKT hts inX10 tyX10 tyX10_ok nmX10 rfl 2 0 (by decide) (by decide) (by decide)))).trans f2
  have m104 := (Wr.neI wH101 (Or.inr (x_apart hKT hts inX10 tyX10 tyX10_ok nmX10 rfl 3 0 (by decide) (by decide) (by decide)))).trans f3
  have m105 := (Wr.neI wH101 (Or.inr (x_apart hKT hts inX10 tyX10 tyX10_ok nmX10 rfl 18 0 (by decide) (by decide) (by decide)))).trans f4
  have m106 := (Wr.neI wH101 (Or.inr (x_apart hKT hts inX10 tyX10 tyX10_ok nmX10 rfl 41 0 (by decide) (by decide) (by decide)))).trans f5
  have m107 := (Wr.neI wH101 (Or.inr (x_apart hKT hts inX10 tyX10 tyX10_ok nmX10 rfl 42 0 (by decide) (by decide) (by decide)))).trans f6
  have m108 := (Wr.neI wH101 (Or.inr (x_apart hKT hts inX10 tyX10 tyX10_ok nmX10 rfl 59 0 (by decide) (by decide) (by decide)))).trans f7
  have m109 := (Wr.neI wH101 (Or.inr (x_apart hKT hts inX10 tyX10 tyX10_ok nmX10 rfl 62 0 (by decide) (by decide) (by decide)))).trans f8
  have m110 := (Wr.neI wH101 (Or.inr (x_apart hKT hts inX10 tyX10 tyX10_ok nmX10 rfl 65 0 (by decide) (by decide) (by decide)))).trans f9
  have m111 := (Wr.neI wH101 (Or.inr (x_apart hKT hts inX10 tyX10 tyX10_ok nmX10 rfl 70 0 (by decide) (by decide) (by decide)))).trans f10
  have m112 := Wr.I wH101
  refine lv_aload_n hx hb dX10_goal_5 rfl (lv_at hl 0 rfl) ?_
  refine lv_iload_n hx hb dX10_goal_6 rfl (lv_at hl 1 rfl) ?_
  refine x_V (As := [.int x0]) (rest := []) C (f_X10_isBar l K G H101 (x0) hTH101 gb ⟨m102, m103, m104, m105, m106, m107, m108, m109, m110, m111⟩) yo_X10_isBar wM_X10_173 ⟨⟨by decide, by decide⟩, by decide, by decide⟩ (x_rv C hTH101 (ci := 10) rfl gb rg_112) rfl hl.1 rfl (Nat.le_of_ble_eq_true rfl) dX10_goal_7 hSH101 (AE_sub (fun _ _ => rfl) (by decide) hSH101.1) (fun vH113 H113 locsH113 pH113 zH113 kH113 hSH113 => ?_)
  have hqH113 := pH113.1.symm
  subst hqH113
  rcases pH113.2 with ⟨hvH113, hcH113⟩ | ⟨hvH113, hcH113⟩
  · exact absurd hcH113 (fun h => h)
  subst hvH113
  refine W.eq (g2 := F0 m 10 ls [.int 0]) rfl ?_
  refine lv_if_eq (tgt := 33) hx hb dX10_goal_10 (by decide) (fun c114 => ?_) (fun c114 => ?_)
  · have k115 := i_eq c114
    refine lv_iconst (v := 0) hx hb dX10_goal_33 (by decide) ?_
    exact x_zret C hQ (Or.inl rfl) dX10_goal_34 hSH113 (by decide) (by decide) (⟨⟨0, rfl, by omega⟩, G, fun _ _ => rfl, hTH101⟩)
  · have k115 := i_ne c114
    exfalso
    omega

set_option maxHeartbeats 4000000 in
set_option maxRecDepth 100000 in
theorem f_X10_state (l : Launch) (K : KE) (G : Nat → Option Nat) (H : Heap) {b : Nat} (x0 : Int32) (x1 : Int32) (hT : TY K G H) (gb : G b = some 112) (fx : FM K H b) : MX l K yX10_state cX10_state 3 (some .int) 1 21 0 0 [.ref b, .int x0, .int x1] H (AE G [112] H.size) (fun v H1 => (∃ r : Int32, v = some (.int r) ∧ (r.toInt = -2)) ∧ ∃ G1 : Nat → Option Nat, (∀ q, q < H.size → G1 q = G q) ∧ TY K G1 H1) := by
  refine MX.of (by decide +kernel) (Nat.le_of_ble_eq_true rfl) ?_
  intro p e s m below meth c ls Q C hH hl hQ
  subst hH
  have C : CX p K s m _ meth c RX10 cX10_state 3 (some .int) "state" := C
  obtain ⟨hx, hb, hml, hown, hts, hKT, hr, hlocks, hnm⟩ := id C
  have hl : lv_has ls 3 [(0, .ref b), (1, .int x0), (2, .int x1)] := hl
  have hS : va_S (AE G [112] s.heap.size) s.heap s.heap [] := va_S.rf
  have n_m2 : ((-2) : Int32).toInt = -2 := rfl
  have n_0 : (0 : Int32).toInt = 0 := rfl
  have n_1 : (1 : Int32).toInt = 1 := rfl
  obtain ⟨f1, f2, f3, f4, f5, f6, f7, f8, f9, f10⟩ := fx
  refine lv_aload_n hx hb dX10_state_0 rfl (lv_at hl 0 rfl) ?_
  refine lv_iconst (v := 0) hx hb dX10_state_1 (by decide) ?_
  refine x_put C hT hS (ci := 10) (k := 0) (v := .int 0) (ty0 := tyX10) rfl inX10 tyX10_ok nmX10 (by decide) rfl wF_X10_167 gb rg_112 rfl rfl (okI (by have := i_rng (0 : Int32); omega) (by have := i_rng (0 : Int32); omega)) rfl rfl (AE_in gb (by decide)) dX10_state_2 (fun H101 locsH101 hTH101 hSH101 wH101 => ?_)
  have m102 := (Wr.neI wH101 (Or.inr (x_apart hKT hts inX10 tyX10 tyX10_ok nmX10 rfl 1 0 (by decide) (by decide) (by decide)))).trans f1
  have m103 := (Wr.neI wH101 (Or.inr (x_apart hKT hts inX10 tyX10 tyX10_ok nmX10 rfl 2 0 (by decide) (by decide) (by decide)))).trans f2
  have m104 := (Wr.neI wH101 (Or.inr (x_apart hKT hts inX10 tyX10 tyX10_ok nmX10 rfl 3 0 (by decide) (by decide) (by decide)))).trans f3
  have m105 := (Wr.neI wH101 (Or.inr (x_apart hKT hts inX10 tyX10 tyX10_ok nmX10 rfl 18 0 (by decide) (by decide) (by decide)))).trans f4
  have m106 := (Wr.neI wH101 (Or.inr (x_apart hKT hts inX10 tyX10 tyX10_ok nmX10 rfl 41 0 (by decide) (by decide) (by decide)))).trans f5
  have m107 := (Wr.neI wH101 (Or.inr (x_apart hKT hts inX10 tyX10 tyX10_ok nmX10 rfl 42 0 (by decide) (by decide) (by decide)))).trans f6
  have m108 := (Wr.neI wH101 (Or.inr (x_apart hKT hts inX10 tyX10 tyX10_ok nmX10 rfl 59 0 (by decide) (by decide) (by decide)))).trans f7
  have m109 := (Wr.neI wH101 (Or.inr (x_apart hKT hts inX10 tyX10 tyX10_ok nmX10 rfl 62 0 (by decide) (by decide) (by decide)))).trans f8
  have m110 := (Wr.neI wH101 (Or.inr (x_apart hKT hts inX10 tyX10 tyX10_ok nmX10 rfl 65 0 (by decide) (by decide) (by decide)))).trans f9
  have m111 := (Wr.neI wH101 (Or.inr (x_apart hKT hts inX10 tyX10 tyX10_ok nmX10 rfl 70 0 (by decide) (by decide) (by decide)))).trans f10
  have m112 := Wr.I wH101
  refine lv_aload_n hx hb dX10_state_5 rfl (lv_at hl 0 rfl) ?_
  refine lv_iload_n hx hb dX10_state_6 rfl (lv_at hl 1 rfl) ?_
  refine x_V (As := [.int x0]) (rest := []) C (f_X10_isBar l K G H101 (x0) hTH101 gb ⟨m102, m103, m104, m105, m106, m107, m108, m109, m110, m111⟩) yo_X10_isBar wM_X10_173 ⟨⟨by decide, by decide⟩, by decide, by decide⟩ (x_rv C hTH101 (ci := 10) rfl gb rg_112) rfl hl.1 rfl (Nat.le_of_ble_eq_true rfl) dX10_state_7 hSH101 (AE_sub (fun _ _ => rfl) (by decide) hSH101.1) (fun vH113 H113 locsH113 pH113 zH113 kH113 hSH113 => ?_)
  have hqH113 := pH113.1.symm
  subst hqH113
  rcases pH113.2 with ⟨hvH113, hcH113⟩ | ⟨hvH113, hcH113⟩
  · exact absurd hcH113 (fun h => h)
  subst hvH113
  refine W.eq (g2 := F0 m 10 ls [.int 0]) rfl ?_
  refine lv_if_ne (tgt := 16) hx hb dX10_state_10 (by decide) (fun c114 => ?_) (fun c114 => ?_)
  · have k115 := i_ne c114
    exfalso
    omega
  · have k115 := i_eq c114
    refine lv_bipush (v := (-2)) hx hb dX10_state_13 (by decide) ?_
    exact x_iret C hQ dX10_state_15 hSH113 (by decide) (by decide) (⟨⟨(-2), rfl, by omega⟩, G, fun _ _ => rfl, hTH101⟩)

set_option maxHeartbeats 4000000 in
set_option maxRecDepth 100000 in
theorem f_X10_takes (l : Launch) (K : KE) (G : Nat → Option Nat) (H : Heap) {b : Nat} (x0 : Int32) (x1 : Int32) (x2 : Int32) (hT : TY K G H) (gb : G b = some 112) (fx : FM K H b) : MX l K yX10_takes cX10_takes 6 (some .int) 2 43 0 0 [.ref b, .int x0, .int x1, .int x2] H (AE G [112] H.size) (fun v H1 => (∃ r : Int32, v = some (.int r) ∧ (r.toInt = -10000000)) ∧ ∃ G1 : Nat → Option Nat, (∀ q, q < H.size → G1 q = G q) ∧ TY K G1 H1) := by
  refine MX.of (by decide +kernel) (Nat.le_of_ble_eq_true rfl) ?_
  intro p e s m below meth c ls Q C hH hl hQ
  subst hH
  have C : CX p K s m _ meth c RX10 cX10_takes 6 (some .int) "takes" := C
  obtain ⟨hx, hb, hml, hown, hts, hKT, hr, hlocks, hnm⟩ := id C
  have hl : lv_has ls 6 [(0, .ref b), (1, .int x0), (2, .int x1), (3, .int x2)] := hl
  have hS : va_S (AE G [112] s.heap.size) s.heap s.heap [] := va_S.rf
  have n_m10000000 : ((-10000000) : Int32).toInt = -10000000 := rfl
  have n_0 : (0 : Int32).toInt = 0 := rfl
  have n_1 : (1 : Int32).toInt = 1 := rfl
  obtain ⟨f1, f2, f3, f4, f5, f6, f7, f8, f9, f10⟩ := fx
  refine lv_aload_n hx hb dX10_takes_0 rfl (lv_at hl 0 rfl) ?_
  refine lv_iconst (v := 0) hx hb dX10_takes_1 (by decide) ?_
  refine x_put C hT hS (ci := 10) (k := 0) (v := .int 0) (ty0 := tyX10) rfl inX10 tyX10_ok nmX10 (by decide) rfl wF_X10_167 gb rg_112 rfl rfl (okI (by have := i_rng (0 : Int32); omega) (by have := i_rng (0 : Int32); omega)) rfl rfl (AE_in gb (by decide)) dX10_takes_2 (fun H101 locsH101 hTH101 hSH101 wH101 => ?_)
  have m102 := (Wr.neI wH101 (Or.inr (x_apart hKT hts inX10 tyX10 tyX10_ok nmX10 rfl 1 0 (by decide) (by decide) (by decide)))).trans f1
  have m103 := (Wr.neI wH101 (Or.inr (x_apart hKT hts inX10 tyX10 tyX10_ok nmX10 rfl 2 0 (by decide) (by decide) (by decide)))).trans f2
  have m104 := (Wr.neI wH101 (Or.inr (x_apart hKT hts inX10 tyX10 tyX10_ok nmX10 rfl 3 0 (by decide) (by decide) (by decide)))).trans f3
  have m105 := (Wr.neI wH101 (Or.inr (x_apart hKT hts inX10 tyX10 tyX10_ok nmX10 rfl 18 0 (by decide) (by decide) (by decide)))).trans f4
  have m106 := (Wr.neI wH101 (Or.inr (x_apart hKT hts inX10 tyX10 tyX10_ok nmX10 rfl 41 0 (by decide) (by decide) (by decide)))).trans f5
  have m107 := (Wr.neI wH101 (Or.inr (x_apart hKT hts inX10 tyX10 tyX10_ok nmX10 rfl 42 0 (by decide) (by decide) (by decide)))).trans f6
  have m108 := (Wr.neI wH101 (Or.inr (x_apart hKT hts inX10 tyX10 tyX10_ok nmX10 rfl 59 0 (by decide) (by decide) (by decide)))).trans f7
  have m109 := (Wr.neI wH101 (Or.inr (x_apart hKT hts inX10 tyX10 tyX10_ok nmX10 rfl 62 0 (by decide) (by decide) (by decide)))).trans f8
  have m110 := (Wr.neI wH101 (Or.inr (x_apart hKT hts inX10 tyX10 tyX10_ok nmX10 rfl 65 0 (by decide) (by decide) (by decide)))).trans f9
  have m111 := (Wr.neI wH101 (Or.inr (x_apart hKT hts inX10 tyX10 tyX10_ok nmX10 rfl 70 0 (by decide) (by decide) (by decide)))).trans f10
  have m112 := Wr.I wH101
  refine lv_aload_n hx hb dX10_takes_5 rfl (lv_at hl 0 rfl) ?_
  refine lv_iload_n hx hb dX10_takes_6 rfl (lv_at hl 1 rfl) ?_
  refine lv_iload_n hx hb dX10_takes_7 rfl (lv_at hl 2 rfl) ?_
  refine x_V (As := [.int x0, .int x1]) (rest := []) C (f_X10_isSlice l K G H101 (x0) (x1) hTH101 gb ⟨m102, m103, m104, m105, m106, m107, m108, m109, m110, m111⟩) yo_X10_isSlice wM_X10_181 ⟨⟨by decide, by decide⟩, by decide, by decide⟩ (x_rv C hTH101 (ci := 10) rfl gb rg_112) rfl hl.1 rfl (Nat.le_of_ble_eq_true rfl) dX10_takes_8 hSH101 (AE_sub (fun _ _ => rfl) (by decide) hSH101.1) (fun vH113 H113 locsH113 pH113 zH113 kH113 hSH113 => ?_)
  have hqH113 := pH113.1.symm
  subst hqH113
  rcases pH113.2 with ⟨hvH113, hcH113⟩ | ⟨hvH113, hcH113⟩
  · exact absurd hcH113 (fun h => h)
  subst hvH113
  refine W.eq (g2 := F0 m 11 ls [.int 0]) rfl ?_
  refine lv_if_eq (tgt := 37) hx hb dX10_takes_11 (by decide) (fun c114 => ?_) (fun c114 => ?_)
  · have k115 := i_eq c114
    refine lv_ldcw (v := (-10000000)) hx hb hown (hts _ wK_X10_349) dX10_takes_37 ?_
    exact x_iret C hQ dX10_takes_40 hSH113 (by decide) (by decide) (⟨⟨(-10000000), rfl, by omega⟩, G, fun _ _ => rfl, hTH101⟩)
  · have k115 := i_ne c114
    exfalso
    omega

set_option maxHeartbeats 4000000 in
set_option maxRecDepth 100000 in
theorem f_X10_job (l : Launch) (K : KE) (G : Nat → Option Nat) (H : Heap) {b : Nat} (x0 : Int32) (x1 : Int32) (hT : TY K G H) (gb : G b = some 112) (fx : FM K H b) : MX l K yX10_job cX10_job 6 (some .int) 1 23 0 0 [.ref b, .int x0, .int x1] H (AE G [112] H.size) (fun v H1 => (∃ r : Int32, v = some (.int r) ∧ (r.toInt = -1)) ∧ ∃ G1 : Nat → Option Nat, (∀ q, q < H.size → G1 q = G q) ∧ TY K G1 H1) := by
  refine MX.of (by decide +kernel) (Nat.le_of_ble_eq_true rfl) ?_
  intro p e s m below meth c ls Q C hH hl hQ
  subst hH
  have C : CX p K s m _ meth c RX10 cX10_job 6 (some .int) "job" := C
  obtain ⟨hx, hb, hml, hown, hts, hKT, hr, hlocks, hnm⟩ := id C
  have hl : lv_has ls 6 [(0, .ref b), (1, .int x0), (2, .int x1)] := hl
  have hS : va_S (AE G [112] s.heap.size) s.heap s.heap [] := va_S.rf
  have n_m1 : ((-1) : Int32).toInt = -1 := rfl
  have n_0 : (0 : Int32).toInt = 0 := rfl
  have n_1 : (1 : Int32).toInt = 1 := rfl
  have n_3 : (3 : Int32).toInt = 3 := rfl
  obtain ⟨f1, f2, f3, f4, f5, f6, f7, f8, f9, f10⟩ := fx
  refine lv_aload_n hx hb dX10_job_0 rfl (lv_at hl 0 rfl) ?_
  refine lv_iconst (v := 0) hx hb dX10_job_1 (by decide) ?_
  refine x_put C hT hS (ci := 10) (k := 0) (v := .int 0) (ty0 := tyX10) rfl inX10 tyX10_ok nmX10 (by decide) rfl wF_X10_167 gb rg_112 rfl rfl (okI (by have := i_rng (0 : Int32); omega) (by have := i_rng (0 : Int32); omega)) rfl rfl (AE_in gb (by decide)) dX10_job_2 (fun H101 locsH101 hTH101 hSH101 wH101 => ?_)
  have m102 := (Wr.neI wH101 (Or.inr (x_apart hKT hts inX10 tyX10 tyX10_ok nmX10 rfl 1 0 (by decide) (by decide) (by decide)))).trans f1
  have m103 := (Wr.neI wH101 (Or.inr (x_apart hKT hts inX10 tyX10 tyX10_ok nmX10 rfl 2 0 (by decide) (by decide) (by decide)))).trans f2
  have m104 := (Wr.neI wH101 (Or.inr (x_apart hKT hts inX10 tyX10 tyX10_ok nmX10 rfl 3 0 (by decide) (by decide) (by decide)))).trans f3
  have m105 := (Wr.neI wH101 (Or.inr (x_apart hKT hts inX10 tyX10 tyX10_ok nmX10 rfl 18 0 (by decide) (by decide) (by decide)))).trans f4
  have m106 := (Wr.neI wH101 (Or.inr (x_apart hKT hts inX10 tyX10 tyX10_ok nmX10 rfl 41 0 (by decide) (by decide) (by decide)))).trans f5
  have m107 := (Wr.neI wH101 (Or.inr (x_apart hKT hts inX10 tyX10 tyX10_ok nmX10 rfl 42 0 (by decide) (by decide) (by decide)))).trans f6
  have m108 := (Wr.neI wH101 (Or.inr (x_apart hKT hts inX10 tyX10 tyX10_ok nmX10 rfl 59 0 (by decide) (by decide) (by decide)))).trans f7
  have m109 := (Wr.neI wH101 (Or.inr (x_apart hKT hts inX10 tyX10 tyX10_ok nmX10 rfl 62 0 (by decide) (by decide) (by decide)))).trans f8
  have m110 := (Wr.neI wH101 (Or.inr (x_apart hKT hts inX10 tyX10 tyX10_ok nmX10 rfl 65 0 (by decide) (by decide) (by decide)))).trans f9
  have m111 := (Wr.neI wH101 (Or.inr (x_apart hKT hts inX10 tyX10 tyX10_ok nmX10 rfl 70 0 (by decide) (by decide) (by decide)))).trans f10
  have m112 := Wr.I wH101
  refine lv_aload_n hx hb dX10_job_5 rfl (lv_at hl 0 rfl) ?_
  refine lv_iload_n hx hb dX10_job_6 rfl (lv_at hl 1 rfl) ?_
  refine lv_iconst (v := 0) hx hb dX10_job_7 (by decide) ?_
  refine lv_iconst (v := 3) hx hb dX10_job_8 (by decide) ?_
  refine x_V (As := [.int x0, .int 0, .int 3]) (rest := []) C (c_X10_isIn l K G H101 (x0) (0) (3) hTH101 gb) yo_X10_isIn wM_X10_177 ⟨⟨by decide, by decide⟩, by decide, by decide⟩ (x_rv C hTH101 (ci := 10) rfl gb rg_112) rfl hl.1 rfl (Nat.le_of_ble_eq_true rfl) dX10_job_9 hSH101 (AE_sub (fun _ _ => rfl) (by decide) hSH101.1) (fun vH113 H113 locsH113 pH113 zH113 kH113 hSH113 => ?_)
  have hqH113 := pH113.1.symm
  subst hqH113
  rcases pH113.2 with ⟨hvH113, hcH113⟩ | ⟨hvH113, hcH113⟩
  · subst hvH113
    refine W.eq (g2 := F0 m 12 ls [.int 1]) rfl ?_
    refine lv_if_eq (tgt := 23) hx hb dX10_job_12 (by decide) (fun c114 => ?_) (fun c114 => ?_)
    · have k115 := i_eq c114
      exfalso
      omega
    · have k115 := i_ne c114
      refine lv_aload_n hx hb dX10_job_15 rfl (lv_at hl 0 rfl) ?_
      refine lv_iload_n hx hb dX10_job_16 rfl (lv_at hl 2 rfl) ?_
      refine x_V (As := [.int x1]) (rest := []) C (f_X10_isBar l K G H101 (x1) hTH101 gb ⟨m102, m103, m104, m105, m106, m107, m108, m109, m110, m111⟩) yo_X10_isBar wM_X10_173 ⟨⟨by decide, by decide⟩, by decide, by decide⟩ (x_rv C hTH101 (ci := 10) rfl gb rg_112) rfl hl.1 rfl (Nat.le_of_ble_eq_true rfl) dX10_job_17 hSH113 (AE_sub (fun _ _ => rfl) (by decide) hSH113.1) (fun vH116 H116 locsH116 pH116 zH116 kH116 hSH116 => ?_)
      have hqH116 := pH116.1.symm
      subst hqH116
      rcases pH116.2 with ⟨hvH116, hcH116⟩ | ⟨hvH116, hcH116⟩
      · exact absurd hcH116 (fun h => h)
      subst hvH116
      refine W.eq (g2 := F0 m 20 ls [.int 0]) rfl ?_
      refine lv_if_ne (tgt := 25) hx hb dX10_job_20 (by decide) (fun c117 => ?_) (fun c117 => ?_)
      · have k118 := i_ne c117
        exfalso
        omega
      · have k118 := i_eq c117
        refine lv_iconst (v := (-1)) hx hb dX10_job_23 (by decide) ?_
        exact x_iret C hQ dX10_job_24 hSH116 (by decide) (by decide) (⟨⟨(-1), rfl, by omega⟩, G, fun _ _ => rfl, hTH101⟩)
  · subst hvH113
    refine W.eq (g2 := F0 m 12 ls [.int 0]) rfl ?_
    refine lv_if_eq (tgt := 23) hx hb dX10_job_12 (by decide) (fun c119 => ?_) (fun c119 => ?_)
    · have k120 := i_eq c119
      refine lv_iconst (v := (-1)) hx hb dX10_job_23 (by decide) ?_
      exact x_iret C hQ dX10_job_24 hSH113 (by decide) (by decide) (⟨⟨(-1), rfl, by omega⟩, G, fun _ _ => rfl, hTH101⟩)
    · have k120 := i_ne c119
      exfalso
      omega

set_option maxHeartbeats 4000000 in
set_option maxRecDepth 100000 in
theorem f_X10_fewest (l : Launch) (K : KE) (G : Nat → Option Nat) (H : Heap) {b : Nat} (x0 : Int32) (x1 : Int32) (hT : TY K G H) (gb : G b = some 112) (fx : FM K H b) : MX l K yX10_fewest cX10_fewest 4 (some .int) 1 21 0 0 [.ref b, .int x0, .int x1] H (AE G [112] H.size) (fun v H1 => (∃ r : Int32, v = some (.int r) ∧ (r.toInt = -1)) ∧ ∃ G1 : Nat → Option Nat, (∀ q, q < H.size → G1 q = G q) ∧ TY K G1 H1) := by
  refine MX.of (by decide +kernel) (Nat.le_of_ble_eq_true rfl) ?_
  intro p e s m below meth c ls Q C hH hl hQ
  subst hH
  have C : CX p K s m _ meth c RX10 cX10_fewest 4 (some .int) "fewest" := C
  obtain ⟨hx, hb, hml, hown, hts, hKT, hr, hlocks, hnm⟩ := id C
  have hl : lv_has ls 4 [(0, .ref b), (1, .int x0), (2, .int x1)] := hl
  have hS : va_S (AE G [112] s.heap.size) s.heap s.heap [] := va_S.rf
  have n_m1 : ((-1) : Int32).toInt = -1 := rfl
  have n_0 : (0 : Int32).toInt = 0 := rfl
  have n_1 : (1 : Int32).toInt = 1 := rfl
  obtain ⟨f1, f2, f3, f4, f5, f6, f7, f8, f9, f10⟩ := fx
  refine lv_aload_n hx hb dX10_fewest_0 rfl (lv_at hl 0 rfl) ?_
  refine lv_iconst (v := 0) hx hb dX10_fewest_1 (by decide) ?_
  refine x_put C hT hS (ci := 10) (k := 0) (v := .int 0) (ty0 := tyX10) rfl inX10 tyX10_ok nmX10 (by decide) rfl wF_X10_167 gb rg_112 rfl rfl (okI (by have := i_rng (0 : Int32); omega) (by have := i_rng (0 : Int32); omega)) rfl rfl (AE_in gb (by decide)) dX10_fewest_2 (fun H101 locsH101 hTH101 hSH101 wH101 => ?_)
  have m102 := (Wr.neI wH101 (Or.inr (x_apart hKT hts inX10 tyX10 tyX10_ok nmX10 rfl 1 0 (by decide) (by decide) (by decide)))).trans f1
  have m103 := (Wr.neI wH101 (Or.inr (x_apart hKT hts inX10 tyX10 tyX10_ok nmX10 rfl 2 0 (by decide) (by decide) (by decide)))).trans f2
  have m104 := (Wr.neI wH101 (Or.inr (x_apart hKT hts inX10 tyX10 tyX10_ok nmX10 rfl 3 0 (by decide) (by decide) (by decide)))).trans f3
  have m105 := (Wr.neI wH101 (Or.inr (x_apart hKT hts inX10 tyX10 tyX10_ok nmX10 rfl 18 0 (by decide) (by decide) (by decide)))).trans f4
  have m106 := (Wr.neI wH101 (Or.inr (x_apart hKT hts inX10 tyX10 tyX10_ok nmX10 rfl 41 0 (by decide) (by decide) (by decide)))).trans f5
  have m107 := (Wr.neI wH101 (Or.inr (x_apart hKT hts inX10 tyX10 tyX10_ok nmX10 rfl 42 0 (by decide) (by decide) (by decide)))).trans f6
  have m108 := (Wr.neI wH101 (Or.inr (x_apart hKT hts inX10 tyX10 tyX10_ok nmX10 rfl 59 0 (by decide) (by decide) (by decide)))).trans f7
  have m109 := (Wr.neI wH101 (Or.inr (x_apart hKT hts inX10 tyX10 tyX10_ok nmX10 rfl 62 0 (by decide) (by decide) (by decide)))).trans f8
  have m110 := (Wr.neI wH101 (Or.inr (x_apart hKT hts inX10 tyX10 tyX10_ok nmX10 rfl 65 0 (by decide) (by decide) (by decide)))).trans f9
  have m111 := (Wr.neI wH101 (Or.inr (x_apart hKT hts inX10 tyX10 tyX10_ok nmX10 rfl 70 0 (by decide) (by decide) (by decide)))).trans f10
  have m112 := Wr.I wH101
  refine lv_aload_n hx hb dX10_fewest_5 rfl (lv_at hl 0 rfl) ?_
  refine lv_iload_n hx hb dX10_fewest_6 rfl (lv_at hl 1 rfl) ?_
  refine x_V (As := [.int x0]) (rest := []) C (f_X10_isBar l K G H101 (x0) hTH101 gb ⟨m102, m103, m104, m105, m106, m107, m108, m109, m110, m111⟩) yo_X10_isBar wM_X10_173 ⟨⟨by decide, by decide⟩, by decide, by decide⟩ (x_rv C hTH101 (ci := 10) rfl gb rg_112) rfl hl.1 rfl (Nat.le_of_ble_eq_true rfl) dX10_fewest_7 hSH101 (AE_sub (fun _ _ => rfl) (by decide) hSH101.1) (fun vH113 H113 locsH113 pH113 zH113 kH113 hSH113 => ?_)
  have hqH113 := pH113.1.symm
  subst hqH113
  rcases pH113.2 with ⟨hvH113, hcH113⟩ | ⟨hvH113, hcH113⟩
  · exact absurd hcH113 (fun h => h)
  subst hvH113
  refine W.eq (g2 := F0 m 10 ls [.int 0]) rfl ?_
  refine lv_if_eq (tgt := 34) hx hb dX10_fewest_10 (by decide) (fun c114 => ?_) (fun c114 => ?_)
  · have k115 := i_eq c114
    refine lv_iconst (v := (-1)) hx hb dX10_fewest_34 (by decide) ?_
    exact x_iret C hQ dX10_fewest_35 hSH113 (by decide) (by decide) (⟨⟨(-1), rfl, by omega⟩, G, fun _ _ => rfl, hTH101⟩)
  · have k115 := i_ne c114
    exfalso
    omega

set_option maxHeartbeats 4000000 in
set_option maxRecDepth 100000 in
theorem f_X10_tap (l : Launch) (K : KE) (G : Nat → Option Nat) (H : Heap) {b : Nat} (x0 : Int32) (x1 : Int32) (x2 : Int32) (hT : TY K G H) (gb : G b = some 112) (fx : FM K H b) : MX l K yX10_tap cX10_tap 6 (some .int) 1 21 0 0 [.ref b, .int x0, .int x1, .int x2] H (AE G [112] H.size) (fun v H1 => (∃ r : Int32, v = some (.int r) ∧ (r.toInt = -1)) ∧ ∃ G1 : Nat → Option Nat, (∀ q, q < H.size → G1 q = G q) ∧ TY K G1 H1) := by
  refine MX.of (by decide +kernel) (Nat.le_of_ble_eq_true rfl) ?_
  intro p e s m below meth c ls Q C hH hl hQ
  subst hH
  have C : CX p K s m _ meth c RX10 cX10_tap 6 (some .int) "tap" := C
  obtain ⟨hx, hb, hml, hown, hts, hKT, hr, hlocks, hnm⟩ := id C
  have hl : lv_has ls 6 [(0, .ref b), (1, .int x0), (2, .int x1), (3, .int x2)] := hl
  have hS : va_S (AE G [112] s.heap.size) s.heap s.heap [] := va_S.rf
  have n_m1 : ((-1) : Int32).toInt = -1 := rfl
  have n_0 : (0 : Int32).toInt = 0 := rfl
  have n_1 : (1 : Int32).toInt = 1 := rfl
  obtain ⟨f1, f2, f3, f4, f5, f6, f7, f8, f9, f10⟩ := fx
  refine lv_aload_n hx hb dX10_tap_0 rfl (lv_at hl 0 rfl) ?_
  refine lv_iconst (v := 0) hx hb dX10_tap_1 (by decide) ?_
  refine x_put C hT hS (ci := 10) (k := 0) (v := .int 0) (ty0 := tyX10) rfl inX10 tyX10_ok nmX10 (by decide) rfl wF_X10_167 gb rg_112 rfl rfl (okI (by have := i_rng (0 : Int32); omega) (by have := i_rng (0 : Int32); omega)) rfl rfl (AE_in gb (by decide)) dX10_tap_2 (fun H101 locsH101 hTH101 hSH101 wH101 => ?_)
  have m102 := (Wr.neI wH101 (Or.inr (x_apart hKT hts inX10 tyX10 tyX10_ok nmX10 rfl 1 0 (by decide) (by decide) (by decide)))).trans f1
  have m103 := (Wr.neI wH101 (Or.inr (x_apart hKT hts inX10 tyX10 tyX10_ok nmX10 rfl 2 0 (by decide) (by decide) (by decide)))).trans f2
  have m104 := (Wr.neI wH101 (Or.inr (x_apart hKT hts inX10 tyX10 tyX10_ok nmX10 rfl 3 0 (by decide) (by decide) (by decide)))).trans f3
  have m105 := (Wr.neI wH101 (Or.inr (x_apart hKT hts inX10 tyX10 tyX10_ok nmX10 rfl 18 0 (by decide) (by decide) (by decide)))).trans f4
  have m106 := (Wr.neI wH101 (Or.inr (x_apart hKT hts inX10 tyX10 tyX10_ok nmX10 rfl 41 0 (by decide) (by decide) (by decide)))).trans f5
  have m107 := (Wr.neI wH101 (Or.inr (x_apart hKT hts inX10 tyX10 tyX10_ok nmX10 rfl 42 0 (by decide) (by decide) (by decide)))).trans f6
  have m108 := (Wr.neI wH101 (Or.inr (x_apart hKT hts inX10 tyX10 tyX10_ok nmX10 rfl 59 0 (by decide) (by decide) (by decide)))).trans f7
  have m109 := (Wr.neI wH101 (Or.inr (x_apart hKT hts inX10 tyX10 tyX10_ok nmX10 rfl 62 0 (by decide) (by decide) (by decide)))).trans f8
  have m110 := (Wr.neI wH101 (Or.inr (x_apart hKT hts inX10 tyX10 tyX10_ok nmX10 rfl 65 0 (by decide) (by decide) (by decide)))).trans f9
  have m111 := (Wr.neI wH101 (Or.inr (x_apart hKT hts inX10 tyX10 tyX10_ok nmX10 rfl 70 0 (by decide) (by decide) (by decide)))).trans f10
  have m112 := Wr.I wH101
  refine lv_aload_n hx hb dX10_tap_5 rfl (lv_at hl 0 rfl) ?_
  refine lv_iload_n hx hb dX10_tap_6 rfl (lv_at hl 1 rfl) ?_
  refine x_V (As := [.int x0]) (rest := []) C (f_X10_isBar l K G H101 (x0) hTH101 gb ⟨m102, m103, m104, m105, m106, m107, m108, m109, m110, m111⟩) yo_X10_isBar wM_X10_173 ⟨⟨by decide, by decide⟩, by decide, by decide⟩ (x_rv C hTH101 (ci := 10) rfl gb rg_112) rfl hl.1 rfl (Nat.le_of_ble_eq_true rfl) dX10_tap_7 hSH101 (AE_sub (fun _ _ => rfl) (by decide) hSH101.1) (fun vH113 H113 locsH113 pH113 zH113 kH113 hSH113 => ?_)
  have hqH113 := pH113.1.symm
  subst hqH113
  rcases pH113.2 with ⟨hvH113, hcH113⟩ | ⟨hvH113, hcH113⟩
  · exact absurd hcH113 (fun h => h)
  subst hvH113
  refine W.eq (g2 := F0 m 10 ls [.int 0]) rfl ?_
  refine lv_if_eq (tgt := 44) hx hb dX10_tap_10 (by decide) (fun c114 => ?_) (fun c114 => ?_)
  · have k115 := i_eq c114
    refine lv_iconst (v := (-1)) hx hb dX10_tap_44 (by decide) ?_
    exact x_iret C hQ dX10_tap_45 hSH113 (by decide) (by decide) (⟨⟨(-1), rfl, by omega⟩, G, fun _ _ => rfl, hTH101⟩)
  · have k115 := i_ne c114
    exfalso
    omega

set_option maxHeartbeats 4000000 in
set_option maxRecDepth 100000 in
theorem f_X10_fits (l : Launch) (K : KE) (G : Nat → Option Nat) (H : Heap) {b : Nat} (x0 : Int32) (x1 : Int32) (x2 : Int32) (x3 : Int32) (hT : TY K G H) (gb : G b = some 112) (fx : FM K H b) : MX l K yX10_fits cX10_fits 5 (some .int) 1 21 0 0 [.ref b, .int x0, .int x1, .int x2, .int x3] H (AE G [112] H.size) (fun v H1 => (∃ r : Int32, v = some (.int r) ∧ (r.toInt = -1)) ∧ ∃ G1 : Nat → Option Nat, (∀ q, q < H.size → G1 q = G q) ∧ TY K G1 H1) := by
  refine MX.of (by decide +kernel) (Nat.le_of_ble_eq_true rfl) ?_
  intro p e s m below meth c ls Q C hH hl hQ
  subst hH
  have C : CX p K s m _ meth c RX10 cX10_fits 5 (some .int) "fits" := C
  obtain ⟨hx, hb, hml, hown, hts, hKT, hr, hlocks, hnm⟩ := id C
  have hl : lv_has ls 5 [(0, .ref b), (1, .int x0), (2, .int x1), (3, .int x2), (4, .int x3)] := hl
  have hS : va_S (AE G [112] s.heap.size) s.heap s.heap [] := va_S.rf
  have n_m1 : ((-1) : Int32).toInt = -1 := rfl
  have n_0 : (0 : Int32).toInt = 0 := rfl
  have n_1 : (1 : Int32).toInt = 1 := rfl
  obtain ⟨f1, f2, f3, f4, f5, f6, f7, f8, f9, f10⟩ := fx
  refine lv_aload_n hx hb dX10_fits_0 rfl (lv_at hl 0 rfl) ?_
  refine lv_iconst (v := 0) hx hb dX10_fits_1 (by decide) ?_
  refine x_put C hT hS (ci := 10) (k := 0) (v := .int 0) (ty0 := tyX10) rfl inX10 tyX10_ok nmX10 (by decide) rfl wF_X10_167 gb rg_112 rfl rfl (okI (by have := i_rng (0 : Int32); omega) (by have := i_rng (0 : Int32); omega)) rfl rfl (AE_in gb (by decide)) dX10_fits_2 (fun H101 locsH101 hTH101 hSH101 wH101 => ?_)
  have m102 := (Wr.neI wH101 (Or.inr (x_apart hKT hts inX10 tyX10 tyX10_ok nmX10 rfl 1 0 (by decide) (by decide) (by decide)))).trans f1
  have m103 := (Wr.neI wH101 (Or.inr (x_apart hKT hts inX10 tyX10 tyX10_ok nmX10 rfl 2 0 (by decide) (by decide) (by decide)))).trans f2
  have m104 := (Wr.neI wH101 (Or.inr (x_apart hKT hts inX10 tyX10 tyX10_ok nmX10 rfl 3 0 (by decide) (by decide) (by decide)))).trans f3
  have m105 := (Wr.neI wH101 (Or.inr (x_apart hKT hts inX10 tyX10 tyX10_ok nmX10 rfl 18 0 (by decide) (by decide) (by decide)))).trans f4
  have m106 := (Wr.neI wH101 (Or.inr (x_apart hKT hts inX10 tyX10 tyX10_ok nmX10 rfl 41 0 (by decide) (by decide) (by decide)))).trans f5
  have m107 := (Wr.neI wH101 (Or.inr (x_apart hKT hts inX10 tyX10 tyX10_ok nmX10 rfl 42 0 (by decide) (by decide) (by decide)))).trans f6
  have m108 := (Wr.neI wH101 (Or.inr (x_apart hKT hts inX10 tyX10 tyX10_ok nmX10 rfl 59 0 (by decide) (by decide) (by decide)))).trans f7
  have m109 := (Wr.neI wH101 (Or.inr (x_apart hKT hts inX10 tyX10 tyX10_ok nmX10 rfl 62 0 (by decide) (by decide) (by decide)))).trans f8
  have m110 := (Wr.neI wH101 (Or.inr (x_apart hKT hts inX10 tyX10 tyX10_ok nmX10 rfl 65 0 (by decide) (by decide) (by decide)))).trans f9
  have m111 := (Wr.neI wH101 (Or.inr (x_apart hKT hts inX10 tyX10 tyX10_ok nmX10 rfl 70 0 (by decide) (by decide) (by decide)))).trans f10
  have m112 := Wr.I wH101
  refine lv_aload_n hx hb dX10_fits_5 rfl (lv_at hl 0 rfl) ?_
  refine lv_iload_n hx hb dX10_fits_6 rfl (lv_at hl 1 rfl) ?_
  refine x_V (As := [.int x0]) (rest := []) C (f_X10_isBar l K G H101 (x0) hTH101 gb ⟨m102, m103, m104, m105, m106, m107, m108, m109, m110, m111⟩) yo_X10_isBar wM_X10_173 ⟨⟨by decide, by decide⟩, by decide, by decide⟩ (x_rv C hTH101 (ci := 10) rfl gb rg_112) rfl hl.1 rfl (Nat.le_of_ble_eq_true rfl) dX10_fits_7 hSH101 (AE_sub (fun _ _ => rfl) (by decide) hSH101.1) (fun vH113 H113 locsH113 pH113 zH113 kH113 hSH113 => ?_)
  have hqH113 := pH113.1.symm
  subst hqH113
  rcases pH113.2 with ⟨hvH113, hcH113⟩ | ⟨hvH113, hcH113⟩
  · exact absurd hcH113 (fun h => h)
  subst hvH113
  refine W.eq (g2 := F0 m 10 ls [.int 0]) rfl ?_
  refine lv_if_eq (tgt := 76) hx hb dX10_fits_10 (by decide) (fun c114 => ?_) (fun c114 => ?_)
  · have k115 := i_eq c114
    refine lv_iconst (v := (-1)) hx hb dX10_fits_76 (by decide) ?_
    exact x_iret C hQ dX10_fits_77 hSH113 (by decide) (by decide) (⟨⟨(-1), rfl, by omega⟩, G, fun _ _ => rfl, hTH101⟩)
  · have k115 := i_ne c114
    exfalso
    omega

set_option maxHeartbeats 4000000 in
set_option maxRecDepth 100000 in
theorem f_X10_still (l : Launch) (K : KE) (G : Nat → Option Nat) (H : Heap) {b : Nat} (x0 : Int32) (x1 : Int32) (x2 : Int32) (hT : TY K G H) (gb : G b = some 112) (fx : FM K H b) : MX l K yX10_still cX10_still 4 (some .int) 1 21 0 0 [.ref b, .int x0, .int x1, .int x2] H (AE G [112] H.size) (fun v H1 => (∃ r : Int32, v = some (.int r) ∧ (r.toInt = -1)) ∧ ∃ G1 : Nat → Option Nat, (∀ q, q < H.size → G1 q = G q) ∧ TY K G1 H1) := by
  refine MX.of (by decide +kernel) (Nat.le_of_ble_eq_true rfl) ?_
  intro p e s m below meth c ls Q C hH hl hQ
  subst hH
  have C : CX p K s m _ meth c RX10 cX10_still 4 (some .int) "still" := C
  obtain ⟨hx, hb, hml, hown, hts, hKT, hr, hlocks, hnm⟩ := id C
  have hl : lv_has ls 4 [(0, .ref b), (1, .int x0), (2, .int x1), (3, .int x2)] := hl
  have hS : va_S (AE G [112] s.heap.size) s.heap s.heap [] := va_S.rf
  have n_m1 : ((-1) : Int32).toInt = -1 := rfl
  have n_0 : (0 : Int32).toInt = 0 := rfl
  have n_1 : (1 : Int32).toInt = 1 := rfl
  obtain ⟨f1, f2, f3, f4, f5, f6, f7, f8, f9, f10⟩ := fx
  refine lv_aload_n hx hb dX10_still_0 rfl (lv_at hl 0 rfl) ?_
  refine lv_iconst (v := 0) hx hb dX10_still_1 (by decide) ?_
  refine x_put C hT hS (ci := 10) (k := 0) (v := .int 0) (ty0 := tyX10) rfl inX10 tyX10_ok nmX10 (by decide) rfl wF_X10_167 gb rg_112 rfl rfl (okI (by have := i_rng (0 : Int32); omega) (by have := i_rng (0 : Int32); omega)) rfl rfl (AE_in gb (by decide)) dX10_still_2 (fun H101 locsH101 hTH101 hSH101 wH101 => ?_)
  have m102 := (Wr.neI wH101 (Or.inr (x_apart hKT hts inX10 tyX10 tyX10_ok nmX10 rfl 1 0 (by decide) (by decide) (by decide)))).trans f1
  have m103 := (Wr.neI wH101 (Or.inr (x_apart hKT hts inX10 tyX10 tyX10_ok nmX10 rfl 2 0 (by decide) (by decide) (by decide)))).trans f2
  have m104 := (Wr.neI wH101 (Or.inr (x_apart hKT hts inX10 tyX10 tyX10_ok nmX10 rfl 3 0 (by decide) (by decide) (by decide)))).trans f3
  have m105 := (Wr.neI wH101 (Or.inr (x_apart hKT hts inX10 tyX10 tyX10_ok nmX10 rfl 18 0 (by decide) (by decide) (by decide)))).trans f4
  have m106 := (Wr.neI wH101 (Or.inr (x_apart hKT hts inX10 tyX10 tyX10_ok nmX10 rfl 41 0 (by decide) (by decide) (by decide)))).trans f5
  have m107 := (Wr.neI wH101 (Or.inr (x_apart hKT hts inX10 tyX10 tyX10_ok nmX10 rfl 42 0 (by decide) (by decide) (by decide)))).trans f6
  have m108 := (Wr.neI wH101 (Or.inr (x_apart hKT hts inX10 tyX10 tyX10_ok nmX10 rfl 59 0 (by decide) (by decide) (by decide)))).trans f7
  have m109 := (Wr.neI wH101 (Or.inr (x_apart hKT hts inX10 tyX10 tyX10_ok nmX10 rfl 62 0 (by decide) (by decide) (by decide)))).trans f8
  have m110 := (Wr.neI wH101 (Or.inr (x_apart hKT hts inX10 tyX10 tyX10_ok nmX10 rfl 65 0 (by decide) (by decide) (by decide)))).trans f9
  have m111 := (Wr.neI wH101 (Or.inr (x_apart hKT hts inX10 tyX10 tyX10_ok nmX10 rfl 70 0 (by decide) (by decide) (by decide)))).trans f10
  have m112 := Wr.I wH101
  refine lv_aload_n hx hb dX10_still_5 rfl (lv_at hl 0 rfl) ?_
  refine lv_iload_n hx hb dX10_still_6 rfl (lv_at hl 1 rfl) ?_
  refine x_V (As := [.int x0]) (rest := []) C (f_X10_isBar l K G H101 (x0) hTH101 gb ⟨m102, m103, m104, m105, m106, m107, m108, m109, m110, m111⟩) yo_X10_isBar wM_X10_173 ⟨⟨by decide, by decide⟩, by decide, by decide⟩ (x_rv C hTH101 (ci := 10) rfl gb rg_112) rfl hl.1 rfl (Nat.le_of_ble_eq_true rfl) dX10_still_7 hSH101 (AE_sub (fun _ _ => rfl) (by decide) hSH101.1) (fun vH113 H113 locsH113 pH113 zH113 kH113 hSH113 => ?_)
  have hqH113 := pH113.1.symm
  subst hqH113
  rcases pH113.2 with ⟨hvH113, hcH113⟩ | ⟨hvH113, hcH113⟩
  · exact absurd hcH113 (fun h => h)
  subst hvH113
  refine W.eq (g2 := F0 m 10 ls [.int 0]) rfl ?_
  refine lv_if_eq (tgt := 25) hx hb dX10_still_10 (by decide) (fun c114 => ?_) (fun c114 => ?_)
  · have k115 := i_eq c114
    refine lv_iconst (v := (-1)) hx hb dX10_still_25 (by decide) ?_
    exact x_iret C hQ dX10_still_26 hSH113 (by decide) (by decide) (⟨⟨(-1), rfl, by omega⟩, G, fun _ _ => rfl, hTH101⟩)
  · have k115 := i_ne c114
    exfalso
    omega

set_option maxHeartbeats 4000000 in
set_option maxRecDepth 100000 in
theorem f_X10_holes (l : Launch) (K : KE) (G : Nat → Option Nat) (H : Heap) {b : Nat} (x0 : Int32) (x1 : Int32) (x2 : Int32) (hT : TY K G H) (gb : G b = some 112) (fx : FM K H b) : MX l K yX10_holes cX10_holes 4 (some .boolean) 2 43 0 0 [.ref b, .int x0, .int x1, .int x2] H (AE G [112] H.size) (fun v H1 => (∃ r : Int32, v = some (.int r) ∧ (r.toInt = 0)) ∧ ∃ G1 : Nat → Option Nat, (∀ q, q < H.size → G1 q = G q) ∧ TY K G1 H1) := by
  refine MX.of (by decide +kernel) (Nat.le_of_ble_eq_true rfl) ?_
  intro p e s m below meth c ls Q C hH hl hQ
  subst hH
  have C : CX p K s m _ meth c RX10 cX10_holes 4 (some .boolean) "holes" := C
  obtain ⟨hx, hb, hml, hown, hts, hKT, hr, hlocks, hnm⟩ := id C
  have hl : lv_has ls 4 [(0, .ref b), (1, .int x0), (2, .int x1), (3, .int x2)] := hl
  have hS : va_S (AE G [112] s.heap.size) s.heap s.heap [] := va_S.rf
  have n_0 : (0 : Int32).toInt = 0 := rfl
  have n_1 : (1 : Int32).toInt = 1 := rfl
  obtain ⟨f1, f2, f3, f4, f5, f6, f7, f8, f9, f10⟩ := fx
  refine lv_aload_n hx hb dX10_holes_0 rfl (lv_at hl 0 rfl) ?_
  refine lv_iconst (v := 0) hx hb dX10_holes_1 (by decide) ?_
  refine x_put C hT hS (ci := 10) (k := 0) (v := .int 0) (ty0 := tyX10) rfl inX10 tyX10_ok nmX10 (by decide) rfl wF_X10_167 gb rg_112 rfl rfl (okI (by have := i_rng (0 : Int32); omega) (by have := i_rng (0 : Int32); omega)) rfl rfl (AE_in gb (by decide)) dX10_holes_2 (fun H101 locsH101 hTH101 hSH101 wH101 => ?_)
  have m102 := (Wr.neI wH101 (Or.inr (x_apart hKT hts inX10 tyX10 tyX10_ok nmX10 rfl 1 0 (by decide) (by decide) (by decide)))).trans f1
  have m103 := (Wr.neI wH101 (Or.inr (x_apart hKT hts inX10 tyX10 tyX10_ok nmX10 rfl 2 0 (by decide) (by decide) (by decide)))).trans f2
  have m104 := (Wr.neI wH101 (Or.inr (x_apart hKT hts inX10 tyX10 tyX10_ok nmX10 rfl 3 0 (by decide) (by decide) (by decide)))).trans f3
  have m105 := (Wr.neI wH101 (Or.inr (x_apart hKT hts inX10 tyX10 tyX10_ok nmX10 rfl 18 0 (by decide) (by decide) (by decide)))).trans f4
  have m106 := (Wr.neI wH101 (Or.inr (x_apart hKT hts inX10 tyX10 tyX10_ok nmX10 rfl 41 0 (by decide) (by decide) (by decide)))).trans f5
  have m107 := (Wr.neI wH101 (Or.inr (x_apart hKT hts inX10 tyX10 tyX10_ok nmX10 rfl 42 0 (by decide) (by decide) (by decide)))).trans f6
  have m108 := (Wr.neI wH101 (Or.inr (x_apart hKT hts inX10 tyX10 tyX10_ok nmX10 rfl 59 0 (by decide) (by decide) (by decide)))).trans f7
  have m109 := (Wr.neI wH101 (Or.inr (x_apart hKT hts inX10 tyX10 tyX10_ok nmX10 rfl 62 0 (by decide) (by decide) (by decide)))).trans f8
  have m110 := (Wr.neI wH101 (Or.inr (x_apart hKT hts inX10 tyX10 tyX10_ok nmX10 rfl 65 0 (by decide) (by decide) (by decide)))).trans f9
  have m111 := (Wr.neI wH101 (Or.inr (x_apart hKT hts inX10 tyX10 tyX10_ok nmX10 rfl 70 0 (by decide) (by decide) (by decide)))).trans f10
  have m112 := Wr.I wH101
  refine lv_aload_n hx hb dX10_holes_5 rfl (lv_at hl 0 rfl) ?_
  refine lv_iload_n hx hb dX10_holes_6 rfl (lv_at hl 1 rfl) ?_
  refine lv_iload_n hx hb dX10_holes_7 rfl (lv_at hl 2 rfl) ?_
  refine x_V (As := [.int x0, .int x1]) (rest := []) C (f_X10_isSlice l K G H101 (x0) (x1) hTH101 gb ⟨m102, m103, m104, m105, m106, m107, m108, m109, m110, m111⟩) yo_X10_isSlice wM_X10_181 ⟨⟨by decide, by decide⟩, by decide, by decide⟩ (x_rv C hTH101 (ci := 10) rfl gb rg_112) rfl hl.1 rfl (Nat.le_of_ble_eq_true rfl) dX10_holes_8 hSH101 (AE_sub (fun _ _ => rfl) (by decide) hSH101.1) (fun vH113 H113 locsH113 pH113 zH113 kH113 hSH113 => ?_)
  have hqH113 := pH113.1.symm
  subst hqH113
  rcases pH113.2 with ⟨hvH113, hcH113⟩ | ⟨hvH113, hcH113⟩
  · exact absurd hcH113 (fun h => h)
  subst hvH113
  refine W.eq (g2 := F0 m 11 ls [.int 0]) rfl ?_
  refine lv_if_eq (tgt := 28) hx hb dX10_holes_11 (by decide) (fun c114 => ?_) (fun c114 => ?_)
  · have k115 := i_eq c114
    refine lv_iconst (v := 0) hx hb dX10_holes_28 (by decide) ?_
    exact x_zret C hQ (Or.inl rfl) dX10_holes_29 hSH113 (by decide) (by decide) (⟨⟨0, rfl, by omega⟩, G, fun _ _ => rfl, hTH101⟩)
  · have k115 := i_ne c114
    exfalso
    omega

set_option maxHeartbeats 4000000 in
set_option maxRecDepth 100000 in
theorem f_X10_tube (l : Launch) (K : KE) (G : Nat → Option Nat) (H : Heap) {b : Nat} (x0 : Int32) (x1 : Int32) (x2 : Int32) (hT : TY K G H) (gb : G b = some 112) (fx : FM K H b) : MX l K yX10_tube cX10_tube 4 (some .boolean) 1 21 0 0 [.ref b, .int x0, .int x1, .int x2] H (AE G [112] H.size) (fun v H1 => (∃ r : Int32, v = some (.int r) ∧ (r.toInt = 0)) ∧ ∃ G1 : Nat → Option Nat, (∀ q, q < H.size → G1 q = G q) ∧ TY K G1 H1) := by
  refine MX.of (by decide +kernel) (Nat.le_of_ble_eq_true rfl) ?_
  intro p e s m below meth c ls Q C hH hl hQ
  subst hH
  have C : CX p K s m _ meth c RX10 cX10_tube 4 (some .boolean) "tube" := C
  obtain ⟨hx, hb, hml, hown, hts, hKT, hr, hlocks, hnm⟩ := id C
  have hl : lv_has ls 4 [(0, .ref b), (1, .int x0), (2, .int x1), (3, .int x2)] := hl
  have hS : va_S (AE G [112] s.heap.size) s.heap s.heap [] := va_S.rf
  have n_0 : (0 : Int32).toInt = 0 := rfl
  have n_1 : (1 : Int32).toInt = 1 := rfl
  obtain ⟨f1, f2, f3, f4, f5, f6, f7, f8, f9, f10⟩ := fx
  refine lv_aload_n hx hb dX10_tube_0 rfl (lv_at hl 0 rfl) ?_
  refine lv_iconst (v := 0) hx hb dX10_tube_1 (by decide) ?_
  refine x_put C hT hS (ci := 10) (k := 0) (v := .int 0) (ty0 := tyX10) rfl inX10 tyX10_ok nmX10 (by decide) rfl wF_X10_167 gb rg_112 rfl rfl (okI (by have := i_rng (0 : Int32); omega) (by have := i_rng (0 : Int32); omega)) rfl rfl (AE_in gb (by decide)) dX10_tube_2 (fun H101 locsH101 hTH101 hSH101 wH101 => ?_)
  have m102 := (Wr.neI wH101 (Or.inr (x_apart hKT hts inX10 tyX10 tyX10_ok nmX10 rfl 1 0 (by decide) (by decide) (by decide)))).trans f1
  have m103 := (Wr.neI wH101 (Or.inr (x_apart hKT hts inX10 tyX10 tyX10_ok nmX10 rfl 2 0 (by decide) (by decide) (by decide)))).trans f2
  have m104 := (Wr.neI wH101 (Or.inr (x_apart hKT hts inX10 tyX10 tyX10_ok nmX10 rfl 3 0 (by decide) (by decide) (by decide)))).trans f3
  have m105 := (Wr.neI wH101 (Or.inr (x_apart hKT hts inX10 tyX10 tyX10_ok nmX10 rfl 18 0 (by decide) (by decide) (by decide)))).trans f4
  have m106 := (Wr.neI wH101 (Or.inr (x_apart hKT hts inX10 tyX10 tyX10_ok nmX10 rfl 41 0 (by decide) (by decide) (by decide)))).trans f5
  have m107 := (Wr.neI wH101 (Or.inr (x_apart hKT hts inX10 tyX10 tyX10_ok nmX10 rfl 42 0 (by decide) (by decide) (by decide)))).trans f6
  have m108 := (Wr.neI wH101 (Or.inr (x_apart hKT hts inX10 tyX10 tyX10_ok nmX10 rfl 59 0 (by decide) (by decide) (by decide)))).trans f7
  have m109 := (Wr.neI wH101 (Or.inr (x_apart hKT hts inX10 tyX10 tyX10_ok nmX10 rfl 62 0 (by decide) (by decide) (by decide)))).trans f8
  have m110 := (Wr.neI wH101 (Or.inr (x_apart hKT hts inX10 tyX10 tyX10_ok nmX10 rfl 65 0 (by decide) (by decide) (by decide)))).trans f9
  have m111 := (Wr.neI wH101 (Or.inr (x_apart hKT hts inX10 tyX10 tyX10_ok nmX10 rfl 70 0 (by decide) (by decide) (by decide)))).trans f10
  have m112 := Wr.I wH101
  refine lv_aload_n hx hb dX10_tube_5 rfl (lv_at hl 0 rfl) ?_
  refine lv_iload_n hx hb dX10_tube_6 rfl (lv_at hl 1 rfl) ?_
  refine x_V (As := [.int x0]) (rest := []) C (f_X10_isBar l K G H101 (x0) hTH101 gb ⟨m102, m103, m104, m105, m106, m107, m108, m109, m110, m111⟩) yo_X10_isBar wM_X10_173 ⟨⟨by decide, by decide⟩, by decide, by decide⟩ (x_rv C hTH101 (ci := 10) rfl gb rg_112) rfl hl.1 rfl (Nat.le_of_ble_eq_true rfl) dX10_tube_7 hSH101 (AE_sub (fun _ _ => rfl) (by decide) hSH101.1) (fun vH113 H113 locsH113 pH113 zH113 kH113 hSH113 => ?_)
  have hqH113 := pH113.1.symm
  subst hqH113
  rcases pH113.2 with ⟨hvH113, hcH113⟩ | ⟨hvH113, hcH113⟩
  · exact absurd hcH113 (fun h => h)
  subst hvH113
  refine W.eq (g2 := F0 m 10 ls [.int 0]) rfl ?_
  refine lv_if_eq (tgt := 35) hx hb dX10_tube_10 (by decide) (fun c114 => ?_) (fun c114 => ?_)
  · have k115 := i_eq c114
    refine lv_iconst (v := 0) hx hb dX10_tube_35 (by decide) ?_
    exact x_zret C hQ (Or.inl rfl) dX10_tube_36 hSH113 (by decide) (by decide) (⟨⟨0, rfl, by omega⟩, G, fun _ _ => rfl, hTH101⟩)
  · have k115 := i_ne c114
    exfalso
    omega

set_option maxHeartbeats 4000000 in
set_option maxRecDepth 100000 in
theorem f_X10_in (l : Launch) (K : KE) (G : Nat → Option Nat) (H : Heap) {b : Nat} (x0 : Int32) (x1 : Int32) (x2 : Int32) (x3 : Int32) (hT : TY K G H) (gb : G b = some 112) (fx : FM K H b) : MX l K yX10_in cX10_in 8 (some .int) 1 21 0 0 [.ref b, .int x0, .int x1, .int x2, .int x3] H (AE G [112] H.size) (fun v H1 => (∃ r : Int32, v = some (.int r) ∧ (r.toInt = -1)) ∧ ∃ G1 : Nat → Option Nat, (∀ q, q < H.size → G1 q = G q) ∧ TY K G1 H1) := by
  refine MX.of (by decide +kernel) (Nat.le_of_ble_eq_true rfl) ?_
  intro p e s m below meth c ls Q C hH hl hQ
  subst hH
  have C : CX p K s m _ meth c RX10 cX10_in 8 (some .int) "in" := C
  obtain ⟨hx, hb, hml, hown, hts, hKT, hr, hlocks, hnm⟩ := id C
  have hl : lv_has ls 8 [(0, .ref b), (1, .int x0), (2, .int x1), (3, .int x2), (4, .int x3)] := hl
  have hS : va_S (AE G [112] s.heap.size) s.heap s.heap [] := va_S.rf
  have n_m1 : ((-1) : Int32).toInt = -1 := rfl
  have n_0 : (0 : Int32).toInt = 0 := rfl
  have n_1 : (1 : Int32).toInt = 1 := rfl
  obtain ⟨f1, f2, f3, f4, f5, f6, f7, f8, f9, f10⟩ := fx
  refine lv_aload_n hx hb dX10_in_0 rfl (lv_at hl 0 rfl) ?_
  refine lv_iconst (v := 0) hx hb dX10_in_1 (by decide) ?_
  refine x_put C hT hS (ci := 10) (k := 0) (v := .int 0) (ty0 := tyX10) rfl inX10 tyX10_ok nmX10 (by decide) rfl wF_X10_167 gb rg_112 rfl rfl (okI (by have := i_rng (0 : Int32); omega) (by have := i_rng (0 : Int32); omega)) rfl rfl (AE_in gb (by decide)) dX10_in_2 (fun H101 locsH101 hTH101 hSH101 wH101 => ?_)
  have m102 := (Wr.neI wH101 (Or.inr (x_apart hKT hts inX10 tyX10 tyX10_ok nmX10 rfl 1 0 (by decide) (by decide) (by decide)))).trans f1
  have m103 := (Wr.neI wH101 (Or.inr (x_apart hKT hts inX10 tyX10 tyX10_ok nmX10 rfl 2 0 (by decide) (by decide) (by decide)))).trans f2
  have m104 := (Wr.neI wH101 (Or.inr (x_apart hKT hts inX10 tyX10 tyX10_ok nmX10 rfl 3 0 (by decide) (by decide) (by decide)))).trans f3
  have m105 := (Wr.neI wH101 (Or.inr (x_apart hKT hts inX10 tyX10 tyX10_ok nmX10 rfl 18 0 (by decide) (by decide) (by decide)))).trans f4
  have m106 := (Wr.neI wH101 (Or.inr (x_apart hKT hts inX10 tyX10 tyX10_ok nmX10 rfl 41 0 (by decide) (by decide) (by decide)))).trans f5
  have m107 := (Wr.neI wH101 (Or.inr (x_apart hKT hts inX10 tyX10 tyX10_ok nmX10 rfl 42 0 (by decide) (by decide) (by decide)))).trans f6
  have m108 := (Wr.neI wH101 (Or.inr (x_apart hKT hts inX10 tyX10 tyX10_ok nmX10 rfl 59 0 (by decide) (by decide) (by decide)))).trans f7
  have m109 := (Wr.neI wH101 (Or.inr (x_apart hKT hts inX10 tyX10 tyX10_ok nmX10 rfl 62 0 (by decide) (by decide) (by decide)))).trans f8
  have m110 := (Wr.neI wH101 (Or.inr (x_apart hKT hts inX10 tyX10 tyX10_ok nmX10 rfl 65 0 (by decide) (by decide) (by decide)))).trans f9
  have m111 := (Wr.neI wH101 (Or.inr (x_apart hKT hts inX10 tyX10 tyX10_ok nmX10 rfl 70 0 (by decide) (by decide) (by decide)))).trans f10
  have m112 := Wr.I wH101
  refine lv_aload_n hx hb dX10_in_5 rfl (lv_at hl 0 rfl) ?_
  refine lv_iload_n hx hb dX10_in_6 rfl (lv_at hl 1 rfl) ?_
  refine x_V (As := [.int x0]) (rest := []) C (f_X10_isBar l K G H101 (x0) hTH101 gb ⟨m102, m103, m104, m105, m106, m107, m108, m109, m110, m111⟩) yo_X10_isBar wM_X10_173 ⟨⟨by decide, by decide⟩, by decide, by decide⟩ (x_rv C hTH101 (ci := 10) rfl gb rg_112) rfl hl.1 rfl (Nat.le_of_ble_eq_true rfl) dX10_in_7 hSH101 (AE_sub (fun _ _ => rfl) (by decide) hSH101.1) (fun vH113 H113 locsH113 pH113 zH113 kH113 hSH113 => ?_)
  have hqH113 := pH113.1.symm
  subst hqH113
  rcases pH113.2 with ⟨hvH113, hcH113⟩ | ⟨hvH113, hcH113⟩
  · exact absurd hcH113 (fun h => h)
  subst hvH113
  refine W.eq (g2 := F0 m 10 ls [.int 0]) rfl ?_
  refine lv_if_eq (tgt := 40) hx hb dX10_in_10 (by decide) (fun c114 => ?_) (fun c114 => ?_)
  · have k115 := i_eq c114
    refine lv_iconst (v := (-1)) hx hb dX10_in_40 (by decide) ?_
    exact x_iret C hQ dX10_in_41 hSH113 (by decide) (by decide) (⟨⟨(-1), rfl, by omega⟩, G, fun _ _ => rfl, hTH101⟩)
  · have k115 := i_ne c114
    exfalso
    omega

set_option maxHeartbeats 4000000 in
set_option maxRecDepth 100000 in
theorem f_X10_down (l : Launch) (K : KE) (G : Nat → Option Nat) (H : Heap) {b : Nat} (x0 : Int32) (hT : TY K G H) (gb : G b = some 112) (fx : FM K H b) : MX l K yX10_down cX10_down 5 (some .int) 1 21 0 0 [.ref b, .int x0] H (AE G [112] H.size) (fun v H1 => (∃ r : Int32, v = some (.int r) ∧ (r.toInt = -1)) ∧ ∃ G1 : Nat → Option Nat, (∀ q, q < H.size → G1 q = G q) ∧ TY K G1 H1) := by
  refine MX.of (by decide +kernel) (Nat.le_of_ble_eq_true rfl) ?_
  intro p e s m below meth c ls Q C hH hl hQ
  subst hH
  have C : CX p K s m _ meth c RX10 cX10_down 5 (some .int) "down" := C
  obtain ⟨hx, hb, hml, hown, hts, hKT, hr, hlocks, hnm⟩ := id C
  have hl : lv_has ls 5 [(0, .ref b), (1, .int x0)] := hl
  have hS : va_S (AE G [112] s.heap.size) s.heap s.heap [] := va_S.rf
  have n_m1 : ((-1) : Int32).toInt = -1 := rfl
  have n_0 : (0 : Int32).toInt = 0 := rfl
  have n_1 : (1 : Int32).toInt = 1 := rfl
  obtain ⟨f1, f2, f3, f4, f5, f6, f7, f8, f9, f10⟩ := fx
  refine lv_aload_n hx hb dX10_down_0 rfl (lv_at hl 0 rfl) ?_
  refine lv_iconst (v := 0) hx hb dX10_down_1 (by decide) ?_
  refine x_put C hT hS (ci := 10) (k := 0) (v := .int 0) (ty0 := tyX10) rfl inX10 tyX10_ok nmX10 (by decide) rfl wF_X10_167 gb rg_112 rfl rfl (okI (by have := i_rng (0 : Int32); omega) (by have := i_rng (0 : Int32); omega)) rfl rfl (AE_in gb (by decide)) dX10_down_2 (fun H101 locsH101 hTH101 hSH101 wH101 => ?_)
  have m102 := (Wr.neI wH101 (Or.inr (x_apart hKT hts inX10 tyX10 tyX10_ok nmX10 rfl 1 0 (by decide) (by decide) (by decide)))).trans f1
  have m103 := (Wr.neI wH101 (Or.inr (x_apart hKT hts inX10 tyX10 tyX10_ok nmX10 rfl 2 0 (by decide) (by decide) (by decide)))).trans f2
  have m104 := (Wr.neI wH101 (Or.inr (x_apart hKT hts inX10 tyX10 tyX10_ok nmX10 rfl 3 0 (by decide) (by decide) (by decide)))).trans f3
  have m105 := (Wr.neI wH101 (Or.inr (x_apart hKT hts inX10 tyX10 tyX10_ok nmX10 rfl 18 0 (by decide) (by decide) (by decide)))).trans f4
  have m106 := (Wr.neI wH101 (Or.inr (x_apart hKT hts inX10 tyX10 tyX10_ok nmX10 rfl 41 0 (by decide) (by decide) (by decide)))).trans f5
  have m107 := (Wr.neI wH101 (Or.inr (x_apart hKT hts inX10 tyX10 tyX10_ok nmX10 rfl 42 0 (by decide) (by decide) (by decide)))).trans f6
  have m108 := (Wr.neI wH101 (Or.inr (x_apart hKT hts inX10 tyX10 tyX10_ok nmX10 rfl 59 0 (by decide) (by decide) (by decide)))).trans f7
  have m109 := (Wr.neI wH101 (Or.inr (x_apart hKT hts inX10 tyX10 tyX10_ok nmX10 rfl 62 0 (by decide) (by decide) (by decide)))).trans f8
  have m110 := (Wr.neI wH101 (Or.inr (x_apart hKT hts inX10 tyX10 tyX10_ok nmX10 rfl 65 0 (by decide) (by decide) (by decide)))).trans f9
  have m111 := (Wr.neI wH101 (Or.inr (x_apart hKT hts inX10 tyX10 tyX10_ok nmX10 rfl 70 0 (by decide) (by decide) (by decide)))).trans f10
  have m112 := Wr.I wH101
  refine lv_aload_n hx hb dX10_down_5 rfl (lv_at hl 0 rfl) ?_
  refine lv_iload_n hx hb dX10_down_6 rfl (lv_at hl 1 rfl) ?_
  refine x_V (As := [.int x0]) (rest := []) C (f_X10_isBar l K G H101 (x0) hTH101 gb ⟨m102, m103, m104, m105, m106, m107, m108, m109, m110, m111⟩) yo_X10_isBar wM_X10_173 ⟨⟨by decide, by decide⟩, by decide, by decide⟩ (x_rv C hTH101 (ci := 10) rfl gb rg_112) rfl hl.1 rfl (Nat.le_of_ble_eq_true rfl) dX10_down_7 hSH101 (AE_sub (fun _ _ => rfl) (by decide) hSH101.1) (fun vH113 H113 locsH113 pH113 zH113 kH113 hSH113 => ?_)
  have hqH113 := pH113.1.symm
  subst hqH113
  rcases pH113.2 with ⟨hvH113, hcH113⟩ | ⟨hvH113, hcH113⟩
  · exact absurd hcH113 (fun h => h)
  subst hvH113
  refine W.eq (g2 := F0 m 10 ls [.int 0]) rfl ?_
  refine lv_if_ne (tgt := 15) hx hb dX10_down_10 (by decide) (fun c114 => ?_) (fun c114 => ?_)
  · have k115 := i_ne c114
    exfalso
    omega
  · have k115 := i_eq c114
    refine lv_iconst (v := (-1)) hx hb dX10_down_13 (by decide) ?_
    exact x_iret C hQ dX10_down_14 hSH113 (by decide) (by decide) (⟨⟨(-1), rfl, by omega⟩, G, fun _ _ => rfl, hTH101⟩)

set_option maxHeartbeats 4000000 in
set_option maxRecDepth 100000 in
theorem f_X10_enough (l : Launch) (K : KE) (G : Nat → Option Nat) (H : Heap) {b : Nat} (x0 : Int32) (x1 : Int32) (x2 : Int32) (hT : TY K G H) (gb : G b = some 112) (fx : FM K H b) : MX l K yX10_enough cX10_enough 7 (some .int) 2 43 0 0 [.ref b, .int x0, .int x1, .int x2] H (AE G [112] H.size) (fun v H1 => (∃ r : Int32, v = some (.int r) ∧ (r.toInt = -1)) ∧ ∃ G1 : Nat → Option Nat, (∀ q, q < H.size → G1 q = G q) ∧ TY K G1 H1) := by
  refine MX.of (by decide +kernel) (Nat.le_of_ble_eq_true rfl) ?_
  intro p e s m below meth c ls Q C hH hl hQ
  subst hH
  have C : CX p K s m _ meth c RX10 cX10_enough 7 (some .int) "enough" := C
  obtain ⟨hx, hb, hml, hown, hts, hKT, hr, hlocks, hnm⟩ := id C
  have hl : lv_has ls 7 [(0, .ref b), (1, .int x0), (2, .int x1), (3, .int x2)] := hl
  have hS : va_S (AE G [112] s.heap.size) s.heap s.heap [] := va_S.rf
  have n_m1 : ((-1) : Int32).toInt = -1 := rfl
  have n_0 : (0 : Int32).toInt = 0 := rfl
  have n_1 : (1 : Int32).toInt = 1 := rfl
  obtain ⟨f1, f2, f3, f4, f5, f6, f7, f8, f9, f10⟩ := fx
  refine lv_aload_n hx hb dX10_enough_0 rfl (lv_at hl 0 rfl) ?_
  refine lv_iconst (v := 0) hx hb dX10_enough_1 (by decide) ?_
  refine x_put C hT hS (ci := 10) (k := 0) (v := .int 0) (ty0 := tyX10) rfl inX10 tyX10_ok nmX10 (by decide) rfl wF_X10_167 gb rg_112 rfl rfl (okI (by have := i_rng (0 : Int32); omega) (by have := i_rng (0 : Int32); omega)) rfl rfl (AE_in gb (by decide)) dX10_enough_2 (fun H101 locsH101 hTH101 hSH101 wH101 => ?_)
  have m102 := (Wr.neI wH101 (Or.inr (x_apart hKT hts inX10 tyX10 tyX10_ok nmX10 rfl 1 0 (by decide) (by decide) (by decide)))).trans f1
  have m103 := (Wr.neI wH101 (Or.inr (x_apart hKT hts inX10 tyX10 tyX10_ok nmX10 rfl 2 0 (by decide) (by decide) (by decide)))).trans f2
  have m104 := (Wr.neI wH101 (Or.inr (x_apart hKT hts inX10 tyX10 tyX10_ok nmX10 rfl 3 0 (by decide) (by decide) (by decide)))).trans f3
  have m105 := (Wr.neI wH101 (Or.inr (x_apart hKT hts inX10 tyX10 tyX10_ok nmX10 rfl 18 0 (by decide) (by decide) (by decide)))).trans f4
  have m106 := (Wr.neI wH101 (Or.inr (x_apart hKT hts inX10 tyX10 tyX10_ok nmX10 rfl 41 0 (by decide) (by decide) (by decide)))).trans f5
  have m107 := (Wr.neI wH101 (Or.inr (x_apart hKT hts inX10 tyX10 tyX10_ok nmX10 rfl 42 0 (by decide) (by decide) (by decide)))).trans f6
  have m108 := (Wr.neI wH101 (Or.inr (x_apart hKT hts inX10 tyX10 tyX10_ok nmX10 rfl 59 0 (by decide) (by decide) (by decide)))).trans f7
  have m109 := (Wr.neI wH101 (Or.inr (x_apart hKT hts inX10 tyX10 tyX10_ok nmX10 rfl 62 0 (by decide) (by decide) (by decide)))).trans f8
  have m110 := (Wr.neI wH101 (Or.inr (x_apart hKT hts inX10 tyX10 tyX10_ok nmX10 rfl 65 0 (by decide) (by decide) (by decide)))).trans f9
  have m111 := (Wr.neI wH101 (Or.inr (x_apart hKT hts inX10 tyX10 tyX10_ok nmX10 rfl 70 0 (by decide) (by decide) (by decide)))).trans f10
  have m112 := Wr.I wH101
  refine lv_aload_n hx hb dX10_enough_5 rfl (lv_at hl 0 rfl) ?_
  refine lv_iload_n hx hb dX10_enough_6 rfl (lv_at hl 1 rfl) ?_
  refine lv_iload_n hx hb dX10_enough_7 rfl (lv_at hl 2 rfl) ?_
  refine x_V (As := [.int x0, .int x1]) (rest := []) C (f_X10_isSlice l K G H101 (x0) (x1) hTH101 gb ⟨m102, m103, m104, m105, m106, m107, m108, m109, m110, m111⟩) yo_X10_isSlice wM_X10_181 ⟨⟨by decide, by decide⟩, by decide, by decide⟩ (x_rv C hTH101 (ci := 10) rfl gb rg_112) rfl hl.1 rfl (Nat.le_of_ble_eq_true rfl) dX10_enough_8 hSH101 (AE_sub (fun _ _ => rfl) (by decide) hSH101.1) (fun vH113 H113 locsH113 pH113 zH113 kH113 hSH113 => ?_)
  have hqH113 := pH113.1.symm
  subst hqH113
  rcases pH113.2 with ⟨hvH113, hcH113⟩ | ⟨hvH113, hcH113⟩
  · exact absurd hcH113 (fun h => h)
  subst hvH113
  refine W.eq (g2 := F0 m 11 ls [.int 0]) rfl ?_
  refine lv_if_eq (tgt := 35) hx hb dX10_enough_11 (by decide) (fun c114 => ?_) (fun c114 => ?_)
  · have k115 := i_eq c114
    refine lv_iconst (v := (-1)) hx hb dX10_enough_35 (by decide) ?_
    exact x_iret C hQ dX10_enough_36 hSH113 (by decide) (by decide) (⟨⟨(-1), rfl, by omega⟩, G, fun _ _ => rfl, hTH101⟩)
  · have k115 := i_ne c114
    exfalso
    omega

set_option maxHeartbeats 4000000 in
set_option maxRecDepth 100000 in
theorem f_X10_end (l : Launch) (K : KE) (G : Nat → Option Nat) (H : Heap) {b : Nat} (x0 : Int32) (hT : TY K G H) (gb : G b = some 112) (fx : FM K H b) : MX l K yX10_end cX10_end 2 (some .boolean) 1 23 0 0 [.ref b, .int x0] H (AE G [112] H.size) (fun v H1 => (∃ r : Int32, v = some (.int r) ∧ ((x0.toInt = 0 ∧ r.toInt = 1) ∨ (x0.toInt ≠ 0 ∧ r.toInt = 0))) ∧ ∃ G1 : Nat → Option Nat, (∀ q, q < H.size → G1 q = G q) ∧ TY K G1 H1) := by
  refine MX.of (by decide +kernel) (Nat.le_of_ble_eq_true rfl) ?_
  intro p e s m below meth c ls Q C hH hl hQ
  subst hH
  have C : CX p K s m _ meth c RX10 cX10_end 2 (some .boolean) "end" := C
  obtain ⟨hx, hb, hml, hown, hts, hKT, hr, hlocks, hnm⟩ := id C
  have hl : lv_has ls 2 [(0, .ref b), (1, .int x0)] := hl
  have hS : va_S (AE G [112] s.heap.size) s.heap s.heap [] := va_S.rf
  have n_0 : (0 : Int32).toInt = 0 := rfl
  have n_1 : (1 : Int32).toInt = 1 := rfl
  obtain ⟨f1, f2, f3, f4, f5, f6, f7, f8, f9, f10⟩ := fx
  refine lv_aload_n hx hb dX10_end_0 rfl (lv_at hl 0 rfl) ?_
  refine lv_iconst (v := 0) hx hb dX10_end_1 (by decide) ?_
  refine x_put C hT hS (ci := 10) (k := 0) (v := .int 0) (ty0 := tyX10) rfl inX10 tyX10_ok nmX10 (by decide) rfl wF_X10_167 gb rg_112 rfl rfl (okI (by have := i_rng (0 : Int32); omega) (by have := i_rng (0 : Int32); omega)) rfl rfl (AE_in gb (by decide)) dX10_end_2 (fun H101 locsH101 hTH101 hSH101 wH101 => ?_)
  have m102 := (Wr.neI wH101 (Or.inr (x_apart hKT hts inX10 tyX10 tyX10_ok nmX10 rfl 1 0 (by decide) (by decide) (by decide)))).trans f1
  have m103 := (Wr.neI wH101 (Or.inr (x_apart hKT hts inX10 tyX10 tyX10_ok nmX10 rfl 2 0 (by decide) (by decide) (by decide)))).trans f2
  have m104 := (Wr.neI wH101 (Or.inr (x_apart hKT hts inX10 tyX10 tyX10_ok nmX10 rfl 3 0 (by decide) (by decide) (by decide)))).trans f3
  have m105 := (Wr.neI wH101 (Or.inr (x_apart hKT hts inX10 tyX10 tyX10_ok nmX10 rfl 18 0 (by decide) (by decide) (by decide)))).trans f4
  have m106 := (Wr.neI wH101 (Or.inr (x_apart hKT hts inX10 tyX10 tyX10_ok nmX10 rfl 41 0 (by decide) (by decide) (by decide)))).trans f5
  have m107 := (Wr.neI wH101 (Or.inr (x_apart hKT hts inX10 tyX10 tyX10_ok nmX10 rfl 42 0 (by decide) (by decide) (by decide)))).trans f6
  have m108 := (Wr.neI wH101 (Or.inr (x_apart hKT hts inX10 tyX10 tyX10_ok nmX10 rfl 59 0 (by decide) (by decide) (by decide)))).trans f7
  have m109 := (Wr.neI wH101 (Or.inr (x_apart hKT hts inX10 tyX10 tyX10_ok nmX10 rfl 62 0 (by decide) (by decide) (by decide)))).trans f8
  have m110 := (Wr.neI wH101 (Or.inr (x_apart hKT hts inX10 tyX10 tyX10_ok nmX10 rfl 65 0 (by decide) (by decide) (by decide)))).trans f9
  have m111 := (Wr.neI wH101 (Or.inr (x_apart hKT hts inX10 tyX10 tyX10_ok nmX10 rfl 70 0 (by decide) (by decide) (by decide)))).trans f10
  have m112 := Wr.I wH101
  refine lv_aload_n hx hb dX10_end_5 rfl (lv_at hl 0 rfl) ?_
  refine lv_iload_n hx hb dX10_end_6 rfl (lv_at hl 1 rfl) ?_
  refine lv_iconst (v := 0) hx hb dX10_end_7 (by decide) ?_
  refine lv_aload_n hx hb dX10_end_8 rfl (lv_at hl 0 rfl) ?_
  refine x_gi C hTH101 (ci := 10) (k := 18) rfl inX10 (by decide) wF_X10_185 gb rg_112 rfl dX10_end_9 (fun x113 ex113 bx113 => ?_)
  have ux113 : x113 = 0 := ex113.trans m105
  subst ux113
  refine x_V (As := [.int x0, .int 0, .int 0]) (rest := []) C (c_X10_isIn l K G H101 (x0) (0) (0) hTH101 gb) yo_X10_isIn wM_X10_177 ⟨⟨by decide, by decide⟩, by decide, by decide⟩ (x_rv C hTH101 (ci := 10) rfl gb rg_112) rfl hl.1 rfl (Nat.le_of_ble_eq_true rfl) dX10_end_12 hSH101 (AE_sub (fun _ _ => rfl) (by decide) hSH101.1) (fun vH114 H114 locsH114 pH114 zH114 kH114 hSH114 => ?_)
  have hqH114 := pH114.1.symm
  subst hqH114
  rcases pH114.2 with ⟨hvH114, hcH114⟩ | ⟨hvH114, hcH114⟩
  · subst hvH114
    refine W.eq (g2 := F0 m 15 ls [.int 1]) rfl ?_
    refine lv_if_ne (tgt := 20) hx hb dX10_end_15 (by decide) (fun c115 => ?_) (fun c115 => ?_)
    · have k116 := i_ne c115
      refine lv_aload_n hx hb dX10_end_20 rfl (lv_at hl 0 rfl) ?_
      refine lv_iload_n hx hb dX10_end_21 rfl (lv_at hl 1 rfl) ?_
      refine x_put C hTH101 hSH114 (ci := 10) (k := 18) (v := .int x0) (ty0 := tyX10) rfl inX10 tyX10_ok nmX10 (by decide) rfl wF_X10_185 gb rg_112 rfl rfl (okI (by have := i_rng x0; omega) (by have := i_rng x0; omega)) rfl rfl (AE_in gb (by decide)) dX10_end_22 (fun H117 locsH117 hTH117 hSH117 wH117 => ?_)
      have m118 := (Wr.neI wH117 (Or.inr (x_apart hKT hts inX10 tyX10 tyX10_ok nmX10 rfl 1 18 (by decide) (by decide) (by decide)))).trans m102
      have m119 := (Wr.neI wH117 (Or.inr (x_apart hKT hts inX10 tyX10 tyX10_ok nmX10 rfl 2 18 (by decide) (by decide) (by decide)))).trans m103
      have m120 := (Wr.neI wH117 (Or.inr (x_apart hKT hts inX10 tyX10 tyX10_ok nmX10 rfl 3 18 (by decide) (by decide) (by decide)))).trans m104
      have m122 := (Wr.neI wH117 (Or.inr (x_apart hKT hts inX10 tyX10 tyX10_ok nmX10 rfl 41 18 (by decide) (by decide) (by decide)))).trans m106
      have m123 := (Wr.neI wH117 (Or.inr (x_apart hKT hts inX10 tyX10 tyX10_ok nmX10 rfl 42 18 (by decide) (by decide) (by decide)))).trans m107
      have m124 := (Wr.neI wH117 (Or.inr (x_apart hKT hts inX10 tyX10 tyX10_ok nmX10 rfl 59 18 (by decide) (by decide) (by decide)))).trans m108
      have m125 := (Wr.neI wH117 (Or.inr (x_apart hKT hts inX10 tyX10 tyX10_ok nmX10 rfl 62 18 (by decide) (by decide) (by decide)))).trans m109
      have m126 := (Wr.neI wH117 (Or.inr (x_apart hKT hts inX10 tyX10 tyX10_ok nmX10 rfl 65 18 (by decide) (by decide) (by decide)))).trans m110
      have m127 := (Wr.neI wH117 (Or.inr (x_apart hKT hts inX10 tyX10 tyX10_ok nmX10 rfl 70 18 (by decide) (by decide) (by decide)))).trans m111
      have m128 := (Wr.neI wH117 (Or.inr (x_apart hKT hts inX10 tyX10 tyX10_ok nmX10 rfl 0 18 (by decide) (by decide) (by decide)))).trans m112
      have m129 := Wr.I wH117
      have m129 := m129.symm
      refine lv_iconst (v := 1) hx hb dX10_end_25 (by decide) ?_
      exact x_zret C hQ (Or.inr rfl) dX10_end_26 hSH117 (by decide) (by decide) (⟨⟨1, rfl, by omega⟩, G, fun _ _ => rfl, hTH117⟩)
    · have k116 := i_eq c115
      exfalso
      omega
  · subst hvH114
    refine W.eq (g2 := F0 m 15 ls [.int 0]) rfl ?_
    refine lv_if_ne (tgt := 20) hx hb dX10_end_15 (by decide) (fun c130 => ?_) (fun c130 => ?_)
    · have k131 := i_ne c130
      exfalso
      omega
    · have k131 := i_eq c130
      refine lv_iconst (v := 0) hx hb dX10_end_18 (by decide) ?_
      exact x_zret C hQ (Or.inl rfl) dX10_end_19 hSH114 (by decide) (by decide) (⟨⟨0, rfl, by omega⟩, G, fun _ _ => rfl, hTH101⟩)

set_option maxHeartbeats 4000000 in
set_option maxRecDepth 100000 in
theorem f_X10_fault (l : Launch) (K : KE) (G : Nat → Option Nat) (H : Heap) {b : Nat} (x0 : Int32) (hT : TY K G H) (gb : G b = some 112) (fx : FM K H b) : MX l K yX10_fault cX10_fault 2 (some .int) 0 0 0 0 [.ref b, .int x0] H (AE G [112] H.size) (fun v H1 => (∃ r : Int32, v = some (.int r) ∧ ((x0.toInt = 0 ∧ r.toInt = 0) ∨ (x0.toInt ≠ 0 ∧ r.toInt = -1))) ∧ ∃ G1 : Nat → Option Nat, (∀ q, q < H.size → G1 q = G q) ∧ TY K G1 H1) := by
  refine MX.of (by decide +kernel) (Nat.le_of_ble_eq_true rfl) ?_
  intro p e s m below meth c ls Q C hH hl hQ
  subst hH
  have C : CX p K s m _ meth c RX10 cX10_fault 2 (some .int) "fault" := C
  obtain ⟨hx, hb, hml, hown, hts, hKT, hr, hlocks, hnm⟩ := id C
  have hl : lv_has ls 2 [(0, .ref b), (1, .int x0)] := hl
  have hS : va_S (AE G [112] s.heap.size) s.heap s.heap [] := va_S.rf
  have n_m1 : ((-1) : Int32).toInt = -1 := rfl
  have n_0 : (0 : Int32).toInt = 0 := rfl
  have n_1 : (1 : Int32).toInt = 1 := rfl
  obtain ⟨f1, f2, f3, f4, f5, f6, f7, f8, f9, f10⟩ := fx
  refine lv_aload_n hx hb dX10_fault_0 rfl (lv_at hl 0 rfl) ?_
  refine lv_iconst (v := 0) hx hb dX10_fault_1 (by decide) ?_
  refine x_put C hT hS (ci := 10) (k := 0) (v := .int 0) (ty0 := tyX10) rfl inX10 tyX10_ok nmX10 (by decide) rfl wF_X10_167 gb rg_112 rfl rfl (okI (by have := i_rng (0 : Int32); omega) (by have := i_rng (0 : Int32); omega)) rfl rfl (AE_in gb (by decide)) dX10_fault_2 (fun H101 locsH101 hTH101 hSH101 wH101 => ?_)
  have m102 := (Wr.neI wH101 (Or.inr (x_apart hKT hts inX10 tyX10 tyX10_ok nmX10 rfl 1 0 (by decide) (by decide) (by decide)))).trans f1
  have m103 := (Wr.neI wH101 (Or.inr (x_apart hKT hts inX10 tyX10 tyX10_ok nmX10 rfl 2 0 (by decide) (by decide) (by decide)))).trans f2
  have m104 := (Wr.neI wH101 (Or.inr (x_apart hKT hts inX10 tyX10 tyX10_ok nmX10 rfl 3 0 (by decide) (by decide) (by decide)))).trans f3
  have m105 := (Wr.neI wH101 (Or.inr (x_apart hKT hts inX10 tyX10 tyX10_ok nmX10 rfl 18 0 (by decide) (by decide) (by decide)))).trans f4
  have m106 := (Wr.neI wH101 (Or.inr (x_apart hKT hts inX10 tyX10 tyX10_ok nmX10 rfl 41 0 (by decide) (by decide) (by decide)))).trans f5
  have m107 := (Wr.neI wH101 (Or.inr (x_apart hKT hts inX10 tyX10 tyX10_ok nmX10 rfl 42 0 (by decide) (by decide) (by decide)))).trans f6
  have m108 := (Wr.neI wH101 (Or.inr (x_apart hKT hts inX10 tyX10 tyX10_ok nmX10 rfl 59 0 (by decide) (by decide) (by decide)))).trans f7
  have m109 := (Wr.neI wH101 (Or.inr (x_apart hKT hts inX10 tyX10 tyX10_ok nmX10 rfl 62 0 (by decide) (by decide) (by decide)))).trans f8
  have m110 := (Wr.neI wH101 (Or.inr (x_apart hKT hts inX10 tyX10 tyX10_ok nmX10 rfl 65 0 (by decide) (by decide) (by decide)))).trans f9
  have m111 := (Wr.neI wH101 (Or.inr (x_apart hKT hts inX10 tyX10 tyX10_ok nmX10 rfl 70 0 (by decide) (by decide) (by decide)))).trans f10
  have m112 := Wr.I wH101
  refine lv_iload_n hx hb dX10_fault_5 rfl (lv_at hl 1 rfl) ?_
  refine lv_if_ne (tgt := 16) hx hb dX10_fault_6 (by decide) (fun c113 => ?_) (fun c113 => ?_)
  · have k114 := i_ne c113
    refine lv_iload_n hx hb dX10_fault_16 rfl (lv_at hl 1 rfl) ?_
    refine lv_iconst (v := 1) hx hb dX10_fault_17 (by decide) ?_
    refine lv_icmp_ne (tgt := 28) hx hb dX10_fault_18 (by decide) (fun c115 => ?_) (fun c115 => ?_)
    · have k116 := i_ne c115
      refine lv_iconst (v := (-1)) hx hb dX10_fault_28 (by decide) ?_
      exact x_iret C hQ dX10_fault_29 hSH101 (by decide) (by decide) (⟨⟨(-1), rfl, by omega⟩, G, fun _ _ => rfl, hTH101⟩)
    · have k116 := i_eq c115
      refine lv_aload_n hx hb dX10_fault_21 rfl (lv_at hl 0 rfl) ?_
      refine x_gi C hTH101 (ci := 10) (k := 42) rfl inX10 (by decide) wF_X10_92 gb rg_112 rfl dX10_fault_22 (fun x117 ex117 bx117 => ?_)
      have ux117 : x117 = (-1) := ex117.trans m107
      subst ux117
      refine lv_goto (tgt := 29) hx hb dX10_fault_25 (by decide) ?_
      exact x_iret C hQ dX10_fault_29 hSH101 (by decide) (by decide) (⟨⟨(-1), rfl, by omega⟩, G, fun _ _ => rfl, hTH101⟩)
  · have k114 := i_eq c113
    refine lv_aload_n hx hb dX10_fault_9 rfl (lv_at hl 0 rfl) ?_
    refine x_gi C hTH101 (ci := 10) (k := 41) rfl inX10 (by decide) wF_X10_292 gb rg_112 rfl dX10_fault_10 (fun x118 ex118 bx118 => ?_)
    have ux118 : x118 = 0 := ex118.trans m106
    subst ux118
    refine lv_goto (tgt := 29) hx hb dX10_fault_13 (by decide) ?_
    exact x_iret C hQ dX10_fault_29 hSH101 (by decide) (by decide) (⟨⟨0, rfl, by omega⟩, G, fun _ _ => rfl, hTH101⟩)

set_option maxHeartbeats 4000000 in
set_option maxRecDepth 100000 in
theorem f_X10_force (l : Launch) (K : KE) (G : Nat → Option Nat) (H : Heap) {b : Nat} (x0 : Int32) (hT : TY K G H) (gb : G b = some 112) (fx : FM K H b) : MX l K yX10_force cX10_force 3 (some .int) 1 21 0 0 [.ref b, .int x0] H (AE G [112] H.size) (fun v H1 => (∃ r : Int32, v = some (.int r) ∧ ((0 ≤ x0.toInt ∧ x0.toInt ≤ 1 ∧ r.toInt = 0) ∨ (¬ (0 ≤ x0.toInt ∧ x0.toInt ≤ 1) ∧ r.toInt = -1))) ∧ ∃ G1 : Nat → Option Nat, (∀ q, q < H.size → G1 q = G q) ∧ TY K G1 H1) := by
  refine MX.of (by decide +kernel) (Nat.le_of_ble_eq_true rfl) ?_
  intro p e s m below meth c ls Q C hH hl hQ
  subst hH
  have C : CX p K s m _ meth c RX10 cX10_force 3 (some .int) "force" := C
  obtain ⟨hx, hb, hml, hown, hts, hKT, hr, hlocks, hnm⟩ := id C
  have hl : lv_has ls 3 [(0, .ref b), (1, .int x0)] := hl
  have hS : va_S (AE G [112] s.heap.size) s.heap s.heap [] := va_S.rf
  have n_m1 : ((-1) : Int32).toInt = -1 := rfl
  have n_0 : (0 : Int32).toInt = 0 := rfl
  have n_1 : (1 : Int32).toInt = 1 := rfl
  obtain ⟨f1, f2, f3, f4, f5, f6, f7, f8, f9, f10⟩ := fx
  refine lv_aload_n hx hb dX10_force_0 rfl (lv_at hl 0 rfl) ?_
  refine lv_iconst (v := 0) hx hb dX10_force_1 (by decide) ?_
  refine x_put C hT hS (ci := 10) (k := 0) (v := .int 0) (ty0 := tyX10) rfl inX10 tyX10_ok nmX10 (by decide) rfl wF_X10_167 gb rg_112 rfl rfl (okI (by have := i_rng (0 : Int32); omega) (by have := i_rng (0 : Int32); omega)) rfl rfl (AE_in gb (by decide)) dX10_force_2 (fun H101 locsH101 hTH101 hSH101 wH101 => ?_)
  have m102 := (Wr.neI wH101 (Or.inr (x_apart hKT hts inX10 tyX10 tyX10_ok nmX10 rfl 1 0 (by decide) (by decide) (by decide)))).trans f1
  have m103 := (Wr.neI wH101 (Or.inr (x_apart hKT hts inX10 tyX10 tyX10_ok nmX10 rfl 2 0 (by decide) (by decide) (by decide)))).trans f2
  have m104 := (Wr.neI wH101 (Or.inr (x_apart hKT hts inX10 tyX10 tyX10_ok nmX10 rfl 3 0 (by decide) (by decide) (by decide)))).trans f3
  have m105 := (Wr.neI wH101 (Or.inr (x_apart hKT hts inX10 tyX10 tyX10_ok nmX10 rfl 18 0 (by decide) (by decide) (by decide)))).trans f4
  have m106 := (Wr.neI wH101 (Or.inr (x_apart hKT hts inX10 tyX10 tyX10_ok nmX10 rfl 41 0 (by decide) (by decide) (by decide)))).trans f5
  have m107 := (Wr.neI wH101 (Or.inr (x_apart hKT hts inX10 tyX10 tyX10_ok nmX10 rfl 42 0 (by decide) (by decide) (by decide)))).trans f6
  have m108 := (Wr.neI wH101 (Or.inr (x_apart hKT hts inX10 tyX10 tyX10_ok nmX10 rfl 59 0 (by decide) (by decide) (by decide)))).trans f7
  have m109 := (Wr.neI wH101 (Or.inr (x_apart hKT hts inX10 tyX10 tyX10_ok nmX10 rfl 62 0 (by decide) (by decide) (by decide)))).trans f8
  have m110 := (Wr.neI wH101 (Or.inr (x_apart hKT hts inX10 tyX10 tyX10_ok nmX10 rfl 65 0 (by decide) (by decide) (by decide)))).trans f9
  have m111 := (Wr.neI wH101 (Or.inr (x_apart hKT hts inX10 tyX10 tyX10_ok nmX10 rfl 70 0 (by decide) (by decide) (by decide)))).trans f10
  have m112 := Wr.I wH101
  refine lv_aload_n hx hb dX10_force_5 rfl (lv_at hl 0 rfl) ?_
  refine lv_iload_n hx hb dX10_force_6 rfl (lv_at hl 1 rfl) ?_
  refine x_V (As := [.int x0]) (rest := []) C (c_X10_isLaw l K G H101 (x0) hTH101 gb) yo_X10_isLaw wM_X10_328 ⟨⟨by decide, by decide⟩, by decide, by decide⟩ (x_rv C hTH101 (ci := 10) rfl gb rg_112) rfl hl.1 rfl (Nat.le_of_ble_eq_true rfl) dX10_force_7 hSH101 (AE_sub (fun _ _ => rfl) (by decide) hSH101.1) (fun vH113 H113 locsH113 pH113 zH113 kH113 hSH113 => ?_)
  have hqH113 := pH113.1.symm
  subst hqH113
  rcases pH113.2 with ⟨hvH113, hcH113⟩ | ⟨hvH113, hcH113⟩
  · subst hvH113
    refine W.eq (g2 := F0 m 10 ls [.int 1]) rfl ?_
    refine lv_if_ne (tgt := 15) hx hb dX10_force_10 (by decide) (fun c114 => ?_) (fun c114 => ?_)
    · have k115 := i_ne c114
      refine lv_aload_n hx hb dX10_force_15 rfl (lv_at hl 0 rfl) ?_
      refine x_gi C hTH101 (ci := 10) (k := 2) rfl inX10 (by decide) wF_X10_322 gb rg_112 rfl dX10_force_16 (fun x116 ex116 bx116 => ?_)
      have ux116 : x116 = 0 := ex116.trans m103
      subst ux116
      refine lv_istore_n (lv' := [(2, .int 0), (0, .ref b), (1, .int x0)]) hx hb dX10_force_19 rfl hl (by decide) rfl (fun ls117 hl118 => ?_)
      refine lv_aload_n hx hb dX10_force_20 rfl (lv_at hl118 1 rfl) ?_
      refine lv_iload_n hx hb dX10_force_21 rfl (lv_at hl118 2 rfl) ?_
      refine x_put C hTH101 hSH113 (ci := 10) (k := 2) (v := .int x0) (ty0 := tyX10) rfl inX10 tyX10_ok nmX10 (by decide) rfl wF_X10_322 gb rg_112 rfl rfl (okI (by have := i_rng x0; omega) (by have := i_rng x0; omega)) rfl rfl (AE_in gb (by decide)) dX10_force_22 (fun H119 locsH119 hTH119 hSH119 wH119 => ?_)
      have m120 := (Wr.neI wH119 (Or.inr (x_apart hKT hts inX10 tyX10 tyX10_ok nmX10 rfl 1 2 (by decide) (by decide) (by decide)))).trans m102
      have m122 := (Wr.neI wH119 (Or.inr (x_apart hKT hts inX10 tyX10 tyX10_ok nmX10 rfl 3 2 (by decide) (by decide) (by decide)))).trans m104
      have m123 := (Wr.neI wH119 (Or.inr (x_apart hKT hts inX10 tyX10 tyX10_ok nmX10 rfl 18 2 (by decide) (by decide) (by decide)))).trans m105
      have m124 := (Wr.neI wH119 (Or.inr (x_apart hKT hts inX10 tyX10 tyX10_ok nmX10 rfl 41 2 (by decide) (by decide) (by decide)))).trans m106
      have m125 := (Wr.neI wH119 (Or.inr (x_apart hKT hts inX10 tyX10 tyX10_ok nmX10 rfl 42 2 (by decide) (by decide) (by decide)))).trans m107
      have m126 := (Wr.neI wH119 (Or.inr (x_apart hKT hts inX10 tyX10 tyX10_ok nmX10 rfl 59 2 (by decide) (by decide) (by decide)))).trans m108
      have m127 := (Wr.neI wH119 (Or.inr (x_apart hKT hts inX10 tyX10 tyX10_ok nmX10 rfl 62 2 (by decide) (by decide) (by decide)))).trans m109
      have m128 := (Wr.neI wH119 (Or.inr (x_apart hKT hts inX10 tyX10 tyX10_ok nmX10 rfl 65 2 (by decide) (by decide) (by decide)))).trans m110
      have m129 := (Wr.neI wH119 (Or.inr (x_apart hKT hts inX10 tyX10 tyX10_ok nmX10 rfl 70 2 (by decide) (by decide) (by decide)))).trans m111
      have m130 := (Wr.neI wH119 (Or.inr (x_apart hKT hts inX10 tyX10 tyX10_ok nmX10 rfl 0 2 (by decide) (by decide) (by decide)))).trans m112
      have m131 := Wr.I wH119
      have m131 := m131.symm
      refine lv_iload_n hx hb dX10_force_25 rfl (lv_at hl118 0 rfl) ?_
      exact x_iret C hQ dX10_force_26 hSH119 (by decide) (by decide) (⟨⟨0, rfl, by omega⟩, G, fun _ _ => rfl, hTH119⟩)
    · have k115 := i_eq c114
      exfalso
      omega
  · subst hvH113
    refine W.eq (g2 := F0 m 10 ls [.int 0]) rfl ?_
    refine lv_if_ne (tgt := 15) hx hb dX10_force_10 (by decide) (fun c132 => ?_) (fun c132 => ?_)
    · have k133 := i_ne c132
      exfalso
      omega
    · have k133 := i_eq c132
      refine lv_iconst (v := (-1)) hx hb dX10_force_13 (by decide) ?_
      exact x_iret C hQ dX10_force_14 hSH113 (by decide) (by decide) (⟨⟨(-1), rfl, by omega⟩, G, fun _ _ => rfl, hTH101⟩)

set_option maxHeartbeats 4000000 in
set_option maxRecDepth 100000 in
theorem f_X10_slack (l : Launch) (K : KE) (G : Nat → Option Nat) (H : Heap) {b : Nat} (x0 : Int32) (hT : TY K G H) (gb : G b = some 112) (fx : FM K H b) : MX l K yX10_slack cX10_slack 2 (some .boolean) 1 23 0 0 [.ref b, .int x0] H (AE G [112] H.size) (fun v H1 => (∃ r : Int32, v = some (.int r) ∧ ((0 ≤ x0.toInt ∧ x0.toInt ≤ 9999 ∧ r.toInt = 1) ∨ (¬ (0 ≤ x0.toInt ∧ x0.toInt ≤ 9999) ∧ r.toInt = 0))) ∧ ∃ G1 : Nat → Option Nat, (∀ q, q < H.size → G1 q = G q) ∧ TY K G1 H1) := by
  refine MX.of (by decide +kernel) (Nat.le_of_ble_eq_true rfl) ?_
  intro p e s m below meth c ls Q C hH hl hQ
  subst hH
  have C : CX p K s m _ meth c RX10 cX10_slack 2 (some .boolean) "slack" := C
  obtain ⟨hx, hb, hml, hown, hts, hKT, hr, hlocks, hnm⟩ := id C
  have hl : lv_has ls 2 [(0, .ref b), (1, .int x0)] := hl
  have hS : va_S (AE G [112] s.heap.size) s.heap s.heap [] := va_S.rf
  have n_0 : (0 : Int32).toInt = 0 := rfl
  have n_1 : (1 : Int32).toInt = 1 := rfl
  have n_9999 : (9999 : Int32).toInt = 9999 := rfl
  obtain ⟨f1, f2, f3, f4, f5, f6, f7, f8, f9, f10⟩ := fx
  refine lv_aload_n hx hb dX10_slack_0 rfl (lv_at hl 0 rfl) ?_
  refine lv_iconst (v := 0) hx hb dX10_slack_1 (by decide) ?_
  refine x_put C hT hS (ci := 10) (k := 0) (v := .int 0) (ty0 := tyX10) rfl inX10 tyX10_ok nmX10 (by decide) rfl wF_X10_167 gb rg_112 rfl rfl (okI (by have := i_rng (0 : Int32); omega) (by have := i_rng (0 : Int32); omega)) rfl rfl (AE_in gb (by decide)) dX10_slack_2 (fun H101 locsH101 hTH101 hSH101 wH101 => ?_)
  have m102 := (Wr.neI wH101 (Or.inr (x_apart hKT hts inX10 tyX10 tyX10_ok nmX10 rfl 1 0 (by decide) (by decide) (by decide)))).trans f1
  have m103 := (Wr.neI wH101 (Or.inr (x_apart hKT hts inX10 tyX10 tyX10_ok nmX10 rfl 2 0 (by decide) (by decide) (by decide)))).trans f2
  have m104 := (Wr.neI wH101 (Or.inr (x_apart hKT hts inX10 tyX10 tyX10_ok nmX10 rfl 3 0 (by decide) (by decide) (by decide)))).trans f3
  have m105 := (Wr.neI wH101 (Or.inr (x_apart hKT hts inX10 tyX10 tyX10_ok nmX10 rfl 18 0 (by decide) (by decide) (by decide)))).trans f4
  have m106 := (Wr.neI wH101 (Or.inr (x_apart hKT hts inX10 tyX10 tyX10_ok nmX10 rfl 41 0 (by decide) (by decide) (by decide)))).trans f5
  have m107 := (Wr.neI wH101 (Or.inr (x_apart hKT hts inX10 tyX10 tyX10_ok nmX10 rfl 42 0 (by decide) (by decide) (by decide)))).trans f6
  have m108 := (Wr.neI wH101 (Or.inr (x_apart hKT hts inX10 tyX10 tyX10_ok nmX10 rfl 59 0 (by decide) (by decide) (by decide)))).trans f7
  have m109 := (Wr.neI wH101 (Or.inr (x_apart hKT hts inX10 tyX10 tyX10_ok nmX10 rfl 62 0 (by decide) (by decide) (by decide)))).trans f8
  have m110 := (Wr.neI wH101 (Or.inr (x_apart hKT hts inX10 tyX10 tyX10_ok nmX10 rfl 65 0 (by decide) (by decide) (by decide)))).trans f9
  have m111 := (Wr.neI wH101 (Or.inr (x_apart hKT hts inX10 tyX10 tyX10_ok nmX10 rfl 70 0 (by decide) (by decide) (by decide)))).trans f10
  have m112 := Wr.I wH101
  refine lv_aload_n hx hb dX10_slack_5 rfl (lv_at hl 0 rfl) ?_
  refine lv_iload_n hx hb dX10_slack_6 rfl (lv_at hl 1 rfl) ?_
  refine lv_iconst (v := 0) hx hb dX10_slack_7 (by decide) ?_
  refine lv_sipush (v := 9999) hx hb dX10_slack_8 (by decide) ?_
  refine x_V (As := [.int x0, .int 0, .int 9999]) (rest := []) C (c_X10_isIn l K G H101 (x0) (0) (9999) hTH101 gb) yo_X10_isIn wM_X10_177 ⟨⟨by decide, by decide⟩, by decide, by decide⟩ (x_rv C hTH101 (ci := 10) rfl gb rg_112) rfl hl.1 rfl (Nat.le_of_ble_eq_true rfl) dX10_slack_11 hSH101 (AE_sub (fun _ _ => rfl) (by decide) hSH101.1) (fun vH113 H113 locsH113 pH113 zH113 kH113 hSH113 => ?_)
  have hqH113 := pH113.1.symm
  subst hqH113
  rcases pH113.2 with ⟨hvH113, hcH113⟩ | ⟨hvH113, hcH113⟩
  · subst hvH113
    refine W.eq (g2 := F0 m 14 ls [.int 1]) rfl ?_
    refine lv_if_ne (tgt := 19) hx hb dX10_slack_14 (by decide) (fun c114 => ?_) (fun c114 => ?_)
    · have k115 := i_ne c114
      refine lv_aload_n hx hb dX10_slack_19 rfl (lv_at hl 0 rfl) ?_
      refine lv_iload_n hx hb dX10_slack_20 rfl (lv_at hl 1 rfl) ?_
      refine x_put C hTH101 hSH113 (ci := 10) (k := 3) (v := .int x0) (ty0 := tyX10) rfl inX10 tyX10_ok nmX10 (by decide) rfl wF_X10_7 gb rg_112 rfl rfl (okI (by have := i_rng x0; omega) (by have := i_rng x0; omega)) rfl rfl (AE_in gb (by decide)) dX10_slack_21 (fun H116 locsH116 hTH116 hSH116 wH116 => ?_)
      have m117 := (Wr.neI wH116 (Or.inr (x_apart hKT hts inX10 tyX10 tyX10_ok nmX10 rfl 1 3 (by decide) (by decide) (by decide)))).trans m102
      have m118 := (Wr.neI wH116 (Or.inr (x_apart hKT hts inX10 tyX10 tyX10_ok nmX10 rfl 2 3 (by decide) (by decide) (by decide)))).trans m103
      have m120 := (Wr.neI wH116 (Or.inr (x_apart hKT hts inX10 tyX10 tyX10_ok nmX10 rfl 18 3 (by decide) (by decide) (by decide)))).trans m105
      have m121 := (Wr.neI wH116 (Or.inr (x_apart hKT hts inX10 tyX10 tyX10_ok nmX10 rfl 41 3 (by decide) (by decide) (by decide)))).trans m106
      have m122 := (Wr.neI wH116 (Or.inr (x_apart hKT hts inX10 tyX10 tyX10_ok nmX10 rfl 42 3 (by decide) (by decide) (by decide)))).trans m107
      have m123 := (Wr.neI wH116 (Or.inr (x_apart hKT hts inX10 tyX10 tyX10_ok nmX10 rfl 59 3 (by decide) (by decide) (by decide)))).trans m108
      have m124 := (Wr.neI wH116 (Or.inr (x_apart hKT hts inX10 tyX10 tyX10_ok nmX10 rfl 62 3 (by decide) (by decide) (by decide)))).trans m109
      have m125 := (Wr.neI wH116 (Or.inr (x_apart hKT hts inX10 tyX10 tyX10_ok nmX10 rfl 65 3 (by decide) (by decide) (by decide)))).trans m110
      have m126 := (Wr.neI wH116 (Or.inr (x_apart hKT hts inX10 tyX10 tyX10_ok nmX10 rfl 70 3 (by decide) (by decide) (by decide)))).trans m111
      have m127 := (Wr.neI wH116 (Or.inr (x_apart hKT hts inX10 tyX10 tyX10_ok nmX10 rfl 0 3 (by decide) (by decide) (by decide)))).trans m112
      have m128 := Wr.I wH116
      have m128 := m128.symm
      refine lv_iconst (v := 1) hx hb dX10_slack_24 (by decide) ?_
      exact x_zret C hQ (Or.inr rfl) dX10_slack_25 hSH116 (by decide) (by decide) (⟨⟨1, rfl, by omega⟩, G, fun _ _ => rfl, hTH116⟩)
    · have k115 := i_eq c114
      exfalso
      omega
  · subst hvH113
    refine W.eq (g2 := F0 m 14 ls [.int 0]) rfl ?_
    refine lv_if_ne (tgt := 19) hx hb dX10_slack_14 (by decide) (fun c129 => ?_) (fun c129 => ?_)
    · have k130 := i_ne c129
      exfalso
      omega
    · have k130 := i_eq c129
      refine lv_iconst (v := 0) hx hb dX10_slack_17 (by decide) ?_
      exact x_zret C hQ (Or.inl rfl) dX10_slack_18 hSH113 (by decide) (by decide) (⟨⟨0, rfl, by omega⟩, G, fun _ _ => rfl, hTH101⟩)

set_option maxHeartbeats 4000000 in
set_option maxRecDepth 100000 in
theorem f_X10_night (l : Launch) (K : KE) (G : Nat → Option Nat) (H : Heap) {b : Nat} (x0 : Int32) (x1 : Int32) (hT : TY K G H) (gb : G b = some 112) (fx : FM K H b) : MX l K yX10_night cX10_night 3 (some .int) 2 44 0 0 [.ref b, .int x0, .int x1] H (AE G [112, 154, 155] H.size) (fun v H1 => (∃ r : Int32, v = some (.int r) ∧ (((-20 ≤ x0.toInt ∧ x0.toInt ≤ 50 ∧ 0 ≤ x1.toInt ∧ x1.toInt ≤ 99) ∧ r.toInt = 0) ∨ (¬ (-20 ≤ x0.toInt ∧ x0.toInt ≤ 50 ∧ 0 ≤ x1.toInt ∧ x1.toInt ≤ 99) ∧ r.toInt = -1))) ∧ ∃ G1 : Nat → Option Nat, (∀ q, q < H.size → G1 q = G q) ∧ TY K G1 H1) := by
  refine MX.of (by decide +kernel) (Nat.le_of_ble_eq_true rfl) ?_
  intro p e s m below meth c ls Q C hH hl hQ
  subst hH
  have C : CX p K s m _ meth c RX10 cX10_night 3 (some .int) "night" := C
  obtain ⟨hx, hb, hml, hown, hts, hKT, hr, hlocks, hnm⟩ := id C
  have hl : lv_has ls 3 [(0, .ref b), (1, .int x0), (2, .int x1)] := hl
  have hS : va_S (AE G [112, 154, 155] s.heap.size) s.heap s.heap [] := va_S.rf
  have n_m1 : ((-1) : Int32).toInt = -1 := rfl
  have n_0 : (0 : Int32).toInt = 0 := rfl
  have n_1 : (1 : Int32).toInt = 1 := rfl
  have n_20 : (20 : Int32).toInt = 20 := rfl
  obtain ⟨f1, f2, f3, f4, f5, f6, f7, f8, f9, f10⟩ := fx
  refine lv_aload_n hx hb dX10_night_0 rfl (lv_at hl 0 rfl) ?_
  refine lv_iconst (v := 0) hx hb dX10_night_1 (by decide) ?_
  refine x_put C hT hS (ci := 10) (k := 0) (v := .int 0) (ty0 := tyX10) rfl inX10 tyX10_ok nmX10 (by decide) rfl wF_X10_167 gb rg_112 rfl rfl (okI (by have := i_rng (0 : Int32); omega) (by have := i_rng (0 : Int32); omega)) rfl rfl (AE_in gb (by decide)) dX10_night_2 (fun H101 locsH101 hTH101 hSH101 wH101 => ?_)
  have m102 := (Wr.neI wH101 (Or.inr (x_apart hKT hts inX10 tyX10 tyX10_ok nmX10 rfl 1 0 (by decide) (by decide) (by decide)))).trans f1
  have m103 := (Wr.neI wH101 (Or.inr (x_apart hKT hts inX10 tyX10 tyX10_ok nmX10 rfl 2 0 (by decide) (by decide) (by decide)))).trans f2
  have m104 := (Wr.neI wH101 (Or.inr (x_apart hKT hts inX10 tyX10 tyX10_ok nmX10 rfl 3 0 (by decide) (by decide) (by decide)))).trans f3
  have m105 := (Wr.neI wH101 (Or.inr (x_apart hKT hts inX10 tyX10 tyX10_ok nmX10 rfl 18 0 (by decide) (by decide) (by decide)))).trans f4
  have m106 := (Wr.neI wH101 (Or.inr (x_apart hKT hts inX10 tyX10 tyX10_ok nmX10 rfl 41 0 (by decide) (by decide) (by decide)))).trans f5
  have m107 := (Wr.neI wH101 (Or.inr (x_apart hKT hts inX10 tyX10 tyX10_ok nmX10 rfl 42 0 (by decide) (by decide) (by decide)))).trans f6
  have m108 := (Wr.neI wH101 (Or.inr (x_apart hKT hts inX10 tyX10 tyX10_ok nmX10 rfl 59 0 (by decide) (by decide) (by decide)))).trans f7
  have m109 := (Wr.neI wH101 (Or.inr (x_apart hKT hts inX10 tyX10 tyX10_ok nmX10 rfl 62 0 (by decide) (by decide) (by decide)))).trans f8
  have m110 := (Wr.neI wH101 (Or.inr (x_apart hKT hts inX10 tyX10 tyX10_ok nmX10 rfl 65 0 (by decide) (by decide) (by decide)))).trans f9
  have m111 := (Wr.neI wH101 (Or.inr (x_apart hKT hts inX10 tyX10 tyX10_ok nmX10 rfl 70 0 (by decide) (by decide) (by decide)))).trans f10
  have m112 := Wr.I wH101
  refine lv_aload_n hx hb dX10_night_5 rfl (lv_at hl 0 rfl) ?_
  refine lv_iload_n hx hb dX10_night_6 rfl (lv_at hl 1 rfl) ?_
  refine x_V (As := [.int x0]) (rest := []) C (c_X10_isHeat l K G H101 (x0) hTH101 gb) yo_X10_isHeat wM_X10_428 ⟨⟨by decide, by decide⟩, by decide, by decide⟩ (x_rv C hTH101 (ci := 10) rfl gb rg_112) rfl hl.1 rfl (Nat.le_of_ble_eq_true rfl) dX10_night_7 hSH101 (AE_sub (fun _ _ => rfl) (by decide) hSH101.1) (fun vH113 H113 locsH113 pH113 zH113 kH113 hSH113 => ?_)
  have hqH113 := pH113.1.symm
  subst hqH113
  rcases pH113.2 with ⟨hvH113, hcH113⟩ | ⟨hvH113, hcH113⟩
  · subst hvH113
    refine W.eq (g2 := F0 m 10 ls [.int 1]) rfl ?_
    refine lv_if_eq (tgt := 30) hx hb dX10_night_10 (by decide) (fun c114 => ?_) (fun c114 => ?_)
    · have k115 := i_eq c114
      exfalso
      omega
    · have k115 := i_ne c114
      refine lv_aload_n hx hb dX10_night_13 rfl (lv_at hl 0 rfl) ?_
      refine lv_iload_n hx hb dX10_night_14 rfl (lv_at hl 2 rfl) ?_
      refine x_V (As := [.int x1]) (rest := []) C (c_X10_isWet l K G H101 (x1) hTH101 gb) yo_X10_isWet wM_X10_431 ⟨⟨by decide, by decide⟩, by decide, by decide⟩ (x_rv C hTH101 (ci := 10) rfl gb rg_112) rfl hl.1 rfl (Nat.le_of_ble_eq_true rfl) dX10_night_15 hSH113 (AE_sub (fun _ _ => rfl) (by decide) hSH113.1) (fun vH116 H116 locsH116 pH116 zH116 kH116 hSH116 => ?_)
      have hqH116 := pH116.1.symm
      subst hqH116
      rcases pH116.2 with ⟨hvH116, hcH116⟩ | ⟨hvH116, hcH116⟩
      · subst hvH116
        refine W.eq (g2 := F0 m 18 ls [.int 1]) rfl ?_
        refine lv_if_eq (tgt := 30) hx hb dX10_night_18 (by decide) (fun c117 => ?_) (fun c117 => ?_)
        · have k118 := i_eq c117
          exfalso
          omega
        · have k118 := i_ne c117
          refine lv_aload_n hx hb dX10_night_21 rfl (lv_at hl 0 rfl) ?_
          refine x_gi C hTH101 (ci := 10) (k := 59) rfl inX10 (by decide) wF_X10_438 gb rg_112 rfl dX10_night_22 (fun x119 ex119 bx119 => ?_)
          have ux119 : x119 = 0 := ex119.trans m108
          subst ux119
          refine lv_bipush (v := 20) hx hb dX10_night_25 (by decide) ?_
          refine lv_icmp_ne (tgt := 32) hx hb dX10_night_27 (by decide) (fun c120 => ?_) (fun c120 => ?_)
          · have k121 := i_ne c120
            refine lv_aload_n hx hb dX10_night_32 rfl (lv_at hl 0 rfl) ?_
            refine x_gr C hTH101 (ci := 10) (k := 60) rfl inX10 (by decide) wF_X10_140 gb rg_112 rfl dX10_night_33 (fun q122 eq122 gq122 => ?_)
            refine lv_aload_n hx hb dX10_night_36 rfl (lv_at hl 0 rfl) ?_
            refine x_gi C hTH101 (ci := 10) (k := 59) rfl inX10 (by decide) wF_X10_438 gb rg_112 rfl dX10_night_37 (fun x123 ex123 bx123 => ?_)
            have ux123 : x123 = 0 := ex123.trans m108
            subst ux123
            refine lv_iload_n hx hb dX10_night_40 rfl (lv_at hl 1 rfl) ?_
            refine x_iast C hTH101 hSH116 gq122 rg_154 (by decide) (by decide) ⟨by have := i_rng x0; omega, by have := i_rng x0; omega⟩ (AE_in gq122 (by decide)) dX10_night_41 (fun H124 locsH124 hTH124 hSH124 wH124 => ?_)
            have m125 := (Wr.neI wH124 (Or.inl (G_ne gb gq122 (by decide)))).trans m102
            have m126 := (Wr.neI wH124 (Or.inl (G_ne gb gq122 (by decide)))).trans m103
            have m127 := (Wr.neI wH124 (Or.inl (G_ne gb gq122 (by decide)))).trans m104
            have m128 := (Wr.neI wH124 (Or.inl (G_ne gb gq122 (by decide)))).trans m105
            have m129 := (Wr.neI wH124 (Or.inl (G_ne gb gq122 (by decide)))).trans m106
            have m130 := (Wr.neI wH124 (Or.inl (G_ne gb gq122 (by decide)))).trans m107
            have m131 := (Wr.neI wH124 (Or.inl (G_ne gb gq122 (by decide)))).trans m108
            have m132 := (Wr.neI wH124 (Or.inl (G_ne gb gq122 (by decide)))).trans m109
            have m133 := (Wr.neI wH124 (Or.inl (G_ne gb gq122 (by decide)))).trans m110
            have m134 := (Wr.neI wH124 (Or.inl (G_ne gb gq122 (by decide)))).trans m111
            have m135 := (Wr.neI wH124 (Or.inl (G_ne gb gq122 (by decide)))).trans m112
            have m136 := eq122.trans (Wr.neR wH124 (Or.inl (G_ne gb gq122 (by decide)))).symm
            have m137 := Wr.I wH124
            have m137 := m137.symm
            refine lv_aload_n hx hb dX10_night_42 rfl (lv_at hl 0 rfl) ?_
            refine x_gr C hTH124 (ci := 10) (k := 61) rfl inX10 (by decide) wF_X10_143 gb rg_112 rfl dX10_night_43 (fun q138 eq138 gq138 => ?_)
            refine lv_aload_n hx hb dX10_night_46 rfl (lv_at hl 0 rfl) ?_
            refine x_gi C hTH124 (ci := 10) (k := 59) rfl inX10 (by decide) wF_X10_438 gb rg_112 rfl dX10_night_47 (fun x139 ex139 bx139 => ?_)
            have ux139 : x139 = 0 := ex139.trans m131
            subst ux139
            refine lv_iload_n hx hb dX10_night_50 rfl (lv_at hl 2 rfl) ?_
            refine x_iast C hTH124 hSH124 gq138 rg_155 (by decide) (by decide) ⟨by have := i_rng x1; omega, by have := i_rng x1; omega⟩ (AE_in gq138 (by decide)) dX10_night_51 (fun H140 locsH140 hTH140 hSH140 wH140 => ?_)
            have m141 := (Wr.neI wH140 (Or.inl (G_ne gb gq138 (by decide)))).trans m125
            have m142 := (Wr.neI wH140 (Or.inl (G_ne gb gq138 (by decide)))).trans m126
            have m143 := (Wr.neI wH140 (Or.inl (G_ne gb gq138 (by decide)))).trans m127
            have m144 := (Wr.neI wH140 (Or.inl (G_ne gb gq138 (by decide)))).trans m128
            have m145 := (Wr.neI wH140 (Or.inl (G_ne gb gq138 (by decide)))).trans m129
            have m146 := (Wr.neI wH140 (Or.inl (G_ne gb gq138 (by decide)))).trans m130
            have m147 := (Wr.neI wH140 (Or.inl (G_ne gb gq138 (by decide)))).trans m131
            have m148 := (Wr.neI wH140 (Or.inl (G_ne gb gq138 (by decide)))).trans m132
            have m149 := (Wr.neI wH140 (Or.inl (G_ne gb gq138 (by decide)))).trans m133
            have m150 := (Wr.neI wH140 (Or.inl (G_ne gb gq138 (by decide)))).trans m134
            have m151 := (Wr.neI wH140 (Or.inl (G_ne gb gq138 (by decide)))).trans m135
            have m152 := m136.trans (Wr.neR wH140 (Or.inl (G_ne gb gq138 (by decide)))).symm
            have m153 := m137.trans (Wr.neI wH140 (Or.inl (G_ne gq122 gq138 (by decide)))).symm
            have m154 := eq138.trans (Wr.neR wH140 (Or.inl (G_ne gb gq138 (by decide)))).symm
            have m155 := Wr.I wH140
            have m155 := m155.symm
            refine lv_aload_n hx hb dX10_night_52 rfl (lv_at hl 0 rfl) ?_
            refine lv_aload_n hx hb dX10_night_53 rfl (lv_at hl 0 rfl) ?_
            refine x_gi C hTH140 (ci := 10) (k := 59) rfl inX10 (by decide) wF_X10_438 gb rg_112 rfl dX10_night_54 (fun x156 ex156 bx156 => ?_)
            have ux156 : x156 = 0 := ex156.trans m147
            subst ux156
            refine lv_iconst (v := 1) hx hb dX10_night_57 (by decide) ?_
            refine lv_iadd hx hb dX10_night_58 ?_
            refine lv_topi (fun x157 ex157 => ?_)
            have tx157 : x157 = 1 := by rw [ex157]; rfl
            rw [tx157] at ex157 ⊢
            clear tx157 ex157
            refine x_put C hTH140 hSH140 (ci := 10) (k := 59) (v := .int 1) (ty0 := tyX10) rfl inX10 tyX10_ok nmX10 (by decide) rfl wF_X10_438 gb rg_112 rfl rfl (okI (by have := i_rng (1 : Int32); omega) (by have := i_rng (1 : Int32); omega)) rfl rfl (AE_in gb (by decide)) dX10_night_59 (fun H158 locsH158 hTH158 hSH158 wH158 => ?_)
            have m159 := (Wr.neI wH158 (Or.inr (x_apart hKT hts inX10 tyX10 tyX10_ok nmX10 rfl 1 59 (by decide) (by decide) (by decide)))).trans m141
            have m160 := (Wr.neI wH158 (Or.inr (x_apart hKT hts inX10 tyX10 tyX10_ok nmX10 rfl 2 59 (by decide) (by decide) (by decide)))).trans m142
            have m161 := (Wr.neI wH158 (Or.inr (x_apart hKT hts inX10 tyX10 tyX10_ok nmX10 rfl 3 59 (by decide) (by decide) (by decide)))).trans m143
            have m162 := (Wr.neI wH158 (Or.inr (x_apart hKT hts inX10 tyX10 tyX10_ok nmX10 rfl 18 59 (by decide) (by decide) (by decide)))).trans m144
            have m163 := (Wr.neI wH158 (Or.inr (x_apart hKT hts inX10 tyX10 tyX10_ok nmX10 rfl 41 59 (by decide) (by decide) (by decide)))).trans m145
            have m164 := (Wr.neI wH158 (Or.inr (x_apart hKT hts inX10 tyX10 tyX10_ok nmX10 rfl 42 59 (by decide) (by decide) (by decide)))).trans m146
            have m166 := (Wr.neI wH158 (Or.inr (x_apart hKT hts inX10 tyX10 tyX10_ok nmX10 rfl 62 59 (by decide) (by decide) (by decide)))).trans m148
            have m167 := (Wr.neI wH158 (Or.inr (x_apart hKT hts inX10 tyX10 tyX10_ok nmX10 rfl 65 59 (by decide) (by decide) (by decide)))).trans m149
            have m168 := (Wr.neI wH158 (Or.inr (x_apart hKT hts inX10 tyX10 tyX10_ok nmX10 rfl 70 59 (by decide) (by decide) (by decide)))).trans m150
            have m169 := (Wr.neI wH158 (Or.inr (x_apart hKT hts inX10 tyX10 tyX10_ok nmX10 rfl 0 59 (by decide) (by decide) (by decide)))).trans m151
            have m170 := m152.trans (Wr.neR wH158 (Or.inr (x_apart hKT hts inX10 tyX10 tyX10_ok nmX10 rfl 60 59 (by decide) (by decide) (by decide)))).symm
            have m171 := m153.trans (Wr.neI wH158 (Or.inl (G_ne gq122 gb (by decide)))).symm
            have m172 := m154.trans (Wr.neR wH158 (Or.inr (x_apart hKT hts inX10 tyX10 tyX10_ok nmX10 rfl 61 59 (by decide) (by decide) (by decide)))).symm
            have m173 := m155.trans (Wr.neI wH158 (Or.inl (G_ne gq138 gb (by decide)))).symm
            have m174 := Wr.I wH158
            refine lv_aload_n hx hb dX10_night_62 rfl (lv_at hl 0 rfl) ?_
            refine x_gi C hTH158 (ci := 10) (k := 59) rfl inX10 (by decide) wF_X10_438 gb rg_112 rfl dX10_night_63 (fun x175 ex175 bx175 => ?_)
            have ux175 : x175 = 1 := ex175.trans m174
            subst ux175
            refine lv_iconst (v := 1) hx hb dX10_night_66 (by decide) ?_
            refine lv_isub hx hb dX10_night_67 ?_
            refine lv_topi (fun x176 ex176 => ?_)
            have tx176 : x176 = 0 := by rw [ex176]; rfl
            rw [tx176] at ex176 ⊢
            clear tx176 ex176
            exact x_iret C hQ dX10_night_68 hSH158 (by decide) (by decide) (⟨⟨0, rfl, by omega⟩, G, fun _ _ => rfl, hTH158⟩)
          · have k121 := i_eq c120
            exfalso
            omega
      · subst hvH116
        refine W.eq (g2 := F0 m 18 ls [.int 0]) rfl ?_
        refine lv_if_eq (tgt := 30) hx hb dX10_night_18 (by decide) (fun c177 => ?_) (fun c177 => ?_)
        · have k178 := i_eq c177
          refine lv_iconst (v := (-1)) hx hb dX10_night_30 (by decide) ?_
          exact x_iret C hQ dX10_night_31 hSH116 (by decide) (by decide) (⟨⟨(-1), rfl, by omega⟩, G, fun _ _ => rfl, hTH101⟩)
        · have k178 := i_ne c177
          exfalso
          omega
  · subst hvH113
    refine W.eq (g2 := F0 m 10 ls [.int 0]) rfl ?_
    refine lv_if_eq (tgt := 30) hx hb dX10_night_10 (by decide) (fun c179 => ?_) (fun c179 => ?_)
    · have k180 := i_eq c179
      refine lv_iconst (v := (-1)) hx hb dX10_night_30 (by decide) ?_
      exact x_iret C hQ dX10_night_31 hSH113 (by decide) (by decide) (⟨⟨(-1), rfl, by omega⟩, G, fun _ _ => rfl, hTH101⟩)
    · have k180 := i_ne c179
      exfalso
      omega

set_option maxHeartbeats 4000000 in
set_option maxRecDepth 100000 in
theorem f_X10_note (l : Launch) (K : KE) (G : Nat → Option Nat) (H : Heap) {b : Nat} (x0 : Int32) (x1 : Int32) (hT : TY K G H) (gb : G b = some 112) (fx : FM K H b) : MX l K yX10_note cX10_note 3 (some .int) 1 23 0 0 [.ref b, .int x0, .int x1] H (AE G [112, 156, 157] H.size) (fun v H1 => (∃ r : Int32, v = some (.int r) ∧ (((1 ≤ x0.toInt ∧ x0.toInt ≤ 999999 ∧ 1 ≤ x1.toInt ∧ x1.toInt ≤ 99) ∧ r.toInt = 0) ∨ (¬ (1 ≤ x0.toInt ∧ x0.toInt ≤ 999999 ∧ 1 ≤ x1.toInt ∧ x1.toInt ≤ 99) ∧ r.toInt = -1))) ∧ ∃ G1 : Nat → Option Nat, (∀ q, q < H.size → G1 q = G q) ∧ TY K G1 H1) := by
  refine MX.of (by decide +kernel) (Nat.le_of_ble_eq_true rfl) ?_
  intro p e s m below meth c ls Q C hH hl hQ
  subst hH
  have C : CX p K s m _ meth c RX10 cX10_note 3 (some .int) "note" := C
  obtain ⟨hx, hb, hml, hown, hts, hKT, hr, hlocks, hnm⟩ := id C
  have hl : lv_has ls 3 [(0, .ref b), (1, .int x0), (2, .int x1)] := hl
  have hS : va_S (AE G [112, 156, 157] s.heap.size) s.heap s.heap [] := va_S.rf
  have n_m1 : ((-1) : Int32).toInt = -1 := rfl
  have n_0 : (0 : Int32).toInt = 0 := rfl
  have n_1 : (1 : Int32).toInt = 1 := rfl
  have n_8 : (8 : Int32).toInt = 8 := rfl
  have n_99 : (99 : Int32).toInt = 99 := rfl
  have n_999999 : (999999 : Int32).toInt = 999999 := rfl
  obtain ⟨f1, f2, f3, f4, f5, f6, f7, f8, f9, f10⟩ := fx
  refine lv_aload_n hx hb dX10_note_0 rfl (lv_at hl 0 rfl) ?_
  refine lv_iconst (v := 0) hx hb dX10_note_1 (by decide) ?_
  refine x_put C hT hS (ci := 10) (k := 0) (v := .int 0) (ty0 := tyX10) rfl inX10 tyX10_ok nmX10 (by decide) rfl wF_X10_167 gb rg_112 rfl rfl (okI (by have := i_rng (0 : Int32); omega) (by have := i_rng (0 : Int32); omega)) rfl rfl (AE_in gb (by decide)) dX10_note_2 (fun H101 locsH101 hTH101 hSH101 wH101 => ?_)
  have m102 := (Wr.neI wH101 (Or.inr (x_apart hKT hts inX10 tyX10 tyX10_ok nmX10 rfl 1 0 (by decide) (by decide) (by decide)))).trans f1
  have m103 := (Wr.neI wH101 (Or.inr (x_apart hKT hts inX10 tyX10 tyX10_ok nmX10 rfl 2 0 (by decide) (by decide) (by decide)))).trans f2
  have m104 := (Wr.neI wH101 (Or.inr (x_apart hKT hts inX10 tyX10 tyX10_ok nmX10 rfl 3 0 (by decide) (by decide) (by decide)))).trans f3
  have m105 := (Wr.neI wH101 (Or.inr (x_apart hKT hts inX10 tyX10 tyX10_ok nmX10 rfl 18 0 (by decide) (by decide) (by decide)))).trans f4
  have m106 := (Wr.neI wH101 (Or.inr (x_apart hKT hts inX10 tyX10 tyX10_ok nmX10 rfl 41 0 (by decide) (by decide) (by decide)))).trans f5
  have m107 := (Wr.neI wH101 (Or.inr (x_apart hKT hts inX10 tyX10 tyX10_ok nmX10 rfl 42 0 (by decide) (by decide) (by decide)))).trans f6
  have m108 := (Wr.neI wH101 (Or.inr (x_apart hKT hts inX10 tyX10 tyX10_ok nmX10 rfl 59 0 (by decide) (by decide) (by decide)))).trans f7
  have m109 := (Wr.neI wH101 (Or.inr (x_apart hKT hts inX10 tyX10 tyX10_ok nmX10 rfl 62 0 (by decide) (by decide) (by decide)))).trans f8
  have m110 := (Wr.neI wH101 (Or.inr (x_apart hKT hts inX10 tyX10 tyX10_ok nmX10 rfl 65 0 (by decide) (by decide) (by decide)))).trans f9
  have m111 := (Wr.neI wH101 (Or.inr (x_apart hKT hts inX10 tyX10 tyX10_ok nmX10 rfl 70 0 (by decide) (by decide) (by decide)))).trans f10
  have m112 := Wr.I wH101
  refine lv_aload_n hx hb dX10_note_5 rfl (lv_at hl 0 rfl) ?_
  refine lv_iload_n hx hb dX10_note_6 rfl (lv_at hl 1 rfl) ?_
  refine lv_iconst (v := 1) hx hb dX10_note_7 (by decide) ?_
  refine lv_ldcw (v := 999999) hx hb hown (hts _ wK_X10_348) dX10_note_8 ?_
  refine x_V (As := [.int x0, .int 1, .int 999999]) (rest := []) C (c_X10_isIn l K G H101 (x0) (1) (999999) hTH101 gb) yo_X10_isIn wM_X10_177 ⟨⟨by decide, by decide⟩, by decide, by decide⟩ (x_rv C hTH101 (ci := 10) rfl gb rg_112) rfl hl.1 rfl (Nat.le_of_ble_eq_true rfl) dX10_note_11 hSH101 (AE_sub (fun _ _ => rfl) (by decide) hSH101.1) (fun vH113 H113 locsH113 pH113 zH113 kH113 hSH113 => ?_)
  have hqH113 := pH113.1.symm
  subst hqH113
  rcases pH113.2 with ⟨hvH113, hcH113⟩ | ⟨hvH113, hcH113⟩
  · subst hvH113
    refine W.eq (g2 := F0 m 14 ls [.int 1]) rfl ?_
    refine lv_if_eq (tgt := 37) hx hb dX10_note_14 (by decide) (fun c114 => ?_) (fun c114 => ?_)
    · have k115 := i_eq c114
      exfalso
      omega
    · have k115 := i_ne c114
      refine lv_aload_n hx hb dX10_note_17 rfl (lv_at hl 0 rfl) ?_
      refine lv_iload_n hx hb dX10_note_18 rfl (lv_at hl 2 rfl) ?_
      refine lv_iconst (v := 1) hx hb dX10_note_19 (by decide) ?_
      refine lv_bipush (v := 99) hx hb dX10_note_20 (by decide) ?_
      refine x_V (As := [.int x1, .int 1, .int 99]) (rest := []) C (c_X10_isIn l K G H101 (x1) (1) (99) hTH101 gb) yo_X10_isIn wM_X10_177 ⟨⟨by decide, by decide⟩, by decide, by decide⟩ (x_rv C hTH101 (ci := 10) rfl gb rg_112) rfl hl.1 rfl (Nat.le_of_ble_eq_true rfl) dX10_note_22 hSH113 (AE_sub (fun _ _ => rfl) (by decide) hSH113.1) (fun vH116 H116 locsH116 pH116 zH116 kH116 hSH116 => ?_)
      have hqH116 := pH116.1.symm
      subst hqH116
      rcases pH116.2 with ⟨hvH116, hcH116⟩ | ⟨hvH116, hcH116⟩
      · subst hvH116
        refine W.eq (g2 := F0 m 25 ls [.int 1]) rfl ?_
        refine lv_if_eq (tgt := 37) hx hb dX10_note_25 (by decide) (fun c117 => ?_) (fun c117 => ?_)
        · have k118 := i_eq c117
          exfalso
          omega
        · have k118 := i_ne c117
          refine lv_aload_n hx hb dX10_note_28 rfl (lv_at hl 0 rfl) ?_
          refine x_gi C hTH101 (ci := 10) (k := 62) rfl inX10 (by decide) wF_X10_455 gb rg_112 rfl dX10_note_29 (fun x119 ex119 bx119 => ?_)
          have ux119 : x119 = 0 := ex119.trans m109
          subst ux119
          refine lv_bipush (v := 8) hx hb dX10_note_32 (by decide) ?_
          refine lv_icmp_ne (tgt := 39) hx hb dX10_note_34 (by decide) (fun c120 => ?_) (fun c120 => ?_)
          · have k121 := i_ne c120
            refine lv_aload_n hx hb dX10_note_39 rfl (lv_at hl 0 rfl) ?_
            refine x_gr C hTH101 (ci := 10) (k := 63) rfl inX10 (by decide) wF_X10_146 gb rg_112 rfl dX10_note_40 (fun q122 eq122 gq122 => ?_)
            refine lv_aload_n hx hb dX10_note_43 rfl (lv_at hl 0 rfl) ?_
            refine x_gi C hTH101 (ci := 10) (k := 62) rfl inX10 (by decide) wF_X10_455 gb rg_112 rfl dX10_note_44 (fun x123 ex123 bx123 => ?_)
            have ux123 : x123 = 0 := ex123.trans m109
            subst ux123
            refine lv_iload_n hx hb dX10_note_47 rfl (lv_at hl 1 rfl) ?_
            refine x_iast C hTH101 hSH116 gq122 rg_156 (by decide) (by decide) ⟨by have := i_rng x0; omega, by have := i_rng x0; omega⟩ (AE_in gq122 (by decide)) dX10_note_48 (fun H124 locsH124 hTH124 hSH124 wH124 => ?_)
            have m125 := (Wr.neI wH124 (Or.inl (G_ne gb gq122 (by decide)))).trans m102
            have m126 := (Wr.neI wH124 (Or.inl (G_ne gb gq122 (by decide)))).trans m103
            have m127 := (Wr.neI wH124 (Or.inl (G_ne gb gq122 (by decide)))).trans m104
            have m128 := (Wr.neI wH124 (Or.inl (G_ne gb gq122 (by decide)))).trans m105
            have m129 := (Wr.neI wH124 (Or.inl (G_ne gb gq122 (by decide)))).trans m106
            have m130 := (Wr.neI wH124 (Or.inl (G_ne gb gq122 (by decide)))).trans m107
            have m131 := (Wr.neI wH124 (Or.inl (G_ne gb gq122 (by decide)))).trans m108
            have m132 := (Wr.neI wH124 (Or.inl (G_ne gb gq122 (by decide)))).trans m109
            have m133 := (Wr.neI wH124 (Or.inl (G_ne gb gq122 (by decide)))).trans m110
            have m134 := (Wr.neI wH124 (Or.inl (G_ne gb gq122 (by decide)))).trans m111
            have m135 := (Wr.neI wH124 (Or.inl (G_ne gb gq122 (by decide)))).trans m112
            have m136 := eq122.trans (Wr.neR wH124 (Or.inl (G_ne gb gq122 (by decide)))).symm
            have m137 := Wr.I wH124
            have m137 := m137.symm
            refine lv_aload_n hx hb dX10_note_49 rfl (lv_at hl 0 rfl) ?_
            refine x_gr C hTH124 (ci := 10) (k := 64) rfl inX10 (by decide) wF_X10_149 gb rg_112 rfl dX10_note_50 (fun q138 eq138 gq138 => ?_)
            refine lv_aload_n hx hb dX10_note_53 rfl (lv_at hl 0 rfl) ?_
            refine x_gi C hTH124 (ci := 10) (k := 62) rfl inX10 (by decide) wF_X10_455 gb rg_112 rfl dX10_note_54 (fun x139 ex139 bx139 => ?_)
            have ux139 : x139 = 0 := ex139.trans m132
            subst ux139
            refine lv_iload_n hx hb dX10_note_57 rfl (lv_at hl 2 rfl) ?_
            refine x_iast C hTH124 hSH124 gq138 rg_157 (by decide) (by decide) ⟨by have := i_rng x1; omega, by have := i_rng x1; omega⟩ (AE_in gq138 (by decide)) dX10_note_58 (fun H140 locsH140 hTH140 hSH140 wH140 => ?_)
            have m141 := (Wr.neI wH140 (Or.inl (G_ne gb gq138 (by decide)))).trans m125
            have m142 := (Wr.neI wH140 (Or.inl (G_ne gb gq138 (by decide)))).trans m126
            have m143 := (Wr.neI wH140 (Or.inl (G_ne gb gq138 (by decide)))).trans m127
            have m144 := (Wr.neI wH140 (Or.inl (G_ne gb gq138 (by decide)))).trans m128
            have m145 := (Wr.neI wH140 (Or.inl (G_ne gb gq138 (by decide)))).trans m129
            have m146 := (Wr.neI wH140 (Or.inl (G_ne gb gq138 (by decide)))).trans m130
            have m147 := (Wr.neI wH140 (Or.inl (G_ne gb gq138 (by decide)))).trans m131
            have m148 := (Wr.neI wH140 (Or.inl (G_ne gb gq138 (by decide)))).trans m132
            have m149 := (Wr.neI wH140 (Or.inl (G_ne gb gq138 (by decide)))).trans m133
            have m150 := (Wr.neI wH140 (Or.inl (G_ne gb gq138 (by decide)))).trans m134
            have m151 := (Wr.neI wH140 (Or.inl (G_ne gb gq138 (by decide)))).trans m135
            have m152 := m136.trans (Wr.neR wH140 (Or.inl (G_ne gb gq138 (by decide)))).symm
            have m153 := m137.trans (Wr.neI wH140 (Or.inl (G_ne gq122 gq138 (by decide)))).symm
            have m154 := eq138.trans (Wr.neR wH140 (Or.inl (G_ne gb gq138 (by decide)))).symm
            have m155 := Wr.I wH140
            have m155 := m155.symm
            refine lv_aload_n hx hb dX10_note_59 rfl (lv_at hl 0 rfl) ?_
            refine lv_aload_n hx hb dX10_note_60 rfl (lv_at hl 0 rfl) ?_
            refine x_gi C hTH140 (ci := 10) (k := 62) rfl inX10 (by decide) wF_X10_455 gb rg_112 rfl dX10_note_61 (fun x156 ex156 bx156 => ?_)
            have ux156 : x156 = 0 := ex156.trans m148
            subst ux156
            refine lv_iconst (v := 1) hx hb dX10_note_64 (by decide) ?_
            refine lv_iadd hx hb dX10_note_65 ?_
            refine lv_topi (fun x157 ex157 => ?_)
            have tx157 : x157 = 1 := by rw [ex157]; rfl
            rw [tx157] at ex157 ⊢
            clear tx157 ex157
            refine x_put C hTH140 hSH140 (ci := 10) (k := 62) (v := .int 1) (ty0 := tyX10) rfl inX10 tyX10_ok nmX10 (by decide) rfl wF_X10_455 gb rg_112 rfl rfl (okI (by have := i_rng (1 : Int32); omega) (by have := i_rng (1 : Int32); omega)) rfl rfl (AE_in gb (by decide)) dX10_note_66 (fun H158 locsH158 hTH158 hSH158 wH158 => ?_)
            have m159 := (Wr.neI wH158 (Or.inr (x_apart hKT hts inX10 tyX10 tyX10_ok nmX10 rfl 1 62 (by decide) (by decide) (by decide)))).trans m141
            have m160 := (Wr.neI wH158 (Or.inr (x_apart hKT hts inX10 tyX10 tyX10_ok nmX10 rfl 2 62 (by decide) (by decide) (by decide)))).trans m142
            have m161 := (Wr.neI wH158 (Or.inr (x_apart hKT hts inX10 tyX10 tyX10_ok nmX10 rfl 3 62 (by decide) (by decide) (by decide)))).trans m143
            have m162 := (Wr.neI wH158 (Or.inr (x_apart hKT hts inX10 tyX10 tyX10_ok nmX10 rfl 18 62 (by decide) (by decide) (by decide)))).trans m144
            have m163 := (Wr.neI wH158 (Or.inr (x_apart hKT hts inX10 tyX10 tyX10_ok nmX10 rfl 41 62 (by decide) (by decide) (by decide)))).trans m145
            have m164 := (Wr.neI wH158 (Or.inr (x_apart hKT hts inX10 tyX10 tyX10_ok nmX10 rfl 42 62 (by decide) (by decide) (by decide)))).trans m146
            have m165 := (Wr.neI wH158 (Or.inr (x_apart hKT hts inX10 tyX10 tyX10_ok nmX10 rfl 59 62 (by decide) (by decide) (by decide)))).trans m147
            have m167 := (Wr.neI wH158 (Or.inr (x_apart hKT hts inX10 tyX10 tyX10_ok nmX10 rfl 65 62 (by decide) (by decide) (by decide)))).trans m149
            have m168 := (Wr.neI wH158 (Or.inr (x_apart hKT hts inX10 tyX10 tyX10_ok nmX10 rfl 70 62 (by decide) (by decide) (by decide)))).trans m150
            have m169 := (Wr.neI wH158 (Or.inr (x_apart hKT hts inX10 tyX10 tyX10_ok nmX10 rfl 0 62 (by decide) (by decide) (by decide)))).trans m151
            have m170 := m152.trans (Wr.neR wH158 (Or.inr (x_apart hKT hts inX10 tyX10 tyX10_ok nmX10 rfl 63 62 (by decide) (by decide) (by decide)))).symm
            have m171 := m153.trans (Wr.neI wH158 (Or.inl (G_ne gq122 gb (by decide)))).symm
            have m172 := m154.trans (Wr.neR wH158 (Or.inr (x_apart hKT hts inX10 tyX10 tyX10_ok nmX10 rfl 64 62 (by decide) (by decide) (by decide)))).symm
            have m173 := m155.trans (Wr.neI wH158 (Or.inl (G_ne gq138 gb (by decide)))).symm
            have m174 := Wr.I wH158
            refine lv_aload_n hx hb dX10_note_69 rfl (lv_at hl 0 rfl) ?_
            refine x_gi C hTH158 (ci := 10) (k := 62) rfl inX10 (by decide) wF_X10_455 gb rg_112 rfl dX10_note_70 (fun x175 ex175 bx175 => ?_)
            have ux175 : x175 = 1 := ex175.trans m174
            subst ux175
            refine lv_iconst (v := 1) hx hb dX10_note_73 (by decide) ?_
            refine lv_isub hx hb dX10_note_74 ?_
            refine lv_topi (fun x176 ex176 => ?_)
            have tx176 : x176 = 0 := by rw [ex176]; rfl
            rw [tx176] at ex176 ⊢
            clear tx176 ex176
            exact x_iret C hQ dX10_note_75 hSH158 (by decide) (by decide) (⟨⟨0, rfl, by omega⟩, G, fun _ _ => rfl, hTH158⟩)
          · have k121 := i_eq c120
            exfalso
            omega
      · subst hvH116
        refine W.eq (g2 := F0 m 25 ls [.int 0]) rfl ?_
        refine lv_if_eq (tgt := 37) hx hb dX10_note_25 (by decide) (fun c177 => ?_) (fun c177 => ?_)
        · have k178 := i_eq c177
          refine lv_iconst (v := (-1)) hx hb dX10_note_37 (by decide) ?_
          exact x_iret C hQ dX10_note_38 hSH116 (by decide) (by decide) (⟨⟨(-1), rfl, by omega⟩, G, fun _ _ => rfl, hTH101⟩)
        · have k178 := i_ne c177
          exfalso
          omega
  · subst hvH113
    refine W.eq (g2 := F0 m 14 ls [.int 0]) rfl ?_
    refine lv_if_eq (tgt := 37) hx hb dX10_note_14 (by decide) (fun c179 => ?_) (fun c179 => ?_)
    · have k180 := i_eq c179
      refine lv_iconst (v := (-1)) hx hb dX10_note_37 (by decide) ?_
      exact x_iret C hQ dX10_note_38 hSH113 (by decide) (by decide) (⟨⟨(-1), rfl, by omega⟩, G, fun _ _ => rfl, hTH101⟩)
    · have k180 := i_ne c179
      exfalso
      omega

set_option maxHeartbeats 4000000 in
set_option maxRecDepth 100000 in
theorem f_X10_blank (l : Launch) (K : KE) (G : Nat → Option Nat) (H : Heap) {b : Nat} (x0 : Int32) (x1 : Int32) (hT : TY K G H) (gb : G b = some 112) (fx : FM K H b) : MX l K yX10_blank cX10_blank 3 (some .int) 1 23 0 0 [.ref b, .int x0, .int x1] H (AE G [112, 158, 159] H.size) (fun v H1 => (∃ r : Int32, v = some (.int r) ∧ (((1 ≤ x0.toInt ∧ x0.toInt ≤ 99 ∧ 0 ≤ x1.toInt ∧ x1.toInt ≤ 99) ∧ r.toInt = 0) ∨ (¬ (1 ≤ x0.toInt ∧ x0.toInt ≤ 99 ∧ 0 ≤ x1.toInt ∧ x1.toInt ≤ 99) ∧ r.toInt = -1))) ∧ ∃ G1 : Nat → Option Nat, (∀ q, q < H.size → G1 q = G q) ∧ TY K G1 H1) := by
  refine MX.of (by decide +kernel) (Nat.le_of_ble_eq_true rfl) ?_
  intro p e s m below meth c ls Q C hH hl hQ
  subst hH
  have C : CX p K s m _ meth c RX10 cX10_blank 3 (some .int) "blank" := C
  obtain ⟨hx, hb, hml, hown, hts, hKT, hr, hlocks, hnm⟩ := id C
  have hl : lv_has ls 3 [(0, .ref b), (1, .int x0), (2, .int x1)] := hl
  have hS : va_S (AE G [112, 158, 159] s.heap.size) s.heap s.heap [] := va_S.rf
  have n_m1 : ((-1) : Int32).toInt = -1 := rfl
  have n_0 : (0 : Int32).toInt = 0 := rfl
  have n_1 : (1 : Int32).toInt = 1 := rfl
  have n_8 : (8 : Int32).toInt = 8 := rfl
  have n_99 : (99 : Int32).toInt = 99 := rfl
  obtain ⟨f1, f2, f3, f4, f5, f6, f7, f8, f9, f10⟩ := fx
  refine lv_aload_n hx hb dX10_blank_0 rfl (lv_at hl 0 rfl) ?_
  refine lv_iconst (v := 0) hx hb dX10_blank_1 (by decide) ?_
  refine x_put C hT hS (ci := 10) (k := 0) (v := .int 0) (ty0 := tyX10) rfl inX10 tyX10_ok nmX10 (by decide) rfl wF_X10_167 gb rg_112 rfl rfl (okI (by have := i_rng (0 : Int32); omega) (by have := i_rng (0 : Int32); omega)) rfl rfl (AE_in gb (by decide)) dX10_blank_2 (fun H101 locsH101 hTH101 hSH101 wH101 => ?_)
  have m102 := (Wr.neI wH101 (Or.inr (x_apart hKT hts inX10 tyX10 tyX10_ok nmX10 rfl 1 0 (by decide) (by decide) (by decide)))).trans f1
  have m103 := (Wr.neI wH101 (Or.inr (x_apart hKT hts inX10 tyX10 tyX10_ok nmX10 rfl 2 0 (by decide) (by decide) (by decide)))).trans f2
  have m104 := (Wr.neI wH101 (Or.inr (x_apart hKT hts inX10 tyX10 tyX10_ok nmX10 rfl 3 0 (by decide) (by decide) (by decide)))).trans f3
  have m105 := (Wr.neI wH101 (Or.inr (x_apart hKT hts inX10 tyX10 tyX10_ok nmX10 rfl 18 0 (by decide) (by decide) (by decide)))).trans f4
  have m106 := (Wr.neI wH101 (Or.inr (x_apart hKT hts inX10 tyX10 tyX10_ok nmX10 rfl 41 0 (by decide) (by decide) (by decide)))).trans f5
  have m107 := (Wr.neI wH101 (Or.inr (x_apart hKT hts inX10 tyX10 tyX10_ok nmX10 rfl 42 0 (by decide) (by decide) (by decide)))).trans f6
  have m108 := (Wr.neI wH101 (Or.inr (x_apart hKT hts inX10 tyX10 tyX10_ok nmX10 rfl 59 0 (by decide) (by decide) (by decide)))).trans f7
  have m109 := (Wr.neI wH101 (Or.inr (x_apart hKT hts inX10 tyX10 tyX10_ok nmX10 rfl 62 0 (by decide) (by decide) (by decide)))).trans f8
  have m110 := (Wr.neI wH101 (Or.inr (x_apart hKT hts inX10 tyX10 tyX10_ok nmX10 rfl 65 0 (by decide) (by decide) (by decide)))).trans f9
  have m111 := (Wr.neI wH101 (Or.inr (x_apart hKT hts inX10 tyX10 tyX10_ok nmX10 rfl 70 0 (by decide) (by decide) (by decide)))).trans f10
  have m112 := Wr.I wH101
  refine lv_aload_n hx hb dX10_blank_5 rfl (lv_at hl 0 rfl) ?_
  refine lv_iload_n hx hb dX10_blank_6 rfl (lv_at hl 1 rfl) ?_
  refine lv_iconst (v := 1) hx hb dX10_blank_7 (by decide) ?_
  refine lv_bipush (v := 99) hx hb dX10_blank_8 (by decide) ?_
  refine x_V (As := [.int x0, .int 1, .int 99]) (rest := []) C (c_X10_isIn l K G H101 (x0) (1) (99) hTH101 gb) yo_X10_isIn wM_X10_177 ⟨⟨by decide, by decide⟩, by decide, by decide⟩ (x_rv C hTH101 (ci := 10) rfl gb rg_112) rfl hl.1 rfl (Nat.le_of_ble_eq_true rfl) dX10_blank_10 hSH101 (AE_sub (fun _ _ => rfl) (by decide) hSH101.1) (fun vH113 H113 locsH113 pH113 zH113 kH113 hSH113 => ?_)
  have hqH113 := pH113.1.symm
  subst hqH113
  rcases pH113.2 with ⟨hvH113, hcH113⟩ | ⟨hvH113, hcH113⟩
  · subst hvH113
    refine W.eq (g2 := F0 m 13 ls [.int 1]) rfl ?_
    refine lv_if_eq (tgt := 36) hx hb dX10_blank_13 (by decide) (fun c114 => ?_) (fun c114 => ?_)
    · have k115 := i_eq c114
      exfalso
      omega
    · have k115 := i_ne c114
      refine lv_aload_n hx hb dX10_blank_16 rfl (lv_at hl 0 rfl) ?_
      refine lv_iload_n hx hb dX10_blank_17 rfl (lv_at hl 2 rfl) ?_
      refine lv_iconst (v := 0) hx hb dX10_blank_18 (by decide) ?_
      refine lv_bipush (v := 99) hx hb dX10_blank_19 (by decide) ?_
      refine x_V (As := [.int x1, .int 0, .int 99]) (rest := []) C (c_X10_isIn l K G H101 (x1) (0) (99) hTH101 gb) yo_X10_isIn wM_X10_177 ⟨⟨by decide, by decide⟩, by decide, by decide⟩ (x_rv C hTH101 (ci := 10) rfl gb rg_112) rfl hl.1 rfl (Nat.le_of_ble_eq_true rfl) dX10_blank_21 hSH113 (AE_sub (fun _ _ => rfl) (by decide) hSH113.1) (fun vH116 H116 locsH116 pH116 zH116 kH116 hSH116 => ?_)
      have hqH116 := pH116.1.symm
      subst hqH116
      rcases pH116.2 with ⟨hvH116, hcH116⟩ | ⟨hvH116, hcH116⟩
      · subst hvH116
        refine W.eq (g2 := F0 m 24 ls [.int 1]) rfl ?_
        refine lv_if_eq (tgt := 36) hx hb dX10_blank_24 (by decide) (fun c117 => ?_) (fun c117 => ?_)
        · have k118 := i_eq c117
          exfalso
          omega
        · have k118 := i_ne c117
          refine lv_aload_n hx hb dX10_blank_27 rfl (lv_at hl 0 rfl) ?_
          refine x_gi C hTH101 (ci := 10) (k := 65) rfl inX10 (by decide) wF_X10_458 gb rg_112 rfl dX10_blank_28 (fun x119 ex119 bx119 => ?_)
          have ux119 : x119 = 0 := ex119.trans m110
          subst ux119
          refine lv_bipush (v := 8) hx hb dX10_blank_31 (by decide) ?_
          refine lv_icmp_ne (tgt := 38) hx hb dX10_blank_33 (by decide) (fun c120 => ?_) (fun c120 => ?_)
          · have k121 := i_ne c120
            refine lv_aload_n hx hb dX10_blank_38 rfl (lv_at hl 0 rfl) ?_
            refine x_gr C hTH101 (ci := 10) (k := 66) rfl inX10 (by decide) wF_X10_152 gb rg_112 rfl dX10_blank_39 (fun q122 eq122 gq122 => ?_)
            refine lv_aload_n hx hb dX10_blank_42 rfl (lv_at hl 0 rfl) ?_
            refine x_gi C hTH101 (ci := 10) (k := 65) rfl inX10 (by decide) wF_X10_458 gb rg_112 rfl dX10_blank_43 (fun x123 ex123 bx123 => ?_)
            have ux123 : x123 = 0 := ex123.trans m110
            subst ux123
            refine lv_iload_n hx hb dX10_blank_46 rfl (lv_at hl 1 rfl) ?_
            refine x_iast C hTH101 hSH116 gq122 rg_158 (by decide) (by decide) ⟨by have := i_rng x0; omega, by have := i_rng x0; omega⟩ (AE_in gq122 (by decide)) dX10_blank_47 (fun H124 locsH124 hTH124 hSH124 wH124 => ?_)
            have m125 := (Wr.neI wH124 (Or.inl (G_ne gb gq122 (by decide)))).trans m102
            have m126 := (Wr.neI wH124 (Or.inl (G_ne gb gq122 (by decide)))).trans m103
            have m127 := (Wr.neI wH124 (Or.inl (G_ne gb gq122 (by decide)))).trans m104
            have m128 := (Wr.neI wH124 (Or.inl (G_ne gb gq122 (by decide)))).trans m105
            have m129 := (Wr.neI wH124 (Or.inl (G_ne gb gq122 (by decide)))).trans m106
            have m130 := (Wr.neI wH124 (Or.inl (G_ne gb gq122 (by decide)))).trans m107
            have m131 := (Wr.neI wH124 (Or.inl (G_ne gb gq122 (by decide)))).trans m108
            have m132 := (Wr.neI wH124 (Or.inl (G_ne gb gq122 (by decide)))).trans m109
            have m133 := (Wr.neI wH124 (Or.inl (G_ne gb gq122 (by decide)))).trans m110
            have m134 := (Wr.neI wH124 (Or.inl (G_ne gb gq122 (by decide)))).trans m111
            have m135 := (Wr.neI wH124 (Or.inl (G_ne gb gq122 (by decide)))).trans m112
            have m136 := eq122.trans (Wr.neR wH124 (Or.inl (G_ne gb gq122 (by decide)))).symm
            have m137 := Wr.I wH124
            have m137 := m137.symm
            refine lv_aload_n hx hb dX10_blank_48 rfl (lv_at hl 0 rfl) ?_
            refine x_gr C hTH124 (ci := 10) (k := 67) rfl inX10 (by decide) wF_X10_155 gb rg_112 rfl dX10_blank_49 (fun q138 eq138 gq138 => ?_)
            refine lv_aload_n hx hb dX10_blank_52 rfl (lv_at hl 0 rfl) ?_
            refine x_gi C hTH124 (ci := 10) (k := 65) rfl inX10 (by decide) wF_X10_458 gb rg_112 rfl dX10_blank_53 (fun x139 ex139 bx139 => ?_)
            have ux139 : x139 = 0 := ex139.trans m133
            subst ux139
            refine lv_iload_n hx hb dX10_blank_56 rfl (lv_at hl 2 rfl) ?_
            refine x_iast C hTH124 hSH124 gq138 rg_159 (by decide) (by decide) ⟨by have := i_rng x1; omega, by have := i_rng x1; omega⟩ (AE_in gq138 (by decide)) dX10_blank_57 (fun H140 locsH140 hTH140 hSH140 wH140 => ?_)
            have m141 := (Wr.neI wH140 (Or.inl (G_ne gb gq138 (by decide)))).trans m125
            have m142 := (Wr.neI wH140 (Or.inl (G_ne gb gq138 (by decide)))).trans m126
            have m143 := (Wr.neI wH140 (Or.inl (G_ne gb gq138 (by decide)))).trans m127
            have m144 := (Wr.neI wH140 (Or.inl (G_ne gb gq138 (by decide)))).trans m128
            have m145 := (Wr.neI wH140 (Or.inl (G_ne gb gq138 (by decide)))).trans m129
            have m146 := (Wr.neI wH140 (Or.inl (G_ne gb gq138 (by decide)))).trans m130
            have m147 := (Wr.neI wH140 (Or.inl (G_ne gb gq138 (by decide)))).trans m131
            have m148 := (Wr.neI wH140 (Or.inl (G_ne gb gq138 (by decide)))).trans m132
            have m149 := (Wr.neI wH140 (Or.inl (G_ne gb gq138 (by decide)))).trans m133
            have m150 := (Wr.neI wH140 (Or.inl (G_ne gb gq138 (by decide)))).trans m134
            have m151 := (Wr.neI wH140 (Or.inl (G_ne gb gq138 (by decide)))).trans m135
            have m152 := m136.trans (Wr.neR wH140 (Or.inl (G_ne gb gq138 (by decide)))).symm
            have m153 := m137.trans (Wr.neI wH140 (Or.inl (G_ne gq122 gq138 (by decide)))).symm
            have m154 := eq138.trans (Wr.neR wH140 (Or.inl (G_ne gb gq138 (by decide)))).symm
            have m155 := Wr.I wH140
            have m155 := m155.symm
            refine lv_aload_n hx hb dX10_blank_58 rfl (lv_at hl 0 rfl) ?_
            refine lv_aload_n hx hb dX10_blank_59 rfl (lv_at hl 0 rfl) ?_
            refine x_gi C hTH140 (ci := 10) (k := 65) rfl inX10 (by decide) wF_X10_458 gb rg_112 rfl dX10_blank_60 (fun x156 ex156 bx156 => ?_)
            have ux156 : x156 = 0 := ex156.trans m149
            subst ux156
            refine lv_iconst (v := 1) hx hb dX10_blank_63 (by decide) ?_
            refine lv_iadd hx hb dX10_blank_64 ?_
            refine lv_topi (fun x157 ex157 => ?_)
            have tx157 : x157 = 1 := by rw [ex157]; rfl
            rw [tx157] at ex157 ⊢
            clear tx157 ex157
            refine x_put C hTH140 hSH140 (ci := 10) (k := 65) (v := .int 1) (ty0 := tyX10) rfl inX10 tyX10_ok nmX10 (by decide) rfl wF_X10_458 gb rg_112 rfl rfl (okI (by have := i_rng (1 : Int32); omega) (by have := i_rng (1 : Int32); omega)) rfl rfl (AE_in gb (by decide)) dX10_blank_65 (fun H158 locsH158 hTH158 hSH158 wH158 => ?_)
            have m159 := (Wr.neI wH158 (Or.inr (x_apart hKT hts inX10 tyX10 tyX10_ok nmX10 rfl 1 65 (by decide) (by decide) (by decide)))).trans m141
            have m160 := (Wr.neI wH158 (Or.inr (x_apart hKT hts inX10 tyX10 tyX10_ok nmX10 rfl 2 65 (by decide) (by decide) (by decide)))).trans m142
            have m161 := (Wr.neI wH158 (Or.inr (x_apart hKT hts inX10 tyX10 tyX10_ok nmX10 rfl 3 65 (by decide) (by decide) (by decide)))).trans m143
            have m162 := (Wr.neI wH158 (Or.inr (x_apart hKT hts inX10 tyX10 tyX10_ok nmX10 rfl 18 65 (by decide) (by decide) (by decide)))).trans m144
            have m163 := (Wr.neI wH158 (Or.inr (x_apart hKT hts inX10 tyX10 tyX10_ok nmX10 rfl 41 65 (by decide) (by decide) (by decide)))).trans m145
            have m164 := (Wr.neI wH158 (Or.inr (x_apart hKT hts inX10 tyX10 tyX10_ok nmX10 rfl 42 65 (by decide) (by decide) (by decide)))).trans m146
            have m165 := (Wr.neI wH158 (Or.inr (x_apart hKT hts inX10 tyX10 tyX10_ok nmX10 rfl 59 65 (by decide) (by decide) (by decide)))).trans m147
            have m166 := (Wr.neI wH158 (Or.inr (x_apart hKT hts inX10 tyX10 tyX10_ok nmX10 rfl 62 65 (by decide) (by decide) (by decide)))).trans m148
            have m168 := (Wr.neI wH158 (Or.inr (x_apart hKT hts inX10 tyX10 tyX10_ok nmX10 rfl 70 65 (by decide) (by decide) (by decide)))).trans m150
            have m169 := (Wr.neI wH158 (Or.inr (x_apart hKT hts inX10 tyX10 tyX10_ok nmX10 rfl 0 65 (by decide) (by decide) (by decide)))).trans m151
            have m170 := m152.trans (Wr.neR wH158 (Or.inr (x_apart hKT hts inX10 tyX10 tyX10_ok nmX10 rfl 66 65 (by decide) (by decide) (by decide)))).symm
            have m171 := m153.trans (Wr.neI wH158 (Or.inl (G_ne gq122 gb (by decide)))).symm
            have m172 := m154.trans (Wr.neR wH158 (Or.inr (x_apart hKT hts inX10 tyX10 tyX10_ok nmX10 rfl 67 65 (by decide) (by decide) (by decide)))).symm
            have m173 := m155.trans (Wr.neI wH158 (Or.inl (G_ne gq138 gb (by decide)))).symm
            have m174 := Wr.I wH158
            refine lv_aload_n hx hb dX10_blank_68 rfl (lv_at hl 0 rfl) ?_
            refine x_gi C hTH158 (ci := 10) (k := 65) rfl inX10 (by decide) wF_X10_458 gb rg_112 rfl dX10_blank_69 (fun x175 ex175 bx175 => ?_)
            have ux175 : x175 = 1 := ex175.trans m174
            subst ux175
            refine lv_iconst (v := 1) hx hb dX10_blank_72 (by decide) ?_
            refine lv_isub hx hb dX10_blank_73 ?_
            refine lv_topi (fun x176 ex176 => ?_)
            have tx176 : x176 = 0 := by rw [ex176]; rfl
            rw [tx176] at ex176 ⊢
            clear tx176 ex176
            exact x_iret C hQ dX10_blank_74 hSH158 (by decide) (by decide) (⟨⟨0, rfl, by omega⟩, G, fun _ _ => rfl, hTH158⟩)
          · have k121 := i_eq c120
            exfalso
            omega
      · subst hvH116
        refine W.eq (g2 := F0 m 24 ls [.int 0]) rfl ?_
        refine lv_if_eq (tgt := 36) hx hb dX10_blank_24 (by decide) (fun c177 => ?_) (fun c177 => ?_)
        · have k178 := i_eq c177
          refine lv_iconst (v := (-1)) hx hb dX10_blank_36 (by decide) ?_
          exact x_iret C hQ dX10_blank_37 hSH116 (by decide) (by decide) (⟨⟨(-1), rfl, by omega⟩, G, fun _ _ => rfl, hTH101⟩)
        · have k178 := i_ne c177
          exfalso
          omega
  · subst hvH113
    refine W.eq (g2 := F0 m 13 ls [.int 0]) rfl ?_
    refine lv_if_eq (tgt := 36) hx hb dX10_blank_13 (by decide) (fun c179 => ?_) (fun c179 => ?_)
    · have k180 := i_eq c179
      refine lv_iconst (v := (-1)) hx hb dX10_blank_36 (by decide) ?_
      exact x_iret C hQ dX10_blank_37 hSH113 (by decide) (by decide) (⟨⟨(-1), rfl, by omega⟩, G, fun _ _ => rfl, hTH101⟩)
    · have k180 := i_ne c179
      exfalso
      omega
