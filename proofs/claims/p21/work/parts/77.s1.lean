set_option maxHeartbeats 4000000 in
set_option maxRecDepth 100000 in
theorem a_X9_night_r (l : Launch) (K : KE) (G : Nat → Option Nat) (H : Heap) {a0 : Nat} (x1 : Int32) (x2 : Int32) {wq : Nat} {bq : Nat} (s1 : Int32) (s4 : Int32) (s5 : Int32) (s10 : Int32) (s13 : Int32) (s16 : Int32) (hT : TY K G H) (ga0 : G a0 = some 68) (gwq : G wq = some 0) (ewq : wq = fR H a0 (K.1.2 9 0)) (gbq : G bq = some 25) (ebq : bq = fR H wq (K.1.2 8 0)) (es1 : s1 = fI H wq (K.1.2 8 1)) (es4 : s4 = fI H wq (K.1.2 8 4)) (es5 : s5 = fI H wq (K.1.2 8 5)) (es10 : s10 = fI H wq (K.1.2 8 10)) (es13 : s13 = fI H wq (K.1.2 8 13)) (es16 : s16 = fI H wq (K.1.2 8 16)) : MX l K yX9_night cX9_night 3 (some .int) 2 43 0 0 [.ref a0, .int x1, .int x2] H (AE G [0, 28, 29] H.size) (fun v H1 => ∃ (r : Int32) (t0 : Int32) (t1 : Int32) (t2 : Int32) (t3 : Int32) (t4 : Int32) (t5 : Int32), v = some (.int r) ∧ t0 = fI H1 wq (K.1.2 8 1) ∧ t1 = fI H1 wq (K.1.2 8 4) ∧ t2 = fI H1 wq (K.1.2 8 5) ∧ t3 = fI H1 wq (K.1.2 8 10) ∧ t4 = fI H1 wq (K.1.2 8 13) ∧ t5 = fI H1 wq (K.1.2 8 16) ∧ (((-20 ≤ x1.toInt ∧ x1.toInt ≤ 50 ∧ 0 ≤ x2.toInt ∧ x2.toInt ≤ 99 ∧ s10.toInt ≤ 19 ∧ r.toInt = s10.toInt ∧ t3.toInt = s10.toInt + 1) ∨ ((x1.toInt < -20 ∨ 50 < x1.toInt ∨ x2.toInt < 0 ∨ 99 < x2.toInt ∨ 19 < s10.toInt) ∧ r.toInt = -1 ∧ t3.toInt = s10.toInt)) ∧ t0.toInt = s1.toInt ∧ t1.toInt = s4.toInt ∧ t2.toInt = s5.toInt ∧ t4.toInt = s13.toInt ∧ t5.toInt = s16.toInt) ∧ bq = fR H1 wq (K.1.2 8 0) ∧ TY K G H1) := by
  refine MX.of (by decide +kernel) (Nat.le_of_ble_eq_true rfl) ?_
  intro p e s m below meth c ls Q C hH hl hQ
  subst hH
  have C : CX p K s m _ meth c RX9 cX9_night 3 (some .int) "night" := C
  obtain ⟨hx, hb, hml, hown, hts, hKT, hr, hlocks, hnm⟩ := id C
  have hl : lv_has ls 3 [(0, .ref a0), (1, .int x1), (2, .int x2)] := hl
  have hS : va_S (AE G [0, 28, 29] s.heap.size) s.heap s.heap [] := va_S.rf
  have n_m1 : ((-1) : Int32).toInt = -1 := rfl
  have n_0 : (0 : Int32).toInt = 0 := rfl
  have n_1 : (1 : Int32).toInt = 1 := rfl
  have n_20 : (20 : Int32).toInt = 20 := rfl
  have bs1 := ty_fi (x := s1) (k := 1) es1 hT gwq rg_0 rfl
  have bs4 := ty_fi (x := s4) (k := 4) es4 hT gwq rg_0 rfl
  have bs5 := ty_fi (x := s5) (k := 5) es5 hT gwq rg_0 rfl
  have bs10 := ty_fi (x := s10) (k := 10) es10 hT gwq rg_0 rfl
  have bs13 := ty_fi (x := s13) (k := 13) es13 hT gwq rg_0 rfl
  have bs16 := ty_fi (x := s16) (k := 16) es16 hT gwq rg_0 rfl
  refine lv_iload_n hx hb dX9_night_0 rfl (lv_at hl 1 rfl) ?_
  refine lv_iload_n hx hb dX9_night_1 rfl (lv_at hl 2 rfl) ?_
  refine x_S (As := [.int x1, .int x2]) (rest := []) C (c_X9_isAir l K G s.heap (x1) (x2) hT) yo_X9_isAir wM_X9_275 ⟨⟨by decide, by decide⟩, by decide, by decide⟩ rfl hl.1 rfl (Nat.le_of_ble_eq_true rfl) dX9_night_2 hS (AE_sub (fun _ _ => rfl) (by decide) hS.1) (fun vH345 H345 locsH345 pH345 zH345 kH345 hSH345 => ?_)
  have hqH345 := pH345.1.symm
  subst hqH345
  rcases pH345.2 with ⟨hvH345, hcH345⟩ | ⟨hvH345, hcH345⟩
  · subst hvH345
    refine W.eq (g2 := F0 m 5 ls [.int 1]) rfl ?_
    refine lv_if_eq (tgt := 20) hx hb dX9_night_5 (by decide) (fun c346 => ?_) (fun c346 => ?_)
    · have k347 := i_eq c346
      exfalso
      omega
    · have k347 := i_ne c346
      refine lv_aload_n hx hb dX9_night_8 rfl (lv_at hl 0 rfl) ?_
      refine x_gr C hT (ci := 9) (k := 0) rfl inX9 (by decide) wF_X9_12 ga0 rg_68 rfl dX9_night_9 (fun q348 eq348 gq348 => ?_)
      have uq348 : wq = q348 := (ewq).trans eq348.symm
      subst uq348
      refine x_gi C hT (ci := 8) (k := 10) rfl inX8 (by decide) wF_X9_293 gwq rg_0 rfl dX9_night_12 (fun x349 ex349 bx349 => ?_)
      have ux349 : s10 = x349 := (es10).trans ex349.symm
      subst ux349
      refine lv_bipush (v := 20) hx hb dX9_night_15 (by decide) ?_
      refine lv_icmp_lt (tgt := 22) hx hb dX9_night_17 (by decide) (fun c350 => ?_) (fun c350 => ?_)
      · have k351 := i_lt c350
        refine lv_aload_n hx hb dX9_night_22 rfl (lv_at hl 0 rfl) ?_
        refine x_gr C hT (ci := 9) (k := 0) rfl inX9 (by decide) wF_X9_12 ga0 rg_68 rfl dX9_night_23 (fun q352 eq352 gq352 => ?_)
        have uq352 : wq = q352 := (ewq).trans eq352.symm
        subst uq352
        refine x_gr C hT (ci := 8) (k := 8) rfl inX8 (by decide) wF_X9_296 gwq rg_0 rfl dX9_night_26 (fun q353 eq353 gq353 => ?_)
        refine lv_aload_n hx hb dX9_night_29 rfl (lv_at hl 0 rfl) ?_
        refine x_gr C hT (ci := 9) (k := 0) rfl inX9 (by decide) wF_X9_12 ga0 rg_68 rfl dX9_night_30 (fun q354 eq354 gq354 => ?_)
        have uq354 : wq = q354 := (ewq).trans eq354.symm
        subst uq354
        refine x_gi C hT (ci := 8) (k := 10) rfl inX8 (by decide) wF_X9_293 gwq rg_0 rfl dX9_night_33 (fun x355 ex355 bx355 => ?_)
        have ux355 : s10 = x355 := (es10).trans ex355.symm
        subst ux355
        refine lv_iload_n hx hb dX9_night_36 rfl (lv_at hl 1 rfl) ?_
        refine x_iast C hT hSH345 gq353 rg_28 (by omega) (by show _ < ((20 : Nat) : Int); omega) ⟨by have := i_rng x1; omega, by have := i_rng x1; omega⟩ (AE_in gq353 (by decide)) dX9_night_37 (fun H356 locsH356 hTH356 hSH356 wH356 => ?_)
        have m357 := ewq.trans (Wr.neR wH356 (Or.inl (G_ne ga0 gq353 (by decide)))).symm
        have m358 := ebq.trans (Wr.neR wH356 (Or.inl (G_ne gwq gq353 (by decide)))).symm
        have m359 := es1.trans (Wr.neI wH356 (Or.inl (G_ne gwq gq353 (by decide)))).symm
        have m360 := es4.trans (Wr.neI wH356 (Or.inl (G_ne gwq gq353 (by decide)))).symm
        have m361 := es5.trans (Wr.neI wH356 (Or.inl (G_ne gwq gq353 (by decide)))).symm
        have m362 := es10.trans (Wr.neI wH356 (Or.inl (G_ne gwq gq353 (by decide)))).symm
        have m363 := es13.trans (Wr.neI wH356 (Or.inl (G_ne gwq gq353 (by decide)))).symm
        have m364 := es16.trans (Wr.neI wH356 (Or.inl (G_ne gwq gq353 (by decide)))).symm
        have m365 := eq353.trans (Wr.neR wH356 (Or.inl (G_ne gwq gq353 (by decide)))).symm
        have m366 := Wr.I wH356
        have m366 := m366.symm
        refine lv_aload_n hx hb dX9_night_38 rfl (lv_at hl 0 rfl) ?_
        refine x_gr C hTH356 (ci := 9) (k := 0) rfl inX9 (by decide) wF_X9_12 ga0 rg_68 rfl dX9_night_39 (fun q367 eq367 gq367 => ?_)
        have uq367 : wq = q367 := (m357).trans eq367.symm
        subst uq367
        refine x_gr C hTH356 (ci := 8) (k := 9) rfl inX8 (by decide) wF_X9_299 gwq rg_0 rfl dX9_night_42 (fun q368 eq368 gq368 => ?_)
        refine lv_aload_n hx hb dX9_night_45 rfl (lv_at hl 0 rfl) ?_
        refine x_gr C hTH356 (ci := 9) (k := 0) rfl inX9 (by decide) wF_X9_12 ga0 rg_68 rfl dX9_night_46 (fun q369 eq369 gq369 => ?_)
        have uq369 : wq = q369 := (m357).trans eq369.symm
        subst uq369
        refine x_gi C hTH356 (ci := 8) (k := 10) rfl inX8 (by decide) wF_X9_293 gwq rg_0 rfl dX9_night_49 (fun x370 ex370 bx370 => ?_)
        have ux370 : s10 = x370 := (m362).trans ex370.symm
        subst ux370
        refine lv_iload_n hx hb dX9_night_52 rfl (lv_at hl 2 rfl) ?_
        refine x_iast C hTH356 hSH356 gq368 rg_29 (by omega) (by show _ < ((20 : Nat) : Int); omega) ⟨by have := i_rng x2; omega, by have := i_rng x2; omega⟩ (AE_in gq368 (by decide)) dX9_night_53 (fun H371 locsH371 hTH371 hSH371 wH371 => ?_)
        have m372 := m357.trans (Wr.neR wH371 (Or.inl (G_ne ga0 gq368 (by decide)))).symm
        have m373 := m358.trans (Wr.neR wH371 (Or.inl (G_ne gwq gq368 (by decide)))).symm
        have m374 := m359.trans (Wr.neI wH371 (Or.inl (G_ne gwq gq368 (by decide)))).symm
        have m375 := m360.trans (Wr.neI wH371 (Or.inl (G_ne gwq gq368 (by decide)))).symm
        have m376 := m361.trans (Wr.neI wH371 (Or.inl (G_ne gwq gq368 (by decide)))).symm
        have m377 := m362.trans (Wr.neI wH371 (Or.inl (G_ne gwq gq368 (by decide)))).symm
        have m378 := m363.trans (Wr.neI wH371 (Or.inl (G_ne gwq gq368 (by decide)))).symm
        have m379 := m364.trans (Wr.neI wH371 (Or.inl (G_ne gwq gq368 (by decide)))).symm
        have m380 := m365.trans (Wr.neR wH371 (Or.inl (G_ne gwq gq368 (by decide)))).symm
        have m381 := m366.trans (Wr.neI wH371 (Or.inl (G_ne gq353 gq368 (by decide)))).symm
        have m382 := eq368.trans (Wr.neR wH371 (Or.inl (G_ne gwq gq368 (by decide)))).symm
        have m383 := Wr.I wH371
        have m383 := m383.symm
        refine lv_aload_n hx hb dX9_night_54 rfl (lv_at hl 0 rfl) ?_
        refine x_gr C hTH371 (ci := 9) (k := 0) rfl inX9 (by decide) wF_X9_12 ga0 rg_68 rfl dX9_night_55 (fun q384 eq384 gq384 => ?_)
        have uq384 : wq = q384 := (m372).trans eq384.symm
        subst uq384
        refine lv_dup hx hb dX9_night_58 rfl ?_
        refine x_gi C hTH371 (ci := 8) (k := 10) rfl inX8 (by decide) wF_X9_293 gwq rg_0 rfl dX9_night_59 (fun x385 ex385 bx385 => ?_)
        have ux385 : s10 = x385 := (m377).trans ex385.symm
        subst ux385
        refine lv_iconst (v := 1) hx hb dX9_night_62 (by decide) ?_
        refine lv_iadd hx hb dX9_night_63 ?_
        refine lv_topi (fun x386 ex386 => ?_)
        have tx386 := i_add ex386 (by omega)
        refine x_put C hTH371 hSH371 (ci := 8) (k := 10) (v := .int x386) (ty0 := tyX8) rfl inX8 tyX8_ok nmX8 (by decide) rfl wF_X9_293 gwq rg_0 rfl rfl (okI (by have := i_rng x386; omega) (by have := i_rng x386; omega)) rfl rfl (AE_in gwq (by decide)) dX9_night_64 (fun H387 locsH387 hTH387 hSH387 wH387 => ?_)
        have m388 := m372.trans (Wr.neR wH387 (Or.inl (G_ne ga0 gwq (by decide)))).symm
        have m389 := m373.trans (Wr.neR wH387 (Or.inr (x_apart hKT hts inX8 tyX8 tyX8_ok nmX8 rfl 0 10 (by decide) (by decide) (by decide)))).symm
        have m390 := m374.trans (Wr.neI wH387 (Or.inr (x_apart hKT hts inX8 tyX8 tyX8_ok nmX8 rfl 1 10 (by decide) (by decide) (by decide)))).symm
        have m391 := m375.trans (Wr.neI wH387 (Or.inr (x_apart hKT hts inX8 tyX8 tyX8_ok nmX8 rfl 4 10 (by decide) (by decide) (by decide)))).symm
        have m392 := m376.trans (Wr.neI wH387 (Or.inr (x_apart hKT hts inX8 tyX8 tyX8_ok nmX8 rfl 5 10 (by decide) (by decide) (by decide)))).symm
        have m394 := m378.trans (Wr.neI wH387 (Or.inr (x_apart hKT hts inX8 tyX8 tyX8_ok nmX8 rfl 13 10 (by decide) (by decide) (by decide)))).symm
        have m395 := m379.trans (Wr.neI wH387 (Or.inr (x_apart hKT hts inX8 tyX8 tyX8_ok nmX8 rfl 16 10 (by decide) (by decide) (by decide)))).symm
        have m396 := m380.trans (Wr.neR wH387 (Or.inr (x_apart hKT hts inX8 tyX8 tyX8_ok nmX8 rfl 8 10 (by decide) (by decide) (by decide)))).symm
        have m397 := m381.trans (Wr.neI wH387 (Or.inl (G_ne gq353 gwq (by decide)))).symm
        have m398 := m382.trans (Wr.neR wH387 (Or.inr (x_apart hKT hts inX8 tyX8 tyX8_ok nmX8 rfl 9 10 (by decide) (by decide) (by decide)))).symm
        have m399 := m383.trans (Wr.neI wH387 (Or.inl (G_ne gq368 gwq (by decide)))).symm
        have m400 := Wr.I wH387
        have m400 := m400.symm
        refine lv_aload_n hx hb dX9_night_67 rfl (lv_at hl 0 rfl) ?_
        refine x_gr C hTH387 (ci := 9) (k := 0) rfl inX9 (by decide) wF_X9_12 ga0 rg_68 rfl dX9_night_68 (fun q401 eq401 gq401 => ?_)
        have uq401 : wq = q401 := (m388).trans eq401.symm
        subst uq401
        refine x_gi C hTH387 (ci := 8) (k := 10) rfl inX8 (by decide) wF_X9_293 gwq rg_0 rfl dX9_night_71 (fun x402 ex402 bx402 => ?_)
        have ux402 : x386 = x402 := (m400).trans ex402.symm
        subst ux402
        refine lv_iconst (v := 1) hx hb dX9_night_74 (by decide) ?_
        refine lv_isub hx hb dX9_night_75 ?_
        refine lv_topi (fun x403 ex403 => ?_)
        have tx403 := i_sub ex403 (by omega)
        exact x_iret C hQ dX9_night_76 hSH387 (by decide) (by decide) (⟨x403, s1, s4, s5, x386, s13, s16, rfl, m390, m391, m392, m400, m394, m395, by omega, m389, hTH387⟩)
      · have k351 := i_nlt c350
        refine lv_iconst (v := (-1)) hx hb dX9_night_20 (by decide) ?_
        exact x_iret C hQ dX9_night_21 hSH345 (by decide) (by decide) (⟨(-1), s1, s4, s5, s10, s13, s16, rfl, es1, es4, es5, es10, es13, es16, by omega, ebq, hT⟩)
  · subst hvH345
    refine W.eq (g2 := F0 m 5 ls [.int 0]) rfl ?_
    refine lv_if_eq (tgt := 20) hx hb dX9_night_5 (by decide) (fun c404 => ?_) (fun c404 => ?_)
    · have k405 := i_eq c404
      refine lv_iconst (v := (-1)) hx hb dX9_night_20 (by decide) ?_
      exact x_iret C hQ dX9_night_21 hSH345 (by decide) (by decide) (⟨(-1), s1, s4, s5, s10, s13, s16, rfl, es1, es4, es5, es10, es13, es16, by omega, ebq, hT⟩)
    · have k405 := i_ne c404
      exfalso
      omega

set_option maxHeartbeats 4000000 in
set_option maxRecDepth 100000 in
theorem a_X10_night_r (l : Launch) (K : KE) (G : Nat → Option Nat) (H : Heap) {a0 : Nat} (x1 : Int32) (x2 : Int32) (s10 : Int32) (hT : TY K G H) (ga0 : G a0 = some 112) (es10 : s10 = fI H a0 (K.1.2 10 59)) (hg_CG : CG (avw K H a0)) (hg_TU : TU (avw K H a0) (svw K H a0)) (hg_WD : WD (avw K H a0)) (hg_IM : IM (avw K H a0)) : MX l K yX10_night cX10_night 3 (some .int) 2 44 0 0 [.ref a0, .int x1, .int x2] H (AE G [112, 154, 155] H.size) (fun v H1 => ∃ (r : Int32) (t0 : Int32), v = some (.int r) ∧ t0 = fI H1 a0 (K.1.2 10 59) ∧ ((-20 ≤ x1.toInt ∧ x1.toInt ≤ 50 ∧ 0 ≤ x2.toInt ∧ x2.toInt ≤ 99 ∧ s10.toInt ≤ 19 ∧ r.toInt = s10.toInt ∧ t0.toInt = s10.toInt + 1) ∨ ((x1.toInt < -20 ∨ 50 < x1.toInt ∨ x2.toInt < 0 ∨ 99 < x2.toInt ∨ 19 < s10.toInt) ∧ r.toInt = -1 ∧ t0.toInt = s10.toInt)) ∧ (CG (avw K H1 a0)) ∧ (TU (avw K H1 a0) (svw K H1 a0)) ∧ (WD (avw K H1 a0)) ∧ (IM (avw K H1 a0)) ∧ MF K H H1 a0 [0, 59] ∧ TY K G H1) := by
  refine MX.of (by decide +kernel) (Nat.le_of_ble_eq_true rfl) ?_
  intro p e s m below meth c ls Q C hH hl hQ
  subst hH
  have C : CX p K s m _ meth c RX10 cX10_night 3 (some .int) "night" := C
  obtain ⟨hx, hb, hml, hown, hts, hKT, hr, hlocks, hnm⟩ := id C
  have hl : lv_has ls 3 [(0, .ref a0), (1, .int x1), (2, .int x2)] := hl
  have hS : va_S (AE G [112, 154, 155] s.heap.size) s.heap s.heap [] := va_S.rf
  have n_m1 : ((-1) : Int32).toInt = -1 := rfl
  have n_0 : (0 : Int32).toInt = 0 := rfl
  have n_1 : (1 : Int32).toInt = 1 := rfl
  have n_20 : (20 : Int32).toInt = 20 := rfl
  have bs10 := ty_fi (x := s10) (k := 59) es10 hT ga0 rg_112 rfl
  have hap : ∀ x y, x < 74 → y < 74 → x ≠ y → K.1.2 10 x ≠ K.1.2 10 y := x_apart hKT hts inX10 tyX10 tyX10_ok nmX10 rfl
  have mf0 : MF K s.heap s.heap a0 [0, 59] := fun _ _ _ => rfl
  refine lv_aload_n hx hb dX10_night_0 rfl (lv_at hl 0 rfl) ?_
  refine lv_iconst (v := 0) hx hb dX10_night_1 (by decide) ?_
  refine x_put C hT hS (ci := 10) (k := 0) (v := .int 0) (ty0 := tyX10) rfl inX10 tyX10_ok nmX10 (by decide) rfl wF_X10_167 ga0 rg_112 rfl rfl (okI (by have := i_rng (0 : Int32); omega) (by have := i_rng (0 : Int32); omega)) rfl rfl (AE_in ga0 (by decide)) dX10_night_2 (fun H357 locsH357 hTH357 hSH357 wH357 => ?_)
  have mf358 : MF K s.heap H357 a0 [0, 59] := MF.fld hap wH357 (by decide) (by decide) mf0
  have g359 : CG (avw K H357 a0) := CG.congr (fun k hk j => av_fld hT ga0 hap wH357 (by decide) (CG_ok 112 (by decide) k hk) (CG_ne 0 (by decide) k hk)) hg_CG
  have g360 : TU (avw K H357 a0) (svw K H357 a0) := TU.congr (fun k hk j => av_fld hT ga0 hap wH357 (by decide) (TU_ok 112 (by decide) k hk) (TU_ne 0 (by decide) k hk)) (fun k hk => sv_fld hap wH357 (by decide) (TU_slt k hk) (TU_sne 0 (by decide) k hk)) hg_TU
  have g361 : WD (avw K H357 a0) := WD.congr (fun k hk j => av_fld hT ga0 hap wH357 (by decide) (WD_ok 112 (by decide) k hk) (WD_ne 0 (by decide) k hk)) hg_WD
  have g362 : IM (avw K H357 a0) := IM.congr (fun k hk j => av_fld hT ga0 hap wH357 (by decide) (IM_ok 112 (by decide) k hk) (IM_ne 0 (by decide) k hk)) hg_IM
  have m363 := es10.trans (Wr.neI wH357 (Or.inr (x_apart hKT hts inX10 tyX10 tyX10_ok nmX10 rfl 59 0 (by decide) (by decide) (by decide)))).symm
  have m364 := Wr.I wH357
  refine lv_aload_n hx hb dX10_night_5 rfl (lv_at hl 0 rfl) ?_
  refine lv_iload_n hx hb dX10_night_6 rfl (lv_at hl 1 rfl) ?_
  refine x_V (As := [.int x1]) (rest := []) C (c_X10_isHeat l K G H357 (x1) hTH357 ga0) yo_X10_isHeat wM_X10_428 ⟨⟨by decide, by decide⟩, by decide, by decide⟩ (x_rv C hTH357 (ci := 10) rfl ga0 rg_112) rfl hl.1 rfl (Nat.le_of_ble_eq_true rfl) dX10_night_7 hSH357 (AE_sub (fun _ _ => rfl) (by decide) hSH357.1) (fun vH365 H365 locsH365 pH365 zH365 kH365 hSH365 => ?_)
  have hqH365 := pH365.1.symm
  subst hqH365
  rcases pH365.2 with ⟨hvH365, hcH365⟩ | ⟨hvH365, hcH365⟩
  · subst hvH365
    refine W.eq (g2 := F0 m 10 ls [.int 1]) rfl ?_
    refine lv_if_eq (tgt := 30) hx hb dX10_night_10 (by decide) (fun c366 => ?_) (fun c366 => ?_)
    · have k367 := i_eq c366
      exfalso
      omega
    · have k367 := i_ne c366
      refine lv_aload_n hx hb dX10_night_13 rfl (lv_at hl 0 rfl) ?_
      refine lv_iload_n hx hb dX10_night_14 rfl (lv_at hl 2 rfl) ?_
      refine x_V (As := [.int x2]) (rest := []) C (c_X10_isWet l K G H357 (x2) hTH357 ga0) yo_X10_isWet wM_X10_431 ⟨⟨by decide, by decide⟩, by decide, by decide⟩ (x_rv C hTH357 (ci := 10) rfl ga0 rg_112) rfl hl.1 rfl (Nat.le_of_ble_eq_true rfl) dX10_night_15 hSH365 (AE_sub (fun _ _ => rfl) (by decide) hSH365.1) (fun vH368 H368 locsH368 pH368 zH368 kH368 hSH368 => ?_)
      have hqH368 := pH368.1.symm
      subst hqH368
      rcases pH368.2 with ⟨hvH368, hcH368⟩ | ⟨hvH368, hcH368⟩
      · subst hvH368
        refine W.eq (g2 := F0 m 18 ls [.int 1]) rfl ?_
        refine lv_if_eq (tgt := 30) hx hb dX10_night_18 (by decide) (fun c369 => ?_) (fun c369 => ?_)
        · have k370 := i_eq c369
          exfalso
          omega
        · have k370 := i_ne c369
          refine lv_aload_n hx hb dX10_night_21 rfl (lv_at hl 0 rfl) ?_
          refine x_gi C hTH357 (ci := 10) (k := 59) rfl inX10 (by decide) wF_X10_438 ga0 rg_112 rfl dX10_night_22 (fun x371 ex371 bx371 => ?_)
          have ux371 : s10 = x371 := (m363).trans ex371.symm
          subst ux371
          refine lv_bipush (v := 20) hx hb dX10_night_25 (by decide) ?_
          refine lv_icmp_ne (tgt := 32) hx hb dX10_night_27 (by decide) (fun c372 => ?_) (fun c372 => ?_)
          · have k373 := i_ne c372
            refine lv_aload_n hx hb dX10_night_32 rfl (lv_at hl 0 rfl) ?_
            refine x_gr C hTH357 (ci := 10) (k := 60) rfl inX10 (by decide) wF_X10_140 ga0 rg_112 rfl dX10_night_33 (fun q374 eq374 gq374 => ?_)
            refine lv_aload_n hx hb dX10_night_36 rfl (lv_at hl 0 rfl) ?_
            refine x_gi C hTH357 (ci := 10) (k := 59) rfl inX10 (by decide) wF_X10_438 ga0 rg_112 rfl dX10_night_37 (fun x375 ex375 bx375 => ?_)
            have ux375 : s10 = x375 := (m363).trans ex375.symm
            subst ux375
            refine lv_iload_n hx hb dX10_night_40 rfl (lv_at hl 1 rfl) ?_
            refine x_iast C hTH357 hSH368 gq374 rg_154 (by omega) (by show _ < ((20 : Nat) : Int); omega) ⟨by have := i_rng x1; omega, by have := i_rng x1; omega⟩ (AE_in gq374 (by decide)) dX10_night_41 (fun H376 locsH376 hTH376 hSH376 wH376 => ?_)
            have mf377 : MF K s.heap H376 a0 [0, 59] := MF.arr wH376 (G_ne ga0 gq374 (by decide)) mf358
            have g378 : CG (avw K H376 a0) := CG.congr (fun k hk j => av_arr hTH357 ga0 wH376 gq374 (by decide) (CG_ok 154 (by decide) k hk)) g359
            have g379 : TU (avw K H376 a0) (svw K H376 a0) := TU.congr (fun k hk j => av_arr hTH357 ga0 wH376 gq374 (by decide) (TU_ok 154 (by decide) k hk)) (fun k hk => sv_arr ga0 wH376 gq374 (by decide)) g360
            have g380 : WD (avw K H376 a0) := WD.congr (fun k hk j => av_arr hTH357 ga0 wH376 gq374 (by decide) (WD_ok 154 (by decide) k hk)) g361
            have g381 : IM (avw K H376 a0) := IM.congr (fun k hk j => av_arr hTH357 ga0 wH376 gq374 (by decide) (IM_ok 154 (by decide) k hk)) g362
            have m382 := m363.trans (Wr.neI wH376 (Or.inl (G_ne ga0 gq374 (by decide)))).symm
            have m383 := (Wr.neI wH376 (Or.inl (G_ne ga0 gq374 (by decide)))).trans m364
            have m384 := eq374.trans (Wr.neR wH376 (Or.inl (G_ne ga0 gq374 (by decide)))).symm
            have m385 := Wr.I wH376
            have m385 := m385.symm
            refine lv_aload_n hx hb dX10_night_42 rfl (lv_at hl 0 rfl) ?_
            refine x_gr C hTH376 (ci := 10) (k := 61) rfl inX10 (by decide) wF_X10_143 ga0 rg_112 rfl dX10_night_43 (fun q386 eq386 gq386 => ?_)
            refine lv_aload_n hx hb dX10_night_46 rfl (lv_at hl 0 rfl) ?_
            refine x_gi C hTH376 (ci := 10) (k := 59) rfl inX10 (by decide) wF_X10_438 ga0 rg_112 rfl dX10_night_47 (fun x387 ex387 bx387 => ?_)
            have ux387 : s10 = x387 := (m382).trans ex387.symm
            subst ux387
            refine lv_iload_n hx hb dX10_night_50 rfl (lv_at hl 2 rfl) ?_
            refine x_iast C hTH376 hSH376 gq386 rg_155 (by omega) (by show _ < ((20 : Nat) : Int); omega) ⟨by have := i_rng x2; omega, by have := i_rng x2; omega⟩ (AE_in gq386 (by decide)) dX10_night_51 (fun H388 locsH388 hTH388 hSH388 wH388 => ?_)
            have mf389 : MF K s.heap H388 a0 [0, 59] := MF.arr wH388 (G_ne ga0 gq386 (by decide)) mf377
            have g390 : CG (avw K H388 a0) := CG.congr (fun k hk j => av_arr hTH376 ga0 wH388 gq386 (by decide) (CG_ok 155 (by decide) k hk)) g378
            have g391 : TU (avw K H388 a0) (svw K H388 a0) := TU.congr (fun k hk j => av_arr hTH376 ga0 wH388 gq386 (by decide) (TU_ok 155 (by decide) k hk)) (fun k hk => sv_arr ga0 wH388 gq386 (by decide)) g379
            have g392 : WD (avw K H388 a0) := WD.congr (fun k hk j => av_arr hTH376 ga0 wH388 gq386 (by decide) (WD_ok 155 (by decide) k hk)) g380
            have g393 : IM (avw K H388 a0) := IM.congr (fun k hk j => av_arr hTH376 ga0 wH388 gq386 (by decide) (IM_ok 155 (by decide) k hk)) g381
            have m394 := m382.trans (Wr.neI wH388 (Or.inl (G_ne ga0 gq386 (by decide)))).symm
            have m395 := (Wr.neI wH388 (Or.inl (G_ne ga0 gq386 (by decide)))).trans m383
            have m396 := m384.trans (Wr.neR wH388 (Or.inl (G_ne ga0 gq386 (by decide)))).symm
            have m397 := m385.trans (Wr.neI wH388 (Or.inl (G_ne gq374 gq386 (by decide)))).symm
            have m398 := eq386.trans (Wr.neR wH388 (Or.inl (G_ne ga0 gq386 (by decide)))).symm
            have m399 := Wr.I wH388
            have m399 := m399.symm
            refine lv_aload_n hx hb dX10_night_52 rfl (lv_at hl 0 rfl) ?_
            refine lv_aload_n hx hb dX10_night_53 rfl (lv_at hl 0 rfl) ?_
            refine x_gi C hTH388 (ci := 10) (k := 59) rfl inX10 (by decide) wF_X10_438 ga0 rg_112 rfl dX10_night_54 (fun x400 ex400 bx400 => ?_)
            have ux400 : s10 = x400 := (m394).trans ex400.symm
            subst ux400
            refine lv_iconst (v := 1) hx hb dX10_night_57 (by decide) ?_
            refine lv_iadd hx hb dX10_night_58 ?_
            refine lv_topi (fun x401 ex401 => ?_)
            have tx401 := i_add ex401 (by omega)
            refine x_put C hTH388 hSH388 (ci := 10) (k := 59) (v := .int x401) (ty0 := tyX10) rfl inX10 tyX10_ok nmX10 (by decide) rfl wF_X10_438 ga0 rg_112 rfl rfl (okI (by have := i_rng x401; omega) (by have := i_rng x401; omega)) rfl rfl (AE_in ga0 (by decide)) dX10_night_59 (fun H402 locsH402 hTH402 hSH402 wH402 => ?_)
            have mf403 : MF K s.heap H402 a0 [0, 59] := MF.fld hap wH402 (by decide) (by decide) mf389
            have g404 : CG (avw K H402 a0) := CG.congr (fun k hk j => av_fld hTH388 ga0 hap wH402 (by decide) (CG_ok 112 (by decide) k hk) (CG_ne 59 (by decide) k hk)) g390
            have g405 : TU (avw K H402 a0) (svw K H402 a0) := TU.congr (fun k hk j => av_fld hTH388 ga0 hap wH402 (by decide) (TU_ok 112 (by decide) k hk) (TU_ne 59 (by decide) k hk)) (fun k hk => sv_fld hap wH402 (by decide) (TU_slt k hk) (TU_sne 59 (by decide) k hk)) g391
            have g406 : WD (avw K H402 a0) := WD.congr (fun k hk j => av_fld hTH388 ga0 hap wH402 (by decide) (WD_ok 112 (by decide) k hk) (WD_ne 59 (by decide) k hk)) g392
            have g407 : IM (avw K H402 a0) := IM.congr (fun k hk j => av_fld hTH388 ga0 hap wH402 (by decide) (IM_ok 112 (by decide) k hk) (IM_ne 59 (by decide) k hk)) g393
            have m409 := (Wr.neI wH402 (Or.inr (x_apart hKT hts inX10 tyX10 tyX10_ok nmX10 rfl 0 59 (by decide) (by decide) (by decide)))).trans m395
            have m410 := m396.trans (Wr.neR wH402 (Or.inr (x_apart hKT hts inX10 tyX10 tyX10_ok nmX10 rfl 60 59 (by decide) (by decide) (by decide)))).symm
            have m411 := m397.trans (Wr.neI wH402 (Or.inl (G_ne gq374 ga0 (by decide)))).symm
            have m412 := m398.trans (Wr.neR wH402 (Or.inr (x_apart hKT hts inX10 tyX10 tyX10_ok nmX10 rfl 61 59 (by decide) (by decide) (by decide)))).symm
            have m413 := m399.trans (Wr.neI wH402 (Or.inl (G_ne gq386 ga0 (by decide)))).symm
            have m414 := Wr.I wH402
            have m414 := m414.symm
            refine lv_aload_n hx hb dX10_night_62 rfl (lv_at hl 0 rfl) ?_
            refine x_gi C hTH402 (ci := 10) (k := 59) rfl inX10 (by decide) wF_X10_438 ga0 rg_112 rfl dX10_night_63 (fun x415 ex415 bx415 => ?_)
            have ux415 : x401 = x415 := (m414).trans ex415.symm
            subst ux415
            refine lv_iconst (v := 1) hx hb dX10_night_66 (by decide) ?_
            refine lv_isub hx hb dX10_night_67 ?_
            refine lv_topi (fun x416 ex416 => ?_)
            have tx416 := i_sub ex416 (by omega)
            exact x_iret C hQ dX10_night_68 hSH402 (by decide) (by decide) (⟨x416, x401, rfl, m414, by omega, g404, g405, g406, g407, mf403, hTH402⟩)
          · have k373 := i_eq c372
            refine lv_iconst (v := (-1)) hx hb dX10_night_30 (by decide) ?_
            exact x_iret C hQ dX10_night_31 hSH368 (by decide) (by decide) (⟨(-1), s10, rfl, m363, by omega, g359, g360, g361, g362, mf358, hTH357⟩)
      · subst hvH368
        refine W.eq (g2 := F0 m 18 ls [.int 0]) rfl ?_
        refine lv_if_eq (tgt := 30) hx hb dX10_night_18 (by decide) (fun c417 => ?_) (fun c417 => ?_)
        · have k418 := i_eq c417
          refine lv_iconst (v := (-1)) hx hb dX10_night_30 (by decide) ?_
          exact x_iret C hQ dX10_night_31 hSH368 (by decide) (by decide) (⟨(-1), s10, rfl, m363, by omega, g359, g360, g361, g362, mf358, hTH357⟩)
        · have k418 := i_ne c417
          exfalso
          omega
  · subst hvH365
    refine W.eq (g2 := F0 m 10 ls [.int 0]) rfl ?_
    refine lv_if_eq (tgt := 30) hx hb dX10_night_10 (by decide) (fun c419 => ?_) (fun c419 => ?_)
    · have k420 := i_eq c419
      refine lv_iconst (v := (-1)) hx hb dX10_night_30 (by decide) ?_
      exact x_iret C hQ dX10_night_31 hSH365 (by decide) (by decide) (⟨(-1), s10, rfl, m363, by omega, g359, g360, g361, g362, mf358, hTH357⟩)
    · have k420 := i_ne c419
      exfalso
      omega

set_option maxHeartbeats 4000000 in
set_option maxRecDepth 100000 in
theorem a_X9_note_r (l : Launch) (K : KE) (G : Nat → Option Nat) (H : Heap) {a0 : Nat} (x1 : Int32) (x2 : Int32) {wq : Nat} {bq : Nat} (s1 : Int32) (s4 : Int32) (s5 : Int32) (s10 : Int32) (s13 : Int32) (s16 : Int32) (hT : TY K G H) (ga0 : G a0 = some 68) (gwq : G wq = some 0) (ewq : wq = fR H a0 (K.1.2 9 0)) (gbq : G bq = some 25) (ebq : bq = fR H wq (K.1.2 8 0)) (es1 : s1 = fI H wq (K.1.2 8 1)) (es4 : s4 = fI H wq (K.1.2 8 4)) (es5 : s5 = fI H wq (K.1.2 8 5)) (es10 : s10 = fI H wq (K.1.2 8 10)) (es13 : s13 = fI H wq (K.1.2 8 13)) (es16 : s16 = fI H wq (K.1.2 8 16)) : MX l K yX9_note cX9_note 3 (some .int) 1 22 0 0 [.ref a0, .int x1, .int x2] H (AE G [0, 30, 31] H.size) (fun v H1 => ∃ (r : Int32) (t0 : Int32) (t1 : Int32) (t2 : Int32) (t3 : Int32) (t4 : Int32) (t5 : Int32), v = some (.int r) ∧ t0 = fI H1 wq (K.1.2 8 1) ∧ t1 = fI H1 wq (K.1.2 8 4) ∧ t2 = fI H1 wq (K.1.2 8 5) ∧ t3 = fI H1 wq (K.1.2 8 10) ∧ t4 = fI H1 wq (K.1.2 8 13) ∧ t5 = fI H1 wq (K.1.2 8 16) ∧ (((1 ≤ x1.toInt ∧ x1.toInt ≤ 999999 ∧ 1 ≤ x2.toInt ∧ x2.toInt ≤ 99 ∧ s13.toInt ≤ 7 ∧ r.toInt = s13.toInt ∧ t4.toInt = s13.toInt + 1) ∨ ((x1.toInt < 1 ∨ 999999 < x1.toInt ∨ x2.toInt < 1 ∨ 99 < x2.toInt ∨ 7 < s13.toInt) ∧ r.toInt = -1 ∧ t4.toInt = s13.toInt)) ∧ t0.toInt = s1.toInt ∧ t1.toInt = s4.toInt ∧ t2.toInt = s5.toInt ∧ t3.toInt = s10.toInt ∧ t5.toInt = s16.toInt) ∧ bq = fR H1 wq (K.1.2 8 0) ∧ TY K G H1) := by
  refine MX.of (by decide +kernel) (Nat.le_of_ble_eq_true rfl) ?_
  intro p e s m below meth c ls Q C hH hl hQ
  subst hH
  have C : CX p K s m _ meth c RX9 cX9_note 3 (some .int) "note" := C
  obtain ⟨hx, hb, hml, hown, hts, hKT, hr, hlocks, hnm⟩ := id C
  have hl : lv_has ls 3 [(0, .ref a0), (1, .int x1), (2, .int x2)] := hl
  have hS : va_S (AE G [0, 30, 31] s.heap.size) s.heap s.heap [] := va_S.rf
  have n_m1 : ((-1) : Int32).toInt = -1 := rfl
  have n_0 : (0 : Int32).toInt = 0 := rfl
  have n_1 : (1 : Int32).toInt = 1 := rfl
  have n_8 : (8 : Int32).toInt = 8 := rfl
  have n_99 : (99 : Int32).toInt = 99 := rfl
  have n_999999 : (999999 : Int32).toInt = 999999 := rfl
  have bs1 := ty_fi (x := s1) (k := 1) es1 hT gwq rg_0 rfl
  have bs4 := ty_fi (x := s4) (k := 4) es4 hT gwq rg_0 rfl
  have bs5 := ty_fi (x := s5) (k := 5) es5 hT gwq rg_0 rfl
  have bs10 := ty_fi (x := s10) (k := 10) es10 hT gwq rg_0 rfl
  have bs13 := ty_fi (x := s13) (k := 13) es13 hT gwq rg_0 rfl
  have bs16 := ty_fi (x := s16) (k := 16) es16 hT gwq rg_0 rfl
  refine lv_iload_n hx hb dX9_note_0 rfl (lv_at hl 1 rfl) ?_
  refine lv_iconst (v := 1) hx hb dX9_note_1 (by decide) ?_
  refine lv_ldc (v := 999999) hx hb hown (hts _ wK_X9_180) dX9_note_2 ?_
  refine x_S (As := [.int x1, .int 1, .int 999999]) (rest := []) C (c_X9_within l K G s.heap (x1) (1) (999999) hT) yo_X9_within wM_X9_89 ⟨⟨by decide, by decide⟩, by decide, by decide⟩ rfl hl.1 rfl (Nat.le_of_ble_eq_true rfl) dX9_note_4 hS (AE_sub (fun _ _ => rfl) (by decide) hS.1) (fun vH365 H365 locsH365 pH365 zH365 kH365 hSH365 => ?_)
  have hqH365 := pH365.1.symm
  subst hqH365
  rcases pH365.2 with ⟨hvH365, hcH365⟩ | ⟨hvH365, hcH365⟩
  · subst hvH365
    refine W.eq (g2 := F0 m 7 ls [.int 1]) rfl ?_
    refine lv_if_eq (tgt := 32) hx hb dX9_note_7 (by decide) (fun c366 => ?_) (fun c366 => ?_)
    · have k367 := i_eq c366
      exfalso
      omega
    · have k367 := i_ne c366
      refine lv_iload_n hx hb dX9_note_10 rfl (lv_at hl 2 rfl) ?_
      refine lv_iconst (v := 1) hx hb dX9_note_11 (by decide) ?_
      refine lv_bipush (v := 99) hx hb dX9_note_12 (by decide) ?_
      refine x_S (As := [.int x2, .int 1, .int 99]) (rest := []) C (c_X9_within l K G s.heap (x2) (1) (99) hT) yo_X9_within wM_X9_89 ⟨⟨by decide, by decide⟩, by decide, by decide⟩ rfl hl.1 rfl (Nat.le_of_ble_eq_true rfl) dX9_note_14 hSH365 (AE_sub (fun _ _ => rfl) (by decide) hSH365.1) (fun vH368 H368 locsH368 pH368 zH368 kH368 hSH368 => ?_)
      have hqH368 := pH368.1.symm
      subst hqH368
      rcases pH368.2 with ⟨hvH368, hcH368⟩ | ⟨hvH368, hcH368⟩
      · subst hvH368
        refine W.eq (g2 := F0 m 17 ls [.int 1]) rfl ?_
        refine lv_if_eq (tgt := 32) hx hb dX9_note_17 (by decide) (fun c369 => ?_) (fun c369 => ?_)
        · have k370 := i_eq c369
          exfalso
          omega
        · have k370 := i_ne c369
          refine lv_aload_n hx hb dX9_note_20 rfl (lv_at hl 0 rfl) ?_
          refine x_gr C hT (ci := 9) (k := 0) rfl inX9 (by decide) wF_X9_12 ga0 rg_68 rfl dX9_note_21 (fun q371 eq371 gq371 => ?_)
          have uq371 : wq = q371 := (ewq).trans eq371.symm
          subst uq371
          refine x_gi C hT (ci := 8) (k := 13) rfl inX8 (by decide) wF_X9_317 gwq rg_0 rfl dX9_note_24 (fun x372 ex372 bx372 => ?_)
          have ux372 : s13 = x372 := (es13).trans ex372.symm
          subst ux372
          refine lv_bipush (v := 8) hx hb dX9_note_27 (by decide) ?_
          refine lv_icmp_lt (tgt := 34) hx hb dX9_note_29 (by decide) (fun c373 => ?_) (fun c373 => ?_)
          · have k374 := i_lt c373
            refine lv_aload_n hx hb dX9_note_34 rfl (lv_at hl 0 rfl) ?_
            refine x_gr C hT (ci := 9) (k := 0) rfl inX9 (by decide) wF_X9_12 ga0 rg_68 rfl dX9_note_35 (fun q375 eq375 gq375 => ?_)
            have uq375 : wq = q375 := (ewq).trans eq375.symm
            subst uq375
            refine x_gr C hT (ci := 8) (k := 11) rfl inX8 (by decide) wF_X9_320 gwq rg_0 rfl dX9_note_38 (fun q376 eq376 gq376 => ?_)
            refine lv_aload_n hx hb dX9_note_41 rfl (lv_at hl 0 rfl) ?_
            refine x_gr C hT (ci := 9) (k := 0) rfl inX9 (by decide) wF_X9_12 ga0 rg_68 rfl dX9_note_42 (fun q377 eq377 gq377 => ?_)
            have uq377 : wq = q377 := (ewq).trans eq377.symm
            subst uq377
            refine x_gi C hT (ci := 8) (k := 13) rfl inX8 (by decide) wF_X9_317 gwq rg_0 rfl dX9_note_45 (fun x378 ex378 bx378 => ?_)
            have ux378 : s13 = x378 := (es13).trans ex378.symm
            subst ux378
            refine lv_iload_n hx hb dX9_note_48 rfl (lv_at hl 1 rfl) ?_
            refine x_iast C hT hSH368 gq376 rg_30 (by omega) (by show _ < ((8 : Nat) : Int); omega) ⟨by have := i_rng x1; omega, by have := i_rng x1; omega⟩ (AE_in gq376 (by decide)) dX9_note_49 (fun H379 locsH379 hTH379 hSH379 wH379 => ?_)
            have m380 := ewq.trans (Wr.neR wH379 (Or.inl (G_ne ga0 gq376 (by decide)))).symm
            have m381 := ebq.trans (Wr.neR wH379 (Or.inl (G_ne gwq gq376 (by decide)))).symm
            have m382 := es1.trans (Wr.neI wH379 (Or.inl (G_ne gwq gq376 (by decide)))).symm
            have m383 := es4.trans (Wr.neI wH379 (Or.inl (G_ne gwq gq376 (by decide)))).symm
            have m384 := es5.trans (Wr.neI wH379 (Or.inl (G_ne gwq gq376 (by decide)))).symm
            have m385 := es10.trans (Wr.neI wH379 (Or.inl (G_ne gwq gq376 (by decide)))).symm
            have m386 := es13.trans (Wr.neI wH379 (Or.inl (G_ne gwq gq376 (by decide)))).symm
            have m387 := es16.trans (Wr.neI wH379 (Or.inl (G_ne gwq gq376 (by decide)))).symm
            have m388 := eq376.trans (Wr.neR wH379 (Or.inl (G_ne gwq gq376 (by decide)))).symm
            have m389 := Wr.I wH379
            have m389 := m389.symm
            refine lv_aload_n hx hb dX9_note_50 rfl (lv_at hl 0 rfl) ?_
            refine x_gr C hTH379 (ci := 9) (k := 0) rfl inX9 (by decide) wF_X9_12 ga0 rg_68 rfl dX9_note_51 (fun q390 eq390 gq390 => ?_)
            have uq390 : wq = q390 := (m380).trans eq390.symm
            subst uq390
            refine x_gr C hTH379 (ci := 8) (k := 12) rfl inX8 (by decide) wF_X9_323 gwq rg_0 rfl dX9_note_54 (fun q391 eq391 gq391 => ?_)
            refine lv_aload_n hx hb dX9_note_57 rfl (lv_at hl 0 rfl) ?_
            refine x_gr C hTH379 (ci := 9) (k := 0) rfl inX9 (by decide) wF_X9_12 ga0 rg_68 rfl dX9_note_58 (fun q392 eq392 gq392 => ?_)
            have uq392 : wq = q392 := (m380).trans eq392.symm
            subst uq392
            refine x_gi C hTH379 (ci := 8) (k := 13) rfl inX8 (by decide) wF_X9_317 gwq rg_0 rfl dX9_note_61 (fun x393 ex393 bx393 => ?_)
            have ux393 : s13 = x393 := (m386).trans ex393.symm
            subst ux393
            refine lv_iload_n hx hb dX9_note_64 rfl (lv_at hl 2 rfl) ?_
            refine x_iast C hTH379 hSH379 gq391 rg_31 (by omega) (by show _ < ((8 : Nat) : Int); omega) ⟨by have := i_rng x2; omega, by have := i_rng x2; omega⟩ (AE_in gq391 (by decide)) dX9_note_65 (fun H394 locsH394 hTH394 hSH394 wH394 => ?_)
            have m395 := m380.trans (Wr.neR wH394 (Or.inl (G_ne ga0 gq391 (by decide)))).symm
            have m396 := m381.trans (Wr.neR wH394 (Or.inl (G_ne gwq gq391 (by decide)))).symm
            have m397 := m382.trans (Wr.neI wH394 (Or.inl (G_ne gwq gq391 (by decide)))).symm
            have m398 := m383.trans (Wr.neI wH394 (Or.inl (G_ne gwq gq391 (by decide)))).symm
            have m399 := m384.trans (Wr.neI wH394 (Or.inl (G_ne gwq gq391 (by decide)))).symm
            have m400 := m385.trans (Wr.neI wH394 (Or.inl (G_ne gwq gq391 (by decide)))).symm
            have m401 := m386.trans (Wr.neI wH394 (Or.inl (G_ne gwq gq391 (by decide)))).symm
            have m402 := m387.trans (Wr.neI wH394 (Or.inl (G_ne gwq gq391 (by decide)))).symm
            have m403 := m388.trans (Wr.neR wH394 (Or.inl (G_ne gwq gq391 (by decide)))).symm
            have m404 := m389.trans (Wr.neI wH394 (Or.inl (G_ne gq376 gq391 (by decide)))).symm
            have m405 := eq391.trans (Wr.neR wH394 (Or.inl (G_ne gwq gq391 (by decide)))).symm
            have m406 := Wr.I wH394
            have m406 := m406.symm
            refine lv_aload_n hx hb dX9_note_66 rfl (lv_at hl 0 rfl) ?_
            refine x_gr C hTH394 (ci := 9) (k := 0) rfl inX9 (by decide) wF_X9_12 ga0 rg_68 rfl dX9_note_67 (fun q407 eq407 gq407 => ?_)
            have uq407 : wq = q407 := (m395).trans eq407.symm
            subst uq407
            refine lv_dup hx hb dX9_note_70 rfl ?_
            refine x_gi C hTH394 (ci := 8) (k := 13) rfl inX8 (by decide) wF_X9_317 gwq rg_0 rfl dX9_note_71 (fun x408 ex408 bx408 => ?_)
            have ux408 : s13 = x408 := (m401).trans ex408.symm
            subst ux408
            refine lv_iconst (v := 1) hx hb dX9_note_74 (by decide) ?_
            refine lv_iadd hx hb dX9_note_75 ?_
            refine lv_topi (fun x409 ex409 => ?_)
            have tx409 := i_add ex409 (by omega)
            refine x_put C hTH394 hSH394 (ci := 8) (k := 13) (v := .int x409) (ty0 := tyX8) rfl inX8 tyX8_ok nmX8 (by decide) rfl wF_X9_317 gwq rg_0 rfl rfl (okI (by have := i_rng x409; omega) (by have := i_rng x409; omega)) rfl rfl (AE_in gwq (by decide)) dX9_note_76 (fun H410 locsH410 hTH410 hSH410 wH410 => ?_)
            have m411 := m395.trans (Wr.neR wH410 (Or.inl (G_ne ga0 gwq (by decide)))).symm
            have m412 := m396.trans (Wr.neR wH410 (Or.inr (x_apart hKT hts inX8 tyX8 tyX8_ok nmX8 rfl 0 13 (by decide) (by decide) (by decide)))).symm
            have m413 := m397.trans (Wr.neI wH410 (Or.inr (x_apart hKT hts inX8 tyX8 tyX8_ok nmX8 rfl 1 13 (by decide) (by decide) (by decide)))).symm
            have m414 := m398.trans (Wr.neI wH410 (Or.inr (x_apart hKT hts inX8 tyX8 tyX8_ok nmX8 rfl 4 13 (by decide) (by decide) (by decide)))).symm
            have m415 := m399.trans (Wr.neI wH410 (Or.inr (x_apart hKT hts inX8 tyX8 tyX8_ok nmX8 rfl 5 13 (by decide) (by decide) (by decide)))).symm
            have m416 := m400.trans (Wr.neI wH410 (Or.inr (x_apart hKT hts inX8 tyX8 tyX8_ok nmX8 rfl 10 13 (by decide) (by decide) (by decide)))).symm
            have m418 := m402.trans (Wr.neI wH410 (Or.inr (x_apart hKT hts inX8 tyX8 tyX8_ok nmX8 rfl 16 13 (by decide) (by decide) (by decide)))).symm
            have m419 := m403.trans (Wr.neR wH410 (Or.inr (x_apart hKT hts inX8 tyX8 tyX8_ok nmX8 rfl 11 13 (by decide) (by decide) (by decide)))).symm
            have m420 := m404.trans (Wr.neI wH410 (Or.inl (G_ne gq376 gwq (by decide)))).symm
            have m421 := m405.trans (Wr.neR wH410 (Or.inr (x_apart hKT hts inX8 tyX8 tyX8_ok nmX8 rfl 12 13 (by decide) (by decide) (by decide)))).symm
            have m422 := m406.trans (Wr.neI wH410 (Or.inl (G_ne gq391 gwq (by decide)))).symm
            have m423 := Wr.I wH410
            have m423 := m423.symm
            refine lv_aload_n hx hb dX9_note_79 rfl (lv_at hl 0 rfl) ?_
            refine x_gr C hTH410 (ci := 9) (k := 0) rfl inX9 (by decide) wF_X9_12 ga0 rg_68 rfl dX9_note_80 (fun q424 eq424 gq424 => ?_)
            have uq424 : wq = q424 := (m411).trans eq424.symm
            subst uq424
            refine x_gi C hTH410 (ci := 8) (k := 13) rfl inX8 (by decide) wF_X9_317 gwq rg_0 rfl dX9_note_83 (fun x425 ex425 bx425 => ?_)
            have ux425 : x409 = x425 := (m423).trans ex425.symm
            subst ux425
            refine lv_iconst (v := 1) hx hb dX9_note_86 (by decide) ?_
            refine lv_isub hx hb dX9_note_87 ?_
            refine lv_topi (fun x426 ex426 => ?_)
            have tx426 := i_sub ex426 (by omega)
            exact x_iret C hQ dX9_note_88 hSH410 (by decide) (by decide) (⟨x426, s1, s4, s5, s10, x409, s16, rfl, m413, m414, m415, m416, m423, m418, by omega, m412, hTH410⟩)
          · have k374 := i_nlt c373
            refine lv_iconst (v := (-1)) hx hb dX9_note_32 (by decide) ?_
            exact x_iret C hQ dX9_note_33 hSH368 (by decide) (by decide) (⟨(-1), s1, s4, s5, s10, s13, s16, rfl, es1, es4, es5, es10, es13, es16, by omega, ebq, hT⟩)
      · subst hvH368
        refine W.eq (g2 := F0 m 17 ls [.int 0]) rfl ?_
        refine lv_if_eq (tgt := 32) hx hb dX9_note_17 (by decide) (fun c427 => ?_) (fun c427 => ?_)
        · have k428 := i_eq c427
          refine lv_iconst (v := (-1)) hx hb dX9_note_32 (by decide) ?_
          exact x_iret C hQ dX9_note_33 hSH368 (by decide) (by decide) (⟨(-1), s1, s4, s5, s10, s13, s16, rfl, es1, es4, es5, es10, es13, es16, by omega, ebq, hT⟩)
        · have k428 := i_ne c427
          exfalso
          omega
  · subst hvH365
    refine W.eq (g2 := F0 m 7 ls [.int 0]) rfl ?_
    refine lv_if_eq (tgt := 32) hx hb dX9_note_7 (by decide) (fun c429 => ?_) (fun c429 => ?_)
    · have k430 := i_eq c429
      refine lv_iconst (v := (-1)) hx hb dX9_note_32 (by decide) ?_
      exact x_iret C hQ dX9_note_33 hSH365 (by decide) (by decide) (⟨(-1), s1, s4, s5, s10, s13, s16, rfl, es1, es4, es5, es10, es13, es16, by omega, ebq, hT⟩)
    · have k430 := i_ne c429
      exfalso
      omega

set_option maxHeartbeats 4000000 in
set_option maxRecDepth 100000 in
theorem a_X10_note_r (l : Launch) (K : KE) (G : Nat → Option Nat) (H : Heap) {a0 : Nat} (x1 : Int32) (x2 : Int32) (s13 : Int32) (hT : TY K G H) (ga0 : G a0 = some 112) (es13 : s13 = fI H a0 (K.1.2 10 62)) (hg_CG : CG (avw K H a0)) (hg_TU : TU (avw K H a0) (svw K H a0)) (hg_WD : WD (avw K H a0)) (hg_IM : IM (avw K H a0)) : MX l K yX10_note cX10_note 3 (some .int) 1 23 0 0 [.ref a0, .int x1, .int x2] H (AE G [112, 156, 157] H.size) (fun v H1 => ∃ (r : Int32) (t0 : Int32), v = some (.int r) ∧ t0 = fI H1 a0 (K.1.2 10 62) ∧ ((1 ≤ x1.toInt ∧ x1.toInt ≤ 999999 ∧ 1 ≤ x2.toInt ∧ x2.toInt ≤ 99 ∧ s13.toInt ≤ 7 ∧ r.toInt = s13.toInt ∧ t0.toInt = s13.toInt + 1) ∨ ((x1.toInt < 1 ∨ 999999 < x1.toInt ∨ x2.toInt < 1 ∨ 99 < x2.toInt ∨ 7 < s13.toInt) ∧ r.toInt = -1 ∧ t0.toInt = s13.toInt)) ∧ (CG (avw K H1 a0)) ∧ (TU (avw K H1 a0) (svw K H1 a0)) ∧ (WD (avw K H1 a0)) ∧ (IM (avw K H1 a0)) ∧ MF K H H1 a0 [0, 62] ∧ TY K G H1) := by
  refine MX.of (by decide +kernel) (Nat.le_of_ble_eq_true rfl) ?_
  intro p e s m below meth c ls Q C hH hl hQ
  subst hH
  have C : CX p K s m _ meth c RX10 cX10_note 3 (some .int) "note" := C
  obtain ⟨hx, hb, hml, hown, hts, hKT, hr, hlocks, hnm⟩ := id C
  have hl : lv_has ls 3 [(0, .ref a0), (1, .int x1), (2, .int x2)] := hl
  have hS : va_S (AE G [112, 156, 157] s.heap.size) s.heap s.heap [] := va_S.rf
  have n_m1 : ((-1) : Int32).toInt = -1 := rfl
  have n_0 : (0 : Int32).toInt = 0 := rfl
  have n_1 : (1 : Int32).toInt = 1 := rfl
  have n_8 : (8 : Int32).toInt = 8 := rfl
  have n_99 : (99 : Int32).toInt = 99 := rfl
  have n_999999 : (999999 : Int32).toInt = 999999 := rfl
  have bs13 := ty_fi (x := s13) (k := 62) es13 hT ga0 rg_112 rfl
  have hap : ∀ x y, x < 74 → y < 74 → x ≠ y → K.1.2 10 x ≠ K.1.2 10 y := x_apart hKT hts inX10 tyX10 tyX10_ok nmX10 rfl
  have mf0 : MF K s.heap s.heap a0 [0, 62] := fun _ _ _ => rfl
  refine lv_aload_n hx hb dX10_note_0 rfl (lv_at hl 0 rfl) ?_
  refine lv_iconst (v := 0) hx hb dX10_note_1 (by decide) ?_
  refine x_put C hT hS (ci := 10) (k := 0) (v := .int 0) (ty0 := tyX10) rfl inX10 tyX10_ok nmX10 (by decide) rfl wF_X10_167 ga0 rg_112 rfl rfl (okI (by have := i_rng (0 : Int32); omega) (by have := i_rng (0 : Int32); omega)) rfl rfl (AE_in ga0 (by decide)) dX10_note_2 (fun H357 locsH357 hTH357 hSH357 wH357 => ?_)
  have mf358 : MF K s.heap H357 a0 [0, 62] := MF.fld hap wH357 (by decide) (by decide) mf0
  have g359 : CG (avw K H357 a0) := CG.congr (fun k hk j => av_fld hT ga0 hap wH357 (by decide) (CG_ok 112 (by decide) k hk) (CG_ne 0 (by decide) k hk)) hg_CG
  have g360 : TU (avw K H357 a0) (svw K H357 a0) := TU.congr (fun k hk j => av_fld hT ga0 hap wH357 (by decide) (TU_ok 112 (by decide) k hk) (TU_ne 0 (by decide) k hk)) (fun k hk => sv_fld hap wH357 (by decide) (TU_slt k hk) (TU_sne 0 (by decide) k hk)) hg_TU
  have g361 : WD (avw K H357 a0) := WD.congr (fun k hk j => av_fld hT ga0 hap wH357 (by decide) (WD_ok 112 (by decide) k hk) (WD_ne 0 (by decide) k hk)) hg_WD
  have g362 : IM (avw K H357 a0) := IM.congr (fun k hk j => av_fld hT ga0 hap wH357 (by decide) (IM_ok 112 (by decide) k hk) (IM_ne 0 (by decide) k hk)) hg_IM
  have m363 := es13.trans (Wr.neI wH357 (Or.inr (x_apart hKT hts inX10 tyX10 tyX10_ok nmX10 rfl 62 0 (by decide) (by decide) (by decide)))).symm
  have m364 := Wr.I wH357
  refine lv_aload_n hx hb dX10_note_5 rfl (lv_at hl 0 rfl) ?_
  refine lv_iload_n hx hb dX10_note_6 rfl (lv_at hl 1 rfl) ?_
  refine lv_iconst (v := 1) hx hb dX10_note_7 (by decide) ?_
  refine lv_ldcw (v := 999999) hx hb hown (hts _ wK_X10_348) dX10_note_8 ?_
  refine x_V (As := [.int x1, .int 1, .int 999999]) (rest := []) C (c_X10_isIn l K G H357 (x1) (1) (999999) hTH357 ga0) yo_X10_isIn wM_X10_177 ⟨⟨by decide, by decide⟩, by decide, by decide⟩ (x_rv C hTH357 (ci := 10) rfl ga0 rg_112) rfl hl.1 rfl (Nat.le_of_ble_eq_true rfl) dX10_note_11 hSH357 (AE_sub (fun _ _ => rfl) (by decide) hSH357.1) (fun vH365 H365 locsH365 pH365 zH365 kH365 hSH365 => ?_)
  have hqH365 := pH365.1.symm
  subst hqH365
  rcases pH365.2 with ⟨hvH365, hcH365⟩ | ⟨hvH365, hcH365⟩
  · subst hvH365
    refine W.eq (g2 := F0 m 14 ls [.int 1]) rfl ?_
    refine lv_if_eq (tgt := 37) hx hb dX10_note_14 (by decide) (fun c366 => ?_) (fun c366 => ?_)
    · have k367 := i_eq c366
      exfalso
      omega
    · have k367 := i_ne c366
      refine lv_aload_n hx hb dX10_note_17 rfl (lv_at hl 0 rfl) ?_
      refine lv_iload_n hx hb dX10_note_18 rfl (lv_at hl 2 rfl) ?_
      refine lv_iconst (v := 1) hx hb dX10_note_19 (by decide) ?_
      refine lv_bipush (v := 99) hx hb dX10_note_20 (by decide) ?_
      refine x_V (As := [.int x2, .int 1, .int 99]) (rest := []) C (c_X10_isIn l K G H357 (x2) (1) (99) hTH357 ga0) yo_X10_isIn wM_X10_177 ⟨⟨by decide, by decide⟩, by decide, by decide⟩ (x_rv C hTH357 (ci := 10) rfl ga0 rg_112) rfl hl.1 rfl (Nat.le_of_ble_eq_true rfl) dX10_note_22 hSH365 (AE_sub (fun _ _ => rfl) (by decide) hSH365.1) (fun vH368 H368 locsH368 pH368 zH368 kH368 hSH368 => ?_)
      have hqH368 := pH368.1.symm
      subst hqH368
      rcases pH368.2 with ⟨hvH368, hcH368⟩ | ⟨hvH368, hcH368⟩
      · subst hvH368
        refine W.eq (g2 := F0 m 25 ls [.int 1]) rfl ?_
        refine lv_if_eq (tgt := 37) hx hb dX10_note_25 (by decide) (fun c369 => ?_) (fun c369 => ?_)
        · have k370 := i_eq c369
          exfalso
          omega
        · have k370 := i_ne c369
          refine lv_aload_n hx hb dX10_note_28 rfl (lv_at hl 0 rfl) ?_
          refine x_gi C hTH357 (ci := 10) (k := 62) rfl inX10 (by decide) wF_X10_455 ga0 rg_112 rfl dX10_note_29 (fun x371 ex371 bx371 => ?_)
          have ux371 : s13 = x371 := (m363).trans ex371.symm
          subst ux371
          refine lv_bipush (v := 8) hx hb dX10_note_32 (by decide) ?_
          refine lv_icmp_ne (tgt := 39) hx hb dX10_note_34 (by decide) (fun c372 => ?_) (fun c372 => ?_)
          · have k373 := i_ne c372
            refine lv_aload_n hx hb dX10_note_39 rfl (lv_at hl 0 rfl) ?_
            refine x_gr C hTH357 (ci := 10) (k := 63) rfl inX10 (by decide) wF_X10_146 ga0 rg_112 rfl dX10_note_40 (fun q374 eq374 gq374 => ?_)
            refine lv_aload_n hx hb dX10_note_43 rfl (lv_at hl 0 rfl) ?_
            refine x_gi C hTH357 (ci := 10) (k := 62) rfl inX10 (by decide) wF_X10_455 ga0 rg_112 rfl dX10_note_44 (fun x375 ex375 bx375 => ?_)
            have ux375 : s13 = x375 := (m363).trans ex375.symm
            subst ux375
            refine lv_iload_n hx hb dX10_note_47 rfl (lv_at hl 1 rfl) ?_
            refine x_iast C hTH357 hSH368 gq374 rg_156 (by omega) (by show _ < ((8 : Nat) : Int); omega) ⟨by have := i_rng x1; omega, by have := i_rng x1; omega⟩ (AE_in gq374 (by decide)) dX10_note_48 (fun H376 locsH376 hTH376 hSH376 wH376 => ?_)
            have mf377 : MF K s.heap H376 a0 [0, 62] := MF.arr wH376 (G_ne ga0 gq374 (by decide)) mf358
            have g378 : CG (avw K H376 a0) := CG.congr (fun k hk j => av_arr hTH357 ga0 wH376 gq374 (by decide) (CG_ok 156 (by decide) k hk)) g359
            have g379 : TU (avw K H376 a0) (svw K H376 a0) := TU.congr (fun k hk j => av_arr hTH357 ga0 wH376 gq374 (by decide) (TU_ok 156 (by decide) k hk)) (fun k hk => sv_arr ga0 wH376 gq374 (by decide)) g360
            have g380 : WD (avw K H376 a0) := WD.congr (fun k hk j => av_arr hTH357 ga0 wH376 gq374 (by decide) (WD_ok 156 (by decide) k hk)) g361
            have g381 : IM (avw K H376 a0) := IM.congr (fun k hk j => av_arr hTH357 ga0 wH376 gq374 (by decide) (IM_ok 156 (by decide) k hk)) g362
            have m382 := m363.trans (Wr.neI wH376 (Or.inl (G_ne ga0 gq374 (by decide)))).symm
            have m383 := (Wr.neI wH376 (Or.inl (G_ne ga0 gq374 (by decide)))).trans m364
            have m384 := eq374.trans (Wr.neR wH376 (Or.inl (G_ne ga0 gq374 (by decide)))).symm
            have m385 := Wr.I wH376
            have m385 := m385.symm
            refine lv_aload_n hx hb dX10_note_49 rfl (lv_at hl 0 rfl) ?_
            refine x_gr C hTH376 (ci := 10) (k := 64) rfl inX10 (by decide) wF_X10_149 ga0 rg_112 rfl dX10_note_50 (fun q386 eq386 gq386 => ?_)
            refine lv_aload_n hx hb dX10_note_53 rfl (lv_at hl 0 rfl) ?_
            refine x_gi C hTH376 (ci := 10) (k := 62) rfl inX10 (by decide) wF_X10_455 ga0 rg_112 rfl dX10_note_54 (fun x387 ex387 bx387 => ?_)
            have ux387 : s13 = x387 := (m382).trans ex387.symm
            subst ux387
            refine lv_iload_n hx hb dX10_note_57 rfl (lv_at hl 2 rfl) ?_
            refine x_iast C hTH376 hSH376 gq386 rg_157 (by omega) (by show _ < ((8 : Nat) : Int); omega) ⟨by have := i_rng x2; omega, by have := i_rng x2; omega⟩ (AE_in gq386 (by decide)) dX10_note_58 (fun H388 locsH388 hTH388 hSH388 wH388 => ?_)
            have mf389 : MF K s.heap H388 a0 [0, 62] := MF.arr wH388 (G_ne ga0 gq386 (by decide)) mf377
            have g390 : CG (avw K H388 a0) := CG.congr (fun k hk j => av_arr hTH376 ga0 wH388 gq386 (by decide) (CG_ok 157 (by decide) k hk)) g378
            have g391 : TU (avw K H388 a0) (svw K H388 a0) := TU.congr (fun k hk j => av_arr hTH376 ga0 wH388 gq386 (by decide) (TU_ok 157 (by decide) k hk)) (fun k hk => sv_arr ga0 wH388 gq386 (by decide)) g379
            have g392 : WD (avw K H388 a0) := WD.congr (fun k hk j => av_arr hTH376 ga0 wH388 gq386 (by decide) (WD_ok 157 (by decide) k hk)) g380
            have g393 : IM (avw K H388 a0) := IM.congr (fun k hk j => av_arr hTH376 ga0 wH388 gq386 (by decide) (IM_ok 157 (by decide) k hk)) g381
            have m394 := m382.trans (Wr.neI wH388 (Or.inl (G_ne ga0 gq386 (by decide)))).symm
            have m395 := (Wr.neI wH388 (Or.inl (G_ne ga0 gq386 (by decide)))).trans m383
            have m396 := m384.trans (Wr.neR wH388 (Or.inl (G_ne ga0 gq386 (by decide)))).symm
            have m397 := m385.trans (Wr.neI wH388 (Or.inl (G_ne gq374 gq386 (by decide)))).symm
            have m398 := eq386.trans (Wr.neR wH388 (Or.inl (G_ne ga0 gq386 (by decide)))).symm
            have m399 := Wr.I wH388
            have m399 := m399.symm
            refine lv_aload_n hx hb dX10_note_59 rfl (lv_at hl 0 rfl) ?_
            refine lv_aload_n hx hb dX10_note_60 rfl (lv_at hl 0 rfl) ?_
            refine x_gi C hTH388 (ci := 10) (k := 62) rfl inX10 (by decide) wF_X10_455 ga0 rg_112 rfl dX10_note_61 (fun x400 ex400 bx400 => ?_)
            have ux400 : s13 = x400 := (m394).trans ex400.symm
            subst ux400
            refine lv_iconst (v := 1) hx hb dX10_note_64 (by decide) ?_
            refine lv_iadd hx hb dX10_note_65 ?_
            refine lv_topi (fun x401 ex401 => ?_)
            have tx401 := i_add ex401 (by omega)
            refine x_put C hTH388 hSH388 (ci := 10) (k := 62) (v := .int x401) (ty0 := tyX10) rfl inX10 tyX10_ok nmX10 (by decide) rfl wF_X10_455 ga0 rg_112 rfl rfl (okI (by have := i_rng x401; omega) (by have := i_rng x401; omega)) rfl rfl (AE_in ga0 (by decide)) dX10_note_66 (fun H402 locsH402 hTH402 hSH402 wH402 => ?_)
            have mf403 : MF K s.heap H402 a0 [0, 62] := MF.fld hap wH402 (by decide) (by decide) mf389
            have g404 : CG (avw K H402 a0) := CG.congr (fun k hk j => av_fld hTH388 ga0 hap wH402 (by decide) (CG_ok 112 (by decide) k hk) (CG_ne 62 (by decide) k hk)) g390
            have g405 : TU (avw K H402 a0) (svw K H402 a0) := TU.congr (fun k hk j => av_fld hTH388 ga0 hap wH402 (by decide) (TU_ok 112 (by decide) k hk) (TU_ne 62 (by decide) k hk)) (fun k hk => sv_fld hap wH402 (by decide) (TU_slt k hk) (TU_sne 62 (by decide) k hk)) g391
            have g406 : WD (avw K H402 a0) := WD.congr (fun k hk j => av_fld hTH388 ga0 hap wH402 (by decide) (WD_ok 112 (by decide) k hk) (WD_ne 62 (by decide) k hk)) g392
            have g407 : IM (avw K H402 a0) := IM.congr (fun k hk j => av_fld hTH388 ga0 hap wH402 (by decide) (IM_ok 112 (by decide) k hk) (IM_ne 62 (by decide) k hk)) g393
            have m409 := (Wr.neI wH402 (Or.inr (x_apart hKT hts inX10 tyX10 tyX10_ok nmX10 rfl 0 62 (by decide) (by decide) (by decide)))).trans m395
            have m410 := m396.trans (Wr.neR wH402 (Or.inr (x_apart hKT hts inX10 tyX10 tyX10_ok nmX10 rfl 63 62 (by decide) (by decide) (by decide)))).symm
            have m411 := m397.trans (Wr.neI wH402 (Or.inl (G_ne gq374 ga0 (by decide)))).symm
            have m412 := m398.trans (Wr.neR wH402 (Or.inr (x_apart hKT hts inX10 tyX10 tyX10_ok nmX10 rfl 64 62 (by decide) (by decide) (by decide)))).symm
            have m413 := m399.trans (Wr.neI wH402 (Or.inl (G_ne gq386 ga0 (by decide)))).symm
            have m414 := Wr.I wH402
            have m414 := m414.symm
            refine lv_aload_n hx hb dX10_note_69 rfl (lv_at hl 0 rfl) ?_
            refine x_gi C hTH402 (ci := 10) (k := 62) rfl inX10 (by decide) wF_X10_455 ga0 rg_112 rfl dX10_note_70 (fun x415 ex415 bx415 => ?_)
            have ux415 : x401 = x415 := (m414).trans ex415.symm
            subst ux415
            refine lv_iconst (v := 1) hx hb dX10_note_73 (by decide) ?_
            refine lv_isub hx hb dX10_note_74 ?_
            refine lv_topi (fun x416 ex416 => ?_)
            have tx416 := i_sub ex416 (by omega)
            exact x_iret C hQ dX10_note_75 hSH402 (by decide) (by decide) (⟨x416, x401, rfl, m414, by omega, g404, g405, g406, g407, mf403, hTH402⟩)
          · have k373 := i_eq c372
            refine lv_iconst (v := (-1)) hx hb dX10_note_37 (by decide) ?_
            exact x_iret C hQ dX10_note_38 hSH368 (by decide) (by decide) (⟨(-1), s13, rfl, m363, by omega, g359, g360, g361, g362, mf358, hTH357⟩)
      · subst hvH368
        refine W.eq (g2 := F0 m 25 ls [.int 0]) rfl ?_
        refine lv_if_eq (tgt := 37) hx hb dX10_note_25 (by decide) (fun c417 => ?_) (fun c417 => ?_)
        · have k418 := i_eq c417
          refine lv_iconst (v := (-1)) hx hb dX10_note_37 (by decide) ?_
          exact x_iret C hQ dX10_note_38 hSH368 (by decide) (by decide) (⟨(-1), s13, rfl, m363, by omega, g359, g360, g361, g362, mf358, hTH357⟩)
        · have k418 := i_ne c417
          exfalso
          omega
  · subst hvH365
    refine W.eq (g2 := F0 m 14 ls [.int 0]) rfl ?_
    refine lv_if_eq (tgt := 37) hx hb dX10_note_14 (by decide) (fun c419 => ?_) (fun c419 => ?_)
    · have k420 := i_eq c419
      refine lv_iconst (v := (-1)) hx hb dX10_note_37 (by decide) ?_
      exact x_iret C hQ dX10_note_38 hSH365 (by decide) (by decide) (⟨(-1), s13, rfl, m363, by omega, g359, g360, g361, g362, mf358, hTH357⟩)
    · have k420 := i_ne c419
      exfalso
      omega

set_option maxHeartbeats 4000000 in
set_option maxRecDepth 100000 in
theorem a_X9_blank_r (l : Launch) (K : KE) (G : Nat → Option Nat) (H : Heap) {a0 : Nat} (x1 : Int32) (x2 : Int32) {wq : Nat} {bq : Nat} (s1 : Int32) (s4 : Int32) (s5 : Int32) (s10 : Int32) (s13 : Int32) (s16 : Int32) (hT : TY K G H) (ga0 : G a0 = some 68) (gwq : G wq = some 0) (ewq : wq = fR H a0 (K.1.2 9 0)) (gbq : G bq = some 25) (ebq : bq = fR H wq (K.1.2 8 0)) (es1 : s1 = fI H wq (K.1.2 8 1)) (es4 : s4 = fI H wq (K.1.2 8 4)) (es5 : s5 = fI H wq (K.1.2 8 5)) (es10 : s10 = fI H wq (K.1.2 8 10)) (es13 : s13 = fI H wq (K.1.2 8 13)) (es16 : s16 = fI H wq (K.1.2 8 16)) : MX l K yX9_blank cX9_blank 3 (some .int) 1 22 0 0 [.ref a0, .int x1, .int x2] H (AE G [0, 32, 33] H.size) (fun v H1 => ∃ (r : Int32) (t0 : Int32) (t1 : Int32) (t2 : Int32) (t3 : Int32) (t4 : Int32) (t5 : Int32), v = some (.int r) ∧ t0 = fI H1 wq (K.1.2 8 1) ∧ t1 = fI H1 wq (K.1.2 8 4) ∧ t2 = fI H1 wq (K.1.2 8 5) ∧ t3 = fI H1 wq (K.1.2 8 10) ∧ t4 = fI H1 wq (K.1.2 8 13) ∧ t5 = fI H1 wq (K.1.2 8 16) ∧ (((1 ≤ x1.toInt ∧ x1.toInt ≤ 99 ∧ 0 ≤ x2.toInt ∧ x2.toInt ≤ 99 ∧ s16.toInt ≤ 7 ∧ r.toInt = s16.toInt ∧ t5.toInt = s16.toInt + 1) ∨ ((x1.toInt < 1 ∨ 99 < x1.toInt ∨ x2.toInt < 0 ∨ 99 < x2.toInt ∨ 7 < s16.toInt) ∧ r.toInt = -1 ∧ t5.toInt = s16.toInt)) ∧ t0.toInt = s1.toInt ∧ t1.toInt = s4.toInt ∧ t2.toInt = s5.toInt ∧ t3.toInt = s10.toInt ∧ t4.toInt = s13.toInt) ∧ bq = fR H1 wq (K.1.2 8 0) ∧ TY K G H1) := by
  refine MX.of (by decide +kernel) (Nat.le_of_ble_eq_true rfl) ?_
  intro p e s m below meth c ls Q C hH hl hQ
  subst hH
  have C : CX p K s m _ meth c RX9 cX9_blank 3 (some .int) "blank" := C
  obtain ⟨hx, hb, hml, hown, hts, hKT, hr, hlocks, hnm⟩ := id C
  have hl : lv_has ls 3 [(0, .ref a0), (1, .int x1), (2, .int x2)] := hl
  have hS : va_S (AE G [0, 32, 33] s.heap.size) s.heap s.heap [] := va_S.rf
  have n_m1 : ((-1) : Int32).toInt = -1 := rfl
  have n_0 : (0 : Int32).toInt = 0 := rfl
  have n_1 : (1 : Int32).toInt = 1 := rfl
  have n_8 : (8 : Int32).toInt = 8 := rfl
  have n_99 : (99 : Int32).toInt = 99 := rfl
  have bs1 := ty_fi (x := s1) (k := 1) es1 hT gwq rg_0 rfl
  have bs4 := ty_fi (x := s4) (k := 4) es4 hT gwq rg_0 rfl
  have bs5 := ty_fi (x := s5) (k := 5) es5 hT gwq rg_0 rfl
  have bs10 := ty_fi (x := s10) (k := 10) es10 hT gwq rg_0 rfl
  have bs13 := ty_fi (x := s13) (k := 13) es13 hT gwq rg_0 rfl
  have bs16 := ty_fi (x := s16) (k := 16) es16 hT gwq rg_0 rfl
  refine lv_iload_n hx hb dX9_blank_0 rfl (lv_at hl 1 rfl) ?_
  refine lv_iconst (v := 1) hx hb dX9_blank_1 (by decide) ?_
  refine lv_bipush (v := 99) hx hb dX9_blank_2 (by decide) ?_
  refine x_S (As := [.int x1, .int 1, .int 99]) (rest := []) C (c_X9_within l K G s.heap (x1) (1) (99) hT) yo_X9_within wM_X9_89 ⟨⟨by decide, by decide⟩, by decide, by decide⟩ rfl hl.1 rfl (Nat.le_of_ble_eq_true rfl) dX9_blank_4 hS (AE_sub (fun _ _ => rfl) (by decide) hS.1) (fun vH365 H365 locsH365 pH365 zH365 kH365 hSH365 => ?_)
  have hqH365 := pH365.1.symm
  subst hqH365
  rcases pH365.2 with ⟨hvH365, hcH365⟩ | ⟨hvH365, hcH365⟩
  · subst hvH365
    refine W.eq (g2 := F0 m 7 ls [.int 1]) rfl ?_
    refine lv_if_eq (tgt := 32) hx hb dX9_blank_7 (by decide) (fun c366 => ?_) (fun c366 => ?_)
    · have k367 := i_eq c366
      exfalso
      omega
    · have k367 := i_ne c366
      refine lv_iload_n hx hb dX9_blank_10 rfl (lv_at hl 2 rfl) ?_
      refine lv_iconst (v := 0) hx hb dX9_blank_11 (by decide) ?_
      refine lv_bipush (v := 99) hx hb dX9_blank_12 (by decide) ?_
      refine x_S (As := [.int x2, .int 0, .int 99]) (rest := []) C (c_X9_within l K G s.heap (x2) (0) (99) hT) yo_X9_within wM_X9_89 ⟨⟨by decide, by decide⟩, by decide, by decide⟩ rfl hl.1 rfl (Nat.le_of_ble_eq_true rfl) dX9_blank_14 hSH365 (AE_sub (fun _ _ => rfl) (by decide) hSH365.1) (fun vH368 H368 locsH368 pH368 zH368 kH368 hSH368 => ?_)
      have hqH368 := pH368.1.symm
      subst hqH368
      rcases pH368.2 with ⟨hvH368, hcH368⟩ | ⟨hvH368, hcH368⟩
      · subst hvH368
        refine W.eq (g2 := F0 m 17 ls [.int 1]) rfl ?_
        refine lv_if_eq (tgt := 32) hx hb dX9_blank_17 (by decide) (fun c369 => ?_) (fun c369 => ?_)
        · have k370 := i_eq c369
          exfalso
          omega
        · have k370 := i_ne c369
          refine lv_aload_n hx hb dX9_blank_20 rfl (lv_at hl 0 rfl) ?_
          refine x_gr C hT (ci := 9) (k := 0) rfl inX9 (by decide) wF_X9_12 ga0 rg_68 rfl dX9_blank_21 (fun q371 eq371 gq371 => ?_)
          have uq371 : wq = q371 := (ewq).trans eq371.symm
          subst uq371
          refine x_gi C hT (ci := 8) (k := 16) rfl inX8 (by decide) wF_X9_326 gwq rg_0 rfl dX9_blank_24 (fun x372 ex372 bx372 => ?_)
          have ux372 : s16 = x372 := (es16).trans ex372.symm
          subst ux372
          refine lv_bipush (v := 8) hx hb dX9_blank_27 (by decide) ?_
          refine lv_icmp_lt (tgt := 34) hx hb dX9_blank_29 (by decide) (fun c373 => ?_) (fun c373 => ?_)
          · have k374 := i_lt c373
            refine lv_aload_n hx hb dX9_blank_34 rfl (lv_at hl 0 rfl) ?_
            refine x_gr C hT (ci := 9) (k := 0) rfl inX9 (by decide) wF_X9_12 ga0 rg_68 rfl dX9_blank_35 (fun q375 eq375 gq375 => ?_)
            have uq375 : wq = q375 := (ewq).trans eq375.symm
            subst uq375
            refine x_gr C hT (ci := 8) (k := 14) rfl inX8 (by decide) wF_X9_329 gwq rg_0 rfl dX9_blank_38 (fun q376 eq376 gq376 => ?_)
            refine lv_aload_n hx hb dX9_blank_41 rfl (lv_at hl 0 rfl) ?_
            refine x_gr C hT (ci := 9) (k := 0) rfl inX9 (by decide) wF_X9_12 ga0 rg_68 rfl dX9_blank_42 (fun q377 eq377 gq377 => ?_)
            have uq377 : wq = q377 := (ewq).trans eq377.symm
            subst uq377
            refine x_gi C hT (ci := 8) (k := 16) rfl inX8 (by decide) wF_X9_326 gwq rg_0 rfl dX9_blank_45 (fun x378 ex378 bx378 => ?_)
            have ux378 : s16 = x378 := (es16).trans ex378.symm
            subst ux378
            refine lv_iload_n hx hb dX9_blank_48 rfl (lv_at hl 1 rfl) ?_
            refine x_iast C hT hSH368 gq376 rg_32 (by omega) (by show _ < ((8 : Nat) : Int); omega) ⟨by have := i_rng x1; omega, by have := i_rng x1; omega⟩ (AE_in gq376 (by decide)) dX9_blank_49 (fun H379 locsH379 hTH379 hSH379 wH379 => ?_)
            have m380 := ewq.trans (Wr.neR wH379 (Or.inl (G_ne ga0 gq376 (by decide)))).symm
            have m381 := ebq.trans (Wr.neR wH379 (Or.inl (G_ne gwq gq376 (by decide)))).symm
            have m382 := es1.trans (Wr.neI wH379 (Or.inl (G_ne gwq gq376 (by decide)))).symm
            have m383 := es4.trans (Wr.neI wH379 (Or.inl (G_ne gwq gq376 (by decide)))).symm
            have m384 := es5.trans (Wr.neI wH379 (Or.inl (G_ne gwq gq376 (by decide)))).symm
            have m385 := es10.trans (Wr.neI wH379 (Or.inl (G_ne gwq gq376 (by decide)))).symm
            have m386 := es13.trans (Wr.neI wH379 (Or.inl (G_ne gwq gq376 (by decide)))).symm
            have m387 := es16.trans (Wr.neI wH379 (Or.inl (G_ne gwq gq376 (by decide)))).symm
            have m388 := eq376.trans (Wr.neR wH379 (Or.inl (G_ne gwq gq376 (by decide)))).symm
            have m389 := Wr.I wH379
            have m389 := m389.symm
            refine lv_aload_n hx hb dX9_blank_50 rfl (lv_at hl 0 rfl) ?_
            refine x_gr C hTH379 (ci := 9) (k := 0) rfl inX9 (by decide) wF_X9_12 ga0 rg_68 rfl dX9_blank_51 (fun q390 eq390 gq390 => ?_)
            have uq390 : wq = q390 := (m380).trans eq390.symm
            subst uq390
            refine x_gr C hTH379 (ci := 8) (k := 15) rfl inX8 (by decide) wF_X9_332 gwq rg_0 rfl dX9_blank_54 (fun q391 eq391 gq391 => ?_)
            refine lv_aload_n hx hb dX9_blank_57 rfl (lv_at hl 0 rfl) ?_
            refine x_gr C hTH379 (ci := 9) (k := 0) rfl inX9 (by decide) wF_X9_12 ga0 rg_68 rfl dX9_blank_58 (fun q392 eq392 gq392 => ?_)
            have uq392 : wq = q392 := (m380).trans eq392.symm
            subst uq392
            refine x_gi C hTH379 (ci := 8) (k := 16) rfl inX8 (by decide) wF_X9_326 gwq rg_0 rfl dX9_blank_61 (fun x393 ex393 bx393 => ?_)
            have ux393 : s16 = x393 := (m387).trans ex393.symm
            subst ux393
            refine lv_iload_n hx hb dX9_blank_64 rfl (lv_at hl 2 rfl) ?_
            refine x_iast C hTH379 hSH379 gq391 rg_33 (by omega) (by show _ < ((8 : Nat) : Int); omega) ⟨by have := i_rng x2; omega, by have := i_rng x2; omega⟩ (AE_in gq391 (by decide)) dX9_blank_65 (fun H394 locsH394 hTH394 hSH394 wH394 => ?_)
            have m395 := m380.trans (Wr.neR wH394 (Or.inl (G_ne ga0 gq391 (by decide)))).symm
            have m396 := m381.trans (Wr.neR wH394 (Or.inl (G_ne gwq gq391 (by decide)))).symm
            have m397 := m382.trans (Wr.neI wH394 (Or.inl (G_ne gwq gq391 (by decide)))).symm
            have m398 := m383.trans (Wr.neI wH394 (Or.inl (G_ne gwq gq391 (by decide)))).symm
            have m399 := m384.trans (Wr.neI wH394 (Or.inl (G_ne gwq gq391 (by decide)))).symm
            have m400 := m385.trans (Wr.neI wH394 (Or.inl (G_ne gwq gq391 (by decide)))).symm
            have m401 := m386.trans (Wr.neI wH394 (Or.inl (G_ne gwq gq391 (by decide)))).symm
            have m402 := m387.trans (Wr.neI wH394 (Or.inl (G_ne gwq gq391 (by decide)))).symm
            have m403 := m388.trans (Wr.neR wH394 (Or.inl (G_ne gwq gq391 (by decide)))).symm
            have m404 := m389.trans (Wr.neI wH394 (Or.inl (G_ne gq376 gq391 (by decide)))).symm
            have m405 := eq391.trans (Wr.neR wH394 (Or.inl (G_ne gwq gq391 (by decide)))).symm
            have m406 := Wr.I wH394
            have m406 := m406.symm
            refine lv_aload_n hx hb dX9_blank_66 rfl (lv_at hl 0 rfl) ?_
            refine x_gr C hTH394 (ci := 9) (k := 0) rfl inX9 (by decide) wF_X9_12 ga0 rg_68 rfl dX9_blank_67 (fun q407 eq407 gq407 => ?_)
            have uq407 : wq = q407 := (m395).trans eq407.symm
            subst uq407
            refine lv_dup hx hb dX9_blank_70 rfl ?_
            refine x_gi C hTH394 (ci := 8) (k := 16) rfl inX8 (by decide) wF_X9_326 gwq rg_0 rfl dX9_blank_71 (fun x408 ex408 bx408 => ?_)
            have ux408 : s16 = x408 := (m402).trans ex408.symm
            subst ux408
            refine lv_iconst (v := 1) hx hb dX9_blank_74 (by decide) ?_
            refine lv_iadd hx hb dX9_blank_75 ?_
            refine lv_topi (fun x409 ex409 => ?_)
            have tx409 := i_add ex409 (by omega)
            refine x_put C hTH394 hSH394 (ci := 8) (k := 16) (v := .int x409) (ty0 := tyX8) rfl inX8 tyX8_ok nmX8 (by decide) rfl wF_X9_326 gwq rg_0 rfl rfl (okI (by have := i_rng x409; omega) (by have := i_rng x409; omega)) rfl rfl (AE_in gwq (by decide)) dX9_blank_76 (fun H410 locsH410 hTH410 hSH410 wH410 => ?_)
            have m411 := m395.trans (Wr.neR wH410 (Or.inl (G_ne ga0 gwq (by decide)))).symm
            have m412 := m396.trans (Wr.neR wH410 (Or.inr (x_apart hKT hts inX8 tyX8 tyX8_ok nmX8 rfl 0 16 (by decide) (by decide) (by decide)))).symm
            have m413 := m397.trans (Wr.neI wH410 (Or.inr (x_apart hKT hts inX8 tyX8 tyX8_ok nmX8 rfl 1 16 (by decide) (by decide) (by decide)))).symm
            have m414 := m398.trans (Wr.neI wH410 (Or.inr (x_apart hKT hts inX8 tyX8 tyX8_ok nmX8 rfl 4 16 (by decide) (by decide) (by decide)))).symm
            have m415 := m399.trans (Wr.neI wH410 (Or.inr (x_apart hKT hts inX8 tyX8 tyX8_ok nmX8 rfl 5 16 (by decide) (by decide) (by decide)))).symm
            have m416 := m400.trans (Wr.neI wH410 (Or.inr (x_apart hKT hts inX8 tyX8 tyX8_ok nmX8 rfl 10 16 (by decide) (by decide) (by decide)))).symm
            have m417 := m401.trans (Wr.neI wH410 (Or.inr (x_apart hKT hts inX8 tyX8 tyX8_ok nmX8 rfl 13 16 (by decide) (by decide) (by decide)))).symm
            have m419 := m403.trans (Wr.neR wH410 (Or.inr (x_apart hKT hts inX8 tyX8 tyX8_ok nmX8 rfl 14 16 (by decide) (by decide) (by decide)))).symm
            have m420 := m404.trans (Wr.neI wH410 (Or.inl (G_ne gq376 gwq (by decide)))).symm
            have m421 := m405.trans (Wr.neR wH410 (Or.inr (x_apart hKT hts inX8 tyX8 tyX8_ok nmX8 rfl 15 16 (by decide) (by decide) (by decide)))).symm
            have m422 := m406.trans (Wr.neI wH410 (Or.inl (G_ne gq391 gwq (by decide)))).symm
            have m423 := Wr.I wH410
            have m423 := m423.symm
            refine lv_aload_n hx hb dX9_blank_79 rfl (lv_at hl 0 rfl) ?_
            refine x_gr C hTH410 (ci := 9) (k := 0) rfl inX9 (by decide) wF_X9_12 ga0 rg_68 rfl dX9_blank_80 (fun q424 eq424 gq424 => ?_)
            have uq424 : wq = q424 := (m411).trans eq424.symm
            subst uq424
            refine x_gi C hTH410 (ci := 8) (k := 16) rfl inX8 (by decide) wF_X9_326 gwq rg_0 rfl dX9_blank_83 (fun x425 ex425 bx425 => ?_)
            have ux425 : x409 = x425 := (m423).trans ex425.symm
            subst ux425
            refine lv_iconst (v := 1) hx hb dX9_blank_86 (by decide) ?_
            refine lv_isub hx hb dX9_blank_87 ?_
            refine lv_topi (fun x426 ex426 => ?_)
            have tx426 := i_sub ex426 (by omega)
            exact x_iret C hQ dX9_blank_88 hSH410 (by decide) (by decide) (⟨x426, s1, s4, s5, s10, s13, x409, rfl, m413, m414, m415, m416, m417, m423, by omega, m412, hTH410⟩)
          · have k374 := i_nlt c373
            refine lv_iconst (v := (-1)) hx hb dX9_blank_32 (by decide) ?_
            exact x_iret C hQ dX9_blank_33 hSH368 (by decide) (by decide) (⟨(-1), s1, s4, s5, s10, s13, s16, rfl, es1, es4, es5, es10, es13, es16, by omega, ebq, hT⟩)
      · subst hvH368
        refine W.eq (g2 := F0 m 17 ls [.int 0]) rfl ?_
        refine lv_if_eq (tgt := 32) hx hb dX9_blank_17 (by decide) (fun c427 => ?_) (fun c427 => ?_)
        · have k428 := i_eq c427
          refine lv_iconst (v := (-1)) hx hb dX9_blank_32 (by decide) ?_
          exact x_iret C hQ dX9_blank_33 hSH368 (by decide) (by decide) (⟨(-1), s1, s4, s5, s10, s13, s16, rfl, es1, es4, es5, es10, es13, es16, by omega, ebq, hT⟩)
        · have k428 := i_ne c427
          exfalso
          omega
  · subst hvH365
    refine W.eq (g2 := F0 m 7 ls [.int 0]) rfl ?_
    refine lv_if_eq (tgt := 32) hx hb dX9_blank_7 (by decide) (fun c429 => ?_) (fun c429 => ?_)
    · have k430 := i_eq c429
      refine lv_iconst (v := (-1)) hx hb dX9_blank_32 (by decide) ?_
      exact x_iret C hQ dX9_blank_33 hSH365 (by decide) (by decide) (⟨(-1), s1, s4, s5, s10, s13, s16, rfl, es1, es4, es5, es10, es13, es16, by omega, ebq, hT⟩)
    · have k430 := i_ne c429
      exfalso
      omega

set_option maxHeartbeats 4000000 in
set_option maxRecDepth 100000 in
theorem a_X10_blank_r (l : Launch) (K : KE) (G : Nat → Option Nat) (H : Heap) {a0 : Nat} (x1 : Int32) (x2 : Int32) (s16 : Int32) (hT : TY K G H) (ga0 : G a0 = some 112) (es16 : s16 = fI H a0 (K.1.2 10 65)) (hg_CG : CG (avw K H a0)) (hg_TU : TU (avw K H a0) (svw K H a0)) (hg_WD : WD (avw K H a0)) (hg_IM : IM (avw K H a0)) : MX l K yX10_blank cX10_blank 3 (some .int) 1 23 0 0 [.ref a0, .int x1, .int x2] H (AE G [112, 158, 159] H.size) (fun v H1 => ∃ (r : Int32) (t0 : Int32), v = some (.int r) ∧ t0 = fI H1 a0 (K.1.2 10 65) ∧ ((1 ≤ x1.toInt ∧ x1.toInt ≤ 99 ∧ 0 ≤ x2.toInt ∧ x2.toInt ≤ 99 ∧ s16.toInt ≤ 7 ∧ r.toInt = s16.toInt ∧ t0.toInt = s16.toInt + 1) ∨ ((x1.toInt < 1 ∨ 99 < x1.toInt ∨ x2.toInt < 0 ∨ 99 < x2.toInt ∨ 7 < s16.toInt) ∧ r.toInt = -1 ∧ t0.toInt = s16.toInt)) ∧ (CG (avw K H1 a0)) ∧ (TU (avw K H1 a0) (svw K H1 a0)) ∧ (WD (avw K H1 a0)) ∧ (IM (avw K H1 a0)) ∧ MF K H H1 a0 [0, 65] ∧ TY K G H1) := by
  refine MX.of (by decide +kernel) (Nat.le_of_ble_eq_true rfl) ?_
  intro p e s m below meth c ls Q C hH hl hQ
  subst hH
  have C : CX p K s m _ meth c RX10 cX10_blank 3 (some .int) "blank" := C
  obtain ⟨hx, hb, hml, hown, hts, hKT, hr, hlocks, hnm⟩ := id C
  have hl : lv_has ls 3 [(0, .ref a0), (1, .int x1), (2, .int x2)] := hl
  have hS : va_S (AE G [112, 158, 159] s.heap.size) s.heap s.heap [] := va_S.rf
  have n_m1 : ((-1) : Int32).toInt = -1 := rfl
  have n_0 : (0 : Int32).toInt = 0 := rfl
  have n_1 : (1 : Int32).toInt = 1 := rfl
  have n_8 : (8 : Int32).toInt = 8 := rfl
  have n_99 : (99 : Int32).toInt = 99 := rfl
  have bs16 := ty_fi (x := s16) (k := 65) es16 hT ga0 rg_112 rfl
  have hap : ∀ x y, x < 74 → y < 74 → x ≠ y → K.1.2 10 x ≠ K.1.2 10 y := x_apart hKT hts inX10 tyX10 tyX10_ok nmX10 rfl
  have mf0 : MF K s.heap s.heap a0 [0, 65] := fun _ _ _ => rfl
  refine lv_aload_n hx hb dX10_blank_0 rfl (lv_at hl 0 rfl) ?_
  refine lv_iconst (v := 0) hx hb dX10_blank_1 (by decide) ?_
  refine x_put C hT hS (ci := 10) (k := 0) (v := .int 0) (ty0 := tyX10) rfl inX10 tyX10_ok nmX10 (by decide) rfl wF_X10_167 ga0 rg_112 rfl rfl (okI (by have := i_rng (0 : Int32); omega) (by have := i_rng (0 : Int32); omega)) rfl rfl (AE_in ga0 (by decide)) dX10_blank_2 (fun H357 locsH357 hTH357 hSH357 wH357 => ?_)
  have mf358 : MF K s.heap H357 a0 [0, 65] := MF.fld hap wH357 (by decide) (by decide) mf0
  have g359 : CG (avw K H357 a0) := CG.congr (fun k hk j => av_fld hT ga0 hap wH357 (by decide) (CG_ok 112 (by decide) k hk) (CG_ne 0 (by decide) k hk)) hg_CG
  have g360 : TU (avw K H357 a0) (svw K H357 a0) := TU.congr (fun k hk j => av_fld hT ga0 hap wH357 (by decide) (TU_ok 112 (by decide) k hk) (TU_ne 0 (by decide) k hk)) (fun k hk => sv_fld hap wH357 (by decide) (TU_slt k hk) (TU_sne 0 (by decide) k hk)) hg_TU
  have g361 : WD (avw K H357 a0) := WD.congr (fun k hk j => av_fld hT ga0 hap wH357 (by decide) (WD_ok 112 (by decide) k hk) (WD_ne 0 (by decide) k hk)) hg_WD
  have g362 : IM (avw K H357 a0) := IM.congr (fun k hk j => av_fld hT ga0 hap wH357 (by decide) (IM_ok 112 (by decide) k hk) (IM_ne 0 (by decide) k hk)) hg_IM
  have m363 := es16.trans (Wr.neI wH357 (Or.inr (x_apart hKT hts inX10 tyX10 tyX10_ok nmX10 rfl 65 0 (by decide) (by decide) (by decide)))).symm
  have m364 := Wr.I wH357
  refine lv_aload_n hx hb dX10_blank_5 rfl (lv_at hl 0 rfl) ?_
  refine lv_iload_n hx hb dX10_blank_6 rfl (lv_at hl 1 rfl) ?_
  refine lv_iconst (v := 1) hx hb dX10_blank_7 (by decide) ?_
  refine lv_bipush (v := 99) hx hb dX10_blank_8 (by decide) ?_
  refine x_V (As := [.int x1, .int 1, .int 99]) (rest := []) C (c_X10_isIn l K G H357 (x1) (1) (99) hTH357 ga0) yo_X10_isIn wM_X10_177 ⟨⟨by decide, by decide⟩, by decide, by decide⟩ (x_rv C hTH357 (ci := 10) rfl ga0 rg_112) rfl hl.1 rfl (Nat.le_of_ble_eq_true rfl) dX10_blank_10 hSH357 (AE_sub (fun _ _ => rfl) (by decide) hSH357.1) (fun vH365 H365 locsH365 pH365 zH365 kH365 hSH365 => ?_)
  have hqH365 := pH365.1.symm
  subst hqH365
  rcases pH365.2 with ⟨hvH365, hcH365⟩ | ⟨hvH365, hcH365⟩
  · subst hvH365
    refine W.eq (g2 := F0 m 13 ls [.int 1]) rfl ?_
    refine lv_if_eq (tgt := 36) hx hb dX10_blank_13 (by decide) (fun c366 => ?_) (fun c366 => ?_)
    · have k367 := i_eq c366
      exfalso
      omega
    · have k367 := i_ne c366
      refine lv_aload_n hx hb dX10_blank_16 rfl (lv_at hl 0 rfl) ?_
      refine lv_iload_n hx hb dX10_blank_17 rfl (lv_at hl 2 rfl) ?_
      refine lv_iconst (v := 0) hx hb dX10_blank_18 (by decide) ?_
      refine lv_bipush (v := 99) hx hb dX10_blank_19 (by decide) ?_
      refine x_V (As := [.int x2, .int 0, .int 99]) (rest := []) C (c_X10_isIn l K G H357 (x2) (0) (99) hTH357 ga0) yo_X10_isIn wM_X10_177 ⟨⟨by decide, by decide⟩, by decide, by decide⟩ (x_rv C hTH357 (ci := 10) rfl ga0 rg_112) rfl hl.1 rfl (Nat.le_of_ble_eq_true rfl) dX10_blank_21 hSH365 (AE_sub (fun _ _ => rfl) (by decide) hSH365.1) (fun vH368 H368 locsH368 pH368 zH368 kH368 hSH368 => ?_)
      have hqH368 := pH368.1.symm
      subst hqH368
      rcases pH368.2 with ⟨hvH368, hcH368⟩ | ⟨hvH368, hcH368⟩
      · subst hvH368
        refine W.eq (g2 := F0 m 24 ls [.int 1]) rfl ?_
        refine lv_if_eq (tgt := 36) hx hb dX10_blank_24 (by decide) (fun c369 => ?_) (fun c369 => ?_)
        · have k370 := i_eq c369
          exfalso
          omega
        · have k370 := i_ne c369
          refine lv_aload_n hx hb dX10_blank_27 rfl (lv_at hl 0 rfl) ?_
          refine x_gi C hTH357 (ci := 10) (k := 65) rfl inX10 (by decide) wF_X10_458 ga0 rg_112 rfl dX10_blank_28 (fun x371 ex371 bx371 => ?_)
          have ux371 : s16 = x371 := (m363).trans ex371.symm
          subst ux371
          refine lv_bipush (v := 8) hx hb dX10_blank_31 (by decide) ?_
          refine lv_icmp_ne (tgt := 38) hx hb dX10_blank_33 (by decide) (fun c372 => ?_) (fun c372 => ?_)
          · have k373 := i_ne c372
            refine lv_aload_n hx hb dX10_blank_38 rfl (lv_at hl 0 rfl) ?_
            refine x_gr C hTH357 (ci := 10) (k := 66) rfl inX10 (by decide) wF_X10_152 ga0 rg_112 rfl dX10_blank_39 (fun q374 eq374 gq374 => ?_)
            refine lv_aload_n hx hb dX10_blank_42 rfl (lv_at hl 0 rfl) ?_
            refine x_gi C hTH357 (ci := 10) (k := 65) rfl inX10 (by decide) wF_X10_458 ga0 rg_112 rfl dX10_blank_43 (fun x375 ex375 bx375 => ?_)
            have ux375 : s16 = x375 := (m363).trans ex375.symm
            subst ux375
            refine lv_iload_n hx hb dX10_blank_46 rfl (lv_at hl 1 rfl) ?_
            refine x_iast C hTH357 hSH368 gq374 rg_158 (by omega) (by show _ < ((8 : Nat) : Int); omega) ⟨by have := i_rng x1; omega, by have := i_rng x1; omega⟩ (AE_in gq374 (by decide)) dX10_blank_47 (fun H376 locsH376 hTH376 hSH376 wH376 => ?_)
            have mf377 : MF K s.heap H376 a0 [0, 65] := MF.arr wH376 (G_ne ga0 gq374 (by decide)) mf358
            have g378 : CG (avw K H376 a0) := CG.congr (fun k hk j => av_arr hTH357 ga0 wH376 gq374 (by decide) (CG_ok 158 (by decide) k hk)) g359
            have g379 : TU (avw K H376 a0) (svw K H376 a0) := TU.congr (fun k hk j => av_arr hTH357 ga0 wH376 gq374 (by decide) (TU_ok 158 (by decide) k hk)) (fun k hk => sv_arr ga0 wH376 gq374 (by decide)) g360
            have g380 : WD (avw K H376 a0) := WD.congr (fun k hk j => av_arr hTH357 ga0 wH376 gq374 (by decide) (WD_ok 158 (by decide) k hk)) g361
            have g381 : IM (avw K H376 a0) := IM.congr (fun k hk j => av_arr hTH357 ga0 wH376 gq374 (by decide) (IM_ok 158 (by decide) k hk)) g362
            have m382 := m363.trans (Wr.neI wH376 (Or.inl (G_ne ga0 gq374 (by decide)))).symm
            have m383 := (Wr.neI wH376 (Or.inl (G_ne ga0 gq374 (by decide)))).trans m364
            have m384 := eq374.trans (Wr.neR wH376 (Or.inl (G_ne ga0 gq374 (by decide)))).symm
            have m385 := Wr.I wH376
            have m385 := m385.symm
            refine lv_aload_n hx hb dX10_blank_48 rfl (lv_at hl 0 rfl) ?_
            refine x_gr C hTH376 (ci := 10) (k := 67) rfl inX10 (by decide) wF_X10_155 ga0 rg_112 rfl dX10_blank_49 (fun q386 eq386 gq386 => ?_)
            refine lv_aload_n hx hb dX10_blank_52 rfl (lv_at hl 0 rfl) ?_
            refine x_gi C hTH376 (ci := 10) (k := 65) rfl inX10 (by decide) wF_X10_458 ga0 rg_112 rfl dX10_blank_53 (fun x387 ex387 bx387 => ?_)
            have ux387 : s16 = x387 := (m382).trans ex387.symm
            subst ux387
            refine lv_iload_n hx hb dX10_blank_56 rfl (lv_at hl 2 rfl) ?_
            refine x_iast C hTH376 hSH376 gq386 rg_159 (by omega) (by show _ < ((8 : Nat) : Int); omega) ⟨by have := i_rng x2; omega, by have := i_rng x2; omega⟩ (AE_in gq386 (by decide)) dX10_blank_57 (fun H388 locsH388 hTH388 hSH388 wH388 => ?_)
            have mf389 : MF K s.heap H388 a0 [0, 65] := MF.arr wH388 (G_ne ga0 gq386 (by decide)) mf377
            have g390 : CG (avw K H388 a0) := CG.congr (fun k hk j => av_arr hTH376 ga0 wH388 gq386 (by decide) (CG_ok 159 (by decide) k hk)) g378
            have g391 : TU (avw K H388 a0) (svw K H388 a0) := TU.congr (fun k hk j => av_arr hTH376 ga0 wH388 gq386 (by decide) (TU_ok 159 (by decide) k hk)) (fun k hk => sv_arr ga0 wH388 gq386 (by decide)) g379
            have g392 : WD (avw K H388 a0) := WD.congr (fun k hk j => av_arr hTH376 ga0 wH388 gq386 (by decide) (WD_ok 159 (by decide) k hk)) g380
            have g393 : IM (avw K H388 a0) := IM.congr (fun k hk j => av_arr hTH376 ga0 wH388 gq386 (by decide) (IM_ok 159 (by decide) k hk)) g381
            have m394 := m382.trans (Wr.neI wH388 (Or.inl (G_ne ga0 gq386 (by decide)))).symm
            have m395 := (Wr.neI wH388 (Or.inl (G_ne ga0 gq386 (by decide)))).trans m383
            have m396 := m384.trans (Wr.neR wH388 (Or.inl (G_ne ga0 gq386 (by decide)))).symm
            have m397 := m385.trans (Wr.neI wH388 (Or.inl (G_ne gq374 gq386 (by decide)))).symm
            have m398 := eq386.trans (Wr.neR wH388 (Or.inl (G_ne ga0 gq386 (by decide)))).symm
            have m399 := Wr.I wH388
            have m399 := m399.symm
            refine lv_aload_n hx hb dX10_blank_58 rfl (lv_at hl 0 rfl) ?_
            refine lv_aload_n hx hb dX10_blank_59 rfl (lv_at hl 0 rfl) ?_
            refine x_gi C hTH388 (ci := 10) (k := 65) rfl inX10 (by decide) wF_X10_458 ga0 rg_112 rfl dX10_blank_60 (fun x400 ex400 bx400 => ?_)
            have ux400 : s16 = x400 := (m394).trans ex400.symm
            subst ux400
            refine lv_iconst (v := 1) hx hb dX10_blank_63 (by decide) ?_
            refine lv_iadd hx hb dX10_blank_64 ?_
            refine lv_topi (fun x401 ex401 => ?_)
            have tx401 := i_add ex401 (by omega)
            refine x_put C hTH388 hSH388 (ci := 10) (k := 65) (v := .int x401) (ty0 := tyX10) rfl inX10 tyX10_ok nmX10 (by decide) rfl wF_X10_458 ga0 rg_112 rfl rfl (okI (by have := i_rng x401; omega) (by have := i_rng x401; omega)) rfl rfl (AE_in ga0 (by decide)) dX10_blank_65 (fun H402 locsH402 hTH402 hSH402 wH402 => ?_)
            have mf403 : MF K s.heap H402 a0 [0, 65] := MF.fld hap wH402 (by decide) (by decide) mf389
            have g404 : CG (avw K H402 a0) := CG.congr (fun k hk j => av_fld hTH388 ga0 hap wH402 (by decide) (CG_ok 112 (by decide) k hk) (CG_ne 65 (by decide) k hk)) g390
            have g405 : TU (avw K H402 a0) (svw K H402 a0) := TU.congr (fun k hk j => av_fld hTH388 ga0 hap wH402 (by decide) (TU_ok 112 (by decide) k hk) (TU_ne 65 (by decide) k hk)) (fun k hk => sv_fld hap wH402 (by decide) (TU_slt k hk) (TU_sne 65 (by decide) k hk)) g391
            have g406 : WD (avw K H402 a0) := WD.congr (fun k hk j => av_fld hTH388 ga0 hap wH402 (by decide) (WD_ok 112 (by decide) k hk) (WD_ne 65 (by decide) k hk)) g392
            have g407 : IM (avw K H402 a0) := IM.congr (fun k hk j => av_fld hTH388 ga0 hap wH402 (by decide) (IM_ok 112 (by decide) k hk) (IM_ne 65 (by decide) k hk)) g393
            have m409 := (Wr.neI wH402 (Or.inr (x_apart hKT hts inX10 tyX10 tyX10_ok nmX10 rfl 0 65 (by decide) (by decide) (by decide)))).trans m395
            have m410 := m396.trans (Wr.neR wH402 (Or.inr (x_apart hKT hts inX10 tyX10 tyX10_ok nmX10 rfl 66 65 (by decide) (by decide) (by decide)))).symm
            have m411 := m397.trans (Wr.neI wH402 (Or.inl (G_ne gq374 ga0 (by decide)))).symm
            have m412 := m398.trans (Wr.neR wH402 (Or.inr (x_apart hKT hts inX10 tyX10 tyX10_ok nmX10 rfl 67 65 (by decide) (by decide) (by decide)))).symm
            have m413 := m399.trans (Wr.neI wH402 (Or.inl (G_ne gq386 ga0 (by decide)))).symm
            have m414 := Wr.I wH402
            have m414 := m414.symm
            refine lv_aload_n hx hb dX10_blank_68 rfl (lv_at hl 0 rfl) ?_
            refine x_gi C hTH402 (ci := 10) (k := 65) rfl inX10 (by decide) wF_X10_458 ga0 rg_112 rfl dX10_blank_69 (fun x415 ex415 bx415 => ?_)
            have ux415 : x401 = x415 := (m414).trans ex415.symm
            subst ux415
            refine lv_iconst (v := 1) hx hb dX10_blank_72 (by decide) ?_
            refine lv_isub hx hb dX10_blank_73 ?_
            refine lv_topi (fun x416 ex416 => ?_)
            have tx416 := i_sub ex416 (by omega)
            exact x_iret C hQ dX10_blank_74 hSH402 (by decide) (by decide) (⟨x416, x401, rfl, m414, by omega, g404, g405, g406, g407, mf403, hTH402⟩)
          · have k373 := i_eq c372
            refine lv_iconst (v := (-1)) hx hb dX10_blank_36 (by decide) ?_
            exact x_iret C hQ dX10_blank_37 hSH368 (by decide) (by decide) (⟨(-1), s16, rfl, m363, by omega, g359, g360, g361, g362, mf358, hTH357⟩)
      · subst hvH368
        refine W.eq (g2 := F0 m 24 ls [.int 0]) rfl ?_
        refine lv_if_eq (tgt := 36) hx hb dX10_blank_24 (by decide) (fun c417 => ?_) (fun c417 => ?_)
        · have k418 := i_eq c417
          refine lv_iconst (v := (-1)) hx hb dX10_blank_36 (by decide) ?_
          exact x_iret C hQ dX10_blank_37 hSH368 (by decide) (by decide) (⟨(-1), s16, rfl, m363, by omega, g359, g360, g361, g362, mf358, hTH357⟩)
        · have k418 := i_ne c417
          exfalso
          omega
  · subst hvH365
    refine W.eq (g2 := F0 m 13 ls [.int 0]) rfl ?_
    refine lv_if_eq (tgt := 36) hx hb dX10_blank_13 (by decide) (fun c419 => ?_) (fun c419 => ?_)
    · have k420 := i_eq c419
      refine lv_iconst (v := (-1)) hx hb dX10_blank_36 (by decide) ?_
      exact x_iret C hQ dX10_blank_37 hSH365 (by decide) (by decide) (⟨(-1), s16, rfl, m363, by omega, g359, g360, g361, g362, mf358, hTH357⟩)
    · have k420 := i_ne c419
      exfalso
      omega

set_option maxHeartbeats 4000000 in
set_option maxRecDepth 100000 in
theorem a_X9_force_r (l : Launch) (K : KE) (G : Nat → Option Nat) (H : Heap) {a0 : Nat} (x1 : Int32) {wq : Nat} {bq : Nat} (s1 : Int32) (s4 : Int32) (s5 : Int32) (s10 : Int32) (s13 : Int32) (s16 : Int32) (hT : TY K G H) (ga0 : G a0 = some 68) (gwq : G wq = some 0) (ewq : wq = fR H a0 (K.1.2 9 0)) (gbq : G bq = some 25) (ebq : bq = fR H wq (K.1.2 8 0)) (es1 : s1 = fI H wq (K.1.2 8 1)) (es4 : s4 = fI H wq (K.1.2 8 4)) (es5 : s5 = fI H wq (K.1.2 8 5)) (es10 : s10 = fI H wq (K.1.2 8 10)) (es13 : s13 = fI H wq (K.1.2 8 13)) (es16 : s16 = fI H wq (K.1.2 8 16)) : MX l K yX9_force cX9_force 3 (some .int) 1 22 0 0 [.ref a0, .int x1] H (AE G [0] H.size) (fun v H1 => ∃ (r : Int32) (t0 : Int32) (t1 : Int32) (t2 : Int32) (t3 : Int32) (t4 : Int32) (t5 : Int32), v = some (.int r) ∧ t0 = fI H1 wq (K.1.2 8 1) ∧ t1 = fI H1 wq (K.1.2 8 4) ∧ t2 = fI H1 wq (K.1.2 8 5) ∧ t3 = fI H1 wq (K.1.2 8 10) ∧ t4 = fI H1 wq (K.1.2 8 13) ∧ t5 = fI H1 wq (K.1.2 8 16) ∧ (((0 ≤ x1.toInt ∧ x1.toInt ≤ 1 ∧ r.toInt = s4.toInt ∧ t1.toInt = x1.toInt) ∨ ((x1.toInt < 0 ∨ 1 < x1.toInt) ∧ r.toInt = -1 ∧ t1.toInt = s4.toInt)) ∧ t0.toInt = s1.toInt ∧ t2.toInt = s5.toInt ∧ t3.toInt = s10.toInt ∧ t4.toInt = s13.toInt ∧ t5.toInt = s16.toInt) ∧ bq = fR H1 wq (K.1.2 8 0) ∧ TY K G H1) := by
  refine MX.of (by decide +kernel) (Nat.le_of_ble_eq_true rfl) ?_
  intro p e s m below meth c ls Q C hH hl hQ
  subst hH
  have C : CX p K s m _ meth c RX9 cX9_force 3 (some .int) "force" := C
  obtain ⟨hx, hb, hml, hown, hts, hKT, hr, hlocks, hnm⟩ := id C
  have hl : lv_has ls 3 [(0, .ref a0), (1, .int x1)] := hl
  have hS : va_S (AE G [0] s.heap.size) s.heap s.heap [] := va_S.rf
  have n_m1 : ((-1) : Int32).toInt = -1 := rfl
  have n_0 : (0 : Int32).toInt = 0 := rfl
  have n_1 : (1 : Int32).toInt = 1 := rfl
  have bs1 := ty_fi (x := s1) (k := 1) es1 hT gwq rg_0 rfl
  have bs4 := ty_fi (x := s4) (k := 4) es4 hT gwq rg_0 rfl
  have bs5 := ty_fi (x := s5) (k := 5) es5 hT gwq rg_0 rfl
  have bs10 := ty_fi (x := s10) (k := 10) es10 hT gwq rg_0 rfl
  have bs13 := ty_fi (x := s13) (k := 13) es13 hT gwq rg_0 rfl
  have bs16 := ty_fi (x := s16) (k := 16) es16 hT gwq rg_0 rfl
  refine lv_iload_n hx hb dX9_force_0 rfl (lv_at hl 1 rfl) ?_
  refine lv_iconst (v := 0) hx hb dX9_force_1 (by decide) ?_
  refine lv_iconst (v := 1) hx hb dX9_force_2 (by decide) ?_
  refine x_S (As := [.int x1, .int 0, .int 1]) (rest := []) C (c_X9_within l K G s.heap (x1) (0) (1) hT) yo_X9_within wM_X9_89 ⟨⟨by decide, by decide⟩, by decide, by decide⟩ rfl hl.1 rfl (Nat.le_of_ble_eq_true rfl) dX9_force_3 hS (AE_sub (fun _ _ => rfl) (by decide) hS.1) (fun vH181 H181 locsH181 pH181 zH181 kH181 hSH181 => ?_)
  have hqH181 := pH181.1.symm
  subst hqH181
  rcases pH181.2 with ⟨hvH181, hcH181⟩ | ⟨hvH181, hcH181⟩
  · subst hvH181
    refine W.eq (g2 := F0 m 6 ls [.int 1]) rfl ?_
    refine lv_if_ne (tgt := 11) hx hb dX9_force_6 (by decide) (fun c182 => ?_) (fun c182 => ?_)
    · have k183 := i_ne c182
      refine lv_aload_n hx hb dX9_force_11 rfl (lv_at hl 0 rfl) ?_
      refine x_gr C hT (ci := 9) (k := 0) rfl inX9 (by decide) wF_X9_12 ga0 rg_68 rfl dX9_force_12 (fun q184 eq184 gq184 => ?_)
      have uq184 : wq = q184 := (ewq).trans eq184.symm
      subst uq184
      refine x_gi C hT (ci := 8) (k := 4) rfl inX8 (by decide) wF_X9_147 gwq rg_0 rfl dX9_force_15 (fun x185 ex185 bx185 => ?_)
      have ux185 : s4 = x185 := (es4).trans ex185.symm
      subst ux185
      refine lv_istore_n (lv' := [(2, .int s4), (0, .ref a0), (1, .int x1)]) hx hb dX9_force_18 rfl hl (by decide) rfl (fun ls186 hl187 => ?_)
      refine lv_aload_n hx hb dX9_force_19 rfl (lv_at hl187 1 rfl) ?_
      refine x_gr C hT (ci := 9) (k := 0) rfl inX9 (by decide) wF_X9_12 ga0 rg_68 rfl dX9_force_20 (fun q188 eq188 gq188 => ?_)
      have uq188 : wq = q188 := (ewq).trans eq188.symm
      subst uq188
      refine lv_iload_n hx hb dX9_force_23 rfl (lv_at hl187 2 rfl) ?_
      refine x_put C hT hSH181 (ci := 8) (k := 4) (v := .int x1) (ty0 := tyX8) rfl inX8 tyX8_ok nmX8 (by decide) rfl wF_X9_147 gwq rg_0 rfl rfl (okI (by have := i_rng x1; omega) (by have := i_rng x1; omega)) rfl rfl (AE_in gwq (by decide)) dX9_force_24 (fun H189 locsH189 hTH189 hSH189 wH189 => ?_)
      have m190 := ewq.trans (Wr.neR wH189 (Or.inl (G_ne ga0 gwq (by decide)))).symm
      have m191 := ebq.trans (Wr.neR wH189 (Or.inr (x_apart hKT hts inX8 tyX8 tyX8_ok nmX8 rfl 0 4 (by decide) (by decide) (by decide)))).symm
      have m192 := es1.trans (Wr.neI wH189 (Or.inr (x_apart hKT hts inX8 tyX8 tyX8_ok nmX8 rfl 1 4 (by decide) (by decide) (by decide)))).symm
      have m194 := es5.trans (Wr.neI wH189 (Or.inr (x_apart hKT hts inX8 tyX8 tyX8_ok nmX8 rfl 5 4 (by decide) (by decide) (by decide)))).symm
      have m195 := es10.trans (Wr.neI wH189 (Or.inr (x_apart hKT hts inX8 tyX8 tyX8_ok nmX8 rfl 10 4 (by decide) (by decide) (by decide)))).symm
      have m196 := es13.trans (Wr.neI wH189 (Or.inr (x_apart hKT hts inX8 tyX8 tyX8_ok nmX8 rfl 13 4 (by decide) (by decide) (by decide)))).symm
      have m197 := es16.trans (Wr.neI wH189 (Or.inr (x_apart hKT hts inX8 tyX8 tyX8_ok nmX8 rfl 16 4 (by decide) (by decide) (by decide)))).symm
      have m198 := Wr.I wH189
      have m198 := m198.symm
      refine lv_iload_n hx hb dX9_force_27 rfl (lv_at hl187 0 rfl) ?_
      exact x_iret C hQ dX9_force_28 hSH189 (by decide) (by decide) (⟨s4, s1, x1, s5, s10, s13, s16, rfl, m192, m198, m194, m195, m196, m197, by omega, m191, hTH189⟩)
    · have k183 := i_eq c182
      exfalso
      omega
  · subst hvH181
    refine W.eq (g2 := F0 m 6 ls [.int 0]) rfl ?_
    refine lv_if_ne (tgt := 11) hx hb dX9_force_6 (by decide) (fun c199 => ?_) (fun c199 => ?_)
    · have k200 := i_ne c199
      exfalso
      omega
    · have k200 := i_eq c199
      refine lv_iconst (v := (-1)) hx hb dX9_force_9 (by decide) ?_
      exact x_iret C hQ dX9_force_10 hSH181 (by decide) (by decide) (⟨(-1), s1, s4, s5, s10, s13, s16, rfl, es1, es4, es5, es10, es13, es16, by omega, ebq, hT⟩)

set_option maxHeartbeats 4000000 in
set_option maxRecDepth 100000 in
theorem a_X10_force_r (l : Launch) (K : KE) (G : Nat → Option Nat) (H : Heap) {a0 : Nat} (x1 : Int32) (s4 : Int32) (hT : TY K G H) (ga0 : G a0 = some 112) (es4 : s4 = fI H a0 (K.1.2 10 2)) (hg_CG : CG (avw K H a0)) (hg_TU : TU (avw K H a0) (svw K H a0)) (hg_WD : WD (avw K H a0)) (hg_IM : IM (avw K H a0)) : MX l K yX10_force cX10_force 3 (some .int) 1 21 0 0 [.ref a0, .int x1] H (AE G [112] H.size) (fun v H1 => ∃ (r : Int32) (t0 : Int32), v = some (.int r) ∧ t0 = fI H1 a0 (K.1.2 10 2) ∧ ((0 ≤ x1.toInt ∧ x1.toInt ≤ 1 ∧ r.toInt = s4.toInt ∧ t0.toInt = x1.toInt) ∨ ((x1.toInt < 0 ∨ 1 < x1.toInt) ∧ r.toInt = -1 ∧ t0.toInt = s4.toInt)) ∧ (CG (avw K H1 a0)) ∧ (TU (avw K H1 a0) (svw K H1 a0)) ∧ (WD (avw K H1 a0)) ∧ (IM (avw K H1 a0)) ∧ MF K H H1 a0 [0, 2] ∧ TY K G H1) := by
  refine MX.of (by decide +kernel) (Nat.le_of_ble_eq_true rfl) ?_
  intro p e s m below meth c ls Q C hH hl hQ
  subst hH
  have C : CX p K s m _ meth c RX10 cX10_force 3 (some .int) "force" := C
  obtain ⟨hx, hb, hml, hown, hts, hKT, hr, hlocks, hnm⟩ := id C
  have hl : lv_has ls 3 [(0, .ref a0), (1, .int x1)] := hl
  have hS : va_S (AE G [112] s.heap.size) s.heap s.heap [] := va_S.rf
  have n_m1 : ((-1) : Int32).toInt = -1 := rfl
  have n_0 : (0 : Int32).toInt = 0 := rfl
  have n_1 : (1 : Int32).toInt = 1 := rfl
  have bs4 := ty_fi (x := s4) (k := 2) es4 hT ga0 rg_112 rfl
  have hap : ∀ x y, x < 74 → y < 74 → x ≠ y → K.1.2 10 x ≠ K.1.2 10 y := x_apart hKT hts inX10 tyX10 tyX10_ok nmX10 rfl
  have mf0 : MF K s.heap s.heap a0 [0, 2] := fun _ _ _ => rfl
  refine lv_aload_n hx hb dX10_force_0 rfl (lv_at hl 0 rfl) ?_
  refine lv_iconst (v := 0) hx hb dX10_force_1 (by decide) ?_
  refine x_put C hT hS (ci := 10) (k := 0) (v := .int 0) (ty0 := tyX10) rfl inX10 tyX10_ok nmX10 (by decide) rfl wF_X10_167 ga0 rg_112 rfl rfl (okI (by have := i_rng (0 : Int32); omega) (by have := i_rng (0 : Int32); omega)) rfl rfl (AE_in ga0 (by decide)) dX10_force_2 (fun H201 locsH201 hTH201 hSH201 wH201 => ?_)
  have mf202 : MF K s.heap H201 a0 [0, 2] := MF.fld hap wH201 (by decide) (by decide) mf0
  have g203 : CG (avw K H201 a0) := CG.congr (fun k hk j => av_fld hT ga0 hap wH201 (by decide) (CG_ok 112 (by decide) k hk) (CG_ne 0 (by decide) k hk)) hg_CG
  have g204 : TU (avw K H201 a0) (svw K H201 a0) := TU.congr (fun k hk j => av_fld hT ga0 hap wH201 (by decide) (TU_ok 112 (by decide) k hk) (TU_ne 0 (by decide) k hk)) (fun k hk => sv_fld hap wH201 (by decide) (TU_slt k hk) (TU_sne 0 (by decide) k hk)) hg_TU
  have g205 : WD (avw K H201 a0) := WD.congr (fun k hk j => av_fld hT ga0 hap wH201 (by decide) (WD_ok 112 (by decide) k hk) (WD_ne 0 (by decide) k hk)) hg_WD
  have g206 : IM (avw K H201 a0) := IM.congr (fun k hk j => av_fld hT ga0 hap wH201 (by decide) (IM_ok 112 (by decide) k hk) (IM_ne 0 (by decide) k hk)) hg_IM
  have m207 := es4.trans (Wr.neI wH201 (Or.inr (x_apart hKT hts inX10 tyX10 tyX10_ok nmX10 rfl 2 0 (by decide) (by decide) (by decide)))).symm
  have m208 := Wr.I wH201
  refine lv_aload_n hx hb dX10_force_5 rfl (lv_at hl 0 rfl) ?_
  refine lv_iload_n hx hb dX10_force_6 rfl (lv_at hl 1 rfl) ?_
  refine x_V (As := [.int x1]) (rest := []) C (c_X10_isLaw l K G H201 (x1) hTH201 ga0) yo_X10_isLaw wM_X10_328 ⟨⟨by decide, by decide⟩, by decide, by decide⟩ (x_rv C hTH201 (ci := 10) rfl ga0 rg_112) rfl hl.1 rfl (Nat.le_of_ble_eq_true rfl) dX10_force_7 hSH201 (AE_sub (fun _ _ => rfl) (by decide) hSH201.1) (fun vH209 H209 locsH209 pH209 zH209 kH209 hSH209 => ?_)
  have hqH209 := pH209.1.symm
  subst hqH209
  rcases pH209.2 with ⟨hvH209, hcH209⟩ | ⟨hvH209, hcH209⟩
  · subst hvH209
    refine W.eq (g2 := F0 m 10 ls [.int 1]) rfl ?_
    refine lv_if_ne (tgt := 15) hx hb dX10_force_10 (by decide) (fun c210 => ?_) (fun c210 => ?_)
    · have k211 := i_ne c210
      refine lv_aload_n hx hb dX10_force_15 rfl (lv_at hl 0 rfl) ?_
      refine x_gi C hTH201 (ci := 10) (k := 2) rfl inX10 (by decide) wF_X10_322 ga0 rg_112 rfl dX10_force_16 (fun x212 ex212 bx212 => ?_)
      have ux212 : s4 = x212 := (m207).trans ex212.symm
      subst ux212
      refine lv_istore_n (lv' := [(2, .int s4), (0, .ref a0), (1, .int x1)]) hx hb dX10_force_19 rfl hl (by decide) rfl (fun ls213 hl214 => ?_)
      refine lv_aload_n hx hb dX10_force_20 rfl (lv_at hl214 1 rfl) ?_
      refine lv_iload_n hx hb dX10_force_21 rfl (lv_at hl214 2 rfl) ?_
      refine x_put C hTH201 hSH209 (ci := 10) (k := 2) (v := .int x1) (ty0 := tyX10) rfl inX10 tyX10_ok nmX10 (by decide) rfl wF_X10_322 ga0 rg_112 rfl rfl (okI (by have := i_rng x1; omega) (by have := i_rng x1; omega)) rfl rfl (AE_in ga0 (by decide)) dX10_force_22 (fun H215 locsH215 hTH215 hSH215 wH215 => ?_)
      have mf216 : MF K s.heap H215 a0 [0, 2] := MF.fld hap wH215 (by decide) (by decide) mf202
      have g217 : CG (avw K H215 a0) := CG.congr (fun k hk j => av_fld hTH201 ga0 hap wH215 (by decide) (CG_ok 112 (by decide) k hk) (CG_ne 2 (by decide) k hk)) g203
      have g218 : TU (avw K H215 a0) (svw K H215 a0) := TU.congr (fun k hk j => av_fld hTH201 ga0 hap wH215 (by decide) (TU_ok 112 (by decide) k hk) (TU_ne 2 (by decide) k hk)) (fun k hk => sv_fld hap wH215 (by decide) (TU_slt k hk) (TU_sne 2 (by decide) k hk)) g204
      have g219 : WD (avw K H215 a0) := WD.congr (fun k hk j => av_fld hTH201 ga0 hap wH215 (by decide) (WD_ok 112 (by decide) k hk) (WD_ne 2 (by decide) k hk)) g205
      have g220 : IM (avw K H215 a0) := IM.congr (fun k hk j => av_fld hTH201 ga0 hap wH215 (by decide) (IM_ok 112 (by decide) k hk) (IM_ne 2 (by decide) k hk)) g206
      have m222 := (Wr.neI wH215 (Or.inr (x_apart hKT hts inX10 tyX10 tyX10_ok nmX10 rfl 0 2 (by decide) (by decide) (by decide)))).trans m208
      have m223 := Wr.I wH215
      have m223 := m223.symm
      refine lv_iload_n hx hb dX10_force_25 rfl (lv_at hl214 0 rfl) ?_
      exact x_iret C hQ dX10_force_26 hSH215 (by decide) (by decide) (⟨s4, x1, rfl, m223, by omega, g217, g218, g219, g220, mf216, hTH215⟩)
    · have k211 := i_eq c210
      exfalso
      omega
  · subst hvH209
    refine W.eq (g2 := F0 m 10 ls [.int 0]) rfl ?_
    refine lv_if_ne (tgt := 15) hx hb dX10_force_10 (by decide) (fun c224 => ?_) (fun c224 => ?_)
    · have k225 := i_ne c224
      exfalso
      omega
    · have k225 := i_eq c224
      refine lv_iconst (v := (-1)) hx hb dX10_force_13 (by decide) ?_
      exact x_iret C hQ dX10_force_14 hSH209 (by decide) (by decide) (⟨(-1), s4, rfl, m207, by omega, g203, g204, g205, g206, mf202, hTH201⟩)

set_option maxHeartbeats 4000000 in
set_option maxRecDepth 100000 in
theorem a_X9_slack_r (l : Launch) (K : KE) (G : Nat → Option Nat) (H : Heap) {a0 : Nat} (x1 : Int32) {wq : Nat} {bq : Nat} (s1 : Int32) (s4 : Int32) (s5 : Int32) (s10 : Int32) (s13 : Int32) (s16 : Int32) (hT : TY K G H) (ga0 : G a0 = some 68) (gwq : G wq = some 0) (ewq : wq = fR H a0 (K.1.2 9 0)) (gbq : G bq = some 25) (ebq : bq = fR H wq (K.1.2 8 0)) (es1 : s1 = fI H wq (K.1.2 8 1)) (es4 : s4 = fI H wq (K.1.2 8 4)) (es5 : s5 = fI H wq (K.1.2 8 5)) (es10 : s10 = fI H wq (K.1.2 8 10)) (es13 : s13 = fI H wq (K.1.2 8 13)) (es16 : s16 = fI H wq (K.1.2 8 16)) : MX l K yX9_slack cX9_slack 2 (some .boolean) 1 22 0 0 [.ref a0, .int x1] H (AE G [0] H.size) (fun v H1 => ∃ (r : Int32) (t0 : Int32) (t1 : Int32) (t2 : Int32) (t3 : Int32) (t4 : Int32) (t5 : Int32), v = some (.int r) ∧ t0 = fI H1 wq (K.1.2 8 1) ∧ t1 = fI H1 wq (K.1.2 8 4) ∧ t2 = fI H1 wq (K.1.2 8 5) ∧ t3 = fI H1 wq (K.1.2 8 10) ∧ t4 = fI H1 wq (K.1.2 8 13) ∧ t5 = fI H1 wq (K.1.2 8 16) ∧ (((0 ≤ x1.toInt ∧ x1.toInt ≤ 9999 ∧ r.toInt = 1 ∧ t2.toInt = x1.toInt) ∨ ((x1.toInt < 0 ∨ 9999 < x1.toInt) ∧ r.toInt = 0 ∧ t2.toInt = s5.toInt)) ∧ t0.toInt = s1.toInt ∧ t1.toInt = s4.toInt ∧ t3.toInt = s10.toInt ∧ t4.toInt = s13.toInt ∧ t5.toInt = s16.toInt) ∧ bq = fR H1 wq (K.1.2 8 0) ∧ TY K G H1) := by
  refine MX.of (by decide +kernel) (Nat.le_of_ble_eq_true rfl) ?_
  intro p e s m below meth c ls Q C hH hl hQ
  subst hH
  have C : CX p K s m _ meth c RX9 cX9_slack 2 (some .boolean) "slack" := C
  obtain ⟨hx, hb, hml, hown, hts, hKT, hr, hlocks, hnm⟩ := id C
  have hl : lv_has ls 2 [(0, .ref a0), (1, .int x1)] := hl
  have hS : va_S (AE G [0] s.heap.size) s.heap s.heap [] := va_S.rf
  have n_0 : (0 : Int32).toInt = 0 := rfl
  have n_1 : (1 : Int32).toInt = 1 := rfl
  have n_9999 : (9999 : Int32).toInt = 9999 := rfl
  have bs1 := ty_fi (x := s1) (k := 1) es1 hT gwq rg_0 rfl
  have bs4 := ty_fi (x := s4) (k := 4) es4 hT gwq rg_0 rfl
  have bs5 := ty_fi (x := s5) (k := 5) es5 hT gwq rg_0 rfl
  have bs10 := ty_fi (x := s10) (k := 10) es10 hT gwq rg_0 rfl
  have bs13 := ty_fi (x := s13) (k := 13) es13 hT gwq rg_0 rfl
  have bs16 := ty_fi (x := s16) (k := 16) es16 hT gwq rg_0 rfl
  refine lv_iload_n hx hb dX9_slack_0 rfl (lv_at hl 1 rfl) ?_
  refine lv_iconst (v := 0) hx hb dX9_slack_1 (by decide) ?_
  refine lv_sipush (v := 9999) hx hb dX9_slack_2 (by decide) ?_
  refine x_S (As := [.int x1, .int 0, .int 9999]) (rest := []) C (c_X9_within l K G s.heap (x1) (0) (9999) hT) yo_X9_within wM_X9_89 ⟨⟨by decide, by decide⟩, by decide, by decide⟩ rfl hl.1 rfl (Nat.le_of_ble_eq_true rfl) dX9_slack_5 hS (AE_sub (fun _ _ => rfl) (by decide) hS.1) (fun vH165 H165 locsH165 pH165 zH165 kH165 hSH165 => ?_)
  have hqH165 := pH165.1.symm
  subst hqH165
  rcases pH165.2 with ⟨hvH165, hcH165⟩ | ⟨hvH165, hcH165⟩
  · subst hvH165
    refine W.eq (g2 := F0 m 8 ls [.int 1]) rfl ?_
    refine lv_if_ne (tgt := 13) hx hb dX9_slack_8 (by decide) (fun c166 => ?_) (fun c166 => ?_)
    · have k167 := i_ne c166
      refine lv_aload_n hx hb dX9_slack_13 rfl (lv_at hl 0 rfl) ?_
      refine x_gr C hT (ci := 9) (k := 0) rfl inX9 (by decide) wF_X9_12 ga0 rg_68 rfl dX9_slack_14 (fun q168 eq168 gq168 => ?_)
      have uq168 : wq = q168 := (ewq).trans eq168.symm
      subst uq168
      refine lv_iload_n hx hb dX9_slack_17 rfl (lv_at hl 1 rfl) ?_
      refine x_put C hT hSH165 (ci := 8) (k := 5) (v := .int x1) (ty0 := tyX8) rfl inX8 tyX8_ok nmX8 (by decide) rfl wF_X9_184 gwq rg_0 rfl rfl (okI (by have := i_rng x1; omega) (by have := i_rng x1; omega)) rfl rfl (AE_in gwq (by decide)) dX9_slack_18 (fun H169 locsH169 hTH169 hSH169 wH169 => ?_)
      have m170 := ewq.trans (Wr.neR wH169 (Or.inl (G_ne ga0 gwq (by decide)))).symm
      have m171 := ebq.trans (Wr.neR wH169 (Or.inr (x_apart hKT hts inX8 tyX8 tyX8_ok nmX8 rfl 0 5 (by decide) (by decide) (by decide)))).symm
      have m172 := es1.trans (Wr.neI wH169 (Or.inr (x_apart hKT hts inX8 tyX8 tyX8_ok nmX8 rfl 1 5 (by decide) (by decide) (by decide)))).symm
      have m173 := es4.trans (Wr.neI wH169 (Or.inr (x_apart hKT hts inX8 tyX8 tyX8_ok nmX8 rfl 4 5 (by decide) (by decide) (by decide)))).symm
      have m175 := es10.trans (Wr.neI wH169 (Or.inr (x_apart hKT hts inX8 tyX8 tyX8_ok nmX8 rfl 10 5 (by decide) (by decide) (by decide)))).symm
      have m176 := es13.trans (Wr.neI wH169 (Or.inr (x_apart hKT hts inX8 tyX8 tyX8_ok nmX8 rfl 13 5 (by decide) (by decide) (by decide)))).symm
      have m177 := es16.trans (Wr.neI wH169 (Or.inr (x_apart hKT hts inX8 tyX8 tyX8_ok nmX8 rfl 16 5 (by decide) (by decide) (by decide)))).symm
      have m178 := Wr.I wH169
      have m178 := m178.symm
      refine lv_iconst (v := 1) hx hb dX9_slack_21 (by decide) ?_
      exact x_zret C hQ (Or.inr rfl) dX9_slack_22 hSH169 (by decide) (by decide) (⟨1, s1, s4, x1, s10, s13, s16, rfl, m172, m173, m178, m175, m176, m177, by omega, m171, hTH169⟩)
    · have k167 := i_eq c166
      exfalso
      omega
  · subst hvH165
    refine W.eq (g2 := F0 m 8 ls [.int 0]) rfl ?_
    refine lv_if_ne (tgt := 13) hx hb dX9_slack_8 (by decide) (fun c179 => ?_) (fun c179 => ?_)
    · have k180 := i_ne c179
      exfalso
      omega
    · have k180 := i_eq c179
      refine lv_iconst (v := 0) hx hb dX9_slack_11 (by decide) ?_
      exact x_zret C hQ (Or.inl rfl) dX9_slack_12 hSH165 (by decide) (by decide) (⟨0, s1, s4, s5, s10, s13, s16, rfl, es1, es4, es5, es10, es13, es16, by omega, ebq, hT⟩)

set_option maxHeartbeats 4000000 in
set_option maxRecDepth 100000 in
theorem a_X10_slack_r (l : Launch) (K : KE) (G : Nat → Option Nat) (H : Heap) {a0 : Nat} (x1 : Int32) (s5 : Int32) (hT : TY K G H) (ga0 : G a0 = some 112) (es5 : s5 = fI H a0 (K.1.2 10 3)) (hg_CG : CG (avw K H a0)) (hg_TU : TU (avw K H a0) (svw K H a0)) (hg_WD : WD (avw K H a0)) (hg_IM : IM (avw K H a0)) : MX l K yX10_slack cX10_slack 2 (some .boolean) 1 23 0 0 [.ref a0, .int x1] H (AE G [112] H.size) (fun v H1 => ∃ (r : Int32) (t0 : Int32), v = some (.int r) ∧ t0 = fI H1 a0 (K.1.2 10 3) ∧ ((0 ≤ x1.toInt ∧ x1.toInt ≤ 9999 ∧ r.toInt = 1 ∧ t0.toInt = x1.toInt) ∨ ((x1.toInt < 0 ∨ 9999 < x1.toInt) ∧ r.toInt = 0 ∧ t0.toInt = s5.toInt)) ∧ (CG (avw K H1 a0)) ∧ (TU (avw K H1 a0) (svw K H1 a0)) ∧ (WD (avw K H1 a0)) ∧ (IM (avw K H1 a0)) ∧ MF K H H1 a0 [0, 3] ∧ TY K G H1) := by
  refine MX.of (by decide +kernel) (Nat.le_of_ble_eq_true rfl) ?_
  intro p e s m below meth c ls Q C hH hl hQ
  subst hH
  have C : CX p K s m _ meth c RX10 cX10_slack 2 (some .boolean) "slack" := C
  obtain ⟨hx, hb, hml, hown, hts, hKT, hr, hlocks, hnm⟩ := id C
  have hl : lv_has ls 2 [(0, .ref a0), (1, .int x1)] := hl
  have hS : va_S (AE G [112] s.heap.size) s.heap s.heap [] := va_S.rf
  have n_0 : (0 : Int32).toInt = 0 := rfl
  have n_1 : (1 : Int32).toInt = 1 := rfl
  have n_9999 : (9999 : Int32).toInt = 9999 := rfl
  have bs5 := ty_fi (x := s5) (k := 3) es5 hT ga0 rg_112 rfl
  have hap : ∀ x y, x < 74 → y < 74 → x ≠ y → K.1.2 10 x ≠ K.1.2 10 y := x_apart hKT hts inX10 tyX10 tyX10_ok nmX10 rfl
  have mf0 : MF K s.heap s.heap a0 [0, 3] := fun _ _ _ => rfl
  refine lv_aload_n hx hb dX10_slack_0 rfl (lv_at hl 0 rfl) ?_
  refine lv_iconst (v := 0) hx hb dX10_slack_1 (by decide) ?_
  refine x_put C hT hS (ci := 10) (k := 0) (v := .int 0) (ty0 := tyX10) rfl inX10 tyX10_ok nmX10 (by decide) rfl wF_X10_167 ga0 rg_112 rfl rfl (okI (by have := i_rng (0 : Int32); omega) (by have := i_rng (0 : Int32); omega)) rfl rfl (AE_in ga0 (by decide)) dX10_slack_2 (fun H189 locsH189 hTH189 hSH189 wH189 => ?_)
  have mf190 : MF K s.heap H189 a0 [0, 3] := MF.fld hap wH189 (by decide) (by decide) mf0
  have g191 : CG (avw K H189 a0) := CG.congr (fun k hk j => av_fld hT ga0 hap wH189 (by decide) (CG_ok 112 (by decide) k hk) (CG_ne 0 (by decide) k hk)) hg_CG
  have g192 : TU (avw K H189 a0) (svw K H189 a0) := TU.congr (fun k hk j => av_fld hT ga0 hap wH189 (by decide) (TU_ok 112 (by decide) k hk) (TU_ne 0 (by decide) k hk)) (fun k hk => sv_fld hap wH189 (by decide) (TU_slt k hk) (TU_sne 0 (by decide) k hk)) hg_TU
  have g193 : WD (avw K H189 a0) := WD.congr (fun k hk j => av_fld hT ga0 hap wH189 (by decide) (WD_ok 112 (by decide) k hk) (WD_ne 0 (by decide) k hk)) hg_WD
  have g194 : IM (avw K H189 a0) := IM.congr (fun k hk j => av_fld hT ga0 hap wH189 (by decide) (IM_ok 112 (by decide) k hk) (IM_ne 0 (by decide) k hk)) hg_IM
  have m195 := es5.trans (Wr.neI wH189 (Or.inr (x_apart hKT hts inX10 tyX10 tyX10_ok nmX10 rfl 3 0 (by decide) (by decide) (by decide)))).symm
  have m196 := Wr.I wH189
  refine lv_aload_n hx hb dX10_slack_5 rfl (lv_at hl 0 rfl) ?_
  refine lv_iload_n hx hb dX10_slack_6 rfl (lv_at hl 1 rfl) ?_
  refine lv_iconst (v := 0) hx hb dX10_slack_7 (by decide) ?_
  refine lv_sipush (v := 9999) hx hb dX10_slack_8 (by decide) ?_
  refine x_V (As := [.int x1, .int 0, .int 9999]) (rest := []) C (c_X10_isIn l K G H189 (x1) (0) (9999) hTH189 ga0) yo_X10_isIn wM_X10_177 ⟨⟨by decide, by decide⟩, by decide, by decide⟩ (x_rv C hTH189 (ci := 10) rfl ga0 rg_112) rfl hl.1 rfl (Nat.le_of_ble_eq_true rfl) dX10_slack_11 hSH189 (AE_sub (fun _ _ => rfl) (by decide) hSH189.1) (fun vH197 H197 locsH197 pH197 zH197 kH197 hSH197 => ?_)
  have hqH197 := pH197.1.symm
  subst hqH197
  rcases pH197.2 with ⟨hvH197, hcH197⟩ | ⟨hvH197, hcH197⟩
  · subst hvH197
    refine W.eq (g2 := F0 m 14 ls [.int 1]) rfl ?_
    refine lv_if_ne (tgt := 19) hx hb dX10_slack_14 (by decide) (fun c198 => ?_) (fun c198 => ?_)
    · have k199 := i_ne c198
      refine lv_aload_n hx hb dX10_slack_19 rfl (lv_at hl 0 rfl) ?_
      refine lv_iload_n hx hb dX10_slack_20 rfl (lv_at hl 1 rfl) ?_
      refine x_put C hTH189 hSH197 (ci := 10) (k := 3) (v := .int x1) (ty0 := tyX10) rfl inX10 tyX10_ok nmX10 (by decide) rfl wF_X10_7 ga0 rg_112 rfl rfl (okI (by have := i_rng x1; omega) (by have := i_rng x1; omega)) rfl rfl (AE_in ga0 (by decide)) dX10_slack_21 (fun H200 locsH200 hTH200 hSH200 wH200 => ?_)
      have mf201 : MF K s.heap H200 a0 [0, 3] := MF.fld hap wH200 (by decide) (by decide) mf190
      have g202 : CG (avw K H200 a0) := CG.congr (fun k hk j => av_fld hTH189 ga0 hap wH200 (by decide) (CG_ok 112 (by decide) k hk) (CG_ne 3 (by decide) k hk)) g191
      have g203 : TU (avw K H200 a0) (svw K H200 a0) := TU.congr (fun k hk j => av_fld hTH189 ga0 hap wH200 (by decide) (TU_ok 112 (by decide) k hk) (TU_ne 3 (by decide) k hk)) (fun k hk => sv_fld hap wH200 (by decide) (TU_slt k hk) (TU_sne 3 (by decide) k hk)) g192
      have g204 : WD (avw K H200 a0) := WD.congr (fun k hk j => av_fld hTH189 ga0 hap wH200 (by decide) (WD_ok 112 (by decide) k hk) (WD_ne 3 (by decide) k hk)) g193
      have g205 : IM (avw K H200 a0) := IM.congr (fun k hk j => av_fld hTH189 ga0 hap wH200 (by decide) (IM_ok 112 (by decide) k hk) (IM_ne 3 (by decide) k hk)) g194
      have m207 := (Wr.neI wH200 (Or.inr (x_apart hKT hts inX10 tyX10 tyX10_ok nmX10 rfl 0 3 (by decide) (by decide) (by decide)))).trans m196
      have m208 := Wr.I wH200
      have m208 := m208.symm
      refine lv_iconst (v := 1) hx hb dX10_slack_24 (by decide) ?_
      exact x_zret C hQ (Or.inr rfl) dX10_slack_25 hSH200 (by decide) (by decide) (⟨1, x1, rfl, m208, by omega, g202, g203, g204, g205, mf201, hTH200⟩)
    · have k199 := i_eq c198
      exfalso
      omega
  · subst hvH197
    refine W.eq (g2 := F0 m 14 ls [.int 0]) rfl ?_
    refine lv_if_ne (tgt := 19) hx hb dX10_slack_14 (by decide) (fun c209 => ?_) (fun c209 => ?_)
    · have k210 := i_ne c209
      exfalso
      omega
    · have k210 := i_eq c209
      refine lv_iconst (v := 0) hx hb dX10_slack_17 (by decide) ?_
      exact x_zret C hQ (Or.inl rfl) dX10_slack_18 hSH197 (by decide) (by decide) (⟨0, s5, rfl, m195, by omega, g191, g192, g193, g194, mf190, hTH189⟩)

set_option maxHeartbeats 4000000 in
set_option maxRecDepth 100000 in
theorem a_X9_addBytes_r (l : Launch) (K : KE) (G : Nat → Option Nat) (H : Heap) {a0 : Nat} (x1 : Int32) {wq : Nat} (tp : Int32) {kv : Value} (hT : TY K G H) (ga0 : G a0 = some 68) (gwq : G wq = some 0) (ewq : wq = fR H a0 (K.1.2 9 0)) (etp : tp = fI H a0 (K.1.2 9 3)) (hp0 : tp.toInt ≤ 496) (hkv : fV H a0 (K.1.2 9 1) = kv) : MX l K yX9_addBytes cX9_addBytes 3 none 0 0 0 0 [.ref a0, .int x1] H (AE G [68, 108] H.size) (fun v H1 => ∃ (t0 : Int32), v = none ∧ t0 = fI H1 a0 (K.1.2 9 3) ∧ (t0.toInt = tp.toInt + 4) ∧ wq = fR H1 a0 (K.1.2 9 0) ∧ fV H1 a0 (K.1.2 9 1) = kv ∧ TY K G H1) := by
  refine MX.of (by decide +kernel) (Nat.le_of_ble_eq_true rfl) ?_
  intro p e s m below meth c ls Q C hH hl hQ
  subst hH
  have C : CX p K s m _ meth c RX9 cX9_addBytes 3 none "addBytes" := C
  obtain ⟨hx, hb, hml, hown, hts, hKT, hr, hlocks, hnm⟩ := id C
  have hl : lv_has ls 3 [(0, .ref a0), (1, .int x1)] := hl
  have hS : va_S (AE G [68, 108] s.heap.size) s.heap s.heap [] := va_S.rf
  have n_m8 : ((-8) : Int32).toInt = -8 := rfl
  have n_0 : (0 : Int32).toInt = 0 := rfl
  have n_1 : (1 : Int32).toInt = 1 := rfl
  have n_24 : (24 : Int32).toInt = 24 := rfl
  have n_255 : (255 : Int32).toInt = 255 := rfl
  have n_500 : (500 : Int32).toInt = 500 := rfl
  have btp := ty_fi (x := tp) (k := 3) etp hT ga0 rg_68 rfl
  have J3 : ∀ (nf : Nat) (ls342 : Array Slot) (H341 : Heap) (locsH341 : List Loc) (x344 : Int32) (x345 : Int32), lv_has ls342 3 [(0, .ref a0), (1, .int x1), (2, .int x344)] → TY K G H341 → va_S (AE G [68, 108] s.heap.size) s.heap H341 locsH341 → ((-8) ≤ x344.toInt ∧ x344.toInt ≤ 24) → (0 ≤ x345.toInt ∧ x345.toInt ≤ 500) → (x345 = fI H341 a0 (K.1.2 9 3)) → (wq = fR H341 a0 (K.1.2 9 0)) → (fV H341 a0 (K.1.2 9 1) = kv) → (x344.toInt - (-8) < (nf : Int)) → (8 * (x345.toInt - tp.toInt) = 24 - x344.toInt) → W p l e ({ frames := 0, cells := 0, slots := 0, locals := 0 } : Room) s m (([.ref a0, .int x1] : List Value).toArray) below meth c H341 locsH341 0 0 Q (F0 m 3 ls342 []) := by
    intro nf
    induction nf with
    | zero =>
      intro ls342 H341 locsH341 x344 x345 hl343 hTH341 hSH341 bx344 bx345 ex345 cy346_0 cy346_1 hm3 iv3
      exfalso
      omega
    | succ nf ih3 =>
      intro ls342 H341 locsH341 x344 x345 hl343 hTH341 hSH341 bx344 bx345 ex345 cy346_0 cy346_1 hm3 iv3
      refine lv_iload_n hx hb dX9_addBytes_3 rfl (lv_at hl343 2 rfl) ?_
      refine lv_if_lt (tgt := 49) hx hb dX9_addBytes_4 (by decide) (fun c347 => ?_) (fun c347 => ?_)
      · have k348 := i_lt c347
        exact x_vret C hQ dX9_addBytes_49 hSH341 (by decide) (by decide) (⟨x345, rfl, ex345, by omega, cy346_0, cy346_1, hTH341⟩)
      · have k348 := i_nlt c347
        refine lv_aload_n hx hb dX9_addBytes_7 rfl (lv_at hl343 0 rfl) ?_
        refine x_gi C hTH341 (ci := 9) (k := 3) rfl inX9 (by decide) wF_X9_105 ga0 rg_68 rfl dX9_addBytes_8 (fun x349 ex349 bx349 => ?_)
        have ux349 : x345 = x349 := (ex345).trans ex349.symm
        subst ux349
        refine lv_sipush (v := 500) hx hb dX9_addBytes_11 (by decide) ?_
        refine lv_icmp_ge (tgt := 49) hx hb dX9_addBytes_14 (by decide) (fun c350 => ?_) (fun c350 => ?_)
        · have k351 := i_le c350
          exact x_vret C hQ dX9_addBytes_49 hSH341 (by decide) (by decide) (⟨x345, rfl, ex345, by omega, cy346_0, cy346_1, hTH341⟩)
        · have k351 := i_nle c350
          refine lv_aload_n hx hb dX9_addBytes_17 rfl (lv_at hl343 0 rfl) ?_
          refine x_gr C hTH341 (ci := 9) (k := 2) rfl inX9 (by decide) wF_X9_16 ga0 rg_68 rfl dX9_addBytes_18 (fun q352 eq352 gq352 => ?_)
          refine lv_aload_n hx hb dX9_addBytes_21 rfl (lv_at hl343 0 rfl) ?_
          refine x_gi C hTH341 (ci := 9) (k := 3) rfl inX9 (by decide) wF_X9_105 ga0 rg_68 rfl dX9_addBytes_22 (fun x353 ex353 bx353 => ?_)
          have ux353 : x345 = x353 := (ex345).trans ex353.symm
          subst ux353
          refine lv_iload_n hx hb dX9_addBytes_25 rfl (lv_at hl343 1 rfl) ?_
          refine lv_iload_n hx hb dX9_addBytes_26 rfl (lv_at hl343 2 rfl) ?_
          obtain ⟨x354, ex354⟩ : ∃ z : Int32, ((x1 : Int32).toUInt32 >>> ((x344 : Int32).toUInt32 &&& Int32.toUInt32 31)).toInt32 = z := ⟨_, rfl⟩
          refine lv_iushr (v := x354) hx hb dX9_addBytes_27 ex354 ?_
          refine lv_sipush (v := 255) hx hb dX9_addBytes_28 (by decide) ?_
          refine lv_iand hx hb dX9_addBytes_31 ?_
          refine lv_topi (fun x355 ex355 => ?_)
          have tx355 := i_and255 ex355
          refine x_iast C hTH341 hSH341 gq352 rg_108 (by omega) (by show _ < ((500 : Nat) : Int); omega) ⟨by have := i_rng x355; omega, by have := i_rng x355; omega⟩ (AE_in gq352 (by decide)) dX9_addBytes_32 (fun H356 locsH356 hTH356 hSH356 wH356 => ?_)
          have m357 := ex345.trans (Wr.neI wH356 (Or.inl (G_ne ga0 gq352 (by decide)))).symm
          have m358 := cy346_0.trans (Wr.neR wH356 (Or.inl (G_ne ga0 gq352 (by decide)))).symm
          have m359 := (Wr.neV wH356 (Or.inl (G_ne ga0 gq352 (by decide)))).trans cy346_1
          have m360 := eq352.trans (Wr.neR wH356 (Or.inl (G_ne ga0 gq352 (by decide)))).symm
          have m361 := Wr.I wH356
          have m361 := m361.symm
          refine lv_aload_n hx hb dX9_addBytes_33 rfl (lv_at hl343 0 rfl) ?_
          refine lv_dup hx hb dX9_addBytes_34 rfl ?_
          refine x_gi C hTH356 (ci := 9) (k := 3) rfl inX9 (by decide) wF_X9_105 ga0 rg_68 rfl dX9_addBytes_35 (fun x362 ex362 bx362 => ?_)
          have ux362 : x345 = x362 := (m357).trans ex362.symm
          subst ux362
          refine lv_iconst (v := 1) hx hb dX9_addBytes_38 (by decide) ?_
          refine lv_iadd hx hb dX9_addBytes_39 ?_
          refine lv_topi (fun x363 ex363 => ?_)
          have tx363 := i_add ex363 (by omega)
          refine x_put C hTH356 hSH356 (ci := 9) (k := 3) (v := .int x363) (ty0 := tyX9) rfl inX9 tyX9_ok nmX9 (by decide) rfl wF_X9_105 ga0 rg_68 rfl rfl (okI (by have := i_rng x363; omega) (by have := i_rng x363; omega)) rfl rfl (AE_in ga0 (by decide)) dX9_addBytes_40 (fun H364 locsH364 hTH364 hSH364 wH364 => ?_)
          have m366 := m358.trans (Wr.neR wH364 (Or.inr (x_apart hKT hts inX9 tyX9 tyX9_ok nmX9 rfl 0 3 (by decide) (by decide) (by decide)))).symm
          have m367 := (Wr.neV wH364 (Or.inr (x_apart hKT hts inX9 tyX9 tyX9_ok nmX9 rfl 1 3 (by decide) (by decide) (by decide)))).trans m359
          have m368 := m360.trans (Wr.neR wH364 (Or.inr (x_apart hKT hts inX9 tyX9 tyX9_ok nmX9 rfl 2 3 (by decide) (by decide) (by decide)))).symm
          have m369 := m361.trans (Wr.neI wH364 (Or.inl (G_ne gq352 ga0 (by decide)))).symm
          have m370 := Wr.I wH364
          have m370 := m370.symm
          obtain ⟨x371, ex371⟩ : ∃ y : Int32, y = x344 + (-8) := ⟨_, rfl⟩
          have tx371 := i_add ex371 (by omega)
          refine lv_iinc (v := x371) (lv' := [(2, .int x371), (0, .ref a0), (1, .int x1)]) hx hb dX9_addBytes_43 hl343 (k := 2) rfl (by rw [ex371]; rfl) (by decide) rfl (fun ls372 hl373 => ?_)
          refine lv_goto (tgt := 3) hx hb dX9_addBytes_46 (by decide) ?_
          exact ih3 ls372 H364 locsH364 (x371) (x363) (lv_sub hl373 [1, 2, 0] rfl) hTH364 hSH364 (by have := i_rng x371; omega) (by have := i_rng x363; omega) m370 m366 m367 (by omega) (by omega)
  refine lv_bipush (v := 24) hx hb dX9_addBytes_0 (by decide) ?_
  refine lv_istore_n (lv' := [(2, .int 24), (0, .ref a0), (1, .int x1)]) hx hb dX9_addBytes_2 rfl hl (by decide) rfl (fun ls374 hl375 => ?_)
  exact J3 (((24 : Int32).toInt - (-8)).toNat + 1) ls374 s.heap [] (24) (tp) (lv_sub hl375 [1, 2, 0] rfl) hT hS (by decide) (by have := i_rng tp; omega) etp ewq hkv (by omega) (by omega)

set_option maxHeartbeats 4000000 in
set_option maxRecDepth 100000 in
theorem a_X9_feed_r (l : Launch) (K : KE) (G : Nat → Option Nat) (H : Heap) {a0 : Nat} (x1 : Int32) (x2 : Int32) (x3 : Int32) (x4 : Int32) (x5 : Int32) {wq : Nat} (tp : Int32) {kv : Value} (hT : TY K G H) (ga0 : G a0 = some 68) (gwq : G wq = some 0) (ewq : wq = fR H a0 (K.1.2 9 0)) (etp : tp = fI H a0 (K.1.2 9 3)) (hkv : fV H a0 (K.1.2 9 1) = kv) : MX l K yX9_feed cX9_feed 6 (some .int) 1 22 0 0 [.ref a0, .int x1, .int x2, .int x3, .int x4, .int x5] H (AE G [68, 108] H.size) (fun v H1 => ∃ (r : Int32) (t0 : Int32), v = some (.int r) ∧ t0 = fI H1 a0 (K.1.2 9 3) ∧ ((tp.toInt ≤ 480 ∧ r.toInt = tp.toInt + 20 ∧ t0.toInt = tp.toInt + 20) ∨ (480 < tp.toInt ∧ r.toInt = -1 ∧ t0.toInt = tp.toInt)) ∧ wq = fR H1 a0 (K.1.2 9 0) ∧ fV H1 a0 (K.1.2 9 1) = kv ∧ TY K G H1) := by
  refine MX.of (by decide +kernel) (Nat.le_of_ble_eq_true rfl) ?_
  intro p e s m below meth c ls Q C hH hl hQ
  subst hH
  have C : CX p K s m _ meth c RX9 cX9_feed 6 (some .int) "feed" := C
  obtain ⟨hx, hb, hml, hown, hts, hKT, hr, hlocks, hnm⟩ := id C
  have hl : lv_has ls 6 [(0, .ref a0), (1, .int x1), (2, .int x2), (3, .int x3), (4, .int x4), (5, .int x5)] := hl
  have hS : va_S (AE G [68, 108] s.heap.size) s.heap s.heap [] := va_S.rf
  have n_m1 : ((-1) : Int32).toInt = -1 := rfl
  have n_20 : (20 : Int32).toInt = 20 := rfl
  have n_500 : (500 : Int32).toInt = 500 := rfl
  have btp := ty_fi (x := tp) (k := 3) etp hT ga0 rg_68 rfl
  refine lv_aload_n hx hb dX9_feed_0 rfl (lv_at hl 0 rfl) ?_
  refine x_gi C hT (ci := 9) (k := 3) rfl inX9 (by decide) wF_X9_105 ga0 rg_68 rfl dX9_feed_1 (fun x201 ex201 bx201 => ?_)
  have ux201 : tp = x201 := (etp).trans ex201.symm
  subst ux201
  refine lv_bipush (v := 20) hx hb dX9_feed_4 (by decide) ?_
  refine lv_iadd hx hb dX9_feed_6 ?_
  refine lv_topi (fun x202 ex202 => ?_)
  have tx202 := i_add ex202 (by omega)
  refine lv_sipush (v := 500) hx hb dX9_feed_7 (by decide) ?_
  refine lv_icmp_le (tgt := 15) hx hb dX9_feed_10 (by decide) (fun c203 => ?_) (fun c203 => ?_)
  · have k204 := i_le c203
    refine lv_aload_n hx hb dX9_feed_15 rfl (lv_at hl 0 rfl) ?_
    refine lv_iload_n hx hb dX9_feed_16 rfl (lv_at hl 1 rfl) ?_
    refine x_V (As := [.int x1]) (rest := []) C (a_X9_addBytes_r l K G s.heap (x1) (tp) hT ga0 gwq ewq etp (by omega) hkv) yo_X9_addBytes wM_X9_108 ⟨⟨by decide, by decide⟩, by decide, by decide⟩ (x_rv C hT (ci := 9) rfl ga0 rg_68) rfl hl.1 rfl (Nat.le_of_ble_eq_true rfl) dX9_feed_17 hS (AE_sub (fun _ _ => rfl) (by decide) hS.1) (fun vH205 H205 locsH205 pH205 zH205 kH205 hSH205 => ?_)
    obtain ⟨x206, hvH205, ex206, hrH205, m207, m208, hTH205⟩ := pH205
    subst hvH205
    have bx206 := ty_fi (x := x206) (k := 3) ex206 hTH205 ga0 rg_68 rfl
    refine W.eq (g2 := F0 m 20 ls []) rfl ?_
    refine lv_aload_n hx hb dX9_feed_20 rfl (lv_at hl 0 rfl) ?_
    refine lv_iload_n hx hb dX9_feed_21 rfl (lv_at hl 2 rfl) ?_
    refine x_V (As := [.int x2]) (rest := []) C (a_X9_addBytes_r l K G H205 (x2) (x206) hTH205 ga0 gwq m207 ex206 (by omega) m208) yo_X9_addBytes wM_X9_108 ⟨⟨by decide, by decide⟩, by decide, by decide⟩ (x_rv C hTH205 (ci := 9) rfl ga0 rg_68) rfl hl.1 rfl (Nat.le_of_ble_eq_true rfl) dX9_feed_22 hSH205 (AE_sub (fun _ _ => rfl) (by decide) hSH205.1) (fun vH209 H209 locsH209 pH209 zH209 kH209 hSH209 => ?_)
    obtain ⟨x210, hvH209, ex210, hrH209, m211, m212, hTH209⟩ := pH209
    subst hvH209
    have bx210 := ty_fi (x := x210) (k := 3) ex210 hTH209 ga0 rg_68 rfl
    refine W.eq (g2 := F0 m 25 ls []) rfl ?_
    refine lv_aload_n hx hb dX9_feed_25 rfl (lv_at hl 0 rfl) ?_
    refine lv_iload_n hx hb dX9_feed_26 rfl (lv_at hl 3 rfl) ?_
    refine x_V (As := [.int x3]) (rest := []) C (a_X9_addBytes_r l K G H209 (x3) (x210) hTH209 ga0 gwq m211 ex210 (by omega) m212) yo_X9_addBytes wM_X9_108 ⟨⟨by decide, by decide⟩, by decide, by decide⟩ (x_rv C hTH209 (ci := 9) rfl ga0 rg_68) rfl hl.1 rfl (Nat.le_of_ble_eq_true rfl) dX9_feed_27 hSH209 (AE_sub (fun _ _ => rfl) (by decide) hSH209.1) (fun vH213 H213 locsH213 pH213 zH213 kH213 hSH213 => ?_)
    obtain ⟨x214, hvH213, ex214, hrH213, m215, m216, hTH213⟩ := pH213
    subst hvH213
    have bx214 := ty_fi (x := x214) (k := 3) ex214 hTH213 ga0 rg_68 rfl
    refine W.eq (g2 := F0 m 30 ls []) rfl ?_
    refine lv_aload_n hx hb dX9_feed_30 rfl (lv_at hl 0 rfl) ?_
    refine lv_iload hx hb dX9_feed_31 (lv_at hl 4 rfl) ?_
    refine x_V (As := [.int x4]) (rest := []) C (a_X9_addBytes_r l K G H213 (x4) (x214) hTH213 ga0 gwq m215 ex214 (by omega) m216) yo_X9_addBytes wM_X9_108 ⟨⟨by decide, by decide⟩, by decide, by decide⟩ (x_rv C hTH213 (ci := 9) rfl ga0 rg_68) rfl hl.1 rfl (Nat.le_of_ble_eq_true rfl) dX9_feed_33 hSH213 (AE_sub (fun _ _ => rfl) (by decide) hSH213.1) (fun vH217 H217 locsH217 pH217 zH217 kH217 hSH217 => ?_)
    obtain ⟨x218, hvH217, ex218, hrH217, m219, m220, hTH217⟩ := pH217
    subst hvH217
    have bx218 := ty_fi (x := x218) (k := 3) ex218 hTH217 ga0 rg_68 rfl
    refine W.eq (g2 := F0 m 36 ls []) rfl ?_
    refine lv_aload_n hx hb dX9_feed_36 rfl (lv_at hl 0 rfl) ?_
    refine lv_iload hx hb dX9_feed_37 (lv_at hl 5 rfl) ?_
    refine x_V (As := [.int x5]) (rest := []) C (a_X9_addBytes_r l K G H217 (x5) (x218) hTH217 ga0 gwq m219 ex218 (by omega) m220) yo_X9_addBytes wM_X9_108 ⟨⟨by decide, by decide⟩, by decide, by decide⟩ (x_rv C hTH217 (ci := 9) rfl ga0 rg_68) rfl hl.1 rfl (Nat.le_of_ble_eq_true rfl) dX9_feed_39 hSH217 (AE_sub (fun _ _ => rfl) (by decide) hSH217.1) (fun vH221 H221 locsH221 pH221 zH221 kH221 hSH221 => ?_)
    obtain ⟨x222, hvH221, ex222, hrH221, m223, m224, hTH221⟩ := pH221
    subst hvH221
    have bx222 := ty_fi (x := x222) (k := 3) ex222 hTH221 ga0 rg_68 rfl
    refine W.eq (g2 := F0 m 42 ls []) rfl ?_
    refine lv_aload_n hx hb dX9_feed_42 rfl (lv_at hl 0 rfl) ?_
    refine x_gi C hTH221 (ci := 9) (k := 3) rfl inX9 (by decide) wF_X9_105 ga0 rg_68 rfl dX9_feed_43 (fun x225 ex225 bx225 => ?_)
    have ux225 : x222 = x225 := (ex222).trans ex225.symm
    subst ux225
    exact x_iret C hQ dX9_feed_46 hSH221 (by decide) (by decide) (⟨x222, x222, rfl, ex222, by omega, m223, m224, hTH221⟩)
  · have k204 := i_nle c203
    refine lv_iconst (v := (-1)) hx hb dX9_feed_13 (by decide) ?_
    exact x_iret C hQ dX9_feed_14 hS (by decide) (by decide) (⟨(-1), tp, rfl, etp, by omega, ewq, hkv, hT⟩)

set_option maxHeartbeats 4000000 in
set_option maxRecDepth 100000 in
theorem a_X9_end_r (l : Launch) (K : KE) (G : Nat → Option Nat) (H : Heap) {a0 : Nat} (x1 : Int32) {wq : Nat} (tp : Int32) {kv : Value} (hT : TY K G H) (ga0 : G a0 = some 68) (gwq : G wq = some 0) (ewq : wq = fR H a0 (K.1.2 9 0)) (etp : tp = fI H a0 (K.1.2 9 3)) (hkv : fV H a0 (K.1.2 9 1) = kv) : MX l K yX9_end cX9_end 2 (some .boolean) 0 0 0 0 [.ref a0, .int x1] H (AE G [68] H.size) (fun v H1 => ∃ (r : Int32) (t0 : Int32), v = some (.int r) ∧ (0 ≤ r.toInt ∧ r.toInt ≤ 1) ∧ t0 = fI H1 a0 (K.1.2 9 3) ∧ ((0 ≤ x1.toInt ∧ x1.toInt ≤ tp.toInt ∧ r.toInt = 1 ∧ t0.toInt = x1.toInt) ∨ ((x1.toInt < 0 ∨ tp.toInt < x1.toInt) ∧ r.toInt = 0 ∧ t0.toInt = tp.toInt)) ∧ wq = fR H1 a0 (K.1.2 9 0) ∧ fV H1 a0 (K.1.2 9 1) = kv ∧ TY K G H1) := by
  refine MX.of (by decide +kernel) (Nat.le_of_ble_eq_true rfl) ?_
  intro p e s m below meth c ls Q C hH hl hQ
  subst hH
  have C : CX p K s m _ meth c RX9 cX9_end 2 (some .boolean) "end" := C
  obtain ⟨hx, hb, hml, hown, hts, hKT, hr, hlocks, hnm⟩ := id C
  have hl : lv_has ls 2 [(0, .ref a0), (1, .int x1)] := hl
  have hS : va_S (AE G [68] s.heap.size) s.heap s.heap [] := va_S.rf
  have n_0 : (0 : Int32).toInt = 0 := rfl
  have n_1 : (1 : Int32).toInt = 1 := rfl
  have btp := ty_fi (x := tp) (k := 3) etp hT ga0 rg_68 rfl
  refine lv_iload_n hx hb dX9_end_0 rfl (lv_at hl 1 rfl) ?_
  refine lv_if_lt (tgt := 12) hx hb dX9_end_1 (by decide) (fun c141 => ?_) (fun c141 => ?_)
  · have k142 := i_lt c141
    refine lv_iconst (v := 0) hx hb dX9_end_12 (by decide) ?_
    exact x_zret C hQ (Or.inl rfl) dX9_end_13 hS (by decide) (by decide) (⟨0, tp, rfl, by decide, etp, by omega, ewq, hkv, hT⟩)
  · have k142 := i_nlt c141
    refine lv_iload_n hx hb dX9_end_4 rfl (lv_at hl 1 rfl) ?_
    refine lv_aload_n hx hb dX9_end_5 rfl (lv_at hl 0 rfl) ?_
    refine x_gi C hT (ci := 9) (k := 3) rfl inX9 (by decide) wF_X9_105 ga0 rg_68 rfl dX9_end_6 (fun x143 ex143 bx143 => ?_)
    have ux143 : tp = x143 := (etp).trans ex143.symm
    subst ux143
    refine lv_icmp_le (tgt := 14) hx hb dX9_end_9 (by decide) (fun c144 => ?_) (fun c144 => ?_)
    · have k145 := i_le c144
      refine lv_aload_n hx hb dX9_end_14 rfl (lv_at hl 0 rfl) ?_
      refine lv_iload_n hx hb dX9_end_15 rfl (lv_at hl 1 rfl) ?_
      refine x_put C hT hS (ci := 9) (k := 3) (v := .int x1) (ty0 := tyX9) rfl inX9 tyX9_ok nmX9 (by decide) rfl wF_X9_105 ga0 rg_68 rfl rfl (okI (by have := i_rng x1; omega) (by have := i_rng x1; omega)) rfl rfl (AE_in ga0 (by decide)) dX9_end_16 (fun H146 locsH146 hTH146 hSH146 wH146 => ?_)
      have m147 := ewq.trans (Wr.neR wH146 (Or.inr (x_apart hKT hts inX9 tyX9 tyX9_ok nmX9 rfl 0 3 (by decide) (by decide) (by decide)))).symm
      have m149 := (Wr.neV wH146 (Or.inr (x_apart hKT hts inX9 tyX9 tyX9_ok nmX9 rfl 1 3 (by decide) (by decide) (by decide)))).trans hkv
      have m150 := Wr.I wH146
      have m150 := m150.symm
      refine lv_iconst (v := 1) hx hb dX9_end_19 (by decide) ?_
      exact x_zret C hQ (Or.inr rfl) dX9_end_20 hSH146 (by decide) (by decide) (⟨1, x1, rfl, by decide, m150, by omega, m147, m149, hTH146⟩)
    · have k145 := i_nle c144
      refine lv_iconst (v := 0) hx hb dX9_end_12 (by decide) ?_
      exact x_zret C hQ (Or.inl rfl) dX9_end_13 hS (by decide) (by decide) (⟨0, tp, rfl, by decide, etp, by omega, ewq, hkv, hT⟩)

set_option maxHeartbeats 4000000 in
set_option maxRecDepth 100000 in
theorem a_X9_text_r (l : Launch) (K : KE) (G : Nat → Option Nat) (H : Heap) {a0 wq bq : Nat} (x1 x2 : Int32) (s1 : Int32) (s4 : Int32) (s5 : Int32) (s10 : Int32) (s13 : Int32) (s16 : Int32) {kv : Value} (hT : TY K G H) (ga0 : G a0 = some 68) (gwq : G wq = some 0) (ewq : wq = fR H a0 (K.1.2 9 0)) (es1 : s1 = fI H wq (K.1.2 8 1)) (es4 : s4 = fI H wq (K.1.2 8 4)) (es5 : s5 = fI H wq (K.1.2 8 5)) (es10 : s10 = fI H wq (K.1.2 8 10)) (es13 : s13 = fI H wq (K.1.2 8 13)) (es16 : s16 = fI H wq (K.1.2 8 16)) (gbq : G bq = some 25) (ebq : bq = fR H wq (K.1.2 8 0)) (hkv : fV H a0 (K.1.2 9 1) = kv) : MX l K yX9_text cX9_text 6 (some .int) 39 869 0 0 [.ref a0, .int x1, .int x2] H (AE G [68, 0, 78, 79, 80, 81, 69, 70, 71, 72, 73, 74, 75, 76, 77, 16, 17, 18, 19, 20, 21, 22, 23, 24] H.size) (fun v H1 => ∃ (r : Int32), v = some (.int r) ∧ wq = fR H1 a0 (K.1.2 9 0) ∧ s1 = fI H1 wq (K.1.2 8 1) ∧ s4 = fI H1 wq (K.1.2 8 4) ∧ s5 = fI H1 wq (K.1.2 8 5) ∧ s10 = fI H1 wq (K.1.2 8 10) ∧ s13 = fI H1 wq (K.1.2 8 13) ∧ s16 = fI H1 wq (K.1.2 8 16) ∧ fI H1 a0 (K.1.2 9 3) = 0 ∧ fV H1 a0 (K.1.2 9 1) = kv ∧ bq = fR H1 wq (K.1.2 8 0) ∧ TY K G H1) := by
  refine MX.of (by decide +kernel) (Nat.le_of_ble_eq_true rfl) ?_
  intro p e s m below meth c ls Q C hH hl hQ
  subst hH
  have C : CX p K s m _ meth c RX9 cX9_text 6 (some .int) "text" := C
  obtain ⟨hx, hb, hml, hown, hts, hKT, hr, hlocks, hnm⟩ := id C
  have hl : lv_has ls 6 [(0, .ref a0), (1, .int x1), (2, .int x2)] := hl
  have hS : va_S (AE G [68, 0, 78, 79, 80, 81, 69, 70, 71, 72, 73, 74, 75, 76, 77, 16, 17, 18, 19, 20, 21, 22, 23, 24] s.heap.size) s.heap s.heap [] := va_S.rf
  have n_m1 : ((-1) : Int32).toInt = -1 := rfl
  have n_0 : (0 : Int32).toInt = 0 := rfl
  have n_1 : (1 : Int32).toInt = 1 := rfl
  have n_16 : (16 : Int32).toInt = 16 := rfl
  have n_26 : (26 : Int32).toInt = 26 := rfl
  refine lv_aload_n hx hb dX9_text_0 rfl (lv_at hl 0 rfl) ?_
  refine x_gi C hT (ci := 9) (k := 3) rfl inX9 (by decide) wF_X9_105 ga0 rg_68 rfl dX9_text_1 (fun x101 ex101 bx101 => ?_)
  refine lv_istore_n (lv' := [(3, .int x101), (0, .ref a0), (1, .int x1), (2, .int x2)]) hx hb dX9_text_4 rfl hl (by decide) rfl (fun ls102 hl103 => ?_)
  refine lv_aload_n hx hb dX9_text_5 rfl (lv_at hl103 1 rfl) ?_
  refine lv_iconst (v := 0) hx hb dX9_text_6 (by decide) ?_
  refine x_put C hT hS (ci := 9) (k := 3) (v := .int 0) (ty0 := tyX9) rfl inX9 tyX9_ok nmX9 (by decide) rfl wF_X9_105 ga0 rg_68 rfl rfl (okI (by have := i_rng (0 : Int32); omega) (by have := i_rng (0 : Int32); omega)) rfl rfl (AE_in ga0 (by decide)) dX9_text_7 (fun H104 locsH104 hTH104 hSH104 wH104 => ?_)
  have m105 := ewq.trans (Wr.neR wH104 (Or.inr (x_apart hKT hts inX9 tyX9 tyX9_ok nmX9 rfl 0 3 (by decide) (by decide) (by decide)))).symm
  have m106 := es1.trans (Wr.neI wH104 (Or.inl (G_ne gwq ga0 (by decide)))).symm
  have m107 := es4.trans (Wr.neI wH104 (Or.inl (G_ne gwq ga0 (by decide)))).symm
  have m108 := es5.trans (Wr.neI wH104 (Or.inl (G_ne gwq ga0 (by decide)))).symm
  have m109 := es10.trans (Wr.neI wH104 (Or.inl (G_ne gwq ga0 (by decide)))).symm
  have m110 := es13.trans (Wr.neI wH104 (Or.inl (G_ne gwq ga0 (by decide)))).symm
  have m111 := es16.trans (Wr.neI wH104 (Or.inl (G_ne gwq ga0 (by decide)))).symm
  have m112 := (Wr.neV wH104 (Or.inr (x_apart hKT hts inX9 tyX9 tyX9_ok nmX9 rfl 1 3 (by decide) (by decide) (by decide)))).trans hkv
  have m113 := ebq.trans (Wr.neR wH104 (Or.inl (G_ne gwq ga0 (by decide)))).symm
  have m115 := Wr.I wH104
  refine lv_aload_n hx hb dX9_text_10 rfl (lv_at hl103 1 rfl) ?_
  refine x_gr C hTH104 (ci := 9) (k := 0) rfl inX9 (by decide) wF_X9_12 ga0 rg_68 rfl dX9_text_11 (fun q116 eq116 gq116 => ?_)
  have uq116 : wq = q116 := (m105).trans eq116.symm
  subst uq116
  refine lv_iconst (v := 0) hx hb dX9_text_14 (by decide) ?_
  refine x_put C hTH104 hSH104 (ci := 8) (k := 6) (v := .int 0) (ty0 := tyX8) rfl inX8 tyX8_ok nmX8 (by decide) rfl wF_X9_111 gwq rg_0 rfl rfl (okI (by have := i_rng (0 : Int32); omega) (by have := i_rng (0 : Int32); omega)) rfl rfl (AE_in gwq (by decide)) dX9_text_15 (fun H117 locsH117 hTH117 hSH117 wH117 => ?_)
  have m118 := m105.trans (Wr.neR wH117 (Or.inl (G_ne ga0 gwq (by decide)))).symm
  have m119 := m106.trans (Wr.neI wH117 (Or.inr (x_apart hKT hts inX8 tyX8 tyX8_ok nmX8 rfl 1 6 (by decide) (by decide) (by decide)))).symm
  have m120 := m107.trans (Wr.neI wH117 (Or.inr (x_apart hKT hts inX8 tyX8 tyX8_ok nmX8 rfl 4 6 (by decide) (by decide) (by decide)))).symm
  have m121 := m108.trans (Wr.neI wH117 (Or.inr (x_apart hKT hts inX8 tyX8 tyX8_ok nmX8 rfl 5 6 (by decide) (by decide) (by decide)))).symm
  have m122 := m109.trans (Wr.neI wH117 (Or.inr (x_apart hKT hts inX8 tyX8 tyX8_ok nmX8 rfl 10 6 (by decide) (by decide) (by decide)))).symm
  have m123 := m110.trans (Wr.neI wH117 (Or.inr (x_apart hKT hts inX8 tyX8 tyX8_ok nmX8 rfl 13 6 (by decide) (by decide) (by decide)))).symm
  have m124 := m111.trans (Wr.neI wH117 (Or.inr (x_apart hKT hts inX8 tyX8 tyX8_ok nmX8 rfl 16 6 (by decide) (by decide) (by decide)))).symm
  have m125 := (Wr.neV wH117 (Or.inl (G_ne ga0 gwq (by decide)))).trans m112
  have m126 := m113.trans (Wr.neR wH117 (Or.inr (x_apart hKT hts inX8 tyX8 tyX8_ok nmX8 rfl 0 6 (by decide) (by decide) (by decide)))).symm
  have m127 := (Wr.neI wH117 (Or.inl (G_ne ga0 gwq (by decide)))).trans m115
  have m128 := Wr.I wH117
  refine lv_aload_n hx hb dX9_text_18 rfl (lv_at hl103 1 rfl) ?_
  refine x_gr C hTH117 (ci := 9) (k := 0) rfl inX9 (by decide) wF_X9_12 ga0 rg_68 rfl dX9_text_19 (fun q129 eq129 gq129 => ?_)
  have uq129 : wq = q129 := (m118).trans eq129.symm
  subst uq129
  refine lv_iconst (v := (-1)) hx hb dX9_text_22 (by decide) ?_
  refine x_put C hTH117 hSH117 (ci := 8) (k := 7) (v := .int (-1)) (ty0 := tyX8) rfl inX8 tyX8_ok nmX8 (by decide) rfl wF_X9_114 gwq rg_0 rfl rfl (okI (by have := i_rng ((-1) : Int32); omega) (by have := i_rng ((-1) : Int32); omega)) rfl rfl (AE_in gwq (by decide)) dX9_text_23 (fun H130 locsH130 hTH130 hSH130 wH130 => ?_)
  have m131 := m118.trans (Wr.neR wH130 (Or.inl (G_ne ga0 gwq (by decide)))).symm
  have m132 := m119.trans (Wr.neI wH130 (Or.inr (x_apart hKT hts inX8 tyX8 tyX8_ok nmX8 rfl 1 7 (by decide) (by decide) (by decide)))).symm
  have m133 := m120.trans (Wr.neI wH130 (Or.inr (x_apart hKT hts inX8 tyX8 tyX8_ok nmX8 rfl 4 7 (by decide) (by decide) (by decide)))).symm
  have m134 := m121.trans (Wr.neI wH130 (Or.inr (x_apart hKT hts inX8 tyX8 tyX8_ok nmX8 rfl 5 7 (by decide) (by decide) (by decide)))).symm
  have m135 := m122.trans (Wr.neI wH130 (Or.inr (x_apart hKT hts inX8 tyX8 tyX8_ok nmX8 rfl 10 7 (by decide) (by decide) (by decide)))).symm
  have m136 := m123.trans (Wr.neI wH130 (Or.inr (x_apart hKT hts inX8 tyX8 tyX8_ok nmX8 rfl 13 7 (by decide) (by decide) (by decide)))).symm
  have m137 := m124.trans (Wr.neI wH130 (Or.inr (x_apart hKT hts inX8 tyX8 tyX8_ok nmX8 rfl 16 7 (by decide) (by decide) (by decide)))).symm
  have m138 := (Wr.neV wH130 (Or.inl (G_ne ga0 gwq (by decide)))).trans m125
  have m139 := m126.trans (Wr.neR wH130 (Or.inr (x_apart hKT hts inX8 tyX8 tyX8_ok nmX8 rfl 0 7 (by decide) (by decide) (by decide)))).symm
  have m140 := (Wr.neI wH130 (Or.inl (G_ne ga0 gwq (by decide)))).trans m127
  have m141 := (Wr.neI wH130 (Or.inr (x_apart hKT hts inX8 tyX8 tyX8_ok nmX8 rfl 6 7 (by decide) (by decide) (by decide)))).trans m128
  have m142 := Wr.I wH130
  refine lv_aload_n hx hb dX9_text_26 rfl (lv_at hl103 1 rfl) ?_
  refine lv_iload_n hx hb dX9_text_27 rfl (lv_at hl103 2 rfl) ?_
  refine lv_iload_n hx hb dX9_text_28 rfl (lv_at hl103 3 rfl) ?_
  refine x_V (As := [.int x1, .int x2]) (rest := []) C (a_X9_textAt l K G H130 (x1) (x2) hTH130 ga0) yo_X9_textAt wM_X9_117 ⟨⟨by decide, by decide⟩, by decide, by decide⟩ (x_rv C hTH130 (ci := 9) rfl ga0 rg_68) rfl hl103.1 rfl (Nat.le_of_ble_eq_true rfl) dX9_text_29 hSH130 (AE_sub (fun _ _ => rfl) (by decide) hSH130.1) (fun vH143 H143 locsH143 pH143 zH143 kH143 hSH143 => ?_)
  have hTH143 := pH143.2
  have m144 := (m131).trans (fR_kept (x_lt hTH130 kH143 ga0 (by decide))).symm
  have m145 := (m132).trans (fI_kept (x_lt hTH130 kH143 gwq (by decide))).symm
  have m146 := (m133).trans (fI_kept (x_lt hTH130 kH143 gwq (by decide))).symm
  have m147 := (m134).trans (fI_kept (x_lt hTH130 kH143 gwq (by decide))).symm
  have m148 := (m135).trans (fI_kept (x_lt hTH130 kH143 gwq (by decide))).symm
  have m149 := (m136).trans (fI_kept (x_lt hTH130 kH143 gwq (by decide))).symm
  have m150 := (m137).trans (fI_kept (x_lt hTH130 kH143 gwq (by decide))).symm
  have m151 := (fV_kept (x_lt hTH130 kH143 ga0 (by decide))).trans m138
  have m152 := (m139).trans (fR_kept (x_lt hTH130 kH143 gwq (by decide))).symm
  have m153 := (fI_kept (x_lt hTH130 kH143 ga0 (by decide))).trans m140
  have m154 := (fI_kept (x_lt hTH130 kH143 gwq (by decide))).trans m141
  have m155 := (fI_kept (x_lt hTH130 kH143 gwq (by decide))).trans m142
  rcases pH143.1 with hvH143 | ⟨q156, hvH143, gq156⟩
  · skip
    subst hvH143
    refine W.eq (g2 := F0 m 32 ls102 [.null]) rfl ?_
    refine lv_astoreN (lv' := [(4, .null), (3, .int x101), (0, .ref a0), (1, .int x1), (2, .int x2)]) hx hb dX9_text_32 hl103 (by decide) rfl (fun ls157 hl158 => ?_)
    refine lv_aloadN hx hb dX9_text_34 (lv_at hl158 0 rfl) ?_
    refine lv_ifnonnullN hx hb dX9_text_36 ?_
    refine lv_iconst (v := (-1)) hx hb dX9_text_39 (by decide) ?_
    exact x_iret C hQ dX9_text_40 hSH143 (by decide) (by decide) (⟨(-1), rfl, m144, m145, m146, m147, m148, m149, m150, m153, m151, m152, hTH143⟩)
  · skip
    subst hvH143
    refine W.eq (g2 := F0 m 32 ls102 [.ref q156]) rfl ?_
    refine lv_astore (lv' := [(4, .ref q156), (3, .int x101), (0, .ref a0), (1, .int x1), (2, .int x2)]) hx hb dX9_text_32 hl103 (by decide) rfl (fun ls159 hl160 => ?_)
    refine lv_aload hx hb dX9_text_34 (lv_at hl160 0 rfl) ?_
    refine lv_ifnonnull (tgt := 41) hx hb dX9_text_36 (by decide) ?_
    refine lv_aload_n hx hb dX9_text_41 rfl (lv_at hl160 2 rfl) ?_
    refine x_gr C hTH143 (ci := 9) (k := 4) rfl inX9 (by decide) wF_X9_23 ga0 rg_68 rfl dX9_text_42 (fun q161 eq161 gq161 => ?_)
    refine lv_aload_n hx hb dX9_text_45 rfl (lv_at hl160 2 rfl) ?_
    refine x_gr C hTH143 (ci := 9) (k := 2) rfl inX9 (by decide) wF_X9_16 ga0 rg_68 rfl dX9_text_46 (fun q162 eq162 gq162 => ?_)
    refine lv_iload_n hx hb dX9_text_49 rfl (lv_at hl160 1 rfl) ?_
    refine lv_iload_n hx hb dX9_text_50 rfl (lv_at hl160 3 rfl) ?_
    refine lv_if_ne (tgt := 58) hx hb dX9_text_51 (by decide) (fun c163 => ?_) (fun c163 => ?_)
    · have k164 := i_ne c163
      refine lv_iconst (v := 0) hx hb dX9_text_58 (by decide) ?_
      obtain ⟨q165, eq165⟩ : ∃ z : Nat, z = fR H143 q161 (K.1.2 4 0) := ⟨_, rfl⟩
      have gq165 := ty_fr (q := q165) (k := 0) (u := 69) eq165 hTH143 gq161 rg_78 rfl
      obtain ⟨q166, eq166⟩ : ∃ z : Nat, z = fR H143 q161 (K.1.2 4 3) := ⟨_, rfl⟩
      have gq166 := ty_fr (q := q166) (k := 3) (u := 79) eq166 hTH143 gq161 rg_78 rfl
      obtain ⟨x167, ex167⟩ : ∃ z : Int32, z = fI H143 q161 (K.1.2 4 7) := ⟨_, rfl⟩
      have bx167 := ty_fi (x := x167) (k := 7) ex167 hTH143 gq161 rg_78 rfl
      obtain ⟨x168, ex168⟩ : ∃ z : Int32, z = fI H143 q161 (K.1.2 4 6) := ⟨_, rfl⟩
      have bx168 := ty_fi (x := x168) (k := 6) ex168 hTH143 gq161 rg_78 rfl
      refine x_V (As := [.ref q162, .int x101, .int 0]) (rest := []) C (a_X4_start l K G H143 (x101) (0) (x167) (x168) hTH143 gq161 gq162 (by omega) (by decide) gq165 eq165 gq166 eq166 ex167 ex168) yo_X4_start wM_X9_121 ⟨⟨by decide, by decide⟩, by decide, by decide⟩ (x_rv C hTH143 (ci := 4) rfl gq161 rg_78) rfl hl160.1 rfl (Nat.le_of_ble_eq_true rfl) dX9_text_59 hSH143 (AE_sub (fun _ _ => rfl) (by decide) hSH143.1) (fun vH169 H169 locsH169 pH169 zH169 kH169 hSH169 => ?_)
      obtain ⟨x170, x171, hvH169, ex170, ex171, hrH169, m172, m173, m174, hTH169⟩ := pH169
      subst hvH169
      have m175 := (m144).trans (fR_kept (x_lt hTH143 kH169 ga0 (by decide))).symm
      have m176 := (m145).trans (fI_kept (x_lt hTH143 kH169 gwq (by decide))).symm
      have m177 := (m146).trans (fI_kept (x_lt hTH143 kH169 gwq (by decide))).symm
      have m178 := (m147).trans (fI_kept (x_lt hTH143 kH169 gwq (by decide))).symm
      have m179 := (m148).trans (fI_kept (x_lt hTH143 kH169 gwq (by decide))).symm
      have m180 := (m149).trans (fI_kept (x_lt hTH143 kH169 gwq (by decide))).symm
      have m181 := (m150).trans (fI_kept (x_lt hTH143 kH169 gwq (by decide))).symm
      have m182 := (fV_kept (x_lt hTH143 kH169 ga0 (by decide))).trans m151
      have m183 := (m152).trans (fR_kept (x_lt hTH143 kH169 gwq (by decide))).symm
      have m184 := (fI_kept (x_lt hTH143 kH169 ga0 (by decide))).trans m153
      have m185 := (fI_kept (x_lt hTH143 kH169 gwq (by decide))).trans m154
      have m186 := (fI_kept (x_lt hTH143 kH169 gwq (by decide))).trans m155
      have m187 := (eq161).trans (fR_kept (x_lt hTH143 kH169 ga0 (by decide))).symm
      have m188 := (eq162).trans (fR_kept (x_lt hTH143 kH169 ga0 (by decide))).symm
      have bx170 := ty_fi (x := x170) (k := 7) ex170 hTH169 gq161 rg_78 rfl
      have bx171 := ty_fi (x := x171) (k := 6) ex171 hTH169 gq161 rg_78 rfl
      obtain ⟨x189, bx189, mx189⟩ := m174
      refine W.eq (g2 := F0 m 62 ls159 []) rfl ?_
      refine lv_iconst (v := 0) hx hb dX9_text_62 (by decide) ?_
      refine lv_istore (lv' := [(5, .int 0), (4, .ref q156), (3, .int x101), (0, .ref a0), (1, .int x1), (2, .int x2)]) hx hb dX9_text_63 hl160 (by decide) rfl (fun ls190 hl191 => ?_)
      have Lp192 : ∀ (nf : Nat) (ls195 : Array Slot) (H194 : Heap) (locsH194 : List Loc) (x193 : Int32) (x211 : Int32), lv_has ls195 6 [(5, .int x193), (4, .ref q156), (0, .ref a0)] → TY K G H194 → va_S (AE G [68, 0, 78, 79, 80, 81, 69, 70, 71, 72, 73, 74, 75, 76, 77, 16, 17, 18, 19, 20, 21, 22, 23, 24] s.heap.size) s.heap H194 locsH194 → (0 ≤ x193.toInt ∧ x193.toInt ≤ 17) → (q161 = fR H194 a0 (K.1.2 9 4)) → (q165 = fR H194 q161 (K.1.2 4 0)) → (q166 = fR H194 q161 (K.1.2 4 3)) → (fI H194 q166 (x189 : Int32).toNatClampNeg = 26) → (bq = fR H194 wq (K.1.2 8 0)) → (fI H194 a0 (K.1.2 9 3) = 0) → (fV H194 a0 (K.1.2 9 1) = kv) → (wq = fR H194 a0 (K.1.2 9 0)) → (s1 = fI H194 wq (K.1.2 8 1)) → (s4 = fI H194 wq (K.1.2 8 4)) → (s5 = fI H194 wq (K.1.2 8 5)) → (s10 = fI H194 wq (K.1.2 8 10)) → (s13 = fI H194 wq (K.1.2 8 13)) → (s16 = fI H194 wq (K.1.2 8 16)) → (x211 = fI H194 q161 (K.1.2 4 7)) → (x211.toInt ≤ x189.toInt ∧ 0 ≤ x211.toInt) → (17 - x193.toInt < (nf : Int)) → W p l e ({ frames := 39, cells := 0, slots := 0, locals := 869 } : Room) s m (([.ref a0, .int x1, .int x2] : List Value).toArray) below meth c H194 locsH194 ((0 + 0) + 0) ((0 + 0) + 0) Q (F0 m 65 ls195 []) := by
        intro nf
        induction nf with
        | zero =>
          intro ls195 H194 locsH194 x193 x211 hl196 hTH194 hSH194 bx193 i197 i198 i199 i200 i201 i202 i203 i204 i205 i206 i207 i208 i209 i210 ex211 tx211 hmLp192
          exfalso
          omega
        | succ nf ihLp192 =>
          intro ls195 H194 locsH194 x193 x211 hl196 hTH194 hSH194 bx193 i197 i198 i199 i200 i201 i202 i203 i204 i205 i206 i207 i208 i209 i210 ex211 tx211 hmLp192
          refine lv_iload hx hb dX9_text_65 (lv_at hl196 0 rfl) ?_
          refine lv_bipush (v := 16) hx hb dX9_text_67 (by decide) ?_
          refine lv_icmp_gt (tgt := 96) hx hb dX9_text_69 (by decide) (fun c212 => ?_) (fun c212 => ?_)
          · have k213 := i_lt c212
            refine lv_aload_n hx hb dX9_text_96 rfl (lv_at hl196 2 rfl) ?_
            refine x_gr C hTH194 (ci := 9) (k := 4) rfl inX9 (by decide) wF_X9_23 ga0 rg_68 rfl dX9_text_97 (fun q214 eq214 gq214 => ?_)
            have uq214 : q161 = q214 := (i197).trans eq214.symm
            subst uq214
            refine x_gi C hTH194 (ci := 4) (k := 1) rfl inX4 (by decide) wF_X9_132 gq161 rg_78 rfl dX9_text_100 (fun x215 ex215 bx215 => ?_)
            refine lv_if_eq (tgt := 136) hx hb dX9_text_103 (by decide) (fun c216 => ?_) (fun c216 => ?_)
            · have k217 := i_eq c216
              refine lv_aload hx hb dX9_text_136 (lv_at hl196 1 rfl) ?_
              refine lv_aload_n hx hb dX9_text_138 rfl (lv_at hl196 2 rfl) ?_
              refine x_gr C hTH194 (ci := 9) (k := 4) rfl inX9 (by decide) wF_X9_23 ga0 rg_68 rfl dX9_text_139 (fun q218 eq218 gq218 => ?_)
              have uq218 : q161 = q218 := (i197).trans eq218.symm
              subst uq218
              refine x_gr C hTH194 (ci := 4) (k := 0) rfl inX4 (by decide) wF_X9_134 gq161 rg_78 rfl dX9_text_142 (fun q219 eq219 gq219 => ?_)
              have uq219 : q165 = q219 := (i198).trans eq219.symm
              subst uq219
              refine x_V (As := [.ref q165]) (rest := []) C (a_X7_copyFrom_n_m l K G H194  hTH194 gq156 gq165) yo_X7_copyFrom wM_X9_138 ⟨⟨by decide, by decide⟩, by decide, by decide⟩ (x_rv C hTH194 (ci := 7) rfl gq156 rg_16) rfl hl196.1 rfl (Nat.le_of_ble_eq_true rfl) dX9_text_145 hSH194 (AE_sub (fun _ _ => rfl) (by decide) hSH194.1) (fun vH220 H220 locsH220 pH220 zH220 kH220 hSH220 => ?_)
              obtain ⟨hvH220, hTH220⟩ := pH220
              subst hvH220
              have m221 := (i197).trans (fR_kept (x_lt hTH194 kH220 ga0 (by decide))).symm
              have m222 := (i198).trans (fR_kept (x_lt hTH194 kH220 gq161 (by decide))).symm
              have m223 := (i199).trans (fR_kept (x_lt hTH194 kH220 gq161 (by decide))).symm
              have m224 := (fI_kept (x_lt hTH194 kH220 gq166 (by decide))).trans i200
              have m225 := (i201).trans (fR_kept (x_lt hTH194 kH220 gwq (by decide))).symm
              have m226 := (fI_kept (x_lt hTH194 kH220 ga0 (by decide))).trans i202
              have m227 := (fV_kept (x_lt hTH194 kH220 ga0 (by decide))).trans i203
              have m228 := (i204).trans (fR_kept (x_lt hTH194 kH220 ga0 (by decide))).symm
              have m229 := (i205).trans (fI_kept (x_lt hTH194 kH220 gwq (by decide))).symm
              have m230 := (i206).trans (fI_kept (x_lt hTH194 kH220 gwq (by decide))).symm
              have m231 := (i207).trans (fI_kept (x_lt hTH194 kH220 gwq (by decide))).symm
              have m232 := (i208).trans (fI_kept (x_lt hTH194 kH220 gwq (by decide))).symm
              have m233 := (i209).trans (fI_kept (x_lt hTH194 kH220 gwq (by decide))).symm
              have m234 := (i210).trans (fI_kept (x_lt hTH194 kH220 gwq (by decide))).symm
              have m235 := (ex211).trans (fI_kept (x_lt hTH194 kH220 gq161 (by decide))).symm
              have m236 := (ex215).trans (fI_kept (x_lt hTH194 kH220 gq161 (by decide))).symm
              refine W.eq (g2 := F0 m 148 ls195 []) rfl ?_
              refine lv_aload hx hb dX9_text_148 (lv_at hl196 1 rfl) ?_
              refine x_gi C hTH220 (ci := 7) (k := 0) rfl inX7 (by decide) wF_X9_144 gq156 rg_16 rfl dX9_text_150 (fun x237 ex237 bx237 => ?_)
              exact x_iret C hQ dX9_text_153 hSH220 (by decide) (by decide) (⟨x237, rfl, m228, m229, m230, m231, m232, m233, m234, m226, m227, m225, hTH220⟩)
            · have k217 := i_ne c216
              refine lv_aload_n hx hb dX9_text_106 rfl (lv_at hl196 2 rfl) ?_
              refine x_gr C hTH194 (ci := 9) (k := 0) rfl inX9 (by decide) wF_X9_12 ga0 rg_68 rfl dX9_text_107 (fun q238 eq238 gq238 => ?_)
              have uq238 : wq = q238 := (i204).trans eq238.symm
              subst uq238
              refine lv_aload_n hx hb dX9_text_110 rfl (lv_at hl196 2 rfl) ?_
              refine x_gr C hTH194 (ci := 9) (k := 4) rfl inX9 (by decide) wF_X9_23 ga0 rg_68 rfl dX9_text_111 (fun q239 eq239 gq239 => ?_)
              have uq239 : q161 = q239 := (i197).trans eq239.symm
              subst uq239
              refine x_gi C hTH194 (ci := 4) (k := 1) rfl inX4 (by decide) wF_X9_132 gq161 rg_78 rfl dX9_text_114 (fun x240 ex240 bx240 => ?_)
              have ux240 : x215 = x240 := (ex215).trans ex240.symm
              subst ux240
              refine x_put C hTH194 hSH194 (ci := 8) (k := 6) (v := .int x215) (ty0 := tyX8) rfl inX8 tyX8_ok nmX8 (by decide) rfl wF_X9_111 gwq rg_0 rfl rfl (okI (by have := i_rng x215; omega) (by have := i_rng x215; omega)) rfl rfl (AE_in gwq (by decide)) dX9_text_117 (fun H241 locsH241 hTH241 hSH241 wH241 => ?_)
              have m242 := i197.trans (Wr.neR wH241 (Or.inl (G_ne ga0 gwq (by decide)))).symm
              have m243 := i198.trans (Wr.neR wH241 (Or.inl (G_ne gq161 gwq (by decide)))).symm
              have m244 := i199.trans (Wr.neR wH241 (Or.inl (G_ne gq161 gwq (by decide)))).symm
              have m245 := (Wr.neI wH241 (Or.inl (G_ne gq166 gwq (by decide)))).trans i200
              have m246 := i201.trans (Wr.neR wH241 (Or.inr (x_apart hKT hts inX8 tyX8 tyX8_ok nmX8 rfl 0 6 (by decide) (by decide) (by decide)))).symm
              have m247 := (Wr.neI wH241 (Or.inl (G_ne ga0 gwq (by decide)))).trans i202
              have m248 := (Wr.neV wH241 (Or.inl (G_ne ga0 gwq (by decide)))).trans i203
              have m249 := i204.trans (Wr.neR wH241 (Or.inl (G_ne ga0 gwq (by decide)))).symm
              have m250 := i205.trans (Wr.neI wH241 (Or.inr (x_apart hKT hts inX8 tyX8 tyX8_ok nmX8 rfl 1 6 (by decide) (by decide) (by decide)))).symm
              have m251 := i206.trans (Wr.neI wH241 (Or.inr (x_apart hKT hts inX8 tyX8 tyX8_ok nmX8 rfl 4 6 (by decide) (by decide) (by decide)))).symm
              have m252 := i207.trans (Wr.neI wH241 (Or.inr (x_apart hKT hts inX8 tyX8 tyX8_ok nmX8 rfl 5 6 (by decide) (by decide) (by decide)))).symm
              have m253 := i208.trans (Wr.neI wH241 (Or.inr (x_apart hKT hts inX8 tyX8 tyX8_ok nmX8 rfl 10 6 (by decide) (by decide) (by decide)))).symm
              have m254 := i209.trans (Wr.neI wH241 (Or.inr (x_apart hKT hts inX8 tyX8 tyX8_ok nmX8 rfl 13 6 (by decide) (by decide) (by decide)))).symm
              have m255 := i210.trans (Wr.neI wH241 (Or.inr (x_apart hKT hts inX8 tyX8 tyX8_ok nmX8 rfl 16 6 (by decide) (by decide) (by decide)))).symm
              have m256 := ex211.trans (Wr.neI wH241 (Or.inl (G_ne gq161 gwq (by decide)))).symm
              have m257 := ex215.trans (Wr.neI wH241 (Or.inl (G_ne gq161 gwq (by decide)))).symm
              have m258 := Wr.I wH241
              have m258 := m258.symm
              refine lv_aload_n hx hb dX9_text_120 rfl (lv_at hl196 2 rfl) ?_
              refine x_gr C hTH241 (ci := 9) (k := 0) rfl inX9 (by decide) wF_X9_12 ga0 rg_68 rfl dX9_text_121 (fun q259 eq259 gq259 => ?_)
              have uq259 : wq = q259 := (m249).trans eq259.symm
              subst uq259
              refine lv_aload_n hx hb dX9_text_124 rfl (lv_at hl196 2 rfl) ?_
              refine x_gr C hTH241 (ci := 9) (k := 4) rfl inX9 (by decide) wF_X9_23 ga0 rg_68 rfl dX9_text_125 (fun q260 eq260 gq260 => ?_)
              have uq260 : q161 = q260 := (m242).trans eq260.symm
              subst uq260
              refine x_gi C hTH241 (ci := 4) (k := 2) rfl inX4 (by decide) wF_X9_133 gq161 rg_78 rfl dX9_text_128 (fun x261 ex261 bx261 => ?_)
              refine x_put C hTH241 hSH241 (ci := 8) (k := 7) (v := .int x261) (ty0 := tyX8) rfl inX8 tyX8_ok nmX8 (by decide) rfl wF_X9_114 gwq rg_0 rfl rfl (okI (by have := i_rng x261; omega) (by have := i_rng x261; omega)) rfl rfl (AE_in gwq (by decide)) dX9_text_131 (fun H262 locsH262 hTH262 hSH262 wH262 => ?_)
              have m263 := m242.trans (Wr.neR wH262 (Or.inl (G_ne ga0 gwq (by decide)))).symm
              have m264 := m243.trans (Wr.neR wH262 (Or.inl (G_ne gq161 gwq (by decide)))).symm
              have m265 := m244.trans (Wr.neR wH262 (Or.inl (G_ne gq161 gwq (by decide)))).symm
              have m266 := (Wr.neI wH262 (Or.inl (G_ne gq166 gwq (by decide)))).trans m245
              have m267 := m246.trans (Wr.neR wH262 (Or.inr (x_apart hKT hts inX8 tyX8 tyX8_ok nmX8 rfl 0 7 (by decide) (by decide) (by decide)))).symm
              have m268 := (Wr.neI wH262 (Or.inl (G_ne ga0 gwq (by decide)))).trans m247
              have m269 := (Wr.neV wH262 (Or.inl (G_ne ga0 gwq (by decide)))).trans m248
              have m270 := m249.trans (Wr.neR wH262 (Or.inl (G_ne ga0 gwq (by decide)))).symm
              have m271 := m250.trans (Wr.neI wH262 (Or.inr (x_apart hKT hts inX8 tyX8 tyX8_ok nmX8 rfl 1 7 (by decide) (by decide) (by decide)))).symm
              have m272 := m251.trans (Wr.neI wH262 (Or.inr (x_apart hKT hts inX8 tyX8 tyX8_ok nmX8 rfl 4 7 (by decide) (by decide) (by decide)))).symm
              have m273 := m252.trans (Wr.neI wH262 (Or.inr (x_apart hKT hts inX8 tyX8 tyX8_ok nmX8 rfl 5 7 (by decide) (by decide) (by decide)))).symm
              have m274 := m253.trans (Wr.neI wH262 (Or.inr (x_apart hKT hts inX8 tyX8 tyX8_ok nmX8 rfl 10 7 (by decide) (by decide) (by decide)))).symm
              have m275 := m254.trans (Wr.neI wH262 (Or.inr (x_apart hKT hts inX8 tyX8 tyX8_ok nmX8 rfl 13 7 (by decide) (by decide) (by decide)))).symm
              have m276 := m255.trans (Wr.neI wH262 (Or.inr (x_apart hKT hts inX8 tyX8 tyX8_ok nmX8 rfl 16 7 (by decide) (by decide) (by decide)))).symm
              have m277 := m256.trans (Wr.neI wH262 (Or.inl (G_ne gq161 gwq (by decide)))).symm
              have m278 := m257.trans (Wr.neI wH262 (Or.inl (G_ne gq161 gwq (by decide)))).symm
              have m279 := m258.trans (Wr.neI wH262 (Or.inr (x_apart hKT hts inX8 tyX8 tyX8_ok nmX8 rfl 6 7 (by decide) (by decide) (by decide)))).symm
              have m280 := ex261.trans (Wr.neI wH262 (Or.inl (G_ne gq161 gwq (by decide)))).symm
              have m281 := Wr.I wH262
              have m281 := m281.symm
              refine lv_iconst (v := (-1)) hx hb dX9_text_134 (by decide) ?_
              exact x_iret C hQ dX9_text_135 hSH262 (by decide) (by decide) (⟨(-1), rfl, m270, m271, m272, m273, m274, m275, m276, m268, m269, m267, hTH262⟩)
          · have k213 := i_nlt c212
            refine lv_aload_n hx hb dX9_text_72 rfl (lv_at hl196 2 rfl) ?_
            refine x_gr C hTH194 (ci := 9) (k := 4) rfl inX9 (by decide) wF_X9_23 ga0 rg_68 rfl dX9_text_73 (fun q282 eq282 gq282 => ?_)
            have uq282 : q161 = q282 := (i197).trans eq282.symm
            subst uq282
            refine x_V (As := []) (rest := []) C (a_X4_goesOn l K G H194  hTH194 gq161) yo_X4_goesOn wM_X9_125 ⟨⟨by decide, by decide⟩, by decide, by decide⟩ (x_rv C hTH194 (ci := 4) rfl gq161 rg_78) rfl hl196.1 rfl (Nat.le_of_ble_eq_true rfl) dX9_text_76 hSH194 (AE_sub (fun _ _ => rfl) (by decide) hSH194.1) (fun vH283 H283 locsH283 pH283 zH283 kH283 hSH283 => ?_)
            obtain ⟨x284, hvH283, bx284, hTH283⟩ := pH283
            subst hvH283
            have m285 := (i197).trans (fR_kept (x_lt hTH194 kH283 ga0 (by decide))).symm
            have m286 := (i198).trans (fR_kept (x_lt hTH194 kH283 gq161 (by decide))).symm
            have m287 := (i199).trans (fR_kept (x_lt hTH194 kH283 gq161 (by decide))).symm
            have m288 := (fI_kept (x_lt hTH194 kH283 gq166 (by decide))).trans i200
            have m289 := (i201).trans (fR_kept (x_lt hTH194 kH283 gwq (by decide))).symm
            have m290 := (fI_kept (x_lt hTH194 kH283 ga0 (by decide))).trans i202
            have m291 := (fV_kept (x_lt hTH194 kH283 ga0 (by decide))).trans i203
            have m292 := (i204).trans (fR_kept (x_lt hTH194 kH283 ga0 (by decide))).symm
            have m293 := (i205).trans (fI_kept (x_lt hTH194 kH283 gwq (by decide))).symm
            have m294 := (i206).trans (fI_kept (x_lt hTH194 kH283 gwq (by decide))).symm
            have m295 := (i207).trans (fI_kept (x_lt hTH194 kH283 gwq (by decide))).symm
            have m296 := (i208).trans (fI_kept (x_lt hTH194 kH283 gwq (by decide))).symm
            have m297 := (i209).trans (fI_kept (x_lt hTH194 kH283 gwq (by decide))).symm
            have m298 := (i210).trans (fI_kept (x_lt hTH194 kH283 gwq (by decide))).symm
            have m299 := (ex211).trans (fI_kept (x_lt hTH194 kH283 gq161 (by decide))).symm
            refine W.eq (g2 := F0 m 79 ls195 [.int x284]) rfl ?_
            refine lv_if_eq (tgt := 96) hx hb dX9_text_79 (by decide) (fun c300 => ?_) (fun c300 => ?_)
            · have k301 := i_eq c300
              refine lv_aload_n hx hb dX9_text_96 rfl (lv_at hl196 2 rfl) ?_
              refine x_gr C hTH283 (ci := 9) (k := 4) rfl inX9 (by decide) wF_X9_23 ga0 rg_68 rfl dX9_text_97 (fun q302 eq302 gq302 => ?_)
              have uq302 : q161 = q302 := (m285).trans eq302.symm
              subst uq302
              refine x_gi C hTH283 (ci := 4) (k := 1) rfl inX4 (by decide) wF_X9_132 gq161 rg_78 rfl dX9_text_100 (fun x303 ex303 bx303 => ?_)
              refine lv_if_eq (tgt := 136) hx hb dX9_text_103 (by decide) (fun c304 => ?_) (fun c304 => ?_)
              · have k305 := i_eq c304
                refine lv_aload hx hb dX9_text_136 (lv_at hl196 1 rfl) ?_
                refine lv_aload_n hx hb dX9_text_138 rfl (lv_at hl196 2 rfl) ?_
                refine x_gr C hTH283 (ci := 9) (k := 4) rfl inX9 (by decide) wF_X9_23 ga0 rg_68 rfl dX9_text_139 (fun q306 eq306 gq306 => ?_)
                have uq306 : q161 = q306 := (m285).trans eq306.symm
                subst uq306
                refine x_gr C hTH283 (ci := 4) (k := 0) rfl inX4 (by decide) wF_X9_134 gq161 rg_78 rfl dX9_text_142 (fun q307 eq307 gq307 => ?_)
                have uq307 : q165 = q307 := (m286).trans eq307.symm
                subst uq307
                refine x_V (As := [.ref q165]) (rest := []) C (a_X7_copyFrom_n_m l K G H283  hTH283 gq156 gq165) yo_X7_copyFrom wM_X9_138 ⟨⟨by decide, by decide⟩, by decide, by decide⟩ (x_rv C hTH283 (ci := 7) rfl gq156 rg_16) rfl hl196.1 rfl (Nat.le_of_ble_eq_true rfl) dX9_text_145 hSH283 (AE_sub (fun _ _ => rfl) (by decide) hSH283.1) (fun vH308 H308 locsH308 pH308 zH308 kH308 hSH308 => ?_)
                obtain ⟨hvH308, hTH308⟩ := pH308
                subst hvH308
                have m309 := (m285).trans (fR_kept (x_lt hTH283 kH308 ga0 (by decide))).symm
                have m310 := (m286).trans (fR_kept (x_lt hTH283 kH308 gq161 (by decide))).symm
                have m311 := (m287).trans (fR_kept (x_lt hTH283 kH308 gq161 (by decide))).symm
                have m312 := (fI_kept (x_lt hTH283 kH308 gq166 (by decide))).trans m288
                have m313 := (m289).trans (fR_kept (x_lt hTH283 kH308 gwq (by decide))).symm
                have m314 := (fI_kept (x_lt hTH283 kH308 ga0 (by decide))).trans m290
                have m315 := (fV_kept (x_lt hTH283 kH308 ga0 (by decide))).trans m291
                have m316 := (m292).trans (fR_kept (x_lt hTH283 kH308 ga0 (by decide))).symm
                have m317 := (m293).trans (fI_kept (x_lt hTH283 kH308 gwq (by decide))).symm
                have m318 := (m294).trans (fI_kept (x_lt hTH283 kH308 gwq (by decide))).symm
                have m319 := (m295).trans (fI_kept (x_lt hTH283 kH308 gwq (by decide))).symm
                have m320 := (m296).trans (fI_kept (x_lt hTH283 kH308 gwq (by decide))).symm
                have m321 := (m297).trans (fI_kept (x_lt hTH283 kH308 gwq (by decide))).symm
                have m322 := (m298).trans (fI_kept (x_lt hTH283 kH308 gwq (by decide))).symm
                have m323 := (m299).trans (fI_kept (x_lt hTH283 kH308 gq161 (by decide))).symm
                have m324 := (ex303).trans (fI_kept (x_lt hTH283 kH308 gq161 (by decide))).symm
                refine W.eq (g2 := F0 m 148 ls195 []) rfl ?_
                refine lv_aload hx hb dX9_text_148 (lv_at hl196 1 rfl) ?_
                refine x_gi C hTH308 (ci := 7) (k := 0) rfl inX7 (by decide) wF_X9_144 gq156 rg_16 rfl dX9_text_150 (fun x325 ex325 bx325 => ?_)
                exact x_iret C hQ dX9_text_153 hSH308 (by decide) (by decide) (⟨x325, rfl, m316, m317, m318, m319, m320, m321, m322, m314, m315, m313, hTH308⟩)
              · have k305 := i_ne c304
                refine lv_aload_n hx hb dX9_text_106 rfl (lv_at hl196 2 rfl) ?_
                refine x_gr C hTH283 (ci := 9) (k := 0) rfl inX9 (by decide) wF_X9_12 ga0 rg_68 rfl dX9_text_107 (fun q326 eq326 gq326 => ?_)
                have uq326 : wq = q326 := (m292).trans eq326.symm
                subst uq326
                refine lv_aload_n hx hb dX9_text_110 rfl (lv_at hl196 2 rfl) ?_
                refine x_gr C hTH283 (ci := 9) (k := 4) rfl inX9 (by decide) wF_X9_23 ga0 rg_68 rfl dX9_text_111 (fun q327 eq327 gq327 => ?_)
                have uq327 : q161 = q327 := (m285).trans eq327.symm
                subst uq327
                refine x_gi C hTH283 (ci := 4) (k := 1) rfl inX4 (by decide) wF_X9_132 gq161 rg_78 rfl dX9_text_114 (fun x328 ex328 bx328 => ?_)
                have ux328 : x303 = x328 := (ex303).trans ex328.symm
                subst ux328
                refine x_put C hTH283 hSH283 (ci := 8) (k := 6) (v := .int x303) (ty0 := tyX8) rfl inX8 tyX8_ok nmX8 (by decide) rfl wF_X9_111 gwq rg_0 rfl rfl (okI (by have := i_rng x303; omega) (by have := i_rng x303; omega)) rfl rfl (AE_in gwq (by decide)) dX9_text_117 (fun H329 locsH329 hTH329 hSH329 wH329 => ?_)
                have m330 := m285.trans (Wr.neR wH329 (Or.inl (G_ne ga0 gwq (by decide)))).symm
                have m331 := m286.trans (Wr.neR wH329 (Or.inl (G_ne gq161 gwq (by decide)))).symm
                have m332 := m287.trans (Wr.neR wH329 (Or.inl (G_ne gq161 gwq (by decide)))).symm
                have m333 := (Wr.neI wH329 (Or.inl (G_ne gq166 gwq (by decide)))).trans m288
                have m334 := m289.trans (Wr.neR wH329 (Or.inr (x_apart hKT hts inX8 tyX8 tyX8_ok nmX8 rfl 0 6 (by decide) (by decide) (by decide)))).symm
                have m335 := (Wr.neI wH329 (Or.inl (G_ne ga0 gwq (by decide)))).trans m290
                have m336 := (Wr.neV wH329 (Or.inl (G_ne ga0 gwq (by decide)))).trans m291
                have m337 := m292.trans (Wr.neR wH329 (Or.inl (G_ne ga0 gwq (by decide)))).symm
                have m338 := m293.trans (Wr.neI wH329 (Or.inr (x_apart hKT hts inX8 tyX8 tyX8_ok nmX8 rfl 1 6 (by decide) (by decide) (by decide)))).symm
                have m339 := m294.trans (Wr.neI wH329 (Or.inr (x_apart hKT hts inX8 tyX8 tyX8_ok nmX8 rfl 4 6 (by decide) (by decide) (by decide)))).symm
                have m340 := m295.trans (Wr.neI wH329 (Or.inr (x_apart hKT hts inX8 tyX8 tyX8_ok nmX8 rfl 5 6 (by decide) (by decide) (by decide)))).symm
                have m341 := m296.trans (Wr.neI wH329 (Or.inr (x_apart hKT hts inX8 tyX8 tyX8_ok nmX8 rfl 10 6 (by decide) (by decide) (by decide)))).symm
                have m342 := m297.trans (Wr.neI wH329 (Or.inr (x_apart hKT hts inX8 tyX8 tyX8_ok nmX8 rfl 13 6 (by decide) (by decide) (by decide)))).symm
                have m343 := m298.trans (Wr.neI wH329 (Or.inr (x_apart hKT hts inX8 tyX8 tyX8_ok nmX8 rfl 16 6 (by decide) (by decide) (by decide)))).symm
                have m344 := m299.trans (Wr.neI wH329 (Or.inl (G_ne gq161 gwq (by decide)))).symm
                have m345 := ex303.trans (Wr.neI wH329 (Or.inl (G_ne gq161 gwq (by decide)))).symm
                have m346 := Wr.I wH329
                have m346 := m346.symm
                refine lv_aload_n hx hb dX9_text_120 rfl (lv_at hl196 2 rfl) ?_
                refine x_gr C hTH329 (ci := 9) (k := 0) rfl inX9 (by decide) wF_X9_12 ga0 rg_68 rfl dX9_text_121 (fun q347 eq347 gq347 => ?_)
                have uq347 : wq = q347 := (m337).trans eq347.symm
                subst uq347
                refine lv_aload_n hx hb dX9_text_124 rfl (lv_at hl196 2 rfl) ?_
                refine x_gr C hTH329 (ci := 9) (k := 4) rfl inX9 (by decide) wF_X9_23 ga0 rg_68 rfl dX9_text_125 (fun q348 eq348 gq348 => ?_)
                have uq348 : q161 = q348 := (m330).trans eq348.symm
                subst uq348
                refine x_gi C hTH329 (ci := 4) (k := 2) rfl inX4 (by decide) wF_X9_133 gq161 rg_78 rfl dX9_text_128 (fun x349 ex349 bx349 => ?_)
                refine x_put C hTH329 hSH329 (ci := 8) (k := 7) (v := .int x349) (ty0 := tyX8) rfl inX8 tyX8_ok nmX8 (by decide) rfl wF_X9_114 gwq rg_0 rfl rfl (okI (by have := i_rng x349; omega) (by have := i_rng x349; omega)) rfl rfl (AE_in gwq (by decide)) dX9_text_131 (fun H350 locsH350 hTH350 hSH350 wH350 => ?_)
                have m351 := m330.trans (Wr.neR wH350 (Or.inl (G_ne ga0 gwq (by decide)))).symm
                have m352 := m331.trans (Wr.neR wH350 (Or.inl (G_ne gq161 gwq (by decide)))).symm
                have m353 := m332.trans (Wr.neR wH350 (Or.inl (G_ne gq161 gwq (by decide)))).symm
                have m354 := (Wr.neI wH350 (Or.inl (G_ne gq166 gwq (by decide)))).trans m333
                have m355 := m334.trans (Wr.neR wH350 (Or.inr (x_apart hKT hts inX8 tyX8 tyX8_ok nmX8 rfl 0 7 (by decide) (by decide) (by decide)))).symm
                have m356 := (Wr.neI wH350 (Or.inl (G_ne ga0 gwq (by decide)))).trans m335
                have m357 := (Wr.neV wH350 (Or.inl (G_ne ga0 gwq (by decide)))).trans m336
                have m358 := m337.trans (Wr.neR wH350 (Or.inl (G_ne ga0 gwq (by decide)))).symm
                have m359 := m338.trans (Wr.neI wH350 (Or.inr (x_apart hKT hts inX8 tyX8 tyX8_ok nmX8 rfl 1 7 (by decide) (by decide) (by decide)))).symm
                have m360 := m339.trans (Wr.neI wH350 (Or.inr (x_apart hKT hts inX8 tyX8 tyX8_ok nmX8 rfl 4 7 (by decide) (by decide) (by decide)))).symm
                have m361 := m340.trans (Wr.neI wH350 (Or.inr (x_apart hKT hts inX8 tyX8 tyX8_ok nmX8 rfl 5 7 (by decide) (by decide) (by decide)))).symm
                have m362 := m341.trans (Wr.neI wH350 (Or.inr (x_apart hKT hts inX8 tyX8 tyX8_ok nmX8 rfl 10 7 (by decide) (by decide) (by decide)))).symm
                have m363 := m342.trans (Wr.neI wH350 (Or.inr (x_apart hKT hts inX8 tyX8 tyX8_ok nmX8 rfl 13 7 (by decide) (by decide) (by decide)))).symm
                have m364 := m343.trans (Wr.neI wH350 (Or.inr (x_apart hKT hts inX8 tyX8 tyX8_ok nmX8 rfl 16 7 (by decide) (by decide) (by decide)))).symm
                have m365 := m344.trans (Wr.neI wH350 (Or.inl (G_ne gq161 gwq (by decide)))).symm
                have m366 := m345.trans (Wr.neI wH350 (Or.inl (G_ne gq161 gwq (by decide)))).symm
                have m367 := m346.trans (Wr.neI wH350 (Or.inr (x_apart hKT hts inX8 tyX8 tyX8_ok nmX8 rfl 6 7 (by decide) (by decide) (by decide)))).symm
                have m368 := ex349.trans (Wr.neI wH350 (Or.inl (G_ne gq161 gwq (by decide)))).symm
                have m369 := Wr.I wH350
                have m369 := m369.symm
                refine lv_iconst (v := (-1)) hx hb dX9_text_134 (by decide) ?_
                exact x_iret C hQ dX9_text_135 hSH350 (by decide) (by decide) (⟨(-1), rfl, m358, m359, m360, m361, m362, m363, m364, m356, m357, m355, hTH350⟩)
            · have k301 := i_ne c300
              refine lv_aload_n hx hb dX9_text_82 rfl (lv_at hl196 2 rfl) ?_
              refine x_gr C hTH283 (ci := 9) (k := 4) rfl inX9 (by decide) wF_X9_23 ga0 rg_68 rfl dX9_text_83 (fun q370 eq370 gq370 => ?_)
              have uq370 : q161 = q370 := (m285).trans eq370.symm
              subst uq370
              obtain ⟨x371, ex371⟩ : ∃ z : Int32, z = fI H283 q165 (K.1.2 7 0) := ⟨_, rfl⟩
              have bx371 := ty_fi (x := x371) (k := 0) ex371 hTH283 gq165 rg_69 rfl
              refine x_V (As := []) (rest := []) C (a_X4_line l K G H283 (x189) (x211) (x371) hTH283 gq161 gq165 m286 gq166 m287 m299 ex371 m288 (by omega) (by omega)) yo_X4_line wM_X9_129 ⟨⟨by decide, by decide⟩, by decide, by decide⟩ (x_rv C hTH283 (ci := 4) rfl gq161 rg_78) rfl hl196.1 rfl (Nat.le_of_ble_eq_true rfl) dX9_text_86 hSH283 (AE_sub (fun _ _ => rfl) (by decide) hSH283.1) (fun vH372 H372 locsH372 pH372 zH372 kH372 hSH372 => ?_)
              obtain ⟨x373, x374, x375, hvH372, bx373, ex374, ex375, hrH372, m376, m377, hTH372⟩ := pH372
              subst hvH372
              have m378 := (m285).trans (fR_kept (x_lt hTH283 kH372 ga0 (by decide))).symm
              have m379 := (fI_kept (x_lt hTH283 kH372 gq166 (by decide))).trans m288
              have m380 := (m289).trans (fR_kept (x_lt hTH283 kH372 gwq (by decide))).symm
              have m381 := (fI_kept (x_lt hTH283 kH372 ga0 (by decide))).trans m290
              have m382 := (fV_kept (x_lt hTH283 kH372 ga0 (by decide))).trans m291
              have m383 := (m292).trans (fR_kept (x_lt hTH283 kH372 ga0 (by decide))).symm
              have m384 := (m293).trans (fI_kept (x_lt hTH283 kH372 gwq (by decide))).symm
              have m385 := (m294).trans (fI_kept (x_lt hTH283 kH372 gwq (by decide))).symm
              have m386 := (m295).trans (fI_kept (x_lt hTH283 kH372 gwq (by decide))).symm
              have m387 := (m296).trans (fI_kept (x_lt hTH283 kH372 gwq (by decide))).symm
              have m388 := (m297).trans (fI_kept (x_lt hTH283 kH372 gwq (by decide))).symm
              have m389 := (m298).trans (fI_kept (x_lt hTH283 kH372 gwq (by decide))).symm
              have bx374 := ty_fi (x := x374) (k := 7) ex374 hTH372 gq161 rg_78 rfl
              have bx375 := ty_fi (x := x375) (k := 0) ex375 hTH372 gq165 rg_69 rfl
              refine W.eq (g2 := F0 m 89 ls195 [.int x373]) rfl ?_
              refine lv_pop hx hb dX9_text_89 rfl ?_
              obtain ⟨x390, ex390⟩ : ∃ y : Int32, y = x193 + 1 := ⟨_, rfl⟩
              have tx390 := i_add ex390 (by omega)
              refine lv_iinc (v := x390) (lv' := [(5, .int x390), (4, .ref q156), (0, .ref a0)]) hx hb dX9_text_90 hl196 (k := 0) rfl (by rw [ex390]; rfl) (by decide) rfl (fun ls391 hl392 => ?_)
              refine lv_goto (tgt := 65) hx hb dX9_text_93 (by decide) ?_
              exact ihLp192 ls391 H372 locsH372 (x390) (x374) (lv_sub hl392 [0, 1, 2] rfl) hTH372 hSH372 (by omega) m378 m376 m377 m379 m380 m381 m382 m383 m384 m385 m386 m387 m388 m389 ex374 (by omega) (by omega)
      exact Lp192 ((17 - (0 : Int32).toInt).toNat + 1) ls190 H169 locsH169 (0) (x170) (lv_sub hl191 [0, 1, 3] rfl) hTH169 hSH169 (by omega) m187 m172 m173 mx189 m183 m184 m182 m175 m176 m177 m178 m179 m180 m181 ex170 (by omega) (by omega)
    · have k164 := i_eq c163
      refine lv_iconst (v := 1) hx hb dX9_text_54 (by decide) ?_
      refine lv_goto (tgt := 59) hx hb dX9_text_55 (by decide) ?_
      obtain ⟨q393, eq393⟩ : ∃ z : Nat, z = fR H143 q161 (K.1.2 4 0) := ⟨_, rfl⟩
      have gq393 := ty_fr (q := q393) (k := 0) (u := 69) eq393 hTH143 gq161 rg_78 rfl
      obtain ⟨q394, eq394⟩ : ∃ z : Nat, z = fR H143 q161 (K.1.2 4 3) := ⟨_, rfl⟩
      have gq394 := ty_fr (q := q394) (k := 3) (u := 79) eq394 hTH143 gq161 rg_78 rfl
      obtain ⟨x395, ex395⟩ : ∃ z : Int32, z = fI H143 q161 (K.1.2 4 7) := ⟨_, rfl⟩
      have bx395 := ty_fi (x := x395) (k := 7) ex395 hTH143 gq161 rg_78 rfl
      obtain ⟨x396, ex396⟩ : ∃ z : Int32, z = fI H143 q161 (K.1.2 4 6) := ⟨_, rfl⟩
      have bx396 := ty_fi (x := x396) (k := 6) ex396 hTH143 gq161 rg_78 rfl
      refine x_V (As := [.ref q162, .int x101, .int 1]) (rest := []) C (a_X4_start l K G H143 (x101) (1) (x395) (x396) hTH143 gq161 gq162 (by omega) (by decide) gq393 eq393 gq394 eq394 ex395 ex396) yo_X4_start wM_X9_121 ⟨⟨by decide, by decide⟩, by decide, by decide⟩ (x_rv C hTH143 (ci := 4) rfl gq161 rg_78) rfl hl160.1 rfl (Nat.le_of_ble_eq_true rfl) dX9_text_59 hSH143 (AE_sub (fun _ _ => rfl) (by decide) hSH143.1) (fun vH397 H397 locsH397 pH397 zH397 kH397 hSH397 => ?_)
      obtain ⟨x398, x399, hvH397, ex398, ex399, hrH397, m400, m401, m402, hTH397⟩ := pH397
      subst hvH397
      have m403 := (m144).trans (fR_kept (x_lt hTH143 kH397 ga0 (by decide))).symm
      have m404 := (m145).trans (fI_kept (x_lt hTH143 kH397 gwq (by decide))).symm
      have m405 := (m146).trans (fI_kept (x_lt hTH143 kH397 gwq (by decide))).symm
      have m406 := (m147).trans (fI_kept (x_lt hTH143 kH397 gwq (by decide))).symm
      have m407 := (m148).trans (fI_kept (x_lt hTH143 kH397 gwq (by decide))).symm
      have m408 := (m149).trans (fI_kept (x_lt hTH143 kH397 gwq (by decide))).symm
      have m409 := (m150).trans (fI_kept (x_lt hTH143 kH397 gwq (by decide))).symm
      have m410 := (fV_kept (x_lt hTH143 kH397 ga0 (by decide))).trans m151
      have m411 := (m152).trans (fR_kept (x_lt hTH143 kH397 gwq (by decide))).symm
      have m412 := (fI_kept (x_lt hTH143 kH397 ga0 (by decide))).trans m153
      have m413 := (fI_kept (x_lt hTH143 kH397 gwq (by decide))).trans m154
      have m414 := (fI_kept (x_lt hTH143 kH397 gwq (by decide))).trans m155
      have m415 := (eq161).trans (fR_kept (x_lt hTH143 kH397 ga0 (by decide))).symm
      have m416 := (eq162).trans (fR_kept (x_lt hTH143 kH397 ga0 (by decide))).symm
      have bx398 := ty_fi (x := x398) (k := 7) ex398 hTH397 gq161 rg_78 rfl
      have bx399 := ty_fi (x := x399) (k := 6) ex399 hTH397 gq161 rg_78 rfl
      obtain ⟨x417, bx417, mx417⟩ := m402
      refine W.eq (g2 := F0 m 62 ls159 []) rfl ?_
      refine lv_iconst (v := 0) hx hb dX9_text_62 (by decide) ?_
      refine lv_istore (lv' := [(5, .int 0), (4, .ref q156), (3, .int x101), (0, .ref a0), (1, .int x1), (2, .int x2)]) hx hb dX9_text_63 hl160 (by decide) rfl (fun ls418 hl419 => ?_)
      have Lp420 : ∀ (nf : Nat) (ls423 : Array Slot) (H422 : Heap) (locsH422 : List Loc) (x421 : Int32) (x439 : Int32), lv_has ls423 6 [(5, .int x421), (4, .ref q156), (0, .ref a0)] → TY K G H422 → va_S (AE G [68, 0, 78, 79, 80, 81, 69, 70, 71, 72, 73, 74, 75, 76, 77, 16, 17, 18, 19, 20, 21, 22, 23, 24] s.heap.size) s.heap H422 locsH422 → (0 ≤ x421.toInt ∧ x421.toInt ≤ 17) → (q161 = fR H422 a0 (K.1.2 9 4)) → (q393 = fR H422 q161 (K.1.2 4 0)) → (q394 = fR H422 q161 (K.1.2 4 3)) → (fI H422 q394 (x417 : Int32).toNatClampNeg = 26) → (bq = fR H422 wq (K.1.2 8 0)) → (fI H422 a0 (K.1.2 9 3) = 0) → (fV H422 a0 (K.1.2 9 1) = kv) → (wq = fR H422 a0 (K.1.2 9 0)) → (s1 = fI H422 wq (K.1.2 8 1)) → (s4 = fI H422 wq (K.1.2 8 4)) → (s5 = fI H422 wq (K.1.2 8 5)) → (s10 = fI H422 wq (K.1.2 8 10)) → (s13 = fI H422 wq (K.1.2 8 13)) → (s16 = fI H422 wq (K.1.2 8 16)) → (x439 = fI H422 q161 (K.1.2 4 7)) → (x439.toInt ≤ x417.toInt ∧ 0 ≤ x439.toInt) → (17 - x421.toInt < (nf : Int)) → W p l e ({ frames := 39, cells := 0, slots := 0, locals := 869 } : Room) s m (([.ref a0, .int x1, .int x2] : List Value).toArray) below meth c H422 locsH422 ((0 + 0) + 0) ((0 + 0) + 0) Q (F0 m 65 ls423 []) := by
        intro nf
        induction nf with
        | zero =>
          intro ls423 H422 locsH422 x421 x439 hl424 hTH422 hSH422 bx421 i425 i426 i427 i428 i429 i430 i431 i432 i433 i434 i435 i436 i437 i438 ex439 tx439 hmLp420
          exfalso
          omega
        | succ nf ihLp420 =>
          intro ls423 H422 locsH422 x421 x439 hl424 hTH422 hSH422 bx421 i425 i426 i427 i428 i429 i430 i431 i432 i433 i434 i435 i436 i437 i438 ex439 tx439 hmLp420
          refine lv_iload hx hb dX9_text_65 (lv_at hl424 0 rfl) ?_
          refine lv_bipush (v := 16) hx hb dX9_text_67 (by decide) ?_
          refine lv_icmp_gt (tgt := 96) hx hb dX9_text_69 (by decide) (fun c440 => ?_) (fun c440 => ?_)
          · have k441 := i_lt c440
            refine lv_aload_n hx hb dX9_text_96 rfl (lv_at hl424 2 rfl) ?_
            refine x_gr C hTH422 (ci := 9) (k := 4) rfl inX9 (by decide) wF_X9_23 ga0 rg_68 rfl dX9_text_97 (fun q442 eq442 gq442 => ?_)
            have uq442 : q161 = q442 := (i425).trans eq442.symm
            subst uq442
            refine x_gi C hTH422 (ci := 4) (k := 1) rfl inX4 (by decide) wF_X9_132 gq161 rg_78 rfl dX9_text_100 (fun x443 ex443 bx443 => ?_)
            refine lv_if_eq (tgt := 136) hx hb dX9_text_103 (by decide) (fun c444 => ?_) (fun c444 => ?_)
            · have k445 := i_eq c444
              refine lv_aload hx hb dX9_text_136 (lv_at hl424 1 rfl) ?_
              refine lv_aload_n hx hb dX9_text_138 rfl (lv_at hl424 2 rfl) ?_
              refine x_gr C hTH422 (ci := 9) (k := 4) rfl inX9 (by decide) wF_X9_23 ga0 rg_68 rfl dX9_text_139 (fun q446 eq446 gq446 => ?_)
              have uq446 : q161 = q446 := (i425).trans eq446.symm
              subst uq446
              refine x_gr C hTH422 (ci := 4) (k := 0) rfl inX4 (by decide) wF_X9_134 gq161 rg_78 rfl dX9_text_142 (fun q447 eq447 gq447 => ?_)
              have uq447 : q393 = q447 := (i426).trans eq447.symm
              subst uq447
              refine x_V (As := [.ref q393]) (rest := []) C (a_X7_copyFrom_n_m l K G H422  hTH422 gq156 gq393) yo_X7_copyFrom wM_X9_138 ⟨⟨by decide, by decide⟩, by decide, by decide⟩ (x_rv C hTH422 (ci := 7) rfl gq156 rg_16) rfl hl424.1 rfl (Nat.le_of_ble_eq_true rfl) dX9_text_145 hSH422 (AE_sub (fun _ _ => rfl) (by decide) hSH422.1) (fun vH448 H448 locsH448 pH448 zH448 kH448 hSH448 => ?_)
              obtain ⟨hvH448, hTH448⟩ := pH448
              subst hvH448
              have m449 := (i425).trans (fR_kept (x_lt hTH422 kH448 ga0 (by decide))).symm
              have m450 := (i426).trans (fR_kept (x_lt hTH422 kH448 gq161 (by decide))).symm
              have m451 := (i427).trans (fR_kept (x_lt hTH422 kH448 gq161 (by decide))).symm
              have m452 := (fI_kept (x_lt hTH422 kH448 gq394 (by decide))).trans i428
              have m453 := (i429).trans (fR_kept (x_lt hTH422 kH448 gwq (by decide))).symm
              have m454 := (fI_kept (x_lt hTH422 kH448 ga0 (by decide))).trans i430
              have m455 := (fV_kept (x_lt hTH422 kH448 ga0 (by decide))).trans i431
              have m456 := (i432).trans (fR_kept (x_lt hTH422 kH448 ga0 (by decide))).symm
              have m457 := (i433).trans (fI_kept (x_lt hTH422 kH448 gwq (by decide))).symm
              have m458 := (i434).trans (fI_kept (x_lt hTH422 kH448 gwq (by decide))).symm
              have m459 := (i435).trans (fI_kept (x_lt hTH422 kH448 gwq (by decide))).symm
              have m460 := (i436).trans (fI_kept (x_lt hTH422 kH448 gwq (by decide))).symm
              have m461 := (i437).trans (fI_kept (x_lt hTH422 kH448 gwq (by decide))).symm
              have m462 := (i438).trans (fI_kept (x_lt hTH422 kH448 gwq (by decide))).symm
              have m463 := (ex439).trans (fI_kept (x_lt hTH422 kH448 gq161 (by decide))).symm
              have m464 := (ex443).trans (fI_kept (x_lt hTH422 kH448 gq161 (by decide))).symm
              refine W.eq (g2 := F0 m 148 ls423 []) rfl ?_
              refine lv_aload hx hb dX9_text_148 (lv_at hl424 1 rfl) ?_
              refine x_gi C hTH448 (ci := 7) (k := 0) rfl inX7 (by decide) wF_X9_144 gq156 rg_16 rfl dX9_text_150 (fun x465 ex465 bx465 => ?_)
              exact x_iret C hQ dX9_text_153 hSH448 (by decide) (by decide) (⟨x465, rfl, m456, m457, m458, m459, m460, m461, m462, m454, m455, m453, hTH448⟩)
            · have k445 := i_ne c444
              refine lv_aload_n hx hb dX9_text_106 rfl (lv_at hl424 2 rfl) ?_
              refine x_gr C hTH422 (ci := 9) (k := 0) rfl inX9 (by decide) wF_X9_12 ga0 rg_68 rfl dX9_text_107 (fun q466 eq466 gq466 => ?_)
              have uq466 : wq = q466 := (i432).trans eq466.symm
              subst uq466
              refine lv_aload_n hx hb dX9_text_110 rfl (lv_at hl424 2 rfl) ?_
              refine x_gr C hTH422 (ci := 9) (k := 4) rfl inX9 (by decide) wF_X9_23 ga0 rg_68 rfl dX9_text_111 (fun q467 eq467 gq467 => ?_)
              have uq467 : q161 = q467 := (i425).trans eq467.symm
              subst uq467
              refine x_gi C hTH422 (ci := 4) (k := 1) rfl inX4 (by decide) wF_X9_132 gq161 rg_78 rfl dX9_text_114 (fun x468 ex468 bx468 => ?_)
              have ux468 : x443 = x468 := (ex443).trans ex468.symm
              subst ux468
              refine x_put C hTH422 hSH422 (ci := 8) (k := 6) (v := .int x443) (ty0 := tyX8) rfl inX8 tyX8_ok nmX8 (by decide) rfl wF_X9_111 gwq rg_0 rfl rfl (okI (by have := i_rng x443; omega) (by have := i_rng x443; omega)) rfl rfl (AE_in gwq (by decide)) dX9_text_117 (fun H469 locsH469 hTH469 hSH469 wH469 => ?_)
              have m470 := i425.trans (Wr.neR wH469 (Or.inl (G_ne ga0 gwq (by decide)))).symm
              have m471 := i426.trans (Wr.neR wH469 (Or.inl (G_ne gq161 gwq (by decide)))).symm
              have m472 := i427.trans (Wr.neR wH469 (Or.inl (G_ne gq161 gwq (by decide)))).symm
              have m473 := (Wr.neI wH469 (Or.inl (G_ne gq394 gwq (by decide)))).trans i428
              have m474 := i429.trans (Wr.neR wH469 (Or.inr (x_apart hKT hts inX8 tyX8 tyX8_ok nmX8 rfl 0 6 (by decide) (by decide) (by decide)))).symm
              have m475 := (Wr.neI wH469 (Or.inl (G_ne ga0 gwq (by decide)))).trans i430
              have m476 := (Wr.neV wH469 (Or.inl (G_ne ga0 gwq (by decide)))).trans i431
              have m477 := i432.trans (Wr.neR wH469 (Or.inl (G_ne ga0 gwq (by decide)))).symm
              have m478 := i433.trans (Wr.neI wH469 (Or.inr (x_apart hKT hts inX8 tyX8 tyX8_ok nmX8 rfl 1 6 (by decide) (by decide) (by decide)))).symm
              have m479 := i434.trans (Wr.neI wH469 (Or.inr (x_apart hKT hts inX8 tyX8 tyX8_ok nmX8 rfl 4 6 (by decide) (by decide) (by decide)))).symm
              have m480 := i435.trans (Wr.neI wH469 (Or.inr (x_apart hKT hts inX8 tyX8 tyX8_ok nmX8 rfl 5 6 (by decide) (by decide) (by decide)))).symm
              have m481 := i436.trans (Wr.neI wH469 (Or.inr (x_apart hKT hts inX8 tyX8 tyX8_ok nmX8 rfl 10 6 (by decide) (by decide) (by decide)))).symm
              have m482 := i437.trans (Wr.neI wH469 (Or.inr (x_apart hKT hts inX8 tyX8 tyX8_ok nmX8 rfl 13 6 (by decide) (by decide) (by decide)))).symm
              have m483 := i438.trans (Wr.neI wH469 (Or.inr (x_apart hKT hts inX8 tyX8 tyX8_ok nmX8 rfl 16 6 (by decide) (by decide) (by decide)))).symm
              have m484 := ex439.trans (Wr.neI wH469 (Or.inl (G_ne gq161 gwq (by decide)))).symm
              have m485 := ex443.trans (Wr.neI wH469 (Or.inl (G_ne gq161 gwq (by decide)))).symm
              have m486 := Wr.I wH469
              have m486 := m486.symm
              refine lv_aload_n hx hb dX9_text_120 rfl (lv_at hl424 2 rfl) ?_
              refine x_gr C hTH469 (ci := 9) (k := 0) rfl inX9 (by decide) wF_X9_12 ga0 rg_68 rfl dX9_text_121 (fun q487 eq487 gq487 => ?_)
              have uq487 : wq = q487 := (m477).trans eq487.symm
              subst uq487
              refine lv_aload_n hx hb dX9_text_124 rfl (lv_at hl424 2 rfl) ?_
              refine x_gr C hTH469 (ci := 9) (k := 4) rfl inX9 (by decide) wF_X9_23 ga0 rg_68 rfl dX9_text_125 (fun q488 eq488 gq488 => ?_)
              have uq488 : q161 = q488 := (m470).trans eq488.symm
              subst uq488
              refine x_gi C hTH469 (ci := 4) (k := 2) rfl inX4 (by decide) wF_X9_133 gq161 rg_78 rfl dX9_text_128 (fun x489 ex489 bx489 => ?_)
              refine x_put C hTH469 hSH469 (ci := 8) (k := 7) (v := .int x489) (ty0 := tyX8) rfl inX8 tyX8_ok nmX8 (by decide) rfl wF_X9_114 gwq rg_0 rfl rfl (okI (by have := i_rng x489; omega) (by have := i_rng x489; omega)) rfl rfl (AE_in gwq (by decide)) dX9_text_131 (fun H490 locsH490 hTH490 hSH490 wH490 => ?_)
              have m491 := m470.trans (Wr.neR wH490 (Or.inl (G_ne ga0 gwq (by decide)))).symm
              have m492 := m471.trans (Wr.neR wH490 (Or.inl (G_ne gq161 gwq (by decide)))).symm
              have m493 := m472.trans (Wr.neR wH490 (Or.inl (G_ne gq161 gwq (by decide)))).symm
              have m494 := (Wr.neI wH490 (Or.inl (G_ne gq394 gwq (by decide)))).trans m473
              have m495 := m474.trans (Wr.neR wH490 (Or.inr (x_apart hKT hts inX8 tyX8 tyX8_ok nmX8 rfl 0 7 (by decide) (by decide) (by decide)))).symm
              have m496 := (Wr.neI wH490 (Or.inl (G_ne ga0 gwq (by decide)))).trans m475
              have m497 := (Wr.neV wH490 (Or.inl (G_ne ga0 gwq (by decide)))).trans m476
              have m498 := m477.trans (Wr.neR wH490 (Or.inl (G_ne ga0 gwq (by decide)))).symm
              have m499 := m478.trans (Wr.neI wH490 (Or.inr (x_apart hKT hts inX8 tyX8 tyX8_ok nmX8 rfl 1 7 (by decide) (by decide) (by decide)))).symm
              have m500 := m479.trans (Wr.neI wH490 (Or.inr (x_apart hKT hts inX8 tyX8 tyX8_ok nmX8 rfl 4 7 (by decide) (by decide) (by decide)))).symm
              have m501 := m480.trans (Wr.neI wH490 (Or.inr (x_apart hKT hts inX8 tyX8 tyX8_ok nmX8 rfl 5 7 (by decide) (by decide) (by decide)))).symm
              have m502 := m481.trans (Wr.neI wH490 (Or.inr (x_apart hKT hts inX8 tyX8 tyX8_ok nmX8 rfl 10 7 (by decide) (by decide) (by decide)))).symm
              have m503 := m482.trans (Wr.neI wH490 (Or.inr (x_apart hKT hts inX8 tyX8 tyX8_ok nmX8 rfl 13 7 (by decide) (by decide) (by decide)))).symm
              have m504 := m483.trans (Wr.neI wH490 (Or.inr (x_apart hKT hts inX8 tyX8 tyX8_ok nmX8 rfl 16 7 (by decide) (by decide) (by decide)))).symm
              have m505 := m484.trans (Wr.neI wH490 (Or.inl (G_ne gq161 gwq (by decide)))).symm
              have m506 := m485.trans (Wr.neI wH490 (Or.inl (G_ne gq161 gwq (by decide)))).symm
              have m507 := m486.trans (Wr.neI wH490 (Or.inr (x_apart hKT hts inX8 tyX8 tyX8_ok nmX8 rfl 6 7 (by decide) (by decide) (by decide)))).symm
              have m508 := ex489.trans (Wr.neI wH490 (Or.inl (G_ne gq161 gwq (by decide)))).symm
              have m509 := Wr.I wH490
              have m509 := m509.symm
              refine lv_iconst (v := (-1)) hx hb dX9_text_134 (by decide) ?_
              exact x_iret C hQ dX9_text_135 hSH490 (by decide) (by decide) (⟨(-1), rfl, m498, m499, m500, m501, m502, m503, m504, m496, m497, m495, hTH490⟩)
          · have k441 := i_nlt c440
            refine lv_aload_n hx hb dX9_text_72 rfl (lv_at hl424 2 rfl) ?_
            refine x_gr C hTH422 (ci := 9) (k := 4) rfl inX9 (by decide) wF_X9_23 ga0 rg_68 rfl dX9_text_73 (fun q510 eq510 gq510 => ?_)
            have uq510 : q161 = q510 := (i425).trans eq510.symm
            subst uq510
            refine x_V (As := []) (rest := []) C (a_X4_goesOn l K G H422  hTH422 gq161) yo_X4_goesOn wM_X9_125 ⟨⟨by decide, by decide⟩, by decide, by decide⟩ (x_rv C hTH422 (ci := 4) rfl gq161 rg_78) rfl hl424.1 rfl (Nat.le_of_ble_eq_true rfl) dX9_text_76 hSH422 (AE_sub (fun _ _ => rfl) (by decide) hSH422.1) (fun vH511 H511 locsH511 pH511 zH511 kH511 hSH511 => ?_)
            obtain ⟨x512, hvH511, bx512, hTH511⟩ := pH511
            subst hvH511
            have m513 := (i425).trans (fR_kept (x_lt hTH422 kH511 ga0 (by decide))).symm
            have m514 := (i426).trans (fR_kept (x_lt hTH422 kH511 gq161 (by decide))).symm
            have m515 := (i427).trans (fR_kept (x_lt hTH422 kH511 gq161 (by decide))).symm
            have m516 := (fI_kept (x_lt hTH422 kH511 gq394 (by decide))).trans i428
            have m517 := (i429).trans (fR_kept (x_lt hTH422 kH511 gwq (by decide))).symm
            have m518 := (fI_kept (x_lt hTH422 kH511 ga0 (by decide))).trans i430
            have m519 := (fV_kept (x_lt hTH422 kH511 ga0 (by decide))).trans i431
            have m520 := (i432).trans (fR_kept (x_lt hTH422 kH511 ga0 (by decide))).symm
            have m521 := (i433).trans (fI_kept (x_lt hTH422 kH511 gwq (by decide))).symm
            have m522 := (i434).trans (fI_kept (x_lt hTH422 kH511 gwq (by decide))).symm
            have m523 := (i435).trans (fI_kept (x_lt hTH422 kH511 gwq (by decide))).symm
            have m524 := (i436).trans (fI_kept (x_lt hTH422 kH511 gwq (by decide))).symm
            have m525 := (i437).trans (fI_kept (x_lt hTH422 kH511 gwq (by decide))).symm
            have m526 := (i438).trans (fI_kept (x_lt hTH422 kH511 gwq (by decide))).symm
            have m527 := (ex439).trans (fI_kept (x_lt hTH422 kH511 gq161 (by decide))).symm
            refine W.eq (g2 := F0 m 79 ls423 [.int x512]) rfl ?_
            refine lv_if_eq (tgt := 96) hx hb dX9_text_79 (by decide) (fun c528 => ?_) (fun c528 => ?_)
            · have k529 := i_eq c528
              refine lv_aload_n hx hb dX9_text_96 rfl (lv_at hl424 2 rfl) ?_
              refine x_gr C hTH511 (ci := 9) (k := 4) rfl inX9 (by decide) wF_X9_23 ga0 rg_68 rfl dX9_text_97 (fun q530 eq530 gq530 => ?_)
              have uq530 : q161 = q530 := (m513).trans eq530.symm
              subst uq530
              refine x_gi C hTH511 (ci := 4) (k := 1) rfl inX4 (by decide) wF_X9_132 gq161 rg_78 rfl dX9_text_100 (fun x531 ex531 bx531 => ?_)
              refine lv_if_eq (tgt := 136) hx hb dX9_text_103 (by decide) (fun c532 => ?_) (fun c532 => ?_)
              · have k533 := i_eq c532
                refine lv_aload hx hb dX9_text_136 (lv_at hl424 1 rfl) ?_
                refine lv_aload_n hx hb dX9_text_138 rfl (lv_at hl424 2 rfl) ?_
                refine x_gr C hTH511 (ci := 9) (k := 4) rfl inX9 (by decide) wF_X9_23 ga0 rg_68 rfl dX9_text_139 (fun q534 eq534 gq534 => ?_)
                have uq534 : q161 = q534 := (m513).trans eq534.symm
                subst uq534
                refine x_gr C hTH511 (ci := 4) (k := 0) rfl inX4 (by decide) wF_X9_134 gq161 rg_78 rfl dX9_text_142 (fun q535 eq535 gq535 => ?_)
                have uq535 : q393 = q535 := (m514).trans eq535.symm
                subst uq535
                refine x_V (As := [.ref q393]) (rest := []) C (a_X7_copyFrom_n_m l K G H511  hTH511 gq156 gq393) yo_X7_copyFrom wM_X9_138 ⟨⟨by decide, by decide⟩, by decide, by decide⟩ (x_rv C hTH511 (ci := 7) rfl gq156 rg_16) rfl hl424.1 rfl (Nat.le_of_ble_eq_true rfl) dX9_text_145 hSH511 (AE_sub (fun _ _ => rfl) (by decide) hSH511.1) (fun vH536 H536 locsH536 pH536 zH536 kH536 hSH536 => ?_)
                obtain ⟨hvH536, hTH536⟩ := pH536
                subst hvH536
                have m537 := (m513).trans (fR_kept (x_lt hTH511 kH536 ga0 (by decide))).symm
                have m538 := (m514).trans (fR_kept (x_lt hTH511 kH536 gq161 (by decide))).symm
                have m539 := (m515).trans (fR_kept (x_lt hTH511 kH536 gq161 (by decide))).symm
                have m540 := (fI_kept (x_lt hTH511 kH536 gq394 (by decide))).trans m516
                have m541 := (m517).trans (fR_kept (x_lt hTH511 kH536 gwq (by decide))).symm
                have m542 := (fI_kept (x_lt hTH511 kH536 ga0 (by decide))).trans m518
                have m543 := (fV_kept (x_lt hTH511 kH536 ga0 (by decide))).trans m519
                have m544 := (m520).trans (fR_kept (x_lt hTH511 kH536 ga0 (by decide))).symm
                have m545 := (m521).trans (fI_kept (x_lt hTH511 kH536 gwq (by decide))).symm
                have m546 := (m522).trans (fI_kept (x_lt hTH511 kH536 gwq (by decide))).symm
                have m547 := (m523).trans (fI_kept (x_lt hTH511 kH536 gwq (by decide))).symm
                have m548 := (m524).trans (fI_kept (x_lt hTH511 kH536 gwq (by decide))).symm
                have m549 := (m525).trans (fI_kept (x_lt hTH511 kH536 gwq (by decide))).symm
                have m550 := (m526).trans (fI_kept (x_lt hTH511 kH536 gwq (by decide))).symm
                have m551 := (m527).trans (fI_kept (x_lt hTH511 kH536 gq161 (by decide))).symm
                have m552 := (ex531).trans (fI_kept (x_lt hTH511 kH536 gq161 (by decide))).symm
                refine W.eq (g2 := F0 m 148 ls423 []) rfl ?_
                refine lv_aload hx hb dX9_text_148 (lv_at hl424 1 rfl) ?_
                refine x_gi C hTH536 (ci := 7) (k := 0) rfl inX7 (by decide) wF_X9_144 gq156 rg_16 rfl dX9_text_150 (fun x553 ex553 bx553 => ?_)
                exact x_iret C hQ dX9_text_153 hSH536 (by decide) (by decide) (⟨x553, rfl, m544, m545, m546, m547, m548, m549, m550, m542, m543, m541, hTH536⟩)
              · have k533 := i_ne c532
                refine lv_aload_n hx hb dX9_text_106 rfl (lv_at hl424 2 rfl) ?_
                refine x_gr C hTH511 (ci := 9) (k := 0) rfl inX9 (by decide) wF_X9_12 ga0 rg_68 rfl dX9_text_107 (fun q554 eq554 gq554 => ?_)
                have uq554 : wq = q554 := (m520).trans eq554.symm
                subst uq554
                refine lv_aload_n hx hb dX9_text_110 rfl (lv_at hl424 2 rfl) ?_
                refine x_gr C hTH511 (ci := 9) (k := 4) rfl inX9 (by decide) wF_X9_23 ga0 rg_68 rfl dX9_text_111 (fun q555 eq555 gq555 => ?_)
                have uq555 : q161 = q555 := (m513).trans eq555.symm
                subst uq555
                refine x_gi C hTH511 (ci := 4) (k := 1) rfl inX4 (by decide) wF_X9_132 gq161 rg_78 rfl dX9_text_114 (fun x556 ex556 bx556 => ?_)
                have ux556 : x531 = x556 := (ex531).trans ex556.symm
                subst ux556
                refine x_put C hTH511 hSH511 (ci := 8) (k := 6) (v := .int x531) (ty0 := tyX8) rfl inX8 tyX8_ok nmX8 (by decide) rfl wF_X9_111 gwq rg_0 rfl rfl (okI (by have := i_rng x531; omega) (by have := i_rng x531; omega)) rfl rfl (AE_in gwq (by decide)) dX9_text_117 (fun H557 locsH557 hTH557 hSH557 wH557 => ?_)
                have m558 := m513.trans (Wr.neR wH557 (Or.inl (G_ne ga0 gwq (by decide)))).symm
                have m559 := m514.trans (Wr.neR wH557 (Or.inl (G_ne gq161 gwq (by decide)))).symm
                have m560 := m515.trans (Wr.neR wH557 (Or.inl (G_ne gq161 gwq (by decide)))).symm
                have m561 := (Wr.neI wH557 (Or.inl (G_ne gq394 gwq (by decide)))).trans m516
                have m562 := m517.trans (Wr.neR wH557 (Or.inr (x_apart hKT hts inX8 tyX8 tyX8_ok nmX8 rfl 0 6 (by decide) (by decide) (by decide)))).symm
                have m563 := (Wr.neI wH557 (Or.inl (G_ne ga0 gwq (by decide)))).trans m518
                have m564 := (Wr.neV wH557 (Or.inl (G_ne ga0 gwq (by decide)))).trans m519
                have m565 := m520.trans (Wr.neR wH557 (Or.inl (G_ne ga0 gwq (by decide)))).symm
                have m566 := m521.trans (Wr.neI wH557 (Or.inr (x_apart hKT hts inX8 tyX8 tyX8_ok nmX8 rfl 1 6 (by decide) (by decide) (by decide)))).symm
                have m567 := m522.trans (Wr.neI wH557 (Or.inr (x_apart hKT hts inX8 tyX8 tyX8_ok nmX8 rfl 4 6 (by decide) (by decide) (by decide)))).symm
                have m568 := m523.trans (Wr.neI wH557 (Or.inr (x_apart hKT hts inX8 tyX8 tyX8_ok nmX8 rfl 5 6 (by decide) (by decide) (by decide)))).symm
                have m569 := m524.trans (Wr.neI wH557 (Or.inr (x_apart hKT hts inX8 tyX8 tyX8_ok nmX8 rfl 10 6 (by decide) (by decide) (by decide)))).symm
                have m570 := m525.trans (Wr.neI wH557 (Or.inr (x_apart hKT hts inX8 tyX8 tyX8_ok nmX8 rfl 13 6 (by decide) (by decide) (by decide)))).symm
                have m571 := m526.trans (Wr.neI wH557 (Or.inr (x_apart hKT hts inX8 tyX8 tyX8_ok nmX8 rfl 16 6 (by decide) (by decide) (by decide)))).symm
                have m572 := m527.trans (Wr.neI wH557 (Or.inl (G_ne gq161 gwq (by decide)))).symm
                have m573 := ex531.trans (Wr.neI wH557 (Or.inl (G_ne gq161 gwq (by decide)))).symm
                have m574 := Wr.I wH557
                have m574 := m574.symm
                refine lv_aload_n hx hb dX9_text_120 rfl (lv_at hl424 2 rfl) ?_
                refine x_gr C hTH557 (ci := 9) (k := 0) rfl inX9 (by decide) wF_X9_12 ga0 rg_68 rfl dX9_text_121 (fun q575 eq575 gq575 => ?_)
                have uq575 : wq = q575 := (m565).trans eq575.symm
                subst uq575
                refine lv_aload_n hx hb dX9_text_124 rfl (lv_at hl424 2 rfl) ?_
                refine x_gr C hTH557 (ci := 9) (k := 4) rfl inX9 (by decide) wF_X9_23 ga0 rg_68 rfl dX9_text_125 (fun q576 eq576 gq576 => ?_)
                have uq576 : q161 = q576 := (m558).trans eq576.symm
                subst uq576
                refine x_gi C hTH557 (ci := 4) (k := 2) rfl inX4 (by decide) wF_X9_133 gq161 rg_78 rfl dX9_text_128 (fun x577 ex577 bx577 => ?_)
                refine x_put C hTH557 hSH557 (ci := 8) (k := 7) (v := .int x577) (ty0 := tyX8) rfl inX8 tyX8_ok nmX8 (by decide) rfl wF_X9_114 gwq rg_0 rfl rfl (okI (by have := i_rng x577; omega) (by have := i_rng x577; omega)) rfl rfl (AE_in gwq (by decide)) dX9_text_131 (fun H578 locsH578 hTH578 hSH578 wH578 => ?_)
                have m579 := m558.trans (Wr.neR wH578 (Or.inl (G_ne ga0 gwq (by decide)))).symm
                have m580 := m559.trans (Wr.neR wH578 (Or.inl (G_ne gq161 gwq (by decide)))).symm
                have m581 := m560.trans (Wr.neR wH578 (Or.inl (G_ne gq161 gwq (by decide)))).symm
                have m582 := (Wr.neI wH578 (Or.inl (G_ne gq394 gwq (by decide)))).trans m561
                have m583 := m562.trans (Wr.neR wH578 (Or.inr (x_apart hKT hts inX8 tyX8 tyX8_ok nmX8 rfl 0 7 (by decide) (by decide) (by decide)))).symm
                have m584 := (Wr.neI wH578 (Or.inl (G_ne ga0 gwq (by decide)))).trans m563
                have m585 := (Wr.neV wH578 (Or.inl (G_ne ga0 gwq (by decide)))).trans m564
                have m586 := m565.trans (Wr.neR wH578 (Or.inl (G_ne ga0 gwq (by decide)))).symm
                have m587 := m566.trans (Wr.neI wH578 (Or.inr (x_apart hKT hts inX8 tyX8 tyX8_ok nmX8 rfl 1 7 (by decide) (by decide) (by decide)))).symm
                have m588 := m567.trans (Wr.neI wH578 (Or.inr (x_apart hKT hts inX8 tyX8 tyX8_ok nmX8 rfl 4 7 (by decide) (by decide) (by decide)))).symm
                have m589 := m568.trans (Wr.neI wH578 (Or.inr (x_apart hKT hts inX8 tyX8 tyX8_ok nmX8 rfl 5 7 (by decide) (by decide) (by decide)))).symm
                have m590 := m569.trans (Wr.neI wH578 (Or.inr (x_apart hKT hts inX8 tyX8 tyX8_ok nmX8 rfl 10 7 (by decide) (by decide) (by decide)))).symm
                have m591 := m570.trans (Wr.neI wH578 (Or.inr (x_apart hKT hts inX8 tyX8 tyX8_ok nmX8 rfl 13 7 (by decide) (by decide) (by decide)))).symm
                have m592 := m571.trans (Wr.neI wH578 (Or.inr (x_apart hKT hts inX8 tyX8 tyX8_ok nmX8 rfl 16 7 (by decide) (by decide) (by decide)))).symm
                have m593 := m572.trans (Wr.neI wH578 (Or.inl (G_ne gq161 gwq (by decide)))).symm
                have m594 := m573.trans (Wr.neI wH578 (Or.inl (G_ne gq161 gwq (by decide)))).symm
                have m595 := m574.trans (Wr.neI wH578 (Or.inr (x_apart hKT hts inX8 tyX8 tyX8_ok nmX8 rfl 6 7 (by decide) (by decide) (by decide)))).symm
                have m596 := ex577.trans (Wr.neI wH578 (Or.inl (G_ne gq161 gwq (by decide)))).symm
                have m597 := Wr.I wH578
                have m597 := m597.symm
                refine lv_iconst (v := (-1)) hx hb dX9_text_134 (by decide) ?_
                exact x_iret C hQ dX9_text_135 hSH578 (by decide) (by decide) (⟨(-1), rfl, m586, m587, m588, m589, m590, m591, m592, m584, m585, m583, hTH578⟩)
            · have k529 := i_ne c528
              refine lv_aload_n hx hb dX9_text_82 rfl (lv_at hl424 2 rfl) ?_
              refine x_gr C hTH511 (ci := 9) (k := 4) rfl inX9 (by decide) wF_X9_23 ga0 rg_68 rfl dX9_text_83 (fun q598 eq598 gq598 => ?_)
              have uq598 : q161 = q598 := (m513).trans eq598.symm
              subst uq598
              obtain ⟨x599, ex599⟩ : ∃ z : Int32, z = fI H511 q393 (K.1.2 7 0) := ⟨_, rfl⟩
              have bx599 := ty_fi (x := x599) (k := 0) ex599 hTH511 gq393 rg_69 rfl
              refine x_V (As := []) (rest := []) C (a_X4_line l K G H511 (x417) (x439) (x599) hTH511 gq161 gq393 m514 gq394 m515 m527 ex599 m516 (by omega) (by omega)) yo_X4_line wM_X9_129 ⟨⟨by decide, by decide⟩, by decide, by decide⟩ (x_rv C hTH511 (ci := 4) rfl gq161 rg_78) rfl hl424.1 rfl (Nat.le_of_ble_eq_true rfl) dX9_text_86 hSH511 (AE_sub (fun _ _ => rfl) (by decide) hSH511.1) (fun vH600 H600 locsH600 pH600 zH600 kH600 hSH600 => ?_)
              obtain ⟨x601, x602, x603, hvH600, bx601, ex602, ex603, hrH600, m604, m605, hTH600⟩ := pH600
              subst hvH600
              have m606 := (m513).trans (fR_kept (x_lt hTH511 kH600 ga0 (by decide))).symm
              have m607 := (fI_kept (x_lt hTH511 kH600 gq394 (by decide))).trans m516
              have m608 := (m517).trans (fR_kept (x_lt hTH511 kH600 gwq (by decide))).symm
              have m609 := (fI_kept (x_lt hTH511 kH600 ga0 (by decide))).trans m518
              have m610 := (fV_kept (x_lt hTH511 kH600 ga0 (by decide))).trans m519
              have m611 := (m520).trans (fR_kept (x_lt hTH511 kH600 ga0 (by decide))).symm
              have m612 := (m521).trans (fI_kept (x_lt hTH511 kH600 gwq (by decide))).symm
              have m613 := (m522).trans (fI_kept (x_lt hTH511 kH600 gwq (by decide))).symm
              have m614 := (m523).trans (fI_kept (x_lt hTH511 kH600 gwq (by decide))).symm
              have m615 := (m524).trans (fI_kept (x_lt hTH511 kH600 gwq (by decide))).symm
              have m616 := (m525).trans (fI_kept (x_lt hTH511 kH600 gwq (by decide))).symm
              have m617 := (m526).trans (fI_kept (x_lt hTH511 kH600 gwq (by decide))).symm
              have bx602 := ty_fi (x := x602) (k := 7) ex602 hTH600 gq161 rg_78 rfl
              have bx603 := ty_fi (x := x603) (k := 0) ex603 hTH600 gq393 rg_69 rfl
              refine W.eq (g2 := F0 m 89 ls423 [.int x601]) rfl ?_
              refine lv_pop hx hb dX9_text_89 rfl ?_
              obtain ⟨x618, ex618⟩ : ∃ y : Int32, y = x421 + 1 := ⟨_, rfl⟩
              have tx618 := i_add ex618 (by omega)
              refine lv_iinc (v := x618) (lv' := [(5, .int x618), (4, .ref q156), (0, .ref a0)]) hx hb dX9_text_90 hl424 (k := 0) rfl (by rw [ex618]; rfl) (by decide) rfl (fun ls619 hl620 => ?_)
              refine lv_goto (tgt := 65) hx hb dX9_text_93 (by decide) ?_
              exact ihLp420 ls619 H600 locsH600 (x618) (x602) (lv_sub hl620 [0, 1, 2] rfl) hTH600 hSH600 (by omega) m606 m604 m605 m607 m608 m609 m610 m611 m612 m613 m614 m615 m616 m617 ex602 (by omega) (by omega)
      exact Lp420 ((17 - (0 : Int32).toInt).toNat + 1) ls418 H397 locsH397 (0) (x398) (lv_sub hl419 [0, 1, 3] rfl) hTH397 hSH397 (by omega) m415 m400 m401 mx417 m411 m412 m410 m403 m404 m405 m406 m407 m408 m409 ex398 (by omega) (by omega)
