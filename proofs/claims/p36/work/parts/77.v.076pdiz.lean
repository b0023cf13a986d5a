set_option maxHeartbeats 4000000 in
set_option maxRecDepth 100000 in
theorem a_X9_night_w (l : Launch) (K : KE) (G : Nat → Option Nat) (H : Heap) {a0 : Nat} (x1 : Int32) (x2 : Int32) {wq : Nat} (s1 : Int32) (s4 : Int32) (s5 : Int32) (s10 : Int32) (s13 : Int32) (s16 : Int32) (hT : TY K G H) (ga0 : G a0 = some 68) (gwq : G wq = some 0) (ewq : @Eq Ad wq (fR H a0 (K.1.2 9 0))) (es1 : s1 = fI H wq (K.1.2 8 1)) (es4 : s4 = fI H wq (K.1.2 8 4)) (es5 : s5 = fI H wq (K.1.2 8 5)) (es10 : s10 = fI H wq (K.1.2 8 10)) (es13 : s13 = fI H wq (K.1.2 8 13)) (es16 : s16 = fI H wq (K.1.2 8 16)) : MX l K yX9_night cX9_night 3 (some .int) 2 43 0 0 [.ref a0, .int x1, .int x2] H (AE G [0, 28, 29] H.size) (fun v H1 => ∃ (r : Int32) (t0 : Int32) (t1 : Int32) (t2 : Int32) (t3 : Int32) (t4 : Int32) (t5 : Int32), v = some (.int r) ∧ t0 = fI H1 wq (K.1.2 8 1) ∧ t1 = fI H1 wq (K.1.2 8 4) ∧ t2 = fI H1 wq (K.1.2 8 5) ∧ t3 = fI H1 wq (K.1.2 8 10) ∧ t4 = fI H1 wq (K.1.2 8 13) ∧ t5 = fI H1 wq (K.1.2 8 16) ∧ (((-20 ≤ x1.toInt ∧ x1.toInt ≤ 50 ∧ 0 ≤ x2.toInt ∧ x2.toInt ≤ 99 ∧ s10.toInt ≤ 19 ∧ r.toInt = s10.toInt ∧ t3.toInt = s10.toInt + 1) ∨ ((x1.toInt < -20 ∨ 50 < x1.toInt ∨ x2.toInt < 0 ∨ 99 < x2.toInt ∨ 19 < s10.toInt) ∧ r.toInt = -1 ∧ t3.toInt = s10.toInt)) ∧ t0.toInt = s1.toInt ∧ t1.toInt = s4.toInt ∧ t2.toInt = s5.toInt ∧ t4.toInt = s13.toInt ∧ t5.toInt = s16.toInt) ∧ (NWF K H1 H wq) ∧ TY K G H1) := by
  refine MX.of (by decide +kernel) (Nat.le_of_ble_eq_true rfl) ?_
  intro p e s m below meth c ls Q C hH hl hQ
  subst hH
  have C : CX p K s m _ meth c RX9 cX9_night 3 (some .int) "night" := C
  obtain ⟨hx, hb, hml, hown, hts, hKT, hr, hlocks, hnm⟩ := id C
  have hl : lv_has ls 3 [(0, .ref a0), (1, .int x1), (2, .int x2)] := hl
  have hS : va_S (AE G [0, 28, 29] s.heap.size) s.heap s.heap [] := va_S.rf
  have n_m1 : ((-1) : Int32).toInt = -1 := rfl
  have n_0 : (0 : Int32).toInt = 0 := rfl
  have n_1 : (1 : Int32).toInt = 1 := rfl
  have n_20 : (20 : Int32).toInt = 20 := rfl
  have bs1 := ty_fi (x := s1) (k := 1) es1 hT gwq rg_0 rfl
  have bs4 := ty_fi (x := s4) (k := 4) es4 hT gwq rg_0 rfl
  have bs5 := ty_fi (x := s5) (k := 5) es5 hT gwq rg_0 rfl
  have bs10 := ty_fi (x := s10) (k := 10) es10 hT gwq rg_0 rfl
  have bs13 := ty_fi (x := s13) (k := 13) es13 hT gwq rg_0 rfl
  have bs16 := ty_fi (x := s16) (k := 16) es16 hT gwq rg_0 rfl
  have hapW : ∀ x y, x < 17 → y < 17 → x ≠ y → K.1.2 8 x ≠ K.1.2 8 y := x_apart hKT hts inX8 tyX8 tyX8_ok nmX8 rfl
  have f0_nw : NWF K s.heap s.heap wq := NWF.rf
  refine lv_iload_n hx hb dX9_night_0 rfl (lv_at hl 1 rfl) ?_
  refine lv_iload_n hx hb dX9_night_1 rfl (lv_at hl 2 rfl) ?_
  refine x_S (As := [.int x1, .int x2]) (rest := []) C (c_X9_isAir l K G s.heap (x1) (x2) hT) yo_X9_isAir wM_X9_275 ⟨⟨by decide, by decide⟩, by decide, by decide⟩ rfl hl.1 rfl (Nat.le_of_ble_eq_true rfl) dX9_night_2 hS (AE_sub (fun _ _ => rfl) (by decide) hS.1) (fun vH345 H345 locsH345 pH345 zH345 kH345 hSH345 => ?_)
  have hqH345 := pH345.1.symm
  subst hqH345
  rcases pH345.2 with ⟨hvH345, hcH345⟩ | ⟨hvH345, hcH345⟩
  · subst hvH345
    refine W.eq (g2 := F0 m 5 ls [.int 1]) rfl ?_
    refine lv_if_eq (tgt := 20) hx hb dX9_night_5 (by decide) (fun c346 => ?_) (fun c346 => ?_)
    · have k347 := i_eq c346
      exfalso
      omega
    · have k347 := i_ne c346
      refine lv_aload_n hx hb dX9_night_8 rfl (lv_at hl 0 rfl) ?_
      refine x_gr C hT (ci := 9) (k := 0) rfl inX9 (by decide) wF_X9_12 ga0 rg_68 rfl dX9_night_9 (fun q348 eq348 gq348 => ?_)
      have uq348 : wq = q348 := (ewq).trans eq348.symm
      subst uq348
      refine x_gi C hT (ci := 8) (k := 10) rfl inX8 (by decide) wF_X9_293 gwq rg_0 rfl dX9_night_12 (fun x349 ex349 bx349 => ?_)
      have ux349 : s10 = x349 := (es10).trans ex349.symm
      subst ux349
      refine lv_bipush (v := 20) hx hb dX9_night_15 (by decide) ?_
      refine lv_icmp_lt (tgt := 22) hx hb dX9_night_17 (by decide) (fun c350 => ?_) (fun c350 => ?_)
      · have k351 := i_lt c350
        refine lv_aload_n hx hb dX9_night_22 rfl (lv_at hl 0 rfl) ?_
        refine x_gr C hT (ci := 9) (k := 0) rfl inX9 (by decide) wF_X9_12 ga0 rg_68 rfl dX9_night_23 (fun q352 eq352 gq352 => ?_)
        have uq352 : wq = q352 := (ewq).trans eq352.symm
        subst uq352
        refine x_gr C hT (ci := 8) (k := 8) rfl inX8 (by decide) wF_X9_296 gwq rg_0 rfl dX9_night_26 (fun q353 eq353 gq353 => ?_)
        replace eq353 : @Eq Ad q353 (fR s.heap wq (K.1.2 8 8)) := eq353
        refine lv_aload_n hx hb dX9_night_29 rfl (lv_at hl 0 rfl) ?_
        refine x_gr C hT (ci := 9) (k := 0) rfl inX9 (by decide) wF_X9_12 ga0 rg_68 rfl dX9_night_30 (fun q354 eq354 gq354 => ?_)
        have uq354 : wq = q354 := (ewq).trans eq354.symm
        subst uq354
        refine x_gi C hT (ci := 8) (k := 10) rfl inX8 (by decide) wF_X9_293 gwq rg_0 rfl dX9_night_33 (fun x355 ex355 bx355 => ?_)
        have ux355 : s10 = x355 := (es10).trans ex355.symm
        subst ux355
        refine lv_iload_n hx hb dX9_night_36 rfl (lv_at hl 1 rfl) ?_
        refine x_iast C hT hSH345 gq353 rg_28 (by omega) (by show _ < ((20 : Nat) : Int); omega) (i_rng x1) (AE_in gq353 (by decide)) dX9_night_37 (fun H356 locsH356 hTH356 hSH356 wH356 => ?_)
        have f357 : NWF K H356 s.heap wq := NWF.st f0_nw (fun k hk => fR_kept (wH356.off (G_ne gwq gq353 (by decide))))
        have m358 := ewq.trans (Wr.neR wH356 (Or.inl (G_ne ga0 gq353 (by decide)))).symm
        have m359 := es1.trans (Wr.neI wH356 (Or.inl (G_ne gwq gq353 (by decide)))).symm
        have m360 := es4.trans (Wr.neI wH356 (Or.inl (G_ne gwq gq353 (by decide)))).symm
        have m361 := es5.trans (Wr.neI wH356 (Or.inl (G_ne gwq gq353 (by decide)))).symm
        have m362 := es10.trans (Wr.neI wH356 (Or.inl (G_ne gwq gq353 (by decide)))).symm
        have m363 := es13.trans (Wr.neI wH356 (Or.inl (G_ne gwq gq353 (by decide)))).symm
        have m364 := es16.trans (Wr.neI wH356 (Or.inl (G_ne gwq gq353 (by decide)))).symm
        have m365 := eq353.trans (Wr.neR wH356 (Or.inl (G_ne gwq gq353 (by decide)))).symm
        have m366 := Wr.I wH356
        have m366 := m366.symm
        refine lv_aload_n hx hb dX9_night_38 rfl (lv_at hl 0 rfl) ?_
        refine x_gr C hTH356 (ci := 9) (k := 0) rfl inX9 (by decide) wF_X9_12 ga0 rg_68 rfl dX9_night_39 (fun q367 eq367 gq367 => ?_)
        have uq367 : wq = q367 := (m358).trans eq367.symm
        subst uq367
        refine x_gr C hTH356 (ci := 8) (k := 9) rfl inX8 (by decide) wF_X9_299 gwq rg_0 rfl dX9_night_42 (fun q368 eq368 gq368 => ?_)
        replace eq368 : @Eq Ad q368 (fR H356 wq (K.1.2 8 9)) := eq368
        refine lv_aload_n hx hb dX9_night_45 rfl (lv_at hl 0 rfl) ?_
        refine x_gr C hTH356 (ci := 9) (k := 0) rfl inX9 (by decide) wF_X9_12 ga0 rg_68 rfl dX9_night_46 (fun q369 eq369 gq369 => ?_)
        have uq369 : wq = q369 := (m358).trans eq369.symm
        subst uq369
        refine x_gi C hTH356 (ci := 8) (k := 10) rfl inX8 (by decide) wF_X9_293 gwq rg_0 rfl dX9_night_49 (fun x370 ex370 bx370 => ?_)
        have ux370 : s10 = x370 := (m362).trans ex370.symm
        subst ux370
        refine lv_iload_n hx hb dX9_night_52 rfl (lv_at hl 2 rfl) ?_
        refine x_iast C hTH356 hSH356 gq368 rg_29 (by omega) (by show _ < ((20 : Nat) : Int); omega) (i_rng x2) (AE_in gq368 (by decide)) dX9_night_53 (fun H371 locsH371 hTH371 hSH371 wH371 => ?_)
        have f372 : NWF K H371 s.heap wq := NWF.st f357 (fun k hk => fR_kept (wH371.off (G_ne gwq gq368 (by decide))))
        have m373 := m358.trans (Wr.neR wH371 (Or.inl (G_ne ga0 gq368 (by decide)))).symm
        have m374 := m359.trans (Wr.neI wH371 (Or.inl (G_ne gwq gq368 (by decide)))).symm
        have m375 := m360.trans (Wr.neI wH371 (Or.inl (G_ne gwq gq368 (by decide)))).symm
        have m376 := m361.trans (Wr.neI wH371 (Or.inl (G_ne gwq gq368 (by decide)))).symm
        have m377 := m362.trans (Wr.neI wH371 (Or.inl (G_ne gwq gq368 (by decide)))).symm
        have m378 := m363.trans (Wr.neI wH371 (Or.inl (G_ne gwq gq368 (by decide)))).symm
        have m379 := m364.trans (Wr.neI wH371 (Or.inl (G_ne gwq gq368 (by decide)))).symm
        have m380 := m365.trans (Wr.neR wH371 (Or.inl (G_ne gwq gq368 (by decide)))).symm
        have m381 := m366.trans (Wr.neI wH371 (Or.inl (G_ne gq353 gq368 (by decide)))).symm
        have m382 := eq368.trans (Wr.neR wH371 (Or.inl (G_ne gwq gq368 (by decide)))).symm
        have m383 := Wr.I wH371
        have m383 := m383.symm
        refine lv_aload_n hx hb dX9_night_54 rfl (lv_at hl 0 rfl) ?_
        refine x_gr C hTH371 (ci := 9) (k := 0) rfl inX9 (by decide) wF_X9_12 ga0 rg_68 rfl dX9_night_55 (fun q384 eq384 gq384 => ?_)
        have uq384 : wq = q384 := (m373).trans eq384.symm
        subst uq384
        refine lv_dup hx hb dX9_night_58 rfl ?_
        refine x_gi C hTH371 (ci := 8) (k := 10) rfl inX8 (by decide) wF_X9_293 gwq rg_0 rfl dX9_night_59 (fun x385 ex385 bx385 => ?_)
        have ux385 : s10 = x385 := (m377).trans ex385.symm
        subst ux385
        refine lv_iconst (v := 1) hx hb dX9_night_62 (by decide) ?_
        refine lv_iadd hx hb dX9_night_63 ?_
        refine lv_topi (fun x386 ex386 => ?_)
        have tx386 := i_add ex386 (by omega)
        refine x_put C hTH371 hSH371 (ci := 8) (k := 10) (v := .int x386) (ty0 := tyX8) rfl inX8 tyX8_ok nmX8 (by decide) rfl wF_X9_293 gwq rg_0 rfl rfl (okI (by omega) (by omega)) rfl rfl (AE_in gwq (by decide)) dX9_night_64 (fun H387 locsH387 hTH387 hSH387 wH387 => ?_)
        clear f357 m358 m359 m360 m361 m362 m363 m364 m365 m366
        have f388 : NWF K H387 s.heap wq := NWF.st f372 (fun k hk => Wr.neR wH387 (Or.inr (hapW k _ (by omega) (by decide) (by omega))))
        have m389 := m373.trans (Wr.neR wH387 (Or.inl (G_ne ga0 gwq (by decide)))).symm
        have m390 := m374.trans (Wr.neI wH387 (Or.inr (x_apart hKT hts inX8 tyX8 tyX8_ok nmX8 rfl 1 10 (by decide) (by decide) (by decide)))).symm
        have m391 := m375.trans (Wr.neI wH387 (Or.inr (x_apart hKT hts inX8 tyX8 tyX8_ok nmX8 rfl 4 10 (by decide) (by decide) (by decide)))).symm
        have m392 := m376.trans (Wr.neI wH387 (Or.inr (x_apart hKT hts inX8 tyX8 tyX8_ok nmX8 rfl 5 10 (by decide) (by decide) (by decide)))).symm
        have m394 := m378.trans (Wr.neI wH387 (Or.inr (x_apart hKT hts inX8 tyX8 tyX8_ok nmX8 rfl 13 10 (by decide) (by decide) (by decide)))).symm
        have m395 := m379.trans (Wr.neI wH387 (Or.inr (x_apart hKT hts inX8 tyX8 tyX8_ok nmX8 rfl 16 10 (by decide) (by decide) (by decide)))).symm
        have m396 := m380.trans (Wr.neR wH387 (Or.inr (x_apart hKT hts inX8 tyX8 tyX8_ok nmX8 rfl 8 10 (by decide) (by decide) (by decide)))).symm
        have m397 := m381.trans (Wr.neI wH387 (Or.inl (G_ne gq353 gwq (by decide)))).symm
        have m398 := m382.trans (Wr.neR wH387 (Or.inr (x_apart hKT hts inX8 tyX8 tyX8_ok nmX8 rfl 9 10 (by decide) (by decide) (by decide)))).symm
        have m399 := m383.trans (Wr.neI wH387 (Or.inl (G_ne gq368 gwq (by decide)))).symm
        have m400 := Wr.I wH387
        have m400 := m400.symm
        refine lv_aload_n hx hb dX9_night_67 rfl (lv_at hl 0 rfl) ?_
        refine x_gr C hTH387 (ci := 9) (k := 0) rfl inX9 (by decide) wF_X9_12 ga0 rg_68 rfl dX9_night_68 (fun q401 eq401 gq401 => ?_)
        have uq401 : wq = q401 := (m389).trans eq401.symm
        subst uq401
        refine x_gi C hTH387 (ci := 8) (k := 10) rfl inX8 (by decide) wF_X9_293 gwq rg_0 rfl dX9_night_71 (fun x402 ex402 bx402 => ?_)
        have ux402 : x386 = x402 := (m400).trans ex402.symm
        subst ux402
        refine lv_iconst (v := 1) hx hb dX9_night_74 (by decide) ?_
        refine lv_isub hx hb dX9_night_75 ?_
        refine lv_topi (fun x403 ex403 => ?_)
        have tx403 := i_sub ex403 (by omega)
        exact x_iret C hQ dX9_night_76 hSH387 (by decide) (by decide) (⟨x403, s1, s4, s5, x386, s13, s16, rfl, m390, m391, m392, m400, m394, m395, by omega, f388, hTH387⟩)
      · have k351 := i_nlt c350
        refine lv_iconst (v := (-1)) hx hb dX9_night_20 (by decide) ?_
        exact x_iret C hQ dX9_night_21 hSH345 (by decide) (by decide) (⟨(-1), s1, s4, s5, s10, s13, s16, rfl, es1, es4, es5, es10, es13, es16, by omega, f0_nw, hT⟩)
  · subst hvH345
    refine W.eq (g2 := F0 m 5 ls [.int 0]) rfl ?_
    refine lv_if_eq (tgt := 20) hx hb dX9_night_5 (by decide) (fun c404 => ?_) (fun c404 => ?_)
    · have k405 := i_eq c404
      refine lv_iconst (v := (-1)) hx hb dX9_night_20 (by decide) ?_
      exact x_iret C hQ dX9_night_21 hSH345 (by decide) (by decide) (⟨(-1), s1, s4, s5, s10, s13, s16, rfl, es1, es4, es5, es10, es13, es16, by omega, f0_nw, hT⟩)
    · have k405 := i_ne c404
      exfalso
      omega

set_option maxHeartbeats 4000000 in
set_option maxRecDepth 100000 in
theorem a_X9_note_w (l : Launch) (K : KE) (G : Nat → Option Nat) (H : Heap) {a0 : Nat} (x1 : Int32) (x2 : Int32) {wq : Nat} (s1 : Int32) (s4 : Int32) (s5 : Int32) (s10 : Int32) (s13 : Int32) (s16 : Int32) (hT : TY K G H) (ga0 : G a0 = some 68) (gwq : G wq = some 0) (ewq : @Eq Ad wq (fR H a0 (K.1.2 9 0))) (es1 : s1 = fI H wq (K.1.2 8 1)) (es4 : s4 = fI H wq (K.1.2 8 4)) (es5 : s5 = fI H wq (K.1.2 8 5)) (es10 : s10 = fI H wq (K.1.2 8 10)) (es13 : s13 = fI H wq (K.1.2 8 13)) (es16 : s16 = fI H wq (K.1.2 8 16)) : MX l K yX9_note cX9_note 3 (some .int) 1 22 0 0 [.ref a0, .int x1, .int x2] H (AE G [0, 30, 31] H.size) (fun v H1 => ∃ (r : Int32) (t0 : Int32) (t1 : Int32) (t2 : Int32) (t3 : Int32) (t4 : Int32) (t5 : Int32), v = some (.int r) ∧ t0 = fI H1 wq (K.1.2 8 1) ∧ t1 = fI H1 wq (K.1.2 8 4) ∧ t2 = fI H1 wq (K.1.2 8 5) ∧ t3 = fI H1 wq (K.1.2 8 10) ∧ t4 = fI H1 wq (K.1.2 8 13) ∧ t5 = fI H1 wq (K.1.2 8 16) ∧ (((1 ≤ x1.toInt ∧ x1.toInt ≤ 999999 ∧ 1 ≤ x2.toInt ∧ x2.toInt ≤ 99 ∧ s13.toInt ≤ 7 ∧ r.toInt = s13.toInt ∧ t4.toInt = s13.toInt + 1) ∨ ((x1.toInt < 1 ∨ 999999 < x1.toInt ∨ x2.toInt < 1 ∨ 99 < x2.toInt ∨ 7 < s13.toInt) ∧ r.toInt = -1 ∧ t4.toInt = s13.toInt)) ∧ t0.toInt = s1.toInt ∧ t1.toInt = s4.toInt ∧ t2.toInt = s5.toInt ∧ t3.toInt = s10.toInt ∧ t5.toInt = s16.toInt) ∧ (NWF K H1 H wq) ∧ TY K G H1) := by
  refine MX.of (by decide +kernel) (Nat.le_of_ble_eq_true rfl) ?_
  intro p e s m below meth c ls Q C hH hl hQ
  subst hH
  have C : CX p K s m _ meth c RX9 cX9_note 3 (some .int) "note" := C
  obtain ⟨hx, hb, hml, hown, hts, hKT, hr, hlocks, hnm⟩ := id C
  have hl : lv_has ls 3 [(0, .ref a0), (1, .int x1), (2, .int x2)] := hl
  have hS : va_S (AE G [0, 30, 31] s.heap.size) s.heap s.heap [] := va_S.rf
  have n_m1 : ((-1) : Int32).toInt = -1 := rfl
  have n_0 : (0 : Int32).toInt = 0 := rfl
  have n_1 : (1 : Int32).toInt = 1 := rfl
  have n_8 : (8 : Int32).toInt = 8 := rfl
  have n_99 : (99 : Int32).toInt = 99 := rfl
  have n_999999 : (999999 : Int32).toInt = 999999 := rfl
  have bs1 := ty_fi (x := s1) (k := 1) es1 hT gwq rg_0 rfl
  have bs4 := ty_fi (x := s4) (k := 4) es4 hT gwq rg_0 rfl
  have bs5 := ty_fi (x := s5) (k := 5) es5 hT gwq rg_0 rfl
  have bs10 := ty_fi (x := s10) (k := 10) es10 hT gwq rg_0 rfl
  have bs13 := ty_fi (x := s13) (k := 13) es13 hT gwq rg_0 rfl
  have bs16 := ty_fi (x := s16) (k := 16) es16 hT gwq rg_0 rfl
  have hapW : ∀ x y, x < 17 → y < 17 → x ≠ y → K.1.2 8 x ≠ K.1.2 8 y := x_apart hKT hts inX8 tyX8 tyX8_ok nmX8 rfl
  have f0_nw : NWF K s.heap s.heap wq := NWF.rf
  refine lv_iload_n hx hb dX9_note_0 rfl (lv_at hl 1 rfl) ?_
  refine lv_iconst (v := 1) hx hb dX9_note_1 (by decide) ?_
  refine lv_ldc (v := 999999) hx hb hown (hts _ wK_X9_180) dX9_note_2 ?_
  refine x_S (As := [.int x1, .int 1, .int 999999]) (rest := []) C (c_X9_within l K G s.heap (x1) (1) (999999) hT) yo_X9_within wM_X9_89 ⟨⟨by decide, by decide⟩, by decide, by decide⟩ rfl hl.1 rfl (Nat.le_of_ble_eq_true rfl) dX9_note_4 hS (AE_sub (fun _ _ => rfl) (by decide) hS.1) (fun vH365 H365 locsH365 pH365 zH365 kH365 hSH365 => ?_)
  have hqH365 := pH365.1.symm
  subst hqH365
  rcases pH365.2 with ⟨hvH365, hcH365⟩ | ⟨hvH365, hcH365⟩
  · subst hvH365
    refine W.eq (g2 := F0 m 7 ls [.int 1]) rfl ?_
    refine lv_if_eq (tgt := 32) hx hb dX9_note_7 (by decide) (fun c366 => ?_) (fun c366 => ?_)
    · have k367 := i_eq c366
      exfalso
      omega
    · have k367 := i_ne c366
      refine lv_iload_n hx hb dX9_note_10 rfl (lv_at hl 2 rfl) ?_
      refine lv_iconst (v := 1) hx hb dX9_note_11 (by decide) ?_
      refine lv_bipush (v := 99) hx hb dX9_note_12 (by decide) ?_
      refine x_S (As := [.int x2, .int 1, .int 99]) (rest := []) C (c_X9_within l K G s.heap (x2) (1) (99) hT) yo_X9_within wM_X9_89 ⟨⟨by decide, by decide⟩, by decide, by decide⟩ rfl hl.1 rfl (Nat.le_of_ble_eq_true rfl) dX9_note_14 hSH365 (AE_sub (fun _ _ => rfl) (by decide) hSH365.1) (fun vH368 H368 locsH368 pH368 zH368 kH368 hSH368 => ?_)
      have hqH368 := pH368.1.symm
      subst hqH368
      rcases pH368.2 with ⟨hvH368, hcH368⟩ | ⟨hvH368, hcH368⟩
      · subst hvH368
        refine W.eq (g2 := F0 m 17 ls [.int 1]) rfl ?_
        refine lv_if_eq (tgt := 32) hx hb dX9_note_17 (by decide) (fun c369 => ?_) (fun c369 => ?_)
        · have k370 := i_eq c369
          exfalso
          omega
        · have k370 := i_ne c369
          refine lv_aload_n hx hb dX9_note_20 rfl (lv_at hl 0 rfl) ?_
          refine x_gr C hT (ci := 9) (k := 0) rfl inX9 (by decide) wF_X9_12 ga0 rg_68 rfl dX9_note_21 (fun q371 eq371 gq371 => ?_)
          have uq371 : wq = q371 := (ewq).trans eq371.symm
          subst uq371
          refine x_gi C hT (ci := 8) (k := 13) rfl inX8 (by decide) wF_X9_317 gwq rg_0 rfl dX9_note_24 (fun x372 ex372 bx372 => ?_)
          have ux372 : s13 = x372 := (es13).trans ex372.symm
          subst ux372
          refine lv_bipush (v := 8) hx hb dX9_note_27 (by decide) ?_
          refine lv_icmp_lt (tgt := 34) hx hb dX9_note_29 (by decide) (fun c373 => ?_) (fun c373 => ?_)
          · have k374 := i_lt c373
            refine lv_aload_n hx hb dX9_note_34 rfl (lv_at hl 0 rfl) ?_
            refine x_gr C hT (ci := 9) (k := 0) rfl inX9 (by decide) wF_X9_12 ga0 rg_68 rfl dX9_note_35 (fun q375 eq375 gq375 => ?_)
            have uq375 : wq = q375 := (ewq).trans eq375.symm
            subst uq375
            refine x_gr C hT (ci := 8) (k := 11) rfl inX8 (by decide) wF_X9_320 gwq rg_0 rfl dX9_note_38 (fun q376 eq376 gq376 => ?_)
            replace eq376 : @Eq Ad q376 (fR s.heap wq (K.1.2 8 11)) := eq376
            refine lv_aload_n hx hb dX9_note_41 rfl (lv_at hl 0 rfl) ?_
            refine x_gr C hT (ci := 9) (k := 0) rfl inX9 (by decide) wF_X9_12 ga0 rg_68 rfl dX9_note_42 (fun q377 eq377 gq377 => ?_)
            have uq377 : wq = q377 := (ewq).trans eq377.symm
            subst uq377
            refine x_gi C hT (ci := 8) (k := 13) rfl inX8 (by decide) wF_X9_317 gwq rg_0 rfl dX9_note_45 (fun x378 ex378 bx378 => ?_)
            have ux378 : s13 = x378 := (es13).trans ex378.symm
            subst ux378
            refine lv_iload_n hx hb dX9_note_48 rfl (lv_at hl 1 rfl) ?_
            refine x_iast C hT hSH368 gq376 rg_30 (by omega) (by show _ < ((8 : Nat) : Int); omega) (i_rng x1) (AE_in gq376 (by decide)) dX9_note_49 (fun H379 locsH379 hTH379 hSH379 wH379 => ?_)
            have f380 : NWF K H379 s.heap wq := NWF.st f0_nw (fun k hk => fR_kept (wH379.off (G_ne gwq gq376 (by decide))))
            have m381 := ewq.trans (Wr.neR wH379 (Or.inl (G_ne ga0 gq376 (by decide)))).symm
            have m382 := es1.trans (Wr.neI wH379 (Or.inl (G_ne gwq gq376 (by decide)))).symm
            have m383 := es4.trans (Wr.neI wH379 (Or.inl (G_ne gwq gq376 (by decide)))).symm
            have m384 := es5.trans (Wr.neI wH379 (Or.inl (G_ne gwq gq376 (by decide)))).symm
            have m385 := es10.trans (Wr.neI wH379 (Or.inl (G_ne gwq gq376 (by decide)))).symm
            have m386 := es13.trans (Wr.neI wH379 (Or.inl (G_ne gwq gq376 (by decide)))).symm
            have m387 := es16.trans (Wr.neI wH379 (Or.inl (G_ne gwq gq376 (by decide)))).symm
            have m388 := eq376.trans (Wr.neR wH379 (Or.inl (G_ne gwq gq376 (by decide)))).symm
            have m389 := Wr.I wH379
            have m389 := m389.symm
            refine lv_aload_n hx hb dX9_note_50 rfl (lv_at hl 0 rfl) ?_
            refine x_gr C hTH379 (ci := 9) (k := 0) rfl inX9 (by decide) wF_X9_12 ga0 rg_68 rfl dX9_note_51 (fun q390 eq390 gq390 => ?_)
            have uq390 : wq = q390 := (m381).trans eq390.symm
            subst uq390
            refine x_gr C hTH379 (ci := 8) (k := 12) rfl inX8 (by decide) wF_X9_323 gwq rg_0 rfl dX9_note_54 (fun q391 eq391 gq391 => ?_)
            replace eq391 : @Eq Ad q391 (fR H379 wq (K.1.2 8 12)) := eq391
            refine lv_aload_n hx hb dX9_note_57 rfl (lv_at hl 0 rfl) ?_
            refine x_gr C hTH379 (ci := 9) (k := 0) rfl inX9 (by decide) wF_X9_12 ga0 rg_68 rfl dX9_note_58 (fun q392 eq392 gq392 => ?_)
            have uq392 : wq = q392 := (m381).trans eq392.symm
            subst uq392
            refine x_gi C hTH379 (ci := 8) (k := 13) rfl inX8 (by decide) wF_X9_317 gwq rg_0 rfl dX9_note_61 (fun x393 ex393 bx393 => ?_)
            have ux393 : s13 = x393 := (m386).trans ex393.symm
            subst ux393
            refine lv_iload_n hx hb dX9_note_64 rfl (lv_at hl 2 rfl) ?_
            refine x_iast C hTH379 hSH379 gq391 rg_31 (by omega) (by show _ < ((8 : Nat) : Int); omega) (i_rng x2) (AE_in gq391 (by decide)) dX9_note_65 (fun H394 locsH394 hTH394 hSH394 wH394 => ?_)
            have f395 : NWF K H394 s.heap wq := NWF.st f380 (fun k hk => fR_kept (wH394.off (G_ne gwq gq391 (by decide))))
            have m396 := m381.trans (Wr.neR wH394 (Or.inl (G_ne ga0 gq391 (by decide)))).symm
            have m397 := m382.trans (Wr.neI wH394 (Or.inl (G_ne gwq gq391 (by decide)))).symm
            have m398 := m383.trans (Wr.neI wH394 (Or.inl (G_ne gwq gq391 (by decide)))).symm
            have m399 := m384.trans (Wr.neI wH394 (Or.inl (G_ne gwq gq391 (by decide)))).symm
            have m400 := m385.trans (Wr.neI wH394 (Or.inl (G_ne gwq gq391 (by decide)))).symm
            have m401 := m386.trans (Wr.neI wH394 (Or.inl (G_ne gwq gq391 (by decide)))).symm
            have m402 := m387.trans (Wr.neI wH394 (Or.inl (G_ne gwq gq391 (by decide)))).symm
            have m403 := m388.trans (Wr.neR wH394 (Or.inl (G_ne gwq gq391 (by decide)))).symm
            have m404 := m389.trans (Wr.neI wH394 (Or.inl (G_ne gq376 gq391 (by decide)))).symm
            have m405 := eq391.trans (Wr.neR wH394 (Or.inl (G_ne gwq gq391 (by decide)))).symm
            have m406 := Wr.I wH394
            have m406 := m406.symm
            refine lv_aload_n hx hb dX9_note_66 rfl (lv_at hl 0 rfl) ?_
            refine x_gr C hTH394 (ci := 9) (k := 0) rfl inX9 (by decide) wF_X9_12 ga0 rg_68 rfl dX9_note_67 (fun q407 eq407 gq407 => ?_)
            have uq407 : wq = q407 := (m396).trans eq407.symm
            subst uq407
            refine lv_dup hx hb dX9_note_70 rfl ?_
            refine x_gi C hTH394 (ci := 8) (k := 13) rfl inX8 (by decide) wF_X9_317 gwq rg_0 rfl dX9_note_71 (fun x408 ex408 bx408 => ?_)
            have ux408 : s13 = x408 := (m401).trans ex408.symm
            subst ux408
            refine lv_iconst (v := 1) hx hb dX9_note_74 (by decide) ?_
            refine lv_iadd hx hb dX9_note_75 ?_
            refine lv_topi (fun x409 ex409 => ?_)
            have tx409 := i_add ex409 (by omega)
            refine x_put C hTH394 hSH394 (ci := 8) (k := 13) (v := .int x409) (ty0 := tyX8) rfl inX8 tyX8_ok nmX8 (by decide) rfl wF_X9_317 gwq rg_0 rfl rfl (okI (by omega) (by omega)) rfl rfl (AE_in gwq (by decide)) dX9_note_76 (fun H410 locsH410 hTH410 hSH410 wH410 => ?_)
            clear f380 m381 m382 m383 m384 m385 m386 m387 m388 m389
            have f411 : NWF K H410 s.heap wq := NWF.st f395 (fun k hk => Wr.neR wH410 (Or.inr (hapW k _ (by omega) (by decide) (by omega))))
            have m412 := m396.trans (Wr.neR wH410 (Or.inl (G_ne ga0 gwq (by decide)))).symm
            have m413 := m397.trans (Wr.neI wH410 (Or.inr (x_apart hKT hts inX8 tyX8 tyX8_ok nmX8 rfl 1 13 (by decide) (by decide) (by decide)))).symm
            have m414 := m398.trans (Wr.neI wH410 (Or.inr (x_apart hKT hts inX8 tyX8 tyX8_ok nmX8 rfl 4 13 (by decide) (by decide) (by decide)))).symm
            have m415 := m399.trans (Wr.neI wH410 (Or.inr (x_apart hKT hts inX8 tyX8 tyX8_ok nmX8 rfl 5 13 (by decide) (by decide) (by decide)))).symm
            have m416 := m400.trans (Wr.neI wH410 (Or.inr (x_apart hKT hts inX8 tyX8 tyX8_ok nmX8 rfl 10 13 (by decide) (by decide) (by decide)))).symm
            have m418 := m402.trans (Wr.neI wH410 (Or.inr (x_apart hKT hts inX8 tyX8 tyX8_ok nmX8 rfl 16 13 (by decide) (by decide) (by decide)))).symm
            have m419 := m403.trans (Wr.neR wH410 (Or.inr (x_apart hKT hts inX8 tyX8 tyX8_ok nmX8 rfl 11 13 (by decide) (by decide) (by decide)))).symm
            have m420 := m404.trans (Wr.neI wH410 (Or.inl (G_ne gq376 gwq (by decide)))).symm
            have m421 := m405.trans (Wr.neR wH410 (Or.inr (x_apart hKT hts inX8 tyX8 tyX8_ok nmX8 rfl 12 13 (by decide) (by decide) (by decide)))).symm
            have m422 := m406.trans (Wr.neI wH410 (Or.inl (G_ne gq391 gwq (by decide)))).symm
            have m423 := Wr.I wH410
            have m423 := m423.symm
            refine lv_aload_n hx hb dX9_note_79 rfl (lv_at hl 0 rfl) ?_
            refine x_gr C hTH410 (ci := 9) (k := 0) rfl inX9 (by decide) wF_X9_12 ga0 rg_68 rfl dX9_note_80 (fun q424 eq424 gq424 => ?_)
            have uq424 : wq = q424 := (m412).trans eq424.symm
            subst uq424
            refine x_gi C hTH410 (ci := 8) (k := 13) rfl inX8 (by decide) wF_X9_317 gwq rg_0 rfl dX9_note_83 (fun x425 ex425 bx425 => ?_)
            have ux425 : x409 = x425 := (m423).trans ex425.symm
            subst ux425
            refine lv_iconst (v := 1) hx hb dX9_note_86 (by decide) ?_
            refine lv_isub hx hb dX9_note_87 ?_
            refine lv_topi (fun x426 ex426 => ?_)
            have tx426 := i_sub ex426 (by omega)
            exact x_iret C hQ dX9_note_88 hSH410 (by decide) (by decide) (⟨x426, s1, s4, s5, s10, x409, s16, rfl, m413, m414, m415, m416, m423, m418, by omega, f411, hTH410⟩)
          · have k374 := i_nlt c373
            refine lv_iconst (v := (-1)) hx hb dX9_note_32 (by decide) ?_
            exact x_iret C hQ dX9_note_33 hSH368 (by decide) (by decide) (⟨(-1), s1, s4, s5, s10, s13, s16, rfl, es1, es4, es5, es10, es13, es16, by omega, f0_nw, hT⟩)
      · subst hvH368
        refine W.eq (g2 := F0 m 17 ls [.int 0]) rfl ?_
        refine lv_if_eq (tgt := 32) hx hb dX9_note_17 (by decide) (fun c427 => ?_) (fun c427 => ?_)
        · have k428 := i_eq c427
          refine lv_iconst (v := (-1)) hx hb dX9_note_32 (by decide) ?_
          exact x_iret C hQ dX9_note_33 hSH368 (by decide) (by decide) (⟨(-1), s1, s4, s5, s10, s13, s16, rfl, es1, es4, es5, es10, es13, es16, by omega, f0_nw, hT⟩)
        · have k428 := i_ne c427
          exfalso
          omega
  · subst hvH365
    refine W.eq (g2 := F0 m 7 ls [.int 0]) rfl ?_
    refine lv_if_eq (tgt := 32) hx hb dX9_note_7 (by decide) (fun c429 => ?_) (fun c429 => ?_)
    · have k430 := i_eq c429
      refine lv_iconst (v := (-1)) hx hb dX9_note_32 (by decide) ?_
      exact x_iret C hQ dX9_note_33 hSH365 (by decide) (by decide) (⟨(-1), s1, s4, s5, s10, s13, s16, rfl, es1, es4, es5, es10, es13, es16, by omega, f0_nw, hT⟩)
    · have k430 := i_ne c429
      exfalso
      omega

set_option maxHeartbeats 4000000 in
set_option maxRecDepth 100000 in
theorem a_X9_blank_w (l : Launch) (K : KE) (G : Nat → Option Nat) (H : Heap) {a0 : Nat} (x1 : Int32) (x2 : Int32) {wq : Nat} (s1 : Int32) (s4 : Int32) (s5 : Int32) (s10 : Int32) (s13 : Int32) (s16 : Int32) (hT : TY K G H) (ga0 : G a0 = some 68) (gwq : G wq = some 0) (ewq : @Eq Ad wq (fR H a0 (K.1.2 9 0))) (es1 : s1 = fI H wq (K.1.2 8 1)) (es4 : s4 = fI H wq (K.1.2 8 4)) (es5 : s5 = fI H wq (K.1.2 8 5)) (es10 : s10 = fI H wq (K.1.2 8 10)) (es13 : s13 = fI H wq (K.1.2 8 13)) (es16 : s16 = fI H wq (K.1.2 8 16)) : MX l K yX9_blank cX9_blank 3 (some .int) 1 22 0 0 [.ref a0, .int x1, .int x2] H (AE G [0, 32, 33] H.size) (fun v H1 => ∃ (r : Int32) (t0 : Int32) (t1 : Int32) (t2 : Int32) (t3 : Int32) (t4 : Int32) (t5 : Int32), v = some (.int r) ∧ t0 = fI H1 wq (K.1.2 8 1) ∧ t1 = fI H1 wq (K.1.2 8 4) ∧ t2 = fI H1 wq (K.1.2 8 5) ∧ t3 = fI H1 wq (K.1.2 8 10) ∧ t4 = fI H1 wq (K.1.2 8 13) ∧ t5 = fI H1 wq (K.1.2 8 16) ∧ (((1 ≤ x1.toInt ∧ x1.toInt ≤ 99 ∧ 0 ≤ x2.toInt ∧ x2.toInt ≤ 99 ∧ s16.toInt ≤ 7 ∧ r.toInt = s16.toInt ∧ t5.toInt = s16.toInt + 1) ∨ ((x1.toInt < 1 ∨ 99 < x1.toInt ∨ x2.toInt < 0 ∨ 99 < x2.toInt ∨ 7 < s16.toInt) ∧ r.toInt = -1 ∧ t5.toInt = s16.toInt)) ∧ t0.toInt = s1.toInt ∧ t1.toInt = s4.toInt ∧ t2.toInt = s5.toInt ∧ t3.toInt = s10.toInt ∧ t4.toInt = s13.toInt) ∧ (NWF K H1 H wq) ∧ TY K G H1) := by
  refine MX.of (by decide +kernel) (Nat.le_of_ble_eq_true rfl) ?_
  intro p e s m below meth c ls Q C hH hl hQ
  subst hH
  have C : CX p K s m _ meth c RX9 cX9_blank 3 (some .int) "blank" := C
  obtain ⟨hx, hb, hml, hown, hts, hKT, hr, hlocks, hnm⟩ := id C
  have hl : lv_has ls 3 [(0, .ref a0), (1, .int x1), (2, .int x2)] := hl
  have hS : va_S (AE G [0, 32, 33] s.heap.size) s.heap s.heap [] := va_S.rf
  have n_m1 : ((-1) : Int32).toInt = -1 := rfl
  have n_0 : (0 : Int32).toInt = 0 := rfl
  have n_1 : (1 : Int32).toInt = 1 := rfl
  have n_8 : (8 : Int32).toInt = 8 := rfl
  have n_99 : (99 : Int32).toInt = 99 := rfl
  have bs1 := ty_fi (x := s1) (k := 1) es1 hT gwq rg_0 rfl
  have bs4 := ty_fi (x := s4) (k := 4) es4 hT gwq rg_0 rfl
  have bs5 := ty_fi (x := s5) (k := 5) es5 hT gwq rg_0 rfl
  have bs10 := ty_fi (x := s10) (k := 10) es10 hT gwq rg_0 rfl
  have bs13 := ty_fi (x := s13) (k := 13) es13 hT gwq rg_0 rfl
  have bs16 := ty_fi (x := s16) (k := 16) es16 hT gwq rg_0 rfl
  have hapW : ∀ x y, x < 17 → y < 17 → x ≠ y → K.1.2 8 x ≠ K.1.2 8 y := x_apart hKT hts inX8 tyX8 tyX8_ok nmX8 rfl
  have f0_nw : NWF K s.heap s.heap wq := NWF.rf
  refine lv_iload_n hx hb dX9_blank_0 rfl (lv_at hl 1 rfl) ?_
  refine lv_iconst (v := 1) hx hb dX9_blank_1 (by decide) ?_
  refine lv_bipush (v := 99) hx hb dX9_blank_2 (by decide) ?_
  refine x_S (As := [.int x1, .int 1, .int 99]) (rest := []) C (c_X9_within l K G s.heap (x1) (1) (99) hT) yo_X9_within wM_X9_89 ⟨⟨by decide, by decide⟩, by decide, by decide⟩ rfl hl.1 rfl (Nat.le_of_ble_eq_true rfl) dX9_blank_4 hS (AE_sub (fun _ _ => rfl) (by decide) hS.1) (fun vH365 H365 locsH365 pH365 zH365 kH365 hSH365 => ?_)
  have hqH365 := pH365.1.symm
  subst hqH365
  rcases pH365.2 with ⟨hvH365, hcH365⟩ | ⟨hvH365, hcH365⟩
  · subst hvH365
    refine W.eq (g2 := F0 m 7 ls [.int 1]) rfl ?_
    refine lv_if_eq (tgt := 32) hx hb dX9_blank_7 (by decide) (fun c366 => ?_) (fun c366 => ?_)
    · have k367 := i_eq c366
      exfalso
      omega
    · have k367 := i_ne c366
      refine lv_iload_n hx hb dX9_blank_10 rfl (lv_at hl 2 rfl) ?_
      refine lv_iconst (v := 0) hx hb dX9_blank_11 (by decide) ?_
      refine lv_bipush (v := 99) hx hb dX9_blank_12 (by decide) ?_
      refine x_S (As := [.int x2, .int 0, .int 99]) (rest := []) C (c_X9_within l K G s.heap (x2) (0) (99) hT) yo_X9_within wM_X9_89 ⟨⟨by decide, by decide⟩, by decide, by decide⟩ rfl hl.1 rfl (Nat.le_of_ble_eq_true rfl) dX9_blank_14 hSH365 (AE_sub (fun _ _ => rfl) (by decide) hSH365.1) (fun vH368 H368 locsH368 pH368 zH368 kH368 hSH368 => ?_)
      have hqH368 := pH368.1.symm
      subst hqH368
      rcases pH368.2 with ⟨hvH368, hcH368⟩ | ⟨hvH368, hcH368⟩
      · subst hvH368
        refine W.eq (g2 := F0 m 17 ls [.int 1]) rfl ?_
        refine lv_if_eq (tgt := 32) hx hb dX9_blank_17 (by decide) (fun c369 => ?_) (fun c369 => ?_)
        · have k370 := i_eq c369
          exfalso
          omega
        · have k370 := i_ne c369
          refine lv_aload_n hx hb dX9_blank_20 rfl (lv_at hl 0 rfl) ?_
          refine x_gr C hT (ci := 9) (k := 0) rfl inX9 (by decide) wF_X9_12 ga0 rg_68 rfl dX9_blank_21 (fun q371 eq371 gq371 => ?_)
          have uq371 : wq = q371 := (ewq).trans eq371.symm
          subst uq371
          refine x_gi C hT (ci := 8) (k := 16) rfl inX8 (by decide) wF_X9_326 gwq rg_0 rfl dX9_blank_24 (fun x372 ex372 bx372 => ?_)
          have ux372 : s16 = x372 := (es16).trans ex372.symm
          subst ux372
          refine lv_bipush (v := 8) hx hb dX9_blank_27 (by decide) ?_
          refine lv_icmp_lt (tgt := 34) hx hb dX9_blank_29 (by decide) (fun c373 => ?_) (fun c373 => ?_)
          · have k374 := i_lt c373
            refine lv_aload_n hx hb dX9_blank_34 rfl (lv_at hl 0 rfl) ?_
            refine x_gr C hT (ci := 9) (k := 0) rfl inX9 (by decide) wF_X9_12 ga0 rg_68 rfl dX9_blank_35 (fun q375 eq375 gq375 => ?_)
            have uq375 : wq = q375 := (ewq).trans eq375.symm
            subst uq375
            refine x_gr C hT (ci := 8) (k := 14) rfl inX8 (by decide) wF_X9_329 gwq rg_0 rfl dX9_blank_38 (fun q376 eq376 gq376 => ?_)
            replace eq376 : @Eq Ad q376 (fR s.heap wq (K.1.2 8 14)) := eq376
            refine lv_aload_n hx hb dX9_blank_41 rfl (lv_at hl 0 rfl) ?_
            refine x_gr C hT (ci := 9) (k := 0) rfl inX9 (by decide) wF_X9_12 ga0 rg_68 rfl dX9_blank_42 (fun q377 eq377 gq377 => ?_)
            have uq377 : wq = q377 := (ewq).trans eq377.symm
            subst uq377
            refine x_gi C hT (ci := 8) (k := 16) rfl inX8 (by decide) wF_X9_326 gwq rg_0 rfl dX9_blank_45 (fun x378 ex378 bx378 => ?_)
            have ux378 : s16 = x378 := (es16).trans ex378.symm
            subst ux378
            refine lv_iload_n hx hb dX9_blank_48 rfl (lv_at hl 1 rfl) ?_
            refine x_iast C hT hSH368 gq376 rg_32 (by omega) (by show _ < ((8 : Nat) : Int); omega) (i_rng x1) (AE_in gq376 (by decide)) dX9_blank_49 (fun H379 locsH379 hTH379 hSH379 wH379 => ?_)
            have f380 : NWF K H379 s.heap wq := NWF.st f0_nw (fun k hk => fR_kept (wH379.off (G_ne gwq gq376 (by decide))))
            have m381 := ewq.trans (Wr.neR wH379 (Or.inl (G_ne ga0 gq376 (by decide)))).symm
            have m382 := es1.trans (Wr.neI wH379 (Or.inl (G_ne gwq gq376 (by decide)))).symm
            have m383 := es4.trans (Wr.neI wH379 (Or.inl (G_ne gwq gq376 (by decide)))).symm
            have m384 := es5.trans (Wr.neI wH379 (Or.inl (G_ne gwq gq376 (by decide)))).symm
            have m385 := es10.trans (Wr.neI wH379 (Or.inl (G_ne gwq gq376 (by decide)))).symm
            have m386 := es13.trans (Wr.neI wH379 (Or.inl (G_ne gwq gq376 (by decide)))).symm
            have m387 := es16.trans (Wr.neI wH379 (Or.inl (G_ne gwq gq376 (by decide)))).symm
            have m388 := eq376.trans (Wr.neR wH379 (Or.inl (G_ne gwq gq376 (by decide)))).symm
            have m389 := Wr.I wH379
            have m389 := m389.symm
            refine lv_aload_n hx hb dX9_blank_50 rfl (lv_at hl 0 rfl) ?_
            refine x_gr C hTH379 (ci := 9) (k := 0) rfl inX9 (by decide) wF_X9_12 ga0 rg_68 rfl dX9_blank_51 (fun q390 eq390 gq390 => ?_)
            have uq390 : wq = q390 := (m381).trans eq390.symm
            subst uq390
            refine x_gr C hTH379 (ci := 8) (k := 15) rfl inX8 (by decide) wF_X9_332 gwq rg_0 rfl dX9_blank_54 (fun q391 eq391 gq391 => ?_)
            replace eq391 : @Eq Ad q391 (fR H379 wq (K.1.2 8 15)) := eq391
            refine lv_aload_n hx hb dX9_blank_57 rfl (lv_at hl 0 rfl) ?_
            refine x_gr C hTH379 (ci := 9) (k := 0) rfl inX9 (by decide) wF_X9_12 ga0 rg_68 rfl dX9_blank_58 (fun q392 eq392 gq392 => ?_)
            have uq392 : wq = q392 := (m381).trans eq392.symm
            subst uq392
            refine x_gi C hTH379 (ci := 8) (k := 16) rfl inX8 (by decide) wF_X9_326 gwq rg_0 rfl dX9_blank_61 (fun x393 ex393 bx393 => ?_)
            have ux393 : s16 = x393 := (m387).trans ex393.symm
            subst ux393
            refine lv_iload_n hx hb dX9_blank_64 rfl (lv_at hl 2 rfl) ?_
            refine x_iast C hTH379 hSH379 gq391 rg_33 (by omega) (by show _ < ((8 : Nat) : Int); omega) (i_rng x2) (AE_in gq391 (by decide)) dX9_blank_65 (fun H394 locsH394 hTH394 hSH394 wH394 => ?_)
            have f395 : NWF K H394 s.heap wq := NWF.st f380 (fun k hk => fR_kept (wH394.off (G_ne gwq gq391 (by decide))))
            have m396 := m381.trans (Wr.neR wH394 (Or.inl (G_ne ga0 gq391 (by decide)))).symm
            have m397 := m382.trans (Wr.neI wH394 (Or.inl (G_ne gwq gq391 (by decide)))).symm
            have m398 := m383.trans (Wr.neI wH394 (Or.inl (G_ne gwq gq391 (by decide)))).symm
            have m399 := m384.trans (Wr.neI wH394 (Or.inl (G_ne gwq gq391 (by decide)))).symm
            have m400 := m385.trans (Wr.neI wH394 (Or.inl (G_ne gwq gq391 (by decide)))).symm
            have m401 := m386.trans (Wr.neI wH394 (Or.inl (G_ne gwq gq391 (by decide)))).symm
            have m402 := m387.trans (Wr.neI wH394 (Or.inl (G_ne gwq gq391 (by decide)))).symm
            have m403 := m388.trans (Wr.neR wH394 (Or.inl (G_ne gwq gq391 (by decide)))).symm
            have m404 := m389.trans (Wr.neI wH394 (Or.inl (G_ne gq376 gq391 (by decide)))).symm
            have m405 := eq391.trans (Wr.neR wH394 (Or.inl (G_ne gwq gq391 (by decide)))).symm
            have m406 := Wr.I wH394
            have m406 := m406.symm
            refine lv_aload_n hx hb dX9_blank_66 rfl (lv_at hl 0 rfl) ?_
            refine x_gr C hTH394 (ci := 9) (k := 0) rfl inX9 (by decide) wF_X9_12 ga0 rg_68 rfl dX9_blank_67 (fun q407 eq407 gq407 => ?_)
            have uq407 : wq = q407 := (m396).trans eq407.symm
            subst uq407
            refine lv_dup hx hb dX9_blank_70 rfl ?_
            refine x_gi C hTH394 (ci := 8) (k := 16) rfl inX8 (by decide) wF_X9_326 gwq rg_0 rfl dX9_blank_71 (fun x408 ex408 bx408 => ?_)
            have ux408 : s16 = x408 := (m402).trans ex408.symm
            subst ux408
            refine lv_iconst (v := 1) hx hb dX9_blank_74 (by decide) ?_
            refine lv_iadd hx hb dX9_blank_75 ?_
            refine lv_topi (fun x409 ex409 => ?_)
            have tx409 := i_add ex409 (by omega)
            refine x_put C hTH394 hSH394 (ci := 8) (k := 16) (v := .int x409) (ty0 := tyX8) rfl inX8 tyX8_ok nmX8 (by decide) rfl wF_X9_326 gwq rg_0 rfl rfl (okI (by omega) (by omega)) rfl rfl (AE_in gwq (by decide)) dX9_blank_76 (fun H410 locsH410 hTH410 hSH410 wH410 => ?_)
            clear f380 m381 m382 m383 m384 m385 m386 m387 m388 m389
            have f411 : NWF K H410 s.heap wq := NWF.st f395 (fun k hk => Wr.neR wH410 (Or.inr (hapW k _ (by omega) (by decide) (by omega))))
            have m412 := m396.trans (Wr.neR wH410 (Or.inl (G_ne ga0 gwq (by decide)))).symm
            have m413 := m397.trans (Wr.neI wH410 (Or.inr (x_apart hKT hts inX8 tyX8 tyX8_ok nmX8 rfl 1 16 (by decide) (by decide) (by decide)))).symm
            have m414 := m398.trans (Wr.neI wH410 (Or.inr (x_apart hKT hts inX8 tyX8 tyX8_ok nmX8 rfl 4 16 (by decide) (by decide) (by decide)))).symm
            have m415 := m399.trans (Wr.neI wH410 (Or.inr (x_apart hKT hts inX8 tyX8 tyX8_ok nmX8 rfl 5 16 (by decide) (by decide) (by decide)))).symm
            have m416 := m400.trans (Wr.neI wH410 (Or.inr (x_apart hKT hts inX8 tyX8 tyX8_ok nmX8 rfl 10 16 (by decide) (by decide) (by decide)))).symm
            have m417 := m401.trans (Wr.neI wH410 (Or.inr (x_apart hKT hts inX8 tyX8 tyX8_ok nmX8 rfl 13 16 (by decide) (by decide) (by decide)))).symm
            have m419 := m403.trans (Wr.neR wH410 (Or.inr (x_apart hKT hts inX8 tyX8 tyX8_ok nmX8 rfl 14 16 (by decide) (by decide) (by decide)))).symm
            have m420 := m404.trans (Wr.neI wH410 (Or.inl (G_ne gq376 gwq (by decide)))).symm
            have m421 := m405.trans (Wr.neR wH410 (Or.inr (x_apart hKT hts inX8 tyX8 tyX8_ok nmX8 rfl 15 16 (by decide) (by decide) (by decide)))).symm
            have m422 := m406.trans (Wr.neI wH410 (Or.inl (G_ne gq391 gwq (by decide)))).symm
            have m423 := Wr.I wH410
            have m423 := m423.symm
            refine lv_aload_n hx hb dX9_blank_79 rfl (lv_at hl 0 rfl) ?_
            refine x_gr C hTH410 (ci := 9) (k := 0) rfl inX9 (by decide) wF_X9_12 ga0 rg_68 rfl dX9_blank_80 (fun q424 eq424 gq424 => ?_)
            have uq424 : wq = q424 := (m412).trans eq424.symm
            subst uq424
            refine x_gi C hTH410 (ci := 8) (k := 16) rfl inX8 (by decide) wF_X9_326 gwq rg_0 rfl dX9_blank_83 (fun x425 ex425 bx425 => ?_)
            have ux425 : x409 = x425 := (m423).trans ex425.symm
            subst ux425
            refine lv_iconst (v := 1) hx hb dX9_blank_86 (by decide) ?_
            refine lv_isub hx hb dX9_blank_87 ?_
            refine lv_topi (fun x426 ex426 => ?_)
            have tx426 := i_sub ex426 (by omega)
            exact x_iret C hQ dX9_blank_88 hSH410 (by decide) (by decide) (⟨x426, s1, s4, s5, s10, s13, x409, rfl, m413, m414, m415, m416, m417, m423, by omega, f411, hTH410⟩)
          · have k374 := i_nlt c373
            refine lv_iconst (v := (-1)) hx hb dX9_blank_32 (by decide) ?_
            exact x_iret C hQ dX9_blank_33 hSH368 (by decide) (by decide) (⟨(-1), s1, s4, s5, s10, s13, s16, rfl, es1, es4, es5, es10, es13, es16, by omega, f0_nw, hT⟩)
      · subst hvH368
        refine W.eq (g2 := F0 m 17 ls [.int 0]) rfl ?_
        refine lv_if_eq (tgt := 32) hx hb dX9_blank_17 (by decide) (fun c427 => ?_) (fun c427 => ?_)
        · have k428 := i_eq c427
          refine lv_iconst (v := (-1)) hx hb dX9_blank_32 (by decide) ?_
          exact x_iret C hQ dX9_blank_33 hSH368 (by decide) (by decide) (⟨(-1), s1, s4, s5, s10, s13, s16, rfl, es1, es4, es5, es10, es13, es16, by omega, f0_nw, hT⟩)
        · have k428 := i_ne c427
          exfalso
          omega
  · subst hvH365
    refine W.eq (g2 := F0 m 7 ls [.int 0]) rfl ?_
    refine lv_if_eq (tgt := 32) hx hb dX9_blank_7 (by decide) (fun c429 => ?_) (fun c429 => ?_)
    · have k430 := i_eq c429
      refine lv_iconst (v := (-1)) hx hb dX9_blank_32 (by decide) ?_
      exact x_iret C hQ dX9_blank_33 hSH365 (by decide) (by decide) (⟨(-1), s1, s4, s5, s10, s13, s16, rfl, es1, es4, es5, es10, es13, es16, by omega, f0_nw, hT⟩)
    · have k430 := i_ne c429
      exfalso
      omega

set_option maxHeartbeats 4000000 in
set_option maxRecDepth 100000 in
theorem a_X9_force_w (l : Launch) (K : KE) (G : Nat → Option Nat) (H : Heap) {a0 : Nat} (x1 : Int32) {wq : Nat} (s1 : Int32) (s4 : Int32) (s5 : Int32) (s10 : Int32) (s13 : Int32) (s16 : Int32) (hT : TY K G H) (ga0 : G a0 = some 68) (gwq : G wq = some 0) (ewq : @Eq Ad wq (fR H a0 (K.1.2 9 0))) (es1 : s1 = fI H wq (K.1.2 8 1)) (es4 : s4 = fI H wq (K.1.2 8 4)) (es5 : s5 = fI H wq (K.1.2 8 5)) (es10 : s10 = fI H wq (K.1.2 8 10)) (es13 : s13 = fI H wq (K.1.2 8 13)) (es16 : s16 = fI H wq (K.1.2 8 16)) : MX l K yX9_force cX9_force 3 (some .int) 1 22 0 0 [.ref a0, .int x1] H (AE G [0] H.size) (fun v H1 => ∃ (r : Int32) (t0 : Int32) (t1 : Int32) (t2 : Int32) (t3 : Int32) (t4 : Int32) (t5 : Int32), v = some (.int r) ∧ t0 = fI H1 wq (K.1.2 8 1) ∧ t1 = fI H1 wq (K.1.2 8 4) ∧ t2 = fI H1 wq (K.1.2 8 5) ∧ t3 = fI H1 wq (K.1.2 8 10) ∧ t4 = fI H1 wq (K.1.2 8 13) ∧ t5 = fI H1 wq (K.1.2 8 16) ∧ (((0 ≤ x1.toInt ∧ x1.toInt ≤ 1 ∧ r.toInt = s4.toInt ∧ t1.toInt = x1.toInt) ∨ ((x1.toInt < 0 ∨ 1 < x1.toInt) ∧ r.toInt = -1 ∧ t1.toInt = s4.toInt)) ∧ t0.toInt = s1.toInt ∧ t2.toInt = s5.toInt ∧ t3.toInt = s10.toInt ∧ t4.toInt = s13.toInt ∧ t5.toInt = s16.toInt) ∧ (NWF K H1 H wq) ∧ TY K G H1) := by
  refine MX.of (by decide +kernel) (Nat.le_of_ble_eq_true rfl) ?_
  intro p e s m below meth c ls Q C hH hl hQ
  subst hH
  have C : CX p K s m _ meth c RX9 cX9_force 3 (some .int) "force" := C
  obtain ⟨hx, hb, hml, hown, hts, hKT, hr, hlocks, hnm⟩ := id C
  have hl : lv_has ls 3 [(0, .ref a0), (1, .int x1)] := hl
  have hS : va_S (AE G [0] s.heap.size) s.heap s.heap [] := va_S.rf
  have n_m1 : ((-1) : Int32).toInt = -1 := rfl
  have n_0 : (0 : Int32).toInt = 0 := rfl
  have n_1 : (1 : Int32).toInt = 1 := rfl
  have bs1 := ty_fi (x := s1) (k := 1) es1 hT gwq rg_0 rfl
  have bs4 := ty_fi (x := s4) (k := 4) es4 hT gwq rg_0 rfl
  have bs5 := ty_fi (x := s5) (k := 5) es5 hT gwq rg_0 rfl
  have bs10 := ty_fi (x := s10) (k := 10) es10 hT gwq rg_0 rfl
  have bs13 := ty_fi (x := s13) (k := 13) es13 hT gwq rg_0 rfl
  have bs16 := ty_fi (x := s16) (k := 16) es16 hT gwq rg_0 rfl
  have hapW : ∀ x y, x < 17 → y < 17 → x ≠ y → K.1.2 8 x ≠ K.1.2 8 y := x_apart hKT hts inX8 tyX8 tyX8_ok nmX8 rfl
  have f0_nw : NWF K s.heap s.heap wq := NWF.rf
  refine lv_iload_n hx hb dX9_force_0 rfl (lv_at hl 1 rfl) ?_
  refine lv_iconst (v := 0) hx hb dX9_force_1 (by decide) ?_
  refine lv_iconst (v := 1) hx hb dX9_force_2 (by decide) ?_
  refine x_S (As := [.int x1, .int 0, .int 1]) (rest := []) C (c_X9_within l K G s.heap (x1) (0) (1) hT) yo_X9_within wM_X9_89 ⟨⟨by decide, by decide⟩, by decide, by decide⟩ rfl hl.1 rfl (Nat.le_of_ble_eq_true rfl) dX9_force_3 hS (AE_sub (fun _ _ => rfl) (by decide) hS.1) (fun vH181 H181 locsH181 pH181 zH181 kH181 hSH181 => ?_)
  have hqH181 := pH181.1.symm
  subst hqH181
  rcases pH181.2 with ⟨hvH181, hcH181⟩ | ⟨hvH181, hcH181⟩
  · subst hvH181
    refine W.eq (g2 := F0 m 6 ls [.int 1]) rfl ?_
    refine lv_if_ne (tgt := 11) hx hb dX9_force_6 (by decide) (fun c182 => ?_) (fun c182 => ?_)
    · have k183 := i_ne c182
      refine lv_aload_n hx hb dX9_force_11 rfl (lv_at hl 0 rfl) ?_
      refine x_gr C hT (ci := 9) (k := 0) rfl inX9 (by decide) wF_X9_12 ga0 rg_68 rfl dX9_force_12 (fun q184 eq184 gq184 => ?_)
      have uq184 : wq = q184 := (ewq).trans eq184.symm
      subst uq184
      refine x_gi C hT (ci := 8) (k := 4) rfl inX8 (by decide) wF_X9_147 gwq rg_0 rfl dX9_force_15 (fun x185 ex185 bx185 => ?_)
      have ux185 : s4 = x185 := (es4).trans ex185.symm
      subst ux185
      refine lv_istore_n (lv' := [(2, .int s4), (0, .ref a0), (1, .int x1)]) hx hb dX9_force_18 rfl hl (by decide) rfl (fun ls186 hl187 => ?_)
      refine lv_aload_n hx hb dX9_force_19 rfl (lv_at hl187 1 rfl) ?_
      refine x_gr C hT (ci := 9) (k := 0) rfl inX9 (by decide) wF_X9_12 ga0 rg_68 rfl dX9_force_20 (fun q188 eq188 gq188 => ?_)
      have uq188 : wq = q188 := (ewq).trans eq188.symm
      subst uq188
      refine lv_iload_n hx hb dX9_force_23 rfl (lv_at hl187 2 rfl) ?_
      refine x_put C hT hSH181 (ci := 8) (k := 4) (v := .int x1) (ty0 := tyX8) rfl inX8 tyX8_ok nmX8 (by decide) rfl wF_X9_147 gwq rg_0 rfl rfl (okI (by omega) (by omega)) rfl rfl (AE_in gwq (by decide)) dX9_force_24 (fun H189 locsH189 hTH189 hSH189 wH189 => ?_)
      have f190 : NWF K H189 s.heap wq := NWF.st f0_nw (fun k hk => Wr.neR wH189 (Or.inr (hapW k _ (by omega) (by decide) (by omega))))
      have m191 := ewq.trans (Wr.neR wH189 (Or.inl (G_ne ga0 gwq (by decide)))).symm
      have m192 := es1.trans (Wr.neI wH189 (Or.inr (x_apart hKT hts inX8 tyX8 tyX8_ok nmX8 rfl 1 4 (by decide) (by decide) (by decide)))).symm
      have m194 := es5.trans (Wr.neI wH189 (Or.inr (x_apart hKT hts inX8 tyX8 tyX8_ok nmX8 rfl 5 4 (by decide) (by decide) (by decide)))).symm
      have m195 := es10.trans (Wr.neI wH189 (Or.inr (x_apart hKT hts inX8 tyX8 tyX8_ok nmX8 rfl 10 4 (by decide) (by decide) (by decide)))).symm
      have m196 := es13.trans (Wr.neI wH189 (Or.inr (x_apart hKT hts inX8 tyX8 tyX8_ok nmX8 rfl 13 4 (by decide) (by decide) (by decide)))).symm
      have m197 := es16.trans (Wr.neI wH189 (Or.inr (x_apart hKT hts inX8 tyX8 tyX8_ok nmX8 rfl 16 4 (by decide) (by decide) (by decide)))).symm
      have m198 := Wr.I wH189
      have m198 := m198.symm
      refine lv_iload_n hx hb dX9_force_27 rfl (lv_at hl187 0 rfl) ?_
      exact x_iret C hQ dX9_force_28 hSH189 (by decide) (by decide) (⟨s4, s1, x1, s5, s10, s13, s16, rfl, m192, m198, m194, m195, m196, m197, by omega, f190, hTH189⟩)
    · have k183 := i_eq c182
      exfalso
      omega
  · subst hvH181
    refine W.eq (g2 := F0 m 6 ls [.int 0]) rfl ?_
    refine lv_if_ne (tgt := 11) hx hb dX9_force_6 (by decide) (fun c199 => ?_) (fun c199 => ?_)
    · have k200 := i_ne c199
      exfalso
      omega
    · have k200 := i_eq c199
      refine lv_iconst (v := (-1)) hx hb dX9_force_9 (by decide) ?_
      exact x_iret C hQ dX9_force_10 hSH181 (by decide) (by decide) (⟨(-1), s1, s4, s5, s10, s13, s16, rfl, es1, es4, es5, es10, es13, es16, by omega, f0_nw, hT⟩)

set_option maxHeartbeats 4000000 in
set_option maxRecDepth 100000 in
theorem a_X9_slack_w (l : Launch) (K : KE) (G : Nat → Option Nat) (H : Heap) {a0 : Nat} (x1 : Int32) {wq : Nat} (s1 : Int32) (s4 : Int32) (s5 : Int32) (s10 : Int32) (s13 : Int32) (s16 : Int32) (hT : TY K G H) (ga0 : G a0 = some 68) (gwq : G wq = some 0) (ewq : @Eq Ad wq (fR H a0 (K.1.2 9 0))) (es1 : s1 = fI H wq (K.1.2 8 1)) (es4 : s4 = fI H wq (K.1.2 8 4)) (es5 : s5 = fI H wq (K.1.2 8 5)) (es10 : s10 = fI H wq (K.1.2 8 10)) (es13 : s13 = fI H wq (K.1.2 8 13)) (es16 : s16 = fI H wq (K.1.2 8 16)) : MX l K yX9_slack cX9_slack 2 (some .boolean) 1 22 0 0 [.ref a0, .int x1] H (AE G [0] H.size) (fun v H1 => ∃ (r : Int32) (t0 : Int32) (t1 : Int32) (t2 : Int32) (t3 : Int32) (t4 : Int32) (t5 : Int32), v = some (.int r) ∧ t0 = fI H1 wq (K.1.2 8 1) ∧ t1 = fI H1 wq (K.1.2 8 4) ∧ t2 = fI H1 wq (K.1.2 8 5) ∧ t3 = fI H1 wq (K.1.2 8 10) ∧ t4 = fI H1 wq (K.1.2 8 13) ∧ t5 = fI H1 wq (K.1.2 8 16) ∧ (((0 ≤ x1.toInt ∧ x1.toInt ≤ 9999 ∧ r.toInt = 1 ∧ t2.toInt = x1.toInt) ∨ ((x1.toInt < 0 ∨ 9999 < x1.toInt) ∧ r.toInt = 0 ∧ t2.toInt = s5.toInt)) ∧ t0.toInt = s1.toInt ∧ t1.toInt = s4.toInt ∧ t3.toInt = s10.toInt ∧ t4.toInt = s13.toInt ∧ t5.toInt = s16.toInt) ∧ (NWF K H1 H wq) ∧ TY K G H1) := by
  refine MX.of (by decide +kernel) (Nat.le_of_ble_eq_true rfl) ?_
  intro p e s m below meth c ls Q C hH hl hQ
  subst hH
  have C : CX p K s m _ meth c RX9 cX9_slack 2 (some .boolean) "slack" := C
  obtain ⟨hx, hb, hml, hown, hts, hKT, hr, hlocks, hnm⟩ := id C
  have hl : lv_has ls 2 [(0, .ref a0), (1, .int x1)] := hl
  have hS : va_S (AE G [0] s.heap.size) s.heap s.heap [] := va_S.rf
  have n_0 : (0 : Int32).toInt = 0 := rfl
  have n_1 : (1 : Int32).toInt = 1 := rfl
  have n_9999 : (9999 : Int32).toInt = 9999 := rfl
  have bs1 := ty_fi (x := s1) (k := 1) es1 hT gwq rg_0 rfl
  have bs4 := ty_fi (x := s4) (k := 4) es4 hT gwq rg_0 rfl
  have bs5 := ty_fi (x := s5) (k := 5) es5 hT gwq rg_0 rfl
  have bs10 := ty_fi (x := s10) (k := 10) es10 hT gwq rg_0 rfl
  have bs13 := ty_fi (x := s13) (k := 13) es13 hT gwq rg_0 rfl
  have bs16 := ty_fi (x := s16) (k := 16) es16 hT gwq rg_0 rfl
  have hapW : ∀ x y, x < 17 → y < 17 → x ≠ y → K.1.2 8 x ≠ K.1.2 8 y := x_apart hKT hts inX8 tyX8 tyX8_ok nmX8 rfl
  have f0_nw : NWF K s.heap s.heap wq := NWF.rf
  refine lv_iload_n hx hb dX9_slack_0 rfl (lv_at hl 1 rfl) ?_
  refine lv_iconst (v := 0) hx hb dX9_slack_1 (by decide) ?_
  refine lv_sipush (v := 9999) hx hb dX9_slack_2 (by decide) ?_
  refine x_S (As := [.int x1, .int 0, .int 9999]) (rest := []) C (c_X9_within l K G s.heap (x1) (0) (9999) hT) yo_X9_within wM_X9_89 ⟨⟨by decide, by decide⟩, by decide, by decide⟩ rfl hl.1 rfl (Nat.le_of_ble_eq_true rfl) dX9_slack_5 hS (AE_sub (fun _ _ => rfl) (by decide) hS.1) (fun vH165 H165 locsH165 pH165 zH165 kH165 hSH165 => ?_)
  have hqH165 := pH165.1.symm
  subst hqH165
  rcases pH165.2 with ⟨hvH165, hcH165⟩ | ⟨hvH165, hcH165⟩
  · subst hvH165
    refine W.eq (g2 := F0 m 8 ls [.int 1]) rfl ?_
    refine lv_if_ne (tgt := 13) hx hb dX9_slack_8 (by decide) (fun c166 => ?_) (fun c166 => ?_)
    · have k167 := i_ne c166
      refine lv_aload_n hx hb dX9_slack_13 rfl (lv_at hl 0 rfl) ?_
      refine x_gr C hT (ci := 9) (k := 0) rfl inX9 (by decide) wF_X9_12 ga0 rg_68 rfl dX9_slack_14 (fun q168 eq168 gq168 => ?_)
      have uq168 : wq = q168 := (ewq).trans eq168.symm
      subst uq168
      refine lv_iload_n hx hb dX9_slack_17 rfl (lv_at hl 1 rfl) ?_
      refine x_put C hT hSH165 (ci := 8) (k := 5) (v := .int x1) (ty0 := tyX8) rfl inX8 tyX8_ok nmX8 (by decide) rfl wF_X9_184 gwq rg_0 rfl rfl (okI (i_rng x1).1 (i_rng x1).2) rfl rfl (AE_in gwq (by decide)) dX9_slack_18 (fun H169 locsH169 hTH169 hSH169 wH169 => ?_)
      have f170 : NWF K H169 s.heap wq := NWF.st f0_nw (fun k hk => Wr.neR wH169 (Or.inr (hapW k _ (by omega) (by decide) (by omega))))
      have m171 := ewq.trans (Wr.neR wH169 (Or.inl (G_ne ga0 gwq (by decide)))).symm
      have m172 := es1.trans (Wr.neI wH169 (Or.inr (x_apart hKT hts inX8 tyX8 tyX8_ok nmX8 rfl 1 5 (by decide) (by decide) (by decide)))).symm
      have m173 := es4.trans (Wr.neI wH169 (Or.inr (x_apart hKT hts inX8 tyX8 tyX8_ok nmX8 rfl 4 5 (by decide) (by decide) (by decide)))).symm
      have m175 := es10.trans (Wr.neI wH169 (Or.inr (x_apart hKT hts inX8 tyX8 tyX8_ok nmX8 rfl 10 5 (by decide) (by decide) (by decide)))).symm
      have m176 := es13.trans (Wr.neI wH169 (Or.inr (x_apart hKT hts inX8 tyX8 tyX8_ok nmX8 rfl 13 5 (by decide) (by decide) (by decide)))).symm
      have m177 := es16.trans (Wr.neI wH169 (Or.inr (x_apart hKT hts inX8 tyX8 tyX8_ok nmX8 rfl 16 5 (by decide) (by decide) (by decide)))).symm
      have m178 := Wr.I wH169
      have m178 := m178.symm
      refine lv_iconst (v := 1) hx hb dX9_slack_21 (by decide) ?_
      exact x_zret C hQ (Or.inr rfl) dX9_slack_22 hSH169 (by decide) (by decide) (⟨1, s1, s4, x1, s10, s13, s16, rfl, m172, m173, m178, m175, m176, m177, by omega, f170, hTH169⟩)
    · have k167 := i_eq c166
      exfalso
      omega
  · subst hvH165
    refine W.eq (g2 := F0 m 8 ls [.int 0]) rfl ?_
    refine lv_if_ne (tgt := 13) hx hb dX9_slack_8 (by decide) (fun c179 => ?_) (fun c179 => ?_)
    · have k180 := i_ne c179
      exfalso
      omega
    · have k180 := i_eq c179
      refine lv_iconst (v := 0) hx hb dX9_slack_11 (by decide) ?_
      exact x_zret C hQ (Or.inl rfl) dX9_slack_12 hSH165 (by decide) (by decide) (⟨0, s1, s4, s5, s10, s13, s16, rfl, es1, es4, es5, es10, es13, es16, by omega, f0_nw, hT⟩)

set_option maxHeartbeats 4000000 in
set_option maxRecDepth 100000 in
theorem a_X9_textAt_n (l : Launch) (K : KE) (G : Nat → Option Nat) (H : Heap) {a0 : Nat} (x1 x2 : Int32) (hT : TY K G H) (ga0 : G a0 = some 68) (hr : (x1.toInt ≠ 0 ∨ x2.toInt < 0 ∨ 2 ≤ x2.toInt) ∧ (x1.toInt ≠ 1 ∨ x2.toInt < 0 ∨ 4 ≤ x2.toInt)) : MX l K yX9_textAt cX9_textAt 3 (some (.object "RingBars$Text")) 1 22 0 0 [.ref a0, .int x1, .int x2] H (AE G [] H.size) (fun v H1 => H1 = H ∧ v = some .null) := by
  refine MX.of (by decide +kernel) (Nat.le_of_ble_eq_true rfl) ?_
  intro p e s m below meth c ls Q C hH hl hQ
  subst hH
  have C : CX p K s m _ meth c RX9 cX9_textAt 3 (some (.object "RingBars$Text")) "textAt" := C
  obtain ⟨hx, hb, hml, hown, hts, hKT, hr, hlocks, hnm⟩ := id C
  have hl : lv_has ls 3 [(0, .ref a0), (1, .int x1), (2, .int x2)] := hl
  have hS : va_S (AE G [] s.heap.size) s.heap s.heap [] := va_S.rf
  have n_0 : (0 : Int32).toInt = 0 := rfl
  have n_1 : (1 : Int32).toInt = 1 := rfl
  have n_3 : (3 : Int32).toInt = 3 := rfl
  refine lv_iload_n hx hb dX9_textAt_0 rfl (lv_at hl 1 rfl) ?_
  refine lv_if_ne (tgt := 23) hx hb dX9_textAt_1 (by decide) (fun c101 => ?_) (fun c101 => ?_)
  · have k102 := i_ne c101
    refine lv_iload_n hx hb dX9_textAt_23 rfl (lv_at hl 1 rfl) ?_
    refine lv_iconst (v := 1) hx hb dX9_textAt_24 (by decide) ?_
    refine lv_icmp_ne (tgt := 49) hx hb dX9_textAt_25 (by decide) (fun c103 => ?_) (fun c103 => ?_)
    · have k104 := i_ne c103
      refine lv_null hx hb dX9_textAt_49 ?_
      exact x_aret C hQ (Or.inl rfl) dX9_textAt_50 hS (by decide) (by decide) (⟨rfl, rfl⟩)
    · have k104 := i_eq c103
      refine lv_iload_n hx hb dX9_textAt_28 rfl (lv_at hl 2 rfl) ?_
      refine lv_iconst (v := 0) hx hb dX9_textAt_29 (by decide) ?_
      refine lv_iconst (v := 3) hx hb dX9_textAt_30 (by decide) ?_
      refine x_S (As := [.int x2, .int 0, .int 3]) (rest := []) C (a_X9_within_v l K G s.heap (x2) (0) (3) hT) yo_X9_within wM_X9_89 ⟨⟨by decide, by decide⟩, by decide, by decide⟩ rfl hl.1 rfl (Nat.le_of_ble_eq_true rfl) dX9_textAt_31 hS (AE_sub (fun _ _ => rfl) (by decide) hS.1) (fun vH105 H105 locsH105 pH105 zH105 kH105 hSH105 => ?_)
      have hqH105 := pH105.1.symm
      subst hqH105
      rcases pH105.2 with ⟨hvH105, hcH105⟩ | ⟨hvH105, hcH105⟩
      · subst hvH105
        refine W.eq (g2 := F0 m 34 ls [.int 1]) rfl ?_
        refine lv_if_eq (tgt := 49) hx hb dX9_textAt_34 (by decide) (fun c106 => ?_) (fun c106 => ?_)
        · have k107 := i_eq c106
          exfalso
          omega
        · have k107 := i_ne c106
          refine lv_aload_n hx hb dX9_textAt_37 rfl (lv_at hl 0 rfl) ?_
          refine x_gr C hT (ci := 9) (k := 0) rfl inX9 (by decide) wF_X9_12 ga0 rg_68 rfl dX9_textAt_38 (fun q108 eq108 gq108 => ?_)
          replace eq108 : @Eq Ad q108 (fR s.heap a0 (K.1.2 9 0)) := eq108
          refine x_gr C hT (ci := 8) (k := 3) rfl inX8 (by decide) wF_X9_220 gq108 rg_0 rfl dX9_textAt_41 (fun q109 eq109 gq109 => ?_)
          replace eq109 : @Eq Ad q109 (fR s.heap q108 (K.1.2 8 3)) := eq109
          refine lv_iload_n hx hb dX9_textAt_44 rfl (lv_at hl 2 rfl) ?_
          refine x_ar C hT rfl rfl gq109 rg_27 ⟨by omega, by show _ < ((4 : Nat) : Int); omega⟩ dX9_textAt_45 (fun q110 eq110 gq110 => ?_)
          replace eq110 : @Eq Ad q110 (fR s.heap q109 (x2 : Int32).toNatClampNeg) := eq110
          refine lv_goto (tgt := 50) hx hb dX9_textAt_46 (by decide) ?_
          exact x_aret C hQ (Or.inr ⟨_, rfl⟩) dX9_textAt_50 hSH105 (by decide) (by decide) ((by exfalso; omega))
      · subst hvH105
        refine W.eq (g2 := F0 m 34 ls [.int 0]) rfl ?_
        refine lv_if_eq (tgt := 49) hx hb dX9_textAt_34 (by decide) (fun c111 => ?_) (fun c111 => ?_)
        · have k112 := i_eq c111
          refine lv_null hx hb dX9_textAt_49 ?_
          exact x_aret C hQ (Or.inl rfl) dX9_textAt_50 hSH105 (by decide) (by decide) (⟨rfl, rfl⟩)
        · have k112 := i_ne c111
          exfalso
          omega
  · have k102 := i_eq c101
    refine lv_iload_n hx hb dX9_textAt_4 rfl (lv_at hl 2 rfl) ?_
    refine lv_iconst (v := 0) hx hb dX9_textAt_5 (by decide) ?_
    refine lv_iconst (v := 1) hx hb dX9_textAt_6 (by decide) ?_
    refine x_S (As := [.int x2, .int 0, .int 1]) (rest := []) C (a_X9_within_v l K G s.heap (x2) (0) (1) hT) yo_X9_within wM_X9_89 ⟨⟨by decide, by decide⟩, by decide, by decide⟩ rfl hl.1 rfl (Nat.le_of_ble_eq_true rfl) dX9_textAt_7 hS (AE_sub (fun _ _ => rfl) (by decide) hS.1) (fun vH113 H113 locsH113 pH113 zH113 kH113 hSH113 => ?_)
    have hqH113 := pH113.1.symm
    subst hqH113
    rcases pH113.2 with ⟨hvH113, hcH113⟩ | ⟨hvH113, hcH113⟩
    · subst hvH113
      refine W.eq (g2 := F0 m 10 ls [.int 1]) rfl ?_
      refine lv_if_eq (tgt := 23) hx hb dX9_textAt_10 (by decide) (fun c114 => ?_) (fun c114 => ?_)
      · have k115 := i_eq c114
        exfalso
        omega
      · have k115 := i_ne c114
        refine lv_aload_n hx hb dX9_textAt_13 rfl (lv_at hl 0 rfl) ?_
        refine x_gr C hT (ci := 9) (k := 0) rfl inX9 (by decide) wF_X9_12 ga0 rg_68 rfl dX9_textAt_14 (fun q116 eq116 gq116 => ?_)
        replace eq116 : @Eq Ad q116 (fR s.heap a0 (K.1.2 9 0)) := eq116
        refine x_gr C hT (ci := 8) (k := 2) rfl inX8 (by decide) wF_X9_158 gq116 rg_0 rfl dX9_textAt_17 (fun q117 eq117 gq117 => ?_)
        replace eq117 : @Eq Ad q117 (fR s.heap q116 (K.1.2 8 2)) := eq117
        refine lv_iload_n hx hb dX9_textAt_20 rfl (lv_at hl 2 rfl) ?_
        refine x_ar C hT rfl rfl gq117 rg_26 ⟨by omega, by show _ < ((2 : Nat) : Int); omega⟩ dX9_textAt_21 (fun q118 eq118 gq118 => ?_)
        replace eq118 : @Eq Ad q118 (fR s.heap q117 (x2 : Int32).toNatClampNeg) := eq118
        exact x_aret C hQ (Or.inr ⟨_, rfl⟩) dX9_textAt_22 hSH113 (by decide) (by decide) ((by exfalso; omega))
    · subst hvH113
      refine W.eq (g2 := F0 m 10 ls [.int 0]) rfl ?_
      refine lv_if_eq (tgt := 23) hx hb dX9_textAt_10 (by decide) (fun c119 => ?_) (fun c119 => ?_)
      · have k120 := i_eq c119
        refine lv_iload_n hx hb dX9_textAt_23 rfl (lv_at hl 1 rfl) ?_
        refine lv_iconst (v := 1) hx hb dX9_textAt_24 (by decide) ?_
        refine lv_icmp_ne (tgt := 49) hx hb dX9_textAt_25 (by decide) (fun c121 => ?_) (fun c121 => ?_)
        · have k122 := i_ne c121
          refine lv_null hx hb dX9_textAt_49 ?_
          exact x_aret C hQ (Or.inl rfl) dX9_textAt_50 hSH113 (by decide) (by decide) (⟨rfl, rfl⟩)
        · have k122 := i_eq c121
          exfalso
          omega
      · have k120 := i_ne c119
        exfalso
        omega

set_option maxHeartbeats 4000000 in
set_option maxRecDepth 100000 in
theorem a_X9_text_n (l : Launch) (K : KE) (G : Nat → Option Nat) (H : Heap) {a0 : Nat} (x1 : Int32) (x2 : Int32) {wq : Nat} {tq : Nat} (tp : Int32) (s1 : Int32) (s4 : Int32) (s5 : Int32) (s10 : Int32) (s13 : Int32) (s16 : Int32) {kv : Value} (hT : TY K G H) (ga0 : G a0 = some 68) (gwq : G wq = some 0) (ewq : @Eq Ad wq (fR H a0 (K.1.2 9 0))) (gtq : G tq = some 108) (etq : @Eq Ad tq (fR H a0 (K.1.2 9 2))) (etp : tp = fI H a0 (K.1.2 9 3)) (es1 : s1 = fI H wq (K.1.2 8 1)) (es4 : s4 = fI H wq (K.1.2 8 4)) (es5 : s5 = fI H wq (K.1.2 8 5)) (es10 : s10 = fI H wq (K.1.2 8 10)) (es13 : s13 = fI H wq (K.1.2 8 13)) (es16 : s16 = fI H wq (K.1.2 8 16)) (hp0 : (x1.toInt ≠ 0 ∨ x2.toInt < 0 ∨ 2 ≤ x2.toInt) ∧ (x1.toInt ≠ 1 ∨ x2.toInt < 0 ∨ 4 ≤ x2.toInt)) (hkv : fV H a0 (K.1.2 9 1) = kv) : MX l K yX9_text cX9_text 6 (some .int) 2 44 0 0 [.ref a0, .int x1, .int x2] H (AE G [68, 0] H.size) (fun v H1 => ∃ (r : Int32) (t0 : Int32), v = some (.int r) ∧ ((-1) ≤ r.toInt ∧ r.toInt ≤ (-1)) ∧ t0 = fI H1 a0 (K.1.2 9 3) ∧ (t0.toInt = 0) ∧ @Eq Ad wq (fR H1 a0 (K.1.2 9 0)) ∧ @Eq Ad tq (fR H1 a0 (K.1.2 9 2)) ∧ s1 = fI H1 wq (K.1.2 8 1) ∧ s4 = fI H1 wq (K.1.2 8 4) ∧ s5 = fI H1 wq (K.1.2 8 5) ∧ s10 = fI H1 wq (K.1.2 8 10) ∧ s13 = fI H1 wq (K.1.2 8 13) ∧ s16 = fI H1 wq (K.1.2 8 16) ∧ (NWF K H1 H wq) ∧ fV H1 a0 (K.1.2 9 1) = kv ∧ TY K G H1) := by
  refine MX.of (by decide +kernel) (Nat.le_of_ble_eq_true rfl) ?_
  intro p e s m below meth c ls Q C hH hl hQ
  subst hH
  have C : CX p K s m _ meth c RX9 cX9_text 6 (some .int) "text" := C
  obtain ⟨hx, hb, hml, hown, hts, hKT, hr, hlocks, hnm⟩ := id C
  have hl : lv_has ls 6 [(0, .ref a0), (1, .int x1), (2, .int x2)] := hl
  have hS : va_S (AE G [68, 0] s.heap.size) s.heap s.heap [] := va_S.rf
  have n_m1 : ((-1) : Int32).toInt = -1 := rfl
  have n_0 : (0 : Int32).toInt = 0 := rfl
  have btp := ty_fi (x := tp) (k := 3) etp hT ga0 rg_68 rfl
  have bs1 := ty_fi (x := s1) (k := 1) es1 hT gwq rg_0 rfl
  have bs4 := ty_fi (x := s4) (k := 4) es4 hT gwq rg_0 rfl
  have bs5 := ty_fi (x := s5) (k := 5) es5 hT gwq rg_0 rfl
  have bs10 := ty_fi (x := s10) (k := 10) es10 hT gwq rg_0 rfl
  have bs13 := ty_fi (x := s13) (k := 13) es13 hT gwq rg_0 rfl
  have bs16 := ty_fi (x := s16) (k := 16) es16 hT gwq rg_0 rfl
  have hapW : ∀ x y, x < 17 → y < 17 → x ≠ y → K.1.2 8 x ≠ K.1.2 8 y := x_apart hKT hts inX8 tyX8 tyX8_ok nmX8 rfl
  have f0_nw : NWF K s.heap s.heap wq := NWF.rf
  refine lv_aload_n hx hb dX9_text_0 rfl (lv_at hl 0 rfl) ?_
  refine x_gi C hT (ci := 9) (k := 3) rfl inX9 (by decide) wF_X9_105 ga0 rg_68 rfl dX9_text_1 (fun x293 ex293 bx293 => ?_)
  have ux293 : tp = x293 := (etp).trans ex293.symm
  subst ux293
  refine lv_istore_n (lv' := [(3, .int tp), (0, .ref a0), (1, .int x1), (2, .int x2)]) hx hb dX9_text_4 rfl hl (by decide) rfl (fun ls294 hl295 => ?_)
  refine lv_aload_n hx hb dX9_text_5 rfl (lv_at hl295 1 rfl) ?_
  refine lv_iconst (v := 0) hx hb dX9_text_6 (by decide) ?_
  refine x_put C hT hS (ci := 9) (k := 3) (v := .int 0) (ty0 := tyX9) rfl inX9 tyX9_ok nmX9 (by decide) rfl wF_X9_105 ga0 rg_68 rfl rfl (okI (by have := i_rng (0 : Int32); omega) (by have := i_rng (0 : Int32); omega)) rfl rfl (AE_in ga0 (by decide)) dX9_text_7 (fun H296 locsH296 hTH296 hSH296 wH296 => ?_)
  have f297 : NWF K H296 s.heap wq := NWF.st f0_nw (fun k hk => fR_kept (wH296.off (G_ne gwq ga0 (by decide))))
  have m298 := ewq.trans (Wr.neR wH296 (Or.inr (x_apart hKT hts inX9 tyX9 tyX9_ok nmX9 rfl 0 3 (by decide) (by decide) (by decide)))).symm
  have m299 := etq.trans (Wr.neR wH296 (Or.inr (x_apart hKT hts inX9 tyX9 tyX9_ok nmX9 rfl 2 3 (by decide) (by decide) (by decide)))).symm
  have m301 := es1.trans (Wr.neI wH296 (Or.inl (G_ne gwq ga0 (by decide)))).symm
  have m302 := es4.trans (Wr.neI wH296 (Or.inl (G_ne gwq ga0 (by decide)))).symm
  have m303 := es5.trans (Wr.neI wH296 (Or.inl (G_ne gwq ga0 (by decide)))).symm
  have m304 := es10.trans (Wr.neI wH296 (Or.inl (G_ne gwq ga0 (by decide)))).symm
  have m305 := es13.trans (Wr.neI wH296 (Or.inl (G_ne gwq ga0 (by decide)))).symm
  have m306 := es16.trans (Wr.neI wH296 (Or.inl (G_ne gwq ga0 (by decide)))).symm
  have m307 := (Wr.neV wH296 (Or.inr (x_apart hKT hts inX9 tyX9 tyX9_ok nmX9 rfl 1 3 (by decide) (by decide) (by decide)))).trans hkv
  have m308 := Wr.I wH296
  refine lv_aload_n hx hb dX9_text_10 rfl (lv_at hl295 1 rfl) ?_
  refine x_gr C hTH296 (ci := 9) (k := 0) rfl inX9 (by decide) wF_X9_12 ga0 rg_68 rfl dX9_text_11 (fun q309 eq309 gq309 => ?_)
  have uq309 : wq = q309 := (m298).trans eq309.symm
  subst uq309
  refine lv_iconst (v := 0) hx hb dX9_text_14 (by decide) ?_
  refine x_put C hTH296 hSH296 (ci := 8) (k := 6) (v := .int 0) (ty0 := tyX8) rfl inX8 tyX8_ok nmX8 (by decide) rfl wF_X9_111 gwq rg_0 rfl rfl (okI (i_rng (0 : Int32)).1 (i_rng (0 : Int32)).2) rfl rfl (AE_in gwq (by decide)) dX9_text_15 (fun H310 locsH310 hTH310 hSH310 wH310 => ?_)
  have f311 : NWF K H310 s.heap wq := NWF.st f297 (fun k hk => Wr.neR wH310 (Or.inr (hapW k _ (by omega) (by decide) (by omega))))
  have m312 := m298.trans (Wr.neR wH310 (Or.inl (G_ne ga0 gwq (by decide)))).symm
  have m313 := m299.trans (Wr.neR wH310 (Or.inl (G_ne ga0 gwq (by decide)))).symm
  have m314 := m301.trans (Wr.neI wH310 (Or.inr (x_apart hKT hts inX8 tyX8 tyX8_ok nmX8 rfl 1 6 (by decide) (by decide) (by decide)))).symm
  have m315 := m302.trans (Wr.neI wH310 (Or.inr (x_apart hKT hts inX8 tyX8 tyX8_ok nmX8 rfl 4 6 (by decide) (by decide) (by decide)))).symm
  have m316 := m303.trans (Wr.neI wH310 (Or.inr (x_apart hKT hts inX8 tyX8 tyX8_ok nmX8 rfl 5 6 (by decide) (by decide) (by decide)))).symm
  have m317 := m304.trans (Wr.neI wH310 (Or.inr (x_apart hKT hts inX8 tyX8 tyX8_ok nmX8 rfl 10 6 (by decide) (by decide) (by decide)))).symm
  have m318 := m305.trans (Wr.neI wH310 (Or.inr (x_apart hKT hts inX8 tyX8 tyX8_ok nmX8 rfl 13 6 (by decide) (by decide) (by decide)))).symm
  have m319 := m306.trans (Wr.neI wH310 (Or.inr (x_apart hKT hts inX8 tyX8 tyX8_ok nmX8 rfl 16 6 (by decide) (by decide) (by decide)))).symm
  have m320 := (Wr.neV wH310 (Or.inl (G_ne ga0 gwq (by decide)))).trans m307
  have m321 := (Wr.neI wH310 (Or.inl (G_ne ga0 gwq (by decide)))).trans m308
  have m322 := Wr.I wH310
  refine lv_aload_n hx hb dX9_text_18 rfl (lv_at hl295 1 rfl) ?_
  refine x_gr C hTH310 (ci := 9) (k := 0) rfl inX9 (by decide) wF_X9_12 ga0 rg_68 rfl dX9_text_19 (fun q323 eq323 gq323 => ?_)
  have uq323 : wq = q323 := (m312).trans eq323.symm
  subst uq323
  refine lv_iconst (v := (-1)) hx hb dX9_text_22 (by decide) ?_
  refine x_put C hTH310 hSH310 (ci := 8) (k := 7) (v := .int (-1)) (ty0 := tyX8) rfl inX8 tyX8_ok nmX8 (by decide) rfl wF_X9_114 gwq rg_0 rfl rfl (okI (i_rng ((-1) : Int32)).1 (i_rng ((-1) : Int32)).2) rfl rfl (AE_in gwq (by decide)) dX9_text_23 (fun H324 locsH324 hTH324 hSH324 wH324 => ?_)
  clear f297 m298 m299 m301 m302 m303 m304 m305 m306 m307 m308
  have f325 : NWF K H324 s.heap wq := NWF.st f311 (fun k hk => Wr.neR wH324 (Or.inr (hapW k _ (by omega) (by decide) (by omega))))
  have m326 := m312.trans (Wr.neR wH324 (Or.inl (G_ne ga0 gwq (by decide)))).symm
  have m327 := m313.trans (Wr.neR wH324 (Or.inl (G_ne ga0 gwq (by decide)))).symm
  have m328 := m314.trans (Wr.neI wH324 (Or.inr (x_apart hKT hts inX8 tyX8 tyX8_ok nmX8 rfl 1 7 (by decide) (by decide) (by decide)))).symm
  have m329 := m315.trans (Wr.neI wH324 (Or.inr (x_apart hKT hts inX8 tyX8 tyX8_ok nmX8 rfl 4 7 (by decide) (by decide) (by decide)))).symm
  have m330 := m316.trans (Wr.neI wH324 (Or.inr (x_apart hKT hts inX8 tyX8 tyX8_ok nmX8 rfl 5 7 (by decide) (by decide) (by decide)))).symm
  have m331 := m317.trans (Wr.neI wH324 (Or.inr (x_apart hKT hts inX8 tyX8 tyX8_ok nmX8 rfl 10 7 (by decide) (by decide) (by decide)))).symm
  have m332 := m318.trans (Wr.neI wH324 (Or.inr (x_apart hKT hts inX8 tyX8 tyX8_ok nmX8 rfl 13 7 (by decide) (by decide) (by decide)))).symm
  have m333 := m319.trans (Wr.neI wH324 (Or.inr (x_apart hKT hts inX8 tyX8 tyX8_ok nmX8 rfl 16 7 (by decide) (by decide) (by decide)))).symm
  have m334 := (Wr.neV wH324 (Or.inl (G_ne ga0 gwq (by decide)))).trans m320
  have m335 := (Wr.neI wH324 (Or.inl (G_ne ga0 gwq (by decide)))).trans m321
  have m336 := (Wr.neI wH324 (Or.inr (x_apart hKT hts inX8 tyX8 tyX8_ok nmX8 rfl 6 7 (by decide) (by decide) (by decide)))).trans m322
  have m337 := Wr.I wH324
  refine lv_aload_n hx hb dX9_text_26 rfl (lv_at hl295 1 rfl) ?_
  refine lv_iload_n hx hb dX9_text_27 rfl (lv_at hl295 2 rfl) ?_
  refine lv_iload_n hx hb dX9_text_28 rfl (lv_at hl295 3 rfl) ?_
  refine x_V (As := [.int x1, .int x2]) (rest := []) C (a_X9_textAt_n l K G H324 (x1) (x2) hTH324 ga0 (by omega)) yo_X9_textAt wM_X9_117 ⟨⟨by decide, by decide⟩, by decide, by decide⟩ (x_rv C hTH324 (ci := 9) rfl ga0 rg_68) rfl hl295.1 rfl (Nat.le_of_ble_eq_true rfl) dX9_text_29 hSH324 (AE_sub (fun _ _ => rfl) (by decide) hSH324.1) (fun vH338 H338 locsH338 pH338 zH338 kH338 hSH338 => ?_)
  have hqH338 := pH338.1.symm
  subst hqH338
  have hvH338 := pH338.2
  subst hvH338
  refine W.eq (g2 := F0 m 32 ls294 [.null]) rfl ?_
  refine lv_astoreN (lv' := [(4, .null), (3, .int tp), (0, .ref a0), (1, .int x1), (2, .int x2)]) hx hb dX9_text_32 hl295 (by decide) rfl (fun ls339 hl340 => ?_)
  refine lv_aloadN hx hb dX9_text_34 (lv_at hl340 0 rfl) ?_
  refine lv_ifnonnullN hx hb dX9_text_36 ?_
  refine lv_iconst (v := (-1)) hx hb dX9_text_39 (by decide) ?_
  exact x_iret C hQ dX9_text_40 hSH338 (by decide) (by decide) (⟨(-1), 0, rfl, by decide, (m335).symm, by omega, m326, m327, m328, m329, m330, m331, m332, m333, f325, m334, hTH324⟩)

set_option maxHeartbeats 4000000 in
set_option maxRecDepth 100000 in
theorem a_X10_text_n (l : Launch) (K : KE) (G : Nat → Option Nat) (H : Heap) {a0 : Nat} (x1 : Int32) (x2 : Int32) (tp : Int32) (hT : TY K G H) (ga0 : G a0 = some 112) (etp : tp = fI H a0 (K.1.2 10 18)) (hg_CG : CG (avw K H a0)) (hg_TU : TU (avw K H a0) (svw K H a0)) (hg_WD : WD (avw K H a0)) (hg_IM : IM (avw K H a0)) (hp0 : (x1.toInt ≠ 0 ∨ x2.toInt < 0 ∨ 2 ≤ x2.toInt) ∧ (x1.toInt ≠ 1 ∨ x2.toInt < 0 ∨ 4 ≤ x2.toInt)) : MX l K yX10_text cX10_text 7 (some .int) 3 65 0 0 [.ref a0, .int x1, .int x2] H (AE G [112] H.size) (fun v H1 => ∃ (r : Int32) (t0 : Int32), v = some (.int r) ∧ ((-1) ≤ r.toInt ∧ r.toInt ≤ (-1)) ∧ t0 = fI H1 a0 (K.1.2 10 18) ∧ (t0.toInt = 0) ∧ (CG (avw K H1 a0)) ∧ (TU (avw K H1 a0) (svw K H1 a0)) ∧ (WD (avw K H1 a0)) ∧ (IM (avw K H1 a0)) ∧ MF K H H1 a0 [0, 18, 19, 20, 21, 22, 34, 35, 36, 38, 39, 40, 41, 42] ∧ TY K G H1) := by
  refine MX.of (by decide +kernel) (Nat.le_of_ble_eq_true rfl) ?_
  intro p e s m below meth c ls Q C hH hl hQ
  subst hH
  have C : CX p K s m _ meth c RX10 cX10_text 7 (some .int) "text" := C
  obtain ⟨hx, hb, hml, hown, hts, hKT, hr, hlocks, hnm⟩ := id C
  have hl : lv_has ls 7 [(0, .ref a0), (1, .int x1), (2, .int x2)] := hl
  have hS : va_S (AE G [112] s.heap.size) s.heap s.heap [] := va_S.rf
  have n_m1 : ((-1) : Int32).toInt = -1 := rfl
  have n_0 : (0 : Int32).toInt = 0 := rfl
  have n_1 : (1 : Int32).toInt = 1 := rfl
  have n_3 : (3 : Int32).toInt = 3 := rfl
  have btp := ty_fi (x := tp) (k := 18) etp hT ga0 rg_112 rfl
  have hap : ∀ x y, x < 74 → y < 74 → x ≠ y → K.1.2 10 x ≠ K.1.2 10 y := x_apart hKT hts inX10 tyX10 tyX10_ok nmX10 rfl
  have mf0 : MF K s.heap s.heap a0 [0, 18, 19, 20, 21, 22, 34, 35, 36, 38, 39, 40, 41, 42] := fun _ _ _ => rfl
  refine lv_aload_n hx hb dX10_text_0 rfl (lv_at hl 0 rfl) ?_
  refine lv_iconst (v := 0) hx hb dX10_text_1 (by decide) ?_
  refine x_put C hT hS (ci := 10) (k := 0) (v := .int 0) (ty0 := tyX10) rfl inX10 tyX10_ok nmX10 (by decide) rfl wF_X10_167 ga0 rg_112 rfl rfl (okI (i_rng (0 : Int32)).1 (i_rng (0 : Int32)).2) rfl rfl (AE_in ga0 (by decide)) dX10_text_2 (fun H2001 locsH2001 hTH2001 hSH2001 wH2001 => ?_)
  have mf2002 : MF K s.heap H2001 a0 [0, 18, 19, 20, 21, 22, 34, 35, 36, 38, 39, 40, 41, 42] := MF.fld hap wH2001 (by decide) (by decide) mf0
  have g2003 : CG (avw K H2001 a0) := CG.congr (fun k hk j => av_fld hT ga0 hap wH2001 (by decide) (CG_ok 112 (by decide) k hk) (CG_ne 0 (by decide) k hk)) hg_CG
  have g2004 : TU (avw K H2001 a0) (svw K H2001 a0) := TU.congr (fun k hk j => av_fld hT ga0 hap wH2001 (by decide) (TU_ok 112 (by decide) k hk) (TU_ne 0 (by decide) k hk)) (fun k hk => sv_fld hap wH2001 (by decide) (TU_slt k hk) (TU_sne 0 (by decide) k hk)) hg_TU
  have g2005 : WD (avw K H2001 a0) := WD.congr (fun k hk j => av_fld hT ga0 hap wH2001 (by decide) (WD_ok 112 (by decide) k hk) (WD_ne 0 (by decide) k hk)) hg_WD
  have g2006 : IM (avw K H2001 a0) := IM.congr (fun k hk j => av_fld hT ga0 hap wH2001 (by decide) (IM_ok 112 (by decide) k hk) (IM_ne 0 (by decide) k hk)) hg_IM
  have m2007 := etp.trans (Wr.neI wH2001 (Or.inr (x_apart hKT hts inX10 tyX10 tyX10_ok nmX10 rfl 18 0 (by decide) (by decide) (by decide)))).symm
  have m2008 := Wr.I wH2001
  refine lv_aload_n hx hb dX10_text_5 rfl (lv_at hl 0 rfl) ?_
  refine lv_iconst (v := 0) hx hb dX10_text_6 (by decide) ?_
  refine x_put C hTH2001 hSH2001 (ci := 10) (k := 41) (v := .int 0) (ty0 := tyX10) rfl inX10 tyX10_ok nmX10 (by decide) rfl wF_X10_292 ga0 rg_112 rfl rfl (okI (i_rng (0 : Int32)).1 (i_rng (0 : Int32)).2) rfl rfl (AE_in ga0 (by decide)) dX10_text_7 (fun H2009 locsH2009 hTH2009 hSH2009 wH2009 => ?_)
  have mf2010 : MF K s.heap H2009 a0 [0, 18, 19, 20, 21, 22, 34, 35, 36, 38, 39, 40, 41, 42] := MF.fld hap wH2009 (by decide) (by decide) mf2002
  have g2011 : CG (avw K H2009 a0) := CG.congr (fun k hk j => av_fld hTH2001 ga0 hap wH2009 (by decide) (CG_ok 112 (by decide) k hk) (CG_ne 41 (by decide) k hk)) g2003
  have g2012 : TU (avw K H2009 a0) (svw K H2009 a0) := TU.congr (fun k hk j => av_fld hTH2001 ga0 hap wH2009 (by decide) (TU_ok 112 (by decide) k hk) (TU_ne 41 (by decide) k hk)) (fun k hk => sv_fld hap wH2009 (by decide) (TU_slt k hk) (TU_sne 41 (by decide) k hk)) g2004
  have g2013 : WD (avw K H2009 a0) := WD.congr (fun k hk j => av_fld hTH2001 ga0 hap wH2009 (by decide) (WD_ok 112 (by decide) k hk) (WD_ne 41 (by decide) k hk)) g2005
  have g2014 : IM (avw K H2009 a0) := IM.congr (fun k hk j => av_fld hTH2001 ga0 hap wH2009 (by decide) (IM_ok 112 (by decide) k hk) (IM_ne 41 (by decide) k hk)) g2006
  have m2015 := m2007.trans (Wr.neI wH2009 (Or.inr (x_apart hKT hts inX10 tyX10 tyX10_ok nmX10 rfl 18 41 (by decide) (by decide) (by decide)))).symm
  have m2016 := (Wr.neI wH2009 (Or.inr (x_apart hKT hts inX10 tyX10 tyX10_ok nmX10 rfl 0 41 (by decide) (by decide) (by decide)))).trans m2008
  have m2017 := Wr.I wH2009
  refine lv_aload_n hx hb dX10_text_10 rfl (lv_at hl 0 rfl) ?_
  refine lv_iconst (v := (-1)) hx hb dX10_text_11 (by decide) ?_
  refine x_put C hTH2009 hSH2009 (ci := 10) (k := 42) (v := .int (-1)) (ty0 := tyX10) rfl inX10 tyX10_ok nmX10 (by decide) rfl wF_X10_92 ga0 rg_112 rfl rfl (okI (i_rng ((-1) : Int32)).1 (i_rng ((-1) : Int32)).2) rfl rfl (AE_in ga0 (by decide)) dX10_text_12 (fun H2018 locsH2018 hTH2018 hSH2018 wH2018 => ?_)
  clear m2007 m2008
  have mf2019 : MF K s.heap H2018 a0 [0, 18, 19, 20, 21, 22, 34, 35, 36, 38, 39, 40, 41, 42] := MF.fld hap wH2018 (by decide) (by decide) mf2010
  have g2020 : CG (avw K H2018 a0) := CG.congr (fun k hk j => av_fld hTH2009 ga0 hap wH2018 (by decide) (CG_ok 112 (by decide) k hk) (CG_ne 42 (by decide) k hk)) g2011
  have g2021 : TU (avw K H2018 a0) (svw K H2018 a0) := TU.congr (fun k hk j => av_fld hTH2009 ga0 hap wH2018 (by decide) (TU_ok 112 (by decide) k hk) (TU_ne 42 (by decide) k hk)) (fun k hk => sv_fld hap wH2018 (by decide) (TU_slt k hk) (TU_sne 42 (by decide) k hk)) g2012
  have g2022 : WD (avw K H2018 a0) := WD.congr (fun k hk j => av_fld hTH2009 ga0 hap wH2018 (by decide) (WD_ok 112 (by decide) k hk) (WD_ne 42 (by decide) k hk)) g2013
  have g2023 : IM (avw K H2018 a0) := IM.congr (fun k hk j => av_fld hTH2009 ga0 hap wH2018 (by decide) (IM_ok 112 (by decide) k hk) (IM_ne 42 (by decide) k hk)) g2014
  have m2024 := m2015.trans (Wr.neI wH2018 (Or.inr (x_apart hKT hts inX10 tyX10 tyX10_ok nmX10 rfl 18 42 (by decide) (by decide) (by decide)))).symm
  have m2025 := (Wr.neI wH2018 (Or.inr (x_apart hKT hts inX10 tyX10 tyX10_ok nmX10 rfl 0 42 (by decide) (by decide) (by decide)))).trans m2016
  have m2026 := (Wr.neI wH2018 (Or.inr (x_apart hKT hts inX10 tyX10 tyX10_ok nmX10 rfl 41 42 (by decide) (by decide) (by decide)))).trans m2017
  have m2027 := Wr.I wH2018
  refine lv_iload_n hx hb dX10_text_15 rfl (lv_at hl 1 rfl) ?_
  refine lv_if_ne (tgt := 29) hx hb dX10_text_16 (by decide) (fun c2028 => ?_) (fun c2028 => ?_)
  · have k2029 := i_ne c2028
    refine lv_iload_n hx hb dX10_text_29 rfl (lv_at hl 1 rfl) ?_
    refine lv_iconst (v := 1) hx hb dX10_text_30 (by decide) ?_
    refine lv_icmp_ne (tgt := 48) hx hb dX10_text_31 (by decide) (fun c2030 => ?_) (fun c2030 => ?_)
    · have k2031 := i_ne c2030
      refine lv_iconst (v := 0) hx hb dX10_text_48 (by decide) ?_
      refine lv_istore_n (lv' := [(3, .int 0), (0, .ref a0), (1, .int x1), (2, .int x2)]) hx hb dX10_text_49 rfl hl (by decide) rfl (fun ls2032 hl2033 => ?_)
      refine lv_aload_n hx hb dX10_text_50 rfl (lv_at hl2033 1 rfl) ?_
      refine lv_iload_n hx hb dX10_text_51 rfl (lv_at hl2033 2 rfl) ?_
      refine lv_iconst (v := 1) hx hb dX10_text_52 (by decide) ?_
      refine lv_icmp_ne (tgt := 60) hx hb dX10_text_53 (by decide) (fun c2034 => ?_) (fun c2034 => ?_)
      · have k2035 := i_ne c2034
        refine lv_iconst (v := 0) hx hb dX10_text_60 (by decide) ?_
        refine x_put C hTH2018 hSH2018 (ci := 10) (k := 34) (v := .int 0) (ty0 := tyX10) rfl inX10 tyX10_ok nmX10 (by decide) rfl wF_X10_231 ga0 rg_112 rfl rfl (okI (by have := i_rng (0 : Int32); omega) (by have := i_rng (0 : Int32); omega)) rfl rfl (AE_in ga0 (by decide)) dX10_text_61 (fun H2036 locsH2036 hTH2036 hSH2036 wH2036 => ?_)
        clear m2015 m2016 m2017
        have mf2037 : MF K s.heap H2036 a0 [0, 18, 19, 20, 21, 22, 34, 35, 36, 38, 39, 40, 41, 42] := MF.fld hap wH2036 (by decide) (by decide) mf2019
        have g2038 : CG (avw K H2036 a0) := CG.congr (fun k hk j => av_fld hTH2018 ga0 hap wH2036 (by decide) (CG_ok 112 (by decide) k hk) (CG_ne 34 (by decide) k hk)) g2020
        have g2039 : TU (avw K H2036 a0) (svw K H2036 a0) := TU.congr (fun k hk j => av_fld hTH2018 ga0 hap wH2036 (by decide) (TU_ok 112 (by decide) k hk) (TU_ne 34 (by decide) k hk)) (fun k hk => sv_fld hap wH2036 (by decide) (TU_slt k hk) (TU_sne 34 (by decide) k hk)) g2021
        have g2040 : WD (avw K H2036 a0) := WD.congr (fun k hk j => av_fld hTH2018 ga0 hap wH2036 (by decide) (WD_ok 112 (by decide) k hk) (WD_ne 34 (by decide) k hk)) g2022
        have g2041 : IM (avw K H2036 a0) := IM.congr (fun k hk j => av_fld hTH2018 ga0 hap wH2036 (by decide) (IM_ok 112 (by decide) k hk) (IM_ne 34 (by decide) k hk)) g2023
        have m2042 := m2024.trans (Wr.neI wH2036 (Or.inr (x_apart hKT hts inX10 tyX10 tyX10_ok nmX10 rfl 18 34 (by decide) (by decide) (by decide)))).symm
        have m2043 := (Wr.neI wH2036 (Or.inr (x_apart hKT hts inX10 tyX10 tyX10_ok nmX10 rfl 0 34 (by decide) (by decide) (by decide)))).trans m2025
        have m2044 := (Wr.neI wH2036 (Or.inr (x_apart hKT hts inX10 tyX10 tyX10_ok nmX10 rfl 41 34 (by decide) (by decide) (by decide)))).trans m2026
        have m2045 := (Wr.neI wH2036 (Or.inr (x_apart hKT hts inX10 tyX10 tyX10_ok nmX10 rfl 42 34 (by decide) (by decide) (by decide)))).trans m2027
        have m2046 := Wr.I wH2036
        refine lv_aload_n hx hb dX10_text_64 rfl (lv_at hl2033 1 rfl) ?_
        refine lv_iconst (v := 0) hx hb dX10_text_65 (by decide) ?_
        refine x_put C hTH2036 hSH2036 (ci := 10) (k := 19) (v := .int 0) (ty0 := tyX10) rfl inX10 tyX10_ok nmX10 (by decide) rfl wF_X10_192 ga0 rg_112 rfl rfl (okI (by have := i_rng (0 : Int32); omega) (by have := i_rng (0 : Int32); omega)) rfl rfl (AE_in ga0 (by decide)) dX10_text_66 (fun H2047 locsH2047 hTH2047 hSH2047 wH2047 => ?_)
        clear m2024 m2025 m2026 m2027
        have mf2048 : MF K s.heap H2047 a0 [0, 18, 19, 20, 21, 22, 34, 35, 36, 38, 39, 40, 41, 42] := MF.fld hap wH2047 (by decide) (by decide) mf2037
        have g2049 : CG (avw K H2047 a0) := CG.congr (fun k hk j => av_fld hTH2036 ga0 hap wH2047 (by decide) (CG_ok 112 (by decide) k hk) (CG_ne 19 (by decide) k hk)) g2038
        have g2050 : TU (avw K H2047 a0) (svw K H2047 a0) := TU.congr (fun k hk j => av_fld hTH2036 ga0 hap wH2047 (by decide) (TU_ok 112 (by decide) k hk) (TU_ne 19 (by decide) k hk)) (fun k hk => sv_fld hap wH2047 (by decide) (TU_slt k hk) (TU_sne 19 (by decide) k hk)) g2039
        have g2051 : WD (avw K H2047 a0) := WD.congr (fun k hk j => av_fld hTH2036 ga0 hap wH2047 (by decide) (WD_ok 112 (by decide) k hk) (WD_ne 19 (by decide) k hk)) g2040
        have g2052 : IM (avw K H2047 a0) := IM.congr (fun k hk j => av_fld hTH2036 ga0 hap wH2047 (by decide) (IM_ok 112 (by decide) k hk) (IM_ne 19 (by decide) k hk)) g2041
        have m2053 := m2042.trans (Wr.neI wH2047 (Or.inr (x_apart hKT hts inX10 tyX10 tyX10_ok nmX10 rfl 18 19 (by decide) (by decide) (by decide)))).symm
        have m2054 := (Wr.neI wH2047 (Or.inr (x_apart hKT hts inX10 tyX10 tyX10_ok nmX10 rfl 0 19 (by decide) (by decide) (by decide)))).trans m2043
        have m2055 := (Wr.neI wH2047 (Or.inr (x_apart hKT hts inX10 tyX10 tyX10_ok nmX10 rfl 41 19 (by decide) (by decide) (by decide)))).trans m2044
        have m2056 := (Wr.neI wH2047 (Or.inr (x_apart hKT hts inX10 tyX10 tyX10_ok nmX10 rfl 42 19 (by decide) (by decide) (by decide)))).trans m2045
        have m2057 := (Wr.neI wH2047 (Or.inr (x_apart hKT hts inX10 tyX10 tyX10_ok nmX10 rfl 34 19 (by decide) (by decide) (by decide)))).trans m2046
        have m2058 := Wr.I wH2047
        refine lv_aload_n hx hb dX10_text_69 rfl (lv_at hl2033 1 rfl) ?_
        refine lv_iconst (v := 0) hx hb dX10_text_70 (by decide) ?_
        refine x_put C hTH2047 hSH2047 (ci := 10) (k := 35) (v := .int 0) (ty0 := tyX10) rfl inX10 tyX10_ok nmX10 (by decide) rfl wF_X10_228 ga0 rg_112 rfl rfl (okI (by have := i_rng (0 : Int32); omega) (by have := i_rng (0 : Int32); omega)) rfl rfl (AE_in ga0 (by decide)) dX10_text_71 (fun H2059 locsH2059 hTH2059 hSH2059 wH2059 => ?_)
        clear m2042 m2043 m2044 m2045 m2046
        have mf2060 : MF K s.heap H2059 a0 [0, 18, 19, 20, 21, 22, 34, 35, 36, 38, 39, 40, 41, 42] := MF.fld hap wH2059 (by decide) (by decide) mf2048
        have g2061 : CG (avw K H2059 a0) := CG.congr (fun k hk j => av_fld hTH2047 ga0 hap wH2059 (by decide) (CG_ok 112 (by decide) k hk) (CG_ne 35 (by decide) k hk)) g2049
        have g2062 : TU (avw K H2059 a0) (svw K H2059 a0) := TU.congr (fun k hk j => av_fld hTH2047 ga0 hap wH2059 (by decide) (TU_ok 112 (by decide) k hk) (TU_ne 35 (by decide) k hk)) (fun k hk => sv_fld hap wH2059 (by decide) (TU_slt k hk) (TU_sne 35 (by decide) k hk)) g2050
        have g2063 : WD (avw K H2059 a0) := WD.congr (fun k hk j => av_fld hTH2047 ga0 hap wH2059 (by decide) (WD_ok 112 (by decide) k hk) (WD_ne 35 (by decide) k hk)) g2051
        have g2064 : IM (avw K H2059 a0) := IM.congr (fun k hk j => av_fld hTH2047 ga0 hap wH2059 (by decide) (IM_ok 112 (by decide) k hk) (IM_ne 35 (by decide) k hk)) g2052
        have m2065 := m2053.trans (Wr.neI wH2059 (Or.inr (x_apart hKT hts inX10 tyX10 tyX10_ok nmX10 rfl 18 35 (by decide) (by decide) (by decide)))).symm
        have m2066 := (Wr.neI wH2059 (Or.inr (x_apart hKT hts inX10 tyX10 tyX10_ok nmX10 rfl 0 35 (by decide) (by decide) (by decide)))).trans m2054
        have m2067 := (Wr.neI wH2059 (Or.inr (x_apart hKT hts inX10 tyX10 tyX10_ok nmX10 rfl 41 35 (by decide) (by decide) (by decide)))).trans m2055
        have m2068 := (Wr.neI wH2059 (Or.inr (x_apart hKT hts inX10 tyX10 tyX10_ok nmX10 rfl 42 35 (by decide) (by decide) (by decide)))).trans m2056
        have m2069 := (Wr.neI wH2059 (Or.inr (x_apart hKT hts inX10 tyX10 tyX10_ok nmX10 rfl 34 35 (by decide) (by decide) (by decide)))).trans m2057
        have m2070 := (Wr.neI wH2059 (Or.inr (x_apart hKT hts inX10 tyX10 tyX10_ok nmX10 rfl 19 35 (by decide) (by decide) (by decide)))).trans m2058
        have m2071 := Wr.I wH2059
        refine lv_aload_n hx hb dX10_text_74 rfl (lv_at hl2033 1 rfl) ?_
        refine lv_iconst (v := 0) hx hb dX10_text_75 (by decide) ?_
        refine x_put C hTH2059 hSH2059 (ci := 10) (k := 36) (v := .int 0) (ty0 := tyX10) rfl inX10 tyX10_ok nmX10 (by decide) rfl wF_X10_261 ga0 rg_112 rfl rfl (okI (by have := i_rng (0 : Int32); omega) (by have := i_rng (0 : Int32); omega)) rfl rfl (AE_in ga0 (by decide)) dX10_text_76 (fun H2072 locsH2072 hTH2072 hSH2072 wH2072 => ?_)
        clear m2053 m2054 m2055 m2056 m2057 m2058
        have mf2073 : MF K s.heap H2072 a0 [0, 18, 19, 20, 21, 22, 34, 35, 36, 38, 39, 40, 41, 42] := MF.fld hap wH2072 (by decide) (by decide) mf2060
        have g2074 : CG (avw K H2072 a0) := CG.congr (fun k hk j => av_fld hTH2059 ga0 hap wH2072 (by decide) (CG_ok 112 (by decide) k hk) (CG_ne 36 (by decide) k hk)) g2061
        have g2075 : TU (avw K H2072 a0) (svw K H2072 a0) := TU.congr (fun k hk j => av_fld hTH2059 ga0 hap wH2072 (by decide) (TU_ok 112 (by decide) k hk) (TU_ne 36 (by decide) k hk)) (fun k hk => sv_fld hap wH2072 (by decide) (TU_slt k hk) (TU_sne 36 (by decide) k hk)) g2062
        have g2076 : WD (avw K H2072 a0) := WD.congr (fun k hk j => av_fld hTH2059 ga0 hap wH2072 (by decide) (WD_ok 112 (by decide) k hk) (WD_ne 36 (by decide) k hk)) g2063
        have g2077 : IM (avw K H2072 a0) := IM.congr (fun k hk j => av_fld hTH2059 ga0 hap wH2072 (by decide) (IM_ok 112 (by decide) k hk) (IM_ne 36 (by decide) k hk)) g2064
        have m2078 := m2065.trans (Wr.neI wH2072 (Or.inr (x_apart hKT hts inX10 tyX10 tyX10_ok nmX10 rfl 18 36 (by decide) (by decide) (by decide)))).symm
        have m2079 := (Wr.neI wH2072 (Or.inr (x_apart hKT hts inX10 tyX10 tyX10_ok nmX10 rfl 0 36 (by decide) (by decide) (by decide)))).trans m2066
        have m2080 := (Wr.neI wH2072 (Or.inr (x_apart hKT hts inX10 tyX10 tyX10_ok nmX10 rfl 41 36 (by decide) (by decide) (by decide)))).trans m2067
        have m2081 := (Wr.neI wH2072 (Or.inr (x_apart hKT hts inX10 tyX10 tyX10_ok nmX10 rfl 42 36 (by decide) (by decide) (by decide)))).trans m2068
        have m2082 := (Wr.neI wH2072 (Or.inr (x_apart hKT hts inX10 tyX10 tyX10_ok nmX10 rfl 34 36 (by decide) (by decide) (by decide)))).trans m2069
        have m2083 := (Wr.neI wH2072 (Or.inr (x_apart hKT hts inX10 tyX10 tyX10_ok nmX10 rfl 19 36 (by decide) (by decide) (by decide)))).trans m2070
        have m2084 := (Wr.neI wH2072 (Or.inr (x_apart hKT hts inX10 tyX10 tyX10_ok nmX10 rfl 35 36 (by decide) (by decide) (by decide)))).trans m2071
        have m2085 := Wr.I wH2072
        refine lv_aload_n hx hb dX10_text_79 rfl (lv_at hl2033 1 rfl) ?_
        obtain ⟨q2086, eq2086⟩ : ∃ z : Nat, @Eq Ad z (fR H2072 a0 (K.1.2 10 17)) := ⟨_, rfl⟩
        have gq2086 := ty_fr (q := q2086) (k := 17) (u := 126) eq2086 hTH2072 ga0 rg_112 rfl
        obtain ⟨x2087, ex2087⟩ : ∃ z : Int32, z = fI H2072 a0 (K.1.2 10 20) := ⟨_, rfl⟩
        have bx2087 := ty_fi (x := x2087) (k := 20) ex2087 hTH2072 ga0 rg_112 rfl
        obtain ⟨x2088, ex2088⟩ : ∃ z : Int32, z = fI H2072 a0 (K.1.2 10 21) := ⟨_, rfl⟩
        have bx2088 := ty_fi (x := x2088) (k := 21) ex2088 hTH2072 ga0 rg_112 rfl
        obtain ⟨x2089, ex2089⟩ : ∃ z : Int32, z = fI H2072 a0 (K.1.2 10 22) := ⟨_, rfl⟩
        have bx2089 := ty_fi (x := x2089) (k := 22) ex2089 hTH2072 ga0 rg_112 rfl
        refine x_V (As := []) (rest := []) C (a_X10_reads l K G H2072 (0) (x2087) (x2088) (x2089) (tp) hTH2072 ga0 gq2086 eq2086 (m2083).symm ex2087 ex2088 ex2089 m2078 g2074 g2075 g2076 g2077 (by omega)) yo_X10_reads wM_X10_242 ⟨⟨by decide, by decide⟩, by decide, by decide⟩ (x_rv C hTH2072 (ci := 10) rfl ga0 rg_112) rfl hl2033.1 rfl (Nat.le_of_ble_eq_true rfl) dX10_text_80 hSH2072 (AE_sub (fun _ _ => rfl) (by decide) hSH2072.1) (fun vH2090 H2090 locsH2090 pH2090 zH2090 kH2090 hSH2090 => ?_)
        obtain ⟨x2091, x2092, x2093, x2094, hvH2090, ex2091, ex2092, ex2093, ex2094, hrH2090, m2095, g2096, g2097, g2098, g2099, mf2100, hTH2090⟩ := pH2090
        subst hvH2090
        clear m2065 m2066 m2067 m2068 m2069 m2070 m2071
        have m2101 := (m2078).trans (MF.i mf2100 (k := 18) (by decide) (by decide)).symm
        have m2102 := (MF.i mf2100 (k := 0) (by decide) (by decide)).trans m2079
        have m2103 := (MF.i mf2100 (k := 41) (by decide) (by decide)).trans m2080
        have m2104 := (MF.i mf2100 (k := 42) (by decide) (by decide)).trans m2081
        have m2105 := (MF.i mf2100 (k := 34) (by decide) (by decide)).trans m2082
        have m2106 := (MF.i mf2100 (k := 35) (by decide) (by decide)).trans m2084
        have m2107 := (MF.i mf2100 (k := 36) (by decide) (by decide)).trans m2085
        have m2108 := (eq2086).trans (MF.r mf2100 (k := 17) (by decide) (by decide)).symm
        have mf2109 : MF K s.heap H2090 a0 [0, 18, 19, 20, 21, 22, 34, 35, 36, 38, 39, 40, 41, 42] := MF.trans mf2073 mf2100 (by decide)
        have bx2091 := ty_fi (x := x2091) (k := 19) ex2091 hTH2090 ga0 rg_112 rfl
        have bx2092 := ty_fi (x := x2092) (k := 20) ex2092 hTH2090 ga0 rg_112 rfl
        have bx2093 := ty_fi (x := x2093) (k := 21) ex2093 hTH2090 ga0 rg_112 rfl
        have bx2094 := ty_fi (x := x2094) (k := 22) ex2094 hTH2090 ga0 rg_112 rfl
        refine W.eq (g2 := F0 m 83 ls2032 []) rfl ?_
        refine lv_iload_n hx hb dX10_text_83 rfl (lv_at hl2033 0 rfl) ?_
        refine lv_if_eq (tgt := 94) hx hb dX10_text_84 (by decide) (fun c2110 => ?_) (fun c2110 => ?_)
        · have k2111 := i_eq c2110
          refine lv_iconst (v := (-1)) hx hb dX10_text_94 (by decide) ?_
          refine lv_istore (lv' := [(4, .int (-1)), (3, .int 0), (0, .ref a0), (1, .int x1), (2, .int x2)]) hx hb dX10_text_95 hl2033 (by decide) rfl (fun ls2112 hl2113 => ?_)
          refine lv_aload_n hx hb dX10_text_97 rfl (lv_at hl2113 2 rfl) ?_
          refine lv_iconst (v := 0) hx hb dX10_text_98 (by decide) ?_
          refine x_put C hTH2090 hSH2090 (ci := 10) (k := 18) (v := .int 0) (ty0 := tyX10) rfl inX10 tyX10_ok nmX10 (by decide) rfl wF_X10_185 ga0 rg_112 rfl rfl (okI (by have := i_rng (0 : Int32); omega) (by have := i_rng (0 : Int32); omega)) rfl rfl (AE_in ga0 (by decide)) dX10_text_99 (fun H2114 locsH2114 hTH2114 hSH2114 wH2114 => ?_)
          clear m2078 m2079 m2080 m2081 m2082 m2083 m2084 m2085
          have mf2115 : MF K s.heap H2114 a0 [0, 18, 19, 20, 21, 22, 34, 35, 36, 38, 39, 40, 41, 42] := MF.fld hap wH2114 (by decide) (by decide) mf2109
          have g2116 : CG (avw K H2114 a0) := CG.congr (fun k hk j => av_fld hTH2090 ga0 hap wH2114 (by decide) (CG_ok 112 (by decide) k hk) (CG_ne 18 (by decide) k hk)) g2096
          have g2117 : TU (avw K H2114 a0) (svw K H2114 a0) := TU.congr (fun k hk j => av_fld hTH2090 ga0 hap wH2114 (by decide) (TU_ok 112 (by decide) k hk) (TU_ne 18 (by decide) k hk)) (fun k hk => sv_fld hap wH2114 (by decide) (TU_slt k hk) (TU_sne 18 (by decide) k hk)) g2097
          have g2118 : WD (avw K H2114 a0) := WD.congr (fun k hk j => av_fld hTH2090 ga0 hap wH2114 (by decide) (WD_ok 112 (by decide) k hk) (WD_ne 18 (by decide) k hk)) g2098
          have g2119 : IM (avw K H2114 a0) := IM.congr (fun k hk j => av_fld hTH2090 ga0 hap wH2114 (by decide) (IM_ok 112 (by decide) k hk) (IM_ne 18 (by decide) k hk)) g2099
          have m2121 := (Wr.neI wH2114 (Or.inr (x_apart hKT hts inX10 tyX10 tyX10_ok nmX10 rfl 0 18 (by decide) (by decide) (by decide)))).trans m2102
          have m2122 := (Wr.neI wH2114 (Or.inr (x_apart hKT hts inX10 tyX10 tyX10_ok nmX10 rfl 41 18 (by decide) (by decide) (by decide)))).trans m2103
          have m2123 := (Wr.neI wH2114 (Or.inr (x_apart hKT hts inX10 tyX10 tyX10_ok nmX10 rfl 42 18 (by decide) (by decide) (by decide)))).trans m2104
          have m2124 := (Wr.neI wH2114 (Or.inr (x_apart hKT hts inX10 tyX10 tyX10_ok nmX10 rfl 34 18 (by decide) (by decide) (by decide)))).trans m2105
          have m2125 := (Wr.neI wH2114 (Or.inr (x_apart hKT hts inX10 tyX10 tyX10_ok nmX10 rfl 35 18 (by decide) (by decide) (by decide)))).trans m2106
          have m2126 := (Wr.neI wH2114 (Or.inr (x_apart hKT hts inX10 tyX10 tyX10_ok nmX10 rfl 36 18 (by decide) (by decide) (by decide)))).trans m2107
          have m2127 := m2095.trans (Wr.neR wH2114 (Or.inr (x_apart hKT hts inX10 tyX10 tyX10_ok nmX10 rfl 17 18 (by decide) (by decide) (by decide)))).symm
          have m2128 := ex2091.trans (Wr.neI wH2114 (Or.inr (x_apart hKT hts inX10 tyX10 tyX10_ok nmX10 rfl 19 18 (by decide) (by decide) (by decide)))).symm
          have m2129 := ex2092.trans (Wr.neI wH2114 (Or.inr (x_apart hKT hts inX10 tyX10 tyX10_ok nmX10 rfl 20 18 (by decide) (by decide) (by decide)))).symm
          have m2130 := ex2093.trans (Wr.neI wH2114 (Or.inr (x_apart hKT hts inX10 tyX10 tyX10_ok nmX10 rfl 21 18 (by decide) (by decide) (by decide)))).symm
          have m2131 := ex2094.trans (Wr.neI wH2114 (Or.inr (x_apart hKT hts inX10 tyX10 tyX10_ok nmX10 rfl 22 18 (by decide) (by decide) (by decide)))).symm
          have m2132 := Wr.I wH2114
          refine lv_iload_n hx hb dX10_text_102 rfl (lv_at hl2113 1 rfl) ?_
          refine lv_if_eq (tgt := 128) hx hb dX10_text_103 (by decide) (fun c2133 => ?_) (fun c2133 => ?_)
          · have k2134 := i_eq c2133
            refine lv_iload hx hb dX10_text_128 (lv_at hl2113 0 rfl) ?_
            refine lv_iconst (v := (-1)) hx hb dX10_text_130 (by decide) ?_
            refine lv_icmp_ne (tgt := 136) hx hb dX10_text_131 (by decide) (fun c2135 => ?_) (fun c2135 => ?_)
            · have k2136 := i_ne c2135
              exfalso
              omega
            · have k2136 := i_eq c2135
              refine lv_iconst (v := (-1)) hx hb dX10_text_134 (by decide) ?_
              exact x_iret C hQ dX10_text_135 hSH2114 (by decide) (by decide) (⟨(-1), 0, rfl, by decide, (m2132).symm, by omega, g2116, g2117, g2118, g2119, mf2115, hTH2114⟩)
          · have k2134 := i_ne c2133
            exfalso
            omega
        · have k2111 := i_ne c2110
          exfalso
          omega
      · have k2035 := i_eq c2034
        refine lv_iconst (v := 1) hx hb dX10_text_56 (by decide) ?_
        refine lv_goto (tgt := 61) hx hb dX10_text_57 (by decide) ?_
        refine x_put C hTH2018 hSH2018 (ci := 10) (k := 34) (v := .int 1) (ty0 := tyX10) rfl inX10 tyX10_ok nmX10 (by decide) rfl wF_X10_231 ga0 rg_112 rfl rfl (okI (by have := i_rng (1 : Int32); omega) (by have := i_rng (1 : Int32); omega)) rfl rfl (AE_in ga0 (by decide)) dX10_text_61 (fun H2137 locsH2137 hTH2137 hSH2137 wH2137 => ?_)
        clear m2015 m2016 m2017
        have mf2138 : MF K s.heap H2137 a0 [0, 18, 19, 20, 21, 22, 34, 35, 36, 38, 39, 40, 41, 42] := MF.fld hap wH2137 (by decide) (by decide) mf2019
        have g2139 : CG (avw K H2137 a0) := CG.congr (fun k hk j => av_fld hTH2018 ga0 hap wH2137 (by decide) (CG_ok 112 (by decide) k hk) (CG_ne 34 (by decide) k hk)) g2020
        have g2140 : TU (avw K H2137 a0) (svw K H2137 a0) := TU.congr (fun k hk j => av_fld hTH2018 ga0 hap wH2137 (by decide) (TU_ok 112 (by decide) k hk) (TU_ne 34 (by decide) k hk)) (fun k hk => sv_fld hap wH2137 (by decide) (TU_slt k hk) (TU_sne 34 (by decide) k hk)) g2021
        have g2141 : WD (avw K H2137 a0) := WD.congr (fun k hk j => av_fld hTH2018 ga0 hap wH2137 (by decide) (WD_ok 112 (by decide) k hk) (WD_ne 34 (by decide) k hk)) g2022
        have g2142 : IM (avw K H2137 a0) := IM.congr (fun k hk j => av_fld hTH2018 ga0 hap wH2137 (by decide) (IM_ok 112 (by decide) k hk) (IM_ne 34 (by decide) k hk)) g2023
        have m2143 := m2024.trans (Wr.neI wH2137 (Or.inr (x_apart hKT hts inX10 tyX10 tyX10_ok nmX10 rfl 18 34 (by decide) (by decide) (by decide)))).symm
        have m2144 := (Wr.neI wH2137 (Or.inr (x_apart hKT hts inX10 tyX10 tyX10_ok nmX10 rfl 0 34 (by decide) (by decide) (by decide)))).trans m2025
        have m2145 := (Wr.neI wH2137 (Or.inr (x_apart hKT hts inX10 tyX10 tyX10_ok nmX10 rfl 41 34 (by decide) (by decide) (by decide)))).trans m2026
        have m2146 := (Wr.neI wH2137 (Or.inr (x_apart hKT hts inX10 tyX10 tyX10_ok nmX10 rfl 42 34 (by decide) (by decide) (by decide)))).trans m2027
        have m2147 := Wr.I wH2137
        refine lv_aload_n hx hb dX10_text_64 rfl (lv_at hl2033 1 rfl) ?_
        refine lv_iconst (v := 0) hx hb dX10_text_65 (by decide) ?_
        refine x_put C hTH2137 hSH2137 (ci := 10) (k := 19) (v := .int 0) (ty0 := tyX10) rfl inX10 tyX10_ok nmX10 (by decide) rfl wF_X10_192 ga0 rg_112 rfl rfl (okI (by have := i_rng (0 : Int32); omega) (by have := i_rng (0 : Int32); omega)) rfl rfl (AE_in ga0 (by decide)) dX10_text_66 (fun H2148 locsH2148 hTH2148 hSH2148 wH2148 => ?_)
        clear m2024 m2025 m2026 m2027
        have mf2149 : MF K s.heap H2148 a0 [0, 18, 19, 20, 21, 22, 34, 35, 36, 38, 39, 40, 41, 42] := MF.fld hap wH2148 (by decide) (by decide) mf2138
        have g2150 : CG (avw K H2148 a0) := CG.congr (fun k hk j => av_fld hTH2137 ga0 hap wH2148 (by decide) (CG_ok 112 (by decide) k hk) (CG_ne 19 (by decide) k hk)) g2139
        have g2151 : TU (avw K H2148 a0) (svw K H2148 a0) := TU.congr (fun k hk j => av_fld hTH2137 ga0 hap wH2148 (by decide) (TU_ok 112 (by decide) k hk) (TU_ne 19 (by decide) k hk)) (fun k hk => sv_fld hap wH2148 (by decide) (TU_slt k hk) (TU_sne 19 (by decide) k hk)) g2140
        have g2152 : WD (avw K H2148 a0) := WD.congr (fun k hk j => av_fld hTH2137 ga0 hap wH2148 (by decide) (WD_ok 112 (by decide) k hk) (WD_ne 19 (by decide) k hk)) g2141
        have g2153 : IM (avw K H2148 a0) := IM.congr (fun k hk j => av_fld hTH2137 ga0 hap wH2148 (by decide) (IM_ok 112 (by decide) k hk) (IM_ne 19 (by decide) k hk)) g2142
        have m2154 := m2143.trans (Wr.neI wH2148 (Or.inr (x_apart hKT hts inX10 tyX10 tyX10_ok nmX10 rfl 18 19 (by decide) (by decide) (by decide)))).symm
        have m2155 := (Wr.neI wH2148 (Or.inr (x_apart hKT hts inX10 tyX10 tyX10_ok nmX10 rfl 0 19 (by decide) (by decide) (by decide)))).trans m2144
        have m2156 := (Wr.neI wH2148 (Or.inr (x_apart hKT hts inX10 tyX10 tyX10_ok nmX10 rfl 41 19 (by decide) (by decide) (by decide)))).trans m2145
        have m2157 := (Wr.neI wH2148 (Or.inr (x_apart hKT hts inX10 tyX10 tyX10_ok nmX10 rfl 42 19 (by decide) (by decide) (by decide)))).trans m2146
        have m2158 := (Wr.neI wH2148 (Or.inr (x_apart hKT hts inX10 tyX10 tyX10_ok nmX10 rfl 34 19 (by decide) (by decide) (by decide)))).trans m2147
        have m2159 := Wr.I wH2148
        refine lv_aload_n hx hb dX10_text_69 rfl (lv_at hl2033 1 rfl) ?_
        refine lv_iconst (v := 0) hx hb dX10_text_70 (by decide) ?_
        refine x_put C hTH2148 hSH2148 (ci := 10) (k := 35) (v := .int 0) (ty0 := tyX10) rfl inX10 tyX10_ok nmX10 (by decide) rfl wF_X10_228 ga0 rg_112 rfl rfl (okI (by have := i_rng (0 : Int32); omega) (by have := i_rng (0 : Int32); omega)) rfl rfl (AE_in ga0 (by decide)) dX10_text_71 (fun H2160 locsH2160 hTH2160 hSH2160 wH2160 => ?_)
        clear m2143 m2144 m2145 m2146 m2147
        have mf2161 : MF K s.heap H2160 a0 [0, 18, 19, 20, 21, 22, 34, 35, 36, 38, 39, 40, 41, 42] := MF.fld hap wH2160 (by decide) (by decide) mf2149
        have g2162 : CG (avw K H2160 a0) := CG.congr (fun k hk j => av_fld hTH2148 ga0 hap wH2160 (by decide) (CG_ok 112 (by decide) k hk) (CG_ne 35 (by decide) k hk)) g2150
        have g2163 : TU (avw K H2160 a0) (svw K H2160 a0) := TU.congr (fun k hk j => av_fld hTH2148 ga0 hap wH2160 (by decide) (TU_ok 112 (by decide) k hk) (TU_ne 35 (by decide) k hk)) (fun k hk => sv_fld hap wH2160 (by decide) (TU_slt k hk) (TU_sne 35 (by decide) k hk)) g2151
        have g2164 : WD (avw K H2160 a0) := WD.congr (fun k hk j => av_fld hTH2148 ga0 hap wH2160 (by decide) (WD_ok 112 (by decide) k hk) (WD_ne 35 (by decide) k hk)) g2152
        have g2165 : IM (avw K H2160 a0) := IM.congr (fun k hk j => av_fld hTH2148 ga0 hap wH2160 (by decide) (IM_ok 112 (by decide) k hk) (IM_ne 35 (by decide) k hk)) g2153
        have m2166 := m2154.trans (Wr.neI wH2160 (Or.inr (x_apart hKT hts inX10 tyX10 tyX10_ok nmX10 rfl 18 35 (by decide) (by decide) (by decide)))).symm
        have m2167 := (Wr.neI wH2160 (Or.inr (x_apart hKT hts inX10 tyX10 tyX10_ok nmX10 rfl 0 35 (by decide) (by decide) (by decide)))).trans m2155
        have m2168 := (Wr.neI wH2160 (Or.inr (x_apart hKT hts inX10 tyX10 tyX10_ok nmX10 rfl 41 35 (by decide) (by decide) (by decide)))).trans m2156
        have m2169 := (Wr.neI wH2160 (Or.inr (x_apart hKT hts inX10 tyX10 tyX10_ok nmX10 rfl 42 35 (by decide) (by decide) (by decide)))).trans m2157
        have m2170 := (Wr.neI wH2160 (Or.inr (x_apart hKT hts inX10 tyX10 tyX10_ok nmX10 rfl 34 35 (by decide) (by decide) (by decide)))).trans m2158
        have m2171 := (Wr.neI wH2160 (Or.inr (x_apart hKT hts inX10 tyX10 tyX10_ok nmX10 rfl 19 35 (by decide) (by decide) (by decide)))).trans m2159
        have m2172 := Wr.I wH2160
        refine lv_aload_n hx hb dX10_text_74 rfl (lv_at hl2033 1 rfl) ?_
        refine lv_iconst (v := 0) hx hb dX10_text_75 (by decide) ?_
        refine x_put C hTH2160 hSH2160 (ci := 10) (k := 36) (v := .int 0) (ty0 := tyX10) rfl inX10 tyX10_ok nmX10 (by decide) rfl wF_X10_261 ga0 rg_112 rfl rfl (okI (by have := i_rng (0 : Int32); omega) (by have := i_rng (0 : Int32); omega)) rfl rfl (AE_in ga0 (by decide)) dX10_text_76 (fun H2173 locsH2173 hTH2173 hSH2173 wH2173 => ?_)
        clear m2154 m2155 m2156 m2157 m2158 m2159
        have mf2174 : MF K s.heap H2173 a0 [0, 18, 19, 20, 21, 22, 34, 35, 36, 38, 39, 40, 41, 42] := MF.fld hap wH2173 (by decide) (by decide) mf2161
        have g2175 : CG (avw K H2173 a0) := CG.congr (fun k hk j => av_fld hTH2160 ga0 hap wH2173 (by decide) (CG_ok 112 (by decide) k hk) (CG_ne 36 (by decide) k hk)) g2162
        have g2176 : TU (avw K H2173 a0) (svw K H2173 a0) := TU.congr (fun k hk j => av_fld hTH2160 ga0 hap wH2173 (by decide) (TU_ok 112 (by decide) k hk) (TU_ne 36 (by decide) k hk)) (fun k hk => sv_fld hap wH2173 (by decide) (TU_slt k hk) (TU_sne 36 (by decide) k hk)) g2163
        have g2177 : WD (avw K H2173 a0) := WD.congr (fun k hk j => av_fld hTH2160 ga0 hap wH2173 (by decide) (WD_ok 112 (by decide) k hk) (WD_ne 36 (by decide) k hk)) g2164
        have g2178 : IM (avw K H2173 a0) := IM.congr (fun k hk j => av_fld hTH2160 ga0 hap wH2173 (by decide) (IM_ok 112 (by decide) k hk) (IM_ne 36 (by decide) k hk)) g2165
        have m2179 := m2166.trans (Wr.neI wH2173 (Or.inr (x_apart hKT hts inX10 tyX10 tyX10_ok nmX10 rfl 18 36 (by decide) (by decide) (by decide)))).symm
        have m2180 := (Wr.neI wH2173 (Or.inr (x_apart hKT hts inX10 tyX10 tyX10_ok nmX10 rfl 0 36 (by decide) (by decide) (by decide)))).trans m2167
        have m2181 := (Wr.neI wH2173 (Or.inr (x_apart hKT hts inX10 tyX10 tyX10_ok nmX10 rfl 41 36 (by decide) (by decide) (by decide)))).trans m2168
        have m2182 := (Wr.neI wH2173 (Or.inr (x_apart hKT hts inX10 tyX10 tyX10_ok nmX10 rfl 42 36 (by decide) (by decide) (by decide)))).trans m2169
        have m2183 := (Wr.neI wH2173 (Or.inr (x_apart hKT hts inX10 tyX10 tyX10_ok nmX10 rfl 34 36 (by decide) (by decide) (by decide)))).trans m2170
        have m2184 := (Wr.neI wH2173 (Or.inr (x_apart hKT hts inX10 tyX10 tyX10_ok nmX10 rfl 19 36 (by decide) (by decide) (by decide)))).trans m2171
        have m2185 := (Wr.neI wH2173 (Or.inr (x_apart hKT hts inX10 tyX10 tyX10_ok nmX10 rfl 35 36 (by decide) (by decide) (by decide)))).trans m2172
        have m2186 := Wr.I wH2173
        refine lv_aload_n hx hb dX10_text_79 rfl (lv_at hl2033 1 rfl) ?_
        obtain ⟨q2187, eq2187⟩ : ∃ z : Nat, @Eq Ad z (fR H2173 a0 (K.1.2 10 17)) := ⟨_, rfl⟩
        have gq2187 := ty_fr (q := q2187) (k := 17) (u := 126) eq2187 hTH2173 ga0 rg_112 rfl
        obtain ⟨x2188, ex2188⟩ : ∃ z : Int32, z = fI H2173 a0 (K.1.2 10 20) := ⟨_, rfl⟩
        have bx2188 := ty_fi (x := x2188) (k := 20) ex2188 hTH2173 ga0 rg_112 rfl
        obtain ⟨x2189, ex2189⟩ : ∃ z : Int32, z = fI H2173 a0 (K.1.2 10 21) := ⟨_, rfl⟩
        have bx2189 := ty_fi (x := x2189) (k := 21) ex2189 hTH2173 ga0 rg_112 rfl
        obtain ⟨x2190, ex2190⟩ : ∃ z : Int32, z = fI H2173 a0 (K.1.2 10 22) := ⟨_, rfl⟩
        have bx2190 := ty_fi (x := x2190) (k := 22) ex2190 hTH2173 ga0 rg_112 rfl
        refine x_V (As := []) (rest := []) C (a_X10_reads l K G H2173 (0) (x2188) (x2189) (x2190) (tp) hTH2173 ga0 gq2187 eq2187 (m2184).symm ex2188 ex2189 ex2190 m2179 g2175 g2176 g2177 g2178 (by omega)) yo_X10_reads wM_X10_242 ⟨⟨by decide, by decide⟩, by decide, by decide⟩ (x_rv C hTH2173 (ci := 10) rfl ga0 rg_112) rfl hl2033.1 rfl (Nat.le_of_ble_eq_true rfl) dX10_text_80 hSH2173 (AE_sub (fun _ _ => rfl) (by decide) hSH2173.1) (fun vH2191 H2191 locsH2191 pH2191 zH2191 kH2191 hSH2191 => ?_)
        obtain ⟨x2192, x2193, x2194, x2195, hvH2191, ex2192, ex2193, ex2194, ex2195, hrH2191, m2196, g2197, g2198, g2199, g2200, mf2201, hTH2191⟩ := pH2191
        subst hvH2191
        clear m2166 m2167 m2168 m2169 m2170 m2171 m2172
        have m2202 := (m2179).trans (MF.i mf2201 (k := 18) (by decide) (by decide)).symm
        have m2203 := (MF.i mf2201 (k := 0) (by decide) (by decide)).trans m2180
        have m2204 := (MF.i mf2201 (k := 41) (by decide) (by decide)).trans m2181
        have m2205 := (MF.i mf2201 (k := 42) (by decide) (by decide)).trans m2182
        have m2206 := (MF.i mf2201 (k := 34) (by decide) (by decide)).trans m2183
        have m2207 := (MF.i mf2201 (k := 35) (by decide) (by decide)).trans m2185
        have m2208 := (MF.i mf2201 (k := 36) (by decide) (by decide)).trans m2186
        have m2209 := (eq2187).trans (MF.r mf2201 (k := 17) (by decide) (by decide)).symm
        have mf2210 : MF K s.heap H2191 a0 [0, 18, 19, 20, 21, 22, 34, 35, 36, 38, 39, 40, 41, 42] := MF.trans mf2174 mf2201 (by decide)
        have bx2192 := ty_fi (x := x2192) (k := 19) ex2192 hTH2191 ga0 rg_112 rfl
        have bx2193 := ty_fi (x := x2193) (k := 20) ex2193 hTH2191 ga0 rg_112 rfl
        have bx2194 := ty_fi (x := x2194) (k := 21) ex2194 hTH2191 ga0 rg_112 rfl
        have bx2195 := ty_fi (x := x2195) (k := 22) ex2195 hTH2191 ga0 rg_112 rfl
        refine W.eq (g2 := F0 m 83 ls2032 []) rfl ?_
        refine lv_iload_n hx hb dX10_text_83 rfl (lv_at hl2033 0 rfl) ?_
        refine lv_if_eq (tgt := 94) hx hb dX10_text_84 (by decide) (fun c2211 => ?_) (fun c2211 => ?_)
        · have k2212 := i_eq c2211
          refine lv_iconst (v := (-1)) hx hb dX10_text_94 (by decide) ?_
          refine lv_istore (lv' := [(4, .int (-1)), (3, .int 0), (0, .ref a0), (1, .int x1), (2, .int x2)]) hx hb dX10_text_95 hl2033 (by decide) rfl (fun ls2213 hl2214 => ?_)
          refine lv_aload_n hx hb dX10_text_97 rfl (lv_at hl2214 2 rfl) ?_
          refine lv_iconst (v := 0) hx hb dX10_text_98 (by decide) ?_
          refine x_put C hTH2191 hSH2191 (ci := 10) (k := 18) (v := .int 0) (ty0 := tyX10) rfl inX10 tyX10_ok nmX10 (by decide) rfl wF_X10_185 ga0 rg_112 rfl rfl (okI (by have := i_rng (0 : Int32); omega) (by have := i_rng (0 : Int32); omega)) rfl rfl (AE_in ga0 (by decide)) dX10_text_99 (fun H2215 locsH2215 hTH2215 hSH2215 wH2215 => ?_)
          clear m2179 m2180 m2181 m2182 m2183 m2184 m2185 m2186
          have mf2216 : MF K s.heap H2215 a0 [0, 18, 19, 20, 21, 22, 34, 35, 36, 38, 39, 40, 41, 42] := MF.fld hap wH2215 (by decide) (by decide) mf2210
          have g2217 : CG (avw K H2215 a0) := CG.congr (fun k hk j => av_fld hTH2191 ga0 hap wH2215 (by decide) (CG_ok 112 (by decide) k hk) (CG_ne 18 (by decide) k hk)) g2197
          have g2218 : TU (avw K H2215 a0) (svw K H2215 a0) := TU.congr (fun k hk j => av_fld hTH2191 ga0 hap wH2215 (by decide) (TU_ok 112 (by decide) k hk) (TU_ne 18 (by decide) k hk)) (fun k hk => sv_fld hap wH2215 (by decide) (TU_slt k hk) (TU_sne 18 (by decide) k hk)) g2198
          have g2219 : WD (avw K H2215 a0) := WD.congr (fun k hk j => av_fld hTH2191 ga0 hap wH2215 (by decide) (WD_ok 112 (by decide) k hk) (WD_ne 18 (by decide) k hk)) g2199
          have g2220 : IM (avw K H2215 a0) := IM.congr (fun k hk j => av_fld hTH2191 ga0 hap wH2215 (by decide) (IM_ok 112 (by decide) k hk) (IM_ne 18 (by decide) k hk)) g2200
          have m2222 := (Wr.neI wH2215 (Or.inr (x_apart hKT hts inX10 tyX10 tyX10_ok nmX10 rfl 0 18 (by decide) (by decide) (by decide)))).trans m2203
          have m2223 := (Wr.neI wH2215 (Or.inr (x_apart hKT hts inX10 tyX10 tyX10_ok nmX10 rfl 41 18 (by decide) (by decide) (by decide)))).trans m2204
          have m2224 := (Wr.neI wH2215 (Or.inr (x_apart hKT hts inX10 tyX10 tyX10_ok nmX10 rfl 42 18 (by decide) (by decide) (by decide)))).trans m2205
          have m2225 := (Wr.neI wH2215 (Or.inr (x_apart hKT hts inX10 tyX10 tyX10_ok nmX10 rfl 34 18 (by decide) (by decide) (by decide)))).trans m2206
          have m2226 := (Wr.neI wH2215 (Or.inr (x_apart hKT hts inX10 tyX10 tyX10_ok nmX10 rfl 35 18 (by decide) (by decide) (by decide)))).trans m2207
          have m2227 := (Wr.neI wH2215 (Or.inr (x_apart hKT hts inX10 tyX10 tyX10_ok nmX10 rfl 36 18 (by decide) (by decide) (by decide)))).trans m2208
          have m2228 := m2196.trans (Wr.neR wH2215 (Or.inr (x_apart hKT hts inX10 tyX10 tyX10_ok nmX10 rfl 17 18 (by decide) (by decide) (by decide)))).symm
          have m2229 := ex2192.trans (Wr.neI wH2215 (Or.inr (x_apart hKT hts inX10 tyX10 tyX10_ok nmX10 rfl 19 18 (by decide) (by decide) (by decide)))).symm
          have m2230 := ex2193.trans (Wr.neI wH2215 (Or.inr (x_apart hKT hts inX10 tyX10 tyX10_ok nmX10 rfl 20 18 (by decide) (by decide) (by decide)))).symm
          have m2231 := ex2194.trans (Wr.neI wH2215 (Or.inr (x_apart hKT hts inX10 tyX10 tyX10_ok nmX10 rfl 21 18 (by decide) (by decide) (by decide)))).symm
          have m2232 := ex2195.trans (Wr.neI wH2215 (Or.inr (x_apart hKT hts inX10 tyX10 tyX10_ok nmX10 rfl 22 18 (by decide) (by decide) (by decide)))).symm
          have m2233 := Wr.I wH2215
          refine lv_iload_n hx hb dX10_text_102 rfl (lv_at hl2214 1 rfl) ?_
          refine lv_if_eq (tgt := 128) hx hb dX10_text_103 (by decide) (fun c2234 => ?_) (fun c2234 => ?_)
          · have k2235 := i_eq c2234
            refine lv_iload hx hb dX10_text_128 (lv_at hl2214 0 rfl) ?_
            refine lv_iconst (v := (-1)) hx hb dX10_text_130 (by decide) ?_
            refine lv_icmp_ne (tgt := 136) hx hb dX10_text_131 (by decide) (fun c2236 => ?_) (fun c2236 => ?_)
            · have k2237 := i_ne c2236
              exfalso
              omega
            · have k2237 := i_eq c2236
              refine lv_iconst (v := (-1)) hx hb dX10_text_134 (by decide) ?_
              exact x_iret C hQ dX10_text_135 hSH2215 (by decide) (by decide) (⟨(-1), 0, rfl, by decide, (m2233).symm, by omega, g2217, g2218, g2219, g2220, mf2216, hTH2215⟩)
          · have k2235 := i_ne c2234
            exfalso
            omega
        · have k2212 := i_ne c2211
          exfalso
          omega
    · have k2031 := i_eq c2030
      refine lv_aload_n hx hb dX10_text_34 rfl (lv_at hl 0 rfl) ?_
      refine lv_iload_n hx hb dX10_text_35 rfl (lv_at hl 2 rfl) ?_
      refine lv_iconst (v := 0) hx hb dX10_text_36 (by decide) ?_
      refine lv_iconst (v := 3) hx hb dX10_text_37 (by decide) ?_
      refine x_V (As := [.int x2, .int 0, .int 3]) (rest := []) C (a_X10_isIn_v l K G H2018 (x2) (0) (3) hTH2018 ga0) yo_X10_isIn wM_X10_177 ⟨⟨by decide, by decide⟩, by decide, by decide⟩ (x_rv C hTH2018 (ci := 10) rfl ga0 rg_112) rfl hl.1 rfl (Nat.le_of_ble_eq_true rfl) dX10_text_38 hSH2018 (AE_sub (fun _ _ => rfl) (by decide) hSH2018.1) (fun vH2238 H2238 locsH2238 pH2238 zH2238 kH2238 hSH2238 => ?_)
      obtain ⟨x2239, hvH2238, bx2239, hrH2238, hTH2238⟩ := pH2238
      subst hvH2238
      clear m2015 m2016 m2017
      have mf2240 : MF K s.heap H2238 a0 [0, 18, 19, 20, 21, 22, 34, 35, 36, 38, 39, 40, 41, 42] := MF.eff (x_lt hTH2018 kH2238 ga0 (by decide)) mf2019
      have g2241 : CG (avw K H2238 a0) := CG.congr (fun k hk j => av_eff hTH2018 kH2238 ga0 (by decide) (CG_eff [] (by decide) k hk)) g2020
      have g2242 : TU (avw K H2238 a0) (svw K H2238 a0) := TU.congr (fun k hk j => av_eff hTH2018 kH2238 ga0 (by decide) (TU_eff [] (by decide) k hk)) (fun k hk => sv_eff hTH2018 kH2238 ga0 (by decide)) g2021
      have g2243 : WD (avw K H2238 a0) := WD.congr (fun k hk j => av_eff hTH2018 kH2238 ga0 (by decide) (WD_eff [] (by decide) k hk)) g2022
      have g2244 : IM (avw K H2238 a0) := IM.congr (fun k hk j => av_eff hTH2018 kH2238 ga0 (by decide) (IM_eff [] (by decide) k hk)) g2023
      have m2245 := (m2024).trans (fI_kept (x_lt hTH2018 kH2238 ga0 (by decide))).symm
      have m2246 := (fI_kept (x_lt hTH2018 kH2238 ga0 (by decide))).trans m2025
      have m2247 := (fI_kept (x_lt hTH2018 kH2238 ga0 (by decide))).trans m2026
      have m2248 := (fI_kept (x_lt hTH2018 kH2238 ga0 (by decide))).trans m2027
      refine W.eq (g2 := F0 m 41 ls [.int x2239]) rfl ?_
      refine lv_if_eq (tgt := 48) hx hb dX10_text_41 (by decide) (fun c2249 => ?_) (fun c2249 => ?_)
      · have k2250 := i_eq c2249
        refine lv_iconst (v := 0) hx hb dX10_text_48 (by decide) ?_
        refine lv_istore_n (lv' := [(3, .int 0), (0, .ref a0), (1, .int x1), (2, .int x2)]) hx hb dX10_text_49 rfl hl (by decide) rfl (fun ls2251 hl2252 => ?_)
        refine lv_aload_n hx hb dX10_text_50 rfl (lv_at hl2252 1 rfl) ?_
        refine lv_iload_n hx hb dX10_text_51 rfl (lv_at hl2252 2 rfl) ?_
        refine lv_iconst (v := 1) hx hb dX10_text_52 (by decide) ?_
        refine lv_icmp_ne (tgt := 60) hx hb dX10_text_53 (by decide) (fun c2253 => ?_) (fun c2253 => ?_)
        · have k2254 := i_ne c2253
          exfalso
          omega
        · have k2254 := i_eq c2253
          refine lv_iconst (v := 1) hx hb dX10_text_56 (by decide) ?_
          refine lv_goto (tgt := 61) hx hb dX10_text_57 (by decide) ?_
          refine x_put C hTH2238 hSH2238 (ci := 10) (k := 34) (v := .int 1) (ty0 := tyX10) rfl inX10 tyX10_ok nmX10 (by decide) rfl wF_X10_231 ga0 rg_112 rfl rfl (okI (by have := i_rng (1 : Int32); omega) (by have := i_rng (1 : Int32); omega)) rfl rfl (AE_in ga0 (by decide)) dX10_text_61 (fun H2255 locsH2255 hTH2255 hSH2255 wH2255 => ?_)
          clear m2024 m2025 m2026 m2027
          have mf2256 : MF K s.heap H2255 a0 [0, 18, 19, 20, 21, 22, 34, 35, 36, 38, 39, 40, 41, 42] := MF.fld hap wH2255 (by decide) (by decide) mf2240
          have g2257 : CG (avw K H2255 a0) := CG.congr (fun k hk j => av_fld hTH2238 ga0 hap wH2255 (by decide) (CG_ok 112 (by decide) k hk) (CG_ne 34 (by decide) k hk)) g2241
          have g2258 : TU (avw K H2255 a0) (svw K H2255 a0) := TU.congr (fun k hk j => av_fld hTH2238 ga0 hap wH2255 (by decide) (TU_ok 112 (by decide) k hk) (TU_ne 34 (by decide) k hk)) (fun k hk => sv_fld hap wH2255 (by decide) (TU_slt k hk) (TU_sne 34 (by decide) k hk)) g2242
          have g2259 : WD (avw K H2255 a0) := WD.congr (fun k hk j => av_fld hTH2238 ga0 hap wH2255 (by decide) (WD_ok 112 (by decide) k hk) (WD_ne 34 (by decide) k hk)) g2243
          have g2260 : IM (avw K H2255 a0) := IM.congr (fun k hk j => av_fld hTH2238 ga0 hap wH2255 (by decide) (IM_ok 112 (by decide) k hk) (IM_ne 34 (by decide) k hk)) g2244
          have m2261 := m2245.trans (Wr.neI wH2255 (Or.inr (x_apart hKT hts inX10 tyX10 tyX10_ok nmX10 rfl 18 34 (by decide) (by decide) (by decide)))).symm
          have m2262 := (Wr.neI wH2255 (Or.inr (x_apart hKT hts inX10 tyX10 tyX10_ok nmX10 rfl 0 34 (by decide) (by decide) (by decide)))).trans m2246
          have m2263 := (Wr.neI wH2255 (Or.inr (x_apart hKT hts inX10 tyX10 tyX10_ok nmX10 rfl 41 34 (by decide) (by decide) (by decide)))).trans m2247
          have m2264 := (Wr.neI wH2255 (Or.inr (x_apart hKT hts inX10 tyX10 tyX10_ok nmX10 rfl 42 34 (by decide) (by decide) (by decide)))).trans m2248
          have m2265 := Wr.I wH2255
          refine lv_aload_n hx hb dX10_text_64 rfl (lv_at hl2252 1 rfl) ?_
          refine lv_iconst (v := 0) hx hb dX10_text_65 (by decide) ?_
          refine x_put C hTH2255 hSH2255 (ci := 10) (k := 19) (v := .int 0) (ty0 := tyX10) rfl inX10 tyX10_ok nmX10 (by decide) rfl wF_X10_192 ga0 rg_112 rfl rfl (okI (by have := i_rng (0 : Int32); omega) (by have := i_rng (0 : Int32); omega)) rfl rfl (AE_in ga0 (by decide)) dX10_text_66 (fun H2266 locsH2266 hTH2266 hSH2266 wH2266 => ?_)
          clear m2245 m2246 m2247 m2248
          have mf2267 : MF K s.heap H2266 a0 [0, 18, 19, 20, 21, 22, 34, 35, 36, 38, 39, 40, 41, 42] := MF.fld hap wH2266 (by decide) (by decide) mf2256
          have g2268 : CG (avw K H2266 a0) := CG.congr (fun k hk j => av_fld hTH2255 ga0 hap wH2266 (by decide) (CG_ok 112 (by decide) k hk) (CG_ne 19 (by decide) k hk)) g2257
          have g2269 : TU (avw K H2266 a0) (svw K H2266 a0) := TU.congr (fun k hk j => av_fld hTH2255 ga0 hap wH2266 (by decide) (TU_ok 112 (by decide) k hk) (TU_ne 19 (by decide) k hk)) (fun k hk => sv_fld hap wH2266 (by decide) (TU_slt k hk) (TU_sne 19 (by decide) k hk)) g2258
          have g2270 : WD (avw K H2266 a0) := WD.congr (fun k hk j => av_fld hTH2255 ga0 hap wH2266 (by decide) (WD_ok 112 (by decide) k hk) (WD_ne 19 (by decide) k hk)) g2259
          have g2271 : IM (avw K H2266 a0) := IM.congr (fun k hk j => av_fld hTH2255 ga0 hap wH2266 (by decide) (IM_ok 112 (by decide) k hk) (IM_ne 19 (by decide) k hk)) g2260
          have m2272 := m2261.trans (Wr.neI wH2266 (Or.inr (x_apart hKT hts inX10 tyX10 tyX10_ok nmX10 rfl 18 19 (by decide) (by decide) (by decide)))).symm
          have m2273 := (Wr.neI wH2266 (Or.inr (x_apart hKT hts inX10 tyX10 tyX10_ok nmX10 rfl 0 19 (by decide) (by decide) (by decide)))).trans m2262
          have m2274 := (Wr.neI wH2266 (Or.inr (x_apart hKT hts inX10 tyX10 tyX10_ok nmX10 rfl 41 19 (by decide) (by decide) (by decide)))).trans m2263
          have m2275 := (Wr.neI wH2266 (Or.inr (x_apart hKT hts inX10 tyX10 tyX10_ok nmX10 rfl 42 19 (by decide) (by decide) (by decide)))).trans m2264
          have m2276 := (Wr.neI wH2266 (Or.inr (x_apart hKT hts inX10 tyX10 tyX10_ok nmX10 rfl 34 19 (by decide) (by decide) (by decide)))).trans m2265
          have m2277 := Wr.I wH2266
          refine lv_aload_n hx hb dX10_text_69 rfl (lv_at hl2252 1 rfl) ?_
          refine lv_iconst (v := 0) hx hb dX10_text_70 (by decide) ?_
          refine x_put C hTH2266 hSH2266 (ci := 10) (k := 35) (v := .int 0) (ty0 := tyX10) rfl inX10 tyX10_ok nmX10 (by decide) rfl wF_X10_228 ga0 rg_112 rfl rfl (okI (by have := i_rng (0 : Int32); omega) (by have := i_rng (0 : Int32); omega)) rfl rfl (AE_in ga0 (by decide)) dX10_text_71 (fun H2278 locsH2278 hTH2278 hSH2278 wH2278 => ?_)
          clear m2261 m2262 m2263 m2264 m2265
          have mf2279 : MF K s.heap H2278 a0 [0, 18, 19, 20, 21, 22, 34, 35, 36, 38, 39, 40, 41, 42] := MF.fld hap wH2278 (by decide) (by decide) mf2267
          have g2280 : CG (avw K H2278 a0) := CG.congr (fun k hk j => av_fld hTH2266 ga0 hap wH2278 (by decide) (CG_ok 112 (by decide) k hk) (CG_ne 35 (by decide) k hk)) g2268
          have g2281 : TU (avw K H2278 a0) (svw K H2278 a0) := TU.congr (fun k hk j => av_fld hTH2266 ga0 hap wH2278 (by decide) (TU_ok 112 (by decide) k hk) (TU_ne 35 (by decide) k hk)) (fun k hk => sv_fld hap wH2278 (by decide) (TU_slt k hk) (TU_sne 35 (by decide) k hk)) g2269
          have g2282 : WD (avw K H2278 a0) := WD.congr (fun k hk j => av_fld hTH2266 ga0 hap wH2278 (by decide) (WD_ok 112 (by decide) k hk) (WD_ne 35 (by decide) k hk)) g2270
          have g2283 : IM (avw K H2278 a0) := IM.congr (fun k hk j => av_fld hTH2266 ga0 hap wH2278 (by decide) (IM_ok 112 (by decide) k hk) (IM_ne 35 (by decide) k hk)) g2271
          have m2284 := m2272.trans (Wr.neI wH2278 (Or.inr (x_apart hKT hts inX10 tyX10 tyX10_ok nmX10 rfl 18 35 (by decide) (by decide) (by decide)))).symm
          have m2285 := (Wr.neI wH2278 (Or.inr (x_apart hKT hts inX10 tyX10 tyX10_ok nmX10 rfl 0 35 (by decide) (by decide) (by decide)))).trans m2273
          have m2286 := (Wr.neI wH2278 (Or.inr (x_apart hKT hts inX10 tyX10 tyX10_ok nmX10 rfl 41 35 (by decide) (by decide) (by decide)))).trans m2274
          have m2287 := (Wr.neI wH2278 (Or.inr (x_apart hKT hts inX10 tyX10 tyX10_ok nmX10 rfl 42 35 (by decide) (by decide) (by decide)))).trans m2275
          have m2288 := (Wr.neI wH2278 (Or.inr (x_apart hKT hts inX10 tyX10 tyX10_ok nmX10 rfl 34 35 (by decide) (by decide) (by decide)))).trans m2276
          have m2289 := (Wr.neI wH2278 (Or.inr (x_apart hKT hts inX10 tyX10 tyX10_ok nmX10 rfl 19 35 (by decide) (by decide) (by decide)))).trans m2277
          have m2290 := Wr.I wH2278
          refine lv_aload_n hx hb dX10_text_74 rfl (lv_at hl2252 1 rfl) ?_
          refine lv_iconst (v := 0) hx hb dX10_text_75 (by decide) ?_
          refine x_put C hTH2278 hSH2278 (ci := 10) (k := 36) (v := .int 0) (ty0 := tyX10) rfl inX10 tyX10_ok nmX10 (by decide) rfl wF_X10_261 ga0 rg_112 rfl rfl (okI (by have := i_rng (0 : Int32); omega) (by have := i_rng (0 : Int32); omega)) rfl rfl (AE_in ga0 (by decide)) dX10_text_76 (fun H2291 locsH2291 hTH2291 hSH2291 wH2291 => ?_)
          clear m2272 m2273 m2274 m2275 m2276 m2277
          have mf2292 : MF K s.heap H2291 a0 [0, 18, 19, 20, 21, 22, 34, 35, 36, 38, 39, 40, 41, 42] := MF.fld hap wH2291 (by decide) (by decide) mf2279
          have g2293 : CG (avw K H2291 a0) := CG.congr (fun k hk j => av_fld hTH2278 ga0 hap wH2291 (by decide) (CG_ok 112 (by decide) k hk) (CG_ne 36 (by decide) k hk)) g2280
          have g2294 : TU (avw K H2291 a0) (svw K H2291 a0) := TU.congr (fun k hk j => av_fld hTH2278 ga0 hap wH2291 (by decide) (TU_ok 112 (by decide) k hk) (TU_ne 36 (by decide) k hk)) (fun k hk => sv_fld hap wH2291 (by decide) (TU_slt k hk) (TU_sne 36 (by decide) k hk)) g2281
          have g2295 : WD (avw K H2291 a0) := WD.congr (fun k hk j => av_fld hTH2278 ga0 hap wH2291 (by decide) (WD_ok 112 (by decide) k hk) (WD_ne 36 (by decide) k hk)) g2282
          have g2296 : IM (avw K H2291 a0) := IM.congr (fun k hk j => av_fld hTH2278 ga0 hap wH2291 (by decide) (IM_ok 112 (by decide) k hk) (IM_ne 36 (by decide) k hk)) g2283
          have m2297 := m2284.trans (Wr.neI wH2291 (Or.inr (x_apart hKT hts inX10 tyX10 tyX10_ok nmX10 rfl 18 36 (by decide) (by decide) (by decide)))).symm
          have m2298 := (Wr.neI wH2291 (Or.inr (x_apart hKT hts inX10 tyX10 tyX10_ok nmX10 rfl 0 36 (by decide) (by decide) (by decide)))).trans m2285
          have m2299 := (Wr.neI wH2291 (Or.inr (x_apart hKT hts inX10 tyX10 tyX10_ok nmX10 rfl 41 36 (by decide) (by decide) (by decide)))).trans m2286
          have m2300 := (Wr.neI wH2291 (Or.inr (x_apart hKT hts inX10 tyX10 tyX10_ok nmX10 rfl 42 36 (by decide) (by decide) (by decide)))).trans m2287
          have m2301 := (Wr.neI wH2291 (Or.inr (x_apart hKT hts inX10 tyX10 tyX10_ok nmX10 rfl 34 36 (by decide) (by decide) (by decide)))).trans m2288
          have m2302 := (Wr.neI wH2291 (Or.inr (x_apart hKT hts inX10 tyX10 tyX10_ok nmX10 rfl 19 36 (by decide) (by decide) (by decide)))).trans m2289
          have m2303 := (Wr.neI wH2291 (Or.inr (x_apart hKT hts inX10 tyX10 tyX10_ok nmX10 rfl 35 36 (by decide) (by decide) (by decide)))).trans m2290
          have m2304 := Wr.I wH2291
          refine lv_aload_n hx hb dX10_text_79 rfl (lv_at hl2252 1 rfl) ?_
          obtain ⟨q2305, eq2305⟩ : ∃ z : Nat, @Eq Ad z (fR H2291 a0 (K.1.2 10 17)) := ⟨_, rfl⟩
          have gq2305 := ty_fr (q := q2305) (k := 17) (u := 126) eq2305 hTH2291 ga0 rg_112 rfl
          obtain ⟨x2306, ex2306⟩ : ∃ z : Int32, z = fI H2291 a0 (K.1.2 10 20) := ⟨_, rfl⟩
          have bx2306 := ty_fi (x := x2306) (k := 20) ex2306 hTH2291 ga0 rg_112 rfl
          obtain ⟨x2307, ex2307⟩ : ∃ z : Int32, z = fI H2291 a0 (K.1.2 10 21) := ⟨_, rfl⟩
          have bx2307 := ty_fi (x := x2307) (k := 21) ex2307 hTH2291 ga0 rg_112 rfl
          obtain ⟨x2308, ex2308⟩ : ∃ z : Int32, z = fI H2291 a0 (K.1.2 10 22) := ⟨_, rfl⟩
          have bx2308 := ty_fi (x := x2308) (k := 22) ex2308 hTH2291 ga0 rg_112 rfl
          refine x_V (As := []) (rest := []) C (a_X10_reads l K G H2291 (0) (x2306) (x2307) (x2308) (tp) hTH2291 ga0 gq2305 eq2305 (m2302).symm ex2306 ex2307 ex2308 m2297 g2293 g2294 g2295 g2296 (by omega)) yo_X10_reads wM_X10_242 ⟨⟨by decide, by decide⟩, by decide, by decide⟩ (x_rv C hTH2291 (ci := 10) rfl ga0 rg_112) rfl hl2252.1 rfl (Nat.le_of_ble_eq_true rfl) dX10_text_80 hSH2291 (AE_sub (fun _ _ => rfl) (by decide) hSH2291.1) (fun vH2309 H2309 locsH2309 pH2309 zH2309 kH2309 hSH2309 => ?_)
          obtain ⟨x2310, x2311, x2312, x2313, hvH2309, ex2310, ex2311, ex2312, ex2313, hrH2309, m2314, g2315, g2316, g2317, g2318, mf2319, hTH2309⟩ := pH2309
          subst hvH2309
          clear m2284 m2285 m2286 m2287 m2288 m2289 m2290
          have m2320 := (m2297).trans (MF.i mf2319 (k := 18) (by decide) (by decide)).symm
          have m2321 := (MF.i mf2319 (k := 0) (by decide) (by decide)).trans m2298
          have m2322 := (MF.i mf2319 (k := 41) (by decide) (by decide)).trans m2299
          have m2323 := (MF.i mf2319 (k := 42) (by decide) (by decide)).trans m2300
          have m2324 := (MF.i mf2319 (k := 34) (by decide) (by decide)).trans m2301
          have m2325 := (MF.i mf2319 (k := 35) (by decide) (by decide)).trans m2303
          have m2326 := (MF.i mf2319 (k := 36) (by decide) (by decide)).trans m2304
          have m2327 := (eq2305).trans (MF.r mf2319 (k := 17) (by decide) (by decide)).symm
          have mf2328 : MF K s.heap H2309 a0 [0, 18, 19, 20, 21, 22, 34, 35, 36, 38, 39, 40, 41, 42] := MF.trans mf2292 mf2319 (by decide)
          have bx2310 := ty_fi (x := x2310) (k := 19) ex2310 hTH2309 ga0 rg_112 rfl
          have bx2311 := ty_fi (x := x2311) (k := 20) ex2311 hTH2309 ga0 rg_112 rfl
          have bx2312 := ty_fi (x := x2312) (k := 21) ex2312 hTH2309 ga0 rg_112 rfl
          have bx2313 := ty_fi (x := x2313) (k := 22) ex2313 hTH2309 ga0 rg_112 rfl
          refine W.eq (g2 := F0 m 83 ls2251 []) rfl ?_
          refine lv_iload_n hx hb dX10_text_83 rfl (lv_at hl2252 0 rfl) ?_
          refine lv_if_eq (tgt := 94) hx hb dX10_text_84 (by decide) (fun c2329 => ?_) (fun c2329 => ?_)
          · have k2330 := i_eq c2329
            refine lv_iconst (v := (-1)) hx hb dX10_text_94 (by decide) ?_
            refine lv_istore (lv' := [(4, .int (-1)), (3, .int 0), (0, .ref a0), (1, .int x1), (2, .int x2)]) hx hb dX10_text_95 hl2252 (by decide) rfl (fun ls2331 hl2332 => ?_)
            refine lv_aload_n hx hb dX10_text_97 rfl (lv_at hl2332 2 rfl) ?_
            refine lv_iconst (v := 0) hx hb dX10_text_98 (by decide) ?_
            refine x_put C hTH2309 hSH2309 (ci := 10) (k := 18) (v := .int 0) (ty0 := tyX10) rfl inX10 tyX10_ok nmX10 (by decide) rfl wF_X10_185 ga0 rg_112 rfl rfl (okI (by have := i_rng (0 : Int32); omega) (by have := i_rng (0 : Int32); omega)) rfl rfl (AE_in ga0 (by decide)) dX10_text_99 (fun H2333 locsH2333 hTH2333 hSH2333 wH2333 => ?_)
            clear m2297 m2298 m2299 m2300 m2301 m2302 m2303 m2304
            have mf2334 : MF K s.heap H2333 a0 [0, 18, 19, 20, 21, 22, 34, 35, 36, 38, 39, 40, 41, 42] := MF.fld hap wH2333 (by decide) (by decide) mf2328
            have g2335 : CG (avw K H2333 a0) := CG.congr (fun k hk j => av_fld hTH2309 ga0 hap wH2333 (by decide) (CG_ok 112 (by decide) k hk) (CG_ne 18 (by decide) k hk)) g2315
            have g2336 : TU (avw K H2333 a0) (svw K H2333 a0) := TU.congr (fun k hk j => av_fld hTH2309 ga0 hap wH2333 (by decide) (TU_ok 112 (by decide) k hk) (TU_ne 18 (by decide) k hk)) (fun k hk => sv_fld hap wH2333 (by decide) (TU_slt k hk) (TU_sne 18 (by decide) k hk)) g2316
            have g2337 : WD (avw K H2333 a0) := WD.congr (fun k hk j => av_fld hTH2309 ga0 hap wH2333 (by decide) (WD_ok 112 (by decide) k hk) (WD_ne 18 (by decide) k hk)) g2317
            have g2338 : IM (avw K H2333 a0) := IM.congr (fun k hk j => av_fld hTH2309 ga0 hap wH2333 (by decide) (IM_ok 112 (by decide) k hk) (IM_ne 18 (by decide) k hk)) g2318
            have m2340 := (Wr.neI wH2333 (Or.inr (x_apart hKT hts inX10 tyX10 tyX10_ok nmX10 rfl 0 18 (by decide) (by decide) (by decide)))).trans m2321
            have m2341 := (Wr.neI wH2333 (Or.inr (x_apart hKT hts inX10 tyX10 tyX10_ok nmX10 rfl 41 18 (by decide) (by decide) (by decide)))).trans m2322
            have m2342 := (Wr.neI wH2333 (Or.inr (x_apart hKT hts inX10 tyX10 tyX10_ok nmX10 rfl 42 18 (by decide) (by decide) (by decide)))).trans m2323
            have m2343 := (Wr.neI wH2333 (Or.inr (x_apart hKT hts inX10 tyX10 tyX10_ok nmX10 rfl 34 18 (by decide) (by decide) (by decide)))).trans m2324
            have m2344 := (Wr.neI wH2333 (Or.inr (x_apart hKT hts inX10 tyX10 tyX10_ok nmX10 rfl 35 18 (by decide) (by decide) (by decide)))).trans m2325
            have m2345 := (Wr.neI wH2333 (Or.inr (x_apart hKT hts inX10 tyX10 tyX10_ok nmX10 rfl 36 18 (by decide) (by decide) (by decide)))).trans m2326
            have m2346 := m2314.trans (Wr.neR wH2333 (Or.inr (x_apart hKT hts inX10 tyX10 tyX10_ok nmX10 rfl 17 18 (by decide) (by decide) (by decide)))).symm
            have m2347 := ex2310.trans (Wr.neI wH2333 (Or.inr (x_apart hKT hts inX10 tyX10 tyX10_ok nmX10 rfl 19 18 (by decide) (by decide) (by decide)))).symm
            have m2348 := ex2311.trans (Wr.neI wH2333 (Or.inr (x_apart hKT hts inX10 tyX10 tyX10_ok nmX10 rfl 20 18 (by decide) (by decide) (by decide)))).symm
            have m2349 := ex2312.trans (Wr.neI wH2333 (Or.inr (x_apart hKT hts inX10 tyX10 tyX10_ok nmX10 rfl 21 18 (by decide) (by decide) (by decide)))).symm
            have m2350 := ex2313.trans (Wr.neI wH2333 (Or.inr (x_apart hKT hts inX10 tyX10 tyX10_ok nmX10 rfl 22 18 (by decide) (by decide) (by decide)))).symm
            have m2351 := Wr.I wH2333
            refine lv_iload_n hx hb dX10_text_102 rfl (lv_at hl2332 1 rfl) ?_
            refine lv_if_eq (tgt := 128) hx hb dX10_text_103 (by decide) (fun c2352 => ?_) (fun c2352 => ?_)
            · have k2353 := i_eq c2352
              refine lv_iload hx hb dX10_text_128 (lv_at hl2332 0 rfl) ?_
              refine lv_iconst (v := (-1)) hx hb dX10_text_130 (by decide) ?_
              refine lv_icmp_ne (tgt := 136) hx hb dX10_text_131 (by decide) (fun c2354 => ?_) (fun c2354 => ?_)
              · have k2355 := i_ne c2354
                exfalso
                omega
              · have k2355 := i_eq c2354
                refine lv_iconst (v := (-1)) hx hb dX10_text_134 (by decide) ?_
                exact x_iret C hQ dX10_text_135 hSH2333 (by decide) (by decide) (⟨(-1), 0, rfl, by decide, (m2351).symm, by omega, g2335, g2336, g2337, g2338, mf2334, hTH2333⟩)
            · have k2353 := i_ne c2352
              exfalso
              omega
          · have k2330 := i_ne c2329
            exfalso
            omega
      · have k2250 := i_ne c2249
        exfalso
        omega
  · have k2029 := i_eq c2028
    refine lv_aload_n hx hb dX10_text_19 rfl (lv_at hl 0 rfl) ?_
    refine lv_iload_n hx hb dX10_text_20 rfl (lv_at hl 2 rfl) ?_
    refine lv_iconst (v := 0) hx hb dX10_text_21 (by decide) ?_
    refine lv_iconst (v := 1) hx hb dX10_text_22 (by decide) ?_
    refine x_V (As := [.int x2, .int 0, .int 1]) (rest := []) C (a_X10_isIn_v l K G H2018 (x2) (0) (1) hTH2018 ga0) yo_X10_isIn wM_X10_177 ⟨⟨by decide, by decide⟩, by decide, by decide⟩ (x_rv C hTH2018 (ci := 10) rfl ga0 rg_112) rfl hl.1 rfl (Nat.le_of_ble_eq_true rfl) dX10_text_23 hSH2018 (AE_sub (fun _ _ => rfl) (by decide) hSH2018.1) (fun vH2356 H2356 locsH2356 pH2356 zH2356 kH2356 hSH2356 => ?_)
    obtain ⟨x2357, hvH2356, bx2357, hrH2356, hTH2356⟩ := pH2356
    subst hvH2356
    clear m2015 m2016 m2017
    have mf2358 : MF K s.heap H2356 a0 [0, 18, 19, 20, 21, 22, 34, 35, 36, 38, 39, 40, 41, 42] := MF.eff (x_lt hTH2018 kH2356 ga0 (by decide)) mf2019
    have g2359 : CG (avw K H2356 a0) := CG.congr (fun k hk j => av_eff hTH2018 kH2356 ga0 (by decide) (CG_eff [] (by decide) k hk)) g2020
    have g2360 : TU (avw K H2356 a0) (svw K H2356 a0) := TU.congr (fun k hk j => av_eff hTH2018 kH2356 ga0 (by decide) (TU_eff [] (by decide) k hk)) (fun k hk => sv_eff hTH2018 kH2356 ga0 (by decide)) g2021
    have g2361 : WD (avw K H2356 a0) := WD.congr (fun k hk j => av_eff hTH2018 kH2356 ga0 (by decide) (WD_eff [] (by decide) k hk)) g2022
    have g2362 : IM (avw K H2356 a0) := IM.congr (fun k hk j => av_eff hTH2018 kH2356 ga0 (by decide) (IM_eff [] (by decide) k hk)) g2023
    have m2363 := (m2024).trans (fI_kept (x_lt hTH2018 kH2356 ga0 (by decide))).symm
    have m2364 := (fI_kept (x_lt hTH2018 kH2356 ga0 (by decide))).trans m2025
    have m2365 := (fI_kept (x_lt hTH2018 kH2356 ga0 (by decide))).trans m2026
    have m2366 := (fI_kept (x_lt hTH2018 kH2356 ga0 (by decide))).trans m2027
    refine W.eq (g2 := F0 m 26 ls [.int x2357]) rfl ?_
    refine lv_if_ne (tgt := 44) hx hb dX10_text_26 (by decide) (fun c2367 => ?_) (fun c2367 => ?_)
    · have k2368 := i_ne c2367
      exfalso
      omega
    · have k2368 := i_eq c2367
      refine lv_iload_n hx hb dX10_text_29 rfl (lv_at hl 1 rfl) ?_
      refine lv_iconst (v := 1) hx hb dX10_text_30 (by decide) ?_
      refine lv_icmp_ne (tgt := 48) hx hb dX10_text_31 (by decide) (fun c2369 => ?_) (fun c2369 => ?_)
      · have k2370 := i_ne c2369
        refine lv_iconst (v := 0) hx hb dX10_text_48 (by decide) ?_
        refine lv_istore_n (lv' := [(3, .int 0), (0, .ref a0), (1, .int x1), (2, .int x2)]) hx hb dX10_text_49 rfl hl (by decide) rfl (fun ls2371 hl2372 => ?_)
        refine lv_aload_n hx hb dX10_text_50 rfl (lv_at hl2372 1 rfl) ?_
        refine lv_iload_n hx hb dX10_text_51 rfl (lv_at hl2372 2 rfl) ?_
        refine lv_iconst (v := 1) hx hb dX10_text_52 (by decide) ?_
        refine lv_icmp_ne (tgt := 60) hx hb dX10_text_53 (by decide) (fun c2373 => ?_) (fun c2373 => ?_)
        · have k2374 := i_ne c2373
          refine lv_iconst (v := 0) hx hb dX10_text_60 (by decide) ?_
          refine x_put C hTH2356 hSH2356 (ci := 10) (k := 34) (v := .int 0) (ty0 := tyX10) rfl inX10 tyX10_ok nmX10 (by decide) rfl wF_X10_231 ga0 rg_112 rfl rfl (okI (by have := i_rng (0 : Int32); omega) (by have := i_rng (0 : Int32); omega)) rfl rfl (AE_in ga0 (by decide)) dX10_text_61 (fun H2375 locsH2375 hTH2375 hSH2375 wH2375 => ?_)
          clear m2024 m2025 m2026 m2027
          have mf2376 : MF K s.heap H2375 a0 [0, 18, 19, 20, 21, 22, 34, 35, 36, 38, 39, 40, 41, 42] := MF.fld hap wH2375 (by decide) (by decide) mf2358
          have g2377 : CG (avw K H2375 a0) := CG.congr (fun k hk j => av_fld hTH2356 ga0 hap wH2375 (by decide) (CG_ok 112 (by decide) k hk) (CG_ne 34 (by decide) k hk)) g2359
          have g2378 : TU (avw K H2375 a0) (svw K H2375 a0) := TU.congr (fun k hk j => av_fld hTH2356 ga0 hap wH2375 (by decide) (TU_ok 112 (by decide) k hk) (TU_ne 34 (by decide) k hk)) (fun k hk => sv_fld hap wH2375 (by decide) (TU_slt k hk) (TU_sne 34 (by decide) k hk)) g2360
          have g2379 : WD (avw K H2375 a0) := WD.congr (fun k hk j => av_fld hTH2356 ga0 hap wH2375 (by decide) (WD_ok 112 (by decide) k hk) (WD_ne 34 (by decide) k hk)) g2361
          have g2380 : IM (avw K H2375 a0) := IM.congr (fun k hk j => av_fld hTH2356 ga0 hap wH2375 (by decide) (IM_ok 112 (by decide) k hk) (IM_ne 34 (by decide) k hk)) g2362
          have m2381 := m2363.trans (Wr.neI wH2375 (Or.inr (x_apart hKT hts inX10 tyX10 tyX10_ok nmX10 rfl 18 34 (by decide) (by decide) (by decide)))).symm
          have m2382 := (Wr.neI wH2375 (Or.inr (x_apart hKT hts inX10 tyX10 tyX10_ok nmX10 rfl 0 34 (by decide) (by decide) (by decide)))).trans m2364
          have m2383 := (Wr.neI wH2375 (Or.inr (x_apart hKT hts inX10 tyX10 tyX10_ok nmX10 rfl 41 34 (by decide) (by decide) (by decide)))).trans m2365
          have m2384 := (Wr.neI wH2375 (Or.inr (x_apart hKT hts inX10 tyX10 tyX10_ok nmX10 rfl 42 34 (by decide) (by decide) (by decide)))).trans m2366
          have m2385 := Wr.I wH2375
          refine lv_aload_n hx hb dX10_text_64 rfl (lv_at hl2372 1 rfl) ?_
          refine lv_iconst (v := 0) hx hb dX10_text_65 (by decide) ?_
          refine x_put C hTH2375 hSH2375 (ci := 10) (k := 19) (v := .int 0) (ty0 := tyX10) rfl inX10 tyX10_ok nmX10 (by decide) rfl wF_X10_192 ga0 rg_112 rfl rfl (okI (by have := i_rng (0 : Int32); omega) (by have := i_rng (0 : Int32); omega)) rfl rfl (AE_in ga0 (by decide)) dX10_text_66 (fun H2386 locsH2386 hTH2386 hSH2386 wH2386 => ?_)
          clear m2363 m2364 m2365 m2366
          have mf2387 : MF K s.heap H2386 a0 [0, 18, 19, 20, 21, 22, 34, 35, 36, 38, 39, 40, 41, 42] := MF.fld hap wH2386 (by decide) (by decide) mf2376
          have g2388 : CG (avw K H2386 a0) := CG.congr (fun k hk j => av_fld hTH2375 ga0 hap wH2386 (by decide) (CG_ok 112 (by decide) k hk) (CG_ne 19 (by decide) k hk)) g2377
          have g2389 : TU (avw K H2386 a0) (svw K H2386 a0) := TU.congr (fun k hk j => av_fld hTH2375 ga0 hap wH2386 (by decide) (TU_ok 112 (by decide) k hk) (TU_ne 19 (by decide) k hk)) (fun k hk => sv_fld hap wH2386 (by decide) (TU_slt k hk) (TU_sne 19 (by decide) k hk)) g2378
          have g2390 : WD (avw K H2386 a0) := WD.congr (fun k hk j => av_fld hTH2375 ga0 hap wH2386 (by decide) (WD_ok 112 (by decide) k hk) (WD_ne 19 (by decide) k hk)) g2379
          have g2391 : IM (avw K H2386 a0) := IM.congr (fun k hk j => av_fld hTH2375 ga0 hap wH2386 (by decide) (IM_ok 112 (by decide) k hk) (IM_ne 19 (by decide) k hk)) g2380
          have m2392 := m2381.trans (Wr.neI wH2386 (Or.inr (x_apart hKT hts inX10 tyX10 tyX10_ok nmX10 rfl 18 19 (by decide) (by decide) (by decide)))).symm
          have m2393 := (Wr.neI wH2386 (Or.inr (x_apart hKT hts inX10 tyX10 tyX10_ok nmX10 rfl 0 19 (by decide) (by decide) (by decide)))).trans m2382
          have m2394 := (Wr.neI wH2386 (Or.inr (x_apart hKT hts inX10 tyX10 tyX10_ok nmX10 rfl 41 19 (by decide) (by decide) (by decide)))).trans m2383
          have m2395 := (Wr.neI wH2386 (Or.inr (x_apart hKT hts inX10 tyX10 tyX10_ok nmX10 rfl 42 19 (by decide) (by decide) (by decide)))).trans m2384
          have m2396 := (Wr.neI wH2386 (Or.inr (x_apart hKT hts inX10 tyX10 tyX10_ok nmX10 rfl 34 19 (by decide) (by decide) (by decide)))).trans m2385
          have m2397 := Wr.I wH2386
          refine lv_aload_n hx hb dX10_text_69 rfl (lv_at hl2372 1 rfl) ?_
          refine lv_iconst (v := 0) hx hb dX10_text_70 (by decide) ?_
          refine x_put C hTH2386 hSH2386 (ci := 10) (k := 35) (v := .int 0) (ty0 := tyX10) rfl inX10 tyX10_ok nmX10 (by decide) rfl wF_X10_228 ga0 rg_112 rfl rfl (okI (by have := i_rng (0 : Int32); omega) (by have := i_rng (0 : Int32); omega)) rfl rfl (AE_in ga0 (by decide)) dX10_text_71 (fun H2398 locsH2398 hTH2398 hSH2398 wH2398 => ?_)
          clear m2381 m2382 m2383 m2384 m2385
          have mf2399 : MF K s.heap H2398 a0 [0, 18, 19, 20, 21, 22, 34, 35, 36, 38, 39, 40, 41, 42] := MF.fld hap wH2398 (by decide) (by decide) mf2387
          have g2400 : CG (avw K H2398 a0) := CG.congr (fun k hk j => av_fld hTH2386 ga0 hap wH2398 (by decide) (CG_ok 112 (by decide) k hk) (CG_ne 35 (by decide) k hk)) g2388
          have g2401 : TU (avw K H2398 a0) (svw K H2398 a0) := TU.congr (fun k hk j => av_fld hTH2386 ga0 hap wH2398 (by decide) (TU_ok 112 (by decide) k hk) (TU_ne 35 (by decide) k hk)) (fun k hk => sv_fld hap wH2398 (by decide) (TU_slt k hk) (TU_sne 35 (by decide) k hk)) g2389
          have g2402 : WD (avw K H2398 a0) := WD.congr (fun k hk j => av_fld hTH2386 ga0 hap wH2398 (by decide) (WD_ok 112 (by decide) k hk) (WD_ne 35 (by decide) k hk)) g2390
          have g2403 : IM (avw K H2398 a0) := IM.congr (fun k hk j => av_fld hTH2386 ga0 hap wH2398 (by decide) (IM_ok 112 (by decide) k hk) (IM_ne 35 (by decide) k hk)) g2391
          have m2404 := m2392.trans (Wr.neI wH2398 (Or.inr (x_apart hKT hts inX10 tyX10 tyX10_ok nmX10 rfl 18 35 (by decide) (by decide) (by decide)))).symm
          have m2405 := (Wr.neI wH2398 (Or.inr (x_apart hKT hts inX10 tyX10 tyX10_ok nmX10 rfl 0 35 (by decide) (by decide) (by decide)))).trans m2393
          have m2406 := (Wr.neI wH2398 (Or.inr (x_apart hKT hts inX10 tyX10 tyX10_ok nmX10 rfl 41 35 (by decide) (by decide) (by decide)))).trans m2394
          have m2407 := (Wr.neI wH2398 (Or.inr (x_apart hKT hts inX10 tyX10 tyX10_ok nmX10 rfl 42 35 (by decide) (by decide) (by decide)))).trans m2395
          have m2408 := (Wr.neI wH2398 (Or.inr (x_apart hKT hts inX10 tyX10 tyX10_ok nmX10 rfl 34 35 (by decide) (by decide) (by decide)))).trans m2396
          have m2409 := (Wr.neI wH2398 (Or.inr (x_apart hKT hts inX10 tyX10 tyX10_ok nmX10 rfl 19 35 (by decide) (by decide) (by decide)))).trans m2397
          have m2410 := Wr.I wH2398
          refine lv_aload_n hx hb dX10_text_74 rfl (lv_at hl2372 1 rfl) ?_
          refine lv_iconst (v := 0) hx hb dX10_text_75 (by decide) ?_
          refine x_put C hTH2398 hSH2398 (ci := 10) (k := 36) (v := .int 0) (ty0 := tyX10) rfl inX10 tyX10_ok nmX10 (by decide) rfl wF_X10_261 ga0 rg_112 rfl rfl (okI (by have := i_rng (0 : Int32); omega) (by have := i_rng (0 : Int32); omega)) rfl rfl (AE_in ga0 (by decide)) dX10_text_76 (fun H2411 locsH2411 hTH2411 hSH2411 wH2411 => ?_)
          clear m2392 m2393 m2394 m2395 m2396 m2397
          have mf2412 : MF K s.heap H2411 a0 [0, 18, 19, 20, 21, 22, 34, 35, 36, 38, 39, 40, 41, 42] := MF.fld hap wH2411 (by decide) (by decide) mf2399
          have g2413 : CG (avw K H2411 a0) := CG.congr (fun k hk j => av_fld hTH2398 ga0 hap wH2411 (by decide) (CG_ok 112 (by decide) k hk) (CG_ne 36 (by decide) k hk)) g2400
          have g2414 : TU (avw K H2411 a0) (svw K H2411 a0) := TU.congr (fun k hk j => av_fld hTH2398 ga0 hap wH2411 (by decide) (TU_ok 112 (by decide) k hk) (TU_ne 36 (by decide) k hk)) (fun k hk => sv_fld hap wH2411 (by decide) (TU_slt k hk) (TU_sne 36 (by decide) k hk)) g2401
          have g2415 : WD (avw K H2411 a0) := WD.congr (fun k hk j => av_fld hTH2398 ga0 hap wH2411 (by decide) (WD_ok 112 (by decide) k hk) (WD_ne 36 (by decide) k hk)) g2402
          have g2416 : IM (avw K H2411 a0) := IM.congr (fun k hk j => av_fld hTH2398 ga0 hap wH2411 (by decide) (IM_ok 112 (by decide) k hk) (IM_ne 36 (by decide) k hk)) g2403
          have m2417 := m2404.trans (Wr.neI wH2411 (Or.inr (x_apart hKT hts inX10 tyX10 tyX10_ok nmX10 rfl 18 36 (by decide) (by decide) (by decide)))).symm
          have m2418 := (Wr.neI wH2411 (Or.inr (x_apart hKT hts inX10 tyX10 tyX10_ok nmX10 rfl 0 36 (by decide) (by decide) (by decide)))).trans m2405
          have m2419 := (Wr.neI wH2411 (Or.inr (x_apart hKT hts inX10 tyX10 tyX10_ok nmX10 rfl 41 36 (by decide) (by decide) (by decide)))).trans m2406
          have m2420 := (Wr.neI wH2411 (Or.inr (x_apart hKT hts inX10 tyX10 tyX10_ok nmX10 rfl 42 36 (by decide) (by decide) (by decide)))).trans m2407
          have m2421 := (Wr.neI wH2411 (Or.inr (x_apart hKT hts inX10 tyX10 tyX10_ok nmX10 rfl 34 36 (by decide) (by decide) (by decide)))).trans m2408
          have m2422 := (Wr.neI wH2411 (Or.inr (x_apart hKT hts inX10 tyX10 tyX10_ok nmX10 rfl 19 36 (by decide) (by decide) (by decide)))).trans m2409
          have m2423 := (Wr.neI wH2411 (Or.inr (x_apart hKT hts inX10 tyX10 tyX10_ok nmX10 rfl 35 36 (by decide) (by decide) (by decide)))).trans m2410
          have m2424 := Wr.I wH2411
          refine lv_aload_n hx hb dX10_text_79 rfl (lv_at hl2372 1 rfl) ?_
          obtain ⟨q2425, eq2425⟩ : ∃ z : Nat, @Eq Ad z (fR H2411 a0 (K.1.2 10 17)) := ⟨_, rfl⟩
          have gq2425 := ty_fr (q := q2425) (k := 17) (u := 126) eq2425 hTH2411 ga0 rg_112 rfl
          obtain ⟨x2426, ex2426⟩ : ∃ z : Int32, z = fI H2411 a0 (K.1.2 10 20) := ⟨_, rfl⟩
          have bx2426 := ty_fi (x := x2426) (k := 20) ex2426 hTH2411 ga0 rg_112 rfl
          obtain ⟨x2427, ex2427⟩ : ∃ z : Int32, z = fI H2411 a0 (K.1.2 10 21) := ⟨_, rfl⟩
          have bx2427 := ty_fi (x := x2427) (k := 21) ex2427 hTH2411 ga0 rg_112 rfl
          obtain ⟨x2428, ex2428⟩ : ∃ z : Int32, z = fI H2411 a0 (K.1.2 10 22) := ⟨_, rfl⟩
          have bx2428 := ty_fi (x := x2428) (k := 22) ex2428 hTH2411 ga0 rg_112 rfl
          refine x_V (As := []) (rest := []) C (a_X10_reads l K G H2411 (0) (x2426) (x2427) (x2428) (tp) hTH2411 ga0 gq2425 eq2425 (m2422).symm ex2426 ex2427 ex2428 m2417 g2413 g2414 g2415 g2416 (by omega)) yo_X10_reads wM_X10_242 ⟨⟨by decide, by decide⟩, by decide, by decide⟩ (x_rv C hTH2411 (ci := 10) rfl ga0 rg_112) rfl hl2372.1 rfl (Nat.le_of_ble_eq_true rfl) dX10_text_80 hSH2411 (AE_sub (fun _ _ => rfl) (by decide) hSH2411.1) (fun vH2429 H2429 locsH2429 pH2429 zH2429 kH2429 hSH2429 => ?_)
          obtain ⟨x2430, x2431, x2432, x2433, hvH2429, ex2430, ex2431, ex2432, ex2433, hrH2429, m2434, g2435, g2436, g2437, g2438, mf2439, hTH2429⟩ := pH2429
          subst hvH2429
          clear m2404 m2405 m2406 m2407 m2408 m2409 m2410
          have m2440 := (m2417).trans (MF.i mf2439 (k := 18) (by decide) (by decide)).symm
          have m2441 := (MF.i mf2439 (k := 0) (by decide) (by decide)).trans m2418
          have m2442 := (MF.i mf2439 (k := 41) (by decide) (by decide)).trans m2419
          have m2443 := (MF.i mf2439 (k := 42) (by decide) (by decide)).trans m2420
          have m2444 := (MF.i mf2439 (k := 34) (by decide) (by decide)).trans m2421
          have m2445 := (MF.i mf2439 (k := 35) (by decide) (by decide)).trans m2423
          have m2446 := (MF.i mf2439 (k := 36) (by decide) (by decide)).trans m2424
          have m2447 := (eq2425).trans (MF.r mf2439 (k := 17) (by decide) (by decide)).symm
          have mf2448 : MF K s.heap H2429 a0 [0, 18, 19, 20, 21, 22, 34, 35, 36, 38, 39, 40, 41, 42] := MF.trans mf2412 mf2439 (by decide)
          have bx2430 := ty_fi (x := x2430) (k := 19) ex2430 hTH2429 ga0 rg_112 rfl
          have bx2431 := ty_fi (x := x2431) (k := 20) ex2431 hTH2429 ga0 rg_112 rfl
          have bx2432 := ty_fi (x := x2432) (k := 21) ex2432 hTH2429 ga0 rg_112 rfl
          have bx2433 := ty_fi (x := x2433) (k := 22) ex2433 hTH2429 ga0 rg_112 rfl
          refine W.eq (g2 := F0 m 83 ls2371 []) rfl ?_
          refine lv_iload_n hx hb dX10_text_83 rfl (lv_at hl2372 0 rfl) ?_
          refine lv_if_eq (tgt := 94) hx hb dX10_text_84 (by decide) (fun c2449 => ?_) (fun c2449 => ?_)
          · have k2450 := i_eq c2449
            refine lv_iconst (v := (-1)) hx hb dX10_text_94 (by decide) ?_
            refine lv_istore (lv' := [(4, .int (-1)), (3, .int 0), (0, .ref a0), (1, .int x1), (2, .int x2)]) hx hb dX10_text_95 hl2372 (by decide) rfl (fun ls2451 hl2452 => ?_)
            refine lv_aload_n hx hb dX10_text_97 rfl (lv_at hl2452 2 rfl) ?_
            refine lv_iconst (v := 0) hx hb dX10_text_98 (by decide) ?_
            refine x_put C hTH2429 hSH2429 (ci := 10) (k := 18) (v := .int 0) (ty0 := tyX10) rfl inX10 tyX10_ok nmX10 (by decide) rfl wF_X10_185 ga0 rg_112 rfl rfl (okI (by have := i_rng (0 : Int32); omega) (by have := i_rng (0 : Int32); omega)) rfl rfl (AE_in ga0 (by decide)) dX10_text_99 (fun H2453 locsH2453 hTH2453 hSH2453 wH2453 => ?_)
            clear m2417 m2418 m2419 m2420 m2421 m2422 m2423 m2424
            have mf2454 : MF K s.heap H2453 a0 [0, 18, 19, 20, 21, 22, 34, 35, 36, 38, 39, 40, 41, 42] := MF.fld hap wH2453 (by decide) (by decide) mf2448
            have g2455 : CG (avw K H2453 a0) := CG.congr (fun k hk j => av_fld hTH2429 ga0 hap wH2453 (by decide) (CG_ok 112 (by decide) k hk) (CG_ne 18 (by decide) k hk)) g2435
            have g2456 : TU (avw K H2453 a0) (svw K H2453 a0) := TU.congr (fun k hk j => av_fld hTH2429 ga0 hap wH2453 (by decide) (TU_ok 112 (by decide) k hk) (TU_ne 18 (by decide) k hk)) (fun k hk => sv_fld hap wH2453 (by decide) (TU_slt k hk) (TU_sne 18 (by decide) k hk)) g2436
            have g2457 : WD (avw K H2453 a0) := WD.congr (fun k hk j => av_fld hTH2429 ga0 hap wH2453 (by decide) (WD_ok 112 (by decide) k hk) (WD_ne 18 (by decide) k hk)) g2437
            have g2458 : IM (avw K H2453 a0) := IM.congr (fun k hk j => av_fld hTH2429 ga0 hap wH2453 (by decide) (IM_ok 112 (by decide) k hk) (IM_ne 18 (by decide) k hk)) g2438
            have m2460 := (Wr.neI wH2453 (Or.inr (x_apart hKT hts inX10 tyX10 tyX10_ok nmX10 rfl 0 18 (by decide) (by decide) (by decide)))).trans m2441
            have m2461 := (Wr.neI wH2453 (Or.inr (x_apart hKT hts inX10 tyX10 tyX10_ok nmX10 rfl 41 18 (by decide) (by decide) (by decide)))).trans m2442
            have m2462 := (Wr.neI wH2453 (Or.inr (x_apart hKT hts inX10 tyX10 tyX10_ok nmX10 rfl 42 18 (by decide) (by decide) (by decide)))).trans m2443
            have m2463 := (Wr.neI wH2453 (Or.inr (x_apart hKT hts inX10 tyX10 tyX10_ok nmX10 rfl 34 18 (by decide) (by decide) (by decide)))).trans m2444
            have m2464 := (Wr.neI wH2453 (Or.inr (x_apart hKT hts inX10 tyX10 tyX10_ok nmX10 rfl 35 18 (by decide) (by decide) (by decide)))).trans m2445
            have m2465 := (Wr.neI wH2453 (Or.inr (x_apart hKT hts inX10 tyX10 tyX10_ok nmX10 rfl 36 18 (by decide) (by decide) (by decide)))).trans m2446
            have m2466 := m2434.trans (Wr.neR wH2453 (Or.inr (x_apart hKT hts inX10 tyX10 tyX10_ok nmX10 rfl 17 18 (by decide) (by decide) (by decide)))).symm
            have m2467 := ex2430.trans (Wr.neI wH2453 (Or.inr (x_apart hKT hts inX10 tyX10 tyX10_ok nmX10 rfl 19 18 (by decide) (by decide) (by decide)))).symm
            have m2468 := ex2431.trans (Wr.neI wH2453 (Or.inr (x_apart hKT hts inX10 tyX10 tyX10_ok nmX10 rfl 20 18 (by decide) (by decide) (by decide)))).symm
            have m2469 := ex2432.trans (Wr.neI wH2453 (Or.inr (x_apart hKT hts inX10 tyX10 tyX10_ok nmX10 rfl 21 18 (by decide) (by decide) (by decide)))).symm
            have m2470 := ex2433.trans (Wr.neI wH2453 (Or.inr (x_apart hKT hts inX10 tyX10 tyX10_ok nmX10 rfl 22 18 (by decide) (by decide) (by decide)))).symm
            have m2471 := Wr.I wH2453
            refine lv_iload_n hx hb dX10_text_102 rfl (lv_at hl2452 1 rfl) ?_
            refine lv_if_eq (tgt := 128) hx hb dX10_text_103 (by decide) (fun c2472 => ?_) (fun c2472 => ?_)
            · have k2473 := i_eq c2472
              refine lv_iload hx hb dX10_text_128 (lv_at hl2452 0 rfl) ?_
              refine lv_iconst (v := (-1)) hx hb dX10_text_130 (by decide) ?_
              refine lv_icmp_ne (tgt := 136) hx hb dX10_text_131 (by decide) (fun c2474 => ?_) (fun c2474 => ?_)
              · have k2475 := i_ne c2474
                exfalso
                omega
              · have k2475 := i_eq c2474
                refine lv_iconst (v := (-1)) hx hb dX10_text_134 (by decide) ?_
                exact x_iret C hQ dX10_text_135 hSH2453 (by decide) (by decide) (⟨(-1), 0, rfl, by decide, (m2471).symm, by omega, g2455, g2456, g2457, g2458, mf2454, hTH2453⟩)
            · have k2473 := i_ne c2472
              exfalso
              omega
          · have k2450 := i_ne c2449
            exfalso
            omega
        · have k2374 := i_eq c2373
          exfalso
          omega
      · have k2370 := i_eq c2369
        exfalso
        omega

set_option maxHeartbeats 4000000 in
set_option maxRecDepth 100000 in
theorem a_X9_job_k (l : Launch) (K : KE) (G : Nat → Option Nat) (H : Heap) {a0 : Nat} (x1 : Int32) (x2 : Int32) (hT : TY K G H) (ga0 : G a0 = some 68) (hp0 : x1.toInt < 0 ∨ 3 < x1.toInt) : MX l K yX9_job cX9_job 7 (some .int) 2 43 0 0 [.ref a0, .int x1, .int x2] H (AE G [] H.size) (fun v H1 => ∃ (r : Int32), v = some (.int r) ∧ ((-1) ≤ r.toInt ∧ r.toInt ≤ (-1)) ∧ TY K G H1) := by
  refine MX.of (by decide +kernel) (Nat.le_of_ble_eq_true rfl) ?_
  intro p e s m below meth c ls Q C hH hl hQ
  subst hH
  have C : CX p K s m _ meth c RX9 cX9_job 7 (some .int) "job" := C
  obtain ⟨hx, hb, hml, hown, hts, hKT, hr, hlocks, hnm⟩ := id C
  have hl : lv_has ls 7 [(0, .ref a0), (1, .int x1), (2, .int x2)] := hl
  have hS : va_S (AE G [] s.heap.size) s.heap s.heap [] := va_S.rf
  have n_m1 : ((-1) : Int32).toInt = -1 := rfl
  have n_0 : (0 : Int32).toInt = 0 := rfl
  have n_1 : (1 : Int32).toInt = 1 := rfl
  have n_3 : (3 : Int32).toInt = 3 := rfl
  refine lv_aload_n hx hb dX9_job_0 rfl (lv_at hl 0 rfl) ?_
  refine lv_iload_n hx hb dX9_job_1 rfl (lv_at hl 2 rfl) ?_
  refine x_V (As := [.int x2]) (rest := []) C (a_X9_barAt l K G s.heap (x2) hT ga0) yo_X9_barAt wM_X9_78 ⟨⟨by decide, by decide⟩, by decide, by decide⟩ (x_rv C hT (ci := 9) rfl ga0 rg_68) rfl hl.1 rfl (Nat.le_of_ble_eq_true rfl) dX9_job_2 hS (AE_sub (fun _ _ => rfl) (by decide) hS.1) (fun vH145 H145 locsH145 pH145 zH145 kH145 hSH145 => ?_)
  have hTH145 := pH145.2
  rcases pH145.1 with hvH145 | ⟨q146, hvH145, gq146⟩
  · skip
    subst hvH145
    refine W.eq (g2 := F0 m 5 ls [.null]) rfl ?_
    refine lv_astore_nN (lv' := [(3, .null), (0, .ref a0), (1, .int x1), (2, .int x2)]) hx hb dX9_job_5 rfl hl (by decide) rfl (fun ls147 hl148 => ?_)
    refine lv_aload_nN hx hb dX9_job_6 rfl (lv_at hl148 0 rfl) ?_
    refine lv_ifnullN (tgt := 19) hx hb dX9_job_7 (by decide) ?_
    refine lv_iconst (v := (-1)) hx hb dX9_job_19 (by decide) ?_
    exact x_iret C hQ dX9_job_20 hSH145 (by decide) (by decide) (⟨(-1), rfl, by decide, hTH145⟩)
  · skip
    subst hvH145
    refine W.eq (g2 := F0 m 5 ls [.ref q146]) rfl ?_
    refine lv_astore_n (lv' := [(3, .ref q146), (0, .ref a0), (1, .int x1), (2, .int x2)]) hx hb dX9_job_5 rfl hl (by decide) rfl (fun ls149 hl150 => ?_)
    refine lv_aload_n hx hb dX9_job_6 rfl (lv_at hl150 0 rfl) ?_
    refine lv_ifnull hx hb dX9_job_7 ?_
    refine lv_iload_n hx hb dX9_job_10 rfl (lv_at hl150 2 rfl) ?_
    refine lv_iconst (v := 0) hx hb dX9_job_11 (by decide) ?_
    refine lv_iconst (v := 3) hx hb dX9_job_12 (by decide) ?_
    refine x_S (As := [.int x1, .int 0, .int 3]) (rest := []) C (c_X9_within l K G H145 (x1) (0) (3) hTH145) yo_X9_within wM_X9_89 ⟨⟨by decide, by decide⟩, by decide, by decide⟩ rfl hl150.1 rfl (Nat.le_of_ble_eq_true rfl) dX9_job_13 hSH145 (AE_sub (fun _ _ => rfl) (by decide) hSH145.1) (fun vH151 H151 locsH151 pH151 zH151 kH151 hSH151 => ?_)
    have hqH151 := pH151.1.symm
    subst hqH151
    rcases pH151.2 with ⟨hvH151, hcH151⟩ | ⟨hvH151, hcH151⟩
    · subst hvH151
      refine W.eq (g2 := F0 m 16 ls149 [.int 1]) rfl ?_
      refine lv_if_ne (tgt := 21) hx hb dX9_job_16 (by decide) (fun c152 => ?_) (fun c152 => ?_)
      · have k153 := i_ne c152
        exfalso
        omega
      · have k153 := i_eq c152
        exfalso
        omega
    · subst hvH151
      refine W.eq (g2 := F0 m 16 ls149 [.int 0]) rfl ?_
      refine lv_if_ne (tgt := 21) hx hb dX9_job_16 (by decide) (fun c154 => ?_) (fun c154 => ?_)
      · have k155 := i_ne c154
        exfalso
        omega
      · have k155 := i_eq c154
        refine lv_iconst (v := (-1)) hx hb dX9_job_19 (by decide) ?_
        exact x_iret C hQ dX9_job_20 hSH151 (by decide) (by decide) (⟨(-1), rfl, by decide, hTH145⟩)

set_option maxHeartbeats 4000000 in
set_option maxRecDepth 100000 in
theorem a_X10_job_k (l : Launch) (K : KE) (G : Nat → Option Nat) (H : Heap) {a0 : Nat} (x1 : Int32) (x2 : Int32) (hT : TY K G H) (ga0 : G a0 = some 112) (hg_CG : CG (avw K H a0)) (hg_TU : TU (avw K H a0) (svw K H a0)) (hg_WD : WD (avw K H a0)) (hg_IM : IM (avw K H a0)) (hp0 : x1.toInt < 0 ∨ 3 < x1.toInt) : MX l K yX10_job cX10_job 6 (some .int) 1 23 0 0 [.ref a0, .int x1, .int x2] H (AE G [112] H.size) (fun v H1 => ∃ (r : Int32), v = some (.int r) ∧ ((-1) ≤ r.toInt ∧ r.toInt ≤ (-1)) ∧ (CG (avw K H1 a0)) ∧ (TU (avw K H1 a0) (svw K H1 a0)) ∧ (WD (avw K H1 a0)) ∧ (IM (avw K H1 a0)) ∧ MF K H H1 a0 [0] ∧ TY K G H1) := by
  refine MX.of (by decide +kernel) (Nat.le_of_ble_eq_true rfl) ?_
  intro p e s m below meth c ls Q C hH hl hQ
  subst hH
  have C : CX p K s m _ meth c RX10 cX10_job 6 (some .int) "job" := C
  obtain ⟨hx, hb, hml, hown, hts, hKT, hr, hlocks, hnm⟩ := id C
  have hl : lv_has ls 6 [(0, .ref a0), (1, .int x1), (2, .int x2)] := hl
  have hS : va_S (AE G [112] s.heap.size) s.heap s.heap [] := va_S.rf
  have n_m1 : ((-1) : Int32).toInt = -1 := rfl
  have n_0 : (0 : Int32).toInt = 0 := rfl
  have n_3 : (3 : Int32).toInt = 3 := rfl
  have hap : ∀ x y, x < 74 → y < 74 → x ≠ y → K.1.2 10 x ≠ K.1.2 10 y := x_apart hKT hts inX10 tyX10 tyX10_ok nmX10 rfl
  have mf0 : MF K s.heap s.heap a0 [0] := fun _ _ _ => rfl
  refine lv_aload_n hx hb dX10_job_0 rfl (lv_at hl 0 rfl) ?_
  refine lv_iconst (v := 0) hx hb dX10_job_1 (by decide) ?_
  refine x_put C hT hS (ci := 10) (k := 0) (v := .int 0) (ty0 := tyX10) rfl inX10 tyX10_ok nmX10 (by decide) rfl wF_X10_167 ga0 rg_112 rfl rfl (okI (i_rng (0 : Int32)).1 (i_rng (0 : Int32)).2) rfl rfl (AE_in ga0 (by decide)) dX10_job_2 (fun H217 locsH217 hTH217 hSH217 wH217 => ?_)
  have mf218 : MF K s.heap H217 a0 [0] := MF.fld hap wH217 (by decide) (by decide) mf0
  have g219 : CG (avw K H217 a0) := CG.congr (fun k hk j => av_fld hT ga0 hap wH217 (by decide) (CG_ok 112 (by decide) k hk) (CG_ne 0 (by decide) k hk)) hg_CG
  have g220 : TU (avw K H217 a0) (svw K H217 a0) := TU.congr (fun k hk j => av_fld hT ga0 hap wH217 (by decide) (TU_ok 112 (by decide) k hk) (TU_ne 0 (by decide) k hk)) (fun k hk => sv_fld hap wH217 (by decide) (TU_slt k hk) (TU_sne 0 (by decide) k hk)) hg_TU
  have g221 : WD (avw K H217 a0) := WD.congr (fun k hk j => av_fld hT ga0 hap wH217 (by decide) (WD_ok 112 (by decide) k hk) (WD_ne 0 (by decide) k hk)) hg_WD
  have g222 : IM (avw K H217 a0) := IM.congr (fun k hk j => av_fld hT ga0 hap wH217 (by decide) (IM_ok 112 (by decide) k hk) (IM_ne 0 (by decide) k hk)) hg_IM
  have m223 := Wr.I wH217
  refine lv_aload_n hx hb dX10_job_5 rfl (lv_at hl 0 rfl) ?_
  refine lv_iload_n hx hb dX10_job_6 rfl (lv_at hl 1 rfl) ?_
  refine lv_iconst (v := 0) hx hb dX10_job_7 (by decide) ?_
  refine lv_iconst (v := 3) hx hb dX10_job_8 (by decide) ?_
  refine x_V (As := [.int x1, .int 0, .int 3]) (rest := []) C (a_X10_isIn_v l K G H217 (x1) (0) (3) hTH217 ga0) yo_X10_isIn wM_X10_177 ⟨⟨by decide, by decide⟩, by decide, by decide⟩ (x_rv C hTH217 (ci := 10) rfl ga0 rg_112) rfl hl.1 rfl (Nat.le_of_ble_eq_true rfl) dX10_job_9 hSH217 (AE_sub (fun _ _ => rfl) (by decide) hSH217.1) (fun vH224 H224 locsH224 pH224 zH224 kH224 hSH224 => ?_)
  obtain ⟨x225, hvH224, bx225, hrH224, hTH224⟩ := pH224
  subst hvH224
  have mf226 : MF K s.heap H224 a0 [0] := MF.eff (x_lt hTH217 kH224 ga0 (by decide)) mf218
  have g227 : CG (avw K H224 a0) := CG.congr (fun k hk j => av_eff hTH217 kH224 ga0 (by decide) (CG_eff [] (by decide) k hk)) g219
  have g228 : TU (avw K H224 a0) (svw K H224 a0) := TU.congr (fun k hk j => av_eff hTH217 kH224 ga0 (by decide) (TU_eff [] (by decide) k hk)) (fun k hk => sv_eff hTH217 kH224 ga0 (by decide)) g220
  have g229 : WD (avw K H224 a0) := WD.congr (fun k hk j => av_eff hTH217 kH224 ga0 (by decide) (WD_eff [] (by decide) k hk)) g221
  have g230 : IM (avw K H224 a0) := IM.congr (fun k hk j => av_eff hTH217 kH224 ga0 (by decide) (IM_eff [] (by decide) k hk)) g222
  have m231 := (fI_kept (x_lt hTH217 kH224 ga0 (by decide))).trans m223
  refine W.eq (g2 := F0 m 12 ls [.int x225]) rfl ?_
  refine lv_if_eq (tgt := 23) hx hb dX10_job_12 (by decide) (fun c232 => ?_) (fun c232 => ?_)
  · have k233 := i_eq c232
    refine lv_iconst (v := (-1)) hx hb dX10_job_23 (by decide) ?_
    exact x_iret C hQ dX10_job_24 hSH224 (by decide) (by decide) (⟨(-1), rfl, by decide, g227, g228, g229, g230, mf226, hTH224⟩)
  · have k233 := i_ne c232
    refine lv_aload_n hx hb dX10_job_15 rfl (lv_at hl 0 rfl) ?_
    refine lv_iload_n hx hb dX10_job_16 rfl (lv_at hl 2 rfl) ?_
    obtain ⟨x234, ex234⟩ : ∃ z : Int32, z = fI H224 a0 (K.1.2 10 1) := ⟨_, rfl⟩
    have bx234 := ty_fi (x := x234) (k := 1) ex234 hTH224 ga0 rg_112 rfl
    refine x_V (As := [.int x2]) (rest := []) C (a_X10_isBar l K G H224 (x2) (x234) hTH224 ga0 ex234) yo_X10_isBar wM_X10_173 ⟨⟨by decide, by decide⟩, by decide, by decide⟩ (x_rv C hTH224 (ci := 10) rfl ga0 rg_112) rfl hl.1 rfl (Nat.le_of_ble_eq_true rfl) dX10_job_17 hSH224 (AE_sub (fun _ _ => rfl) (by decide) hSH224.1) (fun vH235 H235 locsH235 pH235 zH235 kH235 hSH235 => ?_)
    obtain ⟨x236, hvH235, bx236, hrH235, hTH235⟩ := pH235
    subst hvH235
    clear m223
    have mf237 : MF K s.heap H235 a0 [0] := MF.eff (x_lt hTH224 kH235 ga0 (by decide)) mf226
    have g238 : CG (avw K H235 a0) := CG.congr (fun k hk j => av_eff hTH224 kH235 ga0 (by decide) (CG_eff [] (by decide) k hk)) g227
    have g239 : TU (avw K H235 a0) (svw K H235 a0) := TU.congr (fun k hk j => av_eff hTH224 kH235 ga0 (by decide) (TU_eff [] (by decide) k hk)) (fun k hk => sv_eff hTH224 kH235 ga0 (by decide)) g228
    have g240 : WD (avw K H235 a0) := WD.congr (fun k hk j => av_eff hTH224 kH235 ga0 (by decide) (WD_eff [] (by decide) k hk)) g229
    have g241 : IM (avw K H235 a0) := IM.congr (fun k hk j => av_eff hTH224 kH235 ga0 (by decide) (IM_eff [] (by decide) k hk)) g230
    have m242 := (fI_kept (x_lt hTH224 kH235 ga0 (by decide))).trans m231
    have m243 := (ex234).trans (fI_kept (x_lt hTH224 kH235 ga0 (by decide))).symm
    refine W.eq (g2 := F0 m 20 ls [.int x236]) rfl ?_
    refine lv_if_ne (tgt := 25) hx hb dX10_job_20 (by decide) (fun c244 => ?_) (fun c244 => ?_)
    · have k245 := i_ne c244
      exfalso
      omega
    · have k245 := i_eq c244
      refine lv_iconst (v := (-1)) hx hb dX10_job_23 (by decide) ?_
      exact x_iret C hQ dX10_job_24 hSH235 (by decide) (by decide) (⟨(-1), rfl, by decide, g238, g239, g240, g241, mf237, hTH235⟩)
