set_option maxHeartbeats 4000000 in
set_option maxRecDepth 100000 in
theorem a_X9_night_r (l : Launch) (K : KE) (G : Nat → Option Nat) (H : Heap) {a0 : Nat} (x1 : Int32) (x2 : Int32) {wq : Nat} {nq : Nat} {lq : Nat} {kq : Nat} (s1 : Int32) (s4 : Int32) (s5 : Int32) (s10 : Int32) (s13 : Int32) (s16 : Int32) (hT : TY K G H) (ga0 : G a0 = some 68) (gwq : G wq = some 0) (ewq : wq = fR H a0 (K.1.2 9 0)) (gnq : G nq = some 31) (enq : nq = fR H wq (K.1.2 8 12)) (glq : G lq = some 32) (elq : lq = fR H wq (K.1.2 8 14)) (gkq : G kq = some 33) (ekq : kq = fR H wq (K.1.2 8 15)) (es1 : s1 = fI H wq (K.1.2 8 1)) (es4 : s4 = fI H wq (K.1.2 8 4)) (es5 : s5 = fI H wq (K.1.2 8 5)) (es10 : s10 = fI H wq (K.1.2 8 10)) (es13 : s13 = fI H wq (K.1.2 8 13)) (es16 : s16 = fI H wq (K.1.2 8 16)) : MX l K yX9_night cX9_night 3 (some .int) 2 43 0 0 [.ref a0, .int x1, .int x2] H (AE G [0, 28, 29] H.size) (fun v H1 => ∃ (r : Int32) (t0 : Int32) (t1 : Int32) (t2 : Int32) (t3 : Int32) (t4 : Int32) (t5 : Int32), v = some (.int r) ∧ t0 = fI H1 wq (K.1.2 8 1) ∧ t1 = fI H1 wq (K.1.2 8 4) ∧ t2 = fI H1 wq (K.1.2 8 5) ∧ t3 = fI H1 wq (K.1.2 8 10) ∧ t4 = fI H1 wq (K.1.2 8 13) ∧ t5 = fI H1 wq (K.1.2 8 16) ∧ (((-20 ≤ x1.toInt ∧ x1.toInt ≤ 50 ∧ 0 ≤ x2.toInt ∧ x2.toInt ≤ 99 ∧ s10.toInt ≤ 19 ∧ r.toInt = s10.toInt ∧ t3.toInt = s10.toInt + 1) ∨ ((x1.toInt < -20 ∨ 50 < x1.toInt ∨ x2.toInt < 0 ∨ 99 < x2.toInt ∨ 19 < s10.toInt) ∧ r.toInt = -1 ∧ t3.toInt = s10.toInt)) ∧ t0.toInt = s1.toInt ∧ t1.toInt = s4.toInt ∧ t2.toInt = s5.toInt ∧ t4.toInt = s13.toInt ∧ t5.toInt = s16.toInt) ∧ nq = fR H1 wq (K.1.2 8 12) ∧ lq = fR H1 wq (K.1.2 8 14) ∧ kq = fR H1 wq (K.1.2 8 15) ∧ TY K G H1) := by
  refine MX.of (by decide +kernel) (Nat.le_of_ble_eq_true rfl) ?_
  intro p e s m below meth c ls Q C hH hl hQ
  subst hH
  have C : CX p K s m _ meth c RX9 cX9_night 3 (some .int) "night" := C
  obtain ⟨hx, hb, hml, hown, hts, hKT, hr, hlocks, hnm⟩ := id C
  have hl : lv_has ls 3 [(0, .ref a0), (1, .int x1), (2, .int x2)] := hl
  have hS : va_S (AE G [0, 28, 29] s.heap.size) s.heap s.heap [] := va_S.rf
  have n_m1 : ((-1) : Int32).toInt = -1 := rfl
  have n_0 : (0 : Int32).toInt = 0 := rfl
  have n_1 : (1 : Int32).toInt = 1 := rfl
  have n_20 : (20 : Int32).toInt = 20 := rfl
  have bs1 := ty_fi (x := s1) (k := 1) es1 hT gwq rg_0 rfl
  have bs4 := ty_fi (x := s4) (k := 4) es4 hT gwq rg_0 rfl
  have bs5 := ty_fi (x := s5) (k := 5) es5 hT gwq rg_0 rfl
  have bs10 := ty_fi (x := s10) (k := 10) es10 hT gwq rg_0 rfl
  have bs13 := ty_fi (x := s13) (k := 13) es13 hT gwq rg_0 rfl
  have bs16 := ty_fi (x := s16) (k := 16) es16 hT gwq rg_0 rfl
  refine lv_iload_n hx hb dX9_night_0 rfl (lv_at hl 1 rfl) ?_
  refine lv_iload_n hx hb dX9_night_1 rfl (lv_at hl 2 rfl) ?_
  refine x_S (As := [.int x1, .int x2]) (rest := []) C (c_X9_isAir l K G s.heap (x1) (x2) hT) yo_X9_isAir wM_X9_275 ⟨⟨by decide, by decide⟩, by decide, by decide⟩ rfl hl.1 rfl (Nat.le_of_ble_eq_true rfl) dX9_night_2 hS (AE_sub (fun _ _ => rfl) (by decide) hS.1) (fun vH369 H369 locsH369 pH369 zH369 kH369 hSH369 => ?_)
  have hqH369 := pH369.1.symm
  subst hqH369
  rcases pH369.2 with ⟨hvH369, hcH369⟩ | ⟨hvH369, hcH369⟩
  · subst hvH369
    refine W.eq (g2 := F0 m 5 ls [.int 1]) rfl ?_
    refine lv_if_eq (tgt := 20) hx hb dX9_night_5 (by decide) (fun c370 => ?_) (fun c370 => ?_)
    · have k371 := i_eq c370
      exfalso
      omega
    · have k371 := i_ne c370
      refine lv_aload_n hx hb dX9_night_8 rfl (lv_at hl 0 rfl) ?_
      refine x_gr C hT (ci := 9) (k := 0) rfl inX9 (by decide) wF_X9_12 ga0 rg_68 rfl dX9_night_9 (fun q372 eq372 gq372 => ?_)
      have uq372 : wq = q372 := (ewq).trans eq372.symm
      subst uq372
      refine x_gi C hT (ci := 8) (k := 10) rfl inX8 (by decide) wF_X9_293 gwq rg_0 rfl dX9_night_12 (fun x373 ex373 bx373 => ?_)
      have ux373 : s10 = x373 := (es10).trans ex373.symm
      subst ux373
      refine lv_bipush (v := 20) hx hb dX9_night_15 (by decide) ?_
      refine lv_icmp_lt (tgt := 22) hx hb dX9_night_17 (by decide) (fun c374 => ?_) (fun c374 => ?_)
      · have k375 := i_lt c374
        refine lv_aload_n hx hb dX9_night_22 rfl (lv_at hl 0 rfl) ?_
        refine x_gr C hT (ci := 9) (k := 0) rfl inX9 (by decide) wF_X9_12 ga0 rg_68 rfl dX9_night_23 (fun q376 eq376 gq376 => ?_)
        have uq376 : wq = q376 := (ewq).trans eq376.symm
        subst uq376
        refine x_gr C hT (ci := 8) (k := 8) rfl inX8 (by decide) wF_X9_296 gwq rg_0 rfl dX9_night_26 (fun q377 eq377 gq377 => ?_)
        refine lv_aload_n hx hb dX9_night_29 rfl (lv_at hl 0 rfl) ?_
        refine x_gr C hT (ci := 9) (k := 0) rfl inX9 (by decide) wF_X9_12 ga0 rg_68 rfl dX9_night_30 (fun q378 eq378 gq378 => ?_)
        have uq378 : wq = q378 := (ewq).trans eq378.symm
        subst uq378
        refine x_gi C hT (ci := 8) (k := 10) rfl inX8 (by decide) wF_X9_293 gwq rg_0 rfl dX9_night_33 (fun x379 ex379 bx379 => ?_)
        have ux379 : s10 = x379 := (es10).trans ex379.symm
        subst ux379
        refine lv_iload_n hx hb dX9_night_36 rfl (lv_at hl 1 rfl) ?_
        refine x_iast C hT hSH369 gq377 rg_28 (by omega) (by show _ < ((20 : Nat) : Int); omega) ⟨by have := i_rng x1; omega, by have := i_rng x1; omega⟩ (AE_in gq377 (by decide)) dX9_night_37 (fun H380 locsH380 hTH380 hSH380 wH380 => ?_)
        have m381 := ewq.trans (Wr.neR wH380 (Or.inl (G_ne ga0 gq377 (by decide)))).symm
        have m382 := enq.trans (Wr.neR wH380 (Or.inl (G_ne gwq gq377 (by decide)))).symm
        have m383 := elq.trans (Wr.neR wH380 (Or.inl (G_ne gwq gq377 (by decide)))).symm
        have m384 := ekq.trans (Wr.neR wH380 (Or.inl (G_ne gwq gq377 (by decide)))).symm
        have m385 := es1.trans (Wr.neI wH380 (Or.inl (G_ne gwq gq377 (by decide)))).symm
        have m386 := es4.trans (Wr.neI wH380 (Or.inl (G_ne gwq gq377 (by decide)))).symm
        have m387 := es5.trans (Wr.neI wH380 (Or.inl (G_ne gwq gq377 (by decide)))).symm
        have m388 := es10.trans (Wr.neI wH380 (Or.inl (G_ne gwq gq377 (by decide)))).symm
        have m389 := es13.trans (Wr.neI wH380 (Or.inl (G_ne gwq gq377 (by decide)))).symm
        have m390 := es16.trans (Wr.neI wH380 (Or.inl (G_ne gwq gq377 (by decide)))).symm
        have m391 := eq377.trans (Wr.neR wH380 (Or.inl (G_ne gwq gq377 (by decide)))).symm
        have m392 := Wr.I wH380
        have m392 := m392.symm
        refine lv_aload_n hx hb dX9_night_38 rfl (lv_at hl 0 rfl) ?_
        refine x_gr C hTH380 (ci := 9) (k := 0) rfl inX9 (by decide) wF_X9_12 ga0 rg_68 rfl dX9_night_39 (fun q393 eq393 gq393 => ?_)
        have uq393 : wq = q393 := (m381).trans eq393.symm
        subst uq393
        refine x_gr C hTH380 (ci := 8) (k := 9) rfl inX8 (by decide) wF_X9_299 gwq rg_0 rfl dX9_night_42 (fun q394 eq394 gq394 => ?_)
        refine lv_aload_n hx hb dX9_night_45 rfl (lv_at hl 0 rfl) ?_
        refine x_gr C hTH380 (ci := 9) (k := 0) rfl inX9 (by decide) wF_X9_12 ga0 rg_68 rfl dX9_night_46 (fun q395 eq395 gq395 => ?_)
        have uq395 : wq = q395 := (m381).trans eq395.symm
        subst uq395
        refine x_gi C hTH380 (ci := 8) (k := 10) rfl inX8 (by decide) wF_X9_293 gwq rg_0 rfl dX9_night_49 (fun x396 ex396 bx396 => ?_)
        have ux396 : s10 = x396 := (m388).trans ex396.symm
        subst ux396
        refine lv_iload_n hx hb dX9_night_52 rfl (lv_at hl 2 rfl) ?_
        refine x_iast C hTH380 hSH380 gq394 rg_29 (by omega) (by show _ < ((20 : Nat) : Int); omega) ⟨by have := i_rng x2; omega, by have := i_rng x2; omega⟩ (AE_in gq394 (by decide)) dX9_night_53 (fun H397 locsH397 hTH397 hSH397 wH397 => ?_)
        have m398 := m381.trans (Wr.neR wH397 (Or.inl (G_ne ga0 gq394 (by decide)))).symm
        have m399 := m382.trans (Wr.neR wH397 (Or.inl (G_ne gwq gq394 (by decide)))).symm
        have m400 := m383.trans (Wr.neR wH397 (Or.inl (G_ne gwq gq394 (by decide)))).symm
        have m401 := m384.trans (Wr.neR wH397 (Or.inl (G_ne gwq gq394 (by decide)))).symm
        have m402 := m385.trans (Wr.neI wH397 (Or.inl (G_ne gwq gq394 (by decide)))).symm
        have m403 := m386.trans (Wr.neI wH397 (Or.inl (G_ne gwq gq394 (by decide)))).symm
        have m404 := m387.trans (Wr.neI wH397 (Or.inl (G_ne gwq gq394 (by decide)))).symm
        have m405 := m388.trans (Wr.neI wH397 (Or.inl (G_ne gwq gq394 (by decide)))).symm
        have m406 := m389.trans (Wr.neI wH397 (Or.inl (G_ne gwq gq394 (by decide)))).symm
        have m407 := m390.trans (Wr.neI wH397 (Or.inl (G_ne gwq gq394 (by decide)))).symm
        have m408 := m391.trans (Wr.neR wH397 (Or.inl (G_ne gwq gq394 (by decide)))).symm
        have m409 := m392.trans (Wr.neI wH397 (Or.inl (G_ne gq377 gq394 (by decide)))).symm
        have m410 := eq394.trans (Wr.neR wH397 (Or.inl (G_ne gwq gq394 (by decide)))).symm
        have m411 := Wr.I wH397
        have m411 := m411.symm
        refine lv_aload_n hx hb dX9_night_54 rfl (lv_at hl 0 rfl) ?_
        refine x_gr C hTH397 (ci := 9) (k := 0) rfl inX9 (by decide) wF_X9_12 ga0 rg_68 rfl dX9_night_55 (fun q412 eq412 gq412 => ?_)
        have uq412 : wq = q412 := (m398).trans eq412.symm
        subst uq412
        refine lv_dup hx hb dX9_night_58 rfl ?_
        refine x_gi C hTH397 (ci := 8) (k := 10) rfl inX8 (by decide) wF_X9_293 gwq rg_0 rfl dX9_night_59 (fun x413 ex413 bx413 => ?_)
        have ux413 : s10 = x413 := (m405).trans ex413.symm
        subst ux413
        refine lv_iconst (v := 1) hx hb dX9_night_62 (by decide) ?_
        refine lv_iadd hx hb dX9_night_63 ?_
        refine lv_topi (fun x414 ex414 => ?_)
        have tx414 := i_add ex414 (by omega)
        refine x_put C hTH397 hSH397 (ci := 8) (k := 10) (v := .int x414) (ty0 := tyX8) rfl inX8 tyX8_ok nmX8 (by decide) rfl wF_X9_293 gwq rg_0 rfl rfl (okI (by have := i_rng x414; omega) (by have := i_rng x414; omega)) rfl rfl (AE_in gwq (by decide)) dX9_night_64 (fun H415 locsH415 hTH415 hSH415 wH415 => ?_)
        have m416 := m398.trans (Wr.neR wH415 (Or.inl (G_ne ga0 gwq (by decide)))).symm
        have m417 := m399.trans (Wr.neR wH415 (Or.inr (x_apart hKT hts inX8 tyX8 tyX8_ok nmX8 rfl 12 10 (by decide) (by decide) (by decide)))).symm
        have m418 := m400.trans (Wr.neR wH415 (Or.inr (x_apart hKT hts inX8 tyX8 tyX8_ok nmX8 rfl 14 10 (by decide) (by decide) (by decide)))).symm
        have m419 := m401.trans (Wr.neR wH415 (Or.inr (x_apart hKT hts inX8 tyX8 tyX8_ok nmX8 rfl 15 10 (by decide) (by decide) (by decide)))).symm
        have m420 := m402.trans (Wr.neI wH415 (Or.inr (x_apart hKT hts inX8 tyX8 tyX8_ok nmX8 rfl 1 10 (by decide) (by decide) (by decide)))).symm
        have m421 := m403.trans (Wr.neI wH415 (Or.inr (x_apart hKT hts inX8 tyX8 tyX8_ok nmX8 rfl 4 10 (by decide) (by decide) (by decide)))).symm
        have m422 := m404.trans (Wr.neI wH415 (Or.inr (x_apart hKT hts inX8 tyX8 tyX8_ok nmX8 rfl 5 10 (by decide) (by decide) (by decide)))).symm
        have m424 := m406.trans (Wr.neI wH415 (Or.inr (x_apart hKT hts inX8 tyX8 tyX8_ok nmX8 rfl 13 10 (by decide) (by decide) (by decide)))).symm
        have m425 := m407.trans (Wr.neI wH415 (Or.inr (x_apart hKT hts inX8 tyX8 tyX8_ok nmX8 rfl 16 10 (by decide) (by decide) (by decide)))).symm
        have m426 := m408.trans (Wr.neR wH415 (Or.inr (x_apart hKT hts inX8 tyX8 tyX8_ok nmX8 rfl 8 10 (by decide) (by decide) (by decide)))).symm
        have m427 := m409.trans (Wr.neI wH415 (Or.inl (G_ne gq377 gwq (by decide)))).symm
        have m428 := m410.trans (Wr.neR wH415 (Or.inr (x_apart hKT hts inX8 tyX8 tyX8_ok nmX8 rfl 9 10 (by decide) (by decide) (by decide)))).symm
        have m429 := m411.trans (Wr.neI wH415 (Or.inl (G_ne gq394 gwq (by decide)))).symm
        have m430 := Wr.I wH415
        have m430 := m430.symm
        refine lv_aload_n hx hb dX9_night_67 rfl (lv_at hl 0 rfl) ?_
        refine x_gr C hTH415 (ci := 9) (k := 0) rfl inX9 (by decide) wF_X9_12 ga0 rg_68 rfl dX9_night_68 (fun q431 eq431 gq431 => ?_)
        have uq431 : wq = q431 := (m416).trans eq431.symm
        subst uq431
        refine x_gi C hTH415 (ci := 8) (k := 10) rfl inX8 (by decide) wF_X9_293 gwq rg_0 rfl dX9_night_71 (fun x432 ex432 bx432 => ?_)
        have ux432 : x414 = x432 := (m430).trans ex432.symm
        subst ux432
        refine lv_iconst (v := 1) hx hb dX9_night_74 (by decide) ?_
        refine lv_isub hx hb dX9_night_75 ?_
        refine lv_topi (fun x433 ex433 => ?_)
        have tx433 := i_sub ex433 (by omega)
        exact x_iret C hQ dX9_night_76 hSH415 (by decide) (by decide) (⟨x433, s1, s4, s5, x414, s13, s16, rfl, m420, m421, m422, m430, m424, m425, by omega, m417, m418, m419, hTH415⟩)
      · have k375 := i_nlt c374
        refine lv_iconst (v := (-1)) hx hb dX9_night_20 (by decide) ?_
        exact x_iret C hQ dX9_night_21 hSH369 (by decide) (by decide) (⟨(-1), s1, s4, s5, s10, s13, s16, rfl, es1, es4, es5, es10, es13, es16, by omega, enq, elq, ekq, hT⟩)
  · subst hvH369
    refine W.eq (g2 := F0 m 5 ls [.int 0]) rfl ?_
    refine lv_if_eq (tgt := 20) hx hb dX9_night_5 (by decide) (fun c434 => ?_) (fun c434 => ?_)
    · have k435 := i_eq c434
      refine lv_iconst (v := (-1)) hx hb dX9_night_20 (by decide) ?_
      exact x_iret C hQ dX9_night_21 hSH369 (by decide) (by decide) (⟨(-1), s1, s4, s5, s10, s13, s16, rfl, es1, es4, es5, es10, es13, es16, by omega, enq, elq, ekq, hT⟩)
    · have k435 := i_ne c434
      exfalso
      omega

set_option maxHeartbeats 4000000 in
set_option maxRecDepth 100000 in
theorem a_X10_night_r (l : Launch) (K : KE) (G : Nat → Option Nat) (H : Heap) {a0 : Nat} (x1 : Int32) (x2 : Int32) (s10 : Int32) (hT : TY K G H) (ga0 : G a0 = some 112) (es10 : s10 = fI H a0 (K.1.2 10 59)) (hg_CG : CG (avw K H a0)) (hg_TU : TU (avw K H a0) (svw K H a0)) (hg_WD : WD (avw K H a0)) (hg_IM : IM (avw K H a0)) : MX l K yX10_night cX10_night 3 (some .int) 2 44 0 0 [.ref a0, .int x1, .int x2] H (AE G [112, 154, 155] H.size) (fun v H1 => ∃ (r : Int32) (t0 : Int32), v = some (.int r) ∧ t0 = fI H1 a0 (K.1.2 10 59) ∧ ((-20 ≤ x1.toInt ∧ x1.toInt ≤ 50 ∧ 0 ≤ x2.toInt ∧ x2.toInt ≤ 99 ∧ s10.toInt ≤ 19 ∧ r.toInt = s10.toInt ∧ t0.toInt = s10.toInt + 1) ∨ ((x1.toInt < -20 ∨ 50 < x1.toInt ∨ x2.toInt < 0 ∨ 99 < x2.toInt ∨ 19 < s10.toInt) ∧ r.toInt = -1 ∧ t0.toInt = s10.toInt)) ∧ (CG (avw K H1 a0)) ∧ (TU (avw K H1 a0) (svw K H1 a0)) ∧ (WD (avw K H1 a0)) ∧ (IM (avw K H1 a0)) ∧ MF K H H1 a0 [0, 59] ∧ TY K G H1) := by
  refine MX.of (by decide +kernel) (Nat.le_of_ble_eq_true rfl) ?_
  intro p e s m below meth c ls Q C hH hl hQ
  subst hH
  have C : CX p K s m _ meth c RX10 cX10_night 3 (some .int) "night" := C
  obtain ⟨hx, hb, hml, hown, hts, hKT, hr, hlocks, hnm⟩ := id C
  have hl : lv_has ls 3 [(0, .ref a0), (1, .int x1), (2, .int x2)] := hl
  have hS : va_S (AE G [112, 154, 155] s.heap.size) s.heap s.heap [] := va_S.rf
  have n_m1 : ((-1) : Int32).toInt = -1 := rfl
  have n_0 : (0 : Int32).toInt = 0 := rfl
  have n_1 : (1 : Int32).toInt = 1 := rfl
  have n_20 : (20 : Int32).toInt = 20 := rfl
  have bs10 := ty_fi (x := s10) (k := 59) es10 hT ga0 rg_112 rfl
  have hap : ∀ x y, x < 74 → y < 74 → x ≠ y → K.1.2 10 x ≠ K.1.2 10 y := x_apart hKT hts inX10 tyX10 tyX10_ok nmX10 rfl
  have mf0 : MF K s.heap s.heap a0 [0, 59] := fun _ _ _ => rfl
  refine lv_aload_n hx hb dX10_night_0 rfl (lv_at hl 0 rfl) ?_
  refine lv_iconst (v := 0) hx hb dX10_night_1 (by decide) ?_
  refine x_put C hT hS (ci := 10) (k := 0) (v := .int 0) (ty0 := tyX10) rfl inX10 tyX10_ok nmX10 (by decide) rfl wF_X10_167 ga0 rg_112 rfl rfl (okI (by have := i_rng (0 : Int32); omega) (by have := i_rng (0 : Int32); omega)) rfl rfl (AE_in ga0 (by decide)) dX10_night_2 (fun H357 locsH357 hTH357 hSH357 wH357 => ?_)
  have mf358 : MF K s.heap H357 a0 [0, 59] := MF.fld hap wH357 (by decide) (by decide) mf0
  have g359 : CG (avw K H357 a0) := CG.congr (fun k hk j => av_fld hT ga0 hap wH357 (by decide) (CG_ok 112 (by decide) k hk) (CG_ne 0 (by decide) k hk)) hg_CG
  have g360 : TU (avw K H357 a0) (svw K H357 a0) := TU.congr (fun k hk j => av_fld hT ga0 hap wH357 (by decide) (TU_ok 112 (by decide) k hk) (TU_ne 0 (by decide) k hk)) (fun k hk => sv_fld hap wH357 (by decide) (TU_slt k hk) (TU_sne 0 (by decide) k hk)) hg_TU
  have g361 : WD (avw K H357 a0) := WD.congr (fun k hk j => av_fld hT ga0 hap wH357 (by decide) (WD_ok 112 (by decide) k hk) (WD_ne 0 (by decide) k hk)) hg_WD
  have g362 : IM (avw K H357 a0) := IM.congr (fun k hk j => av_fld hT ga0 hap wH357 (by decide) (IM_ok 112 (by decide) k hk) (IM_ne 0 (by decide) k hk)) hg_IM
  have m363 := es10.trans (Wr.neI wH357 (Or.inr (x_apart hKT hts inX10 tyX10 tyX10_ok nmX10 rfl 59 0 (by decide) (by decide) (by decide)))).symm
  have m364 := Wr.I wH357
  refine lv_aload_n hx hb dX10_night_5 rfl (lv_at hl 0 rfl) ?_
  refine lv_iload_n hx hb dX10_night_6 rfl (lv_at hl 1 rfl) ?_
  refine x_V (As := [.int x1]) (rest := []) C (c_X10_isHeat l K G H357 (x1) hTH357 ga0) yo_X10_isHeat wM_X10_428 ⟨⟨by decide, by decide⟩, by decide, by decide⟩ (x_rv C hTH357 (ci := 10) rfl ga0 rg_112) rfl hl.1 rfl (Nat.le_of_ble_eq_true rfl) dX10_night_7 hSH357 (AE_sub (fun _ _ => rfl) (by decide) hSH357.1) (fun vH365 H365 locsH365 pH365 zH365 kH365 hSH365 => ?_)
  have hqH365 := pH365.1.symm
  subst hqH365
  rcases pH365.2 with ⟨hvH365, hcH365⟩ | ⟨hvH365, hcH365⟩
  · subst hvH365
    refine W.eq (g2 := F0 m 10 ls [.int 1]) rfl ?_
    refine lv_if_eq (tgt := 30) hx hb dX10_night_10 (by decide) (fun c366 => ?_) (fun c366 => ?_)
    · have k367 := i_eq c366
      exfalso
      omega
    · have k367 := i_ne c366
      refine lv_aload_n hx hb dX10_night_13 rfl (lv_at hl 0 rfl) ?_
      refine lv_iload_n hx hb dX10_night_14 rfl (lv_at hl 2 rfl) ?_
      refine x_V (As := [.int x2]) (rest := []) C (c_X10_isWet l K G H357 (x2) hTH357 ga0) yo_X10_isWet wM_X10_431 ⟨⟨by decide, by decide⟩, by decide, by decide⟩ (x_rv C hTH357 (ci := 10) rfl ga0 rg_112) rfl hl.1 rfl (Nat.le_of_ble_eq_true rfl) dX10_night_15 hSH365 (AE_sub (fun _ _ => rfl) (by decide) hSH365.1) (fun vH368 H368 locsH368 pH368 zH368 kH368 hSH368 => ?_)
      have hqH368 := pH368.1.symm
      subst hqH368
      rcases pH368.2 with ⟨hvH368, hcH368⟩ | ⟨hvH368, hcH368⟩
      · subst hvH368
        refine W.eq (g2 := F0 m 18 ls [.int 1]) rfl ?_
        refine lv_if_eq (tgt := 30) hx hb dX10_night_18 (by decide) (fun c369 => ?_) (fun c369 => ?_)
        · have k370 := i_eq c369
          exfalso
          omega
        · have k370 := i_ne c369
          refine lv_aload_n hx hb dX10_night_21 rfl (lv_at hl 0 rfl) ?_
          refine x_gi C hTH357 (ci := 10) (k := 59) rfl inX10 (by decide) wF_X10_438 ga0 rg_112 rfl dX10_night_22 (fun x371 ex371 bx371 => ?_)
          have ux371 : s10 = x371 := (m363).trans ex371.symm
          subst ux371
          refine lv_bipush (v := 20) hx hb dX10_night_25 (by decide) ?_
          refine lv_icmp_ne (tgt := 32) hx hb dX10_night_27 (by decide) (fun c372 => ?_) (fun c372 => ?_)
          · have k373 := i_ne c372
            refine lv_aload_n hx hb dX10_night_32 rfl (lv_at hl 0 rfl) ?_
            refine x_gr C hTH357 (ci := 10) (k := 60) rfl inX10 (by decide) wF_X10_140 ga0 rg_112 rfl dX10_night_33 (fun q374 eq374 gq374 => ?_)
            refine lv_aload_n hx hb dX10_night_36 rfl (lv_at hl 0 rfl) ?_
            refine x_gi C hTH357 (ci := 10) (k := 59) rfl inX10 (by decide) wF_X10_438 ga0 rg_112 rfl dX10_night_37 (fun x375 ex375 bx375 => ?_)
            have ux375 : s10 = x375 := (m363).trans ex375.symm
            subst ux375
            refine lv_iload_n hx hb dX10_night_40 rfl (lv_at hl 1 rfl) ?_
            refine x_iast C hTH357 hSH368 gq374 rg_154 (by omega) (by show _ < ((20 : Nat) : Int); omega) ⟨by have := i_rng x1; omega, by have := i_rng x1; omega⟩ (AE_in gq374 (by decide)) dX10_night_41 (fun H376 locsH376 hTH376 hSH376 wH376 => ?_)
            have mf377 : MF K s.heap H376 a0 [0, 59] := MF.arr wH376 (G_ne ga0 gq374 (by decide)) mf358
            have g378 : CG (avw K H376 a0) := CG.congr (fun k hk j => av_arr hTH357 ga0 wH376 gq374 (by decide) (CG_ok 154 (by decide) k hk)) g359
            have g379 : TU (avw K H376 a0) (svw K H376 a0) := TU.congr (fun k hk j => av_arr hTH357 ga0 wH376 gq374 (by decide) (TU_ok 154 (by decide) k hk)) (fun k hk => sv_arr ga0 wH376 gq374 (by decide)) g360
            have g380 : WD (avw K H376 a0) := WD.congr (fun k hk j => av_arr hTH357 ga0 wH376 gq374 (by decide) (WD_ok 154 (by decide) k hk)) g361
            have g381 : IM (avw K H376 a0) := IM.congr (fun k hk j => av_arr hTH357 ga0 wH376 gq374 (by decide) (IM_ok 154 (by decide) k hk)) g362
            have m382 := m363.trans (Wr.neI wH376 (Or.inl (G_ne ga0 gq374 (by decide)))).symm
            have m383 := (Wr.neI wH376 (Or.inl (G_ne ga0 gq374 (by decide)))).trans m364
            have m384 := eq374.trans (Wr.neR wH376 (Or.inl (G_ne ga0 gq374 (by decide)))).symm
            have m385 := Wr.I wH376
            have m385 := m385.symm
            refine lv_aload_n hx hb dX10_night_42 rfl (lv_at hl 0 rfl) ?_
            refine x_gr C hTH376 (ci := 10) (k := 61) rfl inX10 (by decide) wF_X10_143 ga0 rg_112 rfl dX10_night_43 (fun q386 eq386 gq386 => ?_)
            refine lv_aload_n hx hb dX10_night_46 rfl (lv_at hl 0 rfl) ?_
            refine x_gi C hTH376 (ci := 10) (k := 59) rfl inX10 (by decide) wF_X10_438 ga0 rg_112 rfl dX10_night_47 (fun x387 ex387 bx387 => ?_)
            have ux387 : s10 = x387 := (m382).trans ex387.symm
            subst ux387
            refine lv_iload_n hx hb dX10_night_50 rfl (lv_at hl 2 rfl) ?_
            refine x_iast C hTH376 hSH376 gq386 rg_155 (by omega) (by show _ < ((20 : Nat) : Int); omega) ⟨by have := i_rng x2; omega, by have := i_rng x2; omega⟩ (AE_in gq386 (by decide)) dX10_night_51 (fun H388 locsH388 hTH388 hSH388 wH388 => ?_)
            have mf389 : MF K s.heap H388 a0 [0, 59] := MF.arr wH388 (G_ne ga0 gq386 (by decide)) mf377
            have g390 : CG (avw K H388 a0) := CG.congr (fun k hk j => av_arr hTH376 ga0 wH388 gq386 (by decide) (CG_ok 155 (by decide) k hk)) g378
            have g391 : TU (avw K H388 a0) (svw K H388 a0) := TU.congr (fun k hk j => av_arr hTH376 ga0 wH388 gq386 (by decide) (TU_ok 155 (by decide) k hk)) (fun k hk => sv_arr ga0 wH388 gq386 (by decide)) g379
            have g392 : WD (avw K H388 a0) := WD.congr (fun k hk j => av_arr hTH376 ga0 wH388 gq386 (by decide) (WD_ok 155 (by decide) k hk)) g380
            have g393 : IM (avw K H388 a0) := IM.congr (fun k hk j => av_arr hTH376 ga0 wH388 gq386 (by decide) (IM_ok 155 (by decide) k hk)) g381
            have m394 := m382.trans (Wr.neI wH388 (Or.inl (G_ne ga0 gq386 (by decide)))).symm
            have m395 := (Wr.neI wH388 (Or.inl (G_ne ga0 gq386 (by decide)))).trans m383
            have m396 := m384.trans (Wr.neR wH388 (Or.inl (G_ne ga0 gq386 (by decide)))).symm
            have m397 := m385.trans (Wr.neI wH388 (Or.inl (G_ne gq374 gq386 (by decide)))).symm
            have m398 := eq386.trans (Wr.neR wH388 (Or.inl (G_ne ga0 gq386 (by decide)))).symm
            have m399 := Wr.I wH388
            have m399 := m399.symm
            refine lv_aload_n hx hb dX10_night_52 rfl (lv_at hl 0 rfl) ?_
            refine lv_aload_n hx hb dX10_night_53 rfl (lv_at hl 0 rfl) ?_
            refine x_gi C hTH388 (ci := 10) (k := 59) rfl inX10 (by decide) wF_X10_438 ga0 rg_112 rfl dX10_night_54 (fun x400 ex400 bx400 => ?_)
            have ux400 : s10 = x400 := (m394).trans ex400.symm
            subst ux400
            refine lv_iconst (v := 1) hx hb dX10_night_57 (by decide) ?_
            refine lv_iadd hx hb dX10_night_58 ?_
            refine lv_topi (fun x401 ex401 => ?_)
            have tx401 := i_add ex401 (by omega)
            refine x_put C hTH388 hSH388 (ci := 10) (k := 59) (v := .int x401) (ty0 := tyX10) rfl inX10 tyX10_ok nmX10 (by decide) rfl wF_X10_438 ga0 rg_112 rfl rfl (okI (by have := i_rng x401; omega) (by have := i_rng x401; omega)) rfl rfl (AE_in ga0 (by decide)) dX10_night_59 (fun H402 locsH402 hTH402 hSH402 wH402 => ?_)
            have mf403 : MF K s.heap H402 a0 [0, 59] := MF.fld hap wH402 (by decide) (by decide) mf389
            have g404 : CG (avw K H402 a0) := CG.congr (fun k hk j => av_fld hTH388 ga0 hap wH402 (by decide) (CG_ok 112 (by decide) k hk) (CG_ne 59 (by decide) k hk)) g390
            have g405 : TU (avw K H402 a0) (svw K H402 a0) := TU.congr (fun k hk j => av_fld hTH388 ga0 hap wH402 (by decide) (TU_ok 112 (by decide) k hk) (TU_ne 59 (by decide) k hk)) (fun k hk => sv_fld hap wH402 (by decide) (TU_slt k hk) (TU_sne 59 (by decide) k hk)) g391
            have g406 : WD (avw K H402 a0) := WD.congr (fun k hk j => av_fld hTH388 ga0 hap wH402 (by decide) (WD_ok 112 (by decide) k hk) (WD_ne 59 (by decide) k hk)) g392
            have g407 : IM (avw K H402 a0) := IM.congr (fun k hk j => av_fld hTH388 ga0 hap wH402 (by decide) (IM_ok 112 (by decide) k hk) (IM_ne 59 (by decide) k hk)) g393
            have m409 := (Wr.neI wH402 (Or.inr (x_apart hKT hts inX10 tyX10 tyX10_ok nmX10 rfl 0 59 (by decide) (by decide) (by decide)))).trans m395
            have m410 := m396.trans (Wr.neR wH402 (Or.inr (x_apart hKT hts inX10 tyX10 tyX10_ok nmX10 rfl 60 59 (by decide) (by decide) (by decide)))).symm
            have m411 := m397.trans (Wr.neI wH402 (Or.inl (G_ne gq374 ga0 (by decide)))).symm
            have m412 := m398.trans (Wr.neR wH402 (Or.inr (x_apart hKT hts inX10 tyX10 tyX10_ok nmX10 rfl 61 59 (by decide) (by decide) (by decide)))).symm
            have m413 := m399.trans (Wr.neI wH402 (Or.inl (G_ne gq386 ga0 (by decide)))).symm
            have m414 := Wr.I wH402
            have m414 := m414.symm
            refine lv_aload_n hx hb dX10_night_62 rfl (lv_at hl 0 rfl) ?_
            refine x_gi C hTH402 (ci := 10) (k := 59) rfl inX10 (by decide) wF_X10_438 ga0 rg_112 rfl dX10_night_63 (fun x415 ex415 bx415 => ?_)
            have ux415 : x401 = x415 := (m414).trans ex415.symm
            subst ux415
            refine lv_iconst (v := 1) hx hb dX10_night_66 (by decide) ?_
            refine lv_isub hx hb dX10_night_67 ?_
            refine lv_topi (fun x416 ex416 => ?_)
            have tx416 := i_sub ex416 (by omega)
            exact x_iret C hQ dX10_night_68 hSH402 (by decide) (by decide) (⟨x416, x401, rfl, m414, by omega, g404, g405, g406, g407, mf403, hTH402⟩)
          · have k373 := i_eq c372
            refine lv_iconst (v := (-1)) hx hb dX10_night_30 (by decide) ?_
            exact x_iret C hQ dX10_night_31 hSH368 (by decide) (by decide) (⟨(-1), s10, rfl, m363, by omega, g359, g360, g361, g362, mf358, hTH357⟩)
      · subst hvH368
        refine W.eq (g2 := F0 m 18 ls [.int 0]) rfl ?_
        refine lv_if_eq (tgt := 30) hx hb dX10_night_18 (by decide) (fun c417 => ?_) (fun c417 => ?_)
        · have k418 := i_eq c417
          refine lv_iconst (v := (-1)) hx hb dX10_night_30 (by decide) ?_
          exact x_iret C hQ dX10_night_31 hSH368 (by decide) (by decide) (⟨(-1), s10, rfl, m363, by omega, g359, g360, g361, g362, mf358, hTH357⟩)
        · have k418 := i_ne c417
          exfalso
          omega
  · subst hvH365
    refine W.eq (g2 := F0 m 10 ls [.int 0]) rfl ?_
    refine lv_if_eq (tgt := 30) hx hb dX10_night_10 (by decide) (fun c419 => ?_) (fun c419 => ?_)
    · have k420 := i_eq c419
      refine lv_iconst (v := (-1)) hx hb dX10_night_30 (by decide) ?_
      exact x_iret C hQ dX10_night_31 hSH365 (by decide) (by decide) (⟨(-1), s10, rfl, m363, by omega, g359, g360, g361, g362, mf358, hTH357⟩)
    · have k420 := i_ne c419
      exfalso
      omega

set_option maxHeartbeats 4000000 in
set_option maxRecDepth 100000 in
theorem a_X9_bar_r (l : Launch) (K : KE) (G : Nat → Option Nat) (H : Heap) {a0 : Nat} (x1 : Int32) {wq : Nat} {nq : Nat} {lq : Nat} {kq : Nat} (s1 : Int32) (s4 : Int32) (s5 : Int32) (s10 : Int32) (s13 : Int32) (s16 : Int32) (hT : TY K G H) (ga0 : G a0 = some 68) (gwq : G wq = some 0) (ewq : wq = fR H a0 (K.1.2 9 0)) (gnq : G nq = some 31) (enq : nq = fR H wq (K.1.2 8 12)) (glq : G lq = some 32) (elq : lq = fR H wq (K.1.2 8 14)) (gkq : G kq = some 33) (ekq : kq = fR H wq (K.1.2 8 15)) (es1 : s1 = fI H wq (K.1.2 8 1)) (es4 : s4 = fI H wq (K.1.2 8 4)) (es5 : s5 = fI H wq (K.1.2 8 5)) (es10 : s10 = fI H wq (K.1.2 8 10)) (es13 : s13 = fI H wq (K.1.2 8 13)) (es16 : s16 = fI H wq (K.1.2 8 16)) : MX l K yX9_bar cX9_bar 2 (some .int) 2 44 0 0 [.ref a0, .int x1] H (AE G [0, 1, 2, 3, 4, 5, 6, 15] H.size) (fun v H1 => ∃ (r : Int32) (t0 : Int32) (t1 : Int32) (t2 : Int32) (t3 : Int32) (t4 : Int32) (t5 : Int32), v = some (.int r) ∧ t0 = fI H1 wq (K.1.2 8 1) ∧ t1 = fI H1 wq (K.1.2 8 4) ∧ t2 = fI H1 wq (K.1.2 8 5) ∧ t3 = fI H1 wq (K.1.2 8 10) ∧ t4 = fI H1 wq (K.1.2 8 13) ∧ t5 = fI H1 wq (K.1.2 8 16) ∧ (((3 ≤ x1.toInt ∧ x1.toInt ≤ 16 ∧ s1.toInt ≤ 9 ∧ r.toInt = s1.toInt ∧ t0.toInt = s1.toInt + 1) ∨ ((x1.toInt < 3 ∨ 16 < x1.toInt ∨ 9 < s1.toInt) ∧ r.toInt = -1 ∧ t0.toInt = s1.toInt)) ∧ t1.toInt = s4.toInt ∧ t2.toInt = s5.toInt ∧ t3.toInt = s10.toInt ∧ t4.toInt = s13.toInt ∧ t5.toInt = s16.toInt) ∧ nq = fR H1 wq (K.1.2 8 12) ∧ lq = fR H1 wq (K.1.2 8 14) ∧ kq = fR H1 wq (K.1.2 8 15) ∧ TY K G H1) := by
  refine MX.of (by decide +kernel) (Nat.le_of_ble_eq_true rfl) ?_
  intro p e s m below meth c ls Q C hH hl hQ
  subst hH
  have C : CX p K s m _ meth c RX9 cX9_bar 2 (some .int) "bar" := C
  obtain ⟨hx, hb, hml, hown, hts, hKT, hr, hlocks, hnm⟩ := id C
  have hl : lv_has ls 2 [(0, .ref a0), (1, .int x1)] := hl
  have hS : va_S (AE G [0, 1, 2, 3, 4, 5, 6, 15] s.heap.size) s.heap s.heap [] := va_S.rf
  have n_m1 : ((-1) : Int32).toInt = -1 := rfl
  have n_1 : (1 : Int32).toInt = 1 := rfl
  have n_3 : (3 : Int32).toInt = 3 := rfl
  have n_10 : (10 : Int32).toInt = 10 := rfl
  have n_16 : (16 : Int32).toInt = 16 := rfl
  have bs1 := ty_fi (x := s1) (k := 1) es1 hT gwq rg_0 rfl
  have bs4 := ty_fi (x := s4) (k := 4) es4 hT gwq rg_0 rfl
  have bs5 := ty_fi (x := s5) (k := 5) es5 hT gwq rg_0 rfl
  have bs10 := ty_fi (x := s10) (k := 10) es10 hT gwq rg_0 rfl
  have bs13 := ty_fi (x := s13) (k := 13) es13 hT gwq rg_0 rfl
  have bs16 := ty_fi (x := s16) (k := 16) es16 hT gwq rg_0 rfl
  refine lv_iload_n hx hb dX9_bar_0 rfl (lv_at hl 1 rfl) ?_
  refine lv_iconst (v := 3) hx hb dX9_bar_1 (by decide) ?_
  refine lv_icmp_lt (tgt := 23) hx hb dX9_bar_2 (by decide) (fun c277 => ?_) (fun c277 => ?_)
  · have k278 := i_lt c277
    refine lv_iconst (v := (-1)) hx hb dX9_bar_23 (by decide) ?_
    exact x_iret C hQ dX9_bar_24 hS (by decide) (by decide) (⟨(-1), s1, s4, s5, s10, s13, s16, rfl, es1, es4, es5, es10, es13, es16, by omega, enq, elq, ekq, hT⟩)
  · have k278 := i_nlt c277
    refine lv_iload_n hx hb dX9_bar_5 rfl (lv_at hl 1 rfl) ?_
    refine lv_bipush (v := 16) hx hb dX9_bar_6 (by decide) ?_
    refine lv_icmp_gt (tgt := 23) hx hb dX9_bar_8 (by decide) (fun c279 => ?_) (fun c279 => ?_)
    · have k280 := i_lt c279
      refine lv_iconst (v := (-1)) hx hb dX9_bar_23 (by decide) ?_
      exact x_iret C hQ dX9_bar_24 hS (by decide) (by decide) (⟨(-1), s1, s4, s5, s10, s13, s16, rfl, es1, es4, es5, es10, es13, es16, by omega, enq, elq, ekq, hT⟩)
    · have k280 := i_nlt c279
      refine lv_aload_n hx hb dX9_bar_11 rfl (lv_at hl 0 rfl) ?_
      refine x_gr C hT (ci := 9) (k := 0) rfl inX9 (by decide) wF_X9_12 ga0 rg_68 rfl dX9_bar_12 (fun q281 eq281 gq281 => ?_)
      have uq281 : wq = q281 := (ewq).trans eq281.symm
      subst uq281
      refine x_gi C hT (ci := 8) (k := 1) rfl inX8 (by decide) wF_X9_64 gwq rg_0 rfl dX9_bar_15 (fun x282 ex282 bx282 => ?_)
      have ux282 : s1 = x282 := (es1).trans ex282.symm
      subst ux282
      refine lv_bipush (v := 10) hx hb dX9_bar_18 (by decide) ?_
      refine lv_icmp_lt (tgt := 25) hx hb dX9_bar_20 (by decide) (fun c283 => ?_) (fun c283 => ?_)
      · have k284 := i_lt c283
        refine lv_aload_n hx hb dX9_bar_25 rfl (lv_at hl 0 rfl) ?_
        refine x_gr C hT (ci := 9) (k := 0) rfl inX9 (by decide) wF_X9_12 ga0 rg_68 rfl dX9_bar_26 (fun q285 eq285 gq285 => ?_)
        have uq285 : wq = q285 := (ewq).trans eq285.symm
        subst uq285
        refine x_gr C hT (ci := 8) (k := 0) rfl inX8 (by decide) wF_X9_68 gwq rg_0 rfl dX9_bar_29 (fun q286 eq286 gq286 => ?_)
        refine lv_aload_n hx hb dX9_bar_32 rfl (lv_at hl 0 rfl) ?_
        refine x_gr C hT (ci := 9) (k := 0) rfl inX9 (by decide) wF_X9_12 ga0 rg_68 rfl dX9_bar_33 (fun q287 eq287 gq287 => ?_)
        have uq287 : wq = q287 := (ewq).trans eq287.symm
        subst uq287
        refine x_gi C hT (ci := 8) (k := 1) rfl inX8 (by decide) wF_X9_64 gwq rg_0 rfl dX9_bar_36 (fun x288 ex288 bx288 => ?_)
        have ux288 : s1 = x288 := (es1).trans ex288.symm
        subst ux288
        refine x_ar C hT rfl rfl gq286 rg_25 ⟨by omega, by show _ < ((10 : Nat) : Int); omega⟩ dX9_bar_39 (fun q289 eq289 gq289 => ?_)
        refine lv_iload_n hx hb dX9_bar_40 rfl (lv_at hl 1 rfl) ?_
        refine x_V (As := [.int x1]) (rest := []) C (a_X0_begin l K G s.heap (x1) hT gq289 (by omega)) yo_X0_begin wM_X9_72 ⟨⟨by decide, by decide⟩, by decide, by decide⟩ (x_rv C hT (ci := 0) rfl gq289 rg_1) rfl hl.1 rfl (Nat.le_of_ble_eq_true rfl) dX9_bar_41 hS (AE_sub (fun _ _ => rfl) (by decide) hS.1) (fun vH290 H290 locsH290 pH290 zH290 kH290 hSH290 => ?_)
        obtain ⟨hvH290, hTH290⟩ := pH290
        subst hvH290
        have m291 := (ewq).trans (fR_kept (x_lt hT kH290 ga0 (by decide))).symm
        have m292 := (enq).trans (fR_kept (x_lt hT kH290 gwq (by decide))).symm
        have m293 := (elq).trans (fR_kept (x_lt hT kH290 gwq (by decide))).symm
        have m294 := (ekq).trans (fR_kept (x_lt hT kH290 gwq (by decide))).symm
        have m295 := (es1).trans (fI_kept (x_lt hT kH290 gwq (by decide))).symm
        have m296 := (es4).trans (fI_kept (x_lt hT kH290 gwq (by decide))).symm
        have m297 := (es5).trans (fI_kept (x_lt hT kH290 gwq (by decide))).symm
        have m298 := (es10).trans (fI_kept (x_lt hT kH290 gwq (by decide))).symm
        have m299 := (es13).trans (fI_kept (x_lt hT kH290 gwq (by decide))).symm
        have m300 := (es16).trans (fI_kept (x_lt hT kH290 gwq (by decide))).symm
        have m301 := (eq286).trans (fR_kept (x_lt hT kH290 gwq (by decide))).symm
        refine W.eq (g2 := F0 m 44 ls []) rfl ?_
        refine lv_aload_n hx hb dX9_bar_44 rfl (lv_at hl 0 rfl) ?_
        refine x_gr C hTH290 (ci := 9) (k := 0) rfl inX9 (by decide) wF_X9_12 ga0 rg_68 rfl dX9_bar_45 (fun q302 eq302 gq302 => ?_)
        have uq302 : wq = q302 := (m291).trans eq302.symm
        subst uq302
        refine lv_dup hx hb dX9_bar_48 rfl ?_
        refine x_gi C hTH290 (ci := 8) (k := 1) rfl inX8 (by decide) wF_X9_64 gwq rg_0 rfl dX9_bar_49 (fun x303 ex303 bx303 => ?_)
        have ux303 : s1 = x303 := (m295).trans ex303.symm
        subst ux303
        refine lv_iconst (v := 1) hx hb dX9_bar_52 (by decide) ?_
        refine lv_iadd hx hb dX9_bar_53 ?_
        refine lv_topi (fun x304 ex304 => ?_)
        have tx304 := i_add ex304 (by omega)
        refine x_put C hTH290 hSH290 (ci := 8) (k := 1) (v := .int x304) (ty0 := tyX8) rfl inX8 tyX8_ok nmX8 (by decide) rfl wF_X9_64 gwq rg_0 rfl rfl (okI (by have := i_rng x304; omega) (by have := i_rng x304; omega)) rfl rfl (AE_in gwq (by decide)) dX9_bar_54 (fun H305 locsH305 hTH305 hSH305 wH305 => ?_)
        have m306 := m291.trans (Wr.neR wH305 (Or.inl (G_ne ga0 gwq (by decide)))).symm
        have m307 := m292.trans (Wr.neR wH305 (Or.inr (x_apart hKT hts inX8 tyX8 tyX8_ok nmX8 rfl 12 1 (by decide) (by decide) (by decide)))).symm
        have m308 := m293.trans (Wr.neR wH305 (Or.inr (x_apart hKT hts inX8 tyX8 tyX8_ok nmX8 rfl 14 1 (by decide) (by decide) (by decide)))).symm
        have m309 := m294.trans (Wr.neR wH305 (Or.inr (x_apart hKT hts inX8 tyX8 tyX8_ok nmX8 rfl 15 1 (by decide) (by decide) (by decide)))).symm
        have m311 := m296.trans (Wr.neI wH305 (Or.inr (x_apart hKT hts inX8 tyX8 tyX8_ok nmX8 rfl 4 1 (by decide) (by decide) (by decide)))).symm
        have m312 := m297.trans (Wr.neI wH305 (Or.inr (x_apart hKT hts inX8 tyX8 tyX8_ok nmX8 rfl 5 1 (by decide) (by decide) (by decide)))).symm
        have m313 := m298.trans (Wr.neI wH305 (Or.inr (x_apart hKT hts inX8 tyX8 tyX8_ok nmX8 rfl 10 1 (by decide) (by decide) (by decide)))).symm
        have m314 := m299.trans (Wr.neI wH305 (Or.inr (x_apart hKT hts inX8 tyX8 tyX8_ok nmX8 rfl 13 1 (by decide) (by decide) (by decide)))).symm
        have m315 := m300.trans (Wr.neI wH305 (Or.inr (x_apart hKT hts inX8 tyX8 tyX8_ok nmX8 rfl 16 1 (by decide) (by decide) (by decide)))).symm
        have m316 := m301.trans (Wr.neR wH305 (Or.inr (x_apart hKT hts inX8 tyX8 tyX8_ok nmX8 rfl 0 1 (by decide) (by decide) (by decide)))).symm
        have m317 := Wr.I wH305
        have m317 := m317.symm
        refine lv_aload_n hx hb dX9_bar_57 rfl (lv_at hl 0 rfl) ?_
        refine x_gr C hTH305 (ci := 9) (k := 0) rfl inX9 (by decide) wF_X9_12 ga0 rg_68 rfl dX9_bar_58 (fun q318 eq318 gq318 => ?_)
        have uq318 : wq = q318 := (m306).trans eq318.symm
        subst uq318
        refine x_gi C hTH305 (ci := 8) (k := 1) rfl inX8 (by decide) wF_X9_64 gwq rg_0 rfl dX9_bar_61 (fun x319 ex319 bx319 => ?_)
        have ux319 : x304 = x319 := (m317).trans ex319.symm
        subst ux319
        refine lv_iconst (v := 1) hx hb dX9_bar_64 (by decide) ?_
        refine lv_isub hx hb dX9_bar_65 ?_
        refine lv_topi (fun x320 ex320 => ?_)
        have tx320 := i_sub ex320 (by omega)
        exact x_iret C hQ dX9_bar_66 hSH305 (by decide) (by decide) (⟨x320, x304, s4, s5, s10, s13, s16, rfl, m317, m311, m312, m313, m314, m315, by omega, m307, m308, m309, hTH305⟩)
      · have k284 := i_nlt c283
        refine lv_iconst (v := (-1)) hx hb dX9_bar_23 (by decide) ?_
        exact x_iret C hQ dX9_bar_24 hS (by decide) (by decide) (⟨(-1), s1, s4, s5, s10, s13, s16, rfl, es1, es4, es5, es10, es13, es16, by omega, enq, elq, ekq, hT⟩)

set_option maxHeartbeats 4000000 in
set_option maxRecDepth 100000 in
theorem a_X9_force_r (l : Launch) (K : KE) (G : Nat → Option Nat) (H : Heap) {a0 : Nat} (x1 : Int32) {wq : Nat} {nq : Nat} {lq : Nat} {kq : Nat} (s1 : Int32) (s4 : Int32) (s5 : Int32) (s10 : Int32) (s13 : Int32) (s16 : Int32) (hT : TY K G H) (ga0 : G a0 = some 68) (gwq : G wq = some 0) (ewq : wq = fR H a0 (K.1.2 9 0)) (gnq : G nq = some 31) (enq : nq = fR H wq (K.1.2 8 12)) (glq : G lq = some 32) (elq : lq = fR H wq (K.1.2 8 14)) (gkq : G kq = some 33) (ekq : kq = fR H wq (K.1.2 8 15)) (es1 : s1 = fI H wq (K.1.2 8 1)) (es4 : s4 = fI H wq (K.1.2 8 4)) (es5 : s5 = fI H wq (K.1.2 8 5)) (es10 : s10 = fI H wq (K.1.2 8 10)) (es13 : s13 = fI H wq (K.1.2 8 13)) (es16 : s16 = fI H wq (K.1.2 8 16)) : MX l K yX9_force cX9_force 3 (some .int) 1 22 0 0 [.ref a0, .int x1] H (AE G [0] H.size) (fun v H1 => ∃ (r : Int32) (t0 : Int32) (t1 : Int32) (t2 : Int32) (t3 : Int32) (t4 : Int32) (t5 : Int32), v = some (.int r) ∧ t0 = fI H1 wq (K.1.2 8 1) ∧ t1 = fI H1 wq (K.1.2 8 4) ∧ t2 = fI H1 wq (K.1.2 8 5) ∧ t3 = fI H1 wq (K.1.2 8 10) ∧ t4 = fI H1 wq (K.1.2 8 13) ∧ t5 = fI H1 wq (K.1.2 8 16) ∧ (((0 ≤ x1.toInt ∧ x1.toInt ≤ 1 ∧ r.toInt = s4.toInt ∧ t1.toInt = x1.toInt) ∨ ((x1.toInt < 0 ∨ 1 < x1.toInt) ∧ r.toInt = -1 ∧ t1.toInt = s4.toInt)) ∧ t0.toInt = s1.toInt ∧ t2.toInt = s5.toInt ∧ t3.toInt = s10.toInt ∧ t4.toInt = s13.toInt ∧ t5.toInt = s16.toInt) ∧ nq = fR H1 wq (K.1.2 8 12) ∧ lq = fR H1 wq (K.1.2 8 14) ∧ kq = fR H1 wq (K.1.2 8 15) ∧ TY K G H1) := by
  refine MX.of (by decide +kernel) (Nat.le_of_ble_eq_true rfl) ?_
  intro p e s m below meth c ls Q C hH hl hQ
  subst hH
  have C : CX p K s m _ meth c RX9 cX9_force 3 (some .int) "force" := C
  obtain ⟨hx, hb, hml, hown, hts, hKT, hr, hlocks, hnm⟩ := id C
  have hl : lv_has ls 3 [(0, .ref a0), (1, .int x1)] := hl
  have hS : va_S (AE G [0] s.heap.size) s.heap s.heap [] := va_S.rf
  have n_m1 : ((-1) : Int32).toInt = -1 := rfl
  have n_0 : (0 : Int32).toInt = 0 := rfl
  have n_1 : (1 : Int32).toInt = 1 := rfl
  have bs1 := ty_fi (x := s1) (k := 1) es1 hT gwq rg_0 rfl
  have bs4 := ty_fi (x := s4) (k := 4) es4 hT gwq rg_0 rfl
  have bs5 := ty_fi (x := s5) (k := 5) es5 hT gwq rg_0 rfl
  have bs10 := ty_fi (x := s10) (k := 10) es10 hT gwq rg_0 rfl
  have bs13 := ty_fi (x := s13) (k := 13) es13 hT gwq rg_0 rfl
  have bs16 := ty_fi (x := s16) (k := 16) es16 hT gwq rg_0 rfl
  refine lv_iload_n hx hb dX9_force_0 rfl (lv_at hl 1 rfl) ?_
  refine lv_iconst (v := 0) hx hb dX9_force_1 (by decide) ?_
  refine lv_iconst (v := 1) hx hb dX9_force_2 (by decide) ?_
  refine x_S (As := [.int x1, .int 0, .int 1]) (rest := []) C (c_X9_within l K G s.heap (x1) (0) (1) hT) yo_X9_within wM_X9_89 ⟨⟨by decide, by decide⟩, by decide, by decide⟩ rfl hl.1 rfl (Nat.le_of_ble_eq_true rfl) dX9_force_3 hS (AE_sub (fun _ _ => rfl) (by decide) hS.1) (fun vH189 H189 locsH189 pH189 zH189 kH189 hSH189 => ?_)
  have hqH189 := pH189.1.symm
  subst hqH189
  rcases pH189.2 with ⟨hvH189, hcH189⟩ | ⟨hvH189, hcH189⟩
  · subst hvH189
    refine W.eq (g2 := F0 m 6 ls [.int 1]) rfl ?_
    refine lv_if_ne (tgt := 11) hx hb dX9_force_6 (by decide) (fun c190 => ?_) (fun c190 => ?_)
    · have k191 := i_ne c190
      refine lv_aload_n hx hb dX9_force_11 rfl (lv_at hl 0 rfl) ?_
      refine x_gr C hT (ci := 9) (k := 0) rfl inX9 (by decide) wF_X9_12 ga0 rg_68 rfl dX9_force_12 (fun q192 eq192 gq192 => ?_)
      have uq192 : wq = q192 := (ewq).trans eq192.symm
      subst uq192
      refine x_gi C hT (ci := 8) (k := 4) rfl inX8 (by decide) wF_X9_147 gwq rg_0 rfl dX9_force_15 (fun x193 ex193 bx193 => ?_)
      have ux193 : s4 = x193 := (es4).trans ex193.symm
      subst ux193
      refine lv_istore_n (lv' := [(2, .int s4), (0, .ref a0), (1, .int x1)]) hx hb dX9_force_18 rfl hl (by decide) rfl (fun ls194 hl195 => ?_)
      refine lv_aload_n hx hb dX9_force_19 rfl (lv_at hl195 1 rfl) ?_
      refine x_gr C hT (ci := 9) (k := 0) rfl inX9 (by decide) wF_X9_12 ga0 rg_68 rfl dX9_force_20 (fun q196 eq196 gq196 => ?_)
      have uq196 : wq = q196 := (ewq).trans eq196.symm
      subst uq196
      refine lv_iload_n hx hb dX9_force_23 rfl (lv_at hl195 2 rfl) ?_
      refine x_put C hT hSH189 (ci := 8) (k := 4) (v := .int x1) (ty0 := tyX8) rfl inX8 tyX8_ok nmX8 (by decide) rfl wF_X9_147 gwq rg_0 rfl rfl (okI (by have := i_rng x1; omega) (by have := i_rng x1; omega)) rfl rfl (AE_in gwq (by decide)) dX9_force_24 (fun H197 locsH197 hTH197 hSH197 wH197 => ?_)
      have m198 := ewq.trans (Wr.neR wH197 (Or.inl (G_ne ga0 gwq (by decide)))).symm
      have m199 := enq.trans (Wr.neR wH197 (Or.inr (x_apart hKT hts inX8 tyX8 tyX8_ok nmX8 rfl 12 4 (by decide) (by decide) (by decide)))).symm
      have m200 := elq.trans (Wr.neR wH197 (Or.inr (x_apart hKT hts inX8 tyX8 tyX8_ok nmX8 rfl 14 4 (by decide) (by decide) (by decide)))).symm
      have m201 := ekq.trans (Wr.neR wH197 (Or.inr (x_apart hKT hts inX8 tyX8 tyX8_ok nmX8 rfl 15 4 (by decide) (by decide) (by decide)))).symm
      have m202 := es1.trans (Wr.neI wH197 (Or.inr (x_apart hKT hts inX8 tyX8 tyX8_ok nmX8 rfl 1 4 (by decide) (by decide) (by decide)))).symm
      have m204 := es5.trans (Wr.neI wH197 (Or.inr (x_apart hKT hts inX8 tyX8 tyX8_ok nmX8 rfl 5 4 (by decide) (by decide) (by decide)))).symm
      have m205 := es10.trans (Wr.neI wH197 (Or.inr (x_apart hKT hts inX8 tyX8 tyX8_ok nmX8 rfl 10 4 (by decide) (by decide) (by decide)))).symm
      have m206 := es13.trans (Wr.neI wH197 (Or.inr (x_apart hKT hts inX8 tyX8 tyX8_ok nmX8 rfl 13 4 (by decide) (by decide) (by decide)))).symm
      have m207 := es16.trans (Wr.neI wH197 (Or.inr (x_apart hKT hts inX8 tyX8 tyX8_ok nmX8 rfl 16 4 (by decide) (by decide) (by decide)))).symm
      have m208 := Wr.I wH197
      have m208 := m208.symm
      refine lv_iload_n hx hb dX9_force_27 rfl (lv_at hl195 0 rfl) ?_
      exact x_iret C hQ dX9_force_28 hSH197 (by decide) (by decide) (⟨s4, s1, x1, s5, s10, s13, s16, rfl, m202, m208, m204, m205, m206, m207, by omega, m199, m200, m201, hTH197⟩)
    · have k191 := i_eq c190
      exfalso
      omega
  · subst hvH189
    refine W.eq (g2 := F0 m 6 ls [.int 0]) rfl ?_
    refine lv_if_ne (tgt := 11) hx hb dX9_force_6 (by decide) (fun c209 => ?_) (fun c209 => ?_)
    · have k210 := i_ne c209
      exfalso
      omega
    · have k210 := i_eq c209
      refine lv_iconst (v := (-1)) hx hb dX9_force_9 (by decide) ?_
      exact x_iret C hQ dX9_force_10 hSH189 (by decide) (by decide) (⟨(-1), s1, s4, s5, s10, s13, s16, rfl, es1, es4, es5, es10, es13, es16, by omega, enq, elq, ekq, hT⟩)

set_option maxHeartbeats 4000000 in
set_option maxRecDepth 100000 in
theorem a_X10_force_r (l : Launch) (K : KE) (G : Nat → Option Nat) (H : Heap) {a0 : Nat} (x1 : Int32) (s4 : Int32) (hT : TY K G H) (ga0 : G a0 = some 112) (es4 : s4 = fI H a0 (K.1.2 10 2)) (hg_CG : CG (avw K H a0)) (hg_TU : TU (avw K H a0) (svw K H a0)) (hg_WD : WD (avw K H a0)) (hg_IM : IM (avw K H a0)) : MX l K yX10_force cX10_force 3 (some .int) 1 21 0 0 [.ref a0, .int x1] H (AE G [112] H.size) (fun v H1 => ∃ (r : Int32) (t0 : Int32), v = some (.int r) ∧ t0 = fI H1 a0 (K.1.2 10 2) ∧ ((0 ≤ x1.toInt ∧ x1.toInt ≤ 1 ∧ r.toInt = s4.toInt ∧ t0.toInt = x1.toInt) ∨ ((x1.toInt < 0 ∨ 1 < x1.toInt) ∧ r.toInt = -1 ∧ t0.toInt = s4.toInt)) ∧ (CG (avw K H1 a0)) ∧ (TU (avw K H1 a0) (svw K H1 a0)) ∧ (WD (avw K H1 a0)) ∧ (IM (avw K H1 a0)) ∧ MF K H H1 a0 [0, 2] ∧ TY K G H1) := by
  refine MX.of (by decide +kernel) (Nat.le_of_ble_eq_true rfl) ?_
  intro p e s m below meth c ls Q C hH hl hQ
  subst hH
  have C : CX p K s m _ meth c RX10 cX10_force 3 (some .int) "force" := C
  obtain ⟨hx, hb, hml, hown, hts, hKT, hr, hlocks, hnm⟩ := id C
  have hl : lv_has ls 3 [(0, .ref a0), (1, .int x1)] := hl
  have hS : va_S (AE G [112] s.heap.size) s.heap s.heap [] := va_S.rf
  have n_m1 : ((-1) : Int32).toInt = -1 := rfl
  have n_0 : (0 : Int32).toInt = 0 := rfl
  have n_1 : (1 : Int32).toInt = 1 := rfl
  have bs4 := ty_fi (x := s4) (k := 2) es4 hT ga0 rg_112 rfl
  have hap : ∀ x y, x < 74 → y < 74 → x ≠ y → K.1.2 10 x ≠ K.1.2 10 y := x_apart hKT hts inX10 tyX10 tyX10_ok nmX10 rfl
  have mf0 : MF K s.heap s.heap a0 [0, 2] := fun _ _ _ => rfl
  refine lv_aload_n hx hb dX10_force_0 rfl (lv_at hl 0 rfl) ?_
  refine lv_iconst (v := 0) hx hb dX10_force_1 (by decide) ?_
  refine x_put C hT hS (ci := 10) (k := 0) (v := .int 0) (ty0 := tyX10) rfl inX10 tyX10_ok nmX10 (by decide) rfl wF_X10_167 ga0 rg_112 rfl rfl (okI (by have := i_rng (0 : Int32); omega) (by have := i_rng (0 : Int32); omega)) rfl rfl (AE_in ga0 (by decide)) dX10_force_2 (fun H201 locsH201 hTH201 hSH201 wH201 => ?_)
  have mf202 : MF K s.heap H201 a0 [0, 2] := MF.fld hap wH201 (by decide) (by decide) mf0
  have g203 : CG (avw K H201 a0) := CG.congr (fun k hk j => av_fld hT ga0 hap wH201 (by decide) (CG_ok 112 (by decide) k hk) (CG_ne 0 (by decide) k hk)) hg_CG
  have g204 : TU (avw K H201 a0) (svw K H201 a0) := TU.congr (fun k hk j => av_fld hT ga0 hap wH201 (by decide) (TU_ok 112 (by decide) k hk) (TU_ne 0 (by decide) k hk)) (fun k hk => sv_fld hap wH201 (by decide) (TU_slt k hk) (TU_sne 0 (by decide) k hk)) hg_TU
  have g205 : WD (avw K H201 a0) := WD.congr (fun k hk j => av_fld hT ga0 hap wH201 (by decide) (WD_ok 112 (by decide) k hk) (WD_ne 0 (by decide) k hk)) hg_WD
  have g206 : IM (avw K H201 a0) := IM.congr (fun k hk j => av_fld hT ga0 hap wH201 (by decide) (IM_ok 112 (by decide) k hk) (IM_ne 0 (by decide) k hk)) hg_IM
  have m207 := es4.trans (Wr.neI wH201 (Or.inr (x_apart hKT hts inX10 tyX10 tyX10_ok nmX10 rfl 2 0 (by decide) (by decide) (by decide)))).symm
  have m208 := Wr.I wH201
  refine lv_aload_n hx hb dX10_force_5 rfl (lv_at hl 0 rfl) ?_
  refine lv_iload_n hx hb dX10_force_6 rfl (lv_at hl 1 rfl) ?_
  refine x_V (As := [.int x1]) (rest := []) C (c_X10_isLaw l K G H201 (x1) hTH201 ga0) yo_X10_isLaw wM_X10_328 ⟨⟨by decide, by decide⟩, by decide, by decide⟩ (x_rv C hTH201 (ci := 10) rfl ga0 rg_112) rfl hl.1 rfl (Nat.le_of_ble_eq_true rfl) dX10_force_7 hSH201 (AE_sub (fun _ _ => rfl) (by decide) hSH201.1) (fun vH209 H209 locsH209 pH209 zH209 kH209 hSH209 => ?_)
  have hqH209 := pH209.1.symm
  subst hqH209
  rcases pH209.2 with ⟨hvH209, hcH209⟩ | ⟨hvH209, hcH209⟩
  · subst hvH209
    refine W.eq (g2 := F0 m 10 ls [.int 1]) rfl ?_
    refine lv_if_ne (tgt := 15) hx hb dX10_force_10 (by decide) (fun c210 => ?_) (fun c210 => ?_)
    · have k211 := i_ne c210
      refine lv_aload_n hx hb dX10_force_15 rfl (lv_at hl 0 rfl) ?_
      refine x_gi C hTH201 (ci := 10) (k := 2) rfl inX10 (by decide) wF_X10_322 ga0 rg_112 rfl dX10_force_16 (fun x212 ex212 bx212 => ?_)
      have ux212 : s4 = x212 := (m207).trans ex212.symm
      subst ux212
      refine lv_istore_n (lv' := [(2, .int s4), (0, .ref a0), (1, .int x1)]) hx hb dX10_force_19 rfl hl (by decide) rfl (fun ls213 hl214 => ?_)
      refine lv_aload_n hx hb dX10_force_20 rfl (lv_at hl214 1 rfl) ?_
      refine lv_iload_n hx hb dX10_force_21 rfl (lv_at hl214 2 rfl) ?_
      refine x_put C hTH201 hSH209 (ci := 10) (k := 2) (v := .int x1) (ty0 := tyX10) rfl inX10 tyX10_ok nmX10 (by decide) rfl wF_X10_322 ga0 rg_112 rfl rfl (okI (by have := i_rng x1; omega) (by have := i_rng x1; omega)) rfl rfl (AE_in ga0 (by decide)) dX10_force_22 (fun H215 locsH215 hTH215 hSH215 wH215 => ?_)
      have mf216 : MF K s.heap H215 a0 [0, 2] := MF.fld hap wH215 (by decide) (by decide) mf202
      have g217 : CG (avw K H215 a0) := CG.congr (fun k hk j => av_fld hTH201 ga0 hap wH215 (by decide) (CG_ok 112 (by decide) k hk) (CG_ne 2 (by decide) k hk)) g203
      have g218 : TU (avw K H215 a0) (svw K H215 a0) := TU.congr (fun k hk j => av_fld hTH201 ga0 hap wH215 (by decide) (TU_ok 112 (by decide) k hk) (TU_ne 2 (by decide) k hk)) (fun k hk => sv_fld hap wH215 (by decide) (TU_slt k hk) (TU_sne 2 (by decide) k hk)) g204
      have g219 : WD (avw K H215 a0) := WD.congr (fun k hk j => av_fld hTH201 ga0 hap wH215 (by decide) (WD_ok 112 (by decide) k hk) (WD_ne 2 (by decide) k hk)) g205
      have g220 : IM (avw K H215 a0) := IM.congr (fun k hk j => av_fld hTH201 ga0 hap wH215 (by decide) (IM_ok 112 (by decide) k hk) (IM_ne 2 (by decide) k hk)) g206
      have m222 := (Wr.neI wH215 (Or.inr (x_apart hKT hts inX10 tyX10 tyX10_ok nmX10 rfl 0 2 (by decide) (by decide) (by decide)))).trans m208
      have m223 := Wr.I wH215
      have m223 := m223.symm
      refine lv_iload_n hx hb dX10_force_25 rfl (lv_at hl214 0 rfl) ?_
      exact x_iret C hQ dX10_force_26 hSH215 (by decide) (by decide) (⟨s4, x1, rfl, m223, by omega, g217, g218, g219, g220, mf216, hTH215⟩)
    · have k211 := i_eq c210
      exfalso
      omega
  · subst hvH209
    refine W.eq (g2 := F0 m 10 ls [.int 0]) rfl ?_
    refine lv_if_ne (tgt := 15) hx hb dX10_force_10 (by decide) (fun c224 => ?_) (fun c224 => ?_)
    · have k225 := i_ne c224
      exfalso
      omega
    · have k225 := i_eq c224
      refine lv_iconst (v := (-1)) hx hb dX10_force_13 (by decide) ?_
      exact x_iret C hQ dX10_force_14 hSH209 (by decide) (by decide) (⟨(-1), s4, rfl, m207, by omega, g203, g204, g205, g206, mf202, hTH201⟩)

set_option maxHeartbeats 4000000 in
set_option maxRecDepth 100000 in
theorem a_X9_slack_r (l : Launch) (K : KE) (G : Nat → Option Nat) (H : Heap) {a0 : Nat} (x1 : Int32) {wq : Nat} {nq : Nat} {lq : Nat} {kq : Nat} (s1 : Int32) (s4 : Int32) (s5 : Int32) (s10 : Int32) (s13 : Int32) (s16 : Int32) (hT : TY K G H) (ga0 : G a0 = some 68) (gwq : G wq = some 0) (ewq : wq = fR H a0 (K.1.2 9 0)) (gnq : G nq = some 31) (enq : nq = fR H wq (K.1.2 8 12)) (glq : G lq = some 32) (elq : lq = fR H wq (K.1.2 8 14)) (gkq : G kq = some 33) (ekq : kq = fR H wq (K.1.2 8 15)) (es1 : s1 = fI H wq (K.1.2 8 1)) (es4 : s4 = fI H wq (K.1.2 8 4)) (es5 : s5 = fI H wq (K.1.2 8 5)) (es10 : s10 = fI H wq (K.1.2 8 10)) (es13 : s13 = fI H wq (K.1.2 8 13)) (es16 : s16 = fI H wq (K.1.2 8 16)) : MX l K yX9_slack cX9_slack 2 (some .boolean) 1 22 0 0 [.ref a0, .int x1] H (AE G [0] H.size) (fun v H1 => ∃ (r : Int32) (t0 : Int32) (t1 : Int32) (t2 : Int32) (t3 : Int32) (t4 : Int32) (t5 : Int32), v = some (.int r) ∧ t0 = fI H1 wq (K.1.2 8 1) ∧ t1 = fI H1 wq (K.1.2 8 4) ∧ t2 = fI H1 wq (K.1.2 8 5) ∧ t3 = fI H1 wq (K.1.2 8 10) ∧ t4 = fI H1 wq (K.1.2 8 13) ∧ t5 = fI H1 wq (K.1.2 8 16) ∧ (((0 ≤ x1.toInt ∧ x1.toInt ≤ 9999 ∧ r.toInt = 1 ∧ t2.toInt = x1.toInt) ∨ ((x1.toInt < 0 ∨ 9999 < x1.toInt) ∧ r.toInt = 0 ∧ t2.toInt = s5.toInt)) ∧ t0.toInt = s1.toInt ∧ t1.toInt = s4.toInt ∧ t3.toInt = s10.toInt ∧ t4.toInt = s13.toInt ∧ t5.toInt = s16.toInt) ∧ nq = fR H1 wq (K.1.2 8 12) ∧ lq = fR H1 wq (K.1.2 8 14) ∧ kq = fR H1 wq (K.1.2 8 15) ∧ TY K G H1) := by
  refine MX.of (by decide +kernel) (Nat.le_of_ble_eq_true rfl) ?_
  intro p e s m below meth c ls Q C hH hl hQ
  subst hH
  have C : CX p K s m _ meth c RX9 cX9_slack 2 (some .boolean) "slack" := C
  obtain ⟨hx, hb, hml, hown, hts, hKT, hr, hlocks, hnm⟩ := id C
  have hl : lv_has ls 2 [(0, .ref a0), (1, .int x1)] := hl
  have hS : va_S (AE G [0] s.heap.size) s.heap s.heap [] := va_S.rf
  have n_0 : (0 : Int32).toInt = 0 := rfl
  have n_1 : (1 : Int32).toInt = 1 := rfl
  have n_9999 : (9999 : Int32).toInt = 9999 := rfl
  have bs1 := ty_fi (x := s1) (k := 1) es1 hT gwq rg_0 rfl
  have bs4 := ty_fi (x := s4) (k := 4) es4 hT gwq rg_0 rfl
  have bs5 := ty_fi (x := s5) (k := 5) es5 hT gwq rg_0 rfl
  have bs10 := ty_fi (x := s10) (k := 10) es10 hT gwq rg_0 rfl
  have bs13 := ty_fi (x := s13) (k := 13) es13 hT gwq rg_0 rfl
  have bs16 := ty_fi (x := s16) (k := 16) es16 hT gwq rg_0 rfl
  refine lv_iload_n hx hb dX9_slack_0 rfl (lv_at hl 1 rfl) ?_
  refine lv_iconst (v := 0) hx hb dX9_slack_1 (by decide) ?_
  refine lv_sipush (v := 9999) hx hb dX9_slack_2 (by decide) ?_
  refine x_S (As := [.int x1, .int 0, .int 9999]) (rest := []) C (c_X9_within l K G s.heap (x1) (0) (9999) hT) yo_X9_within wM_X9_89 ⟨⟨by decide, by decide⟩, by decide, by decide⟩ rfl hl.1 rfl (Nat.le_of_ble_eq_true rfl) dX9_slack_5 hS (AE_sub (fun _ _ => rfl) (by decide) hS.1) (fun vH173 H173 locsH173 pH173 zH173 kH173 hSH173 => ?_)
  have hqH173 := pH173.1.symm
  subst hqH173
  rcases pH173.2 with ⟨hvH173, hcH173⟩ | ⟨hvH173, hcH173⟩
  · subst hvH173
    refine W.eq (g2 := F0 m 8 ls [.int 1]) rfl ?_
    refine lv_if_ne (tgt := 13) hx hb dX9_slack_8 (by decide) (fun c174 => ?_) (fun c174 => ?_)
    · have k175 := i_ne c174
      refine lv_aload_n hx hb dX9_slack_13 rfl (lv_at hl 0 rfl) ?_
      refine x_gr C hT (ci := 9) (k := 0) rfl inX9 (by decide) wF_X9_12 ga0 rg_68 rfl dX9_slack_14 (fun q176 eq176 gq176 => ?_)
      have uq176 : wq = q176 := (ewq).trans eq176.symm
      subst uq176
      refine lv_iload_n hx hb dX9_slack_17 rfl (lv_at hl 1 rfl) ?_
      refine x_put C hT hSH173 (ci := 8) (k := 5) (v := .int x1) (ty0 := tyX8) rfl inX8 tyX8_ok nmX8 (by decide) rfl wF_X9_184 gwq rg_0 rfl rfl (okI (by have := i_rng x1; omega) (by have := i_rng x1; omega)) rfl rfl (AE_in gwq (by decide)) dX9_slack_18 (fun H177 locsH177 hTH177 hSH177 wH177 => ?_)
      have m178 := ewq.trans (Wr.neR wH177 (Or.inl (G_ne ga0 gwq (by decide)))).symm
      have m179 := enq.trans (Wr.neR wH177 (Or.inr (x_apart hKT hts inX8 tyX8 tyX8_ok nmX8 rfl 12 5 (by decide) (by decide) (by decide)))).symm
      have m180 := elq.trans (Wr.neR wH177 (Or.inr (x_apart hKT hts inX8 tyX8 tyX8_ok nmX8 rfl 14 5 (by decide) (by decide) (by decide)))).symm
      have m181 := ekq.trans (Wr.neR wH177 (Or.inr (x_apart hKT hts inX8 tyX8 tyX8_ok nmX8 rfl 15 5 (by decide) (by decide) (by decide)))).symm
      have m182 := es1.trans (Wr.neI wH177 (Or.inr (x_apart hKT hts inX8 tyX8 tyX8_ok nmX8 rfl 1 5 (by decide) (by decide) (by decide)))).symm
      have m183 := es4.trans (Wr.neI wH177 (Or.inr (x_apart hKT hts inX8 tyX8 tyX8_ok nmX8 rfl 4 5 (by decide) (by decide) (by decide)))).symm
      have m185 := es10.trans (Wr.neI wH177 (Or.inr (x_apart hKT hts inX8 tyX8 tyX8_ok nmX8 rfl 10 5 (by decide) (by decide) (by decide)))).symm
      have m186 := es13.trans (Wr.neI wH177 (Or.inr (x_apart hKT hts inX8 tyX8 tyX8_ok nmX8 rfl 13 5 (by decide) (by decide) (by decide)))).symm
      have m187 := es16.trans (Wr.neI wH177 (Or.inr (x_apart hKT hts inX8 tyX8 tyX8_ok nmX8 rfl 16 5 (by decide) (by decide) (by decide)))).symm
      have m188 := Wr.I wH177
      have m188 := m188.symm
      refine lv_iconst (v := 1) hx hb dX9_slack_21 (by decide) ?_
      exact x_zret C hQ (Or.inr rfl) dX9_slack_22 hSH177 (by decide) (by decide) (⟨1, s1, s4, x1, s10, s13, s16, rfl, m182, m183, m188, m185, m186, m187, by omega, m179, m180, m181, hTH177⟩)
    · have k175 := i_eq c174
      exfalso
      omega
  · subst hvH173
    refine W.eq (g2 := F0 m 8 ls [.int 0]) rfl ?_
    refine lv_if_ne (tgt := 13) hx hb dX9_slack_8 (by decide) (fun c189 => ?_) (fun c189 => ?_)
    · have k190 := i_ne c189
      exfalso
      omega
    · have k190 := i_eq c189
      refine lv_iconst (v := 0) hx hb dX9_slack_11 (by decide) ?_
      exact x_zret C hQ (Or.inl rfl) dX9_slack_12 hSH173 (by decide) (by decide) (⟨0, s1, s4, s5, s10, s13, s16, rfl, es1, es4, es5, es10, es13, es16, by omega, enq, elq, ekq, hT⟩)

set_option maxHeartbeats 4000000 in
set_option maxRecDepth 100000 in
theorem a_X10_slack_r (l : Launch) (K : KE) (G : Nat → Option Nat) (H : Heap) {a0 : Nat} (x1 : Int32) (s5 : Int32) (hT : TY K G H) (ga0 : G a0 = some 112) (es5 : s5 = fI H a0 (K.1.2 10 3)) (hg_CG : CG (avw K H a0)) (hg_TU : TU (avw K H a0) (svw K H a0)) (hg_WD : WD (avw K H a0)) (hg_IM : IM (avw K H a0)) : MX l K yX10_slack cX10_slack 2 (some .boolean) 1 23 0 0 [.ref a0, .int x1] H (AE G [112] H.size) (fun v H1 => ∃ (r : Int32) (t0 : Int32), v = some (.int r) ∧ t0 = fI H1 a0 (K.1.2 10 3) ∧ ((0 ≤ x1.toInt ∧ x1.toInt ≤ 9999 ∧ r.toInt = 1 ∧ t0.toInt = x1.toInt) ∨ ((x1.toInt < 0 ∨ 9999 < x1.toInt) ∧ r.toInt = 0 ∧ t0.toInt = s5.toInt)) ∧ (CG (avw K H1 a0)) ∧ (TU (avw K H1 a0) (svw K H1 a0)) ∧ (WD (avw K H1 a0)) ∧ (IM (avw K H1 a0)) ∧ MF K H H1 a0 [0, 3] ∧ TY K G H1) := by
  refine MX.of (by decide +kernel) (Nat.le_of_ble_eq_true rfl) ?_
  intro p e s m below meth c ls Q C hH hl hQ
  subst hH
  have C : CX p K s m _ meth c RX10 cX10_slack 2 (some .boolean) "slack" := C
  obtain ⟨hx, hb, hml, hown, hts, hKT, hr, hlocks, hnm⟩ := id C
  have hl : lv_has ls 2 [(0, .ref a0), (1, .int x1)] := hl
  have hS : va_S (AE G [112] s.heap.size) s.heap s.heap [] := va_S.rf
  have n_0 : (0 : Int32).toInt = 0 := rfl
  have n_1 : (1 : Int32).toInt = 1 := rfl
  have n_9999 : (9999 : Int32).toInt = 9999 := rfl
  have bs5 := ty_fi (x := s5) (k := 3) es5 hT ga0 rg_112 rfl
  have hap : ∀ x y, x < 74 → y < 74 → x ≠ y → K.1.2 10 x ≠ K.1.2 10 y := x_apart hKT hts inX10 tyX10 tyX10_ok nmX10 rfl
  have mf0 : MF K s.heap s.heap a0 [0, 3] := fun _ _ _ => rfl
  refine lv_aload_n hx hb dX10_slack_0 rfl (lv_at hl 0 rfl) ?_
  refine lv_iconst (v := 0) hx hb dX10_slack_1 (by decide) ?_
  refine x_put C hT hS (ci := 10) (k := 0) (v := .int 0) (ty0 := tyX10) rfl inX10 tyX10_ok nmX10 (by decide) rfl wF_X10_167 ga0 rg_112 rfl rfl (okI (by have := i_rng (0 : Int32); omega) (by have := i_rng (0 : Int32); omega)) rfl rfl (AE_in ga0 (by decide)) dX10_slack_2 (fun H189 locsH189 hTH189 hSH189 wH189 => ?_)
  have mf190 : MF K s.heap H189 a0 [0, 3] := MF.fld hap wH189 (by decide) (by decide) mf0
  have g191 : CG (avw K H189 a0) := CG.congr (fun k hk j => av_fld hT ga0 hap wH189 (by decide) (CG_ok 112 (by decide) k hk) (CG_ne 0 (by decide) k hk)) hg_CG
  have g192 : TU (avw K H189 a0) (svw K H189 a0) := TU.congr (fun k hk j => av_fld hT ga0 hap wH189 (by decide) (TU_ok 112 (by decide) k hk) (TU_ne 0 (by decide) k hk)) (fun k hk => sv_fld hap wH189 (by decide) (TU_slt k hk) (TU_sne 0 (by decide) k hk)) hg_TU
  have g193 : WD (avw K H189 a0) := WD.congr (fun k hk j => av_fld hT ga0 hap wH189 (by decide) (WD_ok 112 (by decide) k hk) (WD_ne 0 (by decide) k hk)) hg_WD
  have g194 : IM (avw K H189 a0) := IM.congr (fun k hk j => av_fld hT ga0 hap wH189 (by decide) (IM_ok 112 (by decide) k hk) (IM_ne 0 (by decide) k hk)) hg_IM
  have m195 := es5.trans (Wr.neI wH189 (Or.inr (x_apart hKT hts inX10 tyX10 tyX10_ok nmX10 rfl 3 0 (by decide) (by decide) (by decide)))).symm
  have m196 := Wr.I wH189
  refine lv_aload_n hx hb dX10_slack_5 rfl (lv_at hl 0 rfl) ?_
  refine lv_iload_n hx hb dX10_slack_6 rfl (lv_at hl 1 rfl) ?_
  refine lv_iconst (v := 0) hx hb dX10_slack_7 (by decide) ?_
  refine lv_sipush (v := 9999) hx hb dX10_slack_8 (by decide) ?_
  refine x_V (As := [.int x1, .int 0, .int 9999]) (rest := []) C (c_X10_isIn l K G H189 (x1) (0) (9999) hTH189 ga0) yo_X10_isIn wM_X10_177 ⟨⟨by decide, by decide⟩, by decide, by decide⟩ (x_rv C hTH189 (ci := 10) rfl ga0 rg_112) rfl hl.1 rfl (Nat.le_of_ble_eq_true rfl) dX10_slack_11 hSH189 (AE_sub (fun _ _ => rfl) (by decide) hSH189.1) (fun vH197 H197 locsH197 pH197 zH197 kH197 hSH197 => ?_)
  have hqH197 := pH197.1.symm
  subst hqH197
  rcases pH197.2 with ⟨hvH197, hcH197⟩ | ⟨hvH197, hcH197⟩
  · subst hvH197
    refine W.eq (g2 := F0 m 14 ls [.int 1]) rfl ?_
    refine lv_if_ne (tgt := 19) hx hb dX10_slack_14 (by decide) (fun c198 => ?_) (fun c198 => ?_)
    · have k199 := i_ne c198
      refine lv_aload_n hx hb dX10_slack_19 rfl (lv_at hl 0 rfl) ?_
      refine lv_iload_n hx hb dX10_slack_20 rfl (lv_at hl 1 rfl) ?_
      refine x_put C hTH189 hSH197 (ci := 10) (k := 3) (v := .int x1) (ty0 := tyX10) rfl inX10 tyX10_ok nmX10 (by decide) rfl wF_X10_7 ga0 rg_112 rfl rfl (okI (by have := i_rng x1; omega) (by have := i_rng x1; omega)) rfl rfl (AE_in ga0 (by decide)) dX10_slack_21 (fun H200 locsH200 hTH200 hSH200 wH200 => ?_)
      have mf201 : MF K s.heap H200 a0 [0, 3] := MF.fld hap wH200 (by decide) (by decide) mf190
      have g202 : CG (avw K H200 a0) := CG.congr (fun k hk j => av_fld hTH189 ga0 hap wH200 (by decide) (CG_ok 112 (by decide) k hk) (CG_ne 3 (by decide) k hk)) g191
      have g203 : TU (avw K H200 a0) (svw K H200 a0) := TU.congr (fun k hk j => av_fld hTH189 ga0 hap wH200 (by decide) (TU_ok 112 (by decide) k hk) (TU_ne 3 (by decide) k hk)) (fun k hk => sv_fld hap wH200 (by decide) (TU_slt k hk) (TU_sne 3 (by decide) k hk)) g192
      have g204 : WD (avw K H200 a0) := WD.congr (fun k hk j => av_fld hTH189 ga0 hap wH200 (by decide) (WD_ok 112 (by decide) k hk) (WD_ne 3 (by decide) k hk)) g193
      have g205 : IM (avw K H200 a0) := IM.congr (fun k hk j => av_fld hTH189 ga0 hap wH200 (by decide) (IM_ok 112 (by decide) k hk) (IM_ne 3 (by decide) k hk)) g194
      have m207 := (Wr.neI wH200 (Or.inr (x_apart hKT hts inX10 tyX10 tyX10_ok nmX10 rfl 0 3 (by decide) (by decide) (by decide)))).trans m196
      have m208 := Wr.I wH200
      have m208 := m208.symm
      refine lv_iconst (v := 1) hx hb dX10_slack_24 (by decide) ?_
      exact x_zret C hQ (Or.inr rfl) dX10_slack_25 hSH200 (by decide) (by decide) (⟨1, x1, rfl, m208, by omega, g202, g203, g204, g205, mf201, hTH200⟩)
    · have k199 := i_eq c198
      exfalso
      omega
  · subst hvH197
    refine W.eq (g2 := F0 m 14 ls [.int 0]) rfl ?_
    refine lv_if_ne (tgt := 19) hx hb dX10_slack_14 (by decide) (fun c209 => ?_) (fun c209 => ?_)
    · have k210 := i_ne c209
      exfalso
      omega
    · have k210 := i_eq c209
      refine lv_iconst (v := 0) hx hb dX10_slack_17 (by decide) ?_
      exact x_zret C hQ (Or.inl rfl) dX10_slack_18 hSH197 (by decide) (by decide) (⟨0, s5, rfl, m195, by omega, g191, g192, g193, g194, mf190, hTH189⟩)

set_option maxHeartbeats 4000000 in
set_option maxRecDepth 100000 in
theorem a_X9_addBytes_r (l : Launch) (K : KE) (G : Nat → Option Nat) (H : Heap) {a0 : Nat} (x1 : Int32) {wq : Nat} (tp : Int32) {kv : Value} (hT : TY K G H) (ga0 : G a0 = some 68) (gwq : G wq = some 0) (ewq : wq = fR H a0 (K.1.2 9 0)) (etp : tp = fI H a0 (K.1.2 9 3)) (hp0 : tp.toInt ≤ 496) (hkv : fV H a0 (K.1.2 9 1) = kv) : MX l K yX9_addBytes cX9_addBytes 3 none 0 0 0 0 [.ref a0, .int x1] H (AE G [68, 108] H.size) (fun v H1 => ∃ (t0 : Int32), v = none ∧ t0 = fI H1 a0 (K.1.2 9 3) ∧ (t0.toInt = tp.toInt + 4) ∧ wq = fR H1 a0 (K.1.2 9 0) ∧ fV H1 a0 (K.1.2 9 1) = kv ∧ TY K G H1) := by
  refine MX.of (by decide +kernel) (Nat.le_of_ble_eq_true rfl) ?_
  intro p e s m below meth c ls Q C hH hl hQ
  subst hH
  have C : CX p K s m _ meth c RX9 cX9_addBytes 3 none "addBytes" := C
  obtain ⟨hx, hb, hml, hown, hts, hKT, hr, hlocks, hnm⟩ := id C
  have hl : lv_has ls 3 [(0, .ref a0), (1, .int x1)] := hl
  have hS : va_S (AE G [68, 108] s.heap.size) s.heap s.heap [] := va_S.rf
  have n_m8 : ((-8) : Int32).toInt = -8 := rfl
  have n_0 : (0 : Int32).toInt = 0 := rfl
  have n_1 : (1 : Int32).toInt = 1 := rfl
  have n_24 : (24 : Int32).toInt = 24 := rfl
  have n_255 : (255 : Int32).toInt = 255 := rfl
  have n_500 : (500 : Int32).toInt = 500 := rfl
  have btp := ty_fi (x := tp) (k := 3) etp hT ga0 rg_68 rfl
  have J3 : ∀ (nf : Nat) (ls342 : Array Slot) (H341 : Heap) (locsH341 : List Loc) (x344 : Int32) (x345 : Int32), lv_has ls342 3 [(0, .ref a0), (1, .int x1), (2, .int x344)] → TY K G H341 → va_S (AE G [68, 108] s.heap.size) s.heap H341 locsH341 → ((-8) ≤ x344.toInt ∧ x344.toInt ≤ 24) → (0 ≤ x345.toInt ∧ x345.toInt ≤ 500) → (x345 = fI H341 a0 (K.1.2 9 3)) → (wq = fR H341 a0 (K.1.2 9 0)) → (fV H341 a0 (K.1.2 9 1) = kv) → (x344.toInt - (-8) < (nf : Int)) → (8 * (x345.toInt - tp.toInt) = 24 - x344.toInt) → W p l e ({ frames := 0, cells := 0, slots := 0, locals := 0 } : Room) s m (([.ref a0, .int x1] : List Value).toArray) below meth c H341 locsH341 0 0 Q (F0 m 3 ls342 []) := by
    intro nf
    induction nf with
    | zero =>
      intro ls342 H341 locsH341 x344 x345 hl343 hTH341 hSH341 bx344 bx345 ex345 cy346_0 cy346_1 hm3 iv3
      exfalso
      omega
    | succ nf ih3 =>
      intro ls342 H341 locsH341 x344 x345 hl343 hTH341 hSH341 bx344 bx345 ex345 cy346_0 cy346_1 hm3 iv3
      refine lv_iload_n hx hb dX9_addBytes_3 rfl (lv_at hl343 2 rfl) ?_
      refine lv_if_lt (tgt := 49) hx hb dX9_addBytes_4 (by decide) (fun c347 => ?_) (fun c347 => ?_)
      · have k348 := i_lt c347
        exact x_vret C hQ dX9_addBytes_49 hSH341 (by decide) (by decide) (⟨x345, rfl, ex345, by omega, cy346_0, cy346_1, hTH341⟩)
      · have k348 := i_nlt c347
        refine lv_aload_n hx hb dX9_addBytes_7 rfl (lv_at hl343 0 rfl) ?_
        refine x_gi C hTH341 (ci := 9) (k := 3) rfl inX9 (by decide) wF_X9_105 ga0 rg_68 rfl dX9_addBytes_8 (fun x349 ex349 bx349 => ?_)
        have ux349 : x345 = x349 := (ex345).trans ex349.symm
        subst ux349
        refine lv_sipush (v := 500) hx hb dX9_addBytes_11 (by decide) ?_
        refine lv_icmp_ge (tgt := 49) hx hb dX9_addBytes_14 (by decide) (fun c350 => ?_) (fun c350 => ?_)
        · have k351 := i_le c350
          exact x_vret C hQ dX9_addBytes_49 hSH341 (by decide) (by decide) (⟨x345, rfl, ex345, by omega, cy346_0, cy346_1, hTH341⟩)
        · have k351 := i_nle c350
          refine lv_aload_n hx hb dX9_addBytes_17 rfl (lv_at hl343 0 rfl) ?_
          refine x_gr C hTH341 (ci := 9) (k := 2) rfl inX9 (by decide) wF_X9_16 ga0 rg_68 rfl dX9_addBytes_18 (fun q352 eq352 gq352 => ?_)
          refine lv_aload_n hx hb dX9_addBytes_21 rfl (lv_at hl343 0 rfl) ?_
          refine x_gi C hTH341 (ci := 9) (k := 3) rfl inX9 (by decide) wF_X9_105 ga0 rg_68 rfl dX9_addBytes_22 (fun x353 ex353 bx353 => ?_)
          have ux353 : x345 = x353 := (ex345).trans ex353.symm
          subst ux353
          refine lv_iload_n hx hb dX9_addBytes_25 rfl (lv_at hl343 1 rfl) ?_
          refine lv_iload_n hx hb dX9_addBytes_26 rfl (lv_at hl343 2 rfl) ?_
          obtain ⟨x354, ex354⟩ : ∃ z : Int32, ((x1 : Int32).toUInt32 >>> ((x344 : Int32).toUInt32 &&& Int32.toUInt32 31)).toInt32 = z := ⟨_, rfl⟩
          refine lv_iushr (v := x354) hx hb dX9_addBytes_27 ex354 ?_
          refine lv_sipush (v := 255) hx hb dX9_addBytes_28 (by decide) ?_
          refine lv_iand hx hb dX9_addBytes_31 ?_
          refine lv_topi (fun x355 ex355 => ?_)
          have tx355 := i_and255 ex355
          refine x_iast C hTH341 hSH341 gq352 rg_108 (by omega) (by show _ < ((500 : Nat) : Int); omega) ⟨by have := i_rng x355; omega, by have := i_rng x355; omega⟩ (AE_in gq352 (by decide)) dX9_addBytes_32 (fun H356 locsH356 hTH356 hSH356 wH356 => ?_)
          have m357 := ex345.trans (Wr.neI wH356 (Or.inl (G_ne ga0 gq352 (by decide)))).symm
          have m358 := cy346_0.trans (Wr.neR wH356 (Or.inl (G_ne ga0 gq352 (by decide)))).symm
          have m359 := (Wr.neV wH356 (Or.inl (G_ne ga0 gq352 (by decide)))).trans cy346_1
          have m360 := eq352.trans (Wr.neR wH356 (Or.inl (G_ne ga0 gq352 (by decide)))).symm
          have m361 := Wr.I wH356
          have m361 := m361.symm
          refine lv_aload_n hx hb dX9_addBytes_33 rfl (lv_at hl343 0 rfl) ?_
          refine lv_dup hx hb dX9_addBytes_34 rfl ?_
          refine x_gi C hTH356 (ci := 9) (k := 3) rfl inX9 (by decide) wF_X9_105 ga0 rg_68 rfl dX9_addBytes_35 (fun x362 ex362 bx362 => ?_)
          have ux362 : x345 = x362 := (m357).trans ex362.symm
          subst ux362
          refine lv_iconst (v := 1) hx hb dX9_addBytes_38 (by decide) ?_
          refine lv_iadd hx hb dX9_addBytes_39 ?_
          refine lv_topi (fun x363 ex363 => ?_)
          have tx363 := i_add ex363 (by omega)
          refine x_put C hTH356 hSH356 (ci := 9) (k := 3) (v := .int x363) (ty0 := tyX9) rfl inX9 tyX9_ok nmX9 (by decide) rfl wF_X9_105 ga0 rg_68 rfl rfl (okI (by have := i_rng x363; omega) (by have := i_rng x363; omega)) rfl rfl (AE_in ga0 (by decide)) dX9_addBytes_40 (fun H364 locsH364 hTH364 hSH364 wH364 => ?_)
          have m366 := m358.trans (Wr.neR wH364 (Or.inr (x_apart hKT hts inX9 tyX9 tyX9_ok nmX9 rfl 0 3 (by decide) (by decide) (by decide)))).symm
          have m367 := (Wr.neV wH364 (Or.inr (x_apart hKT hts inX9 tyX9 tyX9_ok nmX9 rfl 1 3 (by decide) (by decide) (by decide)))).trans m359
          have m368 := m360.trans (Wr.neR wH364 (Or.inr (x_apart hKT hts inX9 tyX9 tyX9_ok nmX9 rfl 2 3 (by decide) (by decide) (by decide)))).symm
          have m369 := m361.trans (Wr.neI wH364 (Or.inl (G_ne gq352 ga0 (by decide)))).symm
          have m370 := Wr.I wH364
          have m370 := m370.symm
          obtain ⟨x371, ex371⟩ : ∃ y : Int32, y = x344 + (-8) := ⟨_, rfl⟩
          have tx371 := i_add ex371 (by omega)
          refine lv_iinc (v := x371) (lv' := [(2, .int x371), (0, .ref a0), (1, .int x1)]) hx hb dX9_addBytes_43 hl343 (k := 2) rfl (by rw [ex371]; rfl) (by decide) rfl (fun ls372 hl373 => ?_)
          refine lv_goto (tgt := 3) hx hb dX9_addBytes_46 (by decide) ?_
          exact ih3 ls372 H364 locsH364 (x371) (x363) (lv_sub hl373 [1, 2, 0] rfl) hTH364 hSH364 (by have := i_rng x371; omega) (by have := i_rng x363; omega) m370 m366 m367 (by omega) (by omega)
  refine lv_bipush (v := 24) hx hb dX9_addBytes_0 (by decide) ?_
  refine lv_istore_n (lv' := [(2, .int 24), (0, .ref a0), (1, .int x1)]) hx hb dX9_addBytes_2 rfl hl (by decide) rfl (fun ls374 hl375 => ?_)
  exact J3 (((24 : Int32).toInt - (-8)).toNat + 1) ls374 s.heap [] (24) (tp) (lv_sub hl375 [1, 2, 0] rfl) hT hS (by decide) (by have := i_rng tp; omega) etp ewq hkv (by omega) (by omega)

set_option maxHeartbeats 4000000 in
set_option maxRecDepth 100000 in
theorem a_X9_feed_r (l : Launch) (K : KE) (G : Nat → Option Nat) (H : Heap) {a0 : Nat} (x1 : Int32) (x2 : Int32) (x3 : Int32) (x4 : Int32) (x5 : Int32) {wq : Nat} (tp : Int32) {kv : Value} (hT : TY K G H) (ga0 : G a0 = some 68) (gwq : G wq = some 0) (ewq : wq = fR H a0 (K.1.2 9 0)) (etp : tp = fI H a0 (K.1.2 9 3)) (hkv : fV H a0 (K.1.2 9 1) = kv) : MX l K yX9_feed cX9_feed 6 (some .int) 1 22 0 0 [.ref a0, .int x1, .int x2, .int x3, .int x4, .int x5] H (AE G [68, 108] H.size) (fun v H1 => ∃ (r : Int32) (t0 : Int32), v = some (.int r) ∧ t0 = fI H1 a0 (K.1.2 9 3) ∧ ((tp.toInt ≤ 480 ∧ r.toInt = tp.toInt + 20 ∧ t0.toInt = tp.toInt + 20) ∨ (480 < tp.toInt ∧ r.toInt = -1 ∧ t0.toInt = tp.toInt)) ∧ wq = fR H1 a0 (K.1.2 9 0) ∧ fV H1 a0 (K.1.2 9 1) = kv ∧ TY K G H1) := by
  refine MX.of (by decide +kernel) (Nat.le_of_ble_eq_true rfl) ?_
  intro p e s m below meth c ls Q C hH hl hQ
  subst hH
  have C : CX p K s m _ meth c RX9 cX9_feed 6 (some .int) "feed" := C
  obtain ⟨hx, hb, hml, hown, hts, hKT, hr, hlocks, hnm⟩ := id C
  have hl : lv_has ls 6 [(0, .ref a0), (1, .int x1), (2, .int x2), (3, .int x3), (4, .int x4), (5, .int x5)] := hl
  have hS : va_S (AE G [68, 108] s.heap.size) s.heap s.heap [] := va_S.rf
  have n_m1 : ((-1) : Int32).toInt = -1 := rfl
  have n_20 : (20 : Int32).toInt = 20 := rfl
  have n_500 : (500 : Int32).toInt = 500 := rfl
  have btp := ty_fi (x := tp) (k := 3) etp hT ga0 rg_68 rfl
  refine lv_aload_n hx hb dX9_feed_0 rfl (lv_at hl 0 rfl) ?_
  refine x_gi C hT (ci := 9) (k := 3) rfl inX9 (by decide) wF_X9_105 ga0 rg_68 rfl dX9_feed_1 (fun x201 ex201 bx201 => ?_)
  have ux201 : tp = x201 := (etp).trans ex201.symm
  subst ux201
  refine lv_bipush (v := 20) hx hb dX9_feed_4 (by decide) ?_
  refine lv_iadd hx hb dX9_feed_6 ?_
  refine lv_topi (fun x202 ex202 => ?_)
  have tx202 := i_add ex202 (by omega)
  refine lv_sipush (v := 500) hx hb dX9_feed_7 (by decide) ?_
  refine lv_icmp_le (tgt := 15) hx hb dX9_feed_10 (by decide) (fun c203 => ?_) (fun c203 => ?_)
  · have k204 := i_le c203
    refine lv_aload_n hx hb dX9_feed_15 rfl (lv_at hl 0 rfl) ?_
    refine lv_iload_n hx hb dX9_feed_16 rfl (lv_at hl 1 rfl) ?_
    refine x_V (As := [.int x1]) (rest := []) C (a_X9_addBytes_r l K G s.heap (x1) (tp) hT ga0 gwq ewq etp (by omega) hkv) yo_X9_addBytes wM_X9_108 ⟨⟨by decide, by decide⟩, by decide, by decide⟩ (x_rv C hT (ci := 9) rfl ga0 rg_68) rfl hl.1 rfl (Nat.le_of_ble_eq_true rfl) dX9_feed_17 hS (AE_sub (fun _ _ => rfl) (by decide) hS.1) (fun vH205 H205 locsH205 pH205 zH205 kH205 hSH205 => ?_)
    obtain ⟨x206, hvH205, ex206, hrH205, m207, m208, hTH205⟩ := pH205
    subst hvH205
    have bx206 := ty_fi (x := x206) (k := 3) ex206 hTH205 ga0 rg_68 rfl
    refine W.eq (g2 := F0 m 20 ls []) rfl ?_
    refine lv_aload_n hx hb dX9_feed_20 rfl (lv_at hl 0 rfl) ?_
    refine lv_iload_n hx hb dX9_feed_21 rfl (lv_at hl 2 rfl) ?_
    refine x_V (As := [.int x2]) (rest := []) C (a_X9_addBytes_r l K G H205 (x2) (x206) hTH205 ga0 gwq m207 ex206 (by omega) m208) yo_X9_addBytes wM_X9_108 ⟨⟨by decide, by decide⟩, by decide, by decide⟩ (x_rv C hTH205 (ci := 9) rfl ga0 rg_68) rfl hl.1 rfl (Nat.le_of_ble_eq_true rfl) dX9_feed_22 hSH205 (AE_sub (fun _ _ => rfl) (by decide) hSH205.1) (fun vH209 H209 locsH209 pH209 zH209 kH209 hSH209 => ?_)
    obtain ⟨x210, hvH209, ex210, hrH209, m211, m212, hTH209⟩ := pH209
    subst hvH209
    have bx210 := ty_fi (x := x210) (k := 3) ex210 hTH209 ga0 rg_68 rfl
    refine W.eq (g2 := F0 m 25 ls []) rfl ?_
    refine lv_aload_n hx hb dX9_feed_25 rfl (lv_at hl 0 rfl) ?_
    refine lv_iload_n hx hb dX9_feed_26 rfl (lv_at hl 3 rfl) ?_
    refine x_V (As := [.int x3]) (rest := []) C (a_X9_addBytes_r l K G H209 (x3) (x210) hTH209 ga0 gwq m211 ex210 (by omega) m212) yo_X9_addBytes wM_X9_108 ⟨⟨by decide, by decide⟩, by decide, by decide⟩ (x_rv C hTH209 (ci := 9) rfl ga0 rg_68) rfl hl.1 rfl (Nat.le_of_ble_eq_true rfl) dX9_feed_27 hSH209 (AE_sub (fun _ _ => rfl) (by decide) hSH209.1) (fun vH213 H213 locsH213 pH213 zH213 kH213 hSH213 => ?_)
    obtain ⟨x214, hvH213, ex214, hrH213, m215, m216, hTH213⟩ := pH213
    subst hvH213
    have bx214 := ty_fi (x := x214) (k := 3) ex214 hTH213 ga0 rg_68 rfl
    refine W.eq (g2 := F0 m 30 ls []) rfl ?_
    refine lv_aload_n hx hb dX9_feed_30 rfl (lv_at hl 0 rfl) ?_
    refine lv_iload hx hb dX9_feed_31 (lv_at hl 4 rfl) ?_
    refine x_V (As := [.int x4]) (rest := []) C (a_X9_addBytes_r l K G H213 (x4) (x214) hTH213 ga0 gwq m215 ex214 (by omega) m216) yo_X9_addBytes wM_X9_108 ⟨⟨by decide, by decide⟩, by decide, by decide⟩ (x_rv C hTH213 (ci := 9) rfl ga0 rg_68) rfl hl.1 rfl (Nat.le_of_ble_eq_true rfl) dX9_feed_33 hSH213 (AE_sub (fun _ _ => rfl) (by decide) hSH213.1) (fun vH217 H217 locsH217 pH217 zH217 kH217 hSH217 => ?_)
    obtain ⟨x218, hvH217, ex218, hrH217, m219, m220, hTH217⟩ := pH217
    subst hvH217
    have bx218 := ty_fi (x := x218) (k := 3) ex218 hTH217 ga0 rg_68 rfl
    refine W.eq (g2 := F0 m 36 ls []) rfl ?_
    refine lv_aload_n hx hb dX9_feed_36 rfl (lv_at hl 0 rfl) ?_
    refine lv_iload hx hb dX9_feed_37 (lv_at hl 5 rfl) ?_
    refine x_V (As := [.int x5]) (rest := []) C (a_X9_addBytes_r l K G H217 (x5) (x218) hTH217 ga0 gwq m219 ex218 (by omega) m220) yo_X9_addBytes wM_X9_108 ⟨⟨by decide, by decide⟩, by decide, by decide⟩ (x_rv C hTH217 (ci := 9) rfl ga0 rg_68) rfl hl.1 rfl (Nat.le_of_ble_eq_true rfl) dX9_feed_39 hSH217 (AE_sub (fun _ _ => rfl) (by decide) hSH217.1) (fun vH221 H221 locsH221 pH221 zH221 kH221 hSH221 => ?_)
    obtain ⟨x222, hvH221, ex222, hrH221, m223, m224, hTH221⟩ := pH221
    subst hvH221
    have bx222 := ty_fi (x := x222) (k := 3) ex222 hTH221 ga0 rg_68 rfl
    refine W.eq (g2 := F0 m 42 ls []) rfl ?_
    refine lv_aload_n hx hb dX9_feed_42 rfl (lv_at hl 0 rfl) ?_
    refine x_gi C hTH221 (ci := 9) (k := 3) rfl inX9 (by decide) wF_X9_105 ga0 rg_68 rfl dX9_feed_43 (fun x225 ex225 bx225 => ?_)
    have ux225 : x222 = x225 := (ex222).trans ex225.symm
    subst ux225
    exact x_iret C hQ dX9_feed_46 hSH221 (by decide) (by decide) (⟨x222, x222, rfl, ex222, by omega, m223, m224, hTH221⟩)
  · have k204 := i_nle c203
    refine lv_iconst (v := (-1)) hx hb dX9_feed_13 (by decide) ?_
    exact x_iret C hQ dX9_feed_14 hS (by decide) (by decide) (⟨(-1), tp, rfl, etp, by omega, ewq, hkv, hT⟩)

set_option maxHeartbeats 4000000 in
set_option maxRecDepth 100000 in
theorem a_X9_end_r (l : Launch) (K : KE) (G : Nat → Option Nat) (H : Heap) {a0 : Nat} (x1 : Int32) {wq : Nat} (tp : Int32) {kv : Value} (hT : TY K G H) (ga0 : G a0 = some 68) (gwq : G wq = some 0) (ewq : wq = fR H a0 (K.1.2 9 0)) (etp : tp = fI H a0 (K.1.2 9 3)) (hkv : fV H a0 (K.1.2 9 1) = kv) : MX l K yX9_end cX9_end 2 (some .boolean) 0 0 0 0 [.ref a0, .int x1] H (AE G [68] H.size) (fun v H1 => ∃ (r : Int32) (t0 : Int32), v = some (.int r) ∧ (0 ≤ r.toInt ∧ r.toInt ≤ 1) ∧ t0 = fI H1 a0 (K.1.2 9 3) ∧ ((0 ≤ x1.toInt ∧ x1.toInt ≤ tp.toInt ∧ r.toInt = 1 ∧ t0.toInt = x1.toInt) ∨ ((x1.toInt < 0 ∨ tp.toInt < x1.toInt) ∧ r.toInt = 0 ∧ t0.toInt = tp.toInt)) ∧ wq = fR H1 a0 (K.1.2 9 0) ∧ fV H1 a0 (K.1.2 9 1) = kv ∧ TY K G H1) := by
  refine MX.of (by decide +kernel) (Nat.le_of_ble_eq_true rfl) ?_
  intro p e s m below meth c ls Q C hH hl hQ
  subst hH
  have C : CX p K s m _ meth c RX9 cX9_end 2 (some .boolean) "end" := C
  obtain ⟨hx, hb, hml, hown, hts, hKT, hr, hlocks, hnm⟩ := id C
  have hl : lv_has ls 2 [(0, .ref a0), (1, .int x1)] := hl
  have hS : va_S (AE G [68] s.heap.size) s.heap s.heap [] := va_S.rf
  have n_0 : (0 : Int32).toInt = 0 := rfl
  have n_1 : (1 : Int32).toInt = 1 := rfl
  have btp := ty_fi (x := tp) (k := 3) etp hT ga0 rg_68 rfl
  refine lv_iload_n hx hb dX9_end_0 rfl (lv_at hl 1 rfl) ?_
  refine lv_if_lt (tgt := 12) hx hb dX9_end_1 (by decide) (fun c141 => ?_) (fun c141 => ?_)
  · have k142 := i_lt c141
    refine lv_iconst (v := 0) hx hb dX9_end_12 (by decide) ?_
    exact x_zret C hQ (Or.inl rfl) dX9_end_13 hS (by decide) (by decide) (⟨0, tp, rfl, by decide, etp, by omega, ewq, hkv, hT⟩)
  · have k142 := i_nlt c141
    refine lv_iload_n hx hb dX9_end_4 rfl (lv_at hl 1 rfl) ?_
    refine lv_aload_n hx hb dX9_end_5 rfl (lv_at hl 0 rfl) ?_
    refine x_gi C hT (ci := 9) (k := 3) rfl inX9 (by decide) wF_X9_105 ga0 rg_68 rfl dX9_end_6 (fun x143 ex143 bx143 => ?_)
    have ux143 : tp = x143 := (etp).trans ex143.symm
    subst ux143
    refine lv_icmp_le (tgt := 14) hx hb dX9_end_9 (by decide) (fun c144 => ?_) (fun c144 => ?_)
    · have k145 := i_le c144
      refine lv_aload_n hx hb dX9_end_14 rfl (lv_at hl 0 rfl) ?_
      refine lv_iload_n hx hb dX9_end_15 rfl (lv_at hl 1 rfl) ?_
      refine x_put C hT hS (ci := 9) (k := 3) (v := .int x1) (ty0 := tyX9) rfl inX9 tyX9_ok nmX9 (by decide) rfl wF_X9_105 ga0 rg_68 rfl rfl (okI (by have := i_rng x1; omega) (by have := i_rng x1; omega)) rfl rfl (AE_in ga0 (by decide)) dX9_end_16 (fun H146 locsH146 hTH146 hSH146 wH146 => ?_)
      have m147 := ewq.trans (Wr.neR wH146 (Or.inr (x_apart hKT hts inX9 tyX9 tyX9_ok nmX9 rfl 0 3 (by decide) (by decide) (by decide)))).symm
      have m149 := (Wr.neV wH146 (Or.inr (x_apart hKT hts inX9 tyX9 tyX9_ok nmX9 rfl 1 3 (by decide) (by decide) (by decide)))).trans hkv
      have m150 := Wr.I wH146
      have m150 := m150.symm
      refine lv_iconst (v := 1) hx hb dX9_end_19 (by decide) ?_
      exact x_zret C hQ (Or.inr rfl) dX9_end_20 hSH146 (by decide) (by decide) (⟨1, x1, rfl, by decide, m150, by omega, m147, m149, hTH146⟩)
    · have k145 := i_nle c144
      refine lv_iconst (v := 0) hx hb dX9_end_12 (by decide) ?_
      exact x_zret C hQ (Or.inl rfl) dX9_end_13 hS (by decide) (by decide) (⟨0, tp, rfl, by decide, etp, by omega, ewq, hkv, hT⟩)

set_option maxHeartbeats 4000000 in
set_option maxRecDepth 100000 in
theorem a_X9_text_r (l : Launch) (K : KE) (G : Nat → Option Nat) (H : Heap) {a0 wq nq lq kq : Nat} (x1 x2 : Int32) (s1 : Int32) (s4 : Int32) (s5 : Int32) (s10 : Int32) (s13 : Int32) (s16 : Int32) {kv : Value} (hT : TY K G H) (ga0 : G a0 = some 68) (gwq : G wq = some 0) (ewq : wq = fR H a0 (K.1.2 9 0)) (es1 : s1 = fI H wq (K.1.2 8 1)) (es4 : s4 = fI H wq (K.1.2 8 4)) (es5 : s5 = fI H wq (K.1.2 8 5)) (es10 : s10 = fI H wq (K.1.2 8 10)) (es13 : s13 = fI H wq (K.1.2 8 13)) (es16 : s16 = fI H wq (K.1.2 8 16)) (gnq : G nq = some 31) (enq : nq = fR H wq (K.1.2 8 12)) (glq : G lq = some 32) (elq : lq = fR H wq (K.1.2 8 14)) (gkq : G kq = some 33) (ekq : kq = fR H wq (K.1.2 8 15)) (hkv : fV H a0 (K.1.2 9 1) = kv) : MX l K yX9_text cX9_text 6 (some .int) 39 869 0 0 [.ref a0, .int x1, .int x2] H (AE G [68, 0, 78, 79, 80, 81, 69, 70, 71, 72, 73, 74, 75, 76, 77, 16, 17, 18, 19, 20, 21, 22, 23, 24] H.size) (fun v H1 => ∃ (r : Int32), v = some (.int r) ∧ wq = fR H1 a0 (K.1.2 9 0) ∧ s1 = fI H1 wq (K.1.2 8 1) ∧ s4 = fI H1 wq (K.1.2 8 4) ∧ s5 = fI H1 wq (K.1.2 8 5) ∧ s10 = fI H1 wq (K.1.2 8 10) ∧ s13 = fI H1 wq (K.1.2 8 13) ∧ s16 = fI H1 wq (K.1.2 8 16) ∧ fI H1 a0 (K.1.2 9 3) = 0 ∧ fV H1 a0 (K.1.2 9 1) = kv ∧ nq = fR H1 wq (K.1.2 8 12) ∧ lq = fR H1 wq (K.1.2 8 14) ∧ kq = fR H1 wq (K.1.2 8 15) ∧ TY K G H1) := by
  refine MX.of (by decide +kernel) (Nat.le_of_ble_eq_true rfl) ?_
  intro p e s m below meth c ls Q C hH hl hQ
  subst hH
  have C : CX p K s m _ meth c RX9 cX9_text 6 (some .int) "text" := C
  obtain ⟨hx, hb, hml, hown, hts, hKT, hr, hlocks, hnm⟩ := id C
  have hl : lv_has ls 6 [(0, .ref a0), (1, .int x1), (2, .int x2)] := hl
  have hS : va_S (AE G [68, 0, 78, 79, 80, 81, 69, 70, 71, 72, 73, 74, 75, 76, 77, 16, 17, 18, 19, 20, 21, 22, 23, 24] s.heap.size) s.heap s.heap [] := va_S.rf
  have n_m1 : ((-1) : Int32).toInt = -1 := rfl
  have n_0 : (0 : Int32).toInt = 0 := rfl
  have n_1 : (1 : Int32).toInt = 1 := rfl
  have n_16 : (16 : Int32).toInt = 16 := rfl
  have n_26 : (26 : Int32).toInt = 26 := rfl
  refine lv_aload_n hx hb dX9_text_0 rfl (lv_at hl 0 rfl) ?_
  refine x_gi C hT (ci := 9) (k := 3) rfl inX9 (by decide) wF_X9_105 ga0 rg_68 rfl dX9_text_1 (fun x101 ex101 bx101 => ?_)
  refine lv_istore_n (lv' := [(3, .int x101), (0, .ref a0), (1, .int x1), (2, .int x2)]) hx hb dX9_text_4 rfl hl (by decide) rfl (fun ls102 hl103 => ?_)
  refine lv_aload_n hx hb dX9_text_5 rfl (lv_at hl103 1 rfl) ?_
  refine lv_iconst (v := 0) hx hb dX9_text_6 (by decide) ?_
  refine x_put C hT hS (ci := 9) (k := 3) (v := .int 0) (ty0 := tyX9) rfl inX9 tyX9_ok nmX9 (by decide) rfl wF_X9_105 ga0 rg_68 rfl rfl (okI (by have := i_rng (0 : Int32); omega) (by have := i_rng (0 : Int32); omega)) rfl rfl (AE_in ga0 (by decide)) dX9_text_7 (fun H104 locsH104 hTH104 hSH104 wH104 => ?_)
  have m105 := ewq.trans (Wr.neR wH104 (Or.inr (x_apart hKT hts inX9 tyX9 tyX9_ok nmX9 rfl 0 3 (by decide) (by decide) (by decide)))).symm
  have m106 := es1.trans (Wr.neI wH104 (Or.inl (G_ne gwq ga0 (by decide)))).symm
  have m107 := es4.trans (Wr.neI wH104 (Or.inl (G_ne gwq ga0 (by decide)))).symm
  have m108 := es5.trans (Wr.neI wH104 (Or.inl (G_ne gwq ga0 (by decide)))).symm
  have m109 := es10.trans (Wr.neI wH104 (Or.inl (G_ne gwq ga0 (by decide)))).symm
  have m110 := es13.trans (Wr.neI wH104 (Or.inl (G_ne gwq ga0 (by decide)))).symm
  have m111 := es16.trans (Wr.neI wH104 (Or.inl (G_ne gwq ga0 (by decide)))).symm
  have m112 := (Wr.neV wH104 (Or.inr (x_apart hKT hts inX9 tyX9 tyX9_ok nmX9 rfl 1 3 (by decide) (by decide) (by decide)))).trans hkv
  have m113 := enq.trans (Wr.neR wH104 (Or.inl (G_ne gwq ga0 (by decide)))).symm
  have m114 := elq.trans (Wr.neR wH104 (Or.inl (G_ne gwq ga0 (by decide)))).symm
  have m115 := ekq.trans (Wr.neR wH104 (Or.inl (G_ne gwq ga0 (by decide)))).symm
  have m117 := Wr.I wH104
  refine lv_aload_n hx hb dX9_text_10 rfl (lv_at hl103 1 rfl) ?_
  refine x_gr C hTH104 (ci := 9) (k := 0) rfl inX9 (by decide) wF_X9_12 ga0 rg_68 rfl dX9_text_11 (fun q118 eq118 gq118 => ?_)
  have uq118 : wq = q118 := (m105).trans eq118.symm
  subst uq118
  refine lv_iconst (v := 0) hx hb dX9_text_14 (by decide) ?_
  refine x_put C hTH104 hSH104 (ci := 8) (k := 6) (v := .int 0) (ty0 := tyX8) rfl inX8 tyX8_ok nmX8 (by decide) rfl wF_X9_111 gwq rg_0 rfl rfl (okI (by have := i_rng (0 : Int32); omega) (by have := i_rng (0 : Int32); omega)) rfl rfl (AE_in gwq (by decide)) dX9_text_15 (fun H119 locsH119 hTH119 hSH119 wH119 => ?_)
  have m120 := m105.trans (Wr.neR wH119 (Or.inl (G_ne ga0 gwq (by decide)))).symm
  have m121 := m106.trans (Wr.neI wH119 (Or.inr (x_apart hKT hts inX8 tyX8 tyX8_ok nmX8 rfl 1 6 (by decide) (by decide) (by decide)))).symm
  have m122 := m107.trans (Wr.neI wH119 (Or.inr (x_apart hKT hts inX8 tyX8 tyX8_ok nmX8 rfl 4 6 (by decide) (by decide) (by decide)))).symm
  have m123 := m108.trans (Wr.neI wH119 (Or.inr (x_apart hKT hts inX8 tyX8 tyX8_ok nmX8 rfl 5 6 (by decide) (by decide) (by decide)))).symm
  have m124 := m109.trans (Wr.neI wH119 (Or.inr (x_apart hKT hts inX8 tyX8 tyX8_ok nmX8 rfl 10 6 (by decide) (by decide) (by decide)))).symm
  have m125 := m110.trans (Wr.neI wH119 (Or.inr (x_apart hKT hts inX8 tyX8 tyX8_ok nmX8 rfl 13 6 (by decide) (by decide) (by decide)))).symm
  have m126 := m111.trans (Wr.neI wH119 (Or.inr (x_apart hKT hts inX8 tyX8 tyX8_ok nmX8 rfl 16 6 (by decide) (by decide) (by decide)))).symm
  have m127 := (Wr.neV wH119 (Or.inl (G_ne ga0 gwq (by decide)))).trans m112
  have m128 := m113.trans (Wr.neR wH119 (Or.inr (x_apart hKT hts inX8 tyX8 tyX8_ok nmX8 rfl 12 6 (by decide) (by decide) (by decide)))).symm
  have m129 := m114.trans (Wr.neR wH119 (Or.inr (x_apart hKT hts inX8 tyX8 tyX8_ok nmX8 rfl 14 6 (by decide) (by decide) (by decide)))).symm
  have m130 := m115.trans (Wr.neR wH119 (Or.inr (x_apart hKT hts inX8 tyX8 tyX8_ok nmX8 rfl 15 6 (by decide) (by decide) (by decide)))).symm
  have m131 := (Wr.neI wH119 (Or.inl (G_ne ga0 gwq (by decide)))).trans m117
  have m132 := Wr.I wH119
  refine lv_aload_n hx hb dX9_text_18 rfl (lv_at hl103 1 rfl) ?_
  refine x_gr C hTH119 (ci := 9) (k := 0) rfl inX9 (by decide) wF_X9_12 ga0 rg_68 rfl dX9_text_19 (fun q133 eq133 gq133 => ?_)
  have uq133 : wq = q133 := (m120).trans eq133.symm
  subst uq133
  refine lv_iconst (v := (-1)) hx hb dX9_text_22 (by decide) ?_
  refine x_put C hTH119 hSH119 (ci := 8) (k := 7) (v := .int (-1)) (ty0 := tyX8) rfl inX8 tyX8_ok nmX8 (by decide) rfl wF_X9_114 gwq rg_0 rfl rfl (okI (by have := i_rng ((-1) : Int32); omega) (by have := i_rng ((-1) : Int32); omega)) rfl rfl (AE_in gwq (by decide)) dX9_text_23 (fun H134 locsH134 hTH134 hSH134 wH134 => ?_)
  have m135 := m120.trans (Wr.neR wH134 (Or.inl (G_ne ga0 gwq (by decide)))).symm
  have m136 := m121.trans (Wr.neI wH134 (Or.inr (x_apart hKT hts inX8 tyX8 tyX8_ok nmX8 rfl 1 7 (by decide) (by decide) (by decide)))).symm
  have m137 := m122.trans (Wr.neI wH134 (Or.inr (x_apart hKT hts inX8 tyX8 tyX8_ok nmX8 rfl 4 7 (by decide) (by decide) (by decide)))).symm
  have m138 := m123.trans (Wr.neI wH134 (Or.inr (x_apart hKT hts inX8 tyX8 tyX8_ok nmX8 rfl 5 7 (by decide) (by decide) (by decide)))).symm
  have m139 := m124.trans (Wr.neI wH134 (Or.inr (x_apart hKT hts inX8 tyX8 tyX8_ok nmX8 rfl 10 7 (by decide) (by decide) (by decide)))).symm
  have m140 := m125.trans (Wr.neI wH134 (Or.inr (x_apart hKT hts inX8 tyX8 tyX8_ok nmX8 rfl 13 7 (by decide) (by decide) (by decide)))).symm
  have m141 := m126.trans (Wr.neI wH134 (Or.inr (x_apart hKT hts inX8 tyX8 tyX8_ok nmX8 rfl 16 7 (by decide) (by decide) (by decide)))).symm
  have m142 := (Wr.neV wH134 (Or.inl (G_ne ga0 gwq (by decide)))).trans m127
  have m143 := m128.trans (Wr.neR wH134 (Or.inr (x_apart hKT hts inX8 tyX8 tyX8_ok nmX8 rfl 12 7 (by decide) (by decide) (by decide)))).symm
  have m144 := m129.trans (Wr.neR wH134 (Or.inr (x_apart hKT hts inX8 tyX8 tyX8_ok nmX8 rfl 14 7 (by decide) (by decide) (by decide)))).symm
  have m145 := m130.trans (Wr.neR wH134 (Or.inr (x_apart hKT hts inX8 tyX8 tyX8_ok nmX8 rfl 15 7 (by decide) (by decide) (by decide)))).symm
  have m146 := (Wr.neI wH134 (Or.inl (G_ne ga0 gwq (by decide)))).trans m131
  have m147 := (Wr.neI wH134 (Or.inr (x_apart hKT hts inX8 tyX8 tyX8_ok nmX8 rfl 6 7 (by decide) (by decide) (by decide)))).trans m132
  have m148 := Wr.I wH134
  refine lv_aload_n hx hb dX9_text_26 rfl (lv_at hl103 1 rfl) ?_
  refine lv_iload_n hx hb dX9_text_27 rfl (lv_at hl103 2 rfl) ?_
  refine lv_iload_n hx hb dX9_text_28 rfl (lv_at hl103 3 rfl) ?_
  refine x_V (As := [.int x1, .int x2]) (rest := []) C (a_X9_textAt l K G H134 (x1) (x2) hTH134 ga0) yo_X9_textAt wM_X9_117 ⟨⟨by decide, by decide⟩, by decide, by decide⟩ (x_rv C hTH134 (ci := 9) rfl ga0 rg_68) rfl hl103.1 rfl (Nat.le_of_ble_eq_true rfl) dX9_text_29 hSH134 (AE_sub (fun _ _ => rfl) (by decide) hSH134.1) (fun vH149 H149 locsH149 pH149 zH149 kH149 hSH149 => ?_)
  have hTH149 := pH149.2
  have m150 := (m135).trans (fR_kept (x_lt hTH134 kH149 ga0 (by decide))).symm
  have m151 := (m136).trans (fI_kept (x_lt hTH134 kH149 gwq (by decide))).symm
  have m152 := (m137).trans (fI_kept (x_lt hTH134 kH149 gwq (by decide))).symm
  have m153 := (m138).trans (fI_kept (x_lt hTH134 kH149 gwq (by decide))).symm
  have m154 := (m139).trans (fI_kept (x_lt hTH134 kH149 gwq (by decide))).symm
  have m155 := (m140).trans (fI_kept (x_lt hTH134 kH149 gwq (by decide))).symm
  have m156 := (m141).trans (fI_kept (x_lt hTH134 kH149 gwq (by decide))).symm
  have m157 := (fV_kept (x_lt hTH134 kH149 ga0 (by decide))).trans m142
  have m158 := (m143).trans (fR_kept (x_lt hTH134 kH149 gwq (by decide))).symm
  have m159 := (m144).trans (fR_kept (x_lt hTH134 kH149 gwq (by decide))).symm
  have m160 := (m145).trans (fR_kept (x_lt hTH134 kH149 gwq (by decide))).symm
  have m161 := (fI_kept (x_lt hTH134 kH149 ga0 (by decide))).trans m146
  have m162 := (fI_kept (x_lt hTH134 kH149 gwq (by decide))).trans m147
  have m163 := (fI_kept (x_lt hTH134 kH149 gwq (by decide))).trans m148
  rcases pH149.1 with hvH149 | ⟨q164, hvH149, gq164⟩
  · skip
    subst hvH149
    refine W.eq (g2 := F0 m 32 ls102 [.null]) rfl ?_
    refine lv_astoreN (lv' := [(4, .null), (3, .int x101), (0, .ref a0), (1, .int x1), (2, .int x2)]) hx hb dX9_text_32 hl103 (by decide) rfl (fun ls165 hl166 => ?_)
    refine lv_aloadN hx hb dX9_text_34 (lv_at hl166 0 rfl) ?_
    refine lv_ifnonnullN hx hb dX9_text_36 ?_
    refine lv_iconst (v := (-1)) hx hb dX9_text_39 (by decide) ?_
    exact x_iret C hQ dX9_text_40 hSH149 (by decide) (by decide) (⟨(-1), rfl, m150, m151, m152, m153, m154, m155, m156, m161, m157, m158, m159, m160, hTH149⟩)
  · skip
    subst hvH149
    refine W.eq (g2 := F0 m 32 ls102 [.ref q164]) rfl ?_
    refine lv_astore (lv' := [(4, .ref q164), (3, .int x101), (0, .ref a0), (1, .int x1), (2, .int x2)]) hx hb dX9_text_32 hl103 (by decide) rfl (fun ls167 hl168 => ?_)
    refine lv_aload hx hb dX9_text_34 (lv_at hl168 0 rfl) ?_
    refine lv_ifnonnull (tgt := 41) hx hb dX9_text_36 (by decide) ?_
    refine lv_aload_n hx hb dX9_text_41 rfl (lv_at hl168 2 rfl) ?_
    refine x_gr C hTH149 (ci := 9) (k := 4) rfl inX9 (by decide) wF_X9_23 ga0 rg_68 rfl dX9_text_42 (fun q169 eq169 gq169 => ?_)
    refine lv_aload_n hx hb dX9_text_45 rfl (lv_at hl168 2 rfl) ?_
    refine x_gr C hTH149 (ci := 9) (k := 2) rfl inX9 (by decide) wF_X9_16 ga0 rg_68 rfl dX9_text_46 (fun q170 eq170 gq170 => ?_)
    refine lv_iload_n hx hb dX9_text_49 rfl (lv_at hl168 1 rfl) ?_
    refine lv_iload_n hx hb dX9_text_50 rfl (lv_at hl168 3 rfl) ?_
    refine lv_if_ne (tgt := 58) hx hb dX9_text_51 (by decide) (fun c171 => ?_) (fun c171 => ?_)
    · have k172 := i_ne c171
      refine lv_iconst (v := 0) hx hb dX9_text_58 (by decide) ?_
      obtain ⟨q173, eq173⟩ : ∃ z : Nat, z = fR H149 q169 (K.1.2 4 0) := ⟨_, rfl⟩
      have gq173 := ty_fr (q := q173) (k := 0) (u := 69) eq173 hTH149 gq169 rg_78 rfl
      obtain ⟨q174, eq174⟩ : ∃ z : Nat, z = fR H149 q169 (K.1.2 4 3) := ⟨_, rfl⟩
      have gq174 := ty_fr (q := q174) (k := 3) (u := 79) eq174 hTH149 gq169 rg_78 rfl
      obtain ⟨x175, ex175⟩ : ∃ z : Int32, z = fI H149 q169 (K.1.2 4 7) := ⟨_, rfl⟩
      have bx175 := ty_fi (x := x175) (k := 7) ex175 hTH149 gq169 rg_78 rfl
      obtain ⟨x176, ex176⟩ : ∃ z : Int32, z = fI H149 q169 (K.1.2 4 6) := ⟨_, rfl⟩
      have bx176 := ty_fi (x := x176) (k := 6) ex176 hTH149 gq169 rg_78 rfl
      refine x_V (As := [.ref q170, .int x101, .int 0]) (rest := []) C (a_X4_start l K G H149 (x101) (0) (x175) (x176) hTH149 gq169 gq170 (by omega) (by decide) gq173 eq173 gq174 eq174 ex175 ex176) yo_X4_start wM_X9_121 ⟨⟨by decide, by decide⟩, by decide, by decide⟩ (x_rv C hTH149 (ci := 4) rfl gq169 rg_78) rfl hl168.1 rfl (Nat.le_of_ble_eq_true rfl) dX9_text_59 hSH149 (AE_sub (fun _ _ => rfl) (by decide) hSH149.1) (fun vH177 H177 locsH177 pH177 zH177 kH177 hSH177 => ?_)
      obtain ⟨x178, x179, hvH177, ex178, ex179, hrH177, m180, m181, m182, hTH177⟩ := pH177
      subst hvH177
      have m183 := (m150).trans (fR_kept (x_lt hTH149 kH177 ga0 (by decide))).symm
      have m184 := (m151).trans (fI_kept (x_lt hTH149 kH177 gwq (by decide))).symm
      have m185 := (m152).trans (fI_kept (x_lt hTH149 kH177 gwq (by decide))).symm
      have m186 := (m153).trans (fI_kept (x_lt hTH149 kH177 gwq (by decide))).symm
      have m187 := (m154).trans (fI_kept (x_lt hTH149 kH177 gwq (by decide))).symm
      have m188 := (m155).trans (fI_kept (x_lt hTH149 kH177 gwq (by decide))).symm
      have m189 := (m156).trans (fI_kept (x_lt hTH149 kH177 gwq (by decide))).symm
      have m190 := (fV_kept (x_lt hTH149 kH177 ga0 (by decide))).trans m157
      have m191 := (m158).trans (fR_kept (x_lt hTH149 kH177 gwq (by decide))).symm
      have m192 := (m159).trans (fR_kept (x_lt hTH149 kH177 gwq (by decide))).symm
      have m193 := (m160).trans (fR_kept (x_lt hTH149 kH177 gwq (by decide))).symm
      have m194 := (fI_kept (x_lt hTH149 kH177 ga0 (by decide))).trans m161
      have m195 := (fI_kept (x_lt hTH149 kH177 gwq (by decide))).trans m162
      have m196 := (fI_kept (x_lt hTH149 kH177 gwq (by decide))).trans m163
      have m197 := (eq169).trans (fR_kept (x_lt hTH149 kH177 ga0 (by decide))).symm
      have m198 := (eq170).trans (fR_kept (x_lt hTH149 kH177 ga0 (by decide))).symm
      have bx178 := ty_fi (x := x178) (k := 7) ex178 hTH177 gq169 rg_78 rfl
      have bx179 := ty_fi (x := x179) (k := 6) ex179 hTH177 gq169 rg_78 rfl
      obtain ⟨x199, bx199, mx199⟩ := m182
      refine W.eq (g2 := F0 m 62 ls167 []) rfl ?_
      refine lv_iconst (v := 0) hx hb dX9_text_62 (by decide) ?_
      refine lv_istore (lv' := [(5, .int 0), (4, .ref q164), (3, .int x101), (0, .ref a0), (1, .int x1), (2, .int x2)]) hx hb dX9_text_63 hl168 (by decide) rfl (fun ls200 hl201 => ?_)
      have Lp202 : ∀ (nf : Nat) (ls205 : Array Slot) (H204 : Heap) (locsH204 : List Loc) (x203 : Int32) (x223 : Int32), lv_has ls205 6 [(5, .int x203), (4, .ref q164), (0, .ref a0)] → TY K G H204 → va_S (AE G [68, 0, 78, 79, 80, 81, 69, 70, 71, 72, 73, 74, 75, 76, 77, 16, 17, 18, 19, 20, 21, 22, 23, 24] s.heap.size) s.heap H204 locsH204 → (0 ≤ x203.toInt ∧ x203.toInt ≤ 17) → (q169 = fR H204 a0 (K.1.2 9 4)) → (q173 = fR H204 q169 (K.1.2 4 0)) → (q174 = fR H204 q169 (K.1.2 4 3)) → (fI H204 q174 (x199 : Int32).toNatClampNeg = 26) → (nq = fR H204 wq (K.1.2 8 12)) → (lq = fR H204 wq (K.1.2 8 14)) → (kq = fR H204 wq (K.1.2 8 15)) → (fI H204 a0 (K.1.2 9 3) = 0) → (fV H204 a0 (K.1.2 9 1) = kv) → (wq = fR H204 a0 (K.1.2 9 0)) → (s1 = fI H204 wq (K.1.2 8 1)) → (s4 = fI H204 wq (K.1.2 8 4)) → (s5 = fI H204 wq (K.1.2 8 5)) → (s10 = fI H204 wq (K.1.2 8 10)) → (s13 = fI H204 wq (K.1.2 8 13)) → (s16 = fI H204 wq (K.1.2 8 16)) → (x223 = fI H204 q169 (K.1.2 4 7)) → (x223.toInt ≤ x199.toInt ∧ 0 ≤ x223.toInt) → (17 - x203.toInt < (nf : Int)) → W p l e ({ frames := 39, cells := 0, slots := 0, locals := 869 } : Room) s m (([.ref a0, .int x1, .int x2] : List Value).toArray) below meth c H204 locsH204 ((0 + 0) + 0) ((0 + 0) + 0) Q (F0 m 65 ls205 []) := by
        intro nf
        induction nf with
        | zero =>
          intro ls205 H204 locsH204 x203 x223 hl206 hTH204 hSH204 bx203 i207 i208 i209 i210 i211 i212 i213 i214 i215 i216 i217 i218 i219 i220 i221 i222 ex223 tx223 hmLp202
          exfalso
          omega
        | succ nf ihLp202 =>
          intro ls205 H204 locsH204 x203 x223 hl206 hTH204 hSH204 bx203 i207 i208 i209 i210 i211 i212 i213 i214 i215 i216 i217 i218 i219 i220 i221 i222 ex223 tx223 hmLp202
          refine lv_iload hx hb dX9_text_65 (lv_at hl206 0 rfl) ?_
          refine lv_bipush (v := 16) hx hb dX9_text_67 (by decide) ?_
          refine lv_icmp_gt (tgt := 96) hx hb dX9_text_69 (by decide) (fun c224 => ?_) (fun c224 => ?_)
          · have k225 := i_lt c224
            refine lv_aload_n hx hb dX9_text_96 rfl (lv_at hl206 2 rfl) ?_
            refine x_gr C hTH204 (ci := 9) (k := 4) rfl inX9 (by decide) wF_X9_23 ga0 rg_68 rfl dX9_text_97 (fun q226 eq226 gq226 => ?_)
            have uq226 : q169 = q226 := (i207).trans eq226.symm
            subst uq226
            refine x_gi C hTH204 (ci := 4) (k := 1) rfl inX4 (by decide) wF_X9_132 gq169 rg_78 rfl dX9_text_100 (fun x227 ex227 bx227 => ?_)
            refine lv_if_eq (tgt := 136) hx hb dX9_text_103 (by decide) (fun c228 => ?_) (fun c228 => ?_)
            · have k229 := i_eq c228
              refine lv_aload hx hb dX9_text_136 (lv_at hl206 1 rfl) ?_
              refine lv_aload_n hx hb dX9_text_138 rfl (lv_at hl206 2 rfl) ?_
              refine x_gr C hTH204 (ci := 9) (k := 4) rfl inX9 (by decide) wF_X9_23 ga0 rg_68 rfl dX9_text_139 (fun q230 eq230 gq230 => ?_)
              have uq230 : q169 = q230 := (i207).trans eq230.symm
              subst uq230
              refine x_gr C hTH204 (ci := 4) (k := 0) rfl inX4 (by decide) wF_X9_134 gq169 rg_78 rfl dX9_text_142 (fun q231 eq231 gq231 => ?_)
              have uq231 : q173 = q231 := (i208).trans eq231.symm
              subst uq231
              refine x_V (As := [.ref q173]) (rest := []) C (a_X7_copyFrom_n_m l K G H204  hTH204 gq164 gq173) yo_X7_copyFrom wM_X9_138 ⟨⟨by decide, by decide⟩, by decide, by decide⟩ (x_rv C hTH204 (ci := 7) rfl gq164 rg_16) rfl hl206.1 rfl (Nat.le_of_ble_eq_true rfl) dX9_text_145 hSH204 (AE_sub (fun _ _ => rfl) (by decide) hSH204.1) (fun vH232 H232 locsH232 pH232 zH232 kH232 hSH232 => ?_)
              obtain ⟨hvH232, hTH232⟩ := pH232
              subst hvH232
              have m233 := (i207).trans (fR_kept (x_lt hTH204 kH232 ga0 (by decide))).symm
              have m234 := (i208).trans (fR_kept (x_lt hTH204 kH232 gq169 (by decide))).symm
              have m235 := (i209).trans (fR_kept (x_lt hTH204 kH232 gq169 (by decide))).symm
              have m236 := (fI_kept (x_lt hTH204 kH232 gq174 (by decide))).trans i210
              have m237 := (i211).trans (fR_kept (x_lt hTH204 kH232 gwq (by decide))).symm
              have m238 := (i212).trans (fR_kept (x_lt hTH204 kH232 gwq (by decide))).symm
              have m239 := (i213).trans (fR_kept (x_lt hTH204 kH232 gwq (by decide))).symm
              have m240 := (fI_kept (x_lt hTH204 kH232 ga0 (by decide))).trans i214
              have m241 := (fV_kept (x_lt hTH204 kH232 ga0 (by decide))).trans i215
              have m242 := (i216).trans (fR_kept (x_lt hTH204 kH232 ga0 (by decide))).symm
              have m243 := (i217).trans (fI_kept (x_lt hTH204 kH232 gwq (by decide))).symm
              have m244 := (i218).trans (fI_kept (x_lt hTH204 kH232 gwq (by decide))).symm
              have m245 := (i219).trans (fI_kept (x_lt hTH204 kH232 gwq (by decide))).symm
              have m246 := (i220).trans (fI_kept (x_lt hTH204 kH232 gwq (by decide))).symm
              have m247 := (i221).trans (fI_kept (x_lt hTH204 kH232 gwq (by decide))).symm
              have m248 := (i222).trans (fI_kept (x_lt hTH204 kH232 gwq (by decide))).symm
              have m249 := (ex223).trans (fI_kept (x_lt hTH204 kH232 gq169 (by decide))).symm
              have m250 := (ex227).trans (fI_kept (x_lt hTH204 kH232 gq169 (by decide))).symm
              refine W.eq (g2 := F0 m 148 ls205 []) rfl ?_
              refine lv_aload hx hb dX9_text_148 (lv_at hl206 1 rfl) ?_
              refine x_gi C hTH232 (ci := 7) (k := 0) rfl inX7 (by decide) wF_X9_144 gq164 rg_16 rfl dX9_text_150 (fun x251 ex251 bx251 => ?_)
              exact x_iret C hQ dX9_text_153 hSH232 (by decide) (by decide) (⟨x251, rfl, m242, m243, m244, m245, m246, m247, m248, m240, m241, m237, m238, m239, hTH232⟩)
            · have k229 := i_ne c228
              refine lv_aload_n hx hb dX9_text_106 rfl (lv_at hl206 2 rfl) ?_
              refine x_gr C hTH204 (ci := 9) (k := 0) rfl inX9 (by decide) wF_X9_12 ga0 rg_68 rfl dX9_text_107 (fun q252 eq252 gq252 => ?_)
              have uq252 : wq = q252 := (i216).trans eq252.symm
              subst uq252
              refine lv_aload_n hx hb dX9_text_110 rfl (lv_at hl206 2 rfl) ?_
              refine x_gr C hTH204 (ci := 9) (k := 4) rfl inX9 (by decide) wF_X9_23 ga0 rg_68 rfl dX9_text_111 (fun q253 eq253 gq253 => ?_)
              have uq253 : q169 = q253 := (i207).trans eq253.symm
              subst uq253
              refine x_gi C hTH204 (ci := 4) (k := 1) rfl inX4 (by decide) wF_X9_132 gq169 rg_78 rfl dX9_text_114 (fun x254 ex254 bx254 => ?_)
              have ux254 : x227 = x254 := (ex227).trans ex254.symm
              subst ux254
              refine x_put C hTH204 hSH204 (ci := 8) (k := 6) (v := .int x227) (ty0 := tyX8) rfl inX8 tyX8_ok nmX8 (by decide) rfl wF_X9_111 gwq rg_0 rfl rfl (okI (by have := i_rng x227; omega) (by have := i_rng x227; omega)) rfl rfl (AE_in gwq (by decide)) dX9_text_117 (fun H255 locsH255 hTH255 hSH255 wH255 => ?_)
              have m256 := i207.trans (Wr.neR wH255 (Or.inl (G_ne ga0 gwq (by decide)))).symm
              have m257 := i208.trans (Wr.neR wH255 (Or.inl (G_ne gq169 gwq (by decide)))).symm
              have m258 := i209.trans (Wr.neR wH255 (Or.inl (G_ne gq169 gwq (by decide)))).symm
              have m259 := (Wr.neI wH255 (Or.inl (G_ne gq174 gwq (by decide)))).trans i210
              have m260 := i211.trans (Wr.neR wH255 (Or.inr (x_apart hKT hts inX8 tyX8 tyX8_ok nmX8 rfl 12 6 (by decide) (by decide) (by decide)))).symm
              have m261 := i212.trans (Wr.neR wH255 (Or.inr (x_apart hKT hts inX8 tyX8 tyX8_ok nmX8 rfl 14 6 (by decide) (by decide) (by decide)))).symm
              have m262 := i213.trans (Wr.neR wH255 (Or.inr (x_apart hKT hts inX8 tyX8 tyX8_ok nmX8 rfl 15 6 (by decide) (by decide) (by decide)))).symm
              have m263 := (Wr.neI wH255 (Or.inl (G_ne ga0 gwq (by decide)))).trans i214
              have m264 := (Wr.neV wH255 (Or.inl (G_ne ga0 gwq (by decide)))).trans i215
              have m265 := i216.trans (Wr.neR wH255 (Or.inl (G_ne ga0 gwq (by decide)))).symm
              have m266 := i217.trans (Wr.neI wH255 (Or.inr (x_apart hKT hts inX8 tyX8 tyX8_ok nmX8 rfl 1 6 (by decide) (by decide) (by decide)))).symm
              have m267 := i218.trans (Wr.neI wH255 (Or.inr (x_apart hKT hts inX8 tyX8 tyX8_ok nmX8 rfl 4 6 (by decide) (by decide) (by decide)))).symm
              have m268 := i219.trans (Wr.neI wH255 (Or.inr (x_apart hKT hts inX8 tyX8 tyX8_ok nmX8 rfl 5 6 (by decide) (by decide) (by decide)))).symm
              have m269 := i220.trans (Wr.neI wH255 (Or.inr (x_apart hKT hts inX8 tyX8 tyX8_ok nmX8 rfl 10 6 (by decide) (by decide) (by decide)))).symm
              have m270 := i221.trans (Wr.neI wH255 (Or.inr (x_apart hKT hts inX8 tyX8 tyX8_ok nmX8 rfl 13 6 (by decide) (by decide) (by decide)))).symm
              have m271 := i222.trans (Wr.neI wH255 (Or.inr (x_apart hKT hts inX8 tyX8 tyX8_ok nmX8 rfl 16 6 (by decide) (by decide) (by decide)))).symm
              have m272 := ex223.trans (Wr.neI wH255 (Or.inl (G_ne gq169 gwq (by decide)))).symm
              have m273 := ex227.trans (Wr.neI wH255 (Or.inl (G_ne gq169 gwq (by decide)))).symm
              have m274 := Wr.I wH255
              have m274 := m274.symm
              refine lv_aload_n hx hb dX9_text_120 rfl (lv_at hl206 2 rfl) ?_
              refine x_gr C hTH255 (ci := 9) (k := 0) rfl inX9 (by decide) wF_X9_12 ga0 rg_68 rfl dX9_text_121 (fun q275 eq275 gq275 => ?_)
              have uq275 : wq = q275 := (m265).trans eq275.symm
              subst uq275
              refine lv_aload_n hx hb dX9_text_124 rfl (lv_at hl206 2 rfl) ?_
              refine x_gr C hTH255 (ci := 9) (k := 4) rfl inX9 (by decide) wF_X9_23 ga0 rg_68 rfl dX9_text_125 (fun q276 eq276 gq276 => ?_)
              have uq276 : q169 = q276 := (m256).trans eq276.symm
              subst uq276
              refine x_gi C hTH255 (ci := 4) (k := 2) rfl inX4 (by decide) wF_X9_133 gq169 rg_78 rfl dX9_text_128 (fun x277 ex277 bx277 => ?_)
              refine x_put C hTH255 hSH255 (ci := 8) (k := 7) (v := .int x277) (ty0 := tyX8) rfl inX8 tyX8_ok nmX8 (by decide) rfl wF_X9_114 gwq rg_0 rfl rfl (okI (by have := i_rng x277; omega) (by have := i_rng x277; omega)) rfl rfl (AE_in gwq (by decide)) dX9_text_131 (fun H278 locsH278 hTH278 hSH278 wH278 => ?_)
              have m279 := m256.trans (Wr.neR wH278 (Or.inl (G_ne ga0 gwq (by decide)))).symm
              have m280 := m257.trans (Wr.neR wH278 (Or.inl (G_ne gq169 gwq (by decide)))).symm
              have m281 := m258.trans (Wr.neR wH278 (Or.inl (G_ne gq169 gwq (by decide)))).symm
              have m282 := (Wr.neI wH278 (Or.inl (G_ne gq174 gwq (by decide)))).trans m259
              have m283 := m260.trans (Wr.neR wH278 (Or.inr (x_apart hKT hts inX8 tyX8 tyX8_ok nmX8 rfl 12 7 (by decide) (by decide) (by decide)))).symm
              have m284 := m261.trans (Wr.neR wH278 (Or.inr (x_apart hKT hts inX8 tyX8 tyX8_ok nmX8 rfl 14 7 (by decide) (by decide) (by decide)))).symm
              have m285 := m262.trans (Wr.neR wH278 (Or.inr (x_apart hKT hts inX8 tyX8 tyX8_ok nmX8 rfl 15 7 (by decide) (by decide) (by decide)))).symm
              have m286 := (Wr.neI wH278 (Or.inl (G_ne ga0 gwq (by decide)))).trans m263
              have m287 := (Wr.neV wH278 (Or.inl (G_ne ga0 gwq (by decide)))).trans m264
              have m288 := m265.trans (Wr.neR wH278 (Or.inl (G_ne ga0 gwq (by decide)))).symm
              have m289 := m266.trans (Wr.neI wH278 (Or.inr (x_apart hKT hts inX8 tyX8 tyX8_ok nmX8 rfl 1 7 (by decide) (by decide) (by decide)))).symm
              have m290 := m267.trans (Wr.neI wH278 (Or.inr (x_apart hKT hts inX8 tyX8 tyX8_ok nmX8 rfl 4 7 (by decide) (by decide) (by decide)))).symm
              have m291 := m268.trans (Wr.neI wH278 (Or.inr (x_apart hKT hts inX8 tyX8 tyX8_ok nmX8 rfl 5 7 (by decide) (by decide) (by decide)))).symm
              have m292 := m269.trans (Wr.neI wH278 (Or.inr (x_apart hKT hts inX8 tyX8 tyX8_ok nmX8 rfl 10 7 (by decide) (by decide) (by decide)))).symm
              have m293 := m270.trans (Wr.neI wH278 (Or.inr (x_apart hKT hts inX8 tyX8 tyX8_ok nmX8 rfl 13 7 (by decide) (by decide) (by decide)))).symm
              have m294 := m271.trans (Wr.neI wH278 (Or.inr (x_apart hKT hts inX8 tyX8 tyX8_ok nmX8 rfl 16 7 (by decide) (by decide) (by decide)))).symm
              have m295 := m272.trans (Wr.neI wH278 (Or.inl (G_ne gq169 gwq (by decide)))).symm
              have m296 := m273.trans (Wr.neI wH278 (Or.inl (G_ne gq169 gwq (by decide)))).symm
              have m297 := m274.trans (Wr.neI wH278 (Or.inr (x_apart hKT hts inX8 tyX8 tyX8_ok nmX8 rfl 6 7 (by decide) (by decide) (by decide)))).symm
              have m298 := ex277.trans (Wr.neI wH278 (Or.inl (G_ne gq169 gwq (by decide)))).symm
              have m299 := Wr.I wH278
              have m299 := m299.symm
              refine lv_iconst (v := (-1)) hx hb dX9_text_134 (by decide) ?_
              exact x_iret C hQ dX9_text_135 hSH278 (by decide) (by decide) (⟨(-1), rfl, m288, m289, m290, m291, m292, m293, m294, m286, m287, m283, m284, m285, hTH278⟩)
          · have k225 := i_nlt c224
            refine lv_aload_n hx hb dX9_text_72 rfl (lv_at hl206 2 rfl) ?_
            refine x_gr C hTH204 (ci := 9) (k := 4) rfl inX9 (by decide) wF_X9_23 ga0 rg_68 rfl dX9_text_73 (fun q300 eq300 gq300 => ?_)
            have uq300 : q169 = q300 := (i207).trans eq300.symm
            subst uq300
            refine x_V (As := []) (rest := []) C (a_X4_goesOn l K G H204  hTH204 gq169) yo_X4_goesOn wM_X9_125 ⟨⟨by decide, by decide⟩, by decide, by decide⟩ (x_rv C hTH204 (ci := 4) rfl gq169 rg_78) rfl hl206.1 rfl (Nat.le_of_ble_eq_true rfl) dX9_text_76 hSH204 (AE_sub (fun _ _ => rfl) (by decide) hSH204.1) (fun vH301 H301 locsH301 pH301 zH301 kH301 hSH301 => ?_)
            obtain ⟨x302, hvH301, bx302, hTH301⟩ := pH301
            subst hvH301
            have m303 := (i207).trans (fR_kept (x_lt hTH204 kH301 ga0 (by decide))).symm
            have m304 := (i208).trans (fR_kept (x_lt hTH204 kH301 gq169 (by decide))).symm
            have m305 := (i209).trans (fR_kept (x_lt hTH204 kH301 gq169 (by decide))).symm
            have m306 := (fI_kept (x_lt hTH204 kH301 gq174 (by decide))).trans i210
            have m307 := (i211).trans (fR_kept (x_lt hTH204 kH301 gwq (by decide))).symm
            have m308 := (i212).trans (fR_kept (x_lt hTH204 kH301 gwq (by decide))).symm
            have m309 := (i213).trans (fR_kept (x_lt hTH204 kH301 gwq (by decide))).symm
            have m310 := (fI_kept (x_lt hTH204 kH301 ga0 (by decide))).trans i214
            have m311 := (fV_kept (x_lt hTH204 kH301 ga0 (by decide))).trans i215
            have m312 := (i216).trans (fR_kept (x_lt hTH204 kH301 ga0 (by decide))).symm
            have m313 := (i217).trans (fI_kept (x_lt hTH204 kH301 gwq (by decide))).symm
            have m314 := (i218).trans (fI_kept (x_lt hTH204 kH301 gwq (by decide))).symm
            have m315 := (i219).trans (fI_kept (x_lt hTH204 kH301 gwq (by decide))).symm
            have m316 := (i220).trans (fI_kept (x_lt hTH204 kH301 gwq (by decide))).symm
            have m317 := (i221).trans (fI_kept (x_lt hTH204 kH301 gwq (by decide))).symm
            have m318 := (i222).trans (fI_kept (x_lt hTH204 kH301 gwq (by decide))).symm
            have m319 := (ex223).trans (fI_kept (x_lt hTH204 kH301 gq169 (by decide))).symm
            refine W.eq (g2 := F0 m 79 ls205 [.int x302]) rfl ?_
            refine lv_if_eq (tgt := 96) hx hb dX9_text_79 (by decide) (fun c320 => ?_) (fun c320 => ?_)
            · have k321 := i_eq c320
              refine lv_aload_n hx hb dX9_text_96 rfl (lv_at hl206 2 rfl) ?_
              refine x_gr C hTH301 (ci := 9) (k := 4) rfl inX9 (by decide) wF_X9_23 ga0 rg_68 rfl dX9_text_97 (fun q322 eq322 gq322 => ?_)
              have uq322 : q169 = q322 := (m303).trans eq322.symm
              subst uq322
              refine x_gi C hTH301 (ci := 4) (k := 1) rfl inX4 (by decide) wF_X9_132 gq169 rg_78 rfl dX9_text_100 (fun x323 ex323 bx323 => ?_)
              refine lv_if_eq (tgt := 136) hx hb dX9_text_103 (by decide) (fun c324 => ?_) (fun c324 => ?_)
              · have k325 := i_eq c324
                refine lv_aload hx hb dX9_text_136 (lv_at hl206 1 rfl) ?_
                refine lv_aload_n hx hb dX9_text_138 rfl (lv_at hl206 2 rfl) ?_
                refine x_gr C hTH301 (ci := 9) (k := 4) rfl inX9 (by decide) wF_X9_23 ga0 rg_68 rfl dX9_text_139 (fun q326 eq326 gq326 => ?_)
                have uq326 : q169 = q326 := (m303).trans eq326.symm
                subst uq326
                refine x_gr C hTH301 (ci := 4) (k := 0) rfl inX4 (by decide) wF_X9_134 gq169 rg_78 rfl dX9_text_142 (fun q327 eq327 gq327 => ?_)
                have uq327 : q173 = q327 := (m304).trans eq327.symm
                subst uq327
                refine x_V (As := [.ref q173]) (rest := []) C (a_X7_copyFrom_n_m l K G H301  hTH301 gq164 gq173) yo_X7_copyFrom wM_X9_138 ⟨⟨by decide, by decide⟩, by decide, by decide⟩ (x_rv C hTH301 (ci := 7) rfl gq164 rg_16) rfl hl206.1 rfl (Nat.le_of_ble_eq_true rfl) dX9_text_145 hSH301 (AE_sub (fun _ _ => rfl) (by decide) hSH301.1) (fun vH328 H328 locsH328 pH328 zH328 kH328 hSH328 => ?_)
                obtain ⟨hvH328, hTH328⟩ := pH328
                subst hvH328
                have m329 := (m303).trans (fR_kept (x_lt hTH301 kH328 ga0 (by decide))).symm
                have m330 := (m304).trans (fR_kept (x_lt hTH301 kH328 gq169 (by decide))).symm
                have m331 := (m305).trans (fR_kept (x_lt hTH301 kH328 gq169 (by decide))).symm
                have m332 := (fI_kept (x_lt hTH301 kH328 gq174 (by decide))).trans m306
                have m333 := (m307).trans (fR_kept (x_lt hTH301 kH328 gwq (by decide))).symm
                have m334 := (m308).trans (fR_kept (x_lt hTH301 kH328 gwq (by decide))).symm
                have m335 := (m309).trans (fR_kept (x_lt hTH301 kH328 gwq (by decide))).symm
                have m336 := (fI_kept (x_lt hTH301 kH328 ga0 (by decide))).trans m310
                have m337 := (fV_kept (x_lt hTH301 kH328 ga0 (by decide))).trans m311
                have m338 := (m312).trans (fR_kept (x_lt hTH301 kH328 ga0 (by decide))).symm
                have m339 := (m313).trans (fI_kept (x_lt hTH301 kH328 gwq (by decide))).symm
                have m340 := (m314).trans (fI_kept (x_lt hTH301 kH328 gwq (by decide))).symm
                have m341 := (m315).trans (fI_kept (x_lt hTH301 kH328 gwq (by decide))).symm
                have m342 := (m316).trans (fI_kept (x_lt hTH301 kH328 gwq (by decide))).symm
                have m343 := (m317).trans (fI_kept (x_lt hTH301 kH328 gwq (by decide))).symm
                have m344 := (m318).trans (fI_kept (x_lt hTH301 kH328 gwq (by decide))).symm
                have m345 := (m319).trans (fI_kept (x_lt hTH301 kH328 gq169 (by decide))).symm
                have m346 := (ex323).trans (fI_kept (x_lt hTH301 kH328 gq169 (by decide))).symm
                refine W.eq (g2 := F0 m 148 ls205 []) rfl ?_
                refine lv_aload hx hb dX9_text_148 (lv_at hl206 1 rfl) ?_
                refine x_gi C hTH328 (ci := 7) (k := 0) rfl inX7 (by decide) wF_X9_144 gq164 rg_16 rfl dX9_text_150 (fun x347 ex347 bx347 => ?_)
                exact x_iret C hQ dX9_text_153 hSH328 (by decide) (by decide) (⟨x347, rfl, m338, m339, m340, m341, m342, m343, m344, m336, m337, m333, m334, m335, hTH328⟩)
              · have k325 := i_ne c324
                refine lv_aload_n hx hb dX9_text_106 rfl (lv_at hl206 2 rfl) ?_
                refine x_gr C hTH301 (ci := 9) (k := 0) rfl inX9 (by decide) wF_X9_12 ga0 rg_68 rfl dX9_text_107 (fun q348 eq348 gq348 => ?_)
                have uq348 : wq = q348 := (m312).trans eq348.symm
                subst uq348
                refine lv_aload_n hx hb dX9_text_110 rfl (lv_at hl206 2 rfl) ?_
                refine x_gr C hTH301 (ci := 9) (k := 4) rfl inX9 (by decide) wF_X9_23 ga0 rg_68 rfl dX9_text_111 (fun q349 eq349 gq349 => ?_)
                have uq349 : q169 = q349 := (m303).trans eq349.symm
                subst uq349
                refine x_gi C hTH301 (ci := 4) (k := 1) rfl inX4 (by decide) wF_X9_132 gq169 rg_78 rfl dX9_text_114 (fun x350 ex350 bx350 => ?_)
                have ux350 : x323 = x350 := (ex323).trans ex350.symm
                subst ux350
                refine x_put C hTH301 hSH301 (ci := 8) (k := 6) (v := .int x323) (ty0 := tyX8) rfl inX8 tyX8_ok nmX8 (by decide) rfl wF_X9_111 gwq rg_0 rfl rfl (okI (by have := i_rng x323; omega) (by have := i_rng x323; omega)) rfl rfl (AE_in gwq (by decide)) dX9_text_117 (fun H351 locsH351 hTH351 hSH351 wH351 => ?_)
                have m352 := m303.trans (Wr.neR wH351 (Or.inl (G_ne ga0 gwq (by decide)))).symm
                have m353 := m304.trans (Wr.neR wH351 (Or.inl (G_ne gq169 gwq (by decide)))).symm
                have m354 := m305.trans (Wr.neR wH351 (Or.inl (G_ne gq169 gwq (by decide)))).symm
                have m355 := (Wr.neI wH351 (Or.inl (G_ne gq174 gwq (by decide)))).trans m306
                have m356 := m307.trans (Wr.neR wH351 (Or.inr (x_apart hKT hts inX8 tyX8 tyX8_ok nmX8 rfl 12 6 (by decide) (by decide) (by decide)))).symm
                have m357 := m308.trans (Wr.neR wH351 (Or.inr (x_apart hKT hts inX8 tyX8 tyX8_ok nmX8 rfl 14 6 (by decide) (by decide) (by decide)))).symm
                have m358 := m309.trans (Wr.neR wH351 (Or.inr (x_apart hKT hts inX8 tyX8 tyX8_ok nmX8 rfl 15 6 (by decide) (by decide) (by decide)))).symm
                have m359 := (Wr.neI wH351 (Or.inl (G_ne ga0 gwq (by decide)))).trans m310
                have m360 := (Wr.neV wH351 (Or.inl (G_ne ga0 gwq (by decide)))).trans m311
                have m361 := m312.trans (Wr.neR wH351 (Or.inl (G_ne ga0 gwq (by decide)))).symm
                have m362 := m313.trans (Wr.neI wH351 (Or.inr (x_apart hKT hts inX8 tyX8 tyX8_ok nmX8 rfl 1 6 (by decide) (by decide) (by decide)))).symm
                have m363 := m314.trans (Wr.neI wH351 (Or.inr (x_apart hKT hts inX8 tyX8 tyX8_ok nmX8 rfl 4 6 (by decide) (by decide) (by decide)))).symm
                have m364 := m315.trans (Wr.neI wH351 (Or.inr (x_apart hKT hts inX8 tyX8 tyX8_ok nmX8 rfl 5 6 (by decide) (by decide) (by decide)))).symm
                have m365 := m316.trans (Wr.neI wH351 (Or.inr (x_apart hKT hts inX8 tyX8 tyX8_ok nmX8 rfl 10 6 (by decide) (by decide) (by decide)))).symm
                have m366 := m317.trans (Wr.neI wH351 (Or.inr (x_apart hKT hts inX8 tyX8 tyX8_ok nmX8 rfl 13 6 (by decide) (by decide) (by decide)))).symm
                have m367 := m318.trans (Wr.neI wH351 (Or.inr (x_apart hKT hts inX8 tyX8 tyX8_ok nmX8 rfl 16 6 (by decide) (by decide) (by decide)))).symm
                have m368 := m319.trans (Wr.neI wH351 (Or.inl (G_ne gq169 gwq (by decide)))).symm
                have m369 := ex323.trans (Wr.neI wH351 (Or.inl (G_ne gq169 gwq (by decide)))).symm
                have m370 := Wr.I wH351
                have m370 := m370.symm
                refine lv_aload_n hx hb dX9_text_120 rfl (lv_at hl206 2 rfl) ?_
                refine x_gr C hTH351 (ci := 9) (k := 0) rfl inX9 (by decide) wF_X9_12 ga0 rg_68 rfl dX9_text_121 (fun q371 eq371 gq371 => ?_)
                have uq371 : wq = q371 := (m361).trans eq371.symm
                subst uq371
                refine lv_aload_n hx hb dX9_text_124 rfl (lv_at hl206 2 rfl) ?_
                refine x_gr C hTH351 (ci := 9) (k := 4) rfl inX9 (by decide) wF_X9_23 ga0 rg_68 rfl dX9_text_125 (fun q372 eq372 gq372 => ?_)
                have uq372 : q169 = q372 := (m352).trans eq372.symm
                subst uq372
                refine x_gi C hTH351 (ci := 4) (k := 2) rfl inX4 (by decide) wF_X9_133 gq169 rg_78 rfl dX9_text_128 (fun x373 ex373 bx373 => ?_)
                refine x_put C hTH351 hSH351 (ci := 8) (k := 7) (v := .int x373) (ty0 := tyX8) rfl inX8 tyX8_ok nmX8 (by decide) rfl wF_X9_114 gwq rg_0 rfl rfl (okI (by have := i_rng x373; omega) (by have := i_rng x373; omega)) rfl rfl (AE_in gwq (by decide)) dX9_text_131 (fun H374 locsH374 hTH374 hSH374 wH374 => ?_)
                have m375 := m352.trans (Wr.neR wH374 (Or.inl (G_ne ga0 gwq (by decide)))).symm
                have m376 := m353.trans (Wr.neR wH374 (Or.inl (G_ne gq169 gwq (by decide)))).symm
                have m377 := m354.trans (Wr.neR wH374 (Or.inl (G_ne gq169 gwq (by decide)))).symm
                have m378 := (Wr.neI wH374 (Or.inl (G_ne gq174 gwq (by decide)))).trans m355
                have m379 := m356.trans (Wr.neR wH374 (Or.inr (x_apart hKT hts inX8 tyX8 tyX8_ok nmX8 rfl 12 7 (by decide) (by decide) (by decide)))).symm
                have m380 := m357.trans (Wr.neR wH374 (Or.inr (x_apart hKT hts inX8 tyX8 tyX8_ok nmX8 rfl 14 7 (by decide) (by decide) (by decide)))).symm
                have m381 := m358.trans (Wr.neR wH374 (Or.inr (x_apart hKT hts inX8 tyX8 tyX8_ok nmX8 rfl 15 7 (by decide) (by decide) (by decide)))).symm
                have m382 := (Wr.neI wH374 (Or.inl (G_ne ga0 gwq (by decide)))).trans m359
                have m383 := (Wr.neV wH374 (Or.inl (G_ne ga0 gwq (by decide)))).trans m360
                have m384 := m361.trans (Wr.neR wH374 (Or.inl (G_ne ga0 gwq (by decide)))).symm
                have m385 := m362.trans (Wr.neI wH374 (Or.inr (x_apart hKT hts inX8 tyX8 tyX8_ok nmX8 rfl 1 7 (by decide) (by decide) (by decide)))).symm
                have m386 := m363.trans (Wr.neI wH374 (Or.inr (x_apart hKT hts inX8 tyX8 tyX8_ok nmX8 rfl 4 7 (by decide) (by decide) (by decide)))).symm
                have m387 := m364.trans (Wr.neI wH374 (Or.inr (x_apart hKT hts inX8 tyX8 tyX8_ok nmX8 rfl 5 7 (by decide) (by decide) (by decide)))).symm
                have m388 := m365.trans (Wr.neI wH374 (Or.inr (x_apart hKT hts inX8 tyX8 tyX8_ok nmX8 rfl 10 7 (by decide) (by decide) (by decide)))).symm
                have m389 := m366.trans (Wr.neI wH374 (Or.inr (x_apart hKT hts inX8 tyX8 tyX8_ok nmX8 rfl 13 7 (by decide) (by decide) (by decide)))).symm
                have m390 := m367.trans (Wr.neI wH374 (Or.inr (x_apart hKT hts inX8 tyX8 tyX8_ok nmX8 rfl 16 7 (by decide) (by decide) (by decide)))).symm
                have m391 := m368.trans (Wr.neI wH374 (Or.inl (G_ne gq169 gwq (by decide)))).symm
                have m392 := m369.trans (Wr.neI wH374 (Or.inl (G_ne gq169 gwq (by decide)))).symm
                have m393 := m370.trans (Wr.neI wH374 (Or.inr (x_apart hKT hts inX8 tyX8 tyX8_ok nmX8 rfl 6 7 (by decide) (by decide) (by decide)))).symm
                have m394 := ex373.trans (Wr.neI wH374 (Or.inl (G_ne gq169 gwq (by decide)))).symm
                have m395 := Wr.I wH374
                have m395 := m395.symm
                refine lv_iconst (v := (-1)) hx hb dX9_text_134 (by decide) ?_
                exact x_iret C hQ dX9_text_135 hSH374 (by decide) (by decide) (⟨(-1), rfl, m384, m385, m386, m387, m388, m389, m390, m382, m383, m379, m380, m381, hTH374⟩)
            · have k321 := i_ne c320
              refine lv_aload_n hx hb dX9_text_82 rfl (lv_at hl206 2 rfl) ?_
              refine x_gr C hTH301 (ci := 9) (k := 4) rfl inX9 (by decide) wF_X9_23 ga0 rg_68 rfl dX9_text_83 (fun q396 eq396 gq396 => ?_)
              have uq396 : q169 = q396 := (m303).trans eq396.symm
              subst uq396
              obtain ⟨x397, ex397⟩ : ∃ z : Int32, z = fI H301 q173 (K.1.2 7 0) := ⟨_, rfl⟩
              have bx397 := ty_fi (x := x397) (k := 0) ex397 hTH301 gq173 rg_69 rfl
              refine x_V (As := []) (rest := []) C (a_X4_line l K G H301 (x199) (x223) (x397) hTH301 gq169 gq173 m304 gq174 m305 m319 ex397 m306 (by omega) (by omega)) yo_X4_line wM_X9_129 ⟨⟨by decide, by decide⟩, by decide, by decide⟩ (x_rv C hTH301 (ci := 4) rfl gq169 rg_78) rfl hl206.1 rfl (Nat.le_of_ble_eq_true rfl) dX9_text_86 hSH301 (AE_sub (fun _ _ => rfl) (by decide) hSH301.1) (fun vH398 H398 locsH398 pH398 zH398 kH398 hSH398 => ?_)
              obtain ⟨x399, x400, x401, hvH398, bx399, ex400, ex401, hrH398, m402, m403, hTH398⟩ := pH398
              subst hvH398
              have m404 := (m303).trans (fR_kept (x_lt hTH301 kH398 ga0 (by decide))).symm
              have m405 := (fI_kept (x_lt hTH301 kH398 gq174 (by decide))).trans m306
              have m406 := (m307).trans (fR_kept (x_lt hTH301 kH398 gwq (by decide))).symm
              have m407 := (m308).trans (fR_kept (x_lt hTH301 kH398 gwq (by decide))).symm
              have m408 := (m309).trans (fR_kept (x_lt hTH301 kH398 gwq (by decide))).symm
              have m409 := (fI_kept (x_lt hTH301 kH398 ga0 (by decide))).trans m310
              have m410 := (fV_kept (x_lt hTH301 kH398 ga0 (by decide))).trans m311
              have m411 := (m312).trans (fR_kept (x_lt hTH301 kH398 ga0 (by decide))).symm
              have m412 := (m313).trans (fI_kept (x_lt hTH301 kH398 gwq (by decide))).symm
              have m413 := (m314).trans (fI_kept (x_lt hTH301 kH398 gwq (by decide))).symm
              have m414 := (m315).trans (fI_kept (x_lt hTH301 kH398 gwq (by decide))).symm
              have m415 := (m316).trans (fI_kept (x_lt hTH301 kH398 gwq (by decide))).symm
              have m416 := (m317).trans (fI_kept (x_lt hTH301 kH398 gwq (by decide))).symm
              have m417 := (m318).trans (fI_kept (x_lt hTH301 kH398 gwq (by decide))).symm
              have bx400 := ty_fi (x := x400) (k := 7) ex400 hTH398 gq169 rg_78 rfl
              have bx401 := ty_fi (x := x401) (k := 0) ex401 hTH398 gq173 rg_69 rfl
              refine W.eq (g2 := F0 m 89 ls205 [.int x399]) rfl ?_
              refine lv_pop hx hb dX9_text_89 rfl ?_
              obtain ⟨x418, ex418⟩ : ∃ y : Int32, y = x203 + 1 := ⟨_, rfl⟩
              have tx418 := i_add ex418 (by omega)
              refine lv_iinc (v := x418) (lv' := [(5, .int x418), (4, .ref q164), (0, .ref a0)]) hx hb dX9_text_90 hl206 (k := 0) rfl (by rw [ex418]; rfl) (by decide) rfl (fun ls419 hl420 => ?_)
              refine lv_goto (tgt := 65) hx hb dX9_text_93 (by decide) ?_
              exact ihLp202 ls419 H398 locsH398 (x418) (x400) (lv_sub hl420 [0, 1, 2] rfl) hTH398 hSH398 (by omega) m404 m402 m403 m405 m406 m407 m408 m409 m410 m411 m412 m413 m414 m415 m416 m417 ex400 (by omega) (by omega)
      exact Lp202 ((17 - (0 : Int32).toInt).toNat + 1) ls200 H177 locsH177 (0) (x178) (lv_sub hl201 [0, 1, 3] rfl) hTH177 hSH177 (by omega) m197 m180 m181 mx199 m191 m192 m193 m194 m190 m183 m184 m185 m186 m187 m188 m189 ex178 (by omega) (by omega)
    · have k172 := i_eq c171
      refine lv_iconst (v := 1) hx hb dX9_text_54 (by decide) ?_
      refine lv_goto (tgt := 59) hx hb dX9_text_55 (by decide) ?_
      obtain ⟨q421, eq421⟩ : ∃ z : Nat, z = fR H149 q169 (K.1.2 4 0) := ⟨_, rfl⟩
      have gq421 := ty_fr (q := q421) (k := 0) (u := 69) eq421 hTH149 gq169 rg_78 rfl
      obtain ⟨q422, eq422⟩ : ∃ z : Nat, z = fR H149 q169 (K.1.2 4 3) := ⟨_, rfl⟩
      have gq422 := ty_fr (q := q422) (k := 3) (u := 79) eq422 hTH149 gq169 rg_78 rfl
      obtain ⟨x423, ex423⟩ : ∃ z : Int32, z = fI H149 q169 (K.1.2 4 7) := ⟨_, rfl⟩
      have bx423 := ty_fi (x := x423) (k := 7) ex423 hTH149 gq169 rg_78 rfl
      obtain ⟨x424, ex424⟩ : ∃ z : Int32, z = fI H149 q169 (K.1.2 4 6) := ⟨_, rfl⟩
      have bx424 := ty_fi (x := x424) (k := 6) ex424 hTH149 gq169 rg_78 rfl
      refine x_V (As := [.ref q170, .int x101, .int 1]) (rest := []) C (a_X4_start l K G H149 (x101) (1) (x423) (x424) hTH149 gq169 gq170 (by omega) (by decide) gq421 eq421 gq422 eq422 ex423 ex424) yo_X4_start wM_X9_121 ⟨⟨by decide, by decide⟩, by decide, by decide⟩ (x_rv C hTH149 (ci := 4) rfl gq169 rg_78) rfl hl168.1 rfl (Nat.le_of_ble_eq_true rfl) dX9_text_59 hSH149 (AE_sub (fun _ _ => rfl) (by decide) hSH149.1) (fun vH425 H425 locsH425 pH425 zH425 kH425 hSH425 => ?_)
      obtain ⟨x426, x427, hvH425, ex426, ex427, hrH425, m428, m429, m430, hTH425⟩ := pH425
      subst hvH425
      have m431 := (m150).trans (fR_kept (x_lt hTH149 kH425 ga0 (by decide))).symm
      have m432 := (m151).trans (fI_kept (x_lt hTH149 kH425 gwq (by decide))).symm
      have m433 := (m152).trans (fI_kept (x_lt hTH149 kH425 gwq (by decide))).symm
      have m434 := (m153).trans (fI_kept (x_lt hTH149 kH425 gwq (by decide))).symm
      have m435 := (m154).trans (fI_kept (x_lt hTH149 kH425 gwq (by decide))).symm
      have m436 := (m155).trans (fI_kept (x_lt hTH149 kH425 gwq (by decide))).symm
      have m437 := (m156).trans (fI_kept (x_lt hTH149 kH425 gwq (by decide))).symm
      have m438 := (fV_kept (x_lt hTH149 kH425 ga0 (by decide))).trans m157
      have m439 := (m158).trans (fR_kept (x_lt hTH149 kH425 gwq (by decide))).symm
      have m440 := (m159).trans (fR_kept (x_lt hTH149 kH425 gwq (by decide))).symm
      have m441 := (m160).trans (fR_kept (x_lt hTH149 kH425 gwq (by decide))).symm
      have m442 := (fI_kept (x_lt hTH149 kH425 ga0 (by decide))).trans m161
      have m443 := (fI_kept (x_lt hTH149 kH425 gwq (by decide))).trans m162
      have m444 := (fI_kept (x_lt hTH149 kH425 gwq (by decide))).trans m163
      have m445 := (eq169).trans (fR_kept (x_lt hTH149 kH425 ga0 (by decide))).symm
      have m446 := (eq170).trans (fR_kept (x_lt hTH149 kH425 ga0 (by decide))).symm
      have bx426 := ty_fi (x := x426) (k := 7) ex426 hTH425 gq169 rg_78 rfl
      have bx427 := ty_fi (x := x427) (k := 6) ex427 hTH425 gq169 rg_78 rfl
      obtain ⟨x447, bx447, mx447⟩ := m430
      refine W.eq (g2 := F0 m 62 ls167 []) rfl ?_
      refine lv_iconst (v := 0) hx hb dX9_text_62 (by decide) ?_
      refine lv_istore (lv' := [(5, .int 0), (4, .ref q164), (3, .int x101), (0, .ref a0), (1, .int x1), (2, .int x2)]) hx hb dX9_text_63 hl168 (by decide) rfl (fun ls448 hl449 => ?_)
      have Lp450 : ∀ (nf : Nat) (ls453 : Array Slot) (H452 : Heap) (locsH452 : List Loc) (x451 : Int32) (x471 : Int32), lv_has ls453 6 [(5, .int x451), (4, .ref q164), (0, .ref a0)] → TY K G H452 → va_S (AE G [68, 0, 78, 79, 80, 81, 69, 70, 71, 72, 73, 74, 75, 76, 77, 16, 17, 18, 19, 20, 21, 22, 23, 24] s.heap.size) s.heap H452 locsH452 → (0 ≤ x451.toInt ∧ x451.toInt ≤ 17) → (q169 = fR H452 a0 (K.1.2 9 4)) → (q421 = fR H452 q169 (K.1.2 4 0)) → (q422 = fR H452 q169 (K.1.2 4 3)) → (fI H452 q422 (x447 : Int32).toNatClampNeg = 26) → (nq = fR H452 wq (K.1.2 8 12)) → (lq = fR H452 wq (K.1.2 8 14)) → (kq = fR H452 wq (K.1.2 8 15)) → (fI H452 a0 (K.1.2 9 3) = 0) → (fV H452 a0 (K.1.2 9 1) = kv) → (wq = fR H452 a0 (K.1.2 9 0)) → (s1 = fI H452 wq (K.1.2 8 1)) → (s4 = fI H452 wq (K.1.2 8 4)) → (s5 = fI H452 wq (K.1.2 8 5)) → (s10 = fI H452 wq (K.1.2 8 10)) → (s13 = fI H452 wq (K.1.2 8 13)) → (s16 = fI H452 wq (K.1.2 8 16)) → (x471 = fI H452 q169 (K.1.2 4 7)) → (x471.toInt ≤ x447.toInt ∧ 0 ≤ x471.toInt) → (17 - x451.toInt < (nf : Int)) → W p l e ({ frames := 39, cells := 0, slots := 0, locals := 869 } : Room) s m (([.ref a0, .int x1, .int x2] : List Value).toArray) below meth c H452 locsH452 ((0 + 0) + 0) ((0 + 0) + 0) Q (F0 m 65 ls453 []) := by
        intro nf
        induction nf with
        | zero =>
          intro ls453 H452 locsH452 x451 x471 hl454 hTH452 hSH452 bx451 i455 i456 i457 i458 i459 i460 i461 i462 i463 i464 i465 i466 i467 i468 i469 i470 ex471 tx471 hmLp450
          exfalso
          omega
        | succ nf ihLp450 =>
          intro ls453 H452 locsH452 x451 x471 hl454 hTH452 hSH452 bx451 i455 i456 i457 i458 i459 i460 i461 i462 i463 i464 i465 i466 i467 i468 i469 i470 ex471 tx471 hmLp450
          refine lv_iload hx hb dX9_text_65 (lv_at hl454 0 rfl) ?_
          refine lv_bipush (v := 16) hx hb dX9_text_67 (by decide) ?_
          refine lv_icmp_gt (tgt := 96) hx hb dX9_text_69 (by decide) (fun c472 => ?_) (fun c472 => ?_)
          · have k473 := i_lt c472
            refine lv_aload_n hx hb dX9_text_96 rfl (lv_at hl454 2 rfl) ?_
            refine x_gr C hTH452 (ci := 9) (k := 4) rfl inX9 (by decide) wF_X9_23 ga0 rg_68 rfl dX9_text_97 (fun q474 eq474 gq474 => ?_)
            have uq474 : q169 = q474 := (i455).trans eq474.symm
            subst uq474
            refine x_gi C hTH452 (ci := 4) (k := 1) rfl inX4 (by decide) wF_X9_132 gq169 rg_78 rfl dX9_text_100 (fun x475 ex475 bx475 => ?_)
            refine lv_if_eq (tgt := 136) hx hb dX9_text_103 (by decide) (fun c476 => ?_) (fun c476 => ?_)
            · have k477 := i_eq c476
              refine lv_aload hx hb dX9_text_136 (lv_at hl454 1 rfl) ?_
              refine lv_aload_n hx hb dX9_text_138 rfl (lv_at hl454 2 rfl) ?_
              refine x_gr C hTH452 (ci := 9) (k := 4) rfl inX9 (by decide) wF_X9_23 ga0 rg_68 rfl dX9_text_139 (fun q478 eq478 gq478 => ?_)
              have uq478 : q169 = q478 := (i455).trans eq478.symm
              subst uq478
              refine x_gr C hTH452 (ci := 4) (k := 0) rfl inX4 (by decide) wF_X9_134 gq169 rg_78 rfl dX9_text_142 (fun q479 eq479 gq479 => ?_)
              have uq479 : q421 = q479 := (i456).trans eq479.symm
              subst uq479
              refine x_V (As := [.ref q421]) (rest := []) C (a_X7_copyFrom_n_m l K G H452  hTH452 gq164 gq421) yo_X7_copyFrom wM_X9_138 ⟨⟨by decide, by decide⟩, by decide, by decide⟩ (x_rv C hTH452 (ci := 7) rfl gq164 rg_16) rfl hl454.1 rfl (Nat.le_of_ble_eq_true rfl) dX9_text_145 hSH452 (AE_sub (fun _ _ => rfl) (by decide) hSH452.1) (fun vH480 H480 locsH480 pH480 zH480 kH480 hSH480 => ?_)
              obtain ⟨hvH480, hTH480⟩ := pH480
              subst hvH480
              have m481 := (i455).trans (fR_kept (x_lt hTH452 kH480 ga0 (by decide))).symm
              have m482 := (i456).trans (fR_kept (x_lt hTH452 kH480 gq169 (by decide))).symm
              have m483 := (i457).trans (fR_kept (x_lt hTH452 kH480 gq169 (by decide))).symm
              have m484 := (fI_kept (x_lt hTH452 kH480 gq422 (by decide))).trans i458
              have m485 := (i459).trans (fR_kept (x_lt hTH452 kH480 gwq (by decide))).symm
              have m486 := (i460).trans (fR_kept (x_lt hTH452 kH480 gwq (by decide))).symm
              have m487 := (i461).trans (fR_kept (x_lt hTH452 kH480 gwq (by decide))).symm
              have m488 := (fI_kept (x_lt hTH452 kH480 ga0 (by decide))).trans i462
              have m489 := (fV_kept (x_lt hTH452 kH480 ga0 (by decide))).trans i463
              have m490 := (i464).trans (fR_kept (x_lt hTH452 kH480 ga0 (by decide))).symm
              have m491 := (i465).trans (fI_kept (x_lt hTH452 kH480 gwq (by decide))).symm
              have m492 := (i466).trans (fI_kept (x_lt hTH452 kH480 gwq (by decide))).symm
              have m493 := (i467).trans (fI_kept (x_lt hTH452 kH480 gwq (by decide))).symm
              have m494 := (i468).trans (fI_kept (x_lt hTH452 kH480 gwq (by decide))).symm
              have m495 := (i469).trans (fI_kept (x_lt hTH452 kH480 gwq (by decide))).symm
              have m496 := (i470).trans (fI_kept (x_lt hTH452 kH480 gwq (by decide))).symm
              have m497 := (ex471).trans (fI_kept (x_lt hTH452 kH480 gq169 (by decide))).symm
              have m498 := (ex475).trans (fI_kept (x_lt hTH452 kH480 gq169 (by decide))).symm
              refine W.eq (g2 := F0 m 148 ls453 []) rfl ?_
              refine lv_aload hx hb dX9_text_148 (lv_at hl454 1 rfl) ?_
              refine x_gi C hTH480 (ci := 7) (k := 0) rfl inX7 (by decide) wF_X9_144 gq164 rg_16 rfl dX9_text_150 (fun x499 ex499 bx499 => ?_)
              exact x_iret C hQ dX9_text_153 hSH480 (by decide) (by decide) (⟨x499, rfl, m490, m491, m492, m493, m494, m495, m496, m488, m489, m485, m486, m487, hTH480⟩)
            · have k477 := i_ne c476
              refine lv_aload_n hx hb dX9_text_106 rfl (lv_at hl454 2 rfl) ?_
              refine x_gr C hTH452 (ci := 9) (k := 0) rfl inX9 (by decide) wF_X9_12 ga0 rg_68 rfl dX9_text_107 (fun q500 eq500 gq500 => ?_)
              have uq500 : wq = q500 := (i464).trans eq500.symm
              subst uq500
              refine lv_aload_n hx hb dX9_text_110 rfl (lv_at hl454 2 rfl) ?_
              refine x_gr C hTH452 (ci := 9) (k := 4) rfl inX9 (by decide) wF_X9_23 ga0 rg_68 rfl dX9_text_111 (fun q501 eq501 gq501 => ?_)
              have uq501 : q169 = q501 := (i455).trans eq501.symm
              subst uq501
              refine x_gi C hTH452 (ci := 4) (k := 1) rfl inX4 (by decide) wF_X9_132 gq169 rg_78 rfl dX9_text_114 (fun x502 ex502 bx502 => ?_)
              have ux502 : x475 = x502 := (ex475).trans ex502.symm
              subst ux502
              refine x_put C hTH452 hSH452 (ci := 8) (k := 6) (v := .int x475) (ty0 := tyX8) rfl inX8 tyX8_ok nmX8 (by decide) rfl wF_X9_111 gwq rg_0 rfl rfl (okI (by have := i_rng x475; omega) (by have := i_rng x475; omega)) rfl rfl (AE_in gwq (by decide)) dX9_text_117 (fun H503 locsH503 hTH503 hSH503 wH503 => ?_)
              have m504 := i455.trans (Wr.neR wH503 (Or.inl (G_ne ga0 gwq (by decide)))).symm
              have m505 := i456.trans (Wr.neR wH503 (Or.inl (G_ne gq169 gwq (by decide)))).symm
              have m506 := i457.trans (Wr.neR wH503 (Or.inl (G_ne gq169 gwq (by decide)))).symm
              have m507 := (Wr.neI wH503 (Or.inl (G_ne gq422 gwq (by decide)))).trans i458
              have m508 := i459.trans (Wr.neR wH503 (Or.inr (x_apart hKT hts inX8 tyX8 tyX8_ok nmX8 rfl 12 6 (by decide) (by decide) (by decide)))).symm
              have m509 := i460.trans (Wr.neR wH503 (Or.inr (x_apart hKT hts inX8 tyX8 tyX8_ok nmX8 rfl 14 6 (by decide) (by decide) (by decide)))).symm
              have m510 := i461.trans (Wr.neR wH503 (Or.inr (x_apart hKT hts inX8 tyX8 tyX8_ok nmX8 rfl 15 6 (by decide) (by decide) (by decide)))).symm
              have m511 := (Wr.neI wH503 (Or.inl (G_ne ga0 gwq (by decide)))).trans i462
              have m512 := (Wr.neV wH503 (Or.inl (G_ne ga0 gwq (by decide)))).trans i463
              have m513 := i464.trans (Wr.neR wH503 (Or.inl (G_ne ga0 gwq (by decide)))).symm
              have m514 := i465.trans (Wr.neI wH503 (Or.inr (x_apart hKT hts inX8 tyX8 tyX8_ok nmX8 rfl 1 6 (by decide) (by decide) (by decide)))).symm
              have m515 := i466.trans (Wr.neI wH503 (Or.inr (x_apart hKT hts inX8 tyX8 tyX8_ok nmX8 rfl 4 6 (by decide) (by decide) (by decide)))).symm
              have m516 := i467.trans (Wr.neI wH503 (Or.inr (x_apart hKT hts inX8 tyX8 tyX8_ok nmX8 rfl 5 6 (by decide) (by decide) (by decide)))).symm
              have m517 := i468.trans (Wr.neI wH503 (Or.inr (x_apart hKT hts inX8 tyX8 tyX8_ok nmX8 rfl 10 6 (by decide) (by decide) (by decide)))).symm
              have m518 := i469.trans (Wr.neI wH503 (Or.inr (x_apart hKT hts inX8 tyX8 tyX8_ok nmX8 rfl 13 6 (by decide) (by decide) (by decide)))).symm
              have m519 := i470.trans (Wr.neI wH503 (Or.inr (x_apart hKT hts inX8 tyX8 tyX8_ok nmX8 rfl 16 6 (by decide) (by decide) (by decide)))).symm
              have m520 := ex471.trans (Wr.neI wH503 (Or.inl (G_ne gq169 gwq (by decide)))).symm
              have m521 := ex475.trans (Wr.neI wH503 (Or.inl (G_ne gq169 gwq (by decide)))).symm
              have m522 := Wr.I wH503
              have m522 := m522.symm
              refine lv_aload_n hx hb dX9_text_120 rfl (lv_at hl454 2 rfl) ?_
              refine x_gr C hTH503 (ci := 9) (k := 0) rfl inX9 (by decide) wF_X9_12 ga0 rg_68 rfl dX9_text_121 (fun q523 eq523 gq523 => ?_)
              have uq523 : wq = q523 := (m513).trans eq523.symm
              subst uq523
              refine lv_aload_n hx hb dX9_text_124 rfl (lv_at hl454 2 rfl) ?_
              refine x_gr C hTH503 (ci := 9) (k := 4) rfl inX9 (by decide) wF_X9_23 ga0 rg_68 rfl dX9_text_125 (fun q524 eq524 gq524 => ?_)
              have uq524 : q169 = q524 := (m504).trans eq524.symm
              subst uq524
              refine x_gi C hTH503 (ci := 4) (k := 2) rfl inX4 (by decide) wF_X9_133 gq169 rg_78 rfl dX9_text_128 (fun x525 ex525 bx525 => ?_)
              refine x_put C hTH503 hSH503 (ci := 8) (k := 7) (v := .int x525) (ty0 := tyX8) rfl inX8 tyX8_ok nmX8 (by decide) rfl wF_X9_114 gwq rg_0 rfl rfl (okI (by have := i_rng x525; omega) (by have := i_rng x525; omega)) rfl rfl (AE_in gwq (by decide)) dX9_text_131 (fun H526 locsH526 hTH526 hSH526 wH526 => ?_)
              have m527 := m504.trans (Wr.neR wH526 (Or.inl (G_ne ga0 gwq (by decide)))).symm
              have m528 := m505.trans (Wr.neR wH526 (Or.inl (G_ne gq169 gwq (by decide)))).symm
              have m529 := m506.trans (Wr.neR wH526 (Or.inl (G_ne gq169 gwq (by decide)))).symm
              have m530 := (Wr.neI wH526 (Or.inl (G_ne gq422 gwq (by decide)))).trans m507
              have m531 := m508.trans (Wr.neR wH526 (Or.inr (x_apart hKT hts inX8 tyX8 tyX8_ok nmX8 rfl 12 7 (by decide) (by decide) (by decide)))).symm
              have m532 := m509.trans (Wr.neR wH526 (Or.inr (x_apart hKT hts inX8 tyX8 tyX8_ok nmX8 rfl 14 7 (by decide) (by decide) (by decide)))).symm
              have m533 := m510.trans (Wr.neR wH526 (Or.inr (x_apart hKT hts inX8 tyX8 tyX8_ok nmX8 rfl 15 7 (by decide) (by decide) (by decide)))).symm
              have m534 := (Wr.neI wH526 (Or.inl (G_ne ga0 gwq (by decide)))).trans m511
              have m535 := (Wr.neV wH526 (Or.inl (G_ne ga0 gwq (by decide)))).trans m512
              have m536 := m513.trans (Wr.neR wH526 (Or.inl (G_ne ga0 gwq (by decide)))).symm
              have m537 := m514.trans (Wr.neI wH526 (Or.inr (x_apart hKT hts inX8 tyX8 tyX8_ok nmX8 rfl 1 7 (by decide) (by decide) (by decide)))).symm
              have m538 := m515.trans (Wr.neI wH526 (Or.inr (x_apart hKT hts inX8 tyX8 tyX8_ok nmX8 rfl 4 7 (by decide) (by decide) (by decide)))).symm
              have m539 := m516.trans (Wr.neI wH526 (Or.inr (x_apart hKT hts inX8 tyX8 tyX8_ok nmX8 rfl 5 7 (by decide) (by decide) (by decide)))).symm
              have m540 := m517.trans (Wr.neI wH526 (Or.inr (x_apart hKT hts inX8 tyX8 tyX8_ok nmX8 rfl 10 7 (by decide) (by decide) (by decide)))).symm
              have m541 := m518.trans (Wr.neI wH526 (Or.inr (x_apart hKT hts inX8 tyX8 tyX8_ok nmX8 rfl 13 7 (by decide) (by decide) (by decide)))).symm
              have m542 := m519.trans (Wr.neI wH526 (Or.inr (x_apart hKT hts inX8 tyX8 tyX8_ok nmX8 rfl 16 7 (by decide) (by decide) (by decide)))).symm
              have m543 := m520.trans (Wr.neI wH526 (Or.inl (G_ne gq169 gwq (by decide)))).symm
              have m544 := m521.trans (Wr.neI wH526 (Or.inl (G_ne gq169 gwq (by decide)))).symm
              have m545 := m522.trans (Wr.neI wH526 (Or.inr (x_apart hKT hts inX8 tyX8 tyX8_ok nmX8 rfl 6 7 (by decide) (by decide) (by decide)))).symm
              have m546 := ex525.trans (Wr.neI wH526 (Or.inl (G_ne gq169 gwq (by decide)))).symm
              have m547 := Wr.I wH526
              have m547 := m547.symm
              refine lv_iconst (v := (-1)) hx hb dX9_text_134 (by decide) ?_
              exact x_iret C hQ dX9_text_135 hSH526 (by decide) (by decide) (⟨(-1), rfl, m536, m537, m538, m539, m540, m541, m542, m534, m535, m531, m532, m533, hTH526⟩)
          · have k473 := i_nlt c472
            refine lv_aload_n hx hb dX9_text_72 rfl (lv_at hl454 2 rfl) ?_
            refine x_gr C hTH452 (ci := 9) (k := 4) rfl inX9 (by decide) wF_X9_23 ga0 rg_68 rfl dX9_text_73 (fun q548 eq548 gq548 => ?_)
            have uq548 : q169 = q548 := (i455).trans eq548.symm
            subst uq548
            refine x_V (As := []) (rest := []) C (a_X4_goesOn l K G H452  hTH452 gq169) yo_X4_goesOn wM_X9_125 ⟨⟨by decide, by decide⟩, by decide, by decide⟩ (x_rv C hTH452 (ci := 4) rfl gq169 rg_78) rfl hl454.1 rfl (Nat.le_of_ble_eq_true rfl) dX9_text_76 hSH452 (AE_sub (fun _ _ => rfl) (by decide) hSH452.1) (fun vH549 H549 locsH549 pH549 zH549 kH549 hSH549 => ?_)
            obtain ⟨x550, hvH549, bx550, hTH549⟩ := pH549
            subst hvH549
            have m551 := (i455).trans (fR_kept (x_lt hTH452 kH549 ga0 (by decide))).symm
            have m552 := (i456).trans (fR_kept (x_lt hTH452 kH549 gq169 (by decide))).symm
            have m553 := (i457).trans (fR_kept (x_lt hTH452 kH549 gq169 (by decide))).symm
            have m554 := (fI_kept (x_lt hTH452 kH549 gq422 (by decide))).trans i458
            have m555 := (i459).trans (fR_kept (x_lt hTH452 kH549 gwq (by decide))).symm
            have m556 := (i460).trans (fR_kept (x_lt hTH452 kH549 gwq (by decide))).symm
            have m557 := (i461).trans (fR_kept (x_lt hTH452 kH549 gwq (by decide))).symm
            have m558 := (fI_kept (x_lt hTH452 kH549 ga0 (by decide))).trans i462
            have m559 := (fV_kept (x_lt hTH452 kH549 ga0 (by decide))).trans i463
            have m560 := (i464).trans (fR_kept (x_lt hTH452 kH549 ga0 (by decide))).symm
            have m561 := (i465).trans (fI_kept (x_lt hTH452 kH549 gwq (by decide))).symm
            have m562 := (i466).trans (fI_kept (x_lt hTH452 kH549 gwq (by decide))).symm
            have m563 := (i467).trans (fI_kept (x_lt hTH452 kH549 gwq (by decide))).symm
            have m564 := (i468).trans (fI_kept (x_lt hTH452 kH549 gwq (by decide))).symm
            have m565 := (i469).trans (fI_kept (x_lt hTH452 kH549 gwq (by decide))).symm
            have m566 := (i470).trans (fI_kept (x_lt hTH452 kH549 gwq (by decide))).symm
            have m567 := (ex471).trans (fI_kept (x_lt hTH452 kH549 gq169 (by decide))).symm
            refine W.eq (g2 := F0 m 79 ls453 [.int x550]) rfl ?_
            refine lv_if_eq (tgt := 96) hx hb dX9_text_79 (by decide) (fun c568 => ?_) (fun c568 => ?_)
            · have k569 := i_eq c568
              refine lv_aload_n hx hb dX9_text_96 rfl (lv_at hl454 2 rfl) ?_
              refine x_gr C hTH549 (ci := 9) (k := 4) rfl inX9 (by decide) wF_X9_23 ga0 rg_68 rfl dX9_text_97 (fun q570 eq570 gq570 => ?_)
              have uq570 : q169 = q570 := (m551).trans eq570.symm
              subst uq570
              refine x_gi C hTH549 (ci := 4) (k := 1) rfl inX4 (by decide) wF_X9_132 gq169 rg_78 rfl dX9_text_100 (fun x571 ex571 bx571 => ?_)
              refine lv_if_eq (tgt := 136) hx hb dX9_text_103 (by decide) (fun c572 => ?_) (fun c572 => ?_)
              · have k573 := i_eq c572
                refine lv_aload hx hb dX9_text_136 (lv_at hl454 1 rfl) ?_
                refine lv_aload_n hx hb dX9_text_138 rfl (lv_at hl454 2 rfl) ?_
                refine x_gr C hTH549 (ci := 9) (k := 4) rfl inX9 (by decide) wF_X9_23 ga0 rg_68 rfl dX9_text_139 (fun q574 eq574 gq574 => ?_)
                have uq574 : q169 = q574 := (m551).trans eq574.symm
                subst uq574
                refine x_gr C hTH549 (ci := 4) (k := 0) rfl inX4 (by decide) wF_X9_134 gq169 rg_78 rfl dX9_text_142 (fun q575 eq575 gq575 => ?_)
                have uq575 : q421 = q575 := (m552).trans eq575.symm
                subst uq575
                refine x_V (As := [.ref q421]) (rest := []) C (a_X7_copyFrom_n_m l K G H549  hTH549 gq164 gq421) yo_X7_copyFrom wM_X9_138 ⟨⟨by decide, by decide⟩, by decide, by decide⟩ (x_rv C hTH549 (ci := 7) rfl gq164 rg_16) rfl hl454.1 rfl (Nat.le_of_ble_eq_true rfl) dX9_text_145 hSH549 (AE_sub (fun _ _ => rfl) (by decide) hSH549.1) (fun vH576 H576 locsH576 pH576 zH576 kH576 hSH576 => ?_)
                obtain ⟨hvH576, hTH576⟩ := pH576
                subst hvH576
                have m577 := (m551).trans (fR_kept (x_lt hTH549 kH576 ga0 (by decide))).symm
                have m578 := (m552).trans (fR_kept (x_lt hTH549 kH576 gq169 (by decide))).symm
                have m579 := (m553).trans (fR_kept (x_lt hTH549 kH576 gq169 (by decide))).symm
                have m580 := (fI_kept (x_lt hTH549 kH576 gq422 (by decide))).trans m554
                have m581 := (m555).trans (fR_kept (x_lt hTH549 kH576 gwq (by decide))).symm
                have m582 := (m556).trans (fR_kept (x_lt hTH549 kH576 gwq (by decide))).symm
                have m583 := (m557).trans (fR_kept (x_lt hTH549 kH576 gwq (by decide))).symm
                have m584 := (fI_kept (x_lt hTH549 kH576 ga0 (by decide))).trans m558
                have m585 := (fV_kept (x_lt hTH549 kH576 ga0 (by decide))).trans m559
                have m586 := (m560).trans (fR_kept (x_lt hTH549 kH576 ga0 (by decide))).symm
                have m587 := (m561).trans (fI_kept (x_lt hTH549 kH576 gwq (by decide))).symm
                have m588 := (m562).trans (fI_kept (x_lt hTH549 kH576 gwq (by decide))).symm
                have m589 := (m563).trans (fI_kept (x_lt hTH549 kH576 gwq (by decide))).symm
                have m590 := (m564).trans (fI_kept (x_lt hTH549 kH576 gwq (by decide))).symm
                have m591 := (m565).trans (fI_kept (x_lt hTH549 kH576 gwq (by decide))).symm
                have m592 := (m566).trans (fI_kept (x_lt hTH549 kH576 gwq (by decide))).symm
                have m593 := (m567).trans (fI_kept (x_lt hTH549 kH576 gq169 (by decide))).symm
                have m594 := (ex571).trans (fI_kept (x_lt hTH549 kH576 gq169 (by decide))).symm
                refine W.eq (g2 := F0 m 148 ls453 []) rfl ?_
                refine lv_aload hx hb dX9_text_148 (lv_at hl454 1 rfl) ?_
                refine x_gi C hTH576 (ci := 7) (k := 0) rfl inX7 (by decide) wF_X9_144 gq164 rg_16 rfl dX9_text_150 (fun x595 ex595 bx595 => ?_)
                exact x_iret C hQ dX9_text_153 hSH576 (by decide) (by decide) (⟨x595, rfl, m586, m587, m588, m589, m590, m591, m592, m584, m585, m581, m582, m583, hTH576⟩)
              · have k573 := i_ne c572
                refine lv_aload_n hx hb dX9_text_106 rfl (lv_at hl454 2 rfl) ?_
                refine x_gr C hTH549 (ci := 9) (k := 0) rfl inX9 (by decide) wF_X9_12 ga0 rg_68 rfl dX9_text_107 (fun q596 eq596 gq596 => ?_)
                have uq596 : wq = q596 := (m560).trans eq596.symm
                subst uq596
                refine lv_aload_n hx hb dX9_text_110 rfl (lv_at hl454 2 rfl) ?_
                refine x_gr C hTH549 (ci := 9) (k := 4) rfl inX9 (by decide) wF_X9_23 ga0 rg_68 rfl dX9_text_111 (fun q597 eq597 gq597 => ?_)
                have uq597 : q169 = q597 := (m551).trans eq597.symm
                subst uq597
                refine x_gi C hTH549 (ci := 4) (k := 1) rfl inX4 (by decide) wF_X9_132 gq169 rg_78 rfl dX9_text_114 (fun x598 ex598 bx598 => ?_)
                have ux598 : x571 = x598 := (ex571).trans ex598.symm
                subst ux598
                refine x_put C hTH549 hSH549 (ci := 8) (k := 6) (v := .int x571) (ty0 := tyX8) rfl inX8 tyX8_ok nmX8 (by decide) rfl wF_X9_111 gwq rg_0 rfl rfl (okI (by have := i_rng x571; omega) (by have := i_rng x571; omega)) rfl rfl (AE_in gwq (by decide)) dX9_text_117 (fun H599 locsH599 hTH599 hSH599 wH599 => ?_)
                have m600 := m551.trans (Wr.neR wH599 (Or.inl (G_ne ga0 gwq (by decide)))).symm
                have m601 := m552.trans (Wr.neR wH599 (Or.inl (G_ne gq169 gwq (by decide)))).symm
                have m602 := m553.trans (Wr.neR wH599 (Or.inl (G_ne gq169 gwq (by decide)))).symm
                have m603 := (Wr.neI wH599 (Or.inl (G_ne gq422 gwq (by decide)))).trans m554
                have m604 := m555.trans (Wr.neR wH599 (Or.inr (x_apart hKT hts inX8 tyX8 tyX8_ok nmX8 rfl 12 6 (by decide) (by decide) (by decide)))).symm
                have m605 := m556.trans (Wr.neR wH599 (Or.inr (x_apart hKT hts inX8 tyX8 tyX8_ok nmX8 rfl 14 6 (by decide) (by decide) (by decide)))).symm
                have m606 := m557.trans (Wr.neR wH599 (Or.inr (x_apart hKT hts inX8 tyX8 tyX8_ok nmX8 rfl 15 6 (by decide) (by decide) (by decide)))).symm
                have m607 := (Wr.neI wH599 (Or.inl (G_ne ga0 gwq (by decide)))).trans m558
                have m608 := (Wr.neV wH599 (Or.inl (G_ne ga0 gwq (by decide)))).trans m559
                have m609 := m560.trans (Wr.neR wH599 (Or.inl (G_ne ga0 gwq (by decide)))).symm
                have m610 := m561.trans (Wr.neI wH599 (Or.inr (x_apart hKT hts inX8 tyX8 tyX8_ok nmX8 rfl 1 6 (by decide) (by decide) (by decide)))).symm
                have m611 := m562.trans (Wr.neI wH599 (Or.inr (x_apart hKT hts inX8 tyX8 tyX8_ok nmX8 rfl 4 6 (by decide) (by decide) (by decide)))).symm
                have m612 := m563.trans (Wr.neI wH599 (Or.inr (x_apart hKT hts inX8 tyX8 tyX8_ok nmX8 rfl 5 6 (by decide) (by decide) (by decide)))).symm
                have m613 := m564.trans (Wr.neI wH599 (Or.inr (x_apart hKT hts inX8 tyX8 tyX8_ok nmX8 rfl 10 6 (by decide) (by decide) (by decide)))).symm
                have m614 := m565.trans (Wr.neI wH599 (Or.inr (x_apart hKT hts inX8 tyX8 tyX8_ok nmX8 rfl 13 6 (by decide) (by decide) (by decide)))).symm
                have m615 := m566.trans (Wr.neI wH599 (Or.inr (x_apart hKT hts inX8 tyX8 tyX8_ok nmX8 rfl 16 6 (by decide) (by decide) (by decide)))).symm
                have m616 := m567.trans (Wr.neI wH599 (Or.inl (G_ne gq169 gwq (by decide)))).symm
                have m617 := ex571.trans (Wr.neI wH599 (Or.inl (G_ne gq169 gwq (by decide)))).symm
                have m618 := Wr.I wH599
                have m618 := m618.symm
                refine lv_aload_n hx hb dX9_text_120 rfl (lv_at hl454 2 rfl) ?_
                refine x_gr C hTH599 (ci := 9) (k := 0) rfl inX9 (by decide) wF_X9_12 ga0 rg_68 rfl dX9_text_121 (fun q619 eq619 gq619 => ?_)
                have uq619 : wq = q619 := (m609).trans eq619.symm
                subst uq619
                refine lv_aload_n hx hb dX9_text_124 rfl (lv_at hl454 2 rfl) ?_
                refine x_gr C hTH599 (ci := 9) (k := 4) rfl inX9 (by decide) wF_X9_23 ga0 rg_68 rfl dX9_text_125 (fun q620 eq620 gq620 => ?_)
                have uq620 : q169 = q620 := (m600).trans eq620.symm
                subst uq620
                refine x_gi C hTH599 (ci := 4) (k := 2) rfl inX4 (by decide) wF_X9_133 gq169 rg_78 rfl dX9_text_128 (fun x621 ex621 bx621 => ?_)
                refine x_put C hTH599 hSH599 (ci := 8) (k := 7) (v := .int x621) (ty0 := tyX8) rfl inX8 tyX8_ok nmX8 (by decide) rfl wF_X9_114 gwq rg_0 rfl rfl (okI (by have := i_rng x621; omega) (by have := i_rng x621; omega)) rfl rfl (AE_in gwq (by decide)) dX9_text_131 (fun H622 locsH622 hTH622 hSH622 wH622 => ?_)
                have m623 := m600.trans (Wr.neR wH622 (Or.inl (G_ne ga0 gwq (by decide)))).symm
                have m624 := m601.trans (Wr.neR wH622 (Or.inl (G_ne gq169 gwq (by decide)))).symm
                have m625 := m602.trans (Wr.neR wH622 (Or.inl (G_ne gq169 gwq (by decide)))).symm
                have m626 := (Wr.neI wH622 (Or.inl (G_ne gq422 gwq (by decide)))).trans m603
                have m627 := m604.trans (Wr.neR wH622 (Or.inr (x_apart hKT hts inX8 tyX8 tyX8_ok nmX8 rfl 12 7 (by decide) (by decide) (by decide)))).symm
                have m628 := m605.trans (Wr.neR wH622 (Or.inr (x_apart hKT hts inX8 tyX8 tyX8_ok nmX8 rfl 14 7 (by decide) (by decide) (by decide)))).symm
                have m629 := m606.trans (Wr.neR wH622 (Or.inr (x_apart hKT hts inX8 tyX8 tyX8_ok nmX8 rfl 15 7 (by decide) (by decide) (by decide)))).symm
                have m630 := (Wr.neI wH622 (Or.inl (G_ne ga0 gwq (by decide)))).trans m607
                have m631 := (Wr.neV wH622 (Or.inl (G_ne ga0 gwq (by decide)))).trans m608
                have m632 := m609.trans (Wr.neR wH622 (Or.inl (G_ne ga0 gwq (by decide)))).symm
                have m633 := m610.trans (Wr.neI wH622 (Or.inr (x_apart hKT hts inX8 tyX8 tyX8_ok nmX8 rfl 1 7 (by decide) (by decide) (by decide)))).symm
                have m634 := m611.trans (Wr.neI wH622 (Or.inr (x_apart hKT hts inX8 tyX8 tyX8_ok nmX8 rfl 4 7 (by decide) (by decide) (by decide)))).symm
                have m635 := m612.trans (Wr.neI wH622 (Or.inr (x_apart hKT hts inX8 tyX8 tyX8_ok nmX8 rfl 5 7 (by decide) (by decide) (by decide)))).symm
                have m636 := m613.trans (Wr.neI wH622 (Or.inr (x_apart hKT hts inX8 tyX8 tyX8_ok nmX8 rfl 10 7 (by decide) (by decide) (by decide)))).symm
                have m637 := m614.trans (Wr.neI wH622 (Or.inr (x_apart hKT hts inX8 tyX8 tyX8_ok nmX8 rfl 13 7 (by decide) (by decide) (by decide)))).symm
                have m638 := m615.trans (Wr.neI wH622 (Or.inr (x_apart hKT hts inX8 tyX8 tyX8_ok nmX8 rfl 16 7 (by decide) (by decide) (by decide)))).symm
                have m639 := m616.trans (Wr.neI wH622 (Or.inl (G_ne gq169 gwq (by decide)))).symm
                have m640 := m617.trans (Wr.neI wH622 (Or.inl (G_ne gq169 gwq (by decide)))).symm
                have m641 := m618.trans (Wr.neI wH622 (Or.inr (x_apart hKT hts inX8 tyX8 tyX8_ok nmX8 rfl 6 7 (by decide) (by decide) (by decide)))).symm
                have m642 := ex621.trans (Wr.neI wH622 (Or.inl (G_ne gq169 gwq (by decide)))).symm
                have m643 := Wr.I wH622
                have m643 := m643.symm
                refine lv_iconst (v := (-1)) hx hb dX9_text_134 (by decide) ?_
                exact x_iret C hQ dX9_text_135 hSH622 (by decide) (by decide) (⟨(-1), rfl, m632, m633, m634, m635, m636, m637, m638, m630, m631, m627, m628, m629, hTH622⟩)
            · have k569 := i_ne c568
              refine lv_aload_n hx hb dX9_text_82 rfl (lv_at hl454 2 rfl) ?_
              refine x_gr C hTH549 (ci := 9) (k := 4) rfl inX9 (by decide) wF_X9_23 ga0 rg_68 rfl dX9_text_83 (fun q644 eq644 gq644 => ?_)
              have uq644 : q169 = q644 := (m551).trans eq644.symm
              subst uq644
              obtain ⟨x645, ex645⟩ : ∃ z : Int32, z = fI H549 q421 (K.1.2 7 0) := ⟨_, rfl⟩
              have bx645 := ty_fi (x := x645) (k := 0) ex645 hTH549 gq421 rg_69 rfl
              refine x_V (As := []) (rest := []) C (a_X4_line l K G H549 (x447) (x471) (x645) hTH549 gq169 gq421 m552 gq422 m553 m567 ex645 m554 (by omega) (by omega)) yo_X4_line wM_X9_129 ⟨⟨by decide, by decide⟩, by decide, by decide⟩ (x_rv C hTH549 (ci := 4) rfl gq169 rg_78) rfl hl454.1 rfl (Nat.le_of_ble_eq_true rfl) dX9_text_86 hSH549 (AE_sub (fun _ _ => rfl) (by decide) hSH549.1) (fun vH646 H646 locsH646 pH646 zH646 kH646 hSH646 => ?_)
              obtain ⟨x647, x648, x649, hvH646, bx647, ex648, ex649, hrH646, m650, m651, hTH646⟩ := pH646
              subst hvH646
              have m652 := (m551).trans (fR_kept (x_lt hTH549 kH646 ga0 (by decide))).symm
              have m653 := (fI_kept (x_lt hTH549 kH646 gq422 (by decide))).trans m554
              have m654 := (m555).trans (fR_kept (x_lt hTH549 kH646 gwq (by decide))).symm
              have m655 := (m556).trans (fR_kept (x_lt hTH549 kH646 gwq (by decide))).symm
              have m656 := (m557).trans (fR_kept (x_lt hTH549 kH646 gwq (by decide))).symm
              have m657 := (fI_kept (x_lt hTH549 kH646 ga0 (by decide))).trans m558
              have m658 := (fV_kept (x_lt hTH549 kH646 ga0 (by decide))).trans m559
              have m659 := (m560).trans (fR_kept (x_lt hTH549 kH646 ga0 (by decide))).symm
              have m660 := (m561).trans (fI_kept (x_lt hTH549 kH646 gwq (by decide))).symm
              have m661 := (m562).trans (fI_kept (x_lt hTH549 kH646 gwq (by decide))).symm
              have m662 := (m563).trans (fI_kept (x_lt hTH549 kH646 gwq (by decide))).symm
              have m663 := (m564).trans (fI_kept (x_lt hTH549 kH646 gwq (by decide))).symm
              have m664 := (m565).trans (fI_kept (x_lt hTH549 kH646 gwq (by decide))).symm
              have m665 := (m566).trans (fI_kept (x_lt hTH549 kH646 gwq (by decide))).symm
              have bx648 := ty_fi (x := x648) (k := 7) ex648 hTH646 gq169 rg_78 rfl
              have bx649 := ty_fi (x := x649) (k := 0) ex649 hTH646 gq421 rg_69 rfl
              refine W.eq (g2 := F0 m 89 ls453 [.int x647]) rfl ?_
              refine lv_pop hx hb dX9_text_89 rfl ?_
              obtain ⟨x666, ex666⟩ : ∃ y : Int32, y = x451 + 1 := ⟨_, rfl⟩
              have tx666 := i_add ex666 (by omega)
              refine lv_iinc (v := x666) (lv' := [(5, .int x666), (4, .ref q164), (0, .ref a0)]) hx hb dX9_text_90 hl454 (k := 0) rfl (by rw [ex666]; rfl) (by decide) rfl (fun ls667 hl668 => ?_)
              refine lv_goto (tgt := 65) hx hb dX9_text_93 (by decide) ?_
              exact ihLp450 ls667 H646 locsH646 (x666) (x648) (lv_sub hl668 [0, 1, 2] rfl) hTH646 hSH646 (by omega) m652 m650 m651 m653 m654 m655 m656 m657 m658 m659 m660 m661 m662 m663 m664 m665 ex648 (by omega) (by omega)
      exact Lp450 ((17 - (0 : Int32).toInt).toNat + 1) ls448 H425 locsH425 (0) (x426) (lv_sub hl449 [0, 1, 3] rfl) hTH425 hSH425 (by omega) m445 m428 m429 mx447 m439 m440 m441 m442 m438 m431 m432 m433 m434 m435 m436 m437 ex426 (by omega) (by omega)
