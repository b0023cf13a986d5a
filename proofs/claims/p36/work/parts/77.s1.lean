set_option maxHeartbeats 4000000 in
set_option maxRecDepth 100000 in
theorem a_X10_night_r (l : Launch) (K : KE) (G : Nat → Option Nat) (H : Heap) {a0 : Nat} (x1 : Int32) (x2 : Int32) (s10 : Int32) (hT : TY K G H) (ga0 : G a0 = some 112) (es10 : s10 = fI H a0 (K.1.2 10 59)) (hg_CG : CG (avw K H a0)) (hg_TU : TU (avw K H a0) (svw K H a0)) (hg_WD : WD (avw K H a0)) (hg_IM : IM (avw K H a0)) : MX l K yX10_night cX10_night 3 (some .int) 2 44 0 0 [.ref a0, .int x1, .int x2] H (AE G [112, 154, 155] H.size) (fun v H1 => ∃ (r : Int32) (t0 : Int32), v = some (.int r) ∧ t0 = fI H1 a0 (K.1.2 10 59) ∧ ((-20 ≤ x1.toInt ∧ x1.toInt ≤ 50 ∧ 0 ≤ x2.toInt ∧ x2.toInt ≤ 99 ∧ s10.toInt ≤ 19 ∧ r.toInt = s10.toInt ∧ t0.toInt = s10.toInt + 1) ∨ ((x1.toInt < -20 ∨ 50 < x1.toInt ∨ x2.toInt < 0 ∨ 99 < x2.toInt ∨ 19 < s10.toInt) ∧ r.toInt = -1 ∧ t0.toInt = s10.toInt)) ∧ (CG (avw K H1 a0)) ∧ (TU (avw K H1 a0) (svw K H1 a0)) ∧ (WD (avw K H1 a0)) ∧ (IM (avw K H1 a0)) ∧ MF K H H1 a0 [0, 59] ∧ TY K G H1) := by
  refine MX.of (by decide +kernel) (Nat.le_of_ble_eq_true rfl) ?_
  intro p e s m below meth c ls Q C hH hl hQ
  subst hH
  have C : CX p K s m _ meth c RX10 cX10_night 3 (some .int) "night" := C
  obtain ⟨hx, hb, hml, hown, hts, hKT, hr, hlocks, hnm⟩ := id C
  have hl : lv_has ls 3 [(0, .ref a0), (1, .int x1), (2, .int x2)] := hl
  have hS : va_S (AE G [112, 154, 155] s.heap.size) s.heap s.heap [] := va_S.rf
  have n_m1 : ((-1) : Int32).toInt = -1 := rfl
  have n_0 : (0 : Int32).toInt = 0 := rfl
  have n_1 : (1 : Int32).toInt = 1 := rfl
  have n_20 : (20 : Int32).toInt = 20 := rfl
  have bs10 := ty_fi (x := s10) (k := 59) es10 hT ga0 rg_112 rfl
  have hap : ∀ x y, x < 74 → y < 74 → x ≠ y → K.1.2 10 x ≠ K.1.2 10 y := x_apart hKT hts inX10 tyX10 tyX10_ok nmX10 rfl
  have mf0 : MF K s.heap s.heap a0 [0, 59] := fun _ _ _ => rfl
  refine lv_aload_n hx hb dX10_night_0 rfl (lv_at hl 0 rfl) ?_
  refine lv_iconst (v := 0) hx hb dX10_night_1 (by decide) ?_
  refine x_put C hT hS (ci := 10) (k := 0) (v := .int 0) (ty0 := tyX10) rfl inX10 tyX10_ok nmX10 (by decide) rfl wF_X10_167 ga0 rg_112 rfl rfl (okI (by have := i_rng (0 : Int32); omega) (by have := i_rng (0 : Int32); omega)) rfl rfl (AE_in ga0 (by decide)) dX10_night_2 (fun H357 locsH357 hTH357 hSH357 wH357 => ?_)
  have mf358 : MF K s.heap H357 a0 [0, 59] := MF.fld hap wH357 (by decide) (by decide) mf0
  have g359 : CG (avw K H357 a0) := CG.congr (fun k hk j => av_fld hT ga0 hap wH357 (by decide) (CG_ok 112 (by decide) k hk) (CG_ne 0 (by decide) k hk)) hg_CG
  have g360 : TU (avw K H357 a0) (svw K H357 a0) := TU.congr (fun k hk j => av_fld hT ga0 hap wH357 (by decide) (TU_ok 112 (by decide) k hk) (TU_ne 0 (by decide) k hk)) (fun k hk => sv_fld hap wH357 (by decide) (TU_slt k hk) (TU_sne 0 (by decide) k hk)) hg_TU
  have g361 : WD (avw K H357 a0) := WD.congr (fun k hk j => av_fld hT ga0 hap wH357 (by decide) (WD_ok 112 (by decide) k hk) (WD_ne 0 (by decide) k hk)) hg_WD
  have g362 : IM (avw K H357 a0) := IM.congr (fun k hk j => av_fld hT ga0 hap wH357 (by decide) (IM_ok 112 (by decide) k hk) (IM_ne 0 (by decide) k hk)) hg_IM
  have m363 := es10.trans (Wr.neI wH357 (Or.inr (x_apart hKT hts inX10 tyX10 tyX10_ok nmX10 rfl 59 0 (by decide) (by decide) (by decide)))).symm
  have m364 := Wr.I wH357
  refine lv_aload_n hx hb dX10_night_5 rfl (lv_at hl 0 rfl) ?_
  refine lv_iload_n hx hb dX10_night_6 rfl (lv_at hl 1 rfl) ?_
  refine x_V (As := [.int x1]) (rest := []) C (c_X10_isHeat l K G H357 (x1) hTH357 ga0) yo_X10_isHeat wM_X10_428 ⟨⟨by decide, by decide⟩, by decide, by decide⟩ (x_rv C hTH357 (ci := 10) rfl ga0 rg_112) rfl hl.1 rfl (Nat.le_of_ble_eq_true rfl) dX10_night_7 hSH357 (AE_sub (fun _ _ => rfl) (by decide) hSH357.1) (fun vH365 H365 locsH365 pH365 zH365 kH365 hSH365 => ?_)
  have hqH365 := pH365.1.symm
  subst hqH365
  rcases pH365.2 with ⟨hvH365, hcH365⟩ | ⟨hvH365, hcH365⟩
  · subst hvH365
    refine W.eq (g2 := F0 m 10 ls [.int 1]) rfl ?_
    refine lv_if_eq (tgt := 30) hx hb dX10_night_10 (by decide) (fun c366 => ?_) (fun c366 => ?_)
    · have k367 := i_eq c366
      exfalso
      omega
    · have k367 := i_ne c366
      refine lv_aload_n hx hb dX10_night_13 rfl (lv_at hl 0 rfl) ?_
      refine lv_iload_n hx hb dX10_night_14 rfl (lv_at hl 2 rfl) ?_
      refine x_V (As := [.int x2]) (rest := []) C (c_X10_isWet l K G H357 (x2) hTH357 ga0) yo_X10_isWet wM_X10_431 ⟨⟨by decide, by decide⟩, by decide, by decide⟩ (x_rv C hTH357 (ci := 10) rfl ga0 rg_112) rfl hl.1 rfl (Nat.le_of_ble_eq_true rfl) dX10_night_15 hSH365 (AE_sub (fun _ _ => rfl) (by decide) hSH365.1) (fun vH368 H368 locsH368 pH368 zH368 kH368 hSH368 => ?_)
      have hqH368 := pH368.1.symm
      subst hqH368
      rcases pH368.2 with ⟨hvH368, hcH368⟩ | ⟨hvH368, hcH368⟩
      · subst hvH368
        refine W.eq (g2 := F0 m 18 ls [.int 1]) rfl ?_
        refine lv_if_eq (tgt := 30) hx hb dX10_night_18 (by decide) (fun c369 => ?_) (fun c369 => ?_)
        · have k370 := i_eq c369
          exfalso
          omega
        · have k370 := i_ne c369
          refine lv_aload_n hx hb dX10_night_21 rfl (lv_at hl 0 rfl) ?_
          refine x_gi C hTH357 (ci := 10) (k := 59) rfl inX10 (by decide) wF_X10_438 ga0 rg_112 rfl dX10_night_22 (fun x371 ex371 bx371 => ?_)
          have ux371 : s10 = x371 := (m363).trans ex371.symm
          subst ux371
          refine lv_bipush (v := 20) hx hb dX10_night_25 (by decide) ?_
          refine lv_icmp_ne (tgt := 32) hx hb dX10_night_27 (by decide) (fun c372 => ?_) (fun c372 => ?_)
          · have k373 := i_ne c372
            refine lv_aload_n hx hb dX10_night_32 rfl (lv_at hl 0 rfl) ?_
            refine x_gr C hTH357 (ci := 10) (k := 60) rfl inX10 (by decide) wF_X10_140 ga0 rg_112 rfl dX10_night_33 (fun q374 eq374 gq374 => ?_)
            refine lv_aload_n hx hb dX10_night_36 rfl (lv_at hl 0 rfl) ?_
            refine x_gi C hTH357 (ci := 10) (k := 59) rfl inX10 (by decide) wF_X10_438 ga0 rg_112 rfl dX10_night_37 (fun x375 ex375 bx375 => ?_)
            have ux375 : s10 = x375 := (m363).trans ex375.symm
            subst ux375
            refine lv_iload_n hx hb dX10_night_40 rfl (lv_at hl 1 rfl) ?_
            refine x_iast C hTH357 hSH368 gq374 rg_154 (by omega) (by show _ < ((20 : Nat) : Int); omega) ⟨by have := i_rng x1; omega, by have := i_rng x1; omega⟩ (AE_in gq374 (by decide)) dX10_night_41 (fun H376 locsH376 hTH376 hSH376 wH376 => ?_)
            have mf377 : MF K s.heap H376 a0 [0, 59] := MF.arr wH376 (G_ne ga0 gq374 (by decide)) mf358
            have g378 : CG (avw K H376 a0) := CG.congr (fun k hk j => av_arr hTH357 ga0 wH376 gq374 (by decide) (CG_ok 154 (by decide) k hk)) g359
            have g379 : TU (avw K H376 a0) (svw K H376 a0) := TU.congr (fun k hk j => av_arr hTH357 ga0 wH376 gq374 (by decide) (TU_ok 154 (by decide) k hk)) (fun k hk => sv_arr ga0 wH376 gq374 (by decide)) g360
            have g380 : WD (avw K H376 a0) := WD.congr (fun k hk j => av_arr hTH357 ga0 wH376 gq374 (by decide) (WD_ok 154 (by decide) k hk)) g361
            have g381 : IM (avw K H376 a0) := IM.congr (fun k hk j => av_arr hTH357 ga0 wH376 gq374 (by decide) (IM_ok 154 (by decide) k hk)) g362
            have m382 := m363.trans (Wr.neI wH376 (Or.inl (G_ne ga0 gq374 (by decide)))).symm
            have m383 := (Wr.neI wH376 (Or.inl (G_ne ga0 gq374 (by decide)))).trans m364
            have m384 := eq374.trans (Wr.neR wH376 (Or.inl (G_ne ga0 gq374 (by decide)))).symm
            have m385 := Wr.I wH376
            have m385 := m385.symm
            refine lv_aload_n hx hb dX10_night_42 rfl (lv_at hl 0 rfl) ?_
            refine x_gr C hTH376 (ci := 10) (k := 61) rfl inX10 (by decide) wF_X10_143 ga0 rg_112 rfl dX10_night_43 (fun q386 eq386 gq386 => ?_)
            refine lv_aload_n hx hb dX10_night_46 rfl (lv_at hl 0 rfl) ?_
            refine x_gi C hTH376 (ci := 10) (k := 59) rfl inX10 (by decide) wF_X10_438 ga0 rg_112 rfl dX10_night_47 (fun x387 ex387 bx387 => ?_)
            have ux387 : s10 = x387 := (m382).trans ex387.symm
            subst ux387
            refine lv_iload_n hx hb dX10_night_50 rfl (lv_at hl 2 rfl) ?_
            refine x_iast C hTH376 hSH376 gq386 rg_155 (by omega) (by show _ < ((20 : Nat) : Int); omega) ⟨by have := i_rng x2; omega, by have := i_rng x2; omega⟩ (AE_in gq386 (by decide)) dX10_night_51 (fun H388 locsH388 hTH388 hSH388 wH388 => ?_)
            have mf389 : MF K s.heap H388 a0 [0, 59] := MF.arr wH388 (G_ne ga0 gq386 (by decide)) mf377
            have g390 : CG (avw K H388 a0) := CG.congr (fun k hk j => av_arr hTH376 ga0 wH388 gq386 (by decide) (CG_ok 155 (by decide) k hk)) g378
            have g391 : TU (avw K H388 a0) (svw K H388 a0) := TU.congr (fun k hk j => av_arr hTH376 ga0 wH388 gq386 (by decide) (TU_ok 155 (by decide) k hk)) (fun k hk => sv_arr ga0 wH388 gq386 (by decide)) g379
            have g392 : WD (avw K H388 a0) := WD.congr (fun k hk j => av_arr hTH376 ga0 wH388 gq386 (by decide) (WD_ok 155 (by decide) k hk)) g380
            have g393 : IM (avw K H388 a0) := IM.congr (fun k hk j => av_arr hTH376 ga0 wH388 gq386 (by decide) (IM_ok 155 (by decide) k hk)) g381
            have m394 := m382.trans (Wr.neI wH388 (Or.inl (G_ne ga0 gq386 (by decide)))).symm
            have m395 := (Wr.neI wH388 (Or.inl (G_ne ga0 gq386 (by decide)))).trans m383
            have m396 := m384.trans (Wr.neR wH388 (Or.inl (G_ne ga0 gq386 (by decide)))).symm
            have m397 := m385.trans (Wr.neI wH388 (Or.inl (G_ne gq374 gq386 (by decide)))).symm
            have m398 := eq386.trans (Wr.neR wH388 (Or.inl (G_ne ga0 gq386 (by decide)))).symm
            have m399 := Wr.I wH388
            have m399 := m399.symm
            refine lv_aload_n hx hb dX10_night_52 rfl (lv_at hl 0 rfl) ?_
            refine lv_aload_n hx hb dX10_night_53 rfl (lv_at hl 0 rfl) ?_
            refine x_gi C hTH388 (ci := 10) (k := 59) rfl inX10 (by decide) wF_X10_438 ga0 rg_112 rfl dX10_night_54 (fun x400 ex400 bx400 => ?_)
            have ux400 : s10 = x400 := (m394).trans ex400.symm
            subst ux400
            refine lv_iconst (v := 1) hx hb dX10_night_57 (by decide) ?_
            refine lv_iadd hx hb dX10_night_58 ?_
            refine lv_topi (fun x401 ex401 => ?_)
            have tx401 := i_add ex401 (by omega)
            refine x_put C hTH388 hSH388 (ci := 10) (k := 59) (v := .int x401) (ty0 := tyX10) rfl inX10 tyX10_ok nmX10 (by decide) rfl wF_X10_438 ga0 rg_112 rfl rfl (okI (by have := i_rng x401; omega) (by have := i_rng x401; omega)) rfl rfl (AE_in ga0 (by decide)) dX10_night_59 (fun H402 locsH402 hTH402 hSH402 wH402 => ?_)
            have mf403 : MF K s.heap H402 a0 [0, 59] := MF.fld hap wH402 (by decide) (by decide) mf389
            have g404 : CG (avw K H402 a0) := CG.congr (fun k hk j => av_fld hTH388 ga0 hap wH402 (by decide) (CG_ok 112 (by decide) k hk) (CG_ne 59 (by decide) k hk)) g390
            have g405 : TU (avw K H402 a0) (svw K H402 a0) := TU.congr (fun k hk j => av_fld hTH388 ga0 hap wH402 (by decide) (TU_ok 112 (by decide) k hk) (TU_ne 59 (by decide) k hk)) (fun k hk => sv_fld hap wH402 (by decide) (TU_slt k hk) (TU_sne 59 (by decide) k hk)) g391
            have g406 : WD (avw K H402 a0) := WD.congr (fun k hk j => av_fld hTH388 ga0 hap wH402 (by decide) (WD_ok 112 (by decide) k hk) (WD_ne 59 (by decide) k hk)) g392
            have g407 : IM (avw K H402 a0) := IM.congr (fun k hk j => av_fld hTH388 ga0 hap wH402 (by decide) (IM_ok 112 (by decide) k hk) (IM_ne 59 (by decide) k hk)) g393
            have m409 := (Wr.neI wH402 (Or.inr (x_apart hKT hts inX10 tyX10 tyX10_ok nmX10 rfl 0 59 (by decide) (by decide) (by decide)))).trans m395
            have m410 := m396.trans (Wr.neR wH402 (Or.inr (x_apart hKT hts inX10 tyX10 tyX10_ok nmX10 rfl 60 59 (by decide) (by decide) (by decide)))).symm
            have m411 := m397.trans (Wr.neI wH402 (Or.inl (G_ne gq374 ga0 (by decide)))).symm
            have m412 := m398.trans (Wr.neR wH402 (Or.inr (x_apart hKT hts inX10 tyX10 tyX10_ok nmX10 rfl 61 59 (by decide) (by decide) (by decide)))).symm
            have m413 := m399.trans (Wr.neI wH402 (Or.inl (G_ne gq386 ga0 (by decide)))).symm
            have m414 := Wr.I wH402
            have m414 := m414.symm
            refine lv_aload_n hx hb dX10_night_62 rfl (lv_at hl 0 rfl) ?_
            refine x_gi C hTH402 (ci := 10) (k := 59) rfl inX10 (by decide) wF_X10_438 ga0 rg_112 rfl dX10_night_63 (fun x415 ex415 bx415 => ?_)
            have ux415 : x401 = x415 := (m414).trans ex415.symm
            subst ux415
            refine lv_iconst (v := 1) hx hb dX10_night_66 (by decide) ?_
            refine lv_isub hx hb dX10_night_67 ?_
            refine lv_topi (fun x416 ex416 => ?_)
            have tx416 := i_sub ex416 (by omega)
            exact x_iret C hQ dX10_night_68 hSH402 (by decide) (by decide) (⟨x416, x401, rfl, m414, by omega, g404, g405, g406, g407, mf403, hTH402⟩)
          · have k373 := i_eq c372
            refine lv_iconst (v := (-1)) hx hb dX10_night_30 (by decide) ?_
            exact x_iret C hQ dX10_night_31 hSH368 (by decide) (by decide) (⟨(-1), s10, rfl, m363, by omega, g359, g360, g361, g362, mf358, hTH357⟩)
      · subst hvH368
        refine W.eq (g2 := F0 m 18 ls [.int 0]) rfl ?_
        refine lv_if_eq (tgt := 30) hx hb dX10_night_18 (by decide) (fun c417 => ?_) (fun c417 => ?_)
        · have k418 := i_eq c417
          refine lv_iconst (v := (-1)) hx hb dX10_night_30 (by decide) ?_
          exact x_iret C hQ dX10_night_31 hSH368 (by decide) (by decide) (⟨(-1), s10, rfl, m363, by omega, g359, g360, g361, g362, mf358, hTH357⟩)
        · have k418 := i_ne c417
          exfalso
          omega
  · subst hvH365
    refine W.eq (g2 := F0 m 10 ls [.int 0]) rfl ?_
    refine lv_if_eq (tgt := 30) hx hb dX10_night_10 (by decide) (fun c419 => ?_) (fun c419 => ?_)
    · have k420 := i_eq c419
      refine lv_iconst (v := (-1)) hx hb dX10_night_30 (by decide) ?_
      exact x_iret C hQ dX10_night_31 hSH365 (by decide) (by decide) (⟨(-1), s10, rfl, m363, by omega, g359, g360, g361, g362, mf358, hTH357⟩)
    · have k420 := i_ne c419
      exfalso
      omega

set_option maxHeartbeats 4000000 in
set_option maxRecDepth 100000 in
theorem a_X10_note_r (l : Launch) (K : KE) (G : Nat → Option Nat) (H : Heap) {a0 : Nat} (x1 : Int32) (x2 : Int32) (s13 : Int32) (hT : TY K G H) (ga0 : G a0 = some 112) (es13 : s13 = fI H a0 (K.1.2 10 62)) (hg_CG : CG (avw K H a0)) (hg_TU : TU (avw K H a0) (svw K H a0)) (hg_WD : WD (avw K H a0)) (hg_IM : IM (avw K H a0)) : MX l K yX10_note cX10_note 3 (some .int) 1 23 0 0 [.ref a0, .int x1, .int x2] H (AE G [112, 156, 157] H.size) (fun v H1 => ∃ (r : Int32) (t0 : Int32), v = some (.int r) ∧ t0 = fI H1 a0 (K.1.2 10 62) ∧ ((1 ≤ x1.toInt ∧ x1.toInt ≤ 999999 ∧ 1 ≤ x2.toInt ∧ x2.toInt ≤ 99 ∧ s13.toInt ≤ 7 ∧ r.toInt = s13.toInt ∧ t0.toInt = s13.toInt + 1) ∨ ((x1.toInt < 1 ∨ 999999 < x1.toInt ∨ x2.toInt < 1 ∨ 99 < x2.toInt ∨ 7 < s13.toInt) ∧ r.toInt = -1 ∧ t0.toInt = s13.toInt)) ∧ (CG (avw K H1 a0)) ∧ (TU (avw K H1 a0) (svw K H1 a0)) ∧ (WD (avw K H1 a0)) ∧ (IM (avw K H1 a0)) ∧ MF K H H1 a0 [0, 62] ∧ TY K G H1) := by
  refine MX.of (by decide +kernel) (Nat.le_of_ble_eq_true rfl) ?_
  intro p e s m below meth c ls Q C hH hl hQ
  subst hH
  have C : CX p K s m _ meth c RX10 cX10_note 3 (some .int) "note" := C
  obtain ⟨hx, hb, hml, hown, hts, hKT, hr, hlocks, hnm⟩ := id C
  have hl : lv_has ls 3 [(0, .ref a0), (1, .int x1), (2, .int x2)] := hl
  have hS : va_S (AE G [112, 156, 157] s.heap.size) s.heap s.heap [] := va_S.rf
  have n_m1 : ((-1) : Int32).toInt = -1 := rfl
  have n_0 : (0 : Int32).toInt = 0 := rfl
  have n_1 : (1 : Int32).toInt = 1 := rfl
  have n_8 : (8 : Int32).toInt = 8 := rfl
  have n_99 : (99 : Int32).toInt = 99 := rfl
  have n_999999 : (999999 : Int32).toInt = 999999 := rfl
  have bs13 := ty_fi (x := s13) (k := 62) es13 hT ga0 rg_112 rfl
  have hap : ∀ x y, x < 74 → y < 74 → x ≠ y → K.1.2 10 x ≠ K.1.2 10 y := x_apart hKT hts inX10 tyX10 tyX10_ok nmX10 rfl
  have mf0 : MF K s.heap s.heap a0 [0, 62] := fun _ _ _ => rfl
  refine lv_aload_n hx hb dX10_note_0 rfl (lv_at hl 0 rfl) ?_
  refine lv_iconst (v := 0) hx hb dX10_note_1 (by decide) ?_
  refine x_put C hT hS (ci := 10) (k := 0) (v := .int 0) (ty0 := tyX10) rfl inX10 tyX10_ok nmX10 (by decide) rfl wF_X10_167 ga0 rg_112 rfl rfl (okI (by have := i_rng (0 : Int32); omega) (by have := i_rng (0 : Int32); omega)) rfl rfl (AE_in ga0 (by decide)) dX10_note_2 (fun H357 locsH357 hTH357 hSH357 wH357 => ?_)
  have mf358 : MF K s.heap H357 a0 [0, 62] := MF.fld hap wH357 (by decide) (by decide) mf0
  have g359 : CG (avw K H357 a0) := CG.congr (fun k hk j => av_fld hT ga0 hap wH357 (by decide) (CG_ok 112 (by decide) k hk) (CG_ne 0 (by decide) k hk)) hg_CG
  have g360 : TU (avw K H357 a0) (svw K H357 a0) := TU.congr (fun k hk j => av_fld hT ga0 hap wH357 (by decide) (TU_ok 112 (by decide) k hk) (TU_ne 0 (by decide) k hk)) (fun k hk => sv_fld hap wH357 (by decide) (TU_slt k hk) (TU_sne 0 (by decide) k hk)) hg_TU
  have g361 : WD (avw K H357 a0) := WD.congr (fun k hk j => av_fld hT ga0 hap wH357 (by decide) (WD_ok 112 (by decide) k hk) (WD_ne 0 (by decide) k hk)) hg_WD
  have g362 : IM (avw K H357 a0) := IM.congr (fun k hk j => av_fld hT ga0 hap wH357 (by decide) (IM_ok 112 (by decide) k hk) (IM_ne 0 (by decide) k hk)) hg_IM
  have m363 := es13.trans (Wr.neI wH357 (Or.inr (x_apart hKT hts inX10 tyX10 tyX10_ok nmX10 rfl 62 0 (by decide) (by decide) (by decide)))).symm
  have m364 := Wr.I wH357
  refine lv_aload_n hx hb dX10_note_5 rfl (lv_at hl 0 rfl) ?_
  refine lv_iload_n hx hb dX10_note_6 rfl (lv_at hl 1 rfl) ?_
  refine lv_iconst (v := 1) hx hb dX10_note_7 (by decide) ?_
  refine lv_ldcw (v := 999999) hx hb hown (hts _ wK_X10_348) dX10_note_8 ?_
  refine x_V (As := [.int x1, .int 1, .int 999999]) (rest := []) C (c_X10_isIn l K G H357 (x1) (1) (999999) hTH357 ga0) yo_X10_isIn wM_X10_177 ⟨⟨by decide, by decide⟩, by decide, by decide⟩ (x_rv C hTH357 (ci := 10) rfl ga0 rg_112) rfl hl.1 rfl (Nat.le_of_ble_eq_true rfl) dX10_note_11 hSH357 (AE_sub (fun _ _ => rfl) (by decide) hSH357.1) (fun vH365 H365 locsH365 pH365 zH365 kH365 hSH365 => ?_)
  have hqH365 := pH365.1.symm
  subst hqH365
  rcases pH365.2 with ⟨hvH365, hcH365⟩ | ⟨hvH365, hcH365⟩
  · subst hvH365
    refine W.eq (g2 := F0 m 14 ls [.int 1]) rfl ?_
    refine lv_if_eq (tgt := 37) hx hb dX10_note_14 (by decide) (fun c366 => ?_) (fun c366 => ?_)
    · have k367 := i_eq c366
      exfalso
      omega
    · have k367 := i_ne c366
      refine lv_aload_n hx hb dX10_note_17 rfl (lv_at hl 0 rfl) ?_
      refine lv_iload_n hx hb dX10_note_18 rfl (lv_at hl 2 rfl) ?_
      refine lv_iconst (v := 1) hx hb dX10_note_19 (by decide) ?_
      refine lv_bipush (v := 99) hx hb dX10_note_20 (by decide) ?_
      refine x_V (As := [.int x2, .int 1, .int 99]) (rest := []) C (c_X10_isIn l K G H357 (x2) (1) (99) hTH357 ga0) yo_X10_isIn wM_X10_177 ⟨⟨by decide, by decide⟩, by decide, by decide⟩ (x_rv C hTH357 (ci := 10) rfl ga0 rg_112) rfl hl.1 rfl (Nat.le_of_ble_eq_true rfl) dX10_note_22 hSH365 (AE_sub (fun _ _ => rfl) (by decide) hSH365.1) (fun vH368 H368 locsH368 pH368 zH368 kH368 hSH368 => ?_)
      have hqH368 := pH368.1.symm
      subst hqH368
      rcases pH368.2 with ⟨hvH368, hcH368⟩ | ⟨hvH368, hcH368⟩
      · subst hvH368
        refine W.eq (g2 := F0 m 25 ls [.int 1]) rfl ?_
        refine lv_if_eq (tgt := 37) hx hb dX10_note_25 (by decide) (fun c369 => ?_) (fun c369 => ?_)
        · have k370 := i_eq c369
          exfalso
          omega
        · have k370 := i_ne c369
          refine lv_aload_n hx hb dX10_note_28 rfl (lv_at hl 0 rfl) ?_
          refine x_gi C hTH357 (ci := 10) (k := 62) rfl inX10 (by decide) wF_X10_455 ga0 rg_112 rfl dX10_note_29 (fun x371 ex371 bx371 => ?_)
          have ux371 : s13 = x371 := (m363).trans ex371.symm
          subst ux371
          refine lv_bipush (v := 8) hx hb dX10_note_32 (by decide) ?_
          refine lv_icmp_ne (tgt := 39) hx hb dX10_note_34 (by decide) (fun c372 => ?_) (fun c372 => ?_)
          · have k373 := i_ne c372
            refine lv_aload_n hx hb dX10_note_39 rfl (lv_at hl 0 rfl) ?_
            refine x_gr C hTH357 (ci := 10) (k := 63) rfl inX10 (by decide) wF_X10_146 ga0 rg_112 rfl dX10_note_40 (fun q374 eq374 gq374 => ?_)
            refine lv_aload_n hx hb dX10_note_43 rfl (lv_at hl 0 rfl) ?_
            refine x_gi C hTH357 (ci := 10) (k := 62) rfl inX10 (by decide) wF_X10_455 ga0 rg_112 rfl dX10_note_44 (fun x375 ex375 bx375 => ?_)
            have ux375 : s13 = x375 := (m363).trans ex375.symm
            subst ux375
            refine lv_iload_n hx hb dX10_note_47 rfl (lv_at hl 1 rfl) ?_
            refine x_iast C hTH357 hSH368 gq374 rg_156 (by omega) (by show _ < ((8 : Nat) : Int); omega) ⟨by have := i_rng x1; omega, by have := i_rng x1; omega⟩ (AE_in gq374 (by decide)) dX10_note_48 (fun H376 locsH376 hTH376 hSH376 wH376 => ?_)
            have mf377 : MF K s.heap H376 a0 [0, 62] := MF.arr wH376 (G_ne ga0 gq374 (by decide)) mf358
            have g378 : CG (avw K H376 a0) := CG.congr (fun k hk j => av_arr hTH357 ga0 wH376 gq374 (by decide) (CG_ok 156 (by decide) k hk)) g359
            have g379 : TU (avw K H376 a0) (svw K H376 a0) := TU.congr (fun k hk j => av_arr hTH357 ga0 wH376 gq374 (by decide) (TU_ok 156 (by decide) k hk)) (fun k hk => sv_arr ga0 wH376 gq374 (by decide)) g360
            have g380 : WD (avw K H376 a0) := WD.congr (fun k hk j => av_arr hTH357 ga0 wH376 gq374 (by decide) (WD_ok 156 (by decide) k hk)) g361
            have g381 : IM (avw K H376 a0) := IM.congr (fun k hk j => av_arr hTH357 ga0 wH376 gq374 (by decide) (IM_ok 156 (by decide) k hk)) g362
            have m382 := m363.trans (Wr.neI wH376 (Or.inl (G_ne ga0 gq374 (by decide)))).symm
            have m383 := (Wr.neI wH376 (Or.inl (G_ne ga0 gq374 (by decide)))).trans m364
            have m384 := eq374.trans (Wr.neR wH376 (Or.inl (G_ne ga0 gq374 (by decide)))).symm
            have m385 := Wr.I wH376
            have m385 := m385.symm
            refine lv_aload_n hx hb dX10_note_49 rfl (lv_at hl 0 rfl) ?_
            refine x_gr C hTH376 (ci := 10) (k := 64) rfl inX10 (by decide) wF_X10_149 ga0 rg_112 rfl dX10_note_50 (fun q386 eq386 gq386 => ?_)
            refine lv_aload_n hx hb dX10_note_53 rfl (lv_at hl 0 rfl) ?_
            refine x_gi C hTH376 (ci := 10) (k := 62) rfl inX10 (by decide) wF_X10_455 ga0 rg_112 rfl dX10_note_54 (fun x387 ex387 bx387 => ?_)
            have ux387 : s13 = x387 := (m382).trans ex387.symm
            subst ux387
            refine lv_iload_n hx hb dX10_note_57 rfl (lv_at hl 2 rfl) ?_
            refine x_iast C hTH376 hSH376 gq386 rg_157 (by omega) (by show _ < ((8 : Nat) : Int); omega) ⟨by have := i_rng x2; omega, by have := i_rng x2; omega⟩ (AE_in gq386 (by decide)) dX10_note_58 (fun H388 locsH388 hTH388 hSH388 wH388 => ?_)
            have mf389 : MF K s.heap H388 a0 [0, 62] := MF.arr wH388 (G_ne ga0 gq386 (by decide)) mf377
            have g390 : CG (avw K H388 a0) := CG.congr (fun k hk j => av_arr hTH376 ga0 wH388 gq386 (by decide) (CG_ok 157 (by decide) k hk)) g378
            have g391 : TU (avw K H388 a0) (svw K H388 a0) := TU.congr (fun k hk j => av_arr hTH376 ga0 wH388 gq386 (by decide) (TU_ok 157 (by decide) k hk)) (fun k hk => sv_arr ga0 wH388 gq386 (by decide)) g379
            have g392 : WD (avw K H388 a0) := WD.congr (fun k hk j => av_arr hTH376 ga0 wH388 gq386 (by decide) (WD_ok 157 (by decide) k hk)) g380
            have g393 : IM (avw K H388 a0) := IM.congr (fun k hk j => av_arr hTH376 ga0 wH388 gq386 (by decide) (IM_ok 157 (by decide) k hk)) g381
            have m394 := m382.trans (Wr.neI wH388 (Or.inl (G_ne ga0 gq386 (by decide)))).symm
            have m395 := (Wr.neI wH388 (Or.inl (G_ne ga0 gq386 (by decide)))).trans m383
            have m396 := m384.trans (Wr.neR wH388 (Or.inl (G_ne ga0 gq386 (by decide)))).symm
            have m397 := m385.trans (Wr.neI wH388 (Or.inl (G_ne gq374 gq386 (by decide)))).symm
            have m398 := eq386.trans (Wr.neR wH388 (Or.inl (G_ne ga0 gq386 (by decide)))).symm
            have m399 := Wr.I wH388
            have m399 := m399.symm
            refine lv_aload_n hx hb dX10_note_59 rfl (lv_at hl 0 rfl) ?_
            refine lv_aload_n hx hb dX10_note_60 rfl (lv_at hl 0 rfl) ?_
            refine x_gi C hTH388 (ci := 10) (k := 62) rfl inX10 (by decide) wF_X10_455 ga0 rg_112 rfl dX10_note_61 (fun x400 ex400 bx400 => ?_)
            have ux400 : s13 = x400 := (m394).trans ex400.symm
            subst ux400
            refine lv_iconst (v := 1) hx hb dX10_note_64 (by decide) ?_
            refine lv_iadd hx hb dX10_note_65 ?_
            refine lv_topi (fun x401 ex401 => ?_)
            have tx401 := i_add ex401 (by omega)
            refine x_put C hTH388 hSH388 (ci := 10) (k := 62) (v := .int x401) (ty0 := tyX10) rfl inX10 tyX10_ok nmX10 (by decide) rfl wF_X10_455 ga0 rg_112 rfl rfl (okI (by have := i_rng x401; omega) (by have := i_rng x401; omega)) rfl rfl (AE_in ga0 (by decide)) dX10_note_66 (fun H402 locsH402 hTH402 hSH402 wH402 => ?_)
            have mf403 : MF K s.heap H402 a0 [0, 62] := MF.fld hap wH402 (by decide) (by decide) mf389
            have g404 : CG (avw K H402 a0) := CG.congr (fun k hk j => av_fld hTH388 ga0 hap wH402 (by decide) (CG_ok 112 (by decide) k hk) (CG_ne 62 (by decide) k hk)) g390
            have g405 : TU (avw K H402 a0) (svw K H402 a0) := TU.congr (fun k hk j => av_fld hTH388 ga0 hap wH402 (by decide) (TU_ok 112 (by decide) k hk) (TU_ne 62 (by decide) k hk)) (fun k hk => sv_fld hap wH402 (by decide) (TU_slt k hk) (TU_sne 62 (by decide) k hk)) g391
            have g406 : WD (avw K H402 a0) := WD.congr (fun k hk j => av_fld hTH388 ga0 hap wH402 (by decide) (WD_ok 112 (by decide) k hk) (WD_ne 62 (by decide) k hk)) g392
            have g407 : IM (avw K H402 a0) := IM.congr (fun k hk j => av_fld hTH388 ga0 hap wH402 (by decide) (IM_ok 112 (by decide) k hk) (IM_ne 62 (by decide) k hk)) g393
            have m409 := (Wr.neI wH402 (Or.inr (x_apart hKT hts inX10 tyX10 tyX10_ok nmX10 rfl 0 62 (by decide) (by decide) (by decide)))).trans m395
            have m410 := m396.trans (Wr.neR wH402 (Or.inr (x_apart hKT hts inX10 tyX10 tyX10_ok nmX10 rfl 63 62 (by decide) (by decide) (by decide)))).symm
            have m411 := m397.trans (Wr.neI wH402 (Or.inl (G_ne gq374 ga0 (by decide)))).symm
            have m412 := m398.trans (Wr.neR wH402 (Or.inr (x_apart hKT hts inX10 tyX10 tyX10_ok nmX10 rfl 64 62 (by decide) (by decide) (by decide)))).symm
            have m413 := m399.trans (Wr.neI wH402 (Or.inl (G_ne gq386 ga0 (by decide)))).symm
            have m414 := Wr.I wH402
            have m414 := m414.symm
            refine lv_aload_n hx hb dX10_note_69 rfl (lv_at hl 0 rfl) ?_
            refine x_gi C hTH402 (ci := 10) (k := 62) rfl inX10 (by decide) wF_X10_455 ga0 rg_112 rfl dX10_note_70 (fun x415 ex415 bx415 => ?_)
            have ux415 : x401 = x415 := (m414).trans ex415.symm
            subst ux415
            refine lv_iconst (v := 1) hx hb dX10_note_73 (by decide) ?_
            refine lv_isub hx hb dX10_note_74 ?_
            refine lv_topi (fun x416 ex416 => ?_)
            have tx416 := i_sub ex416 (by omega)
            exact x_iret C hQ dX10_note_75 hSH402 (by decide) (by decide) (⟨x416, x401, rfl, m414, by omega, g404, g405, g406, g407, mf403, hTH402⟩)
          · have k373 := i_eq c372
            refine lv_iconst (v := (-1)) hx hb dX10_note_37 (by decide) ?_
            exact x_iret C hQ dX10_note_38 hSH368 (by decide) (by decide) (⟨(-1), s13, rfl, m363, by omega, g359, g360, g361, g362, mf358, hTH357⟩)
      · subst hvH368
        refine W.eq (g2 := F0 m 25 ls [.int 0]) rfl ?_
        refine lv_if_eq (tgt := 37) hx hb dX10_note_25 (by decide) (fun c417 => ?_) (fun c417 => ?_)
        · have k418 := i_eq c417
          refine lv_iconst (v := (-1)) hx hb dX10_note_37 (by decide) ?_
          exact x_iret C hQ dX10_note_38 hSH368 (by decide) (by decide) (⟨(-1), s13, rfl, m363, by omega, g359, g360, g361, g362, mf358, hTH357⟩)
        · have k418 := i_ne c417
          exfalso
          omega
  · subst hvH365
    refine W.eq (g2 := F0 m 14 ls [.int 0]) rfl ?_
    refine lv_if_eq (tgt := 37) hx hb dX10_note_14 (by decide) (fun c419 => ?_) (fun c419 => ?_)
    · have k420 := i_eq c419
      refine lv_iconst (v := (-1)) hx hb dX10_note_37 (by decide) ?_
      exact x_iret C hQ dX10_note_38 hSH365 (by decide) (by decide) (⟨(-1), s13, rfl, m363, by omega, g359, g360, g361, g362, mf358, hTH357⟩)
    · have k420 := i_ne c419
      exfalso
      omega

set_option maxHeartbeats 4000000 in
set_option maxRecDepth 100000 in
theorem a_X10_blank_r (l : Launch) (K : KE) (G : Nat → Option Nat) (H : Heap) {a0 : Nat} (x1 : Int32) (x2 : Int32) (s16 : Int32) (hT : TY K G H) (ga0 : G a0 = some 112) (es16 : s16 = fI H a0 (K.1.2 10 65)) (hg_CG : CG (avw K H a0)) (hg_TU : TU (avw K H a0) (svw K H a0)) (hg_WD : WD (avw K H a0)) (hg_IM : IM (avw K H a0)) : MX l K yX10_blank cX10_blank 3 (some .int) 1 23 0 0 [.ref a0, .int x1, .int x2] H (AE G [112, 158, 159] H.size) (fun v H1 => ∃ (r : Int32) (t0 : Int32), v = some (.int r) ∧ t0 = fI H1 a0 (K.1.2 10 65) ∧ ((1 ≤ x1.toInt ∧ x1.toInt ≤ 99 ∧ 0 ≤ x2.toInt ∧ x2.toInt ≤ 99 ∧ s16.toInt ≤ 7 ∧ r.toInt = s16.toInt ∧ t0.toInt = s16.toInt + 1) ∨ ((x1.toInt < 1 ∨ 99 < x1.toInt ∨ x2.toInt < 0 ∨ 99 < x2.toInt ∨ 7 < s16.toInt) ∧ r.toInt = -1 ∧ t0.toInt = s16.toInt)) ∧ (CG (avw K H1 a0)) ∧ (TU (avw K H1 a0) (svw K H1 a0)) ∧ (WD (avw K H1 a0)) ∧ (IM (avw K H1 a0)) ∧ MF K H H1 a0 [0, 65] ∧ TY K G H1) := by
  refine MX.of (by decide +kernel) (Nat.le_of_ble_eq_true rfl) ?_
  intro p e s m below meth c ls Q C hH hl hQ
  subst hH
  have C : CX p K s m _ meth c RX10 cX10_blank 3 (some .int) "blank" := C
  obtain ⟨hx, hb, hml, hown, hts, hKT, hr, hlocks, hnm⟩ := id C
  have hl : lv_has ls 3 [(0, .ref a0), (1, .int x1), (2, .int x2)] := hl
  have hS : va_S (AE G [112, 158, 159] s.heap.size) s.heap s.heap [] := va_S.rf
  have n_m1 : ((-1) : Int32).toInt = -1 := rfl
  have n_0 : (0 : Int32).toInt = 0 := rfl
  have n_1 : (1 : Int32).toInt = 1 := rfl
  have n_8 : (8 : Int32).toInt = 8 := rfl
  have n_99 : (99 : Int32).toInt = 99 := rfl
  have bs16 := ty_fi (x := s16) (k := 65) es16 hT ga0 rg_112 rfl
  have hap : ∀ x y, x < 74 → y < 74 → x ≠ y → K.1.2 10 x ≠ K.1.2 10 y := x_apart hKT hts inX10 tyX10 tyX10_ok nmX10 rfl
  have mf0 : MF K s.heap s.heap a0 [0, 65] := fun _ _ _ => rfl
  refine lv_aload_n hx hb dX10_blank_0 rfl (lv_at hl 0 rfl) ?_
  refine lv_iconst (v := 0) hx hb dX10_blank_1 (by decide) ?_
  refine x_put C hT hS (ci := 10) (k := 0) (v := .int 0) (ty0 := tyX10) rfl inX10 tyX10_ok nmX10 (by decide) rfl wF_X10_167 ga0 rg_112 rfl rfl (okI (by have := i_rng (0 : Int32); omega) (by have := i_rng (0 : Int32); omega)) rfl rfl (AE_in ga0 (by decide)) dX10_blank_2 (fun H357 locsH357 hTH357 hSH357 wH357 => ?_)
  have mf358 : MF K s.heap H357 a0 [0, 65] := MF.fld hap wH357 (by decide) (by decide) mf0
  have g359 : CG (avw K H357 a0) := CG.congr (fun k hk j => av_fld hT ga0 hap wH357 (by decide) (CG_ok 112 (by decide) k hk) (CG_ne 0 (by decide) k hk)) hg_CG
  have g360 : TU (avw K H357 a0) (svw K H357 a0) := TU.congr (fun k hk j => av_fld hT ga0 hap wH357 (by decide) (TU_ok 112 (by decide) k hk) (TU_ne 0 (by decide) k hk)) (fun k hk => sv_fld hap wH357 (by decide) (TU_slt k hk) (TU_sne 0 (by decide) k hk)) hg_TU
  have g361 : WD (avw K H357 a0) := WD.congr (fun k hk j => av_fld hT ga0 hap wH357 (by decide) (WD_ok 112 (by decide) k hk) (WD_ne 0 (by decide) k hk)) hg_WD
  have g362 : IM (avw K H357 a0) := IM.congr (fun k hk j => av_fld hT ga0 hap wH357 (by decide) (IM_ok 112 (by decide) k hk) (IM_ne 0 (by decide) k hk)) hg_IM
  have m363 := es16.trans (Wr.neI wH357 (Or.inr (x_apart hKT hts inX10 tyX10 tyX10_ok nmX10 rfl 65 0 (by decide) (by decide) (by decide)))).symm
  have m364 := Wr.I wH357
  refine lv_aload_n hx hb dX10_blank_5 rfl (lv_at hl 0 rfl) ?_
  refine lv_iload_n hx hb dX10_blank_6 rfl (lv_at hl 1 rfl) ?_
  refine lv_iconst (v := 1) hx hb dX10_blank_7 (by decide) ?_
  refine lv_bipush (v := 99) hx hb dX10_blank_8 (by decide) ?_
  refine x_V (As := [.int x1, .int 1, .int 99]) (rest := []) C (c_X10_isIn l K G H357 (x1) (1) (99) hTH357 ga0) yo_X10_isIn wM_X10_177 ⟨⟨by decide, by decide⟩, by decide, by decide⟩ (x_rv C hTH357 (ci := 10) rfl ga0 rg_112) rfl hl.1 rfl (Nat.le_of_ble_eq_true rfl) dX10_blank_10 hSH357 (AE_sub (fun _ _ => rfl) (by decide) hSH357.1) (fun vH365 H365 locsH365 pH365 zH365 kH365 hSH365 => ?_)
  have hqH365 := pH365.1.symm
  subst hqH365
  rcases pH365.2 with ⟨hvH365, hcH365⟩ | ⟨hvH365, hcH365⟩
  · subst hvH365
    refine W.eq (g2 := F0 m 13 ls [.int 1]) rfl ?_
    refine lv_if_eq (tgt := 36) hx hb dX10_blank_13 (by decide) (fun c366 => ?_) (fun c366 => ?_)
    · have k367 := i_eq c366
      exfalso
      omega
    · have k367 := i_ne c366
      refine lv_aload_n hx hb dX10_blank_16 rfl (lv_at hl 0 rfl) ?_
      refine lv_iload_n hx hb dX10_blank_17 rfl (lv_at hl 2 rfl) ?_
      refine lv_iconst (v := 0) hx hb dX10_blank_18 (by decide) ?_
      refine lv_bipush (v := 99) hx hb dX10_blank_19 (by decide) ?_
      refine x_V (As := [.int x2, .int 0, .int 99]) (rest := []) C (c_X10_isIn l K G H357 (x2) (0) (99) hTH357 ga0) yo_X10_isIn wM_X10_177 ⟨⟨by decide, by decide⟩, by decide, by decide⟩ (x_rv C hTH357 (ci := 10) rfl ga0 rg_112) rfl hl.1 rfl (Nat.le_of_ble_eq_true rfl) dX10_blank_21 hSH365 (AE_sub (fun _ _ => rfl) (by decide) hSH365.1) (fun vH368 H368 locsH368 pH368 zH368 kH368 hSH368 => ?_)
      have hqH368 := pH368.1.symm
      subst hqH368
      rcases pH368.2 with ⟨hvH368, hcH368⟩ | ⟨hvH368, hcH368⟩
      · subst hvH368
        refine W.eq (g2 := F0 m 24 ls [.int 1]) rfl ?_
        refine lv_if_eq (tgt := 36) hx hb dX10_blank_24 (by decide) (fun c369 => ?_) (fun c369 => ?_)
        · have k370 := i_eq c369
          exfalso
          omega
        · have k370 := i_ne c369
          refine lv_aload_n hx hb dX10_blank_27 rfl (lv_at hl 0 rfl) ?_
          refine x_gi C hTH357 (ci := 10) (k := 65) rfl inX10 (by decide) wF_X10_458 ga0 rg_112 rfl dX10_blank_28 (fun x371 ex371 bx371 => ?_)
          have ux371 : s16 = x371 := (m363).trans ex371.symm
          subst ux371
          refine lv_bipush (v := 8) hx hb dX10_blank_31 (by decide) ?_
          refine lv_icmp_ne (tgt := 38) hx hb dX10_blank_33 (by decide) (fun c372 => ?_) (fun c372 => ?_)
          · have k373 := i_ne c372
            refine lv_aload_n hx hb dX10_blank_38 rfl (lv_at hl 0 rfl) ?_
            refine x_gr C hTH357 (ci := 10) (k := 66) rfl inX10 (by decide) wF_X10_152 ga0 rg_112 rfl dX10_blank_39 (fun q374 eq374 gq374 => ?_)
            refine lv_aload_n hx hb dX10_blank_42 rfl (lv_at hl 0 rfl) ?_
            refine x_gi C hTH357 (ci := 10) (k := 65) rfl inX10 (by decide) wF_X10_458 ga0 rg_112 rfl dX10_blank_43 (fun x375 ex375 bx375 => ?_)
            have ux375 : s16 = x375 := (m363).trans ex375.symm
            subst ux375
            refine lv_iload_n hx hb dX10_blank_46 rfl (lv_at hl 1 rfl) ?_
            refine x_iast C hTH357 hSH368 gq374 rg_158 (by omega) (by show _ < ((8 : Nat) : Int); omega) ⟨by have := i_rng x1; omega, by have := i_rng x1; omega⟩ (AE_in gq374 (by decide)) dX10_blank_47 (fun H376 locsH376 hTH376 hSH376 wH376 => ?_)
            have mf377 : MF K s.heap H376 a0 [0, 65] := MF.arr wH376 (G_ne ga0 gq374 (by decide)) mf358
            have g378 : CG (avw K H376 a0) := CG.congr (fun k hk j => av_arr hTH357 ga0 wH376 gq374 (by decide) (CG_ok 158 (by decide) k hk)) g359
            have g379 : TU (avw K H376 a0) (svw K H376 a0) := TU.congr (fun k hk j => av_arr hTH357 ga0 wH376 gq374 (by decide) (TU_ok 158 (by decide) k hk)) (fun k hk => sv_arr ga0 wH376 gq374 (by decide)) g360
            have g380 : WD (avw K H376 a0) := WD.congr (fun k hk j => av_arr hTH357 ga0 wH376 gq374 (by decide) (WD_ok 158 (by decide) k hk)) g361
            have g381 : IM (avw K H376 a0) := IM.congr (fun k hk j => av_arr hTH357 ga0 wH376 gq374 (by decide) (IM_ok 158 (by decide) k hk)) g362
            have m382 := m363.trans (Wr.neI wH376 (Or.inl (G_ne ga0 gq374 (by decide)))).symm
            have m383 := (Wr.neI wH376 (Or.inl (G_ne ga0 gq374 (by decide)))).trans m364
            have m384 := eq374.trans (Wr.neR wH376 (Or.inl (G_ne ga0 gq374 (by decide)))).symm
            have m385 := Wr.I wH376
            have m385 := m385.symm
            refine lv_aload_n hx hb dX10_blank_48 rfl (lv_at hl 0 rfl) ?_
            refine x_gr C hTH376 (ci := 10) (k := 67) rfl inX10 (by decide) wF_X10_155 ga0 rg_112 rfl dX10_blank_49 (fun q386 eq386 gq386 => ?_)
            refine lv_aload_n hx hb dX10_blank_52 rfl (lv_at hl 0 rfl) ?_
            refine x_gi C hTH376 (ci := 10) (k := 65) rfl inX10 (by decide) wF_X10_458 ga0 rg_112 rfl dX10_blank_53 (fun x387 ex387 bx387 => ?_)
            have ux387 : s16 = x387 := (m382).trans ex387.symm
            subst ux387
            refine lv_iload_n hx hb dX10_blank_56 rfl (lv_at hl 2 rfl) ?_
            refine x_iast C hTH376 hSH376 gq386 rg_159 (by omega) (by show _ < ((8 : Nat) : Int); omega) ⟨by have := i_rng x2; omega, by have := i_rng x2; omega⟩ (AE_in gq386 (by decide)) dX10_blank_57 (fun H388 locsH388 hTH388 hSH388 wH388 => ?_)
            have mf389 : MF K s.heap H388 a0 [0, 65] := MF.arr wH388 (G_ne ga0 gq386 (by decide)) mf377
            have g390 : CG (avw K H388 a0) := CG.congr (fun k hk j => av_arr hTH376 ga0 wH388 gq386 (by decide) (CG_ok 159 (by decide) k hk)) g378
            have g391 : TU (avw K H388 a0) (svw K H388 a0) := TU.congr (fun k hk j => av_arr hTH376 ga0 wH388 gq386 (by decide) (TU_ok 159 (by decide) k hk)) (fun k hk => sv_arr ga0 wH388 gq386 (by decide)) g379
            have g392 : WD (avw K H388 a0) := WD.congr (fun k hk j => av_arr hTH376 ga0 wH388 gq386 (by decide) (WD_ok 159 (by decide) k hk)) g380
            have g393 : IM (avw K H388 a0) := IM.congr (fun k hk j => av_arr hTH376 ga0 wH388 gq386 (by decide) (IM_ok 159 (by decide) k hk)) g381
            have m394 := m382.trans (Wr.neI wH388 (Or.inl (G_ne ga0 gq386 (by decide)))).symm
            have m395 := (Wr.neI wH388 (Or.inl (G_ne ga0 gq386 (by decide)))).trans m383
            have m396 := m384.trans (Wr.neR wH388 (Or.inl (G_ne ga0 gq386 (by decide)))).symm
            have m397 := m385.trans (Wr.neI wH388 (Or.inl (G_ne gq374 gq386 (by decide)))).symm
            have m398 := eq386.trans (Wr.neR wH388 (Or.inl (G_ne ga0 gq386 (by decide)))).symm
            have m399 := Wr.I wH388
            have m399 := m399.symm
            refine lv_aload_n hx hb dX10_blank_58 rfl (lv_at hl 0 rfl) ?_
            refine lv_aload_n hx hb dX10_blank_59 rfl (lv_at hl 0 rfl) ?_
            refine x_gi C hTH388 (ci := 10) (k := 65) rfl inX10 (by decide) wF_X10_458 ga0 rg_112 rfl dX10_blank_60 (fun x400 ex400 bx400 => ?_)
            have ux400 : s16 = x400 := (m394).trans ex400.symm
            subst ux400
            refine lv_iconst (v := 1) hx hb dX10_blank_63 (by decide) ?_
            refine lv_iadd hx hb dX10_blank_64 ?_
            refine lv_topi (fun x401 ex401 => ?_)
            have tx401 := i_add ex401 (by omega)
            refine x_put C hTH388 hSH388 (ci := 10) (k := 65) (v := .int x401) (ty0 := tyX10) rfl inX10 tyX10_ok nmX10 (by decide) rfl wF_X10_458 ga0 rg_112 rfl rfl (okI (by have := i_rng x401; omega) (by have := i_rng x401; omega)) rfl rfl (AE_in ga0 (by decide)) dX10_blank_65 (fun H402 locsH402 hTH402 hSH402 wH402 => ?_)
            have mf403 : MF K s.heap H402 a0 [0, 65] := MF.fld hap wH402 (by decide) (by decide) mf389
            have g404 : CG (avw K H402 a0) := CG.congr (fun k hk j => av_fld hTH388 ga0 hap wH402 (by decide) (CG_ok 112 (by decide) k hk) (CG_ne 65 (by decide) k hk)) g390
            have g405 : TU (avw K H402 a0) (svw K H402 a0) := TU.congr (fun k hk j => av_fld hTH388 ga0 hap wH402 (by decide) (TU_ok 112 (by decide) k hk) (TU_ne 65 (by decide) k hk)) (fun k hk => sv_fld hap wH402 (by decide) (TU_slt k hk) (TU_sne 65 (by decide) k hk)) g391
            have g406 : WD (avw K H402 a0) := WD.congr (fun k hk j => av_fld hTH388 ga0 hap wH402 (by decide) (WD_ok 112 (by decide) k hk) (WD_ne 65 (by decide) k hk)) g392
            have g407 : IM (avw K H402 a0) := IM.congr (fun k hk j => av_fld hTH388 ga0 hap wH402 (by decide) (IM_ok 112 (by decide) k hk) (IM_ne 65 (by decide) k hk)) g393
            have m409 := (Wr.neI wH402 (Or.inr (x_apart hKT hts inX10 tyX10 tyX10_ok nmX10 rfl 0 65 (by decide) (by decide) (by decide)))).trans m395
            have m410 := m396.trans (Wr.neR wH402 (Or.inr (x_apart hKT hts inX10 tyX10 tyX10_ok nmX10 rfl 66 65 (by decide) (by decide) (by decide)))).symm
            have m411 := m397.trans (Wr.neI wH402 (Or.inl (G_ne gq374 ga0 (by decide)))).symm
            have m412 := m398.trans (Wr.neR wH402 (Or.inr (x_apart hKT hts inX10 tyX10 tyX10_ok nmX10 rfl 67 65 (by decide) (by decide) (by decide)))).symm
            have m413 := m399.trans (Wr.neI wH402 (Or.inl (G_ne gq386 ga0 (by decide)))).symm
            have m414 := Wr.I wH402
            have m414 := m414.symm
            refine lv_aload_n hx hb dX10_blank_68 rfl (lv_at hl 0 rfl) ?_
            refine x_gi C hTH402 (ci := 10) (k := 65) rfl inX10 (by decide) wF_X10_458 ga0 rg_112 rfl dX10_blank_69 (fun x415 ex415 bx415 => ?_)
            have ux415 : x401 = x415 := (m414).trans ex415.symm
            subst ux415
            refine lv_iconst (v := 1) hx hb dX10_blank_72 (by decide) ?_
            refine lv_isub hx hb dX10_blank_73 ?_
            refine lv_topi (fun x416 ex416 => ?_)
            have tx416 := i_sub ex416 (by omega)
            exact x_iret C hQ dX10_blank_74 hSH402 (by decide) (by decide) (⟨x416, x401, rfl, m414, by omega, g404, g405, g406, g407, mf403, hTH402⟩)
          · have k373 := i_eq c372
            refine lv_iconst (v := (-1)) hx hb dX10_blank_36 (by decide) ?_
            exact x_iret C hQ dX10_blank_37 hSH368 (by decide) (by decide) (⟨(-1), s16, rfl, m363, by omega, g359, g360, g361, g362, mf358, hTH357⟩)
      · subst hvH368
        refine W.eq (g2 := F0 m 24 ls [.int 0]) rfl ?_
        refine lv_if_eq (tgt := 36) hx hb dX10_blank_24 (by decide) (fun c417 => ?_) (fun c417 => ?_)
        · have k418 := i_eq c417
          refine lv_iconst (v := (-1)) hx hb dX10_blank_36 (by decide) ?_
          exact x_iret C hQ dX10_blank_37 hSH368 (by decide) (by decide) (⟨(-1), s16, rfl, m363, by omega, g359, g360, g361, g362, mf358, hTH357⟩)
        · have k418 := i_ne c417
          exfalso
          omega
  · subst hvH365
    refine W.eq (g2 := F0 m 13 ls [.int 0]) rfl ?_
    refine lv_if_eq (tgt := 36) hx hb dX10_blank_13 (by decide) (fun c419 => ?_) (fun c419 => ?_)
    · have k420 := i_eq c419
      refine lv_iconst (v := (-1)) hx hb dX10_blank_36 (by decide) ?_
      exact x_iret C hQ dX10_blank_37 hSH365 (by decide) (by decide) (⟨(-1), s16, rfl, m363, by omega, g359, g360, g361, g362, mf358, hTH357⟩)
    · have k420 := i_ne c419
      exfalso
      omega

set_option maxHeartbeats 4000000 in
set_option maxRecDepth 100000 in
theorem a_X10_force_r (l : Launch) (K : KE) (G : Nat → Option Nat) (H : Heap) {a0 : Nat} (x1 : Int32) (s4 : Int32) (hT : TY K G H) (ga0 : G a0 = some 112) (es4 : s4 = fI H a0 (K.1.2 10 2)) (hg_CG : CG (avw K H a0)) (hg_TU : TU (avw K H a0) (svw K H a0)) (hg_WD : WD (avw K H a0)) (hg_IM : IM (avw K H a0)) : MX l K yX10_force cX10_force 3 (some .int) 1 21 0 0 [.ref a0, .int x1] H (AE G [112] H.size) (fun v H1 => ∃ (r : Int32) (t0 : Int32), v = some (.int r) ∧ t0 = fI H1 a0 (K.1.2 10 2) ∧ ((0 ≤ x1.toInt ∧ x1.toInt ≤ 1 ∧ r.toInt = s4.toInt ∧ t0.toInt = x1.toInt) ∨ ((x1.toInt < 0 ∨ 1 < x1.toInt) ∧ r.toInt = -1 ∧ t0.toInt = s4.toInt)) ∧ (CG (avw K H1 a0)) ∧ (TU (avw K H1 a0) (svw K H1 a0)) ∧ (WD (avw K H1 a0)) ∧ (IM (avw K H1 a0)) ∧ MF K H H1 a0 [0, 2] ∧ TY K G H1) := by
  refine MX.of (by decide +kernel) (Nat.le_of_ble_eq_true rfl) ?_
  intro p e s m below meth c ls Q C hH hl hQ
  subst hH
  have C : CX p K s m _ meth c RX10 cX10_force 3 (some .int) "force" := C
  obtain ⟨hx, hb, hml, hown, hts, hKT, hr, hlocks, hnm⟩ := id C
  have hl : lv_has ls 3 [(0, .ref a0), (1, .int x1)] := hl
  have hS : va_S (AE G [112] s.heap.size) s.heap s.heap [] := va_S.rf
  have n_m1 : ((-1) : Int32).toInt = -1 := rfl
  have n_0 : (0 : Int32).toInt = 0 := rfl
  have n_1 : (1 : Int32).toInt = 1 := rfl
  have bs4 := ty_fi (x := s4) (k := 2) es4 hT ga0 rg_112 rfl
  have hap : ∀ x y, x < 74 → y < 74 → x ≠ y → K.1.2 10 x ≠ K.1.2 10 y := x_apart hKT hts inX10 tyX10 tyX10_ok nmX10 rfl
  have mf0 : MF K s.heap s.heap a0 [0, 2] := fun _ _ _ => rfl
  refine lv_aload_n hx hb dX10_force_0 rfl (lv_at hl 0 rfl) ?_
  refine lv_iconst (v := 0) hx hb dX10_force_1 (by decide) ?_
  refine x_put C hT hS (ci := 10) (k := 0) (v := .int 0) (ty0 := tyX10) rfl inX10 tyX10_ok nmX10 (by decide) rfl wF_X10_167 ga0 rg_112 rfl rfl (okI (by have := i_rng (0 : Int32); omega) (by have := i_rng (0 : Int32); omega)) rfl rfl (AE_in ga0 (by decide)) dX10_force_2 (fun H201 locsH201 hTH201 hSH201 wH201 => ?_)
  have mf202 : MF K s.heap H201 a0 [0, 2] := MF.fld hap wH201 (by decide) (by decide) mf0
  have g203 : CG (avw K H201 a0) := CG.congr (fun k hk j => av_fld hT ga0 hap wH201 (by decide) (CG_ok 112 (by decide) k hk) (CG_ne 0 (by decide) k hk)) hg_CG
  have g204 : TU (avw K H201 a0) (svw K H201 a0) := TU.congr (fun k hk j => av_fld hT ga0 hap wH201 (by decide) (TU_ok 112 (by decide) k hk) (TU_ne 0 (by decide) k hk)) (fun k hk => sv_fld hap wH201 (by decide) (TU_slt k hk) (TU_sne 0 (by decide) k hk)) hg_TU
  have g205 : WD (avw K H201 a0) := WD.congr (fun k hk j => av_fld hT ga0 hap wH201 (by decide) (WD_ok 112 (by decide) k hk) (WD_ne 0 (by decide) k hk)) hg_WD
  have g206 : IM (avw K H201 a0) := IM.congr (fun k hk j => av_fld hT ga0 hap wH201 (by decide) (IM_ok 112 (by decide) k hk) (IM_ne 0 (by decide) k hk)) hg_IM
  have m207 := es4.trans (Wr.neI wH201 (Or.inr (x_apart hKT hts inX10 tyX10 tyX10_ok nmX10 rfl 2 0 (by decide) (by decide) (by decide)))).symm
  have m208 := Wr.I wH201
  refine lv_aload_n hx hb dX10_force_5 rfl (lv_at hl 0 rfl) ?_
  refine lv_iload_n hx hb dX10_force_6 rfl (lv_at hl 1 rfl) ?_
  refine x_V (As := [.int x1]) (rest := []) C (c_X10_isLaw l K G H201 (x1) hTH201 ga0) yo_X10_isLaw wM_X10_328 ⟨⟨by decide, by decide⟩, by decide, by decide⟩ (x_rv C hTH201 (ci := 10) rfl ga0 rg_112) rfl hl.1 rfl (Nat.le_of_ble_eq_true rfl) dX10_force_7 hSH201 (AE_sub (fun _ _ => rfl) (by decide) hSH201.1) (fun vH209 H209 locsH209 pH209 zH209 kH209 hSH209 => ?_)
  have hqH209 := pH209.1.symm
  subst hqH209
  rcases pH209.2 with ⟨hvH209, hcH209⟩ | ⟨hvH209, hcH209⟩
  · subst hvH209
    refine W.eq (g2 := F0 m 10 ls [.int 1]) rfl ?_
    refine lv_if_ne (tgt := 15) hx hb dX10_force_10 (by decide) (fun c210 => ?_) (fun c210 => ?_)
    · have k211 := i_ne c210
      refine lv_aload_n hx hb dX10_force_15 rfl (lv_at hl 0 rfl) ?_
      refine x_gi C hTH201 (ci := 10) (k := 2) rfl inX10 (by decide) wF_X10_322 ga0 rg_112 rfl dX10_force_16 (fun x212 ex212 bx212 => ?_)
      have ux212 : s4 = x212 := (m207).trans ex212.symm
      subst ux212
      refine lv_istore_n (lv' := [(2, .int s4), (0, .ref a0), (1, .int x1)]) hx hb dX10_force_19 rfl hl (by decide) rfl (fun ls213 hl214 => ?_)
      refine lv_aload_n hx hb dX10_force_20 rfl (lv_at hl214 1 rfl) ?_
      refine lv_iload_n hx hb dX10_force_21 rfl (lv_at hl214 2 rfl) ?_
      refine x_put C hTH201 hSH209 (ci := 10) (k := 2) (v := .int x1) (ty0 := tyX10) rfl inX10 tyX10_ok nmX10 (by decide) rfl wF_X10_322 ga0 rg_112 rfl rfl (okI (by have := i_rng x1; omega) (by have := i_rng x1; omega)) rfl rfl (AE_in ga0 (by decide)) dX10_force_22 (fun H215 locsH215 hTH215 hSH215 wH215 => ?_)
      have mf216 : MF K s.heap H215 a0 [0, 2] := MF.fld hap wH215 (by decide) (by decide) mf202
      have g217 : CG (avw K H215 a0) := CG.congr (fun k hk j => av_fld hTH201 ga0 hap wH215 (by decide) (CG_ok 112 (by decide) k hk) (CG_ne 2 (by decide) k hk)) g203
      have g218 : TU (avw K H215 a0) (svw K H215 a0) := TU.congr (fun k hk j => av_fld hTH201 ga0 hap wH215 (by decide) (TU_ok 112 (by decide) k hk) (TU_ne 2 (by decide) k hk)) (fun k hk => sv_fld hap wH215 (by decide) (TU_slt k hk) (TU_sne 2 (by decide) k hk)) g204
      have g219 : WD (avw K H215 a0) := WD.congr (fun k hk j => av_fld hTH201 ga0 hap wH215 (by decide) (WD_ok 112 (by decide) k hk) (WD_ne 2 (by decide) k hk)) g205
      have g220 : IM (avw K H215 a0) := IM.congr (fun k hk j => av_fld hTH201 ga0 hap wH215 (by decide) (IM_ok 112 (by decide) k hk) (IM_ne 2 (by decide) k hk)) g206
      have m222 := (Wr.neI wH215 (Or.inr (x_apart hKT hts inX10 tyX10 tyX10_ok nmX10 rfl 0 2 (by decide) (by decide) (by decide)))).trans m208
      have m223 := Wr.I wH215
      have m223 := m223.symm
      refine lv_iload_n hx hb dX10_force_25 rfl (lv_at hl214 0 rfl) ?_
      exact x_iret C hQ dX10_force_26 hSH215 (by decide) (by decide) (⟨s4, x1, rfl, m223, by omega, g217, g218, g219, g220, mf216, hTH215⟩)
    · have k211 := i_eq c210
      exfalso
      omega
  · subst hvH209
    refine W.eq (g2 := F0 m 10 ls [.int 0]) rfl ?_
    refine lv_if_ne (tgt := 15) hx hb dX10_force_10 (by decide) (fun c224 => ?_) (fun c224 => ?_)
    · have k225 := i_ne c224
      exfalso
      omega
    · have k225 := i_eq c224
      refine lv_iconst (v := (-1)) hx hb dX10_force_13 (by decide) ?_
      exact x_iret C hQ dX10_force_14 hSH209 (by decide) (by decide) (⟨(-1), s4, rfl, m207, by omega, g203, g204, g205, g206, mf202, hTH201⟩)

set_option maxHeartbeats 4000000 in
set_option maxRecDepth 100000 in
theorem a_X10_slack_r (l : Launch) (K : KE) (G : Nat → Option Nat) (H : Heap) {a0 : Nat} (x1 : Int32) (s5 : Int32) (hT : TY K G H) (ga0 : G a0 = some 112) (es5 : s5 = fI H a0 (K.1.2 10 3)) (hg_CG : CG (avw K H a0)) (hg_TU : TU (avw K H a0) (svw K H a0)) (hg_WD : WD (avw K H a0)) (hg_IM : IM (avw K H a0)) : MX l K yX10_slack cX10_slack 2 (some .boolean) 1 23 0 0 [.ref a0, .int x1] H (AE G [112] H.size) (fun v H1 => ∃ (r : Int32) (t0 : Int32), v = some (.int r) ∧ t0 = fI H1 a0 (K.1.2 10 3) ∧ ((0 ≤ x1.toInt ∧ x1.toInt ≤ 9999 ∧ r.toInt = 1 ∧ t0.toInt = x1.toInt) ∨ ((x1.toInt < 0 ∨ 9999 < x1.toInt) ∧ r.toInt = 0 ∧ t0.toInt = s5.toInt)) ∧ (CG (avw K H1 a0)) ∧ (TU (avw K H1 a0) (svw K H1 a0)) ∧ (WD (avw K H1 a0)) ∧ (IM (avw K H1 a0)) ∧ MF K H H1 a0 [0, 3] ∧ TY K G H1) := by
  refine MX.of (by decide +kernel) (Nat.le_of_ble_eq_true rfl) ?_
  intro p e s m below meth c ls Q C hH hl hQ
  subst hH
  have C : CX p K s m _ meth c RX10 cX10_slack 2 (some .boolean) "slack" := C
  obtain ⟨hx, hb, hml, hown, hts, hKT, hr, hlocks, hnm⟩ := id C
  have hl : lv_has ls 2 [(0, .ref a0), (1, .int x1)] := hl
  have hS : va_S (AE G [112] s.heap.size) s.heap s.heap [] := va_S.rf
  have n_0 : (0 : Int32).toInt = 0 := rfl
  have n_1 : (1 : Int32).toInt = 1 := rfl
  have n_9999 : (9999 : Int32).toInt = 9999 := rfl
  have bs5 := ty_fi (x := s5) (k := 3) es5 hT ga0 rg_112 rfl
  have hap : ∀ x y, x < 74 → y < 74 → x ≠ y → K.1.2 10 x ≠ K.1.2 10 y := x_apart hKT hts inX10 tyX10 tyX10_ok nmX10 rfl
  have mf0 : MF K s.heap s.heap a0 [0, 3] := fun _ _ _ => rfl
  refine lv_aload_n hx hb dX10_slack_0 rfl (lv_at hl 0 rfl) ?_
  refine lv_iconst (v := 0) hx hb dX10_slack_1 (by decide) ?_
  refine x_put C hT hS (ci := 10) (k := 0) (v := .int 0) (ty0 := tyX10) rfl inX10 tyX10_ok nmX10 (by decide) rfl wF_X10_167 ga0 rg_112 rfl rfl (okI (by have := i_rng (0 : Int32); omega) (by have := i_rng (0 : Int32); omega)) rfl rfl (AE_in ga0 (by decide)) dX10_slack_2 (fun H189 locsH189 hTH189 hSH189 wH189 => ?_)
  have mf190 : MF K s.heap H189 a0 [0, 3] := MF.fld hap wH189 (by decide) (by decide) mf0
  have g191 : CG (avw K H189 a0) := CG.congr (fun k hk j => av_fld hT ga0 hap wH189 (by decide) (CG_ok 112 (by decide) k hk) (CG_ne 0 (by decide) k hk)) hg_CG
  have g192 : TU (avw K H189 a0) (svw K H189 a0) := TU.congr (fun k hk j => av_fld hT ga0 hap wH189 (by decide) (TU_ok 112 (by decide) k hk) (TU_ne 0 (by decide) k hk)) (fun k hk => sv_fld hap wH189 (by decide) (TU_slt k hk) (TU_sne 0 (by decide) k hk)) hg_TU
  have g193 : WD (avw K H189 a0) := WD.congr (fun k hk j => av_fld hT ga0 hap wH189 (by decide) (WD_ok 112 (by decide) k hk) (WD_ne 0 (by decide) k hk)) hg_WD
  have g194 : IM (avw K H189 a0) := IM.congr (fun k hk j => av_fld hT ga0 hap wH189 (by decide) (IM_ok 112 (by decide) k hk) (IM_ne 0 (by decide) k hk)) hg_IM
  have m195 := es5.trans (Wr.neI wH189 (Or.inr (x_apart hKT hts inX10 tyX10 tyX10_ok nmX10 rfl 3 0 (by decide) (by decide) (by decide)))).symm
  have m196 := Wr.I wH189
  refine lv_aload_n hx hb dX10_slack_5 rfl (lv_at hl 0 rfl) ?_
  refine lv_iload_n hx hb dX10_slack_6 rfl (lv_at hl 1 rfl) ?_
  refine lv_iconst (v := 0) hx hb dX10_slack_7 (by decide) ?_
  refine lv_sipush (v := 9999) hx hb dX10_slack_8 (by decide) ?_
  refine x_V (As := [.int x1, .int 0, .int 9999]) (rest := []) C (c_X10_isIn l K G H189 (x1) (0) (9999) hTH189 ga0) yo_X10_isIn wM_X10_177 ⟨⟨by decide, by decide⟩, by decide, by decide⟩ (x_rv C hTH189 (ci := 10) rfl ga0 rg_112) rfl hl.1 rfl (Nat.le_of_ble_eq_true rfl) dX10_slack_11 hSH189 (AE_sub (fun _ _ => rfl) (by decide) hSH189.1) (fun vH197 H197 locsH197 pH197 zH197 kH197 hSH197 => ?_)
  have hqH197 := pH197.1.symm
  subst hqH197
  rcases pH197.2 with ⟨hvH197, hcH197⟩ | ⟨hvH197, hcH197⟩
  · subst hvH197
    refine W.eq (g2 := F0 m 14 ls [.int 1]) rfl ?_
    refine lv_if_ne (tgt := 19) hx hb dX10_slack_14 (by decide) (fun c198 => ?_) (fun c198 => ?_)
    · have k199 := i_ne c198
      refine lv_aload_n hx hb dX10_slack_19 rfl (lv_at hl 0 rfl) ?_
      refine lv_iload_n hx hb dX10_slack_20 rfl (lv_at hl 1 rfl) ?_
      refine x_put C hTH189 hSH197 (ci := 10) (k := 3) (v := .int x1) (ty0 := tyX10) rfl inX10 tyX10_ok nmX10 (by decide) rfl wF_X10_7 ga0 rg_112 rfl rfl (okI (by have := i_rng x1; omega) (by have := i_rng x1; omega)) rfl rfl (AE_in ga0 (by decide)) dX10_slack_21 (fun H200 locsH200 hTH200 hSH200 wH200 => ?_)
      have mf201 : MF K s.heap H200 a0 [0, 3] := MF.fld hap wH200 (by decide) (by decide) mf190
      have g202 : CG (avw K H200 a0) := CG.congr (fun k hk j => av_fld hTH189 ga0 hap wH200 (by decide) (CG_ok 112 (by decide) k hk) (CG_ne 3 (by decide) k hk)) g191
      have g203 : TU (avw K H200 a0) (svw K H200 a0) := TU.congr (fun k hk j => av_fld hTH189 ga0 hap wH200 (by decide) (TU_ok 112 (by decide) k hk) (TU_ne 3 (by decide) k hk)) (fun k hk => sv_fld hap wH200 (by decide) (TU_slt k hk) (TU_sne 3 (by decide) k hk)) g192
      have g204 : WD (avw K H200 a0) := WD.congr (fun k hk j => av_fld hTH189 ga0 hap wH200 (by decide) (WD_ok 112 (by decide) k hk) (WD_ne 3 (by decide) k hk)) g193
      have g205 : IM (avw K H200 a0) := IM.congr (fun k hk j => av_fld hTH189 ga0 hap wH200 (by decide) (IM_ok 112 (by decide) k hk) (IM_ne 3 (by decide) k hk)) g194
      have m207 := (Wr.neI wH200 (Or.inr (x_apart hKT hts inX10 tyX10 tyX10_ok nmX10 rfl 0 3 (by decide) (by decide) (by decide)))).trans m196
      have m208 := Wr.I wH200
      have m208 := m208.symm
      refine lv_iconst (v := 1) hx hb dX10_slack_24 (by decide) ?_
      exact x_zret C hQ (Or.inr rfl) dX10_slack_25 hSH200 (by decide) (by decide) (⟨1, x1, rfl, m208, by omega, g202, g203, g204, g205, mf201, hTH200⟩)
    · have k199 := i_eq c198
      exfalso
      omega
  · subst hvH197
    refine W.eq (g2 := F0 m 14 ls [.int 0]) rfl ?_
    refine lv_if_ne (tgt := 19) hx hb dX10_slack_14 (by decide) (fun c209 => ?_) (fun c209 => ?_)
    · have k210 := i_ne c209
      exfalso
      omega
    · have k210 := i_eq c209
      refine lv_iconst (v := 0) hx hb dX10_slack_17 (by decide) ?_
      exact x_zret C hQ (Or.inl rfl) dX10_slack_18 hSH197 (by decide) (by decide) (⟨0, s5, rfl, m195, by omega, g191, g192, g193, g194, mf190, hTH189⟩)

set_option maxHeartbeats 4000000 in
set_option maxRecDepth 100000 in
theorem a_X9_end_r (l : Launch) (K : KE) (G : Nat → Option Nat) (H : Heap) {a0 : Nat} (x1 : Int32) {wq : Nat} {tq : Nat} (tp : Int32) {kv : Value} (hT : TY K G H) (ga0 : G a0 = some 68) (gwq : G wq = some 0) (ewq : wq = fR H a0 (K.1.2 9 0)) (gtq : G tq = some 108) (etq : tq = fR H a0 (K.1.2 9 2)) (etp : tp = fI H a0 (K.1.2 9 3)) (hkv : fV H a0 (K.1.2 9 1) = kv) : MX l K yX9_end cX9_end 2 (some .boolean) 0 0 0 0 [.ref a0, .int x1] H (AE G [68] H.size) (fun v H1 => ∃ (r : Int32) (t0 : Int32), v = some (.int r) ∧ (0 ≤ r.toInt ∧ r.toInt ≤ 1) ∧ t0 = fI H1 a0 (K.1.2 9 3) ∧ ((0 ≤ x1.toInt ∧ x1.toInt ≤ tp.toInt ∧ r.toInt = 1 ∧ t0.toInt = x1.toInt) ∨ ((x1.toInt < 0 ∨ tp.toInt < x1.toInt) ∧ r.toInt = 0 ∧ t0.toInt = tp.toInt)) ∧ wq = fR H1 a0 (K.1.2 9 0) ∧ tq = fR H1 a0 (K.1.2 9 2) ∧ fV H1 a0 (K.1.2 9 1) = kv ∧ TY K G H1) := by
  refine MX.of (by decide +kernel) (Nat.le_of_ble_eq_true rfl) ?_
  intro p e s m below meth c ls Q C hH hl hQ
  subst hH
  have C : CX p K s m _ meth c RX9 cX9_end 2 (some .boolean) "end" := C
  obtain ⟨hx, hb, hml, hown, hts, hKT, hr, hlocks, hnm⟩ := id C
  have hl : lv_has ls 2 [(0, .ref a0), (1, .int x1)] := hl
  have hS : va_S (AE G [68] s.heap.size) s.heap s.heap [] := va_S.rf
  have n_0 : (0 : Int32).toInt = 0 := rfl
  have n_1 : (1 : Int32).toInt = 1 := rfl
  have btp := ty_fi (x := tp) (k := 3) etp hT ga0 rg_68 rfl
  refine lv_iload_n hx hb dX9_end_0 rfl (lv_at hl 1 rfl) ?_
  refine lv_if_lt (tgt := 12) hx hb dX9_end_1 (by decide) (fun c145 => ?_) (fun c145 => ?_)
  · have k146 := i_lt c145
    refine lv_iconst (v := 0) hx hb dX9_end_12 (by decide) ?_
    exact x_zret C hQ (Or.inl rfl) dX9_end_13 hS (by decide) (by decide) (⟨0, tp, rfl, by decide, etp, by omega, ewq, etq, hkv, hT⟩)
  · have k146 := i_nlt c145
    refine lv_iload_n hx hb dX9_end_4 rfl (lv_at hl 1 rfl) ?_
    refine lv_aload_n hx hb dX9_end_5 rfl (lv_at hl 0 rfl) ?_
    refine x_gi C hT (ci := 9) (k := 3) rfl inX9 (by decide) wF_X9_105 ga0 rg_68 rfl dX9_end_6 (fun x147 ex147 bx147 => ?_)
    have ux147 : tp = x147 := (etp).trans ex147.symm
    subst ux147
    refine lv_icmp_le (tgt := 14) hx hb dX9_end_9 (by decide) (fun c148 => ?_) (fun c148 => ?_)
    · have k149 := i_le c148
      refine lv_aload_n hx hb dX9_end_14 rfl (lv_at hl 0 rfl) ?_
      refine lv_iload_n hx hb dX9_end_15 rfl (lv_at hl 1 rfl) ?_
      refine x_put C hT hS (ci := 9) (k := 3) (v := .int x1) (ty0 := tyX9) rfl inX9 tyX9_ok nmX9 (by decide) rfl wF_X9_105 ga0 rg_68 rfl rfl (okI (by have := i_rng x1; omega) (by have := i_rng x1; omega)) rfl rfl (AE_in ga0 (by decide)) dX9_end_16 (fun H150 locsH150 hTH150 hSH150 wH150 => ?_)
      have m151 := ewq.trans (Wr.neR wH150 (Or.inr (x_apart hKT hts inX9 tyX9 tyX9_ok nmX9 rfl 0 3 (by decide) (by decide) (by decide)))).symm
      have m152 := etq.trans (Wr.neR wH150 (Or.inr (x_apart hKT hts inX9 tyX9 tyX9_ok nmX9 rfl 2 3 (by decide) (by decide) (by decide)))).symm
      have m154 := (Wr.neV wH150 (Or.inr (x_apart hKT hts inX9 tyX9 tyX9_ok nmX9 rfl 1 3 (by decide) (by decide) (by decide)))).trans hkv
      have m155 := Wr.I wH150
      have m155 := m155.symm
      refine lv_iconst (v := 1) hx hb dX9_end_19 (by decide) ?_
      exact x_zret C hQ (Or.inr rfl) dX9_end_20 hSH150 (by decide) (by decide) (⟨1, x1, rfl, by decide, m155, by omega, m151, m152, m154, hTH150⟩)
    · have k149 := i_nle c148
      refine lv_iconst (v := 0) hx hb dX9_end_12 (by decide) ?_
      exact x_zret C hQ (Or.inl rfl) dX9_end_13 hS (by decide) (by decide) (⟨0, tp, rfl, by decide, etp, by omega, ewq, etq, hkv, hT⟩)
