set_option maxHeartbeats 4000000 in
set_option maxRecDepth 100000 in
theorem a_X5_find_e (l : Launch) (K : KE) (G : Nat → Option Nat) (H : Heap) {a0 : Nat} {a1 : Nat} (x2 : Int32) {tq : Nat} {bq : Nat} {mq : Nat} {nq : Nat} {lq : Nat} {kq : Nat} (le : Int32) (sd : Int32) (nc : Int32) (bc : Int32) (nl : Nat → Int) (bl : Nat → Int) (br : Nat → Int) (hT : TY K G H) (ga0 : G a0 = some 104) (ga1 : G a1 = some 0) (hx2 : 0 ≤ x2.toInt ∧ x2.toInt ≤ 99) (gtq : G tq = some 106) (etq : tq = fR H a0 (K.1.2 5 1)) (gbq : G bq = some 105) (ebq : bq = fR H a0 (K.1.2 5 0)) (gmq : G mq = some 107) (emq : mq = fR H a0 (K.1.2 5 2)) (gnq : G nq = some 31) (enq : nq = fR H a1 (K.1.2 8 12)) (glq : G lq = some 32) (elq : lq = fR H a1 (K.1.2 8 14)) (gkq : G kq = some 33) (ekq : kq = fR H a1 (K.1.2 8 15)) (ele : le = fI H a0 (K.1.2 5 3)) (esd : sd = fI H a0 (K.1.2 5 4)) (enc : nc = fI H a1 (K.1.2 8 13)) (ebc : bc = fI H a1 (K.1.2 8 16)) (hy0 : ∀ j : Nat, j < nc.toNatClampNeg → 0 ≤ nl j ∧ nl j ≤ 99) (hy1 : ∀ j : Nat, j < bc.toNatClampNeg → 0 ≤ bl j ∧ bl j ≤ 99) (hy2 : ∀ j : Nat, j < bc.toNatClampNeg → 0 ≤ br j ∧ br j ≤ 99) (hv_nl : ∀ j : Nat, nl j = (fI H nq j).toInt) (hv_bl : ∀ j : Nat, bl j = (fI H lq j).toInt) (hv_br : ∀ j : Nat, br j = (fI H kq j).toInt) : MX l K yX5_find cX5_find 3 (some .int) 10 283 0 0 [.ref a0, .ref a1, .int x2] H (AE G [104, 105, 106, 107] H.size) (fun v H1 => ∃ (r : Int32) (t0 : Int32) (t1 : Int32), v = some (.int r) ∧ t0 = fI H1 a0 (K.1.2 5 3) ∧ t1 = fI H1 a0 (K.1.2 5 4) ∧ tq = fR H1 a0 (K.1.2 5 1) ∧ bq = fR H1 a0 (K.1.2 5 0) ∧ mq = fR H1 a0 (K.1.2 5 2) ∧ (HD (goB nl bl br x2.toInt bc.toNatClampNeg nc.toNatClampNeg [] (-1, []) = (r.toInt, acL r.toInt (fun j => (fI H1 bq j).toInt) nc.toNatClampNeg))) ∧ TY K G H1) := by
  refine MX.of (by decide +kernel) (Nat.le_of_ble_eq_true rfl) ?_
  intro p e s m below meth c ls Q C hH hl hQ
  subst hH
  have C : CX p K s m _ meth c RX5 cX5_find 3 (some .int) "find" := C
  obtain ⟨hx, hb, hml, hown, hts, hKT, hr, hlocks, hnm⟩ := id C
  have hl : lv_has ls 3 [(0, .ref a0), (1, .ref a1), (2, .int x2)] := hl
  have hS : va_S (AE G [104, 105, 106, 107] s.heap.size) s.heap s.heap [] := va_S.rf
  have n_m1 : ((-1) : Int32).toInt = -1 := rfl
  have n_0 : (0 : Int32).toInt = 0 := rfl
  have ble := ty_fi (x := le) (k := 3) ele hT ga0 rg_104 rfl
  have bsd := ty_fi (x := sd) (k := 4) esd hT ga0 rg_104 rfl
  have bnc := ty_fi (x := nc) (k := 13) enc hT ga1 rg_0 rfl
  have bbc := ty_fi (x := bc) (k := 16) ebc hT ga1 rg_0 rfl
  have f0_nl := hv_nl
  have f0_bl := hv_bl
  have f0_br := hv_br
  refine lv_aload_n hx hb dX5_find_0 rfl (lv_at hl 0 rfl) ?_
  refine x_gr C hT (ci := 5) (k := 2) rfl inX5 (by decide) wF_X5_18 ga0 rg_104 rfl dX5_find_1 (fun q349 eq349 gq349 => ?_)
  have uq349 : mq = q349 := (emq).trans eq349.symm
  subst uq349
  refine lv_iconst (v := 0) hx hb dX5_find_4 (by decide) ?_
  refine x_S (As := [.ref mq, .int 0]) (rest := []) C (c_fill l K G s.heap (0) hT gmq rg_107 (by decide) ⟨by have := i_rng (0 : Int32); omega, by have := i_rng (0 : Int32); omega⟩) yo_J7_fill_53178 wM_X5_21 ⟨⟨by decide, by decide⟩, by decide, by decide⟩ rfl hl.1 rfl (Nat.le_of_ble_eq_true rfl) dX5_find_5 hS (AE_sub (fun _ _ => rfl) (by decide) hS.1) (fun vH350 H350 locsH350 pH350 zH350 kH350 hSH350 => ?_)
  have hTH350 := pH350.2.1
  have hvH350 := pH350.1
  subst hvH350
  have f351 : ∀ j : Nat, nl j = (fI H350 nq j).toInt := fun j => (f0_nl j).trans (congrArg Int32.toInt (fI_kept (x_lt hT kH350 gnq (by decide))).symm)
  have f352 : ∀ j : Nat, bl j = (fI H350 lq j).toInt := fun j => (f0_bl j).trans (congrArg Int32.toInt (fI_kept (x_lt hT kH350 glq (by decide))).symm)
  have f353 : ∀ j : Nat, br j = (fI H350 kq j).toInt := fun j => (f0_br j).trans (congrArg Int32.toInt (fI_kept (x_lt hT kH350 gkq (by decide))).symm)
  have m354 := (etq).trans (fR_kept (x_lt hT kH350 ga0 (by decide))).symm
  have m355 := (ebq).trans (fR_kept (x_lt hT kH350 ga0 (by decide))).symm
  have m356 := (emq).trans (fR_kept (x_lt hT kH350 ga0 (by decide))).symm
  have m357 := (enq).trans (fR_kept (x_lt hT kH350 ga1 (by decide))).symm
  have m358 := (elq).trans (fR_kept (x_lt hT kH350 ga1 (by decide))).symm
  have m359 := (ekq).trans (fR_kept (x_lt hT kH350 ga1 (by decide))).symm
  have m360 := (ele).trans (fI_kept (x_lt hT kH350 ga0 (by decide))).symm
  have m361 := (esd).trans (fI_kept (x_lt hT kH350 ga0 (by decide))).symm
  have m362 := (enc).trans (fI_kept (x_lt hT kH350 ga1 (by decide))).symm
  have m363 := (ebc).trans (fI_kept (x_lt hT kH350 ga1 (by decide))).symm
  refine W.eq (g2 := F0 m 8 ls []) rfl ?_
  have hfl_ : ∀ j : Nat, (fI H350 mq j).toInt = 0 := fun j => by by_cases z : j < 256; exact congrArg Int32.toInt (pH350.2.2 j z); exact congrArg Int32.toInt (fI_far hTH350 gmq rg_107 (by omega))
  have x0364 : ∀ j : Nat, fI H350 mq j = fI H350 mq j := fun _ => rfl
  refine lv_aload_n hx hb dX5_find_8 rfl (lv_at hl 0 rfl) ?_
  refine lv_iconst (v := (-1)) hx hb dX5_find_9 (by decide) ?_
  refine x_put C hTH350 hSH350 (ci := 5) (k := 3) (v := .int (-1)) (ty0 := tyX5) rfl inX5 tyX5_ok nmX5 (by decide) rfl wF_X5_27 ga0 rg_104 rfl rfl (okI (by have := i_rng ((-1) : Int32); omega) (by have := i_rng ((-1) : Int32); omega)) rfl rfl (AE_in ga0 (by decide)) dX5_find_10 (fun H365 locsH365 hTH365 hSH365 wH365 => ?_)
  have f366 : ∀ j : Nat, nl j = (fI H365 nq j).toInt := fun j => (f351 j).trans (congrArg Int32.toInt (Wr.neI wH365 (Or.inl (G_ne gnq ga0 (by decide)))).symm)
  have f367 : ∀ j : Nat, bl j = (fI H365 lq j).toInt := fun j => (f352 j).trans (congrArg Int32.toInt (Wr.neI wH365 (Or.inl (G_ne glq ga0 (by decide)))).symm)
  have f368 : ∀ j : Nat, br j = (fI H365 kq j).toInt := fun j => (f353 j).trans (congrArg Int32.toInt (Wr.neI wH365 (Or.inl (G_ne gkq ga0 (by decide)))).symm)
  have f369 : ∀ j : Nat, fI H365 mq j = fI H350 mq j := fun j => (fI_kept (wH365.off (G_ne gmq ga0 (by decide)))).trans (x0364 j)
  have m370 := m354.trans (Wr.neR wH365 (Or.inr (x_apart hKT hts inX5 tyX5 tyX5_ok nmX5 rfl 1 3 (by decide) (by decide) (by decide)))).symm
  have m371 := m355.trans (Wr.neR wH365 (Or.inr (x_apart hKT hts inX5 tyX5 tyX5_ok nmX5 rfl 0 3 (by decide) (by decide) (by decide)))).symm
  have m372 := m356.trans (Wr.neR wH365 (Or.inr (x_apart hKT hts inX5 tyX5 tyX5_ok nmX5 rfl 2 3 (by decide) (by decide) (by decide)))).symm
  have m373 := m357.trans (Wr.neR wH365 (Or.inl (G_ne ga1 ga0 (by decide)))).symm
  have m374 := m358.trans (Wr.neR wH365 (Or.inl (G_ne ga1 ga0 (by decide)))).symm
  have m375 := m359.trans (Wr.neR wH365 (Or.inl (G_ne ga1 ga0 (by decide)))).symm
  have m377 := m361.trans (Wr.neI wH365 (Or.inr (x_apart hKT hts inX5 tyX5 tyX5_ok nmX5 rfl 4 3 (by decide) (by decide) (by decide)))).symm
  have m378 := m362.trans (Wr.neI wH365 (Or.inl (G_ne ga1 ga0 (by decide)))).symm
  have m379 := m363.trans (Wr.neI wH365 (Or.inl (G_ne ga1 ga0 (by decide)))).symm
  have m380 := Wr.I wH365
  refine lv_aload_n hx hb dX5_find_13 rfl (lv_at hl 0 rfl) ?_
  refine lv_iload_n hx hb dX5_find_14 rfl (lv_at hl 2 rfl) ?_
  refine x_put C hTH365 hSH365 (ci := 5) (k := 4) (v := .int x2) (ty0 := tyX5) rfl inX5 tyX5_ok nmX5 (by decide) rfl wF_X5_31 ga0 rg_104 rfl rfl (okI (by have := i_rng x2; omega) (by have := i_rng x2; omega)) rfl rfl (AE_in ga0 (by decide)) dX5_find_15 (fun H381 locsH381 hTH381 hSH381 wH381 => ?_)
  have f382 : ∀ j : Nat, nl j = (fI H381 nq j).toInt := fun j => (f366 j).trans (congrArg Int32.toInt (Wr.neI wH381 (Or.inl (G_ne gnq ga0 (by decide)))).symm)
  have f383 : ∀ j : Nat, bl j = (fI H381 lq j).toInt := fun j => (f367 j).trans (congrArg Int32.toInt (Wr.neI wH381 (Or.inl (G_ne glq ga0 (by decide)))).symm)
  have f384 : ∀ j : Nat, br j = (fI H381 kq j).toInt := fun j => (f368 j).trans (congrArg Int32.toInt (Wr.neI wH381 (Or.inl (G_ne gkq ga0 (by decide)))).symm)
  have f385 : ∀ j : Nat, fI H381 mq j = fI H350 mq j := fun j => (fI_kept (wH381.off (G_ne gmq ga0 (by decide)))).trans (f369 j)
  have m386 := m370.trans (Wr.neR wH381 (Or.inr (x_apart hKT hts inX5 tyX5 tyX5_ok nmX5 rfl 1 4 (by decide) (by decide) (by decide)))).symm
  have m387 := m371.trans (Wr.neR wH381 (Or.inr (x_apart hKT hts inX5 tyX5 tyX5_ok nmX5 rfl 0 4 (by decide) (by decide) (by decide)))).symm
  have m388 := m372.trans (Wr.neR wH381 (Or.inr (x_apart hKT hts inX5 tyX5 tyX5_ok nmX5 rfl 2 4 (by decide) (by decide) (by decide)))).symm
  have m389 := m373.trans (Wr.neR wH381 (Or.inl (G_ne ga1 ga0 (by decide)))).symm
  have m390 := m374.trans (Wr.neR wH381 (Or.inl (G_ne ga1 ga0 (by decide)))).symm
  have m391 := m375.trans (Wr.neR wH381 (Or.inl (G_ne ga1 ga0 (by decide)))).symm
  have m393 := m378.trans (Wr.neI wH381 (Or.inl (G_ne ga1 ga0 (by decide)))).symm
  have m394 := m379.trans (Wr.neI wH381 (Or.inl (G_ne ga1 ga0 (by decide)))).symm
  have m395 := (Wr.neI wH381 (Or.inr (x_apart hKT hts inX5 tyX5 tyX5_ok nmX5 rfl 3 4 (by decide) (by decide) (by decide)))).trans m380
  have m396 := Wr.I wH381
  have m396 := m396.symm
  refine lv_aload_n hx hb dX5_find_18 rfl (lv_at hl 0 rfl) ?_
  refine lv_aload_n hx hb dX5_find_19 rfl (lv_at hl 1 rfl) ?_
  refine lv_iconst (v := 0) hx hb dX5_find_20 (by decide) ?_
  refine lv_iconst (v := 0) hx hb dX5_find_21 (by decide) ?_
  refine lv_iconst (v := 0) hx hb dX5_find_22 (by decide) ?_
  refine x_V (As := [.ref a1, .int 0, .int 0, .int 0]) (rest := []) C (a_X5_goOn_e0 l K G H381 (0) (0) (0) ((-1)) (nc) (bc) (x2) ([]) nl bl br hTH381 ga0 ga1 (by decide) (by decide) (by decide) gtq m386 gbq m387 gmq m388 gnq m389 glq m390 gkq m391 (m395).symm m393 m394 m396 (by omega) (rfl) (rfl) (rfl) ((fun x hx => by cases hx)) (hy0) (hy1) (hy2) f382 f383 f384) yo_X5_goOn wM_X5_34 ⟨⟨by decide, by decide⟩, by decide, by decide⟩ (x_rv C hTH381 (ci := 5) rfl ga0 rg_104) rfl hl.1 rfl (Nat.le_of_ble_eq_true rfl) dX5_find_23 hSH381 (AE_sub (fun _ _ => rfl) (by decide) hSH381.1) (fun vH397 H397 locsH397 pH397 zH397 kH397 hSH397 => ?_)
  obtain ⟨x398, hvH397, ex398, m399, m400, m401, m402, m403, m404, hTH397⟩ := pH397
  subst hvH397
  have f405 : ∀ j : Nat, nl j = (fI H397 nq j).toInt := fun j => (f382 j).trans (congrArg Int32.toInt (fI_kept (x_lt hTH381 kH397 gnq (by decide))).symm)
  have f406 : ∀ j : Nat, bl j = (fI H397 lq j).toInt := fun j => (f383 j).trans (congrArg Int32.toInt (fI_kept (x_lt hTH381 kH397 glq (by decide))).symm)
  have f407 : ∀ j : Nat, br j = (fI H397 kq j).toInt := fun j => (f384 j).trans (congrArg Int32.toInt (fI_kept (x_lt hTH381 kH397 gkq (by decide))).symm)
  have m408 := (m389).trans (fR_kept (x_lt hTH381 kH397 ga1 (by decide))).symm
  have m409 := (m390).trans (fR_kept (x_lt hTH381 kH397 ga1 (by decide))).symm
  have m410 := (m391).trans (fR_kept (x_lt hTH381 kH397 ga1 (by decide))).symm
  have m411 := (m393).trans (fI_kept (x_lt hTH381 kH397 ga1 (by decide))).symm
  have m412 := (m394).trans (fI_kept (x_lt hTH381 kH397 ga1 (by decide))).symm
  have bx398 := ty_fi (x := x398) (k := 3) ex398 hTH397 ga0 rg_104 rfl
  refine W.eq (g2 := F0 m 26 ls []) rfl ?_
  refine lv_aload_n hx hb dX5_find_26 rfl (lv_at hl 0 rfl) ?_
  refine x_gi C hTH397 (ci := 5) (k := 3) rfl inX5 (by decide) wF_X5_27 ga0 rg_104 rfl dX5_find_27 (fun x413 ex413 bx413 => ?_)
  have ux413 : x398 = x413 := (ex398).trans ex413.symm
  subst ux413
  have cn_nc := i_cl (x := nc) (by omega)
  exact x_iret C hQ dX5_find_30 hSH397 (by decide) (by decide) (⟨x398, x398, x2, rfl, ex398, m402, m399, m400, m401, HD.mk (gm_top (fun j => (congrArg Int32.toInt (f385 j)).trans (hfl_ j)) rfl (by omega) (HD.get m404)), hTH397⟩)

set_option maxHeartbeats 4000000 in
set_option maxRecDepth 100000 in
theorem a_X9_set_e (l : Launch) (K : KE) (G : Nat → Option Nat) (H : Heap) {a0 : Nat} (x1 : Int32) (x2 : Int32) {wq : Nat} {sq : Nat} {bq : Nat} {nq : Nat} {lq : Nat} {kq : Nat} (nc : Int32) (bc : Int32) (nl : Nat → Int) (bl : Nat → Int) (br : Nat → Int) (hT : TY K G H) (ga0 : G a0 = some 68) (gwq : G wq = some 0) (ewq : wq = fR H a0 (K.1.2 9 0)) (gsq : G sq = some 104) (esq : sq = fR H a0 (K.1.2 9 8)) (gbq : G bq = some 105) (ebq : bq = fR H sq (K.1.2 5 0)) (gnq : G nq = some 31) (enq : nq = fR H wq (K.1.2 8 12)) (glq : G lq = some 32) (elq : lq = fR H wq (K.1.2 8 14)) (gkq : G kq = some 33) (ekq : kq = fR H wq (K.1.2 8 15)) (enc : nc = fI H wq (K.1.2 8 13)) (ebc : bc = fI H wq (K.1.2 8 16)) (hy0 : ∀ j : Nat, j < nc.toNatClampNeg → 0 ≤ nl j ∧ nl j ≤ 99) (hy1 : ∀ j : Nat, j < bc.toNatClampNeg → 0 ≤ bl j ∧ bl j ≤ 99) (hy2 : ∀ j : Nat, j < bc.toNatClampNeg → 0 ≤ br j ∧ br j ≤ 99) (hv_nl : ∀ j : Nat, nl j = (fI H nq j).toInt) (hv_bl : ∀ j : Nat, bl j = (fI H lq j).toInt) (hv_br : ∀ j : Nat, br j = (fI H kq j).toInt) : MX l K yX9_set cX9_set 4 (some .int) 11 305 0 0 [.ref a0, .int x1, .int x2] H (AE G [104, 105, 106, 107] H.size) (fun v H1 => ∃ (r : Int32), v = some (.int r) ∧ bq = fR H1 sq (K.1.2 5 0) ∧ (seA nl bl br bc.toNatClampNeg nc.toNatClampNeg x1.toInt x2.toInt r.toInt) ∧ TY K G H1) := by
  refine MX.of (by decide +kernel) (Nat.le_of_ble_eq_true rfl) ?_
  intro p e s m below meth c ls Q C hH hl hQ
  subst hH
  have C : CX p K s m _ meth c RX9 cX9_set 4 (some .int) "set" := C
  obtain ⟨hx, hb, hml, hown, hts, hKT, hr, hlocks, hnm⟩ := id C
  have hl : lv_has ls 4 [(0, .ref a0), (1, .int x1), (2, .int x2)] := hl
  have hS : va_S (AE G [104, 105, 106, 107] s.heap.size) s.heap s.heap [] := va_S.rf
  have n_m1 : ((-1) : Int32).toInt = -1 := rfl
  have n_0 : (0 : Int32).toInt = 0 := rfl
  have n_1 : (1 : Int32).toInt = 1 := rfl
  have n_99 : (99 : Int32).toInt = 99 := rfl
  have bnc := ty_fi (x := nc) (k := 13) enc hT gwq rg_0 rfl
  have bbc := ty_fi (x := bc) (k := 16) ebc hT gwq rg_0 rfl
  have f0_nl := hv_nl
  have f0_bl := hv_bl
  have f0_br := hv_br
  refine lv_iload_n hx hb dX9_set_0 rfl (lv_at hl 1 rfl) ?_
  refine lv_iconst (v := 0) hx hb dX9_set_1 (by decide) ?_
  refine lv_bipush (v := 99) hx hb dX9_set_2 (by decide) ?_
  refine x_S (As := [.int x1, .int 0, .int 99]) (rest := []) C (c_X9_within l K G s.heap (x1) (0) (99) hT) yo_X9_within wM_X9_89 ⟨⟨by decide, by decide⟩, by decide, by decide⟩ rfl hl.1 rfl (Nat.le_of_ble_eq_true rfl) dX9_set_4 hS (AE_sub (fun _ _ => rfl) (by decide) hS.1) (fun vH285 H285 locsH285 pH285 zH285 kH285 hSH285 => ?_)
  have hqH285 := pH285.1.symm
  subst hqH285
  rcases pH285.2 with ⟨hvH285, hcH285⟩ | ⟨hvH285, hcH285⟩
  · subst hvH285
    refine W.eq (g2 := F0 m 7 ls [.int 1]) rfl ?_
    refine lv_if_eq (tgt := 25) hx hb dX9_set_7 (by decide) (fun c286 => ?_) (fun c286 => ?_)
    · have k287 := i_eq c286
      exfalso
      omega
    · have k287 := i_ne c286
      refine lv_iload_n hx hb dX9_set_10 rfl (lv_at hl 2 rfl) ?_
      refine lv_iconst (v := 0) hx hb dX9_set_11 (by decide) ?_
      refine lv_aload_n hx hb dX9_set_12 rfl (lv_at hl 0 rfl) ?_
      refine x_gr C hT (ci := 9) (k := 0) rfl inX9 (by decide) wF_X9_12 ga0 rg_68 rfl dX9_set_13 (fun q288 eq288 gq288 => ?_)
      have uq288 : wq = q288 := (ewq).trans eq288.symm
      subst uq288
      refine x_gi C hT (ci := 8) (k := 13) rfl inX8 (by decide) wF_X9_317 gwq rg_0 rfl dX9_set_16 (fun x289 ex289 bx289 => ?_)
      have ux289 : nc = x289 := (enc).trans ex289.symm
      subst ux289
      refine x_S (As := [.int x2, .int 0, .int nc]) (rest := []) C (c_X9_within l K G s.heap (x2) (0) (nc) hT) yo_X9_within wM_X9_89 ⟨⟨by decide, by decide⟩, by decide, by decide⟩ rfl hl.1 rfl (Nat.le_of_ble_eq_true rfl) dX9_set_19 hSH285 (AE_sub (fun _ _ => rfl) (by decide) hSH285.1) (fun vH290 H290 locsH290 pH290 zH290 kH290 hSH290 => ?_)
      have hqH290 := pH290.1.symm
      subst hqH290
      rcases pH290.2 with ⟨hvH290, hcH290⟩ | ⟨hvH290, hcH290⟩
      · subst hvH290
        refine W.eq (g2 := F0 m 22 ls [.int 1]) rfl ?_
        refine lv_if_ne (tgt := 27) hx hb dX9_set_22 (by decide) (fun c291 => ?_) (fun c291 => ?_)
        · have k292 := i_ne c291
          refine lv_aload_n hx hb dX9_set_27 rfl (lv_at hl 0 rfl) ?_
          refine x_gr C hT (ci := 9) (k := 8) rfl inX9 (by decide) wF_X9_51 ga0 rg_68 rfl dX9_set_28 (fun q293 eq293 gq293 => ?_)
          have uq293 : sq = q293 := (esq).trans eq293.symm
          subst uq293
          refine lv_aload_n hx hb dX9_set_31 rfl (lv_at hl 0 rfl) ?_
          refine x_gr C hT (ci := 9) (k := 0) rfl inX9 (by decide) wF_X9_12 ga0 rg_68 rfl dX9_set_32 (fun q294 eq294 gq294 => ?_)
          have uq294 : wq = q294 := (ewq).trans eq294.symm
          subst uq294
          refine lv_iload_n hx hb dX9_set_35 rfl (lv_at hl 1 rfl) ?_
          obtain ⟨q295, eq295⟩ : ∃ z : Nat, z = fR s.heap sq (K.1.2 5 1) := ⟨_, rfl⟩
          have gq295 := ty_fr (q := q295) (k := 1) (u := 106) eq295 hT gsq rg_104 rfl
          obtain ⟨q296, eq296⟩ : ∃ z : Nat, z = fR s.heap sq (K.1.2 5 2) := ⟨_, rfl⟩
          have gq296 := ty_fr (q := q296) (k := 2) (u := 107) eq296 hT gsq rg_104 rfl
          obtain ⟨x297, ex297⟩ : ∃ z : Int32, z = fI s.heap sq (K.1.2 5 3) := ⟨_, rfl⟩
          have bx297 := ty_fi (x := x297) (k := 3) ex297 hT gsq rg_104 rfl
          obtain ⟨x298, ex298⟩ : ∃ z : Int32, z = fI s.heap sq (K.1.2 5 4) := ⟨_, rfl⟩
          have bx298 := ty_fi (x := x298) (k := 4) ex298 hT gsq rg_104 rfl
          refine x_V (As := [.ref wq, .int x1]) (rest := []) C (a_X5_find_e l K G s.heap (x1) (x297) (x298) (nc) (bc) nl bl br hT gsq gwq (by omega) gq295 eq295 gbq ebq gq296 eq296 gnq enq glq elq gkq ekq ex297 ex298 enc ebc (hy0) (hy1) (hy2) f0_nl f0_bl f0_br) yo_X5_find wM_X9_335 ⟨⟨by decide, by decide⟩, by decide, by decide⟩ (x_rv C hT (ci := 5) rfl gsq rg_104) rfl hl.1 rfl (Nat.le_of_ble_eq_true rfl) dX9_set_36 hSH290 (AE_sub (fun _ _ => rfl) (by decide) hSH290.1) (fun vH299 H299 locsH299 pH299 zH299 kH299 hSH299 => ?_)
          obtain ⟨x300, x301, x302, hvH299, ex301, ex302, m303, m304, m305, m306, hTH299⟩ := pH299
          subst hvH299
          have f307 : ∀ j : Nat, nl j = (fI H299 nq j).toInt := fun j => (f0_nl j).trans (congrArg Int32.toInt (fI_kept (x_lt hT kH299 gnq (by decide))).symm)
          have f308 : ∀ j : Nat, bl j = (fI H299 lq j).toInt := fun j => (f0_bl j).trans (congrArg Int32.toInt (fI_kept (x_lt hT kH299 glq (by decide))).symm)
          have f309 : ∀ j : Nat, br j = (fI H299 kq j).toInt := fun j => (f0_br j).trans (congrArg Int32.toInt (fI_kept (x_lt hT kH299 gkq (by decide))).symm)
          have m310 := (ewq).trans (fR_kept (x_lt hT kH299 ga0 (by decide))).symm
          have m311 := (esq).trans (fR_kept (x_lt hT kH299 ga0 (by decide))).symm
          have m312 := (enq).trans (fR_kept (x_lt hT kH299 gwq (by decide))).symm
          have m313 := (elq).trans (fR_kept (x_lt hT kH299 gwq (by decide))).symm
          have m314 := (ekq).trans (fR_kept (x_lt hT kH299 gwq (by decide))).symm
          have m315 := (enc).trans (fI_kept (x_lt hT kH299 gwq (by decide))).symm
          have m316 := (ebc).trans (fI_kept (x_lt hT kH299 gwq (by decide))).symm
          have bx301 := ty_fi (x := x301) (k := 3) ex301 hTH299 gsq rg_104 rfl
          have bx302 := ty_fi (x := x302) (k := 4) ex302 hTH299 gsq rg_104 rfl
          refine W.eq (g2 := F0 m 39 ls [.int x300]) rfl ?_
          refine lv_istore_n (lv' := [(3, .int x300), (0, .ref a0), (1, .int x1), (2, .int x2)]) hx hb dX9_set_39 rfl hl (by decide) rfl (fun ls317 hl318 => ?_)
          refine lv_iload_n hx hb dX9_set_40 rfl (lv_at hl318 3 rfl) ?_
          refine lv_if_eq (tgt := 49) hx hb dX9_set_41 (by decide) (fun c319 => ?_) (fun c319 => ?_)
          · have k320 := i_eq c319
            refine lv_iload_n hx hb dX9_set_49 rfl (lv_at hl318 0 rfl) ?_
            have cn_nc := i_cl (x := nc) (by omega)
            exact x_iret C hQ dX9_set_50 hSH299 (by decide) (by decide) (⟨x300, rfl, m304, Or.inl ⟨by omega, sa_0 (HD.get m306) (by omega)⟩, hTH299⟩)
          · have k320 := i_ne c319
            refine lv_iload_n hx hb dX9_set_44 rfl (lv_at hl318 0 rfl) ?_
            refine lv_iconst (v := (-1)) hx hb dX9_set_45 (by decide) ?_
            refine lv_icmp_ne (tgt := 51) hx hb dX9_set_46 (by decide) (fun c321 => ?_) (fun c321 => ?_)
            · have k322 := i_ne c321
              refine lv_aload_n hx hb dX9_set_51 rfl (lv_at hl318 1 rfl) ?_
              refine x_gr C hTH299 (ci := 9) (k := 8) rfl inX9 (by decide) wF_X9_51 ga0 rg_68 rfl dX9_set_52 (fun q323 eq323 gq323 => ?_)
              have uq323 : sq = q323 := (m311).trans eq323.symm
              subst uq323
              refine x_gr C hTH299 (ci := 5) (k := 0) rfl inX5 (by decide) wF_X9_338 gsq rg_104 rfl dX9_set_55 (fun q324 eq324 gq324 => ?_)
              have uq324 : bq = q324 := (m304).trans eq324.symm
              subst uq324
              refine lv_iload_n hx hb dX9_set_58 rfl (lv_at hl318 3 rfl) ?_
              refine lv_iconst (v := 1) hx hb dX9_set_59 (by decide) ?_
              refine lv_isub hx hb dX9_set_60 ?_
              refine lv_topi (fun x325 ex325 => ?_)
              have tx325 := i_sub ex325 (by omega)
              refine x_ai C hTH299 gbq rg_105 ⟨by omega, by show _ < ((8 : Nat) : Int); omega⟩ dX9_set_61 (fun x326 ex326 bx326 => ?_)
              have cn_nc := i_cl (x := nc) (by omega)
              have cn_x325 := i_cl (x := x325) (by omega)
              exact x_iret C hQ dX9_set_62 hSH299 (by decide) (by decide) (⟨x326, rfl, m304, Or.inl ⟨by omega, sa_at (HD.get m306) (by omega) (by omega) (j := x325.toNatClampNeg) (by omega) (show (fI _ bq _).toInt = _ by rw [← ex326]) (by omega)⟩, hTH299⟩)
            · have k322 := i_eq c321
              refine lv_iload_n hx hb dX9_set_49 rfl (lv_at hl318 0 rfl) ?_
              have cn_nc := i_cl (x := nc) (by omega)
              exact x_iret C hQ dX9_set_50 hSH299 (by decide) (by decide) (⟨x300, rfl, m304, Or.inl ⟨by omega, sa_0 (HD.get m306) (by omega)⟩, hTH299⟩)
        · have k292 := i_eq c291
          exfalso
          omega
      · subst hvH290
        refine W.eq (g2 := F0 m 22 ls [.int 0]) rfl ?_
        refine lv_if_ne (tgt := 27) hx hb dX9_set_22 (by decide) (fun c327 => ?_) (fun c327 => ?_)
        · have k328 := i_ne c327
          exfalso
          omega
        · have k328 := i_eq c327
          refine lv_iconst (v := (-1)) hx hb dX9_set_25 (by decide) ?_
          have cn_nc := i_cl (x := nc) (by omega)
          exact x_iret C hQ dX9_set_26 hSH290 (by decide) (by decide) (⟨(-1), rfl, ebq, Or.inr ⟨by omega, by omega⟩, hT⟩)
  · subst hvH285
    refine W.eq (g2 := F0 m 7 ls [.int 0]) rfl ?_
    refine lv_if_eq (tgt := 25) hx hb dX9_set_7 (by decide) (fun c329 => ?_) (fun c329 => ?_)
    · have k330 := i_eq c329
      refine lv_iconst (v := (-1)) hx hb dX9_set_25 (by decide) ?_
      have cn_nc := i_cl (x := nc) (by omega)
      exact x_iret C hQ dX9_set_26 hSH285 (by decide) (by decide) (⟨(-1), rfl, ebq, Or.inr ⟨by omega, by omega⟩, hT⟩)
    · have k330 := i_ne c329
      exfalso
      omega
