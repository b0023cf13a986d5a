/-! ===== the bars' own fields but the taps' count and the holes ===== -/
def NBF (K : KE) (G : Nat → Option Nat) (H1 H : Heap) : Prop := ∀ q : Nat, G q = some 1 → ∀ k : Nat, (k < 14 ∨ k = 17) → fV H1 q (K.1.2 0 k) = fV H q (K.1.2 0 k)
theorem NBF.rf {K : KE} {G : Nat → Option Nat} {H : Heap} : NBF K G H H := fun _ _ _ _ => rfl
theorem NBF.st {K : KE} {G : Nat → Option Nat} {H2 H1 H : Heap} (a : NBF K G H2 H1) (b : NBF K G H1 H) : NBF K G H2 H := fun q hq k hk => (a q hq k hk).trans (b q hq k hk)
theorem NBF.rfb {K : KE} {G : Nat → Option Nat} {H1 H : Heap} {q : Nat} (h : NBF K G H1 H) (gq : G q = some 1) : RFB K H1 H q := fun k hk => by unfold fR; rw [h q gq k (by omega)]
theorem NBF.vw {K : KE} {G : Nat → Option Nat} {H1 H : Heap} {q : Nat} (h : NBF K G H1 H) (gq : G q = some 1) (e : ∀ k, 1 ≤ k → k ≤ 7 → ∀ j, fI H1 (fR H q (K.1.2 0 k)) j = fI H (fR H q (K.1.2 0 k)) j) : vwC K H1 q = vwC K H q := by
  have r := h.rfb gq
  funext k j
  unfold vwC
  by_cases c : k = 0 ∨ k = 8 ∨ k = 9
  · rw [if_pos c, if_pos c]
    by_cases cj : j = 0
    · rw [if_pos cj, if_pos cj]; unfold fI; rw [h q gq k (by omega)]
    · rw [if_neg cj, if_neg cj]
  · rw [if_neg c, if_neg c]
    by_cases d : 1 ≤ k ∧ k ≤ 7
    · rw [if_pos d, if_pos d, r k (by omega), e k d.1 d.2 j]
    · rw [if_neg d, if_neg d]
set_option maxHeartbeats 4000000 in
set_option maxRecDepth 100000 in
theorem a_X0_addTap_n (l : Launch) (K : KE) (G : Nat → Option Nat) (H : Heap) {a0 : Nat} (x1 : Int32) (x2 : Int32) (hT : TY K G H) (ga0 : G a0 = some 1) : MX l K yX0_addTap cX0_addTap 3 none 1 40 0 0 [.ref a0, .int x1, .int x2] H (AE G [1, 9, 10, 12, 14] H.size) (fun v H1 => v = none ∧ (NBF K G H1 H) ∧ TY K G H1) := by
  refine MX.of (by decide +kernel) (Nat.le_of_ble_eq_true rfl) ?_
  intro p e s m below meth c ls Q C hH hl hQ
  subst hH
  have C : CX p K s m _ meth c RX0 cX0_addTap 3 none "addTap" := C
  obtain ⟨hx, hb, hml, hown, hts, hKT, hr, hlocks, hnm⟩ := id C
  have hl : lv_has ls 3 [(0, .ref a0), (1, .int x1), (2, .int x2)] := hl
  have hS : va_S (AE G [1, 9, 10, 12, 14] s.heap.size) s.heap s.heap [] := va_S.rf
  have n_0 : (0 : Int32).toInt = 0 := rfl
  have n_1 : (1 : Int32).toInt = 1 := rfl
  have n_12 : (12 : Int32).toInt = 12 := rfl
  have n_16 : (16 : Int32).toInt = 16 := rfl
  have hapB : ∀ x y, x < 18 → y < 18 → x ≠ y → K.1.2 0 x ≠ K.1.2 0 y := x_apart hKT hts inX0 tyX0 tyX0_ok nmX0 rfl
  have f0_nb : NBF K G s.heap s.heap := NBF.rf
  refine lv_aload_n hx hb dX0_addTap_0 rfl (lv_at hl 0 rfl) ?_
  refine x_gi C hT (ci := 0) (k := 14) rfl inX0 (by decide) wF_X0_66 ga0 rg_1 rfl dX0_addTap_1 (fun x345 ex345 bx345 => ?_)
  refine lv_bipush (v := 12) hx hb dX0_addTap_4 (by decide) ?_
  refine lv_icmp_ge (tgt := 79) hx hb dX0_addTap_6 (by decide) (fun c346 => ?_) (fun c346 => ?_)
  · have k347 := i_le c346
    exact x_vret C hQ dX0_addTap_79 hS (by decide) (by decide) (⟨rfl, f0_nb, hT⟩)
  · have k347 := i_nle c346
    refine lv_aload_n hx hb dX0_addTap_9 rfl (lv_at hl 0 rfl) ?_
    refine x_gr C hT (ci := 0) (k := 10) rfl inX0 (by decide) wF_X0_33 ga0 rg_1 rfl dX0_addTap_10 (fun q348 eq348 gq348 => ?_)
    replace eq348 : @Eq Ad q348 (fR s.heap a0 (K.1.2 0 10)) := eq348
    refine lv_aload_n hx hb dX0_addTap_13 rfl (lv_at hl 0 rfl) ?_
    refine x_gi C hT (ci := 0) (k := 14) rfl inX0 (by decide) wF_X0_66 ga0 rg_1 rfl dX0_addTap_14 (fun x349 ex349 bx349 => ?_)
    have ux349 : x345 = x349 := (ex345).trans ex349.symm
    subst ux349
    refine lv_iload_n hx hb dX0_addTap_17 rfl (lv_at hl 1 rfl) ?_
    refine x_iast C hT hS gq348 rg_9 bx345.1 (by show _ < ((12 : Nat) : Int); omega) (i_rng x1) (AE_in gq348 (by decide)) dX0_addTap_18 (fun H350 locsH350 hTH350 hSH350 wH350 => ?_)
    have f351 : NBF K G H350 s.heap := (fun q hq k hk => (fV_kept (wH350.off (G_ne hq gq348 (by decide)))).trans (f0_nb q hq k hk))
    have m352 := ex345.trans (Wr.neI wH350 (Or.inl (G_ne ga0 gq348 (by decide)))).symm
    have m353 := eq348.trans (Wr.neR wH350 (Or.inl (G_ne ga0 gq348 (by decide)))).symm
    have m354 := Wr.I wH350
    have m354 := m354.symm
    refine lv_aload_n hx hb dX0_addTap_19 rfl (lv_at hl 0 rfl) ?_
    refine x_gr C hTH350 (ci := 0) (k := 11) rfl inX0 (by decide) wF_X0_36 ga0 rg_1 rfl dX0_addTap_20 (fun q355 eq355 gq355 => ?_)
    replace eq355 : @Eq Ad q355 (fR H350 a0 (K.1.2 0 11)) := eq355
    refine lv_aload_n hx hb dX0_addTap_23 rfl (lv_at hl 0 rfl) ?_
    refine x_gi C hTH350 (ci := 0) (k := 14) rfl inX0 (by decide) wF_X0_66 ga0 rg_1 rfl dX0_addTap_24 (fun x356 ex356 bx356 => ?_)
    have ux356 : x345 = x356 := (m352).trans ex356.symm
    subst ux356
    refine lv_iload_n hx hb dX0_addTap_27 rfl (lv_at hl 2 rfl) ?_
    refine x_iast C hTH350 hSH350 gq355 rg_10 bx345.1 (by show _ < ((12 : Nat) : Int); omega) (i_rng x2) (AE_in gq355 (by decide)) dX0_addTap_28 (fun H357 locsH357 hTH357 hSH357 wH357 => ?_)
    have f358 : NBF K G H357 s.heap := (fun q hq k hk => (fV_kept (wH357.off (G_ne hq gq355 (by decide)))).trans (f351 q hq k hk))
    have m359 := m352.trans (Wr.neI wH357 (Or.inl (G_ne ga0 gq355 (by decide)))).symm
    have m360 := m353.trans (Wr.neR wH357 (Or.inl (G_ne ga0 gq355 (by decide)))).symm
    have m361 := m354.trans (Wr.neI wH357 (Or.inl (G_ne gq348 gq355 (by decide)))).symm
    have m362 := eq355.trans (Wr.neR wH357 (Or.inl (G_ne ga0 gq355 (by decide)))).symm
    have m363 := Wr.I wH357
    have m363 := m363.symm
    refine lv_aload_n hx hb dX0_addTap_29 rfl (lv_at hl 0 rfl) ?_
    refine x_gr C hTH357 (ci := 0) (k := 1) rfl inX0 (by decide) wF_X0_9 ga0 rg_1 rfl dX0_addTap_30 (fun q364 eq364 gq364 => ?_)
    replace eq364 : @Eq Ad q364 (fR H357 a0 (K.1.2 0 1)) := eq364
    refine lv_iconst (v := 0) hx hb dX0_addTap_33 (by decide) ?_
    refine lv_aload_n hx hb dX0_addTap_34 rfl (lv_at hl 0 rfl) ?_
    refine x_gr C hTH357 (ci := 0) (k := 12) rfl inX0 (by decide) wF_X0_41 ga0 rg_1 rfl dX0_addTap_35 (fun q365 eq365 gq365 => ?_)
    replace eq365 : @Eq Ad q365 (fR H357 a0 (K.1.2 0 12)) := eq365
    refine lv_aload_n hx hb dX0_addTap_38 rfl (lv_at hl 0 rfl) ?_
    refine x_gi C hTH357 (ci := 0) (k := 14) rfl inX0 (by decide) wF_X0_66 ga0 rg_1 rfl dX0_addTap_39 (fun x366 ex366 bx366 => ?_)
    have ux366 : x345 = x366 := (m359).trans ex366.symm
    subst ux366
    refine x_ar C hTH357 rfl rfl gq365 rg_11 ⟨bx345.1, by show _ < ((12 : Nat) : Int); omega⟩ dX0_addTap_42 (fun q367 eq367 gq367 => ?_)
    replace eq367 : @Eq Ad q367 (fR H357 q365 (x345 : Int32).toNatClampNeg) := eq367
    refine lv_iconst (v := 0) hx hb dX0_addTap_43 (by decide) ?_
    refine lv_bipush (v := 16) hx hb dX0_addTap_44 (by decide) ?_
    refine x_copy C hTH357 hSH357 wM_X0_75 wNT_arraycopy wST_arraycopy wIN_J10 gq364 gq367 rg_2 rg_12 (by decide) (by omega) (by omega) (by omega) (by show _ ≤ ((16 : Nat) : Int); omega) (by show _ ≤ ((16 : Nat) : Int); omega) (AE_in gq367 (by decide)) hl.1 (by decide) dX0_addTap_46 (fun H368 locsH368 hTH368 hSH368 zH368 oH368 vH368 wH368 => ?_)
    have m369 := (m359).trans (fI_kept (oH368 _ (G_ne ga0 gq367 (by decide)))).symm
    have m370 := (m360).trans (fR_kept (oH368 _ (G_ne ga0 gq367 (by decide)))).symm
    have m371 := (m361).trans (fI_kept (oH368 _ (G_ne gq348 gq367 (by decide)))).symm
    have m372 := (m362).trans (fR_kept (oH368 _ (G_ne ga0 gq367 (by decide)))).symm
    have m373 := (m363).trans (fI_kept (oH368 _ (G_ne gq355 gq367 (by decide)))).symm
    have m374 := (eq364).trans (fR_kept (oH368 _ (G_ne ga0 gq367 (by decide)))).symm
    have m375 := (eq365).trans (fR_kept (oH368 _ (G_ne ga0 gq367 (by decide)))).symm
    have f376 : NBF K G H368 s.heap := (fun q hq k hk => (fV_kept (oH368 _ (G_ne hq gq367 (by decide)))).trans (f358 q hq k hk))
    refine lv_aload_n hx hb dX0_addTap_49 rfl (lv_at hl 0 rfl) ?_
    refine x_gr C hTH368 (ci := 0) (k := 4) rfl inX0 (by decide) wF_X0_21 ga0 rg_1 rfl dX0_addTap_50 (fun q377 eq377 gq377 => ?_)
    replace eq377 : @Eq Ad q377 (fR H368 a0 (K.1.2 0 4)) := eq377
    refine lv_iconst (v := 0) hx hb dX0_addTap_53 (by decide) ?_
    refine lv_aload_n hx hb dX0_addTap_54 rfl (lv_at hl 0 rfl) ?_
    refine x_gr C hTH368 (ci := 0) (k := 13) rfl inX0 (by decide) wF_X0_44 ga0 rg_1 rfl dX0_addTap_55 (fun q378 eq378 gq378 => ?_)
    replace eq378 : @Eq Ad q378 (fR H368 a0 (K.1.2 0 13)) := eq378
    refine lv_aload_n hx hb dX0_addTap_58 rfl (lv_at hl 0 rfl) ?_
    refine x_gi C hTH368 (ci := 0) (k := 14) rfl inX0 (by decide) wF_X0_66 ga0 rg_1 rfl dX0_addTap_59 (fun x379 ex379 bx379 => ?_)
    have ux379 : x345 = x379 := (m369).trans ex379.symm
    subst ux379
    refine x_ar C hTH368 rfl rfl gq378 rg_13 ⟨bx345.1, by show _ < ((12 : Nat) : Int); omega⟩ dX0_addTap_62 (fun q380 eq380 gq380 => ?_)
    replace eq380 : @Eq Ad q380 (fR H368 q378 (x345 : Int32).toNatClampNeg) := eq380
    refine lv_iconst (v := 0) hx hb dX0_addTap_63 (by decide) ?_
    refine lv_bipush (v := 16) hx hb dX0_addTap_64 (by decide) ?_
    refine x_copy C hTH368 hSH368 wM_X0_75 wNT_arraycopy wST_arraycopy wIN_J10 gq377 gq380 rg_5 rg_14 (by decide) (by omega) (by omega) (by omega) (by show _ ≤ ((16 : Nat) : Int); omega) (by show _ ≤ ((16 : Nat) : Int); omega) (AE_in gq380 (by decide)) hl.1 (by decide) dX0_addTap_66 (fun H381 locsH381 hTH381 hSH381 zH381 oH381 vH381 wH381 => ?_)
    have m382 := (m369).trans (fI_kept (oH381 _ (G_ne ga0 gq380 (by decide)))).symm
    have m383 := (m370).trans (fR_kept (oH381 _ (G_ne ga0 gq380 (by decide)))).symm
    have m384 := (m371).trans (fI_kept (oH381 _ (G_ne gq348 gq380 (by decide)))).symm
    have m385 := (m372).trans (fR_kept (oH381 _ (G_ne ga0 gq380 (by decide)))).symm
    have m386 := (m373).trans (fI_kept (oH381 _ (G_ne gq355 gq380 (by decide)))).symm
    have m387 := (m374).trans (fR_kept (oH381 _ (G_ne ga0 gq380 (by decide)))).symm
    have m388 := (m375).trans (fR_kept (oH381 _ (G_ne ga0 gq380 (by decide)))).symm
    have m389 := (eq377).trans (fR_kept (oH381 _ (G_ne ga0 gq380 (by decide)))).symm
    have m390 := (eq378).trans (fR_kept (oH381 _ (G_ne ga0 gq380 (by decide)))).symm
    have f391 : NBF K G H381 s.heap := (fun q hq k hk => (fV_kept (oH381 _ (G_ne hq gq380 (by decide)))).trans (f376 q hq k hk))
    refine lv_aload_n hx hb dX0_addTap_69 rfl (lv_at hl 0 rfl) ?_
    refine lv_dup hx hb dX0_addTap_70 rfl ?_
    refine x_gi C hTH381 (ci := 0) (k := 14) rfl inX0 (by decide) wF_X0_66 ga0 rg_1 rfl dX0_addTap_71 (fun x392 ex392 bx392 => ?_)
    have ux392 : x345 = x392 := (m382).trans ex392.symm
    subst ux392
    refine lv_iconst (v := 1) hx hb dX0_addTap_74 (by decide) ?_
    refine lv_iadd hx hb dX0_addTap_75 ?_
    refine lv_topi (fun x393 ex393 => ?_)
    have tx393 := i_add ex393 (by omega)
    refine x_put C hTH381 hSH381 (ci := 0) (k := 14) (v := .int x393) (ty0 := tyX0) rfl inX0 tyX0_ok nmX0 (by decide) rfl wF_X0_66 ga0 rg_1 rfl rfl (okI (by omega) (by omega)) rfl rfl (AE_in ga0 (by decide)) dX0_addTap_76 (fun H394 locsH394 hTH394 hSH394 wH394 => ?_)
    clear f351 m352 m353 m354
    have m396 := m383.trans (Wr.neR wH394 (Or.inr (x_apart hKT hts inX0 tyX0 tyX0_ok nmX0 rfl 10 14 (by decide) (by decide) (by decide)))).symm
    have m397 := m384.trans (Wr.neI wH394 (Or.inl (G_ne gq348 ga0 (by decide)))).symm
    have m398 := m385.trans (Wr.neR wH394 (Or.inr (x_apart hKT hts inX0 tyX0 tyX0_ok nmX0 rfl 11 14 (by decide) (by decide) (by decide)))).symm
    have m399 := m386.trans (Wr.neI wH394 (Or.inl (G_ne gq355 ga0 (by decide)))).symm
    have m400 := m387.trans (Wr.neR wH394 (Or.inr (x_apart hKT hts inX0 tyX0 tyX0_ok nmX0 rfl 1 14 (by decide) (by decide) (by decide)))).symm
    have m401 := m388.trans (Wr.neR wH394 (Or.inr (x_apart hKT hts inX0 tyX0 tyX0_ok nmX0 rfl 12 14 (by decide) (by decide) (by decide)))).symm
    have m402 := m389.trans (Wr.neR wH394 (Or.inr (x_apart hKT hts inX0 tyX0 tyX0_ok nmX0 rfl 4 14 (by decide) (by decide) (by decide)))).symm
    have m403 := m390.trans (Wr.neR wH394 (Or.inr (x_apart hKT hts inX0 tyX0 tyX0_ok nmX0 rfl 13 14 (by decide) (by decide) (by decide)))).symm
    have m404 := Wr.I wH394
    have m404 := m404.symm
    have f405 : NBF K G H394 s.heap := fun q hq k hk => (Wr.neV wH394 (Or.inr (hapB k 14 (by omega) (by decide) (by omega)))).trans (f391 q hq k hk)
    exact x_vret C hQ dX0_addTap_79 hSH394 (by decide) (by decide) (⟨rfl, f405, hTH394⟩)

set_option maxHeartbeats 4000000 in
set_option maxRecDepth 100000 in
theorem a_X9_tap_n (l : Launch) (K : KE) (G : Nat → Option Nat) (H : Heap) {a0 : Nat} (x1 : Int32) (x2 : Int32) (x3 : Int32) (hT : TY K G H) (ga0 : G a0 = some 68) : MX l K yX9_tap cX9_tap 5 (some .int) 2 62 0 0 [.ref a0, .int x1, .int x2, .int x3] H (AE G [1, 9, 10, 12, 14] H.size) (fun v H1 => ∃ (r : Int32), v = some (.int r) ∧ (NBF K G H1 H) ∧ TY K G H1) := by
  refine MX.of (by decide +kernel) (Nat.le_of_ble_eq_true rfl) ?_
  intro p e s m below meth c ls Q C hH hl hQ
  subst hH
  have C : CX p K s m _ meth c RX9 cX9_tap 5 (some .int) "tap" := C
  obtain ⟨hx, hb, hml, hown, hts, hKT, hr, hlocks, hnm⟩ := id C
  have hl : lv_has ls 5 [(0, .ref a0), (1, .int x1), (2, .int x2), (3, .int x3)] := hl
  have hS : va_S (AE G [1, 9, 10, 12, 14] s.heap.size) s.heap s.heap [] := va_S.rf
  have n_m1 : ((-1) : Int32).toInt = -1 := rfl
  have n_0 : (0 : Int32).toInt = 0 := rfl
  have n_1 : (1 : Int32).toInt = 1 := rfl
  have n_12 : (12 : Int32).toInt = 12 := rfl
  have n_9999999 : (9999999 : Int32).toInt = 9999999 := rfl
  have hapB : ∀ x y, x < 18 → y < 18 → x ≠ y → K.1.2 0 x ≠ K.1.2 0 y := x_apart hKT hts inX0 tyX0 tyX0_ok nmX0 rfl
  have f0_nb : NBF K G s.heap s.heap := NBF.rf
  refine lv_aload_n hx hb dX9_tap_0 rfl (lv_at hl 0 rfl) ?_
  refine lv_iload_n hx hb dX9_tap_1 rfl (lv_at hl 1 rfl) ?_
  refine x_V (As := [.int x1]) (rest := []) C (a_X9_barAt l K G s.heap (x1) hT ga0) yo_X9_barAt wM_X9_78 ⟨⟨by decide, by decide⟩, by decide, by decide⟩ (x_rv C hT (ci := 9) rfl ga0 rg_68) rfl hl.1 rfl (Nat.le_of_ble_eq_true rfl) dX9_tap_2 hS (AE_sub (fun _ _ => rfl) (by decide) hS.1) (fun vH193 H193 locsH193 pH193 zH193 kH193 hSH193 => ?_)
  have hTH193 := pH193.2
  have f194 : NBF K G H193 s.heap := (fun q hq k hk => (fV_kept (x_lt hT kH193 hq (by decide))).trans (f0_nb q hq k hk))
  rcases pH193.1 with hvH193 | ⟨q195, hvH193, gq195⟩
  · skip
    subst hvH193
    refine W.eq (g2 := F0 m 5 ls [.null]) rfl ?_
    refine lv_astoreN (lv' := [(4, .null), (0, .ref a0), (1, .int x1), (2, .int x2), (3, .int x3)]) hx hb dX9_tap_5 hl (by decide) rfl (fun ls196 hl197 => ?_)
    refine lv_aloadN hx hb dX9_tap_7 (lv_at hl197 0 rfl) ?_
    refine lv_ifnullN (tgt := 39) hx hb dX9_tap_9 (by decide) ?_
    refine lv_iconst (v := (-1)) hx hb dX9_tap_39 (by decide) ?_
    exact x_iret C hQ dX9_tap_40 hSH193 (by decide) (by decide) (⟨(-1), rfl, f194, hTH193⟩)
  · skip
    subst hvH193
    refine W.eq (g2 := F0 m 5 ls [.ref q195]) rfl ?_
    refine lv_astore (lv' := [(4, .ref q195), (0, .ref a0), (1, .int x1), (2, .int x2), (3, .int x3)]) hx hb dX9_tap_5 hl (by decide) rfl (fun ls198 hl199 => ?_)
    refine lv_aload hx hb dX9_tap_7 (lv_at hl199 0 rfl) ?_
    refine lv_ifnull hx hb dX9_tap_9 ?_
    refine lv_iload_n hx hb dX9_tap_12 rfl (lv_at hl199 3 rfl) ?_
    refine x_S (As := [.int x2]) (rest := []) C (c_X9_isTone l K G H193 (x2) hTH193) yo_X9_isTone wM_X9_150 ⟨⟨by decide, by decide⟩, by decide, by decide⟩ rfl hl199.1 rfl (Nat.le_of_ble_eq_true rfl) dX9_tap_13 hSH193 (AE_sub (fun _ _ => rfl) (by decide) hSH193.1) (fun vH200 H200 locsH200 pH200 zH200 kH200 hSH200 => ?_)
    have hqH200 := pH200.1.symm
    subst hqH200
    rcases pH200.2 with ⟨hvH200, hcH200⟩ | ⟨hvH200, hcH200⟩
    · subst hvH200
      refine W.eq (g2 := F0 m 16 ls198 [.int 1]) rfl ?_
      refine lv_if_eq (tgt := 39) hx hb dX9_tap_16 (by decide) (fun c201 => ?_) (fun c201 => ?_)
      · have k202 := i_eq c201
        exfalso
        omega
      · have k202 := i_ne c201
        refine lv_iload_n hx hb dX9_tap_19 rfl (lv_at hl199 4 rfl) ?_
        refine lv_iconst (v := 0) hx hb dX9_tap_20 (by decide) ?_
        refine lv_ldc (v := 9999999) hx hb hown (hts _ wK_X9_242) dX9_tap_21 ?_
        refine x_S (As := [.int x3, .int 0, .int 9999999]) (rest := []) C (c_X9_within l K G H193 (x3) (0) (9999999) hTH193) yo_X9_within wM_X9_89 ⟨⟨by decide, by decide⟩, by decide, by decide⟩ rfl hl199.1 rfl (Nat.le_of_ble_eq_true rfl) dX9_tap_23 hSH200 (AE_sub (fun _ _ => rfl) (by decide) hSH200.1) (fun vH203 H203 locsH203 pH203 zH203 kH203 hSH203 => ?_)
        have hqH203 := pH203.1.symm
        subst hqH203
        rcases pH203.2 with ⟨hvH203, hcH203⟩ | ⟨hvH203, hcH203⟩
        · subst hvH203
          refine W.eq (g2 := F0 m 26 ls198 [.int 1]) rfl ?_
          refine lv_if_eq (tgt := 39) hx hb dX9_tap_26 (by decide) (fun c204 => ?_) (fun c204 => ?_)
          · have k205 := i_eq c204
            exfalso
            omega
          · have k205 := i_ne c204
            refine lv_aload hx hb dX9_tap_29 (lv_at hl199 0 rfl) ?_
            refine x_gi C hTH193 (ci := 0) (k := 14) rfl inX0 (by decide) wF_X9_200 gq195 rg_1 rfl dX9_tap_31 (fun x206 ex206 bx206 => ?_)
            refine lv_bipush (v := 12) hx hb dX9_tap_34 (by decide) ?_
            refine lv_icmp_lt (tgt := 41) hx hb dX9_tap_36 (by decide) (fun c207 => ?_) (fun c207 => ?_)
            · have k208 := i_lt c207
              refine lv_aload hx hb dX9_tap_41 (lv_at hl199 0 rfl) ?_
              refine lv_iload_n hx hb dX9_tap_43 rfl (lv_at hl199 3 rfl) ?_
              refine lv_iload_n hx hb dX9_tap_44 rfl (lv_at hl199 4 rfl) ?_
              refine x_V (As := [.int x2, .int x3]) (rest := []) C (a_X0_addTap_n l K G H193 (x2) (x3) hTH193 gq195) yo_X0_addTap wM_X9_243 ⟨⟨by decide, by decide⟩, by decide, by decide⟩ (x_rv C hTH193 (ci := 0) rfl gq195 rg_1) rfl hl199.1 rfl (Nat.le_of_ble_eq_true rfl) dX9_tap_45 hSH203 (AE_sub (fun _ _ => rfl) (by decide) hSH203.1) (fun vH209 H209 locsH209 pH209 zH209 kH209 hSH209 => ?_)
              obtain ⟨hvH209, m210, hTH209⟩ := pH209
              subst hvH209
              have f211 : NBF K G H209 s.heap := NBF.st m210 f194
              refine W.eq (g2 := F0 m 48 ls198 []) rfl ?_
              refine lv_aload hx hb dX9_tap_48 (lv_at hl199 0 rfl) ?_
              refine x_gi C hTH209 (ci := 0) (k := 14) rfl inX0 (by decide) wF_X9_200 gq195 rg_1 rfl dX9_tap_50 (fun x212 ex212 bx212 => ?_)
              exact x_iret C hQ dX9_tap_53 hSH209 (by decide) (by decide) (⟨x212, rfl, f211, hTH209⟩)
            · have k208 := i_nlt c207
              refine lv_iconst (v := (-1)) hx hb dX9_tap_39 (by decide) ?_
              exact x_iret C hQ dX9_tap_40 hSH203 (by decide) (by decide) (⟨(-1), rfl, f194, hTH193⟩)
        · subst hvH203
          refine W.eq (g2 := F0 m 26 ls198 [.int 0]) rfl ?_
          refine lv_if_eq (tgt := 39) hx hb dX9_tap_26 (by decide) (fun c213 => ?_) (fun c213 => ?_)
          · have k214 := i_eq c213
            refine lv_iconst (v := (-1)) hx hb dX9_tap_39 (by decide) ?_
            exact x_iret C hQ dX9_tap_40 hSH203 (by decide) (by decide) (⟨(-1), rfl, f194, hTH193⟩)
          · have k214 := i_ne c213
            exfalso
            omega
    · subst hvH200
      refine W.eq (g2 := F0 m 16 ls198 [.int 0]) rfl ?_
      refine lv_if_eq (tgt := 39) hx hb dX9_tap_16 (by decide) (fun c215 => ?_) (fun c215 => ?_)
      · have k216 := i_eq c215
        refine lv_iconst (v := (-1)) hx hb dX9_tap_39 (by decide) ?_
        exact x_iret C hQ dX9_tap_40 hSH200 (by decide) (by decide) (⟨(-1), rfl, f194, hTH193⟩)
      · have k216 := i_ne c215
        exfalso
        omega

set_option maxHeartbeats 4000000 in
set_option maxRecDepth 100000 in
theorem a_X9_holes_n (l : Launch) (K : KE) (G : Nat → Option Nat) (H : Heap) {a0 : Nat} (x1 : Int32) (x2 : Int32) (x3 : Int32) (hT : TY K G H) (ga0 : G a0 = some 68) : MX l K yX9_holes cX9_holes 5 (some .boolean) 2 43 0 0 [.ref a0, .int x1, .int x2, .int x3] H (AE G [1] H.size) (fun v H1 => ∃ (r : Int32), v = some (.int r) ∧ (0 ≤ r.toInt ∧ r.toInt ≤ 1) ∧ (NBF K G H1 H) ∧ TY K G H1) := by
  refine MX.of (by decide +kernel) (Nat.le_of_ble_eq_true rfl) ?_
  intro p e s m below meth c ls Q C hH hl hQ
  subst hH
  have C : CX p K s m _ meth c RX9 cX9_holes 5 (some .boolean) "holes" := C
  obtain ⟨hx, hb, hml, hown, hts, hKT, hr, hlocks, hnm⟩ := id C
  have hl : lv_has ls 5 [(0, .ref a0), (1, .int x1), (2, .int x2), (3, .int x3)] := hl
  have hS : va_S (AE G [1] s.heap.size) s.heap s.heap [] := va_S.rf
  have n_0 : (0 : Int32).toInt = 0 := rfl
  have n_1 : (1 : Int32).toInt = 1 := rfl
  have hapB : ∀ x y, x < 18 → y < 18 → x ≠ y → K.1.2 0 x ≠ K.1.2 0 y := x_apart hKT hts inX0 tyX0 tyX0_ok nmX0 rfl
  have f0_nb : NBF K G s.heap s.heap := NBF.rf
  refine lv_aload_n hx hb dX9_holes_0 rfl (lv_at hl 0 rfl) ?_
  refine lv_iload_n hx hb dX9_holes_1 rfl (lv_at hl 1 rfl) ?_
  refine x_V (As := [.int x1]) (rest := []) C (a_X9_barAt l K G s.heap (x1) hT ga0) yo_X9_barAt wM_X9_78 ⟨⟨by decide, by decide⟩, by decide, by decide⟩ (x_rv C hT (ci := 9) rfl ga0 rg_68) rfl hl.1 rfl (Nat.le_of_ble_eq_true rfl) dX9_holes_2 hS (AE_sub (fun _ _ => rfl) (by decide) hS.1) (fun vH205 H205 locsH205 pH205 zH205 kH205 hSH205 => ?_)
  have hTH205 := pH205.2
  have f206 : NBF K G H205 s.heap := (fun q hq k hk => (fV_kept (x_lt hT kH205 hq (by decide))).trans (f0_nb q hq k hk))
  rcases pH205.1 with hvH205 | ⟨q207, hvH205, gq207⟩
  · skip
    subst hvH205
    refine W.eq (g2 := F0 m 5 ls [.null]) rfl ?_
    refine lv_astoreN (lv' := [(4, .null), (0, .ref a0), (1, .int x1), (2, .int x2), (3, .int x3)]) hx hb dX9_holes_5 hl (by decide) rfl (fun ls208 hl209 => ?_)
    refine lv_aloadN hx hb dX9_holes_7 (lv_at hl209 0 rfl) ?_
    refine lv_ifnullN (tgt := 35) hx hb dX9_holes_9 (by decide) ?_
    refine lv_iconst (v := 0) hx hb dX9_holes_35 (by decide) ?_
    exact x_zret C hQ (Or.inl rfl) dX9_holes_36 hSH205 (by decide) (by decide) (⟨0, rfl, by decide, f206, hTH205⟩)
  · skip
    subst hvH205
    refine W.eq (g2 := F0 m 5 ls [.ref q207]) rfl ?_
    refine lv_astore (lv' := [(4, .ref q207), (0, .ref a0), (1, .int x1), (2, .int x2), (3, .int x3)]) hx hb dX9_holes_5 hl (by decide) rfl (fun ls210 hl211 => ?_)
    refine lv_aload hx hb dX9_holes_7 (lv_at hl211 0 rfl) ?_
    refine lv_ifnull hx hb dX9_holes_9 ?_
    refine lv_aload hx hb dX9_holes_12 (lv_at hl211 0 rfl) ?_
    refine lv_iload_n hx hb dX9_holes_14 rfl (lv_at hl211 3 rfl) ?_
    refine x_V (As := [.int x2]) (rest := []) C (a_X0_has l K G H205 (x2) hTH205 gq207) yo_X0_has wM_X9_82 ⟨⟨by decide, by decide⟩, by decide, by decide⟩ (x_rv C hTH205 (ci := 0) rfl gq207 rg_1) rfl hl211.1 rfl (Nat.le_of_ble_eq_true rfl) dX9_holes_15 hSH205 (AE_sub (fun _ _ => rfl) (by decide) hSH205.1) (fun vH212 H212 locsH212 pH212 zH212 kH212 hSH212 => ?_)
    have hqH212 := pH212.1.symm
    subst hqH212
    rcases pH212.2 with ⟨hvH212, hcH212⟩ | hvH212
    · subst hvH212
      refine W.eq (g2 := F0 m 18 ls210 [.int 1]) rfl ?_
      refine lv_if_eq (tgt := 35) hx hb dX9_holes_18 (by decide) (fun c213 => ?_) (fun c213 => ?_)
      · have k214 := i_eq c213
        exfalso
        omega
      · have k214 := i_ne c213
        refine lv_aload hx hb dX9_holes_21 (lv_at hl211 0 rfl) ?_
        refine lv_iload_n hx hb dX9_holes_23 rfl (lv_at hl211 4 rfl) ?_
        refine x_V (As := [.int x3]) (rest := []) C (a_X0_has l K G H205 (x3) hTH205 gq207) yo_X0_has wM_X9_82 ⟨⟨by decide, by decide⟩, by decide, by decide⟩ (x_rv C hTH205 (ci := 0) rfl gq207 rg_1) rfl hl211.1 rfl (Nat.le_of_ble_eq_true rfl) dX9_holes_24 hSH212 (AE_sub (fun _ _ => rfl) (by decide) hSH212.1) (fun vH215 H215 locsH215 pH215 zH215 kH215 hSH215 => ?_)
        have hqH215 := pH215.1.symm
        subst hqH215
        rcases pH215.2 with ⟨hvH215, hcH215⟩ | hvH215
        · subst hvH215
          refine W.eq (g2 := F0 m 27 ls210 [.int 1]) rfl ?_
          refine lv_if_eq (tgt := 35) hx hb dX9_holes_27 (by decide) (fun c216 => ?_) (fun c216 => ?_)
          · have k217 := i_eq c216
            exfalso
            omega
          · have k217 := i_ne c216
            refine lv_iload_n hx hb dX9_holes_30 rfl (lv_at hl211 3 rfl) ?_
            refine lv_iload_n hx hb dX9_holes_31 rfl (lv_at hl211 4 rfl) ?_
            refine lv_icmp_lt (tgt := 37) hx hb dX9_holes_32 (by decide) (fun c218 => ?_) (fun c218 => ?_)
            · have k219 := i_lt c218
              refine lv_aload hx hb dX9_holes_37 (lv_at hl211 0 rfl) ?_
              refine lv_iload_n hx hb dX9_holes_39 rfl (lv_at hl211 3 rfl) ?_
              refine x_put C hTH205 hSH215 (ci := 0) (k := 15) (v := .int x2) (ty0 := tyX0) rfl inX0 tyX0_ok nmX0 (by decide) rfl wF_X9_266 gq207 rg_1 rfl rfl (okI (i_rng x2).1 (i_rng x2).2) rfl rfl (AE_in gq207 (by decide)) dX9_holes_40 (fun H220 locsH220 hTH220 hSH220 wH220 => ?_)
              have m221 := Wr.I wH220
              have m221 := m221.symm
              have f222 : NBF K G H220 s.heap := fun q hq k hk => (Wr.neV wH220 (Or.inr (hapB k 15 (by omega) (by decide) (by omega)))).trans (f206 q hq k hk)
              refine lv_aload hx hb dX9_holes_43 (lv_at hl211 0 rfl) ?_
              refine lv_iload_n hx hb dX9_holes_45 rfl (lv_at hl211 4 rfl) ?_
              refine x_put C hTH220 hSH220 (ci := 0) (k := 16) (v := .int x3) (ty0 := tyX0) rfl inX0 tyX0_ok nmX0 (by decide) rfl wF_X9_269 gq207 rg_1 rfl rfl (okI (i_rng x3).1 (i_rng x3).2) rfl rfl (AE_in gq207 (by decide)) dX9_holes_46 (fun H223 locsH223 hTH223 hSH223 wH223 => ?_)
              clear f206
              have m224 := m221.trans (Wr.neI wH223 (Or.inr (x_apart hKT hts inX0 tyX0 tyX0_ok nmX0 rfl 15 16 (by decide) (by decide) (by decide)))).symm
              have m225 := Wr.I wH223
              have m225 := m225.symm
              have f226 : NBF K G H223 s.heap := fun q hq k hk => (Wr.neV wH223 (Or.inr (hapB k 16 (by omega) (by decide) (by omega)))).trans (f222 q hq k hk)
              refine lv_iconst (v := 1) hx hb dX9_holes_49 (by decide) ?_
              exact x_zret C hQ (Or.inr rfl) dX9_holes_50 hSH223 (by decide) (by decide) (⟨1, rfl, by decide, f226, hTH223⟩)
            · have k219 := i_nlt c218
              refine lv_iconst (v := 0) hx hb dX9_holes_35 (by decide) ?_
              exact x_zret C hQ (Or.inl rfl) dX9_holes_36 hSH215 (by decide) (by decide) (⟨0, rfl, by decide, f206, hTH205⟩)
        · subst hvH215
          refine W.eq (g2 := F0 m 27 ls210 [.int 0]) rfl ?_
          refine lv_if_eq (tgt := 35) hx hb dX9_holes_27 (by decide) (fun c227 => ?_) (fun c227 => ?_)
          · have k228 := i_eq c227
            refine lv_iconst (v := 0) hx hb dX9_holes_35 (by decide) ?_
            exact x_zret C hQ (Or.inl rfl) dX9_holes_36 hSH215 (by decide) (by decide) (⟨0, rfl, by decide, f206, hTH205⟩)
          · have k228 := i_ne c227
            exfalso
            omega
    · subst hvH212
      refine W.eq (g2 := F0 m 18 ls210 [.int 0]) rfl ?_
      refine lv_if_eq (tgt := 35) hx hb dX9_holes_18 (by decide) (fun c229 => ?_) (fun c229 => ?_)
      · have k230 := i_eq c229
        refine lv_iconst (v := 0) hx hb dX9_holes_35 (by decide) ?_
        exact x_zret C hQ (Or.inl rfl) dX9_holes_36 hSH212 (by decide) (by decide) (⟨0, rfl, by decide, f206, hTH205⟩)
      · have k230 := i_ne c229
        exfalso
        omega
