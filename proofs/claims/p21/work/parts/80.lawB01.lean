set_option maxRecDepth 100000 in
set_option maxHeartbeats 8000000 in
theorem lw_c4 {p : Program} {l : Launch} {e : Env} {s : State} {m : MethodId} {below : List Frame} {meth : Method} {c : Code} {K : KE} {b0 L : Nat} {xs : Nat → Int32} {G : Nat → Option Nat} {H : Heap} {locs : List Loc} {a b : Nat} {cells slots : Nat} {ls : Array Slot} {i : Int32} {n : Nat} (D : LC p K s m meth c b0 L xs) (S : SX K s G H locs a b) (hl : lv_has ls 4 [(3, .int i), (2, .ref b), (1, .ref a), (0, .ref b0)]) (hi : 0 ≤ i.toInt ∧ i.toInt + 6 ≤ L) (hn : n ≤ 511) (hB : BD K H a cells slots) (nx : ∀ (G : Nat → Option Nat) (H : Heap) (locs : List Loc) (cells slots : Nat) (ls : Array Slot), SX K s G H locs a b → lv_has ls 4 [(3, .int i), (2, .ref b), (1, .ref a), (0, .ref b0)] → BD K H a cells slots → W p l e room_1 s m #[Value.ref b0] below meth c H locs cells slots (lw_Z below #[Value.ref b0] s) (F0 m 1509 ls [])) : W p l e room_1 s m #[Value.ref b0] below meth c H locs cells slots (lw_Z below #[Value.ref b0] s) (F0 m 360 ls []) := by
  have hI := hi
  obtain ⟨C, hX, hbl, hL⟩ := id D
  obtain ⟨hx, hb, hml, hown, hts, hKT, hr, hlocks, hnm⟩ := id C
  obtain ⟨hT, hN, ga, gb, cg, tu, wd, im, ⟨rt, r1, r4, r5, r10, r13, r16⟩, hk, hrb, hS⟩ := S
  obtain ⟨hc, hs, hB0⟩ := hB
  have n_m1 : ((-1) : Int32).toInt = -1 := rfl
  have n_0 : (0 : Int32).toInt = 0 := rfl
  have n_1 : (1 : Int32).toInt = 1 := rfl
  have n_2 : (2 : Int32).toInt = 2 := rfl
  have n_3 : (3 : Int32).toInt = 3 := rfl
  have n_4 : (4 : Int32).toInt = 4 := rfl
  have n_5 : (5 : Int32).toInt = 5 := rfl
  obtain ⟨w, ew⟩ : ∃ z : Nat, z = fR H a (K.1.2 9 0) := ⟨_, rfl⟩
  have gw := ty_fr (q := w) (k := 0) (u := 0) ew hT ga rg_68 rfl
  rw [← ew] at r1 r4 r5 r10 r13 r16
  obtain ⟨ta, eta⟩ : ∃ z : Int32, z = fI H a (K.1.2 9 3) := ⟨_, rfl⟩
  rw [← eta] at rt
  obtain ⟨tb, etb⟩ : ∃ z : Int32, z = fI H b (K.1.2 10 18) := ⟨_, rfl⟩
  rw [← etb] at rt
  obtain ⟨s1, es1⟩ : ∃ z : Int32, z = fI H w (K.1.2 8 1) := ⟨_, rfl⟩
  rw [← es1] at r1
  obtain ⟨y1, ey1⟩ : ∃ z : Int32, z = fI H b (K.1.2 10 1) := ⟨_, rfl⟩
  rw [← ey1] at r1
  obtain ⟨s4, es4⟩ : ∃ z : Int32, z = fI H w (K.1.2 8 4) := ⟨_, rfl⟩
  rw [← es4] at r4
  obtain ⟨y4, ey4⟩ : ∃ z : Int32, z = fI H b (K.1.2 10 2) := ⟨_, rfl⟩
  rw [← ey4] at r4
  obtain ⟨s5, es5⟩ : ∃ z : Int32, z = fI H w (K.1.2 8 5) := ⟨_, rfl⟩
  rw [← es5] at r5
  obtain ⟨y5, ey5⟩ : ∃ z : Int32, z = fI H b (K.1.2 10 3) := ⟨_, rfl⟩
  rw [← ey5] at r5
  obtain ⟨s10, es10⟩ : ∃ z : Int32, z = fI H w (K.1.2 8 10) := ⟨_, rfl⟩
  rw [← es10] at r10
  obtain ⟨y10, ey10⟩ : ∃ z : Int32, z = fI H b (K.1.2 10 59) := ⟨_, rfl⟩
  rw [← ey10] at r10
  obtain ⟨s13, es13⟩ : ∃ z : Int32, z = fI H w (K.1.2 8 13) := ⟨_, rfl⟩
  rw [← es13] at r13
  obtain ⟨y13, ey13⟩ : ∃ z : Int32, z = fI H b (K.1.2 10 62) := ⟨_, rfl⟩
  rw [← ey13] at r13
  obtain ⟨s16, es16⟩ : ∃ z : Int32, z = fI H w (K.1.2 8 16) := ⟨_, rfl⟩
  rw [← es16] at r16
  obtain ⟨y16, ey16⟩ : ∃ z : Int32, z = fI H b (K.1.2 10 65) := ⟨_, rfl⟩
  rw [← ey16] at r16
  obtain ⟨bq, ebq⟩ : ∃ z : Nat, z = fR H w (K.1.2 8 0) := ⟨_, rfl⟩
  have gbq := ty_fr (q := bq) (k := 0) (u := 25) ebq hT gw rg_0 rfl
  obtain ⟨aq, eaq⟩ : ∃ z : Nat, z = fR H b (K.1.2 10 50) := ⟨_, rfl⟩
  have gaq := ty_fr (q := aq) (k := 50) (u := 146) eaq hT gb rg_112 rfl
  have bs1 := ty_fi (x := s1) (k := 1) es1 hT gw rg_0 rfl
  have by1 := ty_fi (x := y1) (k := 1) ey1 hT gb rg_112 rfl
  obtain ⟨db, vr, vt⟩ := hrb
  rw [← ew, ← ebq] at db
  rw [← ew, ← ebq, ← eaq, ← ey1] at vr
  rw [← eaq, ← ey1] at vt
  obtain ⟨cz101, ecz101⟩ : ∃ f : Nat → Int32, ∀ j : Nat, j < 10 → f j = fI H (fR H bq j) (K.1.2 0 14) := ⟨_, fun _ _ => rfl⟩
  obtain ⟨rz102, erz102⟩ : ∃ f : Nat → Int32, ∀ j : Nat, j < 10 → f j = fI H aq j := ⟨_, fun _ _ => rfl⟩
  have rel : ∀ j : Nat, j < 10 → (j : Int) < y1.toInt → cz101 j = rz102 j := fun j h1 h2 => by rw [ecz101 j h1, erz102 j h1]; exact vr j h1 h2
  clear vr
  have tl : ∀ j : Nat, j < 10 → y1.toInt ≤ (j : Int) → rz102 j = 0 := fun j h1 h2 => by rw [erz102 j h1]; exact vt j h1 h2
  clear vt
  rcases hk with ⟨kn, h70⟩ | ⟨kq, kn, gkq, h70, q1, q4, q5, q10, q13, q16, dbk, vk, vkt⟩
  · skip
    obtain ⟨hi, ehi⟩ : ∃ z : Int32, z = fI H b (K.1.2 10 70) := ⟨_, rfl⟩
    rw [← ehi] at h70
    obtain ⟨hc0, hs0⟩ := hB0 kn
    obtain ⟨iq, eiq⟩ : ∃ z : Nat, z = fR H b (K.1.2 10 73) := ⟨_, rfl⟩
    have giq := ty_fr (q := iq) (k := 73) (u := 162) eiq hT gb rg_112 rfl
    refine lv_aload_n hx hb dL_law_360 rfl (lv_at hl 2 rfl) ?_
    refine lv_aload_n hx hb dL_law_361 rfl (lv_at hl 3 rfl) ?_
    refine lv_iload_n hx hb dL_law_362 rfl (lv_at hl 0 rfl) ?_
    refine lv_iconst (v := 1) hx hb dL_law_363 (by decide) ?_
    refine lv_iadd hx hb dL_law_364 ?_
    refine lv_topi (fun x103 ex103 => ?_)
    obtain ⟨tx103, ejx103, evx103⟩ := lw_ix (k := 1) ex103 hI hL rfl (by decide)
    clear tx103
    refine va_sld hx hb hX hbl (Nat.not_le.mpr hbl) hS (vp_in_iff.mpr evx103) dL_law_365 ?_
    refine W.eq (g2 := F0 m 366 ls [.int (xs (i.toNatClampNeg + 1)), .ref a]) (congrArg (fun z => F0 m 366 ls [.int (xs z), .ref a]) ejx103) ?_
    refine lv_aload_n hx hb dL_law_366 rfl (lv_at hl 3 rfl) ?_
    refine lv_iload_n hx hb dL_law_367 rfl (lv_at hl 0 rfl) ?_
    refine lv_iconst (v := 2) hx hb dL_law_368 (by decide) ?_
    refine lv_iadd hx hb dL_law_369 ?_
    refine lv_topi (fun x104 ex104 => ?_)
    obtain ⟨tx104, ejx104, evx104⟩ := lw_ix (k := 2) ex104 hI hL rfl (by decide)
    clear tx104
    refine va_sld hx hb hX hbl (Nat.not_le.mpr hbl) hS (vp_in_iff.mpr evx104) dL_law_370 ?_
    refine W.eq (g2 := F0 m 371 ls [.int (xs (i.toNatClampNeg + 2)), .int (xs (i.toNatClampNeg + 1)), .ref a]) (congrArg (fun z => F0 m 371 ls [.int (xs z), .int (xs (i.toNatClampNeg + 1)), .ref a]) ejx104) ?_
    refine lv_aload_n hx hb dL_law_371 rfl (lv_at hl 3 rfl) ?_
    refine lv_iload_n hx hb dL_law_372 rfl (lv_at hl 0 rfl) ?_
    refine lv_iconst (v := 3) hx hb dL_law_373 (by decide) ?_
    refine lv_iadd hx hb dL_law_374 ?_
    refine lv_topi (fun x105 ex105 => ?_)
    obtain ⟨tx105, ejx105, evx105⟩ := lw_ix (k := 3) ex105 hI hL rfl (by decide)
    clear tx105
    refine va_sld hx hb hX hbl (Nat.not_le.mpr hbl) hS (vp_in_iff.mpr evx105) dL_law_375 ?_
    refine W.eq (g2 := F0 m 376 ls [.int (xs (i.toNatClampNeg + 3)), .int (xs (i.toNatClampNeg + 2)), .int (xs (i.toNatClampNeg + 1)), .ref a]) (congrArg (fun z => F0 m 376 ls [.int (xs z), .int (xs (i.toNatClampNeg + 2)), .int (xs (i.toNatClampNeg + 1)), .ref a]) ejx105) ?_
    refine lv_aload_n hx hb dL_law_376 rfl (lv_at hl 3 rfl) ?_
    refine lv_iload_n hx hb dL_law_377 rfl (lv_at hl 0 rfl) ?_
    refine lv_iconst (v := 4) hx hb dL_law_378 (by decide) ?_
    refine lv_iadd hx hb dL_law_379 ?_
    refine lv_topi (fun x106 ex106 => ?_)
    obtain ⟨tx106, ejx106, evx106⟩ := lw_ix (k := 4) ex106 hI hL rfl (by decide)
    clear tx106
    refine va_sld hx hb hX hbl (Nat.not_le.mpr hbl) hS (vp_in_iff.mpr evx106) dL_law_380 ?_
    refine W.eq (g2 := F0 m 381 ls [.int (xs (i.toNatClampNeg + 4)), .int (xs (i.toNatClampNeg + 3)), .int (xs (i.toNatClampNeg + 2)), .int (xs (i.toNatClampNeg + 1)), .ref a]) (congrArg (fun z => F0 m 381 ls [.int (xs z), .int (xs (i.toNatClampNeg + 3)), .int (xs (i.toNatClampNeg + 2)), .int (xs (i.toNatClampNeg + 1)), .ref a]) ejx106) ?_
    refine lv_aload_n hx hb dL_law_381 rfl (lv_at hl 3 rfl) ?_
    refine lv_iload_n hx hb dL_law_382 rfl (lv_at hl 0 rfl) ?_
    refine lv_iconst (v := 5) hx hb dL_law_383 (by decide) ?_
    refine lv_iadd hx hb dL_law_384 ?_
    refine lv_topi (fun x107 ex107 => ?_)
    obtain ⟨tx107, ejx107, evx107⟩ := lw_ix (k := 5) ex107 hI hL rfl (by decide)
    clear tx107
    refine va_sld hx hb hX hbl (Nat.not_le.mpr hbl) hS (vp_in_iff.mpr evx107) dL_law_385 ?_
    refine W.eq (g2 := F0 m 386 ls [.int (xs (i.toNatClampNeg + 5)), .int (xs (i.toNatClampNeg + 4)), .int (xs (i.toNatClampNeg + 3)), .int (xs (i.toNatClampNeg + 2)), .int (xs (i.toNatClampNeg + 1)), .ref a]) (congrArg (fun z => F0 m 386 ls [.int (xs z), .int (xs (i.toNatClampNeg + 4)), .int (xs (i.toNatClampNeg + 3)), .int (xs (i.toNatClampNeg + 2)), .int (xs (i.toNatClampNeg + 1)), .ref a]) ejx107) ?_
    refine x_V (As := [.int (xs (i.toNatClampNeg + 1)), .int (xs (i.toNatClampNeg + 2)), .int (xs (i.toNatClampNeg + 3)), .int (xs (i.toNatClampNeg + 4)), .int (xs (i.toNatClampNeg + 5))]) (rest := []) C (a_X9_feed_r l K G H ((xs (i.toNatClampNeg + 1))) ((xs (i.toNatClampNeg + 2))) ((xs (i.toNatClampNeg + 3))) ((xs (i.toNatClampNeg + 4))) ((xs (i.toNatClampNeg + 5))) (ta) hT ga gw ew eta kn) yo_X9_feed wM_L_33 ⟨⟨by decide, by decide⟩, show _ ≤ 1200000 from Nat.le_trans hc (by decide), show _ ≤ 5502250 from Nat.le_trans hs (by decide)⟩ (x_rv C hT (ci := 9) rfl ga rg_68) rfl hl.1 rfl (Nat.le_of_ble_eq_true rfl) dL_law_386 hS (AE_new hN hS.1) (fun vH108 H108 locsH108 pH108 zH108 kH108 hSH108 => ?_)
    obtain ⟨x109, x110, hvH108, ex110, hrH108, m111, m112, hTH108⟩ := pH108
    subst hvH108
    have g113 : CG (avw K H108 b) := CG.congr (fun k hk j => av_eff hT kH108 gb (by decide) (CG_eff [68, 108] (by decide) k hk)) cg
    have g114 : TU (avw K H108 b) (svw K H108 b) := TU.congr (fun k hk j => av_eff hT kH108 gb (by decide) (TU_eff [68, 108] (by decide) k hk)) (fun k hk => sv_eff hT kH108 gb (by decide)) tu
    have g115 : WD (avw K H108 b) := WD.congr (fun k hk j => av_eff hT kH108 gb (by decide) (WD_eff [68, 108] (by decide) k hk)) wd
    have g116 : IM (avw K H108 b) := IM.congr (fun k hk j => av_eff hT kH108 gb (by decide) (IM_eff [68, 108] (by decide) k hk)) im
    have m117 := (etb).trans (fI_kept (x_lt hT kH108 gb (by decide))).symm
    have m118 := (es1).trans (fI_kept (x_lt hT kH108 gw (by decide))).symm
    have m119 := (ey1).trans (fI_kept (x_lt hT kH108 gb (by decide))).symm
    have m120 := (es4).trans (fI_kept (x_lt hT kH108 gw (by decide))).symm
    have m121 := (ey4).trans (fI_kept (x_lt hT kH108 gb (by decide))).symm
    have m122 := (es5).trans (fI_kept (x_lt hT kH108 gw (by decide))).symm
    have m123 := (ey5).trans (fI_kept (x_lt hT kH108 gb (by decide))).symm
    have m124 := (es10).trans (fI_kept (x_lt hT kH108 gw (by decide))).symm
    have m125 := (ey10).trans (fI_kept (x_lt hT kH108 gb (by decide))).symm
    have m126 := (es13).trans (fI_kept (x_lt hT kH108 gw (by decide))).symm
    have m127 := (ey13).trans (fI_kept (x_lt hT kH108 gb (by decide))).symm
    have m128 := (es16).trans (fI_kept (x_lt hT kH108 gw (by decide))).symm
    have m129 := (ey16).trans (fI_kept (x_lt hT kH108 gb (by decide))).symm
    have m130 := (ebq).trans (fR_kept (x_lt hT kH108 gw (by decide))).symm
    have m131 := (eaq).trans (fR_kept (x_lt hT kH108 gb (by decide))).symm
    have m132 := (ehi).trans (fI_kept (x_lt hT kH108 gb (by decide))).symm
    have m133 := (eiq).trans (fR_kept (x_lt hT kH108 gb (by decide))).symm
    have bx110 := ty_fi (x := x110) (k := 3) ex110 hTH108 ga rg_68 rfl
    refine W.eq (g2 := F0 m 389 ls [.int x109]) rfl ?_
    have v134 : ∀ j : Nat, j < 10 → cz101 j = fI H108 (fR H108 bq j) (K.1.2 0 14) := fun j h => (ecz101 j h).trans (by rw [fR_kept (x_lt hT kH108 gbq (by decide))]; exact (fI_kept (x_lt hT kH108 (bar_g hT gbq j h) (by decide))).symm)
    have v135 : ∀ j : Nat, j < 10 → rz102 j = fI H108 aq j := fun j h => (erz102 j h).trans (fI_kept (x_lt hT kH108 gaq (by decide))).symm
    have d136 := DB.kept db (x_lt hT kH108 gbq (by decide))
    refine lv_pop hx hb dL_law_389 rfl ?_
    refine lv_aload_n hx hb dL_law_390 rfl (lv_at hl 1 rfl) ?_
    refine lv_aload_n hx hb dL_law_391 rfl (lv_at hl 3 rfl) ?_
    refine lv_iload_n hx hb dL_law_392 rfl (lv_at hl 0 rfl) ?_
    refine lv_iconst (v := 1) hx hb dL_law_393 (by decide) ?_
    refine lv_iadd hx hb dL_law_394 ?_
    refine lv_topi (fun x137 ex137 => ?_)
    obtain ⟨tx137, ejx137, evx137⟩ := lw_ix (k := 1) ex137 hI hL rfl (by decide)
    clear tx137
    refine va_sld hx hb hX hbl (Nat.not_le.mpr hbl) hSH108 (vp_in_iff.mpr evx137) dL_law_395 ?_
    refine W.eq (g2 := F0 m 396 ls [.int (xs (i.toNatClampNeg + 1)), .ref b]) (congrArg (fun z => F0 m 396 ls [.int (xs z), .ref b]) ejx137) ?_
    refine lv_aload_n hx hb dL_law_396 rfl (lv_at hl 3 rfl) ?_
    refine lv_iload_n hx hb dL_law_397 rfl (lv_at hl 0 rfl) ?_
    refine lv_iconst (v := 2) hx hb dL_law_398 (by decide) ?_
    refine lv_iadd hx hb dL_law_399 ?_
    refine lv_topi (fun x138 ex138 => ?_)
    obtain ⟨tx138, ejx138, evx138⟩ := lw_ix (k := 2) ex138 hI hL rfl (by decide)
    clear tx138
    refine va_sld hx hb hX hbl (Nat.not_le.mpr hbl) hSH108 (vp_in_iff.mpr evx138) dL_law_400 ?_
    refine W.eq (g2 := F0 m 401 ls [.int (xs (i.toNatClampNeg + 2)), .int (xs (i.toNatClampNeg + 1)), .ref b]) (congrArg (fun z => F0 m 401 ls [.int (xs z), .int (xs (i.toNatClampNeg + 1)), .ref b]) ejx138) ?_
    refine lv_aload_n hx hb dL_law_401 rfl (lv_at hl 3 rfl) ?_
    refine lv_iload_n hx hb dL_law_402 rfl (lv_at hl 0 rfl) ?_
    refine lv_iconst (v := 3) hx hb dL_law_403 (by decide) ?_
    refine lv_iadd hx hb dL_law_404 ?_
    refine lv_topi (fun x139 ex139 => ?_)
    obtain ⟨tx139, ejx139, evx139⟩ := lw_ix (k := 3) ex139 hI hL rfl (by decide)
    clear tx139
    refine va_sld hx hb hX hbl (Nat.not_le.mpr hbl) hSH108 (vp_in_iff.mpr evx139) dL_law_405 ?_
    refine W.eq (g2 := F0 m 406 ls [.int (xs (i.toNatClampNeg + 3)), .int (xs (i.toNatClampNeg + 2)), .int (xs (i.toNatClampNeg + 1)), .ref b]) (congrArg (fun z => F0 m 406 ls [.int (xs z), .int (xs (i.toNatClampNeg + 2)), .int (xs (i.toNatClampNeg + 1)), .ref b]) ejx139) ?_
    refine lv_aload_n hx hb dL_law_406 rfl (lv_at hl 3 rfl) ?_
    refine lv_iload_n hx hb dL_law_407 rfl (lv_at hl 0 rfl) ?_
    refine lv_iconst (v := 4) hx hb dL_law_408 (by decide) ?_
    refine lv_iadd hx hb dL_law_409 ?_
    refine lv_topi (fun x140 ex140 => ?_)
    obtain ⟨tx140, ejx140, evx140⟩ := lw_ix (k := 4) ex140 hI hL rfl (by decide)
    clear tx140
    refine va_sld hx hb hX hbl (Nat.not_le.mpr hbl) hSH108 (vp_in_iff.mpr evx140) dL_law_410 ?_
    refine W.eq (g2 := F0 m 411 ls [.int (xs (i.toNatClampNeg + 4)), .int (xs (i.toNatClampNeg + 3)), .int (xs (i.toNatClampNeg + 2)), .int (xs (i.toNatClampNeg + 1)), .ref b]) (congrArg (fun z => F0 m 411 ls [.int (xs z), .int (xs (i.toNatClampNeg + 3)), .int (xs (i.toNatClampNeg + 2)), .int (xs (i.toNatClampNeg + 1)), .ref b]) ejx140) ?_
    refine lv_aload_n hx hb dL_law_411 rfl (lv_at hl 3 rfl) ?_
    refine lv_iload_n hx hb dL_law_412 rfl (lv_at hl 0 rfl) ?_
    refine lv_iconst (v := 5) hx hb dL_law_413 (by decide) ?_
    refine lv_iadd hx hb dL_law_414 ?_
    refine lv_topi (fun x141 ex141 => ?_)
    obtain ⟨tx141, ejx141, evx141⟩ := lw_ix (k := 5) ex141 hI hL rfl (by decide)
    clear tx141
    refine va_sld hx hb hX hbl (Nat.not_le.mpr hbl) hSH108 (vp_in_iff.mpr evx141) dL_law_415 ?_
    refine W.eq (g2 := F0 m 416 ls [.int (xs (i.toNatClampNeg + 5)), .int (xs (i.toNatClampNeg + 4)), .int (xs (i.toNatClampNeg + 3)), .int (xs (i.toNatClampNeg + 2)), .int (xs (i.toNatClampNeg + 1)), .ref b]) (congrArg (fun z => F0 m 416 ls [.int (xs z), .int (xs (i.toNatClampNeg + 4)), .int (xs (i.toNatClampNeg + 3)), .int (xs (i.toNatClampNeg + 2)), .int (xs (i.toNatClampNeg + 1)), .ref b]) ejx141) ?_
    refine x_V (As := [.int (xs (i.toNatClampNeg + 1)), .int (xs (i.toNatClampNeg + 2)), .int (xs (i.toNatClampNeg + 3)), .int (xs (i.toNatClampNeg + 4)), .int (xs (i.toNatClampNeg + 5))]) (rest := []) C (a_X10_feed_t l K G H108 ((xs (i.toNatClampNeg + 1))) ((xs (i.toNatClampNeg + 2))) ((xs (i.toNatClampNeg + 3))) ((xs (i.toNatClampNeg + 4))) ((xs (i.toNatClampNeg + 5))) (tb) hTH108 gb m117 g113 g114 g115 g116) yo_X10_feed wM_L_37 ⟨⟨by decide, by decide⟩, show _ ≤ 1200000 from Nat.le_trans hc (by decide), show _ ≤ 5502250 from Nat.le_trans hs (by decide)⟩ (x_rv C hTH108 (ci := 10) rfl gb rg_112) rfl hl.1 rfl (Nat.le_of_ble_eq_true rfl) dL_law_416 hSH108 (AE_new hN hSH108.1) (fun vH142 H142 locsH142 pH142 zH142 kH142 hSH142 => ?_)
    obtain ⟨x143, x144, hvH142, ex144, hrH142, g145, g146, g147, g148, mf149, hTH142⟩ := pH142
    subst hvH142
    have m150 := (m118).trans (fI_kept (x_lt hTH108 kH142 gw (by decide))).symm
    have m151 := (m120).trans (fI_kept (x_lt hTH108 kH142 gw (by decide))).symm
    have m152 := (m122).trans (fI_kept (x_lt hTH108 kH142 gw (by decide))).symm
    have m153 := (m124).trans (fI_kept (x_lt hTH108 kH142 gw (by decide))).symm
    have m154 := (m126).trans (fI_kept (x_lt hTH108 kH142 gw (by decide))).symm
    have m155 := (m128).trans (fI_kept (x_lt hTH108 kH142 gw (by decide))).symm
    have m156 := (m130).trans (fR_kept (x_lt hTH108 kH142 gw (by decide))).symm
    have m157 := (m111).trans (fR_kept (x_lt hTH108 kH142 ga (by decide))).symm
    have m158 := (fV_kept (x_lt hTH108 kH142 ga (by decide))).trans m112
    have m159 := (ex110).trans (fI_kept (x_lt hTH108 kH142 ga (by decide))).symm
    have m160 := (m119).trans (MF.i mf149 (k := 1) (by decide) (by decide)).symm
    have m161 := (m121).trans (MF.i mf149 (k := 2) (by decide) (by decide)).symm
    have m162 := (m123).trans (MF.i mf149 (k := 3) (by decide) (by decide)).symm
    have m163 := (m125).trans (MF.i mf149 (k := 59) (by decide) (by decide)).symm
    have m164 := (m127).trans (MF.i mf149 (k := 62) (by decide) (by decide)).symm
    have m165 := (m129).trans (MF.i mf149 (k := 65) (by decide) (by decide)).symm
    have m166 := (m131).trans (MF.r mf149 (k := 50) (by decide) (by decide)).symm
    have m167 := (m132).trans (MF.i mf149 (k := 70) (by decide) (by decide)).symm
    have m168 := (m133).trans (MF.r mf149 (k := 73) (by decide) (by decide)).symm
    have bx144 := ty_fi (x := x144) (k := 18) ex144 hTH142 gb rg_112 rfl
    refine W.eq (g2 := F0 m 419 ls [.int x143]) rfl ?_
    have v169 : ∀ j : Nat, j < 10 → cz101 j = fI H142 (fR H142 bq j) (K.1.2 0 14) := fun j h => (v134 j h).trans (by rw [fR_kept (x_lt hTH108 kH142 gbq (by decide))]; exact (fI_kept (x_lt hTH108 kH142 (bar_g hTH108 gbq j h) (by decide))).symm)
    have v170 : ∀ j : Nat, j < 10 → rz102 j = fI H142 aq j := fun j h => (v135 j h).trans (fI_kept (x_lt hTH108 kH142 gaq (by decide))).symm
    have d171 := DB.kept d136 (x_lt hTH108 kH142 gbq (by decide))
    refine lv_pop hx hb dL_law_419 rfl ?_
    refine lv_goto (tgt := 1509) hx hb dL_law_420 (by decide) ?_
    exact nx G H142 locsH142 _ _ ls ⟨hTH142, hN, ga, gb, g145, g146, g147, g148, ⟨(by rw [← m159, ← ex144]; omega), (by rw [← m157, ← m150, ← m160]; exact r1), (by rw [← m157, ← m151, ← m161]; exact r4), (by rw [← m157, ← m152, ← m162]; exact r5), (by rw [← m157, ← m153, ← m163]; exact r10), (by rw [← m157, ← m154, ← m164]; exact r13), (by rw [← m157, ← m155, ← m165]; exact r16)⟩, Or.inl ⟨m158, (by rw [← m167]; exact h70)⟩, (by unfold RB; rw [← m157, ← m156, ← m166, ← m160]; exact ⟨d171, fun j h1 h2 => by rw [← v169 j h1, ← v170 j h1]; exact rel j h1 (by omega), fun j h1 h2 => by rw [← v170 j h1]; exact tl j h1 (by omega)⟩), hSH142⟩ hl ⟨hc, hs, fun _ => ⟨hc0, hs0⟩⟩
  · skip
    obtain ⟨hi, ehi⟩ : ∃ z : Int32, z = fI H b (K.1.2 10 70) := ⟨_, rfl⟩
    rw [← ehi] at h70
    obtain ⟨iq, eiq⟩ : ∃ z : Nat, z = fR H b (K.1.2 10 73) := ⟨_, rfl⟩
    have giq := ty_fr (q := iq) (k := 73) (u := 162) eiq hT gb rg_112 rfl
    rw [← eiq] at q1 q4 q5 q10 q13 q16
    obtain ⟨k1, ek1⟩ : ∃ z : Int32, z = fI H kq (K.1.2 8 1) := ⟨_, rfl⟩
    rw [← ek1] at q1
    obtain ⟨i1, ei1⟩ : ∃ z : Int32, z = fI H iq ((0 : Int32).toNatClampNeg) := ⟨_, rfl⟩
    rw [← ei1] at q1
    obtain ⟨k4, ek4⟩ : ∃ z : Int32, z = fI H kq (K.1.2 8 4) := ⟨_, rfl⟩
    rw [← ek4] at q4
    obtain ⟨i4, ei4⟩ : ∃ z : Int32, z = fI H iq ((1 : Int32).toNatClampNeg) := ⟨_, rfl⟩
    rw [← ei4] at q4
    obtain ⟨k5, ek5⟩ : ∃ z : Int32, z = fI H kq (K.1.2 8 5) := ⟨_, rfl⟩
    rw [← ek5] at q5
    obtain ⟨i5, ei5⟩ : ∃ z : Int32, z = fI H iq ((2 : Int32).toNatClampNeg) := ⟨_, rfl⟩
    rw [← ei5] at q5
    obtain ⟨k10, ek10⟩ : ∃ z : Int32, z = fI H kq (K.1.2 8 10) := ⟨_, rfl⟩
    rw [← ek10] at q10
    obtain ⟨i10, ei10⟩ : ∃ z : Int32, z = fI H iq ((3 : Int32).toNatClampNeg) := ⟨_, rfl⟩
    rw [← ei10] at q10
    obtain ⟨k13, ek13⟩ : ∃ z : Int32, z = fI H kq (K.1.2 8 13) := ⟨_, rfl⟩
    rw [← ek13] at q13
    obtain ⟨i13, ei13⟩ : ∃ z : Int32, z = fI H iq ((4 : Int32).toNatClampNeg) := ⟨_, rfl⟩
    rw [← ei13] at q13
    obtain ⟨k16, ek16⟩ : ∃ z : Int32, z = fI H kq (K.1.2 8 16) := ⟨_, rfl⟩
    rw [← ek16] at q16
    obtain ⟨i16, ei16⟩ : ∃ z : Int32, z = fI H iq ((5 : Int32).toNatClampNeg) := ⟨_, rfl⟩
    rw [← ei16] at q16
    obtain ⟨kb, ekb⟩ : ∃ z : Nat, z = fR H kq (K.1.2 8 0) := ⟨_, rfl⟩
    have gkb := ty_fr (q := kb) (k := 0) (u := 59) ekb hT gkq rg_34 rfl
    have bk1 := ty_fi (x := k1) (k := 1) ek1 hT gkq rg_34 rfl
    rw [← ekb] at dbk
    rw [← ekb, ← eiq, ← ek1] at vk
    rw [← eiq, ← ek1] at vkt
    obtain ⟨kz172, ekz172⟩ : ∃ f : Nat → Int32, ∀ j : Nat, j < 10 → f j = fI H (fR H kb j) (K.1.2 0 14) := ⟨_, fun _ _ => rfl⟩
    obtain ⟨iz173, eiz173⟩ : ∃ f : Nat → Int32, ∀ j : Nat, j < 10 → f j = fI H iq (11 + 6 * j) := ⟨_, fun _ _ => rfl⟩
    have vk0 : ∀ j : Nat, j < 10 → (j : Int) < k1.toInt → kz172 j = iz173 j := fun j h1 h2 => by rw [ekz172 j h1, eiz173 j h1]; exact vk j h1 h2
    clear vk
    have vk1 : ∀ j : Nat, j < 10 → k1.toInt ≤ (j : Int) → iz173 j = 0 := fun j h1 h2 => by rw [eiz173 j h1]; exact vkt j h1 h2
    clear vkt
    refine lv_aload_n hx hb dL_law_360 rfl (lv_at hl 2 rfl) ?_
    refine lv_aload_n hx hb dL_law_361 rfl (lv_at hl 3 rfl) ?_
    refine lv_iload_n hx hb dL_law_362 rfl (lv_at hl 0 rfl) ?_
    refine lv_iconst (v := 1) hx hb dL_law_363 (by decide) ?_
    refine lv_iadd hx hb dL_law_364 ?_
    refine lv_topi (fun x174 ex174 => ?_)
    obtain ⟨tx174, ejx174, evx174⟩ := lw_ix (k := 1) ex174 hI hL rfl (by decide)
    clear tx174
    refine va_sld hx hb hX hbl (Nat.not_le.mpr hbl) hS (vp_in_iff.mpr evx174) dL_law_365 ?_
    refine W.eq (g2 := F0 m 366 ls [.int (xs (i.toNatClampNeg + 1)), .ref a]) (congrArg (fun z => F0 m 366 ls [.int (xs z), .ref a]) ejx174) ?_
    refine lv_aload_n hx hb dL_law_366 rfl (lv_at hl 3 rfl) ?_
    refine lv_iload_n hx hb dL_law_367 rfl (lv_at hl 0 rfl) ?_
    refine lv_iconst (v := 2) hx hb dL_law_368 (by decide) ?_
    refine lv_iadd hx hb dL_law_369 ?_
    refine lv_topi (fun x175 ex175 => ?_)
    obtain ⟨tx175, ejx175, evx175⟩ := lw_ix (k := 2) ex175 hI hL rfl (by decide)
    clear tx175
    refine va_sld hx hb hX hbl (Nat.not_le.mpr hbl) hS (vp_in_iff.mpr evx175) dL_law_370 ?_
    refine W.eq (g2 := F0 m 371 ls [.int (xs (i.toNatClampNeg + 2)), .int (xs (i.toNatClampNeg + 1)), .ref a]) (congrArg (fun z => F0 m 371 ls [.int (xs z), .int (xs (i.toNatClampNeg + 1)), .ref a]) ejx175) ?_
    refine lv_aload_n hx hb dL_law_371 rfl (lv_at hl 3 rfl) ?_
    refine lv_iload_n hx hb dL_law_372 rfl (lv_at hl 0 rfl) ?_
    refine lv_iconst (v := 3) hx hb dL_law_373 (by decide) ?_
    refine lv_iadd hx hb dL_law_374 ?_
    refine lv_topi (fun x176 ex176 => ?_)
    obtain ⟨tx176, ejx176, evx176⟩ := lw_ix (k := 3) ex176 hI hL rfl (by decide)
    clear tx176
    refine va_sld hx hb hX hbl (Nat.not_le.mpr hbl) hS (vp_in_iff.mpr evx176) dL_law_375 ?_
    refine W.eq (g2 := F0 m 376 ls [.int (xs (i.toNatClampNeg + 3)), .int (xs (i.toNatClampNeg + 2)), .int (xs (i.toNatClampNeg + 1)), .ref a]) (congrArg (fun z => F0 m 376 ls [.int (xs z), .int (xs (i.toNatClampNeg + 2)), .int (xs (i.toNatClampNeg + 1)), .ref a]) ejx176) ?_
    refine lv_aload_n hx hb dL_law_376 rfl (lv_at hl 3 rfl) ?_
    refine lv_iload_n hx hb dL_law_377 rfl (lv_at hl 0 rfl) ?_
    refine lv_iconst (v := 4) hx hb dL_law_378 (by decide) ?_
    refine lv_iadd hx hb dL_law_379 ?_
    refine lv_topi (fun x177 ex177 => ?_)
    obtain ⟨tx177, ejx177, evx177⟩ := lw_ix (k := 4) ex177 hI hL rfl (by decide)
    clear tx177
    refine va_sld hx hb hX hbl (Nat.not_le.mpr hbl) hS (vp_in_iff.mpr evx177) dL_law_380 ?_
    refine W.eq (g2 := F0 m 381 ls [.int (xs (i.toNatClampNeg + 4)), .int (xs (i.toNatClampNeg + 3)), .int (xs (i.toNatClampNeg + 2)), .int (xs (i.toNatClampNeg + 1)), .ref a]) (congrArg (fun z => F0 m 381 ls [.int (xs z), .int (xs (i.toNatClampNeg + 3)), .int (xs (i.toNatClampNeg + 2)), .int (xs (i.toNatClampNeg + 1)), .ref a]) ejx177) ?_
    refine lv_aload_n hx hb dL_law_381 rfl (lv_at hl 3 rfl) ?_
    refine lv_iload_n hx hb dL_law_382 rfl (lv_at hl 0 rfl) ?_
    refine lv_iconst (v := 5) hx hb dL_law_383 (by decide) ?_
    refine lv_iadd hx hb dL_law_384 ?_
    refine lv_topi (fun x178 ex178 => ?_)
    obtain ⟨tx178, ejx178, evx178⟩ := lw_ix (k := 5) ex178 hI hL rfl (by decide)
    clear tx178
    refine va_sld hx hb hX hbl (Nat.not_le.mpr hbl) hS (vp_in_iff.mpr evx178) dL_law_385 ?_
    refine W.eq (g2 := F0 m 386 ls [.int (xs (i.toNatClampNeg + 5)), .int (xs (i.toNatClampNeg + 4)), .int (xs (i.toNatClampNeg + 3)), .int (xs (i.toNatClampNeg + 2)), .int (xs (i.toNatClampNeg + 1)), .ref a]) (congrArg (fun z => F0 m 386 ls [.int (xs z), .int (xs (i.toNatClampNeg + 4)), .int (xs (i.toNatClampNeg + 3)), .int (xs (i.toNatClampNeg + 2)), .int (xs (i.toNatClampNeg + 1)), .ref a]) ejx178) ?_
    refine x_V (As := [.int (xs (i.toNatClampNeg + 1)), .int (xs (i.toNatClampNeg + 2)), .int (xs (i.toNatClampNeg + 3)), .int (xs (i.toNatClampNeg + 4)), .int (xs (i.toNatClampNeg + 5))]) (rest := []) C (a_X9_feed_r l K G H ((xs (i.toNatClampNeg + 1))) ((xs (i.toNatClampNeg + 2))) ((xs (i.toNatClampNeg + 3))) ((xs (i.toNatClampNeg + 4))) ((xs (i.toNatClampNeg + 5))) (ta) hT ga gw ew eta kn) yo_X9_feed wM_L_33 ⟨⟨by decide, by decide⟩, show _ ≤ 1200000 from Nat.le_trans hc (by decide), show _ ≤ 5502250 from Nat.le_trans hs (by decide)⟩ (x_rv C hT (ci := 9) rfl ga rg_68) rfl hl.1 rfl (Nat.le_of_ble_eq_true rfl) dL_law_386 hS (AE_new hN hS.1) (fun vH179 H179 locsH179 pH179 zH179 kH179 hSH179 => ?_)
    obtain ⟨x180, x181, hvH179, ex181, hrH179, m182, m183, hTH179⟩ := pH179
    subst hvH179
    have g184 : CG (avw K H179 b) := CG.congr (fun k hk j => av_eff hT kH179 gb (by decide) (CG_eff [68, 108] (by decide) k hk)) cg
    have g185 : TU (avw K H179 b) (svw K H179 b) := TU.congr (fun k hk j => av_eff hT kH179 gb (by decide) (TU_eff [68, 108] (by decide) k hk)) (fun k hk => sv_eff hT kH179 gb (by decide)) tu
    have g186 : WD (avw K H179 b) := WD.congr (fun k hk j => av_eff hT kH179 gb (by decide) (WD_eff [68, 108] (by decide) k hk)) wd
    have g187 : IM (avw K H179 b) := IM.congr (fun k hk j => av_eff hT kH179 gb (by decide) (IM_eff [68, 108] (by decide) k hk)) im
    have m188 := (etb).trans (fI_kept (x_lt hT kH179 gb (by decide))).symm
    have m189 := (es1).trans (fI_kept (x_lt hT kH179 gw (by decide))).symm
    have m190 := (ey1).trans (fI_kept (x_lt hT kH179 gb (by decide))).symm
    have m191 := (es4).trans (fI_kept (x_lt hT kH179 gw (by decide))).symm
    have m192 := (ey4).trans (fI_kept (x_lt hT kH179 gb (by decide))).symm
    have m193 := (es5).trans (fI_kept (x_lt hT kH179 gw (by decide))).symm
    have m194 := (ey5).trans (fI_kept (x_lt hT kH179 gb (by decide))).symm
    have m195 := (es10).trans (fI_kept (x_lt hT kH179 gw (by decide))).symm
    have m196 := (ey10).trans (fI_kept (x_lt hT kH179 gb (by decide))).symm
    have m197 := (es13).trans (fI_kept (x_lt hT kH179 gw (by decide))).symm
    have m198 := (ey13).trans (fI_kept (x_lt hT kH179 gb (by decide))).symm
    have m199 := (es16).trans (fI_kept (x_lt hT kH179 gw (by decide))).symm
    have m200 := (ey16).trans (fI_kept (x_lt hT kH179 gb (by decide))).symm
    have m201 := (ebq).trans (fR_kept (x_lt hT kH179 gw (by decide))).symm
    have m202 := (eaq).trans (fR_kept (x_lt hT kH179 gb (by decide))).symm
    have m203 := (ehi).trans (fI_kept (x_lt hT kH179 gb (by decide))).symm
    have m204 := (eiq).trans (fR_kept (x_lt hT kH179 gb (by decide))).symm
    have m205 := (ek1).trans (fI_kept (x_lt hT kH179 gkq (by decide))).symm
    have m206 := (ei1).trans (fI_kept (x_lt hT kH179 giq (by decide))).symm
    have m207 := (ek4).trans (fI_kept (x_lt hT kH179 gkq (by decide))).symm
    have m208 := (ei4).trans (fI_kept (x_lt hT kH179 giq (by decide))).symm
    have m209 := (ek5).trans (fI_kept (x_lt hT kH179 gkq (by decide))).symm
    have m210 := (ei5).trans (fI_kept (x_lt hT kH179 giq (by decide))).symm
    have m211 := (ek10).trans (fI_kept (x_lt hT kH179 gkq (by decide))).symm
    have m212 := (ei10).trans (fI_kept (x_lt hT kH179 giq (by decide))).symm
    have m213 := (ek13).trans (fI_kept (x_lt hT kH179 gkq (by decide))).symm
    have m214 := (ei13).trans (fI_kept (x_lt hT kH179 giq (by decide))).symm
    have m215 := (ek16).trans (fI_kept (x_lt hT kH179 gkq (by decide))).symm
    have m216 := (ei16).trans (fI_kept (x_lt hT kH179 giq (by decide))).symm
    have m217 := (ekb).trans (fR_kept (x_lt hT kH179 gkq (by decide))).symm
    have bx181 := ty_fi (x := x181) (k := 3) ex181 hTH179 ga rg_68 rfl
    refine W.eq (g2 := F0 m 389 ls [.int x180]) rfl ?_
    have v218 : ∀ j : Nat, j < 10 → cz101 j = fI H179 (fR H179 bq j) (K.1.2 0 14) := fun j h => (ecz101 j h).trans (by rw [fR_kept (x_lt hT kH179 gbq (by decide))]; exact (fI_kept (x_lt hT kH179 (bar_g hT gbq j h) (by decide))).symm)
    have v219 : ∀ j : Nat, j < 10 → rz102 j = fI H179 aq j := fun j h => (erz102 j h).trans (fI_kept (x_lt hT kH179 gaq (by decide))).symm
    have v220 : ∀ j : Nat, j < 10 → kz172 j = fI H179 (fR H179 kb j) (K.1.2 0 14) := fun j h => (ekz172 j h).trans (by rw [fR_kept (x_lt hT kH179 gkb (by decide))]; exact (fI_kept (x_lt hT kH179 (bar_h hT gkb j h) (by decide))).symm)
    have d221 := DB.kept dbk (x_lt hT kH179 gkb (by decide))
    have v222 : ∀ j : Nat, j < 10 → iz173 j = fI H179 iq (11 + 6 * j) := fun j h => (eiz173 j h).trans (fI_kept (x_lt hT kH179 giq (by decide))).symm
    have d223 := DB.kept db (x_lt hT kH179 gbq (by decide))
    refine lv_pop hx hb dL_law_389 rfl ?_
    refine lv_aload_n hx hb dL_law_390 rfl (lv_at hl 1 rfl) ?_
    refine lv_aload_n hx hb dL_law_391 rfl (lv_at hl 3 rfl) ?_
    refine lv_iload_n hx hb dL_law_392 rfl (lv_at hl 0 rfl) ?_
    refine lv_iconst (v := 1) hx hb dL_law_393 (by decide) ?_
    refine lv_iadd hx hb dL_law_394 ?_
    refine lv_topi (fun x224 ex224 => ?_)
    obtain ⟨tx224, ejx224, evx224⟩ := lw_ix (k := 1) ex224 hI hL rfl (by decide)
    clear tx224
    refine va_sld hx hb hX hbl (Nat.not_le.mpr hbl) hSH179 (vp_in_iff.mpr evx224) dL_law_395 ?_
    refine W.eq (g2 := F0 m 396 ls [.int (xs (i.toNatClampNeg + 1)), .ref b]) (congrArg (fun z => F0 m 396 ls [.int (xs z), .ref b]) ejx224) ?_
    refine lv_aload_n hx hb dL_law_396 rfl (lv_at hl 3 rfl) ?_
    refine lv_iload_n hx hb dL_law_397 rfl (lv_at hl 0 rfl) ?_
    refine lv_iconst (v := 2) hx hb dL_law_398 (by decide) ?_
    refine lv_iadd hx hb dL_law_399 ?_
    refine lv_topi (fun x225 ex225 => ?_)
    obtain ⟨tx225, ejx225, evx225⟩ := lw_ix (k := 2) ex225 hI hL rfl (by decide)
    clear tx225
    refine va_sld hx hb hX hbl (Nat.not_le.mpr hbl) hSH179 (vp_in_iff.mpr evx225) dL_law_400 ?_
    refine W.eq (g2 := F0 m 401 ls [.int (xs (i.toNatClampNeg + 2)), .int (xs (i.toNatClampNeg + 1)), .ref b]) (congrArg (fun z => F0 m 401 ls [.int (xs z), .int (xs (i.toNatClampNeg + 1)), .ref b]) ejx225) ?_
    refine lv_aload_n hx hb dL_law_401 rfl (lv_at hl 3 rfl) ?_
    refine lv_iload_n hx hb dL_law_402 rfl (lv_at hl 0 rfl) ?_
    refine lv_iconst (v := 3) hx hb dL_law_403 (by decide) ?_
    refine lv_iadd hx hb dL_law_404 ?_
    refine lv_topi (fun x226 ex226 => ?_)
    obtain ⟨tx226, ejx226, evx226⟩ := lw_ix (k := 3) ex226 hI hL rfl (by decide)
    clear tx226
    refine va_sld hx hb hX hbl (Nat.not_le.mpr hbl) hSH179 (vp_in_iff.mpr evx226) dL_law_405 ?_
    refine W.eq (g2 := F0 m 406 ls [.int (xs (i.toNatClampNeg + 3)), .int (xs (i.toNatClampNeg + 2)), .int (xs (i.toNatClampNeg + 1)), .ref b]) (congrArg (fun z => F0 m 406 ls [.int (xs z), .int (xs (i.toNatClampNeg + 2)), .int (xs (i.toNatClampNeg + 1)), .ref b]) ejx226) ?_
    refine lv_aload_n hx hb dL_law_406 rfl (lv_at hl 3 rfl) ?_
    refine lv_iload_n hx hb dL_law_407 rfl (lv_at hl 0 rfl) ?_
    refine lv_iconst (v := 4) hx hb dL_law_408 (by decide) ?_
    refine lv_iadd hx hb dL_law_409 ?_
    refine lv_topi (fun x227 ex227 => ?_)
    obtain ⟨tx227, ejx227, evx227⟩ := lw_ix (k := 4) ex227 hI hL rfl (by decide)
    clear tx227
    refine va_sld hx hb hX hbl (Nat.not_le.mpr hbl) hSH179 (vp_in_iff.mpr evx227) dL_law_410 ?_
    refine W.eq (g2 := F0 m 411 ls [.int (xs (i.toNatClampNeg + 4)), .int (xs (i.toNatClampNeg + 3)), .int (xs (i.toNatClampNeg + 2)), .int (xs (i.toNatClampNeg + 1)), .ref b]) (congrArg (fun z => F0 m 411 ls [.int (xs z), .int (xs (i.toNatClampNeg + 3)), .int (xs (i.toNatClampNeg + 2)), .int (xs (i.toNatClampNeg + 1)), .ref b]) ejx227) ?_
    refine lv_aload_n hx hb dL_law_411 rfl (lv_at hl 3 rfl) ?_
    refine lv_iload_n hx hb dL_law_412 rfl (lv_at hl 0 rfl) ?_
    refine lv_iconst (v := 5) hx hb dL_law_413 (by decide) ?_
    refine lv_iadd hx hb dL_law_414 ?_
    refine lv_topi (fun x228 ex228 => ?_)
    obtain ⟨tx228, ejx228, evx228⟩ := lw_ix (k := 5) ex228 hI hL rfl (by decide)
    clear tx228
    refine va_sld hx hb hX hbl (Nat.not_le.mpr hbl) hSH179 (vp_in_iff.mpr evx228) dL_law_415 ?_
    refine W.eq (g2 := F0 m 416 ls [.int (xs (i.toNatClampNeg + 5)), .int (xs (i.toNatClampNeg + 4)), .int (xs (i.toNatClampNeg + 3)), .int (xs (i.toNatClampNeg + 2)), .int (xs (i.toNatClampNeg + 1)), .ref b]) (congrArg (fun z => F0 m 416 ls [.int (xs z), .int (xs (i.toNatClampNeg + 4)), .int (xs (i.toNatClampNeg + 3)), .int (xs (i.toNatClampNeg + 2)), .int (xs (i.toNatClampNeg + 1)), .ref b]) ejx228) ?_
    refine x_V (As := [.int (xs (i.toNatClampNeg + 1)), .int (xs (i.toNatClampNeg + 2)), .int (xs (i.toNatClampNeg + 3)), .int (xs (i.toNatClampNeg + 4)), .int (xs (i.toNatClampNeg + 5))]) (rest := []) C (a_X10_feed_t l K G H179 ((xs (i.toNatClampNeg + 1))) ((xs (i.toNatClampNeg + 2))) ((xs (i.toNatClampNeg + 3))) ((xs (i.toNatClampNeg + 4))) ((xs (i.toNatClampNeg + 5))) (tb) hTH179 gb m188 g184 g185 g186 g187) yo_X10_feed wM_L_37 ⟨⟨by decide, by decide⟩, show _ ≤ 1200000 from Nat.le_trans hc (by decide), show _ ≤ 5502250 from Nat.le_trans hs (by decide)⟩ (x_rv C hTH179 (ci := 10) rfl gb rg_112) rfl hl.1 rfl (Nat.le_of_ble_eq_true rfl) dL_law_416 hSH179 (AE_new hN hSH179.1) (fun vH229 H229 locsH229 pH229 zH229 kH229 hSH229 => ?_)
    obtain ⟨x230, x231, hvH229, ex231, hrH229, g232, g233, g234, g235, mf236, hTH229⟩ := pH229
    subst hvH229
    have m237 := (m189).trans (fI_kept (x_lt hTH179 kH229 gw (by decide))).symm
    have m238 := (m191).trans (fI_kept (x_lt hTH179 kH229 gw (by decide))).symm
    have m239 := (m193).trans (fI_kept (x_lt hTH179 kH229 gw (by decide))).symm
    have m240 := (m195).trans (fI_kept (x_lt hTH179 kH229 gw (by decide))).symm
    have m241 := (m197).trans (fI_kept (x_lt hTH179 kH229 gw (by decide))).symm
    have m242 := (m199).trans (fI_kept (x_lt hTH179 kH229 gw (by decide))).symm
    have m243 := (m201).trans (fR_kept (x_lt hTH179 kH229 gw (by decide))).symm
    have m244 := (m205).trans (fI_kept (x_lt hTH179 kH229 gkq (by decide))).symm
    have m245 := (m206).trans (fI_kept (x_lt hTH179 kH229 giq (by decide))).symm
    have m246 := (m207).trans (fI_kept (x_lt hTH179 kH229 gkq (by decide))).symm
    have m247 := (m208).trans (fI_kept (x_lt hTH179 kH229 giq (by decide))).symm
    have m248 := (m209).trans (fI_kept (x_lt hTH179 kH229 gkq (by decide))).symm
    have m249 := (m210).trans (fI_kept (x_lt hTH179 kH229 giq (by decide))).symm
    have m250 := (m211).trans (fI_kept (x_lt hTH179 kH229 gkq (by decide))).symm
    have m251 := (m212).trans (fI_kept (x_lt hTH179 kH229 giq (by decide))).symm
    have m252 := (m213).trans (fI_kept (x_lt hTH179 kH229 gkq (by decide))).symm
    have m253 := (m214).trans (fI_kept (x_lt hTH179 kH229 giq (by decide))).symm
    have m254 := (m215).trans (fI_kept (x_lt hTH179 kH229 gkq (by decide))).symm
    have m255 := (m216).trans (fI_kept (x_lt hTH179 kH229 giq (by decide))).symm
    have m256 := (m217).trans (fR_kept (x_lt hTH179 kH229 gkq (by decide))).symm
    have m257 := (m182).trans (fR_kept (x_lt hTH179 kH229 ga (by decide))).symm
    have m258 := (fV_kept (x_lt hTH179 kH229 ga (by decide))).trans m183
    have m259 := (ex181).trans (fI_kept (x_lt hTH179 kH229 ga (by decide))).symm
    have m260 := (m190).trans (MF.i mf236 (k := 1) (by decide) (by decide)).symm
    have m261 := (m192).trans (MF.i mf236 (k := 2) (by decide) (by decide)).symm
    have m262 := (m194).trans (MF.i mf236 (k := 3) (by decide) (by decide)).symm
    have m263 := (m196).trans (MF.i mf236 (k := 59) (by decide) (by decide)).symm
    have m264 := (m198).trans (MF.i mf236 (k := 62) (by decide) (by decide)).symm
    have m265 := (m200).trans (MF.i mf236 (k := 65) (by decide) (by decide)).symm
    have m266 := (m202).trans (MF.r mf236 (k := 50) (by decide) (by decide)).symm
    have m267 := (m203).trans (MF.i mf236 (k := 70) (by decide) (by decide)).symm
    have m268 := (m204).trans (MF.r mf236 (k := 73) (by decide) (by decide)).symm
    have bx231 := ty_fi (x := x231) (k := 18) ex231 hTH229 gb rg_112 rfl
    refine W.eq (g2 := F0 m 419 ls [.int x230]) rfl ?_
    have v269 : ∀ j : Nat, j < 10 → cz101 j = fI H229 (fR H229 bq j) (K.1.2 0 14) := fun j h => (v218 j h).trans (by rw [fR_kept (x_lt hTH179 kH229 gbq (by decide))]; exact (fI_kept (x_lt hTH179 kH229 (bar_g hTH179 gbq j h) (by decide))).symm)
    have v270 : ∀ j : Nat, j < 10 → rz102 j = fI H229 aq j := fun j h => (v219 j h).trans (fI_kept (x_lt hTH179 kH229 gaq (by decide))).symm
    have v271 : ∀ j : Nat, j < 10 → kz172 j = fI H229 (fR H229 kb j) (K.1.2 0 14) := fun j h => (v220 j h).trans (by rw [fR_kept (x_lt hTH179 kH229 gkb (by decide))]; exact (fI_kept (x_lt hTH179 kH229 (bar_h hTH179 gkb j h) (by decide))).symm)
    have d272 := DB.kept d221 (x_lt hTH179 kH229 gkb (by decide))
    have v273 : ∀ j : Nat, j < 10 → iz173 j = fI H229 iq (11 + 6 * j) := fun j h => (v222 j h).trans (fI_kept (x_lt hTH179 kH229 giq (by decide))).symm
    have d274 := DB.kept d223 (x_lt hTH179 kH229 gbq (by decide))
    refine lv_pop hx hb dL_law_419 rfl ?_
    refine lv_goto (tgt := 1509) hx hb dL_law_420 (by decide) ?_
    exact nx G H229 locsH229 _ _ ls ⟨hTH229, hN, ga, gb, g232, g233, g234, g235, ⟨(by rw [← m259, ← ex231]; omega), (by rw [← m257, ← m237, ← m260]; exact r1), (by rw [← m257, ← m238, ← m261]; exact r4), (by rw [← m257, ← m239, ← m262]; exact r5), (by rw [← m257, ← m240, ← m263]; exact r10), (by rw [← m257, ← m241, ← m264]; exact r13), (by rw [← m257, ← m242, ← m265]; exact r16)⟩, Or.inr ⟨kq, m258, gkq, (by rw [← m267]; exact h70), (by rw [← m244, ← m268, ← m245]; exact q1), (by rw [← m246, ← m268, ← m247]; exact q4), (by rw [← m248, ← m268, ← m249]; exact q5), (by rw [← m250, ← m268, ← m251]; exact q10), (by rw [← m252, ← m268, ← m253]; exact q13), (by rw [← m254, ← m268, ← m255]; exact q16), (by rw [← m256]; exact d272), (by rw [← m256, ← m268, ← m244]; exact fun j h1 h2 => by rw [← v271 j h1, ← v273 j h1]; exact vk0 j h1 (by omega)), (by rw [← m268, ← m244]; exact fun j h1 h2 => by rw [← v273 j h1]; exact vk1 j h1 (by omega))⟩, (by unfold RB; rw [← m257, ← m243, ← m266, ← m260]; exact ⟨d274, fun j h1 h2 => by rw [← v269 j h1, ← v270 j h1]; exact rel j h1 (by omega), fun j h1 h2 => by rw [← v270 j h1]; exact tl j h1 (by omega)⟩), hSH229⟩ hl ⟨hc, hs, fun h => by have h1 := h.symm.trans m258; cases h1⟩
set_option maxRecDepth 100000 in
set_option maxHeartbeats 8000000 in
theorem lw_c5 {p : Program} {l : Launch} {e : Env} {s : State} {m : MethodId} {below : List Frame} {meth : Method} {c : Code} {K : KE} {b0 L : Nat} {xs : Nat → Int32} {G : Nat → Option Nat} {H : Heap} {locs : List Loc} {a b : Nat} {cells slots : Nat} {ls : Array Slot} {i : Int32} {n : Nat} (D : LC p K s m meth c b0 L xs) (S : SX K s G H locs a b) (hl : lv_has ls 4 [(3, .int i), (2, .ref b), (1, .ref a), (0, .ref b0)]) (hi : 0 ≤ i.toInt ∧ i.toInt + 6 ≤ L) (hn : n ≤ 511) (hB : BD K H a cells slots) (nx : ∀ (G : Nat → Option Nat) (H : Heap) (locs : List Loc) (cells slots : Nat) (ls : Array Slot), SX K s G H locs a b → lv_has ls 4 [(3, .int i), (2, .ref b), (1, .ref a), (0, .ref b0)] → BD K H a cells slots → W p l e room_1 s m #[Value.ref b0] below meth c H locs cells slots (lw_Z below #[Value.ref b0] s) (F0 m 1509 ls [])) : W p l e room_1 s m #[Value.ref b0] below meth c H locs cells slots (lw_Z below #[Value.ref b0] s) (F0 m 423 ls []) := by
  have hI := hi
  obtain ⟨C, hX, hbl, hL⟩ := id D
  obtain ⟨hx, hb, hml, hown, hts, hKT, hr, hlocks, hnm⟩ := id C
  obtain ⟨hT, hN, ga, gb, cg, tu, wd, im, ⟨rt, r1, r4, r5, r10, r13, r16⟩, hk, hrb, hS⟩ := S
  obtain ⟨hc, hs, hB0⟩ := hB
  have n_m1 : ((-1) : Int32).toInt = -1 := rfl
  have n_0 : (0 : Int32).toInt = 0 := rfl
  have n_1 : (1 : Int32).toInt = 1 := rfl
  obtain ⟨w, ew⟩ : ∃ z : Nat, z = fR H a (K.1.2 9 0) := ⟨_, rfl⟩
  have gw := ty_fr (q := w) (k := 0) (u := 0) ew hT ga rg_68 rfl
  rw [← ew] at r1 r4 r5 r10 r13 r16
  obtain ⟨ta, eta⟩ : ∃ z : Int32, z = fI H a (K.1.2 9 3) := ⟨_, rfl⟩
  rw [← eta] at rt
  obtain ⟨tb, etb⟩ : ∃ z : Int32, z = fI H b (K.1.2 10 18) := ⟨_, rfl⟩
  rw [← etb] at rt
  obtain ⟨s1, es1⟩ : ∃ z : Int32, z = fI H w (K.1.2 8 1) := ⟨_, rfl⟩
  rw [← es1] at r1
  obtain ⟨y1, ey1⟩ : ∃ z : Int32, z = fI H b (K.1.2 10 1) := ⟨_, rfl⟩
  rw [← ey1] at r1
  obtain ⟨s4, es4⟩ : ∃ z : Int32, z = fI H w (K.1.2 8 4) := ⟨_, rfl⟩
  rw [← es4] at r4
  obtain ⟨y4, ey4⟩ : ∃ z : Int32, z = fI H b (K.1.2 10 2) := ⟨_, rfl⟩
  rw [← ey4] at r4
  obtain ⟨s5, es5⟩ : ∃ z : Int32, z = fI H w (K.1.2 8 5) := ⟨_, rfl⟩
  rw [← es5] at r5
  obtain ⟨y5, ey5⟩ : ∃ z : Int32, z = fI H b (K.1.2 10 3) := ⟨_, rfl⟩
  rw [← ey5] at r5
  obtain ⟨s10, es10⟩ : ∃ z : Int32, z = fI H w (K.1.2 8 10) := ⟨_, rfl⟩
  rw [← es10] at r10
  obtain ⟨y10, ey10⟩ : ∃ z : Int32, z = fI H b (K.1.2 10 59) := ⟨_, rfl⟩
  rw [← ey10] at r10
  obtain ⟨s13, es13⟩ : ∃ z : Int32, z = fI H w (K.1.2 8 13) := ⟨_, rfl⟩
  rw [← es13] at r13
  obtain ⟨y13, ey13⟩ : ∃ z : Int32, z = fI H b (K.1.2 10 62) := ⟨_, rfl⟩
  rw [← ey13] at r13
  obtain ⟨s16, es16⟩ : ∃ z : Int32, z = fI H w (K.1.2 8 16) := ⟨_, rfl⟩
  rw [← es16] at r16
  obtain ⟨y16, ey16⟩ : ∃ z : Int32, z = fI H b (K.1.2 10 65) := ⟨_, rfl⟩
  rw [← ey16] at r16
  obtain ⟨bq, ebq⟩ : ∃ z : Nat, z = fR H w (K.1.2 8 0) := ⟨_, rfl⟩
  have gbq := ty_fr (q := bq) (k := 0) (u := 25) ebq hT gw rg_0 rfl
  obtain ⟨aq, eaq⟩ : ∃ z : Nat, z = fR H b (K.1.2 10 50) := ⟨_, rfl⟩
  have gaq := ty_fr (q := aq) (k := 50) (u := 146) eaq hT gb rg_112 rfl
  have bs1 := ty_fi (x := s1) (k := 1) es1 hT gw rg_0 rfl
  have by1 := ty_fi (x := y1) (k := 1) ey1 hT gb rg_112 rfl
  obtain ⟨db, vr, vt⟩ := hrb
  rw [← ew, ← ebq] at db
  rw [← ew, ← ebq, ← eaq, ← ey1] at vr
  rw [← eaq, ← ey1] at vt
  obtain ⟨cz101, ecz101⟩ : ∃ f : Nat → Int32, ∀ j : Nat, j < 10 → f j = fI H (fR H bq j) (K.1.2 0 14) := ⟨_, fun _ _ => rfl⟩
  obtain ⟨rz102, erz102⟩ : ∃ f : Nat → Int32, ∀ j : Nat, j < 10 → f j = fI H aq j := ⟨_, fun _ _ => rfl⟩
  have rel : ∀ j : Nat, j < 10 → (j : Int) < y1.toInt → cz101 j = rz102 j := fun j h1 h2 => by rw [ecz101 j h1, erz102 j h1]; exact vr j h1 h2
  clear vr
  have tl : ∀ j : Nat, j < 10 → y1.toInt ≤ (j : Int) → rz102 j = 0 := fun j h1 h2 => by rw [erz102 j h1]; exact vt j h1 h2
  clear vt
  rcases hk with ⟨kn, h70⟩ | ⟨kq, kn, gkq, h70, q1, q4, q5, q10, q13, q16, dbk, vk, vkt⟩
  · skip
    obtain ⟨hi, ehi⟩ : ∃ z : Int32, z = fI H b (K.1.2 10 70) := ⟨_, rfl⟩
    rw [← ehi] at h70
    obtain ⟨hc0, hs0⟩ := hB0 kn
    obtain ⟨iq, eiq⟩ : ∃ z : Nat, z = fR H b (K.1.2 10 73) := ⟨_, rfl⟩
    have giq := ty_fr (q := iq) (k := 73) (u := 162) eiq hT gb rg_112 rfl
    refine lv_aload_n hx hb dL_law_423 rfl (lv_at hl 2 rfl) ?_
    refine lv_aload_n hx hb dL_law_424 rfl (lv_at hl 3 rfl) ?_
    refine lv_iload_n hx hb dL_law_425 rfl (lv_at hl 0 rfl) ?_
    refine lv_iconst (v := 1) hx hb dL_law_426 (by decide) ?_
    refine lv_iadd hx hb dL_law_427 ?_
    refine lv_topi (fun x103 ex103 => ?_)
    obtain ⟨tx103, ejx103, evx103⟩ := lw_ix (k := 1) ex103 hI hL rfl (by decide)
    clear tx103
    refine va_sld hx hb hX hbl (Nat.not_le.mpr hbl) hS (vp_in_iff.mpr evx103) dL_law_428 ?_
    refine W.eq (g2 := F0 m 429 ls [.int (xs (i.toNatClampNeg + 1)), .ref a]) (congrArg (fun z => F0 m 429 ls [.int (xs z), .ref a]) ejx103) ?_
    refine x_V (As := [.int (xs (i.toNatClampNeg + 1))]) (rest := []) C (a_X9_end_r l K G H ((xs (i.toNatClampNeg + 1))) (ta) hT ga gw ew eta kn) yo_X9_end wM_L_38 ⟨⟨by decide, by decide⟩, show _ ≤ 1200000 from Nat.le_trans hc (by decide), show _ ≤ 5502250 from Nat.le_trans hs (by decide)⟩ (x_rv C hT (ci := 9) rfl ga rg_68) rfl hl.1 rfl (Nat.le_of_ble_eq_true rfl) dL_law_429 hS (AE_new hN hS.1) (fun vH104 H104 locsH104 pH104 zH104 kH104 hSH104 => ?_)
    obtain ⟨x105, x106, hvH104, bx105, ex106, hrH104, m107, m108, hTH104⟩ := pH104
    subst hvH104
    have g109 : CG (avw K H104 b) := CG.congr (fun k hk j => av_eff hT kH104 gb (by decide) (CG_eff [68] (by decide) k hk)) cg
    have g110 : TU (avw K H104 b) (svw K H104 b) := TU.congr (fun k hk j => av_eff hT kH104 gb (by decide) (TU_eff [68] (by decide) k hk)) (fun k hk => sv_eff hT kH104 gb (by decide)) tu
    have g111 : WD (avw K H104 b) := WD.congr (fun k hk j => av_eff hT kH104 gb (by decide) (WD_eff [68] (by decide) k hk)) wd
    have g112 : IM (avw K H104 b) := IM.congr (fun k hk j => av_eff hT kH104 gb (by decide) (IM_eff [68] (by decide) k hk)) im
    have m113 := (etb).trans (fI_kept (x_lt hT kH104 gb (by decide))).symm
    have m114 := (es1).trans (fI_kept (x_lt hT kH104 gw (by decide))).symm
    have m115 := (ey1).trans (fI_kept (x_lt hT kH104 gb (by decide))).symm
    have m116 := (es4).trans (fI_kept (x_lt hT kH104 gw (by decide))).symm
    have m117 := (ey4).trans (fI_kept (x_lt hT kH104 gb (by decide))).symm
    have m118 := (es5).trans (fI_kept (x_lt hT kH104 gw (by decide))).symm
    have m119 := (ey5).trans (fI_kept (x_lt hT kH104 gb (by decide))).symm
    have m120 := (es10).trans (fI_kept (x_lt hT kH104 gw (by decide))).symm
    have m121 := (ey10).trans (fI_kept (x_lt hT kH104 gb (by decide))).symm
    have m122 := (es13).trans (fI_kept (x_lt hT kH104 gw (by decide))).symm
    have m123 := (ey13).trans (fI_kept (x_lt hT kH104 gb (by decide))).symm
    have m124 := (es16).trans (fI_kept (x_lt hT kH104 gw (by decide))).symm
    have m125 := (ey16).trans (fI_kept (x_lt hT kH104 gb (by decide))).symm
    have m126 := (ebq).trans (fR_kept (x_lt hT kH104 gw (by decide))).symm
    have m127 := (eaq).trans (fR_kept (x_lt hT kH104 gb (by decide))).symm
    have m128 := (ehi).trans (fI_kept (x_lt hT kH104 gb (by decide))).symm
    have m129 := (eiq).trans (fR_kept (x_lt hT kH104 gb (by decide))).symm
    have bx106 := ty_fi (x := x106) (k := 3) ex106 hTH104 ga rg_68 rfl
    refine W.eq (g2 := F0 m 432 ls [.int x105]) rfl ?_
    have v130 : ∀ j : Nat, j < 10 → cz101 j = fI H104 (fR H104 bq j) (K.1.2 0 14) := fun j h => (ecz101 j h).trans (by rw [fR_kept (x_lt hT kH104 gbq (by decide))]; exact (fI_kept (x_lt hT kH104 (bar_g hT gbq j h) (by decide))).symm)
    have v131 : ∀ j : Nat, j < 10 → rz102 j = fI H104 aq j := fun j h => (erz102 j h).trans (fI_kept (x_lt hT kH104 gaq (by decide))).symm
    have d132 := DB.kept db (x_lt hT kH104 gbq (by decide))
    refine lv_pop hx hb dL_law_432 rfl ?_
    refine lv_aload_n hx hb dL_law_433 rfl (lv_at hl 1 rfl) ?_
    refine lv_aload_n hx hb dL_law_434 rfl (lv_at hl 3 rfl) ?_
    refine lv_iload_n hx hb dL_law_435 rfl (lv_at hl 0 rfl) ?_
    refine lv_iconst (v := 1) hx hb dL_law_436 (by decide) ?_
    refine lv_iadd hx hb dL_law_437 ?_
    refine lv_topi (fun x133 ex133 => ?_)
    obtain ⟨tx133, ejx133, evx133⟩ := lw_ix (k := 1) ex133 hI hL rfl (by decide)
    clear tx133
    refine va_sld hx hb hX hbl (Nat.not_le.mpr hbl) hSH104 (vp_in_iff.mpr evx133) dL_law_438 ?_
    refine W.eq (g2 := F0 m 439 ls [.int (xs (i.toNatClampNeg + 1)), .ref b]) (congrArg (fun z => F0 m 439 ls [.int (xs z), .ref b]) ejx133) ?_
    refine x_V (As := [.int (xs (i.toNatClampNeg + 1))]) (rest := []) C (a_X10_end_t l K G H104 ((xs (i.toNatClampNeg + 1))) (tb) hTH104 gb m113 g109 g110 g111 g112) yo_X10_end wM_L_42 ⟨⟨by decide, by decide⟩, show _ ≤ 1200000 from Nat.le_trans hc (by decide), show _ ≤ 5502250 from Nat.le_trans hs (by decide)⟩ (x_rv C hTH104 (ci := 10) rfl gb rg_112) rfl hl.1 rfl (Nat.le_of_ble_eq_true rfl) dL_law_439 hSH104 (AE_new hN hSH104.1) (fun vH134 H134 locsH134 pH134 zH134 kH134 hSH134 => ?_)
    obtain ⟨x135, x136, hvH134, bx135, ex136, hrH134, g137, g138, g139, g140, mf141, hTH134⟩ := pH134
    subst hvH134
    have m142 := (m114).trans (fI_kept (x_lt hTH104 kH134 gw (by decide))).symm
    have m143 := (m116).trans (fI_kept (x_lt hTH104 kH134 gw (by decide))).symm
    have m144 := (m118).trans (fI_kept (x_lt hTH104 kH134 gw (by decide))).symm
    have m145 := (m120).trans (fI_kept (x_lt hTH104 kH134 gw (by decide))).symm
    have m146 := (m122).trans (fI_kept (x_lt hTH104 kH134 gw (by decide))).symm
    have m147 := (m124).trans (fI_kept (x_lt hTH104 kH134 gw (by decide))).symm
    have m148 := (m126).trans (fR_kept (x_lt hTH104 kH134 gw (by decide))).symm
    have m149 := (m107).trans (fR_kept (x_lt hTH104 kH134 ga (by decide))).symm
    have m150 := (fV_kept (x_lt hTH104 kH134 ga (by decide))).trans m108
    have m151 := (ex106).trans (fI_kept (x_lt hTH104 kH134 ga (by decide))).symm
    have m152 := (m115).trans (MF.i mf141 (k := 1) (by decide) (by decide)).symm
    have m153 := (m117).trans (MF.i mf141 (k := 2) (by decide) (by decide)).symm
    have m154 := (m119).trans (MF.i mf141 (k := 3) (by decide) (by decide)).symm
    have m155 := (m121).trans (MF.i mf141 (k := 59) (by decide) (by decide)).symm
    have m156 := (m123).trans (MF.i mf141 (k := 62) (by decide) (by decide)).symm
    have m157 := (m125).trans (MF.i mf141 (k := 65) (by decide) (by decide)).symm
    have m158 := (m127).trans (MF.r mf141 (k := 50) (by decide) (by decide)).symm
    have m159 := (m128).trans (MF.i mf141 (k := 70) (by decide) (by decide)).symm
    have m160 := (m129).trans (MF.r mf141 (k := 73) (by decide) (by decide)).symm
    have bx136 := ty_fi (x := x136) (k := 18) ex136 hTH134 gb rg_112 rfl
    refine W.eq (g2 := F0 m 442 ls [.int x135]) rfl ?_
    have v161 : ∀ j : Nat, j < 10 → cz101 j = fI H134 (fR H134 bq j) (K.1.2 0 14) := fun j h => (v130 j h).trans (by rw [fR_kept (x_lt hTH104 kH134 gbq (by decide))]; exact (fI_kept (x_lt hTH104 kH134 (bar_g hTH104 gbq j h) (by decide))).symm)
    have v162 : ∀ j : Nat, j < 10 → rz102 j = fI H134 aq j := fun j h => (v131 j h).trans (fI_kept (x_lt hTH104 kH134 gaq (by decide))).symm
    have d163 := DB.kept d132 (x_lt hTH104 kH134 gbq (by decide))
    refine lv_pop hx hb dL_law_442 rfl ?_
    refine lv_goto (tgt := 1509) hx hb dL_law_443 (by decide) ?_
    exact nx G H134 locsH134 _ _ ls ⟨hTH134, hN, ga, gb, g137, g138, g139, g140, ⟨(by rw [← m151, ← ex136]; omega), (by rw [← m149, ← m142, ← m152]; exact r1), (by rw [← m149, ← m143, ← m153]; exact r4), (by rw [← m149, ← m144, ← m154]; exact r5), (by rw [← m149, ← m145, ← m155]; exact r10), (by rw [← m149, ← m146, ← m156]; exact r13), (by rw [← m149, ← m147, ← m157]; exact r16)⟩, Or.inl ⟨m150, (by rw [← m159]; exact h70)⟩, (by unfold RB; rw [← m149, ← m148, ← m158, ← m152]; exact ⟨d163, fun j h1 h2 => by rw [← v161 j h1, ← v162 j h1]; exact rel j h1 (by omega), fun j h1 h2 => by rw [← v162 j h1]; exact tl j h1 (by omega)⟩), hSH134⟩ hl ⟨hc, hs, fun _ => ⟨hc0, hs0⟩⟩
  · skip
    obtain ⟨hi, ehi⟩ : ∃ z : Int32, z = fI H b (K.1.2 10 70) := ⟨_, rfl⟩
    rw [← ehi] at h70
    obtain ⟨iq, eiq⟩ : ∃ z : Nat, z = fR H b (K.1.2 10 73) := ⟨_, rfl⟩
    have giq := ty_fr (q := iq) (k := 73) (u := 162) eiq hT gb rg_112 rfl
    rw [← eiq] at q1 q4 q5 q10 q13 q16
    obtain ⟨k1, ek1⟩ : ∃ z : Int32, z = fI H kq (K.1.2 8 1) := ⟨_, rfl⟩
    rw [← ek1] at q1
    obtain ⟨i1, ei1⟩ : ∃ z : Int32, z = fI H iq ((0 : Int32).toNatClampNeg) := ⟨_, rfl⟩
    rw [← ei1] at q1
    obtain ⟨k4, ek4⟩ : ∃ z : Int32, z = fI H kq (K.1.2 8 4) := ⟨_, rfl⟩
    rw [← ek4] at q4
    obtain ⟨i4, ei4⟩ : ∃ z : Int32, z = fI H iq ((1 : Int32).toNatClampNeg) := ⟨_, rfl⟩
    rw [← ei4] at q4
    obtain ⟨k5, ek5⟩ : ∃ z : Int32, z = fI H kq (K.1.2 8 5) := ⟨_, rfl⟩
    rw [← ek5] at q5
    obtain ⟨i5, ei5⟩ : ∃ z : Int32, z = fI H iq ((2 : Int32).toNatClampNeg) := ⟨_, rfl⟩
    rw [← ei5] at q5
    obtain ⟨k10, ek10⟩ : ∃ z : Int32, z = fI H kq (K.1.2 8 10) := ⟨_, rfl⟩
    rw [← ek10] at q10
    obtain ⟨i10, ei10⟩ : ∃ z : Int32, z = fI H iq ((3 : Int32).toNatClampNeg) := ⟨_, rfl⟩
    rw [← ei10] at q10
    obtain ⟨k13, ek13⟩ : ∃ z : Int32, z = fI H kq (K.1.2 8 13) := ⟨_, rfl⟩
    rw [← ek13] at q13
    obtain ⟨i13, ei13⟩ : ∃ z : Int32, z = fI H iq ((4 : Int32).toNatClampNeg) := ⟨_, rfl⟩
    rw [← ei13] at q13
    obtain ⟨k16, ek16⟩ : ∃ z : Int32, z = fI H kq (K.1.2 8 16) := ⟨_, rfl⟩
    rw [← ek16] at q16
    obtain ⟨i16, ei16⟩ : ∃ z : Int32, z = fI H iq ((5 : Int32).toNatClampNeg) := ⟨_, rfl⟩
    rw [← ei16] at q16
    obtain ⟨kb, ekb⟩ : ∃ z : Nat, z = fR H kq (K.1.2 8 0) := ⟨_, rfl⟩
    have gkb := ty_fr (q := kb) (k := 0) (u := 59) ekb hT gkq rg_34 rfl
    have bk1 := ty_fi (x := k1) (k := 1) ek1 hT gkq rg_34 rfl
    rw [← ekb] at dbk
    rw [← ekb, ← eiq, ← ek1] at vk
    rw [← eiq, ← ek1] at vkt
    obtain ⟨kz164, ekz164⟩ : ∃ f : Nat → Int32, ∀ j : Nat, j < 10 → f j = fI H (fR H kb j) (K.1.2 0 14) := ⟨_, fun _ _ => rfl⟩
    obtain ⟨iz165, eiz165⟩ : ∃ f : Nat → Int32, ∀ j : Nat, j < 10 → f j = fI H iq (11 + 6 * j) := ⟨_, fun _ _ => rfl⟩
    have vk0 : ∀ j : Nat, j < 10 → (j : Int) < k1.toInt → kz164 j = iz165 j := fun j h1 h2 => by rw [ekz164 j h1, eiz165 j h1]; exact vk j h1 h2
    clear vk
    have vk1 : ∀ j : Nat, j < 10 → k1.toInt ≤ (j : Int) → iz165 j = 0 := fun j h1 h2 => by rw [eiz165 j h1]; exact vkt j h1 h2
    clear vkt
    refine lv_aload_n hx hb dL_law_423 rfl (lv_at hl 2 rfl) ?_
    refine lv_aload_n hx hb dL_law_424 rfl (lv_at hl 3 rfl) ?_
    refine lv_iload_n hx hb dL_law_425 rfl (lv_at hl 0 rfl) ?_
    refine lv_iconst (v := 1) hx hb dL_law_426 (by decide) ?_
    refine lv_iadd hx hb dL_law_427 ?_
    refine lv_topi (fun x166 ex166 => ?_)
    obtain ⟨tx166, ejx166, evx166⟩ := lw_ix (k := 1) ex166 hI hL rfl (by decide)
    clear tx166
    refine va_sld hx hb hX hbl (Nat.not_le.mpr hbl) hS (vp_in_iff.mpr evx166) dL_law_428 ?_
    refine W.eq (g2 := F0 m 429 ls [.int (xs (i.toNatClampNeg + 1)), .ref a]) (congrArg (fun z => F0 m 429 ls [.int (xs z), .ref a]) ejx166) ?_
    refine x_V (As := [.int (xs (i.toNatClampNeg + 1))]) (rest := []) C (a_X9_end_r l K G H ((xs (i.toNatClampNeg + 1))) (ta) hT ga gw ew eta kn) yo_X9_end wM_L_38 ⟨⟨by decide, by decide⟩, show _ ≤ 1200000 from Nat.le_trans hc (by decide), show _ ≤ 5502250 from Nat.le_trans hs (by decide)⟩ (x_rv C hT (ci := 9) rfl ga rg_68) rfl hl.1 rfl (Nat.le_of_ble_eq_true rfl) dL_law_429 hS (AE_new hN hS.1) (fun vH167 H167 locsH167 pH167 zH167 kH167 hSH167 => ?_)
    obtain ⟨x168, x169, hvH167, bx168, ex169, hrH167, m170, m171, hTH167⟩ := pH167
    subst hvH167
    have g172 : CG (avw K H167 b) := CG.congr (fun k hk j => av_eff hT kH167 gb (by decide) (CG_eff [68] (by decide) k hk)) cg
    have g173 : TU (avw K H167 b) (svw K H167 b) := TU.congr (fun k hk j => av_eff hT kH167 gb (by decide) (TU_eff [68] (by decide) k hk)) (fun k hk => sv_eff hT kH167 gb (by decide)) tu
    have g174 : WD (avw K H167 b) := WD.congr (fun k hk j => av_eff hT kH167 gb (by decide) (WD_eff [68] (by decide) k hk)) wd
    have g175 : IM (avw K H167 b) := IM.congr (fun k hk j => av_eff hT kH167 gb (by decide) (IM_eff [68] (by decide) k hk)) im
    have m176 := (etb).trans (fI_kept (x_lt hT kH167 gb (by decide))).symm
    have m177 := (es1).trans (fI_kept (x_lt hT kH167 gw (by decide))).symm
    have m178 := (ey1).trans (fI_kept (x_lt hT kH167 gb (by decide))).symm
    have m179 := (es4).trans (fI_kept (x_lt hT kH167 gw (by decide))).symm
    have m180 := (ey4).trans (fI_kept (x_lt hT kH167 gb (by decide))).symm
    have m181 := (es5).trans (fI_kept (x_lt hT kH167 gw (by decide))).symm
    have m182 := (ey5).trans (fI_kept (x_lt hT kH167 gb (by decide))).symm
    have m183 := (es10).trans (fI_kept (x_lt hT kH167 gw (by decide))).symm
    have m184 := (ey10).trans (fI_kept (x_lt hT kH167 gb (by decide))).symm
    have m185 := (es13).trans (fI_kept (x_lt hT kH167 gw (by decide))).symm
    have m186 := (ey13).trans (fI_kept (x_lt hT kH167 gb (by decide))).symm
    have m187 := (es16).trans (fI_kept (x_lt hT kH167 gw (by decide))).symm
    have m188 := (ey16).trans (fI_kept (x_lt hT kH167 gb (by decide))).symm
    have m189 := (ebq).trans (fR_kept (x_lt hT kH167 gw (by decide))).symm
    have m190 := (eaq).trans (fR_kept (x_lt hT kH167 gb (by decide))).symm
    have m191 := (ehi).trans (fI_kept (x_lt hT kH167 gb (by decide))).symm
    have m192 := (eiq).trans (fR_kept (x_lt hT kH167 gb (by decide))).symm
    have m193 := (ek1).trans (fI_kept (x_lt hT kH167 gkq (by decide))).symm
    have m194 := (ei1).trans (fI_kept (x_lt hT kH167 giq (by decide))).symm
    have m195 := (ek4).trans (fI_kept (x_lt hT kH167 gkq (by decide))).symm
    have m196 := (ei4).trans (fI_kept (x_lt hT kH167 giq (by decide))).symm
    have m197 := (ek5).trans (fI_kept (x_lt hT kH167 gkq (by decide))).symm
    have m198 := (ei5).trans (fI_kept (x_lt hT kH167 giq (by decide))).symm
    have m199 := (ek10).trans (fI_kept (x_lt hT kH167 gkq (by decide))).symm
    have m200 := (ei10).trans (fI_kept (x_lt hT kH167 giq (by decide))).symm
    have m201 := (ek13).trans (fI_kept (x_lt hT kH167 gkq (by decide))).symm
    have m202 := (ei13).trans (fI_kept (x_lt hT kH167 giq (by decide))).symm
    have m203 := (ek16).trans (fI_kept (x_lt hT kH167 gkq (by decide))).symm
    have m204 := (ei16).trans (fI_kept (x_lt hT kH167 giq (by decide))).symm
    have m205 := (ekb).trans (fR_kept (x_lt hT kH167 gkq (by decide))).symm
    have bx169 := ty_fi (x := x169) (k := 3) ex169 hTH167 ga rg_68 rfl
    refine W.eq (g2 := F0 m 432 ls [.int x168]) rfl ?_
    have v206 : ∀ j : Nat, j < 10 → cz101 j = fI H167 (fR H167 bq j) (K.1.2 0 14) := fun j h => (ecz101 j h).trans (by rw [fR_kept (x_lt hT kH167 gbq (by decide))]; exact (fI_kept (x_lt hT kH167 (bar_g hT gbq j h) (by decide))).symm)
    have v207 : ∀ j : Nat, j < 10 → rz102 j = fI H167 aq j := fun j h => (erz102 j h).trans (fI_kept (x_lt hT kH167 gaq (by decide))).symm
    have v208 : ∀ j : Nat, j < 10 → kz164 j = fI H167 (fR H167 kb j) (K.1.2 0 14) := fun j h => (ekz164 j h).trans (by rw [fR_kept (x_lt hT kH167 gkb (by decide))]; exact (fI_kept (x_lt hT kH167 (bar_h hT gkb j h) (by decide))).symm)
    have d209 := DB.kept dbk (x_lt hT kH167 gkb (by decide))
    have v210 : ∀ j : Nat, j < 10 → iz165 j = fI H167 iq (11 + 6 * j) := fun j h => (eiz165 j h).trans (fI_kept (x_lt hT kH167 giq (by decide))).symm
    have d211 := DB.kept db (x_lt hT kH167 gbq (by decide))
    refine lv_pop hx hb dL_law_432 rfl ?_
    refine lv_aload_n hx hb dL_law_433 rfl (lv_at hl 1 rfl) ?_
    refine lv_aload_n hx hb dL_law_434 rfl (lv_at hl 3 rfl) ?_
    refine lv_iload_n hx hb dL_law_435 rfl (lv_at hl 0 rfl) ?_
    refine lv_iconst (v := 1) hx hb dL_law_436 (by decide) ?_
    refine lv_iadd hx hb dL_law_437 ?_
    refine lv_topi (fun x212 ex212 => ?_)
    obtain ⟨tx212, ejx212, evx212⟩ := lw_ix (k := 1) ex212 hI hL rfl (by decide)
    clear tx212
    refine va_sld hx hb hX hbl (Nat.not_le.mpr hbl) hSH167 (vp_in_iff.mpr evx212) dL_law_438 ?_
    refine W.eq (g2 := F0 m 439 ls [.int (xs (i.toNatClampNeg + 1)), .ref b]) (congrArg (fun z => F0 m 439 ls [.int (xs z), .ref b]) ejx212) ?_
    refine x_V (As := [.int (xs (i.toNatClampNeg + 1))]) (rest := []) C (a_X10_end_t l K G H167 ((xs (i.toNatClampNeg + 1))) (tb) hTH167 gb m176 g172 g173 g174 g175) yo_X10_end wM_L_42 ⟨⟨by decide, by decide⟩, show _ ≤ 1200000 from Nat.le_trans hc (by decide), show _ ≤ 5502250 from Nat.le_trans hs (by decide)⟩ (x_rv C hTH167 (ci := 10) rfl gb rg_112) rfl hl.1 rfl (Nat.le_of_ble_eq_true rfl) dL_law_439 hSH167 (AE_new hN hSH167.1) (fun vH213 H213 locsH213 pH213 zH213 kH213 hSH213 => ?_)
    obtain ⟨x214, x215, hvH213, bx214, ex215, hrH213, g216, g217, g218, g219, mf220, hTH213⟩ := pH213
    subst hvH213
    have m221 := (m177).trans (fI_kept (x_lt hTH167 kH213 gw (by decide))).symm
    have m222 := (m179).trans (fI_kept (x_lt hTH167 kH213 gw (by decide))).symm
    have m223 := (m181).trans (fI_kept (x_lt hTH167 kH213 gw (by decide))).symm
    have m224 := (m183).trans (fI_kept (x_lt hTH167 kH213 gw (by decide))).symm
    have m225 := (m185).trans (fI_kept (x_lt hTH167 kH213 gw (by decide))).symm
    have m226 := (m187).trans (fI_kept (x_lt hTH167 kH213 gw (by decide))).symm
    have m227 := (m189).trans (fR_kept (x_lt hTH167 kH213 gw (by decide))).symm
    have m228 := (m193).trans (fI_kept (x_lt hTH167 kH213 gkq (by decide))).symm
    have m229 := (m194).trans (fI_kept (x_lt hTH167 kH213 giq (by decide))).symm
    have m230 := (m195).trans (fI_kept (x_lt hTH167 kH213 gkq (by decide))).symm
    have m231 := (m196).trans (fI_kept (x_lt hTH167 kH213 giq (by decide))).symm
    have m232 := (m197).trans (fI_kept (x_lt hTH167 kH213 gkq (by decide))).symm
    have m233 := (m198).trans (fI_kept (x_lt hTH167 kH213 giq (by decide))).symm
    have m234 := (m199).trans (fI_kept (x_lt hTH167 kH213 gkq (by decide))).symm
    have m235 := (m200).trans (fI_kept (x_lt hTH167 kH213 giq (by decide))).symm
    have m236 := (m201).trans (fI_kept (x_lt hTH167 kH213 gkq (by decide))).symm
    have m237 := (m202).trans (fI_kept (x_lt hTH167 kH213 giq (by decide))).symm
    have m238 := (m203).trans (fI_kept (x_lt hTH167 kH213 gkq (by decide))).symm
    have m239 := (m204).trans (fI_kept (x_lt hTH167 kH213 giq (by decide))).symm
    have m240 := (m205).trans (fR_kept (x_lt hTH167 kH213 gkq (by decide))).symm
    have m241 := (m170).trans (fR_kept (x_lt hTH167 kH213 ga (by decide))).symm
    have m242 := (fV_kept (x_lt hTH167 kH213 ga (by decide))).trans m171
    have m243 := (ex169).trans (fI_kept (x_lt hTH167 kH213 ga (by decide))).symm
    have m244 := (m178).trans (MF.i mf220 (k := 1) (by decide) (by decide)).symm
    have m245 := (m180).trans (MF.i mf220 (k := 2) (by decide) (by decide)).symm
    have m246 := (m182).trans (MF.i mf220 (k := 3) (by decide) (by decide)).symm
    have m247 := (m184).trans (MF.i mf220 (k := 59) (by decide) (by decide)).symm
    have m248 := (m186).trans (MF.i mf220 (k := 62) (by decide) (by decide)).symm
    have m249 := (m188).trans (MF.i mf220 (k := 65) (by decide) (by decide)).symm
    have m250 := (m190).trans (MF.r mf220 (k := 50) (by decide) (by decide)).symm
    have m251 := (m191).trans (MF.i mf220 (k := 70) (by decide) (by decide)).symm
    have m252 := (m192).trans (MF.r mf220 (k := 73) (by decide) (by decide)).symm
    have bx215 := ty_fi (x := x215) (k := 18) ex215 hTH213 gb rg_112 rfl
    refine W.eq (g2 := F0 m 442 ls [.int x214]) rfl ?_
    have v253 : ∀ j : Nat, j < 10 → cz101 j = fI H213 (fR H213 bq j) (K.1.2 0 14) := fun j h => (v206 j h).trans (by rw [fR_kept (x_lt hTH167 kH213 gbq (by decide))]; exact (fI_kept (x_lt hTH167 kH213 (bar_g hTH167 gbq j h) (by decide))).symm)
    have v254 : ∀ j : Nat, j < 10 → rz102 j = fI H213 aq j := fun j h => (v207 j h).trans (fI_kept (x_lt hTH167 kH213 gaq (by decide))).symm
    have v255 : ∀ j : Nat, j < 10 → kz164 j = fI H213 (fR H213 kb j) (K.1.2 0 14) := fun j h => (v208 j h).trans (by rw [fR_kept (x_lt hTH167 kH213 gkb (by decide))]; exact (fI_kept (x_lt hTH167 kH213 (bar_h hTH167 gkb j h) (by decide))).symm)
    have d256 := DB.kept d209 (x_lt hTH167 kH213 gkb (by decide))
    have v257 : ∀ j : Nat, j < 10 → iz165 j = fI H213 iq (11 + 6 * j) := fun j h => (v210 j h).trans (fI_kept (x_lt hTH167 kH213 giq (by decide))).symm
    have d258 := DB.kept d211 (x_lt hTH167 kH213 gbq (by decide))
    refine lv_pop hx hb dL_law_442 rfl ?_
    refine lv_goto (tgt := 1509) hx hb dL_law_443 (by decide) ?_
    exact nx G H213 locsH213 _ _ ls ⟨hTH213, hN, ga, gb, g216, g217, g218, g219, ⟨(by rw [← m243, ← ex215]; omega), (by rw [← m241, ← m221, ← m244]; exact r1), (by rw [← m241, ← m222, ← m245]; exact r4), (by rw [← m241, ← m223, ← m246]; exact r5), (by rw [← m241, ← m224, ← m247]; exact r10), (by rw [← m241, ← m225, ← m248]; exact r13), (by rw [← m241, ← m226, ← m249]; exact r16)⟩, Or.inr ⟨kq, m242, gkq, (by rw [← m251]; exact h70), (by rw [← m228, ← m252, ← m229]; exact q1), (by rw [← m230, ← m252, ← m231]; exact q4), (by rw [← m232, ← m252, ← m233]; exact q5), (by rw [← m234, ← m252, ← m235]; exact q10), (by rw [← m236, ← m252, ← m237]; exact q13), (by rw [← m238, ← m252, ← m239]; exact q16), (by rw [← m240]; exact d256), (by rw [← m240, ← m252, ← m228]; exact fun j h1 h2 => by rw [← v255 j h1, ← v257 j h1]; exact vk0 j h1 (by omega)), (by rw [← m252, ← m228]; exact fun j h1 h2 => by rw [← v257 j h1]; exact vk1 j h1 (by omega))⟩, (by unfold RB; rw [← m241, ← m227, ← m250, ← m244]; exact ⟨d258, fun j h1 h2 => by rw [← v253 j h1, ← v254 j h1]; exact rel j h1 (by omega), fun j h1 h2 => by rw [← v254 j h1]; exact tl j h1 (by omega)⟩), hSH213⟩ hl ⟨hc, hs, fun h => by have h1 := h.symm.trans m242; cases h1⟩
set_option maxRecDepth 100000 in
set_option maxHeartbeats 8000000 in
theorem lw_c6 {p : Program} {l : Launch} {e : Env} {s : State} {m : MethodId} {below : List Frame} {meth : Method} {c : Code} {K : KE} {b0 L : Nat} {xs : Nat → Int32} {G : Nat → Option Nat} {H : Heap} {locs : List Loc} {a b : Nat} {cells slots : Nat} {ls : Array Slot} {i : Int32} {n : Nat} (D : LC p K s m meth c b0 L xs) (S : SX K s G H locs a b) (hl : lv_has ls 4 [(3, .int i), (2, .ref b), (1, .ref a), (0, .ref b0)]) (hi : 0 ≤ i.toInt ∧ i.toInt + 6 ≤ L) (hn : n ≤ 511) (hB : BD K H a cells slots) (nx : ∀ (G : Nat → Option Nat) (H : Heap) (locs : List Loc) (cells slots : Nat) (ls : Array Slot), SX K s G H locs a b → lv_has ls 4 [(3, .int i), (2, .ref b), (1, .ref a), (0, .ref b0)] → BD K H a cells slots → W p l e room_1 s m #[Value.ref b0] below meth c H locs cells slots (lw_Z below #[Value.ref b0] s) (F0 m 1509 ls [])) : W p l e room_1 s m #[Value.ref b0] below meth c H locs cells slots (lw_Z below #[Value.ref b0] s) (F0 m 446 ls []) := by
  have hI := hi
  obtain ⟨C, hX, hbl, hL⟩ := id D
  obtain ⟨hx, hb, hml, hown, hts, hKT, hr, hlocks, hnm⟩ := id C
  obtain ⟨hT, hN, ga, gb, cg, tu, wd, im, ⟨rt, r1, r4, r5, r10, r13, r16⟩, hk, hrb, hS⟩ := S
  obtain ⟨hc, hs, hB0⟩ := hB
  have n_m1 : ((-1) : Int32).toInt = -1 := rfl
  have n_0 : (0 : Int32).toInt = 0 := rfl
  have n_1 : (1 : Int32).toInt = 1 := rfl
  have n_2 : (2 : Int32).toInt = 2 := rfl
  obtain ⟨w, ew⟩ : ∃ z : Nat, z = fR H a (K.1.2 9 0) := ⟨_, rfl⟩
  have gw := ty_fr (q := w) (k := 0) (u := 0) ew hT ga rg_68 rfl
  rw [← ew] at r1 r4 r5 r10 r13 r16
  obtain ⟨ta, eta⟩ : ∃ z : Int32, z = fI H a (K.1.2 9 3) := ⟨_, rfl⟩
  rw [← eta] at rt
  obtain ⟨tb, etb⟩ : ∃ z : Int32, z = fI H b (K.1.2 10 18) := ⟨_, rfl⟩
  rw [← etb] at rt
  obtain ⟨s1, es1⟩ : ∃ z : Int32, z = fI H w (K.1.2 8 1) := ⟨_, rfl⟩
  rw [← es1] at r1
  obtain ⟨y1, ey1⟩ : ∃ z : Int32, z = fI H b (K.1.2 10 1) := ⟨_, rfl⟩
  rw [← ey1] at r1
  obtain ⟨s4, es4⟩ : ∃ z : Int32, z = fI H w (K.1.2 8 4) := ⟨_, rfl⟩
  rw [← es4] at r4
  obtain ⟨y4, ey4⟩ : ∃ z : Int32, z = fI H b (K.1.2 10 2) := ⟨_, rfl⟩
  rw [← ey4] at r4
  obtain ⟨s5, es5⟩ : ∃ z : Int32, z = fI H w (K.1.2 8 5) := ⟨_, rfl⟩
  rw [← es5] at r5
  obtain ⟨y5, ey5⟩ : ∃ z : Int32, z = fI H b (K.1.2 10 3) := ⟨_, rfl⟩
  rw [← ey5] at r5
  obtain ⟨s10, es10⟩ : ∃ z : Int32, z = fI H w (K.1.2 8 10) := ⟨_, rfl⟩
  rw [← es10] at r10
  obtain ⟨y10, ey10⟩ : ∃ z : Int32, z = fI H b (K.1.2 10 59) := ⟨_, rfl⟩
  rw [← ey10] at r10
  obtain ⟨s13, es13⟩ : ∃ z : Int32, z = fI H w (K.1.2 8 13) := ⟨_, rfl⟩
  rw [← es13] at r13
  obtain ⟨y13, ey13⟩ : ∃ z : Int32, z = fI H b (K.1.2 10 62) := ⟨_, rfl⟩
  rw [← ey13] at r13
  obtain ⟨s16, es16⟩ : ∃ z : Int32, z = fI H w (K.1.2 8 16) := ⟨_, rfl⟩
  rw [← es16] at r16
  obtain ⟨y16, ey16⟩ : ∃ z : Int32, z = fI H b (K.1.2 10 65) := ⟨_, rfl⟩
  rw [← ey16] at r16
  obtain ⟨bq, ebq⟩ : ∃ z : Nat, z = fR H w (K.1.2 8 0) := ⟨_, rfl⟩
  have gbq := ty_fr (q := bq) (k := 0) (u := 25) ebq hT gw rg_0 rfl
  obtain ⟨aq, eaq⟩ : ∃ z : Nat, z = fR H b (K.1.2 10 50) := ⟨_, rfl⟩
  have gaq := ty_fr (q := aq) (k := 50) (u := 146) eaq hT gb rg_112 rfl
  have bs1 := ty_fi (x := s1) (k := 1) es1 hT gw rg_0 rfl
  have by1 := ty_fi (x := y1) (k := 1) ey1 hT gb rg_112 rfl
  obtain ⟨db, vr, vt⟩ := hrb
  rw [← ew, ← ebq] at db
  rw [← ew, ← ebq, ← eaq, ← ey1] at vr
  rw [← eaq, ← ey1] at vt
  obtain ⟨cz101, ecz101⟩ : ∃ f : Nat → Int32, ∀ j : Nat, j < 10 → f j = fI H (fR H bq j) (K.1.2 0 14) := ⟨_, fun _ _ => rfl⟩
  obtain ⟨rz102, erz102⟩ : ∃ f : Nat → Int32, ∀ j : Nat, j < 10 → f j = fI H aq j := ⟨_, fun _ _ => rfl⟩
  have rel : ∀ j : Nat, j < 10 → (j : Int) < y1.toInt → cz101 j = rz102 j := fun j h1 h2 => by rw [ecz101 j h1, erz102 j h1]; exact vr j h1 h2
  clear vr
  have tl : ∀ j : Nat, j < 10 → y1.toInt ≤ (j : Int) → rz102 j = 0 := fun j h1 h2 => by rw [erz102 j h1]; exact vt j h1 h2
  clear vt
  rcases hk with ⟨kn, h70⟩ | ⟨kq, kn, gkq, h70, q1, q4, q5, q10, q13, q16, dbk, vk, vkt⟩
  · skip
    obtain ⟨hi, ehi⟩ : ∃ z : Int32, z = fI H b (K.1.2 10 70) := ⟨_, rfl⟩
    rw [← ehi] at h70
    obtain ⟨hc0, hs0⟩ := hB0 kn
    obtain ⟨iq, eiq⟩ : ∃ z : Nat, z = fR H b (K.1.2 10 73) := ⟨_, rfl⟩
    have giq := ty_fr (q := iq) (k := 73) (u := 162) eiq hT gb rg_112 rfl
    refine lv_aload_n hx hb dL_law_446 rfl (lv_at hl 2 rfl) ?_
    refine lv_aload_n hx hb dL_law_447 rfl (lv_at hl 3 rfl) ?_
    refine lv_iload_n hx hb dL_law_448 rfl (lv_at hl 0 rfl) ?_
    refine lv_iconst (v := 1) hx hb dL_law_449 (by decide) ?_
    refine lv_iadd hx hb dL_law_450 ?_
    refine lv_topi (fun x103 ex103 => ?_)
    obtain ⟨tx103, ejx103, evx103⟩ := lw_ix (k := 1) ex103 hI hL rfl (by decide)
    clear tx103
    refine va_sld hx hb hX hbl (Nat.not_le.mpr hbl) hS (vp_in_iff.mpr evx103) dL_law_451 ?_
    refine W.eq (g2 := F0 m 452 ls [.int (xs (i.toNatClampNeg + 1)), .ref a]) (congrArg (fun z => F0 m 452 ls [.int (xs z), .ref a]) ejx103) ?_
    refine lv_aload_n hx hb dL_law_452 rfl (lv_at hl 3 rfl) ?_
    refine lv_iload_n hx hb dL_law_453 rfl (lv_at hl 0 rfl) ?_
    refine lv_iconst (v := 2) hx hb dL_law_454 (by decide) ?_
    refine lv_iadd hx hb dL_law_455 ?_
    refine lv_topi (fun x104 ex104 => ?_)
    obtain ⟨tx104, ejx104, evx104⟩ := lw_ix (k := 2) ex104 hI hL rfl (by decide)
    clear tx104
    refine va_sld hx hb hX hbl (Nat.not_le.mpr hbl) hS (vp_in_iff.mpr evx104) dL_law_456 ?_
    refine W.eq (g2 := F0 m 457 ls [.int (xs (i.toNatClampNeg + 2)), .int (xs (i.toNatClampNeg + 1)), .ref a]) (congrArg (fun z => F0 m 457 ls [.int (xs z), .int (xs (i.toNatClampNeg + 1)), .ref a]) ejx104) ?_
    refine x_V (As := [.int (xs (i.toNatClampNeg + 1)), .int (xs (i.toNatClampNeg + 2))]) (rest := []) C (a_X9_text_r l K G H (xs (i.toNatClampNeg + 1)) (xs (i.toNatClampNeg + 2)) (s1) (s4) (s5) (s10) (s13) (s16) hT ga gw ew es1 es4 es5 es10 es13 es16 gbq ebq kn) yo_X9_text wM_L_43 ⟨⟨by decide, by decide⟩, show _ ≤ 1200000 from Nat.le_trans hc (by decide), show _ ≤ 5502250 from Nat.le_trans hs (by decide)⟩ (x_rv C hT (ci := 9) rfl ga rg_68) rfl hl.1 rfl (Nat.le_of_ble_eq_true rfl) dL_law_457 hS (AE_new hN hS.1) (fun vH105 H105 locsH105 pH105 zH105 kH105 hSH105 => ?_)
    obtain ⟨x106, hvH105, m107, m108, m109, m110, m111, m112, m113, m114, m115, m116, hTH105⟩ := pH105
    subst hvH105
    have g117 : CG (avw K H105 b) := CG.congr (fun k hk j => av_eff hT kH105 gb (by decide) (CG_eff [68, 0, 78, 79, 80, 81, 69, 70, 71, 72, 73, 74, 75, 76, 77, 16, 17, 18, 19, 20, 21, 22, 23, 24] (by decide) k hk)) cg
    have g118 : TU (avw K H105 b) (svw K H105 b) := TU.congr (fun k hk j => av_eff hT kH105 gb (by decide) (TU_eff [68, 0, 78, 79, 80, 81, 69, 70, 71, 72, 73, 74, 75, 76, 77, 16, 17, 18, 19, 20, 21, 22, 23, 24] (by decide) k hk)) (fun k hk => sv_eff hT kH105 gb (by decide)) tu
    have g119 : WD (avw K H105 b) := WD.congr (fun k hk j => av_eff hT kH105 gb (by decide) (WD_eff [68, 0, 78, 79, 80, 81, 69, 70, 71, 72, 73, 74, 75, 76, 77, 16, 17, 18, 19, 20, 21, 22, 23, 24] (by decide) k hk)) wd
    have g120 : IM (avw K H105 b) := IM.congr (fun k hk j => av_eff hT kH105 gb (by decide) (IM_eff [68, 0, 78, 79, 80, 81, 69, 70, 71, 72, 73, 74, 75, 76, 77, 16, 17, 18, 19, 20, 21, 22, 23, 24] (by decide) k hk)) im
    have m121 := (etb).trans (fI_kept (x_lt hT kH105 gb (by decide))).symm
    have m122 := (ey1).trans (fI_kept (x_lt hT kH105 gb (by decide))).symm
    have m123 := (ey4).trans (fI_kept (x_lt hT kH105 gb (by decide))).symm
    have m124 := (ey5).trans (fI_kept (x_lt hT kH105 gb (by decide))).symm
    have m125 := (ey10).trans (fI_kept (x_lt hT kH105 gb (by decide))).symm
    have m126 := (ey13).trans (fI_kept (x_lt hT kH105 gb (by decide))).symm
    have m127 := (ey16).trans (fI_kept (x_lt hT kH105 gb (by decide))).symm
    have m128 := (eaq).trans (fR_kept (x_lt hT kH105 gb (by decide))).symm
    have m129 := (ehi).trans (fI_kept (x_lt hT kH105 gb (by decide))).symm
    have m130 := (eiq).trans (fR_kept (x_lt hT kH105 gb (by decide))).symm
    refine W.eq (g2 := F0 m 460 ls [.int x106]) rfl ?_
    have v131 : ∀ j : Nat, j < 10 → cz101 j = fI H105 (fR H105 bq j) (K.1.2 0 14) := fun j h => (ecz101 j h).trans (by rw [fR_kept (x_lt hT kH105 gbq (by decide))]; exact (fI_kept (x_lt hT kH105 (bar_g hT gbq j h) (by decide))).symm)
    have v132 : ∀ j : Nat, j < 10 → rz102 j = fI H105 aq j := fun j h => (erz102 j h).trans (fI_kept (x_lt hT kH105 gaq (by decide))).symm
    have d133 := DB.kept db (x_lt hT kH105 gbq (by decide))
    refine lv_pop hx hb dL_law_460 rfl ?_
    refine lv_aload_n hx hb dL_law_461 rfl (lv_at hl 1 rfl) ?_
    refine lv_aload_n hx hb dL_law_462 rfl (lv_at hl 3 rfl) ?_
    refine lv_iload_n hx hb dL_law_463 rfl (lv_at hl 0 rfl) ?_
    refine lv_iconst (v := 1) hx hb dL_law_464 (by decide) ?_
    refine lv_iadd hx hb dL_law_465 ?_
    refine lv_topi (fun x134 ex134 => ?_)
    obtain ⟨tx134, ejx134, evx134⟩ := lw_ix (k := 1) ex134 hI hL rfl (by decide)
    clear tx134
    refine va_sld hx hb hX hbl (Nat.not_le.mpr hbl) hSH105 (vp_in_iff.mpr evx134) dL_law_466 ?_
    refine W.eq (g2 := F0 m 467 ls [.int (xs (i.toNatClampNeg + 1)), .ref b]) (congrArg (fun z => F0 m 467 ls [.int (xs z), .ref b]) ejx134) ?_
    refine lv_aload_n hx hb dL_law_467 rfl (lv_at hl 3 rfl) ?_
    refine lv_iload_n hx hb dL_law_468 rfl (lv_at hl 0 rfl) ?_
    refine lv_iconst (v := 2) hx hb dL_law_469 (by decide) ?_
    refine lv_iadd hx hb dL_law_470 ?_
    refine lv_topi (fun x135 ex135 => ?_)
    obtain ⟨tx135, ejx135, evx135⟩ := lw_ix (k := 2) ex135 hI hL rfl (by decide)
    clear tx135
    refine va_sld hx hb hX hbl (Nat.not_le.mpr hbl) hSH105 (vp_in_iff.mpr evx135) dL_law_471 ?_
    refine W.eq (g2 := F0 m 472 ls [.int (xs (i.toNatClampNeg + 2)), .int (xs (i.toNatClampNeg + 1)), .ref b]) (congrArg (fun z => F0 m 472 ls [.int (xs z), .int (xs (i.toNatClampNeg + 1)), .ref b]) ejx135) ?_
    obtain ⟨q136, eq136⟩ : ∃ z : Nat, z = fR H105 b (K.1.2 10 32) := ⟨_, rfl⟩
    have gq136 := ty_fr (q := q136) (k := 32) (u := 136) eq136 hTH105 gb rg_112 rfl
    obtain ⟨q137, eq137⟩ : ∃ z : Nat, z = fR H105 b (K.1.2 10 33) := ⟨_, rfl⟩
    have gq137 := ty_fr (q := q137) (k := 33) (u := 137) eq137 hTH105 gb rg_112 rfl
    obtain ⟨q138, eq138⟩ : ∃ z : Nat, z = fR H105 b (K.1.2 10 29) := ⟨_, rfl⟩
    have gq138 := ty_fr (q := q138) (k := 29) (u := 133) eq138 hTH105 gb rg_112 rfl
    obtain ⟨q139, eq139⟩ : ∃ z : Nat, z = fR H105 b (K.1.2 10 30) := ⟨_, rfl⟩
    have gq139 := ty_fr (q := q139) (k := 30) (u := 134) eq139 hTH105 gb rg_112 rfl
    obtain ⟨q140, eq140⟩ : ∃ z : Nat, z = fR H105 b (K.1.2 10 31) := ⟨_, rfl⟩
    have gq140 := ty_fr (q := q140) (k := 31) (u := 135) eq140 hTH105 gb rg_112 rfl
    obtain ⟨q141, eq141⟩ : ∃ z : Nat, z = fR H105 b (K.1.2 10 24) := ⟨_, rfl⟩
    have gq141 := ty_fr (q := q141) (k := 24) (u := 128) eq141 hTH105 gb rg_112 rfl
    obtain ⟨x142, ex142⟩ : ∃ z : Int32, z = fI H105 b (K.1.2 10 35) := ⟨_, rfl⟩
    have bx142 := ty_fi (x := x142) (k := 35) ex142 hTH105 gb rg_112 rfl
    refine x_V (As := [.int (xs (i.toNatClampNeg + 1)), .int (xs (i.toNatClampNeg + 2))]) (rest := []) C (a_X10_text l K G H105 ((xs (i.toNatClampNeg + 1))) ((xs (i.toNatClampNeg + 2))) (x142) (tb) hTH105 gb gq136 eq136 gq137 eq137 gq138 eq138 gq139 eq139 gq140 eq140 gq141 eq141 ex142 m121 g117 g118 g119 g120) yo_X10_text wM_L_47 ⟨⟨by decide, by decide⟩, show _ ≤ 1200000 from Nat.le_trans hc (by decide), show _ ≤ 5502250 from Nat.le_trans hs (by decide)⟩ (x_rv C hTH105 (ci := 10) rfl gb rg_112) rfl hl.1 rfl (Nat.le_of_ble_eq_true rfl) dL_law_472 hSH105 (AE_new hN hSH105.1) (fun vH143 H143 locsH143 pH143 zH143 kH143 hSH143 => ?_)
    obtain ⟨x144, x145, x146, hvH143, ex145, ex146, hrH143, m147, m148, m149, m150, m151, m152, g153, g154, g155, g156, mf157, hTH143⟩ := pH143
    subst hvH143
    have m158 := (m107).trans (fR_kept (x_lt hTH105 kH143 ga (by decide))).symm
    have m159 := (m108).trans (fI_kept (x_lt hTH105 kH143 gw (by decide))).symm
    have m160 := (m109).trans (fI_kept (x_lt hTH105 kH143 gw (by decide))).symm
    have m161 := (m110).trans (fI_kept (x_lt hTH105 kH143 gw (by decide))).symm
    have m162 := (m111).trans (fI_kept (x_lt hTH105 kH143 gw (by decide))).symm
    have m163 := (m112).trans (fI_kept (x_lt hTH105 kH143 gw (by decide))).symm
    have m164 := (m113).trans (fI_kept (x_lt hTH105 kH143 gw (by decide))).symm
    have m165 := (fI_kept (x_lt hTH105 kH143 ga (by decide))).trans m114
    have m166 := (fV_kept (x_lt hTH105 kH143 ga (by decide))).trans m115
    have m167 := (m116).trans (fR_kept (x_lt hTH105 kH143 gw (by decide))).symm
    have m168 := (m122).trans (MF.i mf157 (k := 1) (by decide) (by decide)).symm
    have m169 := (m123).trans (MF.i mf157 (k := 2) (by decide) (by decide)).symm
    have m170 := (m124).trans (MF.i mf157 (k := 3) (by decide) (by decide)).symm
    have m171 := (m125).trans (MF.i mf157 (k := 59) (by decide) (by decide)).symm
    have m172 := (m126).trans (MF.i mf157 (k := 62) (by decide) (by decide)).symm
    have m173 := (m127).trans (MF.i mf157 (k := 65) (by decide) (by decide)).symm
    have m174 := (m128).trans (MF.r mf157 (k := 50) (by decide) (by decide)).symm
    have m175 := (m129).trans (MF.i mf157 (k := 70) (by decide) (by decide)).symm
    have m176 := (m130).trans (MF.r mf157 (k := 73) (by decide) (by decide)).symm
    have m177 := (eq136).trans (MF.r mf157 (k := 32) (by decide) (by decide)).symm
    have m178 := (eq137).trans (MF.r mf157 (k := 33) (by decide) (by decide)).symm
    have m179 := (eq138).trans (MF.r mf157 (k := 29) (by decide) (by decide)).symm
    have m180 := (eq139).trans (MF.r mf157 (k := 30) (by decide) (by decide)).symm
    have m181 := (eq140).trans (MF.r mf157 (k := 31) (by decide) (by decide)).symm
    have m182 := (eq141).trans (MF.r mf157 (k := 24) (by decide) (by decide)).symm
    have bx145 := ty_fi (x := x145) (k := 35) ex145 hTH143 gb rg_112 rfl
    have bx146 := ty_fi (x := x146) (k := 18) ex146 hTH143 gb rg_112 rfl
    refine W.eq (g2 := F0 m 475 ls [.int x144]) rfl ?_
    have v183 : ∀ j : Nat, j < 10 → cz101 j = fI H143 (fR H143 bq j) (K.1.2 0 14) := fun j h => (v131 j h).trans (by rw [fR_kept (x_lt hTH105 kH143 gbq (by decide))]; exact (fI_kept (x_lt hTH105 kH143 (bar_g hTH105 gbq j h) (by decide))).symm)
    have v184 : ∀ j : Nat, j < 10 → rz102 j = fI H143 aq j := fun j h => (v132 j h).trans (fI_kept (x_lt hTH105 kH143 gaq (by decide))).symm
    have d185 := DB.kept d133 (x_lt hTH105 kH143 gbq (by decide))
    refine lv_pop hx hb dL_law_475 rfl ?_
    refine lv_goto (tgt := 1509) hx hb dL_law_476 (by decide) ?_
    exact nx G H143 locsH143 _ _ ls ⟨hTH143, hN, ga, gb, g153, g154, g155, g156, ⟨(by rw [m165, ← ex146]; omega), (by rw [← m158, ← m159, ← m168]; exact r1), (by rw [← m158, ← m160, ← m169]; exact r4), (by rw [← m158, ← m161, ← m170]; exact r5), (by rw [← m158, ← m162, ← m171]; exact r10), (by rw [← m158, ← m163, ← m172]; exact r13), (by rw [← m158, ← m164, ← m173]; exact r16)⟩, Or.inl ⟨m166, (by rw [← m175]; exact h70)⟩, (by unfold RB; rw [← m158, ← m167, ← m174, ← m168]; exact ⟨d185, fun j h1 h2 => by rw [← v183 j h1, ← v184 j h1]; exact rel j h1 (by omega), fun j h1 h2 => by rw [← v184 j h1]; exact tl j h1 (by omega)⟩), hSH143⟩ hl ⟨hc, hs, fun _ => ⟨hc0, hs0⟩⟩
  · skip
    obtain ⟨hi, ehi⟩ : ∃ z : Int32, z = fI H b (K.1.2 10 70) := ⟨_, rfl⟩
    rw [← ehi] at h70
    obtain ⟨iq, eiq⟩ : ∃ z : Nat, z = fR H b (K.1.2 10 73) := ⟨_, rfl⟩
    have giq := ty_fr (q := iq) (k := 73) (u := 162) eiq hT gb rg_112 rfl
    rw [← eiq] at q1 q4 q5 q10 q13 q16
    obtain ⟨k1, ek1⟩ : ∃ z : Int32, z = fI H kq (K.1.2 8 1) := ⟨_, rfl⟩
    rw [← ek1] at q1
    obtain ⟨i1, ei1⟩ : ∃ z : Int32, z = fI H iq ((0 : Int32).toNatClampNeg) := ⟨_, rfl⟩
    rw [← ei1] at q1
    obtain ⟨k4, ek4⟩ : ∃ z : Int32, z = fI H kq (K.1.2 8 4) := ⟨_, rfl⟩
    rw [← ek4] at q4
    obtain ⟨i4, ei4⟩ : ∃ z : Int32, z = fI H iq ((1 : Int32).toNatClampNeg) := ⟨_, rfl⟩
    rw [← ei4] at q4
    obtain ⟨k5, ek5⟩ : ∃ z : Int32, z = fI H kq (K.1.2 8 5) := ⟨_, rfl⟩
    rw [← ek5] at q5
    obtain ⟨i5, ei5⟩ : ∃ z : Int32, z = fI H iq ((2 : Int32).toNatClampNeg) := ⟨_, rfl⟩
    rw [← ei5] at q5
    obtain ⟨k10, ek10⟩ : ∃ z : Int32, z = fI H kq (K.1.2 8 10) := ⟨_, rfl⟩
    rw [← ek10] at q10
    obtain ⟨i10, ei10⟩ : ∃ z : Int32, z = fI H iq ((3 : Int32).toNatClampNeg) := ⟨_, rfl⟩
    rw [← ei10] at q10
    obtain ⟨k13, ek13⟩ : ∃ z : Int32, z = fI H kq (K.1.2 8 13) := ⟨_, rfl⟩
    rw [← ek13] at q13
    obtain ⟨i13, ei13⟩ : ∃ z : Int32, z = fI H iq ((4 : Int32).toNatClampNeg) := ⟨_, rfl⟩
    rw [← ei13] at q13
    obtain ⟨k16, ek16⟩ : ∃ z : Int32, z = fI H kq (K.1.2 8 16) := ⟨_, rfl⟩
    rw [← ek16] at q16
    obtain ⟨i16, ei16⟩ : ∃ z : Int32, z = fI H iq ((5 : Int32).toNatClampNeg) := ⟨_, rfl⟩
    rw [← ei16] at q16
    obtain ⟨kb, ekb⟩ : ∃ z : Nat, z = fR H kq (K.1.2 8 0) := ⟨_, rfl⟩
    have gkb := ty_fr (q := kb) (k := 0) (u := 59) ekb hT gkq rg_34 rfl
    have bk1 := ty_fi (x := k1) (k := 1) ek1 hT gkq rg_34 rfl
    rw [← ekb] at dbk
    rw [← ekb, ← eiq, ← ek1] at vk
    rw [← eiq, ← ek1] at vkt
    obtain ⟨kz186, ekz186⟩ : ∃ f : Nat → Int32, ∀ j : Nat, j < 10 → f j = fI H (fR H kb j) (K.1.2 0 14) := ⟨_, fun _ _ => rfl⟩
    obtain ⟨iz187, eiz187⟩ : ∃ f : Nat → Int32, ∀ j : Nat, j < 10 → f j = fI H iq (11 + 6 * j) := ⟨_, fun _ _ => rfl⟩
    have vk0 : ∀ j : Nat, j < 10 → (j : Int) < k1.toInt → kz186 j = iz187 j := fun j h1 h2 => by rw [ekz186 j h1, eiz187 j h1]; exact vk j h1 h2
    clear vk
    have vk1 : ∀ j : Nat, j < 10 → k1.toInt ≤ (j : Int) → iz187 j = 0 := fun j h1 h2 => by rw [eiz187 j h1]; exact vkt j h1 h2
    clear vkt
    refine lv_aload_n hx hb dL_law_446 rfl (lv_at hl 2 rfl) ?_
    refine lv_aload_n hx hb dL_law_447 rfl (lv_at hl 3 rfl) ?_
    refine lv_iload_n hx hb dL_law_448 rfl (lv_at hl 0 rfl) ?_
    refine lv_iconst (v := 1) hx hb dL_law_449 (by decide) ?_
    refine lv_iadd hx hb dL_law_450 ?_
    refine lv_topi (fun x188 ex188 => ?_)
    obtain ⟨tx188, ejx188, evx188⟩ := lw_ix (k := 1) ex188 hI hL rfl (by decide)
    clear tx188
    refine va_sld hx hb hX hbl (Nat.not_le.mpr hbl) hS (vp_in_iff.mpr evx188) dL_law_451 ?_
    refine W.eq (g2 := F0 m 452 ls [.int (xs (i.toNatClampNeg + 1)), .ref a]) (congrArg (fun z => F0 m 452 ls [.int (xs z), .ref a]) ejx188) ?_
    refine lv_aload_n hx hb dL_law_452 rfl (lv_at hl 3 rfl) ?_
    refine lv_iload_n hx hb dL_law_453 rfl (lv_at hl 0 rfl) ?_
    refine lv_iconst (v := 2) hx hb dL_law_454 (by decide) ?_
    refine lv_iadd hx hb dL_law_455 ?_
    refine lv_topi (fun x189 ex189 => ?_)
    obtain ⟨tx189, ejx189, evx189⟩ := lw_ix (k := 2) ex189 hI hL rfl (by decide)
    clear tx189
    refine va_sld hx hb hX hbl (Nat.not_le.mpr hbl) hS (vp_in_iff.mpr evx189) dL_law_456 ?_
    refine W.eq (g2 := F0 m 457 ls [.int (xs (i.toNatClampNeg + 2)), .int (xs (i.toNatClampNeg + 1)), .ref a]) (congrArg (fun z => F0 m 457 ls [.int (xs z), .int (xs (i.toNatClampNeg + 1)), .ref a]) ejx189) ?_
    refine x_V (As := [.int (xs (i.toNatClampNeg + 1)), .int (xs (i.toNatClampNeg + 2))]) (rest := []) C (a_X9_text_r l K G H (xs (i.toNatClampNeg + 1)) (xs (i.toNatClampNeg + 2)) (s1) (s4) (s5) (s10) (s13) (s16) hT ga gw ew es1 es4 es5 es10 es13 es16 gbq ebq kn) yo_X9_text wM_L_43 ⟨⟨by decide, by decide⟩, show _ ≤ 1200000 from Nat.le_trans hc (by decide), show _ ≤ 5502250 from Nat.le_trans hs (by decide)⟩ (x_rv C hT (ci := 9) rfl ga rg_68) rfl hl.1 rfl (Nat.le_of_ble_eq_true rfl) dL_law_457 hS (AE_new hN hS.1) (fun vH190 H190 locsH190 pH190 zH190 kH190 hSH190 => ?_)
    obtain ⟨x191, hvH190, m192, m193, m194, m195, m196, m197, m198, m199, m200, m201, hTH190⟩ := pH190
    subst hvH190
    have g202 : CG (avw K H190 b) := CG.congr (fun k hk j => av_eff hT kH190 gb (by decide) (CG_eff [68, 0, 78, 79, 80, 81, 69, 70, 71, 72, 73, 74, 75, 76, 77, 16, 17, 18, 19, 20, 21, 22, 23, 24] (by decide) k hk)) cg
    have g203 : TU (avw K H190 b) (svw K H190 b) := TU.congr (fun k hk j => av_eff hT kH190 gb (by decide) (TU_eff [68, 0, 78, 79, 80, 81, 69, 70, 71, 72, 73, 74, 75, 76, 77, 16, 17, 18, 19, 20, 21, 22, 23, 24] (by decide) k hk)) (fun k hk => sv_eff hT kH190 gb (by decide)) tu
    have g204 : WD (avw K H190 b) := WD.congr (fun k hk j => av_eff hT kH190 gb (by decide) (WD_eff [68, 0, 78, 79, 80, 81, 69, 70, 71, 72, 73, 74, 75, 76, 77, 16, 17, 18, 19, 20, 21, 22, 23, 24] (by decide) k hk)) wd
    have g205 : IM (avw K H190 b) := IM.congr (fun k hk j => av_eff hT kH190 gb (by decide) (IM_eff [68, 0, 78, 79, 80, 81, 69, 70, 71, 72, 73, 74, 75, 76, 77, 16, 17, 18, 19, 20, 21, 22, 23, 24] (by decide) k hk)) im
    have m206 := (etb).trans (fI_kept (x_lt hT kH190 gb (by decide))).symm
    have m207 := (ey1).trans (fI_kept (x_lt hT kH190 gb (by decide))).symm
    have m208 := (ey4).trans (fI_kept (x_lt hT kH190 gb (by decide))).symm
    have m209 := (ey5).trans (fI_kept (x_lt hT kH190 gb (by decide))).symm
    have m210 := (ey10).trans (fI_kept (x_lt hT kH190 gb (by decide))).symm
    have m211 := (ey13).trans (fI_kept (x_lt hT kH190 gb (by decide))).symm
    have m212 := (ey16).trans (fI_kept (x_lt hT kH190 gb (by decide))).symm
    have m213 := (eaq).trans (fR_kept (x_lt hT kH190 gb (by decide))).symm
    have m214 := (ehi).trans (fI_kept (x_lt hT kH190 gb (by decide))).symm
    have m215 := (eiq).trans (fR_kept (x_lt hT kH190 gb (by decide))).symm
    have m216 := (ek1).trans (fI_kept (x_lt hT kH190 gkq (by decide))).symm
    have m217 := (ei1).trans (fI_kept (x_lt hT kH190 giq (by decide))).symm
    have m218 := (ek4).trans (fI_kept (x_lt hT kH190 gkq (by decide))).symm
    have m219 := (ei4).trans (fI_kept (x_lt hT kH190 giq (by decide))).symm
    have m220 := (ek5).trans (fI_kept (x_lt hT kH190 gkq (by decide))).symm
    have m221 := (ei5).trans (fI_kept (x_lt hT kH190 giq (by decide))).symm
    have m222 := (ek10).trans (fI_kept (x_lt hT kH190 gkq (by decide))).symm
    have m223 := (ei10).trans (fI_kept (x_lt hT kH190 giq (by decide))).symm
    have m224 := (ek13).trans (fI_kept (x_lt hT kH190 gkq (by decide))).symm
    have m225 := (ei13).trans (fI_kept (x_lt hT kH190 giq (by decide))).symm
    have m226 := (ek16).trans (fI_kept (x_lt hT kH190 gkq (by decide))).symm
    have m227 := (ei16).trans (fI_kept (x_lt hT kH190 giq (by decide))).symm
    have m228 := (ekb).trans (fR_kept (x_lt hT kH190 gkq (by decide))).symm
    refine W.eq (g2 := F0 m 460 ls [.int x191]) rfl ?_
    have v229 : ∀ j : Nat, j < 10 → cz101 j = fI H190 (fR H190 bq j) (K.1.2 0 14) := fun j h => (ecz101 j h).trans (by rw [fR_kept (x_lt hT kH190 gbq (by decide))]; exact (fI_kept (x_lt hT kH190 (bar_g hT gbq j h) (by decide))).symm)
    have v230 : ∀ j : Nat, j < 10 → rz102 j = fI H190 aq j := fun j h => (erz102 j h).trans (fI_kept (x_lt hT kH190 gaq (by decide))).symm
    have v231 : ∀ j : Nat, j < 10 → kz186 j = fI H190 (fR H190 kb j) (K.1.2 0 14) := fun j h => (ekz186 j h).trans (by rw [fR_kept (x_lt hT kH190 gkb (by decide))]; exact (fI_kept (x_lt hT kH190 (bar_h hT gkb j h) (by decide))).symm)
    have d232 := DB.kept dbk (x_lt hT kH190 gkb (by decide))
    have v233 : ∀ j : Nat, j < 10 → iz187 j = fI H190 iq (11 + 6 * j) := fun j h => (eiz187 j h).trans (fI_kept (x_lt hT kH190 giq (by decide))).symm
    have d234 := DB.kept db (x_lt hT kH190 gbq (by decide))
    refine lv_pop hx hb dL_law_460 rfl ?_
    refine lv_aload_n hx hb dL_law_461 rfl (lv_at hl 1 rfl) ?_
    refine lv_aload_n hx hb dL_law_462 rfl (lv_at hl 3 rfl) ?_
    refine lv_iload_n hx hb dL_law_463 rfl (lv_at hl 0 rfl) ?_
    refine lv_iconst (v := 1) hx hb dL_law_464 (by decide) ?_
    refine lv_iadd hx hb dL_law_465 ?_
    refine lv_topi (fun x235 ex235 => ?_)
    obtain ⟨tx235, ejx235, evx235⟩ := lw_ix (k := 1) ex235 hI hL rfl (by decide)
    clear tx235
    refine va_sld hx hb hX hbl (Nat.not_le.mpr hbl) hSH190 (vp_in_iff.mpr evx235) dL_law_466 ?_
    refine W.eq (g2 := F0 m 467 ls [.int (xs (i.toNatClampNeg + 1)), .ref b]) (congrArg (fun z => F0 m 467 ls [.int (xs z), .ref b]) ejx235) ?_
    refine lv_aload_n hx hb dL_law_467 rfl (lv_at hl 3 rfl) ?_
    refine lv_iload_n hx hb dL_law_468 rfl (lv_at hl 0 rfl) ?_
    refine lv_iconst (v := 2) hx hb dL_law_469 (by decide) ?_
    refine lv_iadd hx hb dL_law_470 ?_
    refine lv_topi (fun x236 ex236 => ?_)
    obtain ⟨tx236, ejx236, evx236⟩ := lw_ix (k := 2) ex236 hI hL rfl (by decide)
    clear tx236
    refine va_sld hx hb hX hbl (Nat.not_le.mpr hbl) hSH190 (vp_in_iff.mpr evx236) dL_law_471 ?_
    refine W.eq (g2 := F0 m 472 ls [.int (xs (i.toNatClampNeg + 2)), .int (xs (i.toNatClampNeg + 1)), .ref b]) (congrArg (fun z => F0 m 472 ls [.int (xs z), .int (xs (i.toNatClampNeg + 1)), .ref b]) ejx236) ?_
    obtain ⟨q237, eq237⟩ : ∃ z : Nat, z = fR H190 b (K.1.2 10 32) := ⟨_, rfl⟩
    have gq237 := ty_fr (q := q237) (k := 32) (u := 136) eq237 hTH190 gb rg_112 rfl
    obtain ⟨q238, eq238⟩ : ∃ z : Nat, z = fR H190 b (K.1.2 10 33) := ⟨_, rfl⟩
    have gq238 := ty_fr (q := q238) (k := 33) (u := 137) eq238 hTH190 gb rg_112 rfl
    obtain ⟨q239, eq239⟩ : ∃ z : Nat, z = fR H190 b (K.1.2 10 29) := ⟨_, rfl⟩
    have gq239 := ty_fr (q := q239) (k := 29) (u := 133) eq239 hTH190 gb rg_112 rfl
    obtain ⟨q240, eq240⟩ : ∃ z : Nat, z = fR H190 b (K.1.2 10 30) := ⟨_, rfl⟩
    have gq240 := ty_fr (q := q240) (k := 30) (u := 134) eq240 hTH190 gb rg_112 rfl
    obtain ⟨q241, eq241⟩ : ∃ z : Nat, z = fR H190 b (K.1.2 10 31) := ⟨_, rfl⟩
    have gq241 := ty_fr (q := q241) (k := 31) (u := 135) eq241 hTH190 gb rg_112 rfl
    obtain ⟨q242, eq242⟩ : ∃ z : Nat, z = fR H190 b (K.1.2 10 24) := ⟨_, rfl⟩
    have gq242 := ty_fr (q := q242) (k := 24) (u := 128) eq242 hTH190 gb rg_112 rfl
    obtain ⟨x243, ex243⟩ : ∃ z : Int32, z = fI H190 b (K.1.2 10 35) := ⟨_, rfl⟩
    have bx243 := ty_fi (x := x243) (k := 35) ex243 hTH190 gb rg_112 rfl
    refine x_V (As := [.int (xs (i.toNatClampNeg + 1)), .int (xs (i.toNatClampNeg + 2))]) (rest := []) C (a_X10_text l K G H190 ((xs (i.toNatClampNeg + 1))) ((xs (i.toNatClampNeg + 2))) (x243) (tb) hTH190 gb gq237 eq237 gq238 eq238 gq239 eq239 gq240 eq240 gq241 eq241 gq242 eq242 ex243 m206 g202 g203 g204 g205) yo_X10_text wM_L_47 ⟨⟨by decide, by decide⟩, show _ ≤ 1200000 from Nat.le_trans hc (by decide), show _ ≤ 5502250 from Nat.le_trans hs (by decide)⟩ (x_rv C hTH190 (ci := 10) rfl gb rg_112) rfl hl.1 rfl (Nat.le_of_ble_eq_true rfl) dL_law_472 hSH190 (AE_new hN hSH190.1) (fun vH244 H244 locsH244 pH244 zH244 kH244 hSH244 => ?_)
    obtain ⟨x245, x246, x247, hvH244, ex246, ex247, hrH244, m248, m249, m250, m251, m252, m253, g254, g255, g256, g257, mf258, hTH244⟩ := pH244
    subst hvH244
    have m259 := (m216).trans (fI_kept (x_lt hTH190 kH244 gkq (by decide))).symm
    have m260 := (m217).trans (fI_kept (x_lt hTH190 kH244 giq (by decide))).symm
    have m261 := (m218).trans (fI_kept (x_lt hTH190 kH244 gkq (by decide))).symm
    have m262 := (m219).trans (fI_kept (x_lt hTH190 kH244 giq (by decide))).symm
    have m263 := (m220).trans (fI_kept (x_lt hTH190 kH244 gkq (by decide))).symm
    have m264 := (m221).trans (fI_kept (x_lt hTH190 kH244 giq (by decide))).symm
    have m265 := (m222).trans (fI_kept (x_lt hTH190 kH244 gkq (by decide))).symm
    have m266 := (m223).trans (fI_kept (x_lt hTH190 kH244 giq (by decide))).symm
    have m267 := (m224).trans (fI_kept (x_lt hTH190 kH244 gkq (by decide))).symm
    have m268 := (m225).trans (fI_kept (x_lt hTH190 kH244 giq (by decide))).symm
    have m269 := (m226).trans (fI_kept (x_lt hTH190 kH244 gkq (by decide))).symm
    have m270 := (m227).trans (fI_kept (x_lt hTH190 kH244 giq (by decide))).symm
    have m271 := (m228).trans (fR_kept (x_lt hTH190 kH244 gkq (by decide))).symm
    have m272 := (m192).trans (fR_kept (x_lt hTH190 kH244 ga (by decide))).symm
    have m273 := (m193).trans (fI_kept (x_lt hTH190 kH244 gw (by decide))).symm
    have m274 := (m194).trans (fI_kept (x_lt hTH190 kH244 gw (by decide))).symm
    have m275 := (m195).trans (fI_kept (x_lt hTH190 kH244 gw (by decide))).symm
    have m276 := (m196).trans (fI_kept (x_lt hTH190 kH244 gw (by decide))).symm
    have m277 := (m197).trans (fI_kept (x_lt hTH190 kH244 gw (by decide))).symm
    have m278 := (m198).trans (fI_kept (x_lt hTH190 kH244 gw (by decide))).symm
    have m279 := (fI_kept (x_lt hTH190 kH244 ga (by decide))).trans m199
    have m280 := (fV_kept (x_lt hTH190 kH244 ga (by decide))).trans m200
    have m281 := (m201).trans (fR_kept (x_lt hTH190 kH244 gw (by decide))).symm
    have m282 := (m207).trans (MF.i mf258 (k := 1) (by decide) (by decide)).symm
    have m283 := (m208).trans (MF.i mf258 (k := 2) (by decide) (by decide)).symm
    have m284 := (m209).trans (MF.i mf258 (k := 3) (by decide) (by decide)).symm
    have m285 := (m210).trans (MF.i mf258 (k := 59) (by decide) (by decide)).symm
    have m286 := (m211).trans (MF.i mf258 (k := 62) (by decide) (by decide)).symm
    have m287 := (m212).trans (MF.i mf258 (k := 65) (by decide) (by decide)).symm
    have m288 := (m213).trans (MF.r mf258 (k := 50) (by decide) (by decide)).symm
    have m289 := (m214).trans (MF.i mf258 (k := 70) (by decide) (by decide)).symm
    have m290 := (m215).trans (MF.r mf258 (k := 73) (by decide) (by decide)).symm
    have m291 := (eq237).trans (MF.r mf258 (k := 32) (by decide) (by decide)).symm
    have m292 := (eq238).trans (MF.r mf258 (k := 33) (by decide) (by decide)).symm
    have m293 := (eq239).trans (MF.r mf258 (k := 29) (by decide) (by decide)).symm
    have m294 := (eq240).trans (MF.r mf258 (k := 30) (by decide) (by decide)).symm
    have m295 := (eq241).trans (MF.r mf258 (k := 31) (by decide) (by decide)).symm
    have m296 := (eq242).trans (MF.r mf258 (k := 24) (by decide) (by decide)).symm
    have bx246 := ty_fi (x := x246) (k := 35) ex246 hTH244 gb rg_112 rfl
    have bx247 := ty_fi (x := x247) (k := 18) ex247 hTH244 gb rg_112 rfl
    refine W.eq (g2 := F0 m 475 ls [.int x245]) rfl ?_
    have v297 : ∀ j : Nat, j < 10 → cz101 j = fI H244 (fR H244 bq j) (K.1.2 0 14) := fun j h => (v229 j h).trans (by rw [fR_kept (x_lt hTH190 kH244 gbq (by decide))]; exact (fI_kept (x_lt hTH190 kH244 (bar_g hTH190 gbq j h) (by decide))).symm)
    have v298 : ∀ j : Nat, j < 10 → rz102 j = fI H244 aq j := fun j h => (v230 j h).trans (fI_kept (x_lt hTH190 kH244 gaq (by decide))).symm
    have v299 : ∀ j : Nat, j < 10 → kz186 j = fI H244 (fR H244 kb j) (K.1.2 0 14) := fun j h => (v231 j h).trans (by rw [fR_kept (x_lt hTH190 kH244 gkb (by decide))]; exact (fI_kept (x_lt hTH190 kH244 (bar_h hTH190 gkb j h) (by decide))).symm)
    have d300 := DB.kept d232 (x_lt hTH190 kH244 gkb (by decide))
    have v301 : ∀ j : Nat, j < 10 → iz187 j = fI H244 iq (11 + 6 * j) := fun j h => (v233 j h).trans (fI_kept (x_lt hTH190 kH244 giq (by decide))).symm
    have d302 := DB.kept d234 (x_lt hTH190 kH244 gbq (by decide))
    refine lv_pop hx hb dL_law_475 rfl ?_
    refine lv_goto (tgt := 1509) hx hb dL_law_476 (by decide) ?_
    exact nx G H244 locsH244 _ _ ls ⟨hTH244, hN, ga, gb, g254, g255, g256, g257, ⟨(by rw [m279, ← ex247]; omega), (by rw [← m272, ← m273, ← m282]; exact r1), (by rw [← m272, ← m274, ← m283]; exact r4), (by rw [← m272, ← m275, ← m284]; exact r5), (by rw [← m272, ← m276, ← m285]; exact r10), (by rw [← m272, ← m277, ← m286]; exact r13), (by rw [← m272, ← m278, ← m287]; exact r16)⟩, Or.inr ⟨kq, m280, gkq, (by rw [← m289]; exact h70), (by rw [← m259, ← m290, ← m260]; exact q1), (by rw [← m261, ← m290, ← m262]; exact q4), (by rw [← m263, ← m290, ← m264]; exact q5), (by rw [← m265, ← m290, ← m266]; exact q10), (by rw [← m267, ← m290, ← m268]; exact q13), (by rw [← m269, ← m290, ← m270]; exact q16), (by rw [← m271]; exact d300), (by rw [← m271, ← m290, ← m259]; exact fun j h1 h2 => by rw [← v299 j h1, ← v301 j h1]; exact vk0 j h1 (by omega)), (by rw [← m290, ← m259]; exact fun j h1 h2 => by rw [← v301 j h1]; exact vk1 j h1 (by omega))⟩, (by unfold RB; rw [← m272, ← m281, ← m288, ← m282]; exact ⟨d302, fun j h1 h2 => by rw [← v297 j h1, ← v298 j h1]; exact rel j h1 (by omega), fun j h1 h2 => by rw [← v298 j h1]; exact tl j h1 (by omega)⟩), hSH244⟩ hl ⟨hc, hs, fun h => by have h1 := h.symm.trans m280; cases h1⟩
set_option maxRecDepth 100000 in
set_option maxHeartbeats 8000000 in
theorem lw_c7 {p : Program} {l : Launch} {e : Env} {s : State} {m : MethodId} {below : List Frame} {meth : Method} {c : Code} {K : KE} {b0 L : Nat} {xs : Nat → Int32} {G : Nat → Option Nat} {H : Heap} {locs : List Loc} {a b : Nat} {cells slots : Nat} {ls : Array Slot} {i : Int32} {n : Nat} (D : LC p K s m meth c b0 L xs) (S : SX K s G H locs a b) (hl : lv_has ls 4 [(3, .int i), (2, .ref b), (1, .ref a), (0, .ref b0)]) (hi : 0 ≤ i.toInt ∧ i.toInt + 6 ≤ L) (hn : n ≤ 511) (hB : BD K H a cells slots) (nx : ∀ (G : Nat → Option Nat) (H : Heap) (locs : List Loc) (cells slots : Nat) (ls : Array Slot), SX K s G H locs a b → lv_has ls 4 [(3, .int i), (2, .ref b), (1, .ref a), (0, .ref b0)] → BD K H a cells slots → W p l e room_1 s m #[Value.ref b0] below meth c H locs cells slots (lw_Z below #[Value.ref b0] s) (F0 m 1509 ls [])) : W p l e room_1 s m #[Value.ref b0] below meth c H locs cells slots (lw_Z below #[Value.ref b0] s) (F0 m 479 ls []) := by
  have hI := hi
  obtain ⟨C, hX, hbl, hL⟩ := id D
  obtain ⟨hx, hb, hml, hown, hts, hKT, hr, hlocks, hnm⟩ := id C
  obtain ⟨hT, hN, ga, gb, cg, tu, wd, im, ⟨rt, r1, r4, r5, r10, r13, r16⟩, hk, hrb, hS⟩ := S
  obtain ⟨hc, hs, hB0⟩ := hB
  have n_m1 : ((-1) : Int32).toInt = -1 := rfl
  have n_0 : (0 : Int32).toInt = 0 := rfl
  have n_1 : (1 : Int32).toInt = 1 := rfl
  obtain ⟨w, ew⟩ : ∃ z : Nat, z = fR H a (K.1.2 9 0) := ⟨_, rfl⟩
  have gw := ty_fr (q := w) (k := 0) (u := 0) ew hT ga rg_68 rfl
  rw [← ew] at r1 r4 r5 r10 r13 r16
  obtain ⟨ta, eta⟩ : ∃ z : Int32, z = fI H a (K.1.2 9 3) := ⟨_, rfl⟩
  rw [← eta] at rt
  obtain ⟨tb, etb⟩ : ∃ z : Int32, z = fI H b (K.1.2 10 18) := ⟨_, rfl⟩
  rw [← etb] at rt
  obtain ⟨s1, es1⟩ : ∃ z : Int32, z = fI H w (K.1.2 8 1) := ⟨_, rfl⟩
  rw [← es1] at r1
  obtain ⟨y1, ey1⟩ : ∃ z : Int32, z = fI H b (K.1.2 10 1) := ⟨_, rfl⟩
  rw [← ey1] at r1
  obtain ⟨s4, es4⟩ : ∃ z : Int32, z = fI H w (K.1.2 8 4) := ⟨_, rfl⟩
  rw [← es4] at r4
  obtain ⟨y4, ey4⟩ : ∃ z : Int32, z = fI H b (K.1.2 10 2) := ⟨_, rfl⟩
  rw [← ey4] at r4
  obtain ⟨s5, es5⟩ : ∃ z : Int32, z = fI H w (K.1.2 8 5) := ⟨_, rfl⟩
  rw [← es5] at r5
  obtain ⟨y5, ey5⟩ : ∃ z : Int32, z = fI H b (K.1.2 10 3) := ⟨_, rfl⟩
  rw [← ey5] at r5
  obtain ⟨s10, es10⟩ : ∃ z : Int32, z = fI H w (K.1.2 8 10) := ⟨_, rfl⟩
  rw [← es10] at r10
  obtain ⟨y10, ey10⟩ : ∃ z : Int32, z = fI H b (K.1.2 10 59) := ⟨_, rfl⟩
  rw [← ey10] at r10
  obtain ⟨s13, es13⟩ : ∃ z : Int32, z = fI H w (K.1.2 8 13) := ⟨_, rfl⟩
  rw [← es13] at r13
  obtain ⟨y13, ey13⟩ : ∃ z : Int32, z = fI H b (K.1.2 10 62) := ⟨_, rfl⟩
  rw [← ey13] at r13
  obtain ⟨s16, es16⟩ : ∃ z : Int32, z = fI H w (K.1.2 8 16) := ⟨_, rfl⟩
  rw [← es16] at r16
  obtain ⟨y16, ey16⟩ : ∃ z : Int32, z = fI H b (K.1.2 10 65) := ⟨_, rfl⟩
  rw [← ey16] at r16
  obtain ⟨bq, ebq⟩ : ∃ z : Nat, z = fR H w (K.1.2 8 0) := ⟨_, rfl⟩
  have gbq := ty_fr (q := bq) (k := 0) (u := 25) ebq hT gw rg_0 rfl
  obtain ⟨aq, eaq⟩ : ∃ z : Nat, z = fR H b (K.1.2 10 50) := ⟨_, rfl⟩
  have gaq := ty_fr (q := aq) (k := 50) (u := 146) eaq hT gb rg_112 rfl
  have bs1 := ty_fi (x := s1) (k := 1) es1 hT gw rg_0 rfl
  have by1 := ty_fi (x := y1) (k := 1) ey1 hT gb rg_112 rfl
  obtain ⟨db, vr, vt⟩ := hrb
  rw [← ew, ← ebq] at db
  rw [← ew, ← ebq, ← eaq, ← ey1] at vr
  rw [← eaq, ← ey1] at vt
  obtain ⟨cz101, ecz101⟩ : ∃ f : Nat → Int32, ∀ j : Nat, j < 10 → f j = fI H (fR H bq j) (K.1.2 0 14) := ⟨_, fun _ _ => rfl⟩
  obtain ⟨rz102, erz102⟩ : ∃ f : Nat → Int32, ∀ j : Nat, j < 10 → f j = fI H aq j := ⟨_, fun _ _ => rfl⟩
  have rel : ∀ j : Nat, j < 10 → (j : Int) < y1.toInt → cz101 j = rz102 j := fun j h1 h2 => by rw [ecz101 j h1, erz102 j h1]; exact vr j h1 h2
  clear vr
  have tl : ∀ j : Nat, j < 10 → y1.toInt ≤ (j : Int) → rz102 j = 0 := fun j h1 h2 => by rw [erz102 j h1]; exact vt j h1 h2
  clear vt
  rcases hk with ⟨kn, h70⟩ | ⟨kq, kn, gkq, h70, q1, q4, q5, q10, q13, q16, dbk, vk, vkt⟩
  · skip
    obtain ⟨hi, ehi⟩ : ∃ z : Int32, z = fI H b (K.1.2 10 70) := ⟨_, rfl⟩
    rw [← ehi] at h70
    obtain ⟨hc0, hs0⟩ := hB0 kn
    obtain ⟨iq, eiq⟩ : ∃ z : Nat, z = fR H b (K.1.2 10 73) := ⟨_, rfl⟩
    have giq := ty_fr (q := iq) (k := 73) (u := 162) eiq hT gb rg_112 rfl
    refine lv_aload_n hx hb dL_law_479 rfl (lv_at hl 2 rfl) ?_
    refine lv_aload_n hx hb dL_law_480 rfl (lv_at hl 3 rfl) ?_
    refine lv_iload_n hx hb dL_law_481 rfl (lv_at hl 0 rfl) ?_
    refine lv_iconst (v := 1) hx hb dL_law_482 (by decide) ?_
    refine lv_iadd hx hb dL_law_483 ?_
    refine lv_topi (fun x103 ex103 => ?_)
    obtain ⟨tx103, ejx103, evx103⟩ := lw_ix (k := 1) ex103 hI hL rfl (by decide)
    clear tx103
    refine va_sld hx hb hX hbl (Nat.not_le.mpr hbl) hS (vp_in_iff.mpr evx103) dL_law_484 ?_
    refine W.eq (g2 := F0 m 485 ls [.int (xs (i.toNatClampNeg + 1)), .ref a]) (congrArg (fun z => F0 m 485 ls [.int (xs z), .ref a]) ejx103) ?_
    refine x_V (As := [.int (xs (i.toNatClampNeg + 1))]) (rest := []) C (a_X9_fault l K G H ((xs (i.toNatClampNeg + 1))) hT ga) yo_X9_fault wM_L_48 ⟨⟨by decide, by decide⟩, show _ ≤ 1200000 from Nat.le_trans hc (by decide), show _ ≤ 5502250 from Nat.le_trans hs (by decide)⟩ (x_rv C hT (ci := 9) rfl ga rg_68) rfl hl.1 rfl (Nat.le_of_ble_eq_true rfl) dL_law_485 hS (AE_new hN hS.1) (fun vH104 H104 locsH104 pH104 zH104 kH104 hSH104 => ?_)
    obtain ⟨x105, hvH104, hTH104⟩ := pH104
    subst hvH104
    have g106 : CG (avw K H104 b) := CG.congr (fun k hk j => av_eff hT kH104 gb (by decide) (CG_eff [] (by decide) k hk)) cg
    have g107 : TU (avw K H104 b) (svw K H104 b) := TU.congr (fun k hk j => av_eff hT kH104 gb (by decide) (TU_eff [] (by decide) k hk)) (fun k hk => sv_eff hT kH104 gb (by decide)) tu
    have g108 : WD (avw K H104 b) := WD.congr (fun k hk j => av_eff hT kH104 gb (by decide) (WD_eff [] (by decide) k hk)) wd
    have g109 : IM (avw K H104 b) := IM.congr (fun k hk j => av_eff hT kH104 gb (by decide) (IM_eff [] (by decide) k hk)) im
    have m110 := (ew).trans (fR_kept (x_lt hT kH104 ga (by decide))).symm
    have m111 := (eta).trans (fI_kept (x_lt hT kH104 ga (by decide))).symm
    have m112 := (etb).trans (fI_kept (x_lt hT kH104 gb (by decide))).symm
    have m113 := (es1).trans (fI_kept (x_lt hT kH104 gw (by decide))).symm
    have m114 := (ey1).trans (fI_kept (x_lt hT kH104 gb (by decide))).symm
    have m115 := (es4).trans (fI_kept (x_lt hT kH104 gw (by decide))).symm
    have m116 := (ey4).trans (fI_kept (x_lt hT kH104 gb (by decide))).symm
    have m117 := (es5).trans (fI_kept (x_lt hT kH104 gw (by decide))).symm
    have m118 := (ey5).trans (fI_kept (x_lt hT kH104 gb (by decide))).symm
    have m119 := (es10).trans (fI_kept (x_lt hT kH104 gw (by decide))).symm
    have m120 := (ey10).trans (fI_kept (x_lt hT kH104 gb (by decide))).symm
    have m121 := (es13).trans (fI_kept (x_lt hT kH104 gw (by decide))).symm
    have m122 := (ey13).trans (fI_kept (x_lt hT kH104 gb (by decide))).symm
    have m123 := (es16).trans (fI_kept (x_lt hT kH104 gw (by decide))).symm
    have m124 := (ey16).trans (fI_kept (x_lt hT kH104 gb (by decide))).symm
    have m125 := (ebq).trans (fR_kept (x_lt hT kH104 gw (by decide))).symm
    have m126 := (eaq).trans (fR_kept (x_lt hT kH104 gb (by decide))).symm
    have m127 := (ehi).trans (fI_kept (x_lt hT kH104 gb (by decide))).symm
    have m128 := (fV_kept (x_lt hT kH104 ga (by decide))).trans kn
    have m129 := (eiq).trans (fR_kept (x_lt hT kH104 gb (by decide))).symm
    refine W.eq (g2 := F0 m 488 ls [.int x105]) rfl ?_
    have v130 : ∀ j : Nat, j < 10 → cz101 j = fI H104 (fR H104 bq j) (K.1.2 0 14) := fun j h => (ecz101 j h).trans (by rw [fR_kept (x_lt hT kH104 gbq (by decide))]; exact (fI_kept (x_lt hT kH104 (bar_g hT gbq j h) (by decide))).symm)
    have v131 : ∀ j : Nat, j < 10 → rz102 j = fI H104 aq j := fun j h => (erz102 j h).trans (fI_kept (x_lt hT kH104 gaq (by decide))).symm
    have d132 := DB.kept db (x_lt hT kH104 gbq (by decide))
    refine lv_pop hx hb dL_law_488 rfl ?_
    refine lv_aload_n hx hb dL_law_489 rfl (lv_at hl 1 rfl) ?_
    refine lv_aload_n hx hb dL_law_490 rfl (lv_at hl 3 rfl) ?_
    refine lv_iload_n hx hb dL_law_491 rfl (lv_at hl 0 rfl) ?_
    refine lv_iconst (v := 1) hx hb dL_law_492 (by decide) ?_
    refine lv_iadd hx hb dL_law_493 ?_
    refine lv_topi (fun x133 ex133 => ?_)
    obtain ⟨tx133, ejx133, evx133⟩ := lw_ix (k := 1) ex133 hI hL rfl (by decide)
    clear tx133
    refine va_sld hx hb hX hbl (Nat.not_le.mpr hbl) hSH104 (vp_in_iff.mpr evx133) dL_law_494 ?_
    refine W.eq (g2 := F0 m 495 ls [.int (xs (i.toNatClampNeg + 1)), .ref b]) (congrArg (fun z => F0 m 495 ls [.int (xs z), .ref b]) ejx133) ?_
    refine x_V (As := [.int (xs (i.toNatClampNeg + 1))]) (rest := []) C (a_X10_fault l K G H104 ((xs (i.toNatClampNeg + 1))) hTH104 gb g106 g107 g108 g109) yo_X10_fault wM_L_51 ⟨⟨by decide, by decide⟩, show _ ≤ 1200000 from Nat.le_trans hc (by decide), show _ ≤ 5502250 from Nat.le_trans hs (by decide)⟩ (x_rv C hTH104 (ci := 10) rfl gb rg_112) rfl hl.1 rfl (Nat.le_of_ble_eq_true rfl) dL_law_495 hSH104 (AE_new hN hSH104.1) (fun vH134 H134 locsH134 pH134 zH134 kH134 hSH134 => ?_)
    obtain ⟨x135, hvH134, g136, g137, g138, g139, mf140, hTH134⟩ := pH134
    subst hvH134
    have m141 := (m110).trans (fR_kept (x_lt hTH104 kH134 ga (by decide))).symm
    have m142 := (m111).trans (fI_kept (x_lt hTH104 kH134 ga (by decide))).symm
    have m143 := (m113).trans (fI_kept (x_lt hTH104 kH134 gw (by decide))).symm
    have m144 := (m115).trans (fI_kept (x_lt hTH104 kH134 gw (by decide))).symm
    have m145 := (m117).trans (fI_kept (x_lt hTH104 kH134 gw (by decide))).symm
    have m146 := (m119).trans (fI_kept (x_lt hTH104 kH134 gw (by decide))).symm
    have m147 := (m121).trans (fI_kept (x_lt hTH104 kH134 gw (by decide))).symm
    have m148 := (m123).trans (fI_kept (x_lt hTH104 kH134 gw (by decide))).symm
    have m149 := (m125).trans (fR_kept (x_lt hTH104 kH134 gw (by decide))).symm
    have m150 := (fV_kept (x_lt hTH104 kH134 ga (by decide))).trans m128
    have m151 := (m112).trans (MF.i mf140 (k := 18) (by decide) (by decide)).symm
    have m152 := (m114).trans (MF.i mf140 (k := 1) (by decide) (by decide)).symm
    have m153 := (m116).trans (MF.i mf140 (k := 2) (by decide) (by decide)).symm
    have m154 := (m118).trans (MF.i mf140 (k := 3) (by decide) (by decide)).symm
    have m155 := (m120).trans (MF.i mf140 (k := 59) (by decide) (by decide)).symm
    have m156 := (m122).trans (MF.i mf140 (k := 62) (by decide) (by decide)).symm
    have m157 := (m124).trans (MF.i mf140 (k := 65) (by decide) (by decide)).symm
    have m158 := (m126).trans (MF.r mf140 (k := 50) (by decide) (by decide)).symm
    have m159 := (m127).trans (MF.i mf140 (k := 70) (by decide) (by decide)).symm
    have m160 := (m129).trans (MF.r mf140 (k := 73) (by decide) (by decide)).symm
    refine W.eq (g2 := F0 m 498 ls [.int x135]) rfl ?_
    have v161 : ∀ j : Nat, j < 10 → cz101 j = fI H134 (fR H134 bq j) (K.1.2 0 14) := fun j h => (v130 j h).trans (by rw [fR_kept (x_lt hTH104 kH134 gbq (by decide))]; exact (fI_kept (x_lt hTH104 kH134 (bar_g hTH104 gbq j h) (by decide))).symm)
    have v162 : ∀ j : Nat, j < 10 → rz102 j = fI H134 aq j := fun j h => (v131 j h).trans (fI_kept (x_lt hTH104 kH134 gaq (by decide))).symm
    have d163 := DB.kept d132 (x_lt hTH104 kH134 gbq (by decide))
    refine lv_pop hx hb dL_law_498 rfl ?_
    refine lv_goto (tgt := 1509) hx hb dL_law_499 (by decide) ?_
    exact nx G H134 locsH134 _ _ ls ⟨hTH134, hN, ga, gb, g136, g137, g138, g139, ⟨(by rw [← m142, ← m151]; exact rt), (by rw [← m141, ← m143, ← m152]; exact r1), (by rw [← m141, ← m144, ← m153]; exact r4), (by rw [← m141, ← m145, ← m154]; exact r5), (by rw [← m141, ← m146, ← m155]; exact r10), (by rw [← m141, ← m147, ← m156]; exact r13), (by rw [← m141, ← m148, ← m157]; exact r16)⟩, Or.inl ⟨m150, (by rw [← m159]; exact h70)⟩, (by unfold RB; rw [← m141, ← m149, ← m158, ← m152]; exact ⟨d163, fun j h1 h2 => by rw [← v161 j h1, ← v162 j h1]; exact rel j h1 (by omega), fun j h1 h2 => by rw [← v162 j h1]; exact tl j h1 (by omega)⟩), hSH134⟩ hl ⟨hc, hs, fun _ => ⟨hc0, hs0⟩⟩
  · skip
    obtain ⟨hi, ehi⟩ : ∃ z : Int32, z = fI H b (K.1.2 10 70) := ⟨_, rfl⟩
    rw [← ehi] at h70
    obtain ⟨iq, eiq⟩ : ∃ z : Nat, z = fR H b (K.1.2 10 73) := ⟨_, rfl⟩
    have giq := ty_fr (q := iq) (k := 73) (u := 162) eiq hT gb rg_112 rfl
    rw [← eiq] at q1 q4 q5 q10 q13 q16
    obtain ⟨k1, ek1⟩ : ∃ z : Int32, z = fI H kq (K.1.2 8 1) := ⟨_, rfl⟩
    rw [← ek1] at q1
    obtain ⟨i1, ei1⟩ : ∃ z : Int32, z = fI H iq ((0 : Int32).toNatClampNeg) := ⟨_, rfl⟩
    rw [← ei1] at q1
    obtain ⟨k4, ek4⟩ : ∃ z : Int32, z = fI H kq (K.1.2 8 4) := ⟨_, rfl⟩
    rw [← ek4] at q4
    obtain ⟨i4, ei4⟩ : ∃ z : Int32, z = fI H iq ((1 : Int32).toNatClampNeg) := ⟨_, rfl⟩
    rw [← ei4] at q4
    obtain ⟨k5, ek5⟩ : ∃ z : Int32, z = fI H kq (K.1.2 8 5) := ⟨_, rfl⟩
    rw [← ek5] at q5
    obtain ⟨i5, ei5⟩ : ∃ z : Int32, z = fI H iq ((2 : Int32).toNatClampNeg) := ⟨_, rfl⟩
    rw [← ei5] at q5
    obtain ⟨k10, ek10⟩ : ∃ z : Int32, z = fI H kq (K.1.2 8 10) := ⟨_, rfl⟩
    rw [← ek10] at q10
    obtain ⟨i10, ei10⟩ : ∃ z : Int32, z = fI H iq ((3 : Int32).toNatClampNeg) := ⟨_, rfl⟩
    rw [← ei10] at q10
    obtain ⟨k13, ek13⟩ : ∃ z : Int32, z = fI H kq (K.1.2 8 13) := ⟨_, rfl⟩
    rw [← ek13] at q13
    obtain ⟨i13, ei13⟩ : ∃ z : Int32, z = fI H iq ((4 : Int32).toNatClampNeg) := ⟨_, rfl⟩
    rw [← ei13] at q13
    obtain ⟨k16, ek16⟩ : ∃ z : Int32, z = fI H kq (K.1.2 8 16) := ⟨_, rfl⟩
    rw [← ek16] at q16
    obtain ⟨i16, ei16⟩ : ∃ z : Int32, z = fI H iq ((5 : Int32).toNatClampNeg) := ⟨_, rfl⟩
    rw [← ei16] at q16
    obtain ⟨kb, ekb⟩ : ∃ z : Nat, z = fR H kq (K.1.2 8 0) := ⟨_, rfl⟩
    have gkb := ty_fr (q := kb) (k := 0) (u := 59) ekb hT gkq rg_34 rfl
    have bk1 := ty_fi (x := k1) (k := 1) ek1 hT gkq rg_34 rfl
    rw [← ekb] at dbk
    rw [← ekb, ← eiq, ← ek1] at vk
    rw [← eiq, ← ek1] at vkt
    obtain ⟨kz164, ekz164⟩ : ∃ f : Nat → Int32, ∀ j : Nat, j < 10 → f j = fI H (fR H kb j) (K.1.2 0 14) := ⟨_, fun _ _ => rfl⟩
    obtain ⟨iz165, eiz165⟩ : ∃ f : Nat → Int32, ∀ j : Nat, j < 10 → f j = fI H iq (11 + 6 * j) := ⟨_, fun _ _ => rfl⟩
    have vk0 : ∀ j : Nat, j < 10 → (j : Int) < k1.toInt → kz164 j = iz165 j := fun j h1 h2 => by rw [ekz164 j h1, eiz165 j h1]; exact vk j h1 h2
    clear vk
    have vk1 : ∀ j : Nat, j < 10 → k1.toInt ≤ (j : Int) → iz165 j = 0 := fun j h1 h2 => by rw [eiz165 j h1]; exact vkt j h1 h2
    clear vkt
    refine lv_aload_n hx hb dL_law_479 rfl (lv_at hl 2 rfl) ?_
    refine lv_aload_n hx hb dL_law_480 rfl (lv_at hl 3 rfl) ?_
    refine lv_iload_n hx hb dL_law_481 rfl (lv_at hl 0 rfl) ?_
    refine lv_iconst (v := 1) hx hb dL_law_482 (by decide) ?_
    refine lv_iadd hx hb dL_law_483 ?_
    refine lv_topi (fun x166 ex166 => ?_)
    obtain ⟨tx166, ejx166, evx166⟩ := lw_ix (k := 1) ex166 hI hL rfl (by decide)
    clear tx166
    refine va_sld hx hb hX hbl (Nat.not_le.mpr hbl) hS (vp_in_iff.mpr evx166) dL_law_484 ?_
    refine W.eq (g2 := F0 m 485 ls [.int (xs (i.toNatClampNeg + 1)), .ref a]) (congrArg (fun z => F0 m 485 ls [.int (xs z), .ref a]) ejx166) ?_
    refine x_V (As := [.int (xs (i.toNatClampNeg + 1))]) (rest := []) C (a_X9_fault l K G H ((xs (i.toNatClampNeg + 1))) hT ga) yo_X9_fault wM_L_48 ⟨⟨by decide, by decide⟩, show _ ≤ 1200000 from Nat.le_trans hc (by decide), show _ ≤ 5502250 from Nat.le_trans hs (by decide)⟩ (x_rv C hT (ci := 9) rfl ga rg_68) rfl hl.1 rfl (Nat.le_of_ble_eq_true rfl) dL_law_485 hS (AE_new hN hS.1) (fun vH167 H167 locsH167 pH167 zH167 kH167 hSH167 => ?_)
    obtain ⟨x168, hvH167, hTH167⟩ := pH167
    subst hvH167
    have g169 : CG (avw K H167 b) := CG.congr (fun k hk j => av_eff hT kH167 gb (by decide) (CG_eff [] (by decide) k hk)) cg
    have g170 : TU (avw K H167 b) (svw K H167 b) := TU.congr (fun k hk j => av_eff hT kH167 gb (by decide) (TU_eff [] (by decide) k hk)) (fun k hk => sv_eff hT kH167 gb (by decide)) tu
    have g171 : WD (avw K H167 b) := WD.congr (fun k hk j => av_eff hT kH167 gb (by decide) (WD_eff [] (by decide) k hk)) wd
    have g172 : IM (avw K H167 b) := IM.congr (fun k hk j => av_eff hT kH167 gb (by decide) (IM_eff [] (by decide) k hk)) im
    have m173 := (ew).trans (fR_kept (x_lt hT kH167 ga (by decide))).symm
    have m174 := (eta).trans (fI_kept (x_lt hT kH167 ga (by decide))).symm
    have m175 := (etb).trans (fI_kept (x_lt hT kH167 gb (by decide))).symm
    have m176 := (es1).trans (fI_kept (x_lt hT kH167 gw (by decide))).symm
    have m177 := (ey1).trans (fI_kept (x_lt hT kH167 gb (by decide))).symm
    have m178 := (es4).trans (fI_kept (x_lt hT kH167 gw (by decide))).symm
    have m179 := (ey4).trans (fI_kept (x_lt hT kH167 gb (by decide))).symm
    have m180 := (es5).trans (fI_kept (x_lt hT kH167 gw (by decide))).symm
    have m181 := (ey5).trans (fI_kept (x_lt hT kH167 gb (by decide))).symm
    have m182 := (es10).trans (fI_kept (x_lt hT kH167 gw (by decide))).symm
    have m183 := (ey10).trans (fI_kept (x_lt hT kH167 gb (by decide))).symm
    have m184 := (es13).trans (fI_kept (x_lt hT kH167 gw (by decide))).symm
    have m185 := (ey13).trans (fI_kept (x_lt hT kH167 gb (by decide))).symm
    have m186 := (es16).trans (fI_kept (x_lt hT kH167 gw (by decide))).symm
    have m187 := (ey16).trans (fI_kept (x_lt hT kH167 gb (by decide))).symm
    have m188 := (ebq).trans (fR_kept (x_lt hT kH167 gw (by decide))).symm
    have m189 := (eaq).trans (fR_kept (x_lt hT kH167 gb (by decide))).symm
    have m190 := (ehi).trans (fI_kept (x_lt hT kH167 gb (by decide))).symm
    have m191 := (fV_kept (x_lt hT kH167 ga (by decide))).trans kn
    have m192 := (eiq).trans (fR_kept (x_lt hT kH167 gb (by decide))).symm
    have m193 := (ek1).trans (fI_kept (x_lt hT kH167 gkq (by decide))).symm
    have m194 := (ei1).trans (fI_kept (x_lt hT kH167 giq (by decide))).symm
    have m195 := (ek4).trans (fI_kept (x_lt hT kH167 gkq (by decide))).symm
    have m196 := (ei4).trans (fI_kept (x_lt hT kH167 giq (by decide))).symm
    have m197 := (ek5).trans (fI_kept (x_lt hT kH167 gkq (by decide))).symm
    have m198 := (ei5).trans (fI_kept (x_lt hT kH167 giq (by decide))).symm
    have m199 := (ek10).trans (fI_kept (x_lt hT kH167 gkq (by decide))).symm
    have m200 := (ei10).trans (fI_kept (x_lt hT kH167 giq (by decide))).symm
    have m201 := (ek13).trans (fI_kept (x_lt hT kH167 gkq (by decide))).symm
    have m202 := (ei13).trans (fI_kept (x_lt hT kH167 giq (by decide))).symm
    have m203 := (ek16).trans (fI_kept (x_lt hT kH167 gkq (by decide))).symm
    have m204 := (ei16).trans (fI_kept (x_lt hT kH167 giq (by decide))).symm
    have m205 := (ekb).trans (fR_kept (x_lt hT kH167 gkq (by decide))).symm
    refine W.eq (g2 := F0 m 488 ls [.int x168]) rfl ?_
    have v206 : ∀ j : Nat, j < 10 → cz101 j = fI H167 (fR H167 bq j) (K.1.2 0 14) := fun j h => (ecz101 j h).trans (by rw [fR_kept (x_lt hT kH167 gbq (by decide))]; exact (fI_kept (x_lt hT kH167 (bar_g hT gbq j h) (by decide))).symm)
    have v207 : ∀ j : Nat, j < 10 → rz102 j = fI H167 aq j := fun j h => (erz102 j h).trans (fI_kept (x_lt hT kH167 gaq (by decide))).symm
    have v208 : ∀ j : Nat, j < 10 → kz164 j = fI H167 (fR H167 kb j) (K.1.2 0 14) := fun j h => (ekz164 j h).trans (by rw [fR_kept (x_lt hT kH167 gkb (by decide))]; exact (fI_kept (x_lt hT kH167 (bar_h hT gkb j h) (by decide))).symm)
    have d209 := DB.kept dbk (x_lt hT kH167 gkb (by decide))
    have v210 : ∀ j : Nat, j < 10 → iz165 j = fI H167 iq (11 + 6 * j) := fun j h => (eiz165 j h).trans (fI_kept (x_lt hT kH167 giq (by decide))).symm
    have d211 := DB.kept db (x_lt hT kH167 gbq (by decide))
    refine lv_pop hx hb dL_law_488 rfl ?_
    refine lv_aload_n hx hb dL_law_489 rfl (lv_at hl 1 rfl) ?_
    refine lv_aload_n hx hb dL_law_490 rfl (lv_at hl 3 rfl) ?_
    refine lv_iload_n hx hb dL_law_491 rfl (lv_at hl 0 rfl) ?_
    refine lv_iconst (v := 1) hx hb dL_law_492 (by decide) ?_
    refine lv_iadd hx hb dL_law_493 ?_
    refine lv_topi (fun x212 ex212 => ?_)
    obtain ⟨tx212, ejx212, evx212⟩ := lw_ix (k := 1) ex212 hI hL rfl (by decide)
    clear tx212
    refine va_sld hx hb hX hbl (Nat.not_le.mpr hbl) hSH167 (vp_in_iff.mpr evx212) dL_law_494 ?_
    refine W.eq (g2 := F0 m 495 ls [.int (xs (i.toNatClampNeg + 1)), .ref b]) (congrArg (fun z => F0 m 495 ls [.int (xs z), .ref b]) ejx212) ?_
    refine x_V (As := [.int (xs (i.toNatClampNeg + 1))]) (rest := []) C (a_X10_fault l K G H167 ((xs (i.toNatClampNeg + 1))) hTH167 gb g169 g170 g171 g172) yo_X10_fault wM_L_51 ⟨⟨by decide, by decide⟩, show _ ≤ 1200000 from Nat.le_trans hc (by decide), show _ ≤ 5502250 from Nat.le_trans hs (by decide)⟩ (x_rv C hTH167 (ci := 10) rfl gb rg_112) rfl hl.1 rfl (Nat.le_of_ble_eq_true rfl) dL_law_495 hSH167 (AE_new hN hSH167.1) (fun vH213 H213 locsH213 pH213 zH213 kH213 hSH213 => ?_)
    obtain ⟨x214, hvH213, g215, g216, g217, g218, mf219, hTH213⟩ := pH213
    subst hvH213
    have m220 := (m173).trans (fR_kept (x_lt hTH167 kH213 ga (by decide))).symm
    have m221 := (m174).trans (fI_kept (x_lt hTH167 kH213 ga (by decide))).symm
    have m222 := (m176).trans (fI_kept (x_lt hTH167 kH213 gw (by decide))).symm
    have m223 := (m178).trans (fI_kept (x_lt hTH167 kH213 gw (by decide))).symm
    have m224 := (m180).trans (fI_kept (x_lt hTH167 kH213 gw (by decide))).symm
    have m225 := (m182).trans (fI_kept (x_lt hTH167 kH213 gw (by decide))).symm
    have m226 := (m184).trans (fI_kept (x_lt hTH167 kH213 gw (by decide))).symm
    have m227 := (m186).trans (fI_kept (x_lt hTH167 kH213 gw (by decide))).symm
    have m228 := (m188).trans (fR_kept (x_lt hTH167 kH213 gw (by decide))).symm
    have m229 := (fV_kept (x_lt hTH167 kH213 ga (by decide))).trans m191
    have m230 := (m193).trans (fI_kept (x_lt hTH167 kH213 gkq (by decide))).symm
    have m231 := (m194).trans (fI_kept (x_lt hTH167 kH213 giq (by decide))).symm
    have m232 := (m195).trans (fI_kept (x_lt hTH167 kH213 gkq (by decide))).symm
    have m233 := (m196).trans (fI_kept (x_lt hTH167 kH213 giq (by decide))).symm
    have m234 := (m197).trans (fI_kept (x_lt hTH167 kH213 gkq (by decide))).symm
    have m235 := (m198).trans (fI_kept (x_lt hTH167 kH213 giq (by decide))).symm
    have m236 := (m199).trans (fI_kept (x_lt hTH167 kH213 gkq (by decide))).symm
    have m237 := (m200).trans (fI_kept (x_lt hTH167 kH213 giq (by decide))).symm
    have m238 := (m201).trans (fI_kept (x_lt hTH167 kH213 gkq (by decide))).symm
    have m239 := (m202).trans (fI_kept (x_lt hTH167 kH213 giq (by decide))).symm
    have m240 := (m203).trans (fI_kept (x_lt hTH167 kH213 gkq (by decide))).symm
    have m241 := (m204).trans (fI_kept (x_lt hTH167 kH213 giq (by decide))).symm
    have m242 := (m205).trans (fR_kept (x_lt hTH167 kH213 gkq (by decide))).symm
    have m243 := (m175).trans (MF.i mf219 (k := 18) (by decide) (by decide)).symm
    have m244 := (m177).trans (MF.i mf219 (k := 1) (by decide) (by decide)).symm
    have m245 := (m179).trans (MF.i mf219 (k := 2) (by decide) (by decide)).symm
    have m246 := (m181).trans (MF.i mf219 (k := 3) (by decide) (by decide)).symm
    have m247 := (m183).trans (MF.i mf219 (k := 59) (by decide) (by decide)).symm
    have m248 := (m185).trans (MF.i mf219 (k := 62) (by decide) (by decide)).symm
    have m249 := (m187).trans (MF.i mf219 (k := 65) (by decide) (by decide)).symm
    have m250 := (m189).trans (MF.r mf219 (k := 50) (by decide) (by decide)).symm
    have m251 := (m190).trans (MF.i mf219 (k := 70) (by decide) (by decide)).symm
    have m252 := (m192).trans (MF.r mf219 (k := 73) (by decide) (by decide)).symm
    refine W.eq (g2 := F0 m 498 ls [.int x214]) rfl ?_
    have v253 : ∀ j : Nat, j < 10 → cz101 j = fI H213 (fR H213 bq j) (K.1.2 0 14) := fun j h => (v206 j h).trans (by rw [fR_kept (x_lt hTH167 kH213 gbq (by decide))]; exact (fI_kept (x_lt hTH167 kH213 (bar_g hTH167 gbq j h) (by decide))).symm)
    have v254 : ∀ j : Nat, j < 10 → rz102 j = fI H213 aq j := fun j h => (v207 j h).trans (fI_kept (x_lt hTH167 kH213 gaq (by decide))).symm
    have v255 : ∀ j : Nat, j < 10 → kz164 j = fI H213 (fR H213 kb j) (K.1.2 0 14) := fun j h => (v208 j h).trans (by rw [fR_kept (x_lt hTH167 kH213 gkb (by decide))]; exact (fI_kept (x_lt hTH167 kH213 (bar_h hTH167 gkb j h) (by decide))).symm)
    have d256 := DB.kept d209 (x_lt hTH167 kH213 gkb (by decide))
    have v257 : ∀ j : Nat, j < 10 → iz165 j = fI H213 iq (11 + 6 * j) := fun j h => (v210 j h).trans (fI_kept (x_lt hTH167 kH213 giq (by decide))).symm
    have d258 := DB.kept d211 (x_lt hTH167 kH213 gbq (by decide))
    refine lv_pop hx hb dL_law_498 rfl ?_
    refine lv_goto (tgt := 1509) hx hb dL_law_499 (by decide) ?_
    exact nx G H213 locsH213 _ _ ls ⟨hTH213, hN, ga, gb, g215, g216, g217, g218, ⟨(by rw [← m221, ← m243]; exact rt), (by rw [← m220, ← m222, ← m244]; exact r1), (by rw [← m220, ← m223, ← m245]; exact r4), (by rw [← m220, ← m224, ← m246]; exact r5), (by rw [← m220, ← m225, ← m247]; exact r10), (by rw [← m220, ← m226, ← m248]; exact r13), (by rw [← m220, ← m227, ← m249]; exact r16)⟩, Or.inr ⟨kq, m229, gkq, (by rw [← m251]; exact h70), (by rw [← m230, ← m252, ← m231]; exact q1), (by rw [← m232, ← m252, ← m233]; exact q4), (by rw [← m234, ← m252, ← m235]; exact q5), (by rw [← m236, ← m252, ← m237]; exact q10), (by rw [← m238, ← m252, ← m239]; exact q13), (by rw [← m240, ← m252, ← m241]; exact q16), (by rw [← m242]; exact d256), (by rw [← m242, ← m252, ← m230]; exact fun j h1 h2 => by rw [← v255 j h1, ← v257 j h1]; exact vk0 j h1 (by omega)), (by rw [← m252, ← m230]; exact fun j h1 h2 => by rw [← v257 j h1]; exact vk1 j h1 (by omega))⟩, (by unfold RB; rw [← m220, ← m228, ← m250, ← m244]; exact ⟨d258, fun j h1 h2 => by rw [← v253 j h1, ← v254 j h1]; exact rel j h1 (by omega), fun j h1 h2 => by rw [← v254 j h1]; exact tl j h1 (by omega)⟩), hSH213⟩ hl ⟨hc, hs, fun h => by have h1 := h.symm.trans m229; cases h1⟩