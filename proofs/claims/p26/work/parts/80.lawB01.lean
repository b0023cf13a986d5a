set_option maxRecDepth 100000 in
set_option maxHeartbeats 1000000 in
theorem lw_c4 {p : Program} {l : Launch} {e : Env} {s : State} {m : MethodId} {below : List Frame} {meth : Method} {c : Code} {K : KE} {b0 L : Nat} {xs : Nat → Int32} {G : Nat → Option Nat} {H : Heap} {locs : List Loc} {a b : Nat} {cells slots : Nat} {ls : Array Slot} {i : Int32} {n : Nat} (D : LC p K s m meth c b0 L xs) (S : SX K s G H locs a b) (hl : lv_has ls 4 [(3, .int i), (2, .ref b), (1, .ref a), (0, .ref b0)]) (hi : 0 ≤ i.toInt ∧ i.toInt + 6 ≤ L) (hn : n ≤ 511) (hB : BD K H a cells slots) (nx : ∀ (G : Nat → Option Nat) (H : Heap) (locs : List Loc) (cells slots : Nat) (ls : Array Slot), SX K s G H locs a b → lv_has ls 4 [(3, .int i), (2, .ref b), (1, .ref a), (0, .ref b0)] → BD K H a cells slots → W p l e room_1 s m #[Value.ref b0] below meth c H locs cells slots (lw_Z below #[Value.ref b0] s) (F0 m 1509 ls [])) : W p l e room_1 s m #[Value.ref b0] below meth c H locs cells slots (lw_Z below #[Value.ref b0] s) (F0 m 360 ls []) := by
  have hI := hi
  obtain ⟨C, hX, hbl, hL⟩ := id D
  obtain ⟨hx, hb, hml, hown, hts, hKT, hr, hlocks, hnm⟩ := id C
  obtain ⟨hT, hN, ga, gb, cg, tu, wd, im, ⟨rt, r1, r4, r5, r10, r13, r16⟩, hk, hS⟩ := S
  obtain ⟨hc, hs, hB0⟩ := hB
  have n_1 : (1 : Int32).toInt = 1 := rfl
  have n_2 : (2 : Int32).toInt = 2 := rfl
  have n_3 : (3 : Int32).toInt = 3 := rfl
  have n_4 : (4 : Int32).toInt = 4 := rfl
  have n_5 : (5 : Int32).toInt = 5 := rfl
  obtain ⟨w, ew⟩ : ∃ z : Nat, z = fR H a (K.1.2 9 0) := ⟨_, rfl⟩
  have gw := ty_fr (q := w) (k := 0) (u := 0) ew hT ga rg_68 rfl
  rw [← ew] at r1 r4 r5 r10 r13 r16
  obtain ⟨ta, eta⟩ : ∃ z : Int32, z = fI H a (K.1.2 9 3) := ⟨_, rfl⟩
  rw [← eta] at rt
  obtain ⟨tb, etb⟩ : ∃ z : Int32, z = fI H b (K.1.2 10 18) := ⟨_, rfl⟩
  rw [← etb] at rt
  obtain ⟨s1, es1⟩ : ∃ z : Int32, z = fI H w (K.1.2 8 1) := ⟨_, rfl⟩
  rw [← es1] at r1
  obtain ⟨y1, ey1⟩ : ∃ z : Int32, z = fI H b (K.1.2 10 1) := ⟨_, rfl⟩
  rw [← ey1] at r1
  obtain ⟨s4, es4⟩ : ∃ z : Int32, z = fI H w (K.1.2 8 4) := ⟨_, rfl⟩
  rw [← es4] at r4
  obtain ⟨y4, ey4⟩ : ∃ z : Int32, z = fI H b (K.1.2 10 2) := ⟨_, rfl⟩
  rw [← ey4] at r4
  obtain ⟨s5, es5⟩ : ∃ z : Int32, z = fI H w (K.1.2 8 5) := ⟨_, rfl⟩
  rw [← es5] at r5
  obtain ⟨y5, ey5⟩ : ∃ z : Int32, z = fI H b (K.1.2 10 3) := ⟨_, rfl⟩
  rw [← ey5] at r5
  obtain ⟨s10, es10⟩ : ∃ z : Int32, z = fI H w (K.1.2 8 10) := ⟨_, rfl⟩
  rw [← es10] at r10
  obtain ⟨y10, ey10⟩ : ∃ z : Int32, z = fI H b (K.1.2 10 59) := ⟨_, rfl⟩
  rw [← ey10] at r10
  obtain ⟨s13, es13⟩ : ∃ z : Int32, z = fI H w (K.1.2 8 13) := ⟨_, rfl⟩
  rw [← es13] at r13
  obtain ⟨y13, ey13⟩ : ∃ z : Int32, z = fI H b (K.1.2 10 62) := ⟨_, rfl⟩
  rw [← ey13] at r13
  obtain ⟨s16, es16⟩ : ∃ z : Int32, z = fI H w (K.1.2 8 16) := ⟨_, rfl⟩
  rw [← es16] at r16
  obtain ⟨y16, ey16⟩ : ∃ z : Int32, z = fI H b (K.1.2 10 65) := ⟨_, rfl⟩
  rw [← ey16] at r16
  rcases hk with ⟨kn, h70⟩ | ⟨kq, kn, gkq, h70, q1, q4, q5, q10, q13, q16⟩
  · skip
    obtain ⟨hi, ehi⟩ : ∃ z : Int32, z = fI H b (K.1.2 10 70) := ⟨_, rfl⟩
    rw [← ehi] at h70
    obtain ⟨hc0, hs0⟩ := hB0 kn
    refine lv_aload_n hx hb dL_law_360 rfl (lv_at hl 2 rfl) ?_
    refine lv_aload_n hx hb dL_law_361 rfl (lv_at hl 3 rfl) ?_
    refine lv_iload_n hx hb dL_law_362 rfl (lv_at hl 0 rfl) ?_
    refine lv_iconst (v := 1) hx hb dL_law_363 (by decide) ?_
    refine lv_iadd hx hb dL_law_364 ?_
    refine lv_topi (fun x101 ex101 => ?_)
    obtain ⟨tx101, ejx101, evx101⟩ := lw_ix (k := 1) ex101 hI hL rfl (by decide)
    clear tx101
    refine va_sld hx hb hX hbl (Nat.not_le.mpr hbl) hS (vp_in_iff.mpr evx101) dL_law_365 ?_
    refine W.eq (g2 := F0 m 366 ls [.int (xs (i.toNatClampNeg + 1)), .ref a]) (congrArg (fun z => F0 m 366 ls [.int (xs z), .ref a]) ejx101) ?_
    refine lv_aload_n hx hb dL_law_366 rfl (lv_at hl 3 rfl) ?_
    refine lv_iload_n hx hb dL_law_367 rfl (lv_at hl 0 rfl) ?_
    refine lv_iconst (v := 2) hx hb dL_law_368 (by decide) ?_
    refine lv_iadd hx hb dL_law_369 ?_
    refine lv_topi (fun x102 ex102 => ?_)
    obtain ⟨tx102, ejx102, evx102⟩ := lw_ix (k := 2) ex102 hI hL rfl (by decide)
    clear tx102
    refine va_sld hx hb hX hbl (Nat.not_le.mpr hbl) hS (vp_in_iff.mpr evx102) dL_law_370 ?_
    refine W.eq (g2 := F0 m 371 ls [.int (xs (i.toNatClampNeg + 2)), .int (xs (i.toNatClampNeg + 1)), .ref a]) (congrArg (fun z => F0 m 371 ls [.int (xs z), .int (xs (i.toNatClampNeg + 1)), .ref a]) ejx102) ?_
    refine lv_aload_n hx hb dL_law_371 rfl (lv_at hl 3 rfl) ?_
    refine lv_iload_n hx hb dL_law_372 rfl (lv_at hl 0 rfl) ?_
    refine lv_iconst (v := 3) hx hb dL_law_373 (by decide) ?_
    refine lv_iadd hx hb dL_law_374 ?_
    refine lv_topi (fun x103 ex103 => ?_)
    obtain ⟨tx103, ejx103, evx103⟩ := lw_ix (k := 3) ex103 hI hL rfl (by decide)
    clear tx103
    refine va_sld hx hb hX hbl (Nat.not_le.mpr hbl) hS (vp_in_iff.mpr evx103) dL_law_375 ?_
    refine W.eq (g2 := F0 m 376 ls [.int (xs (i.toNatClampNeg + 3)), .int (xs (i.toNatClampNeg + 2)), .int (xs (i.toNatClampNeg + 1)), .ref a]) (congrArg (fun z => F0 m 376 ls [.int (xs z), .int (xs (i.toNatClampNeg + 2)), .int (xs (i.toNatClampNeg + 1)), .ref a]) ejx103) ?_
    refine lv_aload_n hx hb dL_law_376 rfl (lv_at hl 3 rfl) ?_
    refine lv_iload_n hx hb dL_law_377 rfl (lv_at hl 0 rfl) ?_
    refine lv_iconst (v := 4) hx hb dL_law_378 (by decide) ?_
    refine lv_iadd hx hb dL_law_379 ?_
    refine lv_topi (fun x104 ex104 => ?_)
    obtain ⟨tx104, ejx104, evx104⟩ := lw_ix (k := 4) ex104 hI hL rfl (by decide)
    clear tx104
    refine va_sld hx hb hX hbl (Nat.not_le.mpr hbl) hS (vp_in_iff.mpr evx104) dL_law_380 ?_
    refine W.eq (g2 := F0 m 381 ls [.int (xs (i.toNatClampNeg + 4)), .int (xs (i.toNatClampNeg + 3)), .int (xs (i.toNatClampNeg + 2)), .int (xs (i.toNatClampNeg + 1)), .ref a]) (congrArg (fun z => F0 m 381 ls [.int (xs z), .int (xs (i.toNatClampNeg + 3)), .int (xs (i.toNatClampNeg + 2)), .int (xs (i.toNatClampNeg + 1)), .ref a]) ejx104) ?_
    refine lv_aload_n hx hb dL_law_381 rfl (lv_at hl 3 rfl) ?_
    refine lv_iload_n hx hb dL_law_382 rfl (lv_at hl 0 rfl) ?_
    refine lv_iconst (v := 5) hx hb dL_law_383 (by decide) ?_
    refine lv_iadd hx hb dL_law_384 ?_
    refine lv_topi (fun x105 ex105 => ?_)
    obtain ⟨tx105, ejx105, evx105⟩ := lw_ix (k := 5) ex105 hI hL rfl (by decide)
    clear tx105
    refine va_sld hx hb hX hbl (Nat.not_le.mpr hbl) hS (vp_in_iff.mpr evx105) dL_law_385 ?_
    refine W.eq (g2 := F0 m 386 ls [.int (xs (i.toNatClampNeg + 5)), .int (xs (i.toNatClampNeg + 4)), .int (xs (i.toNatClampNeg + 3)), .int (xs (i.toNatClampNeg + 2)), .int (xs (i.toNatClampNeg + 1)), .ref a]) (congrArg (fun z => F0 m 386 ls [.int (xs z), .int (xs (i.toNatClampNeg + 4)), .int (xs (i.toNatClampNeg + 3)), .int (xs (i.toNatClampNeg + 2)), .int (xs (i.toNatClampNeg + 1)), .ref a]) ejx105) ?_
    refine x_V (As := [.int (xs (i.toNatClampNeg + 1)), .int (xs (i.toNatClampNeg + 2)), .int (xs (i.toNatClampNeg + 3)), .int (xs (i.toNatClampNeg + 4)), .int (xs (i.toNatClampNeg + 5))]) (rest := []) C (a_X9_feed_r l K G H ((xs (i.toNatClampNeg + 1))) ((xs (i.toNatClampNeg + 2))) ((xs (i.toNatClampNeg + 3))) ((xs (i.toNatClampNeg + 4))) ((xs (i.toNatClampNeg + 5))) (ta) hT ga gw ew eta kn) yo_X9_feed wM_L_33 ⟨⟨by decide, by decide⟩, show _ ≤ 284929 from Nat.le_trans hc (by decide), show _ ≤ 8247460 from Nat.le_trans hs (by decide)⟩ (x_rv C hT (ci := 9) rfl ga rg_68) rfl hl.1 rfl (Nat.le_of_ble_eq_true rfl) dL_law_386 hS (AE_new hN hS.1) (fun vH106 H106 locsH106 pH106 zH106 kH106 hSH106 => ?_)
    obtain ⟨x107, x108, hvH106, ex108, hrH106, m109, m110, hTH106⟩ := pH106
    subst hvH106
    have g111 : CG (avw K H106 b) := CG.congr (fun k hk j => av_eff hT kH106 gb (by decide) (CG_eff [68, 108] (by decide) k hk)) cg
    have g112 : TU (avw K H106 b) (svw K H106 b) := TU.congr (fun k hk j => av_eff hT kH106 gb (by decide) (TU_eff [68, 108] (by decide) k hk)) (fun k hk => sv_eff hT kH106 gb (by decide)) tu
    have g113 : WD (avw K H106 b) := WD.congr (fun k hk j => av_eff hT kH106 gb (by decide) (WD_eff [68, 108] (by decide) k hk)) wd
    have g114 : IM (avw K H106 b) := IM.congr (fun k hk j => av_eff hT kH106 gb (by decide) (IM_eff [68, 108] (by decide) k hk)) im
    have m115 := (etb).trans (fI_kept (x_lt hT kH106 gb (by decide))).symm
    have m116 := (es1).trans (fI_kept (x_lt hT kH106 gw (by decide))).symm
    have m117 := (ey1).trans (fI_kept (x_lt hT kH106 gb (by decide))).symm
    have m118 := (es4).trans (fI_kept (x_lt hT kH106 gw (by decide))).symm
    have m119 := (ey4).trans (fI_kept (x_lt hT kH106 gb (by decide))).symm
    have m120 := (es5).trans (fI_kept (x_lt hT kH106 gw (by decide))).symm
    have m121 := (ey5).trans (fI_kept (x_lt hT kH106 gb (by decide))).symm
    have m122 := (es10).trans (fI_kept (x_lt hT kH106 gw (by decide))).symm
    have m123 := (ey10).trans (fI_kept (x_lt hT kH106 gb (by decide))).symm
    have m124 := (es13).trans (fI_kept (x_lt hT kH106 gw (by decide))).symm
    have m125 := (ey13).trans (fI_kept (x_lt hT kH106 gb (by decide))).symm
    have m126 := (es16).trans (fI_kept (x_lt hT kH106 gw (by decide))).symm
    have m127 := (ey16).trans (fI_kept (x_lt hT kH106 gb (by decide))).symm
    have m128 := (ehi).trans (fI_kept (x_lt hT kH106 gb (by decide))).symm
    have bx108 := ty_fi (x := x108) (k := 3) ex108 hTH106 ga rg_68 rfl
    refine W.eq (g2 := F0 m 389 ls [.int x107]) rfl ?_
    refine lv_pop hx hb dL_law_389 rfl ?_
    refine lv_aload_n hx hb dL_law_390 rfl (lv_at hl 1 rfl) ?_
    refine lv_aload_n hx hb dL_law_391 rfl (lv_at hl 3 rfl) ?_
    refine lv_iload_n hx hb dL_law_392 rfl (lv_at hl 0 rfl) ?_
    refine lv_iconst (v := 1) hx hb dL_law_393 (by decide) ?_
    refine lv_iadd hx hb dL_law_394 ?_
    refine lv_topi (fun x129 ex129 => ?_)
    obtain ⟨tx129, ejx129, evx129⟩ := lw_ix (k := 1) ex129 hI hL rfl (by decide)
    clear tx129
    refine va_sld hx hb hX hbl (Nat.not_le.mpr hbl) hSH106 (vp_in_iff.mpr evx129) dL_law_395 ?_
    refine W.eq (g2 := F0 m 396 ls [.int (xs (i.toNatClampNeg + 1)), .ref b]) (congrArg (fun z => F0 m 396 ls [.int (xs z), .ref b]) ejx129) ?_
    refine lv_aload_n hx hb dL_law_396 rfl (lv_at hl 3 rfl) ?_
    refine lv_iload_n hx hb dL_law_397 rfl (lv_at hl 0 rfl) ?_
    refine lv_iconst (v := 2) hx hb dL_law_398 (by decide) ?_
    refine lv_iadd hx hb dL_law_399 ?_
    refine lv_topi (fun x130 ex130 => ?_)
    obtain ⟨tx130, ejx130, evx130⟩ := lw_ix (k := 2) ex130 hI hL rfl (by decide)
    clear tx130
    refine va_sld hx hb hX hbl (Nat.not_le.mpr hbl) hSH106 (vp_in_iff.mpr evx130) dL_law_400 ?_
    refine W.eq (g2 := F0 m 401 ls [.int (xs (i.toNatClampNeg + 2)), .int (xs (i.toNatClampNeg + 1)), .ref b]) (congrArg (fun z => F0 m 401 ls [.int (xs z), .int (xs (i.toNatClampNeg + 1)), .ref b]) ejx130) ?_
    refine lv_aload_n hx hb dL_law_401 rfl (lv_at hl 3 rfl) ?_
    refine lv_iload_n hx hb dL_law_402 rfl (lv_at hl 0 rfl) ?_
    refine lv_iconst (v := 3) hx hb dL_law_403 (by decide) ?_
    refine lv_iadd hx hb dL_law_404 ?_
    refine lv_topi (fun x131 ex131 => ?_)
    obtain ⟨tx131, ejx131, evx131⟩ := lw_ix (k := 3) ex131 hI hL rfl (by decide)
    clear tx131
    refine va_sld hx hb hX hbl (Nat.not_le.mpr hbl) hSH106 (vp_in_iff.mpr evx131) dL_law_405 ?_
    refine W.eq (g2 := F0 m 406 ls [.int (xs (i.toNatClampNeg + 3)), .int (xs (i.toNatClampNeg + 2)), .int (xs (i.toNatClampNeg + 1)), .ref b]) (congrArg (fun z => F0 m 406 ls [.int (xs z), .int (xs (i.toNatClampNeg + 2)), .int (xs (i.toNatClampNeg + 1)), .ref b]) ejx131) ?_
    refine lv_aload_n hx hb dL_law_406 rfl (lv_at hl 3 rfl) ?_
    refine lv_iload_n hx hb dL_law_407 rfl (lv_at hl 0 rfl) ?_
    refine lv_iconst (v := 4) hx hb dL_law_408 (by decide) ?_
    refine lv_iadd hx hb dL_law_409 ?_
    refine lv_topi (fun x132 ex132 => ?_)
    obtain ⟨tx132, ejx132, evx132⟩ := lw_ix (k := 4) ex132 hI hL rfl (by decide)
    clear tx132
    refine va_sld hx hb hX hbl (Nat.not_le.mpr hbl) hSH106 (vp_in_iff.mpr evx132) dL_law_410 ?_
    refine W.eq (g2 := F0 m 411 ls [.int (xs (i.toNatClampNeg + 4)), .int (xs (i.toNatClampNeg + 3)), .int (xs (i.toNatClampNeg + 2)), .int (xs (i.toNatClampNeg + 1)), .ref b]) (congrArg (fun z => F0 m 411 ls [.int (xs z), .int (xs (i.toNatClampNeg + 3)), .int (xs (i.toNatClampNeg + 2)), .int (xs (i.toNatClampNeg + 1)), .ref b]) ejx132) ?_
    refine lv_aload_n hx hb dL_law_411 rfl (lv_at hl 3 rfl) ?_
    refine lv_iload_n hx hb dL_law_412 rfl (lv_at hl 0 rfl) ?_
    refine lv_iconst (v := 5) hx hb dL_law_413 (by decide) ?_
    refine lv_iadd hx hb dL_law_414 ?_
    refine lv_topi (fun x133 ex133 => ?_)
    obtain ⟨tx133, ejx133, evx133⟩ := lw_ix (k := 5) ex133 hI hL rfl (by decide)
    clear tx133
    refine va_sld hx hb hX hbl (Nat.not_le.mpr hbl) hSH106 (vp_in_iff.mpr evx133) dL_law_415 ?_
    refine W.eq (g2 := F0 m 416 ls [.int (xs (i.toNatClampNeg + 5)), .int (xs (i.toNatClampNeg + 4)), .int (xs (i.toNatClampNeg + 3)), .int (xs (i.toNatClampNeg + 2)), .int (xs (i.toNatClampNeg + 1)), .ref b]) (congrArg (fun z => F0 m 416 ls [.int (xs z), .int (xs (i.toNatClampNeg + 4)), .int (xs (i.toNatClampNeg + 3)), .int (xs (i.toNatClampNeg + 2)), .int (xs (i.toNatClampNeg + 1)), .ref b]) ejx133) ?_
    refine x_V (As := [.int (xs (i.toNatClampNeg + 1)), .int (xs (i.toNatClampNeg + 2)), .int (xs (i.toNatClampNeg + 3)), .int (xs (i.toNatClampNeg + 4)), .int (xs (i.toNatClampNeg + 5))]) (rest := []) C (a_X10_feed_t l K G H106 ((xs (i.toNatClampNeg + 1))) ((xs (i.toNatClampNeg + 2))) ((xs (i.toNatClampNeg + 3))) ((xs (i.toNatClampNeg + 4))) ((xs (i.toNatClampNeg + 5))) (tb) hTH106 gb m115 g111 g112 g113 g114) yo_X10_feed wM_L_37 ⟨⟨by decide, by decide⟩, show _ ≤ 284929 from Nat.le_trans hc (by decide), show _ ≤ 8247460 from Nat.le_trans hs (by decide)⟩ (x_rv C hTH106 (ci := 10) rfl gb rg_112) rfl hl.1 rfl (Nat.le_of_ble_eq_true rfl) dL_law_416 hSH106 (AE_new hN hSH106.1) (fun vH134 H134 locsH134 pH134 zH134 kH134 hSH134 => ?_)
    obtain ⟨x135, x136, hvH134, ex136, hrH134, g137, g138, g139, g140, mf141, hTH134⟩ := pH134
    subst hvH134
    have m142 := (m116).trans (fI_kept (x_lt hTH106 kH134 gw (by decide))).symm
    have m143 := (m118).trans (fI_kept (x_lt hTH106 kH134 gw (by decide))).symm
    have m144 := (m120).trans (fI_kept (x_lt hTH106 kH134 gw (by decide))).symm
    have m145 := (m122).trans (fI_kept (x_lt hTH106 kH134 gw (by decide))).symm
    have m146 := (m124).trans (fI_kept (x_lt hTH106 kH134 gw (by decide))).symm
    have m147 := (m126).trans (fI_kept (x_lt hTH106 kH134 gw (by decide))).symm
    have m148 := (m109).trans (fR_kept (x_lt hTH106 kH134 ga (by decide))).symm
    have m149 := (fV_kept (x_lt hTH106 kH134 ga (by decide))).trans m110
    have m150 := (ex108).trans (fI_kept (x_lt hTH106 kH134 ga (by decide))).symm
    have m151 := (m117).trans (MF.i mf141 (k := 1) (by decide) (by decide)).symm
    have m152 := (m119).trans (MF.i mf141 (k := 2) (by decide) (by decide)).symm
    have m153 := (m121).trans (MF.i mf141 (k := 3) (by decide) (by decide)).symm
    have m154 := (m123).trans (MF.i mf141 (k := 59) (by decide) (by decide)).symm
    have m155 := (m125).trans (MF.i mf141 (k := 62) (by decide) (by decide)).symm
    have m156 := (m127).trans (MF.i mf141 (k := 65) (by decide) (by decide)).symm
    have m157 := (m128).trans (MF.i mf141 (k := 70) (by decide) (by decide)).symm
    have bx136 := ty_fi (x := x136) (k := 18) ex136 hTH134 gb rg_112 rfl
    refine W.eq (g2 := F0 m 419 ls [.int x135]) rfl ?_
    refine lv_pop hx hb dL_law_419 rfl ?_
    refine lv_goto (tgt := 1509) hx hb dL_law_420 (by decide) ?_
    exact nx G H134 locsH134 _ _ ls ⟨hTH134, hN, ga, gb, g137, g138, g139, g140, ⟨(by rw [← m150, ← ex136]; omega), (by rw [← m148, ← m142, ← m151]; exact r1), (by rw [← m148, ← m143, ← m152]; exact r4), (by rw [← m148, ← m144, ← m153]; exact r5), (by rw [← m148, ← m145, ← m154]; exact r10), (by rw [← m148, ← m146, ← m155]; exact r13), (by rw [← m148, ← m147, ← m156]; exact r16)⟩, Or.inl ⟨m149, (by rw [← m157]; exact h70)⟩, hSH134⟩ hl ⟨hc, hs, fun _ => ⟨hc0, hs0⟩⟩
  · skip
    obtain ⟨hi, ehi⟩ : ∃ z : Int32, z = fI H b (K.1.2 10 70) := ⟨_, rfl⟩
    rw [← ehi] at h70
    obtain ⟨iq, eiq⟩ : ∃ z : Nat, z = fR H b (K.1.2 10 73) := ⟨_, rfl⟩
    have giq := ty_fr (q := iq) (k := 73) (u := 162) eiq hT gb rg_112 rfl
    rw [← eiq] at q1 q4 q5 q10 q13 q16
    obtain ⟨k1, ek1⟩ : ∃ z : Int32, z = fI H kq (K.1.2 8 1) := ⟨_, rfl⟩
    rw [← ek1] at q1
    obtain ⟨i1, ei1⟩ : ∃ z : Int32, z = fI H iq ((0 : Int32).toNatClampNeg) := ⟨_, rfl⟩
    rw [← ei1] at q1
    obtain ⟨k4, ek4⟩ : ∃ z : Int32, z = fI H kq (K.1.2 8 4) := ⟨_, rfl⟩
    rw [← ek4] at q4
    obtain ⟨i4, ei4⟩ : ∃ z : Int32, z = fI H iq ((1 : Int32).toNatClampNeg) := ⟨_, rfl⟩
    rw [← ei4] at q4
    obtain ⟨k5, ek5⟩ : ∃ z : Int32, z = fI H kq (K.1.2 8 5) := ⟨_, rfl⟩
    rw [← ek5] at q5
    obtain ⟨i5, ei5⟩ : ∃ z : Int32, z = fI H iq ((2 : Int32).toNatClampNeg) := ⟨_, rfl⟩
    rw [← ei5] at q5
    obtain ⟨k10, ek10⟩ : ∃ z : Int32, z = fI H kq (K.1.2 8 10) := ⟨_, rfl⟩
    rw [← ek10] at q10
    obtain ⟨i10, ei10⟩ : ∃ z : Int32, z = fI H iq ((3 : Int32).toNatClampNeg) := ⟨_, rfl⟩
    rw [← ei10] at q10
    obtain ⟨k13, ek13⟩ : ∃ z : Int32, z = fI H kq (K.1.2 8 13) := ⟨_, rfl⟩
    rw [← ek13] at q13
    obtain ⟨i13, ei13⟩ : ∃ z : Int32, z = fI H iq ((4 : Int32).toNatClampNeg) := ⟨_, rfl⟩
    rw [← ei13] at q13
    obtain ⟨k16, ek16⟩ : ∃ z : Int32, z = fI H kq (K.1.2 8 16) := ⟨_, rfl⟩
    rw [← ek16] at q16
    obtain ⟨i16, ei16⟩ : ∃ z : Int32, z = fI H iq ((5 : Int32).toNatClampNeg) := ⟨_, rfl⟩
    rw [← ei16] at q16
    refine lv_aload_n hx hb dL_law_360 rfl (lv_at hl 2 rfl) ?_
    refine lv_aload_n hx hb dL_law_361 rfl (lv_at hl 3 rfl) ?_
    refine lv_iload_n hx hb dL_law_362 rfl (lv_at hl 0 rfl) ?_
    refine lv_iconst (v := 1) hx hb dL_law_363 (by decide) ?_
    refine lv_iadd hx hb dL_law_364 ?_
    refine lv_topi (fun x158 ex158 => ?_)
    obtain ⟨tx158, ejx158, evx158⟩ := lw_ix (k := 1) ex158 hI hL rfl (by decide)
    clear tx158
    refine va_sld hx hb hX hbl (Nat.not_le.mpr hbl) hS (vp_in_iff.mpr evx158) dL_law_365 ?_
    refine W.eq (g2 := F0 m 366 ls [.int (xs (i.toNatClampNeg + 1)), .ref a]) (congrArg (fun z => F0 m 366 ls [.int (xs z), .ref a]) ejx158) ?_
    refine lv_aload_n hx hb dL_law_366 rfl (lv_at hl 3 rfl) ?_
    refine lv_iload_n hx hb dL_law_367 rfl (lv_at hl 0 rfl) ?_
    refine lv_iconst (v := 2) hx hb dL_law_368 (by decide) ?_
    refine lv_iadd hx hb dL_law_369 ?_
    refine lv_topi (fun x159 ex159 => ?_)
    obtain ⟨tx159, ejx159, evx159⟩ := lw_ix (k := 2) ex159 hI hL rfl (by decide)
    clear tx159
    refine va_sld hx hb hX hbl (Nat.not_le.mpr hbl) hS (vp_in_iff.mpr evx159) dL_law_370 ?_
    refine W.eq (g2 := F0 m 371 ls [.int (xs (i.toNatClampNeg + 2)), .int (xs (i.toNatClampNeg + 1)), .ref a]) (congrArg (fun z => F0 m 371 ls [.int (xs z), .int (xs (i.toNatClampNeg + 1)), .ref a]) ejx159) ?_
    refine lv_aload_n hx hb dL_law_371 rfl (lv_at hl 3 rfl) ?_
    refine lv_iload_n hx hb dL_law_372 rfl (lv_at hl 0 rfl) ?_
    refine lv_iconst (v := 3) hx hb dL_law_373 (by decide) ?_
    refine lv_iadd hx hb dL_law_374 ?_
    refine lv_topi (fun x160 ex160 => ?_)
    obtain ⟨tx160, ejx160, evx160⟩ := lw_ix (k := 3) ex160 hI hL rfl (by decide)
    clear tx160
    refine va_sld hx hb hX hbl (Nat.not_le.mpr hbl) hS (vp_in_iff.mpr evx160) dL_law_375 ?_
    refine W.eq (g2 := F0 m 376 ls [.int (xs (i.toNatClampNeg + 3)), .int (xs (i.toNatClampNeg + 2)), .int (xs (i.toNatClampNeg + 1)), .ref a]) (congrArg (fun z => F0 m 376 ls [.int (xs z), .int (xs (i.toNatClampNeg + 2)), .int (xs (i.toNatClampNeg + 1)), .ref a]) ejx160) ?_
    refine lv_aload_n hx hb dL_law_376 rfl (lv_at hl 3 rfl) ?_
    refine lv_iload_n hx hb dL_law_377 rfl (lv_at hl 0 rfl) ?_
    refine lv_iconst (v := 4) hx hb dL_law_378 (by decide) ?_
    refine lv_iadd hx hb dL_law_379 ?_
    refine lv_topi (fun x161 ex161 => ?_)
    obtain ⟨tx161, ejx161, evx161⟩ := lw_ix (k := 4) ex161 hI hL rfl (by decide)
    clear tx161
    refine va_sld hx hb hX hbl (Nat.not_le.mpr hbl) hS (vp_in_iff.mpr evx161) dL_law_380 ?_
    refine W.eq (g2 := F0 m 381 ls [.int (xs (i.toNatClampNeg + 4)), .int (xs (i.toNatClampNeg + 3)), .int (xs (i.toNatClampNeg + 2)), .int (xs (i.toNatClampNeg + 1)), .ref a]) (congrArg (fun z => F0 m 381 ls [.int (xs z), .int (xs (i.toNatClampNeg + 3)), .int (xs (i.toNatClampNeg + 2)), .int (xs (i.toNatClampNeg + 1)), .ref a]) ejx161) ?_
    refine lv_aload_n hx hb dL_law_381 rfl (lv_at hl 3 rfl) ?_
    refine lv_iload_n hx hb dL_law_382 rfl (lv_at hl 0 rfl) ?_
    refine lv_iconst (v := 5) hx hb dL_law_383 (by decide) ?_
    refine lv_iadd hx hb dL_law_384 ?_
    refine lv_topi (fun x162 ex162 => ?_)
    obtain ⟨tx162, ejx162, evx162⟩ := lw_ix (k := 5) ex162 hI hL rfl (by decide)
    clear tx162
    refine va_sld hx hb hX hbl (Nat.not_le.mpr hbl) hS (vp_in_iff.mpr evx162) dL_law_385 ?_
    refine W.eq (g2 := F0 m 386 ls [.int (xs (i.toNatClampNeg + 5)), .int (xs (i.toNatClampNeg + 4)), .int (xs (i.toNatClampNeg + 3)), .int (xs (i.toNatClampNeg + 2)), .int (xs (i.toNatClampNeg + 1)), .ref a]) (congrArg (fun z => F0 m 386 ls [.int (xs z), .int (xs (i.toNatClampNeg + 4)), .int (xs (i.toNatClampNeg + 3)), .int (xs (i.toNatClampNeg + 2)), .int (xs (i.toNatClampNeg + 1)), .ref a]) ejx162) ?_
    refine x_V (As := [.int (xs (i.toNatClampNeg + 1)), .int (xs (i.toNatClampNeg + 2)), .int (xs (i.toNatClampNeg + 3)), .int (xs (i.toNatClampNeg + 4)), .int (xs (i.toNatClampNeg + 5))]) (rest := []) C (a_X9_feed_r l K G H ((xs (i.toNatClampNeg + 1))) ((xs (i.toNatClampNeg + 2))) ((xs (i.toNatClampNeg + 3))) ((xs (i.toNatClampNeg + 4))) ((xs (i.toNatClampNeg + 5))) (ta) hT ga gw ew eta kn) yo_X9_feed wM_L_33 ⟨⟨by decide, by decide⟩, show _ ≤ 284929 from Nat.le_trans hc (by decide), show _ ≤ 8247460 from Nat.le_trans hs (by decide)⟩ (x_rv C hT (ci := 9) rfl ga rg_68) rfl hl.1 rfl (Nat.le_of_ble_eq_true rfl) dL_law_386 hS (AE_new hN hS.1) (fun vH163 H163 locsH163 pH163 zH163 kH163 hSH163 => ?_)
    obtain ⟨x164, x165, hvH163, ex165, hrH163, m166, m167, hTH163⟩ := pH163
    subst hvH163
    have g168 : CG (avw K H163 b) := CG.congr (fun k hk j => av_eff hT kH163 gb (by decide) (CG_eff [68, 108] (by decide) k hk)) cg
    have g169 : TU (avw K H163 b) (svw K H163 b) := TU.congr (fun k hk j => av_eff hT kH163 gb (by decide) (TU_eff [68, 108] (by decide) k hk)) (fun k hk => sv_eff hT kH163 gb (by decide)) tu
    have g170 : WD (avw K H163 b) := WD.congr (fun k hk j => av_eff hT kH163 gb (by decide) (WD_eff [68, 108] (by decide) k hk)) wd
    have g171 : IM (avw K H163 b) := IM.congr (fun k hk j => av_eff hT kH163 gb (by decide) (IM_eff [68, 108] (by decide) k hk)) im
    have m172 := (etb).trans (fI_kept (x_lt hT kH163 gb (by decide))).symm
    have m173 := (es1).trans (fI_kept (x_lt hT kH163 gw (by decide))).symm
    have m174 := (ey1).trans (fI_kept (x_lt hT kH163 gb (by decide))).symm
    have m175 := (es4).trans (fI_kept (x_lt hT kH163 gw (by decide))).symm
    have m176 := (ey4).trans (fI_kept (x_lt hT kH163 gb (by decide))).symm
    have m177 := (es5).trans (fI_kept (x_lt hT kH163 gw (by decide))).symm
    have m178 := (ey5).trans (fI_kept (x_lt hT kH163 gb (by decide))).symm
    have m179 := (es10).trans (fI_kept (x_lt hT kH163 gw (by decide))).symm
    have m180 := (ey10).trans (fI_kept (x_lt hT kH163 gb (by decide))).symm
    have m181 := (es13).trans (fI_kept (x_lt hT kH163 gw (by decide))).symm
    have m182 := (ey13).trans (fI_kept (x_lt hT kH163 gb (by decide))).symm
    have m183 := (es16).trans (fI_kept (x_lt hT kH163 gw (by decide))).symm
    have m184 := (ey16).trans (fI_kept (x_lt hT kH163 gb (by decide))).symm
    have m185 := (ehi).trans (fI_kept (x_lt hT kH163 gb (by decide))).symm
    have m186 := (eiq).trans (fR_kept (x_lt hT kH163 gb (by decide))).symm
    have m187 := (ek1).trans (fI_kept (x_lt hT kH163 gkq (by decide))).symm
    have m188 := (ei1).trans (fI_kept (x_lt hT kH163 giq (by decide))).symm
    have m189 := (ek4).trans (fI_kept (x_lt hT kH163 gkq (by decide))).symm
    have m190 := (ei4).trans (fI_kept (x_lt hT kH163 giq (by decide))).symm
    have m191 := (ek5).trans (fI_kept (x_lt hT kH163 gkq (by decide))).symm
    have m192 := (ei5).trans (fI_kept (x_lt hT kH163 giq (by decide))).symm
    have m193 := (ek10).trans (fI_kept (x_lt hT kH163 gkq (by decide))).symm
    have m194 := (ei10).trans (fI_kept (x_lt hT kH163 giq (by decide))).symm
    have m195 := (ek13).trans (fI_kept (x_lt hT kH163 gkq (by decide))).symm
    have m196 := (ei13).trans (fI_kept (x_lt hT kH163 giq (by decide))).symm
    have m197 := (ek16).trans (fI_kept (x_lt hT kH163 gkq (by decide))).symm
    have m198 := (ei16).trans (fI_kept (x_lt hT kH163 giq (by decide))).symm
    have bx165 := ty_fi (x := x165) (k := 3) ex165 hTH163 ga rg_68 rfl
    refine W.eq (g2 := F0 m 389 ls [.int x164]) rfl ?_
    refine lv_pop hx hb dL_law_389 rfl ?_
    refine lv_aload_n hx hb dL_law_390 rfl (lv_at hl 1 rfl) ?_
    refine lv_aload_n hx hb dL_law_391 rfl (lv_at hl 3 rfl) ?_
    refine lv_iload_n hx hb dL_law_392 rfl (lv_at hl 0 rfl) ?_
    refine lv_iconst (v := 1) hx hb dL_law_393 (by decide) ?_
    refine lv_iadd hx hb dL_law_394 ?_
    refine lv_topi (fun x199 ex199 => ?_)
    obtain ⟨tx199, ejx199, evx199⟩ := lw_ix (k := 1) ex199 hI hL rfl (by decide)
    clear tx199
    refine va_sld hx hb hX hbl (Nat.not_le.mpr hbl) hSH163 (vp_in_iff.mpr evx199) dL_law_395 ?_
    refine W.eq (g2 := F0 m 396 ls [.int (xs (i.toNatClampNeg + 1)), .ref b]) (congrArg (fun z => F0 m 396 ls [.int (xs z), .ref b]) ejx199) ?_
    refine lv_aload_n hx hb dL_law_396 rfl (lv_at hl 3 rfl) ?_
    refine lv_iload_n hx hb dL_law_397 rfl (lv_at hl 0 rfl) ?_
    refine lv_iconst (v := 2) hx hb dL_law_398 (by decide) ?_
    refine lv_iadd hx hb dL_law_399 ?_
    refine lv_topi (fun x200 ex200 => ?_)
    obtain ⟨tx200, ejx200, evx200⟩ := lw_ix (k := 2) ex200 hI hL rfl (by decide)
    clear tx200
    refine va_sld hx hb hX hbl (Nat.not_le.mpr hbl) hSH163 (vp_in_iff.mpr evx200) dL_law_400 ?_
    refine W.eq (g2 := F0 m 401 ls [.int (xs (i.toNatClampNeg + 2)), .int (xs (i.toNatClampNeg + 1)), .ref b]) (congrArg (fun z => F0 m 401 ls [.int (xs z), .int (xs (i.toNatClampNeg + 1)), .ref b]) ejx200) ?_
    refine lv_aload_n hx hb dL_law_401 rfl (lv_at hl 3 rfl) ?_
    refine lv_iload_n hx hb dL_law_402 rfl (lv_at hl 0 rfl) ?_
    refine lv_iconst (v := 3) hx hb dL_law_403 (by decide) ?_
    refine lv_iadd hx hb dL_law_404 ?_
    refine lv_topi (fun x201 ex201 => ?_)
    obtain ⟨tx201, ejx201, evx201⟩ := lw_ix (k := 3) ex201 hI hL rfl (by decide)
    clear tx201
    refine va_sld hx hb hX hbl (Nat.not_le.mpr hbl) hSH163 (vp_in_iff.mpr evx201) dL_law_405 ?_
    refine W.eq (g2 := F0 m 406 ls [.int (xs (i.toNatClampNeg + 3)), .int (xs (i.toNatClampNeg + 2)), .int (xs (i.toNatClampNeg + 1)), .ref b]) (congrArg (fun z => F0 m 406 ls [.int (xs z), .int (xs (i.toNatClampNeg + 2)), .int (xs (i.toNatClampNeg + 1)), .ref b]) ejx201) ?_
    refine lv_aload_n hx hb dL_law_406 rfl (lv_at hl 3 rfl) ?_
    refine lv_iload_n hx hb dL_law_407 rfl (lv_at hl 0 rfl) ?_
    refine lv_iconst (v := 4) hx hb dL_law_408 (by decide) ?_
    refine lv_iadd hx hb dL_law_409 ?_
    refine lv_topi (fun x202 ex202 => ?_)
    obtain ⟨tx202, ejx202, evx202⟩ := lw_ix (k := 4) ex202 hI hL rfl (by decide)
    clear tx202
    refine va_sld hx hb hX hbl (Nat.not_le.mpr hbl) hSH163 (vp_in_iff.mpr evx202) dL_law_410 ?_
    refine W.eq (g2 := F0 m 411 ls [.int (xs (i.toNatClampNeg + 4)), .int (xs (i.toNatClampNeg + 3)), .int (xs (i.toNatClampNeg + 2)), .int (xs (i.toNatClampNeg + 1)), .ref b]) (congrArg (fun z => F0 m 411 ls [.int (xs z), .int (xs (i.toNatClampNeg + 3)), .int (xs (i.toNatClampNeg + 2)), .int (xs (i.toNatClampNeg + 1)), .ref b]) ejx202) ?_
    refine lv_aload_n hx hb dL_law_411 rfl (lv_at hl 3 rfl) ?_
    refine lv_iload_n hx hb dL_law_412 rfl (lv_at hl 0 rfl) ?_
    refine lv_iconst (v := 5) hx hb dL_law_413 (by decide) ?_
    refine lv_iadd hx hb dL_law_414 ?_
    refine lv_topi (fun x203 ex203 => ?_)
    obtain ⟨tx203, ejx203, evx203⟩ := lw_ix (k := 5) ex203 hI hL rfl (by decide)
    clear tx203
    refine va_sld hx hb hX hbl (Nat.not_le.mpr hbl) hSH163 (vp_in_iff.mpr evx203) dL_law_415 ?_
    refine W.eq (g2 := F0 m 416 ls [.int (xs (i.toNatClampNeg + 5)), .int (xs (i.toNatClampNeg + 4)), .int (xs (i.toNatClampNeg + 3)), .int (xs (i.toNatClampNeg + 2)), .int (xs (i.toNatClampNeg + 1)), .ref b]) (congrArg (fun z => F0 m 416 ls [.int (xs z), .int (xs (i.toNatClampNeg + 4)), .int (xs (i.toNatClampNeg + 3)), .int (xs (i.toNatClampNeg + 2)), .int (xs (i.toNatClampNeg + 1)), .ref b]) ejx203) ?_
    refine x_V (As := [.int (xs (i.toNatClampNeg + 1)), .int (xs (i.toNatClampNeg + 2)), .int (xs (i.toNatClampNeg + 3)), .int (xs (i.toNatClampNeg + 4)), .int (xs (i.toNatClampNeg + 5))]) (rest := []) C (a_X10_feed_t l K G H163 ((xs (i.toNatClampNeg + 1))) ((xs (i.toNatClampNeg + 2))) ((xs (i.toNatClampNeg + 3))) ((xs (i.toNatClampNeg + 4))) ((xs (i.toNatClampNeg + 5))) (tb) hTH163 gb m172 g168 g169 g170 g171) yo_X10_feed wM_L_37 ⟨⟨by decide, by decide⟩, show _ ≤ 284929 from Nat.le_trans hc (by decide), show _ ≤ 8247460 from Nat.le_trans hs (by decide)⟩ (x_rv C hTH163 (ci := 10) rfl gb rg_112) rfl hl.1 rfl (Nat.le_of_ble_eq_true rfl) dL_law_416 hSH163 (AE_new hN hSH163.1) (fun vH204 H204 locsH204 pH204 zH204 kH204 hSH204 => ?_)
    obtain ⟨x205, x206, hvH204, ex206, hrH204, g207, g208, g209, g210, mf211, hTH204⟩ := pH204
    subst hvH204
    have m212 := (m173).trans (fI_kept (x_lt hTH163 kH204 gw (by decide))).symm
    have m213 := (m175).trans (fI_kept (x_lt hTH163 kH204 gw (by decide))).symm
    have m214 := (m177).trans (fI_kept (x_lt hTH163 kH204 gw (by decide))).symm
    have m215 := (m179).trans (fI_kept (x_lt hTH163 kH204 gw (by decide))).symm
    have m216 := (m181).trans (fI_kept (x_lt hTH163 kH204 gw (by decide))).symm
    have m217 := (m183).trans (fI_kept (x_lt hTH163 kH204 gw (by decide))).symm
    have m218 := (m187).trans (fI_kept (x_lt hTH163 kH204 gkq (by decide))).symm
    have m219 := (m188).trans (fI_kept (x_lt hTH163 kH204 giq (by decide))).symm
    have m220 := (m189).trans (fI_kept (x_lt hTH163 kH204 gkq (by decide))).symm
    have m221 := (m190).trans (fI_kept (x_lt hTH163 kH204 giq (by decide))).symm
    have m222 := (m191).trans (fI_kept (x_lt hTH163 kH204 gkq (by decide))).symm
    have m223 := (m192).trans (fI_kept (x_lt hTH163 kH204 giq (by decide))).symm
    have m224 := (m193).trans (fI_kept (x_lt hTH163 kH204 gkq (by decide))).symm
    have m225 := (m194).trans (fI_kept (x_lt hTH163 kH204 giq (by decide))).symm
    have m226 := (m195).trans (fI_kept (x_lt hTH163 kH204 gkq (by decide))).symm
    have m227 := (m196).trans (fI_kept (x_lt hTH163 kH204 giq (by decide))).symm
    have m228 := (m197).trans (fI_kept (x_lt hTH163 kH204 gkq (by decide))).symm
    have m229 := (m198).trans (fI_kept (x_lt hTH163 kH204 giq (by decide))).symm
    have m230 := (m166).trans (fR_kept (x_lt hTH163 kH204 ga (by decide))).symm
    have m231 := (fV_kept (x_lt hTH163 kH204 ga (by decide))).trans m167
    have m232 := (ex165).trans (fI_kept (x_lt hTH163 kH204 ga (by decide))).symm
    have m233 := (m174).trans (MF.i mf211 (k := 1) (by decide) (by decide)).symm
    have m234 := (m176).trans (MF.i mf211 (k := 2) (by decide) (by decide)).symm
    have m235 := (m178).trans (MF.i mf211 (k := 3) (by decide) (by decide)).symm
    have m236 := (m180).trans (MF.i mf211 (k := 59) (by decide) (by decide)).symm
    have m237 := (m182).trans (MF.i mf211 (k := 62) (by decide) (by decide)).symm
    have m238 := (m184).trans (MF.i mf211 (k := 65) (by decide) (by decide)).symm
    have m239 := (m185).trans (MF.i mf211 (k := 70) (by decide) (by decide)).symm
    have m240 := (m186).trans (MF.r mf211 (k := 73) (by decide) (by decide)).symm
    have bx206 := ty_fi (x := x206) (k := 18) ex206 hTH204 gb rg_112 rfl
    refine W.eq (g2 := F0 m 419 ls [.int x205]) rfl ?_
    refine lv_pop hx hb dL_law_419 rfl ?_
    refine lv_goto (tgt := 1509) hx hb dL_law_420 (by decide) ?_
    exact nx G H204 locsH204 _ _ ls ⟨hTH204, hN, ga, gb, g207, g208, g209, g210, ⟨(by rw [← m232, ← ex206]; omega), (by rw [← m230, ← m212, ← m233]; exact r1), (by rw [← m230, ← m213, ← m234]; exact r4), (by rw [← m230, ← m214, ← m235]; exact r5), (by rw [← m230, ← m215, ← m236]; exact r10), (by rw [← m230, ← m216, ← m237]; exact r13), (by rw [← m230, ← m217, ← m238]; exact r16)⟩, Or.inr ⟨kq, m231, gkq, (by rw [← m239]; exact h70), (by rw [← m218, ← m240, ← m219]; exact q1), (by rw [← m220, ← m240, ← m221]; exact q4), (by rw [← m222, ← m240, ← m223]; exact q5), (by rw [← m224, ← m240, ← m225]; exact q10), (by rw [← m226, ← m240, ← m227]; exact q13), (by rw [← m228, ← m240, ← m229]; exact q16)⟩, hSH204⟩ hl ⟨hc, hs, fun h => by have h1 := h.symm.trans m231; cases h1⟩
set_option maxRecDepth 100000 in
set_option maxHeartbeats 1000000 in
theorem lw_c5 {p : Program} {l : Launch} {e : Env} {s : State} {m : MethodId} {below : List Frame} {meth : Method} {c : Code} {K : KE} {b0 L : Nat} {xs : Nat → Int32} {G : Nat → Option Nat} {H : Heap} {locs : List Loc} {a b : Nat} {cells slots : Nat} {ls : Array Slot} {i : Int32} {n : Nat} (D : LC p K s m meth c b0 L xs) (S : SX K s G H locs a b) (hl : lv_has ls 4 [(3, .int i), (2, .ref b), (1, .ref a), (0, .ref b0)]) (hi : 0 ≤ i.toInt ∧ i.toInt + 6 ≤ L) (hn : n ≤ 511) (hB : BD K H a cells slots) (nx : ∀ (G : Nat → Option Nat) (H : Heap) (locs : List Loc) (cells slots : Nat) (ls : Array Slot), SX K s G H locs a b → lv_has ls 4 [(3, .int i), (2, .ref b), (1, .ref a), (0, .ref b0)] → BD K H a cells slots → W p l e room_1 s m #[Value.ref b0] below meth c H locs cells slots (lw_Z below #[Value.ref b0] s) (F0 m 1509 ls [])) : W p l e room_1 s m #[Value.ref b0] below meth c H locs cells slots (lw_Z below #[Value.ref b0] s) (F0 m 423 ls []) := by
  have hI := hi
  obtain ⟨C, hX, hbl, hL⟩ := id D
  obtain ⟨hx, hb, hml, hown, hts, hKT, hr, hlocks, hnm⟩ := id C
  obtain ⟨hT, hN, ga, gb, cg, tu, wd, im, ⟨rt, r1, r4, r5, r10, r13, r16⟩, hk, hS⟩ := S
  obtain ⟨hc, hs, hB0⟩ := hB
  have n_1 : (1 : Int32).toInt = 1 := rfl
  obtain ⟨w, ew⟩ : ∃ z : Nat, z = fR H a (K.1.2 9 0) := ⟨_, rfl⟩
  have gw := ty_fr (q := w) (k := 0) (u := 0) ew hT ga rg_68 rfl
  rw [← ew] at r1 r4 r5 r10 r13 r16
  obtain ⟨ta, eta⟩ : ∃ z : Int32, z = fI H a (K.1.2 9 3) := ⟨_, rfl⟩
  rw [← eta] at rt
  obtain ⟨tb, etb⟩ : ∃ z : Int32, z = fI H b (K.1.2 10 18) := ⟨_, rfl⟩
  rw [← etb] at rt
  obtain ⟨s1, es1⟩ : ∃ z : Int32, z = fI H w (K.1.2 8 1) := ⟨_, rfl⟩
  rw [← es1] at r1
  obtain ⟨y1, ey1⟩ : ∃ z : Int32, z = fI H b (K.1.2 10 1) := ⟨_, rfl⟩
  rw [← ey1] at r1
  obtain ⟨s4, es4⟩ : ∃ z : Int32, z = fI H w (K.1.2 8 4) := ⟨_, rfl⟩
  rw [← es4] at r4
  obtain ⟨y4, ey4⟩ : ∃ z : Int32, z = fI H b (K.1.2 10 2) := ⟨_, rfl⟩
  rw [← ey4] at r4
  obtain ⟨s5, es5⟩ : ∃ z : Int32, z = fI H w (K.1.2 8 5) := ⟨_, rfl⟩
  rw [← es5] at r5
  obtain ⟨y5, ey5⟩ : ∃ z : Int32, z = fI H b (K.1.2 10 3) := ⟨_, rfl⟩
  rw [← ey5] at r5
  obtain ⟨s10, es10⟩ : ∃ z : Int32, z = fI H w (K.1.2 8 10) := ⟨_, rfl⟩
  rw [← es10] at r10
  obtain ⟨y10, ey10⟩ : ∃ z : Int32, z = fI H b (K.1.2 10 59) := ⟨_, rfl⟩
  rw [← ey10] at r10
  obtain ⟨s13, es13⟩ : ∃ z : Int32, z = fI H w (K.1.2 8 13) := ⟨_, rfl⟩
  rw [← es13] at r13
  obtain ⟨y13, ey13⟩ : ∃ z : Int32, z = fI H b (K.1.2 10 62) := ⟨_, rfl⟩
  rw [← ey13] at r13
  obtain ⟨s16, es16⟩ : ∃ z : Int32, z = fI H w (K.1.2 8 16) := ⟨_, rfl⟩
  rw [← es16] at r16
  obtain ⟨y16, ey16⟩ : ∃ z : Int32, z = fI H b (K.1.2 10 65) := ⟨_, rfl⟩
  rw [← ey16] at r16
  rcases hk with ⟨kn, h70⟩ | ⟨kq, kn, gkq, h70, q1, q4, q5, q10, q13, q16⟩
  · skip
    obtain ⟨hi, ehi⟩ : ∃ z : Int32, z = fI H b (K.1.2 10 70) := ⟨_, rfl⟩
    rw [← ehi] at h70
    obtain ⟨hc0, hs0⟩ := hB0 kn
    refine lv_aload_n hx hb dL_law_423 rfl (lv_at hl 2 rfl) ?_
    refine lv_aload_n hx hb dL_law_424 rfl (lv_at hl 3 rfl) ?_
    refine lv_iload_n hx hb dL_law_425 rfl (lv_at hl 0 rfl) ?_
    refine lv_iconst (v := 1) hx hb dL_law_426 (by decide) ?_
    refine lv_iadd hx hb dL_law_427 ?_
    refine lv_topi (fun x101 ex101 => ?_)
    obtain ⟨tx101, ejx101, evx101⟩ := lw_ix (k := 1) ex101 hI hL rfl (by decide)
    clear tx101
    refine va_sld hx hb hX hbl (Nat.not_le.mpr hbl) hS (vp_in_iff.mpr evx101) dL_law_428 ?_
    refine W.eq (g2 := F0 m 429 ls [.int (xs (i.toNatClampNeg + 1)), .ref a]) (congrArg (fun z => F0 m 429 ls [.int (xs z), .ref a]) ejx101) ?_
    refine x_V (As := [.int (xs (i.toNatClampNeg + 1))]) (rest := []) C (a_X9_end_r l K G H ((xs (i.toNatClampNeg + 1))) (ta) hT ga gw ew eta kn) yo_X9_end wM_L_38 ⟨⟨by decide, by decide⟩, show _ ≤ 284929 from Nat.le_trans hc (by decide), show _ ≤ 8247460 from Nat.le_trans hs (by decide)⟩ (x_rv C hT (ci := 9) rfl ga rg_68) rfl hl.1 rfl (Nat.le_of_ble_eq_true rfl) dL_law_429 hS (AE_new hN hS.1) (fun vH102 H102 locsH102 pH102 zH102 kH102 hSH102 => ?_)
    obtain ⟨x103, x104, hvH102, bx103, ex104, hrH102, m105, m106, hTH102⟩ := pH102
    subst hvH102
    have g107 : CG (avw K H102 b) := CG.congr (fun k hk j => av_eff hT kH102 gb (by decide) (CG_eff [68] (by decide) k hk)) cg
    have g108 : TU (avw K H102 b) (svw K H102 b) := TU.congr (fun k hk j => av_eff hT kH102 gb (by decide) (TU_eff [68] (by decide) k hk)) (fun k hk => sv_eff hT kH102 gb (by decide)) tu
    have g109 : WD (avw K H102 b) := WD.congr (fun k hk j => av_eff hT kH102 gb (by decide) (WD_eff [68] (by decide) k hk)) wd
    have g110 : IM (avw K H102 b) := IM.congr (fun k hk j => av_eff hT kH102 gb (by decide) (IM_eff [68] (by decide) k hk)) im
    have m111 := (etb).trans (fI_kept (x_lt hT kH102 gb (by decide))).symm
    have m112 := (es1).trans (fI_kept (x_lt hT kH102 gw (by decide))).symm
    have m113 := (ey1).trans (fI_kept (x_lt hT kH102 gb (by decide))).symm
    have m114 := (es4).trans (fI_kept (x_lt hT kH102 gw (by decide))).symm
    have m115 := (ey4).trans (fI_kept (x_lt hT kH102 gb (by decide))).symm
    have m116 := (es5).trans (fI_kept (x_lt hT kH102 gw (by decide))).symm
    have m117 := (ey5).trans (fI_kept (x_lt hT kH102 gb (by decide))).symm
    have m118 := (es10).trans (fI_kept (x_lt hT kH102 gw (by decide))).symm
    have m119 := (ey10).trans (fI_kept (x_lt hT kH102 gb (by decide))).symm
    have m120 := (es13).trans (fI_kept (x_lt hT kH102 gw (by decide))).symm
    have m121 := (ey13).trans (fI_kept (x_lt hT kH102 gb (by decide))).symm
    have m122 := (es16).trans (fI_kept (x_lt hT kH102 gw (by decide))).symm
    have m123 := (ey16).trans (fI_kept (x_lt hT kH102 gb (by decide))).symm
    have m124 := (ehi).trans (fI_kept (x_lt hT kH102 gb (by decide))).symm
    have bx104 := ty_fi (x := x104) (k := 3) ex104 hTH102 ga rg_68 rfl
    refine W.eq (g2 := F0 m 432 ls [.int x103]) rfl ?_
    refine lv_pop hx hb dL_law_432 rfl ?_
    refine lv_aload_n hx hb dL_law_433 rfl (lv_at hl 1 rfl) ?_
    refine lv_aload_n hx hb dL_law_434 rfl (lv_at hl 3 rfl) ?_
    refine lv_iload_n hx hb dL_law_435 rfl (lv_at hl 0 rfl) ?_
    refine lv_iconst (v := 1) hx hb dL_law_436 (by decide) ?_
    refine lv_iadd hx hb dL_law_437 ?_
    refine lv_topi (fun x125 ex125 => ?_)
    obtain ⟨tx125, ejx125, evx125⟩ := lw_ix (k := 1) ex125 hI hL rfl (by decide)
    clear tx125
    refine va_sld hx hb hX hbl (Nat.not_le.mpr hbl) hSH102 (vp_in_iff.mpr evx125) dL_law_438 ?_
    refine W.eq (g2 := F0 m 439 ls [.int (xs (i.toNatClampNeg + 1)), .ref b]) (congrArg (fun z => F0 m 439 ls [.int (xs z), .ref b]) ejx125) ?_
    refine x_V (As := [.int (xs (i.toNatClampNeg + 1))]) (rest := []) C (a_X10_end_t l K G H102 ((xs (i.toNatClampNeg + 1))) (tb) hTH102 gb m111 g107 g108 g109 g110) yo_X10_end wM_L_42 ⟨⟨by decide, by decide⟩, show _ ≤ 284929 from Nat.le_trans hc (by decide), show _ ≤ 8247460 from Nat.le_trans hs (by decide)⟩ (x_rv C hTH102 (ci := 10) rfl gb rg_112) rfl hl.1 rfl (Nat.le_of_ble_eq_true rfl) dL_law_439 hSH102 (AE_new hN hSH102.1) (fun vH126 H126 locsH126 pH126 zH126 kH126 hSH126 => ?_)
    obtain ⟨x127, x128, hvH126, bx127, ex128, hrH126, g129, g130, g131, g132, mf133, hTH126⟩ := pH126
    subst hvH126
    have m134 := (m112).trans (fI_kept (x_lt hTH102 kH126 gw (by decide))).symm
    have m135 := (m114).trans (fI_kept (x_lt hTH102 kH126 gw (by decide))).symm
    have m136 := (m116).trans (fI_kept (x_lt hTH102 kH126 gw (by decide))).symm
    have m137 := (m118).trans (fI_kept (x_lt hTH102 kH126 gw (by decide))).symm
    have m138 := (m120).trans (fI_kept (x_lt hTH102 kH126 gw (by decide))).symm
    have m139 := (m122).trans (fI_kept (x_lt hTH102 kH126 gw (by decide))).symm
    have m140 := (m105).trans (fR_kept (x_lt hTH102 kH126 ga (by decide))).symm
    have m141 := (fV_kept (x_lt hTH102 kH126 ga (by decide))).trans m106
    have m142 := (ex104).trans (fI_kept (x_lt hTH102 kH126 ga (by decide))).symm
    have m143 := (m113).trans (MF.i mf133 (k := 1) (by decide) (by decide)).symm
    have m144 := (m115).trans (MF.i mf133 (k := 2) (by decide) (by decide)).symm
    have m145 := (m117).trans (MF.i mf133 (k := 3) (by decide) (by decide)).symm
    have m146 := (m119).trans (MF.i mf133 (k := 59) (by decide) (by decide)).symm
    have m147 := (m121).trans (MF.i mf133 (k := 62) (by decide) (by decide)).symm
    have m148 := (m123).trans (MF.i mf133 (k := 65) (by decide) (by decide)).symm
    have m149 := (m124).trans (MF.i mf133 (k := 70) (by decide) (by decide)).symm
    have bx128 := ty_fi (x := x128) (k := 18) ex128 hTH126 gb rg_112 rfl
    refine W.eq (g2 := F0 m 442 ls [.int x127]) rfl ?_
    refine lv_pop hx hb dL_law_442 rfl ?_
    refine lv_goto (tgt := 1509) hx hb dL_law_443 (by decide) ?_
    exact nx G H126 locsH126 _ _ ls ⟨hTH126, hN, ga, gb, g129, g130, g131, g132, ⟨(by rw [← m142, ← ex128]; omega), (by rw [← m140, ← m134, ← m143]; exact r1), (by rw [← m140, ← m135, ← m144]; exact r4), (by rw [← m140, ← m136, ← m145]; exact r5), (by rw [← m140, ← m137, ← m146]; exact r10), (by rw [← m140, ← m138, ← m147]; exact r13), (by rw [← m140, ← m139, ← m148]; exact r16)⟩, Or.inl ⟨m141, (by rw [← m149]; exact h70)⟩, hSH126⟩ hl ⟨hc, hs, fun _ => ⟨hc0, hs0⟩⟩
  · skip
    obtain ⟨hi, ehi⟩ : ∃ z : Int32, z = fI H b (K.1.2 10 70) := ⟨_, rfl⟩
    rw [← ehi] at h70
    obtain ⟨iq, eiq⟩ : ∃ z : Nat, z = fR H b (K.1.2 10 73) := ⟨_, rfl⟩
    have giq := ty_fr (q := iq) (k := 73) (u := 162) eiq hT gb rg_112 rfl
    rw [← eiq] at q1 q4 q5 q10 q13 q16
    obtain ⟨k1, ek1⟩ : ∃ z : Int32, z = fI H kq (K.1.2 8 1) := ⟨_, rfl⟩
    rw [← ek1] at q1
    obtain ⟨i1, ei1⟩ : ∃ z : Int32, z = fI H iq ((0 : Int32).toNatClampNeg) := ⟨_, rfl⟩
    rw [← ei1] at q1
    obtain ⟨k4, ek4⟩ : ∃ z : Int32, z = fI H kq (K.1.2 8 4) := ⟨_, rfl⟩
    rw [← ek4] at q4
    obtain ⟨i4, ei4⟩ : ∃ z : Int32, z = fI H iq ((1 : Int32).toNatClampNeg) := ⟨_, rfl⟩
    rw [← ei4] at q4
    obtain ⟨k5, ek5⟩ : ∃ z : Int32, z = fI H kq (K.1.2 8 5) := ⟨_, rfl⟩
    rw [← ek5] at q5
    obtain ⟨i5, ei5⟩ : ∃ z : Int32, z = fI H iq ((2 : Int32).toNatClampNeg) := ⟨_, rfl⟩
    rw [← ei5] at q5
    obtain ⟨k10, ek10⟩ : ∃ z : Int32, z = fI H kq (K.1.2 8 10) := ⟨_, rfl⟩
    rw [← ek10] at q10
    obtain ⟨i10, ei10⟩ : ∃ z : Int32, z = fI H iq ((3 : Int32).toNatClampNeg) := ⟨_, rfl⟩
    rw [← ei10] at q10
    obtain ⟨k13, ek13⟩ : ∃ z : Int32, z = fI H kq (K.1.2 8 13) := ⟨_, rfl⟩
    rw [← ek13] at q13
    obtain ⟨i13, ei13⟩ : ∃ z : Int32, z = fI H iq ((4 : Int32).toNatClampNeg) := ⟨_, rfl⟩
    rw [← ei13] at q13
    obtain ⟨k16, ek16⟩ : ∃ z : Int32, z = fI H kq (K.1.2 8 16) := ⟨_, rfl⟩
    rw [← ek16] at q16
    obtain ⟨i16, ei16⟩ : ∃ z : Int32, z = fI H iq ((5 : Int32).toNatClampNeg) := ⟨_, rfl⟩
    rw [← ei16] at q16
    refine lv_aload_n hx hb dL_law_423 rfl (lv_at hl 2 rfl) ?_
    refine lv_aload_n hx hb dL_law_424 rfl (lv_at hl 3 rfl) ?_
    refine lv_iload_n hx hb dL_law_425 rfl (lv_at hl 0 rfl) ?_
    refine lv_iconst (v := 1) hx hb dL_law_426 (by decide) ?_
    refine lv_iadd hx hb dL_law_427 ?_
    refine lv_topi (fun x150 ex150 => ?_)
    obtain ⟨tx150, ejx150, evx150⟩ := lw_ix (k := 1) ex150 hI hL rfl (by decide)
    clear tx150
    refine va_sld hx hb hX hbl (Nat.not_le.mpr hbl) hS (vp_in_iff.mpr evx150) dL_law_428 ?_
    refine W.eq (g2 := F0 m 429 ls [.int (xs (i.toNatClampNeg + 1)), .ref a]) (congrArg (fun z => F0 m 429 ls [.int (xs z), .ref a]) ejx150) ?_
    refine x_V (As := [.int (xs (i.toNatClampNeg + 1))]) (rest := []) C (a_X9_end_r l K G H ((xs (i.toNatClampNeg + 1))) (ta) hT ga gw ew eta kn) yo_X9_end wM_L_38 ⟨⟨by decide, by decide⟩, show _ ≤ 284929 from Nat.le_trans hc (by decide), show _ ≤ 8247460 from Nat.le_trans hs (by decide)⟩ (x_rv C hT (ci := 9) rfl ga rg_68) rfl hl.1 rfl (Nat.le_of_ble_eq_true rfl) dL_law_429 hS (AE_new hN hS.1) (fun vH151 H151 locsH151 pH151 zH151 kH151 hSH151 => ?_)
    obtain ⟨x152, x153, hvH151, bx152, ex153, hrH151, m154, m155, hTH151⟩ := pH151
    subst hvH151
    have g156 : CG (avw K H151 b) := CG.congr (fun k hk j => av_eff hT kH151 gb (by decide) (CG_eff [68] (by decide) k hk)) cg
    have g157 : TU (avw K H151 b) (svw K H151 b) := TU.congr (fun k hk j => av_eff hT kH151 gb (by decide) (TU_eff [68] (by decide) k hk)) (fun k hk => sv_eff hT kH151 gb (by decide)) tu
    have g158 : WD (avw K H151 b) := WD.congr (fun k hk j => av_eff hT kH151 gb (by decide) (WD_eff [68] (by decide) k hk)) wd
    have g159 : IM (avw K H151 b) := IM.congr (fun k hk j => av_eff hT kH151 gb (by decide) (IM_eff [68] (by decide) k hk)) im
    have m160 := (etb).trans (fI_kept (x_lt hT kH151 gb (by decide))).symm
    have m161 := (es1).trans (fI_kept (x_lt hT kH151 gw (by decide))).symm
    have m162 := (ey1).trans (fI_kept (x_lt hT kH151 gb (by decide))).symm
    have m163 := (es4).trans (fI_kept (x_lt hT kH151 gw (by decide))).symm
    have m164 := (ey4).trans (fI_kept (x_lt hT kH151 gb (by decide))).symm
    have m165 := (es5).trans (fI_kept (x_lt hT kH151 gw (by decide))).symm
    have m166 := (ey5).trans (fI_kept (x_lt hT kH151 gb (by decide))).symm
    have m167 := (es10).trans (fI_kept (x_lt hT kH151 gw (by decide))).symm
    have m168 := (ey10).trans (fI_kept (x_lt hT kH151 gb (by decide))).symm
    have m169 := (es13).trans (fI_kept (x_lt hT kH151 gw (by decide))).symm
    have m170 := (ey13).trans (fI_kept (x_lt hT kH151 gb (by decide))).symm
    have m171 := (es16).trans (fI_kept (x_lt hT kH151 gw (by decide))).symm
    have m172 := (ey16).trans (fI_kept (x_lt hT kH151 gb (by decide))).symm
    have m173 := (ehi).trans (fI_kept (x_lt hT kH151 gb (by decide))).symm
    have m174 := (eiq).trans (fR_kept (x_lt hT kH151 gb (by decide))).symm
    have m175 := (ek1).trans (fI_kept (x_lt hT kH151 gkq (by decide))).symm
    have m176 := (ei1).trans (fI_kept (x_lt hT kH151 giq (by decide))).symm
    have m177 := (ek4).trans (fI_kept (x_lt hT kH151 gkq (by decide))).symm
    have m178 := (ei4).trans (fI_kept (x_lt hT kH151 giq (by decide))).symm
    have m179 := (ek5).trans (fI_kept (x_lt hT kH151 gkq (by decide))).symm
    have m180 := (ei5).trans (fI_kept (x_lt hT kH151 giq (by decide))).symm
    have m181 := (ek10).trans (fI_kept (x_lt hT kH151 gkq (by decide))).symm
    have m182 := (ei10).trans (fI_kept (x_lt hT kH151 giq (by decide))).symm
    have m183 := (ek13).trans (fI_kept (x_lt hT kH151 gkq (by decide))).symm
    have m184 := (ei13).trans (fI_kept (x_lt hT kH151 giq (by decide))).symm
    have m185 := (ek16).trans (fI_kept (x_lt hT kH151 gkq (by decide))).symm
    have m186 := (ei16).trans (fI_kept (x_lt hT kH151 giq (by decide))).symm
    have bx153 := ty_fi (x := x153) (k := 3) ex153 hTH151 ga rg_68 rfl
    refine W.eq (g2 := F0 m 432 ls [.int x152]) rfl ?_
    refine lv_pop hx hb dL_law_432 rfl ?_
    refine lv_aload_n hx hb dL_law_433 rfl (lv_at hl 1 rfl) ?_
    refine lv_aload_n hx hb dL_law_434 rfl (lv_at hl 3 rfl) ?_
    refine lv_iload_n hx hb dL_law_435 rfl (lv_at hl 0 rfl) ?_
    refine lv_iconst (v := 1) hx hb dL_law_436 (by decide) ?_
    refine lv_iadd hx hb dL_law_437 ?_
    refine lv_topi (fun x187 ex187 => ?_)
    obtain ⟨tx187, ejx187, evx187⟩ := lw_ix (k := 1) ex187 hI hL rfl (by decide)
    clear tx187
    refine va_sld hx hb hX hbl (Nat.not_le.mpr hbl) hSH151 (vp_in_iff.mpr evx187) dL_law_438 ?_
    refine W.eq (g2 := F0 m 439 ls [.int (xs (i.toNatClampNeg + 1)), .ref b]) (congrArg (fun z => F0 m 439 ls [.int (xs z), .ref b]) ejx187) ?_
    refine x_V (As := [.int (xs (i.toNatClampNeg + 1))]) (rest := []) C (a_X10_end_t l K G H151 ((xs (i.toNatClampNeg + 1))) (tb) hTH151 gb m160 g156 g157 g158 g159) yo_X10_end wM_L_42 ⟨⟨by decide, by decide⟩, show _ ≤ 284929 from Nat.le_trans hc (by decide), show _ ≤ 8247460 from Nat.le_trans hs (by decide)⟩ (x_rv C hTH151 (ci := 10) rfl gb rg_112) rfl hl.1 rfl (Nat.le_of_ble_eq_true rfl) dL_law_439 hSH151 (AE_new hN hSH151.1) (fun vH188 H188 locsH188 pH188 zH188 kH188 hSH188 => ?_)
    obtain ⟨x189, x190, hvH188, bx189, ex190, hrH188, g191, g192, g193, g194, mf195, hTH188⟩ := pH188
    subst hvH188
    have m196 := (m161).trans (fI_kept (x_lt hTH151 kH188 gw (by decide))).symm
    have m197 := (m163).trans (fI_kept (x_lt hTH151 kH188 gw (by decide))).symm
    have m198 := (m165).trans (fI_kept (x_lt hTH151 kH188 gw (by decide))).symm
    have m199 := (m167).trans (fI_kept (x_lt hTH151 kH188 gw (by decide))).symm
    have m200 := (m169).trans (fI_kept (x_lt hTH151 kH188 gw (by decide))).symm
    have m201 := (m171).trans (fI_kept (x_lt hTH151 kH188 gw (by decide))).symm
    have m202 := (m175).trans (fI_kept (x_lt hTH151 kH188 gkq (by decide))).symm
    have m203 := (m176).trans (fI_kept (x_lt hTH151 kH188 giq (by decide))).symm
    have m204 := (m177).trans (fI_kept (x_lt hTH151 kH188 gkq (by decide))).symm
    have m205 := (m178).trans (fI_kept (x_lt hTH151 kH188 giq (by decide))).symm
    have m206 := (m179).trans (fI_kept (x_lt hTH151 kH188 gkq (by decide))).symm
    have m207 := (m180).trans (fI_kept (x_lt hTH151 kH188 giq (by decide))).symm
    have m208 := (m181).trans (fI_kept (x_lt hTH151 kH188 gkq (by decide))).symm
    have m209 := (m182).trans (fI_kept (x_lt hTH151 kH188 giq (by decide))).symm
    have m210 := (m183).trans (fI_kept (x_lt hTH151 kH188 gkq (by decide))).symm
    have m211 := (m184).trans (fI_kept (x_lt hTH151 kH188 giq (by decide))).symm
    have m212 := (m185).trans (fI_kept (x_lt hTH151 kH188 gkq (by decide))).symm
    have m213 := (m186).trans (fI_kept (x_lt hTH151 kH188 giq (by decide))).symm
    have m214 := (m154).trans (fR_kept (x_lt hTH151 kH188 ga (by decide))).symm
    have m215 := (fV_kept (x_lt hTH151 kH188 ga (by decide))).trans m155
    have m216 := (ex153).trans (fI_kept (x_lt hTH151 kH188 ga (by decide))).symm
    have m217 := (m162).trans (MF.i mf195 (k := 1) (by decide) (by decide)).symm
    have m218 := (m164).trans (MF.i mf195 (k := 2) (by decide) (by decide)).symm
    have m219 := (m166).trans (MF.i mf195 (k := 3) (by decide) (by decide)).symm
    have m220 := (m168).trans (MF.i mf195 (k := 59) (by decide) (by decide)).symm
    have m221 := (m170).trans (MF.i mf195 (k := 62) (by decide) (by decide)).symm
    have m222 := (m172).trans (MF.i mf195 (k := 65) (by decide) (by decide)).symm
    have m223 := (m173).trans (MF.i mf195 (k := 70) (by decide) (by decide)).symm
    have m224 := (m174).trans (MF.r mf195 (k := 73) (by decide) (by decide)).symm
    have bx190 := ty_fi (x := x190) (k := 18) ex190 hTH188 gb rg_112 rfl
    refine W.eq (g2 := F0 m 442 ls [.int x189]) rfl ?_
    refine lv_pop hx hb dL_law_442 rfl ?_
    refine lv_goto (tgt := 1509) hx hb dL_law_443 (by decide) ?_
    exact nx G H188 locsH188 _ _ ls ⟨hTH188, hN, ga, gb, g191, g192, g193, g194, ⟨(by rw [← m216, ← ex190]; omega), (by rw [← m214, ← m196, ← m217]; exact r1), (by rw [← m214, ← m197, ← m218]; exact r4), (by rw [← m214, ← m198, ← m219]; exact r5), (by rw [← m214, ← m199, ← m220]; exact r10), (by rw [← m214, ← m200, ← m221]; exact r13), (by rw [← m214, ← m201, ← m222]; exact r16)⟩, Or.inr ⟨kq, m215, gkq, (by rw [← m223]; exact h70), (by rw [← m202, ← m224, ← m203]; exact q1), (by rw [← m204, ← m224, ← m205]; exact q4), (by rw [← m206, ← m224, ← m207]; exact q5), (by rw [← m208, ← m224, ← m209]; exact q10), (by rw [← m210, ← m224, ← m211]; exact q13), (by rw [← m212, ← m224, ← m213]; exact q16)⟩, hSH188⟩ hl ⟨hc, hs, fun h => by have h1 := h.symm.trans m215; cases h1⟩
set_option maxRecDepth 100000 in
set_option maxHeartbeats 1000000 in
theorem lw_c6 {p : Program} {l : Launch} {e : Env} {s : State} {m : MethodId} {below : List Frame} {meth : Method} {c : Code} {K : KE} {b0 L : Nat} {xs : Nat → Int32} {G : Nat → Option Nat} {H : Heap} {locs : List Loc} {a b : Nat} {cells slots : Nat} {ls : Array Slot} {i : Int32} {n : Nat} (D : LC p K s m meth c b0 L xs) (S : SX K s G H locs a b) (hl : lv_has ls 4 [(3, .int i), (2, .ref b), (1, .ref a), (0, .ref b0)]) (hi : 0 ≤ i.toInt ∧ i.toInt + 6 ≤ L) (hn : n ≤ 511) (hB : BD K H a cells slots) (nx : ∀ (G : Nat → Option Nat) (H : Heap) (locs : List Loc) (cells slots : Nat) (ls : Array Slot), SX K s G H locs a b → lv_has ls 4 [(3, .int i), (2, .ref b), (1, .ref a), (0, .ref b0)] → BD K H a cells slots → W p l e room_1 s m #[Value.ref b0] below meth c H locs cells slots (lw_Z below #[Value.ref b0] s) (F0 m 1509 ls [])) : W p l e room_1 s m #[Value.ref b0] below meth c H locs cells slots (lw_Z below #[Value.ref b0] s) (F0 m 446 ls []) := by
  have hI := hi
  obtain ⟨C, hX, hbl, hL⟩ := id D
  obtain ⟨hx, hb, hml, hown, hts, hKT, hr, hlocks, hnm⟩ := id C
  obtain ⟨hT, hN, ga, gb, cg, tu, wd, im, ⟨rt, r1, r4, r5, r10, r13, r16⟩, hk, hS⟩ := S
  obtain ⟨hc, hs, hB0⟩ := hB
  have n_0 : (0 : Int32).toInt = 0 := rfl
  have n_1 : (1 : Int32).toInt = 1 := rfl
  have n_2 : (2 : Int32).toInt = 2 := rfl
  obtain ⟨w, ew⟩ : ∃ z : Nat, z = fR H a (K.1.2 9 0) := ⟨_, rfl⟩
  have gw := ty_fr (q := w) (k := 0) (u := 0) ew hT ga rg_68 rfl
  rw [← ew] at r1 r4 r5 r10 r13 r16
  obtain ⟨ta, eta⟩ : ∃ z : Int32, z = fI H a (K.1.2 9 3) := ⟨_, rfl⟩
  rw [← eta] at rt
  obtain ⟨tb, etb⟩ : ∃ z : Int32, z = fI H b (K.1.2 10 18) := ⟨_, rfl⟩
  rw [← etb] at rt
  obtain ⟨s1, es1⟩ : ∃ z : Int32, z = fI H w (K.1.2 8 1) := ⟨_, rfl⟩
  rw [← es1] at r1
  obtain ⟨y1, ey1⟩ : ∃ z : Int32, z = fI H b (K.1.2 10 1) := ⟨_, rfl⟩
  rw [← ey1] at r1
  obtain ⟨s4, es4⟩ : ∃ z : Int32, z = fI H w (K.1.2 8 4) := ⟨_, rfl⟩
  rw [← es4] at r4
  obtain ⟨y4, ey4⟩ : ∃ z : Int32, z = fI H b (K.1.2 10 2) := ⟨_, rfl⟩
  rw [← ey4] at r4
  obtain ⟨s5, es5⟩ : ∃ z : Int32, z = fI H w (K.1.2 8 5) := ⟨_, rfl⟩
  rw [← es5] at r5
  obtain ⟨y5, ey5⟩ : ∃ z : Int32, z = fI H b (K.1.2 10 3) := ⟨_, rfl⟩
  rw [← ey5] at r5
  obtain ⟨s10, es10⟩ : ∃ z : Int32, z = fI H w (K.1.2 8 10) := ⟨_, rfl⟩
  rw [← es10] at r10
  obtain ⟨y10, ey10⟩ : ∃ z : Int32, z = fI H b (K.1.2 10 59) := ⟨_, rfl⟩
  rw [← ey10] at r10
  obtain ⟨s13, es13⟩ : ∃ z : Int32, z = fI H w (K.1.2 8 13) := ⟨_, rfl⟩
  rw [← es13] at r13
  obtain ⟨y13, ey13⟩ : ∃ z : Int32, z = fI H b (K.1.2 10 62) := ⟨_, rfl⟩
  rw [← ey13] at r13
  obtain ⟨s16, es16⟩ : ∃ z : Int32, z = fI H w (K.1.2 8 16) := ⟨_, rfl⟩
  rw [← es16] at r16
  obtain ⟨y16, ey16⟩ : ∃ z : Int32, z = fI H b (K.1.2 10 65) := ⟨_, rfl⟩
  rw [← ey16] at r16
  rcases hk with ⟨kn, h70⟩ | ⟨kq, kn, gkq, h70, q1, q4, q5, q10, q13, q16⟩
  · skip
    obtain ⟨hi, ehi⟩ : ∃ z : Int32, z = fI H b (K.1.2 10 70) := ⟨_, rfl⟩
    rw [← ehi] at h70
    obtain ⟨hc0, hs0⟩ := hB0 kn
    refine lv_aload_n hx hb dL_law_446 rfl (lv_at hl 2 rfl) ?_
    refine lv_aload_n hx hb dL_law_447 rfl (lv_at hl 3 rfl) ?_
    refine lv_iload_n hx hb dL_law_448 rfl (lv_at hl 0 rfl) ?_
    refine lv_iconst (v := 1) hx hb dL_law_449 (by decide) ?_
    refine lv_iadd hx hb dL_law_450 ?_
    refine lv_topi (fun x101 ex101 => ?_)
    obtain ⟨tx101, ejx101, evx101⟩ := lw_ix (k := 1) ex101 hI hL rfl (by decide)
    clear tx101
    refine va_sld hx hb hX hbl (Nat.not_le.mpr hbl) hS (vp_in_iff.mpr evx101) dL_law_451 ?_
    refine W.eq (g2 := F0 m 452 ls [.int (xs (i.toNatClampNeg + 1)), .ref a]) (congrArg (fun z => F0 m 452 ls [.int (xs z), .ref a]) ejx101) ?_
    refine lv_aload_n hx hb dL_law_452 rfl (lv_at hl 3 rfl) ?_
    refine lv_iload_n hx hb dL_law_453 rfl (lv_at hl 0 rfl) ?_
    refine lv_iconst (v := 2) hx hb dL_law_454 (by decide) ?_
    refine lv_iadd hx hb dL_law_455 ?_
    refine lv_topi (fun x102 ex102 => ?_)
    obtain ⟨tx102, ejx102, evx102⟩ := lw_ix (k := 2) ex102 hI hL rfl (by decide)
    clear tx102
    refine va_sld hx hb hX hbl (Nat.not_le.mpr hbl) hS (vp_in_iff.mpr evx102) dL_law_456 ?_
    refine W.eq (g2 := F0 m 457 ls [.int (xs (i.toNatClampNeg + 2)), .int (xs (i.toNatClampNeg + 1)), .ref a]) (congrArg (fun z => F0 m 457 ls [.int (xs z), .int (xs (i.toNatClampNeg + 1)), .ref a]) ejx102) ?_
    refine x_V (As := [.int (xs (i.toNatClampNeg + 1)), .int (xs (i.toNatClampNeg + 2))]) (rest := []) C (a_X9_text_r l K G H (xs (i.toNatClampNeg + 1)) (xs (i.toNatClampNeg + 2)) (s1) (s4) (s5) (s10) (s13) (s16) hT ga gw ew es1 es4 es5 es10 es13 es16  kn) yo_X9_text wM_L_43 ⟨⟨by decide, by decide⟩, show _ ≤ 284929 from Nat.le_trans hc (by decide), show _ ≤ 8247460 from Nat.le_trans hs (by decide)⟩ (x_rv C hT (ci := 9) rfl ga rg_68) rfl hl.1 rfl (Nat.le_of_ble_eq_true rfl) dL_law_457 hS (AE_new hN hS.1) (fun vH103 H103 locsH103 pH103 zH103 kH103 hSH103 => ?_)
    obtain ⟨x104, hvH103, m105, m106, m107, m108, m109, m110, m111, m112, m113, hTH103⟩ := pH103
    subst hvH103
    have g114 : CG (avw K H103 b) := CG.congr (fun k hk j => av_eff hT kH103 gb (by decide) (CG_eff [68, 0, 78, 79, 80, 81, 69, 70, 71, 72, 73, 74, 75, 76, 77, 16, 17, 18, 19, 20, 21, 22, 23, 24] (by decide) k hk)) cg
    have g115 : TU (avw K H103 b) (svw K H103 b) := TU.congr (fun k hk j => av_eff hT kH103 gb (by decide) (TU_eff [68, 0, 78, 79, 80, 81, 69, 70, 71, 72, 73, 74, 75, 76, 77, 16, 17, 18, 19, 20, 21, 22, 23, 24] (by decide) k hk)) (fun k hk => sv_eff hT kH103 gb (by decide)) tu
    have g116 : WD (avw K H103 b) := WD.congr (fun k hk j => av_eff hT kH103 gb (by decide) (WD_eff [68, 0, 78, 79, 80, 81, 69, 70, 71, 72, 73, 74, 75, 76, 77, 16, 17, 18, 19, 20, 21, 22, 23, 24] (by decide) k hk)) wd
    have g117 : IM (avw K H103 b) := IM.congr (fun k hk j => av_eff hT kH103 gb (by decide) (IM_eff [68, 0, 78, 79, 80, 81, 69, 70, 71, 72, 73, 74, 75, 76, 77, 16, 17, 18, 19, 20, 21, 22, 23, 24] (by decide) k hk)) im
    have m118 := (etb).trans (fI_kept (x_lt hT kH103 gb (by decide))).symm
    have m119 := (ey1).trans (fI_kept (x_lt hT kH103 gb (by decide))).symm
    have m120 := (ey4).trans (fI_kept (x_lt hT kH103 gb (by decide))).symm
    have m121 := (ey5).trans (fI_kept (x_lt hT kH103 gb (by decide))).symm
    have m122 := (ey10).trans (fI_kept (x_lt hT kH103 gb (by decide))).symm
    have m123 := (ey13).trans (fI_kept (x_lt hT kH103 gb (by decide))).symm
    have m124 := (ey16).trans (fI_kept (x_lt hT kH103 gb (by decide))).symm
    have m125 := (ehi).trans (fI_kept (x_lt hT kH103 gb (by decide))).symm
    refine W.eq (g2 := F0 m 460 ls [.int x104]) rfl ?_
    refine lv_pop hx hb dL_law_460 rfl ?_
    refine lv_aload_n hx hb dL_law_461 rfl (lv_at hl 1 rfl) ?_
    refine lv_aload_n hx hb dL_law_462 rfl (lv_at hl 3 rfl) ?_
    refine lv_iload_n hx hb dL_law_463 rfl (lv_at hl 0 rfl) ?_
    refine lv_iconst (v := 1) hx hb dL_law_464 (by decide) ?_
    refine lv_iadd hx hb dL_law_465 ?_
    refine lv_topi (fun x126 ex126 => ?_)
    obtain ⟨tx126, ejx126, evx126⟩ := lw_ix (k := 1) ex126 hI hL rfl (by decide)
    clear tx126
    refine va_sld hx hb hX hbl (Nat.not_le.mpr hbl) hSH103 (vp_in_iff.mpr evx126) dL_law_466 ?_
    refine W.eq (g2 := F0 m 467 ls [.int (xs (i.toNatClampNeg + 1)), .ref b]) (congrArg (fun z => F0 m 467 ls [.int (xs z), .ref b]) ejx126) ?_
    refine lv_aload_n hx hb dL_law_467 rfl (lv_at hl 3 rfl) ?_
    refine lv_iload_n hx hb dL_law_468 rfl (lv_at hl 0 rfl) ?_
    refine lv_iconst (v := 2) hx hb dL_law_469 (by decide) ?_
    refine lv_iadd hx hb dL_law_470 ?_
    refine lv_topi (fun x127 ex127 => ?_)
    obtain ⟨tx127, ejx127, evx127⟩ := lw_ix (k := 2) ex127 hI hL rfl (by decide)
    clear tx127
    refine va_sld hx hb hX hbl (Nat.not_le.mpr hbl) hSH103 (vp_in_iff.mpr evx127) dL_law_471 ?_
    refine W.eq (g2 := F0 m 472 ls [.int (xs (i.toNatClampNeg + 2)), .int (xs (i.toNatClampNeg + 1)), .ref b]) (congrArg (fun z => F0 m 472 ls [.int (xs z), .int (xs (i.toNatClampNeg + 1)), .ref b]) ejx127) ?_
    obtain ⟨q128, eq128⟩ : ∃ z : Nat, z = fR H103 b (K.1.2 10 32) := ⟨_, rfl⟩
    have gq128 := ty_fr (q := q128) (k := 32) (u := 136) eq128 hTH103 gb rg_112 rfl
    obtain ⟨q129, eq129⟩ : ∃ z : Nat, z = fR H103 b (K.1.2 10 33) := ⟨_, rfl⟩
    have gq129 := ty_fr (q := q129) (k := 33) (u := 137) eq129 hTH103 gb rg_112 rfl
    obtain ⟨q130, eq130⟩ : ∃ z : Nat, z = fR H103 b (K.1.2 10 29) := ⟨_, rfl⟩
    have gq130 := ty_fr (q := q130) (k := 29) (u := 133) eq130 hTH103 gb rg_112 rfl
    obtain ⟨q131, eq131⟩ : ∃ z : Nat, z = fR H103 b (K.1.2 10 30) := ⟨_, rfl⟩
    have gq131 := ty_fr (q := q131) (k := 30) (u := 134) eq131 hTH103 gb rg_112 rfl
    obtain ⟨q132, eq132⟩ : ∃ z : Nat, z = fR H103 b (K.1.2 10 31) := ⟨_, rfl⟩
    have gq132 := ty_fr (q := q132) (k := 31) (u := 135) eq132 hTH103 gb rg_112 rfl
    obtain ⟨q133, eq133⟩ : ∃ z : Nat, z = fR H103 b (K.1.2 10 24) := ⟨_, rfl⟩
    have gq133 := ty_fr (q := q133) (k := 24) (u := 128) eq133 hTH103 gb rg_112 rfl
    obtain ⟨x134, ex134⟩ : ∃ z : Int32, z = fI H103 b (K.1.2 10 35) := ⟨_, rfl⟩
    have bx134 := ty_fi (x := x134) (k := 35) ex134 hTH103 gb rg_112 rfl
    refine x_V (As := [.int (xs (i.toNatClampNeg + 1)), .int (xs (i.toNatClampNeg + 2))]) (rest := []) C (a_X10_text l K G H103 ((xs (i.toNatClampNeg + 1))) ((xs (i.toNatClampNeg + 2))) (x134) (tb) hTH103 gb gq128 eq128 gq129 eq129 gq130 eq130 gq131 eq131 gq132 eq132 gq133 eq133 ex134 m118 g114 g115 g116 g117) yo_X10_text wM_L_47 ⟨⟨by decide, by decide⟩, show _ ≤ 284929 from Nat.le_trans hc (by decide), show _ ≤ 8247460 from Nat.le_trans hs (by decide)⟩ (x_rv C hTH103 (ci := 10) rfl gb rg_112) rfl hl.1 rfl (Nat.le_of_ble_eq_true rfl) dL_law_472 hSH103 (AE_new hN hSH103.1) (fun vH135 H135 locsH135 pH135 zH135 kH135 hSH135 => ?_)
    obtain ⟨x136, x137, x138, hvH135, ex137, ex138, hrH135, m139, m140, m141, m142, m143, m144, g145, g146, g147, g148, mf149, hTH135⟩ := pH135
    subst hvH135
    have m150 := (m105).trans (fR_kept (x_lt hTH103 kH135 ga (by decide))).symm
    have m151 := (m106).trans (fI_kept (x_lt hTH103 kH135 gw (by decide))).symm
    have m152 := (m107).trans (fI_kept (x_lt hTH103 kH135 gw (by decide))).symm
    have m153 := (m108).trans (fI_kept (x_lt hTH103 kH135 gw (by decide))).symm
    have m154 := (m109).trans (fI_kept (x_lt hTH103 kH135 gw (by decide))).symm
    have m155 := (m110).trans (fI_kept (x_lt hTH103 kH135 gw (by decide))).symm
    have m156 := (m111).trans (fI_kept (x_lt hTH103 kH135 gw (by decide))).symm
    have m157 := (fI_kept (x_lt hTH103 kH135 ga (by decide))).trans m112
    have m158 := (fV_kept (x_lt hTH103 kH135 ga (by decide))).trans m113
    have m159 := (m119).trans (MF.i mf149 (k := 1) (by decide) (by decide)).symm
    have m160 := (m120).trans (MF.i mf149 (k := 2) (by decide) (by decide)).symm
    have m161 := (m121).trans (MF.i mf149 (k := 3) (by decide) (by decide)).symm
    have m162 := (m122).trans (MF.i mf149 (k := 59) (by decide) (by decide)).symm
    have m163 := (m123).trans (MF.i mf149 (k := 62) (by decide) (by decide)).symm
    have m164 := (m124).trans (MF.i mf149 (k := 65) (by decide) (by decide)).symm
    have m165 := (m125).trans (MF.i mf149 (k := 70) (by decide) (by decide)).symm
    have m166 := (eq128).trans (MF.r mf149 (k := 32) (by decide) (by decide)).symm
    have m167 := (eq129).trans (MF.r mf149 (k := 33) (by decide) (by decide)).symm
    have m168 := (eq130).trans (MF.r mf149 (k := 29) (by decide) (by decide)).symm
    have m169 := (eq131).trans (MF.r mf149 (k := 30) (by decide) (by decide)).symm
    have m170 := (eq132).trans (MF.r mf149 (k := 31) (by decide) (by decide)).symm
    have m171 := (eq133).trans (MF.r mf149 (k := 24) (by decide) (by decide)).symm
    have bx137 := ty_fi (x := x137) (k := 35) ex137 hTH135 gb rg_112 rfl
    have bx138 := ty_fi (x := x138) (k := 18) ex138 hTH135 gb rg_112 rfl
    refine W.eq (g2 := F0 m 475 ls [.int x136]) rfl ?_
    refine lv_pop hx hb dL_law_475 rfl ?_
    refine lv_goto (tgt := 1509) hx hb dL_law_476 (by decide) ?_
    exact nx G H135 locsH135 _ _ ls ⟨hTH135, hN, ga, gb, g145, g146, g147, g148, ⟨(by rw [m157, ← ex138]; omega), (by rw [← m150, ← m151, ← m159]; exact r1), (by rw [← m150, ← m152, ← m160]; exact r4), (by rw [← m150, ← m153, ← m161]; exact r5), (by rw [← m150, ← m154, ← m162]; exact r10), (by rw [← m150, ← m155, ← m163]; exact r13), (by rw [← m150, ← m156, ← m164]; exact r16)⟩, Or.inl ⟨m158, (by rw [← m165]; exact h70)⟩, hSH135⟩ hl ⟨hc, hs, fun _ => ⟨hc0, hs0⟩⟩
  · skip
    obtain ⟨hi, ehi⟩ : ∃ z : Int32, z = fI H b (K.1.2 10 70) := ⟨_, rfl⟩
    rw [← ehi] at h70
    obtain ⟨iq, eiq⟩ : ∃ z : Nat, z = fR H b (K.1.2 10 73) := ⟨_, rfl⟩
    have giq := ty_fr (q := iq) (k := 73) (u := 162) eiq hT gb rg_112 rfl
    rw [← eiq] at q1 q4 q5 q10 q13 q16
    obtain ⟨k1, ek1⟩ : ∃ z : Int32, z = fI H kq (K.1.2 8 1) := ⟨_, rfl⟩
    rw [← ek1] at q1
    obtain ⟨i1, ei1⟩ : ∃ z : Int32, z = fI H iq ((0 : Int32).toNatClampNeg) := ⟨_, rfl⟩
    rw [← ei1] at q1
    obtain ⟨k4, ek4⟩ : ∃ z : Int32, z = fI H kq (K.1.2 8 4) := ⟨_, rfl⟩
    rw [← ek4] at q4
    obtain ⟨i4, ei4⟩ : ∃ z : Int32, z = fI H iq ((1 : Int32).toNatClampNeg) := ⟨_, rfl⟩
    rw [← ei4] at q4
    obtain ⟨k5, ek5⟩ : ∃ z : Int32, z = fI H kq (K.1.2 8 5) := ⟨_, rfl⟩
    rw [← ek5] at q5
    obtain ⟨i5, ei5⟩ : ∃ z : Int32, z = fI H iq ((2 : Int32).toNatClampNeg) := ⟨_, rfl⟩
    rw [← ei5] at q5
    obtain ⟨k10, ek10⟩ : ∃ z : Int32, z = fI H kq (K.1.2 8 10) := ⟨_, rfl⟩
    rw [← ek10] at q10
    obtain ⟨i10, ei10⟩ : ∃ z : Int32, z = fI H iq ((3 : Int32).toNatClampNeg) := ⟨_, rfl⟩
    rw [← ei10] at q10
    obtain ⟨k13, ek13⟩ : ∃ z : Int32, z = fI H kq (K.1.2 8 13) := ⟨_, rfl⟩
    rw [← ek13] at q13
    obtain ⟨i13, ei13⟩ : ∃ z : Int32, z = fI H iq ((4 : Int32).toNatClampNeg) := ⟨_, rfl⟩
    rw [← ei13] at q13
    obtain ⟨k16, ek16⟩ : ∃ z : Int32, z = fI H kq (K.1.2 8 16) := ⟨_, rfl⟩
    rw [← ek16] at q16
    obtain ⟨i16, ei16⟩ : ∃ z : Int32, z = fI H iq ((5 : Int32).toNatClampNeg) := ⟨_, rfl⟩
    rw [← ei16] at q16
    refine lv_aload_n hx hb dL_law_446 rfl (lv_at hl 2 rfl) ?_
    refine lv_aload_n hx hb dL_law_447 rfl (lv_at hl 3 rfl) ?_
    refine lv_iload_n hx hb dL_law_448 rfl (lv_at hl 0 rfl) ?_
    refine lv_iconst (v := 1) hx hb dL_law_449 (by decide) ?_
    refine lv_iadd hx hb dL_law_450 ?_
    refine lv_topi (fun x172 ex172 => ?_)
    obtain ⟨tx172, ejx172, evx172⟩ := lw_ix (k := 1) ex172 hI hL rfl (by decide)
    clear tx172
    refine va_sld hx hb hX hbl (Nat.not_le.mpr hbl) hS (vp_in_iff.mpr evx172) dL_law_451 ?_
    refine W.eq (g2 := F0 m 452 ls [.int (xs (i.toNatClampNeg + 1)), .ref a]) (congrArg (fun z => F0 m 452 ls [.int (xs z), .ref a]) ejx172) ?_
    refine lv_aload_n hx hb dL_law_452 rfl (lv_at hl 3 rfl) ?_
    refine lv_iload_n hx hb dL_law_453 rfl (lv_at hl 0 rfl) ?_
    refine lv_iconst (v := 2) hx hb dL_law_454 (by decide) ?_
    refine lv_iadd hx hb dL_law_455 ?_
    refine lv_topi (fun x173 ex173 => ?_)
    obtain ⟨tx173, ejx173, evx173⟩ := lw_ix (k := 2) ex173 hI hL rfl (by decide)
    clear tx173
    refine va_sld hx hb hX hbl (Nat.not_le.mpr hbl) hS (vp_in_iff.mpr evx173) dL_law_456 ?_
    refine W.eq (g2 := F0 m 457 ls [.int (xs (i.toNatClampNeg + 2)), .int (xs (i.toNatClampNeg + 1)), .ref a]) (congrArg (fun z => F0 m 457 ls [.int (xs z), .int (xs (i.toNatClampNeg + 1)), .ref a]) ejx173) ?_
    refine x_V (As := [.int (xs (i.toNatClampNeg + 1)), .int (xs (i.toNatClampNeg + 2))]) (rest := []) C (a_X9_text_r l K G H (xs (i.toNatClampNeg + 1)) (xs (i.toNatClampNeg + 2)) (s1) (s4) (s5) (s10) (s13) (s16) hT ga gw ew es1 es4 es5 es10 es13 es16  kn) yo_X9_text wM_L_43 ⟨⟨by decide, by decide⟩, show _ ≤ 284929 from Nat.le_trans hc (by decide), show _ ≤ 8247460 from Nat.le_trans hs (by decide)⟩ (x_rv C hT (ci := 9) rfl ga rg_68) rfl hl.1 rfl (Nat.le_of_ble_eq_true rfl) dL_law_457 hS (AE_new hN hS.1) (fun vH174 H174 locsH174 pH174 zH174 kH174 hSH174 => ?_)
    obtain ⟨x175, hvH174, m176, m177, m178, m179, m180, m181, m182, m183, m184, hTH174⟩ := pH174
    subst hvH174
    have g185 : CG (avw K H174 b) := CG.congr (fun k hk j => av_eff hT kH174 gb (by decide) (CG_eff [68, 0, 78, 79, 80, 81, 69, 70, 71, 72, 73, 74, 75, 76, 77, 16, 17, 18, 19, 20, 21, 22, 23, 24] (by decide) k hk)) cg
    have g186 : TU (avw K H174 b) (svw K H174 b) := TU.congr (fun k hk j => av_eff hT kH174 gb (by decide) (TU_eff [68, 0, 78, 79, 80, 81, 69, 70, 71, 72, 73, 74, 75, 76, 77, 16, 17, 18, 19, 20, 21, 22, 23, 24] (by decide) k hk)) (fun k hk => sv_eff hT kH174 gb (by decide)) tu
    have g187 : WD (avw K H174 b) := WD.congr (fun k hk j => av_eff hT kH174 gb (by decide) (WD_eff [68, 0, 78, 79, 80, 81, 69, 70, 71, 72, 73, 74, 75, 76, 77, 16, 17, 18, 19, 20, 21, 22, 23, 24] (by decide) k hk)) wd
    have g188 : IM (avw K H174 b) := IM.congr (fun k hk j => av_eff hT kH174 gb (by decide) (IM_eff [68, 0, 78, 79, 80, 81, 69, 70, 71, 72, 73, 74, 75, 76, 77, 16, 17, 18, 19, 20, 21, 22, 23, 24] (by decide) k hk)) im
    have m189 := (etb).trans (fI_kept (x_lt hT kH174 gb (by decide))).symm
    have m190 := (ey1).trans (fI_kept (x_lt hT kH174 gb (by decide))).symm
    have m191 := (ey4).trans (fI_kept (x_lt hT kH174 gb (by decide))).symm
    have m192 := (ey5).trans (fI_kept (x_lt hT kH174 gb (by decide))).symm
    have m193 := (ey10).trans (fI_kept (x_lt hT kH174 gb (by decide))).symm
    have m194 := (ey13).trans (fI_kept (x_lt hT kH174 gb (by decide))).symm
    have m195 := (ey16).trans (fI_kept (x_lt hT kH174 gb (by decide))).symm
    have m196 := (ehi).trans (fI_kept (x_lt hT kH174 gb (by decide))).symm
    have m197 := (eiq).trans (fR_kept (x_lt hT kH174 gb (by decide))).symm
    have m198 := (ek1).trans (fI_kept (x_lt hT kH174 gkq (by decide))).symm
    have m199 := (ei1).trans (fI_kept (x_lt hT kH174 giq (by decide))).symm
    have m200 := (ek4).trans (fI_kept (x_lt hT kH174 gkq (by decide))).symm
    have m201 := (ei4).trans (fI_kept (x_lt hT kH174 giq (by decide))).symm
    have m202 := (ek5).trans (fI_kept (x_lt hT kH174 gkq (by decide))).symm
    have m203 := (ei5).trans (fI_kept (x_lt hT kH174 giq (by decide))).symm
    have m204 := (ek10).trans (fI_kept (x_lt hT kH174 gkq (by decide))).symm
    have m205 := (ei10).trans (fI_kept (x_lt hT kH174 giq (by decide))).symm
    have m206 := (ek13).trans (fI_kept (x_lt hT kH174 gkq (by decide))).symm
    have m207 := (ei13).trans (fI_kept (x_lt hT kH174 giq (by decide))).symm
    have m208 := (ek16).trans (fI_kept (x_lt hT kH174 gkq (by decide))).symm
    have m209 := (ei16).trans (fI_kept (x_lt hT kH174 giq (by decide))).symm
    refine W.eq (g2 := F0 m 460 ls [.int x175]) rfl ?_
    refine lv_pop hx hb dL_law_460 rfl ?_
    refine lv_aload_n hx hb dL_law_461 rfl (lv_at hl 1 rfl) ?_
    refine lv_aload_n hx hb dL_law_462 rfl (lv_at hl 3 rfl) ?_
    refine lv_iload_n hx hb dL_law_463 rfl (lv_at hl 0 rfl) ?_
    refine lv_iconst (v := 1) hx hb dL_law_464 (by decide) ?_
    refine lv_iadd hx hb dL_law_465 ?_
    refine lv_topi (fun x210 ex210 => ?_)
    obtain ⟨tx210, ejx210, evx210⟩ := lw_ix (k := 1) ex210 hI hL rfl (by decide)
    clear tx210
    refine va_sld hx hb hX hbl (Nat.not_le.mpr hbl) hSH174 (vp_in_iff.mpr evx210) dL_law_466 ?_
    refine W.eq (g2 := F0 m 467 ls [.int (xs (i.toNatClampNeg + 1)), .ref b]) (congrArg (fun z => F0 m 467 ls [.int (xs z), .ref b]) ejx210) ?_
    refine lv_aload_n hx hb dL_law_467 rfl (lv_at hl 3 rfl) ?_
    refine lv_iload_n hx hb dL_law_468 rfl (lv_at hl 0 rfl) ?_
    refine lv_iconst (v := 2) hx hb dL_law_469 (by decide) ?_
    refine lv_iadd hx hb dL_law_470 ?_
    refine lv_topi (fun x211 ex211 => ?_)
    obtain ⟨tx211, ejx211, evx211⟩ := lw_ix (k := 2) ex211 hI hL rfl (by decide)
    clear tx211
    refine va_sld hx hb hX hbl (Nat.not_le.mpr hbl) hSH174 (vp_in_iff.mpr evx211) dL_law_471 ?_
    refine W.eq (g2 := F0 m 472 ls [.int (xs (i.toNatClampNeg + 2)), .int (xs (i.toNatClampNeg + 1)), .ref b]) (congrArg (fun z => F0 m 472 ls [.int (xs z), .int (xs (i.toNatClampNeg + 1)), .ref b]) ejx211) ?_
    obtain ⟨q212, eq212⟩ : ∃ z : Nat, z = fR H174 b (K.1.2 10 32) := ⟨_, rfl⟩
    have gq212 := ty_fr (q := q212) (k := 32) (u := 136) eq212 hTH174 gb rg_112 rfl
    obtain ⟨q213, eq213⟩ : ∃ z : Nat, z = fR H174 b (K.1.2 10 33) := ⟨_, rfl⟩
    have gq213 := ty_fr (q := q213) (k := 33) (u := 137) eq213 hTH174 gb rg_112 rfl
    obtain ⟨q214, eq214⟩ : ∃ z : Nat, z = fR H174 b (K.1.2 10 29) := ⟨_, rfl⟩
    have gq214 := ty_fr (q := q214) (k := 29) (u := 133) eq214 hTH174 gb rg_112 rfl
    obtain ⟨q215, eq215⟩ : ∃ z : Nat, z = fR H174 b (K.1.2 10 30) := ⟨_, rfl⟩
    have gq215 := ty_fr (q := q215) (k := 30) (u := 134) eq215 hTH174 gb rg_112 rfl
    obtain ⟨q216, eq216⟩ : ∃ z : Nat, z = fR H174 b (K.1.2 10 31) := ⟨_, rfl⟩
    have gq216 := ty_fr (q := q216) (k := 31) (u := 135) eq216 hTH174 gb rg_112 rfl
    obtain ⟨q217, eq217⟩ : ∃ z : Nat, z = fR H174 b (K.1.2 10 24) := ⟨_, rfl⟩
    have gq217 := ty_fr (q := q217) (k := 24) (u := 128) eq217 hTH174 gb rg_112 rfl
    obtain ⟨x218, ex218⟩ : ∃ z : Int32, z = fI H174 b (K.1.2 10 35) := ⟨_, rfl⟩
    have bx218 := ty_fi (x := x218) (k := 35) ex218 hTH174 gb rg_112 rfl
    refine x_V (As := [.int (xs (i.toNatClampNeg + 1)), .int (xs (i.toNatClampNeg + 2))]) (rest := []) C (a_X10_text l K G H174 ((xs (i.toNatClampNeg + 1))) ((xs (i.toNatClampNeg + 2))) (x218) (tb) hTH174 gb gq212 eq212 gq213 eq213 gq214 eq214 gq215 eq215 gq216 eq216 gq217 eq217 ex218 m189 g185 g186 g187 g188) yo_X10_text wM_L_47 ⟨⟨by decide, by decide⟩, show _ ≤ 284929 from Nat.le_trans hc (by decide), show _ ≤ 8247460 from Nat.le_trans hs (by decide)⟩ (x_rv C hTH174 (ci := 10) rfl gb rg_112) rfl hl.1 rfl (Nat.le_of_ble_eq_true rfl) dL_law_472 hSH174 (AE_new hN hSH174.1) (fun vH219 H219 locsH219 pH219 zH219 kH219 hSH219 => ?_)
    obtain ⟨x220, x221, x222, hvH219, ex221, ex222, hrH219, m223, m224, m225, m226, m227, m228, g229, g230, g231, g232, mf233, hTH219⟩ := pH219
    subst hvH219
    have m234 := (m198).trans (fI_kept (x_lt hTH174 kH219 gkq (by decide))).symm
    have m235 := (m199).trans (fI_kept (x_lt hTH174 kH219 giq (by decide))).symm
    have m236 := (m200).trans (fI_kept (x_lt hTH174 kH219 gkq (by decide))).symm
    have m237 := (m201).trans (fI_kept (x_lt hTH174 kH219 giq (by decide))).symm
    have m238 := (m202).trans (fI_kept (x_lt hTH174 kH219 gkq (by decide))).symm
    have m239 := (m203).trans (fI_kept (x_lt hTH174 kH219 giq (by decide))).symm
    have m240 := (m204).trans (fI_kept (x_lt hTH174 kH219 gkq (by decide))).symm
    have m241 := (m205).trans (fI_kept (x_lt hTH174 kH219 giq (by decide))).symm
    have m242 := (m206).trans (fI_kept (x_lt hTH174 kH219 gkq (by decide))).symm
    have m243 := (m207).trans (fI_kept (x_lt hTH174 kH219 giq (by decide))).symm
    have m244 := (m208).trans (fI_kept (x_lt hTH174 kH219 gkq (by decide))).symm
    have m245 := (m209).trans (fI_kept (x_lt hTH174 kH219 giq (by decide))).symm
    have m246 := (m176).trans (fR_kept (x_lt hTH174 kH219 ga (by decide))).symm
    have m247 := (m177).trans (fI_kept (x_lt hTH174 kH219 gw (by decide))).symm
    have m248 := (m178).trans (fI_kept (x_lt hTH174 kH219 gw (by decide))).symm
    have m249 := (m179).trans (fI_kept (x_lt hTH174 kH219 gw (by decide))).symm
    have m250 := (m180).trans (fI_kept (x_lt hTH174 kH219 gw (by decide))).symm
    have m251 := (m181).trans (fI_kept (x_lt hTH174 kH219 gw (by decide))).symm
    have m252 := (m182).trans (fI_kept (x_lt hTH174 kH219 gw (by decide))).symm
    have m253 := (fI_kept (x_lt hTH174 kH219 ga (by decide))).trans m183
    have m254 := (fV_kept (x_lt hTH174 kH219 ga (by decide))).trans m184
    have m255 := (m190).trans (MF.i mf233 (k := 1) (by decide) (by decide)).symm
    have m256 := (m191).trans (MF.i mf233 (k := 2) (by decide) (by decide)).symm
    have m257 := (m192).trans (MF.i mf233 (k := 3) (by decide) (by decide)).symm
    have m258 := (m193).trans (MF.i mf233 (k := 59) (by decide) (by decide)).symm
    have m259 := (m194).trans (MF.i mf233 (k := 62) (by decide) (by decide)).symm
    have m260 := (m195).trans (MF.i mf233 (k := 65) (by decide) (by decide)).symm
    have m261 := (m196).trans (MF.i mf233 (k := 70) (by decide) (by decide)).symm
    have m262 := (m197).trans (MF.r mf233 (k := 73) (by decide) (by decide)).symm
    have m263 := (eq212).trans (MF.r mf233 (k := 32) (by decide) (by decide)).symm
    have m264 := (eq213).trans (MF.r mf233 (k := 33) (by decide) (by decide)).symm
    have m265 := (eq214).trans (MF.r mf233 (k := 29) (by decide) (by decide)).symm
    have m266 := (eq215).trans (MF.r mf233 (k := 30) (by decide) (by decide)).symm
    have m267 := (eq216).trans (MF.r mf233 (k := 31) (by decide) (by decide)).symm
    have m268 := (eq217).trans (MF.r mf233 (k := 24) (by decide) (by decide)).symm
    have bx221 := ty_fi (x := x221) (k := 35) ex221 hTH219 gb rg_112 rfl
    have bx222 := ty_fi (x := x222) (k := 18) ex222 hTH219 gb rg_112 rfl
    refine W.eq (g2 := F0 m 475 ls [.int x220]) rfl ?_
    refine lv_pop hx hb dL_law_475 rfl ?_
    refine lv_goto (tgt := 1509) hx hb dL_law_476 (by decide) ?_
    exact nx G H219 locsH219 _ _ ls ⟨hTH219, hN, ga, gb, g229, g230, g231, g232, ⟨(by rw [m253, ← ex222]; omega), (by rw [← m246, ← m247, ← m255]; exact r1), (by rw [← m246, ← m248, ← m256]; exact r4), (by rw [← m246, ← m249, ← m257]; exact r5), (by rw [← m246, ← m250, ← m258]; exact r10), (by rw [← m246, ← m251, ← m259]; exact r13), (by rw [← m246, ← m252, ← m260]; exact r16)⟩, Or.inr ⟨kq, m254, gkq, (by rw [← m261]; exact h70), (by rw [← m234, ← m262, ← m235]; exact q1), (by rw [← m236, ← m262, ← m237]; exact q4), (by rw [← m238, ← m262, ← m239]; exact q5), (by rw [← m240, ← m262, ← m241]; exact q10), (by rw [← m242, ← m262, ← m243]; exact q13), (by rw [← m244, ← m262, ← m245]; exact q16)⟩, hSH219⟩ hl ⟨hc, hs, fun h => by have h1 := h.symm.trans m254; cases h1⟩
set_option maxRecDepth 100000 in
set_option maxHeartbeats 1000000 in
theorem lw_c7 {p : Program} {l : Launch} {e : Env} {s : State} {m : MethodId} {below : List Frame} {meth : Method} {c : Code} {K : KE} {b0 L : Nat} {xs : Nat → Int32} {G : Nat → Option Nat} {H : Heap} {locs : List Loc} {a b : Nat} {cells slots : Nat} {ls : Array Slot} {i : Int32} {n : Nat} (D : LC p K s m meth c b0 L xs) (S : SX K s G H locs a b) (hl : lv_has ls 4 [(3, .int i), (2, .ref b), (1, .ref a), (0, .ref b0)]) (hi : 0 ≤ i.toInt ∧ i.toInt + 6 ≤ L) (hn : n ≤ 511) (hB : BD K H a cells slots) (nx : ∀ (G : Nat → Option Nat) (H : Heap) (locs : List Loc) (cells slots : Nat) (ls : Array Slot), SX K s G H locs a b → lv_has ls 4 [(3, .int i), (2, .ref b), (1, .ref a), (0, .ref b0)] → BD K H a cells slots → W p l e room_1 s m #[Value.ref b0] below meth c H locs cells slots (lw_Z below #[Value.ref b0] s) (F0 m 1509 ls [])) : W p l e room_1 s m #[Value.ref b0] below meth c H locs cells slots (lw_Z below #[Value.ref b0] s) (F0 m 479 ls []) := by
  have hI := hi
  obtain ⟨C, hX, hbl, hL⟩ := id D
  obtain ⟨hx, hb, hml, hown, hts, hKT, hr, hlocks, hnm⟩ := id C
  obtain ⟨hT, hN, ga, gb, cg, tu, wd, im, ⟨rt, r1, r4, r5, r10, r13, r16⟩, hk, hS⟩ := S
  obtain ⟨hc, hs, hB0⟩ := hB
  have n_1 : (1 : Int32).toInt = 1 := rfl
  obtain ⟨w, ew⟩ : ∃ z : Nat, z = fR H a (K.1.2 9 0) := ⟨_, rfl⟩
  have gw := ty_fr (q := w) (k := 0) (u := 0) ew hT ga rg_68 rfl
  rw [← ew] at r1 r4 r5 r10 r13 r16
  obtain ⟨ta, eta⟩ : ∃ z : Int32, z = fI H a (K.1.2 9 3) := ⟨_, rfl⟩
  rw [← eta] at rt
  obtain ⟨tb, etb⟩ : ∃ z : Int32, z = fI H b (K.1.2 10 18) := ⟨_, rfl⟩
  rw [← etb] at rt
  obtain ⟨s1, es1⟩ : ∃ z : Int32, z = fI H w (K.1.2 8 1) := ⟨_, rfl⟩
  rw [← es1] at r1
  obtain ⟨y1, ey1⟩ : ∃ z : Int32, z = fI H b (K.1.2 10 1) := ⟨_, rfl⟩
  rw [← ey1] at r1
  obtain ⟨s4, es4⟩ : ∃ z : Int32, z = fI H w (K.1.2 8 4) := ⟨_, rfl⟩
  rw [← es4] at r4
  obtain ⟨y4, ey4⟩ : ∃ z : Int32, z = fI H b (K.1.2 10 2) := ⟨_, rfl⟩
  rw [← ey4] at r4
  obtain ⟨s5, es5⟩ : ∃ z : Int32, z = fI H w (K.1.2 8 5) := ⟨_, rfl⟩
  rw [← es5] at r5
  obtain ⟨y5, ey5⟩ : ∃ z : Int32, z = fI H b (K.1.2 10 3) := ⟨_, rfl⟩
  rw [← ey5] at r5
  obtain ⟨s10, es10⟩ : ∃ z : Int32, z = fI H w (K.1.2 8 10) := ⟨_, rfl⟩
  rw [← es10] at r10
  obtain ⟨y10, ey10⟩ : ∃ z : Int32, z = fI H b (K.1.2 10 59) := ⟨_, rfl⟩
  rw [← ey10] at r10
  obtain ⟨s13, es13⟩ : ∃ z : Int32, z = fI H w (K.1.2 8 13) := ⟨_, rfl⟩
  rw [← es13] at r13
  obtain ⟨y13, ey13⟩ : ∃ z : Int32, z = fI H b (K.1.2 10 62) := ⟨_, rfl⟩
  rw [← ey13] at r13
  obtain ⟨s16, es16⟩ : ∃ z : Int32, z = fI H w (K.1.2 8 16) := ⟨_, rfl⟩
  rw [← es16] at r16
  obtain ⟨y16, ey16⟩ : ∃ z : Int32, z = fI H b (K.1.2 10 65) := ⟨_, rfl⟩
  rw [← ey16] at r16
  rcases hk with ⟨kn, h70⟩ | ⟨kq, kn, gkq, h70, q1, q4, q5, q10, q13, q16⟩
  · skip
    obtain ⟨hi, ehi⟩ : ∃ z : Int32, z = fI H b (K.1.2 10 70) := ⟨_, rfl⟩
    rw [← ehi] at h70
    obtain ⟨hc0, hs0⟩ := hB0 kn
    refine lv_aload_n hx hb dL_law_479 rfl (lv_at hl 2 rfl) ?_
    refine lv_aload_n hx hb dL_law_480 rfl (lv_at hl 3 rfl) ?_
    refine lv_iload_n hx hb dL_law_481 rfl (lv_at hl 0 rfl) ?_
    refine lv_iconst (v := 1) hx hb dL_law_482 (by decide) ?_
    refine lv_iadd hx hb dL_law_483 ?_
    refine lv_topi (fun x101 ex101 => ?_)
    obtain ⟨tx101, ejx101, evx101⟩ := lw_ix (k := 1) ex101 hI hL rfl (by decide)
    clear tx101
    refine va_sld hx hb hX hbl (Nat.not_le.mpr hbl) hS (vp_in_iff.mpr evx101) dL_law_484 ?_
    refine W.eq (g2 := F0 m 485 ls [.int (xs (i.toNatClampNeg + 1)), .ref a]) (congrArg (fun z => F0 m 485 ls [.int (xs z), .ref a]) ejx101) ?_
    refine x_V (As := [.int (xs (i.toNatClampNeg + 1))]) (rest := []) C (a_X9_fault l K G H ((xs (i.toNatClampNeg + 1))) hT ga) yo_X9_fault wM_L_48 ⟨⟨by decide, by decide⟩, show _ ≤ 284929 from Nat.le_trans hc (by decide), show _ ≤ 8247460 from Nat.le_trans hs (by decide)⟩ (x_rv C hT (ci := 9) rfl ga rg_68) rfl hl.1 rfl (Nat.le_of_ble_eq_true rfl) dL_law_485 hS (AE_new hN hS.1) (fun vH102 H102 locsH102 pH102 zH102 kH102 hSH102 => ?_)
    obtain ⟨x103, hvH102, hTH102⟩ := pH102
    subst hvH102
    have g104 : CG (avw K H102 b) := CG.congr (fun k hk j => av_eff hT kH102 gb (by decide) (CG_eff [] (by decide) k hk)) cg
    have g105 : TU (avw K H102 b) (svw K H102 b) := TU.congr (fun k hk j => av_eff hT kH102 gb (by decide) (TU_eff [] (by decide) k hk)) (fun k hk => sv_eff hT kH102 gb (by decide)) tu
    have g106 : WD (avw K H102 b) := WD.congr (fun k hk j => av_eff hT kH102 gb (by decide) (WD_eff [] (by decide) k hk)) wd
    have g107 : IM (avw K H102 b) := IM.congr (fun k hk j => av_eff hT kH102 gb (by decide) (IM_eff [] (by decide) k hk)) im
    have m108 := (ew).trans (fR_kept (x_lt hT kH102 ga (by decide))).symm
    have m109 := (eta).trans (fI_kept (x_lt hT kH102 ga (by decide))).symm
    have m110 := (etb).trans (fI_kept (x_lt hT kH102 gb (by decide))).symm
    have m111 := (es1).trans (fI_kept (x_lt hT kH102 gw (by decide))).symm
    have m112 := (ey1).trans (fI_kept (x_lt hT kH102 gb (by decide))).symm
    have m113 := (es4).trans (fI_kept (x_lt hT kH102 gw (by decide))).symm
    have m114 := (ey4).trans (fI_kept (x_lt hT kH102 gb (by decide))).symm
    have m115 := (es5).trans (fI_kept (x_lt hT kH102 gw (by decide))).symm
    have m116 := (ey5).trans (fI_kept (x_lt hT kH102 gb (by decide))).symm
    have m117 := (es10).trans (fI_kept (x_lt hT kH102 gw (by decide))).symm
    have m118 := (ey10).trans (fI_kept (x_lt hT kH102 gb (by decide))).symm
    have m119 := (es13).trans (fI_kept (x_lt hT kH102 gw (by decide))).symm
    have m120 := (ey13).trans (fI_kept (x_lt hT kH102 gb (by decide))).symm
    have m121 := (es16).trans (fI_kept (x_lt hT kH102 gw (by decide))).symm
    have m122 := (ey16).trans (fI_kept (x_lt hT kH102 gb (by decide))).symm
    have m123 := (ehi).trans (fI_kept (x_lt hT kH102 gb (by decide))).symm
    have m124 := (fV_kept (x_lt hT kH102 ga (by decide))).trans kn
    refine W.eq (g2 := F0 m 488 ls [.int x103]) rfl ?_
    refine lv_pop hx hb dL_law_488 rfl ?_
    refine lv_aload_n hx hb dL_law_489 rfl (lv_at hl 1 rfl) ?_
    refine lv_aload_n hx hb dL_law_490 rfl (lv_at hl 3 rfl) ?_
    refine lv_iload_n hx hb dL_law_491 rfl (lv_at hl 0 rfl) ?_
    refine lv_iconst (v := 1) hx hb dL_law_492 (by decide) ?_
    refine lv_iadd hx hb dL_law_493 ?_
    refine lv_topi (fun x125 ex125 => ?_)
    obtain ⟨tx125, ejx125, evx125⟩ := lw_ix (k := 1) ex125 hI hL rfl (by decide)
    clear tx125
    refine va_sld hx hb hX hbl (Nat.not_le.mpr hbl) hSH102 (vp_in_iff.mpr evx125) dL_law_494 ?_
    refine W.eq (g2 := F0 m 495 ls [.int (xs (i.toNatClampNeg + 1)), .ref b]) (congrArg (fun z => F0 m 495 ls [.int (xs z), .ref b]) ejx125) ?_
    refine x_V (As := [.int (xs (i.toNatClampNeg + 1))]) (rest := []) C (a_X10_fault l K G H102 ((xs (i.toNatClampNeg + 1))) hTH102 gb g104 g105 g106 g107) yo_X10_fault wM_L_51 ⟨⟨by decide, by decide⟩, show _ ≤ 284929 from Nat.le_trans hc (by decide), show _ ≤ 8247460 from Nat.le_trans hs (by decide)⟩ (x_rv C hTH102 (ci := 10) rfl gb rg_112) rfl hl.1 rfl (Nat.le_of_ble_eq_true rfl) dL_law_495 hSH102 (AE_new hN hSH102.1) (fun vH126 H126 locsH126 pH126 zH126 kH126 hSH126 => ?_)
    obtain ⟨x127, hvH126, g128, g129, g130, g131, mf132, hTH126⟩ := pH126
    subst hvH126
    have m133 := (m108).trans (fR_kept (x_lt hTH102 kH126 ga (by decide))).symm
    have m134 := (m109).trans (fI_kept (x_lt hTH102 kH126 ga (by decide))).symm
    have m135 := (m111).trans (fI_kept (x_lt hTH102 kH126 gw (by decide))).symm
    have m136 := (m113).trans (fI_kept (x_lt hTH102 kH126 gw (by decide))).symm
    have m137 := (m115).trans (fI_kept (x_lt hTH102 kH126 gw (by decide))).symm
    have m138 := (m117).trans (fI_kept (x_lt hTH102 kH126 gw (by decide))).symm
    have m139 := (m119).trans (fI_kept (x_lt hTH102 kH126 gw (by decide))).symm
    have m140 := (m121).trans (fI_kept (x_lt hTH102 kH126 gw (by decide))).symm
    have m141 := (fV_kept (x_lt hTH102 kH126 ga (by decide))).trans m124
    have m142 := (m110).trans (MF.i mf132 (k := 18) (by decide) (by decide)).symm
    have m143 := (m112).trans (MF.i mf132 (k := 1) (by decide) (by decide)).symm
    have m144 := (m114).trans (MF.i mf132 (k := 2) (by decide) (by decide)).symm
    have m145 := (m116).trans (MF.i mf132 (k := 3) (by decide) (by decide)).symm
    have m146 := (m118).trans (MF.i mf132 (k := 59) (by decide) (by decide)).symm
    have m147 := (m120).trans (MF.i mf132 (k := 62) (by decide) (by decide)).symm
    have m148 := (m122).trans (MF.i mf132 (k := 65) (by decide) (by decide)).symm
    have m149 := (m123).trans (MF.i mf132 (k := 70) (by decide) (by decide)).symm
    refine W.eq (g2 := F0 m 498 ls [.int x127]) rfl ?_
    refine lv_pop hx hb dL_law_498 rfl ?_
    refine lv_goto (tgt := 1509) hx hb dL_law_499 (by decide) ?_
    exact nx G H126 locsH126 _ _ ls ⟨hTH126, hN, ga, gb, g128, g129, g130, g131, ⟨(by rw [← m134, ← m142]; exact rt), (by rw [← m133, ← m135, ← m143]; exact r1), (by rw [← m133, ← m136, ← m144]; exact r4), (by rw [← m133, ← m137, ← m145]; exact r5), (by rw [← m133, ← m138, ← m146]; exact r10), (by rw [← m133, ← m139, ← m147]; exact r13), (by rw [← m133, ← m140, ← m148]; exact r16)⟩, Or.inl ⟨m141, (by rw [← m149]; exact h70)⟩, hSH126⟩ hl ⟨hc, hs, fun _ => ⟨hc0, hs0⟩⟩
  · skip
    obtain ⟨hi, ehi⟩ : ∃ z : Int32, z = fI H b (K.1.2 10 70) := ⟨_, rfl⟩
    rw [← ehi] at h70
    obtain ⟨iq, eiq⟩ : ∃ z : Nat, z = fR H b (K.1.2 10 73) := ⟨_, rfl⟩
    have giq := ty_fr (q := iq) (k := 73) (u := 162) eiq hT gb rg_112 rfl
    rw [← eiq] at q1 q4 q5 q10 q13 q16
    obtain ⟨k1, ek1⟩ : ∃ z : Int32, z = fI H kq (K.1.2 8 1) := ⟨_, rfl⟩
    rw [← ek1] at q1
    obtain ⟨i1, ei1⟩ : ∃ z : Int32, z = fI H iq ((0 : Int32).toNatClampNeg) := ⟨_, rfl⟩
    rw [← ei1] at q1
    obtain ⟨k4, ek4⟩ : ∃ z : Int32, z = fI H kq (K.1.2 8 4) := ⟨_, rfl⟩
    rw [← ek4] at q4
    obtain ⟨i4, ei4⟩ : ∃ z : Int32, z = fI H iq ((1 : Int32).toNatClampNeg) := ⟨_, rfl⟩
    rw [← ei4] at q4
    obtain ⟨k5, ek5⟩ : ∃ z : Int32, z = fI H kq (K.1.2 8 5) := ⟨_, rfl⟩
    rw [← ek5] at q5
    obtain ⟨i5, ei5⟩ : ∃ z : Int32, z = fI H iq ((2 : Int32).toNatClampNeg) := ⟨_, rfl⟩
    rw [← ei5] at q5
    obtain ⟨k10, ek10⟩ : ∃ z : Int32, z = fI H kq (K.1.2 8 10) := ⟨_, rfl⟩
    rw [← ek10] at q10
    obtain ⟨i10, ei10⟩ : ∃ z : Int32, z = fI H iq ((3 : Int32).toNatClampNeg) := ⟨_, rfl⟩
    rw [← ei10] at q10
    obtain ⟨k13, ek13⟩ : ∃ z : Int32, z = fI H kq (K.1.2 8 13) := ⟨_, rfl⟩
    rw [← ek13] at q13
    obtain ⟨i13, ei13⟩ : ∃ z : Int32, z = fI H iq ((4 : Int32).toNatClampNeg) := ⟨_, rfl⟩
    rw [← ei13] at q13
    obtain ⟨k16, ek16⟩ : ∃ z : Int32, z = fI H kq (K.1.2 8 16) := ⟨_, rfl⟩
    rw [← ek16] at q16
    obtain ⟨i16, ei16⟩ : ∃ z : Int32, z = fI H iq ((5 : Int32).toNatClampNeg) := ⟨_, rfl⟩
    rw [← ei16] at q16
    refine lv_aload_n hx hb dL_law_479 rfl (lv_at hl 2 rfl) ?_
    refine lv_aload_n hx hb dL_law_480 rfl (lv_at hl 3 rfl) ?_
    refine lv_iload_n hx hb dL_law_481 rfl (lv_at hl 0 rfl) ?_
    refine lv_iconst (v := 1) hx hb dL_law_482 (by decide) ?_
    refine lv_iadd hx hb dL_law_483 ?_
    refine lv_topi (fun x150 ex150 => ?_)
    obtain ⟨tx150, ejx150, evx150⟩ := lw_ix (k := 1) ex150 hI hL rfl (by decide)
    clear tx150
    refine va_sld hx hb hX hbl (Nat.not_le.mpr hbl) hS (vp_in_iff.mpr evx150) dL_law_484 ?_
    refine W.eq (g2 := F0 m 485 ls [.int (xs (i.toNatClampNeg + 1)), .ref a]) (congrArg (fun z => F0 m 485 ls [.int (xs z), .ref a]) ejx150) ?_
    refine x_V (As := [.int (xs (i.toNatClampNeg + 1))]) (rest := []) C (a_X9_fault l K G H ((xs (i.toNatClampNeg + 1))) hT ga) yo_X9_fault wM_L_48 ⟨⟨by decide, by decide⟩, show _ ≤ 284929 from Nat.le_trans hc (by decide), show _ ≤ 8247460 from Nat.le_trans hs (by decide)⟩ (x_rv C hT (ci := 9) rfl ga rg_68) rfl hl.1 rfl (Nat.le_of_ble_eq_true rfl) dL_law_485 hS (AE_new hN hS.1) (fun vH151 H151 locsH151 pH151 zH151 kH151 hSH151 => ?_)
    obtain ⟨x152, hvH151, hTH151⟩ := pH151
    subst hvH151
    have g153 : CG (avw K H151 b) := CG.congr (fun k hk j => av_eff hT kH151 gb (by decide) (CG_eff [] (by decide) k hk)) cg
    have g154 : TU (avw K H151 b) (svw K H151 b) := TU.congr (fun k hk j => av_eff hT kH151 gb (by decide) (TU_eff [] (by decide) k hk)) (fun k hk => sv_eff hT kH151 gb (by decide)) tu
    have g155 : WD (avw K H151 b) := WD.congr (fun k hk j => av_eff hT kH151 gb (by decide) (WD_eff [] (by decide) k hk)) wd
    have g156 : IM (avw K H151 b) := IM.congr (fun k hk j => av_eff hT kH151 gb (by decide) (IM_eff [] (by decide) k hk)) im
    have m157 := (ew).trans (fR_kept (x_lt hT kH151 ga (by decide))).symm
    have m158 := (eta).trans (fI_kept (x_lt hT kH151 ga (by decide))).symm
    have m159 := (etb).trans (fI_kept (x_lt hT kH151 gb (by decide))).symm
    have m160 := (es1).trans (fI_kept (x_lt hT kH151 gw (by decide))).symm
    have m161 := (ey1).trans (fI_kept (x_lt hT kH151 gb (by decide))).symm
    have m162 := (es4).trans (fI_kept (x_lt hT kH151 gw (by decide))).symm
    have m163 := (ey4).trans (fI_kept (x_lt hT kH151 gb (by decide))).symm
    have m164 := (es5).trans (fI_kept (x_lt hT kH151 gw (by decide))).symm
    have m165 := (ey5).trans (fI_kept (x_lt hT kH151 gb (by decide))).symm
    have m166 := (es10).trans (fI_kept (x_lt hT kH151 gw (by decide))).symm
    have m167 := (ey10).trans (fI_kept (x_lt hT kH151 gb (by decide))).symm
    have m168 := (es13).trans (fI_kept (x_lt hT kH151 gw (by decide))).symm
    have m169 := (ey13).trans (fI_kept (x_lt hT kH151 gb (by decide))).symm
    have m170 := (es16).trans (fI_kept (x_lt hT kH151 gw (by decide))).symm
    have m171 := (ey16).trans (fI_kept (x_lt hT kH151 gb (by decide))).symm
    have m172 := (ehi).trans (fI_kept (x_lt hT kH151 gb (by decide))).symm
    have m173 := (fV_kept (x_lt hT kH151 ga (by decide))).trans kn
    have m174 := (eiq).trans (fR_kept (x_lt hT kH151 gb (by decide))).symm
    have m175 := (ek1).trans (fI_kept (x_lt hT kH151 gkq (by decide))).symm
    have m176 := (ei1).trans (fI_kept (x_lt hT kH151 giq (by decide))).symm
    have m177 := (ek4).trans (fI_kept (x_lt hT kH151 gkq (by decide))).symm
    have m178 := (ei4).trans (fI_kept (x_lt hT kH151 giq (by decide))).symm
    have m179 := (ek5).trans (fI_kept (x_lt hT kH151 gkq (by decide))).symm
    have m180 := (ei5).trans (fI_kept (x_lt hT kH151 giq (by decide))).symm
    have m181 := (ek10).trans (fI_kept (x_lt hT kH151 gkq (by decide))).symm
    have m182 := (ei10).trans (fI_kept (x_lt hT kH151 giq (by decide))).symm
    have m183 := (ek13).trans (fI_kept (x_lt hT kH151 gkq (by decide))).symm
    have m184 := (ei13).trans (fI_kept (x_lt hT kH151 giq (by decide))).symm
    have m185 := (ek16).trans (fI_kept (x_lt hT kH151 gkq (by decide))).symm
    have m186 := (ei16).trans (fI_kept (x_lt hT kH151 giq (by decide))).symm
    refine W.eq (g2 := F0 m 488 ls [.int x152]) rfl ?_
    refine lv_pop hx hb dL_law_488 rfl ?_
    refine lv_aload_n hx hb dL_law_489 rfl (lv_at hl 1 rfl) ?_
    refine lv_aload_n hx hb dL_law_490 rfl (lv_at hl 3 rfl) ?_
    refine lv_iload_n hx hb dL_law_491 rfl (lv_at hl 0 rfl) ?_
    refine lv_iconst (v := 1) hx hb dL_law_492 (by decide) ?_
    refine lv_iadd hx hb dL_law_493 ?_
    refine lv_topi (fun x187 ex187 => ?_)
    obtain ⟨tx187, ejx187, evx187⟩ := lw_ix (k := 1) ex187 hI hL rfl (by decide)
    clear tx187
    refine va_sld hx hb hX hbl (Nat.not_le.mpr hbl) hSH151 (vp_in_iff.mpr evx187) dL_law_494 ?_
    refine W.eq (g2 := F0 m 495 ls [.int (xs (i.toNatClampNeg + 1)), .ref b]) (congrArg (fun z => F0 m 495 ls [.int (xs z), .ref b]) ejx187) ?_
    refine x_V (As := [.int (xs (i.toNatClampNeg + 1))]) (rest := []) C (a_X10_fault l K G H151 ((xs (i.toNatClampNeg + 1))) hTH151 gb g153 g154 g155 g156) yo_X10_fault wM_L_51 ⟨⟨by decide, by decide⟩, show _ ≤ 284929 from Nat.le_trans hc (by decide), show _ ≤ 8247460 from Nat.le_trans hs (by decide)⟩ (x_rv C hTH151 (ci := 10) rfl gb rg_112) rfl hl.1 rfl (Nat.le_of_ble_eq_true rfl) dL_law_495 hSH151 (AE_new hN hSH151.1) (fun vH188 H188 locsH188 pH188 zH188 kH188 hSH188 => ?_)
    obtain ⟨x189, hvH188, g190, g191, g192, g193, mf194, hTH188⟩ := pH188
    subst hvH188
    have m195 := (m157).trans (fR_kept (x_lt hTH151 kH188 ga (by decide))).symm
    have m196 := (m158).trans (fI_kept (x_lt hTH151 kH188 ga (by decide))).symm
    have m197 := (m160).trans (fI_kept (x_lt hTH151 kH188 gw (by decide))).symm
    have m198 := (m162).trans (fI_kept (x_lt hTH151 kH188 gw (by decide))).symm
    have m199 := (m164).trans (fI_kept (x_lt hTH151 kH188 gw (by decide))).symm
    have m200 := (m166).trans (fI_kept (x_lt hTH151 kH188 gw (by decide))).symm
    have m201 := (m168).trans (fI_kept (x_lt hTH151 kH188 gw (by decide))).symm
    have m202 := (m170).trans (fI_kept (x_lt hTH151 kH188 gw (by decide))).symm
    have m203 := (fV_kept (x_lt hTH151 kH188 ga (by decide))).trans m173
    have m204 := (m175).trans (fI_kept (x_lt hTH151 kH188 gkq (by decide))).symm
    have m205 := (m176).trans (fI_kept (x_lt hTH151 kH188 giq (by decide))).symm
    have m206 := (m177).trans (fI_kept (x_lt hTH151 kH188 gkq (by decide))).symm
    have m207 := (m178).trans (fI_kept (x_lt hTH151 kH188 giq (by decide))).symm
    have m208 := (m179).trans (fI_kept (x_lt hTH151 kH188 gkq (by decide))).symm
    have m209 := (m180).trans (fI_kept (x_lt hTH151 kH188 giq (by decide))).symm
    have m210 := (m181).trans (fI_kept (x_lt hTH151 kH188 gkq (by decide))).symm
    have m211 := (m182).trans (fI_kept (x_lt hTH151 kH188 giq (by decide))).symm
    have m212 := (m183).trans (fI_kept (x_lt hTH151 kH188 gkq (by decide))).symm
    have m213 := (m184).trans (fI_kept (x_lt hTH151 kH188 giq (by decide))).symm
    have m214 := (m185).trans (fI_kept (x_lt hTH151 kH188 gkq (by decide))).symm
    have m215 := (m186).trans (fI_kept (x_lt hTH151 kH188 giq (by decide))).symm
    have m216 := (m159).trans (MF.i mf194 (k := 18) (by decide) (by decide)).symm
    have m217 := (m161).trans (MF.i mf194 (k := 1) (by decide) (by decide)).symm
    have m218 := (m163).trans (MF.i mf194 (k := 2) (by decide) (by decide)).symm
    have m219 := (m165).trans (MF.i mf194 (k := 3) (by decide) (by decide)).symm
    have m220 := (m167).trans (MF.i mf194 (k := 59) (by decide) (by decide)).symm
    have m221 := (m169).trans (MF.i mf194 (k := 62) (by decide) (by decide)).symm
    have m222 := (m171).trans (MF.i mf194 (k := 65) (by decide) (by decide)).symm
    have m223 := (m172).trans (MF.i mf194 (k := 70) (by decide) (by decide)).symm
    have m224 := (m174).trans (MF.r mf194 (k := 73) (by decide) (by decide)).symm
    refine W.eq (g2 := F0 m 498 ls [.int x189]) rfl ?_
    refine lv_pop hx hb dL_law_498 rfl ?_
    refine lv_goto (tgt := 1509) hx hb dL_law_499 (by decide) ?_
    exact nx G H188 locsH188 _ _ ls ⟨hTH188, hN, ga, gb, g190, g191, g192, g193, ⟨(by rw [← m196, ← m216]; exact rt), (by rw [← m195, ← m197, ← m217]; exact r1), (by rw [← m195, ← m198, ← m218]; exact r4), (by rw [← m195, ← m199, ← m219]; exact r5), (by rw [← m195, ← m200, ← m220]; exact r10), (by rw [← m195, ← m201, ← m221]; exact r13), (by rw [← m195, ← m202, ← m222]; exact r16)⟩, Or.inr ⟨kq, m203, gkq, (by rw [← m223]; exact h70), (by rw [← m204, ← m224, ← m205]; exact q1), (by rw [← m206, ← m224, ← m207]; exact q4), (by rw [← m208, ← m224, ← m209]; exact q5), (by rw [← m210, ← m224, ← m211]; exact q10), (by rw [← m212, ← m224, ← m213]; exact q13), (by rw [← m214, ← m224, ← m215]; exact q16)⟩, hSH188⟩ hl ⟨hc, hs, fun h => by have h1 := h.symm.trans m203; cases h1⟩