set_option maxRecDepth 100000 in
set_option maxHeartbeats 8000000 in
theorem lw_c4 {p : Program} {l : Launch} {e : Env} {s : State} {m : MethodId} {below : List Frame} {meth : Method} {c : Code} {K : KE} {b0 L : Nat} {xs : Nat → Int32} {G : Nat → Option Nat} {H : Heap} {locs : List Loc} {a b : Nat} {cells slots : Nat} {ls : Array Slot} {i : Int32} {n : Nat} (D : LC p K s m meth c b0 L xs) (S : SX K s G H locs a b) (hl : lv_has ls 4 [(3, .int i), (2, .ref b), (1, .ref a), (0, .ref b0)]) (hi : 0 ≤ i.toInt ∧ i.toInt + 6 ≤ L) (hn : n ≤ 511) (hB : BD K H a cells slots) (nx : ∀ (G : Nat → Option Nat) (H : Heap) (locs : List Loc) (cells slots : Nat) (ls : Array Slot), SX K s G H locs a b → lv_has ls 4 [(3, .int i), (2, .ref b), (1, .ref a), (0, .ref b0)] → BD K H a cells slots → W p l e room_1 s m #[Value.ref b0] below meth c H locs cells slots (lw_Z below #[Value.ref b0] s) (F0 m 1509 ls [])) : W p l e room_1 s m #[Value.ref b0] below meth c H locs cells slots (lw_Z below #[Value.ref b0] s) (F0 m 360 ls []) := by
  have hI := hi
  obtain ⟨C, hX, hbl, hL⟩ := id D
  obtain ⟨hx, hb, hml, hown, hts, hKT, hr, hlocks, hnm⟩ := id C
  obtain ⟨hT, hN, ga, gb, cg, tu, wd, im, ⟨rt, r1, r4, r5, r10, r13, r16⟩, hk, htb, her, hS⟩ := S
  obtain ⟨hc, hs, hB0⟩ := hB
  have n_1 : (1 : Int32).toInt = 1 := rfl
  have n_2 : (2 : Int32).toInt = 2 := rfl
  have n_3 : (3 : Int32).toInt = 3 := rfl
  have n_4 : (4 : Int32).toInt = 4 := rfl
  have n_5 : (5 : Int32).toInt = 5 := rfl
  obtain ⟨w, ew⟩ : ∃ z : Nat, z = fR H a (K.1.2 9 0) := ⟨_, rfl⟩
  have gw := ty_fr (q := w) (k := 0) (u := 0) ew hT ga rg_68 rfl
  rw [← ew] at r1 r4 r5 r10 r13 r16
  obtain ⟨ta, eta⟩ : ∃ z : Int32, z = fI H a (K.1.2 9 3) := ⟨_, rfl⟩
  rw [← eta] at rt
  obtain ⟨tb, etb⟩ : ∃ z : Int32, z = fI H b (K.1.2 10 18) := ⟨_, rfl⟩
  rw [← etb] at rt
  obtain ⟨s1, es1⟩ : ∃ z : Int32, z = fI H w (K.1.2 8 1) := ⟨_, rfl⟩
  rw [← es1] at r1
  obtain ⟨y1, ey1⟩ : ∃ z : Int32, z = fI H b (K.1.2 10 1) := ⟨_, rfl⟩
  rw [← ey1] at r1
  obtain ⟨s4, es4⟩ : ∃ z : Int32, z = fI H w (K.1.2 8 4) := ⟨_, rfl⟩
  rw [← es4] at r4
  obtain ⟨y4, ey4⟩ : ∃ z : Int32, z = fI H b (K.1.2 10 2) := ⟨_, rfl⟩
  rw [← ey4] at r4
  obtain ⟨s5, es5⟩ : ∃ z : Int32, z = fI H w (K.1.2 8 5) := ⟨_, rfl⟩
  rw [← es5] at r5
  obtain ⟨y5, ey5⟩ : ∃ z : Int32, z = fI H b (K.1.2 10 3) := ⟨_, rfl⟩
  rw [← ey5] at r5
  obtain ⟨s10, es10⟩ : ∃ z : Int32, z = fI H w (K.1.2 8 10) := ⟨_, rfl⟩
  rw [← es10] at r10
  obtain ⟨y10, ey10⟩ : ∃ z : Int32, z = fI H b (K.1.2 10 59) := ⟨_, rfl⟩
  rw [← ey10] at r10
  obtain ⟨s13, es13⟩ : ∃ z : Int32, z = fI H w (K.1.2 8 13) := ⟨_, rfl⟩
  rw [← es13] at r13
  obtain ⟨y13, ey13⟩ : ∃ z : Int32, z = fI H b (K.1.2 10 62) := ⟨_, rfl⟩
  rw [← ey13] at r13
  obtain ⟨s16, es16⟩ : ∃ z : Int32, z = fI H w (K.1.2 8 16) := ⟨_, rfl⟩
  rw [← es16] at r16
  obtain ⟨y16, ey16⟩ : ∃ z : Int32, z = fI H b (K.1.2 10 65) := ⟨_, rfl⟩
  rw [← ey16] at r16
  obtain ⟨tq, etq⟩ : ∃ z : Nat, z = fR H a (K.1.2 9 2) := ⟨_, rfl⟩
  have gtq := ty_fr (q := tq) (k := 2) (u := 108) etq hT ga rg_68 rfl
  obtain ⟨uq, euq⟩ : ∃ z : Nat, z = fR H b (K.1.2 10 17) := ⟨_, rfl⟩
  have guq := ty_fr (q := uq) (k := 17) (u := 126) euq hT gb rg_112 rfl
  have htr : TBR (fun j => fI H tq j) (fun j => fI H uq j) tb.toNatClampNeg := by rw [etq, euq, etb]; exact htb
  have ft0 : ∀ j : Nat, fI H tq j = fI H tq j := fun _ => rfl
  have fu0 : ∀ j : Nat, fI H uq j = fI H uq j := fun _ => rfl
  have bta := ty_fi (x := ta) (k := 3) eta hT ga rg_68 rfl
  have cta := i_cl (x := ta) (by omega)
  have btb := ty_fi (x := tb) (k := 18) etb hT gb rg_112 rfl
  have ctb := i_cl (x := tb) (by omega)
  obtain ⟨her0, hsl1, hsl2⟩ := her
  have hsl0 := And.intro hsl1 hsl2
  clear hsl1 hsl2
  rw [← ew] at her0 hsl0
  have re : RE K H w b s1.toInt := RE.cast her0 (by rw [← ey1]; exact r1)
  have hsl : 0 ≤ s5.toInt ∧ s5.toInt ≤ 9999 := by rw [es5]; exact hsl0
  clear her0 hsl0
  have bt_s1 := ty_fi (x := s1) (k := 1) es1 hT gw rg_0 rfl
  have bt_s4 := ty_fi (x := s4) (k := 4) es4 hT gw rg_0 rfl
  have bt_y1 := ty_fi (x := y1) (k := 1) ey1 hT gb rg_112 rfl
  have bt_y4 := ty_fi (x := y4) (k := 2) ey4 hT gb rg_112 rfl
  rcases hk with ⟨kn, h70⟩ | ⟨kq, kn, gkq, h70, q1, q4, q5, q10, q13, q16, rke, ks1, ks2⟩
  · skip
    obtain ⟨hi, ehi⟩ : ∃ z : Int32, z = fI H b (K.1.2 10 70) := ⟨_, rfl⟩
    rw [← ehi] at h70
    obtain ⟨hc0, hs0⟩ := hB0 kn
    obtain ⟨iq, eiq⟩ : ∃ z : Nat, z = fR H b (K.1.2 10 73) := ⟨_, rfl⟩
    have giq := ty_fr (q := iq) (k := 73) (u := 162) eiq hT gb rg_112 rfl
    refine lv_aload_n hx hb dL_law_360 rfl (lv_at hl 2 rfl) ?_
    refine lv_aload_n hx hb dL_law_361 rfl (lv_at hl 3 rfl) ?_
    refine lv_iload_n hx hb dL_law_362 rfl (lv_at hl 0 rfl) ?_
    refine lv_iconst (v := 1) hx hb dL_law_363 (by decide) ?_
    refine lv_iadd hx hb dL_law_364 ?_
    refine lv_topi (fun x101 ex101 => ?_)
    obtain ⟨tx101, ejx101, evx101⟩ := lw_ix (k := 1) ex101 hI hL rfl (by decide)
    clear tx101
    refine va_sld hx hb hX hbl (Nat.not_le.mpr hbl) hS (vp_in_iff.mpr evx101) dL_law_365 ?_
    refine W.eq (g2 := F0 m 366 ls [.int (xs (i.toNatClampNeg + 1)), .ref a]) (congrArg (fun z => F0 m 366 ls [.int (xs z), .ref a]) ejx101) ?_
    refine lv_aload_n hx hb dL_law_366 rfl (lv_at hl 3 rfl) ?_
    refine lv_iload_n hx hb dL_law_367 rfl (lv_at hl 0 rfl) ?_
    refine lv_iconst (v := 2) hx hb dL_law_368 (by decide) ?_
    refine lv_iadd hx hb dL_law_369 ?_
    refine lv_topi (fun x102 ex102 => ?_)
    obtain ⟨tx102, ejx102, evx102⟩ := lw_ix (k := 2) ex102 hI hL rfl (by decide)
    clear tx102
    refine va_sld hx hb hX hbl (Nat.not_le.mpr hbl) hS (vp_in_iff.mpr evx102) dL_law_370 ?_
    refine W.eq (g2 := F0 m 371 ls [.int (xs (i.toNatClampNeg + 2)), .int (xs (i.toNatClampNeg + 1)), .ref a]) (congrArg (fun z => F0 m 371 ls [.int (xs z), .int (xs (i.toNatClampNeg + 1)), .ref a]) ejx102) ?_
    refine lv_aload_n hx hb dL_law_371 rfl (lv_at hl 3 rfl) ?_
    refine lv_iload_n hx hb dL_law_372 rfl (lv_at hl 0 rfl) ?_
    refine lv_iconst (v := 3) hx hb dL_law_373 (by decide) ?_
    refine lv_iadd hx hb dL_law_374 ?_
    refine lv_topi (fun x103 ex103 => ?_)
    obtain ⟨tx103, ejx103, evx103⟩ := lw_ix (k := 3) ex103 hI hL rfl (by decide)
    clear tx103
    refine va_sld hx hb hX hbl (Nat.not_le.mpr hbl) hS (vp_in_iff.mpr evx103) dL_law_375 ?_
    refine W.eq (g2 := F0 m 376 ls [.int (xs (i.toNatClampNeg + 3)), .int (xs (i.toNatClampNeg + 2)), .int (xs (i.toNatClampNeg + 1)), .ref a]) (congrArg (fun z => F0 m 376 ls [.int (xs z), .int (xs (i.toNatClampNeg + 2)), .int (xs (i.toNatClampNeg + 1)), .ref a]) ejx103) ?_
    refine lv_aload_n hx hb dL_law_376 rfl (lv_at hl 3 rfl) ?_
    refine lv_iload_n hx hb dL_law_377 rfl (lv_at hl 0 rfl) ?_
    refine lv_iconst (v := 4) hx hb dL_law_378 (by decide) ?_
    refine lv_iadd hx hb dL_law_379 ?_
    refine lv_topi (fun x104 ex104 => ?_)
    obtain ⟨tx104, ejx104, evx104⟩ := lw_ix (k := 4) ex104 hI hL rfl (by decide)
    clear tx104
    refine va_sld hx hb hX hbl (Nat.not_le.mpr hbl) hS (vp_in_iff.mpr evx104) dL_law_380 ?_
    refine W.eq (g2 := F0 m 381 ls [.int (xs (i.toNatClampNeg + 4)), .int (xs (i.toNatClampNeg + 3)), .int (xs (i.toNatClampNeg + 2)), .int (xs (i.toNatClampNeg + 1)), .ref a]) (congrArg (fun z => F0 m 381 ls [.int (xs z), .int (xs (i.toNatClampNeg + 3)), .int (xs (i.toNatClampNeg + 2)), .int (xs (i.toNatClampNeg + 1)), .ref a]) ejx104) ?_
    refine lv_aload_n hx hb dL_law_381 rfl (lv_at hl 3 rfl) ?_
    refine lv_iload_n hx hb dL_law_382 rfl (lv_at hl 0 rfl) ?_
    refine lv_iconst (v := 5) hx hb dL_law_383 (by decide) ?_
    refine lv_iadd hx hb dL_law_384 ?_
    refine lv_topi (fun x105 ex105 => ?_)
    obtain ⟨tx105, ejx105, evx105⟩ := lw_ix (k := 5) ex105 hI hL rfl (by decide)
    clear tx105
    refine va_sld hx hb hX hbl (Nat.not_le.mpr hbl) hS (vp_in_iff.mpr evx105) dL_law_385 ?_
    refine W.eq (g2 := F0 m 386 ls [.int (xs (i.toNatClampNeg + 5)), .int (xs (i.toNatClampNeg + 4)), .int (xs (i.toNatClampNeg + 3)), .int (xs (i.toNatClampNeg + 2)), .int (xs (i.toNatClampNeg + 1)), .ref a]) (congrArg (fun z => F0 m 386 ls [.int (xs z), .int (xs (i.toNatClampNeg + 4)), .int (xs (i.toNatClampNeg + 3)), .int (xs (i.toNatClampNeg + 2)), .int (xs (i.toNatClampNeg + 1)), .ref a]) ejx105) ?_
    refine x_V (As := [.int (xs (i.toNatClampNeg + 1)), .int (xs (i.toNatClampNeg + 2)), .int (xs (i.toNatClampNeg + 3)), .int (xs (i.toNatClampNeg + 4)), .int (xs (i.toNatClampNeg + 5))]) (rest := []) C (a_X9_feed_b l K G H ((xs (i.toNatClampNeg + 1))) ((xs (i.toNatClampNeg + 2))) ((xs (i.toNatClampNeg + 3))) ((xs (i.toNatClampNeg + 4))) ((xs (i.toNatClampNeg + 5))) (ta) hT ga gw ew gtq etq eta kn) yo_X9_feed wM_L_33 ⟨⟨by decide, by decide⟩, show _ ≤ 60000 from Nat.le_trans hc (by decide), show _ ≤ 8922250 from Nat.le_trans hs (by decide)⟩ (x_rv C hT (ci := 9) rfl ga rg_68) rfl hl.1 rfl (Nat.le_of_ble_eq_true rfl) dL_law_386 hS (AE_new hN hS.1) (fun vH106 H106 locsH106 pH106 zH106 kH106 hSH106 => ?_)
    obtain ⟨x107, x108, hvH106, ex108, hrH106, m109, m110, m111, m112, hTH106⟩ := pH106
    subst hvH106
    have g113 : CG (avw K H106 b) := CG.congr (fun k hk j => av_eff hT kH106 gb (by decide) (CG_eff [68, 108] (by decide) k hk)) cg
    have g114 : TU (avw K H106 b) (svw K H106 b) := TU.congr (fun k hk j => av_eff hT kH106 gb (by decide) (TU_eff [68, 108] (by decide) k hk)) (fun k hk => sv_eff hT kH106 gb (by decide)) tu
    have g115 : WD (avw K H106 b) := WD.congr (fun k hk j => av_eff hT kH106 gb (by decide) (WD_eff [68, 108] (by decide) k hk)) wd
    have g116 : IM (avw K H106 b) := IM.congr (fun k hk j => av_eff hT kH106 gb (by decide) (IM_eff [68, 108] (by decide) k hk)) im
    have f117 : ∀ j : Nat, fI H106 uq j = fI H uq j := fun j => (fI_kept (x_lt hT kH106 guq (by decide))).trans (fu0 j)
    have m118 := (etb).trans (fI_kept (x_lt hT kH106 gb (by decide))).symm
    have m119 := (es1).trans (fI_kept (x_lt hT kH106 gw (by decide))).symm
    have m120 := (ey1).trans (fI_kept (x_lt hT kH106 gb (by decide))).symm
    have m121 := (es4).trans (fI_kept (x_lt hT kH106 gw (by decide))).symm
    have m122 := (ey4).trans (fI_kept (x_lt hT kH106 gb (by decide))).symm
    have m123 := (es5).trans (fI_kept (x_lt hT kH106 gw (by decide))).symm
    have m124 := (ey5).trans (fI_kept (x_lt hT kH106 gb (by decide))).symm
    have m125 := (es10).trans (fI_kept (x_lt hT kH106 gw (by decide))).symm
    have m126 := (ey10).trans (fI_kept (x_lt hT kH106 gb (by decide))).symm
    have m127 := (es13).trans (fI_kept (x_lt hT kH106 gw (by decide))).symm
    have m128 := (ey13).trans (fI_kept (x_lt hT kH106 gb (by decide))).symm
    have m129 := (es16).trans (fI_kept (x_lt hT kH106 gw (by decide))).symm
    have m130 := (ey16).trans (fI_kept (x_lt hT kH106 gb (by decide))).symm
    have m131 := (euq).trans (fR_kept (x_lt hT kH106 gb (by decide))).symm
    have m132 := (ehi).trans (fI_kept (x_lt hT kH106 gb (by decide))).symm
    have m133 := (eiq).trans (fR_kept (x_lt hT kH106 gb (by decide))).symm
    have bx108 := ty_fi (x := x108) (k := 3) ex108 hTH106 ga rg_68 rfl
    refine W.eq (g2 := F0 m 389 ls [.int x107]) rfl ?_
    have f134 : ∀ j : Nat, fI H106 tq j = fdX ((xs (i.toNatClampNeg + 1))) ((xs (i.toNatClampNeg + 2))) ((xs (i.toNatClampNeg + 3))) ((xs (i.toNatClampNeg + 4))) ((xs (i.toNatClampNeg + 5))) ta (fun j => fI H tq j) j := fun j => (m111 j).trans (fdX_c ft0 j)
    have re135 : RE K H106 w b s1.toInt := RE.cls re hT gw gb (fun q t hq ht => x_lt hT kH106 hq (by first | exact nmr ht (by decide) | exact nmo ht (by decide) | exact nme ht (by decide) | exact nmq ht (by decide) | decide | (intro z; simp only [List.mem_cons, List.not_mem_nil, or_false] at z <;> omega) | omega))
    refine lv_pop hx hb dL_law_389 rfl ?_
    refine lv_aload_n hx hb dL_law_390 rfl (lv_at hl 1 rfl) ?_
    refine lv_aload_n hx hb dL_law_391 rfl (lv_at hl 3 rfl) ?_
    refine lv_iload_n hx hb dL_law_392 rfl (lv_at hl 0 rfl) ?_
    refine lv_iconst (v := 1) hx hb dL_law_393 (by decide) ?_
    refine lv_iadd hx hb dL_law_394 ?_
    refine lv_topi (fun x136 ex136 => ?_)
    obtain ⟨tx136, ejx136, evx136⟩ := lw_ix (k := 1) ex136 hI hL rfl (by decide)
    clear tx136
    refine va_sld hx hb hX hbl (Nat.not_le.mpr hbl) hSH106 (vp_in_iff.mpr evx136) dL_law_395 ?_
    refine W.eq (g2 := F0 m 396 ls [.int (xs (i.toNatClampNeg + 1)), .ref b]) (congrArg (fun z => F0 m 396 ls [.int (xs z), .ref b]) ejx136) ?_
    refine lv_aload_n hx hb dL_law_396 rfl (lv_at hl 3 rfl) ?_
    refine lv_iload_n hx hb dL_law_397 rfl (lv_at hl 0 rfl) ?_
    refine lv_iconst (v := 2) hx hb dL_law_398 (by decide) ?_
    refine lv_iadd hx hb dL_law_399 ?_
    refine lv_topi (fun x137 ex137 => ?_)
    obtain ⟨tx137, ejx137, evx137⟩ := lw_ix (k := 2) ex137 hI hL rfl (by decide)
    clear tx137
    refine va_sld hx hb hX hbl (Nat.not_le.mpr hbl) hSH106 (vp_in_iff.mpr evx137) dL_law_400 ?_
    refine W.eq (g2 := F0 m 401 ls [.int (xs (i.toNatClampNeg + 2)), .int (xs (i.toNatClampNeg + 1)), .ref b]) (congrArg (fun z => F0 m 401 ls [.int (xs z), .int (xs (i.toNatClampNeg + 1)), .ref b]) ejx137) ?_
    refine lv_aload_n hx hb dL_law_401 rfl (lv_at hl 3 rfl) ?_
    refine lv_iload_n hx hb dL_law_402 rfl (lv_at hl 0 rfl) ?_
    refine lv_iconst (v := 3) hx hb dL_law_403 (by decide) ?_
    refine lv_iadd hx hb dL_law_404 ?_
    refine lv_topi (fun x138 ex138 => ?_)
    obtain ⟨tx138, ejx138, evx138⟩ := lw_ix (k := 3) ex138 hI hL rfl (by decide)
    clear tx138
    refine va_sld hx hb hX hbl (Nat.not_le.mpr hbl) hSH106 (vp_in_iff.mpr evx138) dL_law_405 ?_
    refine W.eq (g2 := F0 m 406 ls [.int (xs (i.toNatClampNeg + 3)), .int (xs (i.toNatClampNeg + 2)), .int (xs (i.toNatClampNeg + 1)), .ref b]) (congrArg (fun z => F0 m 406 ls [.int (xs z), .int (xs (i.toNatClampNeg + 2)), .int (xs (i.toNatClampNeg + 1)), .ref b]) ejx138) ?_
    refine lv_aload_n hx hb dL_law_406 rfl (lv_at hl 3 rfl) ?_
    refine lv_iload_n hx hb dL_law_407 rfl (lv_at hl 0 rfl) ?_
    refine lv_iconst (v := 4) hx hb dL_law_408 (by decide) ?_
    refine lv_iadd hx hb dL_law_409 ?_
    refine lv_topi (fun x139 ex139 => ?_)
    obtain ⟨tx139, ejx139, evx139⟩ := lw_ix (k := 4) ex139 hI hL rfl (by decide)
    clear tx139
    refine va_sld hx hb hX hbl (Nat.not_le.mpr hbl) hSH106 (vp_in_iff.mpr evx139) dL_law_410 ?_
    refine W.eq (g2 := F0 m 411 ls [.int (xs (i.toNatClampNeg + 4)), .int (xs (i.toNatClampNeg + 3)), .int (xs (i.toNatClampNeg + 2)), .int (xs (i.toNatClampNeg + 1)), .ref b]) (congrArg (fun z => F0 m 411 ls [.int (xs z), .int (xs (i.toNatClampNeg + 3)), .int (xs (i.toNatClampNeg + 2)), .int (xs (i.toNatClampNeg + 1)), .ref b]) ejx139) ?_
    refine lv_aload_n hx hb dL_law_411 rfl (lv_at hl 3 rfl) ?_
    refine lv_iload_n hx hb dL_law_412 rfl (lv_at hl 0 rfl) ?_
    refine lv_iconst (v := 5) hx hb dL_law_413 (by decide) ?_
    refine lv_iadd hx hb dL_law_414 ?_
    refine lv_topi (fun x140 ex140 => ?_)
    obtain ⟨tx140, ejx140, evx140⟩ := lw_ix (k := 5) ex140 hI hL rfl (by decide)
    clear tx140
    refine va_sld hx hb hX hbl (Nat.not_le.mpr hbl) hSH106 (vp_in_iff.mpr evx140) dL_law_415 ?_
    refine W.eq (g2 := F0 m 416 ls [.int (xs (i.toNatClampNeg + 5)), .int (xs (i.toNatClampNeg + 4)), .int (xs (i.toNatClampNeg + 3)), .int (xs (i.toNatClampNeg + 2)), .int (xs (i.toNatClampNeg + 1)), .ref b]) (congrArg (fun z => F0 m 416 ls [.int (xs z), .int (xs (i.toNatClampNeg + 4)), .int (xs (i.toNatClampNeg + 3)), .int (xs (i.toNatClampNeg + 2)), .int (xs (i.toNatClampNeg + 1)), .ref b]) ejx140) ?_
    refine x_V (As := [.int (xs (i.toNatClampNeg + 1)), .int (xs (i.toNatClampNeg + 2)), .int (xs (i.toNatClampNeg + 3)), .int (xs (i.toNatClampNeg + 4)), .int (xs (i.toNatClampNeg + 5))]) (rest := []) C (a_X10_feed_b l K G H106 ((xs (i.toNatClampNeg + 1))) ((xs (i.toNatClampNeg + 2))) ((xs (i.toNatClampNeg + 3))) ((xs (i.toNatClampNeg + 4))) ((xs (i.toNatClampNeg + 5))) (tb) hTH106 gb guq m131 m118 g113 g114 g115 g116) yo_X10_feed wM_L_37 ⟨⟨by decide, by decide⟩, show _ ≤ 60000 from Nat.le_trans hc (by decide), show _ ≤ 8922250 from Nat.le_trans hs (by decide)⟩ (x_rv C hTH106 (ci := 10) rfl gb rg_112) rfl hl.1 rfl (Nat.le_of_ble_eq_true rfl) dL_law_416 hSH106 (AE_new hN hSH106.1) (fun vH141 H141 locsH141 pH141 zH141 kH141 hSH141 => ?_)
    obtain ⟨x142, x143, hvH141, ex143, hrH141, m144, g145, g146, g147, g148, mf149, m150, hTH141⟩ := pH141
    subst hvH141
    have f151 : ∀ j : Nat, fI H141 tq j = fdX ((xs (i.toNatClampNeg + 1))) ((xs (i.toNatClampNeg + 2))) ((xs (i.toNatClampNeg + 3))) ((xs (i.toNatClampNeg + 4))) ((xs (i.toNatClampNeg + 5))) ta (fun j => fI H tq j) j := fun j => (fI_kept (x_lt hTH106 kH141 gtq (by decide))).trans (f134 j)
    have m152 := (m119).trans (fI_kept (x_lt hTH106 kH141 gw (by decide))).symm
    have m153 := (m121).trans (fI_kept (x_lt hTH106 kH141 gw (by decide))).symm
    have m154 := (m123).trans (fI_kept (x_lt hTH106 kH141 gw (by decide))).symm
    have m155 := (m125).trans (fI_kept (x_lt hTH106 kH141 gw (by decide))).symm
    have m156 := (m127).trans (fI_kept (x_lt hTH106 kH141 gw (by decide))).symm
    have m157 := (m129).trans (fI_kept (x_lt hTH106 kH141 gw (by decide))).symm
    have m158 := (m109).trans (fR_kept (x_lt hTH106 kH141 ga (by decide))).symm
    have m159 := (m110).trans (fR_kept (x_lt hTH106 kH141 ga (by decide))).symm
    have m160 := (fV_kept (x_lt hTH106 kH141 ga (by decide))).trans m112
    have m161 := (ex108).trans (fI_kept (x_lt hTH106 kH141 ga (by decide))).symm
    have m162 := (m120).trans (MF.i mf149 (k := 1) (by decide) (by decide)).symm
    have m163 := (m122).trans (MF.i mf149 (k := 2) (by decide) (by decide)).symm
    have m164 := (m124).trans (MF.i mf149 (k := 3) (by decide) (by decide)).symm
    have m165 := (m126).trans (MF.i mf149 (k := 59) (by decide) (by decide)).symm
    have m166 := (m128).trans (MF.i mf149 (k := 62) (by decide) (by decide)).symm
    have m167 := (m130).trans (MF.i mf149 (k := 65) (by decide) (by decide)).symm
    have m168 := (m131).trans (MF.r mf149 (k := 17) (by decide) (by decide)).symm
    have m169 := (m132).trans (MF.i mf149 (k := 70) (by decide) (by decide)).symm
    have m170 := (m133).trans (MF.r mf149 (k := 73) (by decide) (by decide)).symm
    have bx143 := ty_fi (x := x143) (k := 18) ex143 hTH141 gb rg_112 rfl
    refine W.eq (g2 := F0 m 419 ls [.int x142]) rfl ?_
    have f171 : ∀ j : Nat, fI H141 uq j = fdX ((xs (i.toNatClampNeg + 1))) ((xs (i.toNatClampNeg + 2))) ((xs (i.toNatClampNeg + 3))) ((xs (i.toNatClampNeg + 4))) ((xs (i.toNatClampNeg + 5))) tb (fun j => fI H uq j) j := fun j => (m150 j).trans (fdX_c f117 j)
    have re172 : RE K H141 w b s1.toInt := RE.ref re135 hTH106 gw gb (fun k hk => MF.r mf149 (by omega) (by intro z; simp only [List.mem_cons, List.not_mem_nil, or_false] at z; omega)) (fun q t hq ht => x_lt hTH106 kH141 hq (by first | exact nmr ht (by decide) | exact nmo ht (by decide) | exact nme ht (by decide) | exact nmq ht (by decide) | decide | (intro z; simp only [List.mem_cons, List.not_mem_nil, or_false] at z <;> omega) | omega))
    refine lv_pop hx hb dL_law_419 rfl ?_
    refine lv_goto (tgt := 1509) hx hb dL_law_420 (by decide) ?_
    have cfin := i_cl (x := x143) bx143.1
    have htf : TBR (fun j => fdX ((xs (i.toNatClampNeg + 1))) ((xs (i.toNatClampNeg + 2))) ((xs (i.toNatClampNeg + 3))) ((xs (i.toNatClampNeg + 4))) ((xs (i.toNatClampNeg + 5))) ta (fun j => fI H tq j) j) (fun j => fdX ((xs (i.toNatClampNeg + 1))) ((xs (i.toNatClampNeg + 2))) ((xs (i.toNatClampNeg + 3))) ((xs (i.toNatClampNeg + 4))) ((xs (i.toNatClampNeg + 5))) tb (fun j => fI H uq j) j) x143.toNatClampNeg := TBR.fx htr (by omega) (by omega)
    exact nx G H141 locsH141 _ _ ls ⟨hTH141, hN, ga, gb, g145, g146, g147, g148, ⟨(by rw [← m161, ← ex143]; omega), (by rw [← m158, ← m152, ← m162]; exact r1), (by rw [← m158, ← m153, ← m163]; exact r4), (by rw [← m158, ← m154, ← m164]; exact r5), (by rw [← m158, ← m155, ← m165]; exact r10), (by rw [← m158, ← m156, ← m166]; exact r13), (by rw [← m158, ← m157, ← m167]; exact r16)⟩, Or.inl ⟨m160, (by rw [← m169]; exact h70)⟩, (by unfold TB; rw [← m159, ← m144, ← ex143]; exact TBR.of htf f151 f171 (by omega)), (by unfold RELE; rw [← m158, ← m162, ← m154]; exact ⟨RE.cast re172 (by omega), by omega, by omega⟩), hSH141⟩ hl ⟨hc, hs, fun _ => ⟨hc0, hs0⟩⟩
  · skip
    obtain ⟨hi, ehi⟩ : ∃ z : Int32, z = fI H b (K.1.2 10 70) := ⟨_, rfl⟩
    rw [← ehi] at h70
    obtain ⟨iq, eiq⟩ : ∃ z : Nat, z = fR H b (K.1.2 10 73) := ⟨_, rfl⟩
    have giq := ty_fr (q := iq) (k := 73) (u := 162) eiq hT gb rg_112 rfl
    rw [← eiq] at q1 q4 q5 q10 q13 q16
    obtain ⟨k1, ek1⟩ : ∃ z : Int32, z = fI H kq (K.1.2 8 1) := ⟨_, rfl⟩
    rw [← ek1] at q1
    obtain ⟨i1, ei1⟩ : ∃ z : Int32, z = fI H iq ((0 : Int32).toNatClampNeg) := ⟨_, rfl⟩
    rw [← ei1] at q1
    obtain ⟨k4, ek4⟩ : ∃ z : Int32, z = fI H kq (K.1.2 8 4) := ⟨_, rfl⟩
    rw [← ek4] at q4
    obtain ⟨i4, ei4⟩ : ∃ z : Int32, z = fI H iq ((1 : Int32).toNatClampNeg) := ⟨_, rfl⟩
    rw [← ei4] at q4
    obtain ⟨k5, ek5⟩ : ∃ z : Int32, z = fI H kq (K.1.2 8 5) := ⟨_, rfl⟩
    rw [← ek5] at q5
    obtain ⟨i5, ei5⟩ : ∃ z : Int32, z = fI H iq ((2 : Int32).toNatClampNeg) := ⟨_, rfl⟩
    rw [← ei5] at q5
    obtain ⟨k10, ek10⟩ : ∃ z : Int32, z = fI H kq (K.1.2 8 10) := ⟨_, rfl⟩
    rw [← ek10] at q10
    obtain ⟨i10, ei10⟩ : ∃ z : Int32, z = fI H iq ((3 : Int32).toNatClampNeg) := ⟨_, rfl⟩
    rw [← ei10] at q10
    obtain ⟨k13, ek13⟩ : ∃ z : Int32, z = fI H kq (K.1.2 8 13) := ⟨_, rfl⟩
    rw [← ek13] at q13
    obtain ⟨i13, ei13⟩ : ∃ z : Int32, z = fI H iq ((4 : Int32).toNatClampNeg) := ⟨_, rfl⟩
    rw [← ei13] at q13
    obtain ⟨k16, ek16⟩ : ∃ z : Int32, z = fI H kq (K.1.2 8 16) := ⟨_, rfl⟩
    rw [← ek16] at q16
    obtain ⟨i16, ei16⟩ : ∃ z : Int32, z = fI H iq ((5 : Int32).toNatClampNeg) := ⟨_, rfl⟩
    rw [← ei16] at q16
    rw [← eiq, ← ek1] at rke
    have hsk : 0 ≤ k5.toInt ∧ k5.toInt ≤ 9999 := by rw [ek5]; exact ⟨ks1, ks2⟩
    refine lv_aload_n hx hb dL_law_360 rfl (lv_at hl 2 rfl) ?_
    refine lv_aload_n hx hb dL_law_361 rfl (lv_at hl 3 rfl) ?_
    refine lv_iload_n hx hb dL_law_362 rfl (lv_at hl 0 rfl) ?_
    refine lv_iconst (v := 1) hx hb dL_law_363 (by decide) ?_
    refine lv_iadd hx hb dL_law_364 ?_
    refine lv_topi (fun x173 ex173 => ?_)
    obtain ⟨tx173, ejx173, evx173⟩ := lw_ix (k := 1) ex173 hI hL rfl (by decide)
    clear tx173
    refine va_sld hx hb hX hbl (Nat.not_le.mpr hbl) hS (vp_in_iff.mpr evx173) dL_law_365 ?_
    refine W.eq (g2 := F0 m 366 ls [.int (xs (i.toNatClampNeg + 1)), .ref a]) (congrArg (fun z => F0 m 366 ls [.int (xs z), .ref a]) ejx173) ?_
    refine lv_aload_n hx hb dL_law_366 rfl (lv_at hl 3 rfl) ?_
    refine lv_iload_n hx hb dL_law_367 rfl (lv_at hl 0 rfl) ?_
    refine lv_iconst (v := 2) hx hb dL_law_368 (by decide) ?_
    refine lv_iadd hx hb dL_law_369 ?_
    refine lv_topi (fun x174 ex174 => ?_)
    obtain ⟨tx174, ejx174, evx174⟩ := lw_ix (k := 2) ex174 hI hL rfl (by decide)
    clear tx174
    refine va_sld hx hb hX hbl (Nat.not_le.mpr hbl) hS (vp_in_iff.mpr evx174) dL_law_370 ?_
    refine W.eq (g2 := F0 m 371 ls [.int (xs (i.toNatClampNeg + 2)), .int (xs (i.toNatClampNeg + 1)), .ref a]) (congrArg (fun z => F0 m 371 ls [.int (xs z), .int (xs (i.toNatClampNeg + 1)), .ref a]) ejx174) ?_
    refine lv_aload_n hx hb dL_law_371 rfl (lv_at hl 3 rfl) ?_
    refine lv_iload_n hx hb dL_law_372 rfl (lv_at hl 0 rfl) ?_
    refine lv_iconst (v := 3) hx hb dL_law_373 (by decide) ?_
    refine lv_iadd hx hb dL_law_374 ?_
    refine lv_topi (fun x175 ex175 => ?_)
    obtain ⟨tx175, ejx175, evx175⟩ := lw_ix (k := 3) ex175 hI hL rfl (by decide)
    clear tx175
    refine va_sld hx hb hX hbl (Nat.not_le.mpr hbl) hS (vp_in_iff.mpr evx175) dL_law_375 ?_
    refine W.eq (g2 := F0 m 376 ls [.int (xs (i.toNatClampNeg + 3)), .int (xs (i.toNatClampNeg + 2)), .int (xs (i.toNatClampNeg + 1)), .ref a]) (congrArg (fun z => F0 m 376 ls [.int (xs z), .int (xs (i.toNatClampNeg + 2)), .int (xs (i.toNatClampNeg + 1)), .ref a]) ejx175) ?_
    refine lv_aload_n hx hb dL_law_376 rfl (lv_at hl 3 rfl) ?_
    refine lv_iload_n hx hb dL_law_377 rfl (lv_at hl 0 rfl) ?_
    refine lv_iconst (v := 4) hx hb dL_law_378 (by decide) ?_
    refine lv_iadd hx hb dL_law_379 ?_
    refine lv_topi (fun x176 ex176 => ?_)
    obtain ⟨tx176, ejx176, evx176⟩ := lw_ix (k := 4) ex176 hI hL rfl (by decide)
    clear tx176
    refine va_sld hx hb hX hbl (Nat.not_le.mpr hbl) hS (vp_in_iff.mpr evx176) dL_law_380 ?_
    refine W.eq (g2 := F0 m 381 ls [.int (xs (i.toNatClampNeg + 4)), .int (xs (i.toNatClampNeg + 3)), .int (xs (i.toNatClampNeg + 2)), .int (xs (i.toNatClampNeg + 1)), .ref a]) (congrArg (fun z => F0 m 381 ls [.int (xs z), .int (xs (i.toNatClampNeg + 3)), .int (xs (i.toNatClampNeg + 2)), .int (xs (i.toNatClampNeg + 1)), .ref a]) ejx176) ?_
    refine lv_aload_n hx hb dL_law_381 rfl (lv_at hl 3 rfl) ?_
    refine lv_iload_n hx hb dL_law_382 rfl (lv_at hl 0 rfl) ?_
    refine lv_iconst (v := 5) hx hb dL_law_383 (by decide) ?_
    refine lv_iadd hx hb dL_law_384 ?_
    refine lv_topi (fun x177 ex177 => ?_)
    obtain ⟨tx177, ejx177, evx177⟩ := lw_ix (k := 5) ex177 hI hL rfl (by decide)
    clear tx177
    refine va_sld hx hb hX hbl (Nat.not_le.mpr hbl) hS (vp_in_iff.mpr evx177) dL_law_385 ?_
    refine W.eq (g2 := F0 m 386 ls [.int (xs (i.toNatClampNeg + 5)), .int (xs (i.toNatClampNeg + 4)), .int (xs (i.toNatClampNeg + 3)), .int (xs (i.toNatClampNeg + 2)), .int (xs (i.toNatClampNeg + 1)), .ref a]) (congrArg (fun z => F0 m 386 ls [.int (xs z), .int (xs (i.toNatClampNeg + 4)), .int (xs (i.toNatClampNeg + 3)), .int (xs (i.toNatClampNeg + 2)), .int (xs (i.toNatClampNeg + 1)), .ref a]) ejx177) ?_
    refine x_V (As := [.int (xs (i.toNatClampNeg + 1)), .int (xs (i.toNatClampNeg + 2)), .int (xs (i.toNatClampNeg + 3)), .int (xs (i.toNatClampNeg + 4)), .int (xs (i.toNatClampNeg + 5))]) (rest := []) C (a_X9_feed_b l K G H ((xs (i.toNatClampNeg + 1))) ((xs (i.toNatClampNeg + 2))) ((xs (i.toNatClampNeg + 3))) ((xs (i.toNatClampNeg + 4))) ((xs (i.toNatClampNeg + 5))) (ta) hT ga gw ew gtq etq eta kn) yo_X9_feed wM_L_33 ⟨⟨by decide, by decide⟩, show _ ≤ 60000 from Nat.le_trans hc (by decide), show _ ≤ 8922250 from Nat.le_trans hs (by decide)⟩ (x_rv C hT (ci := 9) rfl ga rg_68) rfl hl.1 rfl (Nat.le_of_ble_eq_true rfl) dL_law_386 hS (AE_new hN hS.1) (fun vH178 H178 locsH178 pH178 zH178 kH178 hSH178 => ?_)
    obtain ⟨x179, x180, hvH178, ex180, hrH178, m181, m182, m183, m184, hTH178⟩ := pH178
    subst hvH178
    have g185 : CG (avw K H178 b) := CG.congr (fun k hk j => av_eff hT kH178 gb (by decide) (CG_eff [68, 108] (by decide) k hk)) cg
    have g186 : TU (avw K H178 b) (svw K H178 b) := TU.congr (fun k hk j => av_eff hT kH178 gb (by decide) (TU_eff [68, 108] (by decide) k hk)) (fun k hk => sv_eff hT kH178 gb (by decide)) tu
    have g187 : WD (avw K H178 b) := WD.congr (fun k hk j => av_eff hT kH178 gb (by decide) (WD_eff [68, 108] (by decide) k hk)) wd
    have g188 : IM (avw K H178 b) := IM.congr (fun k hk j => av_eff hT kH178 gb (by decide) (IM_eff [68, 108] (by decide) k hk)) im
    have f189 : ∀ j : Nat, fI H178 uq j = fI H uq j := fun j => (fI_kept (x_lt hT kH178 guq (by decide))).trans (fu0 j)
    have m190 := (etb).trans (fI_kept (x_lt hT kH178 gb (by decide))).symm
    have m191 := (es1).trans (fI_kept (x_lt hT kH178 gw (by decide))).symm
    have m192 := (ey1).trans (fI_kept (x_lt hT kH178 gb (by decide))).symm
    have m193 := (es4).trans (fI_kept (x_lt hT kH178 gw (by decide))).symm
    have m194 := (ey4).trans (fI_kept (x_lt hT kH178 gb (by decide))).symm
    have m195 := (es5).trans (fI_kept (x_lt hT kH178 gw (by decide))).symm
    have m196 := (ey5).trans (fI_kept (x_lt hT kH178 gb (by decide))).symm
    have m197 := (es10).trans (fI_kept (x_lt hT kH178 gw (by decide))).symm
    have m198 := (ey10).trans (fI_kept (x_lt hT kH178 gb (by decide))).symm
    have m199 := (es13).trans (fI_kept (x_lt hT kH178 gw (by decide))).symm
    have m200 := (ey13).trans (fI_kept (x_lt hT kH178 gb (by decide))).symm
    have m201 := (es16).trans (fI_kept (x_lt hT kH178 gw (by decide))).symm
    have m202 := (ey16).trans (fI_kept (x_lt hT kH178 gb (by decide))).symm
    have m203 := (euq).trans (fR_kept (x_lt hT kH178 gb (by decide))).symm
    have m204 := (ehi).trans (fI_kept (x_lt hT kH178 gb (by decide))).symm
    have m205 := (eiq).trans (fR_kept (x_lt hT kH178 gb (by decide))).symm
    have m206 := (ek1).trans (fI_kept (x_lt hT kH178 gkq (by decide))).symm
    have m207 := (ei1).trans (fI_kept (x_lt hT kH178 giq (by decide))).symm
    have m208 := (ek4).trans (fI_kept (x_lt hT kH178 gkq (by decide))).symm
    have m209 := (ei4).trans (fI_kept (x_lt hT kH178 giq (by decide))).symm
    have m210 := (ek5).trans (fI_kept (x_lt hT kH178 gkq (by decide))).symm
    have m211 := (ei5).trans (fI_kept (x_lt hT kH178 giq (by decide))).symm
    have m212 := (ek10).trans (fI_kept (x_lt hT kH178 gkq (by decide))).symm
    have m213 := (ei10).trans (fI_kept (x_lt hT kH178 giq (by decide))).symm
    have m214 := (ek13).trans (fI_kept (x_lt hT kH178 gkq (by decide))).symm
    have m215 := (ei13).trans (fI_kept (x_lt hT kH178 giq (by decide))).symm
    have m216 := (ek16).trans (fI_kept (x_lt hT kH178 gkq (by decide))).symm
    have m217 := (ei16).trans (fI_kept (x_lt hT kH178 giq (by decide))).symm
    have bx180 := ty_fi (x := x180) (k := 3) ex180 hTH178 ga rg_68 rfl
    refine W.eq (g2 := F0 m 389 ls [.int x179]) rfl ?_
    have f218 : ∀ j : Nat, fI H178 tq j = fdX ((xs (i.toNatClampNeg + 1))) ((xs (i.toNatClampNeg + 2))) ((xs (i.toNatClampNeg + 3))) ((xs (i.toNatClampNeg + 4))) ((xs (i.toNatClampNeg + 5))) ta (fun j => fI H tq j) j := fun j => (m183 j).trans (fdX_c ft0 j)
    have rk219 : RKI K H178 kq iq k1.toInt := RKI.kept rke hT gkq (x_lt hT kH178 giq (by first | exact nmr ht (by decide) | exact nmo ht (by decide) | exact nme ht (by decide) | exact nmq ht (by decide) | decide | (intro z; simp only [List.mem_cons, List.not_mem_nil, or_false] at z <;> omega) | omega)) (fun q t hq ht => x_lt hT kH178 hq (by first | exact nmr ht (by decide) | exact nmo ht (by decide) | exact nme ht (by decide) | exact nmq ht (by decide) | decide | (intro z; simp only [List.mem_cons, List.not_mem_nil, or_false] at z <;> omega) | omega))
    have re220 : RE K H178 w b s1.toInt := RE.cls re hT gw gb (fun q t hq ht => x_lt hT kH178 hq (by first | exact nmr ht (by decide) | exact nmo ht (by decide) | exact nme ht (by decide) | exact nmq ht (by decide) | decide | (intro z; simp only [List.mem_cons, List.not_mem_nil, or_false] at z <;> omega) | omega))
    refine lv_pop hx hb dL_law_389 rfl ?_
    refine lv_aload_n hx hb dL_law_390 rfl (lv_at hl 1 rfl) ?_
    refine lv_aload_n hx hb dL_law_391 rfl (lv_at hl 3 rfl) ?_
    refine lv_iload_n hx hb dL_law_392 rfl (lv_at hl 0 rfl) ?_
    refine lv_iconst (v := 1) hx hb dL_law_393 (by decide) ?_
    refine lv_iadd hx hb dL_law_394 ?_
    refine lv_topi (fun x221 ex221 => ?_)
    obtain ⟨tx221, ejx221, evx221⟩ := lw_ix (k := 1) ex221 hI hL rfl (by decide)
    clear tx221
    refine va_sld hx hb hX hbl (Nat.not_le.mpr hbl) hSH178 (vp_in_iff.mpr evx221) dL_law_395 ?_
    refine W.eq (g2 := F0 m 396 ls [.int (xs (i.toNatClampNeg + 1)), .ref b]) (congrArg (fun z => F0 m 396 ls [.int (xs z), .ref b]) ejx221) ?_
    refine lv_aload_n hx hb dL_law_396 rfl (lv_at hl 3 rfl) ?_
    refine lv_iload_n hx hb dL_law_397 rfl (lv_at hl 0 rfl) ?_
    refine lv_iconst (v := 2) hx hb dL_law_398 (by decide) ?_
    refine lv_iadd hx hb dL_law_399 ?_
    refine lv_topi (fun x222 ex222 => ?_)
    obtain ⟨tx222, ejx222, evx222⟩ := lw_ix (k := 2) ex222 hI hL rfl (by decide)
    clear tx222
    refine va_sld hx hb hX hbl (Nat.not_le.mpr hbl) hSH178 (vp_in_iff.mpr evx222) dL_law_400 ?_
    refine W.eq (g2 := F0 m 401 ls [.int (xs (i.toNatClampNeg + 2)), .int (xs (i.toNatClampNeg + 1)), .ref b]) (congrArg (fun z => F0 m 401 ls [.int (xs z), .int (xs (i.toNatClampNeg + 1)), .ref b]) ejx222) ?_
    refine lv_aload_n hx hb dL_law_401 rfl (lv_at hl 3 rfl) ?_
    refine lv_iload_n hx hb dL_law_402 rfl (lv_at hl 0 rfl) ?_
    refine lv_iconst (v := 3) hx hb dL_law_403 (by decide) ?_
    refine lv_iadd hx hb dL_law_404 ?_
    refine lv_topi (fun x223 ex223 => ?_)
    obtain ⟨tx223, ejx223, evx223⟩ := lw_ix (k := 3) ex223 hI hL rfl (by decide)
    clear tx223
    refine va_sld hx hb hX hbl (Nat.not_le.mpr hbl) hSH178 (vp_in_iff.mpr evx223) dL_law_405 ?_
    refine W.eq (g2 := F0 m 406 ls [.int (xs (i.toNatClampNeg + 3)), .int (xs (i.toNatClampNeg + 2)), .int (xs (i.toNatClampNeg + 1)), .ref b]) (congrArg (fun z => F0 m 406 ls [.int (xs z), .int (xs (i.toNatClampNeg + 2)), .int (xs (i.toNatClampNeg + 1)), .ref b]) ejx223) ?_
    refine lv_aload_n hx hb dL_law_406 rfl (lv_at hl 3 rfl) ?_
    refine lv_iload_n hx hb dL_law_407 rfl (lv_at hl 0 rfl) ?_
    refine lv_iconst (v := 4) hx hb dL_law_408 (by decide) ?_
    refine lv_iadd hx hb dL_law_409 ?_
    refine lv_topi (fun x224 ex224 => ?_)
    obtain ⟨tx224, ejx224, evx224⟩ := lw_ix (k := 4) ex224 hI hL rfl (by decide)
    clear tx224
    refine va_sld hx hb hX hbl (Nat.not_le.mpr hbl) hSH178 (vp_in_iff.mpr evx224) dL_law_410 ?_
    refine W.eq (g2 := F0 m 411 ls [.int (xs (i.toNatClampNeg + 4)), .int (xs (i.toNatClampNeg + 3)), .int (xs (i.toNatClampNeg + 2)), .int (xs (i.toNatClampNeg + 1)), .ref b]) (congrArg (fun z => F0 m 411 ls [.int (xs z), .int (xs (i.toNatClampNeg + 3)), .int (xs (i.toNatClampNeg + 2)), .int (xs (i.toNatClampNeg + 1)), .ref b]) ejx224) ?_
    refine lv_aload_n hx hb dL_law_411 rfl (lv_at hl 3 rfl) ?_
    refine lv_iload_n hx hb dL_law_412 rfl (lv_at hl 0 rfl) ?_
    refine lv_iconst (v := 5) hx hb dL_law_413 (by decide) ?_
    refine lv_iadd hx hb dL_law_414 ?_
    refine lv_topi (fun x225 ex225 => ?_)
    obtain ⟨tx225, ejx225, evx225⟩ := lw_ix (k := 5) ex225 hI hL rfl (by decide)
    clear tx225
    refine va_sld hx hb hX hbl (Nat.not_le.mpr hbl) hSH178 (vp_in_iff.mpr evx225) dL_law_415 ?_
    refine W.eq (g2 := F0 m 416 ls [.int (xs (i.toNatClampNeg + 5)), .int (xs (i.toNatClampNeg + 4)), .int (xs (i.toNatClampNeg + 3)), .int (xs (i.toNatClampNeg + 2)), .int (xs (i.toNatClampNeg + 1)), .ref b]) (congrArg (fun z => F0 m 416 ls [.int (xs z), .int (xs (i.toNatClampNeg + 4)), .int (xs (i.toNatClampNeg + 3)), .int (xs (i.toNatClampNeg + 2)), .int (xs (i.toNatClampNeg + 1)), .ref b]) ejx225) ?_
    refine x_V (As := [.int (xs (i.toNatClampNeg + 1)), .int (xs (i.toNatClampNeg + 2)), .int (xs (i.toNatClampNeg + 3)), .int (xs (i.toNatClampNeg + 4)), .int (xs (i.toNatClampNeg + 5))]) (rest := []) C (a_X10_feed_b l K G H178 ((xs (i.toNatClampNeg + 1))) ((xs (i.toNatClampNeg + 2))) ((xs (i.toNatClampNeg + 3))) ((xs (i.toNatClampNeg + 4))) ((xs (i.toNatClampNeg + 5))) (tb) hTH178 gb guq m203 m190 g185 g186 g187 g188) yo_X10_feed wM_L_37 ⟨⟨by decide, by decide⟩, show _ ≤ 60000 from Nat.le_trans hc (by decide), show _ ≤ 8922250 from Nat.le_trans hs (by decide)⟩ (x_rv C hTH178 (ci := 10) rfl gb rg_112) rfl hl.1 rfl (Nat.le_of_ble_eq_true rfl) dL_law_416 hSH178 (AE_new hN hSH178.1) (fun vH226 H226 locsH226 pH226 zH226 kH226 hSH226 => ?_)
    obtain ⟨x227, x228, hvH226, ex228, hrH226, m229, g230, g231, g232, g233, mf234, m235, hTH226⟩ := pH226
    subst hvH226
    have f236 : ∀ j : Nat, fI H226 tq j = fdX ((xs (i.toNatClampNeg + 1))) ((xs (i.toNatClampNeg + 2))) ((xs (i.toNatClampNeg + 3))) ((xs (i.toNatClampNeg + 4))) ((xs (i.toNatClampNeg + 5))) ta (fun j => fI H tq j) j := fun j => (fI_kept (x_lt hTH178 kH226 gtq (by decide))).trans (f218 j)
    have m237 := (m191).trans (fI_kept (x_lt hTH178 kH226 gw (by decide))).symm
    have m238 := (m193).trans (fI_kept (x_lt hTH178 kH226 gw (by decide))).symm
    have m239 := (m195).trans (fI_kept (x_lt hTH178 kH226 gw (by decide))).symm
    have m240 := (m197).trans (fI_kept (x_lt hTH178 kH226 gw (by decide))).symm
    have m241 := (m199).trans (fI_kept (x_lt hTH178 kH226 gw (by decide))).symm
    have m242 := (m201).trans (fI_kept (x_lt hTH178 kH226 gw (by decide))).symm
    have m243 := (m206).trans (fI_kept (x_lt hTH178 kH226 gkq (by decide))).symm
    have m244 := (m207).trans (fI_kept (x_lt hTH178 kH226 giq (by decide))).symm
    have m245 := (m208).trans (fI_kept (x_lt hTH178 kH226 gkq (by decide))).symm
    have m246 := (m209).trans (fI_kept (x_lt hTH178 kH226 giq (by decide))).symm
    have m247 := (m210).trans (fI_kept (x_lt hTH178 kH226 gkq (by decide))).symm
    have m248 := (m211).trans (fI_kept (x_lt hTH178 kH226 giq (by decide))).symm
    have m249 := (m212).trans (fI_kept (x_lt hTH178 kH226 gkq (by decide))).symm
    have m250 := (m213).trans (fI_kept (x_lt hTH178 kH226 giq (by decide))).symm
    have m251 := (m214).trans (fI_kept (x_lt hTH178 kH226 gkq (by decide))).symm
    have m252 := (m215).trans (fI_kept (x_lt hTH178 kH226 giq (by decide))).symm
    have m253 := (m216).trans (fI_kept (x_lt hTH178 kH226 gkq (by decide))).symm
    have m254 := (m217).trans (fI_kept (x_lt hTH178 kH226 giq (by decide))).symm
    have m255 := (m181).trans (fR_kept (x_lt hTH178 kH226 ga (by decide))).symm
    have m256 := (m182).trans (fR_kept (x_lt hTH178 kH226 ga (by decide))).symm
    have m257 := (fV_kept (x_lt hTH178 kH226 ga (by decide))).trans m184
    have m258 := (ex180).trans (fI_kept (x_lt hTH178 kH226 ga (by decide))).symm
    have m259 := (m192).trans (MF.i mf234 (k := 1) (by decide) (by decide)).symm
    have m260 := (m194).trans (MF.i mf234 (k := 2) (by decide) (by decide)).symm
    have m261 := (m196).trans (MF.i mf234 (k := 3) (by decide) (by decide)).symm
    have m262 := (m198).trans (MF.i mf234 (k := 59) (by decide) (by decide)).symm
    have m263 := (m200).trans (MF.i mf234 (k := 62) (by decide) (by decide)).symm
    have m264 := (m202).trans (MF.i mf234 (k := 65) (by decide) (by decide)).symm
    have m265 := (m203).trans (MF.r mf234 (k := 17) (by decide) (by decide)).symm
    have m266 := (m204).trans (MF.i mf234 (k := 70) (by decide) (by decide)).symm
    have m267 := (m205).trans (MF.r mf234 (k := 73) (by decide) (by decide)).symm
    have bx228 := ty_fi (x := x228) (k := 18) ex228 hTH226 gb rg_112 rfl
    refine W.eq (g2 := F0 m 419 ls [.int x227]) rfl ?_
    have f268 : ∀ j : Nat, fI H226 uq j = fdX ((xs (i.toNatClampNeg + 1))) ((xs (i.toNatClampNeg + 2))) ((xs (i.toNatClampNeg + 3))) ((xs (i.toNatClampNeg + 4))) ((xs (i.toNatClampNeg + 5))) tb (fun j => fI H uq j) j := fun j => (m235 j).trans (fdX_c f189 j)
    have rk269 : RKI K H226 kq iq k1.toInt := RKI.kept rk219 hTH178 gkq (x_lt hTH178 kH226 giq (by first | exact nmr ht (by decide) | exact nmo ht (by decide) | exact nme ht (by decide) | exact nmq ht (by decide) | decide | (intro z; simp only [List.mem_cons, List.not_mem_nil, or_false] at z <;> omega) | omega)) (fun q t hq ht => x_lt hTH178 kH226 hq (by first | exact nmr ht (by decide) | exact nmo ht (by decide) | exact nme ht (by decide) | exact nmq ht (by decide) | decide | (intro z; simp only [List.mem_cons, List.not_mem_nil, or_false] at z <;> omega) | omega))
    have re270 : RE K H226 w b s1.toInt := RE.ref re220 hTH178 gw gb (fun k hk => MF.r mf234 (by omega) (by intro z; simp only [List.mem_cons, List.not_mem_nil, or_false] at z; omega)) (fun q t hq ht => x_lt hTH178 kH226 hq (by first | exact nmr ht (by decide) | exact nmo ht (by decide) | exact nme ht (by decide) | exact nmq ht (by decide) | decide | (intro z; simp only [List.mem_cons, List.not_mem_nil, or_false] at z <;> omega) | omega))
    refine lv_pop hx hb dL_law_419 rfl ?_
    refine lv_goto (tgt := 1509) hx hb dL_law_420 (by decide) ?_
    have cfin := i_cl (x := x228) bx228.1
    have htf : TBR (fun j => fdX ((xs (i.toNatClampNeg + 1))) ((xs (i.toNatClampNeg + 2))) ((xs (i.toNatClampNeg + 3))) ((xs (i.toNatClampNeg + 4))) ((xs (i.toNatClampNeg + 5))) ta (fun j => fI H tq j) j) (fun j => fdX ((xs (i.toNatClampNeg + 1))) ((xs (i.toNatClampNeg + 2))) ((xs (i.toNatClampNeg + 3))) ((xs (i.toNatClampNeg + 4))) ((xs (i.toNatClampNeg + 5))) tb (fun j => fI H uq j) j) x228.toNatClampNeg := TBR.fx htr (by omega) (by omega)
    exact nx G H226 locsH226 _ _ ls ⟨hTH226, hN, ga, gb, g230, g231, g232, g233, ⟨(by rw [← m258, ← ex228]; omega), (by rw [← m255, ← m237, ← m259]; exact r1), (by rw [← m255, ← m238, ← m260]; exact r4), (by rw [← m255, ← m239, ← m261]; exact r5), (by rw [← m255, ← m240, ← m262]; exact r10), (by rw [← m255, ← m241, ← m263]; exact r13), (by rw [← m255, ← m242, ← m264]; exact r16)⟩, Or.inr ⟨kq, m257, gkq, (by rw [← m266]; exact h70), (by rw [← m243, ← m267, ← m244]; exact q1), (by rw [← m245, ← m267, ← m246]; exact q4), (by rw [← m247, ← m267, ← m248]; exact q5), (by rw [← m249, ← m267, ← m250]; exact q10), (by rw [← m251, ← m267, ← m252]; exact q13), (by rw [← m253, ← m267, ← m254]; exact q16), (by rw [← m267, ← m243]; exact RKI.cast rk269 (by omega)), (by rw [← m247]; omega), (by rw [← m247]; omega)⟩, (by unfold TB; rw [← m256, ← m229, ← ex228]; exact TBR.of htf f236 f268 (by omega)), (by unfold RELE; rw [← m255, ← m259, ← m239]; exact ⟨RE.cast re270 (by omega), by omega, by omega⟩), hSH226⟩ hl ⟨hc, hs, fun h => by have h1 := h.symm.trans m257; cases h1⟩
set_option maxRecDepth 100000 in
set_option maxHeartbeats 8000000 in
theorem lw_c5 {p : Program} {l : Launch} {e : Env} {s : State} {m : MethodId} {below : List Frame} {meth : Method} {c : Code} {K : KE} {b0 L : Nat} {xs : Nat → Int32} {G : Nat → Option Nat} {H : Heap} {locs : List Loc} {a b : Nat} {cells slots : Nat} {ls : Array Slot} {i : Int32} {n : Nat} (D : LC p K s m meth c b0 L xs) (S : SX K s G H locs a b) (hl : lv_has ls 4 [(3, .int i), (2, .ref b), (1, .ref a), (0, .ref b0)]) (hi : 0 ≤ i.toInt ∧ i.toInt + 6 ≤ L) (hn : n ≤ 511) (hB : BD K H a cells slots) (nx : ∀ (G : Nat → Option Nat) (H : Heap) (locs : List Loc) (cells slots : Nat) (ls : Array Slot), SX K s G H locs a b → lv_has ls 4 [(3, .int i), (2, .ref b), (1, .ref a), (0, .ref b0)] → BD K H a cells slots → W p l e room_1 s m #[Value.ref b0] below meth c H locs cells slots (lw_Z below #[Value.ref b0] s) (F0 m 1509 ls [])) : W p l e room_1 s m #[Value.ref b0] below meth c H locs cells slots (lw_Z below #[Value.ref b0] s) (F0 m 423 ls []) := by
  have hI := hi
  obtain ⟨C, hX, hbl, hL⟩ := id D
  obtain ⟨hx, hb, hml, hown, hts, hKT, hr, hlocks, hnm⟩ := id C
  obtain ⟨hT, hN, ga, gb, cg, tu, wd, im, ⟨rt, r1, r4, r5, r10, r13, r16⟩, hk, htb, her, hS⟩ := S
  obtain ⟨hc, hs, hB0⟩ := hB
  have n_1 : (1 : Int32).toInt = 1 := rfl
  obtain ⟨w, ew⟩ : ∃ z : Nat, z = fR H a (K.1.2 9 0) := ⟨_, rfl⟩
  have gw := ty_fr (q := w) (k := 0) (u := 0) ew hT ga rg_68 rfl
  rw [← ew] at r1 r4 r5 r10 r13 r16
  obtain ⟨ta, eta⟩ : ∃ z : Int32, z = fI H a (K.1.2 9 3) := ⟨_, rfl⟩
  rw [← eta] at rt
  obtain ⟨tb, etb⟩ : ∃ z : Int32, z = fI H b (K.1.2 10 18) := ⟨_, rfl⟩
  rw [← etb] at rt
  obtain ⟨s1, es1⟩ : ∃ z : Int32, z = fI H w (K.1.2 8 1) := ⟨_, rfl⟩
  rw [← es1] at r1
  obtain ⟨y1, ey1⟩ : ∃ z : Int32, z = fI H b (K.1.2 10 1) := ⟨_, rfl⟩
  rw [← ey1] at r1
  obtain ⟨s4, es4⟩ : ∃ z : Int32, z = fI H w (K.1.2 8 4) := ⟨_, rfl⟩
  rw [← es4] at r4
  obtain ⟨y4, ey4⟩ : ∃ z : Int32, z = fI H b (K.1.2 10 2) := ⟨_, rfl⟩
  rw [← ey4] at r4
  obtain ⟨s5, es5⟩ : ∃ z : Int32, z = fI H w (K.1.2 8 5) := ⟨_, rfl⟩
  rw [← es5] at r5
  obtain ⟨y5, ey5⟩ : ∃ z : Int32, z = fI H b (K.1.2 10 3) := ⟨_, rfl⟩
  rw [← ey5] at r5
  obtain ⟨s10, es10⟩ : ∃ z : Int32, z = fI H w (K.1.2 8 10) := ⟨_, rfl⟩
  rw [← es10] at r10
  obtain ⟨y10, ey10⟩ : ∃ z : Int32, z = fI H b (K.1.2 10 59) := ⟨_, rfl⟩
  rw [← ey10] at r10
  obtain ⟨s13, es13⟩ : ∃ z : Int32, z = fI H w (K.1.2 8 13) := ⟨_, rfl⟩
  rw [← es13] at r13
  obtain ⟨y13, ey13⟩ : ∃ z : Int32, z = fI H b (K.1.2 10 62) := ⟨_, rfl⟩
  rw [← ey13] at r13
  obtain ⟨s16, es16⟩ : ∃ z : Int32, z = fI H w (K.1.2 8 16) := ⟨_, rfl⟩
  rw [← es16] at r16
  obtain ⟨y16, ey16⟩ : ∃ z : Int32, z = fI H b (K.1.2 10 65) := ⟨_, rfl⟩
  rw [← ey16] at r16
  obtain ⟨tq, etq⟩ : ∃ z : Nat, z = fR H a (K.1.2 9 2) := ⟨_, rfl⟩
  have gtq := ty_fr (q := tq) (k := 2) (u := 108) etq hT ga rg_68 rfl
  obtain ⟨uq, euq⟩ : ∃ z : Nat, z = fR H b (K.1.2 10 17) := ⟨_, rfl⟩
  have guq := ty_fr (q := uq) (k := 17) (u := 126) euq hT gb rg_112 rfl
  have htr : TBR (fun j => fI H tq j) (fun j => fI H uq j) tb.toNatClampNeg := by rw [etq, euq, etb]; exact htb
  have ft0 : ∀ j : Nat, fI H tq j = fI H tq j := fun _ => rfl
  have fu0 : ∀ j : Nat, fI H uq j = fI H uq j := fun _ => rfl
  have bta := ty_fi (x := ta) (k := 3) eta hT ga rg_68 rfl
  have cta := i_cl (x := ta) (by omega)
  have btb := ty_fi (x := tb) (k := 18) etb hT gb rg_112 rfl
  have ctb := i_cl (x := tb) (by omega)
  obtain ⟨her0, hsl1, hsl2⟩ := her
  have hsl0 := And.intro hsl1 hsl2
  clear hsl1 hsl2
  rw [← ew] at her0 hsl0
  have re : RE K H w b s1.toInt := RE.cast her0 (by rw [← ey1]; exact r1)
  have hsl : 0 ≤ s5.toInt ∧ s5.toInt ≤ 9999 := by rw [es5]; exact hsl0
  clear her0 hsl0
  have bt_s1 := ty_fi (x := s1) (k := 1) es1 hT gw rg_0 rfl
  have bt_s4 := ty_fi (x := s4) (k := 4) es4 hT gw rg_0 rfl
  have bt_y1 := ty_fi (x := y1) (k := 1) ey1 hT gb rg_112 rfl
  have bt_y4 := ty_fi (x := y4) (k := 2) ey4 hT gb rg_112 rfl
  rcases hk with ⟨kn, h70⟩ | ⟨kq, kn, gkq, h70, q1, q4, q5, q10, q13, q16, rke, ks1, ks2⟩
  · skip
    obtain ⟨hi, ehi⟩ : ∃ z : Int32, z = fI H b (K.1.2 10 70) := ⟨_, rfl⟩
    rw [← ehi] at h70
    obtain ⟨hc0, hs0⟩ := hB0 kn
    obtain ⟨iq, eiq⟩ : ∃ z : Nat, z = fR H b (K.1.2 10 73) := ⟨_, rfl⟩
    have giq := ty_fr (q := iq) (k := 73) (u := 162) eiq hT gb rg_112 rfl
    refine lv_aload_n hx hb dL_law_423 rfl (lv_at hl 2 rfl) ?_
    refine lv_aload_n hx hb dL_law_424 rfl (lv_at hl 3 rfl) ?_
    refine lv_iload_n hx hb dL_law_425 rfl (lv_at hl 0 rfl) ?_
    refine lv_iconst (v := 1) hx hb dL_law_426 (by decide) ?_
    refine lv_iadd hx hb dL_law_427 ?_
    refine lv_topi (fun x101 ex101 => ?_)
    obtain ⟨tx101, ejx101, evx101⟩ := lw_ix (k := 1) ex101 hI hL rfl (by decide)
    clear tx101
    refine va_sld hx hb hX hbl (Nat.not_le.mpr hbl) hS (vp_in_iff.mpr evx101) dL_law_428 ?_
    refine W.eq (g2 := F0 m 429 ls [.int (xs (i.toNatClampNeg + 1)), .ref a]) (congrArg (fun z => F0 m 429 ls [.int (xs z), .ref a]) ejx101) ?_
    refine x_V (As := [.int (xs (i.toNatClampNeg + 1))]) (rest := []) C (a_X9_end_r l K G H ((xs (i.toNatClampNeg + 1))) (ta) hT ga gw ew gtq etq eta kn) yo_X9_end wM_L_38 ⟨⟨by decide, by decide⟩, show _ ≤ 60000 from Nat.le_trans hc (by decide), show _ ≤ 8922250 from Nat.le_trans hs (by decide)⟩ (x_rv C hT (ci := 9) rfl ga rg_68) rfl hl.1 rfl (Nat.le_of_ble_eq_true rfl) dL_law_429 hS (AE_new hN hS.1) (fun vH102 H102 locsH102 pH102 zH102 kH102 hSH102 => ?_)
    obtain ⟨x103, x104, hvH102, bx103, ex104, hrH102, m105, m106, m107, hTH102⟩ := pH102
    subst hvH102
    have g108 : CG (avw K H102 b) := CG.congr (fun k hk j => av_eff hT kH102 gb (by decide) (CG_eff [68] (by decide) k hk)) cg
    have g109 : TU (avw K H102 b) (svw K H102 b) := TU.congr (fun k hk j => av_eff hT kH102 gb (by decide) (TU_eff [68] (by decide) k hk)) (fun k hk => sv_eff hT kH102 gb (by decide)) tu
    have g110 : WD (avw K H102 b) := WD.congr (fun k hk j => av_eff hT kH102 gb (by decide) (WD_eff [68] (by decide) k hk)) wd
    have g111 : IM (avw K H102 b) := IM.congr (fun k hk j => av_eff hT kH102 gb (by decide) (IM_eff [68] (by decide) k hk)) im
    have f112 : ∀ j : Nat, fI H102 tq j = fI H tq j := fun j => (fI_kept (x_lt hT kH102 gtq (by decide))).trans (ft0 j)
    have f113 : ∀ j : Nat, fI H102 uq j = fI H uq j := fun j => (fI_kept (x_lt hT kH102 guq (by decide))).trans (fu0 j)
    have m114 := (etb).trans (fI_kept (x_lt hT kH102 gb (by decide))).symm
    have m115 := (es1).trans (fI_kept (x_lt hT kH102 gw (by decide))).symm
    have m116 := (ey1).trans (fI_kept (x_lt hT kH102 gb (by decide))).symm
    have m117 := (es4).trans (fI_kept (x_lt hT kH102 gw (by decide))).symm
    have m118 := (ey4).trans (fI_kept (x_lt hT kH102 gb (by decide))).symm
    have m119 := (es5).trans (fI_kept (x_lt hT kH102 gw (by decide))).symm
    have m120 := (ey5).trans (fI_kept (x_lt hT kH102 gb (by decide))).symm
    have m121 := (es10).trans (fI_kept (x_lt hT kH102 gw (by decide))).symm
    have m122 := (ey10).trans (fI_kept (x_lt hT kH102 gb (by decide))).symm
    have m123 := (es13).trans (fI_kept (x_lt hT kH102 gw (by decide))).symm
    have m124 := (ey13).trans (fI_kept (x_lt hT kH102 gb (by decide))).symm
    have m125 := (es16).trans (fI_kept (x_lt hT kH102 gw (by decide))).symm
    have m126 := (ey16).trans (fI_kept (x_lt hT kH102 gb (by decide))).symm
    have m127 := (euq).trans (fR_kept (x_lt hT kH102 gb (by decide))).symm
    have m128 := (ehi).trans (fI_kept (x_lt hT kH102 gb (by decide))).symm
    have m129 := (eiq).trans (fR_kept (x_lt hT kH102 gb (by decide))).symm
    have bx104 := ty_fi (x := x104) (k := 3) ex104 hTH102 ga rg_68 rfl
    refine W.eq (g2 := F0 m 432 ls [.int x103]) rfl ?_
    have re130 : RE K H102 w b s1.toInt := RE.cls re hT gw gb (fun q t hq ht => x_lt hT kH102 hq (by first | exact nmr ht (by decide) | exact nmo ht (by decide) | exact nme ht (by decide) | exact nmq ht (by decide) | decide | (intro z; simp only [List.mem_cons, List.not_mem_nil, or_false] at z <;> omega) | omega))
    refine lv_pop hx hb dL_law_432 rfl ?_
    refine lv_aload_n hx hb dL_law_433 rfl (lv_at hl 1 rfl) ?_
    refine lv_aload_n hx hb dL_law_434 rfl (lv_at hl 3 rfl) ?_
    refine lv_iload_n hx hb dL_law_435 rfl (lv_at hl 0 rfl) ?_
    refine lv_iconst (v := 1) hx hb dL_law_436 (by decide) ?_
    refine lv_iadd hx hb dL_law_437 ?_
    refine lv_topi (fun x131 ex131 => ?_)
    obtain ⟨tx131, ejx131, evx131⟩ := lw_ix (k := 1) ex131 hI hL rfl (by decide)
    clear tx131
    refine va_sld hx hb hX hbl (Nat.not_le.mpr hbl) hSH102 (vp_in_iff.mpr evx131) dL_law_438 ?_
    refine W.eq (g2 := F0 m 439 ls [.int (xs (i.toNatClampNeg + 1)), .ref b]) (congrArg (fun z => F0 m 439 ls [.int (xs z), .ref b]) ejx131) ?_
    refine x_V (As := [.int (xs (i.toNatClampNeg + 1))]) (rest := []) C (a_X10_end_t l K G H102 ((xs (i.toNatClampNeg + 1))) (tb) hTH102 gb m114 g108 g109 g110 g111) yo_X10_end wM_L_42 ⟨⟨by decide, by decide⟩, show _ ≤ 60000 from Nat.le_trans hc (by decide), show _ ≤ 8922250 from Nat.le_trans hs (by decide)⟩ (x_rv C hTH102 (ci := 10) rfl gb rg_112) rfl hl.1 rfl (Nat.le_of_ble_eq_true rfl) dL_law_439 hSH102 (AE_new hN hSH102.1) (fun vH132 H132 locsH132 pH132 zH132 kH132 hSH132 => ?_)
    obtain ⟨x133, x134, hvH132, bx133, ex134, hrH132, g135, g136, g137, g138, mf139, hTH132⟩ := pH132
    subst hvH132
    have f140 : ∀ j : Nat, fI H132 tq j = fI H tq j := fun j => (fI_kept (x_lt hTH102 kH132 gtq (by decide))).trans (f112 j)
    have f141 : ∀ j : Nat, fI H132 uq j = fI H uq j := fun j => (fI_kept (x_lt hTH102 kH132 guq (by decide))).trans (f113 j)
    have m142 := (m115).trans (fI_kept (x_lt hTH102 kH132 gw (by decide))).symm
    have m143 := (m117).trans (fI_kept (x_lt hTH102 kH132 gw (by decide))).symm
    have m144 := (m119).trans (fI_kept (x_lt hTH102 kH132 gw (by decide))).symm
    have m145 := (m121).trans (fI_kept (x_lt hTH102 kH132 gw (by decide))).symm
    have m146 := (m123).trans (fI_kept (x_lt hTH102 kH132 gw (by decide))).symm
    have m147 := (m125).trans (fI_kept (x_lt hTH102 kH132 gw (by decide))).symm
    have m148 := (m105).trans (fR_kept (x_lt hTH102 kH132 ga (by decide))).symm
    have m149 := (m106).trans (fR_kept (x_lt hTH102 kH132 ga (by decide))).symm
    have m150 := (fV_kept (x_lt hTH102 kH132 ga (by decide))).trans m107
    have m151 := (ex104).trans (fI_kept (x_lt hTH102 kH132 ga (by decide))).symm
    have m152 := (m116).trans (MF.i mf139 (k := 1) (by decide) (by decide)).symm
    have m153 := (m118).trans (MF.i mf139 (k := 2) (by decide) (by decide)).symm
    have m154 := (m120).trans (MF.i mf139 (k := 3) (by decide) (by decide)).symm
    have m155 := (m122).trans (MF.i mf139 (k := 59) (by decide) (by decide)).symm
    have m156 := (m124).trans (MF.i mf139 (k := 62) (by decide) (by decide)).symm
    have m157 := (m126).trans (MF.i mf139 (k := 65) (by decide) (by decide)).symm
    have m158 := (m127).trans (MF.r mf139 (k := 17) (by decide) (by decide)).symm
    have m159 := (m128).trans (MF.i mf139 (k := 70) (by decide) (by decide)).symm
    have m160 := (m129).trans (MF.r mf139 (k := 73) (by decide) (by decide)).symm
    have bx134 := ty_fi (x := x134) (k := 18) ex134 hTH132 gb rg_112 rfl
    refine W.eq (g2 := F0 m 442 ls [.int x133]) rfl ?_
    have re161 : RE K H132 w b s1.toInt := RE.ref re130 hTH102 gw gb (fun k hk => MF.r mf139 (by omega) (by intro z; simp only [List.mem_cons, List.not_mem_nil, or_false] at z; omega)) (fun q t hq ht => x_lt hTH102 kH132 hq (by first | exact nmr ht (by decide) | exact nmo ht (by decide) | exact nme ht (by decide) | exact nmq ht (by decide) | decide | (intro z; simp only [List.mem_cons, List.not_mem_nil, or_false] at z <;> omega) | omega))
    refine lv_pop hx hb dL_law_442 rfl ?_
    refine lv_goto (tgt := 1509) hx hb dL_law_443 (by decide) ?_
    have cfin := i_cl (x := x134) bx134.1
    exact nx G H132 locsH132 _ _ ls ⟨hTH132, hN, ga, gb, g135, g136, g137, g138, ⟨(by rw [← m151, ← ex134]; omega), (by rw [← m148, ← m142, ← m152]; exact r1), (by rw [← m148, ← m143, ← m153]; exact r4), (by rw [← m148, ← m144, ← m154]; exact r5), (by rw [← m148, ← m145, ← m155]; exact r10), (by rw [← m148, ← m146, ← m156]; exact r13), (by rw [← m148, ← m147, ← m157]; exact r16)⟩, Or.inl ⟨m150, (by rw [← m159]; exact h70)⟩, (by unfold TB; rw [← m149, ← m158, ← ex134]; exact TBR.of htr f140 f141 (by omega)), (by unfold RELE; rw [← m148, ← m152, ← m144]; exact ⟨RE.cast re161 (by omega), by omega, by omega⟩), hSH132⟩ hl ⟨hc, hs, fun _ => ⟨hc0, hs0⟩⟩
  · skip
    obtain ⟨hi, ehi⟩ : ∃ z : Int32, z = fI H b (K.1.2 10 70) := ⟨_, rfl⟩
    rw [← ehi] at h70
    obtain ⟨iq, eiq⟩ : ∃ z : Nat, z = fR H b (K.1.2 10 73) := ⟨_, rfl⟩
    have giq := ty_fr (q := iq) (k := 73) (u := 162) eiq hT gb rg_112 rfl
    rw [← eiq] at q1 q4 q5 q10 q13 q16
    obtain ⟨k1, ek1⟩ : ∃ z : Int32, z = fI H kq (K.1.2 8 1) := ⟨_, rfl⟩
    rw [← ek1] at q1
    obtain ⟨i1, ei1⟩ : ∃ z : Int32, z = fI H iq ((0 : Int32).toNatClampNeg) := ⟨_, rfl⟩
    rw [← ei1] at q1
    obtain ⟨k4, ek4⟩ : ∃ z : Int32, z = fI H kq (K.1.2 8 4) := ⟨_, rfl⟩
    rw [← ek4] at q4
    obtain ⟨i4, ei4⟩ : ∃ z : Int32, z = fI H iq ((1 : Int32).toNatClampNeg) := ⟨_, rfl⟩
    rw [← ei4] at q4
    obtain ⟨k5, ek5⟩ : ∃ z : Int32, z = fI H kq (K.1.2 8 5) := ⟨_, rfl⟩
    rw [← ek5] at q5
    obtain ⟨i5, ei5⟩ : ∃ z : Int32, z = fI H iq ((2 : Int32).toNatClampNeg) := ⟨_, rfl⟩
    rw [← ei5] at q5
    obtain ⟨k10, ek10⟩ : ∃ z : Int32, z = fI H kq (K.1.2 8 10) := ⟨_, rfl⟩
    rw [← ek10] at q10
    obtain ⟨i10, ei10⟩ : ∃ z : Int32, z = fI H iq ((3 : Int32).toNatClampNeg) := ⟨_, rfl⟩
    rw [← ei10] at q10
    obtain ⟨k13, ek13⟩ : ∃ z : Int32, z = fI H kq (K.1.2 8 13) := ⟨_, rfl⟩
    rw [← ek13] at q13
    obtain ⟨i13, ei13⟩ : ∃ z : Int32, z = fI H iq ((4 : Int32).toNatClampNeg) := ⟨_, rfl⟩
    rw [← ei13] at q13
    obtain ⟨k16, ek16⟩ : ∃ z : Int32, z = fI H kq (K.1.2 8 16) := ⟨_, rfl⟩
    rw [← ek16] at q16
    obtain ⟨i16, ei16⟩ : ∃ z : Int32, z = fI H iq ((5 : Int32).toNatClampNeg) := ⟨_, rfl⟩
    rw [← ei16] at q16
    rw [← eiq, ← ek1] at rke
    have hsk : 0 ≤ k5.toInt ∧ k5.toInt ≤ 9999 := by rw [ek5]; exact ⟨ks1, ks2⟩
    refine lv_aload_n hx hb dL_law_423 rfl (lv_at hl 2 rfl) ?_
    refine lv_aload_n hx hb dL_law_424 rfl (lv_at hl 3 rfl) ?_
    refine lv_iload_n hx hb dL_law_425 rfl (lv_at hl 0 rfl) ?_
    refine lv_iconst (v := 1) hx hb dL_law_426 (by decide) ?_
    refine lv_iadd hx hb dL_law_427 ?_
    refine lv_topi (fun x162 ex162 => ?_)
    obtain ⟨tx162, ejx162, evx162⟩ := lw_ix (k := 1) ex162 hI hL rfl (by decide)
    clear tx162
    refine va_sld hx hb hX hbl (Nat.not_le.mpr hbl) hS (vp_in_iff.mpr evx162) dL_law_428 ?_
    refine W.eq (g2 := F0 m 429 ls [.int (xs (i.toNatClampNeg + 1)), .ref a]) (congrArg (fun z => F0 m 429 ls [.int (xs z), .ref a]) ejx162) ?_
    refine x_V (As := [.int (xs (i.toNatClampNeg + 1))]) (rest := []) C (a_X9_end_r l K G H ((xs (i.toNatClampNeg + 1))) (ta) hT ga gw ew gtq etq eta kn) yo_X9_end wM_L_38 ⟨⟨by decide, by decide⟩, show _ ≤ 60000 from Nat.le_trans hc (by decide), show _ ≤ 8922250 from Nat.le_trans hs (by decide)⟩ (x_rv C hT (ci := 9) rfl ga rg_68) rfl hl.1 rfl (Nat.le_of_ble_eq_true rfl) dL_law_429 hS (AE_new hN hS.1) (fun vH163 H163 locsH163 pH163 zH163 kH163 hSH163 => ?_)
    obtain ⟨x164, x165, hvH163, bx164, ex165, hrH163, m166, m167, m168, hTH163⟩ := pH163
    subst hvH163
    have g169 : CG (avw K H163 b) := CG.congr (fun k hk j => av_eff hT kH163 gb (by decide) (CG_eff [68] (by decide) k hk)) cg
    have g170 : TU (avw K H163 b) (svw K H163 b) := TU.congr (fun k hk j => av_eff hT kH163 gb (by decide) (TU_eff [68] (by decide) k hk)) (fun k hk => sv_eff hT kH163 gb (by decide)) tu
    have g171 : WD (avw K H163 b) := WD.congr (fun k hk j => av_eff hT kH163 gb (by decide) (WD_eff [68] (by decide) k hk)) wd
    have g172 : IM (avw K H163 b) := IM.congr (fun k hk j => av_eff hT kH163 gb (by decide) (IM_eff [68] (by decide) k hk)) im
    have f173 : ∀ j : Nat, fI H163 tq j = fI H tq j := fun j => (fI_kept (x_lt hT kH163 gtq (by decide))).trans (ft0 j)
    have f174 : ∀ j : Nat, fI H163 uq j = fI H uq j := fun j => (fI_kept (x_lt hT kH163 guq (by decide))).trans (fu0 j)
    have m175 := (etb).trans (fI_kept (x_lt hT kH163 gb (by decide))).symm
    have m176 := (es1).trans (fI_kept (x_lt hT kH163 gw (by decide))).symm
    have m177 := (ey1).trans (fI_kept (x_lt hT kH163 gb (by decide))).symm
    have m178 := (es4).trans (fI_kept (x_lt hT kH163 gw (by decide))).symm
    have m179 := (ey4).trans (fI_kept (x_lt hT kH163 gb (by decide))).symm
    have m180 := (es5).trans (fI_kept (x_lt hT kH163 gw (by decide))).symm
    have m181 := (ey5).trans (fI_kept (x_lt hT kH163 gb (by decide))).symm
    have m182 := (es10).trans (fI_kept (x_lt hT kH163 gw (by decide))).symm
    have m183 := (ey10).trans (fI_kept (x_lt hT kH163 gb (by decide))).symm
    have m184 := (es13).trans (fI_kept (x_lt hT kH163 gw (by decide))).symm
    have m185 := (ey13).trans (fI_kept (x_lt hT kH163 gb (by decide))).symm
    have m186 := (es16).trans (fI_kept (x_lt hT kH163 gw (by decide))).symm
    have m187 := (ey16).trans (fI_kept (x_lt hT kH163 gb (by decide))).symm
    have m188 := (euq).trans (fR_kept (x_lt hT kH163 gb (by decide))).symm
    have m189 := (ehi).trans (fI_kept (x_lt hT kH163 gb (by decide))).symm
    have m190 := (eiq).trans (fR_kept (x_lt hT kH163 gb (by decide))).symm
    have m191 := (ek1).trans (fI_kept (x_lt hT kH163 gkq (by decide))).symm
    have m192 := (ei1).trans (fI_kept (x_lt hT kH163 giq (by decide))).symm
    have m193 := (ek4).trans (fI_kept (x_lt hT kH163 gkq (by decide))).symm
    have m194 := (ei4).trans (fI_kept (x_lt hT kH163 giq (by decide))).symm
    have m195 := (ek5).trans (fI_kept (x_lt hT kH163 gkq (by decide))).symm
    have m196 := (ei5).trans (fI_kept (x_lt hT kH163 giq (by decide))).symm
    have m197 := (ek10).trans (fI_kept (x_lt hT kH163 gkq (by decide))).symm
    have m198 := (ei10).trans (fI_kept (x_lt hT kH163 giq (by decide))).symm
    have m199 := (ek13).trans (fI_kept (x_lt hT kH163 gkq (by decide))).symm
    have m200 := (ei13).trans (fI_kept (x_lt hT kH163 giq (by decide))).symm
    have m201 := (ek16).trans (fI_kept (x_lt hT kH163 gkq (by decide))).symm
    have m202 := (ei16).trans (fI_kept (x_lt hT kH163 giq (by decide))).symm
    have bx165 := ty_fi (x := x165) (k := 3) ex165 hTH163 ga rg_68 rfl
    refine W.eq (g2 := F0 m 432 ls [.int x164]) rfl ?_
    have rk203 : RKI K H163 kq iq k1.toInt := RKI.kept rke hT gkq (x_lt hT kH163 giq (by first | exact nmr ht (by decide) | exact nmo ht (by decide) | exact nme ht (by decide) | exact nmq ht (by decide) | decide | (intro z; simp only [List.mem_cons, List.not_mem_nil, or_false] at z <;> omega) | omega)) (fun q t hq ht => x_lt hT kH163 hq (by first | exact nmr ht (by decide) | exact nmo ht (by decide) | exact nme ht (by decide) | exact nmq ht (by decide) | decide | (intro z; simp only [List.mem_cons, List.not_mem_nil, or_false] at z <;> omega) | omega))
    have re204 : RE K H163 w b s1.toInt := RE.cls re hT gw gb (fun q t hq ht => x_lt hT kH163 hq (by first | exact nmr ht (by decide) | exact nmo ht (by decide) | exact nme ht (by decide) | exact nmq ht (by decide) | decide | (intro z; simp only [List.mem_cons, List.not_mem_nil, or_false] at z <;> omega) | omega))
    refine lv_pop hx hb dL_law_432 rfl ?_
    refine lv_aload_n hx hb dL_law_433 rfl (lv_at hl 1 rfl) ?_
    refine lv_aload_n hx hb dL_law_434 rfl (lv_at hl 3 rfl) ?_
    refine lv_iload_n hx hb dL_law_435 rfl (lv_at hl 0 rfl) ?_
    refine lv_iconst (v := 1) hx hb dL_law_436 (by decide) ?_
    refine lv_iadd hx hb dL_law_437 ?_
    refine lv_topi (fun x205 ex205 => ?_)
    obtain ⟨tx205, ejx205, evx205⟩ := lw_ix (k := 1) ex205 hI hL rfl (by decide)
    clear tx205
    refine va_sld hx hb hX hbl (Nat.not_le.mpr hbl) hSH163 (vp_in_iff.mpr evx205) dL_law_438 ?_
    refine W.eq (g2 := F0 m 439 ls [.int (xs (i.toNatClampNeg + 1)), .ref b]) (congrArg (fun z => F0 m 439 ls [.int (xs z), .ref b]) ejx205) ?_
    refine x_V (As := [.int (xs (i.toNatClampNeg + 1))]) (rest := []) C (a_X10_end_t l K G H163 ((xs (i.toNatClampNeg + 1))) (tb) hTH163 gb m175 g169 g170 g171 g172) yo_X10_end wM_L_42 ⟨⟨by decide, by decide⟩, show _ ≤ 60000 from Nat.le_trans hc (by decide), show _ ≤ 8922250 from Nat.le_trans hs (by decide)⟩ (x_rv C hTH163 (ci := 10) rfl gb rg_112) rfl hl.1 rfl (Nat.le_of_ble_eq_true rfl) dL_law_439 hSH163 (AE_new hN hSH163.1) (fun vH206 H206 locsH206 pH206 zH206 kH206 hSH206 => ?_)
    obtain ⟨x207, x208, hvH206, bx207, ex208, hrH206, g209, g210, g211, g212, mf213, hTH206⟩ := pH206
    subst hvH206
    have f214 : ∀ j : Nat, fI H206 tq j = fI H tq j := fun j => (fI_kept (x_lt hTH163 kH206 gtq (by decide))).trans (f173 j)
    have f215 : ∀ j : Nat, fI H206 uq j = fI H uq j := fun j => (fI_kept (x_lt hTH163 kH206 guq (by decide))).trans (f174 j)
    have m216 := (m176).trans (fI_kept (x_lt hTH163 kH206 gw (by decide))).symm
    have m217 := (m178).trans (fI_kept (x_lt hTH163 kH206 gw (by decide))).symm
    have m218 := (m180).trans (fI_kept (x_lt hTH163 kH206 gw (by decide))).symm
    have m219 := (m182).trans (fI_kept (x_lt hTH163 kH206 gw (by decide))).symm
    have m220 := (m184).trans (fI_kept (x_lt hTH163 kH206 gw (by decide))).symm
    have m221 := (m186).trans (fI_kept (x_lt hTH163 kH206 gw (by decide))).symm
    have m222 := (m191).trans (fI_kept (x_lt hTH163 kH206 gkq (by decide))).symm
    have m223 := (m192).trans (fI_kept (x_lt hTH163 kH206 giq (by decide))).symm
    have m224 := (m193).trans (fI_kept (x_lt hTH163 kH206 gkq (by decide))).symm
    have m225 := (m194).trans (fI_kept (x_lt hTH163 kH206 giq (by decide))).symm
    have m226 := (m195).trans (fI_kept (x_lt hTH163 kH206 gkq (by decide))).symm
    have m227 := (m196).trans (fI_kept (x_lt hTH163 kH206 giq (by decide))).symm
    have m228 := (m197).trans (fI_kept (x_lt hTH163 kH206 gkq (by decide))).symm
    have m229 := (m198).trans (fI_kept (x_lt hTH163 kH206 giq (by decide))).symm
    have m230 := (m199).trans (fI_kept (x_lt hTH163 kH206 gkq (by decide))).symm
    have m231 := (m200).trans (fI_kept (x_lt hTH163 kH206 giq (by decide))).symm
    have m232 := (m201).trans (fI_kept (x_lt hTH163 kH206 gkq (by decide))).symm
    have m233 := (m202).trans (fI_kept (x_lt hTH163 kH206 giq (by decide))).symm
    have m234 := (m166).trans (fR_kept (x_lt hTH163 kH206 ga (by decide))).symm
    have m235 := (m167).trans (fR_kept (x_lt hTH163 kH206 ga (by decide))).symm
    have m236 := (fV_kept (x_lt hTH163 kH206 ga (by decide))).trans m168
    have m237 := (ex165).trans (fI_kept (x_lt hTH163 kH206 ga (by decide))).symm
    have m238 := (m177).trans (MF.i mf213 (k := 1) (by decide) (by decide)).symm
    have m239 := (m179).trans (MF.i mf213 (k := 2) (by decide) (by decide)).symm
    have m240 := (m181).trans (MF.i mf213 (k := 3) (by decide) (by decide)).symm
    have m241 := (m183).trans (MF.i mf213 (k := 59) (by decide) (by decide)).symm
    have m242 := (m185).trans (MF.i mf213 (k := 62) (by decide) (by decide)).symm
    have m243 := (m187).trans (MF.i mf213 (k := 65) (by decide) (by decide)).symm
    have m244 := (m188).trans (MF.r mf213 (k := 17) (by decide) (by decide)).symm
    have m245 := (m189).trans (MF.i mf213 (k := 70) (by decide) (by decide)).symm
    have m246 := (m190).trans (MF.r mf213 (k := 73) (by decide) (by decide)).symm
    have bx208 := ty_fi (x := x208) (k := 18) ex208 hTH206 gb rg_112 rfl
    refine W.eq (g2 := F0 m 442 ls [.int x207]) rfl ?_
    have rk247 : RKI K H206 kq iq k1.toInt := RKI.kept rk203 hTH163 gkq (x_lt hTH163 kH206 giq (by first | exact nmr ht (by decide) | exact nmo ht (by decide) | exact nme ht (by decide) | exact nmq ht (by decide) | decide | (intro z; simp only [List.mem_cons, List.not_mem_nil, or_false] at z <;> omega) | omega)) (fun q t hq ht => x_lt hTH163 kH206 hq (by first | exact nmr ht (by decide) | exact nmo ht (by decide) | exact nme ht (by decide) | exact nmq ht (by decide) | decide | (intro z; simp only [List.mem_cons, List.not_mem_nil, or_false] at z <;> omega) | omega))
    have re248 : RE K H206 w b s1.toInt := RE.ref re204 hTH163 gw gb (fun k hk => MF.r mf213 (by omega) (by intro z; simp only [List.mem_cons, List.not_mem_nil, or_false] at z; omega)) (fun q t hq ht => x_lt hTH163 kH206 hq (by first | exact nmr ht (by decide) | exact nmo ht (by decide) | exact nme ht (by decide) | exact nmq ht (by decide) | decide | (intro z; simp only [List.mem_cons, List.not_mem_nil, or_false] at z <;> omega) | omega))
    refine lv_pop hx hb dL_law_442 rfl ?_
    refine lv_goto (tgt := 1509) hx hb dL_law_443 (by decide) ?_
    have cfin := i_cl (x := x208) bx208.1
    exact nx G H206 locsH206 _ _ ls ⟨hTH206, hN, ga, gb, g209, g210, g211, g212, ⟨(by rw [← m237, ← ex208]; omega), (by rw [← m234, ← m216, ← m238]; exact r1), (by rw [← m234, ← m217, ← m239]; exact r4), (by rw [← m234, ← m218, ← m240]; exact r5), (by rw [← m234, ← m219, ← m241]; exact r10), (by rw [← m234, ← m220, ← m242]; exact r13), (by rw [← m234, ← m221, ← m243]; exact r16)⟩, Or.inr ⟨kq, m236, gkq, (by rw [← m245]; exact h70), (by rw [← m222, ← m246, ← m223]; exact q1), (by rw [← m224, ← m246, ← m225]; exact q4), (by rw [← m226, ← m246, ← m227]; exact q5), (by rw [← m228, ← m246, ← m229]; exact q10), (by rw [← m230, ← m246, ← m231]; exact q13), (by rw [← m232, ← m246, ← m233]; exact q16), (by rw [← m246, ← m222]; exact RKI.cast rk247 (by omega)), (by rw [← m226]; omega), (by rw [← m226]; omega)⟩, (by unfold TB; rw [← m235, ← m244, ← ex208]; exact TBR.of htr f214 f215 (by omega)), (by unfold RELE; rw [← m234, ← m238, ← m218]; exact ⟨RE.cast re248 (by omega), by omega, by omega⟩), hSH206⟩ hl ⟨hc, hs, fun h => by have h1 := h.symm.trans m236; cases h1⟩