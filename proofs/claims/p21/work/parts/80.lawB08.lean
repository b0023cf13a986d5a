set_option maxRecDepth 100000 in
set_option maxHeartbeats 8000000 in
theorem lw_c32 {p : Program} {l : Launch} {e : Env} {s : State} {m : MethodId} {below : List Frame} {meth : Method} {c : Code} {K : KE} {b0 L : Nat} {xs : Nat → Int32} {G : Nat → Option Nat} {H : Heap} {locs : List Loc} {a b : Nat} {cells slots : Nat} {ls : Array Slot} {i : Int32} {n : Nat} (D : LC p K s m meth c b0 L xs) (S : SX K s G H locs a b) (hl : lv_has ls 4 [(3, .int i), (2, .ref b), (1, .ref a), (0, .ref b0)]) (hi : 0 ≤ i.toInt ∧ i.toInt + 6 ≤ L) (hn : n ≤ 511) (hB : BD K H a cells slots) (nx : ∀ (G : Nat → Option Nat) (H : Heap) (locs : List Loc) (cells slots : Nat) (ls : Array Slot), SX K s G H locs a b → lv_has ls 4 [(3, .int i), (2, .ref b), (1, .ref a), (0, .ref b0)] → BD K H a cells slots → W p l e room_1 s m #[Value.ref b0] below meth c H locs cells slots (lw_Z below #[Value.ref b0] s) (F0 m 1509 ls [])) : W p l e room_1 s m #[Value.ref b0] below meth c H locs cells slots (lw_Z below #[Value.ref b0] s) (F0 m 1404 ls []) := by
  have hI := hi
  obtain ⟨C, hX, hbl, hL⟩ := id D
  obtain ⟨hx, hb, hml, hown, hts, hKT, hr, hlocks, hnm⟩ := id C
  obtain ⟨hT, hN, ga, gb, cg, tu, wd, im, ⟨rt, r1, r4, r5, r10, r13, r16⟩, hk, hrb, hS⟩ := S
  obtain ⟨hc, hs, hB0⟩ := hB
  have n_m1 : ((-1) : Int32).toInt = -1 := rfl
  have n_0 : (0 : Int32).toInt = 0 := rfl
  have n_1 : (1 : Int32).toInt = 1 := rfl
  have n_2 : (2 : Int32).toInt = 2 := rfl
  have n_3 : (3 : Int32).toInt = 3 := rfl
  obtain ⟨w, ew⟩ : ∃ z : Nat, z = fR H a (K.1.2 9 0) := ⟨_, rfl⟩
  have gw := ty_fr (q := w) (k := 0) (u := 0) ew hT ga rg_68 rfl
  rw [← ew] at r1 r4 r5 r10 r13 r16
  obtain ⟨ta, eta⟩ : ∃ z : Int32, z = fI H a (K.1.2 9 3) := ⟨_, rfl⟩
  rw [← eta] at rt
  obtain ⟨tb, etb⟩ : ∃ z : Int32, z = fI H b (K.1.2 10 18) := ⟨_, rfl⟩
  rw [← etb] at rt
  obtain ⟨s1, es1⟩ : ∃ z : Int32, z = fI H w (K.1.2 8 1) := ⟨_, rfl⟩
  rw [← es1] at r1
  obtain ⟨y1, ey1⟩ : ∃ z : Int32, z = fI H b (K.1.2 10 1) := ⟨_, rfl⟩
  rw [← ey1] at r1
  obtain ⟨s4, es4⟩ : ∃ z : Int32, z = fI H w (K.1.2 8 4) := ⟨_, rfl⟩
  rw [← es4] at r4
  obtain ⟨y4, ey4⟩ : ∃ z : Int32, z = fI H b (K.1.2 10 2) := ⟨_, rfl⟩
  rw [← ey4] at r4
  obtain ⟨s5, es5⟩ : ∃ z : Int32, z = fI H w (K.1.2 8 5) := ⟨_, rfl⟩
  rw [← es5] at r5
  obtain ⟨y5, ey5⟩ : ∃ z : Int32, z = fI H b (K.1.2 10 3) := ⟨_, rfl⟩
  rw [← ey5] at r5
  obtain ⟨s10, es10⟩ : ∃ z : Int32, z = fI H w (K.1.2 8 10) := ⟨_, rfl⟩
  rw [← es10] at r10
  obtain ⟨y10, ey10⟩ : ∃ z : Int32, z = fI H b (K.1.2 10 59) := ⟨_, rfl⟩
  rw [← ey10] at r10
  obtain ⟨s13, es13⟩ : ∃ z : Int32, z = fI H w (K.1.2 8 13) := ⟨_, rfl⟩
  rw [← es13] at r13
  obtain ⟨y13, ey13⟩ : ∃ z : Int32, z = fI H b (K.1.2 10 62) := ⟨_, rfl⟩
  rw [← ey13] at r13
  obtain ⟨s16, es16⟩ : ∃ z : Int32, z = fI H w (K.1.2 8 16) := ⟨_, rfl⟩
  rw [← es16] at r16
  obtain ⟨y16, ey16⟩ : ∃ z : Int32, z = fI H b (K.1.2 10 65) := ⟨_, rfl⟩
  rw [← ey16] at r16
  obtain ⟨bq, ebq⟩ : ∃ z : Nat, z = fR H w (K.1.2 8 0) := ⟨_, rfl⟩
  have gbq := ty_fr (q := bq) (k := 0) (u := 25) ebq hT gw rg_0 rfl
  obtain ⟨aq, eaq⟩ : ∃ z : Nat, z = fR H b (K.1.2 10 50) := ⟨_, rfl⟩
  have gaq := ty_fr (q := aq) (k := 50) (u := 146) eaq hT gb rg_112 rfl
  have bs1 := ty_fi (x := s1) (k := 1) es1 hT gw rg_0 rfl
  have by1 := ty_fi (x := y1) (k := 1) ey1 hT gb rg_112 rfl
  obtain ⟨db, vr, vt⟩ := hrb
  rw [← ew, ← ebq] at db
  rw [← ew, ← ebq, ← eaq, ← ey1] at vr
  rw [← eaq, ← ey1] at vt
  obtain ⟨cz101, ecz101⟩ : ∃ f : Nat → Int32, ∀ j : Nat, j < 10 → f j = fI H (fR H bq j) (K.1.2 0 14) := ⟨_, fun _ _ => rfl⟩
  obtain ⟨rz102, erz102⟩ : ∃ f : Nat → Int32, ∀ j : Nat, j < 10 → f j = fI H aq j := ⟨_, fun _ _ => rfl⟩
  have rel : ∀ j : Nat, j < 10 → (j : Int) < y1.toInt → cz101 j = rz102 j := fun j h1 h2 => by rw [ecz101 j h1, erz102 j h1]; exact vr j h1 h2
  clear vr
  have tl : ∀ j : Nat, j < 10 → y1.toInt ≤ (j : Int) → rz102 j = 0 := fun j h1 h2 => by rw [erz102 j h1]; exact vt j h1 h2
  clear vt
  rcases hk with ⟨kn, h70⟩ | ⟨kq, kn, gkq, h70, q1, q4, q5, q10, q13, q16, dbk, vk, vkt⟩
  · skip
    obtain ⟨hi, ehi⟩ : ∃ z : Int32, z = fI H b (K.1.2 10 70) := ⟨_, rfl⟩
    rw [← ehi] at h70
    obtain ⟨hc0, hs0⟩ := hB0 kn
    obtain ⟨iq, eiq⟩ : ∃ z : Nat, z = fR H b (K.1.2 10 73) := ⟨_, rfl⟩
    have giq := ty_fr (q := iq) (k := 73) (u := 162) eiq hT gb rg_112 rfl
    refine lv_aload_n hx hb dL_law_1404 rfl (lv_at hl 2 rfl) ?_
    refine lv_aload_n hx hb dL_law_1405 rfl (lv_at hl 3 rfl) ?_
    refine lv_iload_n hx hb dL_law_1406 rfl (lv_at hl 0 rfl) ?_
    refine lv_iconst (v := 1) hx hb dL_law_1407 (by decide) ?_
    refine lv_iadd hx hb dL_law_1408 ?_
    refine lv_topi (fun x103 ex103 => ?_)
    obtain ⟨tx103, ejx103, evx103⟩ := lw_ix (k := 1) ex103 hI hL rfl (by decide)
    clear tx103
    refine va_sld hx hb hX hbl (Nat.not_le.mpr hbl) hS (vp_in_iff.mpr evx103) dL_law_1409 ?_
    refine W.eq (g2 := F0 m 1410 ls [.int (xs (i.toNatClampNeg + 1)), .ref a]) (congrArg (fun z => F0 m 1410 ls [.int (xs z), .ref a]) ejx103) ?_
    refine lv_aload_n hx hb dL_law_1410 rfl (lv_at hl 3 rfl) ?_
    refine lv_iload_n hx hb dL_law_1411 rfl (lv_at hl 0 rfl) ?_
    refine lv_iconst (v := 2) hx hb dL_law_1412 (by decide) ?_
    refine lv_iadd hx hb dL_law_1413 ?_
    refine lv_topi (fun x104 ex104 => ?_)
    obtain ⟨tx104, ejx104, evx104⟩ := lw_ix (k := 2) ex104 hI hL rfl (by decide)
    clear tx104
    refine va_sld hx hb hX hbl (Nat.not_le.mpr hbl) hS (vp_in_iff.mpr evx104) dL_law_1414 ?_
    refine W.eq (g2 := F0 m 1415 ls [.int (xs (i.toNatClampNeg + 2)), .int (xs (i.toNatClampNeg + 1)), .ref a]) (congrArg (fun z => F0 m 1415 ls [.int (xs z), .int (xs (i.toNatClampNeg + 1)), .ref a]) ejx104) ?_
    refine lv_aload_n hx hb dL_law_1415 rfl (lv_at hl 3 rfl) ?_
    refine lv_iload_n hx hb dL_law_1416 rfl (lv_at hl 0 rfl) ?_
    refine lv_iconst (v := 3) hx hb dL_law_1417 (by decide) ?_
    refine lv_iadd hx hb dL_law_1418 ?_
    refine lv_topi (fun x105 ex105 => ?_)
    obtain ⟨tx105, ejx105, evx105⟩ := lw_ix (k := 3) ex105 hI hL rfl (by decide)
    clear tx105
    refine va_sld hx hb hX hbl (Nat.not_le.mpr hbl) hS (vp_in_iff.mpr evx105) dL_law_1419 ?_
    refine W.eq (g2 := F0 m 1420 ls [.int (xs (i.toNatClampNeg + 3)), .int (xs (i.toNatClampNeg + 2)), .int (xs (i.toNatClampNeg + 1)), .ref a]) (congrArg (fun z => F0 m 1420 ls [.int (xs z), .int (xs (i.toNatClampNeg + 2)), .int (xs (i.toNatClampNeg + 1)), .ref a]) ejx105) ?_
    refine x_V (As := [.int (xs (i.toNatClampNeg + 1)), .int (xs (i.toNatClampNeg + 2)), .int (xs (i.toNatClampNeg + 3))]) (rest := []) C (a_X9_enough l K G H ((xs (i.toNatClampNeg + 1))) ((xs (i.toNatClampNeg + 2))) ((xs (i.toNatClampNeg + 3))) hT ga) yo_X9_enough wM_L_149 ⟨⟨by decide, by decide⟩, show _ ≤ 1200000 from Nat.le_trans hc (by decide), show _ ≤ 5502250 from Nat.le_trans hs (by decide)⟩ (x_rv C hT (ci := 9) rfl ga rg_68) rfl hl.1 rfl (Nat.le_of_ble_eq_true rfl) dL_law_1420 hS (AE_new hN hS.1) (fun vH106 H106 locsH106 pH106 zH106 kH106 hSH106 => ?_)
    obtain ⟨x107, hvH106, hTH106⟩ := pH106
    subst hvH106
    have g108 : CG (avw K H106 b) := CG.congr (fun k hk j => av_eff hT kH106 gb (by decide) (CG_eff [83, 84] (by decide) k hk)) cg
    have g109 : TU (avw K H106 b) (svw K H106 b) := TU.congr (fun k hk j => av_eff hT kH106 gb (by decide) (TU_eff [83, 84] (by decide) k hk)) (fun k hk => sv_eff hT kH106 gb (by decide)) tu
    have g110 : WD (avw K H106 b) := WD.congr (fun k hk j => av_eff hT kH106 gb (by decide) (WD_eff [83, 84] (by decide) k hk)) wd
    have g111 : IM (avw K H106 b) := IM.congr (fun k hk j => av_eff hT kH106 gb (by decide) (IM_eff [83, 84] (by decide) k hk)) im
    have m112 := (ew).trans (fR_kept (x_lt hT kH106 ga (by decide))).symm
    have m113 := (eta).trans (fI_kept (x_lt hT kH106 ga (by decide))).symm
    have m114 := (etb).trans (fI_kept (x_lt hT kH106 gb (by decide))).symm
    have m115 := (es1).trans (fI_kept (x_lt hT kH106 gw (by decide))).symm
    have m116 := (ey1).trans (fI_kept (x_lt hT kH106 gb (by decide))).symm
    have m117 := (es4).trans (fI_kept (x_lt hT kH106 gw (by decide))).symm
    have m118 := (ey4).trans (fI_kept (x_lt hT kH106 gb (by decide))).symm
    have m119 := (es5).trans (fI_kept (x_lt hT kH106 gw (by decide))).symm
    have m120 := (ey5).trans (fI_kept (x_lt hT kH106 gb (by decide))).symm
    have m121 := (es10).trans (fI_kept (x_lt hT kH106 gw (by decide))).symm
    have m122 := (ey10).trans (fI_kept (x_lt hT kH106 gb (by decide))).symm
    have m123 := (es13).trans (fI_kept (x_lt hT kH106 gw (by decide))).symm
    have m124 := (ey13).trans (fI_kept (x_lt hT kH106 gb (by decide))).symm
    have m125 := (es16).trans (fI_kept (x_lt hT kH106 gw (by decide))).symm
    have m126 := (ey16).trans (fI_kept (x_lt hT kH106 gb (by decide))).symm
    have m127 := (ebq).trans (fR_kept (x_lt hT kH106 gw (by decide))).symm
    have m128 := (eaq).trans (fR_kept (x_lt hT kH106 gb (by decide))).symm
    have m129 := (ehi).trans (fI_kept (x_lt hT kH106 gb (by decide))).symm
    have m130 := (fV_kept (x_lt hT kH106 ga (by decide))).trans kn
    have m131 := (eiq).trans (fR_kept (x_lt hT kH106 gb (by decide))).symm
    refine W.eq (g2 := F0 m 1423 ls [.int x107]) rfl ?_
    have v132 : ∀ j : Nat, j < 10 → cz101 j = fI H106 (fR H106 bq j) (K.1.2 0 14) := fun j h => (ecz101 j h).trans (by rw [fR_kept (x_lt hT kH106 gbq (by decide))]; exact (fI_kept (x_lt hT kH106 (bar_g hT gbq j h) (by decide))).symm)
    have v133 : ∀ j : Nat, j < 10 → rz102 j = fI H106 aq j := fun j h => (erz102 j h).trans (fI_kept (x_lt hT kH106 gaq (by decide))).symm
    have d134 := DB.kept db (x_lt hT kH106 gbq (by decide))
    refine lv_pop hx hb dL_law_1423 rfl ?_
    refine lv_aload_n hx hb dL_law_1424 rfl (lv_at hl 1 rfl) ?_
    refine lv_aload_n hx hb dL_law_1425 rfl (lv_at hl 3 rfl) ?_
    refine lv_iload_n hx hb dL_law_1426 rfl (lv_at hl 0 rfl) ?_
    refine lv_iconst (v := 1) hx hb dL_law_1427 (by decide) ?_
    refine lv_iadd hx hb dL_law_1428 ?_
    refine lv_topi (fun x135 ex135 => ?_)
    obtain ⟨tx135, ejx135, evx135⟩ := lw_ix (k := 1) ex135 hI hL rfl (by decide)
    clear tx135
    refine va_sld hx hb hX hbl (Nat.not_le.mpr hbl) hSH106 (vp_in_iff.mpr evx135) dL_law_1429 ?_
    refine W.eq (g2 := F0 m 1430 ls [.int (xs (i.toNatClampNeg + 1)), .ref b]) (congrArg (fun z => F0 m 1430 ls [.int (xs z), .ref b]) ejx135) ?_
    refine lv_aload_n hx hb dL_law_1430 rfl (lv_at hl 3 rfl) ?_
    refine lv_iload_n hx hb dL_law_1431 rfl (lv_at hl 0 rfl) ?_
    refine lv_iconst (v := 2) hx hb dL_law_1432 (by decide) ?_
    refine lv_iadd hx hb dL_law_1433 ?_
    refine lv_topi (fun x136 ex136 => ?_)
    obtain ⟨tx136, ejx136, evx136⟩ := lw_ix (k := 2) ex136 hI hL rfl (by decide)
    clear tx136
    refine va_sld hx hb hX hbl (Nat.not_le.mpr hbl) hSH106 (vp_in_iff.mpr evx136) dL_law_1434 ?_
    refine W.eq (g2 := F0 m 1435 ls [.int (xs (i.toNatClampNeg + 2)), .int (xs (i.toNatClampNeg + 1)), .ref b]) (congrArg (fun z => F0 m 1435 ls [.int (xs z), .int (xs (i.toNatClampNeg + 1)), .ref b]) ejx136) ?_
    refine lv_aload_n hx hb dL_law_1435 rfl (lv_at hl 3 rfl) ?_
    refine lv_iload_n hx hb dL_law_1436 rfl (lv_at hl 0 rfl) ?_
    refine lv_iconst (v := 3) hx hb dL_law_1437 (by decide) ?_
    refine lv_iadd hx hb dL_law_1438 ?_
    refine lv_topi (fun x137 ex137 => ?_)
    obtain ⟨tx137, ejx137, evx137⟩ := lw_ix (k := 3) ex137 hI hL rfl (by decide)
    clear tx137
    refine va_sld hx hb hX hbl (Nat.not_le.mpr hbl) hSH106 (vp_in_iff.mpr evx137) dL_law_1439 ?_
    refine W.eq (g2 := F0 m 1440 ls [.int (xs (i.toNatClampNeg + 3)), .int (xs (i.toNatClampNeg + 2)), .int (xs (i.toNatClampNeg + 1)), .ref b]) (congrArg (fun z => F0 m 1440 ls [.int (xs z), .int (xs (i.toNatClampNeg + 2)), .int (xs (i.toNatClampNeg + 1)), .ref b]) ejx137) ?_
    refine x_V (As := [.int (xs (i.toNatClampNeg + 1)), .int (xs (i.toNatClampNeg + 2)), .int (xs (i.toNatClampNeg + 3))]) (rest := []) C (a_X10_enough l K G H106 ((xs (i.toNatClampNeg + 1))) ((xs (i.toNatClampNeg + 2))) ((xs (i.toNatClampNeg + 3))) hTH106 gb g108 g109 g110 g111) yo_X10_enough wM_L_152 ⟨⟨by decide, by decide⟩, show _ ≤ 1200000 from Nat.le_trans hc (by decide), show _ ≤ 5502250 from Nat.le_trans hs (by decide)⟩ (x_rv C hTH106 (ci := 10) rfl gb rg_112) rfl hl.1 rfl (Nat.le_of_ble_eq_true rfl) dL_law_1440 hSH106 (AE_new hN hSH106.1) (fun vH138 H138 locsH138 pH138 zH138 kH138 hSH138 => ?_)
    obtain ⟨x139, hvH138, g140, g141, g142, g143, mf144, hTH138⟩ := pH138
    subst hvH138
    have m145 := (m112).trans (fR_kept (x_lt hTH106 kH138 ga (by decide))).symm
    have m146 := (m113).trans (fI_kept (x_lt hTH106 kH138 ga (by decide))).symm
    have m147 := (m115).trans (fI_kept (x_lt hTH106 kH138 gw (by decide))).symm
    have m148 := (m117).trans (fI_kept (x_lt hTH106 kH138 gw (by decide))).symm
    have m149 := (m119).trans (fI_kept (x_lt hTH106 kH138 gw (by decide))).symm
    have m150 := (m121).trans (fI_kept (x_lt hTH106 kH138 gw (by decide))).symm
    have m151 := (m123).trans (fI_kept (x_lt hTH106 kH138 gw (by decide))).symm
    have m152 := (m125).trans (fI_kept (x_lt hTH106 kH138 gw (by decide))).symm
    have m153 := (m127).trans (fR_kept (x_lt hTH106 kH138 gw (by decide))).symm
    have m154 := (fV_kept (x_lt hTH106 kH138 ga (by decide))).trans m130
    have m155 := (m114).trans (MF.i mf144 (k := 18) (by decide) (by decide)).symm
    have m156 := (m116).trans (MF.i mf144 (k := 1) (by decide) (by decide)).symm
    have m157 := (m118).trans (MF.i mf144 (k := 2) (by decide) (by decide)).symm
    have m158 := (m120).trans (MF.i mf144 (k := 3) (by decide) (by decide)).symm
    have m159 := (m122).trans (MF.i mf144 (k := 59) (by decide) (by decide)).symm
    have m160 := (m124).trans (MF.i mf144 (k := 62) (by decide) (by decide)).symm
    have m161 := (m126).trans (MF.i mf144 (k := 65) (by decide) (by decide)).symm
    have m162 := (m128).trans (MF.r mf144 (k := 50) (by decide) (by decide)).symm
    have m163 := (m129).trans (MF.i mf144 (k := 70) (by decide) (by decide)).symm
    have m164 := (m131).trans (MF.r mf144 (k := 73) (by decide) (by decide)).symm
    refine W.eq (g2 := F0 m 1443 ls [.int x139]) rfl ?_
    have v165 : ∀ j : Nat, j < 10 → cz101 j = fI H138 (fR H138 bq j) (K.1.2 0 14) := fun j h => (v132 j h).trans (by rw [fR_kept (x_lt hTH106 kH138 gbq (by decide))]; exact (fI_kept (x_lt hTH106 kH138 (bar_g hTH106 gbq j h) (by decide))).symm)
    have v166 : ∀ j : Nat, j < 10 → rz102 j = fI H138 aq j := fun j h => (v133 j h).trans (fI_kept (x_lt hTH106 kH138 gaq (by decide))).symm
    have d167 := DB.kept d134 (x_lt hTH106 kH138 gbq (by decide))
    refine lv_pop hx hb dL_law_1443 rfl ?_
    refine lv_goto (tgt := 1509) hx hb dL_law_1444 (by decide) ?_
    exact nx G H138 locsH138 _ _ ls ⟨hTH138, hN, ga, gb, g140, g141, g142, g143, ⟨(by rw [← m146, ← m155]; exact rt), (by rw [← m145, ← m147, ← m156]; exact r1), (by rw [← m145, ← m148, ← m157]; exact r4), (by rw [← m145, ← m149, ← m158]; exact r5), (by rw [← m145, ← m150, ← m159]; exact r10), (by rw [← m145, ← m151, ← m160]; exact r13), (by rw [← m145, ← m152, ← m161]; exact r16)⟩, Or.inl ⟨m154, (by rw [← m163]; exact h70)⟩, (by unfold RB; rw [← m145, ← m153, ← m162, ← m156]; exact ⟨d167, fun j h1 h2 => by rw [← v165 j h1, ← v166 j h1]; exact rel j h1 (by omega), fun j h1 h2 => by rw [← v166 j h1]; exact tl j h1 (by omega)⟩), hSH138⟩ hl ⟨hc, hs, fun _ => ⟨hc0, hs0⟩⟩
  · skip
    obtain ⟨hi, ehi⟩ : ∃ z : Int32, z = fI H b (K.1.2 10 70) := ⟨_, rfl⟩
    rw [← ehi] at h70
    obtain ⟨iq, eiq⟩ : ∃ z : Nat, z = fR H b (K.1.2 10 73) := ⟨_, rfl⟩
    have giq := ty_fr (q := iq) (k := 73) (u := 162) eiq hT gb rg_112 rfl
    rw [← eiq] at q1 q4 q5 q10 q13 q16
    obtain ⟨k1, ek1⟩ : ∃ z : Int32, z = fI H kq (K.1.2 8 1) := ⟨_, rfl⟩
    rw [← ek1] at q1
    obtain ⟨i1, ei1⟩ : ∃ z : Int32, z = fI H iq ((0 : Int32).toNatClampNeg) := ⟨_, rfl⟩
    rw [← ei1] at q1
    obtain ⟨k4, ek4⟩ : ∃ z : Int32, z = fI H kq (K.1.2 8 4) := ⟨_, rfl⟩
    rw [← ek4] at q4
    obtain ⟨i4, ei4⟩ : ∃ z : Int32, z = fI H iq ((1 : Int32).toNatClampNeg) := ⟨_, rfl⟩
    rw [← ei4] at q4
    obtain ⟨k5, ek5⟩ : ∃ z : Int32, z = fI H kq (K.1.2 8 5) := ⟨_, rfl⟩
    rw [← ek5] at q5
    obtain ⟨i5, ei5⟩ : ∃ z : Int32, z = fI H iq ((2 : Int32).toNatClampNeg) := ⟨_, rfl⟩
    rw [← ei5] at q5
    obtain ⟨k10, ek10⟩ : ∃ z : Int32, z = fI H kq (K.1.2 8 10) := ⟨_, rfl⟩
    rw [← ek10] at q10
    obtain ⟨i10, ei10⟩ : ∃ z : Int32, z = fI H iq ((3 : Int32).toNatClampNeg) := ⟨_, rfl⟩
    rw [← ei10] at q10
    obtain ⟨k13, ek13⟩ : ∃ z : Int32, z = fI H kq (K.1.2 8 13) := ⟨_, rfl⟩
    rw [← ek13] at q13
    obtain ⟨i13, ei13⟩ : ∃ z : Int32, z = fI H iq ((4 : Int32).toNatClampNeg) := ⟨_, rfl⟩
    rw [← ei13] at q13
    obtain ⟨k16, ek16⟩ : ∃ z : Int32, z = fI H kq (K.1.2 8 16) := ⟨_, rfl⟩
    rw [← ek16] at q16
    obtain ⟨i16, ei16⟩ : ∃ z : Int32, z = fI H iq ((5 : Int32).toNatClampNeg) := ⟨_, rfl⟩
    rw [← ei16] at q16
    obtain ⟨kb, ekb⟩ : ∃ z : Nat, z = fR H kq (K.1.2 8 0) := ⟨_, rfl⟩
    have gkb := ty_fr (q := kb) (k := 0) (u := 59) ekb hT gkq rg_34 rfl
    have bk1 := ty_fi (x := k1) (k := 1) ek1 hT gkq rg_34 rfl
    rw [← ekb] at dbk
    rw [← ekb, ← eiq, ← ek1] at vk
    rw [← eiq, ← ek1] at vkt
    obtain ⟨kz168, ekz168⟩ : ∃ f : Nat → Int32, ∀ j : Nat, j < 10 → f j = fI H (fR H kb j) (K.1.2 0 14) := ⟨_, fun _ _ => rfl⟩
    obtain ⟨iz169, eiz169⟩ : ∃ f : Nat → Int32, ∀ j : Nat, j < 10 → f j = fI H iq (11 + 6 * j) := ⟨_, fun _ _ => rfl⟩
    have vk0 : ∀ j : Nat, j < 10 → (j : Int) < k1.toInt → kz168 j = iz169 j := fun j h1 h2 => by rw [ekz168 j h1, eiz169 j h1]; exact vk j h1 h2
    clear vk
    have vk1 : ∀ j : Nat, j < 10 → k1.toInt ≤ (j : Int) → iz169 j = 0 := fun j h1 h2 => by rw [eiz169 j h1]; exact vkt j h1 h2
    clear vkt
    refine lv_aload_n hx hb dL_law_1404 rfl (lv_at hl 2 rfl) ?_
    refine lv_aload_n hx hb dL_law_1405 rfl (lv_at hl 3 rfl) ?_
    refine lv_iload_n hx hb dL_law_1406 rfl (lv_at hl 0 rfl) ?_
    refine lv_iconst (v := 1) hx hb dL_law_1407 (by decide) ?_
    refine lv_iadd hx hb dL_law_1408 ?_
    refine lv_topi (fun x170 ex170 => ?_)
    obtain ⟨tx170, ejx170, evx170⟩ := lw_ix (k := 1) ex170 hI hL rfl (by decide)
    clear tx170
    refine va_sld hx hb hX hbl (Nat.not_le.mpr hbl) hS (vp_in_iff.mpr evx170) dL_law_1409 ?_
    refine W.eq (g2 := F0 m 1410 ls [.int (xs (i.toNatClampNeg + 1)), .ref a]) (congrArg (fun z => F0 m 1410 ls [.int (xs z), .ref a]) ejx170) ?_
    refine lv_aload_n hx hb dL_law_1410 rfl (lv_at hl 3 rfl) ?_
    refine lv_iload_n hx hb dL_law_1411 rfl (lv_at hl 0 rfl) ?_
    refine lv_iconst (v := 2) hx hb dL_law_1412 (by decide) ?_
    refine lv_iadd hx hb dL_law_1413 ?_
    refine lv_topi (fun x171 ex171 => ?_)
    obtain ⟨tx171, ejx171, evx171⟩ := lw_ix (k := 2) ex171 hI hL rfl (by decide)
    clear tx171
    refine va_sld hx hb hX hbl (Nat.not_le.mpr hbl) hS (vp_in_iff.mpr evx171) dL_law_1414 ?_
    refine W.eq (g2 := F0 m 1415 ls [.int (xs (i.toNatClampNeg + 2)), .int (xs (i.toNatClampNeg + 1)), .ref a]) (congrArg (fun z => F0 m 1415 ls [.int (xs z), .int (xs (i.toNatClampNeg + 1)), .ref a]) ejx171) ?_
    refine lv_aload_n hx hb dL_law_1415 rfl (lv_at hl 3 rfl) ?_
    refine lv_iload_n hx hb dL_law_1416 rfl (lv_at hl 0 rfl) ?_
    refine lv_iconst (v := 3) hx hb dL_law_1417 (by decide) ?_
    refine lv_iadd hx hb dL_law_1418 ?_
    refine lv_topi (fun x172 ex172 => ?_)
    obtain ⟨tx172, ejx172, evx172⟩ := lw_ix (k := 3) ex172 hI hL rfl (by decide)
    clear tx172
    refine va_sld hx hb hX hbl (Nat.not_le.mpr hbl) hS (vp_in_iff.mpr evx172) dL_law_1419 ?_
    refine W.eq (g2 := F0 m 1420 ls [.int (xs (i.toNatClampNeg + 3)), .int (xs (i.toNatClampNeg + 2)), .int (xs (i.toNatClampNeg + 1)), .ref a]) (congrArg (fun z => F0 m 1420 ls [.int (xs z), .int (xs (i.toNatClampNeg + 2)), .int (xs (i.toNatClampNeg + 1)), .ref a]) ejx172) ?_
    refine x_V (As := [.int (xs (i.toNatClampNeg + 1)), .int (xs (i.toNatClampNeg + 2)), .int (xs (i.toNatClampNeg + 3))]) (rest := []) C (a_X9_enough l K G H ((xs (i.toNatClampNeg + 1))) ((xs (i.toNatClampNeg + 2))) ((xs (i.toNatClampNeg + 3))) hT ga) yo_X9_enough wM_L_149 ⟨⟨by decide, by decide⟩, show _ ≤ 1200000 from Nat.le_trans hc (by decide), show _ ≤ 5502250 from Nat.le_trans hs (by decide)⟩ (x_rv C hT (ci := 9) rfl ga rg_68) rfl hl.1 rfl (Nat.le_of_ble_eq_true rfl) dL_law_1420 hS (AE_new hN hS.1) (fun vH173 H173 locsH173 pH173 zH173 kH173 hSH173 => ?_)
    obtain ⟨x174, hvH173, hTH173⟩ := pH173
    subst hvH173
    have g175 : CG (avw K H173 b) := CG.congr (fun k hk j => av_eff hT kH173 gb (by decide) (CG_eff [83, 84] (by decide) k hk)) cg
    have g176 : TU (avw K H173 b) (svw K H173 b) := TU.congr (fun k hk j => av_eff hT kH173 gb (by decide) (TU_eff [83, 84] (by decide) k hk)) (fun k hk => sv_eff hT kH173 gb (by decide)) tu
    have g177 : WD (avw K H173 b) := WD.congr (fun k hk j => av_eff hT kH173 gb (by decide) (WD_eff [83, 84] (by decide) k hk)) wd
    have g178 : IM (avw K H173 b) := IM.congr (fun k hk j => av_eff hT kH173 gb (by decide) (IM_eff [83, 84] (by decide) k hk)) im
    have m179 := (ew).trans (fR_kept (x_lt hT kH173 ga (by decide))).symm
    have m180 := (eta).trans (fI_kept (x_lt hT kH173 ga (by decide))).symm
    have m181 := (etb).trans (fI_kept (x_lt hT kH173 gb (by decide))).symm
    have m182 := (es1).trans (fI_kept (x_lt hT kH173 gw (by decide))).symm
    have m183 := (ey1).trans (fI_kept (x_lt hT kH173 gb (by decide))).symm
    have m184 := (es4).trans (fI_kept (x_lt hT kH173 gw (by decide))).symm
    have m185 := (ey4).trans (fI_kept (x_lt hT kH173 gb (by decide))).symm
    have m186 := (es5).trans (fI_kept (x_lt hT kH173 gw (by decide))).symm
    have m187 := (ey5).trans (fI_kept (x_lt hT kH173 gb (by decide))).symm
    have m188 := (es10).trans (fI_kept (x_lt hT kH173 gw (by decide))).symm
    have m189 := (ey10).trans (fI_kept (x_lt hT kH173 gb (by decide))).symm
    have m190 := (es13).trans (fI_kept (x_lt hT kH173 gw (by decide))).symm
    have m191 := (ey13).trans (fI_kept (x_lt hT kH173 gb (by decide))).symm
    have m192 := (es16).trans (fI_kept (x_lt hT kH173 gw (by decide))).symm
    have m193 := (ey16).trans (fI_kept (x_lt hT kH173 gb (by decide))).symm
    have m194 := (ebq).trans (fR_kept (x_lt hT kH173 gw (by decide))).symm
    have m195 := (eaq).trans (fR_kept (x_lt hT kH173 gb (by decide))).symm
    have m196 := (ehi).trans (fI_kept (x_lt hT kH173 gb (by decide))).symm
    have m197 := (fV_kept (x_lt hT kH173 ga (by decide))).trans kn
    have m198 := (eiq).trans (fR_kept (x_lt hT kH173 gb (by decide))).symm
    have m199 := (ek1).trans (fI_kept (x_lt hT kH173 gkq (by decide))).symm
    have m200 := (ei1).trans (fI_kept (x_lt hT kH173 giq (by decide))).symm
    have m201 := (ek4).trans (fI_kept (x_lt hT kH173 gkq (by decide))).symm
    have m202 := (ei4).trans (fI_kept (x_lt hT kH173 giq (by decide))).symm
    have m203 := (ek5).trans (fI_kept (x_lt hT kH173 gkq (by decide))).symm
    have m204 := (ei5).trans (fI_kept (x_lt hT kH173 giq (by decide))).symm
    have m205 := (ek10).trans (fI_kept (x_lt hT kH173 gkq (by decide))).symm
    have m206 := (ei10).trans (fI_kept (x_lt hT kH173 giq (by decide))).symm
    have m207 := (ek13).trans (fI_kept (x_lt hT kH173 gkq (by decide))).symm
    have m208 := (ei13).trans (fI_kept (x_lt hT kH173 giq (by decide))).symm
    have m209 := (ek16).trans (fI_kept (x_lt hT kH173 gkq (by decide))).symm
    have m210 := (ei16).trans (fI_kept (x_lt hT kH173 giq (by decide))).symm
    have m211 := (ekb).trans (fR_kept (x_lt hT kH173 gkq (by decide))).symm
    refine W.eq (g2 := F0 m 1423 ls [.int x174]) rfl ?_
    have v212 : ∀ j : Nat, j < 10 → cz101 j = fI H173 (fR H173 bq j) (K.1.2 0 14) := fun j h => (ecz101 j h).trans (by rw [fR_kept (x_lt hT kH173 gbq (by decide))]; exact (fI_kept (x_lt hT kH173 (bar_g hT gbq j h) (by decide))).symm)
    have v213 : ∀ j : Nat, j < 10 → rz102 j = fI H173 aq j := fun j h => (erz102 j h).trans (fI_kept (x_lt hT kH173 gaq (by decide))).symm
    have v214 : ∀ j : Nat, j < 10 → kz168 j = fI H173 (fR H173 kb j) (K.1.2 0 14) := fun j h => (ekz168 j h).trans (by rw [fR_kept (x_lt hT kH173 gkb (by decide))]; exact (fI_kept (x_lt hT kH173 (bar_h hT gkb j h) (by decide))).symm)
    have d215 := DB.kept dbk (x_lt hT kH173 gkb (by decide))
    have v216 : ∀ j : Nat, j < 10 → iz169 j = fI H173 iq (11 + 6 * j) := fun j h => (eiz169 j h).trans (fI_kept (x_lt hT kH173 giq (by decide))).symm
    have d217 := DB.kept db (x_lt hT kH173 gbq (by decide))
    refine lv_pop hx hb dL_law_1423 rfl ?_
    refine lv_aload_n hx hb dL_law_1424 rfl (lv_at hl 1 rfl) ?_
    refine lv_aload_n hx hb dL_law_1425 rfl (lv_at hl 3 rfl) ?_
    refine lv_iload_n hx hb dL_law_1426 rfl (lv_at hl 0 rfl) ?_
    refine lv_iconst (v := 1) hx hb dL_law_1427 (by decide) ?_
    refine lv_iadd hx hb dL_law_1428 ?_
    refine lv_topi (fun x218 ex218 => ?_)
    obtain ⟨tx218, ejx218, evx218⟩ := lw_ix (k := 1) ex218 hI hL rfl (by decide)
    clear tx218
    refine va_sld hx hb hX hbl (Nat.not_le.mpr hbl) hSH173 (vp_in_iff.mpr evx218) dL_law_1429 ?_
    refine W.eq (g2 := F0 m 1430 ls [.int (xs (i.toNatClampNeg + 1)), .ref b]) (congrArg (fun z => F0 m 1430 ls [.int (xs z), .ref b]) ejx218) ?_
    refine lv_aload_n hx hb dL_law_1430 rfl (lv_at hl 3 rfl) ?_
    refine lv_iload_n hx hb dL_law_1431 rfl (lv_at hl 0 rfl) ?_
    refine lv_iconst (v := 2) hx hb dL_law_1432 (by decide) ?_
    refine lv_iadd hx hb dL_law_1433 ?_
    refine lv_topi (fun x219 ex219 => ?_)
    obtain ⟨tx219, ejx219, evx219⟩ := lw_ix (k := 2) ex219 hI hL rfl (by decide)
    clear tx219
    refine va_sld hx hb hX hbl (Nat.not_le.mpr hbl) hSH173 (vp_in_iff.mpr evx219) dL_law_1434 ?_
    refine W.eq (g2 := F0 m 1435 ls [.int (xs (i.toNatClampNeg + 2)), .int (xs (i.toNatClampNeg + 1)), .ref b]) (congrArg (fun z => F0 m 1435 ls [.int (xs z), .int (xs (i.toNatClampNeg + 1)), .ref b]) ejx219) ?_
    refine lv_aload_n hx hb dL_law_1435 rfl (lv_at hl 3 rfl) ?_
    refine lv_iload_n hx hb dL_law_1436 rfl (lv_at hl 0 rfl) ?_
    refine lv_iconst (v := 3) hx hb dL_law_1437 (by decide) ?_
    refine lv_iadd hx hb dL_law_1438 ?_
    refine lv_topi (fun x220 ex220 => ?_)
    obtain ⟨tx220, ejx220, evx220⟩ := lw_ix (k := 3) ex220 hI hL rfl (by decide)
    clear tx220
    refine va_sld hx hb hX hbl (Nat.not_le.mpr hbl) hSH173 (vp_in_iff.mpr evx220) dL_law_1439 ?_
    refine W.eq (g2 := F0 m 1440 ls [.int (xs (i.toNatClampNeg + 3)), .int (xs (i.toNatClampNeg + 2)), .int (xs (i.toNatClampNeg + 1)), .ref b]) (congrArg (fun z => F0 m 1440 ls [.int (xs z), .int (xs (i.toNatClampNeg + 2)), .int (xs (i.toNatClampNeg + 1)), .ref b]) ejx220) ?_
    refine x_V (As := [.int (xs (i.toNatClampNeg + 1)), .int (xs (i.toNatClampNeg + 2)), .int (xs (i.toNatClampNeg + 3))]) (rest := []) C (a_X10_enough l K G H173 ((xs (i.toNatClampNeg + 1))) ((xs (i.toNatClampNeg + 2))) ((xs (i.toNatClampNeg + 3))) hTH173 gb g175 g176 g177 g178) yo_X10_enough wM_L_152 ⟨⟨by decide, by decide⟩, show _ ≤ 1200000 from Nat.le_trans hc (by decide), show _ ≤ 5502250 from Nat.le_trans hs (by decide)⟩ (x_rv C hTH173 (ci := 10) rfl gb rg_112) rfl hl.1 rfl (Nat.le_of_ble_eq_true rfl) dL_law_1440 hSH173 (AE_new hN hSH173.1) (fun vH221 H221 locsH221 pH221 zH221 kH221 hSH221 => ?_)
    obtain ⟨x222, hvH221, g223, g224, g225, g226, mf227, hTH221⟩ := pH221
    subst hvH221
    have m228 := (m179).trans (fR_kept (x_lt hTH173 kH221 ga (by decide))).symm
    have m229 := (m180).trans (fI_kept (x_lt hTH173 kH221 ga (by decide))).symm
    have m230 := (m182).trans (fI_kept (x_lt hTH173 kH221 gw (by decide))).symm
    have m231 := (m184).trans (fI_kept (x_lt hTH173 kH221 gw (by decide))).symm
    have m232 := (m186).trans (fI_kept (x_lt hTH173 kH221 gw (by decide))).symm
    have m233 := (m188).trans (fI_kept (x_lt hTH173 kH221 gw (by decide))).symm
    have m234 := (m190).trans (fI_kept (x_lt hTH173 kH221 gw (by decide))).symm
    have m235 := (m192).trans (fI_kept (x_lt hTH173 kH221 gw (by decide))).symm
    have m236 := (m194).trans (fR_kept (x_lt hTH173 kH221 gw (by decide))).symm
    have m237 := (fV_kept (x_lt hTH173 kH221 ga (by decide))).trans m197
    have m238 := (m199).trans (fI_kept (x_lt hTH173 kH221 gkq (by decide))).symm
    have m239 := (m200).trans (fI_kept (x_lt hTH173 kH221 giq (by decide))).symm
    have m240 := (m201).trans (fI_kept (x_lt hTH173 kH221 gkq (by decide))).symm
    have m241 := (m202).trans (fI_kept (x_lt hTH173 kH221 giq (by decide))).symm
    have m242 := (m203).trans (fI_kept (x_lt hTH173 kH221 gkq (by decide))).symm
    have m243 := (m204).trans (fI_kept (x_lt hTH173 kH221 giq (by decide))).symm
    have m244 := (m205).trans (fI_kept (x_lt hTH173 kH221 gkq (by decide))).symm
    have m245 := (m206).trans (fI_kept (x_lt hTH173 kH221 giq (by decide))).symm
    have m246 := (m207).trans (fI_kept (x_lt hTH173 kH221 gkq (by decide))).symm
    have m247 := (m208).trans (fI_kept (x_lt hTH173 kH221 giq (by decide))).symm
    have m248 := (m209).trans (fI_kept (x_lt hTH173 kH221 gkq (by decide))).symm
    have m249 := (m210).trans (fI_kept (x_lt hTH173 kH221 giq (by decide))).symm
    have m250 := (m211).trans (fR_kept (x_lt hTH173 kH221 gkq (by decide))).symm
    have m251 := (m181).trans (MF.i mf227 (k := 18) (by decide) (by decide)).symm
    have m252 := (m183).trans (MF.i mf227 (k := 1) (by decide) (by decide)).symm
    have m253 := (m185).trans (MF.i mf227 (k := 2) (by decide) (by decide)).symm
    have m254 := (m187).trans (MF.i mf227 (k := 3) (by decide) (by decide)).symm
    have m255 := (m189).trans (MF.i mf227 (k := 59) (by decide) (by decide)).symm
    have m256 := (m191).trans (MF.i mf227 (k := 62) (by decide) (by decide)).symm
    have m257 := (m193).trans (MF.i mf227 (k := 65) (by decide) (by decide)).symm
    have m258 := (m195).trans (MF.r mf227 (k := 50) (by decide) (by decide)).symm
    have m259 := (m196).trans (MF.i mf227 (k := 70) (by decide) (by decide)).symm
    have m260 := (m198).trans (MF.r mf227 (k := 73) (by decide) (by decide)).symm
    refine W.eq (g2 := F0 m 1443 ls [.int x222]) rfl ?_
    have v261 : ∀ j : Nat, j < 10 → cz101 j = fI H221 (fR H221 bq j) (K.1.2 0 14) := fun j h => (v212 j h).trans (by rw [fR_kept (x_lt hTH173 kH221 gbq (by decide))]; exact (fI_kept (x_lt hTH173 kH221 (bar_g hTH173 gbq j h) (by decide))).symm)
    have v262 : ∀ j : Nat, j < 10 → rz102 j = fI H221 aq j := fun j h => (v213 j h).trans (fI_kept (x_lt hTH173 kH221 gaq (by decide))).symm
    have v263 : ∀ j : Nat, j < 10 → kz168 j = fI H221 (fR H221 kb j) (K.1.2 0 14) := fun j h => (v214 j h).trans (by rw [fR_kept (x_lt hTH173 kH221 gkb (by decide))]; exact (fI_kept (x_lt hTH173 kH221 (bar_h hTH173 gkb j h) (by decide))).symm)
    have d264 := DB.kept d215 (x_lt hTH173 kH221 gkb (by decide))
    have v265 : ∀ j : Nat, j < 10 → iz169 j = fI H221 iq (11 + 6 * j) := fun j h => (v216 j h).trans (fI_kept (x_lt hTH173 kH221 giq (by decide))).symm
    have d266 := DB.kept d217 (x_lt hTH173 kH221 gbq (by decide))
    refine lv_pop hx hb dL_law_1443 rfl ?_
    refine lv_goto (tgt := 1509) hx hb dL_law_1444 (by decide) ?_
    exact nx G H221 locsH221 _ _ ls ⟨hTH221, hN, ga, gb, g223, g224, g225, g226, ⟨(by rw [← m229, ← m251]; exact rt), (by rw [← m228, ← m230, ← m252]; exact r1), (by rw [← m228, ← m231, ← m253]; exact r4), (by rw [← m228, ← m232, ← m254]; exact r5), (by rw [← m228, ← m233, ← m255]; exact r10), (by rw [← m228, ← m234, ← m256]; exact r13), (by rw [← m228, ← m235, ← m257]; exact r16)⟩, Or.inr ⟨kq, m237, gkq, (by rw [← m259]; exact h70), (by rw [← m238, ← m260, ← m239]; exact q1), (by rw [← m240, ← m260, ← m241]; exact q4), (by rw [← m242, ← m260, ← m243]; exact q5), (by rw [← m244, ← m260, ← m245]; exact q10), (by rw [← m246, ← m260, ← m247]; exact q13), (by rw [← m248, ← m260, ← m249]; exact q16), (by rw [← m250]; exact d264), (by rw [← m250, ← m260, ← m238]; exact fun j h1 h2 => by rw [← v263 j h1, ← v265 j h1]; exact vk0 j h1 (by omega)), (by rw [← m260, ← m238]; exact fun j h1 h2 => by rw [← v265 j h1]; exact vk1 j h1 (by omega))⟩, (by unfold RB; rw [← m228, ← m236, ← m258, ← m252]; exact ⟨d266, fun j h1 h2 => by rw [← v261 j h1, ← v262 j h1]; exact rel j h1 (by omega), fun j h1 h2 => by rw [← v262 j h1]; exact tl j h1 (by omega)⟩), hSH221⟩ hl ⟨hc, hs, fun h => by have h1 := h.symm.trans m237; cases h1⟩
set_option maxRecDepth 100000 in
set_option maxHeartbeats 8000000 in
theorem lw_c33 {p : Program} {l : Launch} {e : Env} {s : State} {m : MethodId} {below : List Frame} {meth : Method} {c : Code} {K : KE} {b0 L : Nat} {xs : Nat → Int32} {G : Nat → Option Nat} {H : Heap} {locs : List Loc} {a b : Nat} {cells slots : Nat} {ls : Array Slot} {i : Int32} {n : Nat} (D : LC p K s m meth c b0 L xs) (S : SX K s G H locs a b) (hl : lv_has ls 4 [(3, .int i), (2, .ref b), (1, .ref a), (0, .ref b0)]) (hi : 0 ≤ i.toInt ∧ i.toInt + 6 ≤ L) (hn : n ≤ 511) (hB : BD K H a cells slots) (nx : ∀ (G : Nat → Option Nat) (H : Heap) (locs : List Loc) (cells slots : Nat) (ls : Array Slot), SX K s G H locs a b → lv_has ls 4 [(3, .int i), (2, .ref b), (1, .ref a), (0, .ref b0)] → BD K H a cells slots → W p l e room_1 s m #[Value.ref b0] below meth c H locs cells slots (lw_Z below #[Value.ref b0] s) (F0 m 1509 ls [])) : W p l e room_1 s m #[Value.ref b0] below meth c H locs cells slots (lw_Z below #[Value.ref b0] s) (F0 m 1447 ls []) := by
  have hI := hi
  obtain ⟨C, hX, hbl, hL⟩ := id D
  obtain ⟨hx, hb, hml, hown, hts, hKT, hr, hlocks, hnm⟩ := id C
  obtain ⟨hT, hN, ga, gb, cg, tu, wd, im, ⟨rt, r1, r4, r5, r10, r13, r16⟩, hk, hrb, hS⟩ := S
  obtain ⟨hc, hs, hB0⟩ := hB
  have n_m1 : ((-1) : Int32).toInt = -1 := rfl
  have n_0 : (0 : Int32).toInt = 0 := rfl
  have n_1 : (1 : Int32).toInt = 1 := rfl
  obtain ⟨w, ew⟩ : ∃ z : Nat, z = fR H a (K.1.2 9 0) := ⟨_, rfl⟩
  have gw := ty_fr (q := w) (k := 0) (u := 0) ew hT ga rg_68 rfl
  rw [← ew] at r1 r4 r5 r10 r13 r16
  obtain ⟨ta, eta⟩ : ∃ z : Int32, z = fI H a (K.1.2 9 3) := ⟨_, rfl⟩
  rw [← eta] at rt
  obtain ⟨tb, etb⟩ : ∃ z : Int32, z = fI H b (K.1.2 10 18) := ⟨_, rfl⟩
  rw [← etb] at rt
  obtain ⟨s1, es1⟩ : ∃ z : Int32, z = fI H w (K.1.2 8 1) := ⟨_, rfl⟩
  rw [← es1] at r1
  obtain ⟨y1, ey1⟩ : ∃ z : Int32, z = fI H b (K.1.2 10 1) := ⟨_, rfl⟩
  rw [← ey1] at r1
  obtain ⟨s4, es4⟩ : ∃ z : Int32, z = fI H w (K.1.2 8 4) := ⟨_, rfl⟩
  rw [← es4] at r4
  obtain ⟨y4, ey4⟩ : ∃ z : Int32, z = fI H b (K.1.2 10 2) := ⟨_, rfl⟩
  rw [← ey4] at r4
  obtain ⟨s5, es5⟩ : ∃ z : Int32, z = fI H w (K.1.2 8 5) := ⟨_, rfl⟩
  rw [← es5] at r5
  obtain ⟨y5, ey5⟩ : ∃ z : Int32, z = fI H b (K.1.2 10 3) := ⟨_, rfl⟩
  rw [← ey5] at r5
  obtain ⟨s10, es10⟩ : ∃ z : Int32, z = fI H w (K.1.2 8 10) := ⟨_, rfl⟩
  rw [← es10] at r10
  obtain ⟨y10, ey10⟩ : ∃ z : Int32, z = fI H b (K.1.2 10 59) := ⟨_, rfl⟩
  rw [← ey10] at r10
  obtain ⟨s13, es13⟩ : ∃ z : Int32, z = fI H w (K.1.2 8 13) := ⟨_, rfl⟩
  rw [← es13] at r13
  obtain ⟨y13, ey13⟩ : ∃ z : Int32, z = fI H b (K.1.2 10 62) := ⟨_, rfl⟩
  rw [← ey13] at r13
  obtain ⟨s16, es16⟩ : ∃ z : Int32, z = fI H w (K.1.2 8 16) := ⟨_, rfl⟩
  rw [← es16] at r16
  obtain ⟨y16, ey16⟩ : ∃ z : Int32, z = fI H b (K.1.2 10 65) := ⟨_, rfl⟩
  rw [← ey16] at r16
  obtain ⟨bq, ebq⟩ : ∃ z : Nat, z = fR H w (K.1.2 8 0) := ⟨_, rfl⟩
  have gbq := ty_fr (q := bq) (k := 0) (u := 25) ebq hT gw rg_0 rfl
  obtain ⟨aq, eaq⟩ : ∃ z : Nat, z = fR H b (K.1.2 10 50) := ⟨_, rfl⟩
  have gaq := ty_fr (q := aq) (k := 50) (u := 146) eaq hT gb rg_112 rfl
  have bs1 := ty_fi (x := s1) (k := 1) es1 hT gw rg_0 rfl
  have by1 := ty_fi (x := y1) (k := 1) ey1 hT gb rg_112 rfl
  obtain ⟨db, vr, vt⟩ := hrb
  rw [← ew, ← ebq] at db
  rw [← ew, ← ebq, ← eaq, ← ey1] at vr
  rw [← eaq, ← ey1] at vt
  obtain ⟨cz101, ecz101⟩ : ∃ f : Nat → Int32, ∀ j : Nat, j < 10 → f j = fI H (fR H bq j) (K.1.2 0 14) := ⟨_, fun _ _ => rfl⟩
  obtain ⟨rz102, erz102⟩ : ∃ f : Nat → Int32, ∀ j : Nat, j < 10 → f j = fI H aq j := ⟨_, fun _ _ => rfl⟩
  have rel : ∀ j : Nat, j < 10 → (j : Int) < y1.toInt → cz101 j = rz102 j := fun j h1 h2 => by rw [ecz101 j h1, erz102 j h1]; exact vr j h1 h2
  clear vr
  have tl : ∀ j : Nat, j < 10 → y1.toInt ≤ (j : Int) → rz102 j = 0 := fun j h1 h2 => by rw [erz102 j h1]; exact vt j h1 h2
  clear vt
  rcases hk with ⟨kn, h70⟩ | ⟨kq, kn, gkq, h70, q1, q4, q5, q10, q13, q16, dbk, vk, vkt⟩
  · skip
    obtain ⟨hi, ehi⟩ : ∃ z : Int32, z = fI H b (K.1.2 10 70) := ⟨_, rfl⟩
    rw [← ehi] at h70
    obtain ⟨hc0, hs0⟩ := hB0 kn
    obtain ⟨iq, eiq⟩ : ∃ z : Nat, z = fR H b (K.1.2 10 73) := ⟨_, rfl⟩
    have giq := ty_fr (q := iq) (k := 73) (u := 162) eiq hT gb rg_112 rfl
    refine lv_aload_n hx hb dL_law_1447 rfl (lv_at hl 2 rfl) ?_
    refine lv_aload_n hx hb dL_law_1448 rfl (lv_at hl 3 rfl) ?_
    refine lv_iload_n hx hb dL_law_1449 rfl (lv_at hl 0 rfl) ?_
    refine lv_iconst (v := 1) hx hb dL_law_1450 (by decide) ?_
    refine lv_iadd hx hb dL_law_1451 ?_
    refine lv_topi (fun x103 ex103 => ?_)
    obtain ⟨tx103, ejx103, evx103⟩ := lw_ix (k := 1) ex103 hI hL rfl (by decide)
    clear tx103
    refine va_sld hx hb hX hbl (Nat.not_le.mpr hbl) hS (vp_in_iff.mpr evx103) dL_law_1452 ?_
    refine W.eq (g2 := F0 m 1453 ls [.int (xs (i.toNatClampNeg + 1)), .ref a]) (congrArg (fun z => F0 m 1453 ls [.int (xs z), .ref a]) ejx103) ?_
    refine lv_if_eq (tgt := 1460) hx hb dL_law_1453 (by decide) (fun c1453 => ?_) (fun c1453 => ?_)
    · skip
      refine lv_iconst (v := 0) hx hb dL_law_1460 (by decide) ?_
      refine x_V (As := [.int 0]) (rest := []) C (a_X9_image_b0n l K G H (s1) (s4) (s5) (s10) (s13) (s16) (ta)  hT ga gw ew es1 es4 es5 es10 es13 es16 gbq ebq db eta kn ) yo_X9_image wM_L_153 ⟨⟨by decide, by decide⟩, show _ ≤ 1200000 from Nat.le_trans hc (by decide), show _ ≤ 5502250 from Nat.le_trans hs (by decide)⟩ (x_rv C hT (ci := 9) rfl ga rg_68) rfl hl.1 rfl (Nat.le_of_ble_eq_true rfl) dL_law_1461 hS (AE_new hN hS.1) (fun vH104 H104 locsH104 pH104 zH104 kH104 hSH104 => ?_)
      obtain ⟨x105, hvH104, bx105, G106, mH104, hTH104⟩ := pH104
      subst hvH104
      have g120 : CG (avw K H104 b) := CG.congr (fun k hk j => av_eff hT kH104 gb (by decide) (CG_eff [] (by decide) k hk)) cg
      have g121 : TU (avw K H104 b) (svw K H104 b) := TU.congr (fun k hk j => av_eff hT kH104 gb (by decide) (TU_eff [] (by decide) k hk)) (fun k hk => sv_eff hT kH104 gb (by decide)) tu
      have g122 : WD (avw K H104 b) := WD.congr (fun k hk j => av_eff hT kH104 gb (by decide) (WD_eff [] (by decide) k hk)) wd
      have g123 : IM (avw K H104 b) := IM.congr (fun k hk j => av_eff hT kH104 gb (by decide) (IM_eff [] (by decide) k hk)) im
      have m124 := (ew).trans (fR_kept (x_lt hT kH104 ga (by decide))).symm
      have m125 := (eta).trans (fI_kept (x_lt hT kH104 ga (by decide))).symm
      have m126 := (etb).trans (fI_kept (x_lt hT kH104 gb (by decide))).symm
      have m127 := (es1).trans (fI_kept (x_lt hT kH104 gw (by decide))).symm
      have m128 := (ey1).trans (fI_kept (x_lt hT kH104 gb (by decide))).symm
      have m129 := (es4).trans (fI_kept (x_lt hT kH104 gw (by decide))).symm
      have m130 := (ey4).trans (fI_kept (x_lt hT kH104 gb (by decide))).symm
      have m131 := (es5).trans (fI_kept (x_lt hT kH104 gw (by decide))).symm
      have m132 := (ey5).trans (fI_kept (x_lt hT kH104 gb (by decide))).symm
      have m133 := (es10).trans (fI_kept (x_lt hT kH104 gw (by decide))).symm
      have m134 := (ey10).trans (fI_kept (x_lt hT kH104 gb (by decide))).symm
      have m135 := (es13).trans (fI_kept (x_lt hT kH104 gw (by decide))).symm
      have m136 := (ey13).trans (fI_kept (x_lt hT kH104 gb (by decide))).symm
      have m137 := (es16).trans (fI_kept (x_lt hT kH104 gw (by decide))).symm
      have m138 := (ey16).trans (fI_kept (x_lt hT kH104 gb (by decide))).symm
      have m139 := (ebq).trans (fR_kept (x_lt hT kH104 gw (by decide))).symm
      have m140 := (eaq).trans (fR_kept (x_lt hT kH104 gb (by decide))).symm
      have m141 := (ehi).trans (fI_kept (x_lt hT kH104 gb (by decide))).symm
      have m142 := (fV_kept (x_lt hT kH104 ga (by decide))).trans kn
      have m143 := (eiq).trans (fR_kept (x_lt hT kH104 gb (by decide))).symm
      have gaH104 := (mH104 a (hT.lt ga)).trans ga
      have gbH104 := (mH104 b (hT.lt gb)).trans gb
      have gwH104 := (mH104 w (hT.lt gw)).trans gw
      have gbqH104 := (mH104 bq (hT.lt gbq)).trans gbq
      have gaqH104 := (mH104 aq (hT.lt gaq)).trans gaq
      have giqH104 := (mH104 iq (hT.lt giq)).trans giq
      have hNH104 : ∀ q, q < s.heap.size → G106 q = none := fun q hq => (mH104 q (Nat.lt_of_lt_of_le hq hS.1)).trans (hN q hq)
      have v144 : ∀ j : Nat, j < 10 → rz102 j = fI H104 aq j := fun j h => (erz102 j h).trans (fI_kept (x_lt hT kH104 gaq (by decide))).symm
      have v145 : ∀ j : Nat, j < 10 → cz101 j = fI H104 (fR H104 bq j) (K.1.2 0 14) := fun j h => (ecz101 j h).trans (by rw [fR_kept (x_lt hT kH104 gbq (by decide))]; exact (fI_kept (x_lt hT kH104 (bar_g hT gbq j h) (by decide))).symm)
      have d146 := DB.kept db (x_lt hT kH104 gbq (by decide))
      refine W.eq (g2 := F0 m 1464 ls [.int x105]) rfl ?_
      refine lv_pop hx hb dL_law_1464 rfl ?_
      refine lv_aload_n hx hb dL_law_1465 rfl (lv_at hl 1 rfl) ?_
      refine lv_aload_n hx hb dL_law_1466 rfl (lv_at hl 3 rfl) ?_
      refine lv_iload_n hx hb dL_law_1467 rfl (lv_at hl 0 rfl) ?_
      refine lv_iconst (v := 1) hx hb dL_law_1468 (by decide) ?_
      refine lv_iadd hx hb dL_law_1469 ?_
      refine lv_topi (fun x147 ex147 => ?_)
      obtain ⟨tx147, ejx147, evx147⟩ := lw_ix (k := 1) ex147 hI hL rfl (by decide)
      clear tx147
      refine va_sld hx hb hX hbl (Nat.not_le.mpr hbl) hSH104 (vp_in_iff.mpr evx147) dL_law_1470 ?_
      refine W.eq (g2 := F0 m 1471 ls [.int (xs (i.toNatClampNeg + 1)), .ref b]) (congrArg (fun z => F0 m 1471 ls [.int (xs z), .ref b]) ejx147) ?_
      refine lv_if_eq (tgt := 1478) hx hb dL_law_1471 (by decide) (fun c1471 => ?_) (fun c1471 => ?_)
      · skip
        refine lv_iconst (v := 0) hx hb dL_law_1478 (by decide) ?_
        obtain ⟨q148, eq148⟩ : ∃ z : Nat, z = fR H104 b (K.1.2 10 4) := ⟨_, rfl⟩
        have gq148 := ty_fr (q := q148) (k := 4) (u := 113) eq148 hTH104 gbH104 rg_112 rfl
        obtain ⟨q149, eq149⟩ : ∃ z : Nat, z = fR H104 b (K.1.2 10 10) := ⟨_, rfl⟩
        have gq149 := ty_fr (q := q149) (k := 10) (u := 119) eq149 hTH104 gbH104 rg_112 rfl
        obtain ⟨q150, eq150⟩ : ∃ z : Nat, z = fR H104 b (K.1.2 10 16) := ⟨_, rfl⟩
        have gq150 := ty_fr (q := q150) (k := 16) (u := 125) eq150 hTH104 gbH104 rg_112 rfl
        obtain ⟨q151, eq151⟩ : ∃ z : Nat, z = fR H104 b (K.1.2 10 24) := ⟨_, rfl⟩
        have gq151 := ty_fr (q := q151) (k := 24) (u := 128) eq151 hTH104 gbH104 rg_112 rfl
        obtain ⟨q152, eq152⟩ : ∃ z : Nat, z = fR H104 b (K.1.2 10 27) := ⟨_, rfl⟩
        have gq152 := ty_fr (q := q152) (k := 27) (u := 131) eq152 hTH104 gbH104 rg_112 rfl
        obtain ⟨q153, eq153⟩ : ∃ z : Nat, z = fR H104 b (K.1.2 10 29) := ⟨_, rfl⟩
        have gq153 := ty_fr (q := q153) (k := 29) (u := 133) eq153 hTH104 gbH104 rg_112 rfl
        obtain ⟨q154, eq154⟩ : ∃ z : Nat, z = fR H104 b (K.1.2 10 30) := ⟨_, rfl⟩
        have gq154 := ty_fr (q := q154) (k := 30) (u := 134) eq154 hTH104 gbH104 rg_112 rfl
        obtain ⟨q155, eq155⟩ : ∃ z : Nat, z = fR H104 b (K.1.2 10 31) := ⟨_, rfl⟩
        have gq155 := ty_fr (q := q155) (k := 31) (u := 135) eq155 hTH104 gbH104 rg_112 rfl
        obtain ⟨q156, eq156⟩ : ∃ z : Nat, z = fR H104 b (K.1.2 10 32) := ⟨_, rfl⟩
        have gq156 := ty_fr (q := q156) (k := 32) (u := 136) eq156 hTH104 gbH104 rg_112 rfl
        obtain ⟨q157, eq157⟩ : ∃ z : Nat, z = fR H104 b (K.1.2 10 33) := ⟨_, rfl⟩
        have gq157 := ty_fr (q := q157) (k := 33) (u := 137) eq157 hTH104 gbH104 rg_112 rfl
        refine x_V (As := [.int 0]) (rest := []) C (a_X10_image l K G106 H104 (0) (hi) (y1) (y4) (y5) (y10) (y13) (y16) hTH104 gbH104 (by decide) giqH104 m143 gq148 eq148 gq149 eq149 gq150 eq150 gq151 eq151 gq152 eq152 gq153 eq153 gq154 eq154 gq155 eq155 gq156 eq156 gq157 eq157 gaqH104 m140 m141 m128 m130 m132 m134 m136 m138 g120 g121 g122 g123) yo_X10_image wM_L_157 ⟨⟨by decide, by decide⟩, show _ ≤ 1200000 from Nat.le_trans hc (by decide), show _ ≤ 5502250 from Nat.le_trans hs (by decide)⟩ (x_rv C hTH104 (ci := 10) rfl gbH104 rg_112) rfl hl.1 rfl (Nat.le_of_ble_eq_true rfl) dL_law_1479 hSH104 (AE_new hNH104 hSH104.1) (fun vH158 H158 locsH158 pH158 zH158 kH158 hSH158 => ?_)
        obtain ⟨x159, x160, x161, x162, x163, x164, x165, x166, hvH158, bx159, ex160, ex161, ex162, ex163, ex164, ex165, ex166, hrH158, m167, m168, m169, m170, m171, m172, m173, m174, m175, m176, m177, m178, g179, g180, g181, g182, mf183, m184, m185, m186, m187, m188, m189, hTH158⟩ := pH158
        subst hvH158
        have m190 := (m124).trans (fR_kept (x_lt hTH104 kH158 gaH104 (by decide))).symm
        have m191 := (m125).trans (fI_kept (x_lt hTH104 kH158 gaH104 (by decide))).symm
        have m192 := (m127).trans (fI_kept (x_lt hTH104 kH158 gwH104 (by decide))).symm
        have m193 := (m129).trans (fI_kept (x_lt hTH104 kH158 gwH104 (by decide))).symm
        have m194 := (m131).trans (fI_kept (x_lt hTH104 kH158 gwH104 (by decide))).symm
        have m195 := (m133).trans (fI_kept (x_lt hTH104 kH158 gwH104 (by decide))).symm
        have m196 := (m135).trans (fI_kept (x_lt hTH104 kH158 gwH104 (by decide))).symm
        have m197 := (m137).trans (fI_kept (x_lt hTH104 kH158 gwH104 (by decide))).symm
        have m198 := (m139).trans (fR_kept (x_lt hTH104 kH158 gwH104 (by decide))).symm
        have m199 := (fV_kept (x_lt hTH104 kH158 gaH104 (by decide))).trans m142
        have m200 := (m126).trans (MF.i mf183 (k := 18) (by decide) (by decide)).symm
        have m201 := (m140).trans (MF.r mf183 (k := 50) (by decide) (by decide)).symm
        have m202 := (m143).trans (MF.r mf183 (k := 73) (by decide) (by decide)).symm
        have m203 := (eq148).trans (MF.r mf183 (k := 4) (by decide) (by decide)).symm
        have m204 := (eq149).trans (MF.r mf183 (k := 10) (by decide) (by decide)).symm
        have m205 := (eq150).trans (MF.r mf183 (k := 16) (by decide) (by decide)).symm
        have m206 := (eq151).trans (MF.r mf183 (k := 24) (by decide) (by decide)).symm
        have m207 := (eq152).trans (MF.r mf183 (k := 27) (by decide) (by decide)).symm
        have m208 := (eq153).trans (MF.r mf183 (k := 29) (by decide) (by decide)).symm
        have m209 := (eq154).trans (MF.r mf183 (k := 30) (by decide) (by decide)).symm
        have m210 := (eq155).trans (MF.r mf183 (k := 31) (by decide) (by decide)).symm
        have m211 := (eq156).trans (MF.r mf183 (k := 32) (by decide) (by decide)).symm
        have m212 := (eq157).trans (MF.r mf183 (k := 33) (by decide) (by decide)).symm
        have bx160 := ty_fi (x := x160) (k := 70) ex160 hTH158 gbH104 rg_112 rfl
        have bx161 := ty_fi (x := x161) (k := 1) ex161 hTH158 gbH104 rg_112 rfl
        have bx162 := ty_fi (x := x162) (k := 2) ex162 hTH158 gbH104 rg_112 rfl
        have bx163 := ty_fi (x := x163) (k := 3) ex163 hTH158 gbH104 rg_112 rfl
        have bx164 := ty_fi (x := x164) (k := 59) ex164 hTH158 gbH104 rg_112 rfl
        have bx165 := ty_fi (x := x165) (k := 62) ex165 hTH158 gbH104 rg_112 rfl
        have bx166 := ty_fi (x := x166) (k := 65) ex166 hTH158 gbH104 rg_112 rfl
        refine W.eq (g2 := F0 m 1482 ls [.int x159]) rfl ?_
        have v213 : ∀ j : Nat, j < 10 → cz101 j = fI H158 (fR H158 bq j) (K.1.2 0 14) := fun j h => (v145 j h).trans (by rw [fR_kept (x_lt hTH104 kH158 gbqH104 (by decide))]; exact (fI_kept (x_lt hTH104 kH158 (bar_g hTH104 gbqH104 j h) (by decide))).symm)
        have v214 : ∀ j : Nat, j < 10 → rz102 j = fI H158 aq j := fun j h => (v144 j h).trans (m189 (by omega) j).symm
        have d215 := DB.kept d146 (x_lt hTH104 kH158 gbqH104 (by decide))
        refine lv_pop hx hb dL_law_1482 rfl ?_
        refine lv_goto (tgt := 1509) hx hb dL_law_1483 (by decide) ?_
        exact nx G106 H158 locsH158 _ _ ls ⟨hTH158, hNH104, gaH104, gbH104, g179, g180, g181, g182, ⟨(by rw [← m191, ← m200]; exact rt), (by rw [← m190, ← m192, ← ex161]; omega), (by rw [← m190, ← m193, ← ex162]; omega), (by rw [← m190, ← m194, ← ex163]; omega), (by rw [← m190, ← m195, ← ex164]; omega), (by rw [← m190, ← m196, ← ex165]; omega), (by rw [← m190, ← m197, ← ex166]; omega)⟩, Or.inl ⟨m199, (by rw [← ex160]; omega)⟩, (by unfold RB; rw [← m190, ← m198, ← m178, ← ex161]; exact ⟨d215, fun j h1 h2 => by rw [← v213 j h1, ← v214 j h1]; exact rel j h1 (by omega), fun j h1 h2 => by rw [← v214 j h1]; exact tl j h1 (by omega)⟩), hSH158⟩ hl ⟨hc, hs, fun _ => ⟨hc0, hs0⟩⟩
      · skip
        exact absurd c1453 c1471
    · skip
      refine lv_iconst (v := 1) hx hb dL_law_1456 (by decide) ?_
      refine lv_goto (tgt := 1461) hx hb dL_law_1457 (by decide) ?_
      refine x_V (As := [.int 1]) (rest := []) C (a_X9_image_b1n l K G H (s1) (s4) (s5) (s10) (s13) (s16) (ta)  hT ga gw ew es1 es4 es5 es10 es13 es16 gbq ebq db eta kn ) yo_X9_image wM_L_153 ⟨⟨by decide, by decide⟩, show _ ≤ 1200000 from Nat.le_trans (Nat.add_le_add_right hc0 434) (by decide), show _ ≤ 5502250 from Nat.le_trans (Nat.add_le_add_right hs0 13027) (by decide)⟩ (x_rv C hT (ci := 9) rfl ga rg_68) rfl hl.1 rfl (Nat.le_of_ble_eq_true rfl) dL_law_1461 hS (AE_new hN hS.1) (fun vH216 H216 locsH216 pH216 zH216 kH216 hSH216 => ?_)
      obtain ⟨x217, hvH216, bx217, G218, mH216, hTH216, m228, m229, q225, kbq225, m230, gq225, gkbq225, ekbq225, d231, m219, m220, m221, m222, m223, m224, m226⟩ := pH216
      subst hvH216
      have g232 : CG (avw K H216 b) := CG.congr (fun k hk j => av_eff hT kH216 gb (by decide) (CG_eff [68, 34, 35, 36, 37, 38, 39, 40, 41, 42, 43, 44, 46, 48, 49, 50, 51, 52, 53, 54, 55, 56, 57, 58, 62, 63, 64, 65, 66, 67] (by decide) k hk)) cg
      have g233 : TU (avw K H216 b) (svw K H216 b) := TU.congr (fun k hk j => av_eff hT kH216 gb (by decide) (TU_eff [68, 34, 35, 36, 37, 38, 39, 40, 41, 42, 43, 44, 46, 48, 49, 50, 51, 52, 53, 54, 55, 56, 57, 58, 62, 63, 64, 65, 66, 67] (by decide) k hk)) (fun k hk => sv_eff hT kH216 gb (by decide)) tu
      have g234 : WD (avw K H216 b) := WD.congr (fun k hk j => av_eff hT kH216 gb (by decide) (WD_eff [68, 34, 35, 36, 37, 38, 39, 40, 41, 42, 43, 44, 46, 48, 49, 50, 51, 52, 53, 54, 55, 56, 57, 58, 62, 63, 64, 65, 66, 67] (by decide) k hk)) wd
      have g235 : IM (avw K H216 b) := IM.congr (fun k hk j => av_eff hT kH216 gb (by decide) (IM_eff [68, 34, 35, 36, 37, 38, 39, 40, 41, 42, 43, 44, 46, 48, 49, 50, 51, 52, 53, 54, 55, 56, 57, 58, 62, 63, 64, 65, 66, 67] (by decide) k hk)) im
      have m236 := (etb).trans (fI_kept (x_lt hT kH216 gb (by decide))).symm
      have m237 := (es1).trans (fI_kept (x_lt hT kH216 gw (by decide))).symm
      have m238 := (ey1).trans (fI_kept (x_lt hT kH216 gb (by decide))).symm
      have m239 := (es4).trans (fI_kept (x_lt hT kH216 gw (by decide))).symm
      have m240 := (ey4).trans (fI_kept (x_lt hT kH216 gb (by decide))).symm
      have m241 := (es5).trans (fI_kept (x_lt hT kH216 gw (by decide))).symm
      have m242 := (ey5).trans (fI_kept (x_lt hT kH216 gb (by decide))).symm
      have m243 := (es10).trans (fI_kept (x_lt hT kH216 gw (by decide))).symm
      have m244 := (ey10).trans (fI_kept (x_lt hT kH216 gb (by decide))).symm
      have m245 := (es13).trans (fI_kept (x_lt hT kH216 gw (by decide))).symm
      have m246 := (ey13).trans (fI_kept (x_lt hT kH216 gb (by decide))).symm
      have m247 := (es16).trans (fI_kept (x_lt hT kH216 gw (by decide))).symm
      have m248 := (ey16).trans (fI_kept (x_lt hT kH216 gb (by decide))).symm
      have m249 := (ebq).trans (fR_kept (x_lt hT kH216 gw (by decide))).symm
      have m250 := (eaq).trans (fR_kept (x_lt hT kH216 gb (by decide))).symm
      have m251 := (ehi).trans (fI_kept (x_lt hT kH216 gb (by decide))).symm
      have m252 := (eiq).trans (fR_kept (x_lt hT kH216 gb (by decide))).symm
      have gaH216 := (mH216 a (hT.lt ga)).trans ga
      have gbH216 := (mH216 b (hT.lt gb)).trans gb
      have gwH216 := (mH216 w (hT.lt gw)).trans gw
      have gbqH216 := (mH216 bq (hT.lt gbq)).trans gbq
      have gaqH216 := (mH216 aq (hT.lt gaq)).trans gaq
      have giqH216 := (mH216 iq (hT.lt giq)).trans giq
      have hNH216 : ∀ q, q < s.heap.size → G218 q = none := fun q hq => (mH216 q (Nat.lt_of_lt_of_le hq hS.1)).trans (hN q hq)
      have v253 : ∀ j : Nat, j < 10 → rz102 j = fI H216 aq j := fun j h => (erz102 j h).trans (fI_kept (x_lt hT kH216 gaq (by decide))).symm
      have v254 : ∀ j : Nat, j < 10 → cz101 j = fI H216 (fR H216 bq j) (K.1.2 0 14) := fun j h => (ecz101 j h).trans (by rw [fR_kept (x_lt hT kH216 gbq (by decide))]; exact (fI_kept (x_lt hT kH216 (bar_g hT gbq j h) (by decide))).symm)
      have d255 := DB.kept db (x_lt hT kH216 gbq (by decide))
      obtain ⟨x256, ex256⟩ : ∃ z : Int32, z = fI H216 q225 (K.1.2 8 1) := ⟨_, rfl⟩
      rw [← ex256] at m219
      obtain ⟨x257, ex257⟩ : ∃ z : Int32, z = fI H216 q225 (K.1.2 8 4) := ⟨_, rfl⟩
      rw [← ex257] at m220
      obtain ⟨x258, ex258⟩ : ∃ z : Int32, z = fI H216 q225 (K.1.2 8 5) := ⟨_, rfl⟩
      rw [← ex258] at m221
      obtain ⟨x259, ex259⟩ : ∃ z : Int32, z = fI H216 q225 (K.1.2 8 10) := ⟨_, rfl⟩
      rw [← ex259] at m222
      obtain ⟨x260, ex260⟩ : ∃ z : Int32, z = fI H216 q225 (K.1.2 8 13) := ⟨_, rfl⟩
      rw [← ex260] at m223
      obtain ⟨x261, ex261⟩ : ∃ z : Int32, z = fI H216 q225 (K.1.2 8 16) := ⟨_, rfl⟩
      rw [← ex261] at m224
      obtain ⟨kz262, ekz262⟩ : ∃ f : Nat → Int32, ∀ j : Nat, j < 10 → f j = fI H216 (fR H216 kbq225 j) (K.1.2 0 14) := ⟨_, fun _ _ => rfl⟩
      have ck : ∀ j : Nat, j < 10 → j < s1.toNatClampNeg → kz262 j = cz101 j := fun j h hj => by rw [ekz262 j h, v254 j h]; exact m226 j h hj
      refine W.eq (g2 := F0 m 1464 ls [.int x217]) rfl ?_
      refine lv_pop hx hb dL_law_1464 rfl ?_
      refine lv_aload_n hx hb dL_law_1465 rfl (lv_at hl 1 rfl) ?_
      refine lv_aload_n hx hb dL_law_1466 rfl (lv_at hl 3 rfl) ?_
      refine lv_iload_n hx hb dL_law_1467 rfl (lv_at hl 0 rfl) ?_
      refine lv_iconst (v := 1) hx hb dL_law_1468 (by decide) ?_
      refine lv_iadd hx hb dL_law_1469 ?_
      refine lv_topi (fun x263 ex263 => ?_)
      obtain ⟨tx263, ejx263, evx263⟩ := lw_ix (k := 1) ex263 hI hL rfl (by decide)
      clear tx263
      refine va_sld hx hb hX hbl (Nat.not_le.mpr hbl) hSH216 (vp_in_iff.mpr evx263) dL_law_1470 ?_
      refine W.eq (g2 := F0 m 1471 ls [.int (xs (i.toNatClampNeg + 1)), .ref b]) (congrArg (fun z => F0 m 1471 ls [.int (xs z), .ref b]) ejx263) ?_
      refine lv_if_eq (tgt := 1478) hx hb dL_law_1471 (by decide) (fun c1471 => ?_) (fun c1471 => ?_)
      · skip
        exact absurd c1471 c1453
      · skip
        refine lv_iconst (v := 1) hx hb dL_law_1474 (by decide) ?_
        refine lv_goto (tgt := 1479) hx hb dL_law_1475 (by decide) ?_
        obtain ⟨q264, eq264⟩ : ∃ z : Nat, z = fR H216 b (K.1.2 10 4) := ⟨_, rfl⟩
        have gq264 := ty_fr (q := q264) (k := 4) (u := 113) eq264 hTH216 gbH216 rg_112 rfl
        obtain ⟨q265, eq265⟩ : ∃ z : Nat, z = fR H216 b (K.1.2 10 10) := ⟨_, rfl⟩
        have gq265 := ty_fr (q := q265) (k := 10) (u := 119) eq265 hTH216 gbH216 rg_112 rfl
        obtain ⟨q266, eq266⟩ : ∃ z : Nat, z = fR H216 b (K.1.2 10 16) := ⟨_, rfl⟩
        have gq266 := ty_fr (q := q266) (k := 16) (u := 125) eq266 hTH216 gbH216 rg_112 rfl
        obtain ⟨q267, eq267⟩ : ∃ z : Nat, z = fR H216 b (K.1.2 10 24) := ⟨_, rfl⟩
        have gq267 := ty_fr (q := q267) (k := 24) (u := 128) eq267 hTH216 gbH216 rg_112 rfl
        obtain ⟨q268, eq268⟩ : ∃ z : Nat, z = fR H216 b (K.1.2 10 27) := ⟨_, rfl⟩
        have gq268 := ty_fr (q := q268) (k := 27) (u := 131) eq268 hTH216 gbH216 rg_112 rfl
        obtain ⟨q269, eq269⟩ : ∃ z : Nat, z = fR H216 b (K.1.2 10 29) := ⟨_, rfl⟩
        have gq269 := ty_fr (q := q269) (k := 29) (u := 133) eq269 hTH216 gbH216 rg_112 rfl
        obtain ⟨q270, eq270⟩ : ∃ z : Nat, z = fR H216 b (K.1.2 10 30) := ⟨_, rfl⟩
        have gq270 := ty_fr (q := q270) (k := 30) (u := 134) eq270 hTH216 gbH216 rg_112 rfl
        obtain ⟨q271, eq271⟩ : ∃ z : Nat, z = fR H216 b (K.1.2 10 31) := ⟨_, rfl⟩
        have gq271 := ty_fr (q := q271) (k := 31) (u := 135) eq271 hTH216 gbH216 rg_112 rfl
        obtain ⟨q272, eq272⟩ : ∃ z : Nat, z = fR H216 b (K.1.2 10 32) := ⟨_, rfl⟩
        have gq272 := ty_fr (q := q272) (k := 32) (u := 136) eq272 hTH216 gbH216 rg_112 rfl
        obtain ⟨q273, eq273⟩ : ∃ z : Nat, z = fR H216 b (K.1.2 10 33) := ⟨_, rfl⟩
        have gq273 := ty_fr (q := q273) (k := 33) (u := 137) eq273 hTH216 gbH216 rg_112 rfl
        refine x_V (As := [.int 1]) (rest := []) C (a_X10_image l K G218 H216 (1) (hi) (y1) (y4) (y5) (y10) (y13) (y16) hTH216 gbH216 (by decide) giqH216 m252 gq264 eq264 gq265 eq265 gq266 eq266 gq267 eq267 gq268 eq268 gq269 eq269 gq270 eq270 gq271 eq271 gq272 eq272 gq273 eq273 gaqH216 m250 m251 m238 m240 m242 m244 m246 m248 g232 g233 g234 g235) yo_X10_image wM_L_157 ⟨⟨by decide, by decide⟩, show _ ≤ 1200000 from Nat.le_trans (Nat.add_le_add_right hc0 434) (by decide), show _ ≤ 5502250 from Nat.le_trans (Nat.add_le_add_right hs0 13027) (by decide)⟩ (x_rv C hTH216 (ci := 10) rfl gbH216 rg_112) rfl hl.1 rfl (Nat.le_of_ble_eq_true rfl) dL_law_1479 hSH216 (AE_new hNH216 hSH216.1) (fun vH274 H274 locsH274 pH274 zH274 kH274 hSH274 => ?_)
        obtain ⟨x275, x276, x277, x278, x279, x280, x281, x282, hvH274, bx275, ex276, ex277, ex278, ex279, ex280, ex281, ex282, hrH274, m283, m284, m285, m286, m287, m288, m289, m290, m291, m292, m293, m294, g295, g296, g297, g298, mf299, m300, m301, m302, m303, m304, m305, hTH274⟩ := pH274
        subst hvH274
        have m306 := (m237).trans (fI_kept (x_lt hTH216 kH274 gwH216 (by decide))).symm
        have m307 := (m239).trans (fI_kept (x_lt hTH216 kH274 gwH216 (by decide))).symm
        have m308 := (m241).trans (fI_kept (x_lt hTH216 kH274 gwH216 (by decide))).symm
        have m309 := (m243).trans (fI_kept (x_lt hTH216 kH274 gwH216 (by decide))).symm
        have m310 := (m245).trans (fI_kept (x_lt hTH216 kH274 gwH216 (by decide))).symm
        have m311 := (m247).trans (fI_kept (x_lt hTH216 kH274 gwH216 (by decide))).symm
        have m312 := (m249).trans (fR_kept (x_lt hTH216 kH274 gwH216 (by decide))).symm
        have m313 := (m228).trans (fR_kept (x_lt hTH216 kH274 gaH216 (by decide))).symm
        have m314 := (m229).trans (fI_kept (x_lt hTH216 kH274 gaH216 (by decide))).symm
        have m315 := (ex256).trans (fI_kept (x_lt hTH216 kH274 gq225 (by decide))).symm
        have m316 := (ex257).trans (fI_kept (x_lt hTH216 kH274 gq225 (by decide))).symm
        have m317 := (ex258).trans (fI_kept (x_lt hTH216 kH274 gq225 (by decide))).symm
        have m318 := (ex259).trans (fI_kept (x_lt hTH216 kH274 gq225 (by decide))).symm
        have m319 := (ex260).trans (fI_kept (x_lt hTH216 kH274 gq225 (by decide))).symm
        have m320 := (ex261).trans (fI_kept (x_lt hTH216 kH274 gq225 (by decide))).symm
        have m321 := (fV_kept (x_lt hTH216 kH274 gaH216 (by decide))).trans m230
        have m322 := (ekbq225).trans (fR_kept (x_lt hTH216 kH274 gq225 (by decide))).symm
        have m323 := (m236).trans (MF.i mf299 (k := 18) (by decide) (by decide)).symm
        have m324 := (m250).trans (MF.r mf299 (k := 50) (by decide) (by decide)).symm
        have m325 := (m252).trans (MF.r mf299 (k := 73) (by decide) (by decide)).symm
        have m326 := (eq264).trans (MF.r mf299 (k := 4) (by decide) (by decide)).symm
        have m327 := (eq265).trans (MF.r mf299 (k := 10) (by decide) (by decide)).symm
        have m328 := (eq266).trans (MF.r mf299 (k := 16) (by decide) (by decide)).symm
        have m329 := (eq267).trans (MF.r mf299 (k := 24) (by decide) (by decide)).symm
        have m330 := (eq268).trans (MF.r mf299 (k := 27) (by decide) (by decide)).symm
        have m331 := (eq269).trans (MF.r mf299 (k := 29) (by decide) (by decide)).symm
        have m332 := (eq270).trans (MF.r mf299 (k := 30) (by decide) (by decide)).symm
        have m333 := (eq271).trans (MF.r mf299 (k := 31) (by decide) (by decide)).symm
        have m334 := (eq272).trans (MF.r mf299 (k := 32) (by decide) (by decide)).symm
        have m335 := (eq273).trans (MF.r mf299 (k := 33) (by decide) (by decide)).symm
        have bx276 := ty_fi (x := x276) (k := 70) ex276 hTH274 gbH216 rg_112 rfl
        have bx277 := ty_fi (x := x277) (k := 1) ex277 hTH274 gbH216 rg_112 rfl
        have bx278 := ty_fi (x := x278) (k := 2) ex278 hTH274 gbH216 rg_112 rfl
        have bx279 := ty_fi (x := x279) (k := 3) ex279 hTH274 gbH216 rg_112 rfl
        have bx280 := ty_fi (x := x280) (k := 59) ex280 hTH274 gbH216 rg_112 rfl
        have bx281 := ty_fi (x := x281) (k := 62) ex281 hTH274 gbH216 rg_112 rfl
        have bx282 := ty_fi (x := x282) (k := 65) ex282 hTH274 gbH216 rg_112 rfl
        refine W.eq (g2 := F0 m 1482 ls [.int x275]) rfl ?_
        obtain ⟨j336, j337, j338, j339, j340, j341⟩ := m300.resolve_left (by omega)
        obtain ⟨j342, j343, j344, j345, j346, j347⟩ := m301 (by decide)
        replace j342 := congrArg Int32.toInt j342
        replace j343 := congrArg Int32.toInt j343
        replace j344 := congrArg Int32.toInt j344
        replace j345 := congrArg Int32.toInt j345
        replace j346 := congrArg Int32.toInt j346
        replace j347 := congrArg Int32.toInt j347
        have ij336 : x277 = fI H274 iq ((0 : Int32).toNatClampNeg) := j336
        have ij337 : x278 = fI H274 iq ((1 : Int32).toNatClampNeg) := j337
        have ij338 : x279 = fI H274 iq ((2 : Int32).toNatClampNeg) := j338
        have ij339 : x280 = fI H274 iq ((3 : Int32).toNatClampNeg) := j339
        have ij340 : x281 = fI H274 iq ((4 : Int32).toNatClampNeg) := j340
        have ij341 : x282 = fI H274 iq ((5 : Int32).toNatClampNeg) := j341
        have v348 : ∀ j : Nat, j < 10 → cz101 j = fI H274 (fR H274 bq j) (K.1.2 0 14) := fun j h => (v254 j h).trans (by rw [fR_kept (x_lt hTH216 kH274 gbqH216 (by decide))]; exact (fI_kept (x_lt hTH216 kH274 (bar_g hTH216 gbqH216 j h) (by decide))).symm)
        have e4_ := m303.resolve_left (by omega)
        have v349 : ∀ j : Nat, j < 10 → rz102 j = fI H274 aq j := fun j h => (v253 j h).trans (m304 (by decide) j).symm
        obtain ⟨iz350, eiz350⟩ : ∃ f : Nat → Int32, ∀ j : Nat, j < 10 → f j = fI H274 iq (11 + 6 * j) := ⟨_, fun _ _ => rfl⟩
        have ii : ∀ j : Nat, j < 10 → iz350 j = rz102 j := fun j h => by rw [eiz350 j h, v349 j h]; exact (e4_ j h).symm
        have v351 : ∀ j : Nat, j < 10 → kz262 j = fI H274 (fR H274 kbq225 j) (K.1.2 0 14) := fun j h => (ekz262 j h).trans (by rw [fR_kept (x_lt hTH216 kH274 gkbq225 (by decide))]; exact (fI_kept (x_lt hTH216 kH274 (bar_h hTH216 gkbq225 j h) (by decide))).symm)
        have d352 := DB.kept d231 (x_lt hTH216 kH274 gkbq225 (by decide))
        have d353 := DB.kept d255 (x_lt hTH216 kH274 gbqH216 (by decide))
        refine lv_pop hx hb dL_law_1482 rfl ?_
        refine lv_goto (tgt := 1509) hx hb dL_law_1483 (by decide) ?_
        have vk2 : ∀ j : Nat, j < 10 → (j : Int) < x256.toInt → kz262 j = iz350 j := fun j h1 h2 => by have hc := i_cl (x := s1) (by omega); rw [ck j h1 (by omega), ii j h1]; exact rel j h1 (by omega)
        have vk3 : ∀ j : Nat, j < 10 → x256.toInt ≤ (j : Int) → iz350 j = 0 := fun j h1 h2 => by rw [ii j h1]; exact tl j h1 (by omega)
        exact nx G218 H274 locsH274 _ _ ls ⟨hTH274, hNH216, gaH216, gbH216, g295, g296, g297, g298, ⟨(by rw [← m314, ← m323]; exact rt), (by rw [← m313, ← m306, ← ex277]; omega), (by rw [← m313, ← m307, ← ex278]; omega), (by rw [← m313, ← m308, ← ex279]; omega), (by rw [← m313, ← m309, ← ex280]; omega), (by rw [← m313, ← m310, ← ex281]; omega), (by rw [← m313, ← m311, ← ex282]; omega)⟩, Or.inr ⟨q225, m321, gq225, (by rw [← ex276]; omega), (by rw [← m315, ← m283, ← ij336]; omega), (by rw [← m316, ← m283, ← ij337]; omega), (by rw [← m317, ← m283, ← ij338]; omega), (by rw [← m318, ← m283, ← ij339]; omega), (by rw [← m319, ← m283, ← ij340]; omega), (by rw [← m320, ← m283, ← ij341]; omega), (by rw [← m322]; exact d352), (by rw [← m322, ← m283, ← m315]; exact fun j h1 h2 => by rw [← v351 j h1, ← eiz350 j h1]; exact vk2 j h1 (by omega)), (by rw [← m283, ← m315]; exact fun j h1 h2 => by rw [← eiz350 j h1]; exact vk3 j h1 (by omega))⟩, (by unfold RB; rw [← m313, ← m312, ← m294, ← ex277]; exact ⟨d353, fun j h1 h2 => by rw [← v348 j h1, ← v349 j h1]; exact rel j h1 (by omega), fun j h1 h2 => by rw [← v349 j h1]; exact tl j h1 (by omega)⟩), hSH274⟩ hl ⟨Nat.add_le_add_right hc0 434, Nat.add_le_add_right hs0 13027, fun h => by have h1 := h.symm.trans m321; cases h1⟩
  · skip
    obtain ⟨hi, ehi⟩ : ∃ z : Int32, z = fI H b (K.1.2 10 70) := ⟨_, rfl⟩
    rw [← ehi] at h70
    obtain ⟨iq, eiq⟩ : ∃ z : Nat, z = fR H b (K.1.2 10 73) := ⟨_, rfl⟩
    have giq := ty_fr (q := iq) (k := 73) (u := 162) eiq hT gb rg_112 rfl
    rw [← eiq] at q1 q4 q5 q10 q13 q16
    obtain ⟨k1, ek1⟩ : ∃ z : Int32, z = fI H kq (K.1.2 8 1) := ⟨_, rfl⟩
    rw [← ek1] at q1
    obtain ⟨i1, ei1⟩ : ∃ z : Int32, z = fI H iq ((0 : Int32).toNatClampNeg) := ⟨_, rfl⟩
    rw [← ei1] at q1
    obtain ⟨k4, ek4⟩ : ∃ z : Int32, z = fI H kq (K.1.2 8 4) := ⟨_, rfl⟩
    rw [← ek4] at q4
    obtain ⟨i4, ei4⟩ : ∃ z : Int32, z = fI H iq ((1 : Int32).toNatClampNeg) := ⟨_, rfl⟩
    rw [← ei4] at q4
    obtain ⟨k5, ek5⟩ : ∃ z : Int32, z = fI H kq (K.1.2 8 5) := ⟨_, rfl⟩
    rw [← ek5] at q5
    obtain ⟨i5, ei5⟩ : ∃ z : Int32, z = fI H iq ((2 : Int32).toNatClampNeg) := ⟨_, rfl⟩
    rw [← ei5] at q5
    obtain ⟨k10, ek10⟩ : ∃ z : Int32, z = fI H kq (K.1.2 8 10) := ⟨_, rfl⟩
    rw [← ek10] at q10
    obtain ⟨i10, ei10⟩ : ∃ z : Int32, z = fI H iq ((3 : Int32).toNatClampNeg) := ⟨_, rfl⟩
    rw [← ei10] at q10
    obtain ⟨k13, ek13⟩ : ∃ z : Int32, z = fI H kq (K.1.2 8 13) := ⟨_, rfl⟩
    rw [← ek13] at q13
    obtain ⟨i13, ei13⟩ : ∃ z : Int32, z = fI H iq ((4 : Int32).toNatClampNeg) := ⟨_, rfl⟩
    rw [← ei13] at q13
    obtain ⟨k16, ek16⟩ : ∃ z : Int32, z = fI H kq (K.1.2 8 16) := ⟨_, rfl⟩
    rw [← ek16] at q16
    obtain ⟨i16, ei16⟩ : ∃ z : Int32, z = fI H iq ((5 : Int32).toNatClampNeg) := ⟨_, rfl⟩
    rw [← ei16] at q16
    obtain ⟨kb, ekb⟩ : ∃ z : Nat, z = fR H kq (K.1.2 8 0) := ⟨_, rfl⟩
    have gkb := ty_fr (q := kb) (k := 0) (u := 59) ekb hT gkq rg_34 rfl
    have bk1 := ty_fi (x := k1) (k := 1) ek1 hT gkq rg_34 rfl
    rw [← ekb] at dbk
    rw [← ekb, ← eiq, ← ek1] at vk
    rw [← eiq, ← ek1] at vkt
    obtain ⟨kz354, ekz354⟩ : ∃ f : Nat → Int32, ∀ j : Nat, j < 10 → f j = fI H (fR H kb j) (K.1.2 0 14) := ⟨_, fun _ _ => rfl⟩
    obtain ⟨iz355, eiz355⟩ : ∃ f : Nat → Int32, ∀ j : Nat, j < 10 → f j = fI H iq (11 + 6 * j) := ⟨_, fun _ _ => rfl⟩
    have vk0 : ∀ j : Nat, j < 10 → (j : Int) < k1.toInt → kz354 j = iz355 j := fun j h1 h2 => by rw [ekz354 j h1, eiz355 j h1]; exact vk j h1 h2
    clear vk
    have vk1 : ∀ j : Nat, j < 10 → k1.toInt ≤ (j : Int) → iz355 j = 0 := fun j h1 h2 => by rw [eiz355 j h1]; exact vkt j h1 h2
    clear vkt
    refine lv_aload_n hx hb dL_law_1447 rfl (lv_at hl 2 rfl) ?_
    refine lv_aload_n hx hb dL_law_1448 rfl (lv_at hl 3 rfl) ?_
    refine lv_iload_n hx hb dL_law_1449 rfl (lv_at hl 0 rfl) ?_
    refine lv_iconst (v := 1) hx hb dL_law_1450 (by decide) ?_
    refine lv_iadd hx hb dL_law_1451 ?_
    refine lv_topi (fun x356 ex356 => ?_)
    obtain ⟨tx356, ejx356, evx356⟩ := lw_ix (k := 1) ex356 hI hL rfl (by decide)
    clear tx356
    refine va_sld hx hb hX hbl (Nat.not_le.mpr hbl) hS (vp_in_iff.mpr evx356) dL_law_1452 ?_
    refine W.eq (g2 := F0 m 1453 ls [.int (xs (i.toNatClampNeg + 1)), .ref a]) (congrArg (fun z => F0 m 1453 ls [.int (xs z), .ref a]) ejx356) ?_
    refine lv_if_eq (tgt := 1460) hx hb dL_law_1453 (by decide) (fun c1453 => ?_) (fun c1453 => ?_)
    · skip
      refine lv_iconst (v := 0) hx hb dL_law_1460 (by decide) ?_
      refine x_V (As := [.int 0]) (rest := []) C (a_X9_image_b0v l K G H (s1) (s4) (s5) (s10) (s13) (s16) (ta) (k1) (k4) (k5) (k10) (k13) (k16) hT ga gw ew es1 es4 es5 es10 es13 es16 gbq ebq db eta kn gkq gkb ekb dbk ek1 ek4 ek5 ek10 ek13 ek16) yo_X9_image wM_L_153 ⟨⟨by decide, by decide⟩, show _ ≤ 1200000 from Nat.le_trans hc (by decide), show _ ≤ 5502250 from Nat.le_trans hs (by decide)⟩ (x_rv C hT (ci := 9) rfl ga rg_68) rfl hl.1 rfl (Nat.le_of_ble_eq_true rfl) dL_law_1461 hS (AE_new hN hS.1) (fun vH357 H357 locsH357 pH357 zH357 kH357 hSH357 => ?_)
      obtain ⟨x358, hvH357, bx358, G359, mH357, hTH357, m368, m360, m361, m362, m363, m364, m365, m367⟩ := pH357
      subst hvH357
      have g373 : CG (avw K H357 b) := CG.congr (fun k hk j => av_eff hT kH357 gb (by decide) (CG_eff [0, 1, 2, 3, 4, 5, 6, 7, 8, 9, 10, 12, 14, 15, 16, 17, 18, 19, 20, 21, 22, 23, 24, 28, 29, 30, 31, 32, 33] (by decide) k hk)) cg
      have g374 : TU (avw K H357 b) (svw K H357 b) := TU.congr (fun k hk j => av_eff hT kH357 gb (by decide) (TU_eff [0, 1, 2, 3, 4, 5, 6, 7, 8, 9, 10, 12, 14, 15, 16, 17, 18, 19, 20, 21, 22, 23, 24, 28, 29, 30, 31, 32, 33] (by decide) k hk)) (fun k hk => sv_eff hT kH357 gb (by decide)) tu
      have g375 : WD (avw K H357 b) := WD.congr (fun k hk j => av_eff hT kH357 gb (by decide) (WD_eff [0, 1, 2, 3, 4, 5, 6, 7, 8, 9, 10, 12, 14, 15, 16, 17, 18, 19, 20, 21, 22, 23, 24, 28, 29, 30, 31, 32, 33] (by decide) k hk)) wd
      have g376 : IM (avw K H357 b) := IM.congr (fun k hk j => av_eff hT kH357 gb (by decide) (IM_eff [0, 1, 2, 3, 4, 5, 6, 7, 8, 9, 10, 12, 14, 15, 16, 17, 18, 19, 20, 21, 22, 23, 24, 28, 29, 30, 31, 32, 33] (by decide) k hk)) im
      have m377 := (ew).trans (fR_kept (x_lt hT kH357 ga (by decide))).symm
      have m378 := (eta).trans (fI_kept (x_lt hT kH357 ga (by decide))).symm
      have m379 := (etb).trans (fI_kept (x_lt hT kH357 gb (by decide))).symm
      have m380 := (ey1).trans (fI_kept (x_lt hT kH357 gb (by decide))).symm
      have m381 := (ey4).trans (fI_kept (x_lt hT kH357 gb (by decide))).symm
      have m382 := (ey5).trans (fI_kept (x_lt hT kH357 gb (by decide))).symm
      have m383 := (ey10).trans (fI_kept (x_lt hT kH357 gb (by decide))).symm
      have m384 := (ey13).trans (fI_kept (x_lt hT kH357 gb (by decide))).symm
      have m385 := (ey16).trans (fI_kept (x_lt hT kH357 gb (by decide))).symm
      have m386 := (eaq).trans (fR_kept (x_lt hT kH357 gb (by decide))).symm
      have m387 := (ehi).trans (fI_kept (x_lt hT kH357 gb (by decide))).symm
      have m388 := (fV_kept (x_lt hT kH357 ga (by decide))).trans kn
      have m389 := (eiq).trans (fR_kept (x_lt hT kH357 gb (by decide))).symm
      have m390 := (ek1).trans (fI_kept (x_lt hT kH357 gkq (by decide))).symm
      have m391 := (ei1).trans (fI_kept (x_lt hT kH357 giq (by decide))).symm
      have m392 := (ek4).trans (fI_kept (x_lt hT kH357 gkq (by decide))).symm
      have m393 := (ei4).trans (fI_kept (x_lt hT kH357 giq (by decide))).symm
      have m394 := (ek5).trans (fI_kept (x_lt hT kH357 gkq (by decide))).symm
      have m395 := (ei5).trans (fI_kept (x_lt hT kH357 giq (by decide))).symm
      have m396 := (ek10).trans (fI_kept (x_lt hT kH357 gkq (by decide))).symm
      have m397 := (ei10).trans (fI_kept (x_lt hT kH357 giq (by decide))).symm
      have m398 := (ek13).trans (fI_kept (x_lt hT kH357 gkq (by decide))).symm
      have m399 := (ei13).trans (fI_kept (x_lt hT kH357 giq (by decide))).symm
      have m400 := (ek16).trans (fI_kept (x_lt hT kH357 gkq (by decide))).symm
      have m401 := (ei16).trans (fI_kept (x_lt hT kH357 giq (by decide))).symm
      have m402 := (ekb).trans (fR_kept (x_lt hT kH357 gkq (by decide))).symm
      have gaH357 := (mH357 a (hT.lt ga)).trans ga
      have gbH357 := (mH357 b (hT.lt gb)).trans gb
      have gwH357 := (mH357 w (hT.lt gw)).trans gw
      have gbqH357 := (mH357 bq (hT.lt gbq)).trans gbq
      have gaqH357 := (mH357 aq (hT.lt gaq)).trans gaq
      have giqH357 := (mH357 iq (hT.lt giq)).trans giq
      have gkqH357 := (mH357 kq (hT.lt gkq)).trans gkq
      have gkbH357 := (mH357 kb (hT.lt gkb)).trans gkb
      have hNH357 : ∀ q, q < s.heap.size → G359 q = none := fun q hq => (mH357 q (Nat.lt_of_lt_of_le hq hS.1)).trans (hN q hq)
      have v403 : ∀ j : Nat, j < 10 → rz102 j = fI H357 aq j := fun j h => (erz102 j h).trans (fI_kept (x_lt hT kH357 gaq (by decide))).symm
      have v404 : ∀ j : Nat, j < 10 → iz355 j = fI H357 iq (11 + 6 * j) := fun j h => (eiz355 j h).trans (fI_kept (x_lt hT kH357 giq (by decide))).symm
      have v405 : ∀ j : Nat, j < 10 → kz354 j = fI H357 (fR H357 kb j) (K.1.2 0 14) := fun j h => (ekz354 j h).trans (by rw [fR_kept (x_lt hT kH357 gkb (by decide))]; exact (fI_kept (x_lt hT kH357 (bar_h hT gkb j h) (by decide))).symm)
      have d406 := DB.kept db (x_lt hT kH357 gbq (by decide))
      have d407 := DB.kept dbk (x_lt hT kH357 gkb (by decide))
      obtain ⟨x408, ex408⟩ : ∃ z : Int32, z = fI H357 w (K.1.2 8 1) := ⟨_, rfl⟩
      rw [← ex408] at m360
      obtain ⟨x409, ex409⟩ : ∃ z : Int32, z = fI H357 w (K.1.2 8 4) := ⟨_, rfl⟩
      rw [← ex409] at m361
      obtain ⟨x410, ex410⟩ : ∃ z : Int32, z = fI H357 w (K.1.2 8 5) := ⟨_, rfl⟩
      rw [← ex410] at m362
      obtain ⟨x411, ex411⟩ : ∃ z : Int32, z = fI H357 w (K.1.2 8 10) := ⟨_, rfl⟩
      rw [← ex411] at m363
      obtain ⟨x412, ex412⟩ : ∃ z : Int32, z = fI H357 w (K.1.2 8 13) := ⟨_, rfl⟩
      rw [← ex412] at m364
      obtain ⟨x413, ex413⟩ : ∃ z : Int32, z = fI H357 w (K.1.2 8 16) := ⟨_, rfl⟩
      rw [← ex413] at m365
      obtain ⟨cz414, ecz414⟩ : ∃ f : Nat → Int32, ∀ j : Nat, j < 10 → f j = fI H357 (fR H357 bq j) (K.1.2 0 14) := ⟨_, fun _ _ => rfl⟩
      have ci : ∀ j : Nat, j < 10 → j < k1.toNatClampNeg → cz414 j = kz354 j := fun j h hj => by rw [ecz414 j h, v405 j h]; exact m367 j h hj
      refine W.eq (g2 := F0 m 1464 ls [.int x358]) rfl ?_
      refine lv_pop hx hb dL_law_1464 rfl ?_
      refine lv_aload_n hx hb dL_law_1465 rfl (lv_at hl 1 rfl) ?_
      refine lv_aload_n hx hb dL_law_1466 rfl (lv_at hl 3 rfl) ?_
      refine lv_iload_n hx hb dL_law_1467 rfl (lv_at hl 0 rfl) ?_
      refine lv_iconst (v := 1) hx hb dL_law_1468 (by decide) ?_
      refine lv_iadd hx hb dL_law_1469 ?_
      refine lv_topi (fun x415 ex415 => ?_)
      obtain ⟨tx415, ejx415, evx415⟩ := lw_ix (k := 1) ex415 hI hL rfl (by decide)
      clear tx415
      refine va_sld hx hb hX hbl (Nat.not_le.mpr hbl) hSH357 (vp_in_iff.mpr evx415) dL_law_1470 ?_
      refine W.eq (g2 := F0 m 1471 ls [.int (xs (i.toNatClampNeg + 1)), .ref b]) (congrArg (fun z => F0 m 1471 ls [.int (xs z), .ref b]) ejx415) ?_
      refine lv_if_eq (tgt := 1478) hx hb dL_law_1471 (by decide) (fun c1471 => ?_) (fun c1471 => ?_)
      · skip
        refine lv_iconst (v := 0) hx hb dL_law_1478 (by decide) ?_
        obtain ⟨q416, eq416⟩ : ∃ z : Nat, z = fR H357 b (K.1.2 10 4) := ⟨_, rfl⟩
        have gq416 := ty_fr (q := q416) (k := 4) (u := 113) eq416 hTH357 gbH357 rg_112 rfl
        obtain ⟨q417, eq417⟩ : ∃ z : Nat, z = fR H357 b (K.1.2 10 10) := ⟨_, rfl⟩
        have gq417 := ty_fr (q := q417) (k := 10) (u := 119) eq417 hTH357 gbH357 rg_112 rfl
        obtain ⟨q418, eq418⟩ : ∃ z : Nat, z = fR H357 b (K.1.2 10 16) := ⟨_, rfl⟩
        have gq418 := ty_fr (q := q418) (k := 16) (u := 125) eq418 hTH357 gbH357 rg_112 rfl
        obtain ⟨q419, eq419⟩ : ∃ z : Nat, z = fR H357 b (K.1.2 10 24) := ⟨_, rfl⟩
        have gq419 := ty_fr (q := q419) (k := 24) (u := 128) eq419 hTH357 gbH357 rg_112 rfl
        obtain ⟨q420, eq420⟩ : ∃ z : Nat, z = fR H357 b (K.1.2 10 27) := ⟨_, rfl⟩
        have gq420 := ty_fr (q := q420) (k := 27) (u := 131) eq420 hTH357 gbH357 rg_112 rfl
        obtain ⟨q421, eq421⟩ : ∃ z : Nat, z = fR H357 b (K.1.2 10 29) := ⟨_, rfl⟩
        have gq421 := ty_fr (q := q421) (k := 29) (u := 133) eq421 hTH357 gbH357 rg_112 rfl
        obtain ⟨q422, eq422⟩ : ∃ z : Nat, z = fR H357 b (K.1.2 10 30) := ⟨_, rfl⟩
        have gq422 := ty_fr (q := q422) (k := 30) (u := 134) eq422 hTH357 gbH357 rg_112 rfl
        obtain ⟨q423, eq423⟩ : ∃ z : Nat, z = fR H357 b (K.1.2 10 31) := ⟨_, rfl⟩
        have gq423 := ty_fr (q := q423) (k := 31) (u := 135) eq423 hTH357 gbH357 rg_112 rfl
        obtain ⟨q424, eq424⟩ : ∃ z : Nat, z = fR H357 b (K.1.2 10 32) := ⟨_, rfl⟩
        have gq424 := ty_fr (q := q424) (k := 32) (u := 136) eq424 hTH357 gbH357 rg_112 rfl
        obtain ⟨q425, eq425⟩ : ∃ z : Nat, z = fR H357 b (K.1.2 10 33) := ⟨_, rfl⟩
        have gq425 := ty_fr (q := q425) (k := 33) (u := 137) eq425 hTH357 gbH357 rg_112 rfl
        refine x_V (As := [.int 0]) (rest := []) C (a_X10_image l K G359 H357 (0) (hi) (y1) (y4) (y5) (y10) (y13) (y16) hTH357 gbH357 (by decide) giqH357 m389 gq416 eq416 gq417 eq417 gq418 eq418 gq419 eq419 gq420 eq420 gq421 eq421 gq422 eq422 gq423 eq423 gq424 eq424 gq425 eq425 gaqH357 m386 m387 m380 m381 m382 m383 m384 m385 g373 g374 g375 g376) yo_X10_image wM_L_157 ⟨⟨by decide, by decide⟩, show _ ≤ 1200000 from Nat.le_trans hc (by decide), show _ ≤ 5502250 from Nat.le_trans hs (by decide)⟩ (x_rv C hTH357 (ci := 10) rfl gbH357 rg_112) rfl hl.1 rfl (Nat.le_of_ble_eq_true rfl) dL_law_1479 hSH357 (AE_new hNH357 hSH357.1) (fun vH426 H426 locsH426 pH426 zH426 kH426 hSH426 => ?_)
        obtain ⟨x427, x428, x429, x430, x431, x432, x433, x434, hvH426, bx427, ex428, ex429, ex430, ex431, ex432, ex433, ex434, hrH426, m435, m436, m437, m438, m439, m440, m441, m442, m443, m444, m445, m446, g447, g448, g449, g450, mf451, m452, m453, m454, m455, m456, m457, hTH426⟩ := pH426
        subst hvH426
        have m458 := (m377).trans (fR_kept (x_lt hTH357 kH426 gaH357 (by decide))).symm
        have m459 := (m378).trans (fI_kept (x_lt hTH357 kH426 gaH357 (by decide))).symm
        have m460 := (fV_kept (x_lt hTH357 kH426 gaH357 (by decide))).trans m388
        have m461 := (m390).trans (fI_kept (x_lt hTH357 kH426 gkqH357 (by decide))).symm
        have m462 := (m392).trans (fI_kept (x_lt hTH357 kH426 gkqH357 (by decide))).symm
        have m463 := (m394).trans (fI_kept (x_lt hTH357 kH426 gkqH357 (by decide))).symm
        have m464 := (m396).trans (fI_kept (x_lt hTH357 kH426 gkqH357 (by decide))).symm
        have m465 := (m398).trans (fI_kept (x_lt hTH357 kH426 gkqH357 (by decide))).symm
        have m466 := (m400).trans (fI_kept (x_lt hTH357 kH426 gkqH357 (by decide))).symm
        have m467 := (m402).trans (fR_kept (x_lt hTH357 kH426 gkqH357 (by decide))).symm
        have m468 := (m368).trans (fR_kept (x_lt hTH357 kH426 gwH357 (by decide))).symm
        have m469 := (ex408).trans (fI_kept (x_lt hTH357 kH426 gwH357 (by decide))).symm
        have m470 := (ex409).trans (fI_kept (x_lt hTH357 kH426 gwH357 (by decide))).symm
        have m471 := (ex410).trans (fI_kept (x_lt hTH357 kH426 gwH357 (by decide))).symm
        have m472 := (ex411).trans (fI_kept (x_lt hTH357 kH426 gwH357 (by decide))).symm
        have m473 := (ex412).trans (fI_kept (x_lt hTH357 kH426 gwH357 (by decide))).symm
        have m474 := (ex413).trans (fI_kept (x_lt hTH357 kH426 gwH357 (by decide))).symm
        have m475 := (m379).trans (MF.i mf451 (k := 18) (by decide) (by decide)).symm
        have m476 := (m386).trans (MF.r mf451 (k := 50) (by decide) (by decide)).symm
        have m477 := (m389).trans (MF.r mf451 (k := 73) (by decide) (by decide)).symm
        have m478 := (eq416).trans (MF.r mf451 (k := 4) (by decide) (by decide)).symm
        have m479 := (eq417).trans (MF.r mf451 (k := 10) (by decide) (by decide)).symm
        have m480 := (eq418).trans (MF.r mf451 (k := 16) (by decide) (by decide)).symm
        have m481 := (eq419).trans (MF.r mf451 (k := 24) (by decide) (by decide)).symm
        have m482 := (eq420).trans (MF.r mf451 (k := 27) (by decide) (by decide)).symm
        have m483 := (eq421).trans (MF.r mf451 (k := 29) (by decide) (by decide)).symm
        have m484 := (eq422).trans (MF.r mf451 (k := 30) (by decide) (by decide)).symm
        have m485 := (eq423).trans (MF.r mf451 (k := 31) (by decide) (by decide)).symm
        have m486 := (eq424).trans (MF.r mf451 (k := 32) (by decide) (by decide)).symm
        have m487 := (eq425).trans (MF.r mf451 (k := 33) (by decide) (by decide)).symm
        have bx428 := ty_fi (x := x428) (k := 70) ex428 hTH426 gbH357 rg_112 rfl
        have bx429 := ty_fi (x := x429) (k := 1) ex429 hTH426 gbH357 rg_112 rfl
        have bx430 := ty_fi (x := x430) (k := 2) ex430 hTH426 gbH357 rg_112 rfl
        have bx431 := ty_fi (x := x431) (k := 3) ex431 hTH426 gbH357 rg_112 rfl
        have bx432 := ty_fi (x := x432) (k := 59) ex432 hTH426 gbH357 rg_112 rfl
        have bx433 := ty_fi (x := x433) (k := 62) ex433 hTH426 gbH357 rg_112 rfl
        have bx434 := ty_fi (x := x434) (k := 65) ex434 hTH426 gbH357 rg_112 rfl
        refine W.eq (g2 := F0 m 1482 ls [.int x427]) rfl ?_
        obtain ⟨j488, j489, j490, j491, j492, j493⟩ := m452.resolve_left (by omega)
        have ij488 : i1 = fI H426 iq ((0 : Int32).toNatClampNeg) := m391.trans (m454 (by decide) _).symm
        have tj488 := congrArg Int32.toInt (j488.trans ij488.symm)
        have ij489 : i4 = fI H426 iq ((1 : Int32).toNatClampNeg) := m393.trans (m454 (by decide) _).symm
        have tj489 := congrArg Int32.toInt (j489.trans ij489.symm)
        have ij490 : i5 = fI H426 iq ((2 : Int32).toNatClampNeg) := m395.trans (m454 (by decide) _).symm
        have tj490 := congrArg Int32.toInt (j490.trans ij490.symm)
        have ij491 : i10 = fI H426 iq ((3 : Int32).toNatClampNeg) := m397.trans (m454 (by decide) _).symm
        have tj491 := congrArg Int32.toInt (j491.trans ij491.symm)
        have ij492 : i13 = fI H426 iq ((4 : Int32).toNatClampNeg) := m399.trans (m454 (by decide) _).symm
        have tj492 := congrArg Int32.toInt (j492.trans ij492.symm)
        have ij493 : i16 = fI H426 iq ((5 : Int32).toNatClampNeg) := m401.trans (m454 (by decide) _).symm
        have tj493 := congrArg Int32.toInt (j493.trans ij493.symm)
        have v494 : ∀ j : Nat, j < 10 → cz414 j = fI H426 (fR H426 bq j) (K.1.2 0 14) := fun j h => (ecz414 j h).trans (by rw [fR_kept (x_lt hTH357 kH426 gbqH357 (by decide))]; exact (fI_kept (x_lt hTH357 kH426 (bar_g hTH357 gbqH357 j h) (by decide))).symm)
        have e4_ := m455.resolve_left (by omega)
        have v495 : ∀ j : Nat, j < 10 → iz355 j = fI H426 iq (11 + 6 * j) := fun j h => (v404 j h).trans (m454 (by decide) _).symm
        obtain ⟨rz496, erz496⟩ : ∃ f : Nat → Int32, ∀ j : Nat, j < 10 → f j = fI H426 aq j := ⟨_, fun _ _ => rfl⟩
        have ri : ∀ j : Nat, j < 10 → rz496 j = iz355 j := fun j h => by rw [erz496 j h, v495 j h]; exact e4_ j h
        have v497 : ∀ j : Nat, j < 10 → kz354 j = fI H426 (fR H426 kb j) (K.1.2 0 14) := fun j h => (v405 j h).trans (by rw [fR_kept (x_lt hTH357 kH426 gkbH357 (by decide))]; exact (fI_kept (x_lt hTH357 kH426 (bar_h hTH357 gkbH357 j h) (by decide))).symm)
        have d498 := DB.kept d407 (x_lt hTH357 kH426 gkbH357 (by decide))
        have d499 := DB.kept d406 (x_lt hTH357 kH426 gbqH357 (by decide))
        refine lv_pop hx hb dL_law_1482 rfl ?_
        refine lv_goto (tgt := 1509) hx hb dL_law_1483 (by decide) ?_
        have rel2 : ∀ j : Nat, j < 10 → (j : Int) < x429.toInt → cz414 j = rz496 j := fun j h1 h2 => by have hc := i_cl (x := k1) (by omega); rw [ci j h1 (by omega), ri j h1]; exact vk0 j h1 (by omega)
        have tl2 : ∀ j : Nat, j < 10 → x429.toInt ≤ (j : Int) → rz496 j = 0 := fun j h1 h2 => by rw [ri j h1]; exact vk1 j h1 (by omega)
        exact nx G359 H426 locsH426 _ _ ls ⟨hTH426, hNH357, gaH357, gbH357, g447, g448, g449, g450, ⟨(by rw [← m459, ← m475]; exact rt), (by rw [← m458, ← m469, ← ex429]; omega), (by rw [← m458, ← m470, ← ex430]; omega), (by rw [← m458, ← m471, ← ex431]; omega), (by rw [← m458, ← m472, ← ex432]; omega), (by rw [← m458, ← m473, ← ex433]; omega), (by rw [← m458, ← m474, ← ex434]; omega)⟩, Or.inr ⟨kq, m460, gkqH357, (by rw [← ex428]; omega), (by rw [← m461, ← m435, ← ij488]; exact q1), (by rw [← m462, ← m435, ← ij489]; exact q4), (by rw [← m463, ← m435, ← ij490]; exact q5), (by rw [← m464, ← m435, ← ij491]; exact q10), (by rw [← m465, ← m435, ← ij492]; exact q13), (by rw [← m466, ← m435, ← ij493]; exact q16), (by rw [← m467]; exact d498), (by rw [← m467, ← m435, ← m461]; exact fun j h1 h2 => by rw [← v497 j h1, ← v495 j h1]; exact vk0 j h1 (by omega)), (by rw [← m435, ← m461]; exact fun j h1 h2 => by rw [← v495 j h1]; exact vk1 j h1 (by omega))⟩, (by unfold RB; rw [← m458, ← m468, ← m446, ← ex429]; exact ⟨d499, fun j h1 h2 => by rw [← v494 j h1, ← erz496 j h1]; exact rel2 j h1 (by omega), fun j h1 h2 => by rw [← erz496 j h1]; exact tl2 j h1 (by omega)⟩), hSH426⟩ hl ⟨hc, hs, fun h => by have h1 := h.symm.trans m460; cases h1⟩
      · skip
        exact absurd c1453 c1471
    · skip
      refine lv_iconst (v := 1) hx hb dL_law_1456 (by decide) ?_
      refine lv_goto (tgt := 1461) hx hb dL_law_1457 (by decide) ?_
      refine x_V (As := [.int 1]) (rest := []) C (a_X9_image_b1v l K G H (s1) (s4) (s5) (s10) (s13) (s16) (ta) (k1) (k4) (k5) (k10) (k13) (k16) hT ga gw ew es1 es4 es5 es10 es13 es16 gbq ebq db eta kn gkq gkb ekb dbk ek1 ek4 ek5 ek10 ek13 ek16) yo_X9_image wM_L_153 ⟨⟨by decide, by decide⟩, show _ ≤ 1200000 from Nat.le_trans hc (by decide), show _ ≤ 5502250 from Nat.le_trans hs (by decide)⟩ (x_rv C hT (ci := 9) rfl ga rg_68) rfl hl.1 rfl (Nat.le_of_ble_eq_true rfl) dL_law_1461 hS (AE_new hN hS.1) (fun vH500 H500 locsH500 pH500 zH500 kH500 hSH500 => ?_)
      obtain ⟨x501, hvH500, bx501, G502, mH500, hTH500, m512, m513, q509, kbq509, m514, gq509, gkbq509, ekbq509, d515, m503, m504, m505, m506, m507, m508, m510⟩ := pH500
      subst hvH500
      have g516 : CG (avw K H500 b) := CG.congr (fun k hk j => av_eff hT kH500 gb (by decide) (CG_eff [68, 34, 35, 36, 37, 38, 39, 40, 41, 42, 43, 44, 46, 48, 49, 50, 51, 52, 53, 54, 55, 56, 57, 58, 62, 63, 64, 65, 66, 67] (by decide) k hk)) cg
      have g517 : TU (avw K H500 b) (svw K H500 b) := TU.congr (fun k hk j => av_eff hT kH500 gb (by decide) (TU_eff [68, 34, 35, 36, 37, 38, 39, 40, 41, 42, 43, 44, 46, 48, 49, 50, 51, 52, 53, 54, 55, 56, 57, 58, 62, 63, 64, 65, 66, 67] (by decide) k hk)) (fun k hk => sv_eff hT kH500 gb (by decide)) tu
      have g518 : WD (avw K H500 b) := WD.congr (fun k hk j => av_eff hT kH500 gb (by decide) (WD_eff [68, 34, 35, 36, 37, 38, 39, 40, 41, 42, 43, 44, 46, 48, 49, 50, 51, 52, 53, 54, 55, 56, 57, 58, 62, 63, 64, 65, 66, 67] (by decide) k hk)) wd
      have g519 : IM (avw K H500 b) := IM.congr (fun k hk j => av_eff hT kH500 gb (by decide) (IM_eff [68, 34, 35, 36, 37, 38, 39, 40, 41, 42, 43, 44, 46, 48, 49, 50, 51, 52, 53, 54, 55, 56, 57, 58, 62, 63, 64, 65, 66, 67] (by decide) k hk)) im
      have m520 := (etb).trans (fI_kept (x_lt hT kH500 gb (by decide))).symm
      have m521 := (es1).trans (fI_kept (x_lt hT kH500 gw (by decide))).symm
      have m522 := (ey1).trans (fI_kept (x_lt hT kH500 gb (by decide))).symm
      have m523 := (es4).trans (fI_kept (x_lt hT kH500 gw (by decide))).symm
      have m524 := (ey4).trans (fI_kept (x_lt hT kH500 gb (by decide))).symm
      have m525 := (es5).trans (fI_kept (x_lt hT kH500 gw (by decide))).symm
      have m526 := (ey5).trans (fI_kept (x_lt hT kH500 gb (by decide))).symm
      have m527 := (es10).trans (fI_kept (x_lt hT kH500 gw (by decide))).symm
      have m528 := (ey10).trans (fI_kept (x_lt hT kH500 gb (by decide))).symm
      have m529 := (es13).trans (fI_kept (x_lt hT kH500 gw (by decide))).symm
      have m530 := (ey13).trans (fI_kept (x_lt hT kH500 gb (by decide))).symm
      have m531 := (es16).trans (fI_kept (x_lt hT kH500 gw (by decide))).symm
      have m532 := (ey16).trans (fI_kept (x_lt hT kH500 gb (by decide))).symm
      have m533 := (ebq).trans (fR_kept (x_lt hT kH500 gw (by decide))).symm
      have m534 := (eaq).trans (fR_kept (x_lt hT kH500 gb (by decide))).symm
      have m535 := (ehi).trans (fI_kept (x_lt hT kH500 gb (by decide))).symm
      have m536 := (eiq).trans (fR_kept (x_lt hT kH500 gb (by decide))).symm
      have m537 := (ei1).trans (fI_kept (x_lt hT kH500 giq (by decide))).symm
      have m538 := (ei4).trans (fI_kept (x_lt hT kH500 giq (by decide))).symm
      have m539 := (ei5).trans (fI_kept (x_lt hT kH500 giq (by decide))).symm
      have m540 := (ei10).trans (fI_kept (x_lt hT kH500 giq (by decide))).symm
      have m541 := (ei13).trans (fI_kept (x_lt hT kH500 giq (by decide))).symm
      have m542 := (ei16).trans (fI_kept (x_lt hT kH500 giq (by decide))).symm
      have gaH500 := (mH500 a (hT.lt ga)).trans ga
      have gbH500 := (mH500 b (hT.lt gb)).trans gb
      have gwH500 := (mH500 w (hT.lt gw)).trans gw
      have gbqH500 := (mH500 bq (hT.lt gbq)).trans gbq
      have gaqH500 := (mH500 aq (hT.lt gaq)).trans gaq
      have giqH500 := (mH500 iq (hT.lt giq)).trans giq
      have gkqH500 := (mH500 kq (hT.lt gkq)).trans gkq
      have gkbH500 := (mH500 kb (hT.lt gkb)).trans gkb
      have hNH500 : ∀ q, q < s.heap.size → G502 q = none := fun q hq => (mH500 q (Nat.lt_of_lt_of_le hq hS.1)).trans (hN q hq)
      have v543 : ∀ j : Nat, j < 10 → rz102 j = fI H500 aq j := fun j h => (erz102 j h).trans (fI_kept (x_lt hT kH500 gaq (by decide))).symm
      have v544 : ∀ j : Nat, j < 10 → iz355 j = fI H500 iq (11 + 6 * j) := fun j h => (eiz355 j h).trans (fI_kept (x_lt hT kH500 giq (by decide))).symm
      have v545 : ∀ j : Nat, j < 10 → cz101 j = fI H500 (fR H500 bq j) (K.1.2 0 14) := fun j h => (ecz101 j h).trans (by rw [fR_kept (x_lt hT kH500 gbq (by decide))]; exact (fI_kept (x_lt hT kH500 (bar_g hT gbq j h) (by decide))).symm)
      have d546 := DB.kept db (x_lt hT kH500 gbq (by decide))
      obtain ⟨x547, ex547⟩ : ∃ z : Int32, z = fI H500 q509 (K.1.2 8 1) := ⟨_, rfl⟩
      rw [← ex547] at m503
      obtain ⟨x548, ex548⟩ : ∃ z : Int32, z = fI H500 q509 (K.1.2 8 4) := ⟨_, rfl⟩
      rw [← ex548] at m504
      obtain ⟨x549, ex549⟩ : ∃ z : Int32, z = fI H500 q509 (K.1.2 8 5) := ⟨_, rfl⟩
      rw [← ex549] at m505
      obtain ⟨x550, ex550⟩ : ∃ z : Int32, z = fI H500 q509 (K.1.2 8 10) := ⟨_, rfl⟩
      rw [← ex550] at m506
      obtain ⟨x551, ex551⟩ : ∃ z : Int32, z = fI H500 q509 (K.1.2 8 13) := ⟨_, rfl⟩
      rw [← ex551] at m507
      obtain ⟨x552, ex552⟩ : ∃ z : Int32, z = fI H500 q509 (K.1.2 8 16) := ⟨_, rfl⟩
      rw [← ex552] at m508
      obtain ⟨kz553, ekz553⟩ : ∃ f : Nat → Int32, ∀ j : Nat, j < 10 → f j = fI H500 (fR H500 kbq509 j) (K.1.2 0 14) := ⟨_, fun _ _ => rfl⟩
      have ck : ∀ j : Nat, j < 10 → j < s1.toNatClampNeg → kz553 j = cz101 j := fun j h hj => by rw [ekz553 j h, v545 j h]; exact m510 j h hj
      refine W.eq (g2 := F0 m 1464 ls [.int x501]) rfl ?_
      refine lv_pop hx hb dL_law_1464 rfl ?_
      refine lv_aload_n hx hb dL_law_1465 rfl (lv_at hl 1 rfl) ?_
      refine lv_aload_n hx hb dL_law_1466 rfl (lv_at hl 3 rfl) ?_
      refine lv_iload_n hx hb dL_law_1467 rfl (lv_at hl 0 rfl) ?_
      refine lv_iconst (v := 1) hx hb dL_law_1468 (by decide) ?_
      refine lv_iadd hx hb dL_law_1469 ?_
      refine lv_topi (fun x554 ex554 => ?_)
      obtain ⟨tx554, ejx554, evx554⟩ := lw_ix (k := 1) ex554 hI hL rfl (by decide)
      clear tx554
      refine va_sld hx hb hX hbl (Nat.not_le.mpr hbl) hSH500 (vp_in_iff.mpr evx554) dL_law_1470 ?_
      refine W.eq (g2 := F0 m 1471 ls [.int (xs (i.toNatClampNeg + 1)), .ref b]) (congrArg (fun z => F0 m 1471 ls [.int (xs z), .ref b]) ejx554) ?_
      refine lv_if_eq (tgt := 1478) hx hb dL_law_1471 (by decide) (fun c1471 => ?_) (fun c1471 => ?_)
      · skip
        exact absurd c1471 c1453
      · skip
        refine lv_iconst (v := 1) hx hb dL_law_1474 (by decide) ?_
        refine lv_goto (tgt := 1479) hx hb dL_law_1475 (by decide) ?_
        obtain ⟨q555, eq555⟩ : ∃ z : Nat, z = fR H500 b (K.1.2 10 4) := ⟨_, rfl⟩
        have gq555 := ty_fr (q := q555) (k := 4) (u := 113) eq555 hTH500 gbH500 rg_112 rfl
        obtain ⟨q556, eq556⟩ : ∃ z : Nat, z = fR H500 b (K.1.2 10 10) := ⟨_, rfl⟩
        have gq556 := ty_fr (q := q556) (k := 10) (u := 119) eq556 hTH500 gbH500 rg_112 rfl
        obtain ⟨q557, eq557⟩ : ∃ z : Nat, z = fR H500 b (K.1.2 10 16) := ⟨_, rfl⟩
        have gq557 := ty_fr (q := q557) (k := 16) (u := 125) eq557 hTH500 gbH500 rg_112 rfl
        obtain ⟨q558, eq558⟩ : ∃ z : Nat, z = fR H500 b (K.1.2 10 24) := ⟨_, rfl⟩
        have gq558 := ty_fr (q := q558) (k := 24) (u := 128) eq558 hTH500 gbH500 rg_112 rfl
        obtain ⟨q559, eq559⟩ : ∃ z : Nat, z = fR H500 b (K.1.2 10 27) := ⟨_, rfl⟩
        have gq559 := ty_fr (q := q559) (k := 27) (u := 131) eq559 hTH500 gbH500 rg_112 rfl
        obtain ⟨q560, eq560⟩ : ∃ z : Nat, z = fR H500 b (K.1.2 10 29) := ⟨_, rfl⟩
        have gq560 := ty_fr (q := q560) (k := 29) (u := 133) eq560 hTH500 gbH500 rg_112 rfl
        obtain ⟨q561, eq561⟩ : ∃ z : Nat, z = fR H500 b (K.1.2 10 30) := ⟨_, rfl⟩
        have gq561 := ty_fr (q := q561) (k := 30) (u := 134) eq561 hTH500 gbH500 rg_112 rfl
        obtain ⟨q562, eq562⟩ : ∃ z : Nat, z = fR H500 b (K.1.2 10 31) := ⟨_, rfl⟩
        have gq562 := ty_fr (q := q562) (k := 31) (u := 135) eq562 hTH500 gbH500 rg_112 rfl
        obtain ⟨q563, eq563⟩ : ∃ z : Nat, z = fR H500 b (K.1.2 10 32) := ⟨_, rfl⟩
        have gq563 := ty_fr (q := q563) (k := 32) (u := 136) eq563 hTH500 gbH500 rg_112 rfl
        obtain ⟨q564, eq564⟩ : ∃ z : Nat, z = fR H500 b (K.1.2 10 33) := ⟨_, rfl⟩
        have gq564 := ty_fr (q := q564) (k := 33) (u := 137) eq564 hTH500 gbH500 rg_112 rfl
        refine x_V (As := [.int 1]) (rest := []) C (a_X10_image l K G502 H500 (1) (hi) (y1) (y4) (y5) (y10) (y13) (y16) hTH500 gbH500 (by decide) giqH500 m536 gq555 eq555 gq556 eq556 gq557 eq557 gq558 eq558 gq559 eq559 gq560 eq560 gq561 eq561 gq562 eq562 gq563 eq563 gq564 eq564 gaqH500 m534 m535 m522 m524 m526 m528 m530 m532 g516 g517 g518 g519) yo_X10_image wM_L_157 ⟨⟨by decide, by decide⟩, show _ ≤ 1200000 from Nat.le_trans hc (by decide), show _ ≤ 5502250 from Nat.le_trans hs (by decide)⟩ (x_rv C hTH500 (ci := 10) rfl gbH500 rg_112) rfl hl.1 rfl (Nat.le_of_ble_eq_true rfl) dL_law_1479 hSH500 (AE_new hNH500 hSH500.1) (fun vH565 H565 locsH565 pH565 zH565 kH565 hSH565 => ?_)
        obtain ⟨x566, x567, x568, x569, x570, x571, x572, x573, hvH565, bx566, ex567, ex568, ex569, ex570, ex571, ex572, ex573, hrH565, m574, m575, m576, m577, m578, m579, m580, m581, m582, m583, m584, m585, g586, g587, g588, g589, mf590, m591, m592, m593, m594, m595, m596, hTH565⟩ := pH565
        subst hvH565
        have m597 := (m521).trans (fI_kept (x_lt hTH500 kH565 gwH500 (by decide))).symm
        have m598 := (m523).trans (fI_kept (x_lt hTH500 kH565 gwH500 (by decide))).symm
        have m599 := (m525).trans (fI_kept (x_lt hTH500 kH565 gwH500 (by decide))).symm
        have m600 := (m527).trans (fI_kept (x_lt hTH500 kH565 gwH500 (by decide))).symm
        have m601 := (m529).trans (fI_kept (x_lt hTH500 kH565 gwH500 (by decide))).symm
        have m602 := (m531).trans (fI_kept (x_lt hTH500 kH565 gwH500 (by decide))).symm
        have m603 := (m533).trans (fR_kept (x_lt hTH500 kH565 gwH500 (by decide))).symm
        have m604 := (m512).trans (fR_kept (x_lt hTH500 kH565 gaH500 (by decide))).symm
        have m605 := (m513).trans (fI_kept (x_lt hTH500 kH565 gaH500 (by decide))).symm
        have m606 := (ex547).trans (fI_kept (x_lt hTH500 kH565 gq509 (by decide))).symm
        have m607 := (ex548).trans (fI_kept (x_lt hTH500 kH565 gq509 (by decide))).symm
        have m608 := (ex549).trans (fI_kept (x_lt hTH500 kH565 gq509 (by decide))).symm
        have m609 := (ex550).trans (fI_kept (x_lt hTH500 kH565 gq509 (by decide))).symm
        have m610 := (ex551).trans (fI_kept (x_lt hTH500 kH565 gq509 (by decide))).symm
        have m611 := (ex552).trans (fI_kept (x_lt hTH500 kH565 gq509 (by decide))).symm
        have m612 := (fV_kept (x_lt hTH500 kH565 gaH500 (by decide))).trans m514
        have m613 := (ekbq509).trans (fR_kept (x_lt hTH500 kH565 gq509 (by decide))).symm
        have m614 := (m520).trans (MF.i mf590 (k := 18) (by decide) (by decide)).symm
        have m615 := (m534).trans (MF.r mf590 (k := 50) (by decide) (by decide)).symm
        have m616 := (m536).trans (MF.r mf590 (k := 73) (by decide) (by decide)).symm
        have m617 := (eq555).trans (MF.r mf590 (k := 4) (by decide) (by decide)).symm
        have m618 := (eq556).trans (MF.r mf590 (k := 10) (by decide) (by decide)).symm
        have m619 := (eq557).trans (MF.r mf590 (k := 16) (by decide) (by decide)).symm
        have m620 := (eq558).trans (MF.r mf590 (k := 24) (by decide) (by decide)).symm
        have m621 := (eq559).trans (MF.r mf590 (k := 27) (by decide) (by decide)).symm
        have m622 := (eq560).trans (MF.r mf590 (k := 29) (by decide) (by decide)).symm
        have m623 := (eq561).trans (MF.r mf590 (k := 30) (by decide) (by decide)).symm
        have m624 := (eq562).trans (MF.r mf590 (k := 31) (by decide) (by decide)).symm
        have m625 := (eq563).trans (MF.r mf590 (k := 32) (by decide) (by decide)).symm
        have m626 := (eq564).trans (MF.r mf590 (k := 33) (by decide) (by decide)).symm
        have bx567 := ty_fi (x := x567) (k := 70) ex567 hTH565 gbH500 rg_112 rfl
        have bx568 := ty_fi (x := x568) (k := 1) ex568 hTH565 gbH500 rg_112 rfl
        have bx569 := ty_fi (x := x569) (k := 2) ex569 hTH565 gbH500 rg_112 rfl
        have bx570 := ty_fi (x := x570) (k := 3) ex570 hTH565 gbH500 rg_112 rfl
        have bx571 := ty_fi (x := x571) (k := 59) ex571 hTH565 gbH500 rg_112 rfl
        have bx572 := ty_fi (x := x572) (k := 62) ex572 hTH565 gbH500 rg_112 rfl
        have bx573 := ty_fi (x := x573) (k := 65) ex573 hTH565 gbH500 rg_112 rfl
        refine W.eq (g2 := F0 m 1482 ls [.int x566]) rfl ?_
        obtain ⟨j627, j628, j629, j630, j631, j632⟩ := m591.resolve_left (by omega)
        obtain ⟨j633, j634, j635, j636, j637, j638⟩ := m592 (by decide)
        replace j633 := congrArg Int32.toInt j633
        replace j634 := congrArg Int32.toInt j634
        replace j635 := congrArg Int32.toInt j635
        replace j636 := congrArg Int32.toInt j636
        replace j637 := congrArg Int32.toInt j637
        replace j638 := congrArg Int32.toInt j638
        have ij627 : x568 = fI H565 iq ((0 : Int32).toNatClampNeg) := j627
        have ij628 : x569 = fI H565 iq ((1 : Int32).toNatClampNeg) := j628
        have ij629 : x570 = fI H565 iq ((2 : Int32).toNatClampNeg) := j629
        have ij630 : x571 = fI H565 iq ((3 : Int32).toNatClampNeg) := j630
        have ij631 : x572 = fI H565 iq ((4 : Int32).toNatClampNeg) := j631
        have ij632 : x573 = fI H565 iq ((5 : Int32).toNatClampNeg) := j632
        have v639 : ∀ j : Nat, j < 10 → cz101 j = fI H565 (fR H565 bq j) (K.1.2 0 14) := fun j h => (v545 j h).trans (by rw [fR_kept (x_lt hTH500 kH565 gbqH500 (by decide))]; exact (fI_kept (x_lt hTH500 kH565 (bar_g hTH500 gbqH500 j h) (by decide))).symm)
        have e4_ := m594.resolve_left (by omega)
        have v640 : ∀ j : Nat, j < 10 → rz102 j = fI H565 aq j := fun j h => (v543 j h).trans (m595 (by decide) j).symm
        obtain ⟨iz641, eiz641⟩ : ∃ f : Nat → Int32, ∀ j : Nat, j < 10 → f j = fI H565 iq (11 + 6 * j) := ⟨_, fun _ _ => rfl⟩
        have ii : ∀ j : Nat, j < 10 → iz641 j = rz102 j := fun j h => by rw [eiz641 j h, v640 j h]; exact (e4_ j h).symm
        have v642 : ∀ j : Nat, j < 10 → kz553 j = fI H565 (fR H565 kbq509 j) (K.1.2 0 14) := fun j h => (ekz553 j h).trans (by rw [fR_kept (x_lt hTH500 kH565 gkbq509 (by decide))]; exact (fI_kept (x_lt hTH500 kH565 (bar_h hTH500 gkbq509 j h) (by decide))).symm)
        have d643 := DB.kept d515 (x_lt hTH500 kH565 gkbq509 (by decide))
        have d644 := DB.kept d546 (x_lt hTH500 kH565 gbqH500 (by decide))
        refine lv_pop hx hb dL_law_1482 rfl ?_
        refine lv_goto (tgt := 1509) hx hb dL_law_1483 (by decide) ?_
        have vk2 : ∀ j : Nat, j < 10 → (j : Int) < x547.toInt → kz553 j = iz641 j := fun j h1 h2 => by have hc := i_cl (x := s1) (by omega); rw [ck j h1 (by omega), ii j h1]; exact rel j h1 (by omega)
        have vk3 : ∀ j : Nat, j < 10 → x547.toInt ≤ (j : Int) → iz641 j = 0 := fun j h1 h2 => by rw [ii j h1]; exact tl j h1 (by omega)
        exact nx G502 H565 locsH565 _ _ ls ⟨hTH565, hNH500, gaH500, gbH500, g586, g587, g588, g589, ⟨(by rw [← m605, ← m614]; exact rt), (by rw [← m604, ← m597, ← ex568]; omega), (by rw [← m604, ← m598, ← ex569]; omega), (by rw [← m604, ← m599, ← ex570]; omega), (by rw [← m604, ← m600, ← ex571]; omega), (by rw [← m604, ← m601, ← ex572]; omega), (by rw [← m604, ← m602, ← ex573]; omega)⟩, Or.inr ⟨q509, m612, gq509, (by rw [← ex567]; omega), (by rw [← m606, ← m574, ← ij627]; omega), (by rw [← m607, ← m574, ← ij628]; omega), (by rw [← m608, ← m574, ← ij629]; omega), (by rw [← m609, ← m574, ← ij630]; omega), (by rw [← m610, ← m574, ← ij631]; omega), (by rw [← m611, ← m574, ← ij632]; omega), (by rw [← m613]; exact d643), (by rw [← m613, ← m574, ← m606]; exact fun j h1 h2 => by rw [← v642 j h1, ← eiz641 j h1]; exact vk2 j h1 (by omega)), (by rw [← m574, ← m606]; exact fun j h1 h2 => by rw [← eiz641 j h1]; exact vk3 j h1 (by omega))⟩, (by unfold RB; rw [← m604, ← m603, ← m585, ← ex568]; exact ⟨d644, fun j h1 h2 => by rw [← v639 j h1, ← v640 j h1]; exact rel j h1 (by omega), fun j h1 h2 => by rw [← v640 j h1]; exact tl j h1 (by omega)⟩), hSH565⟩ hl ⟨hc, hs, fun h => by have h1 := h.symm.trans m612; cases h1⟩
set_option maxRecDepth 100000 in
set_option maxHeartbeats 8000000 in
theorem lw_c34 {p : Program} {l : Launch} {e : Env} {s : State} {m : MethodId} {below : List Frame} {meth : Method} {c : Code} {K : KE} {b0 L : Nat} {xs : Nat → Int32} {G : Nat → Option Nat} {H : Heap} {locs : List Loc} {a b : Nat} {cells slots : Nat} {ls : Array Slot} {i : Int32} {n : Nat} (D : LC p K s m meth c b0 L xs) (S : SX K s G H locs a b) (hl : lv_has ls 4 [(3, .int i), (2, .ref b), (1, .ref a), (0, .ref b0)]) (hi : 0 ≤ i.toInt ∧ i.toInt + 6 ≤ L) (hn : n ≤ 511) (hB : BD K H a cells slots) (nx : ∀ (G : Nat → Option Nat) (H : Heap) (locs : List Loc) (cells slots : Nat) (ls : Array Slot), SX K s G H locs a b → lv_has ls 4 [(3, .int i), (2, .ref b), (1, .ref a), (0, .ref b0)] → BD K H a cells slots → W p l e room_1 s m #[Value.ref b0] below meth c H locs cells slots (lw_Z below #[Value.ref b0] s) (F0 m 1509 ls [])) : W p l e room_1 s m #[Value.ref b0] below meth c H locs cells slots (lw_Z below #[Value.ref b0] s) (F0 m 1486 ls []) := by
  have hI := hi
  obtain ⟨C, hX, hbl, hL⟩ := id D
  obtain ⟨hx, hb, hml, hown, hts, hKT, hr, hlocks, hnm⟩ := id C
  obtain ⟨hT, hN, ga, gb, cg, tu, wd, im, ⟨rt, r1, r4, r5, r10, r13, r16⟩, hk, hrb, hS⟩ := S
  obtain ⟨hc, hs, hB0⟩ := hB
  have n_m1 : ((-1) : Int32).toInt = -1 := rfl
  have n_0 : (0 : Int32).toInt = 0 := rfl
  have n_1 : (1 : Int32).toInt = 1 := rfl
  obtain ⟨w, ew⟩ : ∃ z : Nat, z = fR H a (K.1.2 9 0) := ⟨_, rfl⟩
  have gw := ty_fr (q := w) (k := 0) (u := 0) ew hT ga rg_68 rfl
  rw [← ew] at r1 r4 r5 r10 r13 r16
  obtain ⟨ta, eta⟩ : ∃ z : Int32, z = fI H a (K.1.2 9 3) := ⟨_, rfl⟩
  rw [← eta] at rt
  obtain ⟨tb, etb⟩ : ∃ z : Int32, z = fI H b (K.1.2 10 18) := ⟨_, rfl⟩
  rw [← etb] at rt
  obtain ⟨s1, es1⟩ : ∃ z : Int32, z = fI H w (K.1.2 8 1) := ⟨_, rfl⟩
  rw [← es1] at r1
  obtain ⟨y1, ey1⟩ : ∃ z : Int32, z = fI H b (K.1.2 10 1) := ⟨_, rfl⟩
  rw [← ey1] at r1
  obtain ⟨s4, es4⟩ : ∃ z : Int32, z = fI H w (K.1.2 8 4) := ⟨_, rfl⟩
  rw [← es4] at r4
  obtain ⟨y4, ey4⟩ : ∃ z : Int32, z = fI H b (K.1.2 10 2) := ⟨_, rfl⟩
  rw [← ey4] at r4
  obtain ⟨s5, es5⟩ : ∃ z : Int32, z = fI H w (K.1.2 8 5) := ⟨_, rfl⟩
  rw [← es5] at r5
  obtain ⟨y5, ey5⟩ : ∃ z : Int32, z = fI H b (K.1.2 10 3) := ⟨_, rfl⟩
  rw [← ey5] at r5
  obtain ⟨s10, es10⟩ : ∃ z : Int32, z = fI H w (K.1.2 8 10) := ⟨_, rfl⟩
  rw [← es10] at r10
  obtain ⟨y10, ey10⟩ : ∃ z : Int32, z = fI H b (K.1.2 10 59) := ⟨_, rfl⟩
  rw [← ey10] at r10
  obtain ⟨s13, es13⟩ : ∃ z : Int32, z = fI H w (K.1.2 8 13) := ⟨_, rfl⟩
  rw [← es13] at r13
  obtain ⟨y13, ey13⟩ : ∃ z : Int32, z = fI H b (K.1.2 10 62) := ⟨_, rfl⟩
  rw [← ey13] at r13
  obtain ⟨s16, es16⟩ : ∃ z : Int32, z = fI H w (K.1.2 8 16) := ⟨_, rfl⟩
  rw [← es16] at r16
  obtain ⟨y16, ey16⟩ : ∃ z : Int32, z = fI H b (K.1.2 10 65) := ⟨_, rfl⟩
  rw [← ey16] at r16
  obtain ⟨bq, ebq⟩ : ∃ z : Nat, z = fR H w (K.1.2 8 0) := ⟨_, rfl⟩
  have gbq := ty_fr (q := bq) (k := 0) (u := 25) ebq hT gw rg_0 rfl
  obtain ⟨aq, eaq⟩ : ∃ z : Nat, z = fR H b (K.1.2 10 50) := ⟨_, rfl⟩
  have gaq := ty_fr (q := aq) (k := 50) (u := 146) eaq hT gb rg_112 rfl
  have bs1 := ty_fi (x := s1) (k := 1) es1 hT gw rg_0 rfl
  have by1 := ty_fi (x := y1) (k := 1) ey1 hT gb rg_112 rfl
  obtain ⟨db, vr, vt⟩ := hrb
  rw [← ew, ← ebq] at db
  rw [← ew, ← ebq, ← eaq, ← ey1] at vr
  rw [← eaq, ← ey1] at vt
  obtain ⟨cz101, ecz101⟩ : ∃ f : Nat → Int32, ∀ j : Nat, j < 10 → f j = fI H (fR H bq j) (K.1.2 0 14) := ⟨_, fun _ _ => rfl⟩
  obtain ⟨rz102, erz102⟩ : ∃ f : Nat → Int32, ∀ j : Nat, j < 10 → f j = fI H aq j := ⟨_, fun _ _ => rfl⟩
  have rel : ∀ j : Nat, j < 10 → (j : Int) < y1.toInt → cz101 j = rz102 j := fun j h1 h2 => by rw [ecz101 j h1, erz102 j h1]; exact vr j h1 h2
  clear vr
  have tl : ∀ j : Nat, j < 10 → y1.toInt ≤ (j : Int) → rz102 j = 0 := fun j h1 h2 => by rw [erz102 j h1]; exact vt j h1 h2
  clear vt
  rcases hk with ⟨kn, h70⟩ | ⟨kq, kn, gkq, h70, q1, q4, q5, q10, q13, q16, dbk, vk, vkt⟩
  · skip
    obtain ⟨hi, ehi⟩ : ∃ z : Int32, z = fI H b (K.1.2 10 70) := ⟨_, rfl⟩
    rw [← ehi] at h70
    obtain ⟨hc0, hs0⟩ := hB0 kn
    obtain ⟨iq, eiq⟩ : ∃ z : Nat, z = fR H b (K.1.2 10 73) := ⟨_, rfl⟩
    have giq := ty_fr (q := iq) (k := 73) (u := 162) eiq hT gb rg_112 rfl
    refine lv_aload_n hx hb dL_law_1486 rfl (lv_at hl 2 rfl) ?_
    refine lv_aload_n hx hb dL_law_1487 rfl (lv_at hl 3 rfl) ?_
    refine lv_iload_n hx hb dL_law_1488 rfl (lv_at hl 0 rfl) ?_
    refine lv_iconst (v := 1) hx hb dL_law_1489 (by decide) ?_
    refine lv_iadd hx hb dL_law_1490 ?_
    refine lv_topi (fun x103 ex103 => ?_)
    obtain ⟨tx103, ejx103, evx103⟩ := lw_ix (k := 1) ex103 hI hL rfl (by decide)
    clear tx103
    refine va_sld hx hb hX hbl (Nat.not_le.mpr hbl) hS (vp_in_iff.mpr evx103) dL_law_1491 ?_
    refine W.eq (g2 := F0 m 1492 ls [.int (xs (i.toNatClampNeg + 1)), .ref a]) (congrArg (fun z => F0 m 1492 ls [.int (xs z), .ref a]) ejx103) ?_
    refine x_V (As := [.int (xs (i.toNatClampNeg + 1))]) (rest := []) C (a_X9_look l K G H ((xs (i.toNatClampNeg + 1))) hT ga) yo_X9_look wM_L_158 ⟨⟨by decide, by decide⟩, show _ ≤ 1200000 from Nat.le_trans hc (by decide), show _ ≤ 5502250 from Nat.le_trans hs (by decide)⟩ (x_rv C hT (ci := 9) rfl ga rg_68) rfl hl.1 rfl (Nat.le_of_ble_eq_true rfl) dL_law_1492 hS (AE_new hN hS.1) (fun vH104 H104 locsH104 pH104 zH104 kH104 hSH104 => ?_)
    obtain ⟨x105, hvH104, hTH104⟩ := pH104
    subst hvH104
    have g106 : CG (avw K H104 b) := CG.congr (fun k hk j => av_eff hT kH104 gb (by decide) (CG_eff [83, 84] (by decide) k hk)) cg
    have g107 : TU (avw K H104 b) (svw K H104 b) := TU.congr (fun k hk j => av_eff hT kH104 gb (by decide) (TU_eff [83, 84] (by decide) k hk)) (fun k hk => sv_eff hT kH104 gb (by decide)) tu
    have g108 : WD (avw K H104 b) := WD.congr (fun k hk j => av_eff hT kH104 gb (by decide) (WD_eff [83, 84] (by decide) k hk)) wd
    have g109 : IM (avw K H104 b) := IM.congr (fun k hk j => av_eff hT kH104 gb (by decide) (IM_eff [83, 84] (by decide) k hk)) im
    have m110 := (ew).trans (fR_kept (x_lt hT kH104 ga (by decide))).symm
    have m111 := (eta).trans (fI_kept (x_lt hT kH104 ga (by decide))).symm
    have m112 := (etb).trans (fI_kept (x_lt hT kH104 gb (by decide))).symm
    have m113 := (es1).trans (fI_kept (x_lt hT kH104 gw (by decide))).symm
    have m114 := (ey1).trans (fI_kept (x_lt hT kH104 gb (by decide))).symm
    have m115 := (es4).trans (fI_kept (x_lt hT kH104 gw (by decide))).symm
    have m116 := (ey4).trans (fI_kept (x_lt hT kH104 gb (by decide))).symm
    have m117 := (es5).trans (fI_kept (x_lt hT kH104 gw (by decide))).symm
    have m118 := (ey5).trans (fI_kept (x_lt hT kH104 gb (by decide))).symm
    have m119 := (es10).trans (fI_kept (x_lt hT kH104 gw (by decide))).symm
    have m120 := (ey10).trans (fI_kept (x_lt hT kH104 gb (by decide))).symm
    have m121 := (es13).trans (fI_kept (x_lt hT kH104 gw (by decide))).symm
    have m122 := (ey13).trans (fI_kept (x_lt hT kH104 gb (by decide))).symm
    have m123 := (es16).trans (fI_kept (x_lt hT kH104 gw (by decide))).symm
    have m124 := (ey16).trans (fI_kept (x_lt hT kH104 gb (by decide))).symm
    have m125 := (ebq).trans (fR_kept (x_lt hT kH104 gw (by decide))).symm
    have m126 := (eaq).trans (fR_kept (x_lt hT kH104 gb (by decide))).symm
    have m127 := (ehi).trans (fI_kept (x_lt hT kH104 gb (by decide))).symm
    have m128 := (fV_kept (x_lt hT kH104 ga (by decide))).trans kn
    have m129 := (eiq).trans (fR_kept (x_lt hT kH104 gb (by decide))).symm
    refine W.eq (g2 := F0 m 1495 ls [.int x105]) rfl ?_
    have v130 : ∀ j : Nat, j < 10 → cz101 j = fI H104 (fR H104 bq j) (K.1.2 0 14) := fun j h => (ecz101 j h).trans (by rw [fR_kept (x_lt hT kH104 gbq (by decide))]; exact (fI_kept (x_lt hT kH104 (bar_g hT gbq j h) (by decide))).symm)
    have v131 : ∀ j : Nat, j < 10 → rz102 j = fI H104 aq j := fun j h => (erz102 j h).trans (fI_kept (x_lt hT kH104 gaq (by decide))).symm
    have d132 := DB.kept db (x_lt hT kH104 gbq (by decide))
    refine lv_pop hx hb dL_law_1495 rfl ?_
    refine lv_aload_n hx hb dL_law_1496 rfl (lv_at hl 1 rfl) ?_
    refine lv_aload_n hx hb dL_law_1497 rfl (lv_at hl 3 rfl) ?_
    refine lv_iload_n hx hb dL_law_1498 rfl (lv_at hl 0 rfl) ?_
    refine lv_iconst (v := 1) hx hb dL_law_1499 (by decide) ?_
    refine lv_iadd hx hb dL_law_1500 ?_
    refine lv_topi (fun x133 ex133 => ?_)
    obtain ⟨tx133, ejx133, evx133⟩ := lw_ix (k := 1) ex133 hI hL rfl (by decide)
    clear tx133
    refine va_sld hx hb hX hbl (Nat.not_le.mpr hbl) hSH104 (vp_in_iff.mpr evx133) dL_law_1501 ?_
    refine W.eq (g2 := F0 m 1502 ls [.int (xs (i.toNatClampNeg + 1)), .ref b]) (congrArg (fun z => F0 m 1502 ls [.int (xs z), .ref b]) ejx133) ?_
    refine x_V (As := [.int (xs (i.toNatClampNeg + 1))]) (rest := []) C (a_X10_look l K G H104 ((xs (i.toNatClampNeg + 1))) hTH104 gb g106 g107 g108 g109) yo_X10_look wM_L_161 ⟨⟨by decide, by decide⟩, show _ ≤ 1200000 from Nat.le_trans hc (by decide), show _ ≤ 5502250 from Nat.le_trans hs (by decide)⟩ (x_rv C hTH104 (ci := 10) rfl gb rg_112) rfl hl.1 rfl (Nat.le_of_ble_eq_true rfl) dL_law_1502 hSH104 (AE_new hN hSH104.1) (fun vH134 H134 locsH134 pH134 zH134 kH134 hSH134 => ?_)
    obtain ⟨x135, hvH134, g136, g137, g138, g139, mf140, hTH134⟩ := pH134
    subst hvH134
    have m141 := (m110).trans (fR_kept (x_lt hTH104 kH134 ga (by decide))).symm
    have m142 := (m111).trans (fI_kept (x_lt hTH104 kH134 ga (by decide))).symm
    have m143 := (m113).trans (fI_kept (x_lt hTH104 kH134 gw (by decide))).symm
    have m144 := (m115).trans (fI_kept (x_lt hTH104 kH134 gw (by decide))).symm
    have m145 := (m117).trans (fI_kept (x_lt hTH104 kH134 gw (by decide))).symm
    have m146 := (m119).trans (fI_kept (x_lt hTH104 kH134 gw (by decide))).symm
    have m147 := (m121).trans (fI_kept (x_lt hTH104 kH134 gw (by decide))).symm
    have m148 := (m123).trans (fI_kept (x_lt hTH104 kH134 gw (by decide))).symm
    have m149 := (m125).trans (fR_kept (x_lt hTH104 kH134 gw (by decide))).symm
    have m150 := (fV_kept (x_lt hTH104 kH134 ga (by decide))).trans m128
    have m151 := (m112).trans (MF.i mf140 (k := 18) (by decide) (by decide)).symm
    have m152 := (m114).trans (MF.i mf140 (k := 1) (by decide) (by decide)).symm
    have m153 := (m116).trans (MF.i mf140 (k := 2) (by decide) (by decide)).symm
    have m154 := (m118).trans (MF.i mf140 (k := 3) (by decide) (by decide)).symm
    have m155 := (m120).trans (MF.i mf140 (k := 59) (by decide) (by decide)).symm
    have m156 := (m122).trans (MF.i mf140 (k := 62) (by decide) (by decide)).symm
    have m157 := (m124).trans (MF.i mf140 (k := 65) (by decide) (by decide)).symm
    have m158 := (m126).trans (MF.r mf140 (k := 50) (by decide) (by decide)).symm
    have m159 := (m127).trans (MF.i mf140 (k := 70) (by decide) (by decide)).symm
    have m160 := (m129).trans (MF.r mf140 (k := 73) (by decide) (by decide)).symm
    refine W.eq (g2 := F0 m 1505 ls [.int x135]) rfl ?_
    have v161 : ∀ j : Nat, j < 10 → cz101 j = fI H134 (fR H134 bq j) (K.1.2 0 14) := fun j h => (v130 j h).trans (by rw [fR_kept (x_lt hTH104 kH134 gbq (by decide))]; exact (fI_kept (x_lt hTH104 kH134 (bar_g hTH104 gbq j h) (by decide))).symm)
    have v162 : ∀ j : Nat, j < 10 → rz102 j = fI H134 aq j := fun j h => (v131 j h).trans (fI_kept (x_lt hTH104 kH134 gaq (by decide))).symm
    have d163 := DB.kept d132 (x_lt hTH104 kH134 gbq (by decide))
    refine lv_pop hx hb dL_law_1505 rfl ?_
    refine lv_goto (tgt := 1509) hx hb dL_law_1506 (by decide) ?_
    exact nx G H134 locsH134 _ _ ls ⟨hTH134, hN, ga, gb, g136, g137, g138, g139, ⟨(by rw [← m142, ← m151]; exact rt), (by rw [← m141, ← m143, ← m152]; exact r1), (by rw [← m141, ← m144, ← m153]; exact r4), (by rw [← m141, ← m145, ← m154]; exact r5), (by rw [← m141, ← m146, ← m155]; exact r10), (by rw [← m141, ← m147, ← m156]; exact r13), (by rw [← m141, ← m148, ← m157]; exact r16)⟩, Or.inl ⟨m150, (by rw [← m159]; exact h70)⟩, (by unfold RB; rw [← m141, ← m149, ← m158, ← m152]; exact ⟨d163, fun j h1 h2 => by rw [← v161 j h1, ← v162 j h1]; exact rel j h1 (by omega), fun j h1 h2 => by rw [← v162 j h1]; exact tl j h1 (by omega)⟩), hSH134⟩ hl ⟨hc, hs, fun _ => ⟨hc0, hs0⟩⟩
  · skip
    obtain ⟨hi, ehi⟩ : ∃ z : Int32, z = fI H b (K.1.2 10 70) := ⟨_, rfl⟩
    rw [← ehi] at h70
    obtain ⟨iq, eiq⟩ : ∃ z : Nat, z = fR H b (K.1.2 10 73) := ⟨_, rfl⟩
    have giq := ty_fr (q := iq) (k := 73) (u := 162) eiq hT gb rg_112 rfl
    rw [← eiq] at q1 q4 q5 q10 q13 q16
    obtain ⟨k1, ek1⟩ : ∃ z : Int32, z = fI H kq (K.1.2 8 1) := ⟨_, rfl⟩
    rw [← ek1] at q1
    obtain ⟨i1, ei1⟩ : ∃ z : Int32, z = fI H iq ((0 : Int32).toNatClampNeg) := ⟨_, rfl⟩
    rw [← ei1] at q1
    obtain ⟨k4, ek4⟩ : ∃ z : Int32, z = fI H kq (K.1.2 8 4) := ⟨_, rfl⟩
    rw [← ek4] at q4
    obtain ⟨i4, ei4⟩ : ∃ z : Int32, z = fI H iq ((1 : Int32).toNatClampNeg) := ⟨_, rfl⟩
    rw [← ei4] at q4
    obtain ⟨k5, ek5⟩ : ∃ z : Int32, z = fI H kq (K.1.2 8 5) := ⟨_, rfl⟩
    rw [← ek5] at q5
    obtain ⟨i5, ei5⟩ : ∃ z : Int32, z = fI H iq ((2 : Int32).toNatClampNeg) := ⟨_, rfl⟩
    rw [← ei5] at q5
    obtain ⟨k10, ek10⟩ : ∃ z : Int32, z = fI H kq (K.1.2 8 10) := ⟨_, rfl⟩
    rw [← ek10] at q10
    obtain ⟨i10, ei10⟩ : ∃ z : Int32, z = fI H iq ((3 : Int32).toNatClampNeg) := ⟨_, rfl⟩
    rw [← ei10] at q10
    obtain ⟨k13, ek13⟩ : ∃ z : Int32, z = fI H kq (K.1.2 8 13) := ⟨_, rfl⟩
    rw [← ek13] at q13
    obtain ⟨i13, ei13⟩ : ∃ z : Int32, z = fI H iq ((4 : Int32).toNatClampNeg) := ⟨_, rfl⟩
    rw [← ei13] at q13
    obtain ⟨k16, ek16⟩ : ∃ z : Int32, z = fI H kq (K.1.2 8 16) := ⟨_, rfl⟩
    rw [← ek16] at q16
    obtain ⟨i16, ei16⟩ : ∃ z : Int32, z = fI H iq ((5 : Int32).toNatClampNeg) := ⟨_, rfl⟩
    rw [← ei16] at q16
    obtain ⟨kb, ekb⟩ : ∃ z : Nat, z = fR H kq (K.1.2 8 0) := ⟨_, rfl⟩
    have gkb := ty_fr (q := kb) (k := 0) (u := 59) ekb hT gkq rg_34 rfl
    have bk1 := ty_fi (x := k1) (k := 1) ek1 hT gkq rg_34 rfl
    rw [← ekb] at dbk
    rw [← ekb, ← eiq, ← ek1] at vk
    rw [← eiq, ← ek1] at vkt
    obtain ⟨kz164, ekz164⟩ : ∃ f : Nat → Int32, ∀ j : Nat, j < 10 → f j = fI H (fR H kb j) (K.1.2 0 14) := ⟨_, fun _ _ => rfl⟩
    obtain ⟨iz165, eiz165⟩ : ∃ f : Nat → Int32, ∀ j : Nat, j < 10 → f j = fI H iq (11 + 6 * j) := ⟨_, fun _ _ => rfl⟩
    have vk0 : ∀ j : Nat, j < 10 → (j : Int) < k1.toInt → kz164 j = iz165 j := fun j h1 h2 => by rw [ekz164 j h1, eiz165 j h1]; exact vk j h1 h2
    clear vk
    have vk1 : ∀ j : Nat, j < 10 → k1.toInt ≤ (j : Int) → iz165 j = 0 := fun j h1 h2 => by rw [eiz165 j h1]; exact vkt j h1 h2
    clear vkt
    refine lv_aload_n hx hb dL_law_1486 rfl (lv_at hl 2 rfl) ?_
    refine lv_aload_n hx hb dL_law_1487 rfl (lv_at hl 3 rfl) ?_
    refine lv_iload_n hx hb dL_law_1488 rfl (lv_at hl 0 rfl) ?_
    refine lv_iconst (v := 1) hx hb dL_law_1489 (by decide) ?_
    refine lv_iadd hx hb dL_law_1490 ?_
    refine lv_topi (fun x166 ex166 => ?_)
    obtain ⟨tx166, ejx166, evx166⟩ := lw_ix (k := 1) ex166 hI hL rfl (by decide)
    clear tx166
    refine va_sld hx hb hX hbl (Nat.not_le.mpr hbl) hS (vp_in_iff.mpr evx166) dL_law_1491 ?_
    refine W.eq (g2 := F0 m 1492 ls [.int (xs (i.toNatClampNeg + 1)), .ref a]) (congrArg (fun z => F0 m 1492 ls [.int (xs z), .ref a]) ejx166) ?_
    refine x_V (As := [.int (xs (i.toNatClampNeg + 1))]) (rest := []) C (a_X9_look l K G H ((xs (i.toNatClampNeg + 1))) hT ga) yo_X9_look wM_L_158 ⟨⟨by decide, by decide⟩, show _ ≤ 1200000 from Nat.le_trans hc (by decide), show _ ≤ 5502250 from Nat.le_trans hs (by decide)⟩ (x_rv C hT (ci := 9) rfl ga rg_68) rfl hl.1 rfl (Nat.le_of_ble_eq_true rfl) dL_law_1492 hS (AE_new hN hS.1) (fun vH167 H167 locsH167 pH167 zH167 kH167 hSH167 => ?_)
    obtain ⟨x168, hvH167, hTH167⟩ := pH167
    subst hvH167
    have g169 : CG (avw K H167 b) := CG.congr (fun k hk j => av_eff hT kH167 gb (by decide) (CG_eff [83, 84] (by decide) k hk)) cg
    have g170 : TU (avw K H167 b) (svw K H167 b) := TU.congr (fun k hk j => av_eff hT kH167 gb (by decide) (TU_eff [83, 84] (by decide) k hk)) (fun k hk => sv_eff hT kH167 gb (by decide)) tu
    have g171 : WD (avw K H167 b) := WD.congr (fun k hk j => av_eff hT kH167 gb (by decide) (WD_eff [83, 84] (by decide) k hk)) wd
    have g172 : IM (avw K H167 b) := IM.congr (fun k hk j => av_eff hT kH167 gb (by decide) (IM_eff [83, 84] (by decide) k hk)) im
    have m173 := (ew).trans (fR_kept (x_lt hT kH167 ga (by decide))).symm
    have m174 := (eta).trans (fI_kept (x_lt hT kH167 ga (by decide))).symm
    have m175 := (etb).trans (fI_kept (x_lt hT kH167 gb (by decide))).symm
    have m176 := (es1).trans (fI_kept (x_lt hT kH167 gw (by decide))).symm
    have m177 := (ey1).trans (fI_kept (x_lt hT kH167 gb (by decide))).symm
    have m178 := (es4).trans (fI_kept (x_lt hT kH167 gw (by decide))).symm
    have m179 := (ey4).trans (fI_kept (x_lt hT kH167 gb (by decide))).symm
    have m180 := (es5).trans (fI_kept (x_lt hT kH167 gw (by decide))).symm
    have m181 := (ey5).trans (fI_kept (x_lt hT kH167 gb (by decide))).symm
    have m182 := (es10).trans (fI_kept (x_lt hT kH167 gw (by decide))).symm
    have m183 := (ey10).trans (fI_kept (x_lt hT kH167 gb (by decide))).symm
    have m184 := (es13).trans (fI_kept (x_lt hT kH167 gw (by decide))).symm
    have m185 := (ey13).trans (fI_kept (x_lt hT kH167 gb (by decide))).symm
    have m186 := (es16).trans (fI_kept (x_lt hT kH167 gw (by decide))).symm
    have m187 := (ey16).trans (fI_kept (x_lt hT kH167 gb (by decide))).symm
    have m188 := (ebq).trans (fR_kept (x_lt hT kH167 gw (by decide))).symm
    have m189 := (eaq).trans (fR_kept (x_lt hT kH167 gb (by decide))).symm
    have m190 := (ehi).trans (fI_kept (x_lt hT kH167 gb (by decide))).symm
    have m191 := (fV_kept (x_lt hT kH167 ga (by decide))).trans kn
    have m192 := (eiq).trans (fR_kept (x_lt hT kH167 gb (by decide))).symm
    have m193 := (ek1).trans (fI_kept (x_lt hT kH167 gkq (by decide))).symm
    have m194 := (ei1).trans (fI_kept (x_lt hT kH167 giq (by decide))).symm
    have m195 := (ek4).trans (fI_kept (x_lt hT kH167 gkq (by decide))).symm
    have m196 := (ei4).trans (fI_kept (x_lt hT kH167 giq (by decide))).symm
    have m197 := (ek5).trans (fI_kept (x_lt hT kH167 gkq (by decide))).symm
    have m198 := (ei5).trans (fI_kept (x_lt hT kH167 giq (by decide))).symm
    have m199 := (ek10).trans (fI_kept (x_lt hT kH167 gkq (by decide))).symm
    have m200 := (ei10).trans (fI_kept (x_lt hT kH167 giq (by decide))).symm
    have m201 := (ek13).trans (fI_kept (x_lt hT kH167 gkq (by decide))).symm
    have m202 := (ei13).trans (fI_kept (x_lt hT kH167 giq (by decide))).symm
    have m203 := (ek16).trans (fI_kept (x_lt hT kH167 gkq (by decide))).symm
    have m204 := (ei16).trans (fI_kept (x_lt hT kH167 giq (by decide))).symm
    have m205 := (ekb).trans (fR_kept (x_lt hT kH167 gkq (by decide))).symm
    refine W.eq (g2 := F0 m 1495 ls [.int x168]) rfl ?_
    have v206 : ∀ j : Nat, j < 10 → cz101 j = fI H167 (fR H167 bq j) (K.1.2 0 14) := fun j h => (ecz101 j h).trans (by rw [fR_kept (x_lt hT kH167 gbq (by decide))]; exact (fI_kept (x_lt hT kH167 (bar_g hT gbq j h) (by decide))).symm)
    have v207 : ∀ j : Nat, j < 10 → rz102 j = fI H167 aq j := fun j h => (erz102 j h).trans (fI_kept (x_lt hT kH167 gaq (by decide))).symm
    have v208 : ∀ j : Nat, j < 10 → kz164 j = fI H167 (fR H167 kb j) (K.1.2 0 14) := fun j h => (ekz164 j h).trans (by rw [fR_kept (x_lt hT kH167 gkb (by decide))]; exact (fI_kept (x_lt hT kH167 (bar_h hT gkb j h) (by decide))).symm)
    have d209 := DB.kept dbk (x_lt hT kH167 gkb (by decide))
    have v210 : ∀ j : Nat, j < 10 → iz165 j = fI H167 iq (11 + 6 * j) := fun j h => (eiz165 j h).trans (fI_kept (x_lt hT kH167 giq (by decide))).symm
    have d211 := DB.kept db (x_lt hT kH167 gbq (by decide))
    refine lv_pop hx hb dL_law_1495 rfl ?_
    refine lv_aload_n hx hb dL_law_1496 rfl (lv_at hl 1 rfl) ?_
    refine lv_aload_n hx hb dL_law_1497 rfl (lv_at hl 3 rfl) ?_
    refine lv_iload_n hx hb dL_law_1498 rfl (lv_at hl 0 rfl) ?_
    refine lv_iconst (v := 1) hx hb dL_law_1499 (by decide) ?_
    refine lv_iadd hx hb dL_law_1500 ?_
    refine lv_topi (fun x212 ex212 => ?_)
    obtain ⟨tx212, ejx212, evx212⟩ := lw_ix (k := 1) ex212 hI hL rfl (by decide)
    clear tx212
    refine va_sld hx hb hX hbl (Nat.not_le.mpr hbl) hSH167 (vp_in_iff.mpr evx212) dL_law_1501 ?_
    refine W.eq (g2 := F0 m 1502 ls [.int (xs (i.toNatClampNeg + 1)), .ref b]) (congrArg (fun z => F0 m 1502 ls [.int (xs z), .ref b]) ejx212) ?_
    refine x_V (As := [.int (xs (i.toNatClampNeg + 1))]) (rest := []) C (a_X10_look l K G H167 ((xs (i.toNatClampNeg + 1))) hTH167 gb g169 g170 g171 g172) yo_X10_look wM_L_161 ⟨⟨by decide, by decide⟩, show _ ≤ 1200000 from Nat.le_trans hc (by decide), show _ ≤ 5502250 from Nat.le_trans hs (by decide)⟩ (x_rv C hTH167 (ci := 10) rfl gb rg_112) rfl hl.1 rfl (Nat.le_of_ble_eq_true rfl) dL_law_1502 hSH167 (AE_new hN hSH167.1) (fun vH213 H213 locsH213 pH213 zH213 kH213 hSH213 => ?_)
    obtain ⟨x214, hvH213, g215, g216, g217, g218, mf219, hTH213⟩ := pH213
    subst hvH213
    have m220 := (m173).trans (fR_kept (x_lt hTH167 kH213 ga (by decide))).symm
    have m221 := (m174).trans (fI_kept (x_lt hTH167 kH213 ga (by decide))).symm
    have m222 := (m176).trans (fI_kept (x_lt hTH167 kH213 gw (by decide))).symm
    have m223 := (m178).trans (fI_kept (x_lt hTH167 kH213 gw (by decide))).symm
    have m224 := (m180).trans (fI_kept (x_lt hTH167 kH213 gw (by decide))).symm
    have m225 := (m182).trans (fI_kept (x_lt hTH167 kH213 gw (by decide))).symm
    have m226 := (m184).trans (fI_kept (x_lt hTH167 kH213 gw (by decide))).symm
    have m227 := (m186).trans (fI_kept (x_lt hTH167 kH213 gw (by decide))).symm
    have m228 := (m188).trans (fR_kept (x_lt hTH167 kH213 gw (by decide))).symm
    have m229 := (fV_kept (x_lt hTH167 kH213 ga (by decide))).trans m191
    have m230 := (m193).trans (fI_kept (x_lt hTH167 kH213 gkq (by decide))).symm
    have m231 := (m194).trans (fI_kept (x_lt hTH167 kH213 giq (by decide))).symm
    have m232 := (m195).trans (fI_kept (x_lt hTH167 kH213 gkq (by decide))).symm
    have m233 := (m196).trans (fI_kept (x_lt hTH167 kH213 giq (by decide))).symm
    have m234 := (m197).trans (fI_kept (x_lt hTH167 kH213 gkq (by decide))).symm
    have m235 := (m198).trans (fI_kept (x_lt hTH167 kH213 giq (by decide))).symm
    have m236 := (m199).trans (fI_kept (x_lt hTH167 kH213 gkq (by decide))).symm
    have m237 := (m200).trans (fI_kept (x_lt hTH167 kH213 giq (by decide))).symm
    have m238 := (m201).trans (fI_kept (x_lt hTH167 kH213 gkq (by decide))).symm
    have m239 := (m202).trans (fI_kept (x_lt hTH167 kH213 giq (by decide))).symm
    have m240 := (m203).trans (fI_kept (x_lt hTH167 kH213 gkq (by decide))).symm
    have m241 := (m204).trans (fI_kept (x_lt hTH167 kH213 giq (by decide))).symm
    have m242 := (m205).trans (fR_kept (x_lt hTH167 kH213 gkq (by decide))).symm
    have m243 := (m175).trans (MF.i mf219 (k := 18) (by decide) (by decide)).symm
    have m244 := (m177).trans (MF.i mf219 (k := 1) (by decide) (by decide)).symm
    have m245 := (m179).trans (MF.i mf219 (k := 2) (by decide) (by decide)).symm
    have m246 := (m181).trans (MF.i mf219 (k := 3) (by decide) (by decide)).symm
    have m247 := (m183).trans (MF.i mf219 (k := 59) (by decide) (by decide)).symm
    have m248 := (m185).trans (MF.i mf219 (k := 62) (by decide) (by decide)).symm
    have m249 := (m187).trans (MF.i mf219 (k := 65) (by decide) (by decide)).symm
    have m250 := (m189).trans (MF.r mf219 (k := 50) (by decide) (by decide)).symm
    have m251 := (m190).trans (MF.i mf219 (k := 70) (by decide) (by decide)).symm
    have m252 := (m192).trans (MF.r mf219 (k := 73) (by decide) (by decide)).symm
    refine W.eq (g2 := F0 m 1505 ls [.int x214]) rfl ?_
    have v253 : ∀ j : Nat, j < 10 → cz101 j = fI H213 (fR H213 bq j) (K.1.2 0 14) := fun j h => (v206 j h).trans (by rw [fR_kept (x_lt hTH167 kH213 gbq (by decide))]; exact (fI_kept (x_lt hTH167 kH213 (bar_g hTH167 gbq j h) (by decide))).symm)
    have v254 : ∀ j : Nat, j < 10 → rz102 j = fI H213 aq j := fun j h => (v207 j h).trans (fI_kept (x_lt hTH167 kH213 gaq (by decide))).symm
    have v255 : ∀ j : Nat, j < 10 → kz164 j = fI H213 (fR H213 kb j) (K.1.2 0 14) := fun j h => (v208 j h).trans (by rw [fR_kept (x_lt hTH167 kH213 gkb (by decide))]; exact (fI_kept (x_lt hTH167 kH213 (bar_h hTH167 gkb j h) (by decide))).symm)
    have d256 := DB.kept d209 (x_lt hTH167 kH213 gkb (by decide))
    have v257 : ∀ j : Nat, j < 10 → iz165 j = fI H213 iq (11 + 6 * j) := fun j h => (v210 j h).trans (fI_kept (x_lt hTH167 kH213 giq (by decide))).symm
    have d258 := DB.kept d211 (x_lt hTH167 kH213 gbq (by decide))
    refine lv_pop hx hb dL_law_1505 rfl ?_
    refine lv_goto (tgt := 1509) hx hb dL_law_1506 (by decide) ?_
    exact nx G H213 locsH213 _ _ ls ⟨hTH213, hN, ga, gb, g215, g216, g217, g218, ⟨(by rw [← m221, ← m243]; exact rt), (by rw [← m220, ← m222, ← m244]; exact r1), (by rw [← m220, ← m223, ← m245]; exact r4), (by rw [← m220, ← m224, ← m246]; exact r5), (by rw [← m220, ← m225, ← m247]; exact r10), (by rw [← m220, ← m226, ← m248]; exact r13), (by rw [← m220, ← m227, ← m249]; exact r16)⟩, Or.inr ⟨kq, m229, gkq, (by rw [← m251]; exact h70), (by rw [← m230, ← m252, ← m231]; exact q1), (by rw [← m232, ← m252, ← m233]; exact q4), (by rw [← m234, ← m252, ← m235]; exact q5), (by rw [← m236, ← m252, ← m237]; exact q10), (by rw [← m238, ← m252, ← m239]; exact q13), (by rw [← m240, ← m252, ← m241]; exact q16), (by rw [← m242]; exact d256), (by rw [← m242, ← m252, ← m230]; exact fun j h1 h2 => by rw [← v255 j h1, ← v257 j h1]; exact vk0 j h1 (by omega)), (by rw [← m252, ← m230]; exact fun j h1 h2 => by rw [← v257 j h1]; exact vk1 j h1 (by omega))⟩, (by unfold RB; rw [← m220, ← m228, ← m250, ← m244]; exact ⟨d258, fun j h1 h2 => by rw [← v253 j h1, ← v254 j h1]; exact rel j h1 (by omega), fun j h1 h2 => by rw [← v254 j h1]; exact tl j h1 (by omega)⟩), hSH213⟩ hl ⟨hc, hs, fun h => by have h1 := h.symm.trans m229; cases h1⟩