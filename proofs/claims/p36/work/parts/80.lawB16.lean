set_option maxRecDepth 100000 in
set_option maxHeartbeats 8000000 in
theorem lw_c32 {p : Program} {l : Launch} {e : Env} {s : State} {m : MethodId} {below : List Frame} {meth : Method} {c : Code} {K : KE} {b0 L : Nat} {xs : Nat → Int32} {G : Nat → Option Nat} {H : Heap} {locs : List Loc} {a b : Nat} {cells slots : Nat} {ls : Array Slot} {i : Int32} {n : Nat} (D : LC p K s m meth c b0 L xs) (S : SX K s G H locs a b) (hl : lv_has ls 4 [(3, .int i), (2, .ref b), (1, .ref a), (0, .ref b0)]) (hi : 0 ≤ i.toInt ∧ i.toInt + 6 ≤ L) (hn : n ≤ 511) (hB : BD K H a cells slots) (nx : ∀ (G : Nat → Option Nat) (H : Heap) (locs : List Loc) (cells slots : Nat) (ls : Array Slot), SX K s G H locs a b → lv_has ls 4 [(3, .int i), (2, .ref b), (1, .ref a), (0, .ref b0)] → BD K H a cells slots → W p l e room_1 s m #[Value.ref b0] below meth c H locs cells slots (lw_Z below #[Value.ref b0] s) (F0 m 1509 ls [])) : W p l e room_1 s m #[Value.ref b0] below meth c H locs cells slots (lw_Z below #[Value.ref b0] s) (F0 m 1404 ls []) := by
  have hI := hi
  obtain ⟨C, hX, hbl, hL⟩ := id D
  obtain ⟨hx, hb, hml, hown, hts, hKT, hr, hlocks, hnm⟩ := id C
  obtain ⟨hT, hN, ga, gb, cg, tu, wd, im, ⟨rt, r1, r4, r5, r10, r13, r16⟩, hk, htb, her, hS⟩ := S
  obtain ⟨hc, hs, hB0⟩ := hB
  have n_1 : (1 : Int32).toInt = 1 := rfl
  have n_2 : (2 : Int32).toInt = 2 := rfl
  have n_3 : (3 : Int32).toInt = 3 := rfl
  obtain ⟨w, ew⟩ : ∃ z : Nat, z = fR H a (K.1.2 9 0) := ⟨_, rfl⟩
  have gw := ty_fr (q := w) (k := 0) (u := 0) ew hT ga rg_68 rfl
  rw [← ew] at r1 r4 r5 r10 r13 r16
  obtain ⟨ta, eta⟩ : ∃ z : Int32, z = fI H a (K.1.2 9 3) := ⟨_, rfl⟩
  rw [← eta] at rt
  obtain ⟨tb, etb⟩ : ∃ z : Int32, z = fI H b (K.1.2 10 18) := ⟨_, rfl⟩
  rw [← etb] at rt
  obtain ⟨s1, es1⟩ : ∃ z : Int32, z = fI H w (K.1.2 8 1) := ⟨_, rfl⟩
  rw [← es1] at r1
  obtain ⟨y1, ey1⟩ : ∃ z : Int32, z = fI H b (K.1.2 10 1) := ⟨_, rfl⟩
  rw [← ey1] at r1
  obtain ⟨s4, es4⟩ : ∃ z : Int32, z = fI H w (K.1.2 8 4) := ⟨_, rfl⟩
  rw [← es4] at r4
  obtain ⟨y4, ey4⟩ : ∃ z : Int32, z = fI H b (K.1.2 10 2) := ⟨_, rfl⟩
  rw [← ey4] at r4
  obtain ⟨s5, es5⟩ : ∃ z : Int32, z = fI H w (K.1.2 8 5) := ⟨_, rfl⟩
  rw [← es5] at r5
  obtain ⟨y5, ey5⟩ : ∃ z : Int32, z = fI H b (K.1.2 10 3) := ⟨_, rfl⟩
  rw [← ey5] at r5
  obtain ⟨s10, es10⟩ : ∃ z : Int32, z = fI H w (K.1.2 8 10) := ⟨_, rfl⟩
  rw [← es10] at r10
  obtain ⟨y10, ey10⟩ : ∃ z : Int32, z = fI H b (K.1.2 10 59) := ⟨_, rfl⟩
  rw [← ey10] at r10
  obtain ⟨s13, es13⟩ : ∃ z : Int32, z = fI H w (K.1.2 8 13) := ⟨_, rfl⟩
  rw [← es13] at r13
  obtain ⟨y13, ey13⟩ : ∃ z : Int32, z = fI H b (K.1.2 10 62) := ⟨_, rfl⟩
  rw [← ey13] at r13
  obtain ⟨s16, es16⟩ : ∃ z : Int32, z = fI H w (K.1.2 8 16) := ⟨_, rfl⟩
  rw [← es16] at r16
  obtain ⟨y16, ey16⟩ : ∃ z : Int32, z = fI H b (K.1.2 10 65) := ⟨_, rfl⟩
  rw [← ey16] at r16
  obtain ⟨tq, etq⟩ : ∃ z : Nat, z = fR H a (K.1.2 9 2) := ⟨_, rfl⟩
  have gtq := ty_fr (q := tq) (k := 2) (u := 108) etq hT ga rg_68 rfl
  obtain ⟨uq, euq⟩ : ∃ z : Nat, z = fR H b (K.1.2 10 17) := ⟨_, rfl⟩
  have guq := ty_fr (q := uq) (k := 17) (u := 126) euq hT gb rg_112 rfl
  have htr : TBR (fun j => fI H tq j) (fun j => fI H uq j) tb.toNatClampNeg := by rw [etq, euq, etb]; exact htb
  have ft0 : ∀ j : Nat, fI H tq j = fI H tq j := fun _ => rfl
  have fu0 : ∀ j : Nat, fI H uq j = fI H uq j := fun _ => rfl
  have bta := ty_fi (x := ta) (k := 3) eta hT ga rg_68 rfl
  have cta := i_cl (x := ta) (by omega)
  have btb := ty_fi (x := tb) (k := 18) etb hT gb rg_112 rfl
  have ctb := i_cl (x := tb) (by omega)
  obtain ⟨her0, hsl1, hsl2⟩ := her
  have hsl0 := And.intro hsl1 hsl2
  clear hsl1 hsl2
  rw [← ew] at her0 hsl0
  have re : RE K H w b s1.toInt := RE.cast her0 (by rw [← ey1]; exact r1)
  have hsl : 0 ≤ s5.toInt ∧ s5.toInt ≤ 9999 := by rw [es5]; exact hsl0
  clear her0 hsl0
  have bt_s1 := ty_fi (x := s1) (k := 1) es1 hT gw rg_0 rfl
  have bt_s4 := ty_fi (x := s4) (k := 4) es4 hT gw rg_0 rfl
  have bt_y1 := ty_fi (x := y1) (k := 1) ey1 hT gb rg_112 rfl
  have bt_y4 := ty_fi (x := y4) (k := 2) ey4 hT gb rg_112 rfl
  rcases hk with ⟨kn, h70⟩ | ⟨kq, kn, gkq, h70, q1, q4, q5, q10, q13, q16, rke, ks1, ks2⟩
  · skip
    obtain ⟨hi, ehi⟩ : ∃ z : Int32, z = fI H b (K.1.2 10 70) := ⟨_, rfl⟩
    rw [← ehi] at h70
    obtain ⟨hc0, hs0⟩ := hB0 kn
    obtain ⟨iq, eiq⟩ : ∃ z : Nat, z = fR H b (K.1.2 10 73) := ⟨_, rfl⟩
    have giq := ty_fr (q := iq) (k := 73) (u := 162) eiq hT gb rg_112 rfl
    refine lv_aload_n hx hb dL_law_1404 rfl (lv_at hl 2 rfl) ?_
    refine lv_aload_n hx hb dL_law_1405 rfl (lv_at hl 3 rfl) ?_
    refine lv_iload_n hx hb dL_law_1406 rfl (lv_at hl 0 rfl) ?_
    refine lv_iconst (v := 1) hx hb dL_law_1407 (by decide) ?_
    refine lv_iadd hx hb dL_law_1408 ?_
    refine lv_topi (fun x101 ex101 => ?_)
    obtain ⟨tx101, ejx101, evx101⟩ := lw_ix (k := 1) ex101 hI hL rfl (by decide)
    clear tx101
    refine va_sld hx hb hX hbl (Nat.not_le.mpr hbl) hS (vp_in_iff.mpr evx101) dL_law_1409 ?_
    refine W.eq (g2 := F0 m 1410 ls [.int (xs (i.toNatClampNeg + 1)), .ref a]) (congrArg (fun z => F0 m 1410 ls [.int (xs z), .ref a]) ejx101) ?_
    refine lv_aload_n hx hb dL_law_1410 rfl (lv_at hl 3 rfl) ?_
    refine lv_iload_n hx hb dL_law_1411 rfl (lv_at hl 0 rfl) ?_
    refine lv_iconst (v := 2) hx hb dL_law_1412 (by decide) ?_
    refine lv_iadd hx hb dL_law_1413 ?_
    refine lv_topi (fun x102 ex102 => ?_)
    obtain ⟨tx102, ejx102, evx102⟩ := lw_ix (k := 2) ex102 hI hL rfl (by decide)
    clear tx102
    refine va_sld hx hb hX hbl (Nat.not_le.mpr hbl) hS (vp_in_iff.mpr evx102) dL_law_1414 ?_
    refine W.eq (g2 := F0 m 1415 ls [.int (xs (i.toNatClampNeg + 2)), .int (xs (i.toNatClampNeg + 1)), .ref a]) (congrArg (fun z => F0 m 1415 ls [.int (xs z), .int (xs (i.toNatClampNeg + 1)), .ref a]) ejx102) ?_
    refine lv_aload_n hx hb dL_law_1415 rfl (lv_at hl 3 rfl) ?_
    refine lv_iload_n hx hb dL_law_1416 rfl (lv_at hl 0 rfl) ?_
    refine lv_iconst (v := 3) hx hb dL_law_1417 (by decide) ?_
    refine lv_iadd hx hb dL_law_1418 ?_
    refine lv_topi (fun x103 ex103 => ?_)
    obtain ⟨tx103, ejx103, evx103⟩ := lw_ix (k := 3) ex103 hI hL rfl (by decide)
    clear tx103
    refine va_sld hx hb hX hbl (Nat.not_le.mpr hbl) hS (vp_in_iff.mpr evx103) dL_law_1419 ?_
    refine W.eq (g2 := F0 m 1420 ls [.int (xs (i.toNatClampNeg + 3)), .int (xs (i.toNatClampNeg + 2)), .int (xs (i.toNatClampNeg + 1)), .ref a]) (congrArg (fun z => F0 m 1420 ls [.int (xs z), .int (xs (i.toNatClampNeg + 2)), .int (xs (i.toNatClampNeg + 1)), .ref a]) ejx103) ?_
    refine x_V (As := [.int (xs (i.toNatClampNeg + 1)), .int (xs (i.toNatClampNeg + 2)), .int (xs (i.toNatClampNeg + 3))]) (rest := []) C (a_X9_enough l K G H ((xs (i.toNatClampNeg + 1))) ((xs (i.toNatClampNeg + 2))) ((xs (i.toNatClampNeg + 3))) hT ga) yo_X9_enough wM_L_149 ⟨⟨by decide, by decide⟩, show _ ≤ 60000 from Nat.le_trans hc (by decide), show _ ≤ 8922250 from Nat.le_trans hs (by decide)⟩ (x_rv C hT (ci := 9) rfl ga rg_68) rfl hl.1 rfl (Nat.le_of_ble_eq_true rfl) dL_law_1420 hS (AE_new hN hS.1) (fun vH104 H104 locsH104 pH104 zH104 kH104 hSH104 => ?_)
    obtain ⟨x105, hvH104, hTH104⟩ := pH104
    subst hvH104
    have g106 : CG (avw K H104 b) := CG.congr (fun k hk j => av_eff hT kH104 gb (by decide) (CG_eff [83, 84] (by decide) k hk)) cg
    have g107 : TU (avw K H104 b) (svw K H104 b) := TU.congr (fun k hk j => av_eff hT kH104 gb (by decide) (TU_eff [83, 84] (by decide) k hk)) (fun k hk => sv_eff hT kH104 gb (by decide)) tu
    have g108 : WD (avw K H104 b) := WD.congr (fun k hk j => av_eff hT kH104 gb (by decide) (WD_eff [83, 84] (by decide) k hk)) wd
    have g109 : IM (avw K H104 b) := IM.congr (fun k hk j => av_eff hT kH104 gb (by decide) (IM_eff [83, 84] (by decide) k hk)) im
    have f110 : ∀ j : Nat, fI H104 tq j = fI H tq j := fun j => (fI_kept (x_lt hT kH104 gtq (by decide))).trans (ft0 j)
    have f111 : ∀ j : Nat, fI H104 uq j = fI H uq j := fun j => (fI_kept (x_lt hT kH104 guq (by decide))).trans (fu0 j)
    have m112 := (ew).trans (fR_kept (x_lt hT kH104 ga (by decide))).symm
    have m113 := (eta).trans (fI_kept (x_lt hT kH104 ga (by decide))).symm
    have m114 := (etb).trans (fI_kept (x_lt hT kH104 gb (by decide))).symm
    have m115 := (es1).trans (fI_kept (x_lt hT kH104 gw (by decide))).symm
    have m116 := (ey1).trans (fI_kept (x_lt hT kH104 gb (by decide))).symm
    have m117 := (es4).trans (fI_kept (x_lt hT kH104 gw (by decide))).symm
    have m118 := (ey4).trans (fI_kept (x_lt hT kH104 gb (by decide))).symm
    have m119 := (es5).trans (fI_kept (x_lt hT kH104 gw (by decide))).symm
    have m120 := (ey5).trans (fI_kept (x_lt hT kH104 gb (by decide))).symm
    have m121 := (es10).trans (fI_kept (x_lt hT kH104 gw (by decide))).symm
    have m122 := (ey10).trans (fI_kept (x_lt hT kH104 gb (by decide))).symm
    have m123 := (es13).trans (fI_kept (x_lt hT kH104 gw (by decide))).symm
    have m124 := (ey13).trans (fI_kept (x_lt hT kH104 gb (by decide))).symm
    have m125 := (es16).trans (fI_kept (x_lt hT kH104 gw (by decide))).symm
    have m126 := (ey16).trans (fI_kept (x_lt hT kH104 gb (by decide))).symm
    have m127 := (etq).trans (fR_kept (x_lt hT kH104 ga (by decide))).symm
    have m128 := (euq).trans (fR_kept (x_lt hT kH104 gb (by decide))).symm
    have m129 := (ehi).trans (fI_kept (x_lt hT kH104 gb (by decide))).symm
    have m130 := (fV_kept (x_lt hT kH104 ga (by decide))).trans kn
    have m131 := (eiq).trans (fR_kept (x_lt hT kH104 gb (by decide))).symm
    refine W.eq (g2 := F0 m 1423 ls [.int x105]) rfl ?_
    have re132 : RE K H104 w b s1.toInt := RE.cls re hT gw gb (fun q t hq ht => x_lt hT kH104 hq (by first | exact nmr ht (by decide) | exact nmo ht (by decide) | exact nme ht (by decide) | exact nmq ht (by decide) | decide | (intro z; simp only [List.mem_cons, List.not_mem_nil, or_false] at z <;> omega) | omega))
    refine lv_pop hx hb dL_law_1423 rfl ?_
    refine lv_aload_n hx hb dL_law_1424 rfl (lv_at hl 1 rfl) ?_
    refine lv_aload_n hx hb dL_law_1425 rfl (lv_at hl 3 rfl) ?_
    refine lv_iload_n hx hb dL_law_1426 rfl (lv_at hl 0 rfl) ?_
    refine lv_iconst (v := 1) hx hb dL_law_1427 (by decide) ?_
    refine lv_iadd hx hb dL_law_1428 ?_
    refine lv_topi (fun x133 ex133 => ?_)
    obtain ⟨tx133, ejx133, evx133⟩ := lw_ix (k := 1) ex133 hI hL rfl (by decide)
    clear tx133
    refine va_sld hx hb hX hbl (Nat.not_le.mpr hbl) hSH104 (vp_in_iff.mpr evx133) dL_law_1429 ?_
    refine W.eq (g2 := F0 m 1430 ls [.int (xs (i.toNatClampNeg + 1)), .ref b]) (congrArg (fun z => F0 m 1430 ls [.int (xs z), .ref b]) ejx133) ?_
    refine lv_aload_n hx hb dL_law_1430 rfl (lv_at hl 3 rfl) ?_
    refine lv_iload_n hx hb dL_law_1431 rfl (lv_at hl 0 rfl) ?_
    refine lv_iconst (v := 2) hx hb dL_law_1432 (by decide) ?_
    refine lv_iadd hx hb dL_law_1433 ?_
    refine lv_topi (fun x134 ex134 => ?_)
    obtain ⟨tx134, ejx134, evx134⟩ := lw_ix (k := 2) ex134 hI hL rfl (by decide)
    clear tx134
    refine va_sld hx hb hX hbl (Nat.not_le.mpr hbl) hSH104 (vp_in_iff.mpr evx134) dL_law_1434 ?_
    refine W.eq (g2 := F0 m 1435 ls [.int (xs (i.toNatClampNeg + 2)), .int (xs (i.toNatClampNeg + 1)), .ref b]) (congrArg (fun z => F0 m 1435 ls [.int (xs z), .int (xs (i.toNatClampNeg + 1)), .ref b]) ejx134) ?_
    refine lv_aload_n hx hb dL_law_1435 rfl (lv_at hl 3 rfl) ?_
    refine lv_iload_n hx hb dL_law_1436 rfl (lv_at hl 0 rfl) ?_
    refine lv_iconst (v := 3) hx hb dL_law_1437 (by decide) ?_
    refine lv_iadd hx hb dL_law_1438 ?_
    refine lv_topi (fun x135 ex135 => ?_)
    obtain ⟨tx135, ejx135, evx135⟩ := lw_ix (k := 3) ex135 hI hL rfl (by decide)
    clear tx135
    refine va_sld hx hb hX hbl (Nat.not_le.mpr hbl) hSH104 (vp_in_iff.mpr evx135) dL_law_1439 ?_
    refine W.eq (g2 := F0 m 1440 ls [.int (xs (i.toNatClampNeg + 3)), .int (xs (i.toNatClampNeg + 2)), .int (xs (i.toNatClampNeg + 1)), .ref b]) (congrArg (fun z => F0 m 1440 ls [.int (xs z), .int (xs (i.toNatClampNeg + 2)), .int (xs (i.toNatClampNeg + 1)), .ref b]) ejx135) ?_
    obtain ⟨q136, eq136⟩ : ∃ z : Nat, @Eq Ad z (fR H104 b (K.1.2 10 8)) := ⟨_, rfl⟩
    have gq136 := ty_fr (q := q136) (k := 8) (u := 117) eq136 hTH104 gb rg_112 rfl
    refine x_V (As := [.int (xs (i.toNatClampNeg + 1)), .int (xs (i.toNatClampNeg + 2)), .int (xs (i.toNatClampNeg + 3))]) (rest := []) C (a_X10_enough_k l K G H104 ((xs (i.toNatClampNeg + 1))) ((xs (i.toNatClampNeg + 2))) ((xs (i.toNatClampNeg + 3))) hTH104 gb gq136 eq136 g106 g107 g108 g109) yo_X10_enough wM_L_152 ⟨⟨by decide, by decide⟩, show _ ≤ 60000 from Nat.le_trans hc (by decide), show _ ≤ 8922250 from Nat.le_trans hs (by decide)⟩ (x_rv C hTH104 (ci := 10) rfl gb rg_112) rfl hl.1 rfl (Nat.le_of_ble_eq_true rfl) dL_law_1440 hSH104 (AE_new hN hSH104.1) (fun vH137 H137 locsH137 pH137 zH137 kH137 hSH137 => ?_)
    obtain ⟨x138, hvH137, m139, g140, g141, g142, g143, mf144, m145, hTH137⟩ := pH137
    subst hvH137
    have f146 : ∀ j : Nat, fI H137 tq j = fI H tq j := fun j => (fI_kept (x_lt hTH104 kH137 gtq (by decide))).trans (f110 j)
    have f147 : ∀ j : Nat, fI H137 uq j = fI H uq j := fun j => (fI_kept (x_lt hTH104 kH137 guq (by decide))).trans (f111 j)
    have m148 := (m112).trans (fR_kept (x_lt hTH104 kH137 ga (by decide))).symm
    have m149 := (m113).trans (fI_kept (x_lt hTH104 kH137 ga (by decide))).symm
    have m150 := (m115).trans (fI_kept (x_lt hTH104 kH137 gw (by decide))).symm
    have m151 := (m117).trans (fI_kept (x_lt hTH104 kH137 gw (by decide))).symm
    have m152 := (m119).trans (fI_kept (x_lt hTH104 kH137 gw (by decide))).symm
    have m153 := (m121).trans (fI_kept (x_lt hTH104 kH137 gw (by decide))).symm
    have m154 := (m123).trans (fI_kept (x_lt hTH104 kH137 gw (by decide))).symm
    have m155 := (m125).trans (fI_kept (x_lt hTH104 kH137 gw (by decide))).symm
    have m156 := (m127).trans (fR_kept (x_lt hTH104 kH137 ga (by decide))).symm
    have m157 := (fV_kept (x_lt hTH104 kH137 ga (by decide))).trans m130
    have m158 := (m114).trans (MF.i mf144 (k := 18) (by decide) (by decide)).symm
    have m159 := (m116).trans (MF.i mf144 (k := 1) (by decide) (by decide)).symm
    have m160 := (m118).trans (MF.i mf144 (k := 2) (by decide) (by decide)).symm
    have m161 := (m120).trans (MF.i mf144 (k := 3) (by decide) (by decide)).symm
    have m162 := (m122).trans (MF.i mf144 (k := 59) (by decide) (by decide)).symm
    have m163 := (m124).trans (MF.i mf144 (k := 62) (by decide) (by decide)).symm
    have m164 := (m126).trans (MF.i mf144 (k := 65) (by decide) (by decide)).symm
    have m165 := (m128).trans (MF.r mf144 (k := 17) (by decide) (by decide)).symm
    have m166 := (m129).trans (MF.i mf144 (k := 70) (by decide) (by decide)).symm
    have m167 := (m131).trans (MF.r mf144 (k := 73) (by decide) (by decide)).symm
    have m168 := (eq136).trans (MF.r mf144 (k := 8) (by decide) (by decide)).symm
    refine W.eq (g2 := F0 m 1443 ls [.int x138]) rfl ?_
    have re169 : RE K H137 w b s1.toInt := RE.rows re132 hTH104 gw gb (fun k hk => MF.r mf144 (by omega) (by intro z; simp only [List.mem_cons, List.not_mem_nil, or_false] at z; omega)) (fun q t hq ht => x_lt hTH104 kH137 hq (by first | exact nmr ht (by decide) | exact nmo ht (by decide) | exact nme ht (by decide) | exact nmq ht (by decide) | decide | (intro z; simp only [List.mem_cons, List.not_mem_nil, or_false] at z <;> omega) | omega)) (fun j => fI_kept (x_lt hTH104 kH137 (show G (fR H104 b (K.1.2 10 5)) = some 114 from gR hTH104 gb 1 (by decide)) (by decide))) (fun j => fI_kept (x_lt hTH104 kH137 (show G (fR H104 b (K.1.2 10 6)) = some 115 from gR hTH104 gb 2 (by decide)) (by decide))) (fun j => by rw [← eq136]; exact m145 j)
    refine lv_pop hx hb dL_law_1443 rfl ?_
    refine lv_goto (tgt := 1509) hx hb dL_law_1444 (by decide) ?_
    exact nx G H137 locsH137 _ _ ls ⟨hTH137, hN, ga, gb, g140, g141, g142, g143, ⟨(by rw [← m149, ← m158]; exact rt), (by rw [← m148, ← m150, ← m159]; exact r1), (by rw [← m148, ← m151, ← m160]; exact r4), (by rw [← m148, ← m152, ← m161]; exact r5), (by rw [← m148, ← m153, ← m162]; exact r10), (by rw [← m148, ← m154, ← m163]; exact r13), (by rw [← m148, ← m155, ← m164]; exact r16)⟩, Or.inl ⟨m157, (by rw [← m166]; exact h70)⟩, (by unfold TB; rw [← m156, ← m165, ← m158]; exact TBR.of htr f146 f147 (by omega)), (by unfold RELE; rw [← m148, ← m159, ← m152]; exact ⟨RE.cast re169 (by omega), by omega, by omega⟩), hSH137⟩ hl ⟨hc, hs, fun _ => ⟨hc0, hs0⟩⟩
  · skip
    obtain ⟨hi, ehi⟩ : ∃ z : Int32, z = fI H b (K.1.2 10 70) := ⟨_, rfl⟩
    rw [← ehi] at h70
    obtain ⟨iq, eiq⟩ : ∃ z : Nat, z = fR H b (K.1.2 10 73) := ⟨_, rfl⟩
    have giq := ty_fr (q := iq) (k := 73) (u := 162) eiq hT gb rg_112 rfl
    rw [← eiq] at q1 q4 q5 q10 q13 q16
    obtain ⟨k1, ek1⟩ : ∃ z : Int32, z = fI H kq (K.1.2 8 1) := ⟨_, rfl⟩
    rw [← ek1] at q1
    obtain ⟨i1, ei1⟩ : ∃ z : Int32, z = fI H iq ((0 : Int32).toNatClampNeg) := ⟨_, rfl⟩
    rw [← ei1] at q1
    obtain ⟨k4, ek4⟩ : ∃ z : Int32, z = fI H kq (K.1.2 8 4) := ⟨_, rfl⟩
    rw [← ek4] at q4
    obtain ⟨i4, ei4⟩ : ∃ z : Int32, z = fI H iq ((1 : Int32).toNatClampNeg) := ⟨_, rfl⟩
    rw [← ei4] at q4
    obtain ⟨k5, ek5⟩ : ∃ z : Int32, z = fI H kq (K.1.2 8 5) := ⟨_, rfl⟩
    rw [← ek5] at q5
    obtain ⟨i5, ei5⟩ : ∃ z : Int32, z = fI H iq ((2 : Int32).toNatClampNeg) := ⟨_, rfl⟩
    rw [← ei5] at q5
    obtain ⟨k10, ek10⟩ : ∃ z : Int32, z = fI H kq (K.1.2 8 10) := ⟨_, rfl⟩
    rw [← ek10] at q10
    obtain ⟨i10, ei10⟩ : ∃ z : Int32, z = fI H iq ((3 : Int32).toNatClampNeg) := ⟨_, rfl⟩
    rw [← ei10] at q10
    obtain ⟨k13, ek13⟩ : ∃ z : Int32, z = fI H kq (K.1.2 8 13) := ⟨_, rfl⟩
    rw [← ek13] at q13
    obtain ⟨i13, ei13⟩ : ∃ z : Int32, z = fI H iq ((4 : Int32).toNatClampNeg) := ⟨_, rfl⟩
    rw [← ei13] at q13
    obtain ⟨k16, ek16⟩ : ∃ z : Int32, z = fI H kq (K.1.2 8 16) := ⟨_, rfl⟩
    rw [← ek16] at q16
    obtain ⟨i16, ei16⟩ : ∃ z : Int32, z = fI H iq ((5 : Int32).toNatClampNeg) := ⟨_, rfl⟩
    rw [← ei16] at q16
    rw [← eiq, ← ek1] at rke
    have hsk : 0 ≤ k5.toInt ∧ k5.toInt ≤ 9999 := by rw [ek5]; exact ⟨ks1, ks2⟩
    refine lv_aload_n hx hb dL_law_1404 rfl (lv_at hl 2 rfl) ?_
    refine lv_aload_n hx hb dL_law_1405 rfl (lv_at hl 3 rfl) ?_
    refine lv_iload_n hx hb dL_law_1406 rfl (lv_at hl 0 rfl) ?_
    refine lv_iconst (v := 1) hx hb dL_law_1407 (by decide) ?_
    refine lv_iadd hx hb dL_law_1408 ?_
    refine lv_topi (fun x170 ex170 => ?_)
    obtain ⟨tx170, ejx170, evx170⟩ := lw_ix (k := 1) ex170 hI hL rfl (by decide)
    clear tx170
    refine va_sld hx hb hX hbl (Nat.not_le.mpr hbl) hS (vp_in_iff.mpr evx170) dL_law_1409 ?_
    refine W.eq (g2 := F0 m 1410 ls [.int (xs (i.toNatClampNeg + 1)), .ref a]) (congrArg (fun z => F0 m 1410 ls [.int (xs z), .ref a]) ejx170) ?_
    refine lv_aload_n hx hb dL_law_1410 rfl (lv_at hl 3 rfl) ?_
    refine lv_iload_n hx hb dL_law_1411 rfl (lv_at hl 0 rfl) ?_
    refine lv_iconst (v := 2) hx hb dL_law_1412 (by decide) ?_
    refine lv_iadd hx hb dL_law_1413 ?_
    refine lv_topi (fun x171 ex171 => ?_)
    obtain ⟨tx171, ejx171, evx171⟩ := lw_ix (k := 2) ex171 hI hL rfl (by decide)
    clear tx171
    refine va_sld hx hb hX hbl (Nat.not_le.mpr hbl) hS (vp_in_iff.mpr evx171) dL_law_1414 ?_
    refine W.eq (g2 := F0 m 1415 ls [.int (xs (i.toNatClampNeg + 2)), .int (xs (i.toNatClampNeg + 1)), .ref a]) (congrArg (fun z => F0 m 1415 ls [.int (xs z), .int (xs (i.toNatClampNeg + 1)), .ref a]) ejx171) ?_
    refine lv_aload_n hx hb dL_law_1415 rfl (lv_at hl 3 rfl) ?_
    refine lv_iload_n hx hb dL_law_1416 rfl (lv_at hl 0 rfl) ?_
    refine lv_iconst (v := 3) hx hb dL_law_1417 (by decide) ?_
    refine lv_iadd hx hb dL_law_1418 ?_
    refine lv_topi (fun x172 ex172 => ?_)
    obtain ⟨tx172, ejx172, evx172⟩ := lw_ix (k := 3) ex172 hI hL rfl (by decide)
    clear tx172
    refine va_sld hx hb hX hbl (Nat.not_le.mpr hbl) hS (vp_in_iff.mpr evx172) dL_law_1419 ?_
    refine W.eq (g2 := F0 m 1420 ls [.int (xs (i.toNatClampNeg + 3)), .int (xs (i.toNatClampNeg + 2)), .int (xs (i.toNatClampNeg + 1)), .ref a]) (congrArg (fun z => F0 m 1420 ls [.int (xs z), .int (xs (i.toNatClampNeg + 2)), .int (xs (i.toNatClampNeg + 1)), .ref a]) ejx172) ?_
    refine x_V (As := [.int (xs (i.toNatClampNeg + 1)), .int (xs (i.toNatClampNeg + 2)), .int (xs (i.toNatClampNeg + 3))]) (rest := []) C (a_X9_enough l K G H ((xs (i.toNatClampNeg + 1))) ((xs (i.toNatClampNeg + 2))) ((xs (i.toNatClampNeg + 3))) hT ga) yo_X9_enough wM_L_149 ⟨⟨by decide, by decide⟩, show _ ≤ 60000 from Nat.le_trans hc (by decide), show _ ≤ 8922250 from Nat.le_trans hs (by decide)⟩ (x_rv C hT (ci := 9) rfl ga rg_68) rfl hl.1 rfl (Nat.le_of_ble_eq_true rfl) dL_law_1420 hS (AE_new hN hS.1) (fun vH173 H173 locsH173 pH173 zH173 kH173 hSH173 => ?_)
    obtain ⟨x174, hvH173, hTH173⟩ := pH173
    subst hvH173
    have g175 : CG (avw K H173 b) := CG.congr (fun k hk j => av_eff hT kH173 gb (by decide) (CG_eff [83, 84] (by decide) k hk)) cg
    have g176 : TU (avw K H173 b) (svw K H173 b) := TU.congr (fun k hk j => av_eff hT kH173 gb (by decide) (TU_eff [83, 84] (by decide) k hk)) (fun k hk => sv_eff hT kH173 gb (by decide)) tu
    have g177 : WD (avw K H173 b) := WD.congr (fun k hk j => av_eff hT kH173 gb (by decide) (WD_eff [83, 84] (by decide) k hk)) wd
    have g178 : IM (avw K H173 b) := IM.congr (fun k hk j => av_eff hT kH173 gb (by decide) (IM_eff [83, 84] (by decide) k hk)) im
    have f179 : ∀ j : Nat, fI H173 tq j = fI H tq j := fun j => (fI_kept (x_lt hT kH173 gtq (by decide))).trans (ft0 j)
    have f180 : ∀ j : Nat, fI H173 uq j = fI H uq j := fun j => (fI_kept (x_lt hT kH173 guq (by decide))).trans (fu0 j)
    have m181 := (ew).trans (fR_kept (x_lt hT kH173 ga (by decide))).symm
    have m182 := (eta).trans (fI_kept (x_lt hT kH173 ga (by decide))).symm
    have m183 := (etb).trans (fI_kept (x_lt hT kH173 gb (by decide))).symm
    have m184 := (es1).trans (fI_kept (x_lt hT kH173 gw (by decide))).symm
    have m185 := (ey1).trans (fI_kept (x_lt hT kH173 gb (by decide))).symm
    have m186 := (es4).trans (fI_kept (x_lt hT kH173 gw (by decide))).symm
    have m187 := (ey4).trans (fI_kept (x_lt hT kH173 gb (by decide))).symm
    have m188 := (es5).trans (fI_kept (x_lt hT kH173 gw (by decide))).symm
    have m189 := (ey5).trans (fI_kept (x_lt hT kH173 gb (by decide))).symm
    have m190 := (es10).trans (fI_kept (x_lt hT kH173 gw (by decide))).symm
    have m191 := (ey10).trans (fI_kept (x_lt hT kH173 gb (by decide))).symm
    have m192 := (es13).trans (fI_kept (x_lt hT kH173 gw (by decide))).symm
    have m193 := (ey13).trans (fI_kept (x_lt hT kH173 gb (by decide))).symm
    have m194 := (es16).trans (fI_kept (x_lt hT kH173 gw (by decide))).symm
    have m195 := (ey16).trans (fI_kept (x_lt hT kH173 gb (by decide))).symm
    have m196 := (etq).trans (fR_kept (x_lt hT kH173 ga (by decide))).symm
    have m197 := (euq).trans (fR_kept (x_lt hT kH173 gb (by decide))).symm
    have m198 := (ehi).trans (fI_kept (x_lt hT kH173 gb (by decide))).symm
    have m199 := (fV_kept (x_lt hT kH173 ga (by decide))).trans kn
    have m200 := (eiq).trans (fR_kept (x_lt hT kH173 gb (by decide))).symm
    have m201 := (ek1).trans (fI_kept (x_lt hT kH173 gkq (by decide))).symm
    have m202 := (ei1).trans (fI_kept (x_lt hT kH173 giq (by decide))).symm
    have m203 := (ek4).trans (fI_kept (x_lt hT kH173 gkq (by decide))).symm
    have m204 := (ei4).trans (fI_kept (x_lt hT kH173 giq (by decide))).symm
    have m205 := (ek5).trans (fI_kept (x_lt hT kH173 gkq (by decide))).symm
    have m206 := (ei5).trans (fI_kept (x_lt hT kH173 giq (by decide))).symm
    have m207 := (ek10).trans (fI_kept (x_lt hT kH173 gkq (by decide))).symm
    have m208 := (ei10).trans (fI_kept (x_lt hT kH173 giq (by decide))).symm
    have m209 := (ek13).trans (fI_kept (x_lt hT kH173 gkq (by decide))).symm
    have m210 := (ei13).trans (fI_kept (x_lt hT kH173 giq (by decide))).symm
    have m211 := (ek16).trans (fI_kept (x_lt hT kH173 gkq (by decide))).symm
    have m212 := (ei16).trans (fI_kept (x_lt hT kH173 giq (by decide))).symm
    refine W.eq (g2 := F0 m 1423 ls [.int x174]) rfl ?_
    have rk213 : RKI K H173 kq iq k1.toInt := RKI.kept rke hT gkq (x_lt hT kH173 giq (by first | exact nmr ht (by decide) | exact nmo ht (by decide) | exact nme ht (by decide) | exact nmq ht (by decide) | decide | (intro z; simp only [List.mem_cons, List.not_mem_nil, or_false] at z <;> omega) | omega)) (fun q t hq ht => x_lt hT kH173 hq (by first | exact nmr ht (by decide) | exact nmo ht (by decide) | exact nme ht (by decide) | exact nmq ht (by decide) | decide | (intro z; simp only [List.mem_cons, List.not_mem_nil, or_false] at z <;> omega) | omega))
    have re214 : RE K H173 w b s1.toInt := RE.cls re hT gw gb (fun q t hq ht => x_lt hT kH173 hq (by first | exact nmr ht (by decide) | exact nmo ht (by decide) | exact nme ht (by decide) | exact nmq ht (by decide) | decide | (intro z; simp only [List.mem_cons, List.not_mem_nil, or_false] at z <;> omega) | omega))
    refine lv_pop hx hb dL_law_1423 rfl ?_
    refine lv_aload_n hx hb dL_law_1424 rfl (lv_at hl 1 rfl) ?_
    refine lv_aload_n hx hb dL_law_1425 rfl (lv_at hl 3 rfl) ?_
    refine lv_iload_n hx hb dL_law_1426 rfl (lv_at hl 0 rfl) ?_
    refine lv_iconst (v := 1) hx hb dL_law_1427 (by decide) ?_
    refine lv_iadd hx hb dL_law_1428 ?_
    refine lv_topi (fun x215 ex215 => ?_)
    obtain ⟨tx215, ejx215, evx215⟩ := lw_ix (k := 1) ex215 hI hL rfl (by decide)
    clear tx215
    refine va_sld hx hb hX hbl (Nat.not_le.mpr hbl) hSH173 (vp_in_iff.mpr evx215) dL_law_1429 ?_
    refine W.eq (g2 := F0 m 1430 ls [.int (xs (i.toNatClampNeg + 1)), .ref b]) (congrArg (fun z => F0 m 1430 ls [.int (xs z), .ref b]) ejx215) ?_
    refine lv_aload_n hx hb dL_law_1430 rfl (lv_at hl 3 rfl) ?_
    refine lv_iload_n hx hb dL_law_1431 rfl (lv_at hl 0 rfl) ?_
    refine lv_iconst (v := 2) hx hb dL_law_1432 (by decide) ?_
    refine lv_iadd hx hb dL_law_1433 ?_
    refine lv_topi (fun x216 ex216 => ?_)
    obtain ⟨tx216, ejx216, evx216⟩ := lw_ix (k := 2) ex216 hI hL rfl (by decide)
    clear tx216
    refine va_sld hx hb hX hbl (Nat.not_le.mpr hbl) hSH173 (vp_in_iff.mpr evx216) dL_law_1434 ?_
    refine W.eq (g2 := F0 m 1435 ls [.int (xs (i.toNatClampNeg + 2)), .int (xs (i.toNatClampNeg + 1)), .ref b]) (congrArg (fun z => F0 m 1435 ls [.int (xs z), .int (xs (i.toNatClampNeg + 1)), .ref b]) ejx216) ?_
    refine lv_aload_n hx hb dL_law_1435 rfl (lv_at hl 3 rfl) ?_
    refine lv_iload_n hx hb dL_law_1436 rfl (lv_at hl 0 rfl) ?_
    refine lv_iconst (v := 3) hx hb dL_law_1437 (by decide) ?_
    refine lv_iadd hx hb dL_law_1438 ?_
    refine lv_topi (fun x217 ex217 => ?_)
    obtain ⟨tx217, ejx217, evx217⟩ := lw_ix (k := 3) ex217 hI hL rfl (by decide)
    clear tx217
    refine va_sld hx hb hX hbl (Nat.not_le.mpr hbl) hSH173 (vp_in_iff.mpr evx217) dL_law_1439 ?_
    refine W.eq (g2 := F0 m 1440 ls [.int (xs (i.toNatClampNeg + 3)), .int (xs (i.toNatClampNeg + 2)), .int (xs (i.toNatClampNeg + 1)), .ref b]) (congrArg (fun z => F0 m 1440 ls [.int (xs z), .int (xs (i.toNatClampNeg + 2)), .int (xs (i.toNatClampNeg + 1)), .ref b]) ejx217) ?_
    obtain ⟨q218, eq218⟩ : ∃ z : Nat, @Eq Ad z (fR H173 b (K.1.2 10 8)) := ⟨_, rfl⟩
    have gq218 := ty_fr (q := q218) (k := 8) (u := 117) eq218 hTH173 gb rg_112 rfl
    refine x_V (As := [.int (xs (i.toNatClampNeg + 1)), .int (xs (i.toNatClampNeg + 2)), .int (xs (i.toNatClampNeg + 3))]) (rest := []) C (a_X10_enough_k l K G H173 ((xs (i.toNatClampNeg + 1))) ((xs (i.toNatClampNeg + 2))) ((xs (i.toNatClampNeg + 3))) hTH173 gb gq218 eq218 g175 g176 g177 g178) yo_X10_enough wM_L_152 ⟨⟨by decide, by decide⟩, show _ ≤ 60000 from Nat.le_trans hc (by decide), show _ ≤ 8922250 from Nat.le_trans hs (by decide)⟩ (x_rv C hTH173 (ci := 10) rfl gb rg_112) rfl hl.1 rfl (Nat.le_of_ble_eq_true rfl) dL_law_1440 hSH173 (AE_new hN hSH173.1) (fun vH219 H219 locsH219 pH219 zH219 kH219 hSH219 => ?_)
    obtain ⟨x220, hvH219, m221, g222, g223, g224, g225, mf226, m227, hTH219⟩ := pH219
    subst hvH219
    have f228 : ∀ j : Nat, fI H219 tq j = fI H tq j := fun j => (fI_kept (x_lt hTH173 kH219 gtq (by decide))).trans (f179 j)
    have f229 : ∀ j : Nat, fI H219 uq j = fI H uq j := fun j => (fI_kept (x_lt hTH173 kH219 guq (by decide))).trans (f180 j)
    have m230 := (m181).trans (fR_kept (x_lt hTH173 kH219 ga (by decide))).symm
    have m231 := (m182).trans (fI_kept (x_lt hTH173 kH219 ga (by decide))).symm
    have m232 := (m184).trans (fI_kept (x_lt hTH173 kH219 gw (by decide))).symm
    have m233 := (m186).trans (fI_kept (x_lt hTH173 kH219 gw (by decide))).symm
    have m234 := (m188).trans (fI_kept (x_lt hTH173 kH219 gw (by decide))).symm
    have m235 := (m190).trans (fI_kept (x_lt hTH173 kH219 gw (by decide))).symm
    have m236 := (m192).trans (fI_kept (x_lt hTH173 kH219 gw (by decide))).symm
    have m237 := (m194).trans (fI_kept (x_lt hTH173 kH219 gw (by decide))).symm
    have m238 := (m196).trans (fR_kept (x_lt hTH173 kH219 ga (by decide))).symm
    have m239 := (fV_kept (x_lt hTH173 kH219 ga (by decide))).trans m199
    have m240 := (m201).trans (fI_kept (x_lt hTH173 kH219 gkq (by decide))).symm
    have m241 := (m202).trans (fI_kept (x_lt hTH173 kH219 giq (by decide))).symm
    have m242 := (m203).trans (fI_kept (x_lt hTH173 kH219 gkq (by decide))).symm
    have m243 := (m204).trans (fI_kept (x_lt hTH173 kH219 giq (by decide))).symm
    have m244 := (m205).trans (fI_kept (x_lt hTH173 kH219 gkq (by decide))).symm
    have m245 := (m206).trans (fI_kept (x_lt hTH173 kH219 giq (by decide))).symm
    have m246 := (m207).trans (fI_kept (x_lt hTH173 kH219 gkq (by decide))).symm
    have m247 := (m208).trans (fI_kept (x_lt hTH173 kH219 giq (by decide))).symm
    have m248 := (m209).trans (fI_kept (x_lt hTH173 kH219 gkq (by decide))).symm
    have m249 := (m210).trans (fI_kept (x_lt hTH173 kH219 giq (by decide))).symm
    have m250 := (m211).trans (fI_kept (x_lt hTH173 kH219 gkq (by decide))).symm
    have m251 := (m212).trans (fI_kept (x_lt hTH173 kH219 giq (by decide))).symm
    have m252 := (m183).trans (MF.i mf226 (k := 18) (by decide) (by decide)).symm
    have m253 := (m185).trans (MF.i mf226 (k := 1) (by decide) (by decide)).symm
    have m254 := (m187).trans (MF.i mf226 (k := 2) (by decide) (by decide)).symm
    have m255 := (m189).trans (MF.i mf226 (k := 3) (by decide) (by decide)).symm
    have m256 := (m191).trans (MF.i mf226 (k := 59) (by decide) (by decide)).symm
    have m257 := (m193).trans (MF.i mf226 (k := 62) (by decide) (by decide)).symm
    have m258 := (m195).trans (MF.i mf226 (k := 65) (by decide) (by decide)).symm
    have m259 := (m197).trans (MF.r mf226 (k := 17) (by decide) (by decide)).symm
    have m260 := (m198).trans (MF.i mf226 (k := 70) (by decide) (by decide)).symm
    have m261 := (m200).trans (MF.r mf226 (k := 73) (by decide) (by decide)).symm
    have m262 := (eq218).trans (MF.r mf226 (k := 8) (by decide) (by decide)).symm
    refine W.eq (g2 := F0 m 1443 ls [.int x220]) rfl ?_
    have rk263 : RKI K H219 kq iq k1.toInt := RKI.kept rk213 hTH173 gkq (x_lt hTH173 kH219 giq (by first | exact nmr ht (by decide) | exact nmo ht (by decide) | exact nme ht (by decide) | exact nmq ht (by decide) | decide | (intro z; simp only [List.mem_cons, List.not_mem_nil, or_false] at z <;> omega) | omega)) (fun q t hq ht => x_lt hTH173 kH219 hq (by first | exact nmr ht (by decide) | exact nmo ht (by decide) | exact nme ht (by decide) | exact nmq ht (by decide) | decide | (intro z; simp only [List.mem_cons, List.not_mem_nil, or_false] at z <;> omega) | omega))
    have re264 : RE K H219 w b s1.toInt := RE.rows re214 hTH173 gw gb (fun k hk => MF.r mf226 (by omega) (by intro z; simp only [List.mem_cons, List.not_mem_nil, or_false] at z; omega)) (fun q t hq ht => x_lt hTH173 kH219 hq (by first | exact nmr ht (by decide) | exact nmo ht (by decide) | exact nme ht (by decide) | exact nmq ht (by decide) | decide | (intro z; simp only [List.mem_cons, List.not_mem_nil, or_false] at z <;> omega) | omega)) (fun j => fI_kept (x_lt hTH173 kH219 (show G (fR H173 b (K.1.2 10 5)) = some 114 from gR hTH173 gb 1 (by decide)) (by decide))) (fun j => fI_kept (x_lt hTH173 kH219 (show G (fR H173 b (K.1.2 10 6)) = some 115 from gR hTH173 gb 2 (by decide)) (by decide))) (fun j => by rw [← eq218]; exact m227 j)
    refine lv_pop hx hb dL_law_1443 rfl ?_
    refine lv_goto (tgt := 1509) hx hb dL_law_1444 (by decide) ?_
    exact nx G H219 locsH219 _ _ ls ⟨hTH219, hN, ga, gb, g222, g223, g224, g225, ⟨(by rw [← m231, ← m252]; exact rt), (by rw [← m230, ← m232, ← m253]; exact r1), (by rw [← m230, ← m233, ← m254]; exact r4), (by rw [← m230, ← m234, ← m255]; exact r5), (by rw [← m230, ← m235, ← m256]; exact r10), (by rw [← m230, ← m236, ← m257]; exact r13), (by rw [← m230, ← m237, ← m258]; exact r16)⟩, Or.inr ⟨kq, m239, gkq, (by rw [← m260]; exact h70), (by rw [← m240, ← m261, ← m241]; exact q1), (by rw [← m242, ← m261, ← m243]; exact q4), (by rw [← m244, ← m261, ← m245]; exact q5), (by rw [← m246, ← m261, ← m247]; exact q10), (by rw [← m248, ← m261, ← m249]; exact q13), (by rw [← m250, ← m261, ← m251]; exact q16), (by rw [← m261, ← m240]; exact RKI.cast rk263 (by omega)), (by rw [← m244]; omega), (by rw [← m244]; omega)⟩, (by unfold TB; rw [← m238, ← m259, ← m252]; exact TBR.of htr f228 f229 (by omega)), (by unfold RELE; rw [← m230, ← m253, ← m234]; exact ⟨RE.cast re264 (by omega), by omega, by omega⟩), hSH219⟩ hl ⟨hc, hs, fun h => by have h1 := h.symm.trans m239; cases h1⟩
set_option maxRecDepth 100000 in
set_option maxHeartbeats 8000000 in
theorem lw_c33 {p : Program} {l : Launch} {e : Env} {s : State} {m : MethodId} {below : List Frame} {meth : Method} {c : Code} {K : KE} {b0 L : Nat} {xs : Nat → Int32} {G : Nat → Option Nat} {H : Heap} {locs : List Loc} {a b : Nat} {cells slots : Nat} {ls : Array Slot} {i : Int32} {n : Nat} (D : LC p K s m meth c b0 L xs) (S : SX K s G H locs a b) (hl : lv_has ls 4 [(3, .int i), (2, .ref b), (1, .ref a), (0, .ref b0)]) (hi : 0 ≤ i.toInt ∧ i.toInt + 6 ≤ L) (hn : n ≤ 511) (hB : BD K H a cells slots) (nx : ∀ (G : Nat → Option Nat) (H : Heap) (locs : List Loc) (cells slots : Nat) (ls : Array Slot), SX K s G H locs a b → lv_has ls 4 [(3, .int i), (2, .ref b), (1, .ref a), (0, .ref b0)] → BD K H a cells slots → W p l e room_1 s m #[Value.ref b0] below meth c H locs cells slots (lw_Z below #[Value.ref b0] s) (F0 m 1509 ls [])) : W p l e room_1 s m #[Value.ref b0] below meth c H locs cells slots (lw_Z below #[Value.ref b0] s) (F0 m 1447 ls []) := by
  have hI := hi
  obtain ⟨C, hX, hbl, hL⟩ := id D
  obtain ⟨hx, hb, hml, hown, hts, hKT, hr, hlocks, hnm⟩ := id C
  obtain ⟨hT, hN, ga, gb, cg, tu, wd, im, ⟨rt, r1, r4, r5, r10, r13, r16⟩, hk, htb, her, hS⟩ := S
  obtain ⟨hc, hs, hB0⟩ := hB
  have n_0 : (0 : Int32).toInt = 0 := rfl
  have n_1 : (1 : Int32).toInt = 1 := rfl
  obtain ⟨w, ew⟩ : ∃ z : Nat, z = fR H a (K.1.2 9 0) := ⟨_, rfl⟩
  have gw := ty_fr (q := w) (k := 0) (u := 0) ew hT ga rg_68 rfl
  rw [← ew] at r1 r4 r5 r10 r13 r16
  obtain ⟨ta, eta⟩ : ∃ z : Int32, z = fI H a (K.1.2 9 3) := ⟨_, rfl⟩
  rw [← eta] at rt
  obtain ⟨tb, etb⟩ : ∃ z : Int32, z = fI H b (K.1.2 10 18) := ⟨_, rfl⟩
  rw [← etb] at rt
  obtain ⟨s1, es1⟩ : ∃ z : Int32, z = fI H w (K.1.2 8 1) := ⟨_, rfl⟩
  rw [← es1] at r1
  obtain ⟨y1, ey1⟩ : ∃ z : Int32, z = fI H b (K.1.2 10 1) := ⟨_, rfl⟩
  rw [← ey1] at r1
  obtain ⟨s4, es4⟩ : ∃ z : Int32, z = fI H w (K.1.2 8 4) := ⟨_, rfl⟩
  rw [← es4] at r4
  obtain ⟨y4, ey4⟩ : ∃ z : Int32, z = fI H b (K.1.2 10 2) := ⟨_, rfl⟩
  rw [← ey4] at r4
  obtain ⟨s5, es5⟩ : ∃ z : Int32, z = fI H w (K.1.2 8 5) := ⟨_, rfl⟩
  rw [← es5] at r5
  obtain ⟨y5, ey5⟩ : ∃ z : Int32, z = fI H b (K.1.2 10 3) := ⟨_, rfl⟩
  rw [← ey5] at r5
  obtain ⟨s10, es10⟩ : ∃ z : Int32, z = fI H w (K.1.2 8 10) := ⟨_, rfl⟩
  rw [← es10] at r10
  obtain ⟨y10, ey10⟩ : ∃ z : Int32, z = fI H b (K.1.2 10 59) := ⟨_, rfl⟩
  rw [← ey10] at r10
  obtain ⟨s13, es13⟩ : ∃ z : Int32, z = fI H w (K.1.2 8 13) := ⟨_, rfl⟩
  rw [← es13] at r13
  obtain ⟨y13, ey13⟩ : ∃ z : Int32, z = fI H b (K.1.2 10 62) := ⟨_, rfl⟩
  rw [← ey13] at r13
  obtain ⟨s16, es16⟩ : ∃ z : Int32, z = fI H w (K.1.2 8 16) := ⟨_, rfl⟩
  rw [← es16] at r16
  obtain ⟨y16, ey16⟩ : ∃ z : Int32, z = fI H b (K.1.2 10 65) := ⟨_, rfl⟩
  rw [← ey16] at r16
  obtain ⟨tq, etq⟩ : ∃ z : Nat, z = fR H a (K.1.2 9 2) := ⟨_, rfl⟩
  have gtq := ty_fr (q := tq) (k := 2) (u := 108) etq hT ga rg_68 rfl
  obtain ⟨uq, euq⟩ : ∃ z : Nat, z = fR H b (K.1.2 10 17) := ⟨_, rfl⟩
  have guq := ty_fr (q := uq) (k := 17) (u := 126) euq hT gb rg_112 rfl
  have htr : TBR (fun j => fI H tq j) (fun j => fI H uq j) tb.toNatClampNeg := by rw [etq, euq, etb]; exact htb
  have ft0 : ∀ j : Nat, fI H tq j = fI H tq j := fun _ => rfl
  have fu0 : ∀ j : Nat, fI H uq j = fI H uq j := fun _ => rfl
  have bta := ty_fi (x := ta) (k := 3) eta hT ga rg_68 rfl
  have cta := i_cl (x := ta) (by omega)
  have btb := ty_fi (x := tb) (k := 18) etb hT gb rg_112 rfl
  have ctb := i_cl (x := tb) (by omega)
  obtain ⟨her0, hsl1, hsl2⟩ := her
  have hsl0 := And.intro hsl1 hsl2
  clear hsl1 hsl2
  rw [← ew] at her0 hsl0
  have re : RE K H w b s1.toInt := RE.cast her0 (by rw [← ey1]; exact r1)
  have hsl : 0 ≤ s5.toInt ∧ s5.toInt ≤ 9999 := by rw [es5]; exact hsl0
  clear her0 hsl0
  have bt_s1 := ty_fi (x := s1) (k := 1) es1 hT gw rg_0 rfl
  have bt_s4 := ty_fi (x := s4) (k := 4) es4 hT gw rg_0 rfl
  have bt_y1 := ty_fi (x := y1) (k := 1) ey1 hT gb rg_112 rfl
  have bt_y4 := ty_fi (x := y4) (k := 2) ey4 hT gb rg_112 rfl
  rcases hk with ⟨kn, h70⟩ | ⟨kq, kn, gkq, h70, q1, q4, q5, q10, q13, q16, rke, ks1, ks2⟩
  · skip
    obtain ⟨hi, ehi⟩ : ∃ z : Int32, z = fI H b (K.1.2 10 70) := ⟨_, rfl⟩
    rw [← ehi] at h70
    obtain ⟨hc0, hs0⟩ := hB0 kn
    obtain ⟨iq, eiq⟩ : ∃ z : Nat, z = fR H b (K.1.2 10 73) := ⟨_, rfl⟩
    have giq := ty_fr (q := iq) (k := 73) (u := 162) eiq hT gb rg_112 rfl
    refine lv_aload_n hx hb dL_law_1447 rfl (lv_at hl 2 rfl) ?_
    refine lv_aload_n hx hb dL_law_1448 rfl (lv_at hl 3 rfl) ?_
    refine lv_iload_n hx hb dL_law_1449 rfl (lv_at hl 0 rfl) ?_
    refine lv_iconst (v := 1) hx hb dL_law_1450 (by decide) ?_
    refine lv_iadd hx hb dL_law_1451 ?_
    refine lv_topi (fun x101 ex101 => ?_)
    obtain ⟨tx101, ejx101, evx101⟩ := lw_ix (k := 1) ex101 hI hL rfl (by decide)
    clear tx101
    refine va_sld hx hb hX hbl (Nat.not_le.mpr hbl) hS (vp_in_iff.mpr evx101) dL_law_1452 ?_
    refine W.eq (g2 := F0 m 1453 ls [.int (xs (i.toNatClampNeg + 1)), .ref a]) (congrArg (fun z => F0 m 1453 ls [.int (xs z), .ref a]) ejx101) ?_
    refine lv_if_eq (tgt := 1460) hx hb dL_law_1453 (by decide) (fun c1453 => ?_) (fun c1453 => ?_)
    · skip
      refine lv_iconst (v := 0) hx hb dL_law_1460 (by decide) ?_
      refine x_V (As := [.int 0]) (rest := []) C (a_X9_image_e0n l K G H (s1) (s4) (s5) (s10) (s13) (s16) (ta)  hT ga gw ew es1 es4 es5 es10 es13 es16 eta re.1 kn ) yo_X9_image wM_L_153 ⟨⟨by decide, by decide⟩, show _ ≤ 60000 from Nat.le_trans hc (by decide), show _ ≤ 8922250 from Nat.le_trans hs (by decide)⟩ (x_rv C hT (ci := 9) rfl ga rg_68) rfl hl.1 rfl (Nat.le_of_ble_eq_true rfl) dL_law_1461 hS (AE_new hN hS.1) (fun vH102 H102 locsH102 pH102 zH102 kH102 hSH102 => ?_)
      obtain ⟨x103, hvH102, bx103, G104, mH102, hTH102⟩ := pH102
      subst hvH102
      have g120 : CG (avw K H102 b) := CG.congr (fun k hk j => av_eff hT kH102 gb (by decide) (CG_eff [] (by decide) k hk)) cg
      have g121 : TU (avw K H102 b) (svw K H102 b) := TU.congr (fun k hk j => av_eff hT kH102 gb (by decide) (TU_eff [] (by decide) k hk)) (fun k hk => sv_eff hT kH102 gb (by decide)) tu
      have g122 : WD (avw K H102 b) := WD.congr (fun k hk j => av_eff hT kH102 gb (by decide) (WD_eff [] (by decide) k hk)) wd
      have g123 : IM (avw K H102 b) := IM.congr (fun k hk j => av_eff hT kH102 gb (by decide) (IM_eff [] (by decide) k hk)) im
      have f124 : ∀ j : Nat, fI H102 tq j = fI H tq j := fun j => (fI_kept (x_lt hT kH102 gtq (by decide))).trans (ft0 j)
      have f125 : ∀ j : Nat, fI H102 uq j = fI H uq j := fun j => (fI_kept (x_lt hT kH102 guq (by decide))).trans (fu0 j)
      have m126 := (ew).trans (fR_kept (x_lt hT kH102 ga (by decide))).symm
      have m127 := (eta).trans (fI_kept (x_lt hT kH102 ga (by decide))).symm
      have m128 := (etb).trans (fI_kept (x_lt hT kH102 gb (by decide))).symm
      have m129 := (es1).trans (fI_kept (x_lt hT kH102 gw (by decide))).symm
      have m130 := (ey1).trans (fI_kept (x_lt hT kH102 gb (by decide))).symm
      have m131 := (es4).trans (fI_kept (x_lt hT kH102 gw (by decide))).symm
      have m132 := (ey4).trans (fI_kept (x_lt hT kH102 gb (by decide))).symm
      have m133 := (es5).trans (fI_kept (x_lt hT kH102 gw (by decide))).symm
      have m134 := (ey5).trans (fI_kept (x_lt hT kH102 gb (by decide))).symm
      have m135 := (es10).trans (fI_kept (x_lt hT kH102 gw (by decide))).symm
      have m136 := (ey10).trans (fI_kept (x_lt hT kH102 gb (by decide))).symm
      have m137 := (es13).trans (fI_kept (x_lt hT kH102 gw (by decide))).symm
      have m138 := (ey13).trans (fI_kept (x_lt hT kH102 gb (by decide))).symm
      have m139 := (es16).trans (fI_kept (x_lt hT kH102 gw (by decide))).symm
      have m140 := (ey16).trans (fI_kept (x_lt hT kH102 gb (by decide))).symm
      have m141 := (etq).trans (fR_kept (x_lt hT kH102 ga (by decide))).symm
      have m142 := (euq).trans (fR_kept (x_lt hT kH102 gb (by decide))).symm
      have m143 := (ehi).trans (fI_kept (x_lt hT kH102 gb (by decide))).symm
      have m144 := (fV_kept (x_lt hT kH102 ga (by decide))).trans kn
      have m145 := (eiq).trans (fR_kept (x_lt hT kH102 gb (by decide))).symm
      have gaH102 := (mH102 a (hT.lt ga)).trans ga
      have gbH102 := (mH102 b (hT.lt gb)).trans gb
      have gwH102 := (mH102 w (hT.lt gw)).trans gw
      have gtqH102 := (mH102 tq (hT.lt gtq)).trans gtq
      have guqH102 := (mH102 uq (hT.lt guq)).trans guq
      have giqH102 := (mH102 iq (hT.lt giq)).trans giq
      have hNH102 : ∀ q, q < s.heap.size → G104 q = none := fun q hq => (mH102 q (Nat.lt_of_lt_of_le hq hS.1)).trans (hN q hq)
      refine W.eq (g2 := F0 m 1464 ls [.int x103]) rfl ?_
      have re146 : RE K H102 w b s1.toInt := RE.cls re hT gw gb (fun q t hq ht => x_lt hT kH102 hq (by first | exact nmr ht (by decide) | exact nmo ht (by decide) | exact nme ht (by decide) | exact nmq ht (by decide) | decide | (intro z; simp only [List.mem_cons, List.not_mem_nil, or_false] at z <;> omega) | omega))
      refine lv_pop hx hb dL_law_1464 rfl ?_
      refine lv_aload_n hx hb dL_law_1465 rfl (lv_at hl 1 rfl) ?_
      refine lv_aload_n hx hb dL_law_1466 rfl (lv_at hl 3 rfl) ?_
      refine lv_iload_n hx hb dL_law_1467 rfl (lv_at hl 0 rfl) ?_
      refine lv_iconst (v := 1) hx hb dL_law_1468 (by decide) ?_
      refine lv_iadd hx hb dL_law_1469 ?_
      refine lv_topi (fun x147 ex147 => ?_)
      obtain ⟨tx147, ejx147, evx147⟩ := lw_ix (k := 1) ex147 hI hL rfl (by decide)
      clear tx147
      refine va_sld hx hb hX hbl (Nat.not_le.mpr hbl) hSH102 (vp_in_iff.mpr evx147) dL_law_1470 ?_
      refine W.eq (g2 := F0 m 1471 ls [.int (xs (i.toNatClampNeg + 1)), .ref b]) (congrArg (fun z => F0 m 1471 ls [.int (xs z), .ref b]) ejx147) ?_
      refine lv_if_eq (tgt := 1478) hx hb dL_law_1471 (by decide) (fun c1471 => ?_) (fun c1471 => ?_)
      · skip
        refine lv_iconst (v := 0) hx hb dL_law_1478 (by decide) ?_
        obtain ⟨q148, eq148⟩ : ∃ z : Nat, @Eq Ad z (fR H102 b (K.1.2 10 4)) := ⟨_, rfl⟩
        have gq148 := ty_fr (q := q148) (k := 4) (u := 113) eq148 hTH102 gbH102 rg_112 rfl
        obtain ⟨q149, eq149⟩ : ∃ z : Nat, @Eq Ad z (fR H102 b (K.1.2 10 5)) := ⟨_, rfl⟩
        have gq149 := ty_fr (q := q149) (k := 5) (u := 114) eq149 hTH102 gbH102 rg_112 rfl
        obtain ⟨q150, eq150⟩ : ∃ z : Nat, @Eq Ad z (fR H102 b (K.1.2 10 6)) := ⟨_, rfl⟩
        have gq150 := ty_fr (q := q150) (k := 6) (u := 115) eq150 hTH102 gbH102 rg_112 rfl
        obtain ⟨q151, eq151⟩ : ∃ z : Nat, @Eq Ad z (fR H102 b (K.1.2 10 7)) := ⟨_, rfl⟩
        have gq151 := ty_fr (q := q151) (k := 7) (u := 116) eq151 hTH102 gbH102 rg_112 rfl
        obtain ⟨q152, eq152⟩ : ∃ z : Nat, @Eq Ad z (fR H102 b (K.1.2 10 8)) := ⟨_, rfl⟩
        have gq152 := ty_fr (q := q152) (k := 8) (u := 117) eq152 hTH102 gbH102 rg_112 rfl
        obtain ⟨q153, eq153⟩ : ∃ z : Nat, @Eq Ad z (fR H102 b (K.1.2 10 9)) := ⟨_, rfl⟩
        have gq153 := ty_fr (q := q153) (k := 9) (u := 118) eq153 hTH102 gbH102 rg_112 rfl
        obtain ⟨q154, eq154⟩ : ∃ z : Nat, @Eq Ad z (fR H102 b (K.1.2 10 10)) := ⟨_, rfl⟩
        have gq154 := ty_fr (q := q154) (k := 10) (u := 119) eq154 hTH102 gbH102 rg_112 rfl
        obtain ⟨q155, eq155⟩ : ∃ z : Nat, @Eq Ad z (fR H102 b (K.1.2 10 11)) := ⟨_, rfl⟩
        have gq155 := ty_fr (q := q155) (k := 11) (u := 120) eq155 hTH102 gbH102 rg_112 rfl
        obtain ⟨q156, eq156⟩ : ∃ z : Nat, @Eq Ad z (fR H102 b (K.1.2 10 12)) := ⟨_, rfl⟩
        have gq156 := ty_fr (q := q156) (k := 12) (u := 121) eq156 hTH102 gbH102 rg_112 rfl
        obtain ⟨q157, eq157⟩ : ∃ z : Nat, @Eq Ad z (fR H102 b (K.1.2 10 13)) := ⟨_, rfl⟩
        have gq157 := ty_fr (q := q157) (k := 13) (u := 122) eq157 hTH102 gbH102 rg_112 rfl
        obtain ⟨q158, eq158⟩ : ∃ z : Nat, @Eq Ad z (fR H102 b (K.1.2 10 14)) := ⟨_, rfl⟩
        have gq158 := ty_fr (q := q158) (k := 14) (u := 123) eq158 hTH102 gbH102 rg_112 rfl
        obtain ⟨q159, eq159⟩ : ∃ z : Nat, @Eq Ad z (fR H102 b (K.1.2 10 15)) := ⟨_, rfl⟩
        have gq159 := ty_fr (q := q159) (k := 15) (u := 124) eq159 hTH102 gbH102 rg_112 rfl
        obtain ⟨q160, eq160⟩ : ∃ z : Nat, @Eq Ad z (fR H102 b (K.1.2 10 16)) := ⟨_, rfl⟩
        have gq160 := ty_fr (q := q160) (k := 16) (u := 125) eq160 hTH102 gbH102 rg_112 rfl
        obtain ⟨q161, eq161⟩ : ∃ z : Nat, @Eq Ad z (fR H102 b (K.1.2 10 24)) := ⟨_, rfl⟩
        have gq161 := ty_fr (q := q161) (k := 24) (u := 128) eq161 hTH102 gbH102 rg_112 rfl
        obtain ⟨q162, eq162⟩ : ∃ z : Nat, @Eq Ad z (fR H102 b (K.1.2 10 25)) := ⟨_, rfl⟩
        have gq162 := ty_fr (q := q162) (k := 25) (u := 129) eq162 hTH102 gbH102 rg_112 rfl
        obtain ⟨q163, eq163⟩ : ∃ z : Nat, @Eq Ad z (fR H102 b (K.1.2 10 26)) := ⟨_, rfl⟩
        have gq163 := ty_fr (q := q163) (k := 26) (u := 130) eq163 hTH102 gbH102 rg_112 rfl
        obtain ⟨q164, eq164⟩ : ∃ z : Nat, @Eq Ad z (fR H102 b (K.1.2 10 27)) := ⟨_, rfl⟩
        have gq164 := ty_fr (q := q164) (k := 27) (u := 131) eq164 hTH102 gbH102 rg_112 rfl
        obtain ⟨q165, eq165⟩ : ∃ z : Nat, @Eq Ad z (fR H102 b (K.1.2 10 28)) := ⟨_, rfl⟩
        have gq165 := ty_fr (q := q165) (k := 28) (u := 132) eq165 hTH102 gbH102 rg_112 rfl
        obtain ⟨q166, eq166⟩ : ∃ z : Nat, @Eq Ad z (fR H102 b (K.1.2 10 29)) := ⟨_, rfl⟩
        have gq166 := ty_fr (q := q166) (k := 29) (u := 133) eq166 hTH102 gbH102 rg_112 rfl
        obtain ⟨q167, eq167⟩ : ∃ z : Nat, @Eq Ad z (fR H102 b (K.1.2 10 30)) := ⟨_, rfl⟩
        have gq167 := ty_fr (q := q167) (k := 30) (u := 134) eq167 hTH102 gbH102 rg_112 rfl
        obtain ⟨q168, eq168⟩ : ∃ z : Nat, @Eq Ad z (fR H102 b (K.1.2 10 31)) := ⟨_, rfl⟩
        have gq168 := ty_fr (q := q168) (k := 31) (u := 135) eq168 hTH102 gbH102 rg_112 rfl
        obtain ⟨q169, eq169⟩ : ∃ z : Nat, @Eq Ad z (fR H102 b (K.1.2 10 32)) := ⟨_, rfl⟩
        have gq169 := ty_fr (q := q169) (k := 32) (u := 136) eq169 hTH102 gbH102 rg_112 rfl
        obtain ⟨q170, eq170⟩ : ∃ z : Nat, @Eq Ad z (fR H102 b (K.1.2 10 33)) := ⟨_, rfl⟩
        have gq170 := ty_fr (q := q170) (k := 33) (u := 137) eq170 hTH102 gbH102 rg_112 rfl
        obtain ⟨q171, eq171⟩ : ∃ z : Nat, @Eq Ad z (fR H102 b (K.1.2 10 50)) := ⟨_, rfl⟩
        have gq171 := ty_fr (q := q171) (k := 50) (u := 146) eq171 hTH102 gbH102 rg_112 rfl
        obtain ⟨q172, eq172⟩ : ∃ z : Nat, @Eq Ad z (fR H102 b (K.1.2 10 51)) := ⟨_, rfl⟩
        have gq172 := ty_fr (q := q172) (k := 51) (u := 147) eq172 hTH102 gbH102 rg_112 rfl
        obtain ⟨q173, eq173⟩ : ∃ z : Nat, @Eq Ad z (fR H102 b (K.1.2 10 52)) := ⟨_, rfl⟩
        have gq173 := ty_fr (q := q173) (k := 52) (u := 148) eq173 hTH102 gbH102 rg_112 rfl
        obtain ⟨q174, eq174⟩ : ∃ z : Nat, @Eq Ad z (fR H102 b (K.1.2 10 53)) := ⟨_, rfl⟩
        have gq174 := ty_fr (q := q174) (k := 53) (u := 149) eq174 hTH102 gbH102 rg_112 rfl
        obtain ⟨q175, eq175⟩ : ∃ z : Nat, @Eq Ad z (fR H102 b (K.1.2 10 54)) := ⟨_, rfl⟩
        have gq175 := ty_fr (q := q175) (k := 54) (u := 150) eq175 hTH102 gbH102 rg_112 rfl
        obtain ⟨q176, eq176⟩ : ∃ z : Nat, @Eq Ad z (fR H102 b (K.1.2 10 60)) := ⟨_, rfl⟩
        have gq176 := ty_fr (q := q176) (k := 60) (u := 154) eq176 hTH102 gbH102 rg_112 rfl
        obtain ⟨q177, eq177⟩ : ∃ z : Nat, @Eq Ad z (fR H102 b (K.1.2 10 61)) := ⟨_, rfl⟩
        have gq177 := ty_fr (q := q177) (k := 61) (u := 155) eq177 hTH102 gbH102 rg_112 rfl
        obtain ⟨q178, eq178⟩ : ∃ z : Nat, @Eq Ad z (fR H102 b (K.1.2 10 63)) := ⟨_, rfl⟩
        have gq178 := ty_fr (q := q178) (k := 63) (u := 156) eq178 hTH102 gbH102 rg_112 rfl
        obtain ⟨q179, eq179⟩ : ∃ z : Nat, @Eq Ad z (fR H102 b (K.1.2 10 64)) := ⟨_, rfl⟩
        have gq179 := ty_fr (q := q179) (k := 64) (u := 157) eq179 hTH102 gbH102 rg_112 rfl
        obtain ⟨q180, eq180⟩ : ∃ z : Nat, @Eq Ad z (fR H102 b (K.1.2 10 66)) := ⟨_, rfl⟩
        have gq180 := ty_fr (q := q180) (k := 66) (u := 158) eq180 hTH102 gbH102 rg_112 rfl
        obtain ⟨q181, eq181⟩ : ∃ z : Nat, @Eq Ad z (fR H102 b (K.1.2 10 67)) := ⟨_, rfl⟩
        have gq181 := ty_fr (q := q181) (k := 67) (u := 159) eq181 hTH102 gbH102 rg_112 rfl
        refine x_V (As := [.int 0]) (rest := []) C (a_X10_image_g l K G104 H102 (0) (hi) (y1) (y4) (y5) (y10) (y13) (y16) hTH102 gbH102 (by decide) giqH102 m145 gq148 eq148 gq149 eq149 gq150 eq150 gq151 eq151 gq152 eq152 gq153 eq153 gq154 eq154 gq155 eq155 gq156 eq156 gq157 eq157 gq158 eq158 gq159 eq159 gq160 eq160 gq161 eq161 gq162 eq162 gq163 eq163 gq164 eq164 gq165 eq165 gq166 eq166 gq167 eq167 gq168 eq168 gq169 eq169 gq170 eq170 gq171 eq171 gq172 eq172 gq173 eq173 gq174 eq174 gq175 eq175 gq176 eq176 gq177 eq177 gq178 eq178 gq179 eq179 gq180 eq180 gq181 eq181 m143 m130 m132 m134 m136 m138 m140 g120 g121 g122 g123) yo_X10_image wM_L_157 ⟨⟨by decide, by decide⟩, show _ ≤ 60000 from Nat.le_trans hc (by decide), show _ ≤ 8922250 from Nat.le_trans hs (by decide)⟩ (x_rv C hTH102 (ci := 10) rfl gbH102 rg_112) rfl hl.1 rfl (Nat.le_of_ble_eq_true rfl) dL_law_1479 hSH102 (AE_new hNH102 hSH102.1) (fun vH182 H182 locsH182 pH182 zH182 kH182 hSH182 => ?_)
        obtain ⟨x183, x184, x185, x186, x187, x188, x189, x190, hvH182, bx183, ex184, ex185, ex186, ex187, ex188, ex189, ex190, hrH182, m191, m192, m193, m194, m195, m196, m197, m198, m199, m200, m201, m202, m203, m204, m205, m206, m207, m208, m209, m210, m211, m212, m213, m214, m215, m216, m217, m218, m219, m220, m221, m222, m223, m224, m225, g226, g227, g228, g229, mf230, m231, m232, m233, m234, m235, m236, m237, m238, m239, m240, m241, m242, m243, m244, m245, m246, m247, m248, m249, m250, m251, m252, m253, m254, m255, m256, m257, m258, m259, m260, m261, m262, m263, m264, m265, m266, m267, m268, m269, m270, m271, m272, m273, m274, m275, m276, m277, m278, m279, m280, m281, m282, m283, m284, m285, m286, m287, m288, m289, m290, m291, m292, m293, m294, m295, m296, m297, m298, m299, m300, m301, m302, m303, m304, m305, m306, m307, m308, m309, m310, m311, m312, m313, m314, m315, m316, m317, m318, m319, m320, m321, m322, m323, m324, m325, m326, m327, m328, m329, m330, m331, m332, m333, m334, m335, hTH182⟩ := pH182
        subst hvH182
        have f336 : ∀ j : Nat, fI H182 tq j = fI H tq j := fun j => (fI_kept (x_lt hTH102 kH182 gtqH102 (by decide))).trans (f124 j)
        have f337 : ∀ j : Nat, fI H182 uq j = fI H uq j := fun j => (fI_kept (x_lt hTH102 kH182 guqH102 (by decide))).trans (f125 j)
        have m338 := (m126).trans (fR_kept (x_lt hTH102 kH182 gaH102 (by decide))).symm
        have m339 := (m127).trans (fI_kept (x_lt hTH102 kH182 gaH102 (by decide))).symm
        have m340 := (m129).trans (fI_kept (x_lt hTH102 kH182 gwH102 (by decide))).symm
        have m341 := (m131).trans (fI_kept (x_lt hTH102 kH182 gwH102 (by decide))).symm
        have m342 := (m133).trans (fI_kept (x_lt hTH102 kH182 gwH102 (by decide))).symm
        have m343 := (m135).trans (fI_kept (x_lt hTH102 kH182 gwH102 (by decide))).symm
        have m344 := (m137).trans (fI_kept (x_lt hTH102 kH182 gwH102 (by decide))).symm
        have m345 := (m139).trans (fI_kept (x_lt hTH102 kH182 gwH102 (by decide))).symm
        have m346 := (m141).trans (fR_kept (x_lt hTH102 kH182 gaH102 (by decide))).symm
        have m347 := (fV_kept (x_lt hTH102 kH182 gaH102 (by decide))).trans m144
        have m348 := (m128).trans (MF.i mf230 (k := 18) (by decide) (by decide)).symm
        have m349 := (m142).trans (MF.r mf230 (k := 17) (by decide) (by decide)).symm
        have m350 := (m145).trans (MF.r mf230 (k := 73) (by decide) (by decide)).symm
        have m351 := (eq148).trans (MF.r mf230 (k := 4) (by decide) (by decide)).symm
        have m352 := (eq149).trans (MF.r mf230 (k := 5) (by decide) (by decide)).symm
        have m353 := (eq150).trans (MF.r mf230 (k := 6) (by decide) (by decide)).symm
        have m354 := (eq151).trans (MF.r mf230 (k := 7) (by decide) (by decide)).symm
        have m355 := (eq152).trans (MF.r mf230 (k := 8) (by decide) (by decide)).symm
        have m356 := (eq153).trans (MF.r mf230 (k := 9) (by decide) (by decide)).symm
        have m357 := (eq154).trans (MF.r mf230 (k := 10) (by decide) (by decide)).symm
        have m358 := (eq155).trans (MF.r mf230 (k := 11) (by decide) (by decide)).symm
        have m359 := (eq156).trans (MF.r mf230 (k := 12) (by decide) (by decide)).symm
        have m360 := (eq157).trans (MF.r mf230 (k := 13) (by decide) (by decide)).symm
        have m361 := (eq158).trans (MF.r mf230 (k := 14) (by decide) (by decide)).symm
        have m362 := (eq159).trans (MF.r mf230 (k := 15) (by decide) (by decide)).symm
        have m363 := (eq160).trans (MF.r mf230 (k := 16) (by decide) (by decide)).symm
        have m364 := (eq161).trans (MF.r mf230 (k := 24) (by decide) (by decide)).symm
        have m365 := (eq162).trans (MF.r mf230 (k := 25) (by decide) (by decide)).symm
        have m366 := (eq163).trans (MF.r mf230 (k := 26) (by decide) (by decide)).symm
        have m367 := (eq164).trans (MF.r mf230 (k := 27) (by decide) (by decide)).symm
        have m368 := (eq165).trans (MF.r mf230 (k := 28) (by decide) (by decide)).symm
        have m369 := (eq166).trans (MF.r mf230 (k := 29) (by decide) (by decide)).symm
        have m370 := (eq167).trans (MF.r mf230 (k := 30) (by decide) (by decide)).symm
        have m371 := (eq168).trans (MF.r mf230 (k := 31) (by decide) (by decide)).symm
        have m372 := (eq169).trans (MF.r mf230 (k := 32) (by decide) (by decide)).symm
        have m373 := (eq170).trans (MF.r mf230 (k := 33) (by decide) (by decide)).symm
        have m374 := (eq171).trans (MF.r mf230 (k := 50) (by decide) (by decide)).symm
        have m375 := (eq172).trans (MF.r mf230 (k := 51) (by decide) (by decide)).symm
        have m376 := (eq173).trans (MF.r mf230 (k := 52) (by decide) (by decide)).symm
        have m377 := (eq174).trans (MF.r mf230 (k := 53) (by decide) (by decide)).symm
        have m378 := (eq175).trans (MF.r mf230 (k := 54) (by decide) (by decide)).symm
        have m379 := (eq176).trans (MF.r mf230 (k := 60) (by decide) (by decide)).symm
        have m380 := (eq177).trans (MF.r mf230 (k := 61) (by decide) (by decide)).symm
        have m381 := (eq178).trans (MF.r mf230 (k := 63) (by decide) (by decide)).symm
        have m382 := (eq179).trans (MF.r mf230 (k := 64) (by decide) (by decide)).symm
        have m383 := (eq180).trans (MF.r mf230 (k := 66) (by decide) (by decide)).symm
        have m384 := (eq181).trans (MF.r mf230 (k := 67) (by decide) (by decide)).symm
        have bx184 := ty_fi (x := x184) (k := 70) ex184 hTH182 gbH102 rg_112 rfl
        have bx185 := ty_fi (x := x185) (k := 1) ex185 hTH182 gbH102 rg_112 rfl
        have bx186 := ty_fi (x := x186) (k := 2) ex186 hTH182 gbH102 rg_112 rfl
        have bx187 := ty_fi (x := x187) (k := 3) ex187 hTH182 gbH102 rg_112 rfl
        have bx188 := ty_fi (x := x188) (k := 59) ex188 hTH182 gbH102 rg_112 rfl
        have bx189 := ty_fi (x := x189) (k := 62) ex189 hTH182 gbH102 rg_112 rfl
        have bx190 := ty_fi (x := x190) (k := 65) ex190 hTH182 gbH102 rg_112 rfl
        replace m234 := HD.mk m234
        replace m235 := HD.mk m235
        replace m236 := HD.mk m236
        replace m237 := HD.mk m237
        replace m238 := HD.mk m238
        replace m239 := HD.mk m239
        replace m240 := HD.mk m240
        replace m241 := HD.mk m241
        replace m242 := HD.mk m242
        replace m243 := HD.mk m243
        replace m244 := HD.mk m244
        replace m245 := HD.mk m245
        replace m246 := HD.mk m246
        replace m247 := HD.mk m247
        replace m248 := HD.mk m248
        replace m249 := HD.mk m249
        replace m250 := HD.mk m250
        replace m251 := HD.mk m251
        replace m252 := HD.mk m252
        replace m253 := HD.mk m253
        replace m254 := HD.mk m254
        replace m255 := HD.mk m255
        replace m256 := HD.mk m256
        replace m257 := HD.mk m257
        replace m258 := HD.mk m258
        replace m259 := HD.mk m259
        replace m260 := HD.mk m260
        replace m261 := HD.mk m261
        replace m262 := HD.mk m262
        replace m263 := HD.mk m263
        replace m264 := HD.mk m264
        replace m265 := HD.mk m265
        replace m266 := HD.mk m266
        replace m267 := HD.mk m267
        replace m268 := HD.mk m268
        replace m269 := HD.mk m269
        replace m270 := HD.mk m270
        replace m271 := HD.mk m271
        replace m272 := HD.mk m272
        replace m273 := HD.mk m273
        replace m274 := HD.mk m274
        replace m275 := HD.mk m275
        replace m276 := HD.mk m276
        replace m277 := HD.mk m277
        replace m278 := HD.mk m278
        replace m279 := HD.mk m279
        replace m280 := HD.mk m280
        replace m281 := HD.mk m281
        replace m282 := HD.mk m282
        replace m283 := HD.mk m283
        replace m284 := HD.mk m284
        replace m285 := HD.mk m285
        replace m286 := HD.mk m286
        replace m287 := HD.mk m287
        replace m288 := HD.mk m288
        replace m289 := HD.mk m289
        replace m290 := HD.mk m290
        replace m291 := HD.mk m291
        replace m292 := HD.mk m292
        replace m293 := HD.mk m293
        replace m294 := HD.mk m294
        replace m295 := HD.mk m295
        replace m296 := HD.mk m296
        replace m297 := HD.mk m297
        replace m298 := HD.mk m298
        replace m299 := HD.mk m299
        replace m300 := HD.mk m300
        replace m301 := HD.mk m301
        replace m302 := HD.mk m302
        replace m303 := HD.mk m303
        replace m304 := HD.mk m304
        replace m305 := HD.mk m305
        replace m306 := HD.mk m306
        replace m307 := HD.mk m307
        replace m308 := HD.mk m308
        replace m309 := HD.mk m309
        replace m310 := HD.mk m310
        replace m311 := HD.mk m311
        replace m312 := HD.mk m312
        replace m313 := HD.mk m313
        replace m314 := HD.mk m314
        replace m315 := HD.mk m315
        replace m316 := HD.mk m316
        replace m317 := HD.mk m317
        replace m318 := HD.mk m318
        replace m319 := HD.mk m319
        replace m320 := HD.mk m320
        replace m321 := HD.mk m321
        replace m322 := HD.mk m322
        replace m323 := HD.mk m323
        replace m324 := HD.mk m324
        replace m325 := HD.mk m325
        replace m326 := HD.mk m326
        replace m327 := HD.mk m327
        replace m328 := HD.mk m328
        replace m329 := HD.mk m329
        replace m330 := HD.mk m330
        replace m331 := HD.mk m331
        replace m332 := HD.mk m332
        replace m333 := HD.mk m333
        replace m334 := HD.mk m334
        replace m335 := HD.mk m335
        refine W.eq (g2 := F0 m 1482 ls [.int x183]) rfl ?_
        have k1_ : ∀ k : Nat, (4 ≤ k ∧ k ≤ 13) ∨ (24 ≤ k ∧ k ≤ 33) → ∀ j : Nat, fI H182 (fR H102 b (K.1.2 10 k)) j = fI H102 (fR H102 b (K.1.2 10 k)) j := ZRO.row (f := fun k => fR H102 b (K.1.2 10 k)) (P := fun q => ∀ j : Nat, fI H182 q j = fI H102 q j) ⟨(eq148).symm, (eq149).symm, (eq150).symm, (eq151).symm, (eq152).symm, (eq153).symm, (eq154).symm, (eq155).symm, (eq156).symm, (eq157).symm, (eq161).symm, (eq162).symm, (eq163).symm, (eq164).symm, (eq165).symm, (eq166).symm, (eq167).symm, (eq168).symm, (eq169).symm, (eq170).symm⟩ ((HD.out m236) (by omega)) ((HD.out m239) (by omega)) ((HD.out m242) (by omega)) ((HD.out m245) (by omega)) ((HD.out m248) (by omega)) ((HD.out m251) (by omega)) ((HD.out m254) (by omega)) ((HD.out m257) (by omega)) ((HD.out m260) (by omega)) ((HD.out m263) (by omega)) ((HD.out m275) (by omega)) ((HD.out m278) (by omega)) ((HD.out m281) (by omega)) ((HD.out m284) (by omega)) ((HD.out m287) (by omega)) ((HD.out m290) (by omega)) ((HD.out m293) (by omega)) ((HD.out m296) (by omega)) ((HD.out m299) (by omega)) ((HD.out m302) (by omega))
        have re385 : RE K H182 w b s1.toInt := RE.refg re146 hTH102 gwH102 (fun k hk => MF.r mf230 (by omega) (by intro z; simp only [List.mem_cons, List.not_mem_nil, or_false] at z; omega)) k1_ (fun q t hq ht => x_lt hTH102 kH182 hq (by first | exact nmr ht (by decide) | exact nmo ht (by decide) | exact nme ht (by decide) | exact nmq ht (by decide) | decide | (intro z; simp only [List.mem_cons, List.not_mem_nil, or_false] at z <;> omega) | omega))
        refine lv_pop hx hb dL_law_1482 rfl ?_
        refine lv_goto (tgt := 1509) hx hb dL_law_1483 (by decide) ?_
        exact nx G104 H182 locsH182 _ _ ls ⟨hTH182, hNH102, gaH102, gbH102, g226, g227, g228, g229, ⟨(by rw [← m339, ← m348]; exact rt), (by rw [← m338, ← m340, ← ex185]; omega), (by rw [← m338, ← m341, ← ex186]; omega), (by rw [← m338, ← m342, ← ex187]; omega), (by rw [← m338, ← m343, ← ex188]; omega), (by rw [← m338, ← m344, ← ex189]; omega), (by rw [← m338, ← m345, ← ex190]; omega)⟩, Or.inl ⟨m347, (by rw [← ex184]; omega)⟩, (by unfold TB; rw [← m346, ← m349, ← m348]; exact TBR.of htr f336 f337 (by omega)), (by unfold RELE; rw [← m338, ← ex185, ← m342]; exact ⟨RE.cast re385 (by omega), by omega, by omega⟩), hSH182⟩ hl ⟨hc, hs, fun _ => ⟨hc0, hs0⟩⟩
      · skip
        exact absurd c1453 c1471
    · skip
      refine lv_iconst (v := 1) hx hb dL_law_1456 (by decide) ?_
      refine lv_goto (tgt := 1461) hx hb dL_law_1457 (by decide) ?_
      refine x_V (As := [.int 1]) (rest := []) C (a_X9_image_e1n l K G H (s1) (s4) (s5) (s10) (s13) (s16) (ta)  hT ga gw ew es1 es4 es5 es10 es13 es16 eta kn  gtq etq) yo_X9_image wM_L_153 ⟨⟨by decide, by decide⟩, show _ ≤ 60000 from Nat.le_trans (Nat.add_le_add_right hc0 434) (by decide), show _ ≤ 8922250 from Nat.le_trans (Nat.add_le_add_right hs0 13027) (by decide)⟩ (x_rv C hT (ci := 9) rfl ga rg_68) rfl hl.1 rfl (Nat.le_of_ble_eq_true rfl) dL_law_1461 hS (AE_new hN hS.1) (fun vH386 H386 locsH386 pH386 zH386 kH386 hSH386 => ?_)
      obtain ⟨x387, hvH386, bx387, G388, mH386, hTH386, m396, m397, m398, q395, m399, gq395, m400, m389, m390, m391, m392, m393, m394, m402⟩ := pH386
      subst hvH386
      have g404 : CG (avw K H386 b) := CG.congr (fun k hk j => av_eff hT kH386 gb (by decide) (CG_eff [68, 34, 35, 36, 37, 38, 39, 40, 41, 42, 43, 44, 46, 48, 49, 50, 51, 52, 53, 54, 55, 56, 57, 58, 62, 63, 64, 65, 66, 67] (by decide) k hk)) cg
      have g405 : TU (avw K H386 b) (svw K H386 b) := TU.congr (fun k hk j => av_eff hT kH386 gb (by decide) (TU_eff [68, 34, 35, 36, 37, 38, 39, 40, 41, 42, 43, 44, 46, 48, 49, 50, 51, 52, 53, 54, 55, 56, 57, 58, 62, 63, 64, 65, 66, 67] (by decide) k hk)) (fun k hk => sv_eff hT kH386 gb (by decide)) tu
      have g406 : WD (avw K H386 b) := WD.congr (fun k hk j => av_eff hT kH386 gb (by decide) (WD_eff [68, 34, 35, 36, 37, 38, 39, 40, 41, 42, 43, 44, 46, 48, 49, 50, 51, 52, 53, 54, 55, 56, 57, 58, 62, 63, 64, 65, 66, 67] (by decide) k hk)) wd
      have g407 : IM (avw K H386 b) := IM.congr (fun k hk j => av_eff hT kH386 gb (by decide) (IM_eff [68, 34, 35, 36, 37, 38, 39, 40, 41, 42, 43, 44, 46, 48, 49, 50, 51, 52, 53, 54, 55, 56, 57, 58, 62, 63, 64, 65, 66, 67] (by decide) k hk)) im
      have f408 : ∀ j : Nat, fI H386 tq j = fI H tq j := fun j => (fI_kept (x_lt hT kH386 gtq (by decide))).trans (ft0 j)
      have f409 : ∀ j : Nat, fI H386 uq j = fI H uq j := fun j => (fI_kept (x_lt hT kH386 guq (by decide))).trans (fu0 j)
      have m410 := (etb).trans (fI_kept (x_lt hT kH386 gb (by decide))).symm
      have m411 := (es1).trans (fI_kept (x_lt hT kH386 gw (by decide))).symm
      have m412 := (ey1).trans (fI_kept (x_lt hT kH386 gb (by decide))).symm
      have m413 := (es4).trans (fI_kept (x_lt hT kH386 gw (by decide))).symm
      have m414 := (ey4).trans (fI_kept (x_lt hT kH386 gb (by decide))).symm
      have m415 := (es5).trans (fI_kept (x_lt hT kH386 gw (by decide))).symm
      have m416 := (ey5).trans (fI_kept (x_lt hT kH386 gb (by decide))).symm
      have m417 := (es10).trans (fI_kept (x_lt hT kH386 gw (by decide))).symm
      have m418 := (ey10).trans (fI_kept (x_lt hT kH386 gb (by decide))).symm
      have m419 := (es13).trans (fI_kept (x_lt hT kH386 gw (by decide))).symm
      have m420 := (ey13).trans (fI_kept (x_lt hT kH386 gb (by decide))).symm
      have m421 := (es16).trans (fI_kept (x_lt hT kH386 gw (by decide))).symm
      have m422 := (ey16).trans (fI_kept (x_lt hT kH386 gb (by decide))).symm
      have m423 := (euq).trans (fR_kept (x_lt hT kH386 gb (by decide))).symm
      have m424 := (ehi).trans (fI_kept (x_lt hT kH386 gb (by decide))).symm
      have m425 := (eiq).trans (fR_kept (x_lt hT kH386 gb (by decide))).symm
      have gaH386 := (mH386 a (hT.lt ga)).trans ga
      have gbH386 := (mH386 b (hT.lt gb)).trans gb
      have gwH386 := (mH386 w (hT.lt gw)).trans gw
      have gtqH386 := (mH386 tq (hT.lt gtq)).trans gtq
      have guqH386 := (mH386 uq (hT.lt guq)).trans guq
      have giqH386 := (mH386 iq (hT.lt giq)).trans giq
      have hNH386 : ∀ q, q < s.heap.size → G388 q = none := fun q hq => (mH386 q (Nat.lt_of_lt_of_le hq hS.1)).trans (hN q hq)
      obtain ⟨x426, ex426⟩ : ∃ z : Int32, z = fI H386 q395 (K.1.2 8 1) := ⟨_, rfl⟩
      rw [← ex426] at m389
      obtain ⟨x427, ex427⟩ : ∃ z : Int32, z = fI H386 q395 (K.1.2 8 4) := ⟨_, rfl⟩
      rw [← ex427] at m390
      obtain ⟨x428, ex428⟩ : ∃ z : Int32, z = fI H386 q395 (K.1.2 8 5) := ⟨_, rfl⟩
      rw [← ex428] at m391
      obtain ⟨x429, ex429⟩ : ∃ z : Int32, z = fI H386 q395 (K.1.2 8 10) := ⟨_, rfl⟩
      rw [← ex429] at m392
      obtain ⟨x430, ex430⟩ : ∃ z : Int32, z = fI H386 q395 (K.1.2 8 13) := ⟨_, rfl⟩
      rw [← ex430] at m393
      obtain ⟨x431, ex431⟩ : ∃ z : Int32, z = fI H386 q395 (K.1.2 8 16) := ⟨_, rfl⟩
      rw [← ex431] at m394
      refine W.eq (g2 := F0 m 1464 ls [.int x387]) rfl ?_
      have re432 : RE K H386 w b s1.toInt := RE.cls re hT gw gb (fun q t hq ht => x_lt hT kH386 hq (by first | exact nmr ht (by decide) | exact nmo ht (by decide) | exact nme ht (by decide) | exact nmq ht (by decide) | decide | (intro z; simp only [List.mem_cons, List.not_mem_nil, or_false] at z <;> omega) | omega))
      have rc_ : RE K H386 q395 b s1.toInt := RE.cop re432 m400 m402
      refine lv_pop hx hb dL_law_1464 rfl ?_
      refine lv_aload_n hx hb dL_law_1465 rfl (lv_at hl 1 rfl) ?_
      refine lv_aload_n hx hb dL_law_1466 rfl (lv_at hl 3 rfl) ?_
      refine lv_iload_n hx hb dL_law_1467 rfl (lv_at hl 0 rfl) ?_
      refine lv_iconst (v := 1) hx hb dL_law_1468 (by decide) ?_
      refine lv_iadd hx hb dL_law_1469 ?_
      refine lv_topi (fun x433 ex433 => ?_)
      obtain ⟨tx433, ejx433, evx433⟩ := lw_ix (k := 1) ex433 hI hL rfl (by decide)
      clear tx433
      refine va_sld hx hb hX hbl (Nat.not_le.mpr hbl) hSH386 (vp_in_iff.mpr evx433) dL_law_1470 ?_
      refine W.eq (g2 := F0 m 1471 ls [.int (xs (i.toNatClampNeg + 1)), .ref b]) (congrArg (fun z => F0 m 1471 ls [.int (xs z), .ref b]) ejx433) ?_
      refine lv_if_eq (tgt := 1478) hx hb dL_law_1471 (by decide) (fun c1471 => ?_) (fun c1471 => ?_)
      · skip
        exact absurd c1471 c1453
      · skip
        refine lv_iconst (v := 1) hx hb dL_law_1474 (by decide) ?_
        refine lv_goto (tgt := 1479) hx hb dL_law_1475 (by decide) ?_
        obtain ⟨q434, eq434⟩ : ∃ z : Nat, @Eq Ad z (fR H386 b (K.1.2 10 4)) := ⟨_, rfl⟩
        have gq434 := ty_fr (q := q434) (k := 4) (u := 113) eq434 hTH386 gbH386 rg_112 rfl
        obtain ⟨q435, eq435⟩ : ∃ z : Nat, @Eq Ad z (fR H386 b (K.1.2 10 5)) := ⟨_, rfl⟩
        have gq435 := ty_fr (q := q435) (k := 5) (u := 114) eq435 hTH386 gbH386 rg_112 rfl
        obtain ⟨q436, eq436⟩ : ∃ z : Nat, @Eq Ad z (fR H386 b (K.1.2 10 6)) := ⟨_, rfl⟩
        have gq436 := ty_fr (q := q436) (k := 6) (u := 115) eq436 hTH386 gbH386 rg_112 rfl
        obtain ⟨q437, eq437⟩ : ∃ z : Nat, @Eq Ad z (fR H386 b (K.1.2 10 7)) := ⟨_, rfl⟩
        have gq437 := ty_fr (q := q437) (k := 7) (u := 116) eq437 hTH386 gbH386 rg_112 rfl
        obtain ⟨q438, eq438⟩ : ∃ z : Nat, @Eq Ad z (fR H386 b (K.1.2 10 8)) := ⟨_, rfl⟩
        have gq438 := ty_fr (q := q438) (k := 8) (u := 117) eq438 hTH386 gbH386 rg_112 rfl
        obtain ⟨q439, eq439⟩ : ∃ z : Nat, @Eq Ad z (fR H386 b (K.1.2 10 9)) := ⟨_, rfl⟩
        have gq439 := ty_fr (q := q439) (k := 9) (u := 118) eq439 hTH386 gbH386 rg_112 rfl
        obtain ⟨q440, eq440⟩ : ∃ z : Nat, @Eq Ad z (fR H386 b (K.1.2 10 10)) := ⟨_, rfl⟩
        have gq440 := ty_fr (q := q440) (k := 10) (u := 119) eq440 hTH386 gbH386 rg_112 rfl
        obtain ⟨q441, eq441⟩ : ∃ z : Nat, @Eq Ad z (fR H386 b (K.1.2 10 11)) := ⟨_, rfl⟩
        have gq441 := ty_fr (q := q441) (k := 11) (u := 120) eq441 hTH386 gbH386 rg_112 rfl
        obtain ⟨q442, eq442⟩ : ∃ z : Nat, @Eq Ad z (fR H386 b (K.1.2 10 12)) := ⟨_, rfl⟩
        have gq442 := ty_fr (q := q442) (k := 12) (u := 121) eq442 hTH386 gbH386 rg_112 rfl
        obtain ⟨q443, eq443⟩ : ∃ z : Nat, @Eq Ad z (fR H386 b (K.1.2 10 13)) := ⟨_, rfl⟩
        have gq443 := ty_fr (q := q443) (k := 13) (u := 122) eq443 hTH386 gbH386 rg_112 rfl
        obtain ⟨q444, eq444⟩ : ∃ z : Nat, @Eq Ad z (fR H386 b (K.1.2 10 14)) := ⟨_, rfl⟩
        have gq444 := ty_fr (q := q444) (k := 14) (u := 123) eq444 hTH386 gbH386 rg_112 rfl
        obtain ⟨q445, eq445⟩ : ∃ z : Nat, @Eq Ad z (fR H386 b (K.1.2 10 15)) := ⟨_, rfl⟩
        have gq445 := ty_fr (q := q445) (k := 15) (u := 124) eq445 hTH386 gbH386 rg_112 rfl
        obtain ⟨q446, eq446⟩ : ∃ z : Nat, @Eq Ad z (fR H386 b (K.1.2 10 16)) := ⟨_, rfl⟩
        have gq446 := ty_fr (q := q446) (k := 16) (u := 125) eq446 hTH386 gbH386 rg_112 rfl
        obtain ⟨q447, eq447⟩ : ∃ z : Nat, @Eq Ad z (fR H386 b (K.1.2 10 24)) := ⟨_, rfl⟩
        have gq447 := ty_fr (q := q447) (k := 24) (u := 128) eq447 hTH386 gbH386 rg_112 rfl
        obtain ⟨q448, eq448⟩ : ∃ z : Nat, @Eq Ad z (fR H386 b (K.1.2 10 25)) := ⟨_, rfl⟩
        have gq448 := ty_fr (q := q448) (k := 25) (u := 129) eq448 hTH386 gbH386 rg_112 rfl
        obtain ⟨q449, eq449⟩ : ∃ z : Nat, @Eq Ad z (fR H386 b (K.1.2 10 26)) := ⟨_, rfl⟩
        have gq449 := ty_fr (q := q449) (k := 26) (u := 130) eq449 hTH386 gbH386 rg_112 rfl
        obtain ⟨q450, eq450⟩ : ∃ z : Nat, @Eq Ad z (fR H386 b (K.1.2 10 27)) := ⟨_, rfl⟩
        have gq450 := ty_fr (q := q450) (k := 27) (u := 131) eq450 hTH386 gbH386 rg_112 rfl
        obtain ⟨q451, eq451⟩ : ∃ z : Nat, @Eq Ad z (fR H386 b (K.1.2 10 28)) := ⟨_, rfl⟩
        have gq451 := ty_fr (q := q451) (k := 28) (u := 132) eq451 hTH386 gbH386 rg_112 rfl
        obtain ⟨q452, eq452⟩ : ∃ z : Nat, @Eq Ad z (fR H386 b (K.1.2 10 29)) := ⟨_, rfl⟩
        have gq452 := ty_fr (q := q452) (k := 29) (u := 133) eq452 hTH386 gbH386 rg_112 rfl
        obtain ⟨q453, eq453⟩ : ∃ z : Nat, @Eq Ad z (fR H386 b (K.1.2 10 30)) := ⟨_, rfl⟩
        have gq453 := ty_fr (q := q453) (k := 30) (u := 134) eq453 hTH386 gbH386 rg_112 rfl
        obtain ⟨q454, eq454⟩ : ∃ z : Nat, @Eq Ad z (fR H386 b (K.1.2 10 31)) := ⟨_, rfl⟩
        have gq454 := ty_fr (q := q454) (k := 31) (u := 135) eq454 hTH386 gbH386 rg_112 rfl
        obtain ⟨q455, eq455⟩ : ∃ z : Nat, @Eq Ad z (fR H386 b (K.1.2 10 32)) := ⟨_, rfl⟩
        have gq455 := ty_fr (q := q455) (k := 32) (u := 136) eq455 hTH386 gbH386 rg_112 rfl
        obtain ⟨q456, eq456⟩ : ∃ z : Nat, @Eq Ad z (fR H386 b (K.1.2 10 33)) := ⟨_, rfl⟩
        have gq456 := ty_fr (q := q456) (k := 33) (u := 137) eq456 hTH386 gbH386 rg_112 rfl
        obtain ⟨q457, eq457⟩ : ∃ z : Nat, @Eq Ad z (fR H386 b (K.1.2 10 50)) := ⟨_, rfl⟩
        have gq457 := ty_fr (q := q457) (k := 50) (u := 146) eq457 hTH386 gbH386 rg_112 rfl
        obtain ⟨q458, eq458⟩ : ∃ z : Nat, @Eq Ad z (fR H386 b (K.1.2 10 51)) := ⟨_, rfl⟩
        have gq458 := ty_fr (q := q458) (k := 51) (u := 147) eq458 hTH386 gbH386 rg_112 rfl
        obtain ⟨q459, eq459⟩ : ∃ z : Nat, @Eq Ad z (fR H386 b (K.1.2 10 52)) := ⟨_, rfl⟩
        have gq459 := ty_fr (q := q459) (k := 52) (u := 148) eq459 hTH386 gbH386 rg_112 rfl
        obtain ⟨q460, eq460⟩ : ∃ z : Nat, @Eq Ad z (fR H386 b (K.1.2 10 53)) := ⟨_, rfl⟩
        have gq460 := ty_fr (q := q460) (k := 53) (u := 149) eq460 hTH386 gbH386 rg_112 rfl
        obtain ⟨q461, eq461⟩ : ∃ z : Nat, @Eq Ad z (fR H386 b (K.1.2 10 54)) := ⟨_, rfl⟩
        have gq461 := ty_fr (q := q461) (k := 54) (u := 150) eq461 hTH386 gbH386 rg_112 rfl
        obtain ⟨q462, eq462⟩ : ∃ z : Nat, @Eq Ad z (fR H386 b (K.1.2 10 60)) := ⟨_, rfl⟩
        have gq462 := ty_fr (q := q462) (k := 60) (u := 154) eq462 hTH386 gbH386 rg_112 rfl
        obtain ⟨q463, eq463⟩ : ∃ z : Nat, @Eq Ad z (fR H386 b (K.1.2 10 61)) := ⟨_, rfl⟩
        have gq463 := ty_fr (q := q463) (k := 61) (u := 155) eq463 hTH386 gbH386 rg_112 rfl
        obtain ⟨q464, eq464⟩ : ∃ z : Nat, @Eq Ad z (fR H386 b (K.1.2 10 63)) := ⟨_, rfl⟩
        have gq464 := ty_fr (q := q464) (k := 63) (u := 156) eq464 hTH386 gbH386 rg_112 rfl
        obtain ⟨q465, eq465⟩ : ∃ z : Nat, @Eq Ad z (fR H386 b (K.1.2 10 64)) := ⟨_, rfl⟩
        have gq465 := ty_fr (q := q465) (k := 64) (u := 157) eq465 hTH386 gbH386 rg_112 rfl
        obtain ⟨q466, eq466⟩ : ∃ z : Nat, @Eq Ad z (fR H386 b (K.1.2 10 66)) := ⟨_, rfl⟩
        have gq466 := ty_fr (q := q466) (k := 66) (u := 158) eq466 hTH386 gbH386 rg_112 rfl
        obtain ⟨q467, eq467⟩ : ∃ z : Nat, @Eq Ad z (fR H386 b (K.1.2 10 67)) := ⟨_, rfl⟩
        have gq467 := ty_fr (q := q467) (k := 67) (u := 159) eq467 hTH386 gbH386 rg_112 rfl
        refine x_V (As := [.int 1]) (rest := []) C (a_X10_image_g l K G388 H386 (1) (hi) (y1) (y4) (y5) (y10) (y13) (y16) hTH386 gbH386 (by decide) giqH386 m425 gq434 eq434 gq435 eq435 gq436 eq436 gq437 eq437 gq438 eq438 gq439 eq439 gq440 eq440 gq441 eq441 gq442 eq442 gq443 eq443 gq444 eq444 gq445 eq445 gq446 eq446 gq447 eq447 gq448 eq448 gq449 eq449 gq450 eq450 gq451 eq451 gq452 eq452 gq453 eq453 gq454 eq454 gq455 eq455 gq456 eq456 gq457 eq457 gq458 eq458 gq459 eq459 gq460 eq460 gq461 eq461 gq462 eq462 gq463 eq463 gq464 eq464 gq465 eq465 gq466 eq466 gq467 eq467 m424 m412 m414 m416 m418 m420 m422 g404 g405 g406 g407) yo_X10_image wM_L_157 ⟨⟨by decide, by decide⟩, show _ ≤ 60000 from Nat.le_trans (Nat.add_le_add_right hc0 434) (by decide), show _ ≤ 8922250 from Nat.le_trans (Nat.add_le_add_right hs0 13027) (by decide)⟩ (x_rv C hTH386 (ci := 10) rfl gbH386 rg_112) rfl hl.1 rfl (Nat.le_of_ble_eq_true rfl) dL_law_1479 hSH386 (AE_new hNH386 hSH386.1) (fun vH468 H468 locsH468 pH468 zH468 kH468 hSH468 => ?_)
        obtain ⟨x469, x470, x471, x472, x473, x474, x475, x476, hvH468, bx469, ex470, ex471, ex472, ex473, ex474, ex475, ex476, hrH468, m477, m478, m479, m480, m481, m482, m483, m484, m485, m486, m487, m488, m489, m490, m491, m492, m493, m494, m495, m496, m497, m498, m499, m500, m501, m502, m503, m504, m505, m506, m507, m508, m509, m510, m511, g512, g513, g514, g515, mf516, m517, m518, m519, m520, m521, m522, m523, m524, m525, m526, m527, m528, m529, m530, m531, m532, m533, m534, m535, m536, m537, m538, m539, m540, m541, m542, m543, m544, m545, m546, m547, m548, m549, m550, m551, m552, m553, m554, m555, m556, m557, m558, m559, m560, m561, m562, m563, m564, m565, m566, m567, m568, m569, m570, m571, m572, m573, m574, m575, m576, m577, m578, m579, m580, m581, m582, m583, m584, m585, m586, m587, m588, m589, m590, m591, m592, m593, m594, m595, m596, m597, m598, m599, m600, m601, m602, m603, m604, m605, m606, m607, m608, m609, m610, m611, m612, m613, m614, m615, m616, m617, m618, m619, m620, m621, hTH468⟩ := pH468
        subst hvH468
        have f622 : ∀ j : Nat, fI H468 tq j = fI H tq j := fun j => (fI_kept (x_lt hTH386 kH468 gtqH386 (by decide))).trans (f408 j)
        have f623 : ∀ j : Nat, fI H468 uq j = fI H uq j := fun j => (fI_kept (x_lt hTH386 kH468 guqH386 (by decide))).trans (f409 j)
        have m624 := (m411).trans (fI_kept (x_lt hTH386 kH468 gwH386 (by decide))).symm
        have m625 := (m413).trans (fI_kept (x_lt hTH386 kH468 gwH386 (by decide))).symm
        have m626 := (m415).trans (fI_kept (x_lt hTH386 kH468 gwH386 (by decide))).symm
        have m627 := (m417).trans (fI_kept (x_lt hTH386 kH468 gwH386 (by decide))).symm
        have m628 := (m419).trans (fI_kept (x_lt hTH386 kH468 gwH386 (by decide))).symm
        have m629 := (m421).trans (fI_kept (x_lt hTH386 kH468 gwH386 (by decide))).symm
        have m630 := (m396).trans (fR_kept (x_lt hTH386 kH468 gaH386 (by decide))).symm
        have m631 := (m397).trans (fI_kept (x_lt hTH386 kH468 gaH386 (by decide))).symm
        have m632 := (m398).trans (fR_kept (x_lt hTH386 kH468 gaH386 (by decide))).symm
        have m633 := (ex426).trans (fI_kept (x_lt hTH386 kH468 gq395 (by decide))).symm
        have m634 := (ex427).trans (fI_kept (x_lt hTH386 kH468 gq395 (by decide))).symm
        have m635 := (ex428).trans (fI_kept (x_lt hTH386 kH468 gq395 (by decide))).symm
        have m636 := (ex429).trans (fI_kept (x_lt hTH386 kH468 gq395 (by decide))).symm
        have m637 := (ex430).trans (fI_kept (x_lt hTH386 kH468 gq395 (by decide))).symm
        have m638 := (ex431).trans (fI_kept (x_lt hTH386 kH468 gq395 (by decide))).symm
        have m639 := (fV_kept (x_lt hTH386 kH468 gaH386 (by decide))).trans m399
        have m640 := (m410).trans (MF.i mf516 (k := 18) (by decide) (by decide)).symm
        have m641 := (m423).trans (MF.r mf516 (k := 17) (by decide) (by decide)).symm
        have m642 := (m425).trans (MF.r mf516 (k := 73) (by decide) (by decide)).symm
        have m643 := (eq434).trans (MF.r mf516 (k := 4) (by decide) (by decide)).symm
        have m644 := (eq435).trans (MF.r mf516 (k := 5) (by decide) (by decide)).symm
        have m645 := (eq436).trans (MF.r mf516 (k := 6) (by decide) (by decide)).symm
        have m646 := (eq437).trans (MF.r mf516 (k := 7) (by decide) (by decide)).symm
        have m647 := (eq438).trans (MF.r mf516 (k := 8) (by decide) (by decide)).symm
        have m648 := (eq439).trans (MF.r mf516 (k := 9) (by decide) (by decide)).symm
        have m649 := (eq440).trans (MF.r mf516 (k := 10) (by decide) (by decide)).symm
        have m650 := (eq441).trans (MF.r mf516 (k := 11) (by decide) (by decide)).symm
        have m651 := (eq442).trans (MF.r mf516 (k := 12) (by decide) (by decide)).symm
        have m652 := (eq443).trans (MF.r mf516 (k := 13) (by decide) (by decide)).symm
        have m653 := (eq444).trans (MF.r mf516 (k := 14) (by decide) (by decide)).symm
        have m654 := (eq445).trans (MF.r mf516 (k := 15) (by decide) (by decide)).symm
        have m655 := (eq446).trans (MF.r mf516 (k := 16) (by decide) (by decide)).symm
        have m656 := (eq447).trans (MF.r mf516 (k := 24) (by decide) (by decide)).symm
        have m657 := (eq448).trans (MF.r mf516 (k := 25) (by decide) (by decide)).symm
        have m658 := (eq449).trans (MF.r mf516 (k := 26) (by decide) (by decide)).symm
        have m659 := (eq450).trans (MF.r mf516 (k := 27) (by decide) (by decide)).symm
        have m660 := (eq451).trans (MF.r mf516 (k := 28) (by decide) (by decide)).symm
        have m661 := (eq452).trans (MF.r mf516 (k := 29) (by decide) (by decide)).symm
        have m662 := (eq453).trans (MF.r mf516 (k := 30) (by decide) (by decide)).symm
        have m663 := (eq454).trans (MF.r mf516 (k := 31) (by decide) (by decide)).symm
        have m664 := (eq455).trans (MF.r mf516 (k := 32) (by decide) (by decide)).symm
        have m665 := (eq456).trans (MF.r mf516 (k := 33) (by decide) (by decide)).symm
        have m666 := (eq457).trans (MF.r mf516 (k := 50) (by decide) (by decide)).symm
        have m667 := (eq458).trans (MF.r mf516 (k := 51) (by decide) (by decide)).symm
        have m668 := (eq459).trans (MF.r mf516 (k := 52) (by decide) (by decide)).symm
        have m669 := (eq460).trans (MF.r mf516 (k := 53) (by decide) (by decide)).symm
        have m670 := (eq461).trans (MF.r mf516 (k := 54) (by decide) (by decide)).symm
        have m671 := (eq462).trans (MF.r mf516 (k := 60) (by decide) (by decide)).symm
        have m672 := (eq463).trans (MF.r mf516 (k := 61) (by decide) (by decide)).symm
        have m673 := (eq464).trans (MF.r mf516 (k := 63) (by decide) (by decide)).symm
        have m674 := (eq465).trans (MF.r mf516 (k := 64) (by decide) (by decide)).symm
        have m675 := (eq466).trans (MF.r mf516 (k := 66) (by decide) (by decide)).symm
        have m676 := (eq467).trans (MF.r mf516 (k := 67) (by decide) (by decide)).symm
        have bx470 := ty_fi (x := x470) (k := 70) ex470 hTH468 gbH386 rg_112 rfl
        have bx471 := ty_fi (x := x471) (k := 1) ex471 hTH468 gbH386 rg_112 rfl
        have bx472 := ty_fi (x := x472) (k := 2) ex472 hTH468 gbH386 rg_112 rfl
        have bx473 := ty_fi (x := x473) (k := 3) ex473 hTH468 gbH386 rg_112 rfl
        have bx474 := ty_fi (x := x474) (k := 59) ex474 hTH468 gbH386 rg_112 rfl
        have bx475 := ty_fi (x := x475) (k := 62) ex475 hTH468 gbH386 rg_112 rfl
        have bx476 := ty_fi (x := x476) (k := 65) ex476 hTH468 gbH386 rg_112 rfl
        replace m520 := HD.mk m520
        replace m521 := HD.mk m521
        replace m522 := HD.mk m522
        replace m523 := HD.mk m523
        replace m524 := HD.mk m524
        replace m525 := HD.mk m525
        replace m526 := HD.mk m526
        replace m527 := HD.mk m527
        replace m528 := HD.mk m528
        replace m529 := HD.mk m529
        replace m530 := HD.mk m530
        replace m531 := HD.mk m531
        replace m532 := HD.mk m532
        replace m533 := HD.mk m533
        replace m534 := HD.mk m534
        replace m535 := HD.mk m535
        replace m536 := HD.mk m536
        replace m537 := HD.mk m537
        replace m538 := HD.mk m538
        replace m539 := HD.mk m539
        replace m540 := HD.mk m540
        replace m541 := HD.mk m541
        replace m542 := HD.mk m542
        replace m543 := HD.mk m543
        replace m544 := HD.mk m544
        replace m545 := HD.mk m545
        replace m546 := HD.mk m546
        replace m547 := HD.mk m547
        replace m548 := HD.mk m548
        replace m549 := HD.mk m549
        replace m550 := HD.mk m550
        replace m551 := HD.mk m551
        replace m552 := HD.mk m552
        replace m553 := HD.mk m553
        replace m554 := HD.mk m554
        replace m555 := HD.mk m555
        replace m556 := HD.mk m556
        replace m557 := HD.mk m557
        replace m558 := HD.mk m558
        replace m559 := HD.mk m559
        replace m560 := HD.mk m560
        replace m561 := HD.mk m561
        replace m562 := HD.mk m562
        replace m563 := HD.mk m563
        replace m564 := HD.mk m564
        replace m565 := HD.mk m565
        replace m566 := HD.mk m566
        replace m567 := HD.mk m567
        replace m568 := HD.mk m568
        replace m569 := HD.mk m569
        replace m570 := HD.mk m570
        replace m571 := HD.mk m571
        replace m572 := HD.mk m572
        replace m573 := HD.mk m573
        replace m574 := HD.mk m574
        replace m575 := HD.mk m575
        replace m576 := HD.mk m576
        replace m577 := HD.mk m577
        replace m578 := HD.mk m578
        replace m579 := HD.mk m579
        replace m580 := HD.mk m580
        replace m581 := HD.mk m581
        replace m582 := HD.mk m582
        replace m583 := HD.mk m583
        replace m584 := HD.mk m584
        replace m585 := HD.mk m585
        replace m586 := HD.mk m586
        replace m587 := HD.mk m587
        replace m588 := HD.mk m588
        replace m589 := HD.mk m589
        replace m590 := HD.mk m590
        replace m591 := HD.mk m591
        replace m592 := HD.mk m592
        replace m593 := HD.mk m593
        replace m594 := HD.mk m594
        replace m595 := HD.mk m595
        replace m596 := HD.mk m596
        replace m597 := HD.mk m597
        replace m598 := HD.mk m598
        replace m599 := HD.mk m599
        replace m600 := HD.mk m600
        replace m601 := HD.mk m601
        replace m602 := HD.mk m602
        replace m603 := HD.mk m603
        replace m604 := HD.mk m604
        replace m605 := HD.mk m605
        replace m606 := HD.mk m606
        replace m607 := HD.mk m607
        replace m608 := HD.mk m608
        replace m609 := HD.mk m609
        replace m610 := HD.mk m610
        replace m611 := HD.mk m611
        replace m612 := HD.mk m612
        replace m613 := HD.mk m613
        replace m614 := HD.mk m614
        replace m615 := HD.mk m615
        replace m616 := HD.mk m616
        replace m617 := HD.mk m617
        replace m618 := HD.mk m618
        replace m619 := HD.mk m619
        replace m620 := HD.mk m620
        replace m621 := HD.mk m621
        refine W.eq (g2 := F0 m 1482 ls [.int x469]) rfl ?_
        obtain ⟨j677, j678, j679, j680, j681, j682⟩ := m517.resolve_left (by omega)
        obtain ⟨j683, j684, j685, j686, j687, j688⟩ := m518 (by decide)
        replace j683 := congrArg Int32.toInt j683
        replace j684 := congrArg Int32.toInt j684
        replace j685 := congrArg Int32.toInt j685
        replace j686 := congrArg Int32.toInt j686
        replace j687 := congrArg Int32.toInt j687
        replace j688 := congrArg Int32.toInt j688
        have ij677 : x471 = fI H468 iq ((0 : Int32).toNatClampNeg) := j677
        have ij678 : x472 = fI H468 iq ((1 : Int32).toNatClampNeg) := j678
        have ij679 : x473 = fI H468 iq ((2 : Int32).toNatClampNeg) := j679
        have ij680 : x474 = fI H468 iq ((3 : Int32).toNatClampNeg) := j680
        have ij681 : x475 = fI H468 iq ((4 : Int32).toNatClampNeg) := j681
        have ij682 : x476 = fI H468 iq ((5 : Int32).toNatClampNeg) := j682
        have k1_ : ∀ k : Nat, (4 ≤ k ∧ k ≤ 13) ∨ (24 ≤ k ∧ k ≤ 33) → ∀ j : Nat, fI H468 (fR H386 b (K.1.2 10 k)) j = fI H386 (fR H386 b (K.1.2 10 k)) j := ZRO.row (f := fun k => fR H386 b (K.1.2 10 k)) (P := fun q => ∀ j : Nat, fI H468 q j = fI H386 q j) ⟨(eq434).symm, (eq435).symm, (eq436).symm, (eq437).symm, (eq438).symm, (eq439).symm, (eq440).symm, (eq441).symm, (eq442).symm, (eq443).symm, (eq447).symm, (eq448).symm, (eq449).symm, (eq450).symm, (eq451).symm, (eq452).symm, (eq453).symm, (eq454).symm, (eq455).symm, (eq456).symm⟩ ((HD.out m521) (by decide)) ((HD.out m524) (by decide)) ((HD.out m527) (by decide)) ((HD.out m530) (by decide)) ((HD.out m533) (by decide)) ((HD.out m536) (by decide)) ((HD.out m539) (by decide)) ((HD.out m542) (by decide)) ((HD.out m545) (by decide)) ((HD.out m548) (by decide)) ((HD.out m560) (by decide)) ((HD.out m563) (by decide)) ((HD.out m566) (by decide)) ((HD.out m569) (by decide)) ((HD.out m572) (by decide)) ((HD.out m575) (by decide)) ((HD.out m578) (by decide)) ((HD.out m581) (by decide)) ((HD.out m584) (by decide)) ((HD.out m587) (by decide))
        have re689 : RE K H468 w b s1.toInt := RE.refg re432 hTH386 gwH386 (fun k hk => MF.r mf516 (by omega) (by intro z; simp only [List.mem_cons, List.not_mem_nil, or_false] at z; omega)) k1_ (fun q t hq ht => x_lt hTH386 kH468 hq (by first | exact nmr ht (by decide) | exact nmo ht (by decide) | exact nme ht (by decide) | exact nmq ht (by decide) | decide | (intro z; simp only [List.mem_cons, List.not_mem_nil, or_false] at z <;> omega) | omega))
        have imb_ : IMB K H468 b iq := IMB.of (by rw [← m478]; exact (HD.out m520).resolve_left (by omega)) (by rw [← m484]; exact (HD.out m538).resolve_left (by omega)) (by rw [← m487]; exact (HD.out m547).resolve_left (by omega)) (by rw [← m479]; exact (HD.out m523).resolve_left (by omega)) (by rw [← m480]; exact (HD.out m526).resolve_left (by omega)) (by rw [← m481]; exact (HD.out m529).resolve_left (by omega)) (by rw [← m482]; exact (HD.out m532).resolve_left (by omega)) (by rw [← m483]; exact (HD.out m535).resolve_left (by omega)) (by rw [← m485]; exact (HD.out m541).resolve_left (by omega)) (by rw [← m486]; exact (HD.out m544).resolve_left (by omega))
        have imt_ : IMT K H468 b iq := ⟨(by rw [← m491]; exact (HD.out m559).resolve_left (by omega)), (by rw [← m492]; exact (HD.out m562).resolve_left (by omega)), (by rw [← m493]; exact (HD.out m565).resolve_left (by omega)), (by rw [← m494]; exact (HD.out m568).resolve_left (by omega)), (by rw [← m495]; exact (HD.out m571).resolve_left (by omega)), (by rw [← m496]; exact (HD.out m574).resolve_left (by omega)), (by rw [← m497]; exact (HD.out m577).resolve_left (by omega)), (by rw [← m498]; exact (HD.out m580).resolve_left (by omega)), (by rw [← m499]; exact (HD.out m583).resolve_left (by omega)), (by rw [← m500]; exact (HD.out m586).resolve_left (by omega))⟩
        have rk690 : RKI K H468 q395 iq s1.toInt := RE.ki (RE.refgK rc_ hTH386 gq395 (fun k hk => MF.r mf516 (by omega) (by intro z; simp only [List.mem_cons, List.not_mem_nil, or_false] at z; omega)) k1_ (fun q t hq ht => x_lt hTH386 kH468 hq (by first | exact nmr ht (by decide) | exact nmo ht (by decide) | exact nme ht (by decide) | exact nmq ht (by decide) | decide | (intro z; simp only [List.mem_cons, List.not_mem_nil, or_false] at z <;> omega) | omega))) hTH468 gbH386 imb_ imt_
        refine lv_pop hx hb dL_law_1482 rfl ?_
        refine lv_goto (tgt := 1509) hx hb dL_law_1483 (by decide) ?_
        exact nx G388 H468 locsH468 _ _ ls ⟨hTH468, hNH386, gaH386, gbH386, g512, g513, g514, g515, ⟨(by rw [← m631, ← m640]; exact rt), (by rw [← m630, ← m624, ← ex471]; omega), (by rw [← m630, ← m625, ← ex472]; omega), (by rw [← m630, ← m626, ← ex473]; omega), (by rw [← m630, ← m627, ← ex474]; omega), (by rw [← m630, ← m628, ← ex475]; omega), (by rw [← m630, ← m629, ← ex476]; omega)⟩, Or.inr ⟨q395, m639, gq395, (by rw [← ex470]; omega), (by rw [← m633, ← m477, ← ij677]; omega), (by rw [← m634, ← m477, ← ij678]; omega), (by rw [← m635, ← m477, ← ij679]; omega), (by rw [← m636, ← m477, ← ij680]; omega), (by rw [← m637, ← m477, ← ij681]; omega), (by rw [← m638, ← m477, ← ij682]; omega), (by rw [← m477, ← m633]; exact RKI.cast rk690 (by omega)), (by rw [← m635]; omega), (by rw [← m635]; omega)⟩, (by unfold TB; rw [← m632, ← m641, ← m640]; exact TBR.of htr f622 f623 (by omega)), (by unfold RELE; rw [← m630, ← ex471, ← m626]; exact ⟨RE.cast re689 (by omega), by omega, by omega⟩), hSH468⟩ hl ⟨Nat.add_le_add_right hc0 434, Nat.add_le_add_right hs0 13027, fun h => by have h1 := h.symm.trans m639; cases h1⟩
  · skip
    obtain ⟨hi, ehi⟩ : ∃ z : Int32, z = fI H b (K.1.2 10 70) := ⟨_, rfl⟩
    rw [← ehi] at h70
    obtain ⟨iq, eiq⟩ : ∃ z : Nat, z = fR H b (K.1.2 10 73) := ⟨_, rfl⟩
    have giq := ty_fr (q := iq) (k := 73) (u := 162) eiq hT gb rg_112 rfl
    rw [← eiq] at q1 q4 q5 q10 q13 q16
    obtain ⟨k1, ek1⟩ : ∃ z : Int32, z = fI H kq (K.1.2 8 1) := ⟨_, rfl⟩
    rw [← ek1] at q1
    obtain ⟨i1, ei1⟩ : ∃ z : Int32, z = fI H iq ((0 : Int32).toNatClampNeg) := ⟨_, rfl⟩
    rw [← ei1] at q1
    obtain ⟨k4, ek4⟩ : ∃ z : Int32, z = fI H kq (K.1.2 8 4) := ⟨_, rfl⟩
    rw [← ek4] at q4
    obtain ⟨i4, ei4⟩ : ∃ z : Int32, z = fI H iq ((1 : Int32).toNatClampNeg) := ⟨_, rfl⟩
    rw [← ei4] at q4
    obtain ⟨k5, ek5⟩ : ∃ z : Int32, z = fI H kq (K.1.2 8 5) := ⟨_, rfl⟩
    rw [← ek5] at q5
    obtain ⟨i5, ei5⟩ : ∃ z : Int32, z = fI H iq ((2 : Int32).toNatClampNeg) := ⟨_, rfl⟩
    rw [← ei5] at q5
    obtain ⟨k10, ek10⟩ : ∃ z : Int32, z = fI H kq (K.1.2 8 10) := ⟨_, rfl⟩
    rw [← ek10] at q10
    obtain ⟨i10, ei10⟩ : ∃ z : Int32, z = fI H iq ((3 : Int32).toNatClampNeg) := ⟨_, rfl⟩
    rw [← ei10] at q10
    obtain ⟨k13, ek13⟩ : ∃ z : Int32, z = fI H kq (K.1.2 8 13) := ⟨_, rfl⟩
    rw [← ek13] at q13
    obtain ⟨i13, ei13⟩ : ∃ z : Int32, z = fI H iq ((4 : Int32).toNatClampNeg) := ⟨_, rfl⟩
    rw [← ei13] at q13
    obtain ⟨k16, ek16⟩ : ∃ z : Int32, z = fI H kq (K.1.2 8 16) := ⟨_, rfl⟩
    rw [← ek16] at q16
    obtain ⟨i16, ei16⟩ : ∃ z : Int32, z = fI H iq ((5 : Int32).toNatClampNeg) := ⟨_, rfl⟩
    rw [← ei16] at q16
    rw [← eiq, ← ek1] at rke
    have hsk : 0 ≤ k5.toInt ∧ k5.toInt ≤ 9999 := by rw [ek5]; exact ⟨ks1, ks2⟩
    refine lv_aload_n hx hb dL_law_1447 rfl (lv_at hl 2 rfl) ?_
    refine lv_aload_n hx hb dL_law_1448 rfl (lv_at hl 3 rfl) ?_
    refine lv_iload_n hx hb dL_law_1449 rfl (lv_at hl 0 rfl) ?_
    refine lv_iconst (v := 1) hx hb dL_law_1450 (by decide) ?_
    refine lv_iadd hx hb dL_law_1451 ?_
    refine lv_topi (fun x691 ex691 => ?_)
    obtain ⟨tx691, ejx691, evx691⟩ := lw_ix (k := 1) ex691 hI hL rfl (by decide)
    clear tx691
    refine va_sld hx hb hX hbl (Nat.not_le.mpr hbl) hS (vp_in_iff.mpr evx691) dL_law_1452 ?_
    refine W.eq (g2 := F0 m 1453 ls [.int (xs (i.toNatClampNeg + 1)), .ref a]) (congrArg (fun z => F0 m 1453 ls [.int (xs z), .ref a]) ejx691) ?_
    refine lv_if_eq (tgt := 1460) hx hb dL_law_1453 (by decide) (fun c1453 => ?_) (fun c1453 => ?_)
    · skip
      refine lv_iconst (v := 0) hx hb dL_law_1460 (by decide) ?_
      refine x_V (As := [.int 0]) (rest := []) C (a_X9_image_e0v l K G H (s1) (s4) (s5) (s10) (s13) (s16) (ta) (k1) (k4) (k5) (k10) (k13) (k16) hT ga gw ew es1 es4 es5 es10 es13 es16 eta re.1 kn gkq ek1 ek4 ek5 ek10 ek13 ek16) yo_X9_image wM_L_153 ⟨⟨by decide, by decide⟩, show _ ≤ 60000 from Nat.le_trans hc (by decide), show _ ≤ 8922250 from Nat.le_trans hs (by decide)⟩ (x_rv C hT (ci := 9) rfl ga rg_68) rfl hl.1 rfl (Nat.le_of_ble_eq_true rfl) dL_law_1461 hS (AE_new hN hS.1) (fun vH692 H692 locsH692 pH692 zH692 kH692 hSH692 => ?_)
      obtain ⟨x693, hvH692, bx693, G694, mH692, hTH692, m695, m696, m697, m698, m699, m700, m707, m708⟩ := pH692
      subst hvH692
      have g710 : CG (avw K H692 b) := CG.congr (fun k hk j => av_eff hT kH692 gb (by decide) (CG_eff [0, 1, 2, 3, 4, 5, 6, 7, 8, 9, 10, 12, 14, 15, 16, 17, 18, 19, 20, 21, 22, 23, 24, 28, 29, 30, 31, 32, 33] (by decide) k hk)) cg
      have g711 : TU (avw K H692 b) (svw K H692 b) := TU.congr (fun k hk j => av_eff hT kH692 gb (by decide) (TU_eff [0, 1, 2, 3, 4, 5, 6, 7, 8, 9, 10, 12, 14, 15, 16, 17, 18, 19, 20, 21, 22, 23, 24, 28, 29, 30, 31, 32, 33] (by decide) k hk)) (fun k hk => sv_eff hT kH692 gb (by decide)) tu
      have g712 : WD (avw K H692 b) := WD.congr (fun k hk j => av_eff hT kH692 gb (by decide) (WD_eff [0, 1, 2, 3, 4, 5, 6, 7, 8, 9, 10, 12, 14, 15, 16, 17, 18, 19, 20, 21, 22, 23, 24, 28, 29, 30, 31, 32, 33] (by decide) k hk)) wd
      have g713 : IM (avw K H692 b) := IM.congr (fun k hk j => av_eff hT kH692 gb (by decide) (IM_eff [0, 1, 2, 3, 4, 5, 6, 7, 8, 9, 10, 12, 14, 15, 16, 17, 18, 19, 20, 21, 22, 23, 24, 28, 29, 30, 31, 32, 33] (by decide) k hk)) im
      have f714 : ∀ j : Nat, fI H692 tq j = fI H tq j := fun j => (fI_kept (x_lt hT kH692 gtq (by decide))).trans (ft0 j)
      have f715 : ∀ j : Nat, fI H692 uq j = fI H uq j := fun j => (fI_kept (x_lt hT kH692 guq (by decide))).trans (fu0 j)
      have m716 := (ew).trans (fR_kept (x_lt hT kH692 ga (by decide))).symm
      have m717 := (eta).trans (fI_kept (x_lt hT kH692 ga (by decide))).symm
      have m718 := (etb).trans (fI_kept (x_lt hT kH692 gb (by decide))).symm
      have m719 := (ey1).trans (fI_kept (x_lt hT kH692 gb (by decide))).symm
      have m720 := (ey4).trans (fI_kept (x_lt hT kH692 gb (by decide))).symm
      have m721 := (ey5).trans (fI_kept (x_lt hT kH692 gb (by decide))).symm
      have m722 := (ey10).trans (fI_kept (x_lt hT kH692 gb (by decide))).symm
      have m723 := (ey13).trans (fI_kept (x_lt hT kH692 gb (by decide))).symm
      have m724 := (ey16).trans (fI_kept (x_lt hT kH692 gb (by decide))).symm
      have m725 := (etq).trans (fR_kept (x_lt hT kH692 ga (by decide))).symm
      have m726 := (euq).trans (fR_kept (x_lt hT kH692 gb (by decide))).symm
      have m727 := (ehi).trans (fI_kept (x_lt hT kH692 gb (by decide))).symm
      have m728 := (fV_kept (x_lt hT kH692 ga (by decide))).trans kn
      have m729 := (eiq).trans (fR_kept (x_lt hT kH692 gb (by decide))).symm
      have m730 := (ek1).trans (fI_kept (x_lt hT kH692 gkq (by decide))).symm
      have m731 := (ei1).trans (fI_kept (x_lt hT kH692 giq (by decide))).symm
      have m732 := (ek4).trans (fI_kept (x_lt hT kH692 gkq (by decide))).symm
      have m733 := (ei4).trans (fI_kept (x_lt hT kH692 giq (by decide))).symm
      have m734 := (ek5).trans (fI_kept (x_lt hT kH692 gkq (by decide))).symm
      have m735 := (ei5).trans (fI_kept (x_lt hT kH692 giq (by decide))).symm
      have m736 := (ek10).trans (fI_kept (x_lt hT kH692 gkq (by decide))).symm
      have m737 := (ei10).trans (fI_kept (x_lt hT kH692 giq (by decide))).symm
      have m738 := (ek13).trans (fI_kept (x_lt hT kH692 gkq (by decide))).symm
      have m739 := (ei13).trans (fI_kept (x_lt hT kH692 giq (by decide))).symm
      have m740 := (ek16).trans (fI_kept (x_lt hT kH692 gkq (by decide))).symm
      have m741 := (ei16).trans (fI_kept (x_lt hT kH692 giq (by decide))).symm
      have gaH692 := (mH692 a (hT.lt ga)).trans ga
      have gbH692 := (mH692 b (hT.lt gb)).trans gb
      have gwH692 := (mH692 w (hT.lt gw)).trans gw
      have gtqH692 := (mH692 tq (hT.lt gtq)).trans gtq
      have guqH692 := (mH692 uq (hT.lt guq)).trans guq
      have giqH692 := (mH692 iq (hT.lt giq)).trans giq
      have gkqH692 := (mH692 kq (hT.lt gkq)).trans gkq
      have hNH692 : ∀ q, q < s.heap.size → G694 q = none := fun q hq => (mH692 q (Nat.lt_of_lt_of_le hq hS.1)).trans (hN q hq)
      obtain ⟨x742, ex742⟩ : ∃ z : Int32, z = fI H692 w (K.1.2 8 1) := ⟨_, rfl⟩
      rw [← ex742] at m695
      obtain ⟨x743, ex743⟩ : ∃ z : Int32, z = fI H692 w (K.1.2 8 4) := ⟨_, rfl⟩
      rw [← ex743] at m696
      obtain ⟨x744, ex744⟩ : ∃ z : Int32, z = fI H692 w (K.1.2 8 5) := ⟨_, rfl⟩
      rw [← ex744] at m697
      obtain ⟨x745, ex745⟩ : ∃ z : Int32, z = fI H692 w (K.1.2 8 10) := ⟨_, rfl⟩
      rw [← ex745] at m698
      obtain ⟨x746, ex746⟩ : ∃ z : Int32, z = fI H692 w (K.1.2 8 13) := ⟨_, rfl⟩
      rw [← ex746] at m699
      obtain ⟨x747, ex747⟩ : ∃ z : Int32, z = fI H692 w (K.1.2 8 16) := ⟨_, rfl⟩
      rw [← ex747] at m700
      refine W.eq (g2 := F0 m 1464 ls [.int x693]) rfl ?_
      have rk748 : RKI K H692 kq iq k1.toInt := RKI.kept rke hT gkq (x_lt hT kH692 giq (by first | exact nmr ht (by decide) | exact nmo ht (by decide) | exact nme ht (by decide) | exact nmq ht (by decide) | decide | (intro z; simp only [List.mem_cons, List.not_mem_nil, or_false] at z <;> omega) | omega)) (fun q t hq ht => x_lt hT kH692 hq (by first | exact nmr ht (by decide) | exact nmo ht (by decide) | exact nme ht (by decide) | exact nmq ht (by decide) | decide | (intro z; simp only [List.mem_cons, List.not_mem_nil, or_false] at z <;> omega) | omega))
      have rn_ : RKI K H692 w iq k1.toInt := RKI.now rk748 re.1 m707 m708
      refine lv_pop hx hb dL_law_1464 rfl ?_
      refine lv_aload_n hx hb dL_law_1465 rfl (lv_at hl 1 rfl) ?_
      refine lv_aload_n hx hb dL_law_1466 rfl (lv_at hl 3 rfl) ?_
      refine lv_iload_n hx hb dL_law_1467 rfl (lv_at hl 0 rfl) ?_
      refine lv_iconst (v := 1) hx hb dL_law_1468 (by decide) ?_
      refine lv_iadd hx hb dL_law_1469 ?_
      refine lv_topi (fun x749 ex749 => ?_)
      obtain ⟨tx749, ejx749, evx749⟩ := lw_ix (k := 1) ex749 hI hL rfl (by decide)
      clear tx749
      refine va_sld hx hb hX hbl (Nat.not_le.mpr hbl) hSH692 (vp_in_iff.mpr evx749) dL_law_1470 ?_
      refine W.eq (g2 := F0 m 1471 ls [.int (xs (i.toNatClampNeg + 1)), .ref b]) (congrArg (fun z => F0 m 1471 ls [.int (xs z), .ref b]) ejx749) ?_
      refine lv_if_eq (tgt := 1478) hx hb dL_law_1471 (by decide) (fun c1471 => ?_) (fun c1471 => ?_)
      · skip
        refine lv_iconst (v := 0) hx hb dL_law_1478 (by decide) ?_
        obtain ⟨q750, eq750⟩ : ∃ z : Nat, @Eq Ad z (fR H692 b (K.1.2 10 4)) := ⟨_, rfl⟩
        have gq750 := ty_fr (q := q750) (k := 4) (u := 113) eq750 hTH692 gbH692 rg_112 rfl
        obtain ⟨q751, eq751⟩ : ∃ z : Nat, @Eq Ad z (fR H692 b (K.1.2 10 5)) := ⟨_, rfl⟩
        have gq751 := ty_fr (q := q751) (k := 5) (u := 114) eq751 hTH692 gbH692 rg_112 rfl
        obtain ⟨q752, eq752⟩ : ∃ z : Nat, @Eq Ad z (fR H692 b (K.1.2 10 6)) := ⟨_, rfl⟩
        have gq752 := ty_fr (q := q752) (k := 6) (u := 115) eq752 hTH692 gbH692 rg_112 rfl
        obtain ⟨q753, eq753⟩ : ∃ z : Nat, @Eq Ad z (fR H692 b (K.1.2 10 7)) := ⟨_, rfl⟩
        have gq753 := ty_fr (q := q753) (k := 7) (u := 116) eq753 hTH692 gbH692 rg_112 rfl
        obtain ⟨q754, eq754⟩ : ∃ z : Nat, @Eq Ad z (fR H692 b (K.1.2 10 8)) := ⟨_, rfl⟩
        have gq754 := ty_fr (q := q754) (k := 8) (u := 117) eq754 hTH692 gbH692 rg_112 rfl
        obtain ⟨q755, eq755⟩ : ∃ z : Nat, @Eq Ad z (fR H692 b (K.1.2 10 9)) := ⟨_, rfl⟩
        have gq755 := ty_fr (q := q755) (k := 9) (u := 118) eq755 hTH692 gbH692 rg_112 rfl
        obtain ⟨q756, eq756⟩ : ∃ z : Nat, @Eq Ad z (fR H692 b (K.1.2 10 10)) := ⟨_, rfl⟩
        have gq756 := ty_fr (q := q756) (k := 10) (u := 119) eq756 hTH692 gbH692 rg_112 rfl
        obtain ⟨q757, eq757⟩ : ∃ z : Nat, @Eq Ad z (fR H692 b (K.1.2 10 11)) := ⟨_, rfl⟩
        have gq757 := ty_fr (q := q757) (k := 11) (u := 120) eq757 hTH692 gbH692 rg_112 rfl
        obtain ⟨q758, eq758⟩ : ∃ z : Nat, @Eq Ad z (fR H692 b (K.1.2 10 12)) := ⟨_, rfl⟩
        have gq758 := ty_fr (q := q758) (k := 12) (u := 121) eq758 hTH692 gbH692 rg_112 rfl
        obtain ⟨q759, eq759⟩ : ∃ z : Nat, @Eq Ad z (fR H692 b (K.1.2 10 13)) := ⟨_, rfl⟩
        have gq759 := ty_fr (q := q759) (k := 13) (u := 122) eq759 hTH692 gbH692 rg_112 rfl
        obtain ⟨q760, eq760⟩ : ∃ z : Nat, @Eq Ad z (fR H692 b (K.1.2 10 14)) := ⟨_, rfl⟩
        have gq760 := ty_fr (q := q760) (k := 14) (u := 123) eq760 hTH692 gbH692 rg_112 rfl
        obtain ⟨q761, eq761⟩ : ∃ z : Nat, @Eq Ad z (fR H692 b (K.1.2 10 15)) := ⟨_, rfl⟩
        have gq761 := ty_fr (q := q761) (k := 15) (u := 124) eq761 hTH692 gbH692 rg_112 rfl
        obtain ⟨q762, eq762⟩ : ∃ z : Nat, @Eq Ad z (fR H692 b (K.1.2 10 16)) := ⟨_, rfl⟩
        have gq762 := ty_fr (q := q762) (k := 16) (u := 125) eq762 hTH692 gbH692 rg_112 rfl
        obtain ⟨q763, eq763⟩ : ∃ z : Nat, @Eq Ad z (fR H692 b (K.1.2 10 24)) := ⟨_, rfl⟩
        have gq763 := ty_fr (q := q763) (k := 24) (u := 128) eq763 hTH692 gbH692 rg_112 rfl
        obtain ⟨q764, eq764⟩ : ∃ z : Nat, @Eq Ad z (fR H692 b (K.1.2 10 25)) := ⟨_, rfl⟩
        have gq764 := ty_fr (q := q764) (k := 25) (u := 129) eq764 hTH692 gbH692 rg_112 rfl
        obtain ⟨q765, eq765⟩ : ∃ z : Nat, @Eq Ad z (fR H692 b (K.1.2 10 26)) := ⟨_, rfl⟩
        have gq765 := ty_fr (q := q765) (k := 26) (u := 130) eq765 hTH692 gbH692 rg_112 rfl
        obtain ⟨q766, eq766⟩ : ∃ z : Nat, @Eq Ad z (fR H692 b (K.1.2 10 27)) := ⟨_, rfl⟩
        have gq766 := ty_fr (q := q766) (k := 27) (u := 131) eq766 hTH692 gbH692 rg_112 rfl
        obtain ⟨q767, eq767⟩ : ∃ z : Nat, @Eq Ad z (fR H692 b (K.1.2 10 28)) := ⟨_, rfl⟩
        have gq767 := ty_fr (q := q767) (k := 28) (u := 132) eq767 hTH692 gbH692 rg_112 rfl
        obtain ⟨q768, eq768⟩ : ∃ z : Nat, @Eq Ad z (fR H692 b (K.1.2 10 29)) := ⟨_, rfl⟩
        have gq768 := ty_fr (q := q768) (k := 29) (u := 133) eq768 hTH692 gbH692 rg_112 rfl
        obtain ⟨q769, eq769⟩ : ∃ z : Nat, @Eq Ad z (fR H692 b (K.1.2 10 30)) := ⟨_, rfl⟩
        have gq769 := ty_fr (q := q769) (k := 30) (u := 134) eq769 hTH692 gbH692 rg_112 rfl
        obtain ⟨q770, eq770⟩ : ∃ z : Nat, @Eq Ad z (fR H692 b (K.1.2 10 31)) := ⟨_, rfl⟩
        have gq770 := ty_fr (q := q770) (k := 31) (u := 135) eq770 hTH692 gbH692 rg_112 rfl
        obtain ⟨q771, eq771⟩ : ∃ z : Nat, @Eq Ad z (fR H692 b (K.1.2 10 32)) := ⟨_, rfl⟩
        have gq771 := ty_fr (q := q771) (k := 32) (u := 136) eq771 hTH692 gbH692 rg_112 rfl
        obtain ⟨q772, eq772⟩ : ∃ z : Nat, @Eq Ad z (fR H692 b (K.1.2 10 33)) := ⟨_, rfl⟩
        have gq772 := ty_fr (q := q772) (k := 33) (u := 137) eq772 hTH692 gbH692 rg_112 rfl
        obtain ⟨q773, eq773⟩ : ∃ z : Nat, @Eq Ad z (fR H692 b (K.1.2 10 50)) := ⟨_, rfl⟩
        have gq773 := ty_fr (q := q773) (k := 50) (u := 146) eq773 hTH692 gbH692 rg_112 rfl
        obtain ⟨q774, eq774⟩ : ∃ z : Nat, @Eq Ad z (fR H692 b (K.1.2 10 51)) := ⟨_, rfl⟩
        have gq774 := ty_fr (q := q774) (k := 51) (u := 147) eq774 hTH692 gbH692 rg_112 rfl
        obtain ⟨q775, eq775⟩ : ∃ z : Nat, @Eq Ad z (fR H692 b (K.1.2 10 52)) := ⟨_, rfl⟩
        have gq775 := ty_fr (q := q775) (k := 52) (u := 148) eq775 hTH692 gbH692 rg_112 rfl
        obtain ⟨q776, eq776⟩ : ∃ z : Nat, @Eq Ad z (fR H692 b (K.1.2 10 53)) := ⟨_, rfl⟩
        have gq776 := ty_fr (q := q776) (k := 53) (u := 149) eq776 hTH692 gbH692 rg_112 rfl
        obtain ⟨q777, eq777⟩ : ∃ z : Nat, @Eq Ad z (fR H692 b (K.1.2 10 54)) := ⟨_, rfl⟩
        have gq777 := ty_fr (q := q777) (k := 54) (u := 150) eq777 hTH692 gbH692 rg_112 rfl
        obtain ⟨q778, eq778⟩ : ∃ z : Nat, @Eq Ad z (fR H692 b (K.1.2 10 60)) := ⟨_, rfl⟩
        have gq778 := ty_fr (q := q778) (k := 60) (u := 154) eq778 hTH692 gbH692 rg_112 rfl
        obtain ⟨q779, eq779⟩ : ∃ z : Nat, @Eq Ad z (fR H692 b (K.1.2 10 61)) := ⟨_, rfl⟩
        have gq779 := ty_fr (q := q779) (k := 61) (u := 155) eq779 hTH692 gbH692 rg_112 rfl
        obtain ⟨q780, eq780⟩ : ∃ z : Nat, @Eq Ad z (fR H692 b (K.1.2 10 63)) := ⟨_, rfl⟩
        have gq780 := ty_fr (q := q780) (k := 63) (u := 156) eq780 hTH692 gbH692 rg_112 rfl
        obtain ⟨q781, eq781⟩ : ∃ z : Nat, @Eq Ad z (fR H692 b (K.1.2 10 64)) := ⟨_, rfl⟩
        have gq781 := ty_fr (q := q781) (k := 64) (u := 157) eq781 hTH692 gbH692 rg_112 rfl
        obtain ⟨q782, eq782⟩ : ∃ z : Nat, @Eq Ad z (fR H692 b (K.1.2 10 66)) := ⟨_, rfl⟩
        have gq782 := ty_fr (q := q782) (k := 66) (u := 158) eq782 hTH692 gbH692 rg_112 rfl
        obtain ⟨q783, eq783⟩ : ∃ z : Nat, @Eq Ad z (fR H692 b (K.1.2 10 67)) := ⟨_, rfl⟩
        have gq783 := ty_fr (q := q783) (k := 67) (u := 159) eq783 hTH692 gbH692 rg_112 rfl
        refine x_V (As := [.int 0]) (rest := []) C (a_X10_image_g l K G694 H692 (0) (hi) (y1) (y4) (y5) (y10) (y13) (y16) hTH692 gbH692 (by decide) giqH692 m729 gq750 eq750 gq751 eq751 gq752 eq752 gq753 eq753 gq754 eq754 gq755 eq755 gq756 eq756 gq757 eq757 gq758 eq758 gq759 eq759 gq760 eq760 gq761 eq761 gq762 eq762 gq763 eq763 gq764 eq764 gq765 eq765 gq766 eq766 gq767 eq767 gq768 eq768 gq769 eq769 gq770 eq770 gq771 eq771 gq772 eq772 gq773 eq773 gq774 eq774 gq775 eq775 gq776 eq776 gq777 eq777 gq778 eq778 gq779 eq779 gq780 eq780 gq781 eq781 gq782 eq782 gq783 eq783 m727 m719 m720 m721 m722 m723 m724 g710 g711 g712 g713) yo_X10_image wM_L_157 ⟨⟨by decide, by decide⟩, show _ ≤ 60000 from Nat.le_trans hc (by decide), show _ ≤ 8922250 from Nat.le_trans hs (by decide)⟩ (x_rv C hTH692 (ci := 10) rfl gbH692 rg_112) rfl hl.1 rfl (Nat.le_of_ble_eq_true rfl) dL_law_1479 hSH692 (AE_new hNH692 hSH692.1) (fun vH784 H784 locsH784 pH784 zH784 kH784 hSH784 => ?_)
        obtain ⟨x785, x786, x787, x788, x789, x790, x791, x792, hvH784, bx785, ex786, ex787, ex788, ex789, ex790, ex791, ex792, hrH784, m793, m794, m795, m796, m797, m798, m799, m800, m801, m802, m803, m804, m805, m806, m807, m808, m809, m810, m811, m812, m813, m814, m815, m816, m817, m818, m819, m820, m821, m822, m823, m824, m825, m826, m827, g828, g829, g830, g831, mf832, m833, m834, m835, m836, m837, m838, m839, m840, m841, m842, m843, m844, m845, m846, m847, m848, m849, m850, m851, m852, m853, m854, m855, m856, m857, m858, m859, m860, m861, m862, m863, m864, m865, m866, m867, m868, m869, m870, m871, m872, m873, m874, m875, m876, m877, m878, m879, m880, m881, m882, m883, m884, m885, m886, m887, m888, m889, m890, m891, m892, m893, m894, m895, m896, m897, m898, m899, m900, m901, m902, m903, m904, m905, m906, m907, m908, m909, m910, m911, m912, m913, m914, m915, m916, m917, m918, m919, m920, m921, m922, m923, m924, m925, m926, m927, m928, m929, m930, m931, m932, m933, m934, m935, m936, m937, hTH784⟩ := pH784
        subst hvH784
        have f938 : ∀ j : Nat, fI H784 tq j = fI H tq j := fun j => (fI_kept (x_lt hTH692 kH784 gtqH692 (by decide))).trans (f714 j)
        have f939 : ∀ j : Nat, fI H784 uq j = fI H uq j := fun j => (fI_kept (x_lt hTH692 kH784 guqH692 (by decide))).trans (f715 j)
        have m940 := (m716).trans (fR_kept (x_lt hTH692 kH784 gaH692 (by decide))).symm
        have m941 := (m717).trans (fI_kept (x_lt hTH692 kH784 gaH692 (by decide))).symm
        have m942 := (m725).trans (fR_kept (x_lt hTH692 kH784 gaH692 (by decide))).symm
        have m943 := (fV_kept (x_lt hTH692 kH784 gaH692 (by decide))).trans m728
        have m944 := (m730).trans (fI_kept (x_lt hTH692 kH784 gkqH692 (by decide))).symm
        have m945 := (m732).trans (fI_kept (x_lt hTH692 kH784 gkqH692 (by decide))).symm
        have m946 := (m734).trans (fI_kept (x_lt hTH692 kH784 gkqH692 (by decide))).symm
        have m947 := (m736).trans (fI_kept (x_lt hTH692 kH784 gkqH692 (by decide))).symm
        have m948 := (m738).trans (fI_kept (x_lt hTH692 kH784 gkqH692 (by decide))).symm
        have m949 := (m740).trans (fI_kept (x_lt hTH692 kH784 gkqH692 (by decide))).symm
        have m950 := (ex742).trans (fI_kept (x_lt hTH692 kH784 gwH692 (by decide))).symm
        have m951 := (ex743).trans (fI_kept (x_lt hTH692 kH784 gwH692 (by decide))).symm
        have m952 := (ex744).trans (fI_kept (x_lt hTH692 kH784 gwH692 (by decide))).symm
        have m953 := (ex745).trans (fI_kept (x_lt hTH692 kH784 gwH692 (by decide))).symm
        have m954 := (ex746).trans (fI_kept (x_lt hTH692 kH784 gwH692 (by decide))).symm
        have m955 := (ex747).trans (fI_kept (x_lt hTH692 kH784 gwH692 (by decide))).symm
        have m956 := (m718).trans (MF.i mf832 (k := 18) (by decide) (by decide)).symm
        have m957 := (m726).trans (MF.r mf832 (k := 17) (by decide) (by decide)).symm
        have m958 := (m729).trans (MF.r mf832 (k := 73) (by decide) (by decide)).symm
        have m959 := (eq750).trans (MF.r mf832 (k := 4) (by decide) (by decide)).symm
        have m960 := (eq751).trans (MF.r mf832 (k := 5) (by decide) (by decide)).symm
        have m961 := (eq752).trans (MF.r mf832 (k := 6) (by decide) (by decide)).symm
        have m962 := (eq753).trans (MF.r mf832 (k := 7) (by decide) (by decide)).symm
        have m963 := (eq754).trans (MF.r mf832 (k := 8) (by decide) (by decide)).symm
        have m964 := (eq755).trans (MF.r mf832 (k := 9) (by decide) (by decide)).symm
        have m965 := (eq756).trans (MF.r mf832 (k := 10) (by decide) (by decide)).symm
        have m966 := (eq757).trans (MF.r mf832 (k := 11) (by decide) (by decide)).symm
        have m967 := (eq758).trans (MF.r mf832 (k := 12) (by decide) (by decide)).symm
        have m968 := (eq759).trans (MF.r mf832 (k := 13) (by decide) (by decide)).symm
        have m969 := (eq760).trans (MF.r mf832 (k := 14) (by decide) (by decide)).symm
        have m970 := (eq761).trans (MF.r mf832 (k := 15) (by decide) (by decide)).symm
        have m971 := (eq762).trans (MF.r mf832 (k := 16) (by decide) (by decide)).symm
        have m972 := (eq763).trans (MF.r mf832 (k := 24) (by decide) (by decide)).symm
        have m973 := (eq764).trans (MF.r mf832 (k := 25) (by decide) (by decide)).symm
        have m974 := (eq765).trans (MF.r mf832 (k := 26) (by decide) (by decide)).symm
        have m975 := (eq766).trans (MF.r mf832 (k := 27) (by decide) (by decide)).symm
        have m976 := (eq767).trans (MF.r mf832 (k := 28) (by decide) (by decide)).symm
        have m977 := (eq768).trans (MF.r mf832 (k := 29) (by decide) (by decide)).symm
        have m978 := (eq769).trans (MF.r mf832 (k := 30) (by decide) (by decide)).symm
        have m979 := (eq770).trans (MF.r mf832 (k := 31) (by decide) (by decide)).symm
        have m980 := (eq771).trans (MF.r mf832 (k := 32) (by decide) (by decide)).symm
        have m981 := (eq772).trans (MF.r mf832 (k := 33) (by decide) (by decide)).symm
        have m982 := (eq773).trans (MF.r mf832 (k := 50) (by decide) (by decide)).symm
        have m983 := (eq774).trans (MF.r mf832 (k := 51) (by decide) (by decide)).symm
        have m984 := (eq775).trans (MF.r mf832 (k := 52) (by decide) (by decide)).symm
        have m985 := (eq776).trans (MF.r mf832 (k := 53) (by decide) (by decide)).symm
        have m986 := (eq777).trans (MF.r mf832 (k := 54) (by decide) (by decide)).symm
        have m987 := (eq778).trans (MF.r mf832 (k := 60) (by decide) (by decide)).symm
        have m988 := (eq779).trans (MF.r mf832 (k := 61) (by decide) (by decide)).symm
        have m989 := (eq780).trans (MF.r mf832 (k := 63) (by decide) (by decide)).symm
        have m990 := (eq781).trans (MF.r mf832 (k := 64) (by decide) (by decide)).symm
        have m991 := (eq782).trans (MF.r mf832 (k := 66) (by decide) (by decide)).symm
        have m992 := (eq783).trans (MF.r mf832 (k := 67) (by decide) (by decide)).symm
        have bx786 := ty_fi (x := x786) (k := 70) ex786 hTH784 gbH692 rg_112 rfl
        have bx787 := ty_fi (x := x787) (k := 1) ex787 hTH784 gbH692 rg_112 rfl
        have bx788 := ty_fi (x := x788) (k := 2) ex788 hTH784 gbH692 rg_112 rfl
        have bx789 := ty_fi (x := x789) (k := 3) ex789 hTH784 gbH692 rg_112 rfl
        have bx790 := ty_fi (x := x790) (k := 59) ex790 hTH784 gbH692 rg_112 rfl
        have bx791 := ty_fi (x := x791) (k := 62) ex791 hTH784 gbH692 rg_112 rfl
        have bx792 := ty_fi (x := x792) (k := 65) ex792 hTH784 gbH692 rg_112 rfl
        replace m836 := HD.mk m836
        replace m837 := HD.mk m837
        replace m838 := HD.mk m838
        replace m839 := HD.mk m839
        replace m840 := HD.mk m840
        replace m841 := HD.mk m841
        replace m842 := HD.mk m842
        replace m843 := HD.mk m843
        replace m844 := HD.mk m844
        replace m845 := HD.mk m845
        replace m846 := HD.mk m846
        replace m847 := HD.mk m847
        replace m848 := HD.mk m848
        replace m849 := HD.mk m849
        replace m850 := HD.mk m850
        replace m851 := HD.mk m851
        replace m852 := HD.mk m852
        replace m853 := HD.mk m853
        replace m854 := HD.mk m854
        replace m855 := HD.mk m855
        replace m856 := HD.mk m856
        replace m857 := HD.mk m857
        replace m858 := HD.mk m858
        replace m859 := HD.mk m859
        replace m860 := HD.mk m860
        replace m861 := HD.mk m861
        replace m862 := HD.mk m862
        replace m863 := HD.mk m863
        replace m864 := HD.mk m864
        replace m865 := HD.mk m865
        replace m866 := HD.mk m866
        replace m867 := HD.mk m867
        replace m868 := HD.mk m868
        replace m869 := HD.mk m869
        replace m870 := HD.mk m870
        replace m871 := HD.mk m871
        replace m872 := HD.mk m872
        replace m873 := HD.mk m873
        replace m874 := HD.mk m874
        replace m875 := HD.mk m875
        replace m876 := HD.mk m876
        replace m877 := HD.mk m877
        replace m878 := HD.mk m878
        replace m879 := HD.mk m879
        replace m880 := HD.mk m880
        replace m881 := HD.mk m881
        replace m882 := HD.mk m882
        replace m883 := HD.mk m883
        replace m884 := HD.mk m884
        replace m885 := HD.mk m885
        replace m886 := HD.mk m886
        replace m887 := HD.mk m887
        replace m888 := HD.mk m888
        replace m889 := HD.mk m889
        replace m890 := HD.mk m890
        replace m891 := HD.mk m891
        replace m892 := HD.mk m892
        replace m893 := HD.mk m893
        replace m894 := HD.mk m894
        replace m895 := HD.mk m895
        replace m896 := HD.mk m896
        replace m897 := HD.mk m897
        replace m898 := HD.mk m898
        replace m899 := HD.mk m899
        replace m900 := HD.mk m900
        replace m901 := HD.mk m901
        replace m902 := HD.mk m902
        replace m903 := HD.mk m903
        replace m904 := HD.mk m904
        replace m905 := HD.mk m905
        replace m906 := HD.mk m906
        replace m907 := HD.mk m907
        replace m908 := HD.mk m908
        replace m909 := HD.mk m909
        replace m910 := HD.mk m910
        replace m911 := HD.mk m911
        replace m912 := HD.mk m912
        replace m913 := HD.mk m913
        replace m914 := HD.mk m914
        replace m915 := HD.mk m915
        replace m916 := HD.mk m916
        replace m917 := HD.mk m917
        replace m918 := HD.mk m918
        replace m919 := HD.mk m919
        replace m920 := HD.mk m920
        replace m921 := HD.mk m921
        replace m922 := HD.mk m922
        replace m923 := HD.mk m923
        replace m924 := HD.mk m924
        replace m925 := HD.mk m925
        replace m926 := HD.mk m926
        replace m927 := HD.mk m927
        replace m928 := HD.mk m928
        replace m929 := HD.mk m929
        replace m930 := HD.mk m930
        replace m931 := HD.mk m931
        replace m932 := HD.mk m932
        replace m933 := HD.mk m933
        replace m934 := HD.mk m934
        replace m935 := HD.mk m935
        replace m936 := HD.mk m936
        replace m937 := HD.mk m937
        refine W.eq (g2 := F0 m 1482 ls [.int x785]) rfl ?_
        obtain ⟨j993, j994, j995, j996, j997, j998⟩ := m833.resolve_left (by omega)
        have ij993 : i1 = fI H784 iq ((0 : Int32).toNatClampNeg) := m731.trans (m835 (by decide) _).symm
        have tj993 := congrArg Int32.toInt (j993.trans ij993.symm)
        have ij994 : i4 = fI H784 iq ((1 : Int32).toNatClampNeg) := m733.trans (m835 (by decide) _).symm
        have tj994 := congrArg Int32.toInt (j994.trans ij994.symm)
        have ij995 : i5 = fI H784 iq ((2 : Int32).toNatClampNeg) := m735.trans (m835 (by decide) _).symm
        have tj995 := congrArg Int32.toInt (j995.trans ij995.symm)
        have ij996 : i10 = fI H784 iq ((3 : Int32).toNatClampNeg) := m737.trans (m835 (by decide) _).symm
        have tj996 := congrArg Int32.toInt (j996.trans ij996.symm)
        have ij997 : i13 = fI H784 iq ((4 : Int32).toNatClampNeg) := m739.trans (m835 (by decide) _).symm
        have tj997 := congrArg Int32.toInt (j997.trans ij997.symm)
        have ij998 : i16 = fI H784 iq ((5 : Int32).toNatClampNeg) := m741.trans (m835 (by decide) _).symm
        have tj998 := congrArg Int32.toInt (j998.trans ij998.symm)
        have imb_ : IMB K H784 b iq := IMB.of (by rw [← m794]; exact (HD.out m836).resolve_left (by omega)) (by rw [← m800]; exact (HD.out m854).resolve_left (by omega)) (by rw [← m803]; exact (HD.out m863).resolve_left (by omega)) (by rw [← m795]; exact (HD.out m839).resolve_left (by omega)) (by rw [← m796]; exact (HD.out m842).resolve_left (by omega)) (by rw [← m797]; exact (HD.out m845).resolve_left (by omega)) (by rw [← m798]; exact (HD.out m848).resolve_left (by omega)) (by rw [← m799]; exact (HD.out m851).resolve_left (by omega)) (by rw [← m801]; exact (HD.out m857).resolve_left (by omega)) (by rw [← m802]; exact (HD.out m860).resolve_left (by omega))
        have imt_ : IMT K H784 b iq := ⟨(by rw [← m807]; exact (HD.out m875).resolve_left (by omega)), (by rw [← m808]; exact (HD.out m878).resolve_left (by omega)), (by rw [← m809]; exact (HD.out m881).resolve_left (by omega)), (by rw [← m810]; exact (HD.out m884).resolve_left (by omega)), (by rw [← m811]; exact (HD.out m887).resolve_left (by omega)), (by rw [← m812]; exact (HD.out m890).resolve_left (by omega)), (by rw [← m813]; exact (HD.out m893).resolve_left (by omega)), (by rw [← m814]; exact (HD.out m896).resolve_left (by omega)), (by rw [← m815]; exact (HD.out m899).resolve_left (by omega)), (by rw [← m816]; exact (HD.out m902).resolve_left (by omega))⟩
        have re999 : RE K H784 w b k1.toInt := RKI.re (RKI.keptn rn_ hTH692 gwH692 (m835 (by decide)) (fun q t hq ht => x_lt hTH692 kH784 hq (by first | exact nmr ht (by decide) | exact nmo ht (by decide) | exact nme ht (by decide) | exact nmq ht (by decide) | decide | (intro z; simp only [List.mem_cons, List.not_mem_nil, or_false] at z <;> omega) | omega))) hTH784 gbH692 imb_ imt_
        have rk1000 : RKI K H784 kq iq k1.toInt := RKI.keptv rk748 hTH692 gkqH692 (m835 (by decide)) (fun q t hq ht => x_lt hTH692 kH784 hq (by first | exact nmr ht (by decide) | exact nmo ht (by decide) | exact nme ht (by decide) | exact nmq ht (by decide) | decide | (intro z; simp only [List.mem_cons, List.not_mem_nil, or_false] at z <;> omega) | omega))
        refine lv_pop hx hb dL_law_1482 rfl ?_
        refine lv_goto (tgt := 1509) hx hb dL_law_1483 (by decide) ?_
        exact nx G694 H784 locsH784 _ _ ls ⟨hTH784, hNH692, gaH692, gbH692, g828, g829, g830, g831, ⟨(by rw [← m941, ← m956]; exact rt), (by rw [← m940, ← m950, ← ex787]; omega), (by rw [← m940, ← m951, ← ex788]; omega), (by rw [← m940, ← m952, ← ex789]; omega), (by rw [← m940, ← m953, ← ex790]; omega), (by rw [← m940, ← m954, ← ex791]; omega), (by rw [← m940, ← m955, ← ex792]; omega)⟩, Or.inr ⟨kq, m943, gkqH692, (by rw [← ex786]; omega), (by rw [← m944, ← m793, ← ij993]; exact q1), (by rw [← m945, ← m793, ← ij994]; exact q4), (by rw [← m946, ← m793, ← ij995]; exact q5), (by rw [← m947, ← m793, ← ij996]; exact q10), (by rw [← m948, ← m793, ← ij997]; exact q13), (by rw [← m949, ← m793, ← ij998]; exact q16), (by rw [← m793, ← m944]; exact RKI.cast rk1000 (by omega)), (by rw [← m946]; omega), (by rw [← m946]; omega)⟩, (by unfold TB; rw [← m942, ← m957, ← m956]; exact TBR.of htr f938 f939 (by omega)), (by unfold RELE; rw [← m940, ← ex787, ← m952]; exact ⟨RE.cast re999 (by omega), by omega, by omega⟩), hSH784⟩ hl ⟨hc, hs, fun h => by have h1 := h.symm.trans m943; cases h1⟩
      · skip
        exact absurd c1453 c1471
    · skip
      refine lv_iconst (v := 1) hx hb dL_law_1456 (by decide) ?_
      refine lv_goto (tgt := 1461) hx hb dL_law_1457 (by decide) ?_
      refine x_V (As := [.int 1]) (rest := []) C (a_X9_image_e1v l K G H (s1) (s4) (s5) (s10) (s13) (s16) (ta) (k1) (k4) (k5) (k10) (k13) (k16) hT ga gw ew es1 es4 es5 es10 es13 es16 eta kn gkq ek1 ek4 ek5 ek10 ek13 ek16 rke.1 gtq etq) yo_X9_image wM_L_153 ⟨⟨by decide, by decide⟩, show _ ≤ 60000 from Nat.le_trans hc (by decide), show _ ≤ 8922250 from Nat.le_trans hs (by decide)⟩ (x_rv C hT (ci := 9) rfl ga rg_68) rfl hl.1 rfl (Nat.le_of_ble_eq_true rfl) dL_law_1461 hS (AE_new hN hS.1) (fun vH1001 H1001 locsH1001 pH1001 zH1001 kH1001 hSH1001 => ?_)
      obtain ⟨x1002, hvH1001, bx1002, G1003, mH1001, hTH1001, m1011, m1012, m1013, q1010, m1014, gq1010, m1015, m1004, m1005, m1006, m1007, m1008, m1009, m1017⟩ := pH1001
      subst hvH1001
      have g1019 : CG (avw K H1001 b) := CG.congr (fun k hk j => av_eff hT kH1001 gb (by decide) (CG_eff [68, 34, 35, 36, 37, 38, 39, 40, 41, 42, 43, 44, 46, 48, 49, 50, 51, 52, 53, 54, 55, 56, 57, 58, 62, 63, 64, 65, 66, 67] (by decide) k hk)) cg
      have g1020 : TU (avw K H1001 b) (svw K H1001 b) := TU.congr (fun k hk j => av_eff hT kH1001 gb (by decide) (TU_eff [68, 34, 35, 36, 37, 38, 39, 40, 41, 42, 43, 44, 46, 48, 49, 50, 51, 52, 53, 54, 55, 56, 57, 58, 62, 63, 64, 65, 66, 67] (by decide) k hk)) (fun k hk => sv_eff hT kH1001 gb (by decide)) tu
      have g1021 : WD (avw K H1001 b) := WD.congr (fun k hk j => av_eff hT kH1001 gb (by decide) (WD_eff [68, 34, 35, 36, 37, 38, 39, 40, 41, 42, 43, 44, 46, 48, 49, 50, 51, 52, 53, 54, 55, 56, 57, 58, 62, 63, 64, 65, 66, 67] (by decide) k hk)) wd
      have g1022 : IM (avw K H1001 b) := IM.congr (fun k hk j => av_eff hT kH1001 gb (by decide) (IM_eff [68, 34, 35, 36, 37, 38, 39, 40, 41, 42, 43, 44, 46, 48, 49, 50, 51, 52, 53, 54, 55, 56, 57, 58, 62, 63, 64, 65, 66, 67] (by decide) k hk)) im
      have f1023 : ∀ j : Nat, fI H1001 tq j = fI H tq j := fun j => (fI_kept (x_lt hT kH1001 gtq (by decide))).trans (ft0 j)
      have f1024 : ∀ j : Nat, fI H1001 uq j = fI H uq j := fun j => (fI_kept (x_lt hT kH1001 guq (by decide))).trans (fu0 j)
      have m1025 := (etb).trans (fI_kept (x_lt hT kH1001 gb (by decide))).symm
      have m1026 := (es1).trans (fI_kept (x_lt hT kH1001 gw (by decide))).symm
      have m1027 := (ey1).trans (fI_kept (x_lt hT kH1001 gb (by decide))).symm
      have m1028 := (es4).trans (fI_kept (x_lt hT kH1001 gw (by decide))).symm
      have m1029 := (ey4).trans (fI_kept (x_lt hT kH1001 gb (by decide))).symm
      have m1030 := (es5).trans (fI_kept (x_lt hT kH1001 gw (by decide))).symm
      have m1031 := (ey5).trans (fI_kept (x_lt hT kH1001 gb (by decide))).symm
      have m1032 := (es10).trans (fI_kept (x_lt hT kH1001 gw (by decide))).symm
      have m1033 := (ey10).trans (fI_kept (x_lt hT kH1001 gb (by decide))).symm
      have m1034 := (es13).trans (fI_kept (x_lt hT kH1001 gw (by decide))).symm
      have m1035 := (ey13).trans (fI_kept (x_lt hT kH1001 gb (by decide))).symm
      have m1036 := (es16).trans (fI_kept (x_lt hT kH1001 gw (by decide))).symm
      have m1037 := (ey16).trans (fI_kept (x_lt hT kH1001 gb (by decide))).symm
      have m1038 := (euq).trans (fR_kept (x_lt hT kH1001 gb (by decide))).symm
      have m1039 := (ehi).trans (fI_kept (x_lt hT kH1001 gb (by decide))).symm
      have m1040 := (eiq).trans (fR_kept (x_lt hT kH1001 gb (by decide))).symm
      have m1041 := (ei1).trans (fI_kept (x_lt hT kH1001 giq (by decide))).symm
      have m1042 := (ei4).trans (fI_kept (x_lt hT kH1001 giq (by decide))).symm
      have m1043 := (ei5).trans (fI_kept (x_lt hT kH1001 giq (by decide))).symm
      have m1044 := (ei10).trans (fI_kept (x_lt hT kH1001 giq (by decide))).symm
      have m1045 := (ei13).trans (fI_kept (x_lt hT kH1001 giq (by decide))).symm
      have m1046 := (ei16).trans (fI_kept (x_lt hT kH1001 giq (by decide))).symm
      have gaH1001 := (mH1001 a (hT.lt ga)).trans ga
      have gbH1001 := (mH1001 b (hT.lt gb)).trans gb
      have gwH1001 := (mH1001 w (hT.lt gw)).trans gw
      have gtqH1001 := (mH1001 tq (hT.lt gtq)).trans gtq
      have guqH1001 := (mH1001 uq (hT.lt guq)).trans guq
      have giqH1001 := (mH1001 iq (hT.lt giq)).trans giq
      have gkqH1001 := (mH1001 kq (hT.lt gkq)).trans gkq
      have hNH1001 : ∀ q, q < s.heap.size → G1003 q = none := fun q hq => (mH1001 q (Nat.lt_of_lt_of_le hq hS.1)).trans (hN q hq)
      obtain ⟨x1047, ex1047⟩ : ∃ z : Int32, z = fI H1001 q1010 (K.1.2 8 1) := ⟨_, rfl⟩
      rw [← ex1047] at m1004
      obtain ⟨x1048, ex1048⟩ : ∃ z : Int32, z = fI H1001 q1010 (K.1.2 8 4) := ⟨_, rfl⟩
      rw [← ex1048] at m1005
      obtain ⟨x1049, ex1049⟩ : ∃ z : Int32, z = fI H1001 q1010 (K.1.2 8 5) := ⟨_, rfl⟩
      rw [← ex1049] at m1006
      obtain ⟨x1050, ex1050⟩ : ∃ z : Int32, z = fI H1001 q1010 (K.1.2 8 10) := ⟨_, rfl⟩
      rw [← ex1050] at m1007
      obtain ⟨x1051, ex1051⟩ : ∃ z : Int32, z = fI H1001 q1010 (K.1.2 8 13) := ⟨_, rfl⟩
      rw [← ex1051] at m1008
      obtain ⟨x1052, ex1052⟩ : ∃ z : Int32, z = fI H1001 q1010 (K.1.2 8 16) := ⟨_, rfl⟩
      rw [← ex1052] at m1009
      refine W.eq (g2 := F0 m 1464 ls [.int x1002]) rfl ?_
      have re1053 : RE K H1001 w b s1.toInt := RE.cls re hT gw gb (fun q t hq ht => x_lt hT kH1001 hq (by first | exact nmr ht (by decide) | exact nmo ht (by decide) | exact nme ht (by decide) | exact nmq ht (by decide) | decide | (intro z; simp only [List.mem_cons, List.not_mem_nil, or_false] at z <;> omega) | omega))
      have rc_ : RE K H1001 q1010 b s1.toInt := RE.cop re1053 m1015 m1017
      refine lv_pop hx hb dL_law_1464 rfl ?_
      refine lv_aload_n hx hb dL_law_1465 rfl (lv_at hl 1 rfl) ?_
      refine lv_aload_n hx hb dL_law_1466 rfl (lv_at hl 3 rfl) ?_
      refine lv_iload_n hx hb dL_law_1467 rfl (lv_at hl 0 rfl) ?_
      refine lv_iconst (v := 1) hx hb dL_law_1468 (by decide) ?_
      refine lv_iadd hx hb dL_law_1469 ?_
      refine lv_topi (fun x1054 ex1054 => ?_)
      obtain ⟨tx1054, ejx1054, evx1054⟩ := lw_ix (k := 1) ex1054 hI hL rfl (by decide)
      clear tx1054
      refine va_sld hx hb hX hbl (Nat.not_le.mpr hbl) hSH1001 (vp_in_iff.mpr evx1054) dL_law_1470 ?_
      refine W.eq (g2 := F0 m 1471 ls [.int (xs (i.toNatClampNeg + 1)), .ref b]) (congrArg (fun z => F0 m 1471 ls [.int (xs z), .ref b]) ejx1054) ?_
      refine lv_if_eq (tgt := 1478) hx hb dL_law_1471 (by decide) (fun c1471 => ?_) (fun c1471 => ?_)
      · skip
        exact absurd c1471 c1453
      · skip
        refine lv_iconst (v := 1) hx hb dL_law_1474 (by decide) ?_
        refine lv_goto (tgt := 1479) hx hb dL_law_1475 (by decide) ?_
        obtain ⟨q1055, eq1055⟩ : ∃ z : Nat, @Eq Ad z (fR H1001 b (K.1.2 10 4)) := ⟨_, rfl⟩
        have gq1055 := ty_fr (q := q1055) (k := 4) (u := 113) eq1055 hTH1001 gbH1001 rg_112 rfl
        obtain ⟨q1056, eq1056⟩ : ∃ z : Nat, @Eq Ad z (fR H1001 b (K.1.2 10 5)) := ⟨_, rfl⟩
        have gq1056 := ty_fr (q := q1056) (k := 5) (u := 114) eq1056 hTH1001 gbH1001 rg_112 rfl
        obtain ⟨q1057, eq1057⟩ : ∃ z : Nat, @Eq Ad z (fR H1001 b (K.1.2 10 6)) := ⟨_, rfl⟩
        have gq1057 := ty_fr (q := q1057) (k := 6) (u := 115) eq1057 hTH1001 gbH1001 rg_112 rfl
        obtain ⟨q1058, eq1058⟩ : ∃ z : Nat, @Eq Ad z (fR H1001 b (K.1.2 10 7)) := ⟨_, rfl⟩
        have gq1058 := ty_fr (q := q1058) (k := 7) (u := 116) eq1058 hTH1001 gbH1001 rg_112 rfl
        obtain ⟨q1059, eq1059⟩ : ∃ z : Nat, @Eq Ad z (fR H1001 b (K.1.2 10 8)) := ⟨_, rfl⟩
        have gq1059 := ty_fr (q := q1059) (k := 8) (u := 117) eq1059 hTH1001 gbH1001 rg_112 rfl
        obtain ⟨q1060, eq1060⟩ : ∃ z : Nat, @Eq Ad z (fR H1001 b (K.1.2 10 9)) := ⟨_, rfl⟩
        have gq1060 := ty_fr (q := q1060) (k := 9) (u := 118) eq1060 hTH1001 gbH1001 rg_112 rfl
        obtain ⟨q1061, eq1061⟩ : ∃ z : Nat, @Eq Ad z (fR H1001 b (K.1.2 10 10)) := ⟨_, rfl⟩
        have gq1061 := ty_fr (q := q1061) (k := 10) (u := 119) eq1061 hTH1001 gbH1001 rg_112 rfl
        obtain ⟨q1062, eq1062⟩ : ∃ z : Nat, @Eq Ad z (fR H1001 b (K.1.2 10 11)) := ⟨_, rfl⟩
        have gq1062 := ty_fr (q := q1062) (k := 11) (u := 120) eq1062 hTH1001 gbH1001 rg_112 rfl
        obtain ⟨q1063, eq1063⟩ : ∃ z : Nat, @Eq Ad z (fR H1001 b (K.1.2 10 12)) := ⟨_, rfl⟩
        have gq1063 := ty_fr (q := q1063) (k := 12) (u := 121) eq1063 hTH1001 gbH1001 rg_112 rfl
        obtain ⟨q1064, eq1064⟩ : ∃ z : Nat, @Eq Ad z (fR H1001 b (K.1.2 10 13)) := ⟨_, rfl⟩
        have gq1064 := ty_fr (q := q1064) (k := 13) (u := 122) eq1064 hTH1001 gbH1001 rg_112 rfl
        obtain ⟨q1065, eq1065⟩ : ∃ z : Nat, @Eq Ad z (fR H1001 b (K.1.2 10 14)) := ⟨_, rfl⟩
        have gq1065 := ty_fr (q := q1065) (k := 14) (u := 123) eq1065 hTH1001 gbH1001 rg_112 rfl
        obtain ⟨q1066, eq1066⟩ : ∃ z : Nat, @Eq Ad z (fR H1001 b (K.1.2 10 15)) := ⟨_, rfl⟩
        have gq1066 := ty_fr (q := q1066) (k := 15) (u := 124) eq1066 hTH1001 gbH1001 rg_112 rfl
        obtain ⟨q1067, eq1067⟩ : ∃ z : Nat, @Eq Ad z (fR H1001 b (K.1.2 10 16)) := ⟨_, rfl⟩
        have gq1067 := ty_fr (q := q1067) (k := 16) (u := 125) eq1067 hTH1001 gbH1001 rg_112 rfl
        obtain ⟨q1068, eq1068⟩ : ∃ z : Nat, @Eq Ad z (fR H1001 b (K.1.2 10 24)) := ⟨_, rfl⟩
        have gq1068 := ty_fr (q := q1068) (k := 24) (u := 128) eq1068 hTH1001 gbH1001 rg_112 rfl
        obtain ⟨q1069, eq1069⟩ : ∃ z : Nat, @Eq Ad z (fR H1001 b (K.1.2 10 25)) := ⟨_, rfl⟩
        have gq1069 := ty_fr (q := q1069) (k := 25) (u := 129) eq1069 hTH1001 gbH1001 rg_112 rfl
        obtain ⟨q1070, eq1070⟩ : ∃ z : Nat, @Eq Ad z (fR H1001 b (K.1.2 10 26)) := ⟨_, rfl⟩
        have gq1070 := ty_fr (q := q1070) (k := 26) (u := 130) eq1070 hTH1001 gbH1001 rg_112 rfl
        obtain ⟨q1071, eq1071⟩ : ∃ z : Nat, @Eq Ad z (fR H1001 b (K.1.2 10 27)) := ⟨_, rfl⟩
        have gq1071 := ty_fr (q := q1071) (k := 27) (u := 131) eq1071 hTH1001 gbH1001 rg_112 rfl
        obtain ⟨q1072, eq1072⟩ : ∃ z : Nat, @Eq Ad z (fR H1001 b (K.1.2 10 28)) := ⟨_, rfl⟩
        have gq1072 := ty_fr (q := q1072) (k := 28) (u := 132) eq1072 hTH1001 gbH1001 rg_112 rfl
        obtain ⟨q1073, eq1073⟩ : ∃ z : Nat, @Eq Ad z (fR H1001 b (K.1.2 10 29)) := ⟨_, rfl⟩
        have gq1073 := ty_fr (q := q1073) (k := 29) (u := 133) eq1073 hTH1001 gbH1001 rg_112 rfl
        obtain ⟨q1074, eq1074⟩ : ∃ z : Nat, @Eq Ad z (fR H1001 b (K.1.2 10 30)) := ⟨_, rfl⟩
        have gq1074 := ty_fr (q := q1074) (k := 30) (u := 134) eq1074 hTH1001 gbH1001 rg_112 rfl
        obtain ⟨q1075, eq1075⟩ : ∃ z : Nat, @Eq Ad z (fR H1001 b (K.1.2 10 31)) := ⟨_, rfl⟩
        have gq1075 := ty_fr (q := q1075) (k := 31) (u := 135) eq1075 hTH1001 gbH1001 rg_112 rfl
        obtain ⟨q1076, eq1076⟩ : ∃ z : Nat, @Eq Ad z (fR H1001 b (K.1.2 10 32)) := ⟨_, rfl⟩
        have gq1076 := ty_fr (q := q1076) (k := 32) (u := 136) eq1076 hTH1001 gbH1001 rg_112 rfl
        obtain ⟨q1077, eq1077⟩ : ∃ z : Nat, @Eq Ad z (fR H1001 b (K.1.2 10 33)) := ⟨_, rfl⟩
        have gq1077 := ty_fr (q := q1077) (k := 33) (u := 137) eq1077 hTH1001 gbH1001 rg_112 rfl
        obtain ⟨q1078, eq1078⟩ : ∃ z : Nat, @Eq Ad z (fR H1001 b (K.1.2 10 50)) := ⟨_, rfl⟩
        have gq1078 := ty_fr (q := q1078) (k := 50) (u := 146) eq1078 hTH1001 gbH1001 rg_112 rfl
        obtain ⟨q1079, eq1079⟩ : ∃ z : Nat, @Eq Ad z (fR H1001 b (K.1.2 10 51)) := ⟨_, rfl⟩
        have gq1079 := ty_fr (q := q1079) (k := 51) (u := 147) eq1079 hTH1001 gbH1001 rg_112 rfl
        obtain ⟨q1080, eq1080⟩ : ∃ z : Nat, @Eq Ad z (fR H1001 b (K.1.2 10 52)) := ⟨_, rfl⟩
        have gq1080 := ty_fr (q := q1080) (k := 52) (u := 148) eq1080 hTH1001 gbH1001 rg_112 rfl
        obtain ⟨q1081, eq1081⟩ : ∃ z : Nat, @Eq Ad z (fR H1001 b (K.1.2 10 53)) := ⟨_, rfl⟩
        have gq1081 := ty_fr (q := q1081) (k := 53) (u := 149) eq1081 hTH1001 gbH1001 rg_112 rfl
        obtain ⟨q1082, eq1082⟩ : ∃ z : Nat, @Eq Ad z (fR H1001 b (K.1.2 10 54)) := ⟨_, rfl⟩
        have gq1082 := ty_fr (q := q1082) (k := 54) (u := 150) eq1082 hTH1001 gbH1001 rg_112 rfl
        obtain ⟨q1083, eq1083⟩ : ∃ z : Nat, @Eq Ad z (fR H1001 b (K.1.2 10 60)) := ⟨_, rfl⟩
        have gq1083 := ty_fr (q := q1083) (k := 60) (u := 154) eq1083 hTH1001 gbH1001 rg_112 rfl
        obtain ⟨q1084, eq1084⟩ : ∃ z : Nat, @Eq Ad z (fR H1001 b (K.1.2 10 61)) := ⟨_, rfl⟩
        have gq1084 := ty_fr (q := q1084) (k := 61) (u := 155) eq1084 hTH1001 gbH1001 rg_112 rfl
        obtain ⟨q1085, eq1085⟩ : ∃ z : Nat, @Eq Ad z (fR H1001 b (K.1.2 10 63)) := ⟨_, rfl⟩
        have gq1085 := ty_fr (q := q1085) (k := 63) (u := 156) eq1085 hTH1001 gbH1001 rg_112 rfl
        obtain ⟨q1086, eq1086⟩ : ∃ z : Nat, @Eq Ad z (fR H1001 b (K.1.2 10 64)) := ⟨_, rfl⟩
        have gq1086 := ty_fr (q := q1086) (k := 64) (u := 157) eq1086 hTH1001 gbH1001 rg_112 rfl
        obtain ⟨q1087, eq1087⟩ : ∃ z : Nat, @Eq Ad z (fR H1001 b (K.1.2 10 66)) := ⟨_, rfl⟩
        have gq1087 := ty_fr (q := q1087) (k := 66) (u := 158) eq1087 hTH1001 gbH1001 rg_112 rfl
        obtain ⟨q1088, eq1088⟩ : ∃ z : Nat, @Eq Ad z (fR H1001 b (K.1.2 10 67)) := ⟨_, rfl⟩
        have gq1088 := ty_fr (q := q1088) (k := 67) (u := 159) eq1088 hTH1001 gbH1001 rg_112 rfl
        refine x_V (As := [.int 1]) (rest := []) C (a_X10_image_g l K G1003 H1001 (1) (hi) (y1) (y4) (y5) (y10) (y13) (y16) hTH1001 gbH1001 (by decide) giqH1001 m1040 gq1055 eq1055 gq1056 eq1056 gq1057 eq1057 gq1058 eq1058 gq1059 eq1059 gq1060 eq1060 gq1061 eq1061 gq1062 eq1062 gq1063 eq1063 gq1064 eq1064 gq1065 eq1065 gq1066 eq1066 gq1067 eq1067 gq1068 eq1068 gq1069 eq1069 gq1070 eq1070 gq1071 eq1071 gq1072 eq1072 gq1073 eq1073 gq1074 eq1074 gq1075 eq1075 gq1076 eq1076 gq1077 eq1077 gq1078 eq1078 gq1079 eq1079 gq1080 eq1080 gq1081 eq1081 gq1082 eq1082 gq1083 eq1083 gq1084 eq1084 gq1085 eq1085 gq1086 eq1086 gq1087 eq1087 gq1088 eq1088 m1039 m1027 m1029 m1031 m1033 m1035 m1037 g1019 g1020 g1021 g1022) yo_X10_image wM_L_157 ⟨⟨by decide, by decide⟩, show _ ≤ 60000 from Nat.le_trans hc (by decide), show _ ≤ 8922250 from Nat.le_trans hs (by decide)⟩ (x_rv C hTH1001 (ci := 10) rfl gbH1001 rg_112) rfl hl.1 rfl (Nat.le_of_ble_eq_true rfl) dL_law_1479 hSH1001 (AE_new hNH1001 hSH1001.1) (fun vH1089 H1089 locsH1089 pH1089 zH1089 kH1089 hSH1089 => ?_)
        obtain ⟨x1090, x1091, x1092, x1093, x1094, x1095, x1096, x1097, hvH1089, bx1090, ex1091, ex1092, ex1093, ex1094, ex1095, ex1096, ex1097, hrH1089, m1098, m1099, m1100, m1101, m1102, m1103, m1104, m1105, m1106, m1107, m1108, m1109, m1110, m1111, m1112, m1113, m1114, m1115, m1116, m1117, m1118, m1119, m1120, m1121, m1122, m1123, m1124, m1125, m1126, m1127, m1128, m1129, m1130, m1131, m1132, g1133, g1134, g1135, g1136, mf1137, m1138, m1139, m1140, m1141, m1142, m1143, m1144, m1145, m1146, m1147, m1148, m1149, m1150, m1151, m1152, m1153, m1154, m1155, m1156, m1157, m1158, m1159, m1160, m1161, m1162, m1163, m1164, m1165, m1166, m1167, m1168, m1169, m1170, m1171, m1172, m1173, m1174, m1175, m1176, m1177, m1178, m1179, m1180, m1181, m1182, m1183, m1184, m1185, m1186, m1187, m1188, m1189, m1190, m1191, m1192, m1193, m1194, m1195, m1196, m1197, m1198, m1199, m1200, m1201, m1202, m1203, m1204, m1205, m1206, m1207, m1208, m1209, m1210, m1211, m1212, m1213, m1214, m1215, m1216, m1217, m1218, m1219, m1220, m1221, m1222, m1223, m1224, m1225, m1226, m1227, m1228, m1229, m1230, m1231, m1232, m1233, m1234, m1235, m1236, m1237, m1238, m1239, m1240, m1241, m1242, hTH1089⟩ := pH1089
        subst hvH1089
        have f1243 : ∀ j : Nat, fI H1089 tq j = fI H tq j := fun j => (fI_kept (x_lt hTH1001 kH1089 gtqH1001 (by decide))).trans (f1023 j)
        have f1244 : ∀ j : Nat, fI H1089 uq j = fI H uq j := fun j => (fI_kept (x_lt hTH1001 kH1089 guqH1001 (by decide))).trans (f1024 j)
        have m1245 := (m1026).trans (fI_kept (x_lt hTH1001 kH1089 gwH1001 (by decide))).symm
        have m1246 := (m1028).trans (fI_kept (x_lt hTH1001 kH1089 gwH1001 (by decide))).symm
        have m1247 := (m1030).trans (fI_kept (x_lt hTH1001 kH1089 gwH1001 (by decide))).symm
        have m1248 := (m1032).trans (fI_kept (x_lt hTH1001 kH1089 gwH1001 (by decide))).symm
        have m1249 := (m1034).trans (fI_kept (x_lt hTH1001 kH1089 gwH1001 (by decide))).symm
        have m1250 := (m1036).trans (fI_kept (x_lt hTH1001 kH1089 gwH1001 (by decide))).symm
        have m1251 := (m1011).trans (fR_kept (x_lt hTH1001 kH1089 gaH1001 (by decide))).symm
        have m1252 := (m1012).trans (fI_kept (x_lt hTH1001 kH1089 gaH1001 (by decide))).symm
        have m1253 := (m1013).trans (fR_kept (x_lt hTH1001 kH1089 gaH1001 (by decide))).symm
        have m1254 := (ex1047).trans (fI_kept (x_lt hTH1001 kH1089 gq1010 (by decide))).symm
        have m1255 := (ex1048).trans (fI_kept (x_lt hTH1001 kH1089 gq1010 (by decide))).symm
        have m1256 := (ex1049).trans (fI_kept (x_lt hTH1001 kH1089 gq1010 (by decide))).symm
        have m1257 := (ex1050).trans (fI_kept (x_lt hTH1001 kH1089 gq1010 (by decide))).symm
        have m1258 := (ex1051).trans (fI_kept (x_lt hTH1001 kH1089 gq1010 (by decide))).symm
        have m1259 := (ex1052).trans (fI_kept (x_lt hTH1001 kH1089 gq1010 (by decide))).symm
        have m1260 := (fV_kept (x_lt hTH1001 kH1089 gaH1001 (by decide))).trans m1014
        have m1261 := (m1025).trans (MF.i mf1137 (k := 18) (by decide) (by decide)).symm
        have m1262 := (m1038).trans (MF.r mf1137 (k := 17) (by decide) (by decide)).symm
        have m1263 := (m1040).trans (MF.r mf1137 (k := 73) (by decide) (by decide)).symm
        have m1264 := (eq1055).trans (MF.r mf1137 (k := 4) (by decide) (by decide)).symm
        have m1265 := (eq1056).trans (MF.r mf1137 (k := 5) (by decide) (by decide)).symm
        have m1266 := (eq1057).trans (MF.r mf1137 (k := 6) (by decide) (by decide)).symm
        have m1267 := (eq1058).trans (MF.r mf1137 (k := 7) (by decide) (by decide)).symm
        have m1268 := (eq1059).trans (MF.r mf1137 (k := 8) (by decide) (by decide)).symm
        have m1269 := (eq1060).trans (MF.r mf1137 (k := 9) (by decide) (by decide)).symm
        have m1270 := (eq1061).trans (MF.r mf1137 (k := 10) (by decide) (by decide)).symm
        have m1271 := (eq1062).trans (MF.r mf1137 (k := 11) (by decide) (by decide)).symm
        have m1272 := (eq1063).trans (MF.r mf1137 (k := 12) (by decide) (by decide)).symm
        have m1273 := (eq1064).trans (MF.r mf1137 (k := 13) (by decide) (by decide)).symm
        have m1274 := (eq1065).trans (MF.r mf1137 (k := 14) (by decide) (by decide)).symm
        have m1275 := (eq1066).trans (MF.r mf1137 (k := 15) (by decide) (by decide)).symm
        have m1276 := (eq1067).trans (MF.r mf1137 (k := 16) (by decide) (by decide)).symm
        have m1277 := (eq1068).trans (MF.r mf1137 (k := 24) (by decide) (by decide)).symm
        have m1278 := (eq1069).trans (MF.r mf1137 (k := 25) (by decide) (by decide)).symm
        have m1279 := (eq1070).trans (MF.r mf1137 (k := 26) (by decide) (by decide)).symm
        have m1280 := (eq1071).trans (MF.r mf1137 (k := 27) (by decide) (by decide)).symm
        have m1281 := (eq1072).trans (MF.r mf1137 (k := 28) (by decide) (by decide)).symm
        have m1282 := (eq1073).trans (MF.r mf1137 (k := 29) (by decide) (by decide)).symm
        have m1283 := (eq1074).trans (MF.r mf1137 (k := 30) (by decide) (by decide)).symm
        have m1284 := (eq1075).trans (MF.r mf1137 (k := 31) (by decide) (by decide)).symm
        have m1285 := (eq1076).trans (MF.r mf1137 (k := 32) (by decide) (by decide)).symm
        have m1286 := (eq1077).trans (MF.r mf1137 (k := 33) (by decide) (by decide)).symm
        have m1287 := (eq1078).trans (MF.r mf1137 (k := 50) (by decide) (by decide)).symm
        have m1288 := (eq1079).trans (MF.r mf1137 (k := 51) (by decide) (by decide)).symm
        have m1289 := (eq1080).trans (MF.r mf1137 (k := 52) (by decide) (by decide)).symm
        have m1290 := (eq1081).trans (MF.r mf1137 (k := 53) (by decide) (by decide)).symm
        have m1291 := (eq1082).trans (MF.r mf1137 (k := 54) (by decide) (by decide)).symm
        have m1292 := (eq1083).trans (MF.r mf1137 (k := 60) (by decide) (by decide)).symm
        have m1293 := (eq1084).trans (MF.r mf1137 (k := 61) (by decide) (by decide)).symm
        have m1294 := (eq1085).trans (MF.r mf1137 (k := 63) (by decide) (by decide)).symm
        have m1295 := (eq1086).trans (MF.r mf1137 (k := 64) (by decide) (by decide)).symm
        have m1296 := (eq1087).trans (MF.r mf1137 (k := 66) (by decide) (by decide)).symm
        have m1297 := (eq1088).trans (MF.r mf1137 (k := 67) (by decide) (by decide)).symm
        have bx1091 := ty_fi (x := x1091) (k := 70) ex1091 hTH1089 gbH1001 rg_112 rfl
        have bx1092 := ty_fi (x := x1092) (k := 1) ex1092 hTH1089 gbH1001 rg_112 rfl
        have bx1093 := ty_fi (x := x1093) (k := 2) ex1093 hTH1089 gbH1001 rg_112 rfl
        have bx1094 := ty_fi (x := x1094) (k := 3) ex1094 hTH1089 gbH1001 rg_112 rfl
        have bx1095 := ty_fi (x := x1095) (k := 59) ex1095 hTH1089 gbH1001 rg_112 rfl
        have bx1096 := ty_fi (x := x1096) (k := 62) ex1096 hTH1089 gbH1001 rg_112 rfl
        have bx1097 := ty_fi (x := x1097) (k := 65) ex1097 hTH1089 gbH1001 rg_112 rfl
        replace m1141 := HD.mk m1141
        replace m1142 := HD.mk m1142
        replace m1143 := HD.mk m1143
        replace m1144 := HD.mk m1144
        replace m1145 := HD.mk m1145
        replace m1146 := HD.mk m1146
        replace m1147 := HD.mk m1147
        replace m1148 := HD.mk m1148
        replace m1149 := HD.mk m1149
        replace m1150 := HD.mk m1150
        replace m1151 := HD.mk m1151
        replace m1152 := HD.mk m1152
        replace m1153 := HD.mk m1153
        replace m1154 := HD.mk m1154
        replace m1155 := HD.mk m1155
        replace m1156 := HD.mk m1156
        replace m1157 := HD.mk m1157
        replace m1158 := HD.mk m1158
        replace m1159 := HD.mk m1159
        replace m1160 := HD.mk m1160
        replace m1161 := HD.mk m1161
        replace m1162 := HD.mk m1162
        replace m1163 := HD.mk m1163
        replace m1164 := HD.mk m1164
        replace m1165 := HD.mk m1165
        replace m1166 := HD.mk m1166
        replace m1167 := HD.mk m1167
        replace m1168 := HD.mk m1168
        replace m1169 := HD.mk m1169
        replace m1170 := HD.mk m1170
        replace m1171 := HD.mk m1171
        replace m1172 := HD.mk m1172
        replace m1173 := HD.mk m1173
        replace m1174 := HD.mk m1174
        replace m1175 := HD.mk m1175
        replace m1176 := HD.mk m1176
        replace m1177 := HD.mk m1177
        replace m1178 := HD.mk m1178
        replace m1179 := HD.mk m1179
        replace m1180 := HD.mk m1180
        replace m1181 := HD.mk m1181
        replace m1182 := HD.mk m1182
        replace m1183 := HD.mk m1183
        replace m1184 := HD.mk m1184
        replace m1185 := HD.mk m1185
        replace m1186 := HD.mk m1186
        replace m1187 := HD.mk m1187
        replace m1188 := HD.mk m1188
        replace m1189 := HD.mk m1189
        replace m1190 := HD.mk m1190
        replace m1191 := HD.mk m1191
        replace m1192 := HD.mk m1192
        replace m1193 := HD.mk m1193
        replace m1194 := HD.mk m1194
        replace m1195 := HD.mk m1195
        replace m1196 := HD.mk m1196
        replace m1197 := HD.mk m1197
        replace m1198 := HD.mk m1198
        replace m1199 := HD.mk m1199
        replace m1200 := HD.mk m1200
        replace m1201 := HD.mk m1201
        replace m1202 := HD.mk m1202
        replace m1203 := HD.mk m1203
        replace m1204 := HD.mk m1204
        replace m1205 := HD.mk m1205
        replace m1206 := HD.mk m1206
        replace m1207 := HD.mk m1207
        replace m1208 := HD.mk m1208
        replace m1209 := HD.mk m1209
        replace m1210 := HD.mk m1210
        replace m1211 := HD.mk m1211
        replace m1212 := HD.mk m1212
        replace m1213 := HD.mk m1213
        replace m1214 := HD.mk m1214
        replace m1215 := HD.mk m1215
        replace m1216 := HD.mk m1216
        replace m1217 := HD.mk m1217
        replace m1218 := HD.mk m1218
        replace m1219 := HD.mk m1219
        replace m1220 := HD.mk m1220
        replace m1221 := HD.mk m1221
        replace m1222 := HD.mk m1222
        replace m1223 := HD.mk m1223
        replace m1224 := HD.mk m1224
        replace m1225 := HD.mk m1225
        replace m1226 := HD.mk m1226
        replace m1227 := HD.mk m1227
        replace m1228 := HD.mk m1228
        replace m1229 := HD.mk m1229
        replace m1230 := HD.mk m1230
        replace m1231 := HD.mk m1231
        replace m1232 := HD.mk m1232
        replace m1233 := HD.mk m1233
        replace m1234 := HD.mk m1234
        replace m1235 := HD.mk m1235
        replace m1236 := HD.mk m1236
        replace m1237 := HD.mk m1237
        replace m1238 := HD.mk m1238
        replace m1239 := HD.mk m1239
        replace m1240 := HD.mk m1240
        replace m1241 := HD.mk m1241
        replace m1242 := HD.mk m1242
        refine W.eq (g2 := F0 m 1482 ls [.int x1090]) rfl ?_
        obtain ⟨j1298, j1299, j1300, j1301, j1302, j1303⟩ := m1138.resolve_left (by omega)
        obtain ⟨j1304, j1305, j1306, j1307, j1308, j1309⟩ := m1139 (by decide)
        replace j1304 := congrArg Int32.toInt j1304
        replace j1305 := congrArg Int32.toInt j1305
        replace j1306 := congrArg Int32.toInt j1306
        replace j1307 := congrArg Int32.toInt j1307
        replace j1308 := congrArg Int32.toInt j1308
        replace j1309 := congrArg Int32.toInt j1309
        have ij1298 : x1092 = fI H1089 iq ((0 : Int32).toNatClampNeg) := j1298
        have ij1299 : x1093 = fI H1089 iq ((1 : Int32).toNatClampNeg) := j1299
        have ij1300 : x1094 = fI H1089 iq ((2 : Int32).toNatClampNeg) := j1300
        have ij1301 : x1095 = fI H1089 iq ((3 : Int32).toNatClampNeg) := j1301
        have ij1302 : x1096 = fI H1089 iq ((4 : Int32).toNatClampNeg) := j1302
        have ij1303 : x1097 = fI H1089 iq ((5 : Int32).toNatClampNeg) := j1303
        have k1_ : ∀ k : Nat, (4 ≤ k ∧ k ≤ 13) ∨ (24 ≤ k ∧ k ≤ 33) → ∀ j : Nat, fI H1089 (fR H1001 b (K.1.2 10 k)) j = fI H1001 (fR H1001 b (K.1.2 10 k)) j := ZRO.row (f := fun k => fR H1001 b (K.1.2 10 k)) (P := fun q => ∀ j : Nat, fI H1089 q j = fI H1001 q j) ⟨(eq1055).symm, (eq1056).symm, (eq1057).symm, (eq1058).symm, (eq1059).symm, (eq1060).symm, (eq1061).symm, (eq1062).symm, (eq1063).symm, (eq1064).symm, (eq1068).symm, (eq1069).symm, (eq1070).symm, (eq1071).symm, (eq1072).symm, (eq1073).symm, (eq1074).symm, (eq1075).symm, (eq1076).symm, (eq1077).symm⟩ ((HD.out m1142) (by decide)) ((HD.out m1145) (by decide)) ((HD.out m1148) (by decide)) ((HD.out m1151) (by decide)) ((HD.out m1154) (by decide)) ((HD.out m1157) (by decide)) ((HD.out m1160) (by decide)) ((HD.out m1163) (by decide)) ((HD.out m1166) (by decide)) ((HD.out m1169) (by decide)) ((HD.out m1181) (by decide)) ((HD.out m1184) (by decide)) ((HD.out m1187) (by decide)) ((HD.out m1190) (by decide)) ((HD.out m1193) (by decide)) ((HD.out m1196) (by decide)) ((HD.out m1199) (by decide)) ((HD.out m1202) (by decide)) ((HD.out m1205) (by decide)) ((HD.out m1208) (by decide))
        have re1310 : RE K H1089 w b s1.toInt := RE.refg re1053 hTH1001 gwH1001 (fun k hk => MF.r mf1137 (by omega) (by intro z; simp only [List.mem_cons, List.not_mem_nil, or_false] at z; omega)) k1_ (fun q t hq ht => x_lt hTH1001 kH1089 hq (by first | exact nmr ht (by decide) | exact nmo ht (by decide) | exact nme ht (by decide) | exact nmq ht (by decide) | decide | (intro z; simp only [List.mem_cons, List.not_mem_nil, or_false] at z <;> omega) | omega))
        have imb_ : IMB K H1089 b iq := IMB.of (by rw [← m1099]; exact (HD.out m1141).resolve_left (by omega)) (by rw [← m1105]; exact (HD.out m1159).resolve_left (by omega)) (by rw [← m1108]; exact (HD.out m1168).resolve_left (by omega)) (by rw [← m1100]; exact (HD.out m1144).resolve_left (by omega)) (by rw [← m1101]; exact (HD.out m1147).resolve_left (by omega)) (by rw [← m1102]; exact (HD.out m1150).resolve_left (by omega)) (by rw [← m1103]; exact (HD.out m1153).resolve_left (by omega)) (by rw [← m1104]; exact (HD.out m1156).resolve_left (by omega)) (by rw [← m1106]; exact (HD.out m1162).resolve_left (by omega)) (by rw [← m1107]; exact (HD.out m1165).resolve_left (by omega))
        have imt_ : IMT K H1089 b iq := ⟨(by rw [← m1112]; exact (HD.out m1180).resolve_left (by omega)), (by rw [← m1113]; exact (HD.out m1183).resolve_left (by omega)), (by rw [← m1114]; exact (HD.out m1186).resolve_left (by omega)), (by rw [← m1115]; exact (HD.out m1189).resolve_left (by omega)), (by rw [← m1116]; exact (HD.out m1192).resolve_left (by omega)), (by rw [← m1117]; exact (HD.out m1195).resolve_left (by omega)), (by rw [← m1118]; exact (HD.out m1198).resolve_left (by omega)), (by rw [← m1119]; exact (HD.out m1201).resolve_left (by omega)), (by rw [← m1120]; exact (HD.out m1204).resolve_left (by omega)), (by rw [← m1121]; exact (HD.out m1207).resolve_left (by omega))⟩
        have rk1311 : RKI K H1089 q1010 iq s1.toInt := RE.ki (RE.refgK rc_ hTH1001 gq1010 (fun k hk => MF.r mf1137 (by omega) (by intro z; simp only [List.mem_cons, List.not_mem_nil, or_false] at z; omega)) k1_ (fun q t hq ht => x_lt hTH1001 kH1089 hq (by first | exact nmr ht (by decide) | exact nmo ht (by decide) | exact nme ht (by decide) | exact nmq ht (by decide) | decide | (intro z; simp only [List.mem_cons, List.not_mem_nil, or_false] at z <;> omega) | omega))) hTH1089 gbH1001 imb_ imt_
        refine lv_pop hx hb dL_law_1482 rfl ?_
        refine lv_goto (tgt := 1509) hx hb dL_law_1483 (by decide) ?_
        exact nx G1003 H1089 locsH1089 _ _ ls ⟨hTH1089, hNH1001, gaH1001, gbH1001, g1133, g1134, g1135, g1136, ⟨(by rw [← m1252, ← m1261]; exact rt), (by rw [← m1251, ← m1245, ← ex1092]; omega), (by rw [← m1251, ← m1246, ← ex1093]; omega), (by rw [← m1251, ← m1247, ← ex1094]; omega), (by rw [← m1251, ← m1248, ← ex1095]; omega), (by rw [← m1251, ← m1249, ← ex1096]; omega), (by rw [← m1251, ← m1250, ← ex1097]; omega)⟩, Or.inr ⟨q1010, m1260, gq1010, (by rw [← ex1091]; omega), (by rw [← m1254, ← m1098, ← ij1298]; omega), (by rw [← m1255, ← m1098, ← ij1299]; omega), (by rw [← m1256, ← m1098, ← ij1300]; omega), (by rw [← m1257, ← m1098, ← ij1301]; omega), (by rw [← m1258, ← m1098, ← ij1302]; omega), (by rw [← m1259, ← m1098, ← ij1303]; omega), (by rw [← m1098, ← m1254]; exact RKI.cast rk1311 (by omega)), (by rw [← m1256]; omega), (by rw [← m1256]; omega)⟩, (by unfold TB; rw [← m1253, ← m1262, ← m1261]; exact TBR.of htr f1243 f1244 (by omega)), (by unfold RELE; rw [← m1251, ← ex1092, ← m1247]; exact ⟨RE.cast re1310 (by omega), by omega, by omega⟩), hSH1089⟩ hl ⟨hc, hs, fun h => by have h1 := h.symm.trans m1260; cases h1⟩