set_option maxRecDepth 100000 in
set_option maxHeartbeats 8000000 in
theorem lw_c30 {p : Program} {l : Launch} {e : Env} {s : State} {m : MethodId} {below : List Frame} {meth : Method} {c : Code} {K : KE} {b0 L : Nat} {xs : Nat → Int32} {G : Nat → Option Nat} {H : Heap} {locs : List Loc} {a b : Nat} {cells slots : Nat} {ls : Array Slot} {i : Int32} {n : Nat} (D : LC p K s m meth c b0 L xs) (S : SX K s G H locs a b) (hl : lv_has ls 4 [(3, .int i), (2, .ref b), (1, .ref a), (0, .ref b0)]) (hi : 0 ≤ i.toInt ∧ i.toInt + 6 ≤ L) (hn : n ≤ 511) (hB : BD K H a cells slots) (nx : ∀ (G : Nat → Option Nat) (H : Heap) (locs : List Loc) (cells slots : Nat) (ls : Array Slot), SX K s G H locs a b → lv_has ls 4 [(3, .int i), (2, .ref b), (1, .ref a), (0, .ref b0)] → BD K H a cells slots → W p l e room_1 s m #[Value.ref b0] below meth c H locs cells slots (lw_Z below #[Value.ref b0] s) (F0 m 1509 ls [])) : W p l e room_1 s m #[Value.ref b0] below meth c H locs cells slots (lw_Z below #[Value.ref b0] s) (F0 m 1348 ls []) := by
  have hI := hi
  obtain ⟨C, hX, hbl, hL⟩ := id D
  obtain ⟨hx, hb, hml, hown, hts, hKT, hr, hlocks, hnm⟩ := id C
  obtain ⟨hT, hN, ga, gb, cg, tu, wd, im, ⟨rt, r1, r4, r5, r10, r13, r16⟩, hk, htb, her, hS⟩ := S
  obtain ⟨hc, hs, hB0⟩ := hB
  have n_1 : (1 : Int32).toInt = 1 := rfl
  have n_2 : (2 : Int32).toInt = 2 := rfl
  obtain ⟨w, ew⟩ : ∃ z : Nat, z = fR H a (K.1.2 9 0) := ⟨_, rfl⟩
  have gw := ty_fr (q := w) (k := 0) (u := 0) ew hT ga rg_68 rfl
  rw [← ew] at r1 r4 r5 r10 r13 r16
  obtain ⟨ta, eta⟩ : ∃ z : Int32, z = fI H a (K.1.2 9 3) := ⟨_, rfl⟩
  rw [← eta] at rt
  obtain ⟨tb, etb⟩ : ∃ z : Int32, z = fI H b (K.1.2 10 18) := ⟨_, rfl⟩
  rw [← etb] at rt
  obtain ⟨s1, es1⟩ : ∃ z : Int32, z = fI H w (K.1.2 8 1) := ⟨_, rfl⟩
  rw [← es1] at r1
  obtain ⟨y1, ey1⟩ : ∃ z : Int32, z = fI H b (K.1.2 10 1) := ⟨_, rfl⟩
  rw [← ey1] at r1
  obtain ⟨s4, es4⟩ : ∃ z : Int32, z = fI H w (K.1.2 8 4) := ⟨_, rfl⟩
  rw [← es4] at r4
  obtain ⟨y4, ey4⟩ : ∃ z : Int32, z = fI H b (K.1.2 10 2) := ⟨_, rfl⟩
  rw [← ey4] at r4
  obtain ⟨s5, es5⟩ : ∃ z : Int32, z = fI H w (K.1.2 8 5) := ⟨_, rfl⟩
  rw [← es5] at r5
  obtain ⟨y5, ey5⟩ : ∃ z : Int32, z = fI H b (K.1.2 10 3) := ⟨_, rfl⟩
  rw [← ey5] at r5
  obtain ⟨s10, es10⟩ : ∃ z : Int32, z = fI H w (K.1.2 8 10) := ⟨_, rfl⟩
  rw [← es10] at r10
  obtain ⟨y10, ey10⟩ : ∃ z : Int32, z = fI H b (K.1.2 10 59) := ⟨_, rfl⟩
  rw [← ey10] at r10
  obtain ⟨s13, es13⟩ : ∃ z : Int32, z = fI H w (K.1.2 8 13) := ⟨_, rfl⟩
  rw [← es13] at r13
  obtain ⟨y13, ey13⟩ : ∃ z : Int32, z = fI H b (K.1.2 10 62) := ⟨_, rfl⟩
  rw [← ey13] at r13
  obtain ⟨s16, es16⟩ : ∃ z : Int32, z = fI H w (K.1.2 8 16) := ⟨_, rfl⟩
  rw [← es16] at r16
  obtain ⟨y16, ey16⟩ : ∃ z : Int32, z = fI H b (K.1.2 10 65) := ⟨_, rfl⟩
  rw [← ey16] at r16
  obtain ⟨tq, etq⟩ : ∃ z : Nat, z = fR H a (K.1.2 9 2) := ⟨_, rfl⟩
  have gtq := ty_fr (q := tq) (k := 2) (u := 108) etq hT ga rg_68 rfl
  obtain ⟨uq, euq⟩ : ∃ z : Nat, z = fR H b (K.1.2 10 17) := ⟨_, rfl⟩
  have guq := ty_fr (q := uq) (k := 17) (u := 126) euq hT gb rg_112 rfl
  have htr : TBR (fun j => fI H tq j) (fun j => fI H uq j) tb.toNatClampNeg := by rw [etq, euq, etb]; exact htb
  have ft0 : ∀ j : Nat, fI H tq j = fI H tq j := fun _ => rfl
  have fu0 : ∀ j : Nat, fI H uq j = fI H uq j := fun _ => rfl
  have bta := ty_fi (x := ta) (k := 3) eta hT ga rg_68 rfl
  have cta := i_cl (x := ta) (by omega)
  have btb := ty_fi (x := tb) (k := 18) etb hT gb rg_112 rfl
  have ctb := i_cl (x := tb) (by omega)
  obtain ⟨her0, hsl1, hsl2⟩ := her
  have hsl0 := And.intro hsl1 hsl2
  clear hsl1 hsl2
  rw [← ew] at her0 hsl0
  have re : RE K H w b s1.toInt := RE.cast her0 (by rw [← ey1]; exact r1)
  have hsl : 0 ≤ s5.toInt ∧ s5.toInt ≤ 9999 := by rw [es5]; exact hsl0
  clear her0 hsl0
  have bt_s1 := ty_fi (x := s1) (k := 1) es1 hT gw rg_0 rfl
  have bt_s4 := ty_fi (x := s4) (k := 4) es4 hT gw rg_0 rfl
  have bt_y1 := ty_fi (x := y1) (k := 1) ey1 hT gb rg_112 rfl
  have bt_y4 := ty_fi (x := y4) (k := 2) ey4 hT gb rg_112 rfl
  rcases hk with ⟨kn, h70⟩ | ⟨kq, kn, gkq, h70, q1, q4, q5, q10, q13, q16, rke, ks1, ks2⟩
  · skip
    obtain ⟨hi, ehi⟩ : ∃ z : Int32, z = fI H b (K.1.2 10 70) := ⟨_, rfl⟩
    rw [← ehi] at h70
    obtain ⟨hc0, hs0⟩ := hB0 kn
    obtain ⟨iq, eiq⟩ : ∃ z : Nat, z = fR H b (K.1.2 10 73) := ⟨_, rfl⟩
    have giq := ty_fr (q := iq) (k := 73) (u := 162) eiq hT gb rg_112 rfl
    refine lv_aload_n hx hb dL_law_1348 rfl (lv_at hl 2 rfl) ?_
    refine lv_aload_n hx hb dL_law_1349 rfl (lv_at hl 3 rfl) ?_
    refine lv_iload_n hx hb dL_law_1350 rfl (lv_at hl 0 rfl) ?_
    refine lv_iconst (v := 1) hx hb dL_law_1351 (by decide) ?_
    refine lv_iadd hx hb dL_law_1352 ?_
    refine lv_topi (fun x101 ex101 => ?_)
    obtain ⟨tx101, ejx101, evx101⟩ := lw_ix (k := 1) ex101 hI hL rfl (by decide)
    clear tx101
    refine va_sld hx hb hX hbl (Nat.not_le.mpr hbl) hS (vp_in_iff.mpr evx101) dL_law_1353 ?_
    refine W.eq (g2 := F0 m 1354 ls [.int (xs (i.toNatClampNeg + 1)), .ref a]) (congrArg (fun z => F0 m 1354 ls [.int (xs z), .ref a]) ejx101) ?_
    refine lv_aload_n hx hb dL_law_1354 rfl (lv_at hl 3 rfl) ?_
    refine lv_iload_n hx hb dL_law_1355 rfl (lv_at hl 0 rfl) ?_
    refine lv_iconst (v := 2) hx hb dL_law_1356 (by decide) ?_
    refine lv_iadd hx hb dL_law_1357 ?_
    refine lv_topi (fun x102 ex102 => ?_)
    obtain ⟨tx102, ejx102, evx102⟩ := lw_ix (k := 2) ex102 hI hL rfl (by decide)
    clear tx102
    refine va_sld hx hb hX hbl (Nat.not_le.mpr hbl) hS (vp_in_iff.mpr evx102) dL_law_1358 ?_
    refine W.eq (g2 := F0 m 1359 ls [.int (xs (i.toNatClampNeg + 2)), .int (xs (i.toNatClampNeg + 1)), .ref a]) (congrArg (fun z => F0 m 1359 ls [.int (xs z), .int (xs (i.toNatClampNeg + 1)), .ref a]) ejx102) ?_
    refine x_V (As := [.int (xs (i.toNatClampNeg + 1)), .int (xs (i.toNatClampNeg + 2))]) (rest := []) C (a_X9_set l K G H ((xs (i.toNatClampNeg + 1))) ((xs (i.toNatClampNeg + 2))) hT ga) yo_X9_set wM_L_141 ⟨⟨by decide, by decide⟩, show _ ≤ 60000 from Nat.le_trans hc (by decide), show _ ≤ 8922250 from Nat.le_trans hs (by decide)⟩ (x_rv C hT (ci := 9) rfl ga rg_68) rfl hl.1 rfl (Nat.le_of_ble_eq_true rfl) dL_law_1359 hS (AE_new hN hS.1) (fun vH103 H103 locsH103 pH103 zH103 kH103 hSH103 => ?_)
    obtain ⟨x104, hvH103, hTH103⟩ := pH103
    subst hvH103
    have g105 : CG (avw K H103 b) := CG.congr (fun k hk j => av_eff hT kH103 gb (by decide) (CG_eff [104, 105, 106, 107] (by decide) k hk)) cg
    have g106 : TU (avw K H103 b) (svw K H103 b) := TU.congr (fun k hk j => av_eff hT kH103 gb (by decide) (TU_eff [104, 105, 106, 107] (by decide) k hk)) (fun k hk => sv_eff hT kH103 gb (by decide)) tu
    have g107 : WD (avw K H103 b) := WD.congr (fun k hk j => av_eff hT kH103 gb (by decide) (WD_eff [104, 105, 106, 107] (by decide) k hk)) wd
    have g108 : IM (avw K H103 b) := IM.congr (fun k hk j => av_eff hT kH103 gb (by decide) (IM_eff [104, 105, 106, 107] (by decide) k hk)) im
    have f109 : ∀ j : Nat, fI H103 tq j = fI H tq j := fun j => (fI_kept (x_lt hT kH103 gtq (by decide))).trans (ft0 j)
    have f110 : ∀ j : Nat, fI H103 uq j = fI H uq j := fun j => (fI_kept (x_lt hT kH103 guq (by decide))).trans (fu0 j)
    have m111 := (ew).trans (fR_kept (x_lt hT kH103 ga (by decide))).symm
    have m112 := (eta).trans (fI_kept (x_lt hT kH103 ga (by decide))).symm
    have m113 := (etb).trans (fI_kept (x_lt hT kH103 gb (by decide))).symm
    have m114 := (es1).trans (fI_kept (x_lt hT kH103 gw (by decide))).symm
    have m115 := (ey1).trans (fI_kept (x_lt hT kH103 gb (by decide))).symm
    have m116 := (es4).trans (fI_kept (x_lt hT kH103 gw (by decide))).symm
    have m117 := (ey4).trans (fI_kept (x_lt hT kH103 gb (by decide))).symm
    have m118 := (es5).trans (fI_kept (x_lt hT kH103 gw (by decide))).symm
    have m119 := (ey5).trans (fI_kept (x_lt hT kH103 gb (by decide))).symm
    have m120 := (es10).trans (fI_kept (x_lt hT kH103 gw (by decide))).symm
    have m121 := (ey10).trans (fI_kept (x_lt hT kH103 gb (by decide))).symm
    have m122 := (es13).trans (fI_kept (x_lt hT kH103 gw (by decide))).symm
    have m123 := (ey13).trans (fI_kept (x_lt hT kH103 gb (by decide))).symm
    have m124 := (es16).trans (fI_kept (x_lt hT kH103 gw (by decide))).symm
    have m125 := (ey16).trans (fI_kept (x_lt hT kH103 gb (by decide))).symm
    have m126 := (etq).trans (fR_kept (x_lt hT kH103 ga (by decide))).symm
    have m127 := (euq).trans (fR_kept (x_lt hT kH103 gb (by decide))).symm
    have m128 := (ehi).trans (fI_kept (x_lt hT kH103 gb (by decide))).symm
    have m129 := (fV_kept (x_lt hT kH103 ga (by decide))).trans kn
    have m130 := (eiq).trans (fR_kept (x_lt hT kH103 gb (by decide))).symm
    refine W.eq (g2 := F0 m 1362 ls [.int x104]) rfl ?_
    have re131 : RE K H103 w b s1.toInt := RE.cls re hT gw gb (fun q t hq ht => x_lt hT kH103 hq (by first | exact nmr ht (by decide) | exact nmo ht (by decide) | exact nme ht (by decide) | exact nmq ht (by decide) | decide | (intro z; simp only [List.mem_cons, List.not_mem_nil, or_false] at z <;> omega) | omega))
    refine lv_pop hx hb dL_law_1362 rfl ?_
    refine lv_aload_n hx hb dL_law_1363 rfl (lv_at hl 1 rfl) ?_
    refine lv_aload_n hx hb dL_law_1364 rfl (lv_at hl 3 rfl) ?_
    refine lv_iload_n hx hb dL_law_1365 rfl (lv_at hl 0 rfl) ?_
    refine lv_iconst (v := 1) hx hb dL_law_1366 (by decide) ?_
    refine lv_iadd hx hb dL_law_1367 ?_
    refine lv_topi (fun x132 ex132 => ?_)
    obtain ⟨tx132, ejx132, evx132⟩ := lw_ix (k := 1) ex132 hI hL rfl (by decide)
    clear tx132
    refine va_sld hx hb hX hbl (Nat.not_le.mpr hbl) hSH103 (vp_in_iff.mpr evx132) dL_law_1368 ?_
    refine W.eq (g2 := F0 m 1369 ls [.int (xs (i.toNatClampNeg + 1)), .ref b]) (congrArg (fun z => F0 m 1369 ls [.int (xs z), .ref b]) ejx132) ?_
    refine lv_aload_n hx hb dL_law_1369 rfl (lv_at hl 3 rfl) ?_
    refine lv_iload_n hx hb dL_law_1370 rfl (lv_at hl 0 rfl) ?_
    refine lv_iconst (v := 2) hx hb dL_law_1371 (by decide) ?_
    refine lv_iadd hx hb dL_law_1372 ?_
    refine lv_topi (fun x133 ex133 => ?_)
    obtain ⟨tx133, ejx133, evx133⟩ := lw_ix (k := 2) ex133 hI hL rfl (by decide)
    clear tx133
    refine va_sld hx hb hX hbl (Nat.not_le.mpr hbl) hSH103 (vp_in_iff.mpr evx133) dL_law_1373 ?_
    refine W.eq (g2 := F0 m 1374 ls [.int (xs (i.toNatClampNeg + 2)), .int (xs (i.toNatClampNeg + 1)), .ref b]) (congrArg (fun z => F0 m 1374 ls [.int (xs z), .int (xs (i.toNatClampNeg + 1)), .ref b]) ejx133) ?_
    refine x_V (As := [.int (xs (i.toNatClampNeg + 1)), .int (xs (i.toNatClampNeg + 2))]) (rest := []) C (a_X10_set l K G H103 ((xs (i.toNatClampNeg + 1))) ((xs (i.toNatClampNeg + 2))) hTH103 gb g105 g106 g107 g108) yo_X10_set wM_L_144 ⟨⟨by decide, by decide⟩, show _ ≤ 60000 from Nat.le_trans hc (by decide), show _ ≤ 8922250 from Nat.le_trans hs (by decide)⟩ (x_rv C hTH103 (ci := 10) rfl gb rg_112) rfl hl.1 rfl (Nat.le_of_ble_eq_true rfl) dL_law_1374 hSH103 (AE_new hN hSH103.1) (fun vH134 H134 locsH134 pH134 zH134 kH134 hSH134 => ?_)
    obtain ⟨x135, hvH134, g136, g137, g138, g139, mf140, hTH134⟩ := pH134
    subst hvH134
    have f141 : ∀ j : Nat, fI H134 tq j = fI H tq j := fun j => (fI_kept (x_lt hTH103 kH134 gtq (by decide))).trans (f109 j)
    have f142 : ∀ j : Nat, fI H134 uq j = fI H uq j := fun j => (fI_kept (x_lt hTH103 kH134 guq (by decide))).trans (f110 j)
    have m143 := (m111).trans (fR_kept (x_lt hTH103 kH134 ga (by decide))).symm
    have m144 := (m112).trans (fI_kept (x_lt hTH103 kH134 ga (by decide))).symm
    have m145 := (m114).trans (fI_kept (x_lt hTH103 kH134 gw (by decide))).symm
    have m146 := (m116).trans (fI_kept (x_lt hTH103 kH134 gw (by decide))).symm
    have m147 := (m118).trans (fI_kept (x_lt hTH103 kH134 gw (by decide))).symm
    have m148 := (m120).trans (fI_kept (x_lt hTH103 kH134 gw (by decide))).symm
    have m149 := (m122).trans (fI_kept (x_lt hTH103 kH134 gw (by decide))).symm
    have m150 := (m124).trans (fI_kept (x_lt hTH103 kH134 gw (by decide))).symm
    have m151 := (m126).trans (fR_kept (x_lt hTH103 kH134 ga (by decide))).symm
    have m152 := (fV_kept (x_lt hTH103 kH134 ga (by decide))).trans m129
    have m153 := (m113).trans (MF.i mf140 (k := 18) (by decide) (by decide)).symm
    have m154 := (m115).trans (MF.i mf140 (k := 1) (by decide) (by decide)).symm
    have m155 := (m117).trans (MF.i mf140 (k := 2) (by decide) (by decide)).symm
    have m156 := (m119).trans (MF.i mf140 (k := 3) (by decide) (by decide)).symm
    have m157 := (m121).trans (MF.i mf140 (k := 59) (by decide) (by decide)).symm
    have m158 := (m123).trans (MF.i mf140 (k := 62) (by decide) (by decide)).symm
    have m159 := (m125).trans (MF.i mf140 (k := 65) (by decide) (by decide)).symm
    have m160 := (m127).trans (MF.r mf140 (k := 17) (by decide) (by decide)).symm
    have m161 := (m128).trans (MF.i mf140 (k := 70) (by decide) (by decide)).symm
    have m162 := (m130).trans (MF.r mf140 (k := 73) (by decide) (by decide)).symm
    refine W.eq (g2 := F0 m 1377 ls [.int x135]) rfl ?_
    have re163 : RE K H134 w b s1.toInt := RE.ref re131 hTH103 gw gb (fun k hk => MF.r mf140 (by omega) (by intro z; simp only [List.mem_cons, List.not_mem_nil, or_false] at z; omega)) (fun q t hq ht => x_lt hTH103 kH134 hq (by first | exact nmr ht (by decide) | exact nmo ht (by decide) | exact nme ht (by decide) | exact nmq ht (by decide) | decide | (intro z; simp only [List.mem_cons, List.not_mem_nil, or_false] at z <;> omega) | omega))
    refine lv_pop hx hb dL_law_1377 rfl ?_
    refine lv_goto (tgt := 1509) hx hb dL_law_1378 (by decide) ?_
    exact nx G H134 locsH134 _ _ ls ⟨hTH134, hN, ga, gb, g136, g137, g138, g139, ⟨(by rw [← m144, ← m153]; exact rt), (by rw [← m143, ← m145, ← m154]; exact r1), (by rw [← m143, ← m146, ← m155]; exact r4), (by rw [← m143, ← m147, ← m156]; exact r5), (by rw [← m143, ← m148, ← m157]; exact r10), (by rw [← m143, ← m149, ← m158]; exact r13), (by rw [← m143, ← m150, ← m159]; exact r16)⟩, Or.inl ⟨m152, (by rw [← m161]; exact h70)⟩, (by unfold TB; rw [← m151, ← m160, ← m153]; exact TBR.of htr f141 f142 (by omega)), (by unfold RELE; rw [← m143, ← m154, ← m147]; exact ⟨RE.cast re163 (by omega), by omega, by omega⟩), hSH134⟩ hl ⟨hc, hs, fun _ => ⟨hc0, hs0⟩⟩
  · skip
    obtain ⟨hi, ehi⟩ : ∃ z : Int32, z = fI H b (K.1.2 10 70) := ⟨_, rfl⟩
    rw [← ehi] at h70
    obtain ⟨iq, eiq⟩ : ∃ z : Nat, z = fR H b (K.1.2 10 73) := ⟨_, rfl⟩
    have giq := ty_fr (q := iq) (k := 73) (u := 162) eiq hT gb rg_112 rfl
    rw [← eiq] at q1 q4 q5 q10 q13 q16
    obtain ⟨k1, ek1⟩ : ∃ z : Int32, z = fI H kq (K.1.2 8 1) := ⟨_, rfl⟩
    rw [← ek1] at q1
    obtain ⟨i1, ei1⟩ : ∃ z : Int32, z = fI H iq ((0 : Int32).toNatClampNeg) := ⟨_, rfl⟩
    rw [← ei1] at q1
    obtain ⟨k4, ek4⟩ : ∃ z : Int32, z = fI H kq (K.1.2 8 4) := ⟨_, rfl⟩
    rw [← ek4] at q4
    obtain ⟨i4, ei4⟩ : ∃ z : Int32, z = fI H iq ((1 : Int32).toNatClampNeg) := ⟨_, rfl⟩
    rw [← ei4] at q4
    obtain ⟨k5, ek5⟩ : ∃ z : Int32, z = fI H kq (K.1.2 8 5) := ⟨_, rfl⟩
    rw [← ek5] at q5
    obtain ⟨i5, ei5⟩ : ∃ z : Int32, z = fI H iq ((2 : Int32).toNatClampNeg) := ⟨_, rfl⟩
    rw [← ei5] at q5
    obtain ⟨k10, ek10⟩ : ∃ z : Int32, z = fI H kq (K.1.2 8 10) := ⟨_, rfl⟩
    rw [← ek10] at q10
    obtain ⟨i10, ei10⟩ : ∃ z : Int32, z = fI H iq ((3 : Int32).toNatClampNeg) := ⟨_, rfl⟩
    rw [← ei10] at q10
    obtain ⟨k13, ek13⟩ : ∃ z : Int32, z = fI H kq (K.1.2 8 13) := ⟨_, rfl⟩
    rw [← ek13] at q13
    obtain ⟨i13, ei13⟩ : ∃ z : Int32, z = fI H iq ((4 : Int32).toNatClampNeg) := ⟨_, rfl⟩
    rw [← ei13] at q13
    obtain ⟨k16, ek16⟩ : ∃ z : Int32, z = fI H kq (K.1.2 8 16) := ⟨_, rfl⟩
    rw [← ek16] at q16
    obtain ⟨i16, ei16⟩ : ∃ z : Int32, z = fI H iq ((5 : Int32).toNatClampNeg) := ⟨_, rfl⟩
    rw [← ei16] at q16
    rw [← eiq, ← ek1] at rke
    have hsk : 0 ≤ k5.toInt ∧ k5.toInt ≤ 9999 := by rw [ek5]; exact ⟨ks1, ks2⟩
    refine lv_aload_n hx hb dL_law_1348 rfl (lv_at hl 2 rfl) ?_
    refine lv_aload_n hx hb dL_law_1349 rfl (lv_at hl 3 rfl) ?_
    refine lv_iload_n hx hb dL_law_1350 rfl (lv_at hl 0 rfl) ?_
    refine lv_iconst (v := 1) hx hb dL_law_1351 (by decide) ?_
    refine lv_iadd hx hb dL_law_1352 ?_
    refine lv_topi (fun x164 ex164 => ?_)
    obtain ⟨tx164, ejx164, evx164⟩ := lw_ix (k := 1) ex164 hI hL rfl (by decide)
    clear tx164
    refine va_sld hx hb hX hbl (Nat.not_le.mpr hbl) hS (vp_in_iff.mpr evx164) dL_law_1353 ?_
    refine W.eq (g2 := F0 m 1354 ls [.int (xs (i.toNatClampNeg + 1)), .ref a]) (congrArg (fun z => F0 m 1354 ls [.int (xs z), .ref a]) ejx164) ?_
    refine lv_aload_n hx hb dL_law_1354 rfl (lv_at hl 3 rfl) ?_
    refine lv_iload_n hx hb dL_law_1355 rfl (lv_at hl 0 rfl) ?_
    refine lv_iconst (v := 2) hx hb dL_law_1356 (by decide) ?_
    refine lv_iadd hx hb dL_law_1357 ?_
    refine lv_topi (fun x165 ex165 => ?_)
    obtain ⟨tx165, ejx165, evx165⟩ := lw_ix (k := 2) ex165 hI hL rfl (by decide)
    clear tx165
    refine va_sld hx hb hX hbl (Nat.not_le.mpr hbl) hS (vp_in_iff.mpr evx165) dL_law_1358 ?_
    refine W.eq (g2 := F0 m 1359 ls [.int (xs (i.toNatClampNeg + 2)), .int (xs (i.toNatClampNeg + 1)), .ref a]) (congrArg (fun z => F0 m 1359 ls [.int (xs z), .int (xs (i.toNatClampNeg + 1)), .ref a]) ejx165) ?_
    refine x_V (As := [.int (xs (i.toNatClampNeg + 1)), .int (xs (i.toNatClampNeg + 2))]) (rest := []) C (a_X9_set l K G H ((xs (i.toNatClampNeg + 1))) ((xs (i.toNatClampNeg + 2))) hT ga) yo_X9_set wM_L_141 ⟨⟨by decide, by decide⟩, show _ ≤ 60000 from Nat.le_trans hc (by decide), show _ ≤ 8922250 from Nat.le_trans hs (by decide)⟩ (x_rv C hT (ci := 9) rfl ga rg_68) rfl hl.1 rfl (Nat.le_of_ble_eq_true rfl) dL_law_1359 hS (AE_new hN hS.1) (fun vH166 H166 locsH166 pH166 zH166 kH166 hSH166 => ?_)
    obtain ⟨x167, hvH166, hTH166⟩ := pH166
    subst hvH166
    have g168 : CG (avw K H166 b) := CG.congr (fun k hk j => av_eff hT kH166 gb (by decide) (CG_eff [104, 105, 106, 107] (by decide) k hk)) cg
    have g169 : TU (avw K H166 b) (svw K H166 b) := TU.congr (fun k hk j => av_eff hT kH166 gb (by decide) (TU_eff [104, 105, 106, 107] (by decide) k hk)) (fun k hk => sv_eff hT kH166 gb (by decide)) tu
    have g170 : WD (avw K H166 b) := WD.congr (fun k hk j => av_eff hT kH166 gb (by decide) (WD_eff [104, 105, 106, 107] (by decide) k hk)) wd
    have g171 : IM (avw K H166 b) := IM.congr (fun k hk j => av_eff hT kH166 gb (by decide) (IM_eff [104, 105, 106, 107] (by decide) k hk)) im
    have f172 : ∀ j : Nat, fI H166 tq j = fI H tq j := fun j => (fI_kept (x_lt hT kH166 gtq (by decide))).trans (ft0 j)
    have f173 : ∀ j : Nat, fI H166 uq j = fI H uq j := fun j => (fI_kept (x_lt hT kH166 guq (by decide))).trans (fu0 j)
    have m174 := (ew).trans (fR_kept (x_lt hT kH166 ga (by decide))).symm
    have m175 := (eta).trans (fI_kept (x_lt hT kH166 ga (by decide))).symm
    have m176 := (etb).trans (fI_kept (x_lt hT kH166 gb (by decide))).symm
    have m177 := (es1).trans (fI_kept (x_lt hT kH166 gw (by decide))).symm
    have m178 := (ey1).trans (fI_kept (x_lt hT kH166 gb (by decide))).symm
    have m179 := (es4).trans (fI_kept (x_lt hT kH166 gw (by decide))).symm
    have m180 := (ey4).trans (fI_kept (x_lt hT kH166 gb (by decide))).symm
    have m181 := (es5).trans (fI_kept (x_lt hT kH166 gw (by decide))).symm
    have m182 := (ey5).trans (fI_kept (x_lt hT kH166 gb (by decide))).symm
    have m183 := (es10).trans (fI_kept (x_lt hT kH166 gw (by decide))).symm
    have m184 := (ey10).trans (fI_kept (x_lt hT kH166 gb (by decide))).symm
    have m185 := (es13).trans (fI_kept (x_lt hT kH166 gw (by decide))).symm
    have m186 := (ey13).trans (fI_kept (x_lt hT kH166 gb (by decide))).symm
    have m187 := (es16).trans (fI_kept (x_lt hT kH166 gw (by decide))).symm
    have m188 := (ey16).trans (fI_kept (x_lt hT kH166 gb (by decide))).symm
    have m189 := (etq).trans (fR_kept (x_lt hT kH166 ga (by decide))).symm
    have m190 := (euq).trans (fR_kept (x_lt hT kH166 gb (by decide))).symm
    have m191 := (ehi).trans (fI_kept (x_lt hT kH166 gb (by decide))).symm
    have m192 := (fV_kept (x_lt hT kH166 ga (by decide))).trans kn
    have m193 := (eiq).trans (fR_kept (x_lt hT kH166 gb (by decide))).symm
    have m194 := (ek1).trans (fI_kept (x_lt hT kH166 gkq (by decide))).symm
    have m195 := (ei1).trans (fI_kept (x_lt hT kH166 giq (by decide))).symm
    have m196 := (ek4).trans (fI_kept (x_lt hT kH166 gkq (by decide))).symm
    have m197 := (ei4).trans (fI_kept (x_lt hT kH166 giq (by decide))).symm
    have m198 := (ek5).trans (fI_kept (x_lt hT kH166 gkq (by decide))).symm
    have m199 := (ei5).trans (fI_kept (x_lt hT kH166 giq (by decide))).symm
    have m200 := (ek10).trans (fI_kept (x_lt hT kH166 gkq (by decide))).symm
    have m201 := (ei10).trans (fI_kept (x_lt hT kH166 giq (by decide))).symm
    have m202 := (ek13).trans (fI_kept (x_lt hT kH166 gkq (by decide))).symm
    have m203 := (ei13).trans (fI_kept (x_lt hT kH166 giq (by decide))).symm
    have m204 := (ek16).trans (fI_kept (x_lt hT kH166 gkq (by decide))).symm
    have m205 := (ei16).trans (fI_kept (x_lt hT kH166 giq (by decide))).symm
    refine W.eq (g2 := F0 m 1362 ls [.int x167]) rfl ?_
    have rk206 : RKI K H166 kq iq k1.toInt := RKI.kept rke hT gkq (x_lt hT kH166 giq (by first | exact nmr ht (by decide) | exact nmo ht (by decide) | exact nme ht (by decide) | exact nmq ht (by decide) | decide | (intro z; simp only [List.mem_cons, List.not_mem_nil, or_false] at z <;> omega) | omega)) (fun q t hq ht => x_lt hT kH166 hq (by first | exact nmr ht (by decide) | exact nmo ht (by decide) | exact nme ht (by decide) | exact nmq ht (by decide) | decide | (intro z; simp only [List.mem_cons, List.not_mem_nil, or_false] at z <;> omega) | omega))
    have re207 : RE K H166 w b s1.toInt := RE.cls re hT gw gb (fun q t hq ht => x_lt hT kH166 hq (by first | exact nmr ht (by decide) | exact nmo ht (by decide) | exact nme ht (by decide) | exact nmq ht (by decide) | decide | (intro z; simp only [List.mem_cons, List.not_mem_nil, or_false] at z <;> omega) | omega))
    refine lv_pop hx hb dL_law_1362 rfl ?_
    refine lv_aload_n hx hb dL_law_1363 rfl (lv_at hl 1 rfl) ?_
    refine lv_aload_n hx hb dL_law_1364 rfl (lv_at hl 3 rfl) ?_
    refine lv_iload_n hx hb dL_law_1365 rfl (lv_at hl 0 rfl) ?_
    refine lv_iconst (v := 1) hx hb dL_law_1366 (by decide) ?_
    refine lv_iadd hx hb dL_law_1367 ?_
    refine lv_topi (fun x208 ex208 => ?_)
    obtain ⟨tx208, ejx208, evx208⟩ := lw_ix (k := 1) ex208 hI hL rfl (by decide)
    clear tx208
    refine va_sld hx hb hX hbl (Nat.not_le.mpr hbl) hSH166 (vp_in_iff.mpr evx208) dL_law_1368 ?_
    refine W.eq (g2 := F0 m 1369 ls [.int (xs (i.toNatClampNeg + 1)), .ref b]) (congrArg (fun z => F0 m 1369 ls [.int (xs z), .ref b]) ejx208) ?_
    refine lv_aload_n hx hb dL_law_1369 rfl (lv_at hl 3 rfl) ?_
    refine lv_iload_n hx hb dL_law_1370 rfl (lv_at hl 0 rfl) ?_
    refine lv_iconst (v := 2) hx hb dL_law_1371 (by decide) ?_
    refine lv_iadd hx hb dL_law_1372 ?_
    refine lv_topi (fun x209 ex209 => ?_)
    obtain ⟨tx209, ejx209, evx209⟩ := lw_ix (k := 2) ex209 hI hL rfl (by decide)
    clear tx209
    refine va_sld hx hb hX hbl (Nat.not_le.mpr hbl) hSH166 (vp_in_iff.mpr evx209) dL_law_1373 ?_
    refine W.eq (g2 := F0 m 1374 ls [.int (xs (i.toNatClampNeg + 2)), .int (xs (i.toNatClampNeg + 1)), .ref b]) (congrArg (fun z => F0 m 1374 ls [.int (xs z), .int (xs (i.toNatClampNeg + 1)), .ref b]) ejx209) ?_
    refine x_V (As := [.int (xs (i.toNatClampNeg + 1)), .int (xs (i.toNatClampNeg + 2))]) (rest := []) C (a_X10_set l K G H166 ((xs (i.toNatClampNeg + 1))) ((xs (i.toNatClampNeg + 2))) hTH166 gb g168 g169 g170 g171) yo_X10_set wM_L_144 ⟨⟨by decide, by decide⟩, show _ ≤ 60000 from Nat.le_trans hc (by decide), show _ ≤ 8922250 from Nat.le_trans hs (by decide)⟩ (x_rv C hTH166 (ci := 10) rfl gb rg_112) rfl hl.1 rfl (Nat.le_of_ble_eq_true rfl) dL_law_1374 hSH166 (AE_new hN hSH166.1) (fun vH210 H210 locsH210 pH210 zH210 kH210 hSH210 => ?_)
    obtain ⟨x211, hvH210, g212, g213, g214, g215, mf216, hTH210⟩ := pH210
    subst hvH210
    have f217 : ∀ j : Nat, fI H210 tq j = fI H tq j := fun j => (fI_kept (x_lt hTH166 kH210 gtq (by decide))).trans (f172 j)
    have f218 : ∀ j : Nat, fI H210 uq j = fI H uq j := fun j => (fI_kept (x_lt hTH166 kH210 guq (by decide))).trans (f173 j)
    have m219 := (m174).trans (fR_kept (x_lt hTH166 kH210 ga (by decide))).symm
    have m220 := (m175).trans (fI_kept (x_lt hTH166 kH210 ga (by decide))).symm
    have m221 := (m177).trans (fI_kept (x_lt hTH166 kH210 gw (by decide))).symm
    have m222 := (m179).trans (fI_kept (x_lt hTH166 kH210 gw (by decide))).symm
    have m223 := (m181).trans (fI_kept (x_lt hTH166 kH210 gw (by decide))).symm
    have m224 := (m183).trans (fI_kept (x_lt hTH166 kH210 gw (by decide))).symm
    have m225 := (m185).trans (fI_kept (x_lt hTH166 kH210 gw (by decide))).symm
    have m226 := (m187).trans (fI_kept (x_lt hTH166 kH210 gw (by decide))).symm
    have m227 := (m189).trans (fR_kept (x_lt hTH166 kH210 ga (by decide))).symm
    have m228 := (fV_kept (x_lt hTH166 kH210 ga (by decide))).trans m192
    have m229 := (m194).trans (fI_kept (x_lt hTH166 kH210 gkq (by decide))).symm
    have m230 := (m195).trans (fI_kept (x_lt hTH166 kH210 giq (by decide))).symm
    have m231 := (m196).trans (fI_kept (x_lt hTH166 kH210 gkq (by decide))).symm
    have m232 := (m197).trans (fI_kept (x_lt hTH166 kH210 giq (by decide))).symm
    have m233 := (m198).trans (fI_kept (x_lt hTH166 kH210 gkq (by decide))).symm
    have m234 := (m199).trans (fI_kept (x_lt hTH166 kH210 giq (by decide))).symm
    have m235 := (m200).trans (fI_kept (x_lt hTH166 kH210 gkq (by decide))).symm
    have m236 := (m201).trans (fI_kept (x_lt hTH166 kH210 giq (by decide))).symm
    have m237 := (m202).trans (fI_kept (x_lt hTH166 kH210 gkq (by decide))).symm
    have m238 := (m203).trans (fI_kept (x_lt hTH166 kH210 giq (by decide))).symm
    have m239 := (m204).trans (fI_kept (x_lt hTH166 kH210 gkq (by decide))).symm
    have m240 := (m205).trans (fI_kept (x_lt hTH166 kH210 giq (by decide))).symm
    have m241 := (m176).trans (MF.i mf216 (k := 18) (by decide) (by decide)).symm
    have m242 := (m178).trans (MF.i mf216 (k := 1) (by decide) (by decide)).symm
    have m243 := (m180).trans (MF.i mf216 (k := 2) (by decide) (by decide)).symm
    have m244 := (m182).trans (MF.i mf216 (k := 3) (by decide) (by decide)).symm
    have m245 := (m184).trans (MF.i mf216 (k := 59) (by decide) (by decide)).symm
    have m246 := (m186).trans (MF.i mf216 (k := 62) (by decide) (by decide)).symm
    have m247 := (m188).trans (MF.i mf216 (k := 65) (by decide) (by decide)).symm
    have m248 := (m190).trans (MF.r mf216 (k := 17) (by decide) (by decide)).symm
    have m249 := (m191).trans (MF.i mf216 (k := 70) (by decide) (by decide)).symm
    have m250 := (m193).trans (MF.r mf216 (k := 73) (by decide) (by decide)).symm
    refine W.eq (g2 := F0 m 1377 ls [.int x211]) rfl ?_
    have rk251 : RKI K H210 kq iq k1.toInt := RKI.kept rk206 hTH166 gkq (x_lt hTH166 kH210 giq (by first | exact nmr ht (by decide) | exact nmo ht (by decide) | exact nme ht (by decide) | exact nmq ht (by decide) | decide | (intro z; simp only [List.mem_cons, List.not_mem_nil, or_false] at z <;> omega) | omega)) (fun q t hq ht => x_lt hTH166 kH210 hq (by first | exact nmr ht (by decide) | exact nmo ht (by decide) | exact nme ht (by decide) | exact nmq ht (by decide) | decide | (intro z; simp only [List.mem_cons, List.not_mem_nil, or_false] at z <;> omega) | omega))
    have re252 : RE K H210 w b s1.toInt := RE.ref re207 hTH166 gw gb (fun k hk => MF.r mf216 (by omega) (by intro z; simp only [List.mem_cons, List.not_mem_nil, or_false] at z; omega)) (fun q t hq ht => x_lt hTH166 kH210 hq (by first | exact nmr ht (by decide) | exact nmo ht (by decide) | exact nme ht (by decide) | exact nmq ht (by decide) | decide | (intro z; simp only [List.mem_cons, List.not_mem_nil, or_false] at z <;> omega) | omega))
    refine lv_pop hx hb dL_law_1377 rfl ?_
    refine lv_goto (tgt := 1509) hx hb dL_law_1378 (by decide) ?_
    exact nx G H210 locsH210 _ _ ls ⟨hTH210, hN, ga, gb, g212, g213, g214, g215, ⟨(by rw [← m220, ← m241]; exact rt), (by rw [← m219, ← m221, ← m242]; exact r1), (by rw [← m219, ← m222, ← m243]; exact r4), (by rw [← m219, ← m223, ← m244]; exact r5), (by rw [← m219, ← m224, ← m245]; exact r10), (by rw [← m219, ← m225, ← m246]; exact r13), (by rw [← m219, ← m226, ← m247]; exact r16)⟩, Or.inr ⟨kq, m228, gkq, (by rw [← m249]; exact h70), (by rw [← m229, ← m250, ← m230]; exact q1), (by rw [← m231, ← m250, ← m232]; exact q4), (by rw [← m233, ← m250, ← m234]; exact q5), (by rw [← m235, ← m250, ← m236]; exact q10), (by rw [← m237, ← m250, ← m238]; exact q13), (by rw [← m239, ← m250, ← m240]; exact q16), (by rw [← m250, ← m229]; exact RKI.cast rk251 (by omega)), (by rw [← m233]; omega), (by rw [← m233]; omega)⟩, (by unfold TB; rw [← m227, ← m248, ← m241]; exact TBR.of htr f217 f218 (by omega)), (by unfold RELE; rw [← m219, ← m242, ← m223]; exact ⟨RE.cast re252 (by omega), by omega, by omega⟩), hSH210⟩ hl ⟨hc, hs, fun h => by have h1 := h.symm.trans m228; cases h1⟩
set_option maxRecDepth 100000 in
set_option maxHeartbeats 8000000 in
theorem lw_c31 {p : Program} {l : Launch} {e : Env} {s : State} {m : MethodId} {below : List Frame} {meth : Method} {c : Code} {K : KE} {b0 L : Nat} {xs : Nat → Int32} {G : Nat → Option Nat} {H : Heap} {locs : List Loc} {a b : Nat} {cells slots : Nat} {ls : Array Slot} {i : Int32} {n : Nat} (D : LC p K s m meth c b0 L xs) (S : SX K s G H locs a b) (hl : lv_has ls 4 [(3, .int i), (2, .ref b), (1, .ref a), (0, .ref b0)]) (hi : 0 ≤ i.toInt ∧ i.toInt + 6 ≤ L) (hn : n ≤ 511) (hB : BD K H a cells slots) (nx : ∀ (G : Nat → Option Nat) (H : Heap) (locs : List Loc) (cells slots : Nat) (ls : Array Slot), SX K s G H locs a b → lv_has ls 4 [(3, .int i), (2, .ref b), (1, .ref a), (0, .ref b0)] → BD K H a cells slots → W p l e room_1 s m #[Value.ref b0] below meth c H locs cells slots (lw_Z below #[Value.ref b0] s) (F0 m 1509 ls [])) : W p l e room_1 s m #[Value.ref b0] below meth c H locs cells slots (lw_Z below #[Value.ref b0] s) (F0 m 1381 ls []) := by
  have hI := hi
  obtain ⟨C, hX, hbl, hL⟩ := id D
  obtain ⟨hx, hb, hml, hown, hts, hKT, hr, hlocks, hnm⟩ := id C
  obtain ⟨hT, hN, ga, gb, cg, tu, wd, im, ⟨rt, r1, r4, r5, r10, r13, r16⟩, hk, htb, her, hS⟩ := S
  obtain ⟨hc, hs, hB0⟩ := hB
  have n_1 : (1 : Int32).toInt = 1 := rfl
  obtain ⟨w, ew⟩ : ∃ z : Nat, z = fR H a (K.1.2 9 0) := ⟨_, rfl⟩
  have gw := ty_fr (q := w) (k := 0) (u := 0) ew hT ga rg_68 rfl
  rw [← ew] at r1 r4 r5 r10 r13 r16
  obtain ⟨ta, eta⟩ : ∃ z : Int32, z = fI H a (K.1.2 9 3) := ⟨_, rfl⟩
  rw [← eta] at rt
  obtain ⟨tb, etb⟩ : ∃ z : Int32, z = fI H b (K.1.2 10 18) := ⟨_, rfl⟩
  rw [← etb] at rt
  obtain ⟨s1, es1⟩ : ∃ z : Int32, z = fI H w (K.1.2 8 1) := ⟨_, rfl⟩
  rw [← es1] at r1
  obtain ⟨y1, ey1⟩ : ∃ z : Int32, z = fI H b (K.1.2 10 1) := ⟨_, rfl⟩
  rw [← ey1] at r1
  obtain ⟨s4, es4⟩ : ∃ z : Int32, z = fI H w (K.1.2 8 4) := ⟨_, rfl⟩
  rw [← es4] at r4
  obtain ⟨y4, ey4⟩ : ∃ z : Int32, z = fI H b (K.1.2 10 2) := ⟨_, rfl⟩
  rw [← ey4] at r4
  obtain ⟨s5, es5⟩ : ∃ z : Int32, z = fI H w (K.1.2 8 5) := ⟨_, rfl⟩
  rw [← es5] at r5
  obtain ⟨y5, ey5⟩ : ∃ z : Int32, z = fI H b (K.1.2 10 3) := ⟨_, rfl⟩
  rw [← ey5] at r5
  obtain ⟨s10, es10⟩ : ∃ z : Int32, z = fI H w (K.1.2 8 10) := ⟨_, rfl⟩
  rw [← es10] at r10
  obtain ⟨y10, ey10⟩ : ∃ z : Int32, z = fI H b (K.1.2 10 59) := ⟨_, rfl⟩
  rw [← ey10] at r10
  obtain ⟨s13, es13⟩ : ∃ z : Int32, z = fI H w (K.1.2 8 13) := ⟨_, rfl⟩
  rw [← es13] at r13
  obtain ⟨y13, ey13⟩ : ∃ z : Int32, z = fI H b (K.1.2 10 62) := ⟨_, rfl⟩
  rw [← ey13] at r13
  obtain ⟨s16, es16⟩ : ∃ z : Int32, z = fI H w (K.1.2 8 16) := ⟨_, rfl⟩
  rw [← es16] at r16
  obtain ⟨y16, ey16⟩ : ∃ z : Int32, z = fI H b (K.1.2 10 65) := ⟨_, rfl⟩
  rw [← ey16] at r16
  obtain ⟨tq, etq⟩ : ∃ z : Nat, z = fR H a (K.1.2 9 2) := ⟨_, rfl⟩
  have gtq := ty_fr (q := tq) (k := 2) (u := 108) etq hT ga rg_68 rfl
  obtain ⟨uq, euq⟩ : ∃ z : Nat, z = fR H b (K.1.2 10 17) := ⟨_, rfl⟩
  have guq := ty_fr (q := uq) (k := 17) (u := 126) euq hT gb rg_112 rfl
  have htr : TBR (fun j => fI H tq j) (fun j => fI H uq j) tb.toNatClampNeg := by rw [etq, euq, etb]; exact htb
  have ft0 : ∀ j : Nat, fI H tq j = fI H tq j := fun _ => rfl
  have fu0 : ∀ j : Nat, fI H uq j = fI H uq j := fun _ => rfl
  have bta := ty_fi (x := ta) (k := 3) eta hT ga rg_68 rfl
  have cta := i_cl (x := ta) (by omega)
  have btb := ty_fi (x := tb) (k := 18) etb hT gb rg_112 rfl
  have ctb := i_cl (x := tb) (by omega)
  obtain ⟨her0, hsl1, hsl2⟩ := her
  have hsl0 := And.intro hsl1 hsl2
  clear hsl1 hsl2
  rw [← ew] at her0 hsl0
  have re : RE K H w b s1.toInt := RE.cast her0 (by rw [← ey1]; exact r1)
  have hsl : 0 ≤ s5.toInt ∧ s5.toInt ≤ 9999 := by rw [es5]; exact hsl0
  clear her0 hsl0
  have bt_s1 := ty_fi (x := s1) (k := 1) es1 hT gw rg_0 rfl
  have bt_s4 := ty_fi (x := s4) (k := 4) es4 hT gw rg_0 rfl
  have bt_y1 := ty_fi (x := y1) (k := 1) ey1 hT gb rg_112 rfl
  have bt_y4 := ty_fi (x := y4) (k := 2) ey4 hT gb rg_112 rfl
  rcases hk with ⟨kn, h70⟩ | ⟨kq, kn, gkq, h70, q1, q4, q5, q10, q13, q16, rke, ks1, ks2⟩
  · skip
    obtain ⟨hi, ehi⟩ : ∃ z : Int32, z = fI H b (K.1.2 10 70) := ⟨_, rfl⟩
    rw [← ehi] at h70
    obtain ⟨hc0, hs0⟩ := hB0 kn
    obtain ⟨iq, eiq⟩ : ∃ z : Nat, z = fR H b (K.1.2 10 73) := ⟨_, rfl⟩
    have giq := ty_fr (q := iq) (k := 73) (u := 162) eiq hT gb rg_112 rfl
    refine lv_aload_n hx hb dL_law_1381 rfl (lv_at hl 2 rfl) ?_
    refine lv_aload_n hx hb dL_law_1382 rfl (lv_at hl 3 rfl) ?_
    refine lv_iload_n hx hb dL_law_1383 rfl (lv_at hl 0 rfl) ?_
    refine lv_iconst (v := 1) hx hb dL_law_1384 (by decide) ?_
    refine lv_iadd hx hb dL_law_1385 ?_
    refine lv_topi (fun x101 ex101 => ?_)
    obtain ⟨tx101, ejx101, evx101⟩ := lw_ix (k := 1) ex101 hI hL rfl (by decide)
    clear tx101
    refine va_sld hx hb hX hbl (Nat.not_le.mpr hbl) hS (vp_in_iff.mpr evx101) dL_law_1386 ?_
    refine W.eq (g2 := F0 m 1387 ls [.int (xs (i.toNatClampNeg + 1)), .ref a]) (congrArg (fun z => F0 m 1387 ls [.int (xs z), .ref a]) ejx101) ?_
    refine x_V (As := [.int (xs (i.toNatClampNeg + 1))]) (rest := []) C (a_X9_down l K G H ((xs (i.toNatClampNeg + 1))) hT ga) yo_X9_down wM_L_145 ⟨⟨by decide, by decide⟩, show _ ≤ 60000 from Nat.le_trans hc (by decide), show _ ≤ 8922250 from Nat.le_trans hs (by decide)⟩ (x_rv C hT (ci := 9) rfl ga rg_68) rfl hl.1 rfl (Nat.le_of_ble_eq_true rfl) dL_law_1387 hS (AE_new hN hS.1) (fun vH102 H102 locsH102 pH102 zH102 kH102 hSH102 => ?_)
    obtain ⟨x103, hvH102, hTH102⟩ := pH102
    subst hvH102
    have g104 : CG (avw K H102 b) := CG.congr (fun k hk j => av_eff hT kH102 gb (by decide) (CG_eff [83, 84] (by decide) k hk)) cg
    have g105 : TU (avw K H102 b) (svw K H102 b) := TU.congr (fun k hk j => av_eff hT kH102 gb (by decide) (TU_eff [83, 84] (by decide) k hk)) (fun k hk => sv_eff hT kH102 gb (by decide)) tu
    have g106 : WD (avw K H102 b) := WD.congr (fun k hk j => av_eff hT kH102 gb (by decide) (WD_eff [83, 84] (by decide) k hk)) wd
    have g107 : IM (avw K H102 b) := IM.congr (fun k hk j => av_eff hT kH102 gb (by decide) (IM_eff [83, 84] (by decide) k hk)) im
    have f108 : ∀ j : Nat, fI H102 tq j = fI H tq j := fun j => (fI_kept (x_lt hT kH102 gtq (by decide))).trans (ft0 j)
    have f109 : ∀ j : Nat, fI H102 uq j = fI H uq j := fun j => (fI_kept (x_lt hT kH102 guq (by decide))).trans (fu0 j)
    have m110 := (ew).trans (fR_kept (x_lt hT kH102 ga (by decide))).symm
    have m111 := (eta).trans (fI_kept (x_lt hT kH102 ga (by decide))).symm
    have m112 := (etb).trans (fI_kept (x_lt hT kH102 gb (by decide))).symm
    have m113 := (es1).trans (fI_kept (x_lt hT kH102 gw (by decide))).symm
    have m114 := (ey1).trans (fI_kept (x_lt hT kH102 gb (by decide))).symm
    have m115 := (es4).trans (fI_kept (x_lt hT kH102 gw (by decide))).symm
    have m116 := (ey4).trans (fI_kept (x_lt hT kH102 gb (by decide))).symm
    have m117 := (es5).trans (fI_kept (x_lt hT kH102 gw (by decide))).symm
    have m118 := (ey5).trans (fI_kept (x_lt hT kH102 gb (by decide))).symm
    have m119 := (es10).trans (fI_kept (x_lt hT kH102 gw (by decide))).symm
    have m120 := (ey10).trans (fI_kept (x_lt hT kH102 gb (by decide))).symm
    have m121 := (es13).trans (fI_kept (x_lt hT kH102 gw (by decide))).symm
    have m122 := (ey13).trans (fI_kept (x_lt hT kH102 gb (by decide))).symm
    have m123 := (es16).trans (fI_kept (x_lt hT kH102 gw (by decide))).symm
    have m124 := (ey16).trans (fI_kept (x_lt hT kH102 gb (by decide))).symm
    have m125 := (etq).trans (fR_kept (x_lt hT kH102 ga (by decide))).symm
    have m126 := (euq).trans (fR_kept (x_lt hT kH102 gb (by decide))).symm
    have m127 := (ehi).trans (fI_kept (x_lt hT kH102 gb (by decide))).symm
    have m128 := (fV_kept (x_lt hT kH102 ga (by decide))).trans kn
    have m129 := (eiq).trans (fR_kept (x_lt hT kH102 gb (by decide))).symm
    refine W.eq (g2 := F0 m 1390 ls [.int x103]) rfl ?_
    have re130 : RE K H102 w b s1.toInt := RE.cls re hT gw gb (fun q t hq ht => x_lt hT kH102 hq (by first | exact nmr ht (by decide) | exact nmo ht (by decide) | exact nme ht (by decide) | exact nmq ht (by decide) | decide | (intro z; simp only [List.mem_cons, List.not_mem_nil, or_false] at z <;> omega) | omega))
    refine lv_pop hx hb dL_law_1390 rfl ?_
    refine lv_aload_n hx hb dL_law_1391 rfl (lv_at hl 1 rfl) ?_
    refine lv_aload_n hx hb dL_law_1392 rfl (lv_at hl 3 rfl) ?_
    refine lv_iload_n hx hb dL_law_1393 rfl (lv_at hl 0 rfl) ?_
    refine lv_iconst (v := 1) hx hb dL_law_1394 (by decide) ?_
    refine lv_iadd hx hb dL_law_1395 ?_
    refine lv_topi (fun x131 ex131 => ?_)
    obtain ⟨tx131, ejx131, evx131⟩ := lw_ix (k := 1) ex131 hI hL rfl (by decide)
    clear tx131
    refine va_sld hx hb hX hbl (Nat.not_le.mpr hbl) hSH102 (vp_in_iff.mpr evx131) dL_law_1396 ?_
    refine W.eq (g2 := F0 m 1397 ls [.int (xs (i.toNatClampNeg + 1)), .ref b]) (congrArg (fun z => F0 m 1397 ls [.int (xs z), .ref b]) ejx131) ?_
    refine x_V (As := [.int (xs (i.toNatClampNeg + 1))]) (rest := []) C (a_X10_down l K G H102 ((xs (i.toNatClampNeg + 1))) hTH102 gb g104 g105 g106 g107) yo_X10_down wM_L_148 ⟨⟨by decide, by decide⟩, show _ ≤ 60000 from Nat.le_trans hc (by decide), show _ ≤ 8922250 from Nat.le_trans hs (by decide)⟩ (x_rv C hTH102 (ci := 10) rfl gb rg_112) rfl hl.1 rfl (Nat.le_of_ble_eq_true rfl) dL_law_1397 hSH102 (AE_new hN hSH102.1) (fun vH132 H132 locsH132 pH132 zH132 kH132 hSH132 => ?_)
    obtain ⟨x133, hvH132, g134, g135, g136, g137, mf138, hTH132⟩ := pH132
    subst hvH132
    have f139 : ∀ j : Nat, fI H132 tq j = fI H tq j := fun j => (fI_kept (x_lt hTH102 kH132 gtq (by decide))).trans (f108 j)
    have f140 : ∀ j : Nat, fI H132 uq j = fI H uq j := fun j => (fI_kept (x_lt hTH102 kH132 guq (by decide))).trans (f109 j)
    have m141 := (m110).trans (fR_kept (x_lt hTH102 kH132 ga (by decide))).symm
    have m142 := (m111).trans (fI_kept (x_lt hTH102 kH132 ga (by decide))).symm
    have m143 := (m113).trans (fI_kept (x_lt hTH102 kH132 gw (by decide))).symm
    have m144 := (m115).trans (fI_kept (x_lt hTH102 kH132 gw (by decide))).symm
    have m145 := (m117).trans (fI_kept (x_lt hTH102 kH132 gw (by decide))).symm
    have m146 := (m119).trans (fI_kept (x_lt hTH102 kH132 gw (by decide))).symm
    have m147 := (m121).trans (fI_kept (x_lt hTH102 kH132 gw (by decide))).symm
    have m148 := (m123).trans (fI_kept (x_lt hTH102 kH132 gw (by decide))).symm
    have m149 := (m125).trans (fR_kept (x_lt hTH102 kH132 ga (by decide))).symm
    have m150 := (fV_kept (x_lt hTH102 kH132 ga (by decide))).trans m128
    have m151 := (m112).trans (MF.i mf138 (k := 18) (by decide) (by decide)).symm
    have m152 := (m114).trans (MF.i mf138 (k := 1) (by decide) (by decide)).symm
    have m153 := (m116).trans (MF.i mf138 (k := 2) (by decide) (by decide)).symm
    have m154 := (m118).trans (MF.i mf138 (k := 3) (by decide) (by decide)).symm
    have m155 := (m120).trans (MF.i mf138 (k := 59) (by decide) (by decide)).symm
    have m156 := (m122).trans (MF.i mf138 (k := 62) (by decide) (by decide)).symm
    have m157 := (m124).trans (MF.i mf138 (k := 65) (by decide) (by decide)).symm
    have m158 := (m126).trans (MF.r mf138 (k := 17) (by decide) (by decide)).symm
    have m159 := (m127).trans (MF.i mf138 (k := 70) (by decide) (by decide)).symm
    have m160 := (m129).trans (MF.r mf138 (k := 73) (by decide) (by decide)).symm
    refine W.eq (g2 := F0 m 1400 ls [.int x133]) rfl ?_
    have re161 : RE K H132 w b s1.toInt := RE.ref re130 hTH102 gw gb (fun k hk => MF.r mf138 (by omega) (by intro z; simp only [List.mem_cons, List.not_mem_nil, or_false] at z; omega)) (fun q t hq ht => x_lt hTH102 kH132 hq (by first | exact nmr ht (by decide) | exact nmo ht (by decide) | exact nme ht (by decide) | exact nmq ht (by decide) | decide | (intro z; simp only [List.mem_cons, List.not_mem_nil, or_false] at z <;> omega) | omega))
    refine lv_pop hx hb dL_law_1400 rfl ?_
    refine lv_goto (tgt := 1509) hx hb dL_law_1401 (by decide) ?_
    exact nx G H132 locsH132 _ _ ls ⟨hTH132, hN, ga, gb, g134, g135, g136, g137, ⟨(by rw [← m142, ← m151]; exact rt), (by rw [← m141, ← m143, ← m152]; exact r1), (by rw [← m141, ← m144, ← m153]; exact r4), (by rw [← m141, ← m145, ← m154]; exact r5), (by rw [← m141, ← m146, ← m155]; exact r10), (by rw [← m141, ← m147, ← m156]; exact r13), (by rw [← m141, ← m148, ← m157]; exact r16)⟩, Or.inl ⟨m150, (by rw [← m159]; exact h70)⟩, (by unfold TB; rw [← m149, ← m158, ← m151]; exact TBR.of htr f139 f140 (by omega)), (by unfold RELE; rw [← m141, ← m152, ← m145]; exact ⟨RE.cast re161 (by omega), by omega, by omega⟩), hSH132⟩ hl ⟨hc, hs, fun _ => ⟨hc0, hs0⟩⟩
  · skip
    obtain ⟨hi, ehi⟩ : ∃ z : Int32, z = fI H b (K.1.2 10 70) := ⟨_, rfl⟩
    rw [← ehi] at h70
    obtain ⟨iq, eiq⟩ : ∃ z : Nat, z = fR H b (K.1.2 10 73) := ⟨_, rfl⟩
    have giq := ty_fr (q := iq) (k := 73) (u := 162) eiq hT gb rg_112 rfl
    rw [← eiq] at q1 q4 q5 q10 q13 q16
    obtain ⟨k1, ek1⟩ : ∃ z : Int32, z = fI H kq (K.1.2 8 1) := ⟨_, rfl⟩
    rw [← ek1] at q1
    obtain ⟨i1, ei1⟩ : ∃ z : Int32, z = fI H iq ((0 : Int32).toNatClampNeg) := ⟨_, rfl⟩
    rw [← ei1] at q1
    obtain ⟨k4, ek4⟩ : ∃ z : Int32, z = fI H kq (K.1.2 8 4) := ⟨_, rfl⟩
    rw [← ek4] at q4
    obtain ⟨i4, ei4⟩ : ∃ z : Int32, z = fI H iq ((1 : Int32).toNatClampNeg) := ⟨_, rfl⟩
    rw [← ei4] at q4
    obtain ⟨k5, ek5⟩ : ∃ z : Int32, z = fI H kq (K.1.2 8 5) := ⟨_, rfl⟩
    rw [← ek5] at q5
    obtain ⟨i5, ei5⟩ : ∃ z : Int32, z = fI H iq ((2 : Int32).toNatClampNeg) := ⟨_, rfl⟩
    rw [← ei5] at q5
    obtain ⟨k10, ek10⟩ : ∃ z : Int32, z = fI H kq (K.1.2 8 10) := ⟨_, rfl⟩
    rw [← ek10] at q10
    obtain ⟨i10, ei10⟩ : ∃ z : Int32, z = fI H iq ((3 : Int32).toNatClampNeg) := ⟨_, rfl⟩
    rw [← ei10] at q10
    obtain ⟨k13, ek13⟩ : ∃ z : Int32, z = fI H kq (K.1.2 8 13) := ⟨_, rfl⟩
    rw [← ek13] at q13
    obtain ⟨i13, ei13⟩ : ∃ z : Int32, z = fI H iq ((4 : Int32).toNatClampNeg) := ⟨_, rfl⟩
    rw [← ei13] at q13
    obtain ⟨k16, ek16⟩ : ∃ z : Int32, z = fI H kq (K.1.2 8 16) := ⟨_, rfl⟩
    rw [← ek16] at q16
    obtain ⟨i16, ei16⟩ : ∃ z : Int32, z = fI H iq ((5 : Int32).toNatClampNeg) := ⟨_, rfl⟩
    rw [← ei16] at q16
    rw [← eiq, ← ek1] at rke
    have hsk : 0 ≤ k5.toInt ∧ k5.toInt ≤ 9999 := by rw [ek5]; exact ⟨ks1, ks2⟩
    refine lv_aload_n hx hb dL_law_1381 rfl (lv_at hl 2 rfl) ?_
    refine lv_aload_n hx hb dL_law_1382 rfl (lv_at hl 3 rfl) ?_
    refine lv_iload_n hx hb dL_law_1383 rfl (lv_at hl 0 rfl) ?_
    refine lv_iconst (v := 1) hx hb dL_law_1384 (by decide) ?_
    refine lv_iadd hx hb dL_law_1385 ?_
    refine lv_topi (fun x162 ex162 => ?_)
    obtain ⟨tx162, ejx162, evx162⟩ := lw_ix (k := 1) ex162 hI hL rfl (by decide)
    clear tx162
    refine va_sld hx hb hX hbl (Nat.not_le.mpr hbl) hS (vp_in_iff.mpr evx162) dL_law_1386 ?_
    refine W.eq (g2 := F0 m 1387 ls [.int (xs (i.toNatClampNeg + 1)), .ref a]) (congrArg (fun z => F0 m 1387 ls [.int (xs z), .ref a]) ejx162) ?_
    refine x_V (As := [.int (xs (i.toNatClampNeg + 1))]) (rest := []) C (a_X9_down l K G H ((xs (i.toNatClampNeg + 1))) hT ga) yo_X9_down wM_L_145 ⟨⟨by decide, by decide⟩, show _ ≤ 60000 from Nat.le_trans hc (by decide), show _ ≤ 8922250 from Nat.le_trans hs (by decide)⟩ (x_rv C hT (ci := 9) rfl ga rg_68) rfl hl.1 rfl (Nat.le_of_ble_eq_true rfl) dL_law_1387 hS (AE_new hN hS.1) (fun vH163 H163 locsH163 pH163 zH163 kH163 hSH163 => ?_)
    obtain ⟨x164, hvH163, hTH163⟩ := pH163
    subst hvH163
    have g165 : CG (avw K H163 b) := CG.congr (fun k hk j => av_eff hT kH163 gb (by decide) (CG_eff [83, 84] (by decide) k hk)) cg
    have g166 : TU (avw K H163 b) (svw K H163 b) := TU.congr (fun k hk j => av_eff hT kH163 gb (by decide) (TU_eff [83, 84] (by decide) k hk)) (fun k hk => sv_eff hT kH163 gb (by decide)) tu
    have g167 : WD (avw K H163 b) := WD.congr (fun k hk j => av_eff hT kH163 gb (by decide) (WD_eff [83, 84] (by decide) k hk)) wd
    have g168 : IM (avw K H163 b) := IM.congr (fun k hk j => av_eff hT kH163 gb (by decide) (IM_eff [83, 84] (by decide) k hk)) im
    have f169 : ∀ j : Nat, fI H163 tq j = fI H tq j := fun j => (fI_kept (x_lt hT kH163 gtq (by decide))).trans (ft0 j)
    have f170 : ∀ j : Nat, fI H163 uq j = fI H uq j := fun j => (fI_kept (x_lt hT kH163 guq (by decide))).trans (fu0 j)
    have m171 := (ew).trans (fR_kept (x_lt hT kH163 ga (by decide))).symm
    have m172 := (eta).trans (fI_kept (x_lt hT kH163 ga (by decide))).symm
    have m173 := (etb).trans (fI_kept (x_lt hT kH163 gb (by decide))).symm
    have m174 := (es1).trans (fI_kept (x_lt hT kH163 gw (by decide))).symm
    have m175 := (ey1).trans (fI_kept (x_lt hT kH163 gb (by decide))).symm
    have m176 := (es4).trans (fI_kept (x_lt hT kH163 gw (by decide))).symm
    have m177 := (ey4).trans (fI_kept (x_lt hT kH163 gb (by decide))).symm
    have m178 := (es5).trans (fI_kept (x_lt hT kH163 gw (by decide))).symm
    have m179 := (ey5).trans (fI_kept (x_lt hT kH163 gb (by decide))).symm
    have m180 := (es10).trans (fI_kept (x_lt hT kH163 gw (by decide))).symm
    have m181 := (ey10).trans (fI_kept (x_lt hT kH163 gb (by decide))).symm
    have m182 := (es13).trans (fI_kept (x_lt hT kH163 gw (by decide))).symm
    have m183 := (ey13).trans (fI_kept (x_lt hT kH163 gb (by decide))).symm
    have m184 := (es16).trans (fI_kept (x_lt hT kH163 gw (by decide))).symm
    have m185 := (ey16).trans (fI_kept (x_lt hT kH163 gb (by decide))).symm
    have m186 := (etq).trans (fR_kept (x_lt hT kH163 ga (by decide))).symm
    have m187 := (euq).trans (fR_kept (x_lt hT kH163 gb (by decide))).symm
    have m188 := (ehi).trans (fI_kept (x_lt hT kH163 gb (by decide))).symm
    have m189 := (fV_kept (x_lt hT kH163 ga (by decide))).trans kn
    have m190 := (eiq).trans (fR_kept (x_lt hT kH163 gb (by decide))).symm
    have m191 := (ek1).trans (fI_kept (x_lt hT kH163 gkq (by decide))).symm
    have m192 := (ei1).trans (fI_kept (x_lt hT kH163 giq (by decide))).symm
    have m193 := (ek4).trans (fI_kept (x_lt hT kH163 gkq (by decide))).symm
    have m194 := (ei4).trans (fI_kept (x_lt hT kH163 giq (by decide))).symm
    have m195 := (ek5).trans (fI_kept (x_lt hT kH163 gkq (by decide))).symm
    have m196 := (ei5).trans (fI_kept (x_lt hT kH163 giq (by decide))).symm
    have m197 := (ek10).trans (fI_kept (x_lt hT kH163 gkq (by decide))).symm
    have m198 := (ei10).trans (fI_kept (x_lt hT kH163 giq (by decide))).symm
    have m199 := (ek13).trans (fI_kept (x_lt hT kH163 gkq (by decide))).symm
    have m200 := (ei13).trans (fI_kept (x_lt hT kH163 giq (by decide))).symm
    have m201 := (ek16).trans (fI_kept (x_lt hT kH163 gkq (by decide))).symm
    have m202 := (ei16).trans (fI_kept (x_lt hT kH163 giq (by decide))).symm
    refine W.eq (g2 := F0 m 1390 ls [.int x164]) rfl ?_
    have rk203 : RKI K H163 kq iq k1.toInt := RKI.kept rke hT gkq (x_lt hT kH163 giq (by first | exact nmr ht (by decide) | exact nmo ht (by decide) | exact nme ht (by decide) | exact nmq ht (by decide) | decide | (intro z; simp only [List.mem_cons, List.not_mem_nil, or_false] at z <;> omega) | omega)) (fun q t hq ht => x_lt hT kH163 hq (by first | exact nmr ht (by decide) | exact nmo ht (by decide) | exact nme ht (by decide) | exact nmq ht (by decide) | decide | (intro z; simp only [List.mem_cons, List.not_mem_nil, or_false] at z <;> omega) | omega))
    have re204 : RE K H163 w b s1.toInt := RE.cls re hT gw gb (fun q t hq ht => x_lt hT kH163 hq (by first | exact nmr ht (by decide) | exact nmo ht (by decide) | exact nme ht (by decide) | exact nmq ht (by decide) | decide | (intro z; simp only [List.mem_cons, List.not_mem_nil, or_false] at z <;> omega) | omega))
    refine lv_pop hx hb dL_law_1390 rfl ?_
    refine lv_aload_n hx hb dL_law_1391 rfl (lv_at hl 1 rfl) ?_
    refine lv_aload_n hx hb dL_law_1392 rfl (lv_at hl 3 rfl) ?_
    refine lv_iload_n hx hb dL_law_1393 rfl (lv_at hl 0 rfl) ?_
    refine lv_iconst (v := 1) hx hb dL_law_1394 (by decide) ?_
    refine lv_iadd hx hb dL_law_1395 ?_
    refine lv_topi (fun x205 ex205 => ?_)
    obtain ⟨tx205, ejx205, evx205⟩ := lw_ix (k := 1) ex205 hI hL rfl (by decide)
    clear tx205
    refine va_sld hx hb hX hbl (Nat.not_le.mpr hbl) hSH163 (vp_in_iff.mpr evx205) dL_law_1396 ?_
    refine W.eq (g2 := F0 m 1397 ls [.int (xs (i.toNatClampNeg + 1)), .ref b]) (congrArg (fun z => F0 m 1397 ls [.int (xs z), .ref b]) ejx205) ?_
    refine x_V (As := [.int (xs (i.toNatClampNeg + 1))]) (rest := []) C (a_X10_down l K G H163 ((xs (i.toNatClampNeg + 1))) hTH163 gb g165 g166 g167 g168) yo_X10_down wM_L_148 ⟨⟨by decide, by decide⟩, show _ ≤ 60000 from Nat.le_trans hc (by decide), show _ ≤ 8922250 from Nat.le_trans hs (by decide)⟩ (x_rv C hTH163 (ci := 10) rfl gb rg_112) rfl hl.1 rfl (Nat.le_of_ble_eq_true rfl) dL_law_1397 hSH163 (AE_new hN hSH163.1) (fun vH206 H206 locsH206 pH206 zH206 kH206 hSH206 => ?_)
    obtain ⟨x207, hvH206, g208, g209, g210, g211, mf212, hTH206⟩ := pH206
    subst hvH206
    have f213 : ∀ j : Nat, fI H206 tq j = fI H tq j := fun j => (fI_kept (x_lt hTH163 kH206 gtq (by decide))).trans (f169 j)
    have f214 : ∀ j : Nat, fI H206 uq j = fI H uq j := fun j => (fI_kept (x_lt hTH163 kH206 guq (by decide))).trans (f170 j)
    have m215 := (m171).trans (fR_kept (x_lt hTH163 kH206 ga (by decide))).symm
    have m216 := (m172).trans (fI_kept (x_lt hTH163 kH206 ga (by decide))).symm
    have m217 := (m174).trans (fI_kept (x_lt hTH163 kH206 gw (by decide))).symm
    have m218 := (m176).trans (fI_kept (x_lt hTH163 kH206 gw (by decide))).symm
    have m219 := (m178).trans (fI_kept (x_lt hTH163 kH206 gw (by decide))).symm
    have m220 := (m180).trans (fI_kept (x_lt hTH163 kH206 gw (by decide))).symm
    have m221 := (m182).trans (fI_kept (x_lt hTH163 kH206 gw (by decide))).symm
    have m222 := (m184).trans (fI_kept (x_lt hTH163 kH206 gw (by decide))).symm
    have m223 := (m186).trans (fR_kept (x_lt hTH163 kH206 ga (by decide))).symm
    have m224 := (fV_kept (x_lt hTH163 kH206 ga (by decide))).trans m189
    have m225 := (m191).trans (fI_kept (x_lt hTH163 kH206 gkq (by decide))).symm
    have m226 := (m192).trans (fI_kept (x_lt hTH163 kH206 giq (by decide))).symm
    have m227 := (m193).trans (fI_kept (x_lt hTH163 kH206 gkq (by decide))).symm
    have m228 := (m194).trans (fI_kept (x_lt hTH163 kH206 giq (by decide))).symm
    have m229 := (m195).trans (fI_kept (x_lt hTH163 kH206 gkq (by decide))).symm
    have m230 := (m196).trans (fI_kept (x_lt hTH163 kH206 giq (by decide))).symm
    have m231 := (m197).trans (fI_kept (x_lt hTH163 kH206 gkq (by decide))).symm
    have m232 := (m198).trans (fI_kept (x_lt hTH163 kH206 giq (by decide))).symm
    have m233 := (m199).trans (fI_kept (x_lt hTH163 kH206 gkq (by decide))).symm
    have m234 := (m200).trans (fI_kept (x_lt hTH163 kH206 giq (by decide))).symm
    have m235 := (m201).trans (fI_kept (x_lt hTH163 kH206 gkq (by decide))).symm
    have m236 := (m202).trans (fI_kept (x_lt hTH163 kH206 giq (by decide))).symm
    have m237 := (m173).trans (MF.i mf212 (k := 18) (by decide) (by decide)).symm
    have m238 := (m175).trans (MF.i mf212 (k := 1) (by decide) (by decide)).symm
    have m239 := (m177).trans (MF.i mf212 (k := 2) (by decide) (by decide)).symm
    have m240 := (m179).trans (MF.i mf212 (k := 3) (by decide) (by decide)).symm
    have m241 := (m181).trans (MF.i mf212 (k := 59) (by decide) (by decide)).symm
    have m242 := (m183).trans (MF.i mf212 (k := 62) (by decide) (by decide)).symm
    have m243 := (m185).trans (MF.i mf212 (k := 65) (by decide) (by decide)).symm
    have m244 := (m187).trans (MF.r mf212 (k := 17) (by decide) (by decide)).symm
    have m245 := (m188).trans (MF.i mf212 (k := 70) (by decide) (by decide)).symm
    have m246 := (m190).trans (MF.r mf212 (k := 73) (by decide) (by decide)).symm
    refine W.eq (g2 := F0 m 1400 ls [.int x207]) rfl ?_
    have rk247 : RKI K H206 kq iq k1.toInt := RKI.kept rk203 hTH163 gkq (x_lt hTH163 kH206 giq (by first | exact nmr ht (by decide) | exact nmo ht (by decide) | exact nme ht (by decide) | exact nmq ht (by decide) | decide | (intro z; simp only [List.mem_cons, List.not_mem_nil, or_false] at z <;> omega) | omega)) (fun q t hq ht => x_lt hTH163 kH206 hq (by first | exact nmr ht (by decide) | exact nmo ht (by decide) | exact nme ht (by decide) | exact nmq ht (by decide) | decide | (intro z; simp only [List.mem_cons, List.not_mem_nil, or_false] at z <;> omega) | omega))
    have re248 : RE K H206 w b s1.toInt := RE.ref re204 hTH163 gw gb (fun k hk => MF.r mf212 (by omega) (by intro z; simp only [List.mem_cons, List.not_mem_nil, or_false] at z; omega)) (fun q t hq ht => x_lt hTH163 kH206 hq (by first | exact nmr ht (by decide) | exact nmo ht (by decide) | exact nme ht (by decide) | exact nmq ht (by decide) | decide | (intro z; simp only [List.mem_cons, List.not_mem_nil, or_false] at z <;> omega) | omega))
    refine lv_pop hx hb dL_law_1400 rfl ?_
    refine lv_goto (tgt := 1509) hx hb dL_law_1401 (by decide) ?_
    exact nx G H206 locsH206 _ _ ls ⟨hTH206, hN, ga, gb, g208, g209, g210, g211, ⟨(by rw [← m216, ← m237]; exact rt), (by rw [← m215, ← m217, ← m238]; exact r1), (by rw [← m215, ← m218, ← m239]; exact r4), (by rw [← m215, ← m219, ← m240]; exact r5), (by rw [← m215, ← m220, ← m241]; exact r10), (by rw [← m215, ← m221, ← m242]; exact r13), (by rw [← m215, ← m222, ← m243]; exact r16)⟩, Or.inr ⟨kq, m224, gkq, (by rw [← m245]; exact h70), (by rw [← m225, ← m246, ← m226]; exact q1), (by rw [← m227, ← m246, ← m228]; exact q4), (by rw [← m229, ← m246, ← m230]; exact q5), (by rw [← m231, ← m246, ← m232]; exact q10), (by rw [← m233, ← m246, ← m234]; exact q13), (by rw [← m235, ← m246, ← m236]; exact q16), (by rw [← m246, ← m225]; exact RKI.cast rk247 (by omega)), (by rw [← m229]; omega), (by rw [← m229]; omega)⟩, (by unfold TB; rw [← m223, ← m244, ← m237]; exact TBR.of htr f213 f214 (by omega)), (by unfold RELE; rw [← m215, ← m238, ← m219]; exact ⟨RE.cast re248 (by omega), by omega, by omega⟩), hSH206⟩ hl ⟨hc, hs, fun h => by have h1 := h.symm.trans m224; cases h1⟩