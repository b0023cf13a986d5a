set_option maxRecDepth 100000 in
set_option maxHeartbeats 8000000 in
theorem lw_c30 {p : Program} {l : Launch} {e : Env} {s : State} {m : MethodId} {below : List Frame} {meth : Method} {c : Code} {K : KE} {b0 L : Nat} {xs : Nat → Int32} {G : Nat → Option Nat} {H : Heap} {locs : List Loc} {a b : Nat} {cells slots : Nat} {ls : Array Slot} {i : Int32} {n : Nat} (D : LC p K s m meth c b0 L xs) (S : SX K s G H locs a b) (hl : lv_has ls 4 [(3, .int i), (2, .ref b), (1, .ref a), (0, .ref b0)]) (hi : 0 ≤ i.toInt ∧ i.toInt + 6 ≤ L) (hn : n ≤ 511) (hB : BD K H a cells slots) (nx : ∀ (G : Nat → Option Nat) (H : Heap) (locs : List Loc) (cells slots : Nat) (ls : Array Slot), SX K s G H locs a b → lv_has ls 4 [(3, .int i), (2, .ref b), (1, .ref a), (0, .ref b0)] → BD K H a cells slots → W p l e room_1 s m #[Value.ref b0] below meth c H locs cells slots (lw_Z below #[Value.ref b0] s) (F0 m 1509 ls [])) : W p l e room_1 s m #[Value.ref b0] below meth c H locs cells slots (lw_Z below #[Value.ref b0] s) (F0 m 1348 ls []) := by
  obtain ⟨C, hX, hbl, hL⟩ := id D
  obtain ⟨hx, hb, hml, hown, hts, hKT, hr, hlocks, hnm⟩ := id C
  obtain ⟨hT, hN, ga, gb, cg, tu, wd, im, ⟨rt, r1, r4, r5, r10, r13, r16⟩, hk, htb, hS⟩ := S
  obtain ⟨hc, hs, hB0⟩ := hB
  have n_1 : (1 : Int32).toInt = 1 := rfl
  have n_2 : (2 : Int32).toInt = 2 := rfl
  obtain ⟨w, ew⟩ : ∃ z : Nat, z = fR H a (K.1.2 9 0) := ⟨_, rfl⟩
  have gw := ty_fr (q := w) (k := 0) (u := 0) ew hT ga rg_68 rfl
  rw [← ew] at r1 r4 r5 r10 r13 r16
  obtain ⟨ta, eta⟩ : ∃ z : Int32, z = fI H a (K.1.2 9 3) := ⟨_, rfl⟩
  rw [← eta] at rt
  obtain ⟨tb, etb⟩ : ∃ z : Int32, z = fI H b (K.1.2 10 18) := ⟨_, rfl⟩
  rw [← etb] at rt
  obtain ⟨s1, es1⟩ : ∃ z : Int32, z = fI H w (K.1.2 8 1) := ⟨_, rfl⟩
  rw [← es1] at r1
  obtain ⟨y1, ey1⟩ : ∃ z : Int32, z = fI H b (K.1.2 10 1) := ⟨_, rfl⟩
  rw [← ey1] at r1
  obtain ⟨s4, es4⟩ : ∃ z : Int32, z = fI H w (K.1.2 8 4) := ⟨_, rfl⟩
  rw [← es4] at r4
  obtain ⟨y4, ey4⟩ : ∃ z : Int32, z = fI H b (K.1.2 10 2) := ⟨_, rfl⟩
  rw [← ey4] at r4
  obtain ⟨s5, es5⟩ : ∃ z : Int32, z = fI H w (K.1.2 8 5) := ⟨_, rfl⟩
  rw [← es5] at r5
  obtain ⟨y5, ey5⟩ : ∃ z : Int32, z = fI H b (K.1.2 10 3) := ⟨_, rfl⟩
  rw [← ey5] at r5
  obtain ⟨s10, es10⟩ : ∃ z : Int32, z = fI H w (K.1.2 8 10) := ⟨_, rfl⟩
  rw [← es10] at r10
  obtain ⟨y10, ey10⟩ : ∃ z : Int32, z = fI H b (K.1.2 10 59) := ⟨_, rfl⟩
  rw [← ey10] at r10
  obtain ⟨s13, es13⟩ : ∃ z : Int32, z = fI H w (K.1.2 8 13) := ⟨_, rfl⟩
  rw [← es13] at r13
  obtain ⟨y13, ey13⟩ : ∃ z : Int32, z = fI H b (K.1.2 10 62) := ⟨_, rfl⟩
  rw [← ey13] at r13
  obtain ⟨s16, es16⟩ : ∃ z : Int32, z = fI H w (K.1.2 8 16) := ⟨_, rfl⟩
  rw [← es16] at r16
  obtain ⟨y16, ey16⟩ : ∃ z : Int32, z = fI H b (K.1.2 10 65) := ⟨_, rfl⟩
  rw [← ey16] at r16
  obtain ⟨tq, etq⟩ : ∃ z : Nat, z = fR H a (K.1.2 9 2) := ⟨_, rfl⟩
  have gtq := ty_fr (q := tq) (k := 2) (u := 108) etq hT ga rg_68 rfl
  obtain ⟨uq, euq⟩ : ∃ z : Nat, z = fR H b (K.1.2 10 17) := ⟨_, rfl⟩
  have guq := ty_fr (q := uq) (k := 17) (u := 126) euq hT gb rg_112 rfl
  have htr : TBR (fun j => fI H tq j) (fun j => fI H uq j) tb.toNatClampNeg := by rw [etq, euq, etb]; exact htb
  have ft0 : ∀ j : Nat, fI H tq j = fI H tq j := fun _ => rfl
  have fu0 : ∀ j : Nat, fI H uq j = fI H uq j := fun _ => rfl
  have bta := ty_fi (x := ta) (k := 3) eta hT ga rg_68 rfl
  have cta := i_cl (x := ta) (by omega)
  have btb := ty_fi (x := tb) (k := 18) etb hT gb rg_112 rfl
  have ctb := i_cl (x := tb) (by omega)
  rcases hk with ⟨kn, h70⟩ | ⟨kq, kn, gkq, h70, q1, q4, q5, q10, q13, q16⟩
  · skip
    obtain ⟨hi, ehi⟩ : ∃ z : Int32, z = fI H b (K.1.2 10 70) := ⟨_, rfl⟩
    rw [← ehi] at h70
    obtain ⟨hc0, hs0⟩ := hB0 kn
    refine lv_aload_n hx hb dL_law_1348 rfl (lv_at hl 2 rfl) ?_
    refine lv_aload_n hx hb dL_law_1349 rfl (lv_at hl 3 rfl) ?_
    refine lv_iload_n hx hb dL_law_1350 rfl (lv_at hl 0 rfl) ?_
    refine lv_iconst (v := 1) hx hb dL_law_1351 (by decide) ?_
    refine lv_iadd hx hb dL_law_1352 ?_
    refine lv_topi (fun x101 ex101 => ?_)
    have tx101 := i_add ex101 (by omega)
    have ejx101 : x101.toNatClampNeg = i.toNatClampNeg + 1 := by have h1 := i_cl (x := x101) (by omega); have h2 := i_cl (x := i) (by omega); omega
    refine va_sld hx hb hX hbl (Nat.not_le.mpr hbl) hS (vp_in_iff.mpr (by omega)) dL_law_1353 ?_
    refine W.eq (g2 := F0 m 1354 ls [.int (xs (i.toNatClampNeg + 1)), .ref a]) (congrArg (fun z => F0 m 1354 ls [.int (xs z), .ref a]) ejx101) ?_
    refine lv_aload_n hx hb dL_law_1354 rfl (lv_at hl 3 rfl) ?_
    refine lv_iload_n hx hb dL_law_1355 rfl (lv_at hl 0 rfl) ?_
    refine lv_iconst (v := 2) hx hb dL_law_1356 (by decide) ?_
    refine lv_iadd hx hb dL_law_1357 ?_
    refine lv_topi (fun x102 ex102 => ?_)
    have tx102 := i_add ex102 (by omega)
    have ejx102 : x102.toNatClampNeg = i.toNatClampNeg + 2 := by have h1 := i_cl (x := x102) (by omega); have h2 := i_cl (x := i) (by omega); omega
    refine va_sld hx hb hX hbl (Nat.not_le.mpr hbl) hS (vp_in_iff.mpr (by omega)) dL_law_1358 ?_
    refine W.eq (g2 := F0 m 1359 ls [.int (xs (i.toNatClampNeg + 2)), .int (xs (i.toNatClampNeg + 1)), .ref a]) (congrArg (fun z => F0 m 1359 ls [.int (xs z), .int (xs (i.toNatClampNeg + 1)), .ref a]) ejx102) ?_
    refine x_V (As := [.int (xs (i.toNatClampNeg + 1)), .int (xs (i.toNatClampNeg + 2))]) (rest := []) C (a_X9_set l K G H ((xs (i.toNatClampNeg + 1))) ((xs (i.toNatClampNeg + 2))) hT ga) yo_X9_set wM_L_141 ⟨⟨by decide, by decide⟩, show _ ≤ 284929 by omega, show _ ≤ 8247460 by omega⟩ (x_rv C hT (ci := 9) rfl ga rg_68) rfl hl.1 rfl (Nat.le_of_ble_eq_true rfl) dL_law_1359 hS (AE_new hN hS.1) (fun vH103 H103 locsH103 pH103 zH103 kH103 hSH103 => ?_)
    obtain ⟨x104, hvH103, hTH103⟩ := pH103
    subst hvH103
    have g105 : CG (avw K H103 b) := CG.congr (fun k hk j => av_eff hT kH103 gb (by decide) (CG_eff [104, 105, 106, 107] (by decide) k hk)) cg
    have g106 : TU (avw K H103 b) (svw K H103 b) := TU.congr (fun k hk j => av_eff hT kH103 gb (by decide) (TU_eff [104, 105, 106, 107] (by decide) k hk)) (fun k hk => sv_eff hT kH103 gb (by decide)) tu
    have g107 : WD (avw K H103 b) := WD.congr (fun k hk j => av_eff hT kH103 gb (by decide) (WD_eff [104, 105, 106, 107] (by decide) k hk)) wd
    have g108 : IM (avw K H103 b) := IM.congr (fun k hk j => av_eff hT kH103 gb (by decide) (IM_eff [104, 105, 106, 107] (by decide) k hk)) im
    have f109 : ∀ j : Nat, fI H103 tq j = fI H tq j := fun j => (fI_kept (x_lt hT kH103 gtq (by decide))).trans (ft0 j)
    have f110 : ∀ j : Nat, fI H103 uq j = fI H uq j := fun j => (fI_kept (x_lt hT kH103 guq (by decide))).trans (fu0 j)
    have m111 := (ew).trans (fR_kept (x_lt hT kH103 ga (by decide))).symm
    have m112 := (eta).trans (fI_kept (x_lt hT kH103 ga (by decide))).symm
    have m113 := (etb).trans (fI_kept (x_lt hT kH103 gb (by decide))).symm
    have m114 := (es1).trans (fI_kept (x_lt hT kH103 gw (by decide))).symm
    have m115 := (ey1).trans (fI_kept (x_lt hT kH103 gb (by decide))).symm
    have m116 := (es4).trans (fI_kept (x_lt hT kH103 gw (by decide))).symm
    have m117 := (ey4).trans (fI_kept (x_lt hT kH103 gb (by decide))).symm
    have m118 := (es5).trans (fI_kept (x_lt hT kH103 gw (by decide))).symm
    have m119 := (ey5).trans (fI_kept (x_lt hT kH103 gb (by decide))).symm
    have m120 := (es10).trans (fI_kept (x_lt hT kH103 gw (by decide))).symm
    have m121 := (ey10).trans (fI_kept (x_lt hT kH103 gb (by decide))).symm
    have m122 := (es13).trans (fI_kept (x_lt hT kH103 gw (by decide))).symm
    have m123 := (ey13).trans (fI_kept (x_lt hT kH103 gb (by decide))).symm
    have m124 := (es16).trans (fI_kept (x_lt hT kH103 gw (by decide))).symm
    have m125 := (ey16).trans (fI_kept (x_lt hT kH103 gb (by decide))).symm
    have m126 := (etq).trans (fR_kept (x_lt hT kH103 ga (by decide))).symm
    have m127 := (euq).trans (fR_kept (x_lt hT kH103 gb (by decide))).symm
    have m128 := (ehi).trans (fI_kept (x_lt hT kH103 gb (by decide))).symm
    have m129 := (fV_kept (x_lt hT kH103 ga (by decide))).trans kn
    refine W.eq (g2 := F0 m 1362 ls [.int x104]) rfl ?_
    refine lv_pop hx hb dL_law_1362 rfl ?_
    refine lv_aload_n hx hb dL_law_1363 rfl (lv_at hl 1 rfl) ?_
    refine lv_aload_n hx hb dL_law_1364 rfl (lv_at hl 3 rfl) ?_
    refine lv_iload_n hx hb dL_law_1365 rfl (lv_at hl 0 rfl) ?_
    refine lv_iconst (v := 1) hx hb dL_law_1366 (by decide) ?_
    refine lv_iadd hx hb dL_law_1367 ?_
    refine lv_topi (fun x130 ex130 => ?_)
    have tx130 := i_add ex130 (by omega)
    have ejx130 : x130.toNatClampNeg = i.toNatClampNeg + 1 := by have h1 := i_cl (x := x130) (by omega); have h2 := i_cl (x := i) (by omega); omega
    refine va_sld hx hb hX hbl (Nat.not_le.mpr hbl) hSH103 (vp_in_iff.mpr (by omega)) dL_law_1368 ?_
    refine W.eq (g2 := F0 m 1369 ls [.int (xs (i.toNatClampNeg + 1)), .ref b]) (congrArg (fun z => F0 m 1369 ls [.int (xs z), .ref b]) ejx130) ?_
    refine lv_aload_n hx hb dL_law_1369 rfl (lv_at hl 3 rfl) ?_
    refine lv_iload_n hx hb dL_law_1370 rfl (lv_at hl 0 rfl) ?_
    refine lv_iconst (v := 2) hx hb dL_law_1371 (by decide) ?_
    refine lv_iadd hx hb dL_law_1372 ?_
    refine lv_topi (fun x131 ex131 => ?_)
    have tx131 := i_add ex131 (by omega)
    have ejx131 : x131.toNatClampNeg = i.toNatClampNeg + 2 := by have h1 := i_cl (x := x131) (by omega); have h2 := i_cl (x := i) (by omega); omega
    refine va_sld hx hb hX hbl (Nat.not_le.mpr hbl) hSH103 (vp_in_iff.mpr (by omega)) dL_law_1373 ?_
    refine W.eq (g2 := F0 m 1374 ls [.int (xs (i.toNatClampNeg + 2)), .int (xs (i.toNatClampNeg + 1)), .ref b]) (congrArg (fun z => F0 m 1374 ls [.int (xs z), .int (xs (i.toNatClampNeg + 1)), .ref b]) ejx131) ?_
    refine x_V (As := [.int (xs (i.toNatClampNeg + 1)), .int (xs (i.toNatClampNeg + 2))]) (rest := []) C (a_X10_set l K G H103 ((xs (i.toNatClampNeg + 1))) ((xs (i.toNatClampNeg + 2))) hTH103 gb g105 g106 g107 g108) yo_X10_set wM_L_144 ⟨⟨by decide, by decide⟩, show _ ≤ 284929 by omega, show _ ≤ 8247460 by omega⟩ (x_rv C hTH103 (ci := 10) rfl gb rg_112) rfl hl.1 rfl (Nat.le_of_ble_eq_true rfl) dL_law_1374 hSH103 (AE_new hN hSH103.1) (fun vH132 H132 locsH132 pH132 zH132 kH132 hSH132 => ?_)
    obtain ⟨x133, hvH132, g134, g135, g136, g137, mf138, hTH132⟩ := pH132
    subst hvH132
    have f139 : ∀ j : Nat, fI H132 tq j = fI H tq j := fun j => (fI_kept (x_lt hTH103 kH132 gtq (by decide))).trans (f109 j)
    have f140 : ∀ j : Nat, fI H132 uq j = fI H uq j := fun j => (fI_kept (x_lt hTH103 kH132 guq (by decide))).trans (f110 j)
    have m141 := (m111).trans (fR_kept (x_lt hTH103 kH132 ga (by decide))).symm
    have m142 := (m112).trans (fI_kept (x_lt hTH103 kH132 ga (by decide))).symm
    have m143 := (m114).trans (fI_kept (x_lt hTH103 kH132 gw (by decide))).symm
    have m144 := (m116).trans (fI_kept (x_lt hTH103 kH132 gw (by decide))).symm
    have m145 := (m118).trans (fI_kept (x_lt hTH103 kH132 gw (by decide))).symm
    have m146 := (m120).trans (fI_kept (x_lt hTH103 kH132 gw (by decide))).symm
    have m147 := (m122).trans (fI_kept (x_lt hTH103 kH132 gw (by decide))).symm
    have m148 := (m124).trans (fI_kept (x_lt hTH103 kH132 gw (by decide))).symm
    have m149 := (m126).trans (fR_kept (x_lt hTH103 kH132 ga (by decide))).symm
    have m150 := (fV_kept (x_lt hTH103 kH132 ga (by decide))).trans m129
    have m151 := (m113).trans (MF.i mf138 (k := 18) (by decide) (by decide)).symm
    have m152 := (m115).trans (MF.i mf138 (k := 1) (by decide) (by decide)).symm
    have m153 := (m117).trans (MF.i mf138 (k := 2) (by decide) (by decide)).symm
    have m154 := (m119).trans (MF.i mf138 (k := 3) (by decide) (by decide)).symm
    have m155 := (m121).trans (MF.i mf138 (k := 59) (by decide) (by decide)).symm
    have m156 := (m123).trans (MF.i mf138 (k := 62) (by decide) (by decide)).symm
    have m157 := (m125).trans (MF.i mf138 (k := 65) (by decide) (by decide)).symm
    have m158 := (m127).trans (MF.r mf138 (k := 17) (by decide) (by decide)).symm
    have m159 := (m128).trans (MF.i mf138 (k := 70) (by decide) (by decide)).symm
    refine W.eq (g2 := F0 m 1377 ls [.int x133]) rfl ?_
    refine lv_pop hx hb dL_law_1377 rfl ?_
    refine lv_goto (tgt := 1509) hx hb dL_law_1378 (by decide) ?_
    exact nx G H132 locsH132 _ _ ls ⟨hTH132, hN, ga, gb, g134, g135, g136, g137, ⟨(by rw [← m142, ← m151]; omega), (by rw [← m141, ← m143, ← m152]; omega), (by rw [← m141, ← m144, ← m153]; omega), (by rw [← m141, ← m145, ← m154]; omega), (by rw [← m141, ← m146, ← m155]; omega), (by rw [← m141, ← m147, ← m156]; omega), (by rw [← m141, ← m148, ← m157]; omega)⟩, Or.inl ⟨m150, (by rw [← m159]; omega)⟩, (by unfold TB; rw [← m149, ← m158, ← m151]; exact TBR.of htr f139 f140 (by omega)), hSH132⟩ hl ⟨by omega, by omega, fun _ => ⟨by omega, by omega⟩⟩
  · skip
    obtain ⟨hi, ehi⟩ : ∃ z : Int32, z = fI H b (K.1.2 10 70) := ⟨_, rfl⟩
    rw [← ehi] at h70
    obtain ⟨iq, eiq⟩ : ∃ z : Nat, z = fR H b (K.1.2 10 73) := ⟨_, rfl⟩
    have giq := ty_fr (q := iq) (k := 73) (u := 162) eiq hT gb rg_112 rfl
    rw [← eiq] at q1 q4 q5 q10 q13 q16
    obtain ⟨k1, ek1⟩ : ∃ z : Int32, z = fI H kq (K.1.2 8 1) := ⟨_, rfl⟩
    rw [← ek1] at q1
    obtain ⟨i1, ei1⟩ : ∃ z : Int32, z = fI H iq ((0 : Int32).toNatClampNeg) := ⟨_, rfl⟩
    rw [← ei1] at q1
    obtain ⟨k4, ek4⟩ : ∃ z : Int32, z = fI H kq (K.1.2 8 4) := ⟨_, rfl⟩
    rw [← ek4] at q4
    obtain ⟨i4, ei4⟩ : ∃ z : Int32, z = fI H iq ((1 : Int32).toNatClampNeg) := ⟨_, rfl⟩
    rw [← ei4] at q4
    obtain ⟨k5, ek5⟩ : ∃ z : Int32, z = fI H kq (K.1.2 8 5) := ⟨_, rfl⟩
    rw [← ek5] at q5
    obtain ⟨i5, ei5⟩ : ∃ z : Int32, z = fI H iq ((2 : Int32).toNatClampNeg) := ⟨_, rfl⟩
    rw [← ei5] at q5
    obtain ⟨k10, ek10⟩ : ∃ z : Int32, z = fI H kq (K.1.2 8 10) := ⟨_, rfl⟩
    rw [← ek10] at q10
    obtain ⟨i10, ei10⟩ : ∃ z : Int32, z = fI H iq ((3 : Int32).toNatClampNeg) := ⟨_, rfl⟩
    rw [← ei10] at q10
    obtain ⟨k13, ek13⟩ : ∃ z : Int32, z = fI H kq (K.1.2 8 13) := ⟨_, rfl⟩
    rw [← ek13] at q13
    obtain ⟨i13, ei13⟩ : ∃ z : Int32, z = fI H iq ((4 : Int32).toNatClampNeg) := ⟨_, rfl⟩
    rw [← ei13] at q13
    obtain ⟨k16, ek16⟩ : ∃ z : Int32, z = fI H kq (K.1.2 8 16) := ⟨_, rfl⟩
    rw [← ek16] at q16
    obtain ⟨i16, ei16⟩ : ∃ z : Int32, z = fI H iq ((5 : Int32).toNatClampNeg) := ⟨_, rfl⟩
    rw [← ei16] at q16
    refine lv_aload_n hx hb dL_law_1348 rfl (lv_at hl 2 rfl) ?_
    refine lv_aload_n hx hb dL_law_1349 rfl (lv_at hl 3 rfl) ?_
    refine lv_iload_n hx hb dL_law_1350 rfl (lv_at hl 0 rfl) ?_
    refine lv_iconst (v := 1) hx hb dL_law_1351 (by decide) ?_
    refine lv_iadd hx hb dL_law_1352 ?_
    refine lv_topi (fun x160 ex160 => ?_)
    have tx160 := i_add ex160 (by omega)
    have ejx160 : x160.toNatClampNeg = i.toNatClampNeg + 1 := by have h1 := i_cl (x := x160) (by omega); have h2 := i_cl (x := i) (by omega); omega
    refine va_sld hx hb hX hbl (Nat.not_le.mpr hbl) hS (vp_in_iff.mpr (by omega)) dL_law_1353 ?_
    refine W.eq (g2 := F0 m 1354 ls [.int (xs (i.toNatClampNeg + 1)), .ref a]) (congrArg (fun z => F0 m 1354 ls [.int (xs z), .ref a]) ejx160) ?_
    refine lv_aload_n hx hb dL_law_1354 rfl (lv_at hl 3 rfl) ?_
    refine lv_iload_n hx hb dL_law_1355 rfl (lv_at hl 0 rfl) ?_
    refine lv_iconst (v := 2) hx hb dL_law_1356 (by decide) ?_
    refine lv_iadd hx hb dL_law_1357 ?_
    refine lv_topi (fun x161 ex161 => ?_)
    have tx161 := i_add ex161 (by omega)
    have ejx161 : x161.toNatClampNeg = i.toNatClampNeg + 2 := by have h1 := i_cl (x := x161) (by omega); have h2 := i_cl (x := i) (by omega); omega
    refine va_sld hx hb hX hbl (Nat.not_le.mpr hbl) hS (vp_in_iff.mpr (by omega)) dL_law_1358 ?_
    refine W.eq (g2 := F0 m 1359 ls [.int (xs (i.toNatClampNeg + 2)), .int (xs (i.toNatClampNeg + 1)), .ref a]) (congrArg (fun z => F0 m 1359 ls [.int (xs z), .int (xs (i.toNatClampNeg + 1)), .ref a]) ejx161) ?_
    refine x_V (As := [.int (xs (i.toNatClampNeg + 1)), .int (xs (i.toNatClampNeg + 2))]) (rest := []) C (a_X9_set l K G H ((xs (i.toNatClampNeg + 1))) ((xs (i.toNatClampNeg + 2))) hT ga) yo_X9_set wM_L_141 ⟨⟨by decide, by decide⟩, show _ ≤ 284929 by omega, show _ ≤ 8247460 by omega⟩ (x_rv C hT (ci := 9) rfl ga rg_68) rfl hl.1 rfl (Nat.le_of_ble_eq_true rfl) dL_law_1359 hS (AE_new hN hS.1) (fun vH162 H162 locsH162 pH162 zH162 kH162 hSH162 => ?_)
    obtain ⟨x163, hvH162, hTH162⟩ := pH162
    subst hvH162
    have g164 : CG (avw K H162 b) := CG.congr (fun k hk j => av_eff hT kH162 gb (by decide) (CG_eff [104, 105, 106, 107] (by decide) k hk)) cg
    have g165 : TU (avw K H162 b) (svw K H162 b) := TU.congr (fun k hk j => av_eff hT kH162 gb (by decide) (TU_eff [104, 105, 106, 107] (by decide) k hk)) (fun k hk => sv_eff hT kH162 gb (by decide)) tu
    have g166 : WD (avw K H162 b) := WD.congr (fun k hk j => av_eff hT kH162 gb (by decide) (WD_eff [104, 105, 106, 107] (by decide) k hk)) wd
    have g167 : IM (avw K H162 b) := IM.congr (fun k hk j => av_eff hT kH162 gb (by decide) (IM_eff [104, 105, 106, 107] (by decide) k hk)) im
    have f168 : ∀ j : Nat, fI H162 tq j = fI H tq j := fun j => (fI_kept (x_lt hT kH162 gtq (by decide))).trans (ft0 j)
    have f169 : ∀ j : Nat, fI H162 uq j = fI H uq j := fun j => (fI_kept (x_lt hT kH162 guq (by decide))).trans (fu0 j)
    have m170 := (ew).trans (fR_kept (x_lt hT kH162 ga (by decide))).symm
    have m171 := (eta).trans (fI_kept (x_lt hT kH162 ga (by decide))).symm
    have m172 := (etb).trans (fI_kept (x_lt hT kH162 gb (by decide))).symm
    have m173 := (es1).trans (fI_kept (x_lt hT kH162 gw (by decide))).symm
    have m174 := (ey1).trans (fI_kept (x_lt hT kH162 gb (by decide))).symm
    have m175 := (es4).trans (fI_kept (x_lt hT kH162 gw (by decide))).symm
    have m176 := (ey4).trans (fI_kept (x_lt hT kH162 gb (by decide))).symm
    have m177 := (es5).trans (fI_kept (x_lt hT kH162 gw (by decide))).symm
    have m178 := (ey5).trans (fI_kept (x_lt hT kH162 gb (by decide))).symm
    have m179 := (es10).trans (fI_kept (x_lt hT kH162 gw (by decide))).symm
    have m180 := (ey10).trans (fI_kept (x_lt hT kH162 gb (by decide))).symm
    have m181 := (es13).trans (fI_kept (x_lt hT kH162 gw (by decide))).symm
    have m182 := (ey13).trans (fI_kept (x_lt hT kH162 gb (by decide))).symm
    have m183 := (es16).trans (fI_kept (x_lt hT kH162 gw (by decide))).symm
    have m184 := (ey16).trans (fI_kept (x_lt hT kH162 gb (by decide))).symm
    have m185 := (etq).trans (fR_kept (x_lt hT kH162 ga (by decide))).symm
    have m186 := (euq).trans (fR_kept (x_lt hT kH162 gb (by decide))).symm
    have m187 := (ehi).trans (fI_kept (x_lt hT kH162 gb (by decide))).symm
    have m188 := (fV_kept (x_lt hT kH162 ga (by decide))).trans kn
    have m189 := (eiq).trans (fR_kept (x_lt hT kH162 gb (by decide))).symm
    have m190 := (ek1).trans (fI_kept (x_lt hT kH162 gkq (by decide))).symm
    have m191 := (ei1).trans (fI_kept (x_lt hT kH162 giq (by decide))).symm
    have m192 := (ek4).trans (fI_kept (x_lt hT kH162 gkq (by decide))).symm
    have m193 := (ei4).trans (fI_kept (x_lt hT kH162 giq (by decide))).symm
    have m194 := (ek5).trans (fI_kept (x_lt hT kH162 gkq (by decide))).symm
    have m195 := (ei5).trans (fI_kept (x_lt hT kH162 giq (by decide))).symm
    have m196 := (ek10).trans (fI_kept (x_lt hT kH162 gkq (by decide))).symm
    have m197 := (ei10).trans (fI_kept (x_lt hT kH162 giq (by decide))).symm
    have m198 := (ek13).trans (fI_kept (x_lt hT kH162 gkq (by decide))).symm
    have m199 := (ei13).trans (fI_kept (x_lt hT kH162 giq (by decide))).symm
    have m200 := (ek16).trans (fI_kept (x_lt hT kH162 gkq (by decide))).symm
    have m201 := (ei16).trans (fI_kept (x_lt hT kH162 giq (by decide))).symm
    refine W.eq (g2 := F0 m 1362 ls [.int x163]) rfl ?_
    refine lv_pop hx hb dL_law_1362 rfl ?_
    refine lv_aload_n hx hb dL_law_1363 rfl (lv_at hl 1 rfl) ?_
    refine lv_aload_n hx hb dL_law_1364 rfl (lv_at hl 3 rfl) ?_
    refine lv_iload_n hx hb dL_law_1365 rfl (lv_at hl 0 rfl) ?_
    refine lv_iconst (v := 1) hx hb dL_law_1366 (by decide) ?_
    refine lv_iadd hx hb dL_law_1367 ?_
    refine lv_topi (fun x202 ex202 => ?_)
    have tx202 := i_add ex202 (by omega)
    have ejx202 : x202.toNatClampNeg = i.toNatClampNeg + 1 := by have h1 := i_cl (x := x202) (by omega); have h2 := i_cl (x := i) (by omega); omega
    refine va_sld hx hb hX hbl (Nat.not_le.mpr hbl) hSH162 (vp_in_iff.mpr (by omega)) dL_law_1368 ?_
    refine W.eq (g2 := F0 m 1369 ls [.int (xs (i.toNatClampNeg + 1)), .ref b]) (congrArg (fun z => F0 m 1369 ls [.int (xs z), .ref b]) ejx202) ?_
    refine lv_aload_n hx hb dL_law_1369 rfl (lv_at hl 3 rfl) ?_
    refine lv_iload_n hx hb dL_law_1370 rfl (lv_at hl 0 rfl) ?_
    refine lv_iconst (v := 2) hx hb dL_law_1371 (by decide) ?_
    refine lv_iadd hx hb dL_law_1372 ?_
    refine lv_topi (fun x203 ex203 => ?_)
    have tx203 := i_add ex203 (by omega)
    have ejx203 : x203.toNatClampNeg = i.toNatClampNeg + 2 := by have h1 := i_cl (x := x203) (by omega); have h2 := i_cl (x := i) (by omega); omega
    refine va_sld hx hb hX hbl (Nat.not_le.mpr hbl) hSH162 (vp_in_iff.mpr (by omega)) dL_law_1373 ?_
    refine W.eq (g2 := F0 m 1374 ls [.int (xs (i.toNatClampNeg + 2)), .int (xs (i.toNatClampNeg + 1)), .ref b]) (congrArg (fun z => F0 m 1374 ls [.int (xs z), .int (xs (i.toNatClampNeg + 1)), .ref b]) ejx203) ?_
    refine x_V (As := [.int (xs (i.toNatClampNeg + 1)), .int (xs (i.toNatClampNeg + 2))]) (rest := []) C (a_X10_set l K G H162 ((xs (i.toNatClampNeg + 1))) ((xs (i.toNatClampNeg + 2))) hTH162 gb g164 g165 g166 g167) yo_X10_set wM_L_144 ⟨⟨by decide, by decide⟩, show _ ≤ 284929 by omega, show _ ≤ 8247460 by omega⟩ (x_rv C hTH162 (ci := 10) rfl gb rg_112) rfl hl.1 rfl (Nat.le_of_ble_eq_true rfl) dL_law_1374 hSH162 (AE_new hN hSH162.1) (fun vH204 H204 locsH204 pH204 zH204 kH204 hSH204 => ?_)
    obtain ⟨x205, hvH204, g206, g207, g208, g209, mf210, hTH204⟩ := pH204
    subst hvH204
    have f211 : ∀ j : Nat, fI H204 tq j = fI H tq j := fun j => (fI_kept (x_lt hTH162 kH204 gtq (by decide))).trans (f168 j)
    have f212 : ∀ j : Nat, fI H204 uq j = fI H uq j := fun j => (fI_kept (x_lt hTH162 kH204 guq (by decide))).trans (f169 j)
    have m213 := (m170).trans (fR_kept (x_lt hTH162 kH204 ga (by decide))).symm
    have m214 := (m171).trans (fI_kept (x_lt hTH162 kH204 ga (by decide))).symm
    have m215 := (m173).trans (fI_kept (x_lt hTH162 kH204 gw (by decide))).symm
    have m216 := (m175).trans (fI_kept (x_lt hTH162 kH204 gw (by decide))).symm
    have m217 := (m177).trans (fI_kept (x_lt hTH162 kH204 gw (by decide))).symm
    have m218 := (m179).trans (fI_kept (x_lt hTH162 kH204 gw (by decide))).symm
    have m219 := (m181).trans (fI_kept (x_lt hTH162 kH204 gw (by decide))).symm
    have m220 := (m183).trans (fI_kept (x_lt hTH162 kH204 gw (by decide))).symm
    have m221 := (m185).trans (fR_kept (x_lt hTH162 kH204 ga (by decide))).symm
    have m222 := (fV_kept (x_lt hTH162 kH204 ga (by decide))).trans m188
    have m223 := (m190).trans (fI_kept (x_lt hTH162 kH204 gkq (by decide))).symm
    have m224 := (m191).trans (fI_kept (x_lt hTH162 kH204 giq (by decide))).symm
    have m225 := (m192).trans (fI_kept (x_lt hTH162 kH204 gkq (by decide))).symm
    have m226 := (m193).trans (fI_kept (x_lt hTH162 kH204 giq (by decide))).symm
    have m227 := (m194).trans (fI_kept (x_lt hTH162 kH204 gkq (by decide))).symm
    have m228 := (m195).trans (fI_kept (x_lt hTH162 kH204 giq (by decide))).symm
    have m229 := (m196).trans (fI_kept (x_lt hTH162 kH204 gkq (by decide))).symm
    have m230 := (m197).trans (fI_kept (x_lt hTH162 kH204 giq (by decide))).symm
    have m231 := (m198).trans (fI_kept (x_lt hTH162 kH204 gkq (by decide))).symm
    have m232 := (m199).trans (fI_kept (x_lt hTH162 kH204 giq (by decide))).symm
    have m233 := (m200).trans (fI_kept (x_lt hTH162 kH204 gkq (by decide))).symm
    have m234 := (m201).trans (fI_kept (x_lt hTH162 kH204 giq (by decide))).symm
    have m235 := (m172).trans (MF.i mf210 (k := 18) (by decide) (by decide)).symm
    have m236 := (m174).trans (MF.i mf210 (k := 1) (by decide) (by decide)).symm
    have m237 := (m176).trans (MF.i mf210 (k := 2) (by decide) (by decide)).symm
    have m238 := (m178).trans (MF.i mf210 (k := 3) (by decide) (by decide)).symm
    have m239 := (m180).trans (MF.i mf210 (k := 59) (by decide) (by decide)).symm
    have m240 := (m182).trans (MF.i mf210 (k := 62) (by decide) (by decide)).symm
    have m241 := (m184).trans (MF.i mf210 (k := 65) (by decide) (by decide)).symm
    have m242 := (m186).trans (MF.r mf210 (k := 17) (by decide) (by decide)).symm
    have m243 := (m187).trans (MF.i mf210 (k := 70) (by decide) (by decide)).symm
    have m244 := (m189).trans (MF.r mf210 (k := 73) (by decide) (by decide)).symm
    refine W.eq (g2 := F0 m 1377 ls [.int x205]) rfl ?_
    refine lv_pop hx hb dL_law_1377 rfl ?_
    refine lv_goto (tgt := 1509) hx hb dL_law_1378 (by decide) ?_
    exact nx G H204 locsH204 _ _ ls ⟨hTH204, hN, ga, gb, g206, g207, g208, g209, ⟨(by rw [← m214, ← m235]; omega), (by rw [← m213, ← m215, ← m236]; omega), (by rw [← m213, ← m216, ← m237]; omega), (by rw [← m213, ← m217, ← m238]; omega), (by rw [← m213, ← m218, ← m239]; omega), (by rw [← m213, ← m219, ← m240]; omega), (by rw [← m213, ← m220, ← m241]; omega)⟩, Or.inr ⟨kq, m222, gkq, (by rw [← m243]; omega), (by rw [← m223, ← m244, ← m224]; omega), (by rw [← m225, ← m244, ← m226]; omega), (by rw [← m227, ← m244, ← m228]; omega), (by rw [← m229, ← m244, ← m230]; omega), (by rw [← m231, ← m244, ← m232]; omega), (by rw [← m233, ← m244, ← m234]; omega)⟩, (by unfold TB; rw [← m221, ← m242, ← m235]; exact TBR.of htr f211 f212 (by omega)), hSH204⟩ hl ⟨by omega, by omega, fun h => by have h1 := h.symm.trans m222; cases h1⟩
set_option maxRecDepth 100000 in
set_option maxHeartbeats 8000000 in
theorem lw_c31 {p : Program} {l : Launch} {e : Env} {s : State} {m : MethodId} {below : List Frame} {meth : Method} {c : Code} {K : KE} {b0 L : Nat} {xs : Nat → Int32} {G : Nat → Option Nat} {H : Heap} {locs : List Loc} {a b : Nat} {cells slots : Nat} {ls : Array Slot} {i : Int32} {n : Nat} (D : LC p K s m meth c b0 L xs) (S : SX K s G H locs a b) (hl : lv_has ls 4 [(3, .int i), (2, .ref b), (1, .ref a), (0, .ref b0)]) (hi : 0 ≤ i.toInt ∧ i.toInt + 6 ≤ L) (hn : n ≤ 511) (hB : BD K H a cells slots) (nx : ∀ (G : Nat → Option Nat) (H : Heap) (locs : List Loc) (cells slots : Nat) (ls : Array Slot), SX K s G H locs a b → lv_has ls 4 [(3, .int i), (2, .ref b), (1, .ref a), (0, .ref b0)] → BD K H a cells slots → W p l e room_1 s m #[Value.ref b0] below meth c H locs cells slots (lw_Z below #[Value.ref b0] s) (F0 m 1509 ls [])) : W p l e room_1 s m #[Value.ref b0] below meth c H locs cells slots (lw_Z below #[Value.ref b0] s) (F0 m 1381 ls []) := by
  obtain ⟨C, hX, hbl, hL⟩ := id D
  obtain ⟨hx, hb, hml, hown, hts, hKT, hr, hlocks, hnm⟩ := id C
  obtain ⟨hT, hN, ga, gb, cg, tu, wd, im, ⟨rt, r1, r4, r5, r10, r13, r16⟩, hk, htb, hS⟩ := S
  obtain ⟨hc, hs, hB0⟩ := hB
  have n_1 : (1 : Int32).toInt = 1 := rfl
  obtain ⟨w, ew⟩ : ∃ z : Nat, z = fR H a (K.1.2 9 0) := ⟨_, rfl⟩
  have gw := ty_fr (q := w) (k := 0) (u := 0) ew hT ga rg_68 rfl
  rw [← ew] at r1 r4 r5 r10 r13 r16
  obtain ⟨ta, eta⟩ : ∃ z : Int32, z = fI H a (K.1.2 9 3) := ⟨_, rfl⟩
  rw [← eta] at rt
  obtain ⟨tb, etb⟩ : ∃ z : Int32, z = fI H b (K.1.2 10 18) := ⟨_, rfl⟩
  rw [← etb] at rt
  obtain ⟨s1, es1⟩ : ∃ z : Int32, z = fI H w (K.1.2 8 1) := ⟨_, rfl⟩
  rw [← es1] at r1
  obtain ⟨y1, ey1⟩ : ∃ z : Int32, z = fI H b (K.1.2 10 1) := ⟨_, rfl⟩
  rw [← ey1] at r1
  obtain ⟨s4, es4⟩ : ∃ z : Int32, z = fI H w (K.1.2 8 4) := ⟨_, rfl⟩
  rw [← es4] at r4
  obtain ⟨y4, ey4⟩ : ∃ z : Int32, z = fI H b (K.1.2 10 2) := ⟨_, rfl⟩
  rw [← ey4] at r4
  obtain ⟨s5, es5⟩ : ∃ z : Int32, z = fI H w (K.1.2 8 5) := ⟨_, rfl⟩
  rw [← es5] at r5
  obtain ⟨y5, ey5⟩ : ∃ z : Int32, z = fI H b (K.1.2 10 3) := ⟨_, rfl⟩
  rw [← ey5] at r5
  obtain ⟨s10, es10⟩ : ∃ z : Int32, z = fI H w (K.1.2 8 10) := ⟨_, rfl⟩
  rw [← es10] at r10
  obtain ⟨y10, ey10⟩ : ∃ z : Int32, z = fI H b (K.1.2 10 59) := ⟨_, rfl⟩
  rw [← ey10] at r10
  obtain ⟨s13, es13⟩ : ∃ z : Int32, z = fI H w (K.1.2 8 13) := ⟨_, rfl⟩
  rw [← es13] at r13
  obtain ⟨y13, ey13⟩ : ∃ z : Int32, z = fI H b (K.1.2 10 62) := ⟨_, rfl⟩
  rw [← ey13] at r13
  obtain ⟨s16, es16⟩ : ∃ z : Int32, z = fI H w (K.1.2 8 16) := ⟨_, rfl⟩
  rw [← es16] at r16
  obtain ⟨y16, ey16⟩ : ∃ z : Int32, z = fI H b (K.1.2 10 65) := ⟨_, rfl⟩
  rw [← ey16] at r16
  obtain ⟨tq, etq⟩ : ∃ z : Nat, z = fR H a (K.1.2 9 2) := ⟨_, rfl⟩
  have gtq := ty_fr (q := tq) (k := 2) (u := 108) etq hT ga rg_68 rfl
  obtain ⟨uq, euq⟩ : ∃ z : Nat, z = fR H b (K.1.2 10 17) := ⟨_, rfl⟩
  have guq := ty_fr (q := uq) (k := 17) (u := 126) euq hT gb rg_112 rfl
  have htr : TBR (fun j => fI H tq j) (fun j => fI H uq j) tb.toNatClampNeg := by rw [etq, euq, etb]; exact htb
  have ft0 : ∀ j : Nat, fI H tq j = fI H tq j := fun _ => rfl
  have fu0 : ∀ j : Nat, fI H uq j = fI H uq j := fun _ => rfl
  have bta := ty_fi (x := ta) (k := 3) eta hT ga rg_68 rfl
  have cta := i_cl (x := ta) (by omega)
  have btb := ty_fi (x := tb) (k := 18) etb hT gb rg_112 rfl
  have ctb := i_cl (x := tb) (by omega)
  rcases hk with ⟨kn, h70⟩ | ⟨kq, kn, gkq, h70, q1, q4, q5, q10, q13, q16⟩
  · skip
    obtain ⟨hi, ehi⟩ : ∃ z : Int32, z = fI H b (K.1.2 10 70) := ⟨_, rfl⟩
    rw [← ehi] at h70
    obtain ⟨hc0, hs0⟩ := hB0 kn
    refine lv_aload_n hx hb dL_law_1381 rfl (lv_at hl 2 rfl) ?_
    refine lv_aload_n hx hb dL_law_1382 rfl (lv_at hl 3 rfl) ?_
    refine lv_iload_n hx hb dL_law_1383 rfl (lv_at hl 0 rfl) ?_
    refine lv_iconst (v := 1) hx hb dL_law_1384 (by decide) ?_
    refine lv_iadd hx hb dL_law_1385 ?_
    refine lv_topi (fun x101 ex101 => ?_)
    have tx101 := i_add ex101 (by omega)
    have ejx101 : x101.toNatClampNeg = i.toNatClampNeg + 1 := by have h1 := i_cl (x := x101) (by omega); have h2 := i_cl (x := i) (by omega); omega
    refine va_sld hx hb hX hbl (Nat.not_le.mpr hbl) hS (vp_in_iff.mpr (by omega)) dL_law_1386 ?_
    refine W.eq (g2 := F0 m 1387 ls [.int (xs (i.toNatClampNeg + 1)), .ref a]) (congrArg (fun z => F0 m 1387 ls [.int (xs z), .ref a]) ejx101) ?_
    refine x_V (As := [.int (xs (i.toNatClampNeg + 1))]) (rest := []) C (a_X9_down l K G H ((xs (i.toNatClampNeg + 1))) hT ga) yo_X9_down wM_L_145 ⟨⟨by decide, by decide⟩, show _ ≤ 284929 by omega, show _ ≤ 8247460 by omega⟩ (x_rv C hT (ci := 9) rfl ga rg_68) rfl hl.1 rfl (Nat.le_of_ble_eq_true rfl) dL_law_1387 hS (AE_new hN hS.1) (fun vH102 H102 locsH102 pH102 zH102 kH102 hSH102 => ?_)
    obtain ⟨x103, hvH102, hTH102⟩ := pH102
    subst hvH102
    have g104 : CG (avw K H102 b) := CG.congr (fun k hk j => av_eff hT kH102 gb (by decide) (CG_eff [83, 84] (by decide) k hk)) cg
    have g105 : TU (avw K H102 b) (svw K H102 b) := TU.congr (fun k hk j => av_eff hT kH102 gb (by decide) (TU_eff [83, 84] (by decide) k hk)) (fun k hk => sv_eff hT kH102 gb (by decide)) tu
    have g106 : WD (avw K H102 b) := WD.congr (fun k hk j => av_eff hT kH102 gb (by decide) (WD_eff [83, 84] (by decide) k hk)) wd
    have g107 : IM (avw K H102 b) := IM.congr (fun k hk j => av_eff hT kH102 gb (by decide) (IM_eff [83, 84] (by decide) k hk)) im
    have f108 : ∀ j : Nat, fI H102 tq j = fI H tq j := fun j => (fI_kept (x_lt hT kH102 gtq (by decide))).trans (ft0 j)
    have f109 : ∀ j : Nat, fI H102 uq j = fI H uq j := fun j => (fI_kept (x_lt hT kH102 guq (by decide))).trans (fu0 j)
    have m110 := (ew).trans (fR_kept (x_lt hT kH102 ga (by decide))).symm
    have m111 := (eta).trans (fI_kept (x_lt hT kH102 ga (by decide))).symm
    have m112 := (etb).trans (fI_kept (x_lt hT kH102 gb (by decide))).symm
    have m113 := (es1).trans (fI_kept (x_lt hT kH102 gw (by decide))).symm
    have m114 := (ey1).trans (fI_kept (x_lt hT kH102 gb (by decide))).symm
    have m115 := (es4).trans (fI_kept (x_lt hT kH102 gw (by decide))).symm
    have m116 := (ey4).trans (fI_kept (x_lt hT kH102 gb (by decide))).symm
    have m117 := (es5).trans (fI_kept (x_lt hT kH102 gw (by decide))).symm
    have m118 := (ey5).trans (fI_kept (x_lt hT kH102 gb (by decide))).symm
    have m119 := (es10).trans (fI_kept (x_lt hT kH102 gw (by decide))).symm
    have m120 := (ey10).trans (fI_kept (x_lt hT kH102 gb (by decide))).symm
    have m121 := (es13).trans (fI_kept (x_lt hT kH102 gw (by decide))).symm
    have m122 := (ey13).trans (fI_kept (x_lt hT kH102 gb (by decide))).symm
    have m123 := (es16).trans (fI_kept (x_lt hT kH102 gw (by decide))).symm
    have m124 := (ey16).trans (fI_kept (x_lt hT kH102 gb (by decide))).symm
    have m125 := (etq).trans (fR_kept (x_lt hT kH102 ga (by decide))).symm
    have m126 := (euq).trans (fR_kept (x_lt hT kH102 gb (by decide))).symm
    have m127 := (ehi).trans (fI_kept (x_lt hT kH102 gb (by decide))).symm
    have m128 := (fV_kept (x_lt hT kH102 ga (by decide))).trans kn
    refine W.eq (g2 := F0 m 1390 ls [.int x103]) rfl ?_
    refine lv_pop hx hb dL_law_1390 rfl ?_
    refine lv_aload_n hx hb dL_law_1391 rfl (lv_at hl 1 rfl) ?_
    refine lv_aload_n hx hb dL_law_1392 rfl (lv_at hl 3 rfl) ?_
    refine lv_iload_n hx hb dL_law_1393 rfl (lv_at hl 0 rfl) ?_
    refine lv_iconst (v := 1) hx hb dL_law_1394 (by decide) ?_
    refine lv_iadd hx hb dL_law_1395 ?_
    refine lv_topi (fun x129 ex129 => ?_)
    have tx129 := i_add ex129 (by omega)
    have ejx129 : x129.toNatClampNeg = i.toNatClampNeg + 1 := by have h1 := i_cl (x := x129) (by omega); have h2 := i_cl (x := i) (by omega); omega
    refine va_sld hx hb hX hbl (Nat.not_le.mpr hbl) hSH102 (vp_in_iff.mpr (by omega)) dL_law_1396 ?_
    refine W.eq (g2 := F0 m 1397 ls [.int (xs (i.toNatClampNeg + 1)), .ref b]) (congrArg (fun z => F0 m 1397 ls [.int (xs z), .ref b]) ejx129) ?_
    refine x_V (As := [.int (xs (i.toNatClampNeg + 1))]) (rest := []) C (a_X10_down l K G H102 ((xs (i.toNatClampNeg + 1))) hTH102 gb g104 g105 g106 g107) yo_X10_down wM_L_148 ⟨⟨by decide, by decide⟩, show _ ≤ 284929 by omega, show _ ≤ 8247460 by omega⟩ (x_rv C hTH102 (ci := 10) rfl gb rg_112) rfl hl.1 rfl (Nat.le_of_ble_eq_true rfl) dL_law_1397 hSH102 (AE_new hN hSH102.1) (fun vH130 H130 locsH130 pH130 zH130 kH130 hSH130 => ?_)
    obtain ⟨x131, hvH130, g132, g133, g134, g135, mf136, hTH130⟩ := pH130
    subst hvH130
    have f137 : ∀ j : Nat, fI H130 tq j = fI H tq j := fun j => (fI_kept (x_lt hTH102 kH130 gtq (by decide))).trans (f108 j)
    have f138 : ∀ j : Nat, fI H130 uq j = fI H uq j := fun j => (fI_kept (x_lt hTH102 kH130 guq (by decide))).trans (f109 j)
    have m139 := (m110).trans (fR_kept (x_lt hTH102 kH130 ga (by decide))).symm
    have m140 := (m111).trans (fI_kept (x_lt hTH102 kH130 ga (by decide))).symm
    have m141 := (m113).trans (fI_kept (x_lt hTH102 kH130 gw (by decide))).symm
    have m142 := (m115).trans (fI_kept (x_lt hTH102 kH130 gw (by decide))).symm
    have m143 := (m117).trans (fI_kept (x_lt hTH102 kH130 gw (by decide))).symm
    have m144 := (m119).trans (fI_kept (x_lt hTH102 kH130 gw (by decide))).symm
    have m145 := (m121).trans (fI_kept (x_lt hTH102 kH130 gw (by decide))).symm
    have m146 := (m123).trans (fI_kept (x_lt hTH102 kH130 gw (by decide))).symm
    have m147 := (m125).trans (fR_kept (x_lt hTH102 kH130 ga (by decide))).symm
    have m148 := (fV_kept (x_lt hTH102 kH130 ga (by decide))).trans m128
    have m149 := (m112).trans (MF.i mf136 (k := 18) (by decide) (by decide)).symm
    have m150 := (m114).trans (MF.i mf136 (k := 1) (by decide) (by decide)).symm
    have m151 := (m116).trans (MF.i mf136 (k := 2) (by decide) (by decide)).symm
    have m152 := (m118).trans (MF.i mf136 (k := 3) (by decide) (by decide)).symm
    have m153 := (m120).trans (MF.i mf136 (k := 59) (by decide) (by decide)).symm
    have m154 := (m122).trans (MF.i mf136 (k := 62) (by decide) (by decide)).symm
    have m155 := (m124).trans (MF.i mf136 (k := 65) (by decide) (by decide)).symm
    have m156 := (m126).trans (MF.r mf136 (k := 17) (by decide) (by decide)).symm
    have m157 := (m127).trans (MF.i mf136 (k := 70) (by decide) (by decide)).symm
    refine W.eq (g2 := F0 m 1400 ls [.int x131]) rfl ?_
    refine lv_pop hx hb dL_law_1400 rfl ?_
    refine lv_goto (tgt := 1509) hx hb dL_law_1401 (by decide) ?_
    exact nx G H130 locsH130 _ _ ls ⟨hTH130, hN, ga, gb, g132, g133, g134, g135, ⟨(by rw [← m140, ← m149]; omega), (by rw [← m139, ← m141, ← m150]; omega), (by rw [← m139, ← m142, ← m151]; omega), (by rw [← m139, ← m143, ← m152]; omega), (by rw [← m139, ← m144, ← m153]; omega), (by rw [← m139, ← m145, ← m154]; omega), (by rw [← m139, ← m146, ← m155]; omega)⟩, Or.inl ⟨m148, (by rw [← m157]; omega)⟩, (by unfold TB; rw [← m147, ← m156, ← m149]; exact TBR.of htr f137 f138 (by omega)), hSH130⟩ hl ⟨by omega, by omega, fun _ => ⟨by omega, by omega⟩⟩
  · skip
    obtain ⟨hi, ehi⟩ : ∃ z : Int32, z = fI H b (K.1.2 10 70) := ⟨_, rfl⟩
    rw [← ehi] at h70
    obtain ⟨iq, eiq⟩ : ∃ z : Nat, z = fR H b (K.1.2 10 73) := ⟨_, rfl⟩
    have giq := ty_fr (q := iq) (k := 73) (u := 162) eiq hT gb rg_112 rfl
    rw [← eiq] at q1 q4 q5 q10 q13 q16
    obtain ⟨k1, ek1⟩ : ∃ z : Int32, z = fI H kq (K.1.2 8 1) := ⟨_, rfl⟩
    rw [← ek1] at q1
    obtain ⟨i1, ei1⟩ : ∃ z : Int32, z = fI H iq ((0 : Int32).toNatClampNeg) := ⟨_, rfl⟩
    rw [← ei1] at q1
    obtain ⟨k4, ek4⟩ : ∃ z : Int32, z = fI H kq (K.1.2 8 4) := ⟨_, rfl⟩
    rw [← ek4] at q4
    obtain ⟨i4, ei4⟩ : ∃ z : Int32, z = fI H iq ((1 : Int32).toNatClampNeg) := ⟨_, rfl⟩
    rw [← ei4] at q4
    obtain ⟨k5, ek5⟩ : ∃ z : Int32, z = fI H kq (K.1.2 8 5) := ⟨_, rfl⟩
    rw [← ek5] at q5
    obtain ⟨i5, ei5⟩ : ∃ z : Int32, z = fI H iq ((2 : Int32).toNatClampNeg) := ⟨_, rfl⟩
    rw [← ei5] at q5
    obtain ⟨k10, ek10⟩ : ∃ z : Int32, z = fI H kq (K.1.2 8 10) := ⟨_, rfl⟩
    rw [← ek10] at q10
    obtain ⟨i10, ei10⟩ : ∃ z : Int32, z = fI H iq ((3 : Int32).toNatClampNeg) := ⟨_, rfl⟩
    rw [← ei10] at q10
    obtain ⟨k13, ek13⟩ : ∃ z : Int32, z = fI H kq (K.1.2 8 13) := ⟨_, rfl⟩
    rw [← ek13] at q13
    obtain ⟨i13, ei13⟩ : ∃ z : Int32, z = fI H iq ((4 : Int32).toNatClampNeg) := ⟨_, rfl⟩
    rw [← ei13] at q13
    obtain ⟨k16, ek16⟩ : ∃ z : Int32, z = fI H kq (K.1.2 8 16) := ⟨_, rfl⟩
    rw [← ek16] at q16
    obtain ⟨i16, ei16⟩ : ∃ z : Int32, z = fI H iq ((5 : Int32).toNatClampNeg) := ⟨_, rfl⟩
    rw [← ei16] at q16
    refine lv_aload_n hx hb dL_law_1381 rfl (lv_at hl 2 rfl) ?_
    refine lv_aload_n hx hb dL_law_1382 rfl (lv_at hl 3 rfl) ?_
    refine lv_iload_n hx hb dL_law_1383 rfl (lv_at hl 0 rfl) ?_
    refine lv_iconst (v := 1) hx hb dL_law_1384 (by decide) ?_
    refine lv_iadd hx hb dL_law_1385 ?_
    refine lv_topi (fun x158 ex158 => ?_)
    have tx158 := i_add ex158 (by omega)
    have ejx158 : x158.toNatClampNeg = i.toNatClampNeg + 1 := by have h1 := i_cl (x := x158) (by omega); have h2 := i_cl (x := i) (by omega); omega
    refine va_sld hx hb hX hbl (Nat.not_le.mpr hbl) hS (vp_in_iff.mpr (by omega)) dL_law_1386 ?_
    refine W.eq (g2 := F0 m 1387 ls [.int (xs (i.toNatClampNeg + 1)), .ref a]) (congrArg (fun z => F0 m 1387 ls [.int (xs z), .ref a]) ejx158) ?_
    refine x_V (As := [.int (xs (i.toNatClampNeg + 1))]) (rest := []) C (a_X9_down l K G H ((xs (i.toNatClampNeg + 1))) hT ga) yo_X9_down wM_L_145 ⟨⟨by decide, by decide⟩, show _ ≤ 284929 by omega, show _ ≤ 8247460 by omega⟩ (x_rv C hT (ci := 9) rfl ga rg_68) rfl hl.1 rfl (Nat.le_of_ble_eq_true rfl) dL_law_1387 hS (AE_new hN hS.1) (fun vH159 H159 locsH159 pH159 zH159 kH159 hSH159 => ?_)
    obtain ⟨x160, hvH159, hTH159⟩ := pH159
    subst hvH159
    have g161 : CG (avw K H159 b) := CG.congr (fun k hk j => av_eff hT kH159 gb (by decide) (CG_eff [83, 84] (by decide) k hk)) cg
    have g162 : TU (avw K H159 b) (svw K H159 b) := TU.congr (fun k hk j => av_eff hT kH159 gb (by decide) (TU_eff [83, 84] (by decide) k hk)) (fun k hk => sv_eff hT kH159 gb (by decide)) tu
    have g163 : WD (avw K H159 b) := WD.congr (fun k hk j => av_eff hT kH159 gb (by decide) (WD_eff [83, 84] (by decide) k hk)) wd
    have g164 : IM (avw K H159 b) := IM.congr (fun k hk j => av_eff hT kH159 gb (by decide) (IM_eff [83, 84] (by decide) k hk)) im
    have f165 : ∀ j : Nat, fI H159 tq j = fI H tq j := fun j => (fI_kept (x_lt hT kH159 gtq (by decide))).trans (ft0 j)
    have f166 : ∀ j : Nat, fI H159 uq j = fI H uq j := fun j => (fI_kept (x_lt hT kH159 guq (by decide))).trans (fu0 j)
    have m167 := (ew).trans (fR_kept (x_lt hT kH159 ga (by decide))).symm
    have m168 := (eta).trans (fI_kept (x_lt hT kH159 ga (by decide))).symm
    have m169 := (etb).trans (fI_kept (x_lt hT kH159 gb (by decide))).symm
    have m170 := (es1).trans (fI_kept (x_lt hT kH159 gw (by decide))).symm
    have m171 := (ey1).trans (fI_kept (x_lt hT kH159 gb (by decide))).symm
    have m172 := (es4).trans (fI_kept (x_lt hT kH159 gw (by decide))).symm
    have m173 := (ey4).trans (fI_kept (x_lt hT kH159 gb (by decide))).symm
    have m174 := (es5).trans (fI_kept (x_lt hT kH159 gw (by decide))).symm
    have m175 := (ey5).trans (fI_kept (x_lt hT kH159 gb (by decide))).symm
    have m176 := (es10).trans (fI_kept (x_lt hT kH159 gw (by decide))).symm
    have m177 := (ey10).trans (fI_kept (x_lt hT kH159 gb (by decide))).symm
    have m178 := (es13).trans (fI_kept (x_lt hT kH159 gw (by decide))).symm
    have m179 := (ey13).trans (fI_kept (x_lt hT kH159 gb (by decide))).symm
    have m180 := (es16).trans (fI_kept (x_lt hT kH159 gw (by decide))).symm
    have m181 := (ey16).trans (fI_kept (x_lt hT kH159 gb (by decide))).symm
    have m182 := (etq).trans (fR_kept (x_lt hT kH159 ga (by decide))).symm
    have m183 := (euq).trans (fR_kept (x_lt hT kH159 gb (by decide))).symm
    have m184 := (ehi).trans (fI_kept (x_lt hT kH159 gb (by decide))).symm
    have m185 := (fV_kept (x_lt hT kH159 ga (by decide))).trans kn
    have m186 := (eiq).trans (fR_kept (x_lt hT kH159 gb (by decide))).symm
    have m187 := (ek1).trans (fI_kept (x_lt hT kH159 gkq (by decide))).symm
    have m188 := (ei1).trans (fI_kept (x_lt hT kH159 giq (by decide))).symm
    have m189 := (ek4).trans (fI_kept (x_lt hT kH159 gkq (by decide))).symm
    have m190 := (ei4).trans (fI_kept (x_lt hT kH159 giq (by decide))).symm
    have m191 := (ek5).trans (fI_kept (x_lt hT kH159 gkq (by decide))).symm
    have m192 := (ei5).trans (fI_kept (x_lt hT kH159 giq (by decide))).symm
    have m193 := (ek10).trans (fI_kept (x_lt hT kH159 gkq (by decide))).symm
    have m194 := (ei10).trans (fI_kept (x_lt hT kH159 giq (by decide))).symm
    have m195 := (ek13).trans (fI_kept (x_lt hT kH159 gkq (by decide))).symm
    have m196 := (ei13).trans (fI_kept (x_lt hT kH159 giq (by decide))).symm
    have m197 := (ek16).trans (fI_kept (x_lt hT kH159 gkq (by decide))).symm
    have m198 := (ei16).trans (fI_kept (x_lt hT kH159 giq (by decide))).symm
    refine W.eq (g2 := F0 m 1390 ls [.int x160]) rfl ?_
    refine lv_pop hx hb dL_law_1390 rfl ?_
    refine lv_aload_n hx hb dL_law_1391 rfl (lv_at hl 1 rfl) ?_
    refine lv_aload_n hx hb dL_law_1392 rfl (lv_at hl 3 rfl) ?_
    refine lv_iload_n hx hb dL_law_1393 rfl (lv_at hl 0 rfl) ?_
    refine lv_iconst (v := 1) hx hb dL_law_1394 (by decide) ?_
    refine lv_iadd hx hb dL_law_1395 ?_
    refine lv_topi (fun x199 ex199 => ?_)
    have tx199 := i_add ex199 (by omega)
    have ejx199 : x199.toNatClampNeg = i.toNatClampNeg + 1 := by have h1 := i_cl (x := x199) (by omega); have h2 := i_cl (x := i) (by omega); omega
    refine va_sld hx hb hX hbl (Nat.not_le.mpr hbl) hSH159 (vp_in_iff.mpr (by omega)) dL_law_1396 ?_
    refine W.eq (g2 := F0 m 1397 ls [.int (xs (i.toNatClampNeg + 1)), .ref b]) (congrArg (fun z => F0 m 1397 ls [.int (xs z), .ref b]) ejx199) ?_
    refine x_V (As := [.int (xs (i.toNatClampNeg + 1))]) (rest := []) C (a_X10_down l K G H159 ((xs (i.toNatClampNeg + 1))) hTH159 gb g161 g162 g163 g164) yo_X10_down wM_L_148 ⟨⟨by decide, by decide⟩, show _ ≤ 284929 by omega, show _ ≤ 8247460 by omega⟩ (x_rv C hTH159 (ci := 10) rfl gb rg_112) rfl hl.1 rfl (Nat.le_of_ble_eq_true rfl) dL_law_1397 hSH159 (AE_new hN hSH159.1) (fun vH200 H200 locsH200 pH200 zH200 kH200 hSH200 => ?_)
    obtain ⟨x201, hvH200, g202, g203, g204, g205, mf206, hTH200⟩ := pH200
    subst hvH200
    have f207 : ∀ j : Nat, fI H200 tq j = fI H tq j := fun j => (fI_kept (x_lt hTH159 kH200 gtq (by decide))).trans (f165 j)
    have f208 : ∀ j : Nat, fI H200 uq j = fI H uq j := fun j => (fI_kept (x_lt hTH159 kH200 guq (by decide))).trans (f166 j)
    have m209 := (m167).trans (fR_kept (x_lt hTH159 kH200 ga (by decide))).symm
    have m210 := (m168).trans (fI_kept (x_lt hTH159 kH200 ga (by decide))).symm
    have m211 := (m170).trans (fI_kept (x_lt hTH159 kH200 gw (by decide))).symm
    have m212 := (m172).trans (fI_kept (x_lt hTH159 kH200 gw (by decide))).symm
    have m213 := (m174).trans (fI_kept (x_lt hTH159 kH200 gw (by decide))).symm
    have m214 := (m176).trans (fI_kept (x_lt hTH159 kH200 gw (by decide))).symm
    have m215 := (m178).trans (fI_kept (x_lt hTH159 kH200 gw (by decide))).symm
    have m216 := (m180).trans (fI_kept (x_lt hTH159 kH200 gw (by decide))).symm
    have m217 := (m182).trans (fR_kept (x_lt hTH159 kH200 ga (by decide))).symm
    have m218 := (fV_kept (x_lt hTH159 kH200 ga (by decide))).trans m185
    have m219 := (m187).trans (fI_kept (x_lt hTH159 kH200 gkq (by decide))).symm
    have m220 := (m188).trans (fI_kept (x_lt hTH159 kH200 giq (by decide))).symm
    have m221 := (m189).trans (fI_kept (x_lt hTH159 kH200 gkq (by decide))).symm
    have m222 := (m190).trans (fI_kept (x_lt hTH159 kH200 giq (by decide))).symm
    have m223 := (m191).trans (fI_kept (x_lt hTH159 kH200 gkq (by decide))).symm
    have m224 := (m192).trans (fI_kept (x_lt hTH159 kH200 giq (by decide))).symm
    have m225 := (m193).trans (fI_kept (x_lt hTH159 kH200 gkq (by decide))).symm
    have m226 := (m194).trans (fI_kept (x_lt hTH159 kH200 giq (by decide))).symm
    have m227 := (m195).trans (fI_kept (x_lt hTH159 kH200 gkq (by decide))).symm
    have m228 := (m196).trans (fI_kept (x_lt hTH159 kH200 giq (by decide))).symm
    have m229 := (m197).trans (fI_kept (x_lt hTH159 kH200 gkq (by decide))).symm
    have m230 := (m198).trans (fI_kept (x_lt hTH159 kH200 giq (by decide))).symm
    have m231 := (m169).trans (MF.i mf206 (k := 18) (by decide) (by decide)).symm
    have m232 := (m171).trans (MF.i mf206 (k := 1) (by decide) (by decide)).symm
    have m233 := (m173).trans (MF.i mf206 (k := 2) (by decide) (by decide)).symm
    have m234 := (m175).trans (MF.i mf206 (k := 3) (by decide) (by decide)).symm
    have m235 := (m177).trans (MF.i mf206 (k := 59) (by decide) (by decide)).symm
    have m236 := (m179).trans (MF.i mf206 (k := 62) (by decide) (by decide)).symm
    have m237 := (m181).trans (MF.i mf206 (k := 65) (by decide) (by decide)).symm
    have m238 := (m183).trans (MF.r mf206 (k := 17) (by decide) (by decide)).symm
    have m239 := (m184).trans (MF.i mf206 (k := 70) (by decide) (by decide)).symm
    have m240 := (m186).trans (MF.r mf206 (k := 73) (by decide) (by decide)).symm
    refine W.eq (g2 := F0 m 1400 ls [.int x201]) rfl ?_
    refine lv_pop hx hb dL_law_1400 rfl ?_
    refine lv_goto (tgt := 1509) hx hb dL_law_1401 (by decide) ?_
    exact nx G H200 locsH200 _ _ ls ⟨hTH200, hN, ga, gb, g202, g203, g204, g205, ⟨(by rw [← m210, ← m231]; omega), (by rw [← m209, ← m211, ← m232]; omega), (by rw [← m209, ← m212, ← m233]; omega), (by rw [← m209, ← m213, ← m234]; omega), (by rw [← m209, ← m214, ← m235]; omega), (by rw [← m209, ← m215, ← m236]; omega), (by rw [← m209, ← m216, ← m237]; omega)⟩, Or.inr ⟨kq, m218, gkq, (by rw [← m239]; omega), (by rw [← m219, ← m240, ← m220]; omega), (by rw [← m221, ← m240, ← m222]; omega), (by rw [← m223, ← m240, ← m224]; omega), (by rw [← m225, ← m240, ← m226]; omega), (by rw [← m227, ← m240, ← m228]; omega), (by rw [← m229, ← m240, ← m230]; omega)⟩, (by unfold TB; rw [← m217, ← m238, ← m231]; exact TBR.of htr f207 f208 (by omega)), hSH200⟩ hl ⟨by omega, by omega, fun h => by have h1 := h.symm.trans m218; cases h1⟩
set_option maxRecDepth 100000 in
set_option maxHeartbeats 8000000 in
theorem lw_c32 {p : Program} {l : Launch} {e : Env} {s : State} {m : MethodId} {below : List Frame} {meth : Method} {c : Code} {K : KE} {b0 L : Nat} {xs : Nat → Int32} {G : Nat → Option Nat} {H : Heap} {locs : List Loc} {a b : Nat} {cells slots : Nat} {ls : Array Slot} {i : Int32} {n : Nat} (D : LC p K s m meth c b0 L xs) (S : SX K s G H locs a b) (hl : lv_has ls 4 [(3, .int i), (2, .ref b), (1, .ref a), (0, .ref b0)]) (hi : 0 ≤ i.toInt ∧ i.toInt + 6 ≤ L) (hn : n ≤ 511) (hB : BD K H a cells slots) (nx : ∀ (G : Nat → Option Nat) (H : Heap) (locs : List Loc) (cells slots : Nat) (ls : Array Slot), SX K s G H locs a b → lv_has ls 4 [(3, .int i), (2, .ref b), (1, .ref a), (0, .ref b0)] → BD K H a cells slots → W p l e room_1 s m #[Value.ref b0] below meth c H locs cells slots (lw_Z below #[Value.ref b0] s) (F0 m 1509 ls [])) : W p l e room_1 s m #[Value.ref b0] below meth c H locs cells slots (lw_Z below #[Value.ref b0] s) (F0 m 1404 ls []) := by
  obtain ⟨C, hX, hbl, hL⟩ := id D
  obtain ⟨hx, hb, hml, hown, hts, hKT, hr, hlocks, hnm⟩ := id C
  obtain ⟨hT, hN, ga, gb, cg, tu, wd, im, ⟨rt, r1, r4, r5, r10, r13, r16⟩, hk, htb, hS⟩ := S
  obtain ⟨hc, hs, hB0⟩ := hB
  have n_1 : (1 : Int32).toInt = 1 := rfl
  have n_2 : (2 : Int32).toInt = 2 := rfl
  have n_3 : (3 : Int32).toInt = 3 := rfl
  obtain ⟨w, ew⟩ : ∃ z : Nat, z = fR H a (K.1.2 9 0) := ⟨_, rfl⟩
  have gw := ty_fr (q := w) (k := 0) (u := 0) ew hT ga rg_68 rfl
  rw [← ew] at r1 r4 r5 r10 r13 r16
  obtain ⟨ta, eta⟩ : ∃ z : Int32, z = fI H a (K.1.2 9 3) := ⟨_, rfl⟩
  rw [← eta] at rt
  obtain ⟨tb, etb⟩ : ∃ z : Int32, z = fI H b (K.1.2 10 18) := ⟨_, rfl⟩
  rw [← etb] at rt
  obtain ⟨s1, es1⟩ : ∃ z : Int32, z = fI H w (K.1.2 8 1) := ⟨_, rfl⟩
  rw [← es1] at r1
  obtain ⟨y1, ey1⟩ : ∃ z : Int32, z = fI H b (K.1.2 10 1) := ⟨_, rfl⟩
  rw [← ey1] at r1
  obtain ⟨s4, es4⟩ : ∃ z : Int32, z = fI H w (K.1.2 8 4) := ⟨_, rfl⟩
  rw [← es4] at r4
  obtain ⟨y4, ey4⟩ : ∃ z : Int32, z = fI H b (K.1.2 10 2) := ⟨_, rfl⟩
  rw [← ey4] at r4
  obtain ⟨s5, es5⟩ : ∃ z : Int32, z = fI H w (K.1.2 8 5) := ⟨_, rfl⟩
  rw [← es5] at r5
  obtain ⟨y5, ey5⟩ : ∃ z : Int32, z = fI H b (K.1.2 10 3) := ⟨_, rfl⟩
  rw [← ey5] at r5
  obtain ⟨s10, es10⟩ : ∃ z : Int32, z = fI H w (K.1.2 8 10) := ⟨_, rfl⟩
  rw [← es10] at r10
  obtain ⟨y10, ey10⟩ : ∃ z : Int32, z = fI H b (K.1.2 10 59) := ⟨_, rfl⟩
  rw [← ey10] at r10
  obtain ⟨s13, es13⟩ : ∃ z : Int32, z = fI H w (K.1.2 8 13) := ⟨_, rfl⟩
  rw [← es13] at r13
  obtain ⟨y13, ey13⟩ : ∃ z : Int32, z = fI H b (K.1.2 10 62) := ⟨_, rfl⟩
  rw [← ey13] at r13
  obtain ⟨s16, es16⟩ : ∃ z : Int32, z = fI H w (K.1.2 8 16) := ⟨_, rfl⟩
  rw [← es16] at r16
  obtain ⟨y16, ey16⟩ : ∃ z : Int32, z = fI H b (K.1.2 10 65) := ⟨_, rfl⟩
  rw [← ey16] at r16
  obtain ⟨tq, etq⟩ : ∃ z : Nat, z = fR H a (K.1.2 9 2) := ⟨_, rfl⟩
  have gtq := ty_fr (q := tq) (k := 2) (u := 108) etq hT ga rg_68 rfl
  obtain ⟨uq, euq⟩ : ∃ z : Nat, z = fR H b (K.1.2 10 17) := ⟨_, rfl⟩
  have guq := ty_fr (q := uq) (k := 17) (u := 126) euq hT gb rg_112 rfl
  have htr : TBR (fun j => fI H tq j) (fun j => fI H uq j) tb.toNatClampNeg := by rw [etq, euq, etb]; exact htb
  have ft0 : ∀ j : Nat, fI H tq j = fI H tq j := fun _ => rfl
  have fu0 : ∀ j : Nat, fI H uq j = fI H uq j := fun _ => rfl
  have bta := ty_fi (x := ta) (k := 3) eta hT ga rg_68 rfl
  have cta := i_cl (x := ta) (by omega)
  have btb := ty_fi (x := tb) (k := 18) etb hT gb rg_112 rfl
  have ctb := i_cl (x := tb) (by omega)
  rcases hk with ⟨kn, h70⟩ | ⟨kq, kn, gkq, h70, q1, q4, q5, q10, q13, q16⟩
  · skip
    obtain ⟨hi, ehi⟩ : ∃ z : Int32, z = fI H b (K.1.2 10 70) := ⟨_, rfl⟩
    rw [← ehi] at h70
    obtain ⟨hc0, hs0⟩ := hB0 kn
    refine lv_aload_n hx hb dL_law_1404 rfl (lv_at hl 2 rfl) ?_
    refine lv_aload_n hx hb dL_law_1405 rfl (lv_at hl 3 rfl) ?_
    refine lv_iload_n hx hb dL_law_1406 rfl (lv_at hl 0 rfl) ?_
    refine lv_iconst (v := 1) hx hb dL_law_1407 (by decide) ?_
    refine lv_iadd hx hb dL_law_1408 ?_
    refine lv_topi (fun x101 ex101 => ?_)
    have tx101 := i_add ex101 (by omega)
    have ejx101 : x101.toNatClampNeg = i.toNatClampNeg + 1 := by have h1 := i_cl (x := x101) (by omega); have h2 := i_cl (x := i) (by omega); omega
    refine va_sld hx hb hX hbl (Nat.not_le.mpr hbl) hS (vp_in_iff.mpr (by omega)) dL_law_1409 ?_
    refine W.eq (g2 := F0 m 1410 ls [.int (xs (i.toNatClampNeg + 1)), .ref a]) (congrArg (fun z => F0 m 1410 ls [.int (xs z), .ref a]) ejx101) ?_
    refine lv_aload_n hx hb dL_law_1410 rfl (lv_at hl 3 rfl) ?_
    refine lv_iload_n hx hb dL_law_1411 rfl (lv_at hl 0 rfl) ?_
    refine lv_iconst (v := 2) hx hb dL_law_1412 (by decide) ?_
    refine lv_iadd hx hb dL_law_1413 ?_
    refine lv_topi (fun x102 ex102 => ?_)
    have tx102 := i_add ex102 (by omega)
    have ejx102 : x102.toNatClampNeg = i.toNatClampNeg + 2 := by have h1 := i_cl (x := x102) (by omega); have h2 := i_cl (x := i) (by omega); omega
    refine va_sld hx hb hX hbl (Nat.not_le.mpr hbl) hS (vp_in_iff.mpr (by omega)) dL_law_1414 ?_
    refine W.eq (g2 := F0 m 1415 ls [.int (xs (i.toNatClampNeg + 2)), .int (xs (i.toNatClampNeg + 1)), .ref a]) (congrArg (fun z => F0 m 1415 ls [.int (xs z), .int (xs (i.toNatClampNeg + 1)), .ref a]) ejx102) ?_
    refine lv_aload_n hx hb dL_law_1415 rfl (lv_at hl 3 rfl) ?_
    refine lv_iload_n hx hb dL_law_1416 rfl (lv_at hl 0 rfl) ?_
    refine lv_iconst (v := 3) hx hb dL_law_1417 (by decide) ?_
    refine lv_iadd hx hb dL_law_1418 ?_
    refine lv_topi (fun x103 ex103 => ?_)
    have tx103 := i_add ex103 (by omega)
    have ejx103 : x103.toNatClampNeg = i.toNatClampNeg + 3 := by have h1 := i_cl (x := x103) (by omega); have h2 := i_cl (x := i) (by omega); omega
    refine va_sld hx hb hX hbl (Nat.not_le.mpr hbl) hS (vp_in_iff.mpr (by omega)) dL_law_1419 ?_
    refine W.eq (g2 := F0 m 1420 ls [.int (xs (i.toNatClampNeg + 3)), .int (xs (i.toNatClampNeg + 2)), .int (xs (i.toNatClampNeg + 1)), .ref a]) (congrArg (fun z => F0 m 1420 ls [.int (xs z), .int (xs (i.toNatClampNeg + 2)), .int (xs (i.toNatClampNeg + 1)), .ref a]) ejx103) ?_
    refine x_V (As := [.int (xs (i.toNatClampNeg + 1)), .int (xs (i.toNatClampNeg + 2)), .int (xs (i.toNatClampNeg + 3))]) (rest := []) C (a_X9_enough l K G H ((xs (i.toNatClampNeg + 1))) ((xs (i.toNatClampNeg + 2))) ((xs (i.toNatClampNeg + 3))) hT ga) yo_X9_enough wM_L_149 ⟨⟨by decide, by decide⟩, show _ ≤ 284929 by omega, show _ ≤ 8247460 by omega⟩ (x_rv C hT (ci := 9) rfl ga rg_68) rfl hl.1 rfl (Nat.le_of_ble_eq_true rfl) dL_law_1420 hS (AE_new hN hS.1) (fun vH104 H104 locsH104 pH104 zH104 kH104 hSH104 => ?_)
    obtain ⟨x105, hvH104, hTH104⟩ := pH104
    subst hvH104
    have g106 : CG (avw K H104 b) := CG.congr (fun k hk j => av_eff hT kH104 gb (by decide) (CG_eff [83, 84] (by decide) k hk)) cg
    have g107 : TU (avw K H104 b) (svw K H104 b) := TU.congr (fun k hk j => av_eff hT kH104 gb (by decide) (TU_eff [83, 84] (by decide) k hk)) (fun k hk => sv_eff hT kH104 gb (by decide)) tu
    have g108 : WD (avw K H104 b) := WD.congr (fun k hk j => av_eff hT kH104 gb (by decide) (WD_eff [83, 84] (by decide) k hk)) wd
    have g109 : IM (avw K H104 b) := IM.congr (fun k hk j => av_eff hT kH104 gb (by decide) (IM_eff [83, 84] (by decide) k hk)) im
    have f110 : ∀ j : Nat, fI H104 tq j = fI H tq j := fun j => (fI_kept (x_lt hT kH104 gtq (by decide))).trans (ft0 j)
    have f111 : ∀ j : Nat, fI H104 uq j = fI H uq j := fun j => (fI_kept (x_lt hT kH104 guq (by decide))).trans (fu0 j)
    have m112 := (ew).trans (fR_kept (x_lt hT kH104 ga (by decide))).symm
    have m113 := (eta).trans (fI_kept (x_lt hT kH104 ga (by decide))).symm
    have m114 := (etb).trans (fI_kept (x_lt hT kH104 gb (by decide))).symm
    have m115 := (es1).trans (fI_kept (x_lt hT kH104 gw (by decide))).symm
    have m116 := (ey1).trans (fI_kept (x_lt hT kH104 gb (by decide))).symm
    have m117 := (es4).trans (fI_kept (x_lt hT kH104 gw (by decide))).symm
    have m118 := (ey4).trans (fI_kept (x_lt hT kH104 gb (by decide))).symm
    have m119 := (es5).trans (fI_kept (x_lt hT kH104 gw (by decide))).symm
    have m120 := (ey5).trans (fI_kept (x_lt hT kH104 gb (by decide))).symm
    have m121 := (es10).trans (fI_kept (x_lt hT kH104 gw (by decide))).symm
    have m122 := (ey10).trans (fI_kept (x_lt hT kH104 gb (by decide))).symm
    have m123 := (es13).trans (fI_kept (x_lt hT kH104 gw (by decide))).symm
    have m124 := (ey13).trans (fI_kept (x_lt hT kH104 gb (by decide))).symm
    have m125 := (es16).trans (fI_kept (x_lt hT kH104 gw (by decide))).symm
    have m126 := (ey16).trans (fI_kept (x_lt hT kH104 gb (by decide))).symm
    have m127 := (etq).trans (fR_kept (x_lt hT kH104 ga (by decide))).symm
    have m128 := (euq).trans (fR_kept (x_lt hT kH104 gb (by decide))).symm
    have m129 := (ehi).trans (fI_kept (x_lt hT kH104 gb (by decide))).symm
    have m130 := (fV_kept (x_lt hT kH104 ga (by decide))).trans kn
    refine W.eq (g2 := F0 m 1423 ls [.int x105]) rfl ?_
    refine lv_pop hx hb dL_law_1423 rfl ?_
    refine lv_aload_n hx hb dL_law_1424 rfl (lv_at hl 1 rfl) ?_
    refine lv_aload_n hx hb dL_law_1425 rfl (lv_at hl 3 rfl) ?_
    refine lv_iload_n hx hb dL_law_1426 rfl (lv_at hl 0 rfl) ?_
    refine lv_iconst (v := 1) hx hb dL_law_1427 (by decide) ?_
    refine lv_iadd hx hb dL_law_1428 ?_
    refine lv_topi (fun x131 ex131 => ?_)
    have tx131 := i_add ex131 (by omega)
    have ejx131 : x131.toNatClampNeg = i.toNatClampNeg + 1 := by have h1 := i_cl (x := x131) (by omega); have h2 := i_cl (x := i) (by omega); omega
    refine va_sld hx hb hX hbl (Nat.not_le.mpr hbl) hSH104 (vp_in_iff.mpr (by omega)) dL_law_1429 ?_
    refine W.eq (g2 := F0 m 1430 ls [.int (xs (i.toNatClampNeg + 1)), .ref b]) (congrArg (fun z => F0 m 1430 ls [.int (xs z), .ref b]) ejx131) ?_
    refine lv_aload_n hx hb dL_law_1430 rfl (lv_at hl 3 rfl) ?_
    refine lv_iload_n hx hb dL_law_1431 rfl (lv_at hl 0 rfl) ?_
    refine lv_iconst (v := 2) hx hb dL_law_1432 (by decide) ?_
    refine lv_iadd hx hb dL_law_1433 ?_
    refine lv_topi (fun x132 ex132 => ?_)
    have tx132 := i_add ex132 (by omega)
    have ejx132 : x132.toNatClampNeg = i.toNatClampNeg + 2 := by have h1 := i_cl (x := x132) (by omega); have h2 := i_cl (x := i) (by omega); omega
    refine va_sld hx hb hX hbl (Nat.not_le.mpr hbl) hSH104 (vp_in_iff.mpr (by omega)) dL_law_1434 ?_
    refine W.eq (g2 := F0 m 1435 ls [.int (xs (i.toNatClampNeg + 2)), .int (xs (i.toNatClampNeg + 1)), .ref b]) (congrArg (fun z => F0 m 1435 ls [.int (xs z), .int (xs (i.toNatClampNeg + 1)), .ref b]) ejx132) ?_
    refine lv_aload_n hx hb dL_law_1435 rfl (lv_at hl 3 rfl) ?_
    refine lv_iload_n hx hb dL_law_1436 rfl (lv_at hl 0 rfl) ?_
    refine lv_iconst (v := 3) hx hb dL_law_1437 (by decide) ?_
    refine lv_iadd hx hb dL_law_1438 ?_
    refine lv_topi (fun x133 ex133 => ?_)
    have tx133 := i_add ex133 (by omega)
    have ejx133 : x133.toNatClampNeg = i.toNatClampNeg + 3 := by have h1 := i_cl (x := x133) (by omega); have h2 := i_cl (x := i) (by omega); omega
    refine va_sld hx hb hX hbl (Nat.not_le.mpr hbl) hSH104 (vp_in_iff.mpr (by omega)) dL_law_1439 ?_
    refine W.eq (g2 := F0 m 1440 ls [.int (xs (i.toNatClampNeg + 3)), .int (xs (i.toNatClampNeg + 2)), .int (xs (i.toNatClampNeg + 1)), .ref b]) (congrArg (fun z => F0 m 1440 ls [.int (xs z), .int (xs (i.toNatClampNeg + 2)), .int (xs (i.toNatClampNeg + 1)), .ref b]) ejx133) ?_
    refine x_V (As := [.int (xs (i.toNatClampNeg + 1)), .int (xs (i.toNatClampNeg + 2)), .int (xs (i.toNatClampNeg + 3))]) (rest := []) C (a_X10_enough l K G H104 ((xs (i.toNatClampNeg + 1))) ((xs (i.toNatClampNeg + 2))) ((xs (i.toNatClampNeg + 3))) hTH104 gb g106 g107 g108 g109) yo_X10_enough wM_L_152 ⟨⟨by decide, by decide⟩, show _ ≤ 284929 by omega, show _ ≤ 8247460 by omega⟩ (x_rv C hTH104 (ci := 10) rfl gb rg_112) rfl hl.1 rfl (Nat.le_of_ble_eq_true rfl) dL_law_1440 hSH104 (AE_new hN hSH104.1) (fun vH134 H134 locsH134 pH134 zH134 kH134 hSH134 => ?_)
    obtain ⟨x135, hvH134, g136, g137, g138, g139, mf140, hTH134⟩ := pH134
    subst hvH134
    have f141 : ∀ j : Nat, fI H134 tq j = fI H tq j := fun j => (fI_kept (x_lt hTH104 kH134 gtq (by decide))).trans (f110 j)
    have f142 : ∀ j : Nat, fI H134 uq j = fI H uq j := fun j => (fI_kept (x_lt hTH104 kH134 guq (by decide))).trans (f111 j)
    have m143 := (m112).trans (fR_kept (x_lt hTH104 kH134 ga (by decide))).symm
    have m144 := (m113).trans (fI_kept (x_lt hTH104 kH134 ga (by decide))).symm
    have m145 := (m115).trans (fI_kept (x_lt hTH104 kH134 gw (by decide))).symm
    have m146 := (m117).trans (fI_kept (x_lt hTH104 kH134 gw (by decide))).symm
    have m147 := (m119).trans (fI_kept (x_lt hTH104 kH134 gw (by decide))).symm
    have m148 := (m121).trans (fI_kept (x_lt hTH104 kH134 gw (by decide))).symm
    have m149 := (m123).trans (fI_kept (x_lt hTH104 kH134 gw (by decide))).symm
    have m150 := (m125).trans (fI_kept (x_lt hTH104 kH134 gw (by decide))).symm
    have m151 := (m127).trans (fR_kept (x_lt hTH104 kH134 ga (by decide))).symm
    have m152 := (fV_kept (x_lt hTH104 kH134 ga (by decide))).trans m130
    have m153 := (m114).trans (MF.i mf140 (k := 18) (by decide) (by decide)).symm
    have m154 := (m116).trans (MF.i mf140 (k := 1) (by decide) (by decide)).symm
    have m155 := (m118).trans (MF.i mf140 (k := 2) (by decide) (by decide)).symm
    have m156 := (m120).trans (MF.i mf140 (k := 3) (by decide) (by decide)).symm
    have m157 := (m122).trans (MF.i mf140 (k := 59) (by decide) (by decide)).symm
    have m158 := (m124).trans (MF.i mf140 (k := 62) (by decide) (by decide)).symm
    have m159 := (m126).trans (MF.i mf140 (k := 65) (by decide) (by decide)).symm
    have m160 := (m128).trans (MF.r mf140 (k := 17) (by decide) (by decide)).symm
    have m161 := (m129).trans (MF.i mf140 (k := 70) (by decide) (by decide)).symm
    refine W.eq (g2 := F0 m 1443 ls [.int x135]) rfl ?_
    refine lv_pop hx hb dL_law_1443 rfl ?_
    refine lv_goto (tgt := 1509) hx hb dL_law_1444 (by decide) ?_
    exact nx G H134 locsH134 _ _ ls ⟨hTH134, hN, ga, gb, g136, g137, g138, g139, ⟨(by rw [← m144, ← m153]; omega), (by rw [← m143, ← m145, ← m154]; omega), (by rw [← m143, ← m146, ← m155]; omega), (by rw [← m143, ← m147, ← m156]; omega), (by rw [← m143, ← m148, ← m157]; omega), (by rw [← m143, ← m149, ← m158]; omega), (by rw [← m143, ← m150, ← m159]; omega)⟩, Or.inl ⟨m152, (by rw [← m161]; omega)⟩, (by unfold TB; rw [← m151, ← m160, ← m153]; exact TBR.of htr f141 f142 (by omega)), hSH134⟩ hl ⟨by omega, by omega, fun _ => ⟨by omega, by omega⟩⟩
  · skip
    obtain ⟨hi, ehi⟩ : ∃ z : Int32, z = fI H b (K.1.2 10 70) := ⟨_, rfl⟩
    rw [← ehi] at h70
    obtain ⟨iq, eiq⟩ : ∃ z : Nat, z = fR H b (K.1.2 10 73) := ⟨_, rfl⟩
    have giq := ty_fr (q := iq) (k := 73) (u := 162) eiq hT gb rg_112 rfl
    rw [← eiq] at q1 q4 q5 q10 q13 q16
    obtain ⟨k1, ek1⟩ : ∃ z : Int32, z = fI H kq (K.1.2 8 1) := ⟨_, rfl⟩
    rw [← ek1] at q1
    obtain ⟨i1, ei1⟩ : ∃ z : Int32, z = fI H iq ((0 : Int32).toNatClampNeg) := ⟨_, rfl⟩
    rw [← ei1] at q1
    obtain ⟨k4, ek4⟩ : ∃ z : Int32, z = fI H kq (K.1.2 8 4) := ⟨_, rfl⟩
    rw [← ek4] at q4
    obtain ⟨i4, ei4⟩ : ∃ z : Int32, z = fI H iq ((1 : Int32).toNatClampNeg) := ⟨_, rfl⟩
    rw [← ei4] at q4
    obtain ⟨k5, ek5⟩ : ∃ z : Int32, z = fI H kq (K.1.2 8 5) := ⟨_, rfl⟩
    rw [← ek5] at q5
    obtain ⟨i5, ei5⟩ : ∃ z : Int32, z = fI H iq ((2 : Int32).toNatClampNeg) := ⟨_, rfl⟩
    rw [← ei5] at q5
    obtain ⟨k10, ek10⟩ : ∃ z : Int32, z = fI H kq (K.1.2 8 10) := ⟨_, rfl⟩
    rw [← ek10] at q10
    obtain ⟨i10, ei10⟩ : ∃ z : Int32, z = fI H iq ((3 : Int32).toNatClampNeg) := ⟨_, rfl⟩
    rw [← ei10] at q10
    obtain ⟨k13, ek13⟩ : ∃ z : Int32, z = fI H kq (K.1.2 8 13) := ⟨_, rfl⟩
    rw [← ek13] at q13
    obtain ⟨i13, ei13⟩ : ∃ z : Int32, z = fI H iq ((4 : Int32).toNatClampNeg) := ⟨_, rfl⟩
    rw [← ei13] at q13
    obtain ⟨k16, ek16⟩ : ∃ z : Int32, z = fI H kq (K.1.2 8 16) := ⟨_, rfl⟩
    rw [← ek16] at q16
    obtain ⟨i16, ei16⟩ : ∃ z : Int32, z = fI H iq ((5 : Int32).toNatClampNeg) := ⟨_, rfl⟩
    rw [← ei16] at q16
    refine lv_aload_n hx hb dL_law_1404 rfl (lv_at hl 2 rfl) ?_
    refine lv_aload_n hx hb dL_law_1405 rfl (lv_at hl 3 rfl) ?_
    refine lv_iload_n hx hb dL_law_1406 rfl (lv_at hl 0 rfl) ?_
    refine lv_iconst (v := 1) hx hb dL_law_1407 (by decide) ?_
    refine lv_iadd hx hb dL_law_1408 ?_
    refine lv_topi (fun x162 ex162 => ?_)
    have tx162 := i_add ex162 (by omega)
    have ejx162 : x162.toNatClampNeg = i.toNatClampNeg + 1 := by have h1 := i_cl (x := x162) (by omega); have h2 := i_cl (x := i) (by omega); omega
    refine va_sld hx hb hX hbl (Nat.not_le.mpr hbl) hS (vp_in_iff.mpr (by omega)) dL_law_1409 ?_
    refine W.eq (g2 := F0 m 1410 ls [.int (xs (i.toNatClampNeg + 1)), .ref a]) (congrArg (fun z => F0 m 1410 ls [.int (xs z), .ref a]) ejx162) ?_
    refine lv_aload_n hx hb dL_law_1410 rfl (lv_at hl 3 rfl) ?_
    refine lv_iload_n hx hb dL_law_1411 rfl (lv_at hl 0 rfl) ?_
    refine lv_iconst (v := 2) hx hb dL_law_1412 (by decide) ?_
    refine lv_iadd hx hb dL_law_1413 ?_
    refine lv_topi (fun x163 ex163 => ?_)
    have tx163 := i_add ex163 (by omega)
    have ejx163 : x163.toNatClampNeg = i.toNatClampNeg + 2 := by have h1 := i_cl (x := x163) (by omega); have h2 := i_cl (x := i) (by omega); omega
    refine va_sld hx hb hX hbl (Nat.not_le.mpr hbl) hS (vp_in_iff.mpr (by omega)) dL_law_1414 ?_
    refine W.eq (g2 := F0 m 1415 ls [.int (xs (i.toNatClampNeg + 2)), .int (xs (i.toNatClampNeg + 1)), .ref a]) (congrArg (fun z => F0 m 1415 ls [.int (xs z), .int (xs (i.toNatClampNeg + 1)), .ref a]) ejx163) ?_
    refine lv_aload_n hx hb dL_law_1415 rfl (lv_at hl 3 rfl) ?_
    refine lv_iload_n hx hb dL_law_1416 rfl (lv_at hl 0 rfl) ?_
    refine lv_iconst (v := 3) hx hb dL_law_1417 (by decide) ?_
    refine lv_iadd hx hb dL_law_1418 ?_
    refine lv_topi (fun x164 ex164 => ?_)
    have tx164 := i_add ex164 (by omega)
    have ejx164 : x164.toNatClampNeg = i.toNatClampNeg + 3 := by have h1 := i_cl (x := x164) (by omega); have h2 := i_cl (x := i) (by omega); omega
    refine va_sld hx hb hX hbl (Nat.not_le.mpr hbl) hS (vp_in_iff.mpr (by omega)) dL_law_1419 ?_
    refine W.eq (g2 := F0 m 1420 ls [.int (xs (i.toNatClampNeg + 3)), .int (xs (i.toNatClampNeg + 2)), .int (xs (i.toNatClampNeg + 1)), .ref a]) (congrArg (fun z => F0 m 1420 ls [.int (xs z), .int (xs (i.toNatClampNeg + 2)), .int (xs (i.toNatClampNeg + 1)), .ref a]) ejx164) ?_
    refine x_V (As := [.int (xs (i.toNatClampNeg + 1)), .int (xs (i.toNatClampNeg + 2)), .int (xs (i.toNatClampNeg + 3))]) (rest := []) C (a_X9_enough l K G H ((xs (i.toNatClampNeg + 1))) ((xs (i.toNatClampNeg + 2))) ((xs (i.toNatClampNeg + 3))) hT ga) yo_X9_enough wM_L_149 ⟨⟨by decide, by decide⟩, show _ ≤ 284929 by omega, show _ ≤ 8247460 by omega⟩ (x_rv C hT (ci := 9) rfl ga rg_68) rfl hl.1 rfl (Nat.le_of_ble_eq_true rfl) dL_law_1420 hS (AE_new hN hS.1) (fun vH165 H165 locsH165 pH165 zH165 kH165 hSH165 => ?_)
    obtain ⟨x166, hvH165, hTH165⟩ := pH165
    subst hvH165
    have g167 : CG (avw K H165 b) := CG.congr (fun k hk j => av_eff hT kH165 gb (by decide) (CG_eff [83, 84] (by decide) k hk)) cg
    have g168 : TU (avw K H165 b) (svw K H165 b) := TU.congr (fun k hk j => av_eff hT kH165 gb (by decide) (TU_eff [83, 84] (by decide) k hk)) (fun k hk => sv_eff hT kH165 gb (by decide)) tu
    have g169 : WD (avw K H165 b) := WD.congr (fun k hk j => av_eff hT kH165 gb (by decide) (WD_eff [83, 84] (by decide) k hk)) wd
    have g170 : IM (avw K H165 b) := IM.congr (fun k hk j => av_eff hT kH165 gb (by decide) (IM_eff [83, 84] (by decide) k hk)) im
    have f171 : ∀ j : Nat, fI H165 tq j = fI H tq j := fun j => (fI_kept (x_lt hT kH165 gtq (by decide))).trans (ft0 j)
    have f172 : ∀ j : Nat, fI H165 uq j = fI H uq j := fun j => (fI_kept (x_lt hT kH165 guq (by decide))).trans (fu0 j)
    have m173 := (ew).trans (fR_kept (x_lt hT kH165 ga (by decide))).symm
    have m174 := (eta).trans (fI_kept (x_lt hT kH165 ga (by decide))).symm
    have m175 := (etb).trans (fI_kept (x_lt hT kH165 gb (by decide))).symm
    have m176 := (es1).trans (fI_kept (x_lt hT kH165 gw (by decide))).symm
    have m177 := (ey1).trans (fI_kept (x_lt hT kH165 gb (by decide))).symm
    have m178 := (es4).trans (fI_kept (x_lt hT kH165 gw (by decide))).symm
    have m179 := (ey4).trans (fI_kept (x_lt hT kH165 gb (by decide))).symm
    have m180 := (es5).trans (fI_kept (x_lt hT kH165 gw (by decide))).symm
    have m181 := (ey5).trans (fI_kept (x_lt hT kH165 gb (by decide))).symm
    have m182 := (es10).trans (fI_kept (x_lt hT kH165 gw (by decide))).symm
    have m183 := (ey10).trans (fI_kept (x_lt hT kH165 gb (by decide))).symm
    have m184 := (es13).trans (fI_kept (x_lt hT kH165 gw (by decide))).symm
    have m185 := (ey13).trans (fI_kept (x_lt hT kH165 gb (by decide))).symm
    have m186 := (es16).trans (fI_kept (x_lt hT kH165 gw (by decide))).symm
    have m187 := (ey16).trans (fI_kept (x_lt hT kH165 gb (by decide))).symm
    have m188 := (etq).trans (fR_kept (x_lt hT kH165 ga (by decide))).symm
    have m189 := (euq).trans (fR_kept (x_lt hT kH165 gb (by decide))).symm
    have m190 := (ehi).trans (fI_kept (x_lt hT kH165 gb (by decide))).symm
    have m191 := (fV_kept (x_lt hT kH165 ga (by decide))).trans kn
    have m192 := (eiq).trans (fR_kept (x_lt hT kH165 gb (by decide))).symm
    have m193 := (ek1).trans (fI_kept (x_lt hT kH165 gkq (by decide))).symm
    have m194 := (ei1).trans (fI_kept (x_lt hT kH165 giq (by decide))).symm
    have m195 := (ek4).trans (fI_kept (x_lt hT kH165 gkq (by decide))).symm
    have m196 := (ei4).trans (fI_kept (x_lt hT kH165 giq (by decide))).symm
    have m197 := (ek5).trans (fI_kept (x_lt hT kH165 gkq (by decide))).symm
    have m198 := (ei5).trans (fI_kept (x_lt hT kH165 giq (by decide))).symm
    have m199 := (ek10).trans (fI_kept (x_lt hT kH165 gkq (by decide))).symm
    have m200 := (ei10).trans (fI_kept (x_lt hT kH165 giq (by decide))).symm
    have m201 := (ek13).trans (fI_kept (x_lt hT kH165 gkq (by decide))).symm
    have m202 := (ei13).trans (fI_kept (x_lt hT kH165 giq (by decide))).symm
    have m203 := (ek16).trans (fI_kept (x_lt hT kH165 gkq (by decide))).symm
    have m204 := (ei16).trans (fI_kept (x_lt hT kH165 giq (by decide))).symm
    refine W.eq (g2 := F0 m 1423 ls [.int x166]) rfl ?_
    refine lv_pop hx hb dL_law_1423 rfl ?_
    refine lv_aload_n hx hb dL_law_1424 rfl (lv_at hl 1 rfl) ?_
    refine lv_aload_n hx hb dL_law_1425 rfl (lv_at hl 3 rfl) ?_
    refine lv_iload_n hx hb dL_law_1426 rfl (lv_at hl 0 rfl) ?_
    refine lv_iconst (v := 1) hx hb dL_law_1427 (by decide) ?_
    refine lv_iadd hx hb dL_law_1428 ?_
    refine lv_topi (fun x205 ex205 => ?_)
    have tx205 := i_add ex205 (by omega)
    have ejx205 : x205.toNatClampNeg = i.toNatClampNeg + 1 := by have h1 := i_cl (x := x205) (by omega); have h2 := i_cl (x := i) (by omega); omega
    refine va_sld hx hb hX hbl (Nat.not_le.mpr hbl) hSH165 (vp_in_iff.mpr (by omega)) dL_law_1429 ?_
    refine W.eq (g2 := F0 m 1430 ls [.int (xs (i.toNatClampNeg + 1)), .ref b]) (congrArg (fun z => F0 m 1430 ls [.int (xs z), .ref b]) ejx205) ?_
    refine lv_aload_n hx hb dL_law_1430 rfl (lv_at hl 3 rfl) ?_
    refine lv_iload_n hx hb dL_law_1431 rfl (lv_at hl 0 rfl) ?_
    refine lv_iconst (v := 2) hx hb dL_law_1432 (by decide) ?_
    refine lv_iadd hx hb dL_law_1433 ?_
    refine lv_topi (fun x206 ex206 => ?_)
    have tx206 := i_add ex206 (by omega)
    have ejx206 : x206.toNatClampNeg = i.toNatClampNeg + 2 := by have h1 := i_cl (x := x206) (by omega); have h2 := i_cl (x := i) (by omega); omega
    refine va_sld hx hb hX hbl (Nat.not_le.mpr hbl) hSH165 (vp_in_iff.mpr (by omega)) dL_law_1434 ?_
    refine W.eq (g2 := F0 m 1435 ls [.int (xs (i.toNatClampNeg + 2)), .int (xs (i.toNatClampNeg + 1)), .ref b]) (congrArg (fun z => F0 m 1435 ls [.int (xs z), .int (xs (i.toNatClampNeg + 1)), .ref b]) ejx206) ?_
    refine lv_aload_n hx hb dL_law_1435 rfl (lv_at hl 3 rfl) ?_
    refine lv_iload_n hx hb dL_law_1436 rfl (lv_at hl 0 rfl) ?_
    refine lv_iconst (v := 3) hx hb dL_law_1437 (by decide) ?_
    refine lv_iadd hx hb dL_law_1438 ?_
    refine lv_topi (fun x207 ex207 => ?_)
    have tx207 := i_add ex207 (by omega)
    have ejx207 : x207.toNatClampNeg = i.toNatClampNeg + 3 := by have h1 := i_cl (x := x207) (by omega); have h2 := i_cl (x := i) (by omega); omega
    refine va_sld hx hb hX hbl (Nat.not_le.mpr hbl) hSH165 (vp_in_iff.mpr (by omega)) dL_law_1439 ?_
    refine W.eq (g2 := F0 m 1440 ls [.int (xs (i.toNatClampNeg + 3)), .int (xs (i.toNatClampNeg + 2)), .int (xs (i.toNatClampNeg + 1)), .ref b]) (congrArg (fun z => F0 m 1440 ls [.int (xs z), .int (xs (i.toNatClampNeg + 2)), .int (xs (i.toNatClampNeg + 1)), .ref b]) ejx207) ?_
    refine x_V (As := [.int (xs (i.toNatClampNeg + 1)), .int (xs (i.toNatClampNeg + 2)), .int (xs (i.toNatClampNeg + 3))]) (rest := []) C (a_X10_enough l K G H165 ((xs (i.toNatClampNeg + 1))) ((xs (i.toNatClampNeg + 2))) ((xs (i.toNatClampNeg + 3))) hTH165 gb g167 g168 g169 g170) yo_X10_enough wM_L_152 ⟨⟨by decide, by decide⟩, show _ ≤ 284929 by omega, show _ ≤ 8247460 by omega⟩ (x_rv C hTH165 (ci := 10) rfl gb rg_112) rfl hl.1 rfl (Nat.le_of_ble_eq_true rfl) dL_law_1440 hSH165 (AE_new hN hSH165.1) (fun vH208 H208 locsH208 pH208 zH208 kH208 hSH208 => ?_)
    obtain ⟨x209, hvH208, g210, g211, g212, g213, mf214, hTH208⟩ := pH208
    subst hvH208
    have f215 : ∀ j : Nat, fI H208 tq j = fI H tq j := fun j => (fI_kept (x_lt hTH165 kH208 gtq (by decide))).trans (f171 j)
    have f216 : ∀ j : Nat, fI H208 uq j = fI H uq j := fun j => (fI_kept (x_lt hTH165 kH208 guq (by decide))).trans (f172 j)
    have m217 := (m173).trans (fR_kept (x_lt hTH165 kH208 ga (by decide))).symm
    have m218 := (m174).trans (fI_kept (x_lt hTH165 kH208 ga (by decide))).symm
    have m219 := (m176).trans (fI_kept (x_lt hTH165 kH208 gw (by decide))).symm
    have m220 := (m178).trans (fI_kept (x_lt hTH165 kH208 gw (by decide))).symm
    have m221 := (m180).trans (fI_kept (x_lt hTH165 kH208 gw (by decide))).symm
    have m222 := (m182).trans (fI_kept (x_lt hTH165 kH208 gw (by decide))).symm
    have m223 := (m184).trans (fI_kept (x_lt hTH165 kH208 gw (by decide))).symm
    have m224 := (m186).trans (fI_kept (x_lt hTH165 kH208 gw (by decide))).symm
    have m225 := (m188).trans (fR_kept (x_lt hTH165 kH208 ga (by decide))).symm
    have m226 := (fV_kept (x_lt hTH165 kH208 ga (by decide))).trans m191
    have m227 := (m193).trans (fI_kept (x_lt hTH165 kH208 gkq (by decide))).symm
    have m228 := (m194).trans (fI_kept (x_lt hTH165 kH208 giq (by decide))).symm
    have m229 := (m195).trans (fI_kept (x_lt hTH165 kH208 gkq (by decide))).symm
    have m230 := (m196).trans (fI_kept (x_lt hTH165 kH208 giq (by decide))).symm
    have m231 := (m197).trans (fI_kept (x_lt hTH165 kH208 gkq (by decide))).symm
    have m232 := (m198).trans (fI_kept (x_lt hTH165 kH208 giq (by decide))).symm
    have m233 := (m199).trans (fI_kept (x_lt hTH165 kH208 gkq (by decide))).symm
    have m234 := (m200).trans (fI_kept (x_lt hTH165 kH208 giq (by decide))).symm
    have m235 := (m201).trans (fI_kept (x_lt hTH165 kH208 gkq (by decide))).symm
    have m236 := (m202).trans (fI_kept (x_lt hTH165 kH208 giq (by decide))).symm
    have m237 := (m203).trans (fI_kept (x_lt hTH165 kH208 gkq (by decide))).symm
    have m238 := (m204).trans (fI_kept (x_lt hTH165 kH208 giq (by decide))).symm
    have m239 := (m175).trans (MF.i mf214 (k := 18) (by decide) (by decide)).symm
    have m240 := (m177).trans (MF.i mf214 (k := 1) (by decide) (by decide)).symm
    have m241 := (m179).trans (MF.i mf214 (k := 2) (by decide) (by decide)).symm
    have m242 := (m181).trans (MF.i mf214 (k := 3) (by decide) (by decide)).symm
    have m243 := (m183).trans (MF.i mf214 (k := 59) (by decide) (by decide)).symm
    have m244 := (m185).trans (MF.i mf214 (k := 62) (by decide) (by decide)).symm
    have m245 := (m187).trans (MF.i mf214 (k := 65) (by decide) (by decide)).symm
    have m246 := (m189).trans (MF.r mf214 (k := 17) (by decide) (by decide)).symm
    have m247 := (m190).trans (MF.i mf214 (k := 70) (by decide) (by decide)).symm
    have m248 := (m192).trans (MF.r mf214 (k := 73) (by decide) (by decide)).symm
    refine W.eq (g2 := F0 m 1443 ls [.int x209]) rfl ?_
    refine lv_pop hx hb dL_law_1443 rfl ?_
    refine lv_goto (tgt := 1509) hx hb dL_law_1444 (by decide) ?_
    exact nx G H208 locsH208 _ _ ls ⟨hTH208, hN, ga, gb, g210, g211, g212, g213, ⟨(by rw [← m218, ← m239]; omega), (by rw [← m217, ← m219, ← m240]; omega), (by rw [← m217, ← m220, ← m241]; omega), (by rw [← m217, ← m221, ← m242]; omega), (by rw [← m217, ← m222, ← m243]; omega), (by rw [← m217, ← m223, ← m244]; omega), (by rw [← m217, ← m224, ← m245]; omega)⟩, Or.inr ⟨kq, m226, gkq, (by rw [← m247]; omega), (by rw [← m227, ← m248, ← m228]; omega), (by rw [← m229, ← m248, ← m230]; omega), (by rw [← m231, ← m248, ← m232]; omega), (by rw [← m233, ← m248, ← m234]; omega), (by rw [← m235, ← m248, ← m236]; omega), (by rw [← m237, ← m248, ← m238]; omega)⟩, (by unfold TB; rw [← m225, ← m246, ← m239]; exact TBR.of htr f215 f216 (by omega)), hSH208⟩ hl ⟨by omega, by omega, fun h => by have h1 := h.symm.trans m226; cases h1⟩