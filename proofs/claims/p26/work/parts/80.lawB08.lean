set_option maxRecDepth 100000 in
set_option maxHeartbeats 1000000 in
theorem lw_c32 {p : Program} {l : Launch} {e : Env} {s : State} {m : MethodId} {below : List Frame} {meth : Method} {c : Code} {K : KE} {b0 L : Nat} {xs : Nat → Int32} {G : Nat → Option Nat} {H : Heap} {locs : List Loc} {a b : Nat} {cells slots : Nat} {ls : Array Slot} {i : Int32} {n : Nat} (D : LC p K s m meth c b0 L xs) (S : SX K s G H locs a b) (hl : lv_has ls 4 [(3, .int i), (2, .ref b), (1, .ref a), (0, .ref b0)]) (hi : 0 ≤ i.toInt ∧ i.toInt + 6 ≤ L) (hn : n ≤ 511) (hB : BD K H a cells slots) (nx : ∀ (G : Nat → Option Nat) (H : Heap) (locs : List Loc) (cells slots : Nat) (ls : Array Slot), SX K s G H locs a b → lv_has ls 4 [(3, .int i), (2, .ref b), (1, .ref a), (0, .ref b0)] → BD K H a cells slots → W p l e room_1 s m #[Value.ref b0] below meth c H locs cells slots (lw_Z below #[Value.ref b0] s) (F0 m 1509 ls [])) : W p l e room_1 s m #[Value.ref b0] below meth c H locs cells slots (lw_Z below #[Value.ref b0] s) (F0 m 1404 ls []) := by
  have hI := hi
  obtain ⟨C, hX, hbl, hL⟩ := id D
  obtain ⟨hx, hb, hml, hown, hts, hKT, hr, hlocks, hnm⟩ := id C
  obtain ⟨hT, hN, ga, gb, cg, tu, wd, im, ⟨rt, r1, r4, r5, r10, r13, r16⟩, hk, hS⟩ := S
  obtain ⟨hc, hs, hB0⟩ := hB
  have n_1 : (1 : Int32).toInt = 1 := rfl
  have n_2 : (2 : Int32).toInt = 2 := rfl
  have n_3 : (3 : Int32).toInt = 3 := rfl
  obtain ⟨w, ew⟩ : ∃ z : Nat, z = fR H a (K.1.2 9 0) := ⟨_, rfl⟩
  have gw := ty_fr (q := w) (k := 0) (u := 0) ew hT ga rg_68 rfl
  rw [← ew] at r1 r4 r5 r10 r13 r16
  obtain ⟨ta, eta⟩ : ∃ z : Int32, z = fI H a (K.1.2 9 3) := ⟨_, rfl⟩
  rw [← eta] at rt
  obtain ⟨tb, etb⟩ : ∃ z : Int32, z = fI H b (K.1.2 10 18) := ⟨_, rfl⟩
  rw [← etb] at rt
  obtain ⟨s1, es1⟩ : ∃ z : Int32, z = fI H w (K.1.2 8 1) := ⟨_, rfl⟩
  rw [← es1] at r1
  obtain ⟨y1, ey1⟩ : ∃ z : Int32, z = fI H b (K.1.2 10 1) := ⟨_, rfl⟩
  rw [← ey1] at r1
  obtain ⟨s4, es4⟩ : ∃ z : Int32, z = fI H w (K.1.2 8 4) := ⟨_, rfl⟩
  rw [← es4] at r4
  obtain ⟨y4, ey4⟩ : ∃ z : Int32, z = fI H b (K.1.2 10 2) := ⟨_, rfl⟩
  rw [← ey4] at r4
  obtain ⟨s5, es5⟩ : ∃ z : Int32, z = fI H w (K.1.2 8 5) := ⟨_, rfl⟩
  rw [← es5] at r5
  obtain ⟨y5, ey5⟩ : ∃ z : Int32, z = fI H b (K.1.2 10 3) := ⟨_, rfl⟩
  rw [← ey5] at r5
  obtain ⟨s10, es10⟩ : ∃ z : Int32, z = fI H w (K.1.2 8 10) := ⟨_, rfl⟩
  rw [← es10] at r10
  obtain ⟨y10, ey10⟩ : ∃ z : Int32, z = fI H b (K.1.2 10 59) := ⟨_, rfl⟩
  rw [← ey10] at r10
  obtain ⟨s13, es13⟩ : ∃ z : Int32, z = fI H w (K.1.2 8 13) := ⟨_, rfl⟩
  rw [← es13] at r13
  obtain ⟨y13, ey13⟩ : ∃ z : Int32, z = fI H b (K.1.2 10 62) := ⟨_, rfl⟩
  rw [← ey13] at r13
  obtain ⟨s16, es16⟩ : ∃ z : Int32, z = fI H w (K.1.2 8 16) := ⟨_, rfl⟩
  rw [← es16] at r16
  obtain ⟨y16, ey16⟩ : ∃ z : Int32, z = fI H b (K.1.2 10 65) := ⟨_, rfl⟩
  rw [← ey16] at r16
  rcases hk with ⟨kn, h70⟩ | ⟨kq, kn, gkq, h70, q1, q4, q5, q10, q13, q16⟩
  · skip
    obtain ⟨hi, ehi⟩ : ∃ z : Int32, z = fI H b (K.1.2 10 70) := ⟨_, rfl⟩
    rw [← ehi] at h70
    obtain ⟨hc0, hs0⟩ := hB0 kn
    refine lv_aload_n hx hb dL_law_1404 rfl (lv_at hl 2 rfl) ?_
    refine lv_aload_n hx hb dL_law_1405 rfl (lv_at hl 3 rfl) ?_
    refine lv_iload_n hx hb dL_law_1406 rfl (lv_at hl 0 rfl) ?_
    refine lv_iconst (v := 1) hx hb dL_law_1407 (by decide) ?_
    refine lv_iadd hx hb dL_law_1408 ?_
    refine lv_topi (fun x101 ex101 => ?_)
    obtain ⟨tx101, ejx101, evx101⟩ := lw_ix (k := 1) ex101 hI hL rfl (by decide)
    clear tx101
    refine va_sld hx hb hX hbl (Nat.not_le.mpr hbl) hS (vp_in_iff.mpr evx101) dL_law_1409 ?_
    refine W.eq (g2 := F0 m 1410 ls [.int (xs (i.toNatClampNeg + 1)), .ref a]) (congrArg (fun z => F0 m 1410 ls [.int (xs z), .ref a]) ejx101) ?_
    refine lv_aload_n hx hb dL_law_1410 rfl (lv_at hl 3 rfl) ?_
    refine lv_iload_n hx hb dL_law_1411 rfl (lv_at hl 0 rfl) ?_
    refine lv_iconst (v := 2) hx hb dL_law_1412 (by decide) ?_
    refine lv_iadd hx hb dL_law_1413 ?_
    refine lv_topi (fun x102 ex102 => ?_)
    obtain ⟨tx102, ejx102, evx102⟩ := lw_ix (k := 2) ex102 hI hL rfl (by decide)
    clear tx102
    refine va_sld hx hb hX hbl (Nat.not_le.mpr hbl) hS (vp_in_iff.mpr evx102) dL_law_1414 ?_
    refine W.eq (g2 := F0 m 1415 ls [.int (xs (i.toNatClampNeg + 2)), .int (xs (i.toNatClampNeg + 1)), .ref a]) (congrArg (fun z => F0 m 1415 ls [.int (xs z), .int (xs (i.toNatClampNeg + 1)), .ref a]) ejx102) ?_
    refine lv_aload_n hx hb dL_law_1415 rfl (lv_at hl 3 rfl) ?_
    refine lv_iload_n hx hb dL_law_1416 rfl (lv_at hl 0 rfl) ?_
    refine lv_iconst (v := 3) hx hb dL_law_1417 (by decide) ?_
    refine lv_iadd hx hb dL_law_1418 ?_
    refine lv_topi (fun x103 ex103 => ?_)
    obtain ⟨tx103, ejx103, evx103⟩ := lw_ix (k := 3) ex103 hI hL rfl (by decide)
    clear tx103
    refine va_sld hx hb hX hbl (Nat.not_le.mpr hbl) hS (vp_in_iff.mpr evx103) dL_law_1419 ?_
    refine W.eq (g2 := F0 m 1420 ls [.int (xs (i.toNatClampNeg + 3)), .int (xs (i.toNatClampNeg + 2)), .int (xs (i.toNatClampNeg + 1)), .ref a]) (congrArg (fun z => F0 m 1420 ls [.int (xs z), .int (xs (i.toNatClampNeg + 2)), .int (xs (i.toNatClampNeg + 1)), .ref a]) ejx103) ?_
    refine x_V (As := [.int (xs (i.toNatClampNeg + 1)), .int (xs (i.toNatClampNeg + 2)), .int (xs (i.toNatClampNeg + 3))]) (rest := []) C (a_X9_enough l K G H ((xs (i.toNatClampNeg + 1))) ((xs (i.toNatClampNeg + 2))) ((xs (i.toNatClampNeg + 3))) hT ga) yo_X9_enough wM_L_149 ⟨⟨by decide, by decide⟩, show _ ≤ 284929 from Nat.le_trans hc (by decide), show _ ≤ 8247460 from Nat.le_trans hs (by decide)⟩ (x_rv C hT (ci := 9) rfl ga rg_68) rfl hl.1 rfl (Nat.le_of_ble_eq_true rfl) dL_law_1420 hS (AE_new hN hS.1) (fun vH104 H104 locsH104 pH104 zH104 kH104 hSH104 => ?_)
    obtain ⟨x105, hvH104, hTH104⟩ := pH104
    subst hvH104
    have g106 : CG (avw K H104 b) := CG.congr (fun k hk j => av_eff hT kH104 gb (by decide) (CG_eff [83, 84] (by decide) k hk)) cg
    have g107 : TU (avw K H104 b) (svw K H104 b) := TU.congr (fun k hk j => av_eff hT kH104 gb (by decide) (TU_eff [83, 84] (by decide) k hk)) (fun k hk => sv_eff hT kH104 gb (by decide)) tu
    have g108 : WD (avw K H104 b) := WD.congr (fun k hk j => av_eff hT kH104 gb (by decide) (WD_eff [83, 84] (by decide) k hk)) wd
    have g109 : IM (avw K H104 b) := IM.congr (fun k hk j => av_eff hT kH104 gb (by decide) (IM_eff [83, 84] (by decide) k hk)) im
    have m110 := (ew).trans (fR_kept (x_lt hT kH104 ga (by decide))).symm
    have m111 := (eta).trans (fI_kept (x_lt hT kH104 ga (by decide))).symm
    have m112 := (etb).trans (fI_kept (x_lt hT kH104 gb (by decide))).symm
    have m113 := (es1).trans (fI_kept (x_lt hT kH104 gw (by decide))).symm
    have m114 := (ey1).trans (fI_kept (x_lt hT kH104 gb (by decide))).symm
    have m115 := (es4).trans (fI_kept (x_lt hT kH104 gw (by decide))).symm
    have m116 := (ey4).trans (fI_kept (x_lt hT kH104 gb (by decide))).symm
    have m117 := (es5).trans (fI_kept (x_lt hT kH104 gw (by decide))).symm
    have m118 := (ey5).trans (fI_kept (x_lt hT kH104 gb (by decide))).symm
    have m119 := (es10).trans (fI_kept (x_lt hT kH104 gw (by decide))).symm
    have m120 := (ey10).trans (fI_kept (x_lt hT kH104 gb (by decide))).symm
    have m121 := (es13).trans (fI_kept (x_lt hT kH104 gw (by decide))).symm
    have m122 := (ey13).trans (fI_kept (x_lt hT kH104 gb (by decide))).symm
    have m123 := (es16).trans (fI_kept (x_lt hT kH104 gw (by decide))).symm
    have m124 := (ey16).trans (fI_kept (x_lt hT kH104 gb (by decide))).symm
    have m125 := (ehi).trans (fI_kept (x_lt hT kH104 gb (by decide))).symm
    have m126 := (fV_kept (x_lt hT kH104 ga (by decide))).trans kn
    refine W.eq (g2 := F0 m 1423 ls [.int x105]) rfl ?_
    refine lv_pop hx hb dL_law_1423 rfl ?_
    refine lv_aload_n hx hb dL_law_1424 rfl (lv_at hl 1 rfl) ?_
    refine lv_aload_n hx hb dL_law_1425 rfl (lv_at hl 3 rfl) ?_
    refine lv_iload_n hx hb dL_law_1426 rfl (lv_at hl 0 rfl) ?_
    refine lv_iconst (v := 1) hx hb dL_law_1427 (by decide) ?_
    refine lv_iadd hx hb dL_law_1428 ?_
    refine lv_topi (fun x127 ex127 => ?_)
    obtain ⟨tx127, ejx127, evx127⟩ := lw_ix (k := 1) ex127 hI hL rfl (by decide)
    clear tx127
    refine va_sld hx hb hX hbl (Nat.not_le.mpr hbl) hSH104 (vp_in_iff.mpr evx127) dL_law_1429 ?_
    refine W.eq (g2 := F0 m 1430 ls [.int (xs (i.toNatClampNeg + 1)), .ref b]) (congrArg (fun z => F0 m 1430 ls [.int (xs z), .ref b]) ejx127) ?_
    refine lv_aload_n hx hb dL_law_1430 rfl (lv_at hl 3 rfl) ?_
    refine lv_iload_n hx hb dL_law_1431 rfl (lv_at hl 0 rfl) ?_
    refine lv_iconst (v := 2) hx hb dL_law_1432 (by decide) ?_
    refine lv_iadd hx hb dL_law_1433 ?_
    refine lv_topi (fun x128 ex128 => ?_)
    obtain ⟨tx128, ejx128, evx128⟩ := lw_ix (k := 2) ex128 hI hL rfl (by decide)
    clear tx128
    refine va_sld hx hb hX hbl (Nat.not_le.mpr hbl) hSH104 (vp_in_iff.mpr evx128) dL_law_1434 ?_
    refine W.eq (g2 := F0 m 1435 ls [.int (xs (i.toNatClampNeg + 2)), .int (xs (i.toNatClampNeg + 1)), .ref b]) (congrArg (fun z => F0 m 1435 ls [.int (xs z), .int (xs (i.toNatClampNeg + 1)), .ref b]) ejx128) ?_
    refine lv_aload_n hx hb dL_law_1435 rfl (lv_at hl 3 rfl) ?_
    refine lv_iload_n hx hb dL_law_1436 rfl (lv_at hl 0 rfl) ?_
    refine lv_iconst (v := 3) hx hb dL_law_1437 (by decide) ?_
    refine lv_iadd hx hb dL_law_1438 ?_
    refine lv_topi (fun x129 ex129 => ?_)
    obtain ⟨tx129, ejx129, evx129⟩ := lw_ix (k := 3) ex129 hI hL rfl (by decide)
    clear tx129
    refine va_sld hx hb hX hbl (Nat.not_le.mpr hbl) hSH104 (vp_in_iff.mpr evx129) dL_law_1439 ?_
    refine W.eq (g2 := F0 m 1440 ls [.int (xs (i.toNatClampNeg + 3)), .int (xs (i.toNatClampNeg + 2)), .int (xs (i.toNatClampNeg + 1)), .ref b]) (congrArg (fun z => F0 m 1440 ls [.int (xs z), .int (xs (i.toNatClampNeg + 2)), .int (xs (i.toNatClampNeg + 1)), .ref b]) ejx129) ?_
    refine x_V (As := [.int (xs (i.toNatClampNeg + 1)), .int (xs (i.toNatClampNeg + 2)), .int (xs (i.toNatClampNeg + 3))]) (rest := []) C (a_X10_enough l K G H104 ((xs (i.toNatClampNeg + 1))) ((xs (i.toNatClampNeg + 2))) ((xs (i.toNatClampNeg + 3))) hTH104 gb g106 g107 g108 g109) yo_X10_enough wM_L_152 ⟨⟨by decide, by decide⟩, show _ ≤ 284929 from Nat.le_trans hc (by decide), show _ ≤ 8247460 from Nat.le_trans hs (by decide)⟩ (x_rv C hTH104 (ci := 10) rfl gb rg_112) rfl hl.1 rfl (Nat.le_of_ble_eq_true rfl) dL_law_1440 hSH104 (AE_new hN hSH104.1) (fun vH130 H130 locsH130 pH130 zH130 kH130 hSH130 => ?_)
    obtain ⟨x131, hvH130, g132, g133, g134, g135, mf136, hTH130⟩ := pH130
    subst hvH130
    have m137 := (m110).trans (fR_kept (x_lt hTH104 kH130 ga (by decide))).symm
    have m138 := (m111).trans (fI_kept (x_lt hTH104 kH130 ga (by decide))).symm
    have m139 := (m113).trans (fI_kept (x_lt hTH104 kH130 gw (by decide))).symm
    have m140 := (m115).trans (fI_kept (x_lt hTH104 kH130 gw (by decide))).symm
    have m141 := (m117).trans (fI_kept (x_lt hTH104 kH130 gw (by decide))).symm
    have m142 := (m119).trans (fI_kept (x_lt hTH104 kH130 gw (by decide))).symm
    have m143 := (m121).trans (fI_kept (x_lt hTH104 kH130 gw (by decide))).symm
    have m144 := (m123).trans (fI_kept (x_lt hTH104 kH130 gw (by decide))).symm
    have m145 := (fV_kept (x_lt hTH104 kH130 ga (by decide))).trans m126
    have m146 := (m112).trans (MF.i mf136 (k := 18) (by decide) (by decide)).symm
    have m147 := (m114).trans (MF.i mf136 (k := 1) (by decide) (by decide)).symm
    have m148 := (m116).trans (MF.i mf136 (k := 2) (by decide) (by decide)).symm
    have m149 := (m118).trans (MF.i mf136 (k := 3) (by decide) (by decide)).symm
    have m150 := (m120).trans (MF.i mf136 (k := 59) (by decide) (by decide)).symm
    have m151 := (m122).trans (MF.i mf136 (k := 62) (by decide) (by decide)).symm
    have m152 := (m124).trans (MF.i mf136 (k := 65) (by decide) (by decide)).symm
    have m153 := (m125).trans (MF.i mf136 (k := 70) (by decide) (by decide)).symm
    refine W.eq (g2 := F0 m 1443 ls [.int x131]) rfl ?_
    refine lv_pop hx hb dL_law_1443 rfl ?_
    refine lv_goto (tgt := 1509) hx hb dL_law_1444 (by decide) ?_
    exact nx G H130 locsH130 _ _ ls ⟨hTH130, hN, ga, gb, g132, g133, g134, g135, ⟨(by rw [← m138, ← m146]; exact rt), (by rw [← m137, ← m139, ← m147]; exact r1), (by rw [← m137, ← m140, ← m148]; exact r4), (by rw [← m137, ← m141, ← m149]; exact r5), (by rw [← m137, ← m142, ← m150]; exact r10), (by rw [← m137, ← m143, ← m151]; exact r13), (by rw [← m137, ← m144, ← m152]; exact r16)⟩, Or.inl ⟨m145, (by rw [← m153]; exact h70)⟩, hSH130⟩ hl ⟨hc, hs, fun _ => ⟨hc0, hs0⟩⟩
  · skip
    obtain ⟨hi, ehi⟩ : ∃ z : Int32, z = fI H b (K.1.2 10 70) := ⟨_, rfl⟩
    rw [← ehi] at h70
    obtain ⟨iq, eiq⟩ : ∃ z : Nat, z = fR H b (K.1.2 10 73) := ⟨_, rfl⟩
    have giq := ty_fr (q := iq) (k := 73) (u := 162) eiq hT gb rg_112 rfl
    rw [← eiq] at q1 q4 q5 q10 q13 q16
    obtain ⟨k1, ek1⟩ : ∃ z : Int32, z = fI H kq (K.1.2 8 1) := ⟨_, rfl⟩
    rw [← ek1] at q1
    obtain ⟨i1, ei1⟩ : ∃ z : Int32, z = fI H iq ((0 : Int32).toNatClampNeg) := ⟨_, rfl⟩
    rw [← ei1] at q1
    obtain ⟨k4, ek4⟩ : ∃ z : Int32, z = fI H kq (K.1.2 8 4) := ⟨_, rfl⟩
    rw [← ek4] at q4
    obtain ⟨i4, ei4⟩ : ∃ z : Int32, z = fI H iq ((1 : Int32).toNatClampNeg) := ⟨_, rfl⟩
    rw [← ei4] at q4
    obtain ⟨k5, ek5⟩ : ∃ z : Int32, z = fI H kq (K.1.2 8 5) := ⟨_, rfl⟩
    rw [← ek5] at q5
    obtain ⟨i5, ei5⟩ : ∃ z : Int32, z = fI H iq ((2 : Int32).toNatClampNeg) := ⟨_, rfl⟩
    rw [← ei5] at q5
    obtain ⟨k10, ek10⟩ : ∃ z : Int32, z = fI H kq (K.1.2 8 10) := ⟨_, rfl⟩
    rw [← ek10] at q10
    obtain ⟨i10, ei10⟩ : ∃ z : Int32, z = fI H iq ((3 : Int32).toNatClampNeg) := ⟨_, rfl⟩
    rw [← ei10] at q10
    obtain ⟨k13, ek13⟩ : ∃ z : Int32, z = fI H kq (K.1.2 8 13) := ⟨_, rfl⟩
    rw [← ek13] at q13
    obtain ⟨i13, ei13⟩ : ∃ z : Int32, z = fI H iq ((4 : Int32).toNatClampNeg) := ⟨_, rfl⟩
    rw [← ei13] at q13
    obtain ⟨k16, ek16⟩ : ∃ z : Int32, z = fI H kq (K.1.2 8 16) := ⟨_, rfl⟩
    rw [← ek16] at q16
    obtain ⟨i16, ei16⟩ : ∃ z : Int32, z = fI H iq ((5 : Int32).toNatClampNeg) := ⟨_, rfl⟩
    rw [← ei16] at q16
    refine lv_aload_n hx hb dL_law_1404 rfl (lv_at hl 2 rfl) ?_
    refine lv_aload_n hx hb dL_law_1405 rfl (lv_at hl 3 rfl) ?_
    refine lv_iload_n hx hb dL_law_1406 rfl (lv_at hl 0 rfl) ?_
    refine lv_iconst (v := 1) hx hb dL_law_1407 (by decide) ?_
    refine lv_iadd hx hb dL_law_1408 ?_
    refine lv_topi (fun x154 ex154 => ?_)
    obtain ⟨tx154, ejx154, evx154⟩ := lw_ix (k := 1) ex154 hI hL rfl (by decide)
    clear tx154
    refine va_sld hx hb hX hbl (Nat.not_le.mpr hbl) hS (vp_in_iff.mpr evx154) dL_law_1409 ?_
    refine W.eq (g2 := F0 m 1410 ls [.int (xs (i.toNatClampNeg + 1)), .ref a]) (congrArg (fun z => F0 m 1410 ls [.int (xs z), .ref a]) ejx154) ?_
    refine lv_aload_n hx hb dL_law_1410 rfl (lv_at hl 3 rfl) ?_
    refine lv_iload_n hx hb dL_law_1411 rfl (lv_at hl 0 rfl) ?_
    refine lv_iconst (v := 2) hx hb dL_law_1412 (by decide) ?_
    refine lv_iadd hx hb dL_law_1413 ?_
    refine lv_topi (fun x155 ex155 => ?_)
    obtain ⟨tx155, ejx155, evx155⟩ := lw_ix (k := 2) ex155 hI hL rfl (by decide)
    clear tx155
    refine va_sld hx hb hX hbl (Nat.not_le.mpr hbl) hS (vp_in_iff.mpr evx155) dL_law_1414 ?_
    refine W.eq (g2 := F0 m 1415 ls [.int (xs (i.toNatClampNeg + 2)), .int (xs (i.toNatClampNeg + 1)), .ref a]) (congrArg (fun z => F0 m 1415 ls [.int (xs z), .int (xs (i.toNatClampNeg + 1)), .ref a]) ejx155) ?_
    refine lv_aload_n hx hb dL_law_1415 rfl (lv_at hl 3 rfl) ?_
    refine lv_iload_n hx hb dL_law_1416 rfl (lv_at hl 0 rfl) ?_
    refine lv_iconst (v := 3) hx hb dL_law_1417 (by decide) ?_
    refine lv_iadd hx hb dL_law_1418 ?_
    refine lv_topi (fun x156 ex156 => ?_)
    obtain ⟨tx156, ejx156, evx156⟩ := lw_ix (k := 3) ex156 hI hL rfl (by decide)
    clear tx156
    refine va_sld hx hb hX hbl (Nat.not_le.mpr hbl) hS (vp_in_iff.mpr evx156) dL_law_1419 ?_
    refine W.eq (g2 := F0 m 1420 ls [.int (xs (i.toNatClampNeg + 3)), .int (xs (i.toNatClampNeg + 2)), .int (xs (i.toNatClampNeg + 1)), .ref a]) (congrArg (fun z => F0 m 1420 ls [.int (xs z), .int (xs (i.toNatClampNeg + 2)), .int (xs (i.toNatClampNeg + 1)), .ref a]) ejx156) ?_
    refine x_V (As := [.int (xs (i.toNatClampNeg + 1)), .int (xs (i.toNatClampNeg + 2)), .int (xs (i.toNatClampNeg + 3))]) (rest := []) C (a_X9_enough l K G H ((xs (i.toNatClampNeg + 1))) ((xs (i.toNatClampNeg + 2))) ((xs (i.toNatClampNeg + 3))) hT ga) yo_X9_enough wM_L_149 ⟨⟨by decide, by decide⟩, show _ ≤ 284929 from Nat.le_trans hc (by decide), show _ ≤ 8247460 from Nat.le_trans hs (by decide)⟩ (x_rv C hT (ci := 9) rfl ga rg_68) rfl hl.1 rfl (Nat.le_of_ble_eq_true rfl) dL_law_1420 hS (AE_new hN hS.1) (fun vH157 H157 locsH157 pH157 zH157 kH157 hSH157 => ?_)
    obtain ⟨x158, hvH157, hTH157⟩ := pH157
    subst hvH157
    have g159 : CG (avw K H157 b) := CG.congr (fun k hk j => av_eff hT kH157 gb (by decide) (CG_eff [83, 84] (by decide) k hk)) cg
    have g160 : TU (avw K H157 b) (svw K H157 b) := TU.congr (fun k hk j => av_eff hT kH157 gb (by decide) (TU_eff [83, 84] (by decide) k hk)) (fun k hk => sv_eff hT kH157 gb (by decide)) tu
    have g161 : WD (avw K H157 b) := WD.congr (fun k hk j => av_eff hT kH157 gb (by decide) (WD_eff [83, 84] (by decide) k hk)) wd
    have g162 : IM (avw K H157 b) := IM.congr (fun k hk j => av_eff hT kH157 gb (by decide) (IM_eff [83, 84] (by decide) k hk)) im
    have m163 := (ew).trans (fR_kept (x_lt hT kH157 ga (by decide))).symm
    have m164 := (eta).trans (fI_kept (x_lt hT kH157 ga (by decide))).symm
    have m165 := (etb).trans (fI_kept (x_lt hT kH157 gb (by decide))).symm
    have m166 := (es1).trans (fI_kept (x_lt hT kH157 gw (by decide))).symm
    have m167 := (ey1).trans (fI_kept (x_lt hT kH157 gb (by decide))).symm
    have m168 := (es4).trans (fI_kept (x_lt hT kH157 gw (by decide))).symm
    have m169 := (ey4).trans (fI_kept (x_lt hT kH157 gb (by decide))).symm
    have m170 := (es5).trans (fI_kept (x_lt hT kH157 gw (by decide))).symm
    have m171 := (ey5).trans (fI_kept (x_lt hT kH157 gb (by decide))).symm
    have m172 := (es10).trans (fI_kept (x_lt hT kH157 gw (by decide))).symm
    have m173 := (ey10).trans (fI_kept (x_lt hT kH157 gb (by decide))).symm
    have m174 := (es13).trans (fI_kept (x_lt hT kH157 gw (by decide))).symm
    have m175 := (ey13).trans (fI_kept (x_lt hT kH157 gb (by decide))).symm
    have m176 := (es16).trans (fI_kept (x_lt hT kH157 gw (by decide))).symm
    have m177 := (ey16).trans (fI_kept (x_lt hT kH157 gb (by decide))).symm
    have m178 := (ehi).trans (fI_kept (x_lt hT kH157 gb (by decide))).symm
    have m179 := (fV_kept (x_lt hT kH157 ga (by decide))).trans kn
    have m180 := (eiq).trans (fR_kept (x_lt hT kH157 gb (by decide))).symm
    have m181 := (ek1).trans (fI_kept (x_lt hT kH157 gkq (by decide))).symm
    have m182 := (ei1).trans (fI_kept (x_lt hT kH157 giq (by decide))).symm
    have m183 := (ek4).trans (fI_kept (x_lt hT kH157 gkq (by decide))).symm
    have m184 := (ei4).trans (fI_kept (x_lt hT kH157 giq (by decide))).symm
    have m185 := (ek5).trans (fI_kept (x_lt hT kH157 gkq (by decide))).symm
    have m186 := (ei5).trans (fI_kept (x_lt hT kH157 giq (by decide))).symm
    have m187 := (ek10).trans (fI_kept (x_lt hT kH157 gkq (by decide))).symm
    have m188 := (ei10).trans (fI_kept (x_lt hT kH157 giq (by decide))).symm
    have m189 := (ek13).trans (fI_kept (x_lt hT kH157 gkq (by decide))).symm
    have m190 := (ei13).trans (fI_kept (x_lt hT kH157 giq (by decide))).symm
    have m191 := (ek16).trans (fI_kept (x_lt hT kH157 gkq (by decide))).symm
    have m192 := (ei16).trans (fI_kept (x_lt hT kH157 giq (by decide))).symm
    refine W.eq (g2 := F0 m 1423 ls [.int x158]) rfl ?_
    refine lv_pop hx hb dL_law_1423 rfl ?_
    refine lv_aload_n hx hb dL_law_1424 rfl (lv_at hl 1 rfl) ?_
    refine lv_aload_n hx hb dL_law_1425 rfl (lv_at hl 3 rfl) ?_
    refine lv_iload_n hx hb dL_law_1426 rfl (lv_at hl 0 rfl) ?_
    refine lv_iconst (v := 1) hx hb dL_law_1427 (by decide) ?_
    refine lv_iadd hx hb dL_law_1428 ?_
    refine lv_topi (fun x193 ex193 => ?_)
    obtain ⟨tx193, ejx193, evx193⟩ := lw_ix (k := 1) ex193 hI hL rfl (by decide)
    clear tx193
    refine va_sld hx hb hX hbl (Nat.not_le.mpr hbl) hSH157 (vp_in_iff.mpr evx193) dL_law_1429 ?_
    refine W.eq (g2 := F0 m 1430 ls [.int (xs (i.toNatClampNeg + 1)), .ref b]) (congrArg (fun z => F0 m 1430 ls [.int (xs z), .ref b]) ejx193) ?_
    refine lv_aload_n hx hb dL_law_1430 rfl (lv_at hl 3 rfl) ?_
    refine lv_iload_n hx hb dL_law_1431 rfl (lv_at hl 0 rfl) ?_
    refine lv_iconst (v := 2) hx hb dL_law_1432 (by decide) ?_
    refine lv_iadd hx hb dL_law_1433 ?_
    refine lv_topi (fun x194 ex194 => ?_)
    obtain ⟨tx194, ejx194, evx194⟩ := lw_ix (k := 2) ex194 hI hL rfl (by decide)
    clear tx194
    refine va_sld hx hb hX hbl (Nat.not_le.mpr hbl) hSH157 (vp_in_iff.mpr evx194) dL_law_1434 ?_
    refine W.eq (g2 := F0 m 1435 ls [.int (xs (i.toNatClampNeg + 2)), .int (xs (i.toNatClampNeg + 1)), .ref b]) (congrArg (fun z => F0 m 1435 ls [.int (xs z), .int (xs (i.toNatClampNeg + 1)), .ref b]) ejx194) ?_
    refine lv_aload_n hx hb dL_law_1435 rfl (lv_at hl 3 rfl) ?_
    refine lv_iload_n hx hb dL_law_1436 rfl (lv_at hl 0 rfl) ?_
    refine lv_iconst (v := 3) hx hb dL_law_1437 (by decide) ?_
    refine lv_iadd hx hb dL_law_1438 ?_
    refine lv_topi (fun x195 ex195 => ?_)
    obtain ⟨tx195, ejx195, evx195⟩ := lw_ix (k := 3) ex195 hI hL rfl (by decide)
    clear tx195
    refine va_sld hx hb hX hbl (Nat.not_le.mpr hbl) hSH157 (vp_in_iff.mpr evx195) dL_law_1439 ?_
    refine W.eq (g2 := F0 m 1440 ls [.int (xs (i.toNatClampNeg + 3)), .int (xs (i.toNatClampNeg + 2)), .int (xs (i.toNatClampNeg + 1)), .ref b]) (congrArg (fun z => F0 m 1440 ls [.int (xs z), .int (xs (i.toNatClampNeg + 2)), .int (xs (i.toNatClampNeg + 1)), .ref b]) ejx195) ?_
    refine x_V (As := [.int (xs (i.toNatClampNeg + 1)), .int (xs (i.toNatClampNeg + 2)), .int (xs (i.toNatClampNeg + 3))]) (rest := []) C (a_X10_enough l K G H157 ((xs (i.toNatClampNeg + 1))) ((xs (i.toNatClampNeg + 2))) ((xs (i.toNatClampNeg + 3))) hTH157 gb g159 g160 g161 g162) yo_X10_enough wM_L_152 ⟨⟨by decide, by decide⟩, show _ ≤ 284929 from Nat.le_trans hc (by decide), show _ ≤ 8247460 from Nat.le_trans hs (by decide)⟩ (x_rv C hTH157 (ci := 10) rfl gb rg_112) rfl hl.1 rfl (Nat.le_of_ble_eq_true rfl) dL_law_1440 hSH157 (AE_new hN hSH157.1) (fun vH196 H196 locsH196 pH196 zH196 kH196 hSH196 => ?_)
    obtain ⟨x197, hvH196, g198, g199, g200, g201, mf202, hTH196⟩ := pH196
    subst hvH196
    have m203 := (m163).trans (fR_kept (x_lt hTH157 kH196 ga (by decide))).symm
    have m204 := (m164).trans (fI_kept (x_lt hTH157 kH196 ga (by decide))).symm
    have m205 := (m166).trans (fI_kept (x_lt hTH157 kH196 gw (by decide))).symm
    have m206 := (m168).trans (fI_kept (x_lt hTH157 kH196 gw (by decide))).symm
    have m207 := (m170).trans (fI_kept (x_lt hTH157 kH196 gw (by decide))).symm
    have m208 := (m172).trans (fI_kept (x_lt hTH157 kH196 gw (by decide))).symm
    have m209 := (m174).trans (fI_kept (x_lt hTH157 kH196 gw (by decide))).symm
    have m210 := (m176).trans (fI_kept (x_lt hTH157 kH196 gw (by decide))).symm
    have m211 := (fV_kept (x_lt hTH157 kH196 ga (by decide))).trans m179
    have m212 := (m181).trans (fI_kept (x_lt hTH157 kH196 gkq (by decide))).symm
    have m213 := (m182).trans (fI_kept (x_lt hTH157 kH196 giq (by decide))).symm
    have m214 := (m183).trans (fI_kept (x_lt hTH157 kH196 gkq (by decide))).symm
    have m215 := (m184).trans (fI_kept (x_lt hTH157 kH196 giq (by decide))).symm
    have m216 := (m185).trans (fI_kept (x_lt hTH157 kH196 gkq (by decide))).symm
    have m217 := (m186).trans (fI_kept (x_lt hTH157 kH196 giq (by decide))).symm
    have m218 := (m187).trans (fI_kept (x_lt hTH157 kH196 gkq (by decide))).symm
    have m219 := (m188).trans (fI_kept (x_lt hTH157 kH196 giq (by decide))).symm
    have m220 := (m189).trans (fI_kept (x_lt hTH157 kH196 gkq (by decide))).symm
    have m221 := (m190).trans (fI_kept (x_lt hTH157 kH196 giq (by decide))).symm
    have m222 := (m191).trans (fI_kept (x_lt hTH157 kH196 gkq (by decide))).symm
    have m223 := (m192).trans (fI_kept (x_lt hTH157 kH196 giq (by decide))).symm
    have m224 := (m165).trans (MF.i mf202 (k := 18) (by decide) (by decide)).symm
    have m225 := (m167).trans (MF.i mf202 (k := 1) (by decide) (by decide)).symm
    have m226 := (m169).trans (MF.i mf202 (k := 2) (by decide) (by decide)).symm
    have m227 := (m171).trans (MF.i mf202 (k := 3) (by decide) (by decide)).symm
    have m228 := (m173).trans (MF.i mf202 (k := 59) (by decide) (by decide)).symm
    have m229 := (m175).trans (MF.i mf202 (k := 62) (by decide) (by decide)).symm
    have m230 := (m177).trans (MF.i mf202 (k := 65) (by decide) (by decide)).symm
    have m231 := (m178).trans (MF.i mf202 (k := 70) (by decide) (by decide)).symm
    have m232 := (m180).trans (MF.r mf202 (k := 73) (by decide) (by decide)).symm
    refine W.eq (g2 := F0 m 1443 ls [.int x197]) rfl ?_
    refine lv_pop hx hb dL_law_1443 rfl ?_
    refine lv_goto (tgt := 1509) hx hb dL_law_1444 (by decide) ?_
    exact nx G H196 locsH196 _ _ ls ⟨hTH196, hN, ga, gb, g198, g199, g200, g201, ⟨(by rw [← m204, ← m224]; exact rt), (by rw [← m203, ← m205, ← m225]; exact r1), (by rw [← m203, ← m206, ← m226]; exact r4), (by rw [← m203, ← m207, ← m227]; exact r5), (by rw [← m203, ← m208, ← m228]; exact r10), (by rw [← m203, ← m209, ← m229]; exact r13), (by rw [← m203, ← m210, ← m230]; exact r16)⟩, Or.inr ⟨kq, m211, gkq, (by rw [← m231]; exact h70), (by rw [← m212, ← m232, ← m213]; exact q1), (by rw [← m214, ← m232, ← m215]; exact q4), (by rw [← m216, ← m232, ← m217]; exact q5), (by rw [← m218, ← m232, ← m219]; exact q10), (by rw [← m220, ← m232, ← m221]; exact q13), (by rw [← m222, ← m232, ← m223]; exact q16)⟩, hSH196⟩ hl ⟨hc, hs, fun h => by have h1 := h.symm.trans m211; cases h1⟩
set_option maxRecDepth 100000 in
set_option maxHeartbeats 1000000 in
theorem lw_c33 {p : Program} {l : Launch} {e : Env} {s : State} {m : MethodId} {below : List Frame} {meth : Method} {c : Code} {K : KE} {b0 L : Nat} {xs : Nat → Int32} {G : Nat → Option Nat} {H : Heap} {locs : List Loc} {a b : Nat} {cells slots : Nat} {ls : Array Slot} {i : Int32} {n : Nat} (D : LC p K s m meth c b0 L xs) (S : SX K s G H locs a b) (hl : lv_has ls 4 [(3, .int i), (2, .ref b), (1, .ref a), (0, .ref b0)]) (hi : 0 ≤ i.toInt ∧ i.toInt + 6 ≤ L) (hn : n ≤ 511) (hB : BD K H a cells slots) (nx : ∀ (G : Nat → Option Nat) (H : Heap) (locs : List Loc) (cells slots : Nat) (ls : Array Slot), SX K s G H locs a b → lv_has ls 4 [(3, .int i), (2, .ref b), (1, .ref a), (0, .ref b0)] → BD K H a cells slots → W p l e room_1 s m #[Value.ref b0] below meth c H locs cells slots (lw_Z below #[Value.ref b0] s) (F0 m 1509 ls [])) : W p l e room_1 s m #[Value.ref b0] below meth c H locs cells slots (lw_Z below #[Value.ref b0] s) (F0 m 1447 ls []) := by
  have hI := hi
  obtain ⟨C, hX, hbl, hL⟩ := id D
  obtain ⟨hx, hb, hml, hown, hts, hKT, hr, hlocks, hnm⟩ := id C
  obtain ⟨hT, hN, ga, gb, cg, tu, wd, im, ⟨rt, r1, r4, r5, r10, r13, r16⟩, hk, hS⟩ := S
  obtain ⟨hc, hs, hB0⟩ := hB
  have n_0 : (0 : Int32).toInt = 0 := rfl
  have n_1 : (1 : Int32).toInt = 1 := rfl
  obtain ⟨w, ew⟩ : ∃ z : Nat, z = fR H a (K.1.2 9 0) := ⟨_, rfl⟩
  have gw := ty_fr (q := w) (k := 0) (u := 0) ew hT ga rg_68 rfl
  rw [← ew] at r1 r4 r5 r10 r13 r16
  obtain ⟨ta, eta⟩ : ∃ z : Int32, z = fI H a (K.1.2 9 3) := ⟨_, rfl⟩
  rw [← eta] at rt
  obtain ⟨tb, etb⟩ : ∃ z : Int32, z = fI H b (K.1.2 10 18) := ⟨_, rfl⟩
  rw [← etb] at rt
  obtain ⟨s1, es1⟩ : ∃ z : Int32, z = fI H w (K.1.2 8 1) := ⟨_, rfl⟩
  rw [← es1] at r1
  obtain ⟨y1, ey1⟩ : ∃ z : Int32, z = fI H b (K.1.2 10 1) := ⟨_, rfl⟩
  rw [← ey1] at r1
  obtain ⟨s4, es4⟩ : ∃ z : Int32, z = fI H w (K.1.2 8 4) := ⟨_, rfl⟩
  rw [← es4] at r4
  obtain ⟨y4, ey4⟩ : ∃ z : Int32, z = fI H b (K.1.2 10 2) := ⟨_, rfl⟩
  rw [← ey4] at r4
  obtain ⟨s5, es5⟩ : ∃ z : Int32, z = fI H w (K.1.2 8 5) := ⟨_, rfl⟩
  rw [← es5] at r5
  obtain ⟨y5, ey5⟩ : ∃ z : Int32, z = fI H b (K.1.2 10 3) := ⟨_, rfl⟩
  rw [← ey5] at r5
  obtain ⟨s10, es10⟩ : ∃ z : Int32, z = fI H w (K.1.2 8 10) := ⟨_, rfl⟩
  rw [← es10] at r10
  obtain ⟨y10, ey10⟩ : ∃ z : Int32, z = fI H b (K.1.2 10 59) := ⟨_, rfl⟩
  rw [← ey10] at r10
  obtain ⟨s13, es13⟩ : ∃ z : Int32, z = fI H w (K.1.2 8 13) := ⟨_, rfl⟩
  rw [← es13] at r13
  obtain ⟨y13, ey13⟩ : ∃ z : Int32, z = fI H b (K.1.2 10 62) := ⟨_, rfl⟩
  rw [← ey13] at r13
  obtain ⟨s16, es16⟩ : ∃ z : Int32, z = fI H w (K.1.2 8 16) := ⟨_, rfl⟩
  rw [← es16] at r16
  obtain ⟨y16, ey16⟩ : ∃ z : Int32, z = fI H b (K.1.2 10 65) := ⟨_, rfl⟩
  rw [← ey16] at r16
  rcases hk with ⟨kn, h70⟩ | ⟨kq, kn, gkq, h70, q1, q4, q5, q10, q13, q16⟩
  · skip
    obtain ⟨hi, ehi⟩ : ∃ z : Int32, z = fI H b (K.1.2 10 70) := ⟨_, rfl⟩
    rw [← ehi] at h70
    obtain ⟨hc0, hs0⟩ := hB0 kn
    refine lv_aload_n hx hb dL_law_1447 rfl (lv_at hl 2 rfl) ?_
    refine lv_aload_n hx hb dL_law_1448 rfl (lv_at hl 3 rfl) ?_
    refine lv_iload_n hx hb dL_law_1449 rfl (lv_at hl 0 rfl) ?_
    refine lv_iconst (v := 1) hx hb dL_law_1450 (by decide) ?_
    refine lv_iadd hx hb dL_law_1451 ?_
    refine lv_topi (fun x101 ex101 => ?_)
    obtain ⟨tx101, ejx101, evx101⟩ := lw_ix (k := 1) ex101 hI hL rfl (by decide)
    clear tx101
    refine va_sld hx hb hX hbl (Nat.not_le.mpr hbl) hS (vp_in_iff.mpr evx101) dL_law_1452 ?_
    refine W.eq (g2 := F0 m 1453 ls [.int (xs (i.toNatClampNeg + 1)), .ref a]) (congrArg (fun z => F0 m 1453 ls [.int (xs z), .ref a]) ejx101) ?_
    refine lv_if_eq (tgt := 1460) hx hb dL_law_1453 (by decide) (fun c1453 => ?_) (fun c1453 => ?_)
    · skip
      refine lv_iconst (v := 0) hx hb dL_law_1460 (by decide) ?_
      refine x_V (As := [.int 0]) (rest := []) C (a_X9_image_r0n l K G H (s1) (s4) (s5) (s10) (s13) (s16) (ta)  hT ga gw ew es1 es4 es5 es10 es13 es16 eta kn ) yo_X9_image wM_L_153 ⟨⟨by decide, by decide⟩, show _ ≤ 284929 from Nat.le_trans hc (by decide), show _ ≤ 8247460 from Nat.le_trans hs (by decide)⟩ (x_rv C hT (ci := 9) rfl ga rg_68) rfl hl.1 rfl (Nat.le_of_ble_eq_true rfl) dL_law_1461 hS (AE_new hN hS.1) (fun vH102 H102 locsH102 pH102 zH102 kH102 hSH102 => ?_)
      obtain ⟨x103, hvH102, bx103, G104, mH102, m105, m106, m107, m108, m109, m110, m111, m112, m119, hTH102⟩ := pH102
      subst hvH102
      have g122 : CG (avw K H102 b) := CG.congr (fun k hk j => av_eff hT kH102 gb (by decide) (CG_eff [68, 34, 35, 36, 37, 38, 39, 40, 41, 42, 43, 44, 46, 48, 49, 50, 51, 52, 53, 54, 55, 56, 57, 58, 62, 63, 64, 65, 66, 67, 0, 1, 2, 3, 4, 5, 6, 7, 8, 9, 10, 12, 14, 15, 16, 17, 18, 19, 20, 21, 22, 23, 24, 28, 29, 30, 31, 32, 33] (by decide) k hk)) cg
      have g123 : TU (avw K H102 b) (svw K H102 b) := TU.congr (fun k hk j => av_eff hT kH102 gb (by decide) (TU_eff [68, 34, 35, 36, 37, 38, 39, 40, 41, 42, 43, 44, 46, 48, 49, 50, 51, 52, 53, 54, 55, 56, 57, 58, 62, 63, 64, 65, 66, 67, 0, 1, 2, 3, 4, 5, 6, 7, 8, 9, 10, 12, 14, 15, 16, 17, 18, 19, 20, 21, 22, 23, 24, 28, 29, 30, 31, 32, 33] (by decide) k hk)) (fun k hk => sv_eff hT kH102 gb (by decide)) tu
      have g124 : WD (avw K H102 b) := WD.congr (fun k hk j => av_eff hT kH102 gb (by decide) (WD_eff [68, 34, 35, 36, 37, 38, 39, 40, 41, 42, 43, 44, 46, 48, 49, 50, 51, 52, 53, 54, 55, 56, 57, 58, 62, 63, 64, 65, 66, 67, 0, 1, 2, 3, 4, 5, 6, 7, 8, 9, 10, 12, 14, 15, 16, 17, 18, 19, 20, 21, 22, 23, 24, 28, 29, 30, 31, 32, 33] (by decide) k hk)) wd
      have g125 : IM (avw K H102 b) := IM.congr (fun k hk j => av_eff hT kH102 gb (by decide) (IM_eff [68, 34, 35, 36, 37, 38, 39, 40, 41, 42, 43, 44, 46, 48, 49, 50, 51, 52, 53, 54, 55, 56, 57, 58, 62, 63, 64, 65, 66, 67, 0, 1, 2, 3, 4, 5, 6, 7, 8, 9, 10, 12, 14, 15, 16, 17, 18, 19, 20, 21, 22, 23, 24, 28, 29, 30, 31, 32, 33] (by decide) k hk)) im
      have m126 := (etb).trans (fI_kept (x_lt hT kH102 gb (by decide))).symm
      have m127 := (ey1).trans (fI_kept (x_lt hT kH102 gb (by decide))).symm
      have m128 := (ey4).trans (fI_kept (x_lt hT kH102 gb (by decide))).symm
      have m129 := (ey5).trans (fI_kept (x_lt hT kH102 gb (by decide))).symm
      have m130 := (ey10).trans (fI_kept (x_lt hT kH102 gb (by decide))).symm
      have m131 := (ey13).trans (fI_kept (x_lt hT kH102 gb (by decide))).symm
      have m132 := (ey16).trans (fI_kept (x_lt hT kH102 gb (by decide))).symm
      have m133 := (ehi).trans (fI_kept (x_lt hT kH102 gb (by decide))).symm
      have gaH102 := (mH102 a (hT.lt ga)).trans ga
      have gbH102 := (mH102 b (hT.lt gb)).trans gb
      have gwH102 := (mH102 w (hT.lt gw)).trans gw
      have hNH102 : ∀ q, q < s.heap.size → G104 q = none := fun q hq => (mH102 q (Nat.lt_of_lt_of_le hq hS.1)).trans (hN q hq)
      refine W.eq (g2 := F0 m 1464 ls [.int x103]) rfl ?_
      refine lv_pop hx hb dL_law_1464 rfl ?_
      refine lv_aload_n hx hb dL_law_1465 rfl (lv_at hl 1 rfl) ?_
      refine lv_aload_n hx hb dL_law_1466 rfl (lv_at hl 3 rfl) ?_
      refine lv_iload_n hx hb dL_law_1467 rfl (lv_at hl 0 rfl) ?_
      refine lv_iconst (v := 1) hx hb dL_law_1468 (by decide) ?_
      refine lv_iadd hx hb dL_law_1469 ?_
      refine lv_topi (fun x134 ex134 => ?_)
      obtain ⟨tx134, ejx134, evx134⟩ := lw_ix (k := 1) ex134 hI hL rfl (by decide)
      clear tx134
      refine va_sld hx hb hX hbl (Nat.not_le.mpr hbl) hSH102 (vp_in_iff.mpr evx134) dL_law_1470 ?_
      refine W.eq (g2 := F0 m 1471 ls [.int (xs (i.toNatClampNeg + 1)), .ref b]) (congrArg (fun z => F0 m 1471 ls [.int (xs z), .ref b]) ejx134) ?_
      refine lv_if_eq (tgt := 1478) hx hb dL_law_1471 (by decide) (fun c1471 => ?_) (fun c1471 => ?_)
      · skip
        refine lv_iconst (v := 0) hx hb dL_law_1478 (by decide) ?_
        obtain ⟨q135, eq135⟩ : ∃ z : Nat, z = fR H102 b (K.1.2 10 73) := ⟨_, rfl⟩
        have gq135 := ty_fr (q := q135) (k := 73) (u := 162) eq135 hTH102 gbH102 rg_112 rfl
        obtain ⟨q136, eq136⟩ : ∃ z : Nat, z = fR H102 b (K.1.2 10 4) := ⟨_, rfl⟩
        have gq136 := ty_fr (q := q136) (k := 4) (u := 113) eq136 hTH102 gbH102 rg_112 rfl
        obtain ⟨q137, eq137⟩ : ∃ z : Nat, z = fR H102 b (K.1.2 10 10) := ⟨_, rfl⟩
        have gq137 := ty_fr (q := q137) (k := 10) (u := 119) eq137 hTH102 gbH102 rg_112 rfl
        obtain ⟨q138, eq138⟩ : ∃ z : Nat, z = fR H102 b (K.1.2 10 16) := ⟨_, rfl⟩
        have gq138 := ty_fr (q := q138) (k := 16) (u := 125) eq138 hTH102 gbH102 rg_112 rfl
        obtain ⟨q139, eq139⟩ : ∃ z : Nat, z = fR H102 b (K.1.2 10 24) := ⟨_, rfl⟩
        have gq139 := ty_fr (q := q139) (k := 24) (u := 128) eq139 hTH102 gbH102 rg_112 rfl
        obtain ⟨q140, eq140⟩ : ∃ z : Nat, z = fR H102 b (K.1.2 10 27) := ⟨_, rfl⟩
        have gq140 := ty_fr (q := q140) (k := 27) (u := 131) eq140 hTH102 gbH102 rg_112 rfl
        obtain ⟨q141, eq141⟩ : ∃ z : Nat, z = fR H102 b (K.1.2 10 29) := ⟨_, rfl⟩
        have gq141 := ty_fr (q := q141) (k := 29) (u := 133) eq141 hTH102 gbH102 rg_112 rfl
        obtain ⟨q142, eq142⟩ : ∃ z : Nat, z = fR H102 b (K.1.2 10 30) := ⟨_, rfl⟩
        have gq142 := ty_fr (q := q142) (k := 30) (u := 134) eq142 hTH102 gbH102 rg_112 rfl
        obtain ⟨q143, eq143⟩ : ∃ z : Nat, z = fR H102 b (K.1.2 10 31) := ⟨_, rfl⟩
        have gq143 := ty_fr (q := q143) (k := 31) (u := 135) eq143 hTH102 gbH102 rg_112 rfl
        obtain ⟨q144, eq144⟩ : ∃ z : Nat, z = fR H102 b (K.1.2 10 32) := ⟨_, rfl⟩
        have gq144 := ty_fr (q := q144) (k := 32) (u := 136) eq144 hTH102 gbH102 rg_112 rfl
        obtain ⟨q145, eq145⟩ : ∃ z : Nat, z = fR H102 b (K.1.2 10 33) := ⟨_, rfl⟩
        have gq145 := ty_fr (q := q145) (k := 33) (u := 137) eq145 hTH102 gbH102 rg_112 rfl
        obtain ⟨q146, eq146⟩ : ∃ z : Nat, z = fR H102 b (K.1.2 10 50) := ⟨_, rfl⟩
        have gq146 := ty_fr (q := q146) (k := 50) (u := 146) eq146 hTH102 gbH102 rg_112 rfl
        refine x_V (As := [.int 0]) (rest := []) C (a_X10_image l K G104 H102 (0) (hi) (y1) (y4) (y5) (y10) (y13) (y16) hTH102 gbH102 (by decide) gq135 eq135 gq136 eq136 gq137 eq137 gq138 eq138 gq139 eq139 gq140 eq140 gq141 eq141 gq142 eq142 gq143 eq143 gq144 eq144 gq145 eq145 gq146 eq146 m133 m127 m128 m129 m130 m131 m132 g122 g123 g124 g125) yo_X10_image wM_L_157 ⟨⟨by decide, by decide⟩, show _ ≤ 284929 from Nat.le_trans hc (by decide), show _ ≤ 8247460 from Nat.le_trans hs (by decide)⟩ (x_rv C hTH102 (ci := 10) rfl gbH102 rg_112) rfl hl.1 rfl (Nat.le_of_ble_eq_true rfl) dL_law_1479 hSH102 (AE_new hNH102 hSH102.1) (fun vH147 H147 locsH147 pH147 zH147 kH147 hSH147 => ?_)
        obtain ⟨x148, x149, x150, x151, x152, x153, x154, x155, hvH147, bx148, ex149, ex150, ex151, ex152, ex153, ex154, ex155, hrH147, m156, m157, m158, m159, m160, m161, m162, m163, m164, m165, m166, m167, g168, g169, g170, g171, mf172, m173, m174, m175, hTH147⟩ := pH147
        subst hvH147
        have m176 := (m105).trans (fR_kept (x_lt hTH102 kH147 gaH102 (by decide))).symm
        have m177 := (m106).trans (fI_kept (x_lt hTH102 kH147 gaH102 (by decide))).symm
        have m178 := (m107).trans (fI_kept (x_lt hTH102 kH147 gwH102 (by decide))).symm
        have m179 := (m108).trans (fI_kept (x_lt hTH102 kH147 gwH102 (by decide))).symm
        have m180 := (m109).trans (fI_kept (x_lt hTH102 kH147 gwH102 (by decide))).symm
        have m181 := (m110).trans (fI_kept (x_lt hTH102 kH147 gwH102 (by decide))).symm
        have m182 := (m111).trans (fI_kept (x_lt hTH102 kH147 gwH102 (by decide))).symm
        have m183 := (m112).trans (fI_kept (x_lt hTH102 kH147 gwH102 (by decide))).symm
        have m184 := (fV_kept (x_lt hTH102 kH147 gaH102 (by decide))).trans m119
        have m185 := (m126).trans (MF.i mf172 (k := 18) (by decide) (by decide)).symm
        have m186 := (eq135).trans (MF.r mf172 (k := 73) (by decide) (by decide)).symm
        have m187 := (eq136).trans (MF.r mf172 (k := 4) (by decide) (by decide)).symm
        have m188 := (eq137).trans (MF.r mf172 (k := 10) (by decide) (by decide)).symm
        have m189 := (eq138).trans (MF.r mf172 (k := 16) (by decide) (by decide)).symm
        have m190 := (eq139).trans (MF.r mf172 (k := 24) (by decide) (by decide)).symm
        have m191 := (eq140).trans (MF.r mf172 (k := 27) (by decide) (by decide)).symm
        have m192 := (eq141).trans (MF.r mf172 (k := 29) (by decide) (by decide)).symm
        have m193 := (eq142).trans (MF.r mf172 (k := 30) (by decide) (by decide)).symm
        have m194 := (eq143).trans (MF.r mf172 (k := 31) (by decide) (by decide)).symm
        have m195 := (eq144).trans (MF.r mf172 (k := 32) (by decide) (by decide)).symm
        have m196 := (eq145).trans (MF.r mf172 (k := 33) (by decide) (by decide)).symm
        have m197 := (eq146).trans (MF.r mf172 (k := 50) (by decide) (by decide)).symm
        have bx149 := ty_fi (x := x149) (k := 70) ex149 hTH147 gbH102 rg_112 rfl
        have bx150 := ty_fi (x := x150) (k := 1) ex150 hTH147 gbH102 rg_112 rfl
        have bx151 := ty_fi (x := x151) (k := 2) ex151 hTH147 gbH102 rg_112 rfl
        have bx152 := ty_fi (x := x152) (k := 3) ex152 hTH147 gbH102 rg_112 rfl
        have bx153 := ty_fi (x := x153) (k := 59) ex153 hTH147 gbH102 rg_112 rfl
        have bx154 := ty_fi (x := x154) (k := 62) ex154 hTH147 gbH102 rg_112 rfl
        have bx155 := ty_fi (x := x155) (k := 65) ex155 hTH147 gbH102 rg_112 rfl
        refine W.eq (g2 := F0 m 1482 ls [.int x148]) rfl ?_
        refine lv_pop hx hb dL_law_1482 rfl ?_
        refine lv_goto (tgt := 1509) hx hb dL_law_1483 (by decide) ?_
        exact nx G104 H147 locsH147 _ _ ls ⟨hTH147, hNH102, gaH102, gbH102, g168, g169, g170, g171, ⟨(by rw [← m177, ← m185]; exact rt), (by rw [← m176, ← m178, ← ex150]; omega), (by rw [← m176, ← m179, ← ex151]; omega), (by rw [← m176, ← m180, ← ex152]; omega), (by rw [← m176, ← m181, ← ex153]; omega), (by rw [← m176, ← m182, ← ex154]; omega), (by rw [← m176, ← m183, ← ex155]; omega)⟩, Or.inl ⟨m184, (by rw [← ex149]; omega)⟩, hSH147⟩ hl ⟨hc, hs, fun _ => ⟨hc0, hs0⟩⟩
      · skip
        exact absurd c1453 c1471
    · skip
      refine lv_iconst (v := 1) hx hb dL_law_1456 (by decide) ?_
      refine lv_goto (tgt := 1461) hx hb dL_law_1457 (by decide) ?_
      refine x_V (As := [.int 1]) (rest := []) C (a_X9_image_r1n l K G H (s1) (s4) (s5) (s10) (s13) (s16) (ta)  hT ga gw ew es1 es4 es5 es10 es13 es16 eta kn ) yo_X9_image wM_L_153 ⟨⟨by decide, by decide⟩, show _ ≤ 284929 from Nat.le_trans (Nat.add_le_add_right hc0 434) (by decide), show _ ≤ 8247460 from Nat.le_trans (Nat.add_le_add_right hs0 13027) (by decide)⟩ (x_rv C hT (ci := 9) rfl ga rg_68) rfl hl.1 rfl (Nat.le_of_ble_eq_true rfl) dL_law_1461 hS (AE_new hN hS.1) (fun vH198 H198 locsH198 pH198 zH198 kH198 hSH198 => ?_)
      obtain ⟨x199, hvH198, bx199, G200, mH198, m201, m202, hTH198, m203, m204, m205, m206, m207, m208, q216, m215, gq216, m209, m210, m211, m212, m213, m214⟩ := pH198
      subst hvH198
      have g218 : CG (avw K H198 b) := CG.congr (fun k hk j => av_eff hT kH198 gb (by decide) (CG_eff [68, 34, 35, 36, 37, 38, 39, 40, 41, 42, 43, 44, 46, 48, 49, 50, 51, 52, 53, 54, 55, 56, 57, 58, 62, 63, 64, 65, 66, 67, 0, 1, 2, 3, 4, 5, 6, 7, 8, 9, 10, 12, 14, 15, 16, 17, 18, 19, 20, 21, 22, 23, 24, 28, 29, 30, 31, 32, 33] (by decide) k hk)) cg
      have g219 : TU (avw K H198 b) (svw K H198 b) := TU.congr (fun k hk j => av_eff hT kH198 gb (by decide) (TU_eff [68, 34, 35, 36, 37, 38, 39, 40, 41, 42, 43, 44, 46, 48, 49, 50, 51, 52, 53, 54, 55, 56, 57, 58, 62, 63, 64, 65, 66, 67, 0, 1, 2, 3, 4, 5, 6, 7, 8, 9, 10, 12, 14, 15, 16, 17, 18, 19, 20, 21, 22, 23, 24, 28, 29, 30, 31, 32, 33] (by decide) k hk)) (fun k hk => sv_eff hT kH198 gb (by decide)) tu
      have g220 : WD (avw K H198 b) := WD.congr (fun k hk j => av_eff hT kH198 gb (by decide) (WD_eff [68, 34, 35, 36, 37, 38, 39, 40, 41, 42, 43, 44, 46, 48, 49, 50, 51, 52, 53, 54, 55, 56, 57, 58, 62, 63, 64, 65, 66, 67, 0, 1, 2, 3, 4, 5, 6, 7, 8, 9, 10, 12, 14, 15, 16, 17, 18, 19, 20, 21, 22, 23, 24, 28, 29, 30, 31, 32, 33] (by decide) k hk)) wd
      have g221 : IM (avw K H198 b) := IM.congr (fun k hk j => av_eff hT kH198 gb (by decide) (IM_eff [68, 34, 35, 36, 37, 38, 39, 40, 41, 42, 43, 44, 46, 48, 49, 50, 51, 52, 53, 54, 55, 56, 57, 58, 62, 63, 64, 65, 66, 67, 0, 1, 2, 3, 4, 5, 6, 7, 8, 9, 10, 12, 14, 15, 16, 17, 18, 19, 20, 21, 22, 23, 24, 28, 29, 30, 31, 32, 33] (by decide) k hk)) im
      have m222 := (etb).trans (fI_kept (x_lt hT kH198 gb (by decide))).symm
      have m223 := (ey1).trans (fI_kept (x_lt hT kH198 gb (by decide))).symm
      have m224 := (ey4).trans (fI_kept (x_lt hT kH198 gb (by decide))).symm
      have m225 := (ey5).trans (fI_kept (x_lt hT kH198 gb (by decide))).symm
      have m226 := (ey10).trans (fI_kept (x_lt hT kH198 gb (by decide))).symm
      have m227 := (ey13).trans (fI_kept (x_lt hT kH198 gb (by decide))).symm
      have m228 := (ey16).trans (fI_kept (x_lt hT kH198 gb (by decide))).symm
      have m229 := (ehi).trans (fI_kept (x_lt hT kH198 gb (by decide))).symm
      have gaH198 := (mH198 a (hT.lt ga)).trans ga
      have gbH198 := (mH198 b (hT.lt gb)).trans gb
      have gwH198 := (mH198 w (hT.lt gw)).trans gw
      have hNH198 : ∀ q, q < s.heap.size → G200 q = none := fun q hq => (mH198 q (Nat.lt_of_lt_of_le hq hS.1)).trans (hN q hq)
      obtain ⟨x230, ex230⟩ : ∃ z : Int32, z = fI H198 q216 (K.1.2 8 1) := ⟨_, rfl⟩
      rw [← ex230] at m209
      obtain ⟨x231, ex231⟩ : ∃ z : Int32, z = fI H198 q216 (K.1.2 8 4) := ⟨_, rfl⟩
      rw [← ex231] at m210
      obtain ⟨x232, ex232⟩ : ∃ z : Int32, z = fI H198 q216 (K.1.2 8 5) := ⟨_, rfl⟩
      rw [← ex232] at m211
      obtain ⟨x233, ex233⟩ : ∃ z : Int32, z = fI H198 q216 (K.1.2 8 10) := ⟨_, rfl⟩
      rw [← ex233] at m212
      obtain ⟨x234, ex234⟩ : ∃ z : Int32, z = fI H198 q216 (K.1.2 8 13) := ⟨_, rfl⟩
      rw [← ex234] at m213
      obtain ⟨x235, ex235⟩ : ∃ z : Int32, z = fI H198 q216 (K.1.2 8 16) := ⟨_, rfl⟩
      rw [← ex235] at m214
      refine W.eq (g2 := F0 m 1464 ls [.int x199]) rfl ?_
      refine lv_pop hx hb dL_law_1464 rfl ?_
      refine lv_aload_n hx hb dL_law_1465 rfl (lv_at hl 1 rfl) ?_
      refine lv_aload_n hx hb dL_law_1466 rfl (lv_at hl 3 rfl) ?_
      refine lv_iload_n hx hb dL_law_1467 rfl (lv_at hl 0 rfl) ?_
      refine lv_iconst (v := 1) hx hb dL_law_1468 (by decide) ?_
      refine lv_iadd hx hb dL_law_1469 ?_
      refine lv_topi (fun x236 ex236 => ?_)
      obtain ⟨tx236, ejx236, evx236⟩ := lw_ix (k := 1) ex236 hI hL rfl (by decide)
      clear tx236
      refine va_sld hx hb hX hbl (Nat.not_le.mpr hbl) hSH198 (vp_in_iff.mpr evx236) dL_law_1470 ?_
      refine W.eq (g2 := F0 m 1471 ls [.int (xs (i.toNatClampNeg + 1)), .ref b]) (congrArg (fun z => F0 m 1471 ls [.int (xs z), .ref b]) ejx236) ?_
      refine lv_if_eq (tgt := 1478) hx hb dL_law_1471 (by decide) (fun c1471 => ?_) (fun c1471 => ?_)
      · skip
        exact absurd c1471 c1453
      · skip
        refine lv_iconst (v := 1) hx hb dL_law_1474 (by decide) ?_
        refine lv_goto (tgt := 1479) hx hb dL_law_1475 (by decide) ?_
        obtain ⟨q237, eq237⟩ : ∃ z : Nat, z = fR H198 b (K.1.2 10 73) := ⟨_, rfl⟩
        have gq237 := ty_fr (q := q237) (k := 73) (u := 162) eq237 hTH198 gbH198 rg_112 rfl
        obtain ⟨q238, eq238⟩ : ∃ z : Nat, z = fR H198 b (K.1.2 10 4) := ⟨_, rfl⟩
        have gq238 := ty_fr (q := q238) (k := 4) (u := 113) eq238 hTH198 gbH198 rg_112 rfl
        obtain ⟨q239, eq239⟩ : ∃ z : Nat, z = fR H198 b (K.1.2 10 10) := ⟨_, rfl⟩
        have gq239 := ty_fr (q := q239) (k := 10) (u := 119) eq239 hTH198 gbH198 rg_112 rfl
        obtain ⟨q240, eq240⟩ : ∃ z : Nat, z = fR H198 b (K.1.2 10 16) := ⟨_, rfl⟩
        have gq240 := ty_fr (q := q240) (k := 16) (u := 125) eq240 hTH198 gbH198 rg_112 rfl
        obtain ⟨q241, eq241⟩ : ∃ z : Nat, z = fR H198 b (K.1.2 10 24) := ⟨_, rfl⟩
        have gq241 := ty_fr (q := q241) (k := 24) (u := 128) eq241 hTH198 gbH198 rg_112 rfl
        obtain ⟨q242, eq242⟩ : ∃ z : Nat, z = fR H198 b (K.1.2 10 27) := ⟨_, rfl⟩
        have gq242 := ty_fr (q := q242) (k := 27) (u := 131) eq242 hTH198 gbH198 rg_112 rfl
        obtain ⟨q243, eq243⟩ : ∃ z : Nat, z = fR H198 b (K.1.2 10 29) := ⟨_, rfl⟩
        have gq243 := ty_fr (q := q243) (k := 29) (u := 133) eq243 hTH198 gbH198 rg_112 rfl
        obtain ⟨q244, eq244⟩ : ∃ z : Nat, z = fR H198 b (K.1.2 10 30) := ⟨_, rfl⟩
        have gq244 := ty_fr (q := q244) (k := 30) (u := 134) eq244 hTH198 gbH198 rg_112 rfl
        obtain ⟨q245, eq245⟩ : ∃ z : Nat, z = fR H198 b (K.1.2 10 31) := ⟨_, rfl⟩
        have gq245 := ty_fr (q := q245) (k := 31) (u := 135) eq245 hTH198 gbH198 rg_112 rfl
        obtain ⟨q246, eq246⟩ : ∃ z : Nat, z = fR H198 b (K.1.2 10 32) := ⟨_, rfl⟩
        have gq246 := ty_fr (q := q246) (k := 32) (u := 136) eq246 hTH198 gbH198 rg_112 rfl
        obtain ⟨q247, eq247⟩ : ∃ z : Nat, z = fR H198 b (K.1.2 10 33) := ⟨_, rfl⟩
        have gq247 := ty_fr (q := q247) (k := 33) (u := 137) eq247 hTH198 gbH198 rg_112 rfl
        obtain ⟨q248, eq248⟩ : ∃ z : Nat, z = fR H198 b (K.1.2 10 50) := ⟨_, rfl⟩
        have gq248 := ty_fr (q := q248) (k := 50) (u := 146) eq248 hTH198 gbH198 rg_112 rfl
        refine x_V (As := [.int 1]) (rest := []) C (a_X10_image l K G200 H198 (1) (hi) (y1) (y4) (y5) (y10) (y13) (y16) hTH198 gbH198 (by decide) gq237 eq237 gq238 eq238 gq239 eq239 gq240 eq240 gq241 eq241 gq242 eq242 gq243 eq243 gq244 eq244 gq245 eq245 gq246 eq246 gq247 eq247 gq248 eq248 m229 m223 m224 m225 m226 m227 m228 g218 g219 g220 g221) yo_X10_image wM_L_157 ⟨⟨by decide, by decide⟩, show _ ≤ 284929 from Nat.le_trans (Nat.add_le_add_right hc0 434) (by decide), show _ ≤ 8247460 from Nat.le_trans (Nat.add_le_add_right hs0 13027) (by decide)⟩ (x_rv C hTH198 (ci := 10) rfl gbH198 rg_112) rfl hl.1 rfl (Nat.le_of_ble_eq_true rfl) dL_law_1479 hSH198 (AE_new hNH198 hSH198.1) (fun vH249 H249 locsH249 pH249 zH249 kH249 hSH249 => ?_)
        obtain ⟨x250, x251, x252, x253, x254, x255, x256, x257, hvH249, bx250, ex251, ex252, ex253, ex254, ex255, ex256, ex257, hrH249, m258, m259, m260, m261, m262, m263, m264, m265, m266, m267, m268, m269, g270, g271, g272, g273, mf274, m275, m276, m277, hTH249⟩ := pH249
        subst hvH249
        have m278 := (m201).trans (fR_kept (x_lt hTH198 kH249 gaH198 (by decide))).symm
        have m279 := (m202).trans (fI_kept (x_lt hTH198 kH249 gaH198 (by decide))).symm
        have m280 := (m203).trans (fI_kept (x_lt hTH198 kH249 gwH198 (by decide))).symm
        have m281 := (m204).trans (fI_kept (x_lt hTH198 kH249 gwH198 (by decide))).symm
        have m282 := (m205).trans (fI_kept (x_lt hTH198 kH249 gwH198 (by decide))).symm
        have m283 := (m206).trans (fI_kept (x_lt hTH198 kH249 gwH198 (by decide))).symm
        have m284 := (m207).trans (fI_kept (x_lt hTH198 kH249 gwH198 (by decide))).symm
        have m285 := (m208).trans (fI_kept (x_lt hTH198 kH249 gwH198 (by decide))).symm
        have m286 := (ex230).trans (fI_kept (x_lt hTH198 kH249 gq216 (by decide))).symm
        have m287 := (ex231).trans (fI_kept (x_lt hTH198 kH249 gq216 (by decide))).symm
        have m288 := (ex232).trans (fI_kept (x_lt hTH198 kH249 gq216 (by decide))).symm
        have m289 := (ex233).trans (fI_kept (x_lt hTH198 kH249 gq216 (by decide))).symm
        have m290 := (ex234).trans (fI_kept (x_lt hTH198 kH249 gq216 (by decide))).symm
        have m291 := (ex235).trans (fI_kept (x_lt hTH198 kH249 gq216 (by decide))).symm
        have m292 := (fV_kept (x_lt hTH198 kH249 gaH198 (by decide))).trans m215
        have m293 := (m222).trans (MF.i mf274 (k := 18) (by decide) (by decide)).symm
        have m294 := (eq237).trans (MF.r mf274 (k := 73) (by decide) (by decide)).symm
        have m295 := (eq238).trans (MF.r mf274 (k := 4) (by decide) (by decide)).symm
        have m296 := (eq239).trans (MF.r mf274 (k := 10) (by decide) (by decide)).symm
        have m297 := (eq240).trans (MF.r mf274 (k := 16) (by decide) (by decide)).symm
        have m298 := (eq241).trans (MF.r mf274 (k := 24) (by decide) (by decide)).symm
        have m299 := (eq242).trans (MF.r mf274 (k := 27) (by decide) (by decide)).symm
        have m300 := (eq243).trans (MF.r mf274 (k := 29) (by decide) (by decide)).symm
        have m301 := (eq244).trans (MF.r mf274 (k := 30) (by decide) (by decide)).symm
        have m302 := (eq245).trans (MF.r mf274 (k := 31) (by decide) (by decide)).symm
        have m303 := (eq246).trans (MF.r mf274 (k := 32) (by decide) (by decide)).symm
        have m304 := (eq247).trans (MF.r mf274 (k := 33) (by decide) (by decide)).symm
        have m305 := (eq248).trans (MF.r mf274 (k := 50) (by decide) (by decide)).symm
        have bx251 := ty_fi (x := x251) (k := 70) ex251 hTH249 gbH198 rg_112 rfl
        have bx252 := ty_fi (x := x252) (k := 1) ex252 hTH249 gbH198 rg_112 rfl
        have bx253 := ty_fi (x := x253) (k := 2) ex253 hTH249 gbH198 rg_112 rfl
        have bx254 := ty_fi (x := x254) (k := 3) ex254 hTH249 gbH198 rg_112 rfl
        have bx255 := ty_fi (x := x255) (k := 59) ex255 hTH249 gbH198 rg_112 rfl
        have bx256 := ty_fi (x := x256) (k := 62) ex256 hTH249 gbH198 rg_112 rfl
        have bx257 := ty_fi (x := x257) (k := 65) ex257 hTH249 gbH198 rg_112 rfl
        refine W.eq (g2 := F0 m 1482 ls [.int x250]) rfl ?_
        obtain ⟨j306, j307, j308, j309, j310, j311⟩ := m275.resolve_left (by omega)
        obtain ⟨j312, j313, j314, j315, j316, j317⟩ := m276 (by decide)
        replace j312 := congrArg Int32.toInt j312
        replace j313 := congrArg Int32.toInt j313
        replace j314 := congrArg Int32.toInt j314
        replace j315 := congrArg Int32.toInt j315
        replace j316 := congrArg Int32.toInt j316
        replace j317 := congrArg Int32.toInt j317
        have ij306 : x252 = fI H249 q237 ((0 : Int32).toNatClampNeg) := j306
        have ij307 : x253 = fI H249 q237 ((1 : Int32).toNatClampNeg) := j307
        have ij308 : x254 = fI H249 q237 ((2 : Int32).toNatClampNeg) := j308
        have ij309 : x255 = fI H249 q237 ((3 : Int32).toNatClampNeg) := j309
        have ij310 : x256 = fI H249 q237 ((4 : Int32).toNatClampNeg) := j310
        have ij311 : x257 = fI H249 q237 ((5 : Int32).toNatClampNeg) := j311
        refine lv_pop hx hb dL_law_1482 rfl ?_
        refine lv_goto (tgt := 1509) hx hb dL_law_1483 (by decide) ?_
        exact nx G200 H249 locsH249 _ _ ls ⟨hTH249, hNH198, gaH198, gbH198, g270, g271, g272, g273, ⟨(by rw [← m279, ← m293]; exact rt), (by rw [← m278, ← m280, ← ex252]; omega), (by rw [← m278, ← m281, ← ex253]; omega), (by rw [← m278, ← m282, ← ex254]; omega), (by rw [← m278, ← m283, ← ex255]; omega), (by rw [← m278, ← m284, ← ex256]; omega), (by rw [← m278, ← m285, ← ex257]; omega)⟩, Or.inr ⟨q216, m292, gq216, (by rw [← ex251]; omega), (by rw [← m286, ← m258, ← ij306]; omega), (by rw [← m287, ← m258, ← ij307]; omega), (by rw [← m288, ← m258, ← ij308]; omega), (by rw [← m289, ← m258, ← ij309]; omega), (by rw [← m290, ← m258, ← ij310]; omega), (by rw [← m291, ← m258, ← ij311]; omega)⟩, hSH249⟩ hl ⟨Nat.add_le_add_right hc0 434, Nat.add_le_add_right hs0 13027, fun h => by have h1 := h.symm.trans m292; cases h1⟩
  · skip
    obtain ⟨hi, ehi⟩ : ∃ z : Int32, z = fI H b (K.1.2 10 70) := ⟨_, rfl⟩
    rw [← ehi] at h70
    obtain ⟨iq, eiq⟩ : ∃ z : Nat, z = fR H b (K.1.2 10 73) := ⟨_, rfl⟩
    have giq := ty_fr (q := iq) (k := 73) (u := 162) eiq hT gb rg_112 rfl
    rw [← eiq] at q1 q4 q5 q10 q13 q16
    obtain ⟨k1, ek1⟩ : ∃ z : Int32, z = fI H kq (K.1.2 8 1) := ⟨_, rfl⟩
    rw [← ek1] at q1
    obtain ⟨i1, ei1⟩ : ∃ z : Int32, z = fI H iq ((0 : Int32).toNatClampNeg) := ⟨_, rfl⟩
    rw [← ei1] at q1
    obtain ⟨k4, ek4⟩ : ∃ z : Int32, z = fI H kq (K.1.2 8 4) := ⟨_, rfl⟩
    rw [← ek4] at q4
    obtain ⟨i4, ei4⟩ : ∃ z : Int32, z = fI H iq ((1 : Int32).toNatClampNeg) := ⟨_, rfl⟩
    rw [← ei4] at q4
    obtain ⟨k5, ek5⟩ : ∃ z : Int32, z = fI H kq (K.1.2 8 5) := ⟨_, rfl⟩
    rw [← ek5] at q5
    obtain ⟨i5, ei5⟩ : ∃ z : Int32, z = fI H iq ((2 : Int32).toNatClampNeg) := ⟨_, rfl⟩
    rw [← ei5] at q5
    obtain ⟨k10, ek10⟩ : ∃ z : Int32, z = fI H kq (K.1.2 8 10) := ⟨_, rfl⟩
    rw [← ek10] at q10
    obtain ⟨i10, ei10⟩ : ∃ z : Int32, z = fI H iq ((3 : Int32).toNatClampNeg) := ⟨_, rfl⟩
    rw [← ei10] at q10
    obtain ⟨k13, ek13⟩ : ∃ z : Int32, z = fI H kq (K.1.2 8 13) := ⟨_, rfl⟩
    rw [← ek13] at q13
    obtain ⟨i13, ei13⟩ : ∃ z : Int32, z = fI H iq ((4 : Int32).toNatClampNeg) := ⟨_, rfl⟩
    rw [← ei13] at q13
    obtain ⟨k16, ek16⟩ : ∃ z : Int32, z = fI H kq (K.1.2 8 16) := ⟨_, rfl⟩
    rw [← ek16] at q16
    obtain ⟨i16, ei16⟩ : ∃ z : Int32, z = fI H iq ((5 : Int32).toNatClampNeg) := ⟨_, rfl⟩
    rw [← ei16] at q16
    refine lv_aload_n hx hb dL_law_1447 rfl (lv_at hl 2 rfl) ?_
    refine lv_aload_n hx hb dL_law_1448 rfl (lv_at hl 3 rfl) ?_
    refine lv_iload_n hx hb dL_law_1449 rfl (lv_at hl 0 rfl) ?_
    refine lv_iconst (v := 1) hx hb dL_law_1450 (by decide) ?_
    refine lv_iadd hx hb dL_law_1451 ?_
    refine lv_topi (fun x318 ex318 => ?_)
    obtain ⟨tx318, ejx318, evx318⟩ := lw_ix (k := 1) ex318 hI hL rfl (by decide)
    clear tx318
    refine va_sld hx hb hX hbl (Nat.not_le.mpr hbl) hS (vp_in_iff.mpr evx318) dL_law_1452 ?_
    refine W.eq (g2 := F0 m 1453 ls [.int (xs (i.toNatClampNeg + 1)), .ref a]) (congrArg (fun z => F0 m 1453 ls [.int (xs z), .ref a]) ejx318) ?_
    refine lv_if_eq (tgt := 1460) hx hb dL_law_1453 (by decide) (fun c1453 => ?_) (fun c1453 => ?_)
    · skip
      refine lv_iconst (v := 0) hx hb dL_law_1460 (by decide) ?_
      refine x_V (As := [.int 0]) (rest := []) C (a_X9_image_r0v l K G H (s1) (s4) (s5) (s10) (s13) (s16) (ta) (k1) (k4) (k5) (k10) (k13) (k16) hT ga gw ew es1 es4 es5 es10 es13 es16 eta kn gkq ek1 ek4 ek5 ek10 ek13 ek16) yo_X9_image wM_L_153 ⟨⟨by decide, by decide⟩, show _ ≤ 284929 from Nat.le_trans hc (by decide), show _ ≤ 8247460 from Nat.le_trans hs (by decide)⟩ (x_rv C hT (ci := 9) rfl ga rg_68) rfl hl.1 rfl (Nat.le_of_ble_eq_true rfl) dL_law_1461 hS (AE_new hN hS.1) (fun vH319 H319 locsH319 pH319 zH319 kH319 hSH319 => ?_)
      obtain ⟨x320, hvH319, bx320, G321, mH319, m322, m323, m324, m325, m326, m327, m328, m329, m336, m330, m331, m332, m333, m334, m335, hTH319⟩ := pH319
      subst hvH319
      have g339 : CG (avw K H319 b) := CG.congr (fun k hk j => av_eff hT kH319 gb (by decide) (CG_eff [68, 34, 35, 36, 37, 38, 39, 40, 41, 42, 43, 44, 46, 48, 49, 50, 51, 52, 53, 54, 55, 56, 57, 58, 62, 63, 64, 65, 66, 67, 0, 1, 2, 3, 4, 5, 6, 7, 8, 9, 10, 12, 14, 15, 16, 17, 18, 19, 20, 21, 22, 23, 24, 28, 29, 30, 31, 32, 33] (by decide) k hk)) cg
      have g340 : TU (avw K H319 b) (svw K H319 b) := TU.congr (fun k hk j => av_eff hT kH319 gb (by decide) (TU_eff [68, 34, 35, 36, 37, 38, 39, 40, 41, 42, 43, 44, 46, 48, 49, 50, 51, 52, 53, 54, 55, 56, 57, 58, 62, 63, 64, 65, 66, 67, 0, 1, 2, 3, 4, 5, 6, 7, 8, 9, 10, 12, 14, 15, 16, 17, 18, 19, 20, 21, 22, 23, 24, 28, 29, 30, 31, 32, 33] (by decide) k hk)) (fun k hk => sv_eff hT kH319 gb (by decide)) tu
      have g341 : WD (avw K H319 b) := WD.congr (fun k hk j => av_eff hT kH319 gb (by decide) (WD_eff [68, 34, 35, 36, 37, 38, 39, 40, 41, 42, 43, 44, 46, 48, 49, 50, 51, 52, 53, 54, 55, 56, 57, 58, 62, 63, 64, 65, 66, 67, 0, 1, 2, 3, 4, 5, 6, 7, 8, 9, 10, 12, 14, 15, 16, 17, 18, 19, 20, 21, 22, 23, 24, 28, 29, 30, 31, 32, 33] (by decide) k hk)) wd
      have g342 : IM (avw K H319 b) := IM.congr (fun k hk j => av_eff hT kH319 gb (by decide) (IM_eff [68, 34, 35, 36, 37, 38, 39, 40, 41, 42, 43, 44, 46, 48, 49, 50, 51, 52, 53, 54, 55, 56, 57, 58, 62, 63, 64, 65, 66, 67, 0, 1, 2, 3, 4, 5, 6, 7, 8, 9, 10, 12, 14, 15, 16, 17, 18, 19, 20, 21, 22, 23, 24, 28, 29, 30, 31, 32, 33] (by decide) k hk)) im
      have m343 := (etb).trans (fI_kept (x_lt hT kH319 gb (by decide))).symm
      have m344 := (ey1).trans (fI_kept (x_lt hT kH319 gb (by decide))).symm
      have m345 := (ey4).trans (fI_kept (x_lt hT kH319 gb (by decide))).symm
      have m346 := (ey5).trans (fI_kept (x_lt hT kH319 gb (by decide))).symm
      have m347 := (ey10).trans (fI_kept (x_lt hT kH319 gb (by decide))).symm
      have m348 := (ey13).trans (fI_kept (x_lt hT kH319 gb (by decide))).symm
      have m349 := (ey16).trans (fI_kept (x_lt hT kH319 gb (by decide))).symm
      have m350 := (ehi).trans (fI_kept (x_lt hT kH319 gb (by decide))).symm
      have m351 := (eiq).trans (fR_kept (x_lt hT kH319 gb (by decide))).symm
      have m352 := (ei1).trans (fI_kept (x_lt hT kH319 giq (by decide))).symm
      have m353 := (ei4).trans (fI_kept (x_lt hT kH319 giq (by decide))).symm
      have m354 := (ei5).trans (fI_kept (x_lt hT kH319 giq (by decide))).symm
      have m355 := (ei10).trans (fI_kept (x_lt hT kH319 giq (by decide))).symm
      have m356 := (ei13).trans (fI_kept (x_lt hT kH319 giq (by decide))).symm
      have m357 := (ei16).trans (fI_kept (x_lt hT kH319 giq (by decide))).symm
      have gaH319 := (mH319 a (hT.lt ga)).trans ga
      have gbH319 := (mH319 b (hT.lt gb)).trans gb
      have gwH319 := (mH319 w (hT.lt gw)).trans gw
      have gkqH319 := (mH319 kq (hT.lt gkq)).trans gkq
      have giqH319 := (mH319 iq (hT.lt giq)).trans giq
      have hNH319 : ∀ q, q < s.heap.size → G321 q = none := fun q hq => (mH319 q (Nat.lt_of_lt_of_le hq hS.1)).trans (hN q hq)
      obtain ⟨x358, ex358⟩ : ∃ z : Int32, z = fI H319 w (K.1.2 8 1) := ⟨_, rfl⟩
      rw [← ex358] at m324
      obtain ⟨x359, ex359⟩ : ∃ z : Int32, z = fI H319 w (K.1.2 8 4) := ⟨_, rfl⟩
      rw [← ex359] at m325
      obtain ⟨x360, ex360⟩ : ∃ z : Int32, z = fI H319 w (K.1.2 8 5) := ⟨_, rfl⟩
      rw [← ex360] at m326
      obtain ⟨x361, ex361⟩ : ∃ z : Int32, z = fI H319 w (K.1.2 8 10) := ⟨_, rfl⟩
      rw [← ex361] at m327
      obtain ⟨x362, ex362⟩ : ∃ z : Int32, z = fI H319 w (K.1.2 8 13) := ⟨_, rfl⟩
      rw [← ex362] at m328
      obtain ⟨x363, ex363⟩ : ∃ z : Int32, z = fI H319 w (K.1.2 8 16) := ⟨_, rfl⟩
      rw [← ex363] at m329
      refine W.eq (g2 := F0 m 1464 ls [.int x320]) rfl ?_
      refine lv_pop hx hb dL_law_1464 rfl ?_
      refine lv_aload_n hx hb dL_law_1465 rfl (lv_at hl 1 rfl) ?_
      refine lv_aload_n hx hb dL_law_1466 rfl (lv_at hl 3 rfl) ?_
      refine lv_iload_n hx hb dL_law_1467 rfl (lv_at hl 0 rfl) ?_
      refine lv_iconst (v := 1) hx hb dL_law_1468 (by decide) ?_
      refine lv_iadd hx hb dL_law_1469 ?_
      refine lv_topi (fun x364 ex364 => ?_)
      obtain ⟨tx364, ejx364, evx364⟩ := lw_ix (k := 1) ex364 hI hL rfl (by decide)
      clear tx364
      refine va_sld hx hb hX hbl (Nat.not_le.mpr hbl) hSH319 (vp_in_iff.mpr evx364) dL_law_1470 ?_
      refine W.eq (g2 := F0 m 1471 ls [.int (xs (i.toNatClampNeg + 1)), .ref b]) (congrArg (fun z => F0 m 1471 ls [.int (xs z), .ref b]) ejx364) ?_
      refine lv_if_eq (tgt := 1478) hx hb dL_law_1471 (by decide) (fun c1471 => ?_) (fun c1471 => ?_)
      · skip
        refine lv_iconst (v := 0) hx hb dL_law_1478 (by decide) ?_
        obtain ⟨q365, eq365⟩ : ∃ z : Nat, z = fR H319 b (K.1.2 10 4) := ⟨_, rfl⟩
        have gq365 := ty_fr (q := q365) (k := 4) (u := 113) eq365 hTH319 gbH319 rg_112 rfl
        obtain ⟨q366, eq366⟩ : ∃ z : Nat, z = fR H319 b (K.1.2 10 10) := ⟨_, rfl⟩
        have gq366 := ty_fr (q := q366) (k := 10) (u := 119) eq366 hTH319 gbH319 rg_112 rfl
        obtain ⟨q367, eq367⟩ : ∃ z : Nat, z = fR H319 b (K.1.2 10 16) := ⟨_, rfl⟩
        have gq367 := ty_fr (q := q367) (k := 16) (u := 125) eq367 hTH319 gbH319 rg_112 rfl
        obtain ⟨q368, eq368⟩ : ∃ z : Nat, z = fR H319 b (K.1.2 10 24) := ⟨_, rfl⟩
        have gq368 := ty_fr (q := q368) (k := 24) (u := 128) eq368 hTH319 gbH319 rg_112 rfl
        obtain ⟨q369, eq369⟩ : ∃ z : Nat, z = fR H319 b (K.1.2 10 27) := ⟨_, rfl⟩
        have gq369 := ty_fr (q := q369) (k := 27) (u := 131) eq369 hTH319 gbH319 rg_112 rfl
        obtain ⟨q370, eq370⟩ : ∃ z : Nat, z = fR H319 b (K.1.2 10 29) := ⟨_, rfl⟩
        have gq370 := ty_fr (q := q370) (k := 29) (u := 133) eq370 hTH319 gbH319 rg_112 rfl
        obtain ⟨q371, eq371⟩ : ∃ z : Nat, z = fR H319 b (K.1.2 10 30) := ⟨_, rfl⟩
        have gq371 := ty_fr (q := q371) (k := 30) (u := 134) eq371 hTH319 gbH319 rg_112 rfl
        obtain ⟨q372, eq372⟩ : ∃ z : Nat, z = fR H319 b (K.1.2 10 31) := ⟨_, rfl⟩
        have gq372 := ty_fr (q := q372) (k := 31) (u := 135) eq372 hTH319 gbH319 rg_112 rfl
        obtain ⟨q373, eq373⟩ : ∃ z : Nat, z = fR H319 b (K.1.2 10 32) := ⟨_, rfl⟩
        have gq373 := ty_fr (q := q373) (k := 32) (u := 136) eq373 hTH319 gbH319 rg_112 rfl
        obtain ⟨q374, eq374⟩ : ∃ z : Nat, z = fR H319 b (K.1.2 10 33) := ⟨_, rfl⟩
        have gq374 := ty_fr (q := q374) (k := 33) (u := 137) eq374 hTH319 gbH319 rg_112 rfl
        obtain ⟨q375, eq375⟩ : ∃ z : Nat, z = fR H319 b (K.1.2 10 50) := ⟨_, rfl⟩
        have gq375 := ty_fr (q := q375) (k := 50) (u := 146) eq375 hTH319 gbH319 rg_112 rfl
        refine x_V (As := [.int 0]) (rest := []) C (a_X10_image l K G321 H319 (0) (hi) (y1) (y4) (y5) (y10) (y13) (y16) hTH319 gbH319 (by decide) giqH319 m351 gq365 eq365 gq366 eq366 gq367 eq367 gq368 eq368 gq369 eq369 gq370 eq370 gq371 eq371 gq372 eq372 gq373 eq373 gq374 eq374 gq375 eq375 m350 m344 m345 m346 m347 m348 m349 g339 g340 g341 g342) yo_X10_image wM_L_157 ⟨⟨by decide, by decide⟩, show _ ≤ 284929 from Nat.le_trans hc (by decide), show _ ≤ 8247460 from Nat.le_trans hs (by decide)⟩ (x_rv C hTH319 (ci := 10) rfl gbH319 rg_112) rfl hl.1 rfl (Nat.le_of_ble_eq_true rfl) dL_law_1479 hSH319 (AE_new hNH319 hSH319.1) (fun vH376 H376 locsH376 pH376 zH376 kH376 hSH376 => ?_)
        obtain ⟨x377, x378, x379, x380, x381, x382, x383, x384, hvH376, bx377, ex378, ex379, ex380, ex381, ex382, ex383, ex384, hrH376, m385, m386, m387, m388, m389, m390, m391, m392, m393, m394, m395, m396, g397, g398, g399, g400, mf401, m402, m403, m404, hTH376⟩ := pH376
        subst hvH376
        have m405 := (m322).trans (fR_kept (x_lt hTH319 kH376 gaH319 (by decide))).symm
        have m406 := (m323).trans (fI_kept (x_lt hTH319 kH376 gaH319 (by decide))).symm
        have m407 := (ex358).trans (fI_kept (x_lt hTH319 kH376 gwH319 (by decide))).symm
        have m408 := (m330).trans (fI_kept (x_lt hTH319 kH376 gkqH319 (by decide))).symm
        have m409 := (ex359).trans (fI_kept (x_lt hTH319 kH376 gwH319 (by decide))).symm
        have m410 := (m331).trans (fI_kept (x_lt hTH319 kH376 gkqH319 (by decide))).symm
        have m411 := (ex360).trans (fI_kept (x_lt hTH319 kH376 gwH319 (by decide))).symm
        have m412 := (m332).trans (fI_kept (x_lt hTH319 kH376 gkqH319 (by decide))).symm
        have m413 := (ex361).trans (fI_kept (x_lt hTH319 kH376 gwH319 (by decide))).symm
        have m414 := (m333).trans (fI_kept (x_lt hTH319 kH376 gkqH319 (by decide))).symm
        have m415 := (ex362).trans (fI_kept (x_lt hTH319 kH376 gwH319 (by decide))).symm
        have m416 := (m334).trans (fI_kept (x_lt hTH319 kH376 gkqH319 (by decide))).symm
        have m417 := (ex363).trans (fI_kept (x_lt hTH319 kH376 gwH319 (by decide))).symm
        have m418 := (m335).trans (fI_kept (x_lt hTH319 kH376 gkqH319 (by decide))).symm
        have m419 := (fV_kept (x_lt hTH319 kH376 gaH319 (by decide))).trans m336
        have m420 := (m343).trans (MF.i mf401 (k := 18) (by decide) (by decide)).symm
        have m421 := (m351).trans (MF.r mf401 (k := 73) (by decide) (by decide)).symm
        have m422 := (eq365).trans (MF.r mf401 (k := 4) (by decide) (by decide)).symm
        have m423 := (eq366).trans (MF.r mf401 (k := 10) (by decide) (by decide)).symm
        have m424 := (eq367).trans (MF.r mf401 (k := 16) (by decide) (by decide)).symm
        have m425 := (eq368).trans (MF.r mf401 (k := 24) (by decide) (by decide)).symm
        have m426 := (eq369).trans (MF.r mf401 (k := 27) (by decide) (by decide)).symm
        have m427 := (eq370).trans (MF.r mf401 (k := 29) (by decide) (by decide)).symm
        have m428 := (eq371).trans (MF.r mf401 (k := 30) (by decide) (by decide)).symm
        have m429 := (eq372).trans (MF.r mf401 (k := 31) (by decide) (by decide)).symm
        have m430 := (eq373).trans (MF.r mf401 (k := 32) (by decide) (by decide)).symm
        have m431 := (eq374).trans (MF.r mf401 (k := 33) (by decide) (by decide)).symm
        have m432 := (eq375).trans (MF.r mf401 (k := 50) (by decide) (by decide)).symm
        have bx378 := ty_fi (x := x378) (k := 70) ex378 hTH376 gbH319 rg_112 rfl
        have bx379 := ty_fi (x := x379) (k := 1) ex379 hTH376 gbH319 rg_112 rfl
        have bx380 := ty_fi (x := x380) (k := 2) ex380 hTH376 gbH319 rg_112 rfl
        have bx381 := ty_fi (x := x381) (k := 3) ex381 hTH376 gbH319 rg_112 rfl
        have bx382 := ty_fi (x := x382) (k := 59) ex382 hTH376 gbH319 rg_112 rfl
        have bx383 := ty_fi (x := x383) (k := 62) ex383 hTH376 gbH319 rg_112 rfl
        have bx384 := ty_fi (x := x384) (k := 65) ex384 hTH376 gbH319 rg_112 rfl
        refine W.eq (g2 := F0 m 1482 ls [.int x377]) rfl ?_
        obtain ⟨j433, j434, j435, j436, j437, j438⟩ := m402.resolve_left (by omega)
        have ij433 : i1 = fI H376 iq ((0 : Int32).toNatClampNeg) := m352.trans (m404 (by decide) _).symm
        have tj433 := congrArg Int32.toInt (j433.trans ij433.symm)
        have ij434 : i4 = fI H376 iq ((1 : Int32).toNatClampNeg) := m353.trans (m404 (by decide) _).symm
        have tj434 := congrArg Int32.toInt (j434.trans ij434.symm)
        have ij435 : i5 = fI H376 iq ((2 : Int32).toNatClampNeg) := m354.trans (m404 (by decide) _).symm
        have tj435 := congrArg Int32.toInt (j435.trans ij435.symm)
        have ij436 : i10 = fI H376 iq ((3 : Int32).toNatClampNeg) := m355.trans (m404 (by decide) _).symm
        have tj436 := congrArg Int32.toInt (j436.trans ij436.symm)
        have ij437 : i13 = fI H376 iq ((4 : Int32).toNatClampNeg) := m356.trans (m404 (by decide) _).symm
        have tj437 := congrArg Int32.toInt (j437.trans ij437.symm)
        have ij438 : i16 = fI H376 iq ((5 : Int32).toNatClampNeg) := m357.trans (m404 (by decide) _).symm
        have tj438 := congrArg Int32.toInt (j438.trans ij438.symm)
        refine lv_pop hx hb dL_law_1482 rfl ?_
        refine lv_goto (tgt := 1509) hx hb dL_law_1483 (by decide) ?_
        exact nx G321 H376 locsH376 _ _ ls ⟨hTH376, hNH319, gaH319, gbH319, g397, g398, g399, g400, ⟨(by rw [← m406, ← m420]; exact rt), (by rw [← m405, ← m407, ← ex379]; omega), (by rw [← m405, ← m409, ← ex380]; omega), (by rw [← m405, ← m411, ← ex381]; omega), (by rw [← m405, ← m413, ← ex382]; omega), (by rw [← m405, ← m415, ← ex383]; omega), (by rw [← m405, ← m417, ← ex384]; omega)⟩, Or.inr ⟨kq, m419, gkqH319, (by rw [← ex378]; omega), (by rw [← m408, ← m385, ← ij433]; exact q1), (by rw [← m410, ← m385, ← ij434]; exact q4), (by rw [← m412, ← m385, ← ij435]; exact q5), (by rw [← m414, ← m385, ← ij436]; exact q10), (by rw [← m416, ← m385, ← ij437]; exact q13), (by rw [← m418, ← m385, ← ij438]; exact q16)⟩, hSH376⟩ hl ⟨hc, hs, fun h => by have h1 := h.symm.trans m419; cases h1⟩
      · skip
        exact absurd c1453 c1471
    · skip
      refine lv_iconst (v := 1) hx hb dL_law_1456 (by decide) ?_
      refine lv_goto (tgt := 1461) hx hb dL_law_1457 (by decide) ?_
      refine x_V (As := [.int 1]) (rest := []) C (a_X9_image_r1v l K G H (s1) (s4) (s5) (s10) (s13) (s16) (ta) (k1) (k4) (k5) (k10) (k13) (k16) hT ga gw ew es1 es4 es5 es10 es13 es16 eta kn gkq ek1 ek4 ek5 ek10 ek13 ek16) yo_X9_image wM_L_153 ⟨⟨by decide, by decide⟩, show _ ≤ 284929 from Nat.le_trans hc (by decide), show _ ≤ 8247460 from Nat.le_trans hs (by decide)⟩ (x_rv C hT (ci := 9) rfl ga rg_68) rfl hl.1 rfl (Nat.le_of_ble_eq_true rfl) dL_law_1461 hS (AE_new hN hS.1) (fun vH439 H439 locsH439 pH439 zH439 kH439 hSH439 => ?_)
      obtain ⟨x440, hvH439, bx440, G441, mH439, m442, m443, hTH439, m444, m445, m446, m447, m448, m449, q457, m456, gq457, m450, m451, m452, m453, m454, m455⟩ := pH439
      subst hvH439
      have g459 : CG (avw K H439 b) := CG.congr (fun k hk j => av_eff hT kH439 gb (by decide) (CG_eff [68, 34, 35, 36, 37, 38, 39, 40, 41, 42, 43, 44, 46, 48, 49, 50, 51, 52, 53, 54, 55, 56, 57, 58, 62, 63, 64, 65, 66, 67, 0, 1, 2, 3, 4, 5, 6, 7, 8, 9, 10, 12, 14, 15, 16, 17, 18, 19, 20, 21, 22, 23, 24, 28, 29, 30, 31, 32, 33] (by decide) k hk)) cg
      have g460 : TU (avw K H439 b) (svw K H439 b) := TU.congr (fun k hk j => av_eff hT kH439 gb (by decide) (TU_eff [68, 34, 35, 36, 37, 38, 39, 40, 41, 42, 43, 44, 46, 48, 49, 50, 51, 52, 53, 54, 55, 56, 57, 58, 62, 63, 64, 65, 66, 67, 0, 1, 2, 3, 4, 5, 6, 7, 8, 9, 10, 12, 14, 15, 16, 17, 18, 19, 20, 21, 22, 23, 24, 28, 29, 30, 31, 32, 33] (by decide) k hk)) (fun k hk => sv_eff hT kH439 gb (by decide)) tu
      have g461 : WD (avw K H439 b) := WD.congr (fun k hk j => av_eff hT kH439 gb (by decide) (WD_eff [68, 34, 35, 36, 37, 38, 39, 40, 41, 42, 43, 44, 46, 48, 49, 50, 51, 52, 53, 54, 55, 56, 57, 58, 62, 63, 64, 65, 66, 67, 0, 1, 2, 3, 4, 5, 6, 7, 8, 9, 10, 12, 14, 15, 16, 17, 18, 19, 20, 21, 22, 23, 24, 28, 29, 30, 31, 32, 33] (by decide) k hk)) wd
      have g462 : IM (avw K H439 b) := IM.congr (fun k hk j => av_eff hT kH439 gb (by decide) (IM_eff [68, 34, 35, 36, 37, 38, 39, 40, 41, 42, 43, 44, 46, 48, 49, 50, 51, 52, 53, 54, 55, 56, 57, 58, 62, 63, 64, 65, 66, 67, 0, 1, 2, 3, 4, 5, 6, 7, 8, 9, 10, 12, 14, 15, 16, 17, 18, 19, 20, 21, 22, 23, 24, 28, 29, 30, 31, 32, 33] (by decide) k hk)) im
      have m463 := (etb).trans (fI_kept (x_lt hT kH439 gb (by decide))).symm
      have m464 := (ey1).trans (fI_kept (x_lt hT kH439 gb (by decide))).symm
      have m465 := (ey4).trans (fI_kept (x_lt hT kH439 gb (by decide))).symm
      have m466 := (ey5).trans (fI_kept (x_lt hT kH439 gb (by decide))).symm
      have m467 := (ey10).trans (fI_kept (x_lt hT kH439 gb (by decide))).symm
      have m468 := (ey13).trans (fI_kept (x_lt hT kH439 gb (by decide))).symm
      have m469 := (ey16).trans (fI_kept (x_lt hT kH439 gb (by decide))).symm
      have m470 := (ehi).trans (fI_kept (x_lt hT kH439 gb (by decide))).symm
      have m471 := (eiq).trans (fR_kept (x_lt hT kH439 gb (by decide))).symm
      have m472 := (ei1).trans (fI_kept (x_lt hT kH439 giq (by decide))).symm
      have m473 := (ei4).trans (fI_kept (x_lt hT kH439 giq (by decide))).symm
      have m474 := (ei5).trans (fI_kept (x_lt hT kH439 giq (by decide))).symm
      have m475 := (ei10).trans (fI_kept (x_lt hT kH439 giq (by decide))).symm
      have m476 := (ei13).trans (fI_kept (x_lt hT kH439 giq (by decide))).symm
      have m477 := (ei16).trans (fI_kept (x_lt hT kH439 giq (by decide))).symm
      have gaH439 := (mH439 a (hT.lt ga)).trans ga
      have gbH439 := (mH439 b (hT.lt gb)).trans gb
      have gwH439 := (mH439 w (hT.lt gw)).trans gw
      have gkqH439 := (mH439 kq (hT.lt gkq)).trans gkq
      have giqH439 := (mH439 iq (hT.lt giq)).trans giq
      have hNH439 : ∀ q, q < s.heap.size → G441 q = none := fun q hq => (mH439 q (Nat.lt_of_lt_of_le hq hS.1)).trans (hN q hq)
      obtain ⟨x478, ex478⟩ : ∃ z : Int32, z = fI H439 q457 (K.1.2 8 1) := ⟨_, rfl⟩
      rw [← ex478] at m450
      obtain ⟨x479, ex479⟩ : ∃ z : Int32, z = fI H439 q457 (K.1.2 8 4) := ⟨_, rfl⟩
      rw [← ex479] at m451
      obtain ⟨x480, ex480⟩ : ∃ z : Int32, z = fI H439 q457 (K.1.2 8 5) := ⟨_, rfl⟩
      rw [← ex480] at m452
      obtain ⟨x481, ex481⟩ : ∃ z : Int32, z = fI H439 q457 (K.1.2 8 10) := ⟨_, rfl⟩
      rw [← ex481] at m453
      obtain ⟨x482, ex482⟩ : ∃ z : Int32, z = fI H439 q457 (K.1.2 8 13) := ⟨_, rfl⟩
      rw [← ex482] at m454
      obtain ⟨x483, ex483⟩ : ∃ z : Int32, z = fI H439 q457 (K.1.2 8 16) := ⟨_, rfl⟩
      rw [← ex483] at m455
      refine W.eq (g2 := F0 m 1464 ls [.int x440]) rfl ?_
      refine lv_pop hx hb dL_law_1464 rfl ?_
      refine lv_aload_n hx hb dL_law_1465 rfl (lv_at hl 1 rfl) ?_
      refine lv_aload_n hx hb dL_law_1466 rfl (lv_at hl 3 rfl) ?_
      refine lv_iload_n hx hb dL_law_1467 rfl (lv_at hl 0 rfl) ?_
      refine lv_iconst (v := 1) hx hb dL_law_1468 (by decide) ?_
      refine lv_iadd hx hb dL_law_1469 ?_
      refine lv_topi (fun x484 ex484 => ?_)
      obtain ⟨tx484, ejx484, evx484⟩ := lw_ix (k := 1) ex484 hI hL rfl (by decide)
      clear tx484
      refine va_sld hx hb hX hbl (Nat.not_le.mpr hbl) hSH439 (vp_in_iff.mpr evx484) dL_law_1470 ?_
      refine W.eq (g2 := F0 m 1471 ls [.int (xs (i.toNatClampNeg + 1)), .ref b]) (congrArg (fun z => F0 m 1471 ls [.int (xs z), .ref b]) ejx484) ?_
      refine lv_if_eq (tgt := 1478) hx hb dL_law_1471 (by decide) (fun c1471 => ?_) (fun c1471 => ?_)
      · skip
        exact absurd c1471 c1453
      · skip
        refine lv_iconst (v := 1) hx hb dL_law_1474 (by decide) ?_
        refine lv_goto (tgt := 1479) hx hb dL_law_1475 (by decide) ?_
        obtain ⟨q485, eq485⟩ : ∃ z : Nat, z = fR H439 b (K.1.2 10 4) := ⟨_, rfl⟩
        have gq485 := ty_fr (q := q485) (k := 4) (u := 113) eq485 hTH439 gbH439 rg_112 rfl
        obtain ⟨q486, eq486⟩ : ∃ z : Nat, z = fR H439 b (K.1.2 10 10) := ⟨_, rfl⟩
        have gq486 := ty_fr (q := q486) (k := 10) (u := 119) eq486 hTH439 gbH439 rg_112 rfl
        obtain ⟨q487, eq487⟩ : ∃ z : Nat, z = fR H439 b (K.1.2 10 16) := ⟨_, rfl⟩
        have gq487 := ty_fr (q := q487) (k := 16) (u := 125) eq487 hTH439 gbH439 rg_112 rfl
        obtain ⟨q488, eq488⟩ : ∃ z : Nat, z = fR H439 b (K.1.2 10 24) := ⟨_, rfl⟩
        have gq488 := ty_fr (q := q488) (k := 24) (u := 128) eq488 hTH439 gbH439 rg_112 rfl
        obtain ⟨q489, eq489⟩ : ∃ z : Nat, z = fR H439 b (K.1.2 10 27) := ⟨_, rfl⟩
        have gq489 := ty_fr (q := q489) (k := 27) (u := 131) eq489 hTH439 gbH439 rg_112 rfl
        obtain ⟨q490, eq490⟩ : ∃ z : Nat, z = fR H439 b (K.1.2 10 29) := ⟨_, rfl⟩
        have gq490 := ty_fr (q := q490) (k := 29) (u := 133) eq490 hTH439 gbH439 rg_112 rfl
        obtain ⟨q491, eq491⟩ : ∃ z : Nat, z = fR H439 b (K.1.2 10 30) := ⟨_, rfl⟩
        have gq491 := ty_fr (q := q491) (k := 30) (u := 134) eq491 hTH439 gbH439 rg_112 rfl
        obtain ⟨q492, eq492⟩ : ∃ z : Nat, z = fR H439 b (K.1.2 10 31) := ⟨_, rfl⟩
        have gq492 := ty_fr (q := q492) (k := 31) (u := 135) eq492 hTH439 gbH439 rg_112 rfl
        obtain ⟨q493, eq493⟩ : ∃ z : Nat, z = fR H439 b (K.1.2 10 32) := ⟨_, rfl⟩
        have gq493 := ty_fr (q := q493) (k := 32) (u := 136) eq493 hTH439 gbH439 rg_112 rfl
        obtain ⟨q494, eq494⟩ : ∃ z : Nat, z = fR H439 b (K.1.2 10 33) := ⟨_, rfl⟩
        have gq494 := ty_fr (q := q494) (k := 33) (u := 137) eq494 hTH439 gbH439 rg_112 rfl
        obtain ⟨q495, eq495⟩ : ∃ z : Nat, z = fR H439 b (K.1.2 10 50) := ⟨_, rfl⟩
        have gq495 := ty_fr (q := q495) (k := 50) (u := 146) eq495 hTH439 gbH439 rg_112 rfl
        refine x_V (As := [.int 1]) (rest := []) C (a_X10_image l K G441 H439 (1) (hi) (y1) (y4) (y5) (y10) (y13) (y16) hTH439 gbH439 (by decide) giqH439 m471 gq485 eq485 gq486 eq486 gq487 eq487 gq488 eq488 gq489 eq489 gq490 eq490 gq491 eq491 gq492 eq492 gq493 eq493 gq494 eq494 gq495 eq495 m470 m464 m465 m466 m467 m468 m469 g459 g460 g461 g462) yo_X10_image wM_L_157 ⟨⟨by decide, by decide⟩, show _ ≤ 284929 from Nat.le_trans hc (by decide), show _ ≤ 8247460 from Nat.le_trans hs (by decide)⟩ (x_rv C hTH439 (ci := 10) rfl gbH439 rg_112) rfl hl.1 rfl (Nat.le_of_ble_eq_true rfl) dL_law_1479 hSH439 (AE_new hNH439 hSH439.1) (fun vH496 H496 locsH496 pH496 zH496 kH496 hSH496 => ?_)
        obtain ⟨x497, x498, x499, x500, x501, x502, x503, x504, hvH496, bx497, ex498, ex499, ex500, ex501, ex502, ex503, ex504, hrH496, m505, m506, m507, m508, m509, m510, m511, m512, m513, m514, m515, m516, g517, g518, g519, g520, mf521, m522, m523, m524, hTH496⟩ := pH496
        subst hvH496
        have m525 := (m442).trans (fR_kept (x_lt hTH439 kH496 gaH439 (by decide))).symm
        have m526 := (m443).trans (fI_kept (x_lt hTH439 kH496 gaH439 (by decide))).symm
        have m527 := (m444).trans (fI_kept (x_lt hTH439 kH496 gwH439 (by decide))).symm
        have m528 := (m445).trans (fI_kept (x_lt hTH439 kH496 gwH439 (by decide))).symm
        have m529 := (m446).trans (fI_kept (x_lt hTH439 kH496 gwH439 (by decide))).symm
        have m530 := (m447).trans (fI_kept (x_lt hTH439 kH496 gwH439 (by decide))).symm
        have m531 := (m448).trans (fI_kept (x_lt hTH439 kH496 gwH439 (by decide))).symm
        have m532 := (m449).trans (fI_kept (x_lt hTH439 kH496 gwH439 (by decide))).symm
        have m533 := (ex478).trans (fI_kept (x_lt hTH439 kH496 gq457 (by decide))).symm
        have m534 := (ex479).trans (fI_kept (x_lt hTH439 kH496 gq457 (by decide))).symm
        have m535 := (ex480).trans (fI_kept (x_lt hTH439 kH496 gq457 (by decide))).symm
        have m536 := (ex481).trans (fI_kept (x_lt hTH439 kH496 gq457 (by decide))).symm
        have m537 := (ex482).trans (fI_kept (x_lt hTH439 kH496 gq457 (by decide))).symm
        have m538 := (ex483).trans (fI_kept (x_lt hTH439 kH496 gq457 (by decide))).symm
        have m539 := (fV_kept (x_lt hTH439 kH496 gaH439 (by decide))).trans m456
        have m540 := (m463).trans (MF.i mf521 (k := 18) (by decide) (by decide)).symm
        have m541 := (m471).trans (MF.r mf521 (k := 73) (by decide) (by decide)).symm
        have m542 := (eq485).trans (MF.r mf521 (k := 4) (by decide) (by decide)).symm
        have m543 := (eq486).trans (MF.r mf521 (k := 10) (by decide) (by decide)).symm
        have m544 := (eq487).trans (MF.r mf521 (k := 16) (by decide) (by decide)).symm
        have m545 := (eq488).trans (MF.r mf521 (k := 24) (by decide) (by decide)).symm
        have m546 := (eq489).trans (MF.r mf521 (k := 27) (by decide) (by decide)).symm
        have m547 := (eq490).trans (MF.r mf521 (k := 29) (by decide) (by decide)).symm
        have m548 := (eq491).trans (MF.r mf521 (k := 30) (by decide) (by decide)).symm
        have m549 := (eq492).trans (MF.r mf521 (k := 31) (by decide) (by decide)).symm
        have m550 := (eq493).trans (MF.r mf521 (k := 32) (by decide) (by decide)).symm
        have m551 := (eq494).trans (MF.r mf521 (k := 33) (by decide) (by decide)).symm
        have m552 := (eq495).trans (MF.r mf521 (k := 50) (by decide) (by decide)).symm
        have bx498 := ty_fi (x := x498) (k := 70) ex498 hTH496 gbH439 rg_112 rfl
        have bx499 := ty_fi (x := x499) (k := 1) ex499 hTH496 gbH439 rg_112 rfl
        have bx500 := ty_fi (x := x500) (k := 2) ex500 hTH496 gbH439 rg_112 rfl
        have bx501 := ty_fi (x := x501) (k := 3) ex501 hTH496 gbH439 rg_112 rfl
        have bx502 := ty_fi (x := x502) (k := 59) ex502 hTH496 gbH439 rg_112 rfl
        have bx503 := ty_fi (x := x503) (k := 62) ex503 hTH496 gbH439 rg_112 rfl
        have bx504 := ty_fi (x := x504) (k := 65) ex504 hTH496 gbH439 rg_112 rfl
        refine W.eq (g2 := F0 m 1482 ls [.int x497]) rfl ?_
        obtain ⟨j553, j554, j555, j556, j557, j558⟩ := m522.resolve_left (by omega)
        obtain ⟨j559, j560, j561, j562, j563, j564⟩ := m523 (by decide)
        replace j559 := congrArg Int32.toInt j559
        replace j560 := congrArg Int32.toInt j560
        replace j561 := congrArg Int32.toInt j561
        replace j562 := congrArg Int32.toInt j562
        replace j563 := congrArg Int32.toInt j563
        replace j564 := congrArg Int32.toInt j564
        have ij553 : x499 = fI H496 iq ((0 : Int32).toNatClampNeg) := j553
        have ij554 : x500 = fI H496 iq ((1 : Int32).toNatClampNeg) := j554
        have ij555 : x501 = fI H496 iq ((2 : Int32).toNatClampNeg) := j555
        have ij556 : x502 = fI H496 iq ((3 : Int32).toNatClampNeg) := j556
        have ij557 : x503 = fI H496 iq ((4 : Int32).toNatClampNeg) := j557
        have ij558 : x504 = fI H496 iq ((5 : Int32).toNatClampNeg) := j558
        refine lv_pop hx hb dL_law_1482 rfl ?_
        refine lv_goto (tgt := 1509) hx hb dL_law_1483 (by decide) ?_
        exact nx G441 H496 locsH496 _ _ ls ⟨hTH496, hNH439, gaH439, gbH439, g517, g518, g519, g520, ⟨(by rw [← m526, ← m540]; exact rt), (by rw [← m525, ← m527, ← ex499]; omega), (by rw [← m525, ← m528, ← ex500]; omega), (by rw [← m525, ← m529, ← ex501]; omega), (by rw [← m525, ← m530, ← ex502]; omega), (by rw [← m525, ← m531, ← ex503]; omega), (by rw [← m525, ← m532, ← ex504]; omega)⟩, Or.inr ⟨q457, m539, gq457, (by rw [← ex498]; omega), (by rw [← m533, ← m505, ← ij553]; omega), (by rw [← m534, ← m505, ← ij554]; omega), (by rw [← m535, ← m505, ← ij555]; omega), (by rw [← m536, ← m505, ← ij556]; omega), (by rw [← m537, ← m505, ← ij557]; omega), (by rw [← m538, ← m505, ← ij558]; omega)⟩, hSH496⟩ hl ⟨hc, hs, fun h => by have h1 := h.symm.trans m539; cases h1⟩
set_option maxRecDepth 100000 in
set_option maxHeartbeats 1000000 in
theorem lw_c34 {p : Program} {l : Launch} {e : Env} {s : State} {m : MethodId} {below : List Frame} {meth : Method} {c : Code} {K : KE} {b0 L : Nat} {xs : Nat → Int32} {G : Nat → Option Nat} {H : Heap} {locs : List Loc} {a b : Nat} {cells slots : Nat} {ls : Array Slot} {i : Int32} {n : Nat} (D : LC p K s m meth c b0 L xs) (S : SX K s G H locs a b) (hl : lv_has ls 4 [(3, .int i), (2, .ref b), (1, .ref a), (0, .ref b0)]) (hi : 0 ≤ i.toInt ∧ i.toInt + 6 ≤ L) (hn : n ≤ 511) (hB : BD K H a cells slots) (nx : ∀ (G : Nat → Option Nat) (H : Heap) (locs : List Loc) (cells slots : Nat) (ls : Array Slot), SX K s G H locs a b → lv_has ls 4 [(3, .int i), (2, .ref b), (1, .ref a), (0, .ref b0)] → BD K H a cells slots → W p l e room_1 s m #[Value.ref b0] below meth c H locs cells slots (lw_Z below #[Value.ref b0] s) (F0 m 1509 ls [])) : W p l e room_1 s m #[Value.ref b0] below meth c H locs cells slots (lw_Z below #[Value.ref b0] s) (F0 m 1486 ls []) := by
  have hI := hi
  obtain ⟨C, hX, hbl, hL⟩ := id D
  obtain ⟨hx, hb, hml, hown, hts, hKT, hr, hlocks, hnm⟩ := id C
  obtain ⟨hT, hN, ga, gb, cg, tu, wd, im, ⟨rt, r1, r4, r5, r10, r13, r16⟩, hk, hS⟩ := S
  obtain ⟨hc, hs, hB0⟩ := hB
  have n_1 : (1 : Int32).toInt = 1 := rfl
  obtain ⟨w, ew⟩ : ∃ z : Nat, z = fR H a (K.1.2 9 0) := ⟨_, rfl⟩
  have gw := ty_fr (q := w) (k := 0) (u := 0) ew hT ga rg_68 rfl
  rw [← ew] at r1 r4 r5 r10 r13 r16
  obtain ⟨ta, eta⟩ : ∃ z : Int32, z = fI H a (K.1.2 9 3) := ⟨_, rfl⟩
  rw [← eta] at rt
  obtain ⟨tb, etb⟩ : ∃ z : Int32, z = fI H b (K.1.2 10 18) := ⟨_, rfl⟩
  rw [← etb] at rt
  obtain ⟨s1, es1⟩ : ∃ z : Int32, z = fI H w (K.1.2 8 1) := ⟨_, rfl⟩
  rw [← es1] at r1
  obtain ⟨y1, ey1⟩ : ∃ z : Int32, z = fI H b (K.1.2 10 1) := ⟨_, rfl⟩
  rw [← ey1] at r1
  obtain ⟨s4, es4⟩ : ∃ z : Int32, z = fI H w (K.1.2 8 4) := ⟨_, rfl⟩
  rw [← es4] at r4
  obtain ⟨y4, ey4⟩ : ∃ z : Int32, z = fI H b (K.1.2 10 2) := ⟨_, rfl⟩
  rw [← ey4] at r4
  obtain ⟨s5, es5⟩ : ∃ z : Int32, z = fI H w (K.1.2 8 5) := ⟨_, rfl⟩
  rw [← es5] at r5
  obtain ⟨y5, ey5⟩ : ∃ z : Int32, z = fI H b (K.1.2 10 3) := ⟨_, rfl⟩
  rw [← ey5] at r5
  obtain ⟨s10, es10⟩ : ∃ z : Int32, z = fI H w (K.1.2 8 10) := ⟨_, rfl⟩
  rw [← es10] at r10
  obtain ⟨y10, ey10⟩ : ∃ z : Int32, z = fI H b (K.1.2 10 59) := ⟨_, rfl⟩
  rw [← ey10] at r10
  obtain ⟨s13, es13⟩ : ∃ z : Int32, z = fI H w (K.1.2 8 13) := ⟨_, rfl⟩
  rw [← es13] at r13
  obtain ⟨y13, ey13⟩ : ∃ z : Int32, z = fI H b (K.1.2 10 62) := ⟨_, rfl⟩
  rw [← ey13] at r13
  obtain ⟨s16, es16⟩ : ∃ z : Int32, z = fI H w (K.1.2 8 16) := ⟨_, rfl⟩
  rw [← es16] at r16
  obtain ⟨y16, ey16⟩ : ∃ z : Int32, z = fI H b (K.1.2 10 65) := ⟨_, rfl⟩
  rw [← ey16] at r16
  rcases hk with ⟨kn, h70⟩ | ⟨kq, kn, gkq, h70, q1, q4, q5, q10, q13, q16⟩
  · skip
    obtain ⟨hi, ehi⟩ : ∃ z : Int32, z = fI H b (K.1.2 10 70) := ⟨_, rfl⟩
    rw [← ehi] at h70
    obtain ⟨hc0, hs0⟩ := hB0 kn
    refine lv_aload_n hx hb dL_law_1486 rfl (lv_at hl 2 rfl) ?_
    refine lv_aload_n hx hb dL_law_1487 rfl (lv_at hl 3 rfl) ?_
    refine lv_iload_n hx hb dL_law_1488 rfl (lv_at hl 0 rfl) ?_
    refine lv_iconst (v := 1) hx hb dL_law_1489 (by decide) ?_
    refine lv_iadd hx hb dL_law_1490 ?_
    refine lv_topi (fun x101 ex101 => ?_)
    obtain ⟨tx101, ejx101, evx101⟩ := lw_ix (k := 1) ex101 hI hL rfl (by decide)
    clear tx101
    refine va_sld hx hb hX hbl (Nat.not_le.mpr hbl) hS (vp_in_iff.mpr evx101) dL_law_1491 ?_
    refine W.eq (g2 := F0 m 1492 ls [.int (xs (i.toNatClampNeg + 1)), .ref a]) (congrArg (fun z => F0 m 1492 ls [.int (xs z), .ref a]) ejx101) ?_
    refine x_V (As := [.int (xs (i.toNatClampNeg + 1))]) (rest := []) C (a_X9_look l K G H ((xs (i.toNatClampNeg + 1))) hT ga) yo_X9_look wM_L_158 ⟨⟨by decide, by decide⟩, show _ ≤ 284929 from Nat.le_trans hc (by decide), show _ ≤ 8247460 from Nat.le_trans hs (by decide)⟩ (x_rv C hT (ci := 9) rfl ga rg_68) rfl hl.1 rfl (Nat.le_of_ble_eq_true rfl) dL_law_1492 hS (AE_new hN hS.1) (fun vH102 H102 locsH102 pH102 zH102 kH102 hSH102 => ?_)
    obtain ⟨x103, hvH102, hTH102⟩ := pH102
    subst hvH102
    have g104 : CG (avw K H102 b) := CG.congr (fun k hk j => av_eff hT kH102 gb (by decide) (CG_eff [83, 84] (by decide) k hk)) cg
    have g105 : TU (avw K H102 b) (svw K H102 b) := TU.congr (fun k hk j => av_eff hT kH102 gb (by decide) (TU_eff [83, 84] (by decide) k hk)) (fun k hk => sv_eff hT kH102 gb (by decide)) tu
    have g106 : WD (avw K H102 b) := WD.congr (fun k hk j => av_eff hT kH102 gb (by decide) (WD_eff [83, 84] (by decide) k hk)) wd
    have g107 : IM (avw K H102 b) := IM.congr (fun k hk j => av_eff hT kH102 gb (by decide) (IM_eff [83, 84] (by decide) k hk)) im
    have m108 := (ew).trans (fR_kept (x_lt hT kH102 ga (by decide))).symm
    have m109 := (eta).trans (fI_kept (x_lt hT kH102 ga (by decide))).symm
    have m110 := (etb).trans (fI_kept (x_lt hT kH102 gb (by decide))).symm
    have m111 := (es1).trans (fI_kept (x_lt hT kH102 gw (by decide))).symm
    have m112 := (ey1).trans (fI_kept (x_lt hT kH102 gb (by decide))).symm
    have m113 := (es4).trans (fI_kept (x_lt hT kH102 gw (by decide))).symm
    have m114 := (ey4).trans (fI_kept (x_lt hT kH102 gb (by decide))).symm
    have m115 := (es5).trans (fI_kept (x_lt hT kH102 gw (by decide))).symm
    have m116 := (ey5).trans (fI_kept (x_lt hT kH102 gb (by decide))).symm
    have m117 := (es10).trans (fI_kept (x_lt hT kH102 gw (by decide))).symm
    have m118 := (ey10).trans (fI_kept (x_lt hT kH102 gb (by decide))).symm
    have m119 := (es13).trans (fI_kept (x_lt hT kH102 gw (by decide))).symm
    have m120 := (ey13).trans (fI_kept (x_lt hT kH102 gb (by decide))).symm
    have m121 := (es16).trans (fI_kept (x_lt hT kH102 gw (by decide))).symm
    have m122 := (ey16).trans (fI_kept (x_lt hT kH102 gb (by decide))).symm
    have m123 := (ehi).trans (fI_kept (x_lt hT kH102 gb (by decide))).symm
    have m124 := (fV_kept (x_lt hT kH102 ga (by decide))).trans kn
    refine W.eq (g2 := F0 m 1495 ls [.int x103]) rfl ?_
    refine lv_pop hx hb dL_law_1495 rfl ?_
    refine lv_aload_n hx hb dL_law_1496 rfl (lv_at hl 1 rfl) ?_
    refine lv_aload_n hx hb dL_law_1497 rfl (lv_at hl 3 rfl) ?_
    refine lv_iload_n hx hb dL_law_1498 rfl (lv_at hl 0 rfl) ?_
    refine lv_iconst (v := 1) hx hb dL_law_1499 (by decide) ?_
    refine lv_iadd hx hb dL_law_1500 ?_
    refine lv_topi (fun x125 ex125 => ?_)
    obtain ⟨tx125, ejx125, evx125⟩ := lw_ix (k := 1) ex125 hI hL rfl (by decide)
    clear tx125
    refine va_sld hx hb hX hbl (Nat.not_le.mpr hbl) hSH102 (vp_in_iff.mpr evx125) dL_law_1501 ?_
    refine W.eq (g2 := F0 m 1502 ls [.int (xs (i.toNatClampNeg + 1)), .ref b]) (congrArg (fun z => F0 m 1502 ls [.int (xs z), .ref b]) ejx125) ?_
    refine x_V (As := [.int (xs (i.toNatClampNeg + 1))]) (rest := []) C (a_X10_look l K G H102 ((xs (i.toNatClampNeg + 1))) hTH102 gb g104 g105 g106 g107) yo_X10_look wM_L_161 ⟨⟨by decide, by decide⟩, show _ ≤ 284929 from Nat.le_trans hc (by decide), show _ ≤ 8247460 from Nat.le_trans hs (by decide)⟩ (x_rv C hTH102 (ci := 10) rfl gb rg_112) rfl hl.1 rfl (Nat.le_of_ble_eq_true rfl) dL_law_1502 hSH102 (AE_new hN hSH102.1) (fun vH126 H126 locsH126 pH126 zH126 kH126 hSH126 => ?_)
    obtain ⟨x127, hvH126, g128, g129, g130, g131, mf132, hTH126⟩ := pH126
    subst hvH126
    have m133 := (m108).trans (fR_kept (x_lt hTH102 kH126 ga (by decide))).symm
    have m134 := (m109).trans (fI_kept (x_lt hTH102 kH126 ga (by decide))).symm
    have m135 := (m111).trans (fI_kept (x_lt hTH102 kH126 gw (by decide))).symm
    have m136 := (m113).trans (fI_kept (x_lt hTH102 kH126 gw (by decide))).symm
    have m137 := (m115).trans (fI_kept (x_lt hTH102 kH126 gw (by decide))).symm
    have m138 := (m117).trans (fI_kept (x_lt hTH102 kH126 gw (by decide))).symm
    have m139 := (m119).trans (fI_kept (x_lt hTH102 kH126 gw (by decide))).symm
    have m140 := (m121).trans (fI_kept (x_lt hTH102 kH126 gw (by decide))).symm
    have m141 := (fV_kept (x_lt hTH102 kH126 ga (by decide))).trans m124
    have m142 := (m110).trans (MF.i mf132 (k := 18) (by decide) (by decide)).symm
    have m143 := (m112).trans (MF.i mf132 (k := 1) (by decide) (by decide)).symm
    have m144 := (m114).trans (MF.i mf132 (k := 2) (by decide) (by decide)).symm
    have m145 := (m116).trans (MF.i mf132 (k := 3) (by decide) (by decide)).symm
    have m146 := (m118).trans (MF.i mf132 (k := 59) (by decide) (by decide)).symm
    have m147 := (m120).trans (MF.i mf132 (k := 62) (by decide) (by decide)).symm
    have m148 := (m122).trans (MF.i mf132 (k := 65) (by decide) (by decide)).symm
    have m149 := (m123).trans (MF.i mf132 (k := 70) (by decide) (by decide)).symm
    refine W.eq (g2 := F0 m 1505 ls [.int x127]) rfl ?_
    refine lv_pop hx hb dL_law_1505 rfl ?_
    refine lv_goto (tgt := 1509) hx hb dL_law_1506 (by decide) ?_
    exact nx G H126 locsH126 _ _ ls ⟨hTH126, hN, ga, gb, g128, g129, g130, g131, ⟨(by rw [← m134, ← m142]; exact rt), (by rw [← m133, ← m135, ← m143]; exact r1), (by rw [← m133, ← m136, ← m144]; exact r4), (by rw [← m133, ← m137, ← m145]; exact r5), (by rw [← m133, ← m138, ← m146]; exact r10), (by rw [← m133, ← m139, ← m147]; exact r13), (by rw [← m133, ← m140, ← m148]; exact r16)⟩, Or.inl ⟨m141, (by rw [← m149]; exact h70)⟩, hSH126⟩ hl ⟨hc, hs, fun _ => ⟨hc0, hs0⟩⟩
  · skip
    obtain ⟨hi, ehi⟩ : ∃ z : Int32, z = fI H b (K.1.2 10 70) := ⟨_, rfl⟩
    rw [← ehi] at h70
    obtain ⟨iq, eiq⟩ : ∃ z : Nat, z = fR H b (K.1.2 10 73) := ⟨_, rfl⟩
    have giq := ty_fr (q := iq) (k := 73) (u := 162) eiq hT gb rg_112 rfl
    rw [← eiq] at q1 q4 q5 q10 q13 q16
    obtain ⟨k1, ek1⟩ : ∃ z : Int32, z = fI H kq (K.1.2 8 1) := ⟨_, rfl⟩
    rw [← ek1] at q1
    obtain ⟨i1, ei1⟩ : ∃ z : Int32, z = fI H iq ((0 : Int32).toNatClampNeg) := ⟨_, rfl⟩
    rw [← ei1] at q1
    obtain ⟨k4, ek4⟩ : ∃ z : Int32, z = fI H kq (K.1.2 8 4) := ⟨_, rfl⟩
    rw [← ek4] at q4
    obtain ⟨i4, ei4⟩ : ∃ z : Int32, z = fI H iq ((1 : Int32).toNatClampNeg) := ⟨_, rfl⟩
    rw [← ei4] at q4
    obtain ⟨k5, ek5⟩ : ∃ z : Int32, z = fI H kq (K.1.2 8 5) := ⟨_, rfl⟩
    rw [← ek5] at q5
    obtain ⟨i5, ei5⟩ : ∃ z : Int32, z = fI H iq ((2 : Int32).toNatClampNeg) := ⟨_, rfl⟩
    rw [← ei5] at q5
    obtain ⟨k10, ek10⟩ : ∃ z : Int32, z = fI H kq (K.1.2 8 10) := ⟨_, rfl⟩
    rw [← ek10] at q10
    obtain ⟨i10, ei10⟩ : ∃ z : Int32, z = fI H iq ((3 : Int32).toNatClampNeg) := ⟨_, rfl⟩
    rw [← ei10] at q10
    obtain ⟨k13, ek13⟩ : ∃ z : Int32, z = fI H kq (K.1.2 8 13) := ⟨_, rfl⟩
    rw [← ek13] at q13
    obtain ⟨i13, ei13⟩ : ∃ z : Int32, z = fI H iq ((4 : Int32).toNatClampNeg) := ⟨_, rfl⟩
    rw [← ei13] at q13
    obtain ⟨k16, ek16⟩ : ∃ z : Int32, z = fI H kq (K.1.2 8 16) := ⟨_, rfl⟩
    rw [← ek16] at q16
    obtain ⟨i16, ei16⟩ : ∃ z : Int32, z = fI H iq ((5 : Int32).toNatClampNeg) := ⟨_, rfl⟩
    rw [← ei16] at q16
    refine lv_aload_n hx hb dL_law_1486 rfl (lv_at hl 2 rfl) ?_
    refine lv_aload_n hx hb dL_law_1487 rfl (lv_at hl 3 rfl) ?_
    refine lv_iload_n hx hb dL_law_1488 rfl (lv_at hl 0 rfl) ?_
    refine lv_iconst (v := 1) hx hb dL_law_1489 (by decide) ?_
    refine lv_iadd hx hb dL_law_1490 ?_
    refine lv_topi (fun x150 ex150 => ?_)
    obtain ⟨tx150, ejx150, evx150⟩ := lw_ix (k := 1) ex150 hI hL rfl (by decide)
    clear tx150
    refine va_sld hx hb hX hbl (Nat.not_le.mpr hbl) hS (vp_in_iff.mpr evx150) dL_law_1491 ?_
    refine W.eq (g2 := F0 m 1492 ls [.int (xs (i.toNatClampNeg + 1)), .ref a]) (congrArg (fun z => F0 m 1492 ls [.int (xs z), .ref a]) ejx150) ?_
    refine x_V (As := [.int (xs (i.toNatClampNeg + 1))]) (rest := []) C (a_X9_look l K G H ((xs (i.toNatClampNeg + 1))) hT ga) yo_X9_look wM_L_158 ⟨⟨by decide, by decide⟩, show _ ≤ 284929 from Nat.le_trans hc (by decide), show _ ≤ 8247460 from Nat.le_trans hs (by decide)⟩ (x_rv C hT (ci := 9) rfl ga rg_68) rfl hl.1 rfl (Nat.le_of_ble_eq_true rfl) dL_law_1492 hS (AE_new hN hS.1) (fun vH151 H151 locsH151 pH151 zH151 kH151 hSH151 => ?_)
    obtain ⟨x152, hvH151, hTH151⟩ := pH151
    subst hvH151
    have g153 : CG (avw K H151 b) := CG.congr (fun k hk j => av_eff hT kH151 gb (by decide) (CG_eff [83, 84] (by decide) k hk)) cg
    have g154 : TU (avw K H151 b) (svw K H151 b) := TU.congr (fun k hk j => av_eff hT kH151 gb (by decide) (TU_eff [83, 84] (by decide) k hk)) (fun k hk => sv_eff hT kH151 gb (by decide)) tu
    have g155 : WD (avw K H151 b) := WD.congr (fun k hk j => av_eff hT kH151 gb (by decide) (WD_eff [83, 84] (by decide) k hk)) wd
    have g156 : IM (avw K H151 b) := IM.congr (fun k hk j => av_eff hT kH151 gb (by decide) (IM_eff [83, 84] (by decide) k hk)) im
    have m157 := (ew).trans (fR_kept (x_lt hT kH151 ga (by decide))).symm
    have m158 := (eta).trans (fI_kept (x_lt hT kH151 ga (by decide))).symm
    have m159 := (etb).trans (fI_kept (x_lt hT kH151 gb (by decide))).symm
    have m160 := (es1).trans (fI_kept (x_lt hT kH151 gw (by decide))).symm
    have m161 := (ey1).trans (fI_kept (x_lt hT kH151 gb (by decide))).symm
    have m162 := (es4).trans (fI_kept (x_lt hT kH151 gw (by decide))).symm
    have m163 := (ey4).trans (fI_kept (x_lt hT kH151 gb (by decide))).symm
    have m164 := (es5).trans (fI_kept (x_lt hT kH151 gw (by decide))).symm
    have m165 := (ey5).trans (fI_kept (x_lt hT kH151 gb (by decide))).symm
    have m166 := (es10).trans (fI_kept (x_lt hT kH151 gw (by decide))).symm
    have m167 := (ey10).trans (fI_kept (x_lt hT kH151 gb (by decide))).symm
    have m168 := (es13).trans (fI_kept (x_lt hT kH151 gw (by decide))).symm
    have m169 := (ey13).trans (fI_kept (x_lt hT kH151 gb (by decide))).symm
    have m170 := (es16).trans (fI_kept (x_lt hT kH151 gw (by decide))).symm
    have m171 := (ey16).trans (fI_kept (x_lt hT kH151 gb (by decide))).symm
    have m172 := (ehi).trans (fI_kept (x_lt hT kH151 gb (by decide))).symm
    have m173 := (fV_kept (x_lt hT kH151 ga (by decide))).trans kn
    have m174 := (eiq).trans (fR_kept (x_lt hT kH151 gb (by decide))).symm
    have m175 := (ek1).trans (fI_kept (x_lt hT kH151 gkq (by decide))).symm
    have m176 := (ei1).trans (fI_kept (x_lt hT kH151 giq (by decide))).symm
    have m177 := (ek4).trans (fI_kept (x_lt hT kH151 gkq (by decide))).symm
    have m178 := (ei4).trans (fI_kept (x_lt hT kH151 giq (by decide))).symm
    have m179 := (ek5).trans (fI_kept (x_lt hT kH151 gkq (by decide))).symm
    have m180 := (ei5).trans (fI_kept (x_lt hT kH151 giq (by decide))).symm
    have m181 := (ek10).trans (fI_kept (x_lt hT kH151 gkq (by decide))).symm
    have m182 := (ei10).trans (fI_kept (x_lt hT kH151 giq (by decide))).symm
    have m183 := (ek13).trans (fI_kept (x_lt hT kH151 gkq (by decide))).symm
    have m184 := (ei13).trans (fI_kept (x_lt hT kH151 giq (by decide))).symm
    have m185 := (ek16).trans (fI_kept (x_lt hT kH151 gkq (by decide))).symm
    have m186 := (ei16).trans (fI_kept (x_lt hT kH151 giq (by decide))).symm
    refine W.eq (g2 := F0 m 1495 ls [.int x152]) rfl ?_
    refine lv_pop hx hb dL_law_1495 rfl ?_
    refine lv_aload_n hx hb dL_law_1496 rfl (lv_at hl 1 rfl) ?_
    refine lv_aload_n hx hb dL_law_1497 rfl (lv_at hl 3 rfl) ?_
    refine lv_iload_n hx hb dL_law_1498 rfl (lv_at hl 0 rfl) ?_
    refine lv_iconst (v := 1) hx hb dL_law_1499 (by decide) ?_
    refine lv_iadd hx hb dL_law_1500 ?_
    refine lv_topi (fun x187 ex187 => ?_)
    obtain ⟨tx187, ejx187, evx187⟩ := lw_ix (k := 1) ex187 hI hL rfl (by decide)
    clear tx187
    refine va_sld hx hb hX hbl (Nat.not_le.mpr hbl) hSH151 (vp_in_iff.mpr evx187) dL_law_1501 ?_
    refine W.eq (g2 := F0 m 1502 ls [.int (xs (i.toNatClampNeg + 1)), .ref b]) (congrArg (fun z => F0 m 1502 ls [.int (xs z), .ref b]) ejx187) ?_
    refine x_V (As := [.int (xs (i.toNatClampNeg + 1))]) (rest := []) C (a_X10_look l K G H151 ((xs (i.toNatClampNeg + 1))) hTH151 gb g153 g154 g155 g156) yo_X10_look wM_L_161 ⟨⟨by decide, by decide⟩, show _ ≤ 284929 from Nat.le_trans hc (by decide), show _ ≤ 8247460 from Nat.le_trans hs (by decide)⟩ (x_rv C hTH151 (ci := 10) rfl gb rg_112) rfl hl.1 rfl (Nat.le_of_ble_eq_true rfl) dL_law_1502 hSH151 (AE_new hN hSH151.1) (fun vH188 H188 locsH188 pH188 zH188 kH188 hSH188 => ?_)
    obtain ⟨x189, hvH188, g190, g191, g192, g193, mf194, hTH188⟩ := pH188
    subst hvH188
    have m195 := (m157).trans (fR_kept (x_lt hTH151 kH188 ga (by decide))).symm
    have m196 := (m158).trans (fI_kept (x_lt hTH151 kH188 ga (by decide))).symm
    have m197 := (m160).trans (fI_kept (x_lt hTH151 kH188 gw (by decide))).symm
    have m198 := (m162).trans (fI_kept (x_lt hTH151 kH188 gw (by decide))).symm
    have m199 := (m164).trans (fI_kept (x_lt hTH151 kH188 gw (by decide))).symm
    have m200 := (m166).trans (fI_kept (x_lt hTH151 kH188 gw (by decide))).symm
    have m201 := (m168).trans (fI_kept (x_lt hTH151 kH188 gw (by decide))).symm
    have m202 := (m170).trans (fI_kept (x_lt hTH151 kH188 gw (by decide))).symm
    have m203 := (fV_kept (x_lt hTH151 kH188 ga (by decide))).trans m173
    have m204 := (m175).trans (fI_kept (x_lt hTH151 kH188 gkq (by decide))).symm
    have m205 := (m176).trans (fI_kept (x_lt hTH151 kH188 giq (by decide))).symm
    have m206 := (m177).trans (fI_kept (x_lt hTH151 kH188 gkq (by decide))).symm
    have m207 := (m178).trans (fI_kept (x_lt hTH151 kH188 giq (by decide))).symm
    have m208 := (m179).trans (fI_kept (x_lt hTH151 kH188 gkq (by decide))).symm
    have m209 := (m180).trans (fI_kept (x_lt hTH151 kH188 giq (by decide))).symm
    have m210 := (m181).trans (fI_kept (x_lt hTH151 kH188 gkq (by decide))).symm
    have m211 := (m182).trans (fI_kept (x_lt hTH151 kH188 giq (by decide))).symm
    have m212 := (m183).trans (fI_kept (x_lt hTH151 kH188 gkq (by decide))).symm
    have m213 := (m184).trans (fI_kept (x_lt hTH151 kH188 giq (by decide))).symm
    have m214 := (m185).trans (fI_kept (x_lt hTH151 kH188 gkq (by decide))).symm
    have m215 := (m186).trans (fI_kept (x_lt hTH151 kH188 giq (by decide))).symm
    have m216 := (m159).trans (MF.i mf194 (k := 18) (by decide) (by decide)).symm
    have m217 := (m161).trans (MF.i mf194 (k := 1) (by decide) (by decide)).symm
    have m218 := (m163).trans (MF.i mf194 (k := 2) (by decide) (by decide)).symm
    have m219 := (m165).trans (MF.i mf194 (k := 3) (by decide) (by decide)).symm
    have m220 := (m167).trans (MF.i mf194 (k := 59) (by decide) (by decide)).symm
    have m221 := (m169).trans (MF.i mf194 (k := 62) (by decide) (by decide)).symm
    have m222 := (m171).trans (MF.i mf194 (k := 65) (by decide) (by decide)).symm
    have m223 := (m172).trans (MF.i mf194 (k := 70) (by decide) (by decide)).symm
    have m224 := (m174).trans (MF.r mf194 (k := 73) (by decide) (by decide)).symm
    refine W.eq (g2 := F0 m 1505 ls [.int x189]) rfl ?_
    refine lv_pop hx hb dL_law_1505 rfl ?_
    refine lv_goto (tgt := 1509) hx hb dL_law_1506 (by decide) ?_
    exact nx G H188 locsH188 _ _ ls ⟨hTH188, hN, ga, gb, g190, g191, g192, g193, ⟨(by rw [← m196, ← m216]; exact rt), (by rw [← m195, ← m197, ← m217]; exact r1), (by rw [← m195, ← m198, ← m218]; exact r4), (by rw [← m195, ← m199, ← m219]; exact r5), (by rw [← m195, ← m200, ← m220]; exact r10), (by rw [← m195, ← m201, ← m221]; exact r13), (by rw [← m195, ← m202, ← m222]; exact r16)⟩, Or.inr ⟨kq, m203, gkq, (by rw [← m223]; exact h70), (by rw [← m204, ← m224, ← m205]; exact q1), (by rw [← m206, ← m224, ← m207]; exact q4), (by rw [← m208, ← m224, ← m209]; exact q5), (by rw [← m210, ← m224, ← m211]; exact q10), (by rw [← m212, ← m224, ← m213]; exact q13), (by rw [← m214, ← m224, ← m215]; exact q16)⟩, hSH188⟩ hl ⟨hc, hs, fun h => by have h1 := h.symm.trans m203; cases h1⟩