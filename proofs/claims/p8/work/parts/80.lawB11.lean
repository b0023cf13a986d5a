set_option maxRecDepth 100000 in
set_option maxHeartbeats 8000000 in
theorem lw_c33 {p : Program} {l : Launch} {e : Env} {s : State} {m : MethodId} {below : List Frame} {meth : Method} {c : Code} {K : KE} {b0 L : Nat} {xs : Nat → Int32} {G : Nat → Option Nat} {H : Heap} {locs : List Loc} {a b : Nat} {cells slots : Nat} {ls : Array Slot} {i : Int32} {n : Nat} (D : LC p K s m meth c b0 L xs) (S : SX K s G H locs a b) (hl : lv_has ls 4 [(3, .int i), (2, .ref b), (1, .ref a), (0, .ref b0)]) (hi : 0 ≤ i.toInt ∧ i.toInt + 6 ≤ L) (hn : n ≤ 511) (hB : BD K H a cells slots) (nx : ∀ (G : Nat → Option Nat) (H : Heap) (locs : List Loc) (cells slots : Nat) (ls : Array Slot), SX K s G H locs a b → lv_has ls 4 [(3, .int i), (2, .ref b), (1, .ref a), (0, .ref b0)] → BD K H a cells slots → W p l e room_1 s m #[Value.ref b0] below meth c H locs cells slots (lw_Z below #[Value.ref b0] s) (F0 m 1509 ls [])) : W p l e room_1 s m #[Value.ref b0] below meth c H locs cells slots (lw_Z below #[Value.ref b0] s) (F0 m 1447 ls []) := by
  obtain ⟨C, hX, hbl, hL⟩ := id D
  obtain ⟨hx, hb, hml, hown, hts, hKT, hr, hlocks, hnm⟩ := id C
  obtain ⟨hT, hN, ga, gb, cg, tu, wd, im, ⟨rt, r1, r4, r5, r10, r13, r16⟩, hk, htb, hS⟩ := S
  obtain ⟨hc, hs, hB0⟩ := hB
  have n_0 : (0 : Int32).toInt = 0 := rfl
  have n_1 : (1 : Int32).toInt = 1 := rfl
  obtain ⟨w, ew⟩ : ∃ z : Nat, z = fR H a (K.1.2 9 0) := ⟨_, rfl⟩
  have gw := ty_fr (q := w) (k := 0) (u := 0) ew hT ga rg_68 rfl
  rw [← ew] at r1 r4 r5 r10 r13 r16
  obtain ⟨ta, eta⟩ : ∃ z : Int32, z = fI H a (K.1.2 9 3) := ⟨_, rfl⟩
  rw [← eta] at rt
  obtain ⟨tb, etb⟩ : ∃ z : Int32, z = fI H b (K.1.2 10 18) := ⟨_, rfl⟩
  rw [← etb] at rt
  obtain ⟨s1, es1⟩ : ∃ z : Int32, z = fI H w (K.1.2 8 1) := ⟨_, rfl⟩
  rw [← es1] at r1
  obtain ⟨y1, ey1⟩ : ∃ z : Int32, z = fI H b (K.1.2 10 1) := ⟨_, rfl⟩
  rw [← ey1] at r1
  obtain ⟨s4, es4⟩ : ∃ z : Int32, z = fI H w (K.1.2 8 4) := ⟨_, rfl⟩
  rw [← es4] at r4
  obtain ⟨y4, ey4⟩ : ∃ z : Int32, z = fI H b (K.1.2 10 2) := ⟨_, rfl⟩
  rw [← ey4] at r4
  obtain ⟨s5, es5⟩ : ∃ z : Int32, z = fI H w (K.1.2 8 5) := ⟨_, rfl⟩
  rw [← es5] at r5
  obtain ⟨y5, ey5⟩ : ∃ z : Int32, z = fI H b (K.1.2 10 3) := ⟨_, rfl⟩
  rw [← ey5] at r5
  obtain ⟨s10, es10⟩ : ∃ z : Int32, z = fI H w (K.1.2 8 10) := ⟨_, rfl⟩
  rw [← es10] at r10
  obtain ⟨y10, ey10⟩ : ∃ z : Int32, z = fI H b (K.1.2 10 59) := ⟨_, rfl⟩
  rw [← ey10] at r10
  obtain ⟨s13, es13⟩ : ∃ z : Int32, z = fI H w (K.1.2 8 13) := ⟨_, rfl⟩
  rw [← es13] at r13
  obtain ⟨y13, ey13⟩ : ∃ z : Int32, z = fI H b (K.1.2 10 62) := ⟨_, rfl⟩
  rw [← ey13] at r13
  obtain ⟨s16, es16⟩ : ∃ z : Int32, z = fI H w (K.1.2 8 16) := ⟨_, rfl⟩
  rw [← es16] at r16
  obtain ⟨y16, ey16⟩ : ∃ z : Int32, z = fI H b (K.1.2 10 65) := ⟨_, rfl⟩
  rw [← ey16] at r16
  obtain ⟨tq, etq⟩ : ∃ z : Nat, z = fR H a (K.1.2 9 2) := ⟨_, rfl⟩
  have gtq := ty_fr (q := tq) (k := 2) (u := 108) etq hT ga rg_68 rfl
  obtain ⟨uq, euq⟩ : ∃ z : Nat, z = fR H b (K.1.2 10 17) := ⟨_, rfl⟩
  have guq := ty_fr (q := uq) (k := 17) (u := 126) euq hT gb rg_112 rfl
  have htr : TBR (fun j => fI H tq j) (fun j => fI H uq j) tb.toNatClampNeg := by rw [etq, euq, etb]; exact htb
  have ft0 : ∀ j : Nat, fI H tq j = fI H tq j := fun _ => rfl
  have fu0 : ∀ j : Nat, fI H uq j = fI H uq j := fun _ => rfl
  have bta := ty_fi (x := ta) (k := 3) eta hT ga rg_68 rfl
  have cta := i_cl (x := ta) (by omega)
  have btb := ty_fi (x := tb) (k := 18) etb hT gb rg_112 rfl
  have ctb := i_cl (x := tb) (by omega)
  rcases hk with ⟨kn, h70⟩ | ⟨kq, kn, gkq, h70, q1, q4, q5, q10, q13, q16⟩
  · skip
    obtain ⟨hi, ehi⟩ : ∃ z : Int32, z = fI H b (K.1.2 10 70) := ⟨_, rfl⟩
    rw [← ehi] at h70
    obtain ⟨hc0, hs0⟩ := hB0 kn
    refine lv_aload_n hx hb dL_law_1447 rfl (lv_at hl 2 rfl) ?_
    refine lv_aload_n hx hb dL_law_1448 rfl (lv_at hl 3 rfl) ?_
    refine lv_iload_n hx hb dL_law_1449 rfl (lv_at hl 0 rfl) ?_
    refine lv_iconst (v := 1) hx hb dL_law_1450 (by decide) ?_
    refine lv_iadd hx hb dL_law_1451 ?_
    refine lv_topi (fun x101 ex101 => ?_)
    have tx101 := i_add ex101 (by omega)
    have ejx101 : x101.toNatClampNeg = i.toNatClampNeg + 1 := by have h1 := i_cl (x := x101) (by omega); have h2 := i_cl (x := i) (by omega); omega
    refine va_sld hx hb hX hbl (Nat.not_le.mpr hbl) hS (vp_in_iff.mpr (by omega)) dL_law_1452 ?_
    refine W.eq (g2 := F0 m 1453 ls [.int (xs (i.toNatClampNeg + 1)), .ref a]) (congrArg (fun z => F0 m 1453 ls [.int (xs z), .ref a]) ejx101) ?_
    refine lv_if_eq (tgt := 1460) hx hb dL_law_1453 (by decide) (fun c1453 => ?_) (fun c1453 => ?_)
    · skip
      refine lv_iconst (v := 0) hx hb dL_law_1460 (by decide) ?_
      refine x_V (As := [.int 0]) (rest := []) C (a_X9_image_r0n l K G H (s1) (s4) (s5) (s10) (s13) (s16) (ta)  hT ga gw ew es1 es4 es5 es10 es13 es16 eta kn  gtq etq) yo_X9_image wM_L_153 ⟨⟨by decide, by decide⟩, show _ ≤ 284929 by omega, show _ ≤ 8247460 by omega⟩ (x_rv C hT (ci := 9) rfl ga rg_68) rfl hl.1 rfl (Nat.le_of_ble_eq_true rfl) dL_law_1461 hS (AE_new hN hS.1) (fun vH102 H102 locsH102 pH102 zH102 kH102 hSH102 => ?_)
      obtain ⟨x103, hvH102, bx103, G104, mH102, m105, m106, m121, m107, m108, m109, m110, m111, m112, m119, hTH102⟩ := pH102
      subst hvH102
      have g122 : CG (avw K H102 b) := CG.congr (fun k hk j => av_eff hT kH102 gb (by decide) (CG_eff [68, 34, 35, 36, 37, 38, 39, 40, 41, 42, 43, 44, 46, 48, 49, 50, 51, 52, 53, 54, 55, 56, 57, 58, 62, 63, 64, 65, 66, 67, 0, 1, 2, 3, 4, 5, 6, 7, 8, 9, 10, 12, 14, 15, 16, 17, 18, 19, 20, 21, 22, 23, 24, 28, 29, 30, 31, 32, 33] (by decide) k hk)) cg
      have g123 : TU (avw K H102 b) (svw K H102 b) := TU.congr (fun k hk j => av_eff hT kH102 gb (by decide) (TU_eff [68, 34, 35, 36, 37, 38, 39, 40, 41, 42, 43, 44, 46, 48, 49, 50, 51, 52, 53, 54, 55, 56, 57, 58, 62, 63, 64, 65, 66, 67, 0, 1, 2, 3, 4, 5, 6, 7, 8, 9, 10, 12, 14, 15, 16, 17, 18, 19, 20, 21, 22, 23, 24, 28, 29, 30, 31, 32, 33] (by decide) k hk)) (fun k hk => sv_eff hT kH102 gb (by decide)) tu
      have g124 : WD (avw K H102 b) := WD.congr (fun k hk j => av_eff hT kH102 gb (by decide) (WD_eff [68, 34, 35, 36, 37, 38, 39, 40, 41, 42, 43, 44, 46, 48, 49, 50, 51, 52, 53, 54, 55, 56, 57, 58, 62, 63, 64, 65, 66, 67, 0, 1, 2, 3, 4, 5, 6, 7, 8, 9, 10, 12, 14, 15, 16, 17, 18, 19, 20, 21, 22, 23, 24, 28, 29, 30, 31, 32, 33] (by decide) k hk)) wd
      have g125 : IM (avw K H102 b) := IM.congr (fun k hk j => av_eff hT kH102 gb (by decide) (IM_eff [68, 34, 35, 36, 37, 38, 39, 40, 41, 42, 43, 44, 46, 48, 49, 50, 51, 52, 53, 54, 55, 56, 57, 58, 62, 63, 64, 65, 66, 67, 0, 1, 2, 3, 4, 5, 6, 7, 8, 9, 10, 12, 14, 15, 16, 17, 18, 19, 20, 21, 22, 23, 24, 28, 29, 30, 31, 32, 33] (by decide) k hk)) im
      have f126 : ∀ j : Nat, fI H102 tq j = fI H tq j := fun j => (fI_kept (x_lt hT kH102 gtq (by decide))).trans (ft0 j)
      have f127 : ∀ j : Nat, fI H102 uq j = fI H uq j := fun j => (fI_kept (x_lt hT kH102 guq (by decide))).trans (fu0 j)
      have m128 := (etb).trans (fI_kept (x_lt hT kH102 gb (by decide))).symm
      have m129 := (ey1).trans (fI_kept (x_lt hT kH102 gb (by decide))).symm
      have m130 := (ey4).trans (fI_kept (x_lt hT kH102 gb (by decide))).symm
      have m131 := (ey5).trans (fI_kept (x_lt hT kH102 gb (by decide))).symm
      have m132 := (ey10).trans (fI_kept (x_lt hT kH102 gb (by decide))).symm
      have m133 := (ey13).trans (fI_kept (x_lt hT kH102 gb (by decide))).symm
      have m134 := (ey16).trans (fI_kept (x_lt hT kH102 gb (by decide))).symm
      have m135 := (euq).trans (fR_kept (x_lt hT kH102 gb (by decide))).symm
      have m136 := (ehi).trans (fI_kept (x_lt hT kH102 gb (by decide))).symm
      have gaH102 := (mH102 a (hT.lt ga)).trans ga
      have gbH102 := (mH102 b (hT.lt gb)).trans gb
      have gwH102 := (mH102 w (hT.lt gw)).trans gw
      have gtqH102 := (mH102 tq (hT.lt gtq)).trans gtq
      have guqH102 := (mH102 uq (hT.lt guq)).trans guq
      have hNH102 : ∀ q, q < s.heap.size → G104 q = none := fun q hq => (mH102 q (Nat.lt_of_lt_of_le hq hS.1)).trans (hN q hq)
      refine W.eq (g2 := F0 m 1464 ls [.int x103]) rfl ?_
      refine lv_pop hx hb dL_law_1464 rfl ?_
      refine lv_aload_n hx hb dL_law_1465 rfl (lv_at hl 1 rfl) ?_
      refine lv_aload_n hx hb dL_law_1466 rfl (lv_at hl 3 rfl) ?_
      refine lv_iload_n hx hb dL_law_1467 rfl (lv_at hl 0 rfl) ?_
      refine lv_iconst (v := 1) hx hb dL_law_1468 (by decide) ?_
      refine lv_iadd hx hb dL_law_1469 ?_
      refine lv_topi (fun x137 ex137 => ?_)
      have tx137 := i_add ex137 (by omega)
      have ejx137 : x137.toNatClampNeg = i.toNatClampNeg + 1 := by have h1 := i_cl (x := x137) (by omega); have h2 := i_cl (x := i) (by omega); omega
      refine va_sld hx hb hX hbl (Nat.not_le.mpr hbl) hSH102 (vp_in_iff.mpr (by omega)) dL_law_1470 ?_
      refine W.eq (g2 := F0 m 1471 ls [.int (xs (i.toNatClampNeg + 1)), .ref b]) (congrArg (fun z => F0 m 1471 ls [.int (xs z), .ref b]) ejx137) ?_
      refine lv_if_eq (tgt := 1478) hx hb dL_law_1471 (by decide) (fun c1471 => ?_) (fun c1471 => ?_)
      · skip
        refine lv_iconst (v := 0) hx hb dL_law_1478 (by decide) ?_
        obtain ⟨q138, eq138⟩ : ∃ z : Nat, z = fR H102 b (K.1.2 10 73) := ⟨_, rfl⟩
        have gq138 := ty_fr (q := q138) (k := 73) (u := 162) eq138 hTH102 gbH102 rg_112 rfl
        obtain ⟨q139, eq139⟩ : ∃ z : Nat, z = fR H102 b (K.1.2 10 4) := ⟨_, rfl⟩
        have gq139 := ty_fr (q := q139) (k := 4) (u := 113) eq139 hTH102 gbH102 rg_112 rfl
        obtain ⟨q140, eq140⟩ : ∃ z : Nat, z = fR H102 b (K.1.2 10 10) := ⟨_, rfl⟩
        have gq140 := ty_fr (q := q140) (k := 10) (u := 119) eq140 hTH102 gbH102 rg_112 rfl
        obtain ⟨q141, eq141⟩ : ∃ z : Nat, z = fR H102 b (K.1.2 10 16) := ⟨_, rfl⟩
        have gq141 := ty_fr (q := q141) (k := 16) (u := 125) eq141 hTH102 gbH102 rg_112 rfl
        obtain ⟨q142, eq142⟩ : ∃ z : Nat, z = fR H102 b (K.1.2 10 24) := ⟨_, rfl⟩
        have gq142 := ty_fr (q := q142) (k := 24) (u := 128) eq142 hTH102 gbH102 rg_112 rfl
        obtain ⟨q143, eq143⟩ : ∃ z : Nat, z = fR H102 b (K.1.2 10 27) := ⟨_, rfl⟩
        have gq143 := ty_fr (q := q143) (k := 27) (u := 131) eq143 hTH102 gbH102 rg_112 rfl
        obtain ⟨q144, eq144⟩ : ∃ z : Nat, z = fR H102 b (K.1.2 10 29) := ⟨_, rfl⟩
        have gq144 := ty_fr (q := q144) (k := 29) (u := 133) eq144 hTH102 gbH102 rg_112 rfl
        obtain ⟨q145, eq145⟩ : ∃ z : Nat, z = fR H102 b (K.1.2 10 30) := ⟨_, rfl⟩
        have gq145 := ty_fr (q := q145) (k := 30) (u := 134) eq145 hTH102 gbH102 rg_112 rfl
        obtain ⟨q146, eq146⟩ : ∃ z : Nat, z = fR H102 b (K.1.2 10 31) := ⟨_, rfl⟩
        have gq146 := ty_fr (q := q146) (k := 31) (u := 135) eq146 hTH102 gbH102 rg_112 rfl
        obtain ⟨q147, eq147⟩ : ∃ z : Nat, z = fR H102 b (K.1.2 10 32) := ⟨_, rfl⟩
        have gq147 := ty_fr (q := q147) (k := 32) (u := 136) eq147 hTH102 gbH102 rg_112 rfl
        obtain ⟨q148, eq148⟩ : ∃ z : Nat, z = fR H102 b (K.1.2 10 33) := ⟨_, rfl⟩
        have gq148 := ty_fr (q := q148) (k := 33) (u := 137) eq148 hTH102 gbH102 rg_112 rfl
        obtain ⟨q149, eq149⟩ : ∃ z : Nat, z = fR H102 b (K.1.2 10 50) := ⟨_, rfl⟩
        have gq149 := ty_fr (q := q149) (k := 50) (u := 146) eq149 hTH102 gbH102 rg_112 rfl
        refine x_V (As := [.int 0]) (rest := []) C (a_X10_image l K G104 H102 (0) (hi) (y1) (y4) (y5) (y10) (y13) (y16) hTH102 gbH102 (by decide) gq138 eq138 gq139 eq139 gq140 eq140 gq141 eq141 gq142 eq142 gq143 eq143 gq144 eq144 gq145 eq145 gq146 eq146 gq147 eq147 gq148 eq148 gq149 eq149 m136 m129 m130 m131 m132 m133 m134 g122 g123 g124 g125) yo_X10_image wM_L_157 ⟨⟨by decide, by decide⟩, show _ ≤ 284929 by omega, show _ ≤ 8247460 by omega⟩ (x_rv C hTH102 (ci := 10) rfl gbH102 rg_112) rfl hl.1 rfl (Nat.le_of_ble_eq_true rfl) dL_law_1479 hSH102 (AE_new hNH102 hSH102.1) (fun vH150 H150 locsH150 pH150 zH150 kH150 hSH150 => ?_)
        obtain ⟨x151, x152, x153, x154, x155, x156, x157, x158, hvH150, bx151, ex152, ex153, ex154, ex155, ex156, ex157, ex158, hrH150, m159, m160, m161, m162, m163, m164, m165, m166, m167, m168, m169, m170, g171, g172, g173, g174, mf175, m176, m177, m178, hTH150⟩ := pH150
        subst hvH150
        have f179 : ∀ j : Nat, fI H150 tq j = fI H tq j := fun j => (fI_kept (x_lt hTH102 kH150 gtqH102 (by decide))).trans (f126 j)
        have f180 : ∀ j : Nat, fI H150 uq j = fI H uq j := fun j => (fI_kept (x_lt hTH102 kH150 guqH102 (by decide))).trans (f127 j)
        have m181 := (m105).trans (fR_kept (x_lt hTH102 kH150 gaH102 (by decide))).symm
        have m182 := (m106).trans (fI_kept (x_lt hTH102 kH150 gaH102 (by decide))).symm
        have m183 := (m121).trans (fR_kept (x_lt hTH102 kH150 gaH102 (by decide))).symm
        have m184 := (m107).trans (fI_kept (x_lt hTH102 kH150 gwH102 (by decide))).symm
        have m185 := (m108).trans (fI_kept (x_lt hTH102 kH150 gwH102 (by decide))).symm
        have m186 := (m109).trans (fI_kept (x_lt hTH102 kH150 gwH102 (by decide))).symm
        have m187 := (m110).trans (fI_kept (x_lt hTH102 kH150 gwH102 (by decide))).symm
        have m188 := (m111).trans (fI_kept (x_lt hTH102 kH150 gwH102 (by decide))).symm
        have m189 := (m112).trans (fI_kept (x_lt hTH102 kH150 gwH102 (by decide))).symm
        have m190 := (fV_kept (x_lt hTH102 kH150 gaH102 (by decide))).trans m119
        have m191 := (m128).trans (MF.i mf175 (k := 18) (by decide) (by decide)).symm
        have m192 := (m135).trans (MF.r mf175 (k := 17) (by decide) (by decide)).symm
        have m193 := (eq138).trans (MF.r mf175 (k := 73) (by decide) (by decide)).symm
        have m194 := (eq139).trans (MF.r mf175 (k := 4) (by decide) (by decide)).symm
        have m195 := (eq140).trans (MF.r mf175 (k := 10) (by decide) (by decide)).symm
        have m196 := (eq141).trans (MF.r mf175 (k := 16) (by decide) (by decide)).symm
        have m197 := (eq142).trans (MF.r mf175 (k := 24) (by decide) (by decide)).symm
        have m198 := (eq143).trans (MF.r mf175 (k := 27) (by decide) (by decide)).symm
        have m199 := (eq144).trans (MF.r mf175 (k := 29) (by decide) (by decide)).symm
        have m200 := (eq145).trans (MF.r mf175 (k := 30) (by decide) (by decide)).symm
        have m201 := (eq146).trans (MF.r mf175 (k := 31) (by decide) (by decide)).symm
        have m202 := (eq147).trans (MF.r mf175 (k := 32) (by decide) (by decide)).symm
        have m203 := (eq148).trans (MF.r mf175 (k := 33) (by decide) (by decide)).symm
        have m204 := (eq149).trans (MF.r mf175 (k := 50) (by decide) (by decide)).symm
        have bx152 := ty_fi (x := x152) (k := 70) ex152 hTH150 gbH102 rg_112 rfl
        have bx153 := ty_fi (x := x153) (k := 1) ex153 hTH150 gbH102 rg_112 rfl
        have bx154 := ty_fi (x := x154) (k := 2) ex154 hTH150 gbH102 rg_112 rfl
        have bx155 := ty_fi (x := x155) (k := 3) ex155 hTH150 gbH102 rg_112 rfl
        have bx156 := ty_fi (x := x156) (k := 59) ex156 hTH150 gbH102 rg_112 rfl
        have bx157 := ty_fi (x := x157) (k := 62) ex157 hTH150 gbH102 rg_112 rfl
        have bx158 := ty_fi (x := x158) (k := 65) ex158 hTH150 gbH102 rg_112 rfl
        refine W.eq (g2 := F0 m 1482 ls [.int x151]) rfl ?_
        refine lv_pop hx hb dL_law_1482 rfl ?_
        refine lv_goto (tgt := 1509) hx hb dL_law_1483 (by decide) ?_
        exact nx G104 H150 locsH150 _ _ ls ⟨hTH150, hNH102, gaH102, gbH102, g171, g172, g173, g174, ⟨(by rw [← m182, ← m191]; omega), (by rw [← m181, ← m184, ← ex153]; omega), (by rw [← m181, ← m185, ← ex154]; omega), (by rw [← m181, ← m186, ← ex155]; omega), (by rw [← m181, ← m187, ← ex156]; omega), (by rw [← m181, ← m188, ← ex157]; omega), (by rw [← m181, ← m189, ← ex158]; omega)⟩, Or.inl ⟨m190, (by rw [← ex152]; omega)⟩, (by unfold TB; rw [← m183, ← m192, ← m191]; exact TBR.of htr f179 f180 (by omega)), hSH150⟩ hl ⟨by omega, by omega, fun _ => ⟨by omega, by omega⟩⟩
      · skip
        exact absurd c1453 c1471
    · skip
      refine lv_iconst (v := 1) hx hb dL_law_1456 (by decide) ?_
      refine lv_goto (tgt := 1461) hx hb dL_law_1457 (by decide) ?_
      refine x_V (As := [.int 1]) (rest := []) C (a_X9_image_r1n l K G H (s1) (s4) (s5) (s10) (s13) (s16) (ta)  hT ga gw ew es1 es4 es5 es10 es13 es16 eta kn  gtq etq) yo_X9_image wM_L_153 ⟨⟨by decide, by decide⟩, show _ ≤ 284929 by omega, show _ ≤ 8247460 by omega⟩ (x_rv C hT (ci := 9) rfl ga rg_68) rfl hl.1 rfl (Nat.le_of_ble_eq_true rfl) dL_law_1461 hS (AE_new hN hS.1) (fun vH205 H205 locsH205 pH205 zH205 kH205 hSH205 => ?_)
      obtain ⟨x206, hvH205, bx206, G207, mH205, m208, m209, m224, hTH205, m210, m211, m212, m213, m214, m215, q223, m222, gq223, m216, m217, m218, m219, m220, m221⟩ := pH205
      subst hvH205
      have g225 : CG (avw K H205 b) := CG.congr (fun k hk j => av_eff hT kH205 gb (by decide) (CG_eff [68, 34, 35, 36, 37, 38, 39, 40, 41, 42, 43, 44, 46, 48, 49, 50, 51, 52, 53, 54, 55, 56, 57, 58, 62, 63, 64, 65, 66, 67, 0, 1, 2, 3, 4, 5, 6, 7, 8, 9, 10, 12, 14, 15, 16, 17, 18, 19, 20, 21, 22, 23, 24, 28, 29, 30, 31, 32, 33] (by decide) k hk)) cg
      have g226 : TU (avw K H205 b) (svw K H205 b) := TU.congr (fun k hk j => av_eff hT kH205 gb (by decide) (TU_eff [68, 34, 35, 36, 37, 38, 39, 40, 41, 42, 43, 44, 46, 48, 49, 50, 51, 52, 53, 54, 55, 56, 57, 58, 62, 63, 64, 65, 66, 67, 0, 1, 2, 3, 4, 5, 6, 7, 8, 9, 10, 12, 14, 15, 16, 17, 18, 19, 20, 21, 22, 23, 24, 28, 29, 30, 31, 32, 33] (by decide) k hk)) (fun k hk => sv_eff hT kH205 gb (by decide)) tu
      have g227 : WD (avw K H205 b) := WD.congr (fun k hk j => av_eff hT kH205 gb (by decide) (WD_eff [68, 34, 35, 36, 37, 38, 39, 40, 41, 42, 43, 44, 46, 48, 49, 50, 51, 52, 53, 54, 55, 56, 57, 58, 62, 63, 64, 65, 66, 67, 0, 1, 2, 3, 4, 5, 6, 7, 8, 9, 10, 12, 14, 15, 16, 17, 18, 19, 20, 21, 22, 23, 24, 28, 29, 30, 31, 32, 33] (by decide) k hk)) wd
      have g228 : IM (avw K H205 b) := IM.congr (fun k hk j => av_eff hT kH205 gb (by decide) (IM_eff [68, 34, 35, 36, 37, 38, 39, 40, 41, 42, 43, 44, 46, 48, 49, 50, 51, 52, 53, 54, 55, 56, 57, 58, 62, 63, 64, 65, 66, 67, 0, 1, 2, 3, 4, 5, 6, 7, 8, 9, 10, 12, 14, 15, 16, 17, 18, 19, 20, 21, 22, 23, 24, 28, 29, 30, 31, 32, 33] (by decide) k hk)) im
      have f229 : ∀ j : Nat, fI H205 tq j = fI H tq j := fun j => (fI_kept (x_lt hT kH205 gtq (by decide))).trans (ft0 j)
      have f230 : ∀ j : Nat, fI H205 uq j = fI H uq j := fun j => (fI_kept (x_lt hT kH205 guq (by decide))).trans (fu0 j)
      have m231 := (etb).trans (fI_kept (x_lt hT kH205 gb (by decide))).symm
      have m232 := (ey1).trans (fI_kept (x_lt hT kH205 gb (by decide))).symm
      have m233 := (ey4).trans (fI_kept (x_lt hT kH205 gb (by decide))).symm
      have m234 := (ey5).trans (fI_kept (x_lt hT kH205 gb (by decide))).symm
      have m235 := (ey10).trans (fI_kept (x_lt hT kH205 gb (by decide))).symm
      have m236 := (ey13).trans (fI_kept (x_lt hT kH205 gb (by decide))).symm
      have m237 := (ey16).trans (fI_kept (x_lt hT kH205 gb (by decide))).symm
      have m238 := (euq).trans (fR_kept (x_lt hT kH205 gb (by decide))).symm
      have m239 := (ehi).trans (fI_kept (x_lt hT kH205 gb (by decide))).symm
      have gaH205 := (mH205 a (hT.lt ga)).trans ga
      have gbH205 := (mH205 b (hT.lt gb)).trans gb
      have gwH205 := (mH205 w (hT.lt gw)).trans gw
      have gtqH205 := (mH205 tq (hT.lt gtq)).trans gtq
      have guqH205 := (mH205 uq (hT.lt guq)).trans guq
      have hNH205 : ∀ q, q < s.heap.size → G207 q = none := fun q hq => (mH205 q (Nat.lt_of_lt_of_le hq hS.1)).trans (hN q hq)
      obtain ⟨x240, ex240⟩ : ∃ z : Int32, z = fI H205 q223 (K.1.2 8 1) := ⟨_, rfl⟩
      rw [← ex240] at m216
      obtain ⟨x241, ex241⟩ : ∃ z : Int32, z = fI H205 q223 (K.1.2 8 4) := ⟨_, rfl⟩
      rw [← ex241] at m217
      obtain ⟨x242, ex242⟩ : ∃ z : Int32, z = fI H205 q223 (K.1.2 8 5) := ⟨_, rfl⟩
      rw [← ex242] at m218
      obtain ⟨x243, ex243⟩ : ∃ z : Int32, z = fI H205 q223 (K.1.2 8 10) := ⟨_, rfl⟩
      rw [← ex243] at m219
      obtain ⟨x244, ex244⟩ : ∃ z : Int32, z = fI H205 q223 (K.1.2 8 13) := ⟨_, rfl⟩
      rw [← ex244] at m220
      obtain ⟨x245, ex245⟩ : ∃ z : Int32, z = fI H205 q223 (K.1.2 8 16) := ⟨_, rfl⟩
      rw [← ex245] at m221
      refine W.eq (g2 := F0 m 1464 ls [.int x206]) rfl ?_
      refine lv_pop hx hb dL_law_1464 rfl ?_
      refine lv_aload_n hx hb dL_law_1465 rfl (lv_at hl 1 rfl) ?_
      refine lv_aload_n hx hb dL_law_1466 rfl (lv_at hl 3 rfl) ?_
      refine lv_iload_n hx hb dL_law_1467 rfl (lv_at hl 0 rfl) ?_
      refine lv_iconst (v := 1) hx hb dL_law_1468 (by decide) ?_
      refine lv_iadd hx hb dL_law_1469 ?_
      refine lv_topi (fun x246 ex246 => ?_)
      have tx246 := i_add ex246 (by omega)
      have ejx246 : x246.toNatClampNeg = i.toNatClampNeg + 1 := by have h1 := i_cl (x := x246) (by omega); have h2 := i_cl (x := i) (by omega); omega
      refine va_sld hx hb hX hbl (Nat.not_le.mpr hbl) hSH205 (vp_in_iff.mpr (by omega)) dL_law_1470 ?_
      refine W.eq (g2 := F0 m 1471 ls [.int (xs (i.toNatClampNeg + 1)), .ref b]) (congrArg (fun z => F0 m 1471 ls [.int (xs z), .ref b]) ejx246) ?_
      refine lv_if_eq (tgt := 1478) hx hb dL_law_1471 (by decide) (fun c1471 => ?_) (fun c1471 => ?_)
      · skip
        exact absurd c1471 c1453
      · skip
        refine lv_iconst (v := 1) hx hb dL_law_1474 (by decide) ?_
        refine lv_goto (tgt := 1479) hx hb dL_law_1475 (by decide) ?_
        obtain ⟨q247, eq247⟩ : ∃ z : Nat, z = fR H205 b (K.1.2 10 73) := ⟨_, rfl⟩
        have gq247 := ty_fr (q := q247) (k := 73) (u := 162) eq247 hTH205 gbH205 rg_112 rfl
        obtain ⟨q248, eq248⟩ : ∃ z : Nat, z = fR H205 b (K.1.2 10 4) := ⟨_, rfl⟩
        have gq248 := ty_fr (q := q248) (k := 4) (u := 113) eq248 hTH205 gbH205 rg_112 rfl
        obtain ⟨q249, eq249⟩ : ∃ z : Nat, z = fR H205 b (K.1.2 10 10) := ⟨_, rfl⟩
        have gq249 := ty_fr (q := q249) (k := 10) (u := 119) eq249 hTH205 gbH205 rg_112 rfl
        obtain ⟨q250, eq250⟩ : ∃ z : Nat, z = fR H205 b (K.1.2 10 16) := ⟨_, rfl⟩
        have gq250 := ty_fr (q := q250) (k := 16) (u := 125) eq250 hTH205 gbH205 rg_112 rfl
        obtain ⟨q251, eq251⟩ : ∃ z : Nat, z = fR H205 b (K.1.2 10 24) := ⟨_, rfl⟩
        have gq251 := ty_fr (q := q251) (k := 24) (u := 128) eq251 hTH205 gbH205 rg_112 rfl
        obtain ⟨q252, eq252⟩ : ∃ z : Nat, z = fR H205 b (K.1.2 10 27) := ⟨_, rfl⟩
        have gq252 := ty_fr (q := q252) (k := 27) (u := 131) eq252 hTH205 gbH205 rg_112 rfl
        obtain ⟨q253, eq253⟩ : ∃ z : Nat, z = fR H205 b (K.1.2 10 29) := ⟨_, rfl⟩
        have gq253 := ty_fr (q := q253) (k := 29) (u := 133) eq253 hTH205 gbH205 rg_112 rfl
        obtain ⟨q254, eq254⟩ : ∃ z : Nat, z = fR H205 b (K.1.2 10 30) := ⟨_, rfl⟩
        have gq254 := ty_fr (q := q254) (k := 30) (u := 134) eq254 hTH205 gbH205 rg_112 rfl
        obtain ⟨q255, eq255⟩ : ∃ z : Nat, z = fR H205 b (K.1.2 10 31) := ⟨_, rfl⟩
        have gq255 := ty_fr (q := q255) (k := 31) (u := 135) eq255 hTH205 gbH205 rg_112 rfl
        obtain ⟨q256, eq256⟩ : ∃ z : Nat, z = fR H205 b (K.1.2 10 32) := ⟨_, rfl⟩
        have gq256 := ty_fr (q := q256) (k := 32) (u := 136) eq256 hTH205 gbH205 rg_112 rfl
        obtain ⟨q257, eq257⟩ : ∃ z : Nat, z = fR H205 b (K.1.2 10 33) := ⟨_, rfl⟩
        have gq257 := ty_fr (q := q257) (k := 33) (u := 137) eq257 hTH205 gbH205 rg_112 rfl
        obtain ⟨q258, eq258⟩ : ∃ z : Nat, z = fR H205 b (K.1.2 10 50) := ⟨_, rfl⟩
        have gq258 := ty_fr (q := q258) (k := 50) (u := 146) eq258 hTH205 gbH205 rg_112 rfl
        refine x_V (As := [.int 1]) (rest := []) C (a_X10_image l K G207 H205 (1) (hi) (y1) (y4) (y5) (y10) (y13) (y16) hTH205 gbH205 (by decide) gq247 eq247 gq248 eq248 gq249 eq249 gq250 eq250 gq251 eq251 gq252 eq252 gq253 eq253 gq254 eq254 gq255 eq255 gq256 eq256 gq257 eq257 gq258 eq258 m239 m232 m233 m234 m235 m236 m237 g225 g226 g227 g228) yo_X10_image wM_L_157 ⟨⟨by decide, by decide⟩, show _ ≤ 284929 by omega, show _ ≤ 8247460 by omega⟩ (x_rv C hTH205 (ci := 10) rfl gbH205 rg_112) rfl hl.1 rfl (Nat.le_of_ble_eq_true rfl) dL_law_1479 hSH205 (AE_new hNH205 hSH205.1) (fun vH259 H259 locsH259 pH259 zH259 kH259 hSH259 => ?_)
        obtain ⟨x260, x261, x262, x263, x264, x265, x266, x267, hvH259, bx260, ex261, ex262, ex263, ex264, ex265, ex266, ex267, hrH259, m268, m269, m270, m271, m272, m273, m274, m275, m276, m277, m278, m279, g280, g281, g282, g283, mf284, m285, m286, m287, hTH259⟩ := pH259
        subst hvH259
        have f288 : ∀ j : Nat, fI H259 tq j = fI H tq j := fun j => (fI_kept (x_lt hTH205 kH259 gtqH205 (by decide))).trans (f229 j)
        have f289 : ∀ j : Nat, fI H259 uq j = fI H uq j := fun j => (fI_kept (x_lt hTH205 kH259 guqH205 (by decide))).trans (f230 j)
        have m290 := (m208).trans (fR_kept (x_lt hTH205 kH259 gaH205 (by decide))).symm
        have m291 := (m209).trans (fI_kept (x_lt hTH205 kH259 gaH205 (by decide))).symm
        have m292 := (m224).trans (fR_kept (x_lt hTH205 kH259 gaH205 (by decide))).symm
        have m293 := (m210).trans (fI_kept (x_lt hTH205 kH259 gwH205 (by decide))).symm
        have m294 := (m211).trans (fI_kept (x_lt hTH205 kH259 gwH205 (by decide))).symm
        have m295 := (m212).trans (fI_kept (x_lt hTH205 kH259 gwH205 (by decide))).symm
        have m296 := (m213).trans (fI_kept (x_lt hTH205 kH259 gwH205 (by decide))).symm
        have m297 := (m214).trans (fI_kept (x_lt hTH205 kH259 gwH205 (by decide))).symm
        have m298 := (m215).trans (fI_kept (x_lt hTH205 kH259 gwH205 (by decide))).symm
        have m299 := (ex240).trans (fI_kept (x_lt hTH205 kH259 gq223 (by decide))).symm
        have m300 := (ex241).trans (fI_kept (x_lt hTH205 kH259 gq223 (by decide))).symm
        have m301 := (ex242).trans (fI_kept (x_lt hTH205 kH259 gq223 (by decide))).symm
        have m302 := (ex243).trans (fI_kept (x_lt hTH205 kH259 gq223 (by decide))).symm
        have m303 := (ex244).trans (fI_kept (x_lt hTH205 kH259 gq223 (by decide))).symm
        have m304 := (ex245).trans (fI_kept (x_lt hTH205 kH259 gq223 (by decide))).symm
        have m305 := (fV_kept (x_lt hTH205 kH259 gaH205 (by decide))).trans m222
        have m306 := (m231).trans (MF.i mf284 (k := 18) (by decide) (by decide)).symm
        have m307 := (m238).trans (MF.r mf284 (k := 17) (by decide) (by decide)).symm
        have m308 := (eq247).trans (MF.r mf284 (k := 73) (by decide) (by decide)).symm
        have m309 := (eq248).trans (MF.r mf284 (k := 4) (by decide) (by decide)).symm
        have m310 := (eq249).trans (MF.r mf284 (k := 10) (by decide) (by decide)).symm
        have m311 := (eq250).trans (MF.r mf284 (k := 16) (by decide) (by decide)).symm
        have m312 := (eq251).trans (MF.r mf284 (k := 24) (by decide) (by decide)).symm
        have m313 := (eq252).trans (MF.r mf284 (k := 27) (by decide) (by decide)).symm
        have m314 := (eq253).trans (MF.r mf284 (k := 29) (by decide) (by decide)).symm
        have m315 := (eq254).trans (MF.r mf284 (k := 30) (by decide) (by decide)).symm
        have m316 := (eq255).trans (MF.r mf284 (k := 31) (by decide) (by decide)).symm
        have m317 := (eq256).trans (MF.r mf284 (k := 32) (by decide) (by decide)).symm
        have m318 := (eq257).trans (MF.r mf284 (k := 33) (by decide) (by decide)).symm
        have m319 := (eq258).trans (MF.r mf284 (k := 50) (by decide) (by decide)).symm
        have bx261 := ty_fi (x := x261) (k := 70) ex261 hTH259 gbH205 rg_112 rfl
        have bx262 := ty_fi (x := x262) (k := 1) ex262 hTH259 gbH205 rg_112 rfl
        have bx263 := ty_fi (x := x263) (k := 2) ex263 hTH259 gbH205 rg_112 rfl
        have bx264 := ty_fi (x := x264) (k := 3) ex264 hTH259 gbH205 rg_112 rfl
        have bx265 := ty_fi (x := x265) (k := 59) ex265 hTH259 gbH205 rg_112 rfl
        have bx266 := ty_fi (x := x266) (k := 62) ex266 hTH259 gbH205 rg_112 rfl
        have bx267 := ty_fi (x := x267) (k := 65) ex267 hTH259 gbH205 rg_112 rfl
        refine W.eq (g2 := F0 m 1482 ls [.int x260]) rfl ?_
        obtain ⟨j320, j321, j322, j323, j324, j325⟩ := m285.resolve_left (by omega)
        obtain ⟨j326, j327, j328, j329, j330, j331⟩ := m286 (by decide)
        replace j326 := congrArg Int32.toInt j326
        replace j327 := congrArg Int32.toInt j327
        replace j328 := congrArg Int32.toInt j328
        replace j329 := congrArg Int32.toInt j329
        replace j330 := congrArg Int32.toInt j330
        replace j331 := congrArg Int32.toInt j331
        have ij320 : x262 = fI H259 q247 ((0 : Int32).toNatClampNeg) := j320
        have ij321 : x263 = fI H259 q247 ((1 : Int32).toNatClampNeg) := j321
        have ij322 : x264 = fI H259 q247 ((2 : Int32).toNatClampNeg) := j322
        have ij323 : x265 = fI H259 q247 ((3 : Int32).toNatClampNeg) := j323
        have ij324 : x266 = fI H259 q247 ((4 : Int32).toNatClampNeg) := j324
        have ij325 : x267 = fI H259 q247 ((5 : Int32).toNatClampNeg) := j325
        refine lv_pop hx hb dL_law_1482 rfl ?_
        refine lv_goto (tgt := 1509) hx hb dL_law_1483 (by decide) ?_
        exact nx G207 H259 locsH259 _ _ ls ⟨hTH259, hNH205, gaH205, gbH205, g280, g281, g282, g283, ⟨(by rw [← m291, ← m306]; omega), (by rw [← m290, ← m293, ← ex262]; omega), (by rw [← m290, ← m294, ← ex263]; omega), (by rw [← m290, ← m295, ← ex264]; omega), (by rw [← m290, ← m296, ← ex265]; omega), (by rw [← m290, ← m297, ← ex266]; omega), (by rw [← m290, ← m298, ← ex267]; omega)⟩, Or.inr ⟨q223, m305, gq223, (by rw [← ex261]; omega), (by rw [← m299, ← m268, ← ij320]; omega), (by rw [← m300, ← m268, ← ij321]; omega), (by rw [← m301, ← m268, ← ij322]; omega), (by rw [← m302, ← m268, ← ij323]; omega), (by rw [← m303, ← m268, ← ij324]; omega), (by rw [← m304, ← m268, ← ij325]; omega)⟩, (by unfold TB; rw [← m292, ← m307, ← m306]; exact TBR.of htr f288 f289 (by omega)), hSH259⟩ hl ⟨by omega, by omega, fun h => by have h1 := h.symm.trans m305; cases h1⟩
  · skip
    obtain ⟨hi, ehi⟩ : ∃ z : Int32, z = fI H b (K.1.2 10 70) := ⟨_, rfl⟩
    rw [← ehi] at h70
    obtain ⟨iq, eiq⟩ : ∃ z : Nat, z = fR H b (K.1.2 10 73) := ⟨_, rfl⟩
    have giq := ty_fr (q := iq) (k := 73) (u := 162) eiq hT gb rg_112 rfl
    rw [← eiq] at q1 q4 q5 q10 q13 q16
    obtain ⟨k1, ek1⟩ : ∃ z : Int32, z = fI H kq (K.1.2 8 1) := ⟨_, rfl⟩
    rw [← ek1] at q1
    obtain ⟨i1, ei1⟩ : ∃ z : Int32, z = fI H iq ((0 : Int32).toNatClampNeg) := ⟨_, rfl⟩
    rw [← ei1] at q1
    obtain ⟨k4, ek4⟩ : ∃ z : Int32, z = fI H kq (K.1.2 8 4) := ⟨_, rfl⟩
    rw [← ek4] at q4
    obtain ⟨i4, ei4⟩ : ∃ z : Int32, z = fI H iq ((1 : Int32).toNatClampNeg) := ⟨_, rfl⟩
    rw [← ei4] at q4
    obtain ⟨k5, ek5⟩ : ∃ z : Int32, z = fI H kq (K.1.2 8 5) := ⟨_, rfl⟩
    rw [← ek5] at q5
    obtain ⟨i5, ei5⟩ : ∃ z : Int32, z = fI H iq ((2 : Int32).toNatClampNeg) := ⟨_, rfl⟩
    rw [← ei5] at q5
    obtain ⟨k10, ek10⟩ : ∃ z : Int32, z = fI H kq (K.1.2 8 10) := ⟨_, rfl⟩
    rw [← ek10] at q10
    obtain ⟨i10, ei10⟩ : ∃ z : Int32, z = fI H iq ((3 : Int32).toNatClampNeg) := ⟨_, rfl⟩
    rw [← ei10] at q10
    obtain ⟨k13, ek13⟩ : ∃ z : Int32, z = fI H kq (K.1.2 8 13) := ⟨_, rfl⟩
    rw [← ek13] at q13
    obtain ⟨i13, ei13⟩ : ∃ z : Int32, z = fI H iq ((4 : Int32).toNatClampNeg) := ⟨_, rfl⟩
    rw [← ei13] at q13
    obtain ⟨k16, ek16⟩ : ∃ z : Int32, z = fI H kq (K.1.2 8 16) := ⟨_, rfl⟩
    rw [← ek16] at q16
    obtain ⟨i16, ei16⟩ : ∃ z : Int32, z = fI H iq ((5 : Int32).toNatClampNeg) := ⟨_, rfl⟩
    rw [← ei16] at q16
    refine lv_aload_n hx hb dL_law_1447 rfl (lv_at hl 2 rfl) ?_
    refine lv_aload_n hx hb dL_law_1448 rfl (lv_at hl 3 rfl) ?_
    refine lv_iload_n hx hb dL_law_1449 rfl (lv_at hl 0 rfl) ?_
    refine lv_iconst (v := 1) hx hb dL_law_1450 (by decide) ?_
    refine lv_iadd hx hb dL_law_1451 ?_
    refine lv_topi (fun x332 ex332 => ?_)
    have tx332 := i_add ex332 (by omega)
    have ejx332 : x332.toNatClampNeg = i.toNatClampNeg + 1 := by have h1 := i_cl (x := x332) (by omega); have h2 := i_cl (x := i) (by omega); omega
    refine va_sld hx hb hX hbl (Nat.not_le.mpr hbl) hS (vp_in_iff.mpr (by omega)) dL_law_1452 ?_
    refine W.eq (g2 := F0 m 1453 ls [.int (xs (i.toNatClampNeg + 1)), .ref a]) (congrArg (fun z => F0 m 1453 ls [.int (xs z), .ref a]) ejx332) ?_
    refine lv_if_eq (tgt := 1460) hx hb dL_law_1453 (by decide) (fun c1453 => ?_) (fun c1453 => ?_)
    · skip
      refine lv_iconst (v := 0) hx hb dL_law_1460 (by decide) ?_
      refine x_V (As := [.int 0]) (rest := []) C (a_X9_image_r0v l K G H (s1) (s4) (s5) (s10) (s13) (s16) (ta) (k1) (k4) (k5) (k10) (k13) (k16) hT ga gw ew es1 es4 es5 es10 es13 es16 eta kn gkq ek1 ek4 ek5 ek10 ek13 ek16 gtq etq) yo_X9_image wM_L_153 ⟨⟨by decide, by decide⟩, show _ ≤ 284929 by omega, show _ ≤ 8247460 by omega⟩ (x_rv C hT (ci := 9) rfl ga rg_68) rfl hl.1 rfl (Nat.le_of_ble_eq_true rfl) dL_law_1461 hS (AE_new hN hS.1) (fun vH333 H333 locsH333 pH333 zH333 kH333 hSH333 => ?_)
      obtain ⟨x334, hvH333, bx334, G335, mH333, m336, m337, m352, m338, m339, m340, m341, m342, m343, m350, m344, m345, m346, m347, m348, m349, hTH333⟩ := pH333
      subst hvH333
      have g353 : CG (avw K H333 b) := CG.congr (fun k hk j => av_eff hT kH333 gb (by decide) (CG_eff [68, 34, 35, 36, 37, 38, 39, 40, 41, 42, 43, 44, 46, 48, 49, 50, 51, 52, 53, 54, 55, 56, 57, 58, 62, 63, 64, 65, 66, 67, 0, 1, 2, 3, 4, 5, 6, 7, 8, 9, 10, 12, 14, 15, 16, 17, 18, 19, 20, 21, 22, 23, 24, 28, 29, 30, 31, 32, 33] (by decide) k hk)) cg
      have g354 : TU (avw K H333 b) (svw K H333 b) := TU.congr (fun k hk j => av_eff hT kH333 gb (by decide) (TU_eff [68, 34, 35, 36, 37, 38, 39, 40, 41, 42, 43, 44, 46, 48, 49, 50, 51, 52, 53, 54, 55, 56, 57, 58, 62, 63, 64, 65, 66, 67, 0, 1, 2, 3, 4, 5, 6, 7, 8, 9, 10, 12, 14, 15, 16, 17, 18, 19, 20, 21, 22, 23, 24, 28, 29, 30, 31, 32, 33] (by decide) k hk)) (fun k hk => sv_eff hT kH333 gb (by decide)) tu
      have g355 : WD (avw K H333 b) := WD.congr (fun k hk j => av_eff hT kH333 gb (by decide) (WD_eff [68, 34, 35, 36, 37, 38, 39, 40, 41, 42, 43, 44, 46, 48, 49, 50, 51, 52, 53, 54, 55, 56, 57, 58, 62, 63, 64, 65, 66, 67, 0, 1, 2, 3, 4, 5, 6, 7, 8, 9, 10, 12, 14, 15, 16, 17, 18, 19, 20, 21, 22, 23, 24, 28, 29, 30, 31, 32, 33] (by decide) k hk)) wd
      have g356 : IM (avw K H333 b) := IM.congr (fun k hk j => av_eff hT kH333 gb (by decide) (IM_eff [68, 34, 35, 36, 37, 38, 39, 40, 41, 42, 43, 44, 46, 48, 49, 50, 51, 52, 53, 54, 55, 56, 57, 58, 62, 63, 64, 65, 66, 67, 0, 1, 2, 3, 4, 5, 6, 7, 8, 9, 10, 12, 14, 15, 16, 17, 18, 19, 20, 21, 22, 23, 24, 28, 29, 30, 31, 32, 33] (by decide) k hk)) im
      have f357 : ∀ j : Nat, fI H333 tq j = fI H tq j := fun j => (fI_kept (x_lt hT kH333 gtq (by decide))).trans (ft0 j)
      have f358 : ∀ j : Nat, fI H333 uq j = fI H uq j := fun j => (fI_kept (x_lt hT kH333 guq (by decide))).trans (fu0 j)
      have m359 := (etb).trans (fI_kept (x_lt hT kH333 gb (by decide))).symm
      have m360 := (ey1).trans (fI_kept (x_lt hT kH333 gb (by decide))).symm
      have m361 := (ey4).trans (fI_kept (x_lt hT kH333 gb (by decide))).symm
      have m362 := (ey5).trans (fI_kept (x_lt hT kH333 gb (by decide))).symm
      have m363 := (ey10).trans (fI_kept (x_lt hT kH333 gb (by decide))).symm
      have m364 := (ey13).trans (fI_kept (x_lt hT kH333 gb (by decide))).symm
      have m365 := (ey16).trans (fI_kept (x_lt hT kH333 gb (by decide))).symm
      have m366 := (euq).trans (fR_kept (x_lt hT kH333 gb (by decide))).symm
      have m367 := (ehi).trans (fI_kept (x_lt hT kH333 gb (by decide))).symm
      have m368 := (eiq).trans (fR_kept (x_lt hT kH333 gb (by decide))).symm
      have m369 := (ei1).trans (fI_kept (x_lt hT kH333 giq (by decide))).symm
      have m370 := (ei4).trans (fI_kept (x_lt hT kH333 giq (by decide))).symm
      have m371 := (ei5).trans (fI_kept (x_lt hT kH333 giq (by decide))).symm
      have m372 := (ei10).trans (fI_kept (x_lt hT kH333 giq (by decide))).symm
      have m373 := (ei13).trans (fI_kept (x_lt hT kH333 giq (by decide))).symm
      have m374 := (ei16).trans (fI_kept (x_lt hT kH333 giq (by decide))).symm
      have gaH333 := (mH333 a (hT.lt ga)).trans ga
      have gbH333 := (mH333 b (hT.lt gb)).trans gb
      have gwH333 := (mH333 w (hT.lt gw)).trans gw
      have gkqH333 := (mH333 kq (hT.lt gkq)).trans gkq
      have gtqH333 := (mH333 tq (hT.lt gtq)).trans gtq
      have guqH333 := (mH333 uq (hT.lt guq)).trans guq
      have giqH333 := (mH333 iq (hT.lt giq)).trans giq
      have hNH333 : ∀ q, q < s.heap.size → G335 q = none := fun q hq => (mH333 q (Nat.lt_of_lt_of_le hq hS.1)).trans (hN q hq)
      obtain ⟨x375, ex375⟩ : ∃ z : Int32, z = fI H333 w (K.1.2 8 1) := ⟨_, rfl⟩
      rw [← ex375] at m338
      obtain ⟨x376, ex376⟩ : ∃ z : Int32, z = fI H333 w (K.1.2 8 4) := ⟨_, rfl⟩
      rw [← ex376] at m339
      obtain ⟨x377, ex377⟩ : ∃ z : Int32, z = fI H333 w (K.1.2 8 5) := ⟨_, rfl⟩
      rw [← ex377] at m340
      obtain ⟨x378, ex378⟩ : ∃ z : Int32, z = fI H333 w (K.1.2 8 10) := ⟨_, rfl⟩
      rw [← ex378] at m341
      obtain ⟨x379, ex379⟩ : ∃ z : Int32, z = fI H333 w (K.1.2 8 13) := ⟨_, rfl⟩
      rw [← ex379] at m342
      obtain ⟨x380, ex380⟩ : ∃ z : Int32, z = fI H333 w (K.1.2 8 16) := ⟨_, rfl⟩
      rw [← ex380] at m343
      refine W.eq (g2 := F0 m 1464 ls [.int x334]) rfl ?_
      refine lv_pop hx hb dL_law_1464 rfl ?_
      refine lv_aload_n hx hb dL_law_1465 rfl (lv_at hl 1 rfl) ?_
      refine lv_aload_n hx hb dL_law_1466 rfl (lv_at hl 3 rfl) ?_
      refine lv_iload_n hx hb dL_law_1467 rfl (lv_at hl 0 rfl) ?_
      refine lv_iconst (v := 1) hx hb dL_law_1468 (by decide) ?_
      refine lv_iadd hx hb dL_law_1469 ?_
      refine lv_topi (fun x381 ex381 => ?_)
      have tx381 := i_add ex381 (by omega)
      have ejx381 : x381.toNatClampNeg = i.toNatClampNeg + 1 := by have h1 := i_cl (x := x381) (by omega); have h2 := i_cl (x := i) (by omega); omega
      refine va_sld hx hb hX hbl (Nat.not_le.mpr hbl) hSH333 (vp_in_iff.mpr (by omega)) dL_law_1470 ?_
      refine W.eq (g2 := F0 m 1471 ls [.int (xs (i.toNatClampNeg + 1)), .ref b]) (congrArg (fun z => F0 m 1471 ls [.int (xs z), .ref b]) ejx381) ?_
      refine lv_if_eq (tgt := 1478) hx hb dL_law_1471 (by decide) (fun c1471 => ?_) (fun c1471 => ?_)
      · skip
        refine lv_iconst (v := 0) hx hb dL_law_1478 (by decide) ?_
        obtain ⟨q382, eq382⟩ : ∃ z : Nat, z = fR H333 b (K.1.2 10 4) := ⟨_, rfl⟩
        have gq382 := ty_fr (q := q382) (k := 4) (u := 113) eq382 hTH333 gbH333 rg_112 rfl
        obtain ⟨q383, eq383⟩ : ∃ z : Nat, z = fR H333 b (K.1.2 10 10) := ⟨_, rfl⟩
        have gq383 := ty_fr (q := q383) (k := 10) (u := 119) eq383 hTH333 gbH333 rg_112 rfl
        obtain ⟨q384, eq384⟩ : ∃ z : Nat, z = fR H333 b (K.1.2 10 16) := ⟨_, rfl⟩
        have gq384 := ty_fr (q := q384) (k := 16) (u := 125) eq384 hTH333 gbH333 rg_112 rfl
        obtain ⟨q385, eq385⟩ : ∃ z : Nat, z = fR H333 b (K.1.2 10 24) := ⟨_, rfl⟩
        have gq385 := ty_fr (q := q385) (k := 24) (u := 128) eq385 hTH333 gbH333 rg_112 rfl
        obtain ⟨q386, eq386⟩ : ∃ z : Nat, z = fR H333 b (K.1.2 10 27) := ⟨_, rfl⟩
        have gq386 := ty_fr (q := q386) (k := 27) (u := 131) eq386 hTH333 gbH333 rg_112 rfl
        obtain ⟨q387, eq387⟩ : ∃ z : Nat, z = fR H333 b (K.1.2 10 29) := ⟨_, rfl⟩
        have gq387 := ty_fr (q := q387) (k := 29) (u := 133) eq387 hTH333 gbH333 rg_112 rfl
        obtain ⟨q388, eq388⟩ : ∃ z : Nat, z = fR H333 b (K.1.2 10 30) := ⟨_, rfl⟩
        have gq388 := ty_fr (q := q388) (k := 30) (u := 134) eq388 hTH333 gbH333 rg_112 rfl
        obtain ⟨q389, eq389⟩ : ∃ z : Nat, z = fR H333 b (K.1.2 10 31) := ⟨_, rfl⟩
        have gq389 := ty_fr (q := q389) (k := 31) (u := 135) eq389 hTH333 gbH333 rg_112 rfl
        obtain ⟨q390, eq390⟩ : ∃ z : Nat, z = fR H333 b (K.1.2 10 32) := ⟨_, rfl⟩
        have gq390 := ty_fr (q := q390) (k := 32) (u := 136) eq390 hTH333 gbH333 rg_112 rfl
        obtain ⟨q391, eq391⟩ : ∃ z : Nat, z = fR H333 b (K.1.2 10 33) := ⟨_, rfl⟩
        have gq391 := ty_fr (q := q391) (k := 33) (u := 137) eq391 hTH333 gbH333 rg_112 rfl
        obtain ⟨q392, eq392⟩ : ∃ z : Nat, z = fR H333 b (K.1.2 10 50) := ⟨_, rfl⟩
        have gq392 := ty_fr (q := q392) (k := 50) (u := 146) eq392 hTH333 gbH333 rg_112 rfl
        refine x_V (As := [.int 0]) (rest := []) C (a_X10_image l K G335 H333 (0) (hi) (y1) (y4) (y5) (y10) (y13) (y16) hTH333 gbH333 (by decide) giqH333 m368 gq382 eq382 gq383 eq383 gq384 eq384 gq385 eq385 gq386 eq386 gq387 eq387 gq388 eq388 gq389 eq389 gq390 eq390 gq391 eq391 gq392 eq392 m367 m360 m361 m362 m363 m364 m365 g353 g354 g355 g356) yo_X10_image wM_L_157 ⟨⟨by decide, by decide⟩, show _ ≤ 284929 by omega, show _ ≤ 8247460 by omega⟩ (x_rv C hTH333 (ci := 10) rfl gbH333 rg_112) rfl hl.1 rfl (Nat.le_of_ble_eq_true rfl) dL_law_1479 hSH333 (AE_new hNH333 hSH333.1) (fun vH393 H393 locsH393 pH393 zH393 kH393 hSH393 => ?_)
        obtain ⟨x394, x395, x396, x397, x398, x399, x400, x401, hvH393, bx394, ex395, ex396, ex397, ex398, ex399, ex400, ex401, hrH393, m402, m403, m404, m405, m406, m407, m408, m409, m410, m411, m412, m413, g414, g415, g416, g417, mf418, m419, m420, m421, hTH393⟩ := pH393
        subst hvH393
        have f422 : ∀ j : Nat, fI H393 tq j = fI H tq j := fun j => (fI_kept (x_lt hTH333 kH393 gtqH333 (by decide))).trans (f357 j)
        have f423 : ∀ j : Nat, fI H393 uq j = fI H uq j := fun j => (fI_kept (x_lt hTH333 kH393 guqH333 (by decide))).trans (f358 j)
        have m424 := (m336).trans (fR_kept (x_lt hTH333 kH393 gaH333 (by decide))).symm
        have m425 := (m337).trans (fI_kept (x_lt hTH333 kH393 gaH333 (by decide))).symm
        have m426 := (m352).trans (fR_kept (x_lt hTH333 kH393 gaH333 (by decide))).symm
        have m427 := (ex375).trans (fI_kept (x_lt hTH333 kH393 gwH333 (by decide))).symm
        have m428 := (m344).trans (fI_kept (x_lt hTH333 kH393 gkqH333 (by decide))).symm
        have m429 := (ex376).trans (fI_kept (x_lt hTH333 kH393 gwH333 (by decide))).symm
        have m430 := (m345).trans (fI_kept (x_lt hTH333 kH393 gkqH333 (by decide))).symm
        have m431 := (ex377).trans (fI_kept (x_lt hTH333 kH393 gwH333 (by decide))).symm
        have m432 := (m346).trans (fI_kept (x_lt hTH333 kH393 gkqH333 (by decide))).symm
        have m433 := (ex378).trans (fI_kept (x_lt hTH333 kH393 gwH333 (by decide))).symm
        have m434 := (m347).trans (fI_kept (x_lt hTH333 kH393 gkqH333 (by decide))).symm
        have m435 := (ex379).trans (fI_kept (x_lt hTH333 kH393 gwH333 (by decide))).symm
        have m436 := (m348).trans (fI_kept (x_lt hTH333 kH393 gkqH333 (by decide))).symm
        have m437 := (ex380).trans (fI_kept (x_lt hTH333 kH393 gwH333 (by decide))).symm
        have m438 := (m349).trans (fI_kept (x_lt hTH333 kH393 gkqH333 (by decide))).symm
        have m439 := (fV_kept (x_lt hTH333 kH393 gaH333 (by decide))).trans m350
        have m440 := (m359).trans (MF.i mf418 (k := 18) (by decide) (by decide)).symm
        have m441 := (m366).trans (MF.r mf418 (k := 17) (by decide) (by decide)).symm
        have m442 := (m368).trans (MF.r mf418 (k := 73) (by decide) (by decide)).symm
        have m443 := (eq382).trans (MF.r mf418 (k := 4) (by decide) (by decide)).symm
        have m444 := (eq383).trans (MF.r mf418 (k := 10) (by decide) (by decide)).symm
        have m445 := (eq384).trans (MF.r mf418 (k := 16) (by decide) (by decide)).symm
        have m446 := (eq385).trans (MF.r mf418 (k := 24) (by decide) (by decide)).symm
        have m447 := (eq386).trans (MF.r mf418 (k := 27) (by decide) (by decide)).symm
        have m448 := (eq387).trans (MF.r mf418 (k := 29) (by decide) (by decide)).symm
        have m449 := (eq388).trans (MF.r mf418 (k := 30) (by decide) (by decide)).symm
        have m450 := (eq389).trans (MF.r mf418 (k := 31) (by decide) (by decide)).symm
        have m451 := (eq390).trans (MF.r mf418 (k := 32) (by decide) (by decide)).symm
        have m452 := (eq391).trans (MF.r mf418 (k := 33) (by decide) (by decide)).symm
        have m453 := (eq392).trans (MF.r mf418 (k := 50) (by decide) (by decide)).symm
        have bx395 := ty_fi (x := x395) (k := 70) ex395 hTH393 gbH333 rg_112 rfl
        have bx396 := ty_fi (x := x396) (k := 1) ex396 hTH393 gbH333 rg_112 rfl
        have bx397 := ty_fi (x := x397) (k := 2) ex397 hTH393 gbH333 rg_112 rfl
        have bx398 := ty_fi (x := x398) (k := 3) ex398 hTH393 gbH333 rg_112 rfl
        have bx399 := ty_fi (x := x399) (k := 59) ex399 hTH393 gbH333 rg_112 rfl
        have bx400 := ty_fi (x := x400) (k := 62) ex400 hTH393 gbH333 rg_112 rfl
        have bx401 := ty_fi (x := x401) (k := 65) ex401 hTH393 gbH333 rg_112 rfl
        refine W.eq (g2 := F0 m 1482 ls [.int x394]) rfl ?_
        obtain ⟨j454, j455, j456, j457, j458, j459⟩ := m419.resolve_left (by omega)
        have ij454 : i1 = fI H393 iq ((0 : Int32).toNatClampNeg) := m369.trans (m421 (by decide) _).symm
        have tj454 := congrArg Int32.toInt (j454.trans ij454.symm)
        have ij455 : i4 = fI H393 iq ((1 : Int32).toNatClampNeg) := m370.trans (m421 (by decide) _).symm
        have tj455 := congrArg Int32.toInt (j455.trans ij455.symm)
        have ij456 : i5 = fI H393 iq ((2 : Int32).toNatClampNeg) := m371.trans (m421 (by decide) _).symm
        have tj456 := congrArg Int32.toInt (j456.trans ij456.symm)
        have ij457 : i10 = fI H393 iq ((3 : Int32).toNatClampNeg) := m372.trans (m421 (by decide) _).symm
        have tj457 := congrArg Int32.toInt (j457.trans ij457.symm)
        have ij458 : i13 = fI H393 iq ((4 : Int32).toNatClampNeg) := m373.trans (m421 (by decide) _).symm
        have tj458 := congrArg Int32.toInt (j458.trans ij458.symm)
        have ij459 : i16 = fI H393 iq ((5 : Int32).toNatClampNeg) := m374.trans (m421 (by decide) _).symm
        have tj459 := congrArg Int32.toInt (j459.trans ij459.symm)
        refine lv_pop hx hb dL_law_1482 rfl ?_
        refine lv_goto (tgt := 1509) hx hb dL_law_1483 (by decide) ?_
        exact nx G335 H393 locsH393 _ _ ls ⟨hTH393, hNH333, gaH333, gbH333, g414, g415, g416, g417, ⟨(by rw [← m425, ← m440]; omega), (by rw [← m424, ← m427, ← ex396]; omega), (by rw [← m424, ← m429, ← ex397]; omega), (by rw [← m424, ← m431, ← ex398]; omega), (by rw [← m424, ← m433, ← ex399]; omega), (by rw [← m424, ← m435, ← ex400]; omega), (by rw [← m424, ← m437, ← ex401]; omega)⟩, Or.inr ⟨kq, m439, gkqH333, (by rw [← ex395]; omega), (by rw [← m428, ← m402, ← ij454]; omega), (by rw [← m430, ← m402, ← ij455]; omega), (by rw [← m432, ← m402, ← ij456]; omega), (by rw [← m434, ← m402, ← ij457]; omega), (by rw [← m436, ← m402, ← ij458]; omega), (by rw [← m438, ← m402, ← ij459]; omega)⟩, (by unfold TB; rw [← m426, ← m441, ← m440]; exact TBR.of htr f422 f423 (by omega)), hSH393⟩ hl ⟨by omega, by omega, fun h => by have h1 := h.symm.trans m439; cases h1⟩
      · skip
        exact absurd c1453 c1471
    · skip
      refine lv_iconst (v := 1) hx hb dL_law_1456 (by decide) ?_
      refine lv_goto (tgt := 1461) hx hb dL_law_1457 (by decide) ?_
      refine x_V (As := [.int 1]) (rest := []) C (a_X9_image_r1v l K G H (s1) (s4) (s5) (s10) (s13) (s16) (ta) (k1) (k4) (k5) (k10) (k13) (k16) hT ga gw ew es1 es4 es5 es10 es13 es16 eta kn gkq ek1 ek4 ek5 ek10 ek13 ek16 gtq etq) yo_X9_image wM_L_153 ⟨⟨by decide, by decide⟩, show _ ≤ 284929 by omega, show _ ≤ 8247460 by omega⟩ (x_rv C hT (ci := 9) rfl ga rg_68) rfl hl.1 rfl (Nat.le_of_ble_eq_true rfl) dL_law_1461 hS (AE_new hN hS.1) (fun vH460 H460 locsH460 pH460 zH460 kH460 hSH460 => ?_)
      obtain ⟨x461, hvH460, bx461, G462, mH460, m463, m464, m479, hTH460, m465, m466, m467, m468, m469, m470, q478, m477, gq478, m471, m472, m473, m474, m475, m476⟩ := pH460
      subst hvH460
      have g480 : CG (avw K H460 b) := CG.congr (fun k hk j => av_eff hT kH460 gb (by decide) (CG_eff [68, 34, 35, 36, 37, 38, 39, 40, 41, 42, 43, 44, 46, 48, 49, 50, 51, 52, 53, 54, 55, 56, 57, 58, 62, 63, 64, 65, 66, 67, 0, 1, 2, 3, 4, 5, 6, 7, 8, 9, 10, 12, 14, 15, 16, 17, 18, 19, 20, 21, 22, 23, 24, 28, 29, 30, 31, 32, 33] (by decide) k hk)) cg
      have g481 : TU (avw K H460 b) (svw K H460 b) := TU.congr (fun k hk j => av_eff hT kH460 gb (by decide) (TU_eff [68, 34, 35, 36, 37, 38, 39, 40, 41, 42, 43, 44, 46, 48, 49, 50, 51, 52, 53, 54, 55, 56, 57, 58, 62, 63, 64, 65, 66, 67, 0, 1, 2, 3, 4, 5, 6, 7, 8, 9, 10, 12, 14, 15, 16, 17, 18, 19, 20, 21, 22, 23, 24, 28, 29, 30, 31, 32, 33] (by decide) k hk)) (fun k hk => sv_eff hT kH460 gb (by decide)) tu
      have g482 : WD (avw K H460 b) := WD.congr (fun k hk j => av_eff hT kH460 gb (by decide) (WD_eff [68, 34, 35, 36, 37, 38, 39, 40, 41, 42, 43, 44, 46, 48, 49, 50, 51, 52, 53, 54, 55, 56, 57, 58, 62, 63, 64, 65, 66, 67, 0, 1, 2, 3, 4, 5, 6, 7, 8, 9, 10, 12, 14, 15, 16, 17, 18, 19, 20, 21, 22, 23, 24, 28, 29, 30, 31, 32, 33] (by decide) k hk)) wd
      have g483 : IM (avw K H460 b) := IM.congr (fun k hk j => av_eff hT kH460 gb (by decide) (IM_eff [68, 34, 35, 36, 37, 38, 39, 40, 41, 42, 43, 44, 46, 48, 49, 50, 51, 52, 53, 54, 55, 56, 57, 58, 62, 63, 64, 65, 66, 67, 0, 1, 2, 3, 4, 5, 6, 7, 8, 9, 10, 12, 14, 15, 16, 17, 18, 19, 20, 21, 22, 23, 24, 28, 29, 30, 31, 32, 33] (by decide) k hk)) im
      have f484 : ∀ j : Nat, fI H460 tq j = fI H tq j := fun j => (fI_kept (x_lt hT kH460 gtq (by decide))).trans (ft0 j)
      have f485 : ∀ j : Nat, fI H460 uq j = fI H uq j := fun j => (fI_kept (x_lt hT kH460 guq (by decide))).trans (fu0 j)
      have m486 := (etb).trans (fI_kept (x_lt hT kH460 gb (by decide))).symm
      have m487 := (ey1).trans (fI_kept (x_lt hT kH460 gb (by decide))).symm
      have m488 := (ey4).trans (fI_kept (x_lt hT kH460 gb (by decide))).symm
      have m489 := (ey5).trans (fI_kept (x_lt hT kH460 gb (by decide))).symm
      have m490 := (ey10).trans (fI_kept (x_lt hT kH460 gb (by decide))).symm
      have m491 := (ey13).trans (fI_kept (x_lt hT kH460 gb (by decide))).symm
      have m492 := (ey16).trans (fI_kept (x_lt hT kH460 gb (by decide))).symm
      have m493 := (euq).trans (fR_kept (x_lt hT kH460 gb (by decide))).symm
      have m494 := (ehi).trans (fI_kept (x_lt hT kH460 gb (by decide))).symm
      have m495 := (eiq).trans (fR_kept (x_lt hT kH460 gb (by decide))).symm
      have m496 := (ei1).trans (fI_kept (x_lt hT kH460 giq (by decide))).symm
      have m497 := (ei4).trans (fI_kept (x_lt hT kH460 giq (by decide))).symm
      have m498 := (ei5).trans (fI_kept (x_lt hT kH460 giq (by decide))).symm
      have m499 := (ei10).trans (fI_kept (x_lt hT kH460 giq (by decide))).symm
      have m500 := (ei13).trans (fI_kept (x_lt hT kH460 giq (by decide))).symm
      have m501 := (ei16).trans (fI_kept (x_lt hT kH460 giq (by decide))).symm
      have gaH460 := (mH460 a (hT.lt ga)).trans ga
      have gbH460 := (mH460 b (hT.lt gb)).trans gb
      have gwH460 := (mH460 w (hT.lt gw)).trans gw
      have gkqH460 := (mH460 kq (hT.lt gkq)).trans gkq
      have gtqH460 := (mH460 tq (hT.lt gtq)).trans gtq
      have guqH460 := (mH460 uq (hT.lt guq)).trans guq
      have giqH460 := (mH460 iq (hT.lt giq)).trans giq
      have hNH460 : ∀ q, q < s.heap.size → G462 q = none := fun q hq => (mH460 q (Nat.lt_of_lt_of_le hq hS.1)).trans (hN q hq)
      obtain ⟨x502, ex502⟩ : ∃ z : Int32, z = fI H460 q478 (K.1.2 8 1) := ⟨_, rfl⟩
      rw [← ex502] at m471
      obtain ⟨x503, ex503⟩ : ∃ z : Int32, z = fI H460 q478 (K.1.2 8 4) := ⟨_, rfl⟩
      rw [← ex503] at m472
      obtain ⟨x504, ex504⟩ : ∃ z : Int32, z = fI H460 q478 (K.1.2 8 5) := ⟨_, rfl⟩
      rw [← ex504] at m473
      obtain ⟨x505, ex505⟩ : ∃ z : Int32, z = fI H460 q478 (K.1.2 8 10) := ⟨_, rfl⟩
      rw [← ex505] at m474
      obtain ⟨x506, ex506⟩ : ∃ z : Int32, z = fI H460 q478 (K.1.2 8 13) := ⟨_, rfl⟩
      rw [← ex506] at m475
      obtain ⟨x507, ex507⟩ : ∃ z : Int32, z = fI H460 q478 (K.1.2 8 16) := ⟨_, rfl⟩
      rw [← ex507] at m476
      refine W.eq (g2 := F0 m 1464 ls [.int x461]) rfl ?_
      refine lv_pop hx hb dL_law_1464 rfl ?_
      refine lv_aload_n hx hb dL_law_1465 rfl (lv_at hl 1 rfl) ?_
      refine lv_aload_n hx hb dL_law_1466 rfl (lv_at hl 3 rfl) ?_
      refine lv_iload_n hx hb dL_law_1467 rfl (lv_at hl 0 rfl) ?_
      refine lv_iconst (v := 1) hx hb dL_law_1468 (by decide) ?_
      refine lv_iadd hx hb dL_law_1469 ?_
      refine lv_topi (fun x508 ex508 => ?_)
      have tx508 := i_add ex508 (by omega)
      have ejx508 : x508.toNatClampNeg = i.toNatClampNeg + 1 := by have h1 := i_cl (x := x508) (by omega); have h2 := i_cl (x := i) (by omega); omega
      refine va_sld hx hb hX hbl (Nat.not_le.mpr hbl) hSH460 (vp_in_iff.mpr (by omega)) dL_law_1470 ?_
      refine W.eq (g2 := F0 m 1471 ls [.int (xs (i.toNatClampNeg + 1)), .ref b]) (congrArg (fun z => F0 m 1471 ls [.int (xs z), .ref b]) ejx508) ?_
      refine lv_if_eq (tgt := 1478) hx hb dL_law_1471 (by decide) (fun c1471 => ?_) (fun c1471 => ?_)
      · skip
        exact absurd c1471 c1453
      · skip
        refine lv_iconst (v := 1) hx hb dL_law_1474 (by decide) ?_
        refine lv_goto (tgt := 1479) hx hb dL_law_1475 (by decide) ?_
        obtain ⟨q509, eq509⟩ : ∃ z : Nat, z = fR H460 b (K.1.2 10 4) := ⟨_, rfl⟩
        have gq509 := ty_fr (q := q509) (k := 4) (u := 113) eq509 hTH460 gbH460 rg_112 rfl
        obtain ⟨q510, eq510⟩ : ∃ z : Nat, z = fR H460 b (K.1.2 10 10) := ⟨_, rfl⟩
        have gq510 := ty_fr (q := q510) (k := 10) (u := 119) eq510 hTH460 gbH460 rg_112 rfl
        obtain ⟨q511, eq511⟩ : ∃ z : Nat, z = fR H460 b (K.1.2 10 16) := ⟨_, rfl⟩
        have gq511 := ty_fr (q := q511) (k := 16) (u := 125) eq511 hTH460 gbH460 rg_112 rfl
        obtain ⟨q512, eq512⟩ : ∃ z : Nat, z = fR H460 b (K.1.2 10 24) := ⟨_, rfl⟩
        have gq512 := ty_fr (q := q512) (k := 24) (u := 128) eq512 hTH460 gbH460 rg_112 rfl
        obtain ⟨q513, eq513⟩ : ∃ z : Nat, z = fR H460 b (K.1.2 10 27) := ⟨_, rfl⟩
        have gq513 := ty_fr (q := q513) (k := 27) (u := 131) eq513 hTH460 gbH460 rg_112 rfl
        obtain ⟨q514, eq514⟩ : ∃ z : Nat, z = fR H460 b (K.1.2 10 29) := ⟨_, rfl⟩
        have gq514 := ty_fr (q := q514) (k := 29) (u := 133) eq514 hTH460 gbH460 rg_112 rfl
        obtain ⟨q515, eq515⟩ : ∃ z : Nat, z = fR H460 b (K.1.2 10 30) := ⟨_, rfl⟩
        have gq515 := ty_fr (q := q515) (k := 30) (u := 134) eq515 hTH460 gbH460 rg_112 rfl
        obtain ⟨q516, eq516⟩ : ∃ z : Nat, z = fR H460 b (K.1.2 10 31) := ⟨_, rfl⟩
        have gq516 := ty_fr (q := q516) (k := 31) (u := 135) eq516 hTH460 gbH460 rg_112 rfl
        obtain ⟨q517, eq517⟩ : ∃ z : Nat, z = fR H460 b (K.1.2 10 32) := ⟨_, rfl⟩
        have gq517 := ty_fr (q := q517) (k := 32) (u := 136) eq517 hTH460 gbH460 rg_112 rfl
        obtain ⟨q518, eq518⟩ : ∃ z : Nat, z = fR H460 b (K.1.2 10 33) := ⟨_, rfl⟩
        have gq518 := ty_fr (q := q518) (k := 33) (u := 137) eq518 hTH460 gbH460 rg_112 rfl
        obtain ⟨q519, eq519⟩ : ∃ z : Nat, z = fR H460 b (K.1.2 10 50) := ⟨_, rfl⟩
        have gq519 := ty_fr (q := q519) (k := 50) (u := 146) eq519 hTH460 gbH460 rg_112 rfl
        refine x_V (As := [.int 1]) (rest := []) C (a_X10_image l K G462 H460 (1) (hi) (y1) (y4) (y5) (y10) (y13) (y16) hTH460 gbH460 (by decide) giqH460 m495 gq509 eq509 gq510 eq510 gq511 eq511 gq512 eq512 gq513 eq513 gq514 eq514 gq515 eq515 gq516 eq516 gq517 eq517 gq518 eq518 gq519 eq519 m494 m487 m488 m489 m490 m491 m492 g480 g481 g482 g483) yo_X10_image wM_L_157 ⟨⟨by decide, by decide⟩, show _ ≤ 284929 by omega, show _ ≤ 8247460 by omega⟩ (x_rv C hTH460 (ci := 10) rfl gbH460 rg_112) rfl hl.1 rfl (Nat.le_of_ble_eq_true rfl) dL_law_1479 hSH460 (AE_new hNH460 hSH460.1) (fun vH520 H520 locsH520 pH520 zH520 kH520 hSH520 => ?_)
        obtain ⟨x521, x522, x523, x524, x525, x526, x527, x528, hvH520, bx521, ex522, ex523, ex524, ex525, ex526, ex527, ex528, hrH520, m529, m530, m531, m532, m533, m534, m535, m536, m537, m538, m539, m540, g541, g542, g543, g544, mf545, m546, m547, m548, hTH520⟩ := pH520
        subst hvH520
        have f549 : ∀ j : Nat, fI H520 tq j = fI H tq j := fun j => (fI_kept (x_lt hTH460 kH520 gtqH460 (by decide))).trans (f484 j)
        have f550 : ∀ j : Nat, fI H520 uq j = fI H uq j := fun j => (fI_kept (x_lt hTH460 kH520 guqH460 (by decide))).trans (f485 j)
        have m551 := (m463).trans (fR_kept (x_lt hTH460 kH520 gaH460 (by decide))).symm
        have m552 := (m464).trans (fI_kept (x_lt hTH460 kH520 gaH460 (by decide))).symm
        have m553 := (m479).trans (fR_kept (x_lt hTH460 kH520 gaH460 (by decide))).symm
        have m554 := (m465).trans (fI_kept (x_lt hTH460 kH520 gwH460 (by decide))).symm
        have m555 := (m466).trans (fI_kept (x_lt hTH460 kH520 gwH460 (by decide))).symm
        have m556 := (m467).trans (fI_kept (x_lt hTH460 kH520 gwH460 (by decide))).symm
        have m557 := (m468).trans (fI_kept (x_lt hTH460 kH520 gwH460 (by decide))).symm
        have m558 := (m469).trans (fI_kept (x_lt hTH460 kH520 gwH460 (by decide))).symm
        have m559 := (m470).trans (fI_kept (x_lt hTH460 kH520 gwH460 (by decide))).symm
        have m560 := (ex502).trans (fI_kept (x_lt hTH460 kH520 gq478 (by decide))).symm
        have m561 := (ex503).trans (fI_kept (x_lt hTH460 kH520 gq478 (by decide))).symm
        have m562 := (ex504).trans (fI_kept (x_lt hTH460 kH520 gq478 (by decide))).symm
        have m563 := (ex505).trans (fI_kept (x_lt hTH460 kH520 gq478 (by decide))).symm
        have m564 := (ex506).trans (fI_kept (x_lt hTH460 kH520 gq478 (by decide))).symm
        have m565 := (ex507).trans (fI_kept (x_lt hTH460 kH520 gq478 (by decide))).symm
        have m566 := (fV_kept (x_lt hTH460 kH520 gaH460 (by decide))).trans m477
        have m567 := (m486).trans (MF.i mf545 (k := 18) (by decide) (by decide)).symm
        have m568 := (m493).trans (MF.r mf545 (k := 17) (by decide) (by decide)).symm
        have m569 := (m495).trans (MF.r mf545 (k := 73) (by decide) (by decide)).symm
        have m570 := (eq509).trans (MF.r mf545 (k := 4) (by decide) (by decide)).symm
        have m571 := (eq510).trans (MF.r mf545 (k := 10) (by decide) (by decide)).symm
        have m572 := (eq511).trans (MF.r mf545 (k := 16) (by decide) (by decide)).symm
        have m573 := (eq512).trans (MF.r mf545 (k := 24) (by decide) (by decide)).symm
        have m574 := (eq513).trans (MF.r mf545 (k := 27) (by decide) (by decide)).symm
        have m575 := (eq514).trans (MF.r mf545 (k := 29) (by decide) (by decide)).symm
        have m576 := (eq515).trans (MF.r mf545 (k := 30) (by decide) (by decide)).symm
        have m577 := (eq516).trans (MF.r mf545 (k := 31) (by decide) (by decide)).symm
        have m578 := (eq517).trans (MF.r mf545 (k := 32) (by decide) (by decide)).symm
        have m579 := (eq518).trans (MF.r mf545 (k := 33) (by decide) (by decide)).symm
        have m580 := (eq519).trans (MF.r mf545 (k := 50) (by decide) (by decide)).symm
        have bx522 := ty_fi (x := x522) (k := 70) ex522 hTH520 gbH460 rg_112 rfl
        have bx523 := ty_fi (x := x523) (k := 1) ex523 hTH520 gbH460 rg_112 rfl
        have bx524 := ty_fi (x := x524) (k := 2) ex524 hTH520 gbH460 rg_112 rfl
        have bx525 := ty_fi (x := x525) (k := 3) ex525 hTH520 gbH460 rg_112 rfl
        have bx526 := ty_fi (x := x526) (k := 59) ex526 hTH520 gbH460 rg_112 rfl
        have bx527 := ty_fi (x := x527) (k := 62) ex527 hTH520 gbH460 rg_112 rfl
        have bx528 := ty_fi (x := x528) (k := 65) ex528 hTH520 gbH460 rg_112 rfl
        refine W.eq (g2 := F0 m 1482 ls [.int x521]) rfl ?_
        obtain ⟨j581, j582, j583, j584, j585, j586⟩ := m546.resolve_left (by omega)
        obtain ⟨j587, j588, j589, j590, j591, j592⟩ := m547 (by decide)
        replace j587 := congrArg Int32.toInt j587
        replace j588 := congrArg Int32.toInt j588
        replace j589 := congrArg Int32.toInt j589
        replace j590 := congrArg Int32.toInt j590
        replace j591 := congrArg Int32.toInt j591
        replace j592 := congrArg Int32.toInt j592
        have ij581 : x523 = fI H520 iq ((0 : Int32).toNatClampNeg) := j581
        have ij582 : x524 = fI H520 iq ((1 : Int32).toNatClampNeg) := j582
        have ij583 : x525 = fI H520 iq ((2 : Int32).toNatClampNeg) := j583
        have ij584 : x526 = fI H520 iq ((3 : Int32).toNatClampNeg) := j584
        have ij585 : x527 = fI H520 iq ((4 : Int32).toNatClampNeg) := j585
        have ij586 : x528 = fI H520 iq ((5 : Int32).toNatClampNeg) := j586
        refine lv_pop hx hb dL_law_1482 rfl ?_
        refine lv_goto (tgt := 1509) hx hb dL_law_1483 (by decide) ?_
        exact nx G462 H520 locsH520 _ _ ls ⟨hTH520, hNH460, gaH460, gbH460, g541, g542, g543, g544, ⟨(by rw [← m552, ← m567]; omega), (by rw [← m551, ← m554, ← ex523]; omega), (by rw [← m551, ← m555, ← ex524]; omega), (by rw [← m551, ← m556, ← ex525]; omega), (by rw [← m551, ← m557, ← ex526]; omega), (by rw [← m551, ← m558, ← ex527]; omega), (by rw [← m551, ← m559, ← ex528]; omega)⟩, Or.inr ⟨q478, m566, gq478, (by rw [← ex522]; omega), (by rw [← m560, ← m529, ← ij581]; omega), (by rw [← m561, ← m529, ← ij582]; omega), (by rw [← m562, ← m529, ← ij583]; omega), (by rw [← m563, ← m529, ← ij584]; omega), (by rw [← m564, ← m529, ← ij585]; omega), (by rw [← m565, ← m529, ← ij586]; omega)⟩, (by unfold TB; rw [← m553, ← m568, ← m567]; exact TBR.of htr f549 f550 (by omega)), hSH520⟩ hl ⟨by omega, by omega, fun h => by have h1 := h.symm.trans m566; cases h1⟩
set_option maxRecDepth 100000 in
set_option maxHeartbeats 8000000 in
theorem lw_c34 {p : Program} {l : Launch} {e : Env} {s : State} {m : MethodId} {below : List Frame} {meth : Method} {c : Code} {K : KE} {b0 L : Nat} {xs : Nat → Int32} {G : Nat → Option Nat} {H : Heap} {locs : List Loc} {a b : Nat} {cells slots : Nat} {ls : Array Slot} {i : Int32} {n : Nat} (D : LC p K s m meth c b0 L xs) (S : SX K s G H locs a b) (hl : lv_has ls 4 [(3, .int i), (2, .ref b), (1, .ref a), (0, .ref b0)]) (hi : 0 ≤ i.toInt ∧ i.toInt + 6 ≤ L) (hn : n ≤ 511) (hB : BD K H a cells slots) (nx : ∀ (G : Nat → Option Nat) (H : Heap) (locs : List Loc) (cells slots : Nat) (ls : Array Slot), SX K s G H locs a b → lv_has ls 4 [(3, .int i), (2, .ref b), (1, .ref a), (0, .ref b0)] → BD K H a cells slots → W p l e room_1 s m #[Value.ref b0] below meth c H locs cells slots (lw_Z below #[Value.ref b0] s) (F0 m 1509 ls [])) : W p l e room_1 s m #[Value.ref b0] below meth c H locs cells slots (lw_Z below #[Value.ref b0] s) (F0 m 1486 ls []) := by
  obtain ⟨C, hX, hbl, hL⟩ := id D
  obtain ⟨hx, hb, hml, hown, hts, hKT, hr, hlocks, hnm⟩ := id C
  obtain ⟨hT, hN, ga, gb, cg, tu, wd, im, ⟨rt, r1, r4, r5, r10, r13, r16⟩, hk, htb, hS⟩ := S
  obtain ⟨hc, hs, hB0⟩ := hB
  have n_1 : (1 : Int32).toInt = 1 := rfl
  obtain ⟨w, ew⟩ : ∃ z : Nat, z = fR H a (K.1.2 9 0) := ⟨_, rfl⟩
  have gw := ty_fr (q := w) (k := 0) (u := 0) ew hT ga rg_68 rfl
  rw [← ew] at r1 r4 r5 r10 r13 r16
  obtain ⟨ta, eta⟩ : ∃ z : Int32, z = fI H a (K.1.2 9 3) := ⟨_, rfl⟩
  rw [← eta] at rt
  obtain ⟨tb, etb⟩ : ∃ z : Int32, z = fI H b (K.1.2 10 18) := ⟨_, rfl⟩
  rw [← etb] at rt
  obtain ⟨s1, es1⟩ : ∃ z : Int32, z = fI H w (K.1.2 8 1) := ⟨_, rfl⟩
  rw [← es1] at r1
  obtain ⟨y1, ey1⟩ : ∃ z : Int32, z = fI H b (K.1.2 10 1) := ⟨_, rfl⟩
  rw [← ey1] at r1
  obtain ⟨s4, es4⟩ : ∃ z : Int32, z = fI H w (K.1.2 8 4) := ⟨_, rfl⟩
  rw [← es4] at r4
  obtain ⟨y4, ey4⟩ : ∃ z : Int32, z = fI H b (K.1.2 10 2) := ⟨_, rfl⟩
  rw [← ey4] at r4
  obtain ⟨s5, es5⟩ : ∃ z : Int32, z = fI H w (K.1.2 8 5) := ⟨_, rfl⟩
  rw [← es5] at r5
  obtain ⟨y5, ey5⟩ : ∃ z : Int32, z = fI H b (K.1.2 10 3) := ⟨_, rfl⟩
  rw [← ey5] at r5
  obtain ⟨s10, es10⟩ : ∃ z : Int32, z = fI H w (K.1.2 8 10) := ⟨_, rfl⟩
  rw [← es10] at r10
  obtain ⟨y10, ey10⟩ : ∃ z : Int32, z = fI H b (K.1.2 10 59) := ⟨_, rfl⟩
  rw [← ey10] at r10
  obtain ⟨s13, es13⟩ : ∃ z : Int32, z = fI H w (K.1.2 8 13) := ⟨_, rfl⟩
  rw [← es13] at r13
  obtain ⟨y13, ey13⟩ : ∃ z : Int32, z = fI H b (K.1.2 10 62) := ⟨_, rfl⟩
  rw [← ey13] at r13
  obtain ⟨s16, es16⟩ : ∃ z : Int32, z = fI H w (K.1.2 8 16) := ⟨_, rfl⟩
  rw [← es16] at r16
  obtain ⟨y16, ey16⟩ : ∃ z : Int32, z = fI H b (K.1.2 10 65) := ⟨_, rfl⟩
  rw [← ey16] at r16
  obtain ⟨tq, etq⟩ : ∃ z : Nat, z = fR H a (K.1.2 9 2) := ⟨_, rfl⟩
  have gtq := ty_fr (q := tq) (k := 2) (u := 108) etq hT ga rg_68 rfl
  obtain ⟨uq, euq⟩ : ∃ z : Nat, z = fR H b (K.1.2 10 17) := ⟨_, rfl⟩
  have guq := ty_fr (q := uq) (k := 17) (u := 126) euq hT gb rg_112 rfl
  have htr : TBR (fun j => fI H tq j) (fun j => fI H uq j) tb.toNatClampNeg := by rw [etq, euq, etb]; exact htb
  have ft0 : ∀ j : Nat, fI H tq j = fI H tq j := fun _ => rfl
  have fu0 : ∀ j : Nat, fI H uq j = fI H uq j := fun _ => rfl
  have bta := ty_fi (x := ta) (k := 3) eta hT ga rg_68 rfl
  have cta := i_cl (x := ta) (by omega)
  have btb := ty_fi (x := tb) (k := 18) etb hT gb rg_112 rfl
  have ctb := i_cl (x := tb) (by omega)
  rcases hk with ⟨kn, h70⟩ | ⟨kq, kn, gkq, h70, q1, q4, q5, q10, q13, q16⟩
  · skip
    obtain ⟨hi, ehi⟩ : ∃ z : Int32, z = fI H b (K.1.2 10 70) := ⟨_, rfl⟩
    rw [← ehi] at h70
    obtain ⟨hc0, hs0⟩ := hB0 kn
    refine lv_aload_n hx hb dL_law_1486 rfl (lv_at hl 2 rfl) ?_
    refine lv_aload_n hx hb dL_law_1487 rfl (lv_at hl 3 rfl) ?_
    refine lv_iload_n hx hb dL_law_1488 rfl (lv_at hl 0 rfl) ?_
    refine lv_iconst (v := 1) hx hb dL_law_1489 (by decide) ?_
    refine lv_iadd hx hb dL_law_1490 ?_
    refine lv_topi (fun x101 ex101 => ?_)
    have tx101 := i_add ex101 (by omega)
    have ejx101 : x101.toNatClampNeg = i.toNatClampNeg + 1 := by have h1 := i_cl (x := x101) (by omega); have h2 := i_cl (x := i) (by omega); omega
    refine va_sld hx hb hX hbl (Nat.not_le.mpr hbl) hS (vp_in_iff.mpr (by omega)) dL_law_1491 ?_
    refine W.eq (g2 := F0 m 1492 ls [.int (xs (i.toNatClampNeg + 1)), .ref a]) (congrArg (fun z => F0 m 1492 ls [.int (xs z), .ref a]) ejx101) ?_
    refine x_V (As := [.int (xs (i.toNatClampNeg + 1))]) (rest := []) C (a_X9_look l K G H ((xs (i.toNatClampNeg + 1))) hT ga) yo_X9_look wM_L_158 ⟨⟨by decide, by decide⟩, show _ ≤ 284929 by omega, show _ ≤ 8247460 by omega⟩ (x_rv C hT (ci := 9) rfl ga rg_68) rfl hl.1 rfl (Nat.le_of_ble_eq_true rfl) dL_law_1492 hS (AE_new hN hS.1) (fun vH102 H102 locsH102 pH102 zH102 kH102 hSH102 => ?_)
    obtain ⟨x103, hvH102, hTH102⟩ := pH102
    subst hvH102
    have g104 : CG (avw K H102 b) := CG.congr (fun k hk j => av_eff hT kH102 gb (by decide) (CG_eff [83, 84] (by decide) k hk)) cg
    have g105 : TU (avw K H102 b) (svw K H102 b) := TU.congr (fun k hk j => av_eff hT kH102 gb (by decide) (TU_eff [83, 84] (by decide) k hk)) (fun k hk => sv_eff hT kH102 gb (by decide)) tu
    have g106 : WD (avw K H102 b) := WD.congr (fun k hk j => av_eff hT kH102 gb (by decide) (WD_eff [83, 84] (by decide) k hk)) wd
    have g107 : IM (avw K H102 b) := IM.congr (fun k hk j => av_eff hT kH102 gb (by decide) (IM_eff [83, 84] (by decide) k hk)) im
    have f108 : ∀ j : Nat, fI H102 tq j = fI H tq j := fun j => (fI_kept (x_lt hT kH102 gtq (by decide))).trans (ft0 j)
    have f109 : ∀ j : Nat, fI H102 uq j = fI H uq j := fun j => (fI_kept (x_lt hT kH102 guq (by decide))).trans (fu0 j)
    have m110 := (ew).trans (fR_kept (x_lt hT kH102 ga (by decide))).symm
    have m111 := (eta).trans (fI_kept (x_lt hT kH102 ga (by decide))).symm
    have m112 := (etb).trans (fI_kept (x_lt hT kH102 gb (by decide))).symm
    have m113 := (es1).trans (fI_kept (x_lt hT kH102 gw (by decide))).symm
    have m114 := (ey1).trans (fI_kept (x_lt hT kH102 gb (by decide))).symm
    have m115 := (es4).trans (fI_kept (x_lt hT kH102 gw (by decide))).symm
    have m116 := (ey4).trans (fI_kept (x_lt hT kH102 gb (by decide))).symm
    have m117 := (es5).trans (fI_kept (x_lt hT kH102 gw (by decide))).symm
    have m118 := (ey5).trans (fI_kept (x_lt hT kH102 gb (by decide))).symm
    have m119 := (es10).trans (fI_kept (x_lt hT kH102 gw (by decide))).symm
    have m120 := (ey10).trans (fI_kept (x_lt hT kH102 gb (by decide))).symm
    have m121 := (es13).trans (fI_kept (x_lt hT kH102 gw (by decide))).symm
    have m122 := (ey13).trans (fI_kept (x_lt hT kH102 gb (by decide))).symm
    have m123 := (es16).trans (fI_kept (x_lt hT kH102 gw (by decide))).symm
    have m124 := (ey16).trans (fI_kept (x_lt hT kH102 gb (by decide))).symm
    have m125 := (etq).trans (fR_kept (x_lt hT kH102 ga (by decide))).symm
    have m126 := (euq).trans (fR_kept (x_lt hT kH102 gb (by decide))).symm
    have m127 := (ehi).trans (fI_kept (x_lt hT kH102 gb (by decide))).symm
    have m128 := (fV_kept (x_lt hT kH102 ga (by decide))).trans kn
    refine W.eq (g2 := F0 m 1495 ls [.int x103]) rfl ?_
    refine lv_pop hx hb dL_law_1495 rfl ?_
    refine lv_aload_n hx hb dL_law_1496 rfl (lv_at hl 1 rfl) ?_
    refine lv_aload_n hx hb dL_law_1497 rfl (lv_at hl 3 rfl) ?_
    refine lv_iload_n hx hb dL_law_1498 rfl (lv_at hl 0 rfl) ?_
    refine lv_iconst (v := 1) hx hb dL_law_1499 (by decide) ?_
    refine lv_iadd hx hb dL_law_1500 ?_
    refine lv_topi (fun x129 ex129 => ?_)
    have tx129 := i_add ex129 (by omega)
    have ejx129 : x129.toNatClampNeg = i.toNatClampNeg + 1 := by have h1 := i_cl (x := x129) (by omega); have h2 := i_cl (x := i) (by omega); omega
    refine va_sld hx hb hX hbl (Nat.not_le.mpr hbl) hSH102 (vp_in_iff.mpr (by omega)) dL_law_1501 ?_
    refine W.eq (g2 := F0 m 1502 ls [.int (xs (i.toNatClampNeg + 1)), .ref b]) (congrArg (fun z => F0 m 1502 ls [.int (xs z), .ref b]) ejx129) ?_
    refine x_V (As := [.int (xs (i.toNatClampNeg + 1))]) (rest := []) C (a_X10_look l K G H102 ((xs (i.toNatClampNeg + 1))) hTH102 gb g104 g105 g106 g107) yo_X10_look wM_L_161 ⟨⟨by decide, by decide⟩, show _ ≤ 284929 by omega, show _ ≤ 8247460 by omega⟩ (x_rv C hTH102 (ci := 10) rfl gb rg_112) rfl hl.1 rfl (Nat.le_of_ble_eq_true rfl) dL_law_1502 hSH102 (AE_new hN hSH102.1) (fun vH130 H130 locsH130 pH130 zH130 kH130 hSH130 => ?_)
    obtain ⟨x131, hvH130, g132, g133, g134, g135, mf136, hTH130⟩ := pH130
    subst hvH130
    have f137 : ∀ j : Nat, fI H130 tq j = fI H tq j := fun j => (fI_kept (x_lt hTH102 kH130 gtq (by decide))).trans (f108 j)
    have f138 : ∀ j : Nat, fI H130 uq j = fI H uq j := fun j => (fI_kept (x_lt hTH102 kH130 guq (by decide))).trans (f109 j)
    have m139 := (m110).trans (fR_kept (x_lt hTH102 kH130 ga (by decide))).symm
    have m140 := (m111).trans (fI_kept (x_lt hTH102 kH130 ga (by decide))).symm
    have m141 := (m113).trans (fI_kept (x_lt hTH102 kH130 gw (by decide))).symm
    have m142 := (m115).trans (fI_kept (x_lt hTH102 kH130 gw (by decide))).symm
    have m143 := (m117).trans (fI_kept (x_lt hTH102 kH130 gw (by decide))).symm
    have m144 := (m119).trans (fI_kept (x_lt hTH102 kH130 gw (by decide))).symm
    have m145 := (m121).trans (fI_kept (x_lt hTH102 kH130 gw (by decide))).symm
    have m146 := (m123).trans (fI_kept (x_lt hTH102 kH130 gw (by decide))).symm
    have m147 := (m125).trans (fR_kept (x_lt hTH102 kH130 ga (by decide))).symm
    have m148 := (fV_kept (x_lt hTH102 kH130 ga (by decide))).trans m128
    have m149 := (m112).trans (MF.i mf136 (k := 18) (by decide) (by decide)).symm
    have m150 := (m114).trans (MF.i mf136 (k := 1) (by decide) (by decide)).symm
    have m151 := (m116).trans (MF.i mf136 (k := 2) (by decide) (by decide)).symm
    have m152 := (m118).trans (MF.i mf136 (k := 3) (by decide) (by decide)).symm
    have m153 := (m120).trans (MF.i mf136 (k := 59) (by decide) (by decide)).symm
    have m154 := (m122).trans (MF.i mf136 (k := 62) (by decide) (by decide)).symm
    have m155 := (m124).trans (MF.i mf136 (k := 65) (by decide) (by decide)).symm
    have m156 := (m126).trans (MF.r mf136 (k := 17) (by decide) (by decide)).symm
    have m157 := (m127).trans (MF.i mf136 (k := 70) (by decide) (by decide)).symm
    refine W.eq (g2 := F0 m 1505 ls [.int x131]) rfl ?_
    refine lv_pop hx hb dL_law_1505 rfl ?_
    refine lv_goto (tgt := 1509) hx hb dL_law_1506 (by decide) ?_
    exact nx G H130 locsH130 _ _ ls ⟨hTH130, hN, ga, gb, g132, g133, g134, g135, ⟨(by rw [← m140, ← m149]; omega), (by rw [← m139, ← m141, ← m150]; omega), (by rw [← m139, ← m142, ← m151]; omega), (by rw [← m139, ← m143, ← m152]; omega), (by rw [← m139, ← m144, ← m153]; omega), (by rw [← m139, ← m145, ← m154]; omega), (by rw [← m139, ← m146, ← m155]; omega)⟩, Or.inl ⟨m148, (by rw [← m157]; omega)⟩, (by unfold TB; rw [← m147, ← m156, ← m149]; exact TBR.of htr f137 f138 (by omega)), hSH130⟩ hl ⟨by omega, by omega, fun _ => ⟨by omega, by omega⟩⟩
  · skip
    obtain ⟨hi, ehi⟩ : ∃ z : Int32, z = fI H b (K.1.2 10 70) := ⟨_, rfl⟩
    rw [← ehi] at h70
    obtain ⟨iq, eiq⟩ : ∃ z : Nat, z = fR H b (K.1.2 10 73) := ⟨_, rfl⟩
    have giq := ty_fr (q := iq) (k := 73) (u := 162) eiq hT gb rg_112 rfl
    rw [← eiq] at q1 q4 q5 q10 q13 q16
    obtain ⟨k1, ek1⟩ : ∃ z : Int32, z = fI H kq (K.1.2 8 1) := ⟨_, rfl⟩
    rw [← ek1] at q1
    obtain ⟨i1, ei1⟩ : ∃ z : Int32, z = fI H iq ((0 : Int32).toNatClampNeg) := ⟨_, rfl⟩
    rw [← ei1] at q1
    obtain ⟨k4, ek4⟩ : ∃ z : Int32, z = fI H kq (K.1.2 8 4) := ⟨_, rfl⟩
    rw [← ek4] at q4
    obtain ⟨i4, ei4⟩ : ∃ z : Int32, z = fI H iq ((1 : Int32).toNatClampNeg) := ⟨_, rfl⟩
    rw [← ei4] at q4
    obtain ⟨k5, ek5⟩ : ∃ z : Int32, z = fI H kq (K.1.2 8 5) := ⟨_, rfl⟩
    rw [← ek5] at q5
    obtain ⟨i5, ei5⟩ : ∃ z : Int32, z = fI H iq ((2 : Int32).toNatClampNeg) := ⟨_, rfl⟩
    rw [← ei5] at q5
    obtain ⟨k10, ek10⟩ : ∃ z : Int32, z = fI H kq (K.1.2 8 10) := ⟨_, rfl⟩
    rw [← ek10] at q10
    obtain ⟨i10, ei10⟩ : ∃ z : Int32, z = fI H iq ((3 : Int32).toNatClampNeg) := ⟨_, rfl⟩
    rw [← ei10] at q10
    obtain ⟨k13, ek13⟩ : ∃ z : Int32, z = fI H kq (K.1.2 8 13) := ⟨_, rfl⟩
    rw [← ek13] at q13
    obtain ⟨i13, ei13⟩ : ∃ z : Int32, z = fI H iq ((4 : Int32).toNatClampNeg) := ⟨_, rfl⟩
    rw [← ei13] at q13
    obtain ⟨k16, ek16⟩ : ∃ z : Int32, z = fI H kq (K.1.2 8 16) := ⟨_, rfl⟩
    rw [← ek16] at q16
    obtain ⟨i16, ei16⟩ : ∃ z : Int32, z = fI H iq ((5 : Int32).toNatClampNeg) := ⟨_, rfl⟩
    rw [← ei16] at q16
    refine lv_aload_n hx hb dL_law_1486 rfl (lv_at hl 2 rfl) ?_
    refine lv_aload_n hx hb dL_law_1487 rfl (lv_at hl 3 rfl) ?_
    refine lv_iload_n hx hb dL_law_1488 rfl (lv_at hl 0 rfl) ?_
    refine lv_iconst (v := 1) hx hb dL_law_1489 (by decide) ?_
    refine lv_iadd hx hb dL_law_1490 ?_
    refine lv_topi (fun x158 ex158 => ?_)
    have tx158 := i_add ex158 (by omega)
    have ejx158 : x158.toNatClampNeg = i.toNatClampNeg + 1 := by have h1 := i_cl (x := x158) (by omega); have h2 := i_cl (x := i) (by omega); omega
    refine va_sld hx hb hX hbl (Nat.not_le.mpr hbl) hS (vp_in_iff.mpr (by omega)) dL_law_1491 ?_
    refine W.eq (g2 := F0 m 1492 ls [.int (xs (i.toNatClampNeg + 1)), .ref a]) (congrArg (fun z => F0 m 1492 ls [.int (xs z), .ref a]) ejx158) ?_
    refine x_V (As := [.int (xs (i.toNatClampNeg + 1))]) (rest := []) C (a_X9_look l K G H ((xs (i.toNatClampNeg + 1))) hT ga) yo_X9_look wM_L_158 ⟨⟨by decide, by decide⟩, show _ ≤ 284929 by omega, show _ ≤ 8247460 by omega⟩ (x_rv C hT (ci := 9) rfl ga rg_68) rfl hl.1 rfl (Nat.le_of_ble_eq_true rfl) dL_law_1492 hS (AE_new hN hS.1) (fun vH159 H159 locsH159 pH159 zH159 kH159 hSH159 => ?_)
    obtain ⟨x160, hvH159, hTH159⟩ := pH159
    subst hvH159
    have g161 : CG (avw K H159 b) := CG.congr (fun k hk j => av_eff hT kH159 gb (by decide) (CG_eff [83, 84] (by decide) k hk)) cg
    have g162 : TU (avw K H159 b) (svw K H159 b) := TU.congr (fun k hk j => av_eff hT kH159 gb (by decide) (TU_eff [83, 84] (by decide) k hk)) (fun k hk => sv_eff hT kH159 gb (by decide)) tu
    have g163 : WD (avw K H159 b) := WD.congr (fun k hk j => av_eff hT kH159 gb (by decide) (WD_eff [83, 84] (by decide) k hk)) wd
    have g164 : IM (avw K H159 b) := IM.congr (fun k hk j => av_eff hT kH159 gb (by decide) (IM_eff [83, 84] (by decide) k hk)) im
    have f165 : ∀ j : Nat, fI H159 tq j = fI H tq j := fun j => (fI_kept (x_lt hT kH159 gtq (by decide))).trans (ft0 j)
    have f166 : ∀ j : Nat, fI H159 uq j = fI H uq j := fun j => (fI_kept (x_lt hT kH159 guq (by decide))).trans (fu0 j)
    have m167 := (ew).trans (fR_kept (x_lt hT kH159 ga (by decide))).symm
    have m168 := (eta).trans (fI_kept (x_lt hT kH159 ga (by decide))).symm
    have m169 := (etb).trans (fI_kept (x_lt hT kH159 gb (by decide))).symm
    have m170 := (es1).trans (fI_kept (x_lt hT kH159 gw (by decide))).symm
    have m171 := (ey1).trans (fI_kept (x_lt hT kH159 gb (by decide))).symm
    have m172 := (es4).trans (fI_kept (x_lt hT kH159 gw (by decide))).symm
    have m173 := (ey4).trans (fI_kept (x_lt hT kH159 gb (by decide))).symm
    have m174 := (es5).trans (fI_kept (x_lt hT kH159 gw (by decide))).symm
    have m175 := (ey5).trans (fI_kept (x_lt hT kH159 gb (by decide))).symm
    have m176 := (es10).trans (fI_kept (x_lt hT kH159 gw (by decide))).symm
    have m177 := (ey10).trans (fI_kept (x_lt hT kH159 gb (by decide))).symm
    have m178 := (es13).trans (fI_kept (x_lt hT kH159 gw (by decide))).symm
    have m179 := (ey13).trans (fI_kept (x_lt hT kH159 gb (by decide))).symm
    have m180 := (es16).trans (fI_kept (x_lt hT kH159 gw (by decide))).symm
    have m181 := (ey16).trans (fI_kept (x_lt hT kH159 gb (by decide))).symm
    have m182 := (etq).trans (fR_kept (x_lt hT kH159 ga (by decide))).symm
    have m183 := (euq).trans (fR_kept (x_lt hT kH159 gb (by decide))).symm
    have m184 := (ehi).trans (fI_kept (x_lt hT kH159 gb (by decide))).symm
    have m185 := (fV_kept (x_lt hT kH159 ga (by decide))).trans kn
    have m186 := (eiq).trans (fR_kept (x_lt hT kH159 gb (by decide))).symm
    have m187 := (ek1).trans (fI_kept (x_lt hT kH159 gkq (by decide))).symm
    have m188 := (ei1).trans (fI_kept (x_lt hT kH159 giq (by decide))).symm
    have m189 := (ek4).trans (fI_kept (x_lt hT kH159 gkq (by decide))).symm
    have m190 := (ei4).trans (fI_kept (x_lt hT kH159 giq (by decide))).symm
    have m191 := (ek5).trans (fI_kept (x_lt hT kH159 gkq (by decide))).symm
    have m192 := (ei5).trans (fI_kept (x_lt hT kH159 giq (by decide))).symm
    have m193 := (ek10).trans (fI_kept (x_lt hT kH159 gkq (by decide))).symm
    have m194 := (ei10).trans (fI_kept (x_lt hT kH159 giq (by decide))).symm
    have m195 := (ek13).trans (fI_kept (x_lt hT kH159 gkq (by decide))).symm
    have m196 := (ei13).trans (fI_kept (x_lt hT kH159 giq (by decide))).symm
    have m197 := (ek16).trans (fI_kept (x_lt hT kH159 gkq (by decide))).symm
    have m198 := (ei16).trans (fI_kept (x_lt hT kH159 giq (by decide))).symm
    refine W.eq (g2 := F0 m 1495 ls [.int x160]) rfl ?_
    refine lv_pop hx hb dL_law_1495 rfl ?_
    refine lv_aload_n hx hb dL_law_1496 rfl (lv_at hl 1 rfl) ?_
    refine lv_aload_n hx hb dL_law_1497 rfl (lv_at hl 3 rfl) ?_
    refine lv_iload_n hx hb dL_law_1498 rfl (lv_at hl 0 rfl) ?_
    refine lv_iconst (v := 1) hx hb dL_law_1499 (by decide) ?_
    refine lv_iadd hx hb dL_law_1500 ?_
    refine lv_topi (fun x199 ex199 => ?_)
    have tx199 := i_add ex199 (by omega)
    have ejx199 : x199.toNatClampNeg = i.toNatClampNeg + 1 := by have h1 := i_cl (x := x199) (by omega); have h2 := i_cl (x := i) (by omega); omega
    refine va_sld hx hb hX hbl (Nat.not_le.mpr hbl) hSH159 (vp_in_iff.mpr (by omega)) dL_law_1501 ?_
    refine W.eq (g2 := F0 m 1502 ls [.int (xs (i.toNatClampNeg + 1)), .ref b]) (congrArg (fun z => F0 m 1502 ls [.int (xs z), .ref b]) ejx199) ?_
    refine x_V (As := [.int (xs (i.toNatClampNeg + 1))]) (rest := []) C (a_X10_look l K G H159 ((xs (i.toNatClampNeg + 1))) hTH159 gb g161 g162 g163 g164) yo_X10_look wM_L_161 ⟨⟨by decide, by decide⟩, show _ ≤ 284929 by omega, show _ ≤ 8247460 by omega⟩ (x_rv C hTH159 (ci := 10) rfl gb rg_112) rfl hl.1 rfl (Nat.le_of_ble_eq_true rfl) dL_law_1502 hSH159 (AE_new hN hSH159.1) (fun vH200 H200 locsH200 pH200 zH200 kH200 hSH200 => ?_)
    obtain ⟨x201, hvH200, g202, g203, g204, g205, mf206, hTH200⟩ := pH200
    subst hvH200
    have f207 : ∀ j : Nat, fI H200 tq j = fI H tq j := fun j => (fI_kept (x_lt hTH159 kH200 gtq (by decide))).trans (f165 j)
    have f208 : ∀ j : Nat, fI H200 uq j = fI H uq j := fun j => (fI_kept (x_lt hTH159 kH200 guq (by decide))).trans (f166 j)
    have m209 := (m167).trans (fR_kept (x_lt hTH159 kH200 ga (by decide))).symm
    have m210 := (m168).trans (fI_kept (x_lt hTH159 kH200 ga (by decide))).symm
    have m211 := (m170).trans (fI_kept (x_lt hTH159 kH200 gw (by decide))).symm
    have m212 := (m172).trans (fI_kept (x_lt hTH159 kH200 gw (by decide))).symm
    have m213 := (m174).trans (fI_kept (x_lt hTH159 kH200 gw (by decide))).symm
    have m214 := (m176).trans (fI_kept (x_lt hTH159 kH200 gw (by decide))).symm
    have m215 := (m178).trans (fI_kept (x_lt hTH159 kH200 gw (by decide))).symm
    have m216 := (m180).trans (fI_kept (x_lt hTH159 kH200 gw (by decide))).symm
    have m217 := (m182).trans (fR_kept (x_lt hTH159 kH200 ga (by decide))).symm
    have m218 := (fV_kept (x_lt hTH159 kH200 ga (by decide))).trans m185
    have m219 := (m187).trans (fI_kept (x_lt hTH159 kH200 gkq (by decide))).symm
    have m220 := (m188).trans (fI_kept (x_lt hTH159 kH200 giq (by decide))).symm
    have m221 := (m189).trans (fI_kept (x_lt hTH159 kH200 gkq (by decide))).symm
    have m222 := (m190).trans (fI_kept (x_lt hTH159 kH200 giq (by decide))).symm
    have m223 := (m191).trans (fI_kept (x_lt hTH159 kH200 gkq (by decide))).symm
    have m224 := (m192).trans (fI_kept (x_lt hTH159 kH200 giq (by decide))).symm
    have m225 := (m193).trans (fI_kept (x_lt hTH159 kH200 gkq (by decide))).symm
    have m226 := (m194).trans (fI_kept (x_lt hTH159 kH200 giq (by decide))).symm
    have m227 := (m195).trans (fI_kept (x_lt hTH159 kH200 gkq (by decide))).symm
    have m228 := (m196).trans (fI_kept (x_lt hTH159 kH200 giq (by decide))).symm
    have m229 := (m197).trans (fI_kept (x_lt hTH159 kH200 gkq (by decide))).symm
    have m230 := (m198).trans (fI_kept (x_lt hTH159 kH200 giq (by decide))).symm
    have m231 := (m169).trans (MF.i mf206 (k := 18) (by decide) (by decide)).symm
    have m232 := (m171).trans (MF.i mf206 (k := 1) (by decide) (by decide)).symm
    have m233 := (m173).trans (MF.i mf206 (k := 2) (by decide) (by decide)).symm
    have m234 := (m175).trans (MF.i mf206 (k := 3) (by decide) (by decide)).symm
    have m235 := (m177).trans (MF.i mf206 (k := 59) (by decide) (by decide)).symm
    have m236 := (m179).trans (MF.i mf206 (k := 62) (by decide) (by decide)).symm
    have m237 := (m181).trans (MF.i mf206 (k := 65) (by decide) (by decide)).symm
    have m238 := (m183).trans (MF.r mf206 (k := 17) (by decide) (by decide)).symm
    have m239 := (m184).trans (MF.i mf206 (k := 70) (by decide) (by decide)).symm
    have m240 := (m186).trans (MF.r mf206 (k := 73) (by decide) (by decide)).symm
    refine W.eq (g2 := F0 m 1505 ls [.int x201]) rfl ?_
    refine lv_pop hx hb dL_law_1505 rfl ?_
    refine lv_goto (tgt := 1509) hx hb dL_law_1506 (by decide) ?_
    exact nx G H200 locsH200 _ _ ls ⟨hTH200, hN, ga, gb, g202, g203, g204, g205, ⟨(by rw [← m210, ← m231]; omega), (by rw [← m209, ← m211, ← m232]; omega), (by rw [← m209, ← m212, ← m233]; omega), (by rw [← m209, ← m213, ← m234]; omega), (by rw [← m209, ← m214, ← m235]; omega), (by rw [← m209, ← m215, ← m236]; omega), (by rw [← m209, ← m216, ← m237]; omega)⟩, Or.inr ⟨kq, m218, gkq, (by rw [← m239]; omega), (by rw [← m219, ← m240, ← m220]; omega), (by rw [← m221, ← m240, ← m222]; omega), (by rw [← m223, ← m240, ← m224]; omega), (by rw [← m225, ← m240, ← m226]; omega), (by rw [← m227, ← m240, ← m228]; omega), (by rw [← m229, ← m240, ← m230]; omega)⟩, (by unfold TB; rw [← m217, ← m238, ← m231]; exact TBR.of htr f207 f208 (by omega)), hSH200⟩ hl ⟨by omega, by omega, fun h => by have h1 := h.symm.trans m218; cases h1⟩