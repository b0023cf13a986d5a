set_option maxRecDepth 100000 in
set_option maxHeartbeats 8000000 in
theorem lw_c33 {p : Program} {l : Launch} {e : Env} {s : State} {m : MethodId} {below : List Frame} {meth : Method} {c : Code} {K : KE} {b0 L : Nat} {xs : Nat → Int32} {G : Nat → Option Nat} {H : Heap} {locs : List Loc} {a b : Nat} {cells slots : Nat} {ls : Array Slot} {i : Int32} {n : Nat} (D : LC p K s m meth c b0 L xs) (S : SX K s G H locs a b) (hl : lv_has ls 4 [(3, .int i), (2, .ref b), (1, .ref a), (0, .ref b0)]) (hi : 0 ≤ i.toInt ∧ i.toInt + 6 ≤ L) (hn : n ≤ 511) (hB : BD K H a cells slots) (nx : ∀ (G : Nat → Option Nat) (H : Heap) (locs : List Loc) (cells slots : Nat) (ls : Array Slot), SX K s G H locs a b → lv_has ls 4 [(3, .int i), (2, .ref b), (1, .ref a), (0, .ref b0)] → BD K H a cells slots → W p l e room_1 s m #[Value.ref b0] below meth c H locs cells slots (lw_Z below #[Value.ref b0] s) (F0 m 1509 ls [])) : W p l e room_1 s m #[Value.ref b0] below meth c H locs cells slots (lw_Z below #[Value.ref b0] s) (F0 m 1447 ls []) := by
  have hI := hi
  obtain ⟨C, hX, hbl, hL⟩ := id D
  obtain ⟨hx, hb, hml, hown, hts, hKT, hr, hlocks, hnm⟩ := id C
  obtain ⟨hT, hN, ga, gb, cg, tu, wd, im, ⟨rt, r1, r4, r5, r10, r13, r16⟩, hk, hnb, hS⟩ := S
  obtain ⟨hc, hs, hB0⟩ := hB
  have n_0 : (0 : Int32).toInt = 0 := rfl
  have n_1 : (1 : Int32).toInt = 1 := rfl
  obtain ⟨w, ew⟩ : ∃ z : Nat, z = fR H a (K.1.2 9 0) := ⟨_, rfl⟩
  have gw := ty_fr (q := w) (k := 0) (u := 0) ew hT ga rg_68 rfl
  rw [← ew] at r1 r4 r5 r10 r13 r16
  obtain ⟨ta, eta⟩ : ∃ z : Int32, z = fI H a (K.1.2 9 3) := ⟨_, rfl⟩
  rw [← eta] at rt
  obtain ⟨tb, etb⟩ : ∃ z : Int32, z = fI H b (K.1.2 10 18) := ⟨_, rfl⟩
  rw [← etb] at rt
  obtain ⟨s1, es1⟩ : ∃ z : Int32, z = fI H w (K.1.2 8 1) := ⟨_, rfl⟩
  rw [← es1] at r1
  obtain ⟨y1, ey1⟩ : ∃ z : Int32, z = fI H b (K.1.2 10 1) := ⟨_, rfl⟩
  rw [← ey1] at r1
  obtain ⟨s4, es4⟩ : ∃ z : Int32, z = fI H w (K.1.2 8 4) := ⟨_, rfl⟩
  rw [← es4] at r4
  obtain ⟨y4, ey4⟩ : ∃ z : Int32, z = fI H b (K.1.2 10 2) := ⟨_, rfl⟩
  rw [← ey4] at r4
  obtain ⟨s5, es5⟩ : ∃ z : Int32, z = fI H w (K.1.2 8 5) := ⟨_, rfl⟩
  rw [← es5] at r5
  obtain ⟨y5, ey5⟩ : ∃ z : Int32, z = fI H b (K.1.2 10 3) := ⟨_, rfl⟩
  rw [← ey5] at r5
  obtain ⟨s10, es10⟩ : ∃ z : Int32, z = fI H w (K.1.2 8 10) := ⟨_, rfl⟩
  rw [← es10] at r10
  obtain ⟨y10, ey10⟩ : ∃ z : Int32, z = fI H b (K.1.2 10 59) := ⟨_, rfl⟩
  rw [← ey10] at r10
  obtain ⟨s13, es13⟩ : ∃ z : Int32, z = fI H w (K.1.2 8 13) := ⟨_, rfl⟩
  rw [← es13] at r13
  obtain ⟨y13, ey13⟩ : ∃ z : Int32, z = fI H b (K.1.2 10 62) := ⟨_, rfl⟩
  rw [← ey13] at r13
  obtain ⟨s16, es16⟩ : ∃ z : Int32, z = fI H w (K.1.2 8 16) := ⟨_, rfl⟩
  rw [← es16] at r16
  obtain ⟨y16, ey16⟩ : ∃ z : Int32, z = fI H b (K.1.2 10 65) := ⟨_, rfl⟩
  rw [← ey16] at r16
  obtain ⟨hb1, hb2, hb3⟩ := hnb
  obtain ⟨cn, ecn⟩ : ∃ z : Nat, z = fR H w (K.1.2 8 12) := ⟨_, rfl⟩
  have gcn := ty_fr (q := cn) (k := 12) (u := 31) ecn hT gw rg_0 rfl
  obtain ⟨xn, exn⟩ : ∃ z : Nat, z = fR H b (K.1.2 10 64) := ⟨_, rfl⟩
  have gxn := ty_fr (q := xn) (k := 64) (u := 157) exn hT gb rg_112 rfl
  obtain ⟨cl, ecl⟩ : ∃ z : Nat, z = fR H w (K.1.2 8 14) := ⟨_, rfl⟩
  have gcl := ty_fr (q := cl) (k := 14) (u := 32) ecl hT gw rg_0 rfl
  obtain ⟨xl, exl⟩ : ∃ z : Nat, z = fR H b (K.1.2 10 66) := ⟨_, rfl⟩
  have gxl := ty_fr (q := xl) (k := 66) (u := 158) exl hT gb rg_112 rfl
  obtain ⟨ck, eck⟩ : ∃ z : Nat, z = fR H w (K.1.2 8 15) := ⟨_, rfl⟩
  have gck := ty_fr (q := ck) (k := 15) (u := 33) eck hT gw rg_0 rfl
  obtain ⟨xk, exk⟩ : ∃ z : Nat, z = fR H b (K.1.2 10 67) := ⟨_, rfl⟩
  have gxk := ty_fr (q := xk) (k := 67) (u := 159) exk hT gb rg_112 rfl
  have hrn : EQR (fun j => fI H cn j) (fun j => fI H xn j) y13.toInt := by rw [ecn, exn, ew, ey13]; exact hb1
  have hrl : EQR (fun j => fI H cl j) (fun j => fI H xl j) y16.toInt := by rw [ecl, exl, ew, ey16]; exact hb2
  have hrk : EQR (fun j => fI H ck j) (fun j => fI H xk j) y16.toInt := by rw [eck, exk, ew, ey16]; exact hb3
  have by13 := ty_fi (x := y13) (k := 62) ey13 hT gb rg_112 rfl
  have by16 := ty_fi (x := y16) (k := 65) ey16 hT gb rg_112 rfl
  have f0cn : ∀ j : Nat, j < 8 → fI H cn j = fI H cn j := fun _ _ => rfl
  have f0xn : ∀ j : Nat, j < 8 → fI H xn j = fI H xn j := fun _ _ => rfl
  have f0cl : ∀ j : Nat, j < 8 → fI H cl j = fI H cl j := fun _ _ => rfl
  have f0xl : ∀ j : Nat, j < 8 → fI H xl j = fI H xl j := fun _ _ => rfl
  have f0ck : ∀ j : Nat, j < 8 → fI H ck j = fI H ck j := fun _ _ => rfl
  have f0xk : ∀ j : Nat, j < 8 → fI H xk j = fI H xk j := fun _ _ => rfl
  rcases hk with ⟨kn, h70⟩ | ⟨kq, kn, gkq, h70, q1, q4, q5, q10, q13, q16, hq1, hq2, hq3⟩
  · skip
    obtain ⟨hi, ehi⟩ : ∃ z : Int32, z = fI H b (K.1.2 10 70) := ⟨_, rfl⟩
    rw [← ehi] at h70
    obtain ⟨hc0, hs0⟩ := hB0 kn
    refine lv_aload_n hx hb dL_law_1447 rfl (lv_at hl 2 rfl) ?_
    refine lv_aload_n hx hb dL_law_1448 rfl (lv_at hl 3 rfl) ?_
    refine lv_iload_n hx hb dL_law_1449 rfl (lv_at hl 0 rfl) ?_
    refine lv_iconst (v := 1) hx hb dL_law_1450 (by decide) ?_
    refine lv_iadd hx hb dL_law_1451 ?_
    refine lv_topi (fun x101 ex101 => ?_)
    obtain ⟨tx101, ejx101, evx101⟩ := lw_ix (k := 1) ex101 hI hL rfl (by decide)
    clear tx101
    refine va_sld hx hb hX hbl (Nat.not_le.mpr hbl) hS (vp_in_iff.mpr evx101) dL_law_1452 ?_
    refine W.eq (g2 := F0 m 1453 ls [.int (xs (i.toNatClampNeg + 1)), .ref a]) (congrArg (fun z => F0 m 1453 ls [.int (xs z), .ref a]) ejx101) ?_
    refine lv_if_eq (tgt := 1460) hx hb dL_law_1453 (by decide) (fun c1453 => ?_) (fun c1453 => ?_)
    · skip
      refine lv_iconst (v := 0) hx hb dL_law_1460 (by decide) ?_
      refine x_V (As := [.int 0]) (rest := []) C (a_X9_image_n0n l K G H (s1) (s4) (s5) (s10) (s13) (s16) (ta)  hT ga gw ew es1 es4 es5 es10 es13 es16 eta gcn ecn gcl ecl gck eck kn ) yo_X9_image wM_L_153 ⟨⟨by decide, by decide⟩, show _ ≤ 284929 from Nat.le_trans hc (by decide), show _ ≤ 8247460 from Nat.le_trans hs (by decide)⟩ (x_rv C hT (ci := 9) rfl ga rg_68) rfl hl.1 rfl (Nat.le_of_ble_eq_true rfl) dL_law_1461 hS (AE_new hN hS.1) (fun vH102 H102 locsH102 pH102 zH102 kH102 hSH102 => ?_)
      obtain ⟨x103, hvH102, bx103, G104, mH102, hTH102⟩ := pH102
      subst hvH102
      have g124 : CG (avw K H102 b) := CG.congr (fun k hk j => av_eff hT kH102 gb (by decide) (CG_eff [] (by decide) k hk)) cg
      have g125 : TU (avw K H102 b) (svw K H102 b) := TU.congr (fun k hk j => av_eff hT kH102 gb (by decide) (TU_eff [] (by decide) k hk)) (fun k hk => sv_eff hT kH102 gb (by decide)) tu
      have g126 : WD (avw K H102 b) := WD.congr (fun k hk j => av_eff hT kH102 gb (by decide) (WD_eff [] (by decide) k hk)) wd
      have g127 : IM (avw K H102 b) := IM.congr (fun k hk j => av_eff hT kH102 gb (by decide) (IM_eff [] (by decide) k hk)) im
      have f128 : ∀ j : Nat, j < 8 → fI H102 cn j = fI H cn j := fun j hj => (fI_kept (x_lt hT kH102 gcn (by decide))).trans (f0cn j hj)
      have f129 : ∀ j : Nat, j < 8 → fI H102 xn j = fI H xn j := fun j hj => (fI_kept (x_lt hT kH102 gxn (by decide))).trans (f0xn j hj)
      have f130 : ∀ j : Nat, j < 8 → fI H102 cl j = fI H cl j := fun j hj => (fI_kept (x_lt hT kH102 gcl (by decide))).trans (f0cl j hj)
      have f131 : ∀ j : Nat, j < 8 → fI H102 xl j = fI H xl j := fun j hj => (fI_kept (x_lt hT kH102 gxl (by decide))).trans (f0xl j hj)
      have f132 : ∀ j : Nat, j < 8 → fI H102 ck j = fI H ck j := fun j hj => (fI_kept (x_lt hT kH102 gck (by decide))).trans (f0ck j hj)
      have f133 : ∀ j : Nat, j < 8 → fI H102 xk j = fI H xk j := fun j hj => (fI_kept (x_lt hT kH102 gxk (by decide))).trans (f0xk j hj)
      have m134 := (ew).trans (fR_kept (x_lt hT kH102 ga (by decide))).symm
      have m135 := (eta).trans (fI_kept (x_lt hT kH102 ga (by decide))).symm
      have m136 := (etb).trans (fI_kept (x_lt hT kH102 gb (by decide))).symm
      have m137 := (es1).trans (fI_kept (x_lt hT kH102 gw (by decide))).symm
      have m138 := (ey1).trans (fI_kept (x_lt hT kH102 gb (by decide))).symm
      have m139 := (es4).trans (fI_kept (x_lt hT kH102 gw (by decide))).symm
      have m140 := (ey4).trans (fI_kept (x_lt hT kH102 gb (by decide))).symm
      have m141 := (es5).trans (fI_kept (x_lt hT kH102 gw (by decide))).symm
      have m142 := (ey5).trans (fI_kept (x_lt hT kH102 gb (by decide))).symm
      have m143 := (es10).trans (fI_kept (x_lt hT kH102 gw (by decide))).symm
      have m144 := (ey10).trans (fI_kept (x_lt hT kH102 gb (by decide))).symm
      have m145 := (es13).trans (fI_kept (x_lt hT kH102 gw (by decide))).symm
      have m146 := (ey13).trans (fI_kept (x_lt hT kH102 gb (by decide))).symm
      have m147 := (es16).trans (fI_kept (x_lt hT kH102 gw (by decide))).symm
      have m148 := (ey16).trans (fI_kept (x_lt hT kH102 gb (by decide))).symm
      have m149 := (ecn).trans (fR_kept (x_lt hT kH102 gw (by decide))).symm
      have m150 := (exn).trans (fR_kept (x_lt hT kH102 gb (by decide))).symm
      have m151 := (ecl).trans (fR_kept (x_lt hT kH102 gw (by decide))).symm
      have m152 := (exl).trans (fR_kept (x_lt hT kH102 gb (by decide))).symm
      have m153 := (eck).trans (fR_kept (x_lt hT kH102 gw (by decide))).symm
      have m154 := (exk).trans (fR_kept (x_lt hT kH102 gb (by decide))).symm
      have m155 := (ehi).trans (fI_kept (x_lt hT kH102 gb (by decide))).symm
      have m156 := (fV_kept (x_lt hT kH102 ga (by decide))).trans kn
      have gaH102 := (mH102 a (hT.lt ga)).trans ga
      have gbH102 := (mH102 b (hT.lt gb)).trans gb
      have gwH102 := (mH102 w (hT.lt gw)).trans gw
      have gcnH102 := (mH102 cn (hT.lt gcn)).trans gcn
      have gclH102 := (mH102 cl (hT.lt gcl)).trans gcl
      have gckH102 := (mH102 ck (hT.lt gck)).trans gck
      have gxnH102 := (mH102 xn (hT.lt gxn)).trans gxn
      have gxlH102 := (mH102 xl (hT.lt gxl)).trans gxl
      have gxkH102 := (mH102 xk (hT.lt gxk)).trans gxk
      have hNH102 : ∀ q, q < s.heap.size → G104 q = none := fun q hq => (mH102 q (Nat.lt_of_lt_of_le hq hS.1)).trans (hN q hq)
      refine W.eq (g2 := F0 m 1464 ls [.int x103]) rfl ?_
      clear eck ecl ecn ehi es1 es10 es13 es16 es4 es5 eta etb ew exk exl exn ey1 ey10 ey13 ey16 ey4 ey5 f0ck f0cl f0cn f0xk f0xl f0xn kn
      refine lv_pop hx hb dL_law_1464 rfl ?_
      refine lv_aload_n hx hb dL_law_1465 rfl (lv_at hl 1 rfl) ?_
      refine lv_aload_n hx hb dL_law_1466 rfl (lv_at hl 3 rfl) ?_
      refine lv_iload_n hx hb dL_law_1467 rfl (lv_at hl 0 rfl) ?_
      refine lv_iconst (v := 1) hx hb dL_law_1468 (by decide) ?_
      refine lv_iadd hx hb dL_law_1469 ?_
      refine lv_topi (fun x157 ex157 => ?_)
      obtain ⟨tx157, ejx157, evx157⟩ := lw_ix (k := 1) ex157 hI hL rfl (by decide)
      clear tx157
      refine va_sld hx hb hX hbl (Nat.not_le.mpr hbl) hSH102 (vp_in_iff.mpr evx157) dL_law_1470 ?_
      refine W.eq (g2 := F0 m 1471 ls [.int (xs (i.toNatClampNeg + 1)), .ref b]) (congrArg (fun z => F0 m 1471 ls [.int (xs z), .ref b]) ejx157) ?_
      refine lv_if_eq (tgt := 1478) hx hb dL_law_1471 (by decide) (fun c1471 => ?_) (fun c1471 => ?_)
      · skip
        refine lv_iconst (v := 0) hx hb dL_law_1478 (by decide) ?_
        obtain ⟨q158, eq158⟩ : ∃ z : Nat, z = fR H102 b (K.1.2 10 73) := ⟨_, rfl⟩
        have gq158 := ty_fr (q := q158) (k := 73) (u := 162) eq158 hTH102 gbH102 rg_112 rfl
        obtain ⟨q159, eq159⟩ : ∃ z : Nat, z = fR H102 b (K.1.2 10 4) := ⟨_, rfl⟩
        have gq159 := ty_fr (q := q159) (k := 4) (u := 113) eq159 hTH102 gbH102 rg_112 rfl
        obtain ⟨q160, eq160⟩ : ∃ z : Nat, z = fR H102 b (K.1.2 10 10) := ⟨_, rfl⟩
        have gq160 := ty_fr (q := q160) (k := 10) (u := 119) eq160 hTH102 gbH102 rg_112 rfl
        obtain ⟨q161, eq161⟩ : ∃ z : Nat, z = fR H102 b (K.1.2 10 16) := ⟨_, rfl⟩
        have gq161 := ty_fr (q := q161) (k := 16) (u := 125) eq161 hTH102 gbH102 rg_112 rfl
        obtain ⟨q162, eq162⟩ : ∃ z : Nat, z = fR H102 b (K.1.2 10 24) := ⟨_, rfl⟩
        have gq162 := ty_fr (q := q162) (k := 24) (u := 128) eq162 hTH102 gbH102 rg_112 rfl
        obtain ⟨q163, eq163⟩ : ∃ z : Nat, z = fR H102 b (K.1.2 10 27) := ⟨_, rfl⟩
        have gq163 := ty_fr (q := q163) (k := 27) (u := 131) eq163 hTH102 gbH102 rg_112 rfl
        obtain ⟨q164, eq164⟩ : ∃ z : Nat, z = fR H102 b (K.1.2 10 29) := ⟨_, rfl⟩
        have gq164 := ty_fr (q := q164) (k := 29) (u := 133) eq164 hTH102 gbH102 rg_112 rfl
        obtain ⟨q165, eq165⟩ : ∃ z : Nat, z = fR H102 b (K.1.2 10 30) := ⟨_, rfl⟩
        have gq165 := ty_fr (q := q165) (k := 30) (u := 134) eq165 hTH102 gbH102 rg_112 rfl
        obtain ⟨q166, eq166⟩ : ∃ z : Nat, z = fR H102 b (K.1.2 10 31) := ⟨_, rfl⟩
        have gq166 := ty_fr (q := q166) (k := 31) (u := 135) eq166 hTH102 gbH102 rg_112 rfl
        obtain ⟨q167, eq167⟩ : ∃ z : Nat, z = fR H102 b (K.1.2 10 32) := ⟨_, rfl⟩
        have gq167 := ty_fr (q := q167) (k := 32) (u := 136) eq167 hTH102 gbH102 rg_112 rfl
        obtain ⟨q168, eq168⟩ : ∃ z : Nat, z = fR H102 b (K.1.2 10 33) := ⟨_, rfl⟩
        have gq168 := ty_fr (q := q168) (k := 33) (u := 137) eq168 hTH102 gbH102 rg_112 rfl
        obtain ⟨q169, eq169⟩ : ∃ z : Nat, z = fR H102 b (K.1.2 10 50) := ⟨_, rfl⟩
        have gq169 := ty_fr (q := q169) (k := 50) (u := 146) eq169 hTH102 gbH102 rg_112 rfl
        refine x_V (As := [.int 0]) (rest := []) C (a_X10_image l K G104 H102 (0) (hi) (y1) (y4) (y5) (y10) (y13) (y16) hTH102 gbH102 (by decide) gq158 eq158 gq159 eq159 gq160 eq160 gq161 eq161 gq162 eq162 gq163 eq163 gq164 eq164 gq165 eq165 gq166 eq166 gq167 eq167 gq168 eq168 gq169 eq169 gxnH102 m150 gxlH102 m152 gxkH102 m154 m155 m138 m140 m142 m144 m146 m148 g124 g125 g126 g127) yo_X10_image wM_L_157 ⟨⟨by decide, by decide⟩, show _ ≤ 284929 from Nat.le_trans hc (by decide), show _ ≤ 8247460 from Nat.le_trans hs (by decide)⟩ (x_rv C hTH102 (ci := 10) rfl gbH102 rg_112) rfl hl.1 rfl (Nat.le_of_ble_eq_true rfl) dL_law_1479 hSH102 (AE_new hNH102 hSH102.1) (fun vH170 H170 locsH170 pH170 zH170 kH170 hSH170 => ?_)
        obtain ⟨x171, x172, x173, x174, x175, x176, x177, x178, hvH170, bx171, ex172, ex173, ex174, ex175, ex176, ex177, ex178, hrH170, m179, m180, m181, m182, m183, m184, m185, m186, m187, m188, m189, m190, m191, m192, m193, g194, g195, g196, g197, mf198, m199, m200, m201, m202, m203, m204, m205, m206, m207, m208, m209, m210, hTH170⟩ := pH170
        subst hvH170
        have f211 : ∀ j : Nat, j < 8 → fI H170 cn j = fI H cn j := fun j hj => (fI_kept (x_lt hTH102 kH170 gcnH102 (by decide))).trans (f128 j hj)
        have f212 : ∀ j : Nat, j < 8 → fI H170 cl j = fI H cl j := fun j hj => (fI_kept (x_lt hTH102 kH170 gclH102 (by decide))).trans (f130 j hj)
        have f213 : ∀ j : Nat, j < 8 → fI H170 ck j = fI H ck j := fun j hj => (fI_kept (x_lt hTH102 kH170 gckH102 (by decide))).trans (f132 j hj)
        have m214 := (m134).trans (fR_kept (x_lt hTH102 kH170 gaH102 (by decide))).symm
        have m215 := (m135).trans (fI_kept (x_lt hTH102 kH170 gaH102 (by decide))).symm
        have m216 := (m137).trans (fI_kept (x_lt hTH102 kH170 gwH102 (by decide))).symm
        have m217 := (m139).trans (fI_kept (x_lt hTH102 kH170 gwH102 (by decide))).symm
        have m218 := (m141).trans (fI_kept (x_lt hTH102 kH170 gwH102 (by decide))).symm
        have m219 := (m143).trans (fI_kept (x_lt hTH102 kH170 gwH102 (by decide))).symm
        have m220 := (m145).trans (fI_kept (x_lt hTH102 kH170 gwH102 (by decide))).symm
        have m221 := (m147).trans (fI_kept (x_lt hTH102 kH170 gwH102 (by decide))).symm
        have m222 := (m149).trans (fR_kept (x_lt hTH102 kH170 gwH102 (by decide))).symm
        have m223 := (m151).trans (fR_kept (x_lt hTH102 kH170 gwH102 (by decide))).symm
        have m224 := (m153).trans (fR_kept (x_lt hTH102 kH170 gwH102 (by decide))).symm
        have m225 := (fV_kept (x_lt hTH102 kH170 gaH102 (by decide))).trans m156
        have m226 := (m136).trans (MF.i mf198 (k := 18) (by decide) (by decide)).symm
        have m227 := (m150).trans (MF.r mf198 (k := 64) (by decide) (by decide)).symm
        have m228 := (m152).trans (MF.r mf198 (k := 66) (by decide) (by decide)).symm
        have m229 := (m154).trans (MF.r mf198 (k := 67) (by decide) (by decide)).symm
        have m230 := (eq158).trans (MF.r mf198 (k := 73) (by decide) (by decide)).symm
        have m231 := (eq159).trans (MF.r mf198 (k := 4) (by decide) (by decide)).symm
        have m232 := (eq160).trans (MF.r mf198 (k := 10) (by decide) (by decide)).symm
        have m233 := (eq161).trans (MF.r mf198 (k := 16) (by decide) (by decide)).symm
        have m234 := (eq162).trans (MF.r mf198 (k := 24) (by decide) (by decide)).symm
        have m235 := (eq163).trans (MF.r mf198 (k := 27) (by decide) (by decide)).symm
        have m236 := (eq164).trans (MF.r mf198 (k := 29) (by decide) (by decide)).symm
        have m237 := (eq165).trans (MF.r mf198 (k := 30) (by decide) (by decide)).symm
        have m238 := (eq166).trans (MF.r mf198 (k := 31) (by decide) (by decide)).symm
        have m239 := (eq167).trans (MF.r mf198 (k := 32) (by decide) (by decide)).symm
        have m240 := (eq168).trans (MF.r mf198 (k := 33) (by decide) (by decide)).symm
        have m241 := (eq169).trans (MF.r mf198 (k := 50) (by decide) (by decide)).symm
        have bx172 := ty_fi (x := x172) (k := 70) ex172 hTH170 gbH102 rg_112 rfl
        have bx173 := ty_fi (x := x173) (k := 1) ex173 hTH170 gbH102 rg_112 rfl
        have bx174 := ty_fi (x := x174) (k := 2) ex174 hTH170 gbH102 rg_112 rfl
        have bx175 := ty_fi (x := x175) (k := 3) ex175 hTH170 gbH102 rg_112 rfl
        have bx176 := ty_fi (x := x176) (k := 59) ex176 hTH170 gbH102 rg_112 rfl
        have bx177 := ty_fi (x := x177) (k := 62) ex177 hTH170 gbH102 rg_112 rfl
        have bx178 := ty_fi (x := x178) (k := 65) ex178 hTH170 gbH102 rg_112 rfl
        replace m202 := HD.mk m202
        replace m203 := HD.mk m203
        replace m204 := HD.mk m204
        replace m205 := HD.mk m205
        replace m206 := HD.mk m206
        replace m207 := HD.mk m207
        replace m208 := HD.mk m208
        replace m209 := HD.mk m209
        replace m210 := HD.mk m210
        refine W.eq (g2 := F0 m 1482 ls [.int x171]) rfl ?_
        have f242 : ∀ j : Nat, j < 8 → fI H170 xn j = fI H xn j := fun j hj => ((HD.out m204) (by omega) j).trans (f129 j hj)
        have f243 : ∀ j : Nat, j < 8 → fI H170 xl j = fI H xl j := fun j hj => ((HD.out m207) (by omega) j).trans (f131 j hj)
        have f244 : ∀ j : Nat, j < 8 → fI H170 xk j = fI H xk j := fun j hj => ((HD.out m210) (by omega) j).trans (f133 j hj)
        clear f128 f129 f130 f131 f132 f133 m134 m135 m136 m137 m138 m139 m140 m141 m142 m143 m144 m145 m146 m147 m148 m149 m150 m151 m152 m153 m154 m155 m156
        refine lv_pop hx hb dL_law_1482 rfl ?_
        refine lv_goto (tgt := 1509) hx hb dL_law_1483 (by decide) ?_
        exact nx G104 H170 locsH170 _ _ ls ⟨hTH170, hNH102, gaH102, gbH102, g194, g195, g196, g197, ⟨(by rw [← m215, ← m226]; exact rt), (by rw [← m214, ← m216, ← ex173]; omega), (by rw [← m214, ← m217, ← ex174]; omega), (by rw [← m214, ← m218, ← ex175]; omega), (by rw [← m214, ← m219, ← ex176]; omega), (by rw [← m214, ← m220, ← ex177]; omega), (by rw [← m214, ← m221, ← ex178]; omega)⟩, Or.inl ⟨m225, (by rw [← ex172]; omega)⟩, ⟨(by rw [← m214, ← m222, ← m191, ← ex177]; exact EQR.of hrn (fun j hj => f211 j (by omega)) (fun j hj => f242 j (by omega)) (by omega)), (by rw [← m214, ← m223, ← m192, ← ex178]; exact EQR.of hrl (fun j hj => f212 j (by omega)) (fun j hj => f243 j (by omega)) (by omega)), (by rw [← m214, ← m224, ← m193, ← ex178]; exact EQR.of hrk (fun j hj => f213 j (by omega)) (fun j hj => f244 j (by omega)) (by omega))⟩, hSH170⟩ hl ⟨hc, hs, fun _ => ⟨hc0, hs0⟩⟩
      · skip
        exact absurd c1453 c1471
    · skip
      refine lv_iconst (v := 1) hx hb dL_law_1456 (by decide) ?_
      refine lv_goto (tgt := 1461) hx hb dL_law_1457 (by decide) ?_
      refine x_V (As := [.int 1]) (rest := []) C (a_X9_image_n1n l K G H (s1) (s4) (s5) (s10) (s13) (s16) (ta)  hT ga gw ew es1 es4 es5 es10 es13 es16 eta gcn ecn gcl ecl gck eck kn ) yo_X9_image wM_L_153 ⟨⟨by decide, by decide⟩, show _ ≤ 284929 from Nat.le_trans (Nat.add_le_add_right hc0 434) (by decide), show _ ≤ 8247460 from Nat.le_trans (Nat.add_le_add_right hs0 13027) (by decide)⟩ (x_rv C hT (ci := 9) rfl ga rg_68) rfl hl.1 rfl (Nat.le_of_ble_eq_true rfl) dL_law_1461 hS (AE_new hN hS.1) (fun vH245 H245 locsH245 pH245 zH245 kH245 hSH245 => ?_)
      obtain ⟨x246, hvH245, bx246, G247, mH245, hTH245, m261, m262, q254, q264, q265, q266, m263, gq254, gq264, eq264, gq265, eq265, gq266, eq266, m248, m249, m250, m251, m252, m253, m255, m256, m257⟩ := pH245
      subst hvH245
      have g267 : CG (avw K H245 b) := CG.congr (fun k hk j => av_eff hT kH245 gb (by decide) (CG_eff [68, 34, 35, 36, 37, 38, 39, 40, 41, 42, 43, 44, 46, 48, 49, 50, 51, 52, 53, 54, 55, 56, 57, 58, 62, 63, 64, 65, 66, 67] (by decide) k hk)) cg
      have g268 : TU (avw K H245 b) (svw K H245 b) := TU.congr (fun k hk j => av_eff hT kH245 gb (by decide) (TU_eff [68, 34, 35, 36, 37, 38, 39, 40, 41, 42, 43, 44, 46, 48, 49, 50, 51, 52, 53, 54, 55, 56, 57, 58, 62, 63, 64, 65, 66, 67] (by decide) k hk)) (fun k hk => sv_eff hT kH245 gb (by decide)) tu
      have g269 : WD (avw K H245 b) := WD.congr (fun k hk j => av_eff hT kH245 gb (by decide) (WD_eff [68, 34, 35, 36, 37, 38, 39, 40, 41, 42, 43, 44, 46, 48, 49, 50, 51, 52, 53, 54, 55, 56, 57, 58, 62, 63, 64, 65, 66, 67] (by decide) k hk)) wd
      have g270 : IM (avw K H245 b) := IM.congr (fun k hk j => av_eff hT kH245 gb (by decide) (IM_eff [68, 34, 35, 36, 37, 38, 39, 40, 41, 42, 43, 44, 46, 48, 49, 50, 51, 52, 53, 54, 55, 56, 57, 58, 62, 63, 64, 65, 66, 67] (by decide) k hk)) im
      have f271 : ∀ j : Nat, j < 8 → fI H245 cn j = fI H cn j := fun j hj => (fI_kept (x_lt hT kH245 gcn (by decide))).trans (f0cn j hj)
      have f272 : ∀ j : Nat, j < 8 → fI H245 xn j = fI H xn j := fun j hj => (fI_kept (x_lt hT kH245 gxn (by decide))).trans (f0xn j hj)
      have f273 : ∀ j : Nat, j < 8 → fI H245 cl j = fI H cl j := fun j hj => (fI_kept (x_lt hT kH245 gcl (by decide))).trans (f0cl j hj)
      have f274 : ∀ j : Nat, j < 8 → fI H245 xl j = fI H xl j := fun j hj => (fI_kept (x_lt hT kH245 gxl (by decide))).trans (f0xl j hj)
      have f275 : ∀ j : Nat, j < 8 → fI H245 ck j = fI H ck j := fun j hj => (fI_kept (x_lt hT kH245 gck (by decide))).trans (f0ck j hj)
      have f276 : ∀ j : Nat, j < 8 → fI H245 xk j = fI H xk j := fun j hj => (fI_kept (x_lt hT kH245 gxk (by decide))).trans (f0xk j hj)
      have m277 := (etb).trans (fI_kept (x_lt hT kH245 gb (by decide))).symm
      have m278 := (es1).trans (fI_kept (x_lt hT kH245 gw (by decide))).symm
      have m279 := (ey1).trans (fI_kept (x_lt hT kH245 gb (by decide))).symm
      have m280 := (es4).trans (fI_kept (x_lt hT kH245 gw (by decide))).symm
      have m281 := (ey4).trans (fI_kept (x_lt hT kH245 gb (by decide))).symm
      have m282 := (es5).trans (fI_kept (x_lt hT kH245 gw (by decide))).symm
      have m283 := (ey5).trans (fI_kept (x_lt hT kH245 gb (by decide))).symm
      have m284 := (es10).trans (fI_kept (x_lt hT kH245 gw (by decide))).symm
      have m285 := (ey10).trans (fI_kept (x_lt hT kH245 gb (by decide))).symm
      have m286 := (es13).trans (fI_kept (x_lt hT kH245 gw (by decide))).symm
      have m287 := (ey13).trans (fI_kept (x_lt hT kH245 gb (by decide))).symm
      have m288 := (es16).trans (fI_kept (x_lt hT kH245 gw (by decide))).symm
      have m289 := (ey16).trans (fI_kept (x_lt hT kH245 gb (by decide))).symm
      have m290 := (ecn).trans (fR_kept (x_lt hT kH245 gw (by decide))).symm
      have m291 := (exn).trans (fR_kept (x_lt hT kH245 gb (by decide))).symm
      have m292 := (ecl).trans (fR_kept (x_lt hT kH245 gw (by decide))).symm
      have m293 := (exl).trans (fR_kept (x_lt hT kH245 gb (by decide))).symm
      have m294 := (eck).trans (fR_kept (x_lt hT kH245 gw (by decide))).symm
      have m295 := (exk).trans (fR_kept (x_lt hT kH245 gb (by decide))).symm
      have m296 := (ehi).trans (fI_kept (x_lt hT kH245 gb (by decide))).symm
      have gaH245 := (mH245 a (hT.lt ga)).trans ga
      have gbH245 := (mH245 b (hT.lt gb)).trans gb
      have gwH245 := (mH245 w (hT.lt gw)).trans gw
      have gcnH245 := (mH245 cn (hT.lt gcn)).trans gcn
      have gclH245 := (mH245 cl (hT.lt gcl)).trans gcl
      have gckH245 := (mH245 ck (hT.lt gck)).trans gck
      have gxnH245 := (mH245 xn (hT.lt gxn)).trans gxn
      have gxlH245 := (mH245 xl (hT.lt gxl)).trans gxl
      have gxkH245 := (mH245 xk (hT.lt gxk)).trans gxk
      have hNH245 : ∀ q, q < s.heap.size → G247 q = none := fun q hq => (mH245 q (Nat.lt_of_lt_of_le hq hS.1)).trans (hN q hq)
      obtain ⟨x297, ex297⟩ : ∃ z : Int32, z = fI H245 q254 (K.1.2 8 1) := ⟨_, rfl⟩
      rw [← ex297] at m248
      obtain ⟨x298, ex298⟩ : ∃ z : Int32, z = fI H245 q254 (K.1.2 8 4) := ⟨_, rfl⟩
      rw [← ex298] at m249
      obtain ⟨x299, ex299⟩ : ∃ z : Int32, z = fI H245 q254 (K.1.2 8 5) := ⟨_, rfl⟩
      rw [← ex299] at m250
      obtain ⟨x300, ex300⟩ : ∃ z : Int32, z = fI H245 q254 (K.1.2 8 10) := ⟨_, rfl⟩
      rw [← ex300] at m251
      obtain ⟨x301, ex301⟩ : ∃ z : Int32, z = fI H245 q254 (K.1.2 8 13) := ⟨_, rfl⟩
      rw [← ex301] at m252
      obtain ⟨x302, ex302⟩ : ∃ z : Int32, z = fI H245 q254 (K.1.2 8 16) := ⟨_, rfl⟩
      rw [← ex302] at m253
      have f303 : ∀ j : Nat, j < 8 → fI H245 q264 j = fI H cn j := fun j hj => (m255 j hj).trans (f0cn j hj)
      have f304 : ∀ j : Nat, j < 8 → fI H245 q265 j = fI H cl j := fun j hj => (m256 j hj).trans (f0cl j hj)
      have f305 : ∀ j : Nat, j < 8 → fI H245 q266 j = fI H ck j := fun j hj => (m257 j hj).trans (f0ck j hj)
      refine W.eq (g2 := F0 m 1464 ls [.int x246]) rfl ?_
      clear eck ecl ecn ehi es1 es10 es13 es16 es4 es5 eta etb ew exk exl exn ey1 ey10 ey13 ey16 ey4 ey5 f0ck f0cl f0cn f0xk f0xl f0xn kn
      refine lv_pop hx hb dL_law_1464 rfl ?_
      refine lv_aload_n hx hb dL_law_1465 rfl (lv_at hl 1 rfl) ?_
      refine lv_aload_n hx hb dL_law_1466 rfl (lv_at hl 3 rfl) ?_
      refine lv_iload_n hx hb dL_law_1467 rfl (lv_at hl 0 rfl) ?_
      refine lv_iconst (v := 1) hx hb dL_law_1468 (by decide) ?_
      refine lv_iadd hx hb dL_law_1469 ?_
      refine lv_topi (fun x306 ex306 => ?_)
      obtain ⟨tx306, ejx306, evx306⟩ := lw_ix (k := 1) ex306 hI hL rfl (by decide)
      clear tx306
      refine va_sld hx hb hX hbl (Nat.not_le.mpr hbl) hSH245 (vp_in_iff.mpr evx306) dL_law_1470 ?_
      refine W.eq (g2 := F0 m 1471 ls [.int (xs (i.toNatClampNeg + 1)), .ref b]) (congrArg (fun z => F0 m 1471 ls [.int (xs z), .ref b]) ejx306) ?_
      refine lv_if_eq (tgt := 1478) hx hb dL_law_1471 (by decide) (fun c1471 => ?_) (fun c1471 => ?_)
      · skip
        exact absurd c1471 c1453
      · skip
        refine lv_iconst (v := 1) hx hb dL_law_1474 (by decide) ?_
        refine lv_goto (tgt := 1479) hx hb dL_law_1475 (by decide) ?_
        obtain ⟨q307, eq307⟩ : ∃ z : Nat, z = fR H245 b (K.1.2 10 73) := ⟨_, rfl⟩
        have gq307 := ty_fr (q := q307) (k := 73) (u := 162) eq307 hTH245 gbH245 rg_112 rfl
        obtain ⟨q308, eq308⟩ : ∃ z : Nat, z = fR H245 b (K.1.2 10 4) := ⟨_, rfl⟩
        have gq308 := ty_fr (q := q308) (k := 4) (u := 113) eq308 hTH245 gbH245 rg_112 rfl
        obtain ⟨q309, eq309⟩ : ∃ z : Nat, z = fR H245 b (K.1.2 10 10) := ⟨_, rfl⟩
        have gq309 := ty_fr (q := q309) (k := 10) (u := 119) eq309 hTH245 gbH245 rg_112 rfl
        obtain ⟨q310, eq310⟩ : ∃ z : Nat, z = fR H245 b (K.1.2 10 16) := ⟨_, rfl⟩
        have gq310 := ty_fr (q := q310) (k := 16) (u := 125) eq310 hTH245 gbH245 rg_112 rfl
        obtain ⟨q311, eq311⟩ : ∃ z : Nat, z = fR H245 b (K.1.2 10 24) := ⟨_, rfl⟩
        have gq311 := ty_fr (q := q311) (k := 24) (u := 128) eq311 hTH245 gbH245 rg_112 rfl
        obtain ⟨q312, eq312⟩ : ∃ z : Nat, z = fR H245 b (K.1.2 10 27) := ⟨_, rfl⟩
        have gq312 := ty_fr (q := q312) (k := 27) (u := 131) eq312 hTH245 gbH245 rg_112 rfl
        obtain ⟨q313, eq313⟩ : ∃ z : Nat, z = fR H245 b (K.1.2 10 29) := ⟨_, rfl⟩
        have gq313 := ty_fr (q := q313) (k := 29) (u := 133) eq313 hTH245 gbH245 rg_112 rfl
        obtain ⟨q314, eq314⟩ : ∃ z : Nat, z = fR H245 b (K.1.2 10 30) := ⟨_, rfl⟩
        have gq314 := ty_fr (q := q314) (k := 30) (u := 134) eq314 hTH245 gbH245 rg_112 rfl
        obtain ⟨q315, eq315⟩ : ∃ z : Nat, z = fR H245 b (K.1.2 10 31) := ⟨_, rfl⟩
        have gq315 := ty_fr (q := q315) (k := 31) (u := 135) eq315 hTH245 gbH245 rg_112 rfl
        obtain ⟨q316, eq316⟩ : ∃ z : Nat, z = fR H245 b (K.1.2 10 32) := ⟨_, rfl⟩
        have gq316 := ty_fr (q := q316) (k := 32) (u := 136) eq316 hTH245 gbH245 rg_112 rfl
        obtain ⟨q317, eq317⟩ : ∃ z : Nat, z = fR H245 b (K.1.2 10 33) := ⟨_, rfl⟩
        have gq317 := ty_fr (q := q317) (k := 33) (u := 137) eq317 hTH245 gbH245 rg_112 rfl
        obtain ⟨q318, eq318⟩ : ∃ z : Nat, z = fR H245 b (K.1.2 10 50) := ⟨_, rfl⟩
        have gq318 := ty_fr (q := q318) (k := 50) (u := 146) eq318 hTH245 gbH245 rg_112 rfl
        refine x_V (As := [.int 1]) (rest := []) C (a_X10_image l K G247 H245 (1) (hi) (y1) (y4) (y5) (y10) (y13) (y16) hTH245 gbH245 (by decide) gq307 eq307 gq308 eq308 gq309 eq309 gq310 eq310 gq311 eq311 gq312 eq312 gq313 eq313 gq314 eq314 gq315 eq315 gq316 eq316 gq317 eq317 gq318 eq318 gxnH245 m291 gxlH245 m293 gxkH245 m295 m296 m279 m281 m283 m285 m287 m289 g267 g268 g269 g270) yo_X10_image wM_L_157 ⟨⟨by decide, by decide⟩, show _ ≤ 284929 from Nat.le_trans (Nat.add_le_add_right hc0 434) (by decide), show _ ≤ 8247460 from Nat.le_trans (Nat.add_le_add_right hs0 13027) (by decide)⟩ (x_rv C hTH245 (ci := 10) rfl gbH245 rg_112) rfl hl.1 rfl (Nat.le_of_ble_eq_true rfl) dL_law_1479 hSH245 (AE_new hNH245 hSH245.1) (fun vH319 H319 locsH319 pH319 zH319 kH319 hSH319 => ?_)
        obtain ⟨x320, x321, x322, x323, x324, x325, x326, x327, hvH319, bx320, ex321, ex322, ex323, ex324, ex325, ex326, ex327, hrH319, m328, m329, m330, m331, m332, m333, m334, m335, m336, m337, m338, m339, m340, m341, m342, g343, g344, g345, g346, mf347, m348, m349, m350, m351, m352, m353, m354, m355, m356, m357, m358, m359, hTH319⟩ := pH319
        subst hvH319
        have f360 : ∀ j : Nat, j < 8 → fI H319 cn j = fI H cn j := fun j hj => (fI_kept (x_lt hTH245 kH319 gcnH245 (by decide))).trans (f271 j hj)
        have f361 : ∀ j : Nat, j < 8 → fI H319 cl j = fI H cl j := fun j hj => (fI_kept (x_lt hTH245 kH319 gclH245 (by decide))).trans (f273 j hj)
        have f362 : ∀ j : Nat, j < 8 → fI H319 ck j = fI H ck j := fun j hj => (fI_kept (x_lt hTH245 kH319 gckH245 (by decide))).trans (f275 j hj)
        have f363 : ∀ j : Nat, j < 8 → fI H319 q264 j = fI H cn j := fun j hj => (fI_kept (x_lt hTH245 kH319 gq264 (by decide))).trans (f303 j hj)
        have f364 : ∀ j : Nat, j < 8 → fI H319 q265 j = fI H cl j := fun j hj => (fI_kept (x_lt hTH245 kH319 gq265 (by decide))).trans (f304 j hj)
        have f365 : ∀ j : Nat, j < 8 → fI H319 q266 j = fI H ck j := fun j hj => (fI_kept (x_lt hTH245 kH319 gq266 (by decide))).trans (f305 j hj)
        have m366 := (m278).trans (fI_kept (x_lt hTH245 kH319 gwH245 (by decide))).symm
        have m367 := (m280).trans (fI_kept (x_lt hTH245 kH319 gwH245 (by decide))).symm
        have m368 := (m282).trans (fI_kept (x_lt hTH245 kH319 gwH245 (by decide))).symm
        have m369 := (m284).trans (fI_kept (x_lt hTH245 kH319 gwH245 (by decide))).symm
        have m370 := (m286).trans (fI_kept (x_lt hTH245 kH319 gwH245 (by decide))).symm
        have m371 := (m288).trans (fI_kept (x_lt hTH245 kH319 gwH245 (by decide))).symm
        have m372 := (m290).trans (fR_kept (x_lt hTH245 kH319 gwH245 (by decide))).symm
        have m373 := (m292).trans (fR_kept (x_lt hTH245 kH319 gwH245 (by decide))).symm
        have m374 := (m294).trans (fR_kept (x_lt hTH245 kH319 gwH245 (by decide))).symm
        have m375 := (m261).trans (fR_kept (x_lt hTH245 kH319 gaH245 (by decide))).symm
        have m376 := (m262).trans (fI_kept (x_lt hTH245 kH319 gaH245 (by decide))).symm
        have m377 := (ex297).trans (fI_kept (x_lt hTH245 kH319 gq254 (by decide))).symm
        have m378 := (ex298).trans (fI_kept (x_lt hTH245 kH319 gq254 (by decide))).symm
        have m379 := (ex299).trans (fI_kept (x_lt hTH245 kH319 gq254 (by decide))).symm
        have m380 := (ex300).trans (fI_kept (x_lt hTH245 kH319 gq254 (by decide))).symm
        have m381 := (ex301).trans (fI_kept (x_lt hTH245 kH319 gq254 (by decide))).symm
        have m382 := (ex302).trans (fI_kept (x_lt hTH245 kH319 gq254 (by decide))).symm
        have m383 := (fV_kept (x_lt hTH245 kH319 gaH245 (by decide))).trans m263
        have m384 := (eq264).trans (fR_kept (x_lt hTH245 kH319 gq254 (by decide))).symm
        have m385 := (eq265).trans (fR_kept (x_lt hTH245 kH319 gq254 (by decide))).symm
        have m386 := (eq266).trans (fR_kept (x_lt hTH245 kH319 gq254 (by decide))).symm
        have m387 := (m277).trans (MF.i mf347 (k := 18) (by decide) (by decide)).symm
        have m388 := (m291).trans (MF.r mf347 (k := 64) (by decide) (by decide)).symm
        have m389 := (m293).trans (MF.r mf347 (k := 66) (by decide) (by decide)).symm
        have m390 := (m295).trans (MF.r mf347 (k := 67) (by decide) (by decide)).symm
        have m391 := (eq307).trans (MF.r mf347 (k := 73) (by decide) (by decide)).symm
        have m392 := (eq308).trans (MF.r mf347 (k := 4) (by decide) (by decide)).symm
        have m393 := (eq309).trans (MF.r mf347 (k := 10) (by decide) (by decide)).symm
        have m394 := (eq310).trans (MF.r mf347 (k := 16) (by decide) (by decide)).symm
        have m395 := (eq311).trans (MF.r mf347 (k := 24) (by decide) (by decide)).symm
        have m396 := (eq312).trans (MF.r mf347 (k := 27) (by decide) (by decide)).symm
        have m397 := (eq313).trans (MF.r mf347 (k := 29) (by decide) (by decide)).symm
        have m398 := (eq314).trans (MF.r mf347 (k := 30) (by decide) (by decide)).symm
        have m399 := (eq315).trans (MF.r mf347 (k := 31) (by decide) (by decide)).symm
        have m400 := (eq316).trans (MF.r mf347 (k := 32) (by decide) (by decide)).symm
        have m401 := (eq317).trans (MF.r mf347 (k := 33) (by decide) (by decide)).symm
        have m402 := (eq318).trans (MF.r mf347 (k := 50) (by decide) (by decide)).symm
        have bx321 := ty_fi (x := x321) (k := 70) ex321 hTH319 gbH245 rg_112 rfl
        have bx322 := ty_fi (x := x322) (k := 1) ex322 hTH319 gbH245 rg_112 rfl
        have bx323 := ty_fi (x := x323) (k := 2) ex323 hTH319 gbH245 rg_112 rfl
        have bx324 := ty_fi (x := x324) (k := 3) ex324 hTH319 gbH245 rg_112 rfl
        have bx325 := ty_fi (x := x325) (k := 59) ex325 hTH319 gbH245 rg_112 rfl
        have bx326 := ty_fi (x := x326) (k := 62) ex326 hTH319 gbH245 rg_112 rfl
        have bx327 := ty_fi (x := x327) (k := 65) ex327 hTH319 gbH245 rg_112 rfl
        replace m351 := HD.mk m351
        replace m352 := HD.mk m352
        replace m353 := HD.mk m353
        replace m354 := HD.mk m354
        replace m355 := HD.mk m355
        replace m356 := HD.mk m356
        replace m357 := HD.mk m357
        replace m358 := HD.mk m358
        replace m359 := HD.mk m359
        refine W.eq (g2 := F0 m 1482 ls [.int x320]) rfl ?_
        obtain ⟨j403, j404, j405, j406, j407, j408⟩ := m348.resolve_left (by omega)
        obtain ⟨j409, j410, j411, j412, j413, j414⟩ := m349 (by decide)
        replace j409 := congrArg Int32.toInt j409
        replace j410 := congrArg Int32.toInt j410
        replace j411 := congrArg Int32.toInt j411
        replace j412 := congrArg Int32.toInt j412
        replace j413 := congrArg Int32.toInt j413
        replace j414 := congrArg Int32.toInt j414
        have ij403 : x322 = fI H319 q307 ((0 : Int32).toNatClampNeg) := j403
        have ij404 : x323 = fI H319 q307 ((1 : Int32).toNatClampNeg) := j404
        have ij405 : x324 = fI H319 q307 ((2 : Int32).toNatClampNeg) := j405
        have ij406 : x325 = fI H319 q307 ((3 : Int32).toNatClampNeg) := j406
        have ij407 : x326 = fI H319 q307 ((4 : Int32).toNatClampNeg) := j407
        have ij408 : x327 = fI H319 q307 ((5 : Int32).toNatClampNeg) := j408
        have f415 : ∀ j : Nat, j < 8 → fI H319 xn j = fI H xn j := fun j hj => ((HD.out m352) (by decide) j).trans (f272 j hj)
        have f416 : ∀ j : Nat, j < 8 → fI H319 q307 (8877 + 4 * j) = fI H xn j := fun j hj => (((HD.out m351).resolve_left (by omega)) j hj).symm.trans (f415 j hj)
        have f417 : ∀ j : Nat, j < 8 → fI H319 xl j = fI H xl j := fun j hj => ((HD.out m355) (by decide) j).trans (f274 j hj)
        have f418 : ∀ j : Nat, j < 8 → fI H319 q307 (8878 + 4 * j) = fI H xl j := fun j hj => (((HD.out m354).resolve_left (by omega)) j hj).symm.trans (f417 j hj)
        have f419 : ∀ j : Nat, j < 8 → fI H319 xk j = fI H xk j := fun j hj => ((HD.out m358) (by decide) j).trans (f276 j hj)
        have f420 : ∀ j : Nat, j < 8 → fI H319 q307 (8879 + 4 * j) = fI H xk j := fun j hj => (((HD.out m357).resolve_left (by omega)) j hj).symm.trans (f419 j hj)
        clear eq264 eq265 eq266 ex297 ex298 ex299 ex300 ex301 ex302 f271 f272 f273 f274 f275 f276 f303 f304 f305 m261 m262 m263 m277 m278 m279 m280 m281 m282 m283 m284 m285 m286 m287 m288 m289 m290 m291 m292 m293 m294 m295 m296
        refine lv_pop hx hb dL_law_1482 rfl ?_
        refine lv_goto (tgt := 1509) hx hb dL_law_1483 (by decide) ?_
        exact nx G247 H319 locsH319 _ _ ls ⟨hTH319, hNH245, gaH245, gbH245, g343, g344, g345, g346, ⟨(by rw [← m376, ← m387]; exact rt), (by rw [← m375, ← m366, ← ex322]; omega), (by rw [← m375, ← m367, ← ex323]; omega), (by rw [← m375, ← m368, ← ex324]; omega), (by rw [← m375, ← m369, ← ex325]; omega), (by rw [← m375, ← m370, ← ex326]; omega), (by rw [← m375, ← m371, ← ex327]; omega)⟩, Or.inr ⟨q254, m383, gq254, (by rw [← ex321]; omega), (by rw [← m377, ← m328, ← ij403]; omega), (by rw [← m378, ← m328, ← ij404]; omega), (by rw [← m379, ← m328, ← ij405]; omega), (by rw [← m380, ← m328, ← ij406]; omega), (by rw [← m381, ← m328, ← ij407]; omega), (by rw [← m382, ← m328, ← ij408]; omega), (by rw [← m384, ← m328, ← m381]; exact EQR.of hrn (fun j hj => f363 j (by omega)) (fun j hj => f416 j (by omega)) (by omega)), (by rw [← m385, ← m328, ← m382]; exact EQR.of hrl (fun j hj => f364 j (by omega)) (fun j hj => f418 j (by omega)) (by omega)), (by rw [← m386, ← m328, ← m382]; exact EQR.of hrk (fun j hj => f365 j (by omega)) (fun j hj => f420 j (by omega)) (by omega))⟩, ⟨(by rw [← m375, ← m372, ← m340, ← ex326]; exact EQR.of hrn (fun j hj => f360 j (by omega)) (fun j hj => f415 j (by omega)) (by omega)), (by rw [← m375, ← m373, ← m341, ← ex327]; exact EQR.of hrl (fun j hj => f361 j (by omega)) (fun j hj => f417 j (by omega)) (by omega)), (by rw [← m375, ← m374, ← m342, ← ex327]; exact EQR.of hrk (fun j hj => f362 j (by omega)) (fun j hj => f419 j (by omega)) (by omega))⟩, hSH319⟩ hl ⟨Nat.add_le_add_right hc0 434, Nat.add_le_add_right hs0 13027, fun h => by have h1 := h.symm.trans m383; cases h1⟩
  · skip
    obtain ⟨hi, ehi⟩ : ∃ z : Int32, z = fI H b (K.1.2 10 70) := ⟨_, rfl⟩
    rw [← ehi] at h70
    obtain ⟨iq, eiq⟩ : ∃ z : Nat, z = fR H b (K.1.2 10 73) := ⟨_, rfl⟩
    have giq := ty_fr (q := iq) (k := 73) (u := 162) eiq hT gb rg_112 rfl
    rw [← eiq] at q1 q4 q5 q10 q13 q16
    obtain ⟨k1, ek1⟩ : ∃ z : Int32, z = fI H kq (K.1.2 8 1) := ⟨_, rfl⟩
    rw [← ek1] at q1
    obtain ⟨i1, ei1⟩ : ∃ z : Int32, z = fI H iq ((0 : Int32).toNatClampNeg) := ⟨_, rfl⟩
    rw [← ei1] at q1
    obtain ⟨k4, ek4⟩ : ∃ z : Int32, z = fI H kq (K.1.2 8 4) := ⟨_, rfl⟩
    rw [← ek4] at q4
    obtain ⟨i4, ei4⟩ : ∃ z : Int32, z = fI H iq ((1 : Int32).toNatClampNeg) := ⟨_, rfl⟩
    rw [← ei4] at q4
    obtain ⟨k5, ek5⟩ : ∃ z : Int32, z = fI H kq (K.1.2 8 5) := ⟨_, rfl⟩
    rw [← ek5] at q5
    obtain ⟨i5, ei5⟩ : ∃ z : Int32, z = fI H iq ((2 : Int32).toNatClampNeg) := ⟨_, rfl⟩
    rw [← ei5] at q5
    obtain ⟨k10, ek10⟩ : ∃ z : Int32, z = fI H kq (K.1.2 8 10) := ⟨_, rfl⟩
    rw [← ek10] at q10
    obtain ⟨i10, ei10⟩ : ∃ z : Int32, z = fI H iq ((3 : Int32).toNatClampNeg) := ⟨_, rfl⟩
    rw [← ei10] at q10
    obtain ⟨k13, ek13⟩ : ∃ z : Int32, z = fI H kq (K.1.2 8 13) := ⟨_, rfl⟩
    rw [← ek13] at q13
    obtain ⟨i13, ei13⟩ : ∃ z : Int32, z = fI H iq ((4 : Int32).toNatClampNeg) := ⟨_, rfl⟩
    rw [← ei13] at q13
    obtain ⟨k16, ek16⟩ : ∃ z : Int32, z = fI H kq (K.1.2 8 16) := ⟨_, rfl⟩
    rw [← ek16] at q16
    obtain ⟨i16, ei16⟩ : ∃ z : Int32, z = fI H iq ((5 : Int32).toNatClampNeg) := ⟨_, rfl⟩
    rw [← ei16] at q16
    obtain ⟨dn, edn⟩ : ∃ z : Nat, z = fR H kq (K.1.2 8 12) := ⟨_, rfl⟩
    have gdn := ty_fr (q := dn) (k := 12) (u := 65) edn hT gkq rg_34 rfl
    obtain ⟨dl, edl⟩ : ∃ z : Nat, z = fR H kq (K.1.2 8 14) := ⟨_, rfl⟩
    have gdl := ty_fr (q := dl) (k := 14) (u := 66) edl hT gkq rg_34 rfl
    obtain ⟨dk, edk⟩ : ∃ z : Nat, z = fR H kq (K.1.2 8 15) := ⟨_, rfl⟩
    have gdk := ty_fr (q := dk) (k := 15) (u := 67) edk hT gkq rg_34 rfl
    have hsn : EQR (fun j => fI H dn j) (fun j => fI H iq (8877 + 4 * j)) k13.toInt := by rw [edn, eiq, ek13]; exact hq1
    have hsl : EQR (fun j => fI H dl j) (fun j => fI H iq (8878 + 4 * j)) k16.toInt := by rw [edl, eiq, ek16]; exact hq2
    have hsk : EQR (fun j => fI H dk j) (fun j => fI H iq (8879 + 4 * j)) k16.toInt := by rw [edk, eiq, ek16]; exact hq3
    have bk13 := ty_fi (x := k13) (k := 13) ek13 hT gkq rg_34 rfl
    have bk16 := ty_fi (x := k16) (k := 16) ek16 hT gkq rg_34 rfl
    have f0dn : ∀ j : Nat, j < 8 → fI H dn j = fI H dn j := fun _ _ => rfl
    have f0dl : ∀ j : Nat, j < 8 → fI H dl j = fI H dl j := fun _ _ => rfl
    have f0dk : ∀ j : Nat, j < 8 → fI H dk j = fI H dk j := fun _ _ => rfl
    have f0i : ∀ j : Nat, fI H iq j = fI H iq j := fun _ => rfl
    refine lv_aload_n hx hb dL_law_1447 rfl (lv_at hl 2 rfl) ?_
    refine lv_aload_n hx hb dL_law_1448 rfl (lv_at hl 3 rfl) ?_
    refine lv_iload_n hx hb dL_law_1449 rfl (lv_at hl 0 rfl) ?_
    refine lv_iconst (v := 1) hx hb dL_law_1450 (by decide) ?_
    refine lv_iadd hx hb dL_law_1451 ?_
    refine lv_topi (fun x421 ex421 => ?_)
    obtain ⟨tx421, ejx421, evx421⟩ := lw_ix (k := 1) ex421 hI hL rfl (by decide)
    clear tx421
    refine va_sld hx hb hX hbl (Nat.not_le.mpr hbl) hS (vp_in_iff.mpr evx421) dL_law_1452 ?_
    refine W.eq (g2 := F0 m 1453 ls [.int (xs (i.toNatClampNeg + 1)), .ref a]) (congrArg (fun z => F0 m 1453 ls [.int (xs z), .ref a]) ejx421) ?_
    refine lv_if_eq (tgt := 1460) hx hb dL_law_1453 (by decide) (fun c1453 => ?_) (fun c1453 => ?_)
    · skip
      refine lv_iconst (v := 0) hx hb dL_law_1460 (by decide) ?_
      refine x_V (As := [.int 0]) (rest := []) C (a_X9_image_n0v l K G H (s1) (s4) (s5) (s10) (s13) (s16) (ta) (k1) (k4) (k5) (k10) (k13) (k16) hT ga gw ew es1 es4 es5 es10 es13 es16 eta gcn ecn gcl ecl gck eck kn gkq gdn edn gdl edl gdk edk ek1 ek4 ek5 ek10 ek13 ek16) yo_X9_image wM_L_153 ⟨⟨by decide, by decide⟩, show _ ≤ 284929 from Nat.le_trans hc (by decide), show _ ≤ 8247460 from Nat.le_trans hs (by decide)⟩ (x_rv C hT (ci := 9) rfl ga rg_68) rfl hl.1 rfl (Nat.le_of_ble_eq_true rfl) dL_law_1461 hS (AE_new hN hS.1) (fun vH422 H422 locsH422 pH422 zH422 kH422 hSH422 => ?_)
      obtain ⟨x423, hvH422, bx423, G424, mH422, hTH422, m435, m436, m437, m425, m426, m427, m428, m429, m430, m432, m433, m434⟩ := pH422
      subst hvH422
      have g444 : CG (avw K H422 b) := CG.congr (fun k hk j => av_eff hT kH422 gb (by decide) (CG_eff [0, 1, 2, 3, 4, 5, 6, 7, 8, 9, 10, 12, 14, 15, 16, 17, 18, 19, 20, 21, 22, 23, 24, 28, 29, 30, 31, 32, 33] (by decide) k hk)) cg
      have g445 : TU (avw K H422 b) (svw K H422 b) := TU.congr (fun k hk j => av_eff hT kH422 gb (by decide) (TU_eff [0, 1, 2, 3, 4, 5, 6, 7, 8, 9, 10, 12, 14, 15, 16, 17, 18, 19, 20, 21, 22, 23, 24, 28, 29, 30, 31, 32, 33] (by decide) k hk)) (fun k hk => sv_eff hT kH422 gb (by decide)) tu
      have g446 : WD (avw K H422 b) := WD.congr (fun k hk j => av_eff hT kH422 gb (by decide) (WD_eff [0, 1, 2, 3, 4, 5, 6, 7, 8, 9, 10, 12, 14, 15, 16, 17, 18, 19, 20, 21, 22, 23, 24, 28, 29, 30, 31, 32, 33] (by decide) k hk)) wd
      have g447 : IM (avw K H422 b) := IM.congr (fun k hk j => av_eff hT kH422 gb (by decide) (IM_eff [0, 1, 2, 3, 4, 5, 6, 7, 8, 9, 10, 12, 14, 15, 16, 17, 18, 19, 20, 21, 22, 23, 24, 28, 29, 30, 31, 32, 33] (by decide) k hk)) im
      have f448 : ∀ j : Nat, j < 8 → fI H422 xn j = fI H xn j := fun j hj => (fI_kept (x_lt hT kH422 gxn (by decide))).trans (f0xn j hj)
      have f449 : ∀ j : Nat, j < 8 → fI H422 xl j = fI H xl j := fun j hj => (fI_kept (x_lt hT kH422 gxl (by decide))).trans (f0xl j hj)
      have f450 : ∀ j : Nat, j < 8 → fI H422 xk j = fI H xk j := fun j hj => (fI_kept (x_lt hT kH422 gxk (by decide))).trans (f0xk j hj)
      have f451 : ∀ j : Nat, j < 8 → fI H422 dn j = fI H dn j := fun j hj => (fI_kept (x_lt hT kH422 gdn (by decide))).trans (f0dn j hj)
      have f452 : ∀ j : Nat, j < 8 → fI H422 dl j = fI H dl j := fun j hj => (fI_kept (x_lt hT kH422 gdl (by decide))).trans (f0dl j hj)
      have f453 : ∀ j : Nat, j < 8 → fI H422 dk j = fI H dk j := fun j hj => (fI_kept (x_lt hT kH422 gdk (by decide))).trans (f0dk j hj)
      have f454 : ∀ j : Nat, fI H422 iq j = fI H iq j := fun j => (fI_kept (x_lt hT kH422 giq (by decide))).trans (f0i j)
      have m455 := (ew).trans (fR_kept (x_lt hT kH422 ga (by decide))).symm
      have m456 := (eta).trans (fI_kept (x_lt hT kH422 ga (by decide))).symm
      have m457 := (etb).trans (fI_kept (x_lt hT kH422 gb (by decide))).symm
      have m458 := (ey1).trans (fI_kept (x_lt hT kH422 gb (by decide))).symm
      have m459 := (ey4).trans (fI_kept (x_lt hT kH422 gb (by decide))).symm
      have m460 := (ey5).trans (fI_kept (x_lt hT kH422 gb (by decide))).symm
      have m461 := (ey10).trans (fI_kept (x_lt hT kH422 gb (by decide))).symm
      have m462 := (ey13).trans (fI_kept (x_lt hT kH422 gb (by decide))).symm
      have m463 := (ey16).trans (fI_kept (x_lt hT kH422 gb (by decide))).symm
      have m464 := (exn).trans (fR_kept (x_lt hT kH422 gb (by decide))).symm
      have m465 := (exl).trans (fR_kept (x_lt hT kH422 gb (by decide))).symm
      have m466 := (exk).trans (fR_kept (x_lt hT kH422 gb (by decide))).symm
      have m467 := (ehi).trans (fI_kept (x_lt hT kH422 gb (by decide))).symm
      have m468 := (fV_kept (x_lt hT kH422 ga (by decide))).trans kn
      have m469 := (eiq).trans (fR_kept (x_lt hT kH422 gb (by decide))).symm
      have m470 := (ek1).trans (fI_kept (x_lt hT kH422 gkq (by decide))).symm
      have m471 := (ei1).trans (fI_kept (x_lt hT kH422 giq (by decide))).symm
      have m472 := (ek4).trans (fI_kept (x_lt hT kH422 gkq (by decide))).symm
      have m473 := (ei4).trans (fI_kept (x_lt hT kH422 giq (by decide))).symm
      have m474 := (ek5).trans (fI_kept (x_lt hT kH422 gkq (by decide))).symm
      have m475 := (ei5).trans (fI_kept (x_lt hT kH422 giq (by decide))).symm
      have m476 := (ek10).trans (fI_kept (x_lt hT kH422 gkq (by decide))).symm
      have m477 := (ei10).trans (fI_kept (x_lt hT kH422 giq (by decide))).symm
      have m478 := (ek13).trans (fI_kept (x_lt hT kH422 gkq (by decide))).symm
      have m479 := (ei13).trans (fI_kept (x_lt hT kH422 giq (by decide))).symm
      have m480 := (ek16).trans (fI_kept (x_lt hT kH422 gkq (by decide))).symm
      have m481 := (ei16).trans (fI_kept (x_lt hT kH422 giq (by decide))).symm
      have m482 := (edn).trans (fR_kept (x_lt hT kH422 gkq (by decide))).symm
      have m483 := (edl).trans (fR_kept (x_lt hT kH422 gkq (by decide))).symm
      have m484 := (edk).trans (fR_kept (x_lt hT kH422 gkq (by decide))).symm
      have gaH422 := (mH422 a (hT.lt ga)).trans ga
      have gbH422 := (mH422 b (hT.lt gb)).trans gb
      have gwH422 := (mH422 w (hT.lt gw)).trans gw
      have gcnH422 := (mH422 cn (hT.lt gcn)).trans gcn
      have gclH422 := (mH422 cl (hT.lt gcl)).trans gcl
      have gckH422 := (mH422 ck (hT.lt gck)).trans gck
      have gxnH422 := (mH422 xn (hT.lt gxn)).trans gxn
      have gxlH422 := (mH422 xl (hT.lt gxl)).trans gxl
      have gxkH422 := (mH422 xk (hT.lt gxk)).trans gxk
      have gkqH422 := (mH422 kq (hT.lt gkq)).trans gkq
      have gdnH422 := (mH422 dn (hT.lt gdn)).trans gdn
      have gdlH422 := (mH422 dl (hT.lt gdl)).trans gdl
      have gdkH422 := (mH422 dk (hT.lt gdk)).trans gdk
      have giqH422 := (mH422 iq (hT.lt giq)).trans giq
      have hNH422 : ∀ q, q < s.heap.size → G424 q = none := fun q hq => (mH422 q (Nat.lt_of_lt_of_le hq hS.1)).trans (hN q hq)
      obtain ⟨x485, ex485⟩ : ∃ z : Int32, z = fI H422 w (K.1.2 8 1) := ⟨_, rfl⟩
      rw [← ex485] at m425
      obtain ⟨x486, ex486⟩ : ∃ z : Int32, z = fI H422 w (K.1.2 8 4) := ⟨_, rfl⟩
      rw [← ex486] at m426
      obtain ⟨x487, ex487⟩ : ∃ z : Int32, z = fI H422 w (K.1.2 8 5) := ⟨_, rfl⟩
      rw [← ex487] at m427
      obtain ⟨x488, ex488⟩ : ∃ z : Int32, z = fI H422 w (K.1.2 8 10) := ⟨_, rfl⟩
      rw [← ex488] at m428
      obtain ⟨x489, ex489⟩ : ∃ z : Int32, z = fI H422 w (K.1.2 8 13) := ⟨_, rfl⟩
      rw [← ex489] at m429
      obtain ⟨x490, ex490⟩ : ∃ z : Int32, z = fI H422 w (K.1.2 8 16) := ⟨_, rfl⟩
      rw [← ex490] at m430
      have f491 : ∀ j : Nat, j < 8 → fI H422 cn j = fI H dn j := fun j hj => (m432 j hj).trans (f0dn j hj)
      have f492 : ∀ j : Nat, j < 8 → fI H422 cl j = fI H dl j := fun j hj => (m433 j hj).trans (f0dl j hj)
      have f493 : ∀ j : Nat, j < 8 → fI H422 ck j = fI H dk j := fun j hj => (m434 j hj).trans (f0dk j hj)
      refine W.eq (g2 := F0 m 1464 ls [.int x423]) rfl ?_
      clear eck ecl ecn edk edl edn ehi ei1 ei10 ei13 ei16 ei4 ei5 eiq ek1 ek10 ek13 ek16 ek4 ek5 es1 es10 es13 es16 es4 es5 eta etb ew exk exl exn ey1 ey10 ey13 ey16 ey4 ey5 f0ck f0cl f0cn f0dk f0dl f0dn f0i f0xk f0xl f0xn kn
      refine lv_pop hx hb dL_law_1464 rfl ?_
      refine lv_aload_n hx hb dL_law_1465 rfl (lv_at hl 1 rfl) ?_
      refine lv_aload_n hx hb dL_law_1466 rfl (lv_at hl 3 rfl) ?_
      refine lv_iload_n hx hb dL_law_1467 rfl (lv_at hl 0 rfl) ?_
      refine lv_iconst (v := 1) hx hb dL_law_1468 (by decide) ?_
      refine lv_iadd hx hb dL_law_1469 ?_
      refine lv_topi (fun x494 ex494 => ?_)
      obtain ⟨tx494, ejx494, evx494⟩ := lw_ix (k := 1) ex494 hI hL rfl (by decide)
      clear tx494
      refine va_sld hx hb hX hbl (Nat.not_le.mpr hbl) hSH422 (vp_in_iff.mpr evx494) dL_law_1470 ?_
      refine W.eq (g2 := F0 m 1471 ls [.int (xs (i.toNatClampNeg + 1)), .ref b]) (congrArg (fun z => F0 m 1471 ls [.int (xs z), .ref b]) ejx494) ?_
      refine lv_if_eq (tgt := 1478) hx hb dL_law_1471 (by decide) (fun c1471 => ?_) (fun c1471 => ?_)
      · skip
        refine lv_iconst (v := 0) hx hb dL_law_1478 (by decide) ?_
        obtain ⟨q495, eq495⟩ : ∃ z : Nat, z = fR H422 b (K.1.2 10 4) := ⟨_, rfl⟩
        have gq495 := ty_fr (q := q495) (k := 4) (u := 113) eq495 hTH422 gbH422 rg_112 rfl
        obtain ⟨q496, eq496⟩ : ∃ z : Nat, z = fR H422 b (K.1.2 10 10) := ⟨_, rfl⟩
        have gq496 := ty_fr (q := q496) (k := 10) (u := 119) eq496 hTH422 gbH422 rg_112 rfl
        obtain ⟨q497, eq497⟩ : ∃ z : Nat, z = fR H422 b (K.1.2 10 16) := ⟨_, rfl⟩
        have gq497 := ty_fr (q := q497) (k := 16) (u := 125) eq497 hTH422 gbH422 rg_112 rfl
        obtain ⟨q498, eq498⟩ : ∃ z : Nat, z = fR H422 b (K.1.2 10 24) := ⟨_, rfl⟩
        have gq498 := ty_fr (q := q498) (k := 24) (u := 128) eq498 hTH422 gbH422 rg_112 rfl
        obtain ⟨q499, eq499⟩ : ∃ z : Nat, z = fR H422 b (K.1.2 10 27) := ⟨_, rfl⟩
        have gq499 := ty_fr (q := q499) (k := 27) (u := 131) eq499 hTH422 gbH422 rg_112 rfl
        obtain ⟨q500, eq500⟩ : ∃ z : Nat, z = fR H422 b (K.1.2 10 29) := ⟨_, rfl⟩
        have gq500 := ty_fr (q := q500) (k := 29) (u := 133) eq500 hTH422 gbH422 rg_112 rfl
        obtain ⟨q501, eq501⟩ : ∃ z : Nat, z = fR H422 b (K.1.2 10 30) := ⟨_, rfl⟩
        have gq501 := ty_fr (q := q501) (k := 30) (u := 134) eq501 hTH422 gbH422 rg_112 rfl
        obtain ⟨q502, eq502⟩ : ∃ z : Nat, z = fR H422 b (K.1.2 10 31) := ⟨_, rfl⟩
        have gq502 := ty_fr (q := q502) (k := 31) (u := 135) eq502 hTH422 gbH422 rg_112 rfl
        obtain ⟨q503, eq503⟩ : ∃ z : Nat, z = fR H422 b (K.1.2 10 32) := ⟨_, rfl⟩
        have gq503 := ty_fr (q := q503) (k := 32) (u := 136) eq503 hTH422 gbH422 rg_112 rfl
        obtain ⟨q504, eq504⟩ : ∃ z : Nat, z = fR H422 b (K.1.2 10 33) := ⟨_, rfl⟩
        have gq504 := ty_fr (q := q504) (k := 33) (u := 137) eq504 hTH422 gbH422 rg_112 rfl
        obtain ⟨q505, eq505⟩ : ∃ z : Nat, z = fR H422 b (K.1.2 10 50) := ⟨_, rfl⟩
        have gq505 := ty_fr (q := q505) (k := 50) (u := 146) eq505 hTH422 gbH422 rg_112 rfl
        refine x_V (As := [.int 0]) (rest := []) C (a_X10_image l K G424 H422 (0) (hi) (y1) (y4) (y5) (y10) (y13) (y16) hTH422 gbH422 (by decide) giqH422 m469 gq495 eq495 gq496 eq496 gq497 eq497 gq498 eq498 gq499 eq499 gq500 eq500 gq501 eq501 gq502 eq502 gq503 eq503 gq504 eq504 gq505 eq505 gxnH422 m464 gxlH422 m465 gxkH422 m466 m467 m458 m459 m460 m461 m462 m463 g444 g445 g446 g447) yo_X10_image wM_L_157 ⟨⟨by decide, by decide⟩, show _ ≤ 284929 from Nat.le_trans hc (by decide), show _ ≤ 8247460 from Nat.le_trans hs (by decide)⟩ (x_rv C hTH422 (ci := 10) rfl gbH422 rg_112) rfl hl.1 rfl (Nat.le_of_ble_eq_true rfl) dL_law_1479 hSH422 (AE_new hNH422 hSH422.1) (fun vH506 H506 locsH506 pH506 zH506 kH506 hSH506 => ?_)
        obtain ⟨x507, x508, x509, x510, x511, x512, x513, x514, hvH506, bx507, ex508, ex509, ex510, ex511, ex512, ex513, ex514, hrH506, m515, m516, m517, m518, m519, m520, m521, m522, m523, m524, m525, m526, m527, m528, m529, g530, g531, g532, g533, mf534, m535, m536, m537, m538, m539, m540, m541, m542, m543, m544, m545, m546, hTH506⟩ := pH506
        subst hvH506
        have f547 : ∀ j : Nat, j < 8 → fI H506 dn j = fI H dn j := fun j hj => (fI_kept (x_lt hTH422 kH506 gdnH422 (by decide))).trans (f451 j hj)
        have f548 : ∀ j : Nat, j < 8 → fI H506 dl j = fI H dl j := fun j hj => (fI_kept (x_lt hTH422 kH506 gdlH422 (by decide))).trans (f452 j hj)
        have f549 : ∀ j : Nat, j < 8 → fI H506 dk j = fI H dk j := fun j hj => (fI_kept (x_lt hTH422 kH506 gdkH422 (by decide))).trans (f453 j hj)
        have f550 : ∀ j : Nat, j < 8 → fI H506 cn j = fI H dn j := fun j hj => (fI_kept (x_lt hTH422 kH506 gcnH422 (by decide))).trans (f491 j hj)
        have f551 : ∀ j : Nat, j < 8 → fI H506 cl j = fI H dl j := fun j hj => (fI_kept (x_lt hTH422 kH506 gclH422 (by decide))).trans (f492 j hj)
        have f552 : ∀ j : Nat, j < 8 → fI H506 ck j = fI H dk j := fun j hj => (fI_kept (x_lt hTH422 kH506 gckH422 (by decide))).trans (f493 j hj)
        have m553 := (m455).trans (fR_kept (x_lt hTH422 kH506 gaH422 (by decide))).symm
        have m554 := (m456).trans (fI_kept (x_lt hTH422 kH506 gaH422 (by decide))).symm
        have m555 := (fV_kept (x_lt hTH422 kH506 gaH422 (by decide))).trans m468
        have m556 := (m470).trans (fI_kept (x_lt hTH422 kH506 gkqH422 (by decide))).symm
        have m557 := (m472).trans (fI_kept (x_lt hTH422 kH506 gkqH422 (by decide))).symm
        have m558 := (m474).trans (fI_kept (x_lt hTH422 kH506 gkqH422 (by decide))).symm
        have m559 := (m476).trans (fI_kept (x_lt hTH422 kH506 gkqH422 (by decide))).symm
        have m560 := (m478).trans (fI_kept (x_lt hTH422 kH506 gkqH422 (by decide))).symm
        have m561 := (m480).trans (fI_kept (x_lt hTH422 kH506 gkqH422 (by decide))).symm
        have m562 := (m482).trans (fR_kept (x_lt hTH422 kH506 gkqH422 (by decide))).symm
        have m563 := (m483).trans (fR_kept (x_lt hTH422 kH506 gkqH422 (by decide))).symm
        have m564 := (m484).trans (fR_kept (x_lt hTH422 kH506 gkqH422 (by decide))).symm
        have m565 := (m435).trans (fR_kept (x_lt hTH422 kH506 gwH422 (by decide))).symm
        have m566 := (m436).trans (fR_kept (x_lt hTH422 kH506 gwH422 (by decide))).symm
        have m567 := (m437).trans (fR_kept (x_lt hTH422 kH506 gwH422 (by decide))).symm
        have m568 := (ex485).trans (fI_kept (x_lt hTH422 kH506 gwH422 (by decide))).symm
        have m569 := (ex486).trans (fI_kept (x_lt hTH422 kH506 gwH422 (by decide))).symm
        have m570 := (ex487).trans (fI_kept (x_lt hTH422 kH506 gwH422 (by decide))).symm
        have m571 := (ex488).trans (fI_kept (x_lt hTH422 kH506 gwH422 (by decide))).symm
        have m572 := (ex489).trans (fI_kept (x_lt hTH422 kH506 gwH422 (by decide))).symm
        have m573 := (ex490).trans (fI_kept (x_lt hTH422 kH506 gwH422 (by decide))).symm
        have m574 := (m457).trans (MF.i mf534 (k := 18) (by decide) (by decide)).symm
        have m575 := (m464).trans (MF.r mf534 (k := 64) (by decide) (by decide)).symm
        have m576 := (m465).trans (MF.r mf534 (k := 66) (by decide) (by decide)).symm
        have m577 := (m466).trans (MF.r mf534 (k := 67) (by decide) (by decide)).symm
        have m578 := (m469).trans (MF.r mf534 (k := 73) (by decide) (by decide)).symm
        have m579 := (eq495).trans (MF.r mf534 (k := 4) (by decide) (by decide)).symm
        have m580 := (eq496).trans (MF.r mf534 (k := 10) (by decide) (by decide)).symm
        have m581 := (eq497).trans (MF.r mf534 (k := 16) (by decide) (by decide)).symm
        have m582 := (eq498).trans (MF.r mf534 (k := 24) (by decide) (by decide)).symm
        have m583 := (eq499).trans (MF.r mf534 (k := 27) (by decide) (by decide)).symm
        have m584 := (eq500).trans (MF.r mf534 (k := 29) (by decide) (by decide)).symm
        have m585 := (eq501).trans (MF.r mf534 (k := 30) (by decide) (by decide)).symm
        have m586 := (eq502).trans (MF.r mf534 (k := 31) (by decide) (by decide)).symm
        have m587 := (eq503).trans (MF.r mf534 (k := 32) (by decide) (by decide)).symm
        have m588 := (eq504).trans (MF.r mf534 (k := 33) (by decide) (by decide)).symm
        have m589 := (eq505).trans (MF.r mf534 (k := 50) (by decide) (by decide)).symm
        have bx508 := ty_fi (x := x508) (k := 70) ex508 hTH506 gbH422 rg_112 rfl
        have bx509 := ty_fi (x := x509) (k := 1) ex509 hTH506 gbH422 rg_112 rfl
        have bx510 := ty_fi (x := x510) (k := 2) ex510 hTH506 gbH422 rg_112 rfl
        have bx511 := ty_fi (x := x511) (k := 3) ex511 hTH506 gbH422 rg_112 rfl
        have bx512 := ty_fi (x := x512) (k := 59) ex512 hTH506 gbH422 rg_112 rfl
        have bx513 := ty_fi (x := x513) (k := 62) ex513 hTH506 gbH422 rg_112 rfl
        have bx514 := ty_fi (x := x514) (k := 65) ex514 hTH506 gbH422 rg_112 rfl
        replace m538 := HD.mk m538
        replace m539 := HD.mk m539
        replace m540 := HD.mk m540
        replace m541 := HD.mk m541
        replace m542 := HD.mk m542
        replace m543 := HD.mk m543
        replace m544 := HD.mk m544
        replace m545 := HD.mk m545
        replace m546 := HD.mk m546
        refine W.eq (g2 := F0 m 1482 ls [.int x507]) rfl ?_
        obtain ⟨j590, j591, j592, j593, j594, j595⟩ := m535.resolve_left (by omega)
        have ij590 : i1 = fI H506 iq ((0 : Int32).toNatClampNeg) := m471.trans (m537 (by decide) _).symm
        have tj590 := congrArg Int32.toInt (j590.trans ij590.symm)
        have ij591 : i4 = fI H506 iq ((1 : Int32).toNatClampNeg) := m473.trans (m537 (by decide) _).symm
        have tj591 := congrArg Int32.toInt (j591.trans ij591.symm)
        have ij592 : i5 = fI H506 iq ((2 : Int32).toNatClampNeg) := m475.trans (m537 (by decide) _).symm
        have tj592 := congrArg Int32.toInt (j592.trans ij592.symm)
        have ij593 : i10 = fI H506 iq ((3 : Int32).toNatClampNeg) := m477.trans (m537 (by decide) _).symm
        have tj593 := congrArg Int32.toInt (j593.trans ij593.symm)
        have ij594 : i13 = fI H506 iq ((4 : Int32).toNatClampNeg) := m479.trans (m537 (by decide) _).symm
        have tj594 := congrArg Int32.toInt (j594.trans ij594.symm)
        have ij595 : i16 = fI H506 iq ((5 : Int32).toNatClampNeg) := m481.trans (m537 (by decide) _).symm
        have tj595 := congrArg Int32.toInt (j595.trans ij595.symm)
        have f597 : ∀ j : Nat, fI H506 iq j = fI H iq j := fun j => (m537 (by decide) j).trans (f454 j)
        have f596 : ∀ j : Nat, j < 8 → fI H506 xn j = fI H iq (8877 + 4 * j) := fun j hj => (((HD.out m538).resolve_left (by omega)) j hj).trans (f597 _)
        have f598 : ∀ j : Nat, j < 8 → fI H506 xl j = fI H iq (8878 + 4 * j) := fun j hj => (((HD.out m541).resolve_left (by omega)) j hj).trans (f597 _)
        have f599 : ∀ j : Nat, j < 8 → fI H506 xk j = fI H iq (8879 + 4 * j) := fun j hj => (((HD.out m544).resolve_left (by omega)) j hj).trans (f597 _)
        clear ex485 ex486 ex487 ex488 ex489 ex490 f448 f449 f450 f451 f452 f453 f454 f491 f492 f493 m435 m436 m437 m455 m456 m457 m458 m459 m460 m461 m462 m463 m464 m465 m466 m467 m468 m469 m470 m471 m472 m473 m474 m475 m476 m477 m478 m479 m480 m481 m482 m483 m484
        refine lv_pop hx hb dL_law_1482 rfl ?_
        refine lv_goto (tgt := 1509) hx hb dL_law_1483 (by decide) ?_
        exact nx G424 H506 locsH506 _ _ ls ⟨hTH506, hNH422, gaH422, gbH422, g530, g531, g532, g533, ⟨(by rw [← m554, ← m574]; exact rt), (by rw [← m553, ← m568, ← ex509]; omega), (by rw [← m553, ← m569, ← ex510]; omega), (by rw [← m553, ← m570, ← ex511]; omega), (by rw [← m553, ← m571, ← ex512]; omega), (by rw [← m553, ← m572, ← ex513]; omega), (by rw [← m553, ← m573, ← ex514]; omega)⟩, Or.inr ⟨kq, m555, gkqH422, (by rw [← ex508]; omega), (by rw [← m556, ← m515, ← ij590]; exact q1), (by rw [← m557, ← m515, ← ij591]; exact q4), (by rw [← m558, ← m515, ← ij592]; exact q5), (by rw [← m559, ← m515, ← ij593]; exact q10), (by rw [← m560, ← m515, ← ij594]; exact q13), (by rw [← m561, ← m515, ← ij595]; exact q16), (by rw [← m562, ← m515, ← m560]; exact EQR.of hsn (fun j hj => f547 j (by omega)) (fun j hj => f597 _) (by omega)), (by rw [← m563, ← m515, ← m561]; exact EQR.of hsl (fun j hj => f548 j (by omega)) (fun j hj => f597 _) (by omega)), (by rw [← m564, ← m515, ← m561]; exact EQR.of hsk (fun j hj => f549 j (by omega)) (fun j hj => f597 _) (by omega))⟩, ⟨(by rw [← m553, ← m565, ← m527, ← ex513]; exact EQR.of hsn (fun j hj => f550 j (by omega)) (fun j hj => f596 j (by omega)) (by omega)), (by rw [← m553, ← m566, ← m528, ← ex514]; exact EQR.of hsl (fun j hj => f551 j (by omega)) (fun j hj => f598 j (by omega)) (by omega)), (by rw [← m553, ← m567, ← m529, ← ex514]; exact EQR.of hsk (fun j hj => f552 j (by omega)) (fun j hj => f599 j (by omega)) (by omega))⟩, hSH506⟩ hl ⟨hc, hs, fun h => by have h1 := h.symm.trans m555; cases h1⟩
      · skip
        exact absurd c1453 c1471
    · skip
      refine lv_iconst (v := 1) hx hb dL_law_1456 (by decide) ?_
      refine lv_goto (tgt := 1461) hx hb dL_law_1457 (by decide) ?_
      refine x_V (As := [.int 1]) (rest := []) C (a_X9_image_n1v l K G H (s1) (s4) (s5) (s10) (s13) (s16) (ta) (k1) (k4) (k5) (k10) (k13) (k16) hT ga gw ew es1 es4 es5 es10 es13 es16 eta gcn ecn gcl ecl gck eck kn gkq gdn edn gdl edl gdk edk ek1 ek4 ek5 ek10 ek13 ek16) yo_X9_image wM_L_153 ⟨⟨by decide, by decide⟩, show _ ≤ 284929 from Nat.le_trans hc (by decide), show _ ≤ 8247460 from Nat.le_trans hs (by decide)⟩ (x_rv C hT (ci := 9) rfl ga rg_68) rfl hl.1 rfl (Nat.le_of_ble_eq_true rfl) dL_law_1461 hS (AE_new hN hS.1) (fun vH600 H600 locsH600 pH600 zH600 kH600 hSH600 => ?_)
      obtain ⟨x601, hvH600, bx601, G602, mH600, hTH600, m616, m617, q609, q619, q620, q621, m618, gq609, gq619, eq619, gq620, eq620, gq621, eq621, m603, m604, m605, m606, m607, m608, m610, m611, m612⟩ := pH600
      subst hvH600
      have g622 : CG (avw K H600 b) := CG.congr (fun k hk j => av_eff hT kH600 gb (by decide) (CG_eff [68, 34, 35, 36, 37, 38, 39, 40, 41, 42, 43, 44, 46, 48, 49, 50, 51, 52, 53, 54, 55, 56, 57, 58, 62, 63, 64, 65, 66, 67] (by decide) k hk)) cg
      have g623 : TU (avw K H600 b) (svw K H600 b) := TU.congr (fun k hk j => av_eff hT kH600 gb (by decide) (TU_eff [68, 34, 35, 36, 37, 38, 39, 40, 41, 42, 43, 44, 46, 48, 49, 50, 51, 52, 53, 54, 55, 56, 57, 58, 62, 63, 64, 65, 66, 67] (by decide) k hk)) (fun k hk => sv_eff hT kH600 gb (by decide)) tu
      have g624 : WD (avw K H600 b) := WD.congr (fun k hk j => av_eff hT kH600 gb (by decide) (WD_eff [68, 34, 35, 36, 37, 38, 39, 40, 41, 42, 43, 44, 46, 48, 49, 50, 51, 52, 53, 54, 55, 56, 57, 58, 62, 63, 64, 65, 66, 67] (by decide) k hk)) wd
      have g625 : IM (avw K H600 b) := IM.congr (fun k hk j => av_eff hT kH600 gb (by decide) (IM_eff [68, 34, 35, 36, 37, 38, 39, 40, 41, 42, 43, 44, 46, 48, 49, 50, 51, 52, 53, 54, 55, 56, 57, 58, 62, 63, 64, 65, 66, 67] (by decide) k hk)) im
      have f626 : ∀ j : Nat, j < 8 → fI H600 cn j = fI H cn j := fun j hj => (fI_kept (x_lt hT kH600 gcn (by decide))).trans (f0cn j hj)
      have f627 : ∀ j : Nat, j < 8 → fI H600 xn j = fI H xn j := fun j hj => (fI_kept (x_lt hT kH600 gxn (by decide))).trans (f0xn j hj)
      have f628 : ∀ j : Nat, j < 8 → fI H600 cl j = fI H cl j := fun j hj => (fI_kept (x_lt hT kH600 gcl (by decide))).trans (f0cl j hj)
      have f629 : ∀ j : Nat, j < 8 → fI H600 xl j = fI H xl j := fun j hj => (fI_kept (x_lt hT kH600 gxl (by decide))).trans (f0xl j hj)
      have f630 : ∀ j : Nat, j < 8 → fI H600 ck j = fI H ck j := fun j hj => (fI_kept (x_lt hT kH600 gck (by decide))).trans (f0ck j hj)
      have f631 : ∀ j : Nat, j < 8 → fI H600 xk j = fI H xk j := fun j hj => (fI_kept (x_lt hT kH600 gxk (by decide))).trans (f0xk j hj)
      have f632 : ∀ j : Nat, fI H600 iq j = fI H iq j := fun j => (fI_kept (x_lt hT kH600 giq (by decide))).trans (f0i j)
      have m633 := (etb).trans (fI_kept (x_lt hT kH600 gb (by decide))).symm
      have m634 := (es1).trans (fI_kept (x_lt hT kH600 gw (by decide))).symm
      have m635 := (ey1).trans (fI_kept (x_lt hT kH600 gb (by decide))).symm
      have m636 := (es4).trans (fI_kept (x_lt hT kH600 gw (by decide))).symm
      have m637 := (ey4).trans (fI_kept (x_lt hT kH600 gb (by decide))).symm
      have m638 := (es5).trans (fI_kept (x_lt hT kH600 gw (by decide))).symm
      have m639 := (ey5).trans (fI_kept (x_lt hT kH600 gb (by decide))).symm
      have m640 := (es10).trans (fI_kept (x_lt hT kH600 gw (by decide))).symm
      have m641 := (ey10).trans (fI_kept (x_lt hT kH600 gb (by decide))).symm
      have m642 := (es13).trans (fI_kept (x_lt hT kH600 gw (by decide))).symm
      have m643 := (ey13).trans (fI_kept (x_lt hT kH600 gb (by decide))).symm
      have m644 := (es16).trans (fI_kept (x_lt hT kH600 gw (by decide))).symm
      have m645 := (ey16).trans (fI_kept (x_lt hT kH600 gb (by decide))).symm
      have m646 := (ecn).trans (fR_kept (x_lt hT kH600 gw (by decide))).symm
      have m647 := (exn).trans (fR_kept (x_lt hT kH600 gb (by decide))).symm
      have m648 := (ecl).trans (fR_kept (x_lt hT kH600 gw (by decide))).symm
      have m649 := (exl).trans (fR_kept (x_lt hT kH600 gb (by decide))).symm
      have m650 := (eck).trans (fR_kept (x_lt hT kH600 gw (by decide))).symm
      have m651 := (exk).trans (fR_kept (x_lt hT kH600 gb (by decide))).symm
      have m652 := (ehi).trans (fI_kept (x_lt hT kH600 gb (by decide))).symm
      have m653 := (eiq).trans (fR_kept (x_lt hT kH600 gb (by decide))).symm
      have m654 := (ei1).trans (fI_kept (x_lt hT kH600 giq (by decide))).symm
      have m655 := (ei4).trans (fI_kept (x_lt hT kH600 giq (by decide))).symm
      have m656 := (ei5).trans (fI_kept (x_lt hT kH600 giq (by decide))).symm
      have m657 := (ei10).trans (fI_kept (x_lt hT kH600 giq (by decide))).symm
      have m658 := (ei13).trans (fI_kept (x_lt hT kH600 giq (by decide))).symm
      have m659 := (ei16).trans (fI_kept (x_lt hT kH600 giq (by decide))).symm
      have gaH600 := (mH600 a (hT.lt ga)).trans ga
      have gbH600 := (mH600 b (hT.lt gb)).trans gb
      have gwH600 := (mH600 w (hT.lt gw)).trans gw
      have gcnH600 := (mH600 cn (hT.lt gcn)).trans gcn
      have gclH600 := (mH600 cl (hT.lt gcl)).trans gcl
      have gckH600 := (mH600 ck (hT.lt gck)).trans gck
      have gxnH600 := (mH600 xn (hT.lt gxn)).trans gxn
      have gxlH600 := (mH600 xl (hT.lt gxl)).trans gxl
      have gxkH600 := (mH600 xk (hT.lt gxk)).trans gxk
      have gkqH600 := (mH600 kq (hT.lt gkq)).trans gkq
      have gdnH600 := (mH600 dn (hT.lt gdn)).trans gdn
      have gdlH600 := (mH600 dl (hT.lt gdl)).trans gdl
      have gdkH600 := (mH600 dk (hT.lt gdk)).trans gdk
      have giqH600 := (mH600 iq (hT.lt giq)).trans giq
      have hNH600 : ∀ q, q < s.heap.size → G602 q = none := fun q hq => (mH600 q (Nat.lt_of_lt_of_le hq hS.1)).trans (hN q hq)
      obtain ⟨x660, ex660⟩ : ∃ z : Int32, z = fI H600 q609 (K.1.2 8 1) := ⟨_, rfl⟩
      rw [← ex660] at m603
      obtain ⟨x661, ex661⟩ : ∃ z : Int32, z = fI H600 q609 (K.1.2 8 4) := ⟨_, rfl⟩
      rw [← ex661] at m604
      obtain ⟨x662, ex662⟩ : ∃ z : Int32, z = fI H600 q609 (K.1.2 8 5) := ⟨_, rfl⟩
      rw [← ex662] at m605
      obtain ⟨x663, ex663⟩ : ∃ z : Int32, z = fI H600 q609 (K.1.2 8 10) := ⟨_, rfl⟩
      rw [← ex663] at m606
      obtain ⟨x664, ex664⟩ : ∃ z : Int32, z = fI H600 q609 (K.1.2 8 13) := ⟨_, rfl⟩
      rw [← ex664] at m607
      obtain ⟨x665, ex665⟩ : ∃ z : Int32, z = fI H600 q609 (K.1.2 8 16) := ⟨_, rfl⟩
      rw [← ex665] at m608
      have f666 : ∀ j : Nat, j < 8 → fI H600 q619 j = fI H cn j := fun j hj => (m610 j hj).trans (f0cn j hj)
      have f667 : ∀ j : Nat, j < 8 → fI H600 q620 j = fI H cl j := fun j hj => (m611 j hj).trans (f0cl j hj)
      have f668 : ∀ j : Nat, j < 8 → fI H600 q621 j = fI H ck j := fun j hj => (m612 j hj).trans (f0ck j hj)
      refine W.eq (g2 := F0 m 1464 ls [.int x601]) rfl ?_
      clear eck ecl ecn edk edl edn ehi ei1 ei10 ei13 ei16 ei4 ei5 eiq ek1 ek10 ek13 ek16 ek4 ek5 es1 es10 es13 es16 es4 es5 eta etb ew exk exl exn ey1 ey10 ey13 ey16 ey4 ey5 f0ck f0cl f0cn f0dk f0dl f0dn f0i f0xk f0xl f0xn kn
      refine lv_pop hx hb dL_law_1464 rfl ?_
      refine lv_aload_n hx hb dL_law_1465 rfl (lv_at hl 1 rfl) ?_
      refine lv_aload_n hx hb dL_law_1466 rfl (lv_at hl 3 rfl) ?_
      refine lv_iload_n hx hb dL_law_1467 rfl (lv_at hl 0 rfl) ?_
      refine lv_iconst (v := 1) hx hb dL_law_1468 (by decide) ?_
      refine lv_iadd hx hb dL_law_1469 ?_
      refine lv_topi (fun x669 ex669 => ?_)
      obtain ⟨tx669, ejx669, evx669⟩ := lw_ix (k := 1) ex669 hI hL rfl (by decide)
      clear tx669
      refine va_sld hx hb hX hbl (Nat.not_le.mpr hbl) hSH600 (vp_in_iff.mpr evx669) dL_law_1470 ?_
      refine W.eq (g2 := F0 m 1471 ls [.int (xs (i.toNatClampNeg + 1)), .ref b]) (congrArg (fun z => F0 m 1471 ls [.int (xs z), .ref b]) ejx669) ?_
      refine lv_if_eq (tgt := 1478) hx hb dL_law_1471 (by decide) (fun c1471 => ?_) (fun c1471 => ?_)
      · skip
        exact absurd c1471 c1453
      · skip
        refine lv_iconst (v := 1) hx hb dL_law_1474 (by decide) ?_
        refine lv_goto (tgt := 1479) hx hb dL_law_1475 (by decide) ?_
        obtain ⟨q670, eq670⟩ : ∃ z : Nat, z = fR H600 b (K.1.2 10 4) := ⟨_, rfl⟩
        have gq670 := ty_fr (q := q670) (k := 4) (u := 113) eq670 hTH600 gbH600 rg_112 rfl
        obtain ⟨q671, eq671⟩ : ∃ z : Nat, z = fR H600 b (K.1.2 10 10) := ⟨_, rfl⟩
        have gq671 := ty_fr (q := q671) (k := 10) (u := 119) eq671 hTH600 gbH600 rg_112 rfl
        obtain ⟨q672, eq672⟩ : ∃ z : Nat, z = fR H600 b (K.1.2 10 16) := ⟨_, rfl⟩
        have gq672 := ty_fr (q := q672) (k := 16) (u := 125) eq672 hTH600 gbH600 rg_112 rfl
        obtain ⟨q673, eq673⟩ : ∃ z : Nat, z = fR H600 b (K.1.2 10 24) := ⟨_, rfl⟩
        have gq673 := ty_fr (q := q673) (k := 24) (u := 128) eq673 hTH600 gbH600 rg_112 rfl
        obtain ⟨q674, eq674⟩ : ∃ z : Nat, z = fR H600 b (K.1.2 10 27) := ⟨_, rfl⟩
        have gq674 := ty_fr (q := q674) (k := 27) (u := 131) eq674 hTH600 gbH600 rg_112 rfl
        obtain ⟨q675, eq675⟩ : ∃ z : Nat, z = fR H600 b (K.1.2 10 29) := ⟨_, rfl⟩
        have gq675 := ty_fr (q := q675) (k := 29) (u := 133) eq675 hTH600 gbH600 rg_112 rfl
        obtain ⟨q676, eq676⟩ : ∃ z : Nat, z = fR H600 b (K.1.2 10 30) := ⟨_, rfl⟩
        have gq676 := ty_fr (q := q676) (k := 30) (u := 134) eq676 hTH600 gbH600 rg_112 rfl
        obtain ⟨q677, eq677⟩ : ∃ z : Nat, z = fR H600 b (K.1.2 10 31) := ⟨_, rfl⟩
        have gq677 := ty_fr (q := q677) (k := 31) (u := 135) eq677 hTH600 gbH600 rg_112 rfl
        obtain ⟨q678, eq678⟩ : ∃ z : Nat, z = fR H600 b (K.1.2 10 32) := ⟨_, rfl⟩
        have gq678 := ty_fr (q := q678) (k := 32) (u := 136) eq678 hTH600 gbH600 rg_112 rfl
        obtain ⟨q679, eq679⟩ : ∃ z : Nat, z = fR H600 b (K.1.2 10 33) := ⟨_, rfl⟩
        have gq679 := ty_fr (q := q679) (k := 33) (u := 137) eq679 hTH600 gbH600 rg_112 rfl
        obtain ⟨q680, eq680⟩ : ∃ z : Nat, z = fR H600 b (K.1.2 10 50) := ⟨_, rfl⟩
        have gq680 := ty_fr (q := q680) (k := 50) (u := 146) eq680 hTH600 gbH600 rg_112 rfl
        refine x_V (As := [.int 1]) (rest := []) C (a_X10_image l K G602 H600 (1) (hi) (y1) (y4) (y5) (y10) (y13) (y16) hTH600 gbH600 (by decide) giqH600 m653 gq670 eq670 gq671 eq671 gq672 eq672 gq673 eq673 gq674 eq674 gq675 eq675 gq676 eq676 gq677 eq677 gq678 eq678 gq679 eq679 gq680 eq680 gxnH600 m647 gxlH600 m649 gxkH600 m651 m652 m635 m637 m639 m641 m643 m645 g622 g623 g624 g625) yo_X10_image wM_L_157 ⟨⟨by decide, by decide⟩, show _ ≤ 284929 from Nat.le_trans hc (by decide), show _ ≤ 8247460 from Nat.le_trans hs (by decide)⟩ (x_rv C hTH600 (ci := 10) rfl gbH600 rg_112) rfl hl.1 rfl (Nat.le_of_ble_eq_true rfl) dL_law_1479 hSH600 (AE_new hNH600 hSH600.1) (fun vH681 H681 locsH681 pH681 zH681 kH681 hSH681 => ?_)
        obtain ⟨x682, x683, x684, x685, x686, x687, x688, x689, hvH681, bx682, ex683, ex684, ex685, ex686, ex687, ex688, ex689, hrH681, m690, m691, m692, m693, m694, m695, m696, m697, m698, m699, m700, m701, m702, m703, m704, g705, g706, g707, g708, mf709, m710, m711, m712, m713, m714, m715, m716, m717, m718, m719, m720, m721, hTH681⟩ := pH681
        subst hvH681
        have f722 : ∀ j : Nat, j < 8 → fI H681 cn j = fI H cn j := fun j hj => (fI_kept (x_lt hTH600 kH681 gcnH600 (by decide))).trans (f626 j hj)
        have f723 : ∀ j : Nat, j < 8 → fI H681 cl j = fI H cl j := fun j hj => (fI_kept (x_lt hTH600 kH681 gclH600 (by decide))).trans (f628 j hj)
        have f724 : ∀ j : Nat, j < 8 → fI H681 ck j = fI H ck j := fun j hj => (fI_kept (x_lt hTH600 kH681 gckH600 (by decide))).trans (f630 j hj)
        have f725 : ∀ j : Nat, j < 8 → fI H681 q619 j = fI H cn j := fun j hj => (fI_kept (x_lt hTH600 kH681 gq619 (by decide))).trans (f666 j hj)
        have f726 : ∀ j : Nat, j < 8 → fI H681 q620 j = fI H cl j := fun j hj => (fI_kept (x_lt hTH600 kH681 gq620 (by decide))).trans (f667 j hj)
        have f727 : ∀ j : Nat, j < 8 → fI H681 q621 j = fI H ck j := fun j hj => (fI_kept (x_lt hTH600 kH681 gq621 (by decide))).trans (f668 j hj)
        have m728 := (m634).trans (fI_kept (x_lt hTH600 kH681 gwH600 (by decide))).symm
        have m729 := (m636).trans (fI_kept (x_lt hTH600 kH681 gwH600 (by decide))).symm
        have m730 := (m638).trans (fI_kept (x_lt hTH600 kH681 gwH600 (by decide))).symm
        have m731 := (m640).trans (fI_kept (x_lt hTH600 kH681 gwH600 (by decide))).symm
        have m732 := (m642).trans (fI_kept (x_lt hTH600 kH681 gwH600 (by decide))).symm
        have m733 := (m644).trans (fI_kept (x_lt hTH600 kH681 gwH600 (by decide))).symm
        have m734 := (m646).trans (fR_kept (x_lt hTH600 kH681 gwH600 (by decide))).symm
        have m735 := (m648).trans (fR_kept (x_lt hTH600 kH681 gwH600 (by decide))).symm
        have m736 := (m650).trans (fR_kept (x_lt hTH600 kH681 gwH600 (by decide))).symm
        have m737 := (m616).trans (fR_kept (x_lt hTH600 kH681 gaH600 (by decide))).symm
        have m738 := (m617).trans (fI_kept (x_lt hTH600 kH681 gaH600 (by decide))).symm
        have m739 := (ex660).trans (fI_kept (x_lt hTH600 kH681 gq609 (by decide))).symm
        have m740 := (ex661).trans (fI_kept (x_lt hTH600 kH681 gq609 (by decide))).symm
        have m741 := (ex662).trans (fI_kept (x_lt hTH600 kH681 gq609 (by decide))).symm
        have m742 := (ex663).trans (fI_kept (x_lt hTH600 kH681 gq609 (by decide))).symm
        have m743 := (ex664).trans (fI_kept (x_lt hTH600 kH681 gq609 (by decide))).symm
        have m744 := (ex665).trans (fI_kept (x_lt hTH600 kH681 gq609 (by decide))).symm
        have m745 := (fV_kept (x_lt hTH600 kH681 gaH600 (by decide))).trans m618
        have m746 := (eq619).trans (fR_kept (x_lt hTH600 kH681 gq609 (by decide))).symm
        have m747 := (eq620).trans (fR_kept (x_lt hTH600 kH681 gq609 (by decide))).symm
        have m748 := (eq621).trans (fR_kept (x_lt hTH600 kH681 gq609 (by decide))).symm
        have m749 := (m633).trans (MF.i mf709 (k := 18) (by decide) (by decide)).symm
        have m750 := (m647).trans (MF.r mf709 (k := 64) (by decide) (by decide)).symm
        have m751 := (m649).trans (MF.r mf709 (k := 66) (by decide) (by decide)).symm
        have m752 := (m651).trans (MF.r mf709 (k := 67) (by decide) (by decide)).symm
        have m753 := (m653).trans (MF.r mf709 (k := 73) (by decide) (by decide)).symm
        have m754 := (eq670).trans (MF.r mf709 (k := 4) (by decide) (by decide)).symm
        have m755 := (eq671).trans (MF.r mf709 (k := 10) (by decide) (by decide)).symm
        have m756 := (eq672).trans (MF.r mf709 (k := 16) (by decide) (by decide)).symm
        have m757 := (eq673).trans (MF.r mf709 (k := 24) (by decide) (by decide)).symm
        have m758 := (eq674).trans (MF.r mf709 (k := 27) (by decide) (by decide)).symm
        have m759 := (eq675).trans (MF.r mf709 (k := 29) (by decide) (by decide)).symm
        have m760 := (eq676).trans (MF.r mf709 (k := 30) (by decide) (by decide)).symm
        have m761 := (eq677).trans (MF.r mf709 (k := 31) (by decide) (by decide)).symm
        have m762 := (eq678).trans (MF.r mf709 (k := 32) (by decide) (by decide)).symm
        have m763 := (eq679).trans (MF.r mf709 (k := 33) (by decide) (by decide)).symm
        have m764 := (eq680).trans (MF.r mf709 (k := 50) (by decide) (by decide)).symm
        have bx683 := ty_fi (x := x683) (k := 70) ex683 hTH681 gbH600 rg_112 rfl
        have bx684 := ty_fi (x := x684) (k := 1) ex684 hTH681 gbH600 rg_112 rfl
        have bx685 := ty_fi (x := x685) (k := 2) ex685 hTH681 gbH600 rg_112 rfl
        have bx686 := ty_fi (x := x686) (k := 3) ex686 hTH681 gbH600 rg_112 rfl
        have bx687 := ty_fi (x := x687) (k := 59) ex687 hTH681 gbH600 rg_112 rfl
        have bx688 := ty_fi (x := x688) (k := 62) ex688 hTH681 gbH600 rg_112 rfl
        have bx689 := ty_fi (x := x689) (k := 65) ex689 hTH681 gbH600 rg_112 rfl
        replace m713 := HD.mk m713
        replace m714 := HD.mk m714
        replace m715 := HD.mk m715
        replace m716 := HD.mk m716
        replace m717 := HD.mk m717
        replace m718 := HD.mk m718
        replace m719 := HD.mk m719
        replace m720 := HD.mk m720
        replace m721 := HD.mk m721
        refine W.eq (g2 := F0 m 1482 ls [.int x682]) rfl ?_
        obtain ⟨j765, j766, j767, j768, j769, j770⟩ := m710.resolve_left (by omega)
        obtain ⟨j771, j772, j773, j774, j775, j776⟩ := m711 (by decide)
        replace j771 := congrArg Int32.toInt j771
        replace j772 := congrArg Int32.toInt j772
        replace j773 := congrArg Int32.toInt j773
        replace j774 := congrArg Int32.toInt j774
        replace j775 := congrArg Int32.toInt j775
        replace j776 := congrArg Int32.toInt j776
        have ij765 : x684 = fI H681 iq ((0 : Int32).toNatClampNeg) := j765
        have ij766 : x685 = fI H681 iq ((1 : Int32).toNatClampNeg) := j766
        have ij767 : x686 = fI H681 iq ((2 : Int32).toNatClampNeg) := j767
        have ij768 : x687 = fI H681 iq ((3 : Int32).toNatClampNeg) := j768
        have ij769 : x688 = fI H681 iq ((4 : Int32).toNatClampNeg) := j769
        have ij770 : x689 = fI H681 iq ((5 : Int32).toNatClampNeg) := j770
        have f777 : ∀ j : Nat, j < 8 → fI H681 xn j = fI H xn j := fun j hj => ((HD.out m714) (by decide) j).trans (f627 j hj)
        have f778 : ∀ j : Nat, j < 8 → fI H681 iq (8877 + 4 * j) = fI H xn j := fun j hj => (((HD.out m713).resolve_left (by omega)) j hj).symm.trans (f777 j hj)
        have f779 : ∀ j : Nat, j < 8 → fI H681 xl j = fI H xl j := fun j hj => ((HD.out m717) (by decide) j).trans (f629 j hj)
        have f780 : ∀ j : Nat, j < 8 → fI H681 iq (8878 + 4 * j) = fI H xl j := fun j hj => (((HD.out m716).resolve_left (by omega)) j hj).symm.trans (f779 j hj)
        have f781 : ∀ j : Nat, j < 8 → fI H681 xk j = fI H xk j := fun j hj => ((HD.out m720) (by decide) j).trans (f631 j hj)
        have f782 : ∀ j : Nat, j < 8 → fI H681 iq (8879 + 4 * j) = fI H xk j := fun j hj => (((HD.out m719).resolve_left (by omega)) j hj).symm.trans (f781 j hj)
        clear eq619 eq620 eq621 ex660 ex661 ex662 ex663 ex664 ex665 f626 f627 f628 f629 f630 f631 f632 f666 f667 f668 m616 m617 m618 m633 m634 m635 m636 m637 m638 m639 m640 m641 m642 m643 m644 m645 m646 m647 m648 m649 m650 m651 m652 m653 m654 m655 m656 m657 m658 m659
        refine lv_pop hx hb dL_law_1482 rfl ?_
        refine lv_goto (tgt := 1509) hx hb dL_law_1483 (by decide) ?_
        exact nx G602 H681 locsH681 _ _ ls ⟨hTH681, hNH600, gaH600, gbH600, g705, g706, g707, g708, ⟨(by rw [← m738, ← m749]; exact rt), (by rw [← m737, ← m728, ← ex684]; omega), (by rw [← m737, ← m729, ← ex685]; omega), (by rw [← m737, ← m730, ← ex686]; omega), (by rw [← m737, ← m731, ← ex687]; omega), (by rw [← m737, ← m732, ← ex688]; omega), (by rw [← m737, ← m733, ← ex689]; omega)⟩, Or.inr ⟨q609, m745, gq609, (by rw [← ex683]; omega), (by rw [← m739, ← m690, ← ij765]; omega), (by rw [← m740, ← m690, ← ij766]; omega), (by rw [← m741, ← m690, ← ij767]; omega), (by rw [← m742, ← m690, ← ij768]; omega), (by rw [← m743, ← m690, ← ij769]; omega), (by rw [← m744, ← m690, ← ij770]; omega), (by rw [← m746, ← m690, ← m743]; exact EQR.of hrn (fun j hj => f725 j (by omega)) (fun j hj => f778 j (by omega)) (by omega)), (by rw [← m747, ← m690, ← m744]; exact EQR.of hrl (fun j hj => f726 j (by omega)) (fun j hj => f780 j (by omega)) (by omega)), (by rw [← m748, ← m690, ← m744]; exact EQR.of hrk (fun j hj => f727 j (by omega)) (fun j hj => f782 j (by omega)) (by omega))⟩, ⟨(by rw [← m737, ← m734, ← m702, ← ex688]; exact EQR.of hrn (fun j hj => f722 j (by omega)) (fun j hj => f777 j (by omega)) (by omega)), (by rw [← m737, ← m735, ← m703, ← ex689]; exact EQR.of hrl (fun j hj => f723 j (by omega)) (fun j hj => f779 j (by omega)) (by omega)), (by rw [← m737, ← m736, ← m704, ← ex689]; exact EQR.of hrk (fun j hj => f724 j (by omega)) (fun j hj => f781 j (by omega)) (by omega))⟩, hSH681⟩ hl ⟨hc, hs, fun h => by have h1 := h.symm.trans m745; cases h1⟩
set_option maxRecDepth 100000 in
set_option maxHeartbeats 8000000 in
theorem lw_c34 {p : Program} {l : Launch} {e : Env} {s : State} {m : MethodId} {below : List Frame} {meth : Method} {c : Code} {K : KE} {b0 L : Nat} {xs : Nat → Int32} {G : Nat → Option Nat} {H : Heap} {locs : List Loc} {a b : Nat} {cells slots : Nat} {ls : Array Slot} {i : Int32} {n : Nat} (D : LC p K s m meth c b0 L xs) (S : SX K s G H locs a b) (hl : lv_has ls 4 [(3, .int i), (2, .ref b), (1, .ref a), (0, .ref b0)]) (hi : 0 ≤ i.toInt ∧ i.toInt + 6 ≤ L) (hn : n ≤ 511) (hB : BD K H a cells slots) (nx : ∀ (G : Nat → Option Nat) (H : Heap) (locs : List Loc) (cells slots : Nat) (ls : Array Slot), SX K s G H locs a b → lv_has ls 4 [(3, .int i), (2, .ref b), (1, .ref a), (0, .ref b0)] → BD K H a cells slots → W p l e room_1 s m #[Value.ref b0] below meth c H locs cells slots (lw_Z below #[Value.ref b0] s) (F0 m 1509 ls [])) : W p l e room_1 s m #[Value.ref b0] below meth c H locs cells slots (lw_Z below #[Value.ref b0] s) (F0 m 1486 ls []) := by
  have hI := hi
  obtain ⟨C, hX, hbl, hL⟩ := id D
  obtain ⟨hx, hb, hml, hown, hts, hKT, hr, hlocks, hnm⟩ := id C
  obtain ⟨hT, hN, ga, gb, cg, tu, wd, im, ⟨rt, r1, r4, r5, r10, r13, r16⟩, hk, hnb, hS⟩ := S
  obtain ⟨hc, hs, hB0⟩ := hB
  have n_1 : (1 : Int32).toInt = 1 := rfl
  obtain ⟨w, ew⟩ : ∃ z : Nat, z = fR H a (K.1.2 9 0) := ⟨_, rfl⟩
  have gw := ty_fr (q := w) (k := 0) (u := 0) ew hT ga rg_68 rfl
  rw [← ew] at r1 r4 r5 r10 r13 r16
  obtain ⟨ta, eta⟩ : ∃ z : Int32, z = fI H a (K.1.2 9 3) := ⟨_, rfl⟩
  rw [← eta] at rt
  obtain ⟨tb, etb⟩ : ∃ z : Int32, z = fI H b (K.1.2 10 18) := ⟨_, rfl⟩
  rw [← etb] at rt
  obtain ⟨s1, es1⟩ : ∃ z : Int32, z = fI H w (K.1.2 8 1) := ⟨_, rfl⟩
  rw [← es1] at r1
  obtain ⟨y1, ey1⟩ : ∃ z : Int32, z = fI H b (K.1.2 10 1) := ⟨_, rfl⟩
  rw [← ey1] at r1
  obtain ⟨s4, es4⟩ : ∃ z : Int32, z = fI H w (K.1.2 8 4) := ⟨_, rfl⟩
  rw [← es4] at r4
  obtain ⟨y4, ey4⟩ : ∃ z : Int32, z = fI H b (K.1.2 10 2) := ⟨_, rfl⟩
  rw [← ey4] at r4
  obtain ⟨s5, es5⟩ : ∃ z : Int32, z = fI H w (K.1.2 8 5) := ⟨_, rfl⟩
  rw [← es5] at r5
  obtain ⟨y5, ey5⟩ : ∃ z : Int32, z = fI H b (K.1.2 10 3) := ⟨_, rfl⟩
  rw [← ey5] at r5
  obtain ⟨s10, es10⟩ : ∃ z : Int32, z = fI H w (K.1.2 8 10) := ⟨_, rfl⟩
  rw [← es10] at r10
  obtain ⟨y10, ey10⟩ : ∃ z : Int32, z = fI H b (K.1.2 10 59) := ⟨_, rfl⟩
  rw [← ey10] at r10
  obtain ⟨s13, es13⟩ : ∃ z : Int32, z = fI H w (K.1.2 8 13) := ⟨_, rfl⟩
  rw [← es13] at r13
  obtain ⟨y13, ey13⟩ : ∃ z : Int32, z = fI H b (K.1.2 10 62) := ⟨_, rfl⟩
  rw [← ey13] at r13
  obtain ⟨s16, es16⟩ : ∃ z : Int32, z = fI H w (K.1.2 8 16) := ⟨_, rfl⟩
  rw [← es16] at r16
  obtain ⟨y16, ey16⟩ : ∃ z : Int32, z = fI H b (K.1.2 10 65) := ⟨_, rfl⟩
  rw [← ey16] at r16
  obtain ⟨hb1, hb2, hb3⟩ := hnb
  obtain ⟨cn, ecn⟩ : ∃ z : Nat, z = fR H w (K.1.2 8 12) := ⟨_, rfl⟩
  have gcn := ty_fr (q := cn) (k := 12) (u := 31) ecn hT gw rg_0 rfl
  obtain ⟨xn, exn⟩ : ∃ z : Nat, z = fR H b (K.1.2 10 64) := ⟨_, rfl⟩
  have gxn := ty_fr (q := xn) (k := 64) (u := 157) exn hT gb rg_112 rfl
  obtain ⟨cl, ecl⟩ : ∃ z : Nat, z = fR H w (K.1.2 8 14) := ⟨_, rfl⟩
  have gcl := ty_fr (q := cl) (k := 14) (u := 32) ecl hT gw rg_0 rfl
  obtain ⟨xl, exl⟩ : ∃ z : Nat, z = fR H b (K.1.2 10 66) := ⟨_, rfl⟩
  have gxl := ty_fr (q := xl) (k := 66) (u := 158) exl hT gb rg_112 rfl
  obtain ⟨ck, eck⟩ : ∃ z : Nat, z = fR H w (K.1.2 8 15) := ⟨_, rfl⟩
  have gck := ty_fr (q := ck) (k := 15) (u := 33) eck hT gw rg_0 rfl
  obtain ⟨xk, exk⟩ : ∃ z : Nat, z = fR H b (K.1.2 10 67) := ⟨_, rfl⟩
  have gxk := ty_fr (q := xk) (k := 67) (u := 159) exk hT gb rg_112 rfl
  have hrn : EQR (fun j => fI H cn j) (fun j => fI H xn j) y13.toInt := by rw [ecn, exn, ew, ey13]; exact hb1
  have hrl : EQR (fun j => fI H cl j) (fun j => fI H xl j) y16.toInt := by rw [ecl, exl, ew, ey16]; exact hb2
  have hrk : EQR (fun j => fI H ck j) (fun j => fI H xk j) y16.toInt := by rw [eck, exk, ew, ey16]; exact hb3
  have by13 := ty_fi (x := y13) (k := 62) ey13 hT gb rg_112 rfl
  have by16 := ty_fi (x := y16) (k := 65) ey16 hT gb rg_112 rfl
  have f0cn : ∀ j : Nat, j < 8 → fI H cn j = fI H cn j := fun _ _ => rfl
  have f0xn : ∀ j : Nat, j < 8 → fI H xn j = fI H xn j := fun _ _ => rfl
  have f0cl : ∀ j : Nat, j < 8 → fI H cl j = fI H cl j := fun _ _ => rfl
  have f0xl : ∀ j : Nat, j < 8 → fI H xl j = fI H xl j := fun _ _ => rfl
  have f0ck : ∀ j : Nat, j < 8 → fI H ck j = fI H ck j := fun _ _ => rfl
  have f0xk : ∀ j : Nat, j < 8 → fI H xk j = fI H xk j := fun _ _ => rfl
  rcases hk with ⟨kn, h70⟩ | ⟨kq, kn, gkq, h70, q1, q4, q5, q10, q13, q16, hq1, hq2, hq3⟩
  · skip
    obtain ⟨hi, ehi⟩ : ∃ z : Int32, z = fI H b (K.1.2 10 70) := ⟨_, rfl⟩
    rw [← ehi] at h70
    obtain ⟨hc0, hs0⟩ := hB0 kn
    refine lv_aload_n hx hb dL_law_1486 rfl (lv_at hl 2 rfl) ?_
    refine lv_aload_n hx hb dL_law_1487 rfl (lv_at hl 3 rfl) ?_
    refine lv_iload_n hx hb dL_law_1488 rfl (lv_at hl 0 rfl) ?_
    refine lv_iconst (v := 1) hx hb dL_law_1489 (by decide) ?_
    refine lv_iadd hx hb dL_law_1490 ?_
    refine lv_topi (fun x101 ex101 => ?_)
    obtain ⟨tx101, ejx101, evx101⟩ := lw_ix (k := 1) ex101 hI hL rfl (by decide)
    clear tx101
    refine va_sld hx hb hX hbl (Nat.not_le.mpr hbl) hS (vp_in_iff.mpr evx101) dL_law_1491 ?_
    refine W.eq (g2 := F0 m 1492 ls [.int (xs (i.toNatClampNeg + 1)), .ref a]) (congrArg (fun z => F0 m 1492 ls [.int (xs z), .ref a]) ejx101) ?_
    refine x_V (As := [.int (xs (i.toNatClampNeg + 1))]) (rest := []) C (a_X9_look l K G H ((xs (i.toNatClampNeg + 1))) hT ga) yo_X9_look wM_L_158 ⟨⟨by decide, by decide⟩, show _ ≤ 284929 from Nat.le_trans hc (by decide), show _ ≤ 8247460 from Nat.le_trans hs (by decide)⟩ (x_rv C hT (ci := 9) rfl ga rg_68) rfl hl.1 rfl (Nat.le_of_ble_eq_true rfl) dL_law_1492 hS (AE_new hN hS.1) (fun vH102 H102 locsH102 pH102 zH102 kH102 hSH102 => ?_)
    obtain ⟨x103, hvH102, hTH102⟩ := pH102
    subst hvH102
    have g104 : CG (avw K H102 b) := CG.congr (fun k hk j => av_eff hT kH102 gb (by decide) (CG_eff [83, 84] (by decide) k hk)) cg
    have g105 : TU (avw K H102 b) (svw K H102 b) := TU.congr (fun k hk j => av_eff hT kH102 gb (by decide) (TU_eff [83, 84] (by decide) k hk)) (fun k hk => sv_eff hT kH102 gb (by decide)) tu
    have g106 : WD (avw K H102 b) := WD.congr (fun k hk j => av_eff hT kH102 gb (by decide) (WD_eff [83, 84] (by decide) k hk)) wd
    have g107 : IM (avw K H102 b) := IM.congr (fun k hk j => av_eff hT kH102 gb (by decide) (IM_eff [83, 84] (by decide) k hk)) im
    have f108 : ∀ j : Nat, j < 8 → fI H102 cn j = fI H cn j := fun j hj => (fI_kept (x_lt hT kH102 gcn (by decide))).trans (f0cn j hj)
    have f109 : ∀ j : Nat, j < 8 → fI H102 xn j = fI H xn j := fun j hj => (fI_kept (x_lt hT kH102 gxn (by decide))).trans (f0xn j hj)
    have f110 : ∀ j : Nat, j < 8 → fI H102 cl j = fI H cl j := fun j hj => (fI_kept (x_lt hT kH102 gcl (by decide))).trans (f0cl j hj)
    have f111 : ∀ j : Nat, j < 8 → fI H102 xl j = fI H xl j := fun j hj => (fI_kept (x_lt hT kH102 gxl (by decide))).trans (f0xl j hj)
    have f112 : ∀ j : Nat, j < 8 → fI H102 ck j = fI H ck j := fun j hj => (fI_kept (x_lt hT kH102 gck (by decide))).trans (f0ck j hj)
    have f113 : ∀ j : Nat, j < 8 → fI H102 xk j = fI H xk j := fun j hj => (fI_kept (x_lt hT kH102 gxk (by decide))).trans (f0xk j hj)
    have m114 := (ew).trans (fR_kept (x_lt hT kH102 ga (by decide))).symm
    have m115 := (eta).trans (fI_kept (x_lt hT kH102 ga (by decide))).symm
    have m116 := (etb).trans (fI_kept (x_lt hT kH102 gb (by decide))).symm
    have m117 := (es1).trans (fI_kept (x_lt hT kH102 gw (by decide))).symm
    have m118 := (ey1).trans (fI_kept (x_lt hT kH102 gb (by decide))).symm
    have m119 := (es4).trans (fI_kept (x_lt hT kH102 gw (by decide))).symm
    have m120 := (ey4).trans (fI_kept (x_lt hT kH102 gb (by decide))).symm
    have m121 := (es5).trans (fI_kept (x_lt hT kH102 gw (by decide))).symm
    have m122 := (ey5).trans (fI_kept (x_lt hT kH102 gb (by decide))).symm
    have m123 := (es10).trans (fI_kept (x_lt hT kH102 gw (by decide))).symm
    have m124 := (ey10).trans (fI_kept (x_lt hT kH102 gb (by decide))).symm
    have m125 := (es13).trans (fI_kept (x_lt hT kH102 gw (by decide))).symm
    have m126 := (ey13).trans (fI_kept (x_lt hT kH102 gb (by decide))).symm
    have m127 := (es16).trans (fI_kept (x_lt hT kH102 gw (by decide))).symm
    have m128 := (ey16).trans (fI_kept (x_lt hT kH102 gb (by decide))).symm
    have m129 := (ecn).trans (fR_kept (x_lt hT kH102 gw (by decide))).symm
    have m130 := (exn).trans (fR_kept (x_lt hT kH102 gb (by decide))).symm
    have m131 := (ecl).trans (fR_kept (x_lt hT kH102 gw (by decide))).symm
    have m132 := (exl).trans (fR_kept (x_lt hT kH102 gb (by decide))).symm
    have m133 := (eck).trans (fR_kept (x_lt hT kH102 gw (by decide))).symm
    have m134 := (exk).trans (fR_kept (x_lt hT kH102 gb (by decide))).symm
    have m135 := (ehi).trans (fI_kept (x_lt hT kH102 gb (by decide))).symm
    have m136 := (fV_kept (x_lt hT kH102 ga (by decide))).trans kn
    refine W.eq (g2 := F0 m 1495 ls [.int x103]) rfl ?_
    clear eck ecl ecn ehi es1 es10 es13 es16 es4 es5 eta etb ew exk exl exn ey1 ey10 ey13 ey16 ey4 ey5 f0ck f0cl f0cn f0xk f0xl f0xn kn
    refine lv_pop hx hb dL_law_1495 rfl ?_
    refine lv_aload_n hx hb dL_law_1496 rfl (lv_at hl 1 rfl) ?_
    refine lv_aload_n hx hb dL_law_1497 rfl (lv_at hl 3 rfl) ?_
    refine lv_iload_n hx hb dL_law_1498 rfl (lv_at hl 0 rfl) ?_
    refine lv_iconst (v := 1) hx hb dL_law_1499 (by decide) ?_
    refine lv_iadd hx hb dL_law_1500 ?_
    refine lv_topi (fun x137 ex137 => ?_)
    obtain ⟨tx137, ejx137, evx137⟩ := lw_ix (k := 1) ex137 hI hL rfl (by decide)
    clear tx137
    refine va_sld hx hb hX hbl (Nat.not_le.mpr hbl) hSH102 (vp_in_iff.mpr evx137) dL_law_1501 ?_
    refine W.eq (g2 := F0 m 1502 ls [.int (xs (i.toNatClampNeg + 1)), .ref b]) (congrArg (fun z => F0 m 1502 ls [.int (xs z), .ref b]) ejx137) ?_
    refine x_V (As := [.int (xs (i.toNatClampNeg + 1))]) (rest := []) C (a_X10_look l K G H102 ((xs (i.toNatClampNeg + 1))) hTH102 gb g104 g105 g106 g107) yo_X10_look wM_L_161 ⟨⟨by decide, by decide⟩, show _ ≤ 284929 from Nat.le_trans hc (by decide), show _ ≤ 8247460 from Nat.le_trans hs (by decide)⟩ (x_rv C hTH102 (ci := 10) rfl gb rg_112) rfl hl.1 rfl (Nat.le_of_ble_eq_true rfl) dL_law_1502 hSH102 (AE_new hN hSH102.1) (fun vH138 H138 locsH138 pH138 zH138 kH138 hSH138 => ?_)
    obtain ⟨x139, hvH138, g140, g141, g142, g143, mf144, hTH138⟩ := pH138
    subst hvH138
    have f145 : ∀ j : Nat, j < 8 → fI H138 cn j = fI H cn j := fun j hj => (fI_kept (x_lt hTH102 kH138 gcn (by decide))).trans (f108 j hj)
    have f146 : ∀ j : Nat, j < 8 → fI H138 xn j = fI H xn j := fun j hj => (fI_kept (x_lt hTH102 kH138 gxn (by decide))).trans (f109 j hj)
    have f147 : ∀ j : Nat, j < 8 → fI H138 cl j = fI H cl j := fun j hj => (fI_kept (x_lt hTH102 kH138 gcl (by decide))).trans (f110 j hj)
    have f148 : ∀ j : Nat, j < 8 → fI H138 xl j = fI H xl j := fun j hj => (fI_kept (x_lt hTH102 kH138 gxl (by decide))).trans (f111 j hj)
    have f149 : ∀ j : Nat, j < 8 → fI H138 ck j = fI H ck j := fun j hj => (fI_kept (x_lt hTH102 kH138 gck (by decide))).trans (f112 j hj)
    have f150 : ∀ j : Nat, j < 8 → fI H138 xk j = fI H xk j := fun j hj => (fI_kept (x_lt hTH102 kH138 gxk (by decide))).trans (f113 j hj)
    have m151 := (m114).trans (fR_kept (x_lt hTH102 kH138 ga (by decide))).symm
    have m152 := (m115).trans (fI_kept (x_lt hTH102 kH138 ga (by decide))).symm
    have m153 := (m117).trans (fI_kept (x_lt hTH102 kH138 gw (by decide))).symm
    have m154 := (m119).trans (fI_kept (x_lt hTH102 kH138 gw (by decide))).symm
    have m155 := (m121).trans (fI_kept (x_lt hTH102 kH138 gw (by decide))).symm
    have m156 := (m123).trans (fI_kept (x_lt hTH102 kH138 gw (by decide))).symm
    have m157 := (m125).trans (fI_kept (x_lt hTH102 kH138 gw (by decide))).symm
    have m158 := (m127).trans (fI_kept (x_lt hTH102 kH138 gw (by decide))).symm
    have m159 := (m129).trans (fR_kept (x_lt hTH102 kH138 gw (by decide))).symm
    have m160 := (m131).trans (fR_kept (x_lt hTH102 kH138 gw (by decide))).symm
    have m161 := (m133).trans (fR_kept (x_lt hTH102 kH138 gw (by decide))).symm
    have m162 := (fV_kept (x_lt hTH102 kH138 ga (by decide))).trans m136
    have m163 := (m116).trans (MF.i mf144 (k := 18) (by decide) (by decide)).symm
    have m164 := (m118).trans (MF.i mf144 (k := 1) (by decide) (by decide)).symm
    have m165 := (m120).trans (MF.i mf144 (k := 2) (by decide) (by decide)).symm
    have m166 := (m122).trans (MF.i mf144 (k := 3) (by decide) (by decide)).symm
    have m167 := (m124).trans (MF.i mf144 (k := 59) (by decide) (by decide)).symm
    have m168 := (m126).trans (MF.i mf144 (k := 62) (by decide) (by decide)).symm
    have m169 := (m128).trans (MF.i mf144 (k := 65) (by decide) (by decide)).symm
    have m170 := (m130).trans (MF.r mf144 (k := 64) (by decide) (by decide)).symm
    have m171 := (m132).trans (MF.r mf144 (k := 66) (by decide) (by decide)).symm
    have m172 := (m134).trans (MF.r mf144 (k := 67) (by decide) (by decide)).symm
    have m173 := (m135).trans (MF.i mf144 (k := 70) (by decide) (by decide)).symm
    refine W.eq (g2 := F0 m 1505 ls [.int x139]) rfl ?_
    clear f108 f109 f110 f111 f112 f113 m114 m115 m116 m117 m118 m119 m120 m121 m122 m123 m124 m125 m126 m127 m128 m129 m130 m131 m132 m133 m134 m135 m136
    refine lv_pop hx hb dL_law_1505 rfl ?_
    refine lv_goto (tgt := 1509) hx hb dL_law_1506 (by decide) ?_
    exact nx G H138 locsH138 _ _ ls ⟨hTH138, hN, ga, gb, g140, g141, g142, g143, ⟨(by rw [← m152, ← m163]; exact rt), (by rw [← m151, ← m153, ← m164]; exact r1), (by rw [← m151, ← m154, ← m165]; exact r4), (by rw [← m151, ← m155, ← m166]; exact r5), (by rw [← m151, ← m156, ← m167]; exact r10), (by rw [← m151, ← m157, ← m168]; exact r13), (by rw [← m151, ← m158, ← m169]; exact r16)⟩, Or.inl ⟨m162, (by rw [← m173]; exact h70)⟩, ⟨(by rw [← m151, ← m159, ← m170, ← m168]; exact EQR.of hrn (fun j hj => f145 j (by omega)) (fun j hj => f146 j (by omega)) (by omega)), (by rw [← m151, ← m160, ← m171, ← m169]; exact EQR.of hrl (fun j hj => f147 j (by omega)) (fun j hj => f148 j (by omega)) (by omega)), (by rw [← m151, ← m161, ← m172, ← m169]; exact EQR.of hrk (fun j hj => f149 j (by omega)) (fun j hj => f150 j (by omega)) (by omega))⟩, hSH138⟩ hl ⟨hc, hs, fun _ => ⟨hc0, hs0⟩⟩
  · skip
    obtain ⟨hi, ehi⟩ : ∃ z : Int32, z = fI H b (K.1.2 10 70) := ⟨_, rfl⟩
    rw [← ehi] at h70
    obtain ⟨iq, eiq⟩ : ∃ z : Nat, z = fR H b (K.1.2 10 73) := ⟨_, rfl⟩
    have giq := ty_fr (q := iq) (k := 73) (u := 162) eiq hT gb rg_112 rfl
    rw [← eiq] at q1 q4 q5 q10 q13 q16
    obtain ⟨k1, ek1⟩ : ∃ z : Int32, z = fI H kq (K.1.2 8 1) := ⟨_, rfl⟩
    rw [← ek1] at q1
    obtain ⟨i1, ei1⟩ : ∃ z : Int32, z = fI H iq ((0 : Int32).toNatClampNeg) := ⟨_, rfl⟩
    rw [← ei1] at q1
    obtain ⟨k4, ek4⟩ : ∃ z : Int32, z = fI H kq (K.1.2 8 4) := ⟨_, rfl⟩
    rw [← ek4] at q4
    obtain ⟨i4, ei4⟩ : ∃ z : Int32, z = fI H iq ((1 : Int32).toNatClampNeg) := ⟨_, rfl⟩
    rw [← ei4] at q4
    obtain ⟨k5, ek5⟩ : ∃ z : Int32, z = fI H kq (K.1.2 8 5) := ⟨_, rfl⟩
    rw [← ek5] at q5
    obtain ⟨i5, ei5⟩ : ∃ z : Int32, z = fI H iq ((2 : Int32).toNatClampNeg) := ⟨_, rfl⟩
    rw [← ei5] at q5
    obtain ⟨k10, ek10⟩ : ∃ z : Int32, z = fI H kq (K.1.2 8 10) := ⟨_, rfl⟩
    rw [← ek10] at q10
    obtain ⟨i10, ei10⟩ : ∃ z : Int32, z = fI H iq ((3 : Int32).toNatClampNeg) := ⟨_, rfl⟩
    rw [← ei10] at q10
    obtain ⟨k13, ek13⟩ : ∃ z : Int32, z = fI H kq (K.1.2 8 13) := ⟨_, rfl⟩
    rw [← ek13] at q13
    obtain ⟨i13, ei13⟩ : ∃ z : Int32, z = fI H iq ((4 : Int32).toNatClampNeg) := ⟨_, rfl⟩
    rw [← ei13] at q13
    obtain ⟨k16, ek16⟩ : ∃ z : Int32, z = fI H kq (K.1.2 8 16) := ⟨_, rfl⟩
    rw [← ek16] at q16
    obtain ⟨i16, ei16⟩ : ∃ z : Int32, z = fI H iq ((5 : Int32).toNatClampNeg) := ⟨_, rfl⟩
    rw [← ei16] at q16
    obtain ⟨dn, edn⟩ : ∃ z : Nat, z = fR H kq (K.1.2 8 12) := ⟨_, rfl⟩
    have gdn := ty_fr (q := dn) (k := 12) (u := 65) edn hT gkq rg_34 rfl
    obtain ⟨dl, edl⟩ : ∃ z : Nat, z = fR H kq (K.1.2 8 14) := ⟨_, rfl⟩
    have gdl := ty_fr (q := dl) (k := 14) (u := 66) edl hT gkq rg_34 rfl
    obtain ⟨dk, edk⟩ : ∃ z : Nat, z = fR H kq (K.1.2 8 15) := ⟨_, rfl⟩
    have gdk := ty_fr (q := dk) (k := 15) (u := 67) edk hT gkq rg_34 rfl
    have hsn : EQR (fun j => fI H dn j) (fun j => fI H iq (8877 + 4 * j)) k13.toInt := by rw [edn, eiq, ek13]; exact hq1
    have hsl : EQR (fun j => fI H dl j) (fun j => fI H iq (8878 + 4 * j)) k16.toInt := by rw [edl, eiq, ek16]; exact hq2
    have hsk : EQR (fun j => fI H dk j) (fun j => fI H iq (8879 + 4 * j)) k16.toInt := by rw [edk, eiq, ek16]; exact hq3
    have bk13 := ty_fi (x := k13) (k := 13) ek13 hT gkq rg_34 rfl
    have bk16 := ty_fi (x := k16) (k := 16) ek16 hT gkq rg_34 rfl
    have f0dn : ∀ j : Nat, j < 8 → fI H dn j = fI H dn j := fun _ _ => rfl
    have f0dl : ∀ j : Nat, j < 8 → fI H dl j = fI H dl j := fun _ _ => rfl
    have f0dk : ∀ j : Nat, j < 8 → fI H dk j = fI H dk j := fun _ _ => rfl
    have f0i : ∀ j : Nat, fI H iq j = fI H iq j := fun _ => rfl
    refine lv_aload_n hx hb dL_law_1486 rfl (lv_at hl 2 rfl) ?_
    refine lv_aload_n hx hb dL_law_1487 rfl (lv_at hl 3 rfl) ?_
    refine lv_iload_n hx hb dL_law_1488 rfl (lv_at hl 0 rfl) ?_
    refine lv_iconst (v := 1) hx hb dL_law_1489 (by decide) ?_
    refine lv_iadd hx hb dL_law_1490 ?_
    refine lv_topi (fun x174 ex174 => ?_)
    obtain ⟨tx174, ejx174, evx174⟩ := lw_ix (k := 1) ex174 hI hL rfl (by decide)
    clear tx174
    refine va_sld hx hb hX hbl (Nat.not_le.mpr hbl) hS (vp_in_iff.mpr evx174) dL_law_1491 ?_
    refine W.eq (g2 := F0 m 1492 ls [.int (xs (i.toNatClampNeg + 1)), .ref a]) (congrArg (fun z => F0 m 1492 ls [.int (xs z), .ref a]) ejx174) ?_
    refine x_V (As := [.int (xs (i.toNatClampNeg + 1))]) (rest := []) C (a_X9_look l K G H ((xs (i.toNatClampNeg + 1))) hT ga) yo_X9_look wM_L_158 ⟨⟨by decide, by decide⟩, show _ ≤ 284929 from Nat.le_trans hc (by decide), show _ ≤ 8247460 from Nat.le_trans hs (by decide)⟩ (x_rv C hT (ci := 9) rfl ga rg_68) rfl hl.1 rfl (Nat.le_of_ble_eq_true rfl) dL_law_1492 hS (AE_new hN hS.1) (fun vH175 H175 locsH175 pH175 zH175 kH175 hSH175 => ?_)
    obtain ⟨x176, hvH175, hTH175⟩ := pH175
    subst hvH175
    have g177 : CG (avw K H175 b) := CG.congr (fun k hk j => av_eff hT kH175 gb (by decide) (CG_eff [83, 84] (by decide) k hk)) cg
    have g178 : TU (avw K H175 b) (svw K H175 b) := TU.congr (fun k hk j => av_eff hT kH175 gb (by decide) (TU_eff [83, 84] (by decide) k hk)) (fun k hk => sv_eff hT kH175 gb (by decide)) tu
    have g179 : WD (avw K H175 b) := WD.congr (fun k hk j => av_eff hT kH175 gb (by decide) (WD_eff [83, 84] (by decide) k hk)) wd
    have g180 : IM (avw K H175 b) := IM.congr (fun k hk j => av_eff hT kH175 gb (by decide) (IM_eff [83, 84] (by decide) k hk)) im
    have f181 : ∀ j : Nat, j < 8 → fI H175 cn j = fI H cn j := fun j hj => (fI_kept (x_lt hT kH175 gcn (by decide))).trans (f0cn j hj)
    have f182 : ∀ j : Nat, j < 8 → fI H175 xn j = fI H xn j := fun j hj => (fI_kept (x_lt hT kH175 gxn (by decide))).trans (f0xn j hj)
    have f183 : ∀ j : Nat, j < 8 → fI H175 cl j = fI H cl j := fun j hj => (fI_kept (x_lt hT kH175 gcl (by decide))).trans (f0cl j hj)
    have f184 : ∀ j : Nat, j < 8 → fI H175 xl j = fI H xl j := fun j hj => (fI_kept (x_lt hT kH175 gxl (by decide))).trans (f0xl j hj)
    have f185 : ∀ j : Nat, j < 8 → fI H175 ck j = fI H ck j := fun j hj => (fI_kept (x_lt hT kH175 gck (by decide))).trans (f0ck j hj)
    have f186 : ∀ j : Nat, j < 8 → fI H175 xk j = fI H xk j := fun j hj => (fI_kept (x_lt hT kH175 gxk (by decide))).trans (f0xk j hj)
    have f187 : ∀ j : Nat, j < 8 → fI H175 dn j = fI H dn j := fun j hj => (fI_kept (x_lt hT kH175 gdn (by decide))).trans (f0dn j hj)
    have f188 : ∀ j : Nat, j < 8 → fI H175 dl j = fI H dl j := fun j hj => (fI_kept (x_lt hT kH175 gdl (by decide))).trans (f0dl j hj)
    have f189 : ∀ j : Nat, j < 8 → fI H175 dk j = fI H dk j := fun j hj => (fI_kept (x_lt hT kH175 gdk (by decide))).trans (f0dk j hj)
    have f190 : ∀ j : Nat, fI H175 iq j = fI H iq j := fun j => (fI_kept (x_lt hT kH175 giq (by decide))).trans (f0i j)
    have m191 := (ew).trans (fR_kept (x_lt hT kH175 ga (by decide))).symm
    have m192 := (eta).trans (fI_kept (x_lt hT kH175 ga (by decide))).symm
    have m193 := (etb).trans (fI_kept (x_lt hT kH175 gb (by decide))).symm
    have m194 := (es1).trans (fI_kept (x_lt hT kH175 gw (by decide))).symm
    have m195 := (ey1).trans (fI_kept (x_lt hT kH175 gb (by decide))).symm
    have m196 := (es4).trans (fI_kept (x_lt hT kH175 gw (by decide))).symm
    have m197 := (ey4).trans (fI_kept (x_lt hT kH175 gb (by decide))).symm
    have m198 := (es5).trans (fI_kept (x_lt hT kH175 gw (by decide))).symm
    have m199 := (ey5).trans (fI_kept (x_lt hT kH175 gb (by decide))).symm
    have m200 := (es10).trans (fI_kept (x_lt hT kH175 gw (by decide))).symm
    have m201 := (ey10).trans (fI_kept (x_lt hT kH175 gb (by decide))).symm
    have m202 := (es13).trans (fI_kept (x_lt hT kH175 gw (by decide))).symm
    have m203 := (ey13).trans (fI_kept (x_lt hT kH175 gb (by decide))).symm
    have m204 := (es16).trans (fI_kept (x_lt hT kH175 gw (by decide))).symm
    have m205 := (ey16).trans (fI_kept (x_lt hT kH175 gb (by decide))).symm
    have m206 := (ecn).trans (fR_kept (x_lt hT kH175 gw (by decide))).symm
    have m207 := (exn).trans (fR_kept (x_lt hT kH175 gb (by decide))).symm
    have m208 := (ecl).trans (fR_kept (x_lt hT kH175 gw (by decide))).symm
    have m209 := (exl).trans (fR_kept (x_lt hT kH175 gb (by decide))).symm
    have m210 := (eck).trans (fR_kept (x_lt hT kH175 gw (by decide))).symm
    have m211 := (exk).trans (fR_kept (x_lt hT kH175 gb (by decide))).symm
    have m212 := (ehi).trans (fI_kept (x_lt hT kH175 gb (by decide))).symm
    have m213 := (fV_kept (x_lt hT kH175 ga (by decide))).trans kn
    have m214 := (eiq).trans (fR_kept (x_lt hT kH175 gb (by decide))).symm
    have m215 := (ek1).trans (fI_kept (x_lt hT kH175 gkq (by decide))).symm
    have m216 := (ei1).trans (fI_kept (x_lt hT kH175 giq (by decide))).symm
    have m217 := (ek4).trans (fI_kept (x_lt hT kH175 gkq (by decide))).symm
    have m218 := (ei4).trans (fI_kept (x_lt hT kH175 giq (by decide))).symm
    have m219 := (ek5).trans (fI_kept (x_lt hT kH175 gkq (by decide))).symm
    have m220 := (ei5).trans (fI_kept (x_lt hT kH175 giq (by decide))).symm
    have m221 := (ek10).trans (fI_kept (x_lt hT kH175 gkq (by decide))).symm
    have m222 := (ei10).trans (fI_kept (x_lt hT kH175 giq (by decide))).symm
    have m223 := (ek13).trans (fI_kept (x_lt hT kH175 gkq (by decide))).symm
    have m224 := (ei13).trans (fI_kept (x_lt hT kH175 giq (by decide))).symm
    have m225 := (ek16).trans (fI_kept (x_lt hT kH175 gkq (by decide))).symm
    have m226 := (ei16).trans (fI_kept (x_lt hT kH175 giq (by decide))).symm
    have m227 := (edn).trans (fR_kept (x_lt hT kH175 gkq (by decide))).symm
    have m228 := (edl).trans (fR_kept (x_lt hT kH175 gkq (by decide))).symm
    have m229 := (edk).trans (fR_kept (x_lt hT kH175 gkq (by decide))).symm
    refine W.eq (g2 := F0 m 1495 ls [.int x176]) rfl ?_
    clear eck ecl ecn edk edl edn ehi ei1 ei10 ei13 ei16 ei4 ei5 eiq ek1 ek10 ek13 ek16 ek4 ek5 es1 es10 es13 es16 es4 es5 eta etb ew exk exl exn ey1 ey10 ey13 ey16 ey4 ey5 f0ck f0cl f0cn f0dk f0dl f0dn f0i f0xk f0xl f0xn kn
    refine lv_pop hx hb dL_law_1495 rfl ?_
    refine lv_aload_n hx hb dL_law_1496 rfl (lv_at hl 1 rfl) ?_
    refine lv_aload_n hx hb dL_law_1497 rfl (lv_at hl 3 rfl) ?_
    refine lv_iload_n hx hb dL_law_1498 rfl (lv_at hl 0 rfl) ?_
    refine lv_iconst (v := 1) hx hb dL_law_1499 (by decide) ?_
    refine lv_iadd hx hb dL_law_1500 ?_
    refine lv_topi (fun x230 ex230 => ?_)
    obtain ⟨tx230, ejx230, evx230⟩ := lw_ix (k := 1) ex230 hI hL rfl (by decide)
    clear tx230
    refine va_sld hx hb hX hbl (Nat.not_le.mpr hbl) hSH175 (vp_in_iff.mpr evx230) dL_law_1501 ?_
    refine W.eq (g2 := F0 m 1502 ls [.int (xs (i.toNatClampNeg + 1)), .ref b]) (congrArg (fun z => F0 m 1502 ls [.int (xs z), .ref b]) ejx230) ?_
    refine x_V (As := [.int (xs (i.toNatClampNeg + 1))]) (rest := []) C (a_X10_look l K G H175 ((xs (i.toNatClampNeg + 1))) hTH175 gb g177 g178 g179 g180) yo_X10_look wM_L_161 ⟨⟨by decide, by decide⟩, show _ ≤ 284929 from Nat.le_trans hc (by decide), show _ ≤ 8247460 from Nat.le_trans hs (by decide)⟩ (x_rv C hTH175 (ci := 10) rfl gb rg_112) rfl hl.1 rfl (Nat.le_of_ble_eq_true rfl) dL_law_1502 hSH175 (AE_new hN hSH175.1) (fun vH231 H231 locsH231 pH231 zH231 kH231 hSH231 => ?_)
    obtain ⟨x232, hvH231, g233, g234, g235, g236, mf237, hTH231⟩ := pH231
    subst hvH231
    have f238 : ∀ j : Nat, j < 8 → fI H231 cn j = fI H cn j := fun j hj => (fI_kept (x_lt hTH175 kH231 gcn (by decide))).trans (f181 j hj)
    have f239 : ∀ j : Nat, j < 8 → fI H231 xn j = fI H xn j := fun j hj => (fI_kept (x_lt hTH175 kH231 gxn (by decide))).trans (f182 j hj)
    have f240 : ∀ j : Nat, j < 8 → fI H231 cl j = fI H cl j := fun j hj => (fI_kept (x_lt hTH175 kH231 gcl (by decide))).trans (f183 j hj)
    have f241 : ∀ j : Nat, j < 8 → fI H231 xl j = fI H xl j := fun j hj => (fI_kept (x_lt hTH175 kH231 gxl (by decide))).trans (f184 j hj)
    have f242 : ∀ j : Nat, j < 8 → fI H231 ck j = fI H ck j := fun j hj => (fI_kept (x_lt hTH175 kH231 gck (by decide))).trans (f185 j hj)
    have f243 : ∀ j : Nat, j < 8 → fI H231 xk j = fI H xk j := fun j hj => (fI_kept (x_lt hTH175 kH231 gxk (by decide))).trans (f186 j hj)
    have f244 : ∀ j : Nat, j < 8 → fI H231 dn j = fI H dn j := fun j hj => (fI_kept (x_lt hTH175 kH231 gdn (by decide))).trans (f187 j hj)
    have f245 : ∀ j : Nat, j < 8 → fI H231 dl j = fI H dl j := fun j hj => (fI_kept (x_lt hTH175 kH231 gdl (by decide))).trans (f188 j hj)
    have f246 : ∀ j : Nat, j < 8 → fI H231 dk j = fI H dk j := fun j hj => (fI_kept (x_lt hTH175 kH231 gdk (by decide))).trans (f189 j hj)
    have f247 : ∀ j : Nat, fI H231 iq j = fI H iq j := fun j => (fI_kept (x_lt hTH175 kH231 giq (by decide))).trans (f190 j)
    have m248 := (m191).trans (fR_kept (x_lt hTH175 kH231 ga (by decide))).symm
    have m249 := (m192).trans (fI_kept (x_lt hTH175 kH231 ga (by decide))).symm
    have m250 := (m194).trans (fI_kept (x_lt hTH175 kH231 gw (by decide))).symm
    have m251 := (m196).trans (fI_kept (x_lt hTH175 kH231 gw (by decide))).symm
    have m252 := (m198).trans (fI_kept (x_lt hTH175 kH231 gw (by decide))).symm
    have m253 := (m200).trans (fI_kept (x_lt hTH175 kH231 gw (by decide))).symm
    have m254 := (m202).trans (fI_kept (x_lt hTH175 kH231 gw (by decide))).symm
    have m255 := (m204).trans (fI_kept (x_lt hTH175 kH231 gw (by decide))).symm
    have m256 := (m206).trans (fR_kept (x_lt hTH175 kH231 gw (by decide))).symm
    have m257 := (m208).trans (fR_kept (x_lt hTH175 kH231 gw (by decide))).symm
    have m258 := (m210).trans (fR_kept (x_lt hTH175 kH231 gw (by decide))).symm
    have m259 := (fV_kept (x_lt hTH175 kH231 ga (by decide))).trans m213
    have m260 := (m215).trans (fI_kept (x_lt hTH175 kH231 gkq (by decide))).symm
    have m261 := (m216).trans (fI_kept (x_lt hTH175 kH231 giq (by decide))).symm
    have m262 := (m217).trans (fI_kept (x_lt hTH175 kH231 gkq (by decide))).symm
    have m263 := (m218).trans (fI_kept (x_lt hTH175 kH231 giq (by decide))).symm
    have m264 := (m219).trans (fI_kept (x_lt hTH175 kH231 gkq (by decide))).symm
    have m265 := (m220).trans (fI_kept (x_lt hTH175 kH231 giq (by decide))).symm
    have m266 := (m221).trans (fI_kept (x_lt hTH175 kH231 gkq (by decide))).symm
    have m267 := (m222).trans (fI_kept (x_lt hTH175 kH231 giq (by decide))).symm
    have m268 := (m223).trans (fI_kept (x_lt hTH175 kH231 gkq (by decide))).symm
    have m269 := (m224).trans (fI_kept (x_lt hTH175 kH231 giq (by decide))).symm
    have m270 := (m225).trans (fI_kept (x_lt hTH175 kH231 gkq (by decide))).symm
    have m271 := (m226).trans (fI_kept (x_lt hTH175 kH231 giq (by decide))).symm
    have m272 := (m227).trans (fR_kept (x_lt hTH175 kH231 gkq (by decide))).symm
    have m273 := (m228).trans (fR_kept (x_lt hTH175 kH231 gkq (by decide))).symm
    have m274 := (m229).trans (fR_kept (x_lt hTH175 kH231 gkq (by decide))).symm
    have m275 := (m193).trans (MF.i mf237 (k := 18) (by decide) (by decide)).symm
    have m276 := (m195).trans (MF.i mf237 (k := 1) (by decide) (by decide)).symm
    have m277 := (m197).trans (MF.i mf237 (k := 2) (by decide) (by decide)).symm
    have m278 := (m199).trans (MF.i mf237 (k := 3) (by decide) (by decide)).symm
    have m279 := (m201).trans (MF.i mf237 (k := 59) (by decide) (by decide)).symm
    have m280 := (m203).trans (MF.i mf237 (k := 62) (by decide) (by decide)).symm
    have m281 := (m205).trans (MF.i mf237 (k := 65) (by decide) (by decide)).symm
    have m282 := (m207).trans (MF.r mf237 (k := 64) (by decide) (by decide)).symm
    have m283 := (m209).trans (MF.r mf237 (k := 66) (by decide) (by decide)).symm
    have m284 := (m211).trans (MF.r mf237 (k := 67) (by decide) (by decide)).symm
    have m285 := (m212).trans (MF.i mf237 (k := 70) (by decide) (by decide)).symm
    have m286 := (m214).trans (MF.r mf237 (k := 73) (by decide) (by decide)).symm
    refine W.eq (g2 := F0 m 1505 ls [.int x232]) rfl ?_
    clear f181 f182 f183 f184 f185 f186 f187 f188 f189 f190 m191 m192 m193 m194 m195 m196 m197 m198 m199 m200 m201 m202 m203 m204 m205 m206 m207 m208 m209 m210 m211 m212 m213 m214 m215 m216 m217 m218 m219 m220 m221 m222 m223 m224 m225 m226 m227 m228 m229
    refine lv_pop hx hb dL_law_1505 rfl ?_
    refine lv_goto (tgt := 1509) hx hb dL_law_1506 (by decide) ?_
    exact nx G H231 locsH231 _ _ ls ⟨hTH231, hN, ga, gb, g233, g234, g235, g236, ⟨(by rw [← m249, ← m275]; exact rt), (by rw [← m248, ← m250, ← m276]; exact r1), (by rw [← m248, ← m251, ← m277]; exact r4), (by rw [← m248, ← m252, ← m278]; exact r5), (by rw [← m248, ← m253, ← m279]; exact r10), (by rw [← m248, ← m254, ← m280]; exact r13), (by rw [← m248, ← m255, ← m281]; exact r16)⟩, Or.inr ⟨kq, m259, gkq, (by rw [← m285]; exact h70), (by rw [← m260, ← m286, ← m261]; exact q1), (by rw [← m262, ← m286, ← m263]; exact q4), (by rw [← m264, ← m286, ← m265]; exact q5), (by rw [← m266, ← m286, ← m267]; exact q10), (by rw [← m268, ← m286, ← m269]; exact q13), (by rw [← m270, ← m286, ← m271]; exact q16), (by rw [← m272, ← m286, ← m268]; exact EQR.of hsn (fun j hj => f244 j (by omega)) (fun j hj => f247 _) (by omega)), (by rw [← m273, ← m286, ← m270]; exact EQR.of hsl (fun j hj => f245 j (by omega)) (fun j hj => f247 _) (by omega)), (by rw [← m274, ← m286, ← m270]; exact EQR.of hsk (fun j hj => f246 j (by omega)) (fun j hj => f247 _) (by omega))⟩, ⟨(by rw [← m248, ← m256, ← m282, ← m280]; exact EQR.of hrn (fun j hj => f238 j (by omega)) (fun j hj => f239 j (by omega)) (by omega)), (by rw [← m248, ← m257, ← m283, ← m281]; exact EQR.of hrl (fun j hj => f240 j (by omega)) (fun j hj => f241 j (by omega)) (by omega)), (by rw [← m248, ← m258, ← m284, ← m281]; exact EQR.of hrk (fun j hj => f242 j (by omega)) (fun j hj => f243 j (by omega)) (by omega))⟩, hSH231⟩ hl ⟨hc, hs, fun h => by have h1 := h.symm.trans m259; cases h1⟩