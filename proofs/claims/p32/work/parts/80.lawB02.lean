set_option maxRecDepth 100000 in
set_option maxHeartbeats 8000000 in
theorem lw_c6 {p : Program} {l : Launch} {e : Env} {s : State} {m : MethodId} {below : List Frame} {meth : Method} {c : Code} {K : KE} {b0 L : Nat} {xs : Nat → Int32} {G : Nat → Option Nat} {H : Heap} {locs : List Loc} {a b : Nat} {cells slots : Nat} {ls : Array Slot} {i : Int32} {n : Nat} (D : LC p K s m meth c b0 L xs) (S : SX K s G H locs a b) (hl : lv_has ls 4 [(3, .int i), (2, .ref b), (1, .ref a), (0, .ref b0)]) (hi : 0 ≤ i.toInt ∧ i.toInt + 6 ≤ L) (hn : n ≤ 511) (hB : BD K H a cells slots) (nx : ∀ (G : Nat → Option Nat) (H : Heap) (locs : List Loc) (cells slots : Nat) (ls : Array Slot), SX K s G H locs a b → lv_has ls 4 [(3, .int i), (2, .ref b), (1, .ref a), (0, .ref b0)] → BD K H a cells slots → W p l e room_1 s m #[Value.ref b0] below meth c H locs cells slots (lw_Z below #[Value.ref b0] s) (F0 m 1509 ls [])) : W p l e room_1 s m #[Value.ref b0] below meth c H locs cells slots (lw_Z below #[Value.ref b0] s) (F0 m 446 ls []) := by
  have hI := hi
  obtain ⟨C, hX, hbl, hL⟩ := id D
  obtain ⟨hx, hb, hml, hown, hts, hKT, hr, hlocks, hnm⟩ := id C
  obtain ⟨hT, hN, ga, gb, cg, tu, wd, im, ⟨rt, r1, r4, r5, r10, r13, r16⟩, hk, hnb, hS⟩ := S
  obtain ⟨hc, hs, hB0⟩ := hB
  have n_0 : (0 : Int32).toInt = 0 := rfl
  have n_1 : (1 : Int32).toInt = 1 := rfl
  have n_2 : (2 : Int32).toInt = 2 := rfl
  obtain ⟨w, ew⟩ : ∃ z : Nat, z = fR H a (K.1.2 9 0) := ⟨_, rfl⟩
  have gw := ty_fr (q := w) (k := 0) (u := 0) ew hT ga rg_68 rfl
  rw [← ew] at r1 r4 r5 r10 r13 r16
  obtain ⟨ta, eta⟩ : ∃ z : Int32, z = fI H a (K.1.2 9 3) := ⟨_, rfl⟩
  rw [← eta] at rt
  obtain ⟨tb, etb⟩ : ∃ z : Int32, z = fI H b (K.1.2 10 18) := ⟨_, rfl⟩
  rw [← etb] at rt
  obtain ⟨s1, es1⟩ : ∃ z : Int32, z = fI H w (K.1.2 8 1) := ⟨_, rfl⟩
  rw [← es1] at r1
  obtain ⟨y1, ey1⟩ : ∃ z : Int32, z = fI H b (K.1.2 10 1) := ⟨_, rfl⟩
  rw [← ey1] at r1
  obtain ⟨s4, es4⟩ : ∃ z : Int32, z = fI H w (K.1.2 8 4) := ⟨_, rfl⟩
  rw [← es4] at r4
  obtain ⟨y4, ey4⟩ : ∃ z : Int32, z = fI H b (K.1.2 10 2) := ⟨_, rfl⟩
  rw [← ey4] at r4
  obtain ⟨s5, es5⟩ : ∃ z : Int32, z = fI H w (K.1.2 8 5) := ⟨_, rfl⟩
  rw [← es5] at r5
  obtain ⟨y5, ey5⟩ : ∃ z : Int32, z = fI H b (K.1.2 10 3) := ⟨_, rfl⟩
  rw [← ey5] at r5
  obtain ⟨s10, es10⟩ : ∃ z : Int32, z = fI H w (K.1.2 8 10) := ⟨_, rfl⟩
  rw [← es10] at r10
  obtain ⟨y10, ey10⟩ : ∃ z : Int32, z = fI H b (K.1.2 10 59) := ⟨_, rfl⟩
  rw [← ey10] at r10
  obtain ⟨s13, es13⟩ : ∃ z : Int32, z = fI H w (K.1.2 8 13) := ⟨_, rfl⟩
  rw [← es13] at r13
  obtain ⟨y13, ey13⟩ : ∃ z : Int32, z = fI H b (K.1.2 10 62) := ⟨_, rfl⟩
  rw [← ey13] at r13
  obtain ⟨s16, es16⟩ : ∃ z : Int32, z = fI H w (K.1.2 8 16) := ⟨_, rfl⟩
  rw [← es16] at r16
  obtain ⟨y16, ey16⟩ : ∃ z : Int32, z = fI H b (K.1.2 10 65) := ⟨_, rfl⟩
  rw [← ey16] at r16
  obtain ⟨hb1, hb2, hb3⟩ := hnb
  obtain ⟨cn, ecn⟩ : ∃ z : Nat, z = fR H w (K.1.2 8 12) := ⟨_, rfl⟩
  have gcn := ty_fr (q := cn) (k := 12) (u := 31) ecn hT gw rg_0 rfl
  obtain ⟨xn, exn⟩ : ∃ z : Nat, z = fR H b (K.1.2 10 64) := ⟨_, rfl⟩
  have gxn := ty_fr (q := xn) (k := 64) (u := 157) exn hT gb rg_112 rfl
  obtain ⟨cl, ecl⟩ : ∃ z : Nat, z = fR H w (K.1.2 8 14) := ⟨_, rfl⟩
  have gcl := ty_fr (q := cl) (k := 14) (u := 32) ecl hT gw rg_0 rfl
  obtain ⟨xl, exl⟩ : ∃ z : Nat, z = fR H b (K.1.2 10 66) := ⟨_, rfl⟩
  have gxl := ty_fr (q := xl) (k := 66) (u := 158) exl hT gb rg_112 rfl
  obtain ⟨ck, eck⟩ : ∃ z : Nat, z = fR H w (K.1.2 8 15) := ⟨_, rfl⟩
  have gck := ty_fr (q := ck) (k := 15) (u := 33) eck hT gw rg_0 rfl
  obtain ⟨xk, exk⟩ : ∃ z : Nat, z = fR H b (K.1.2 10 67) := ⟨_, rfl⟩
  have gxk := ty_fr (q := xk) (k := 67) (u := 159) exk hT gb rg_112 rfl
  have hrn : EQR (fun j => fI H cn j) (fun j => fI H xn j) y13.toInt := by rw [ecn, exn, ew, ey13]; exact hb1
  have hrl : EQR (fun j => fI H cl j) (fun j => fI H xl j) y16.toInt := by rw [ecl, exl, ew, ey16]; exact hb2
  have hrk : EQR (fun j => fI H ck j) (fun j => fI H xk j) y16.toInt := by rw [eck, exk, ew, ey16]; exact hb3
  have by13 := ty_fi (x := y13) (k := 62) ey13 hT gb rg_112 rfl
  have by16 := ty_fi (x := y16) (k := 65) ey16 hT gb rg_112 rfl
  have f0cn : ∀ j : Nat, j < 8 → fI H cn j = fI H cn j := fun _ _ => rfl
  have f0xn : ∀ j : Nat, j < 8 → fI H xn j = fI H xn j := fun _ _ => rfl
  have f0cl : ∀ j : Nat, j < 8 → fI H cl j = fI H cl j := fun _ _ => rfl
  have f0xl : ∀ j : Nat, j < 8 → fI H xl j = fI H xl j := fun _ _ => rfl
  have f0ck : ∀ j : Nat, j < 8 → fI H ck j = fI H ck j := fun _ _ => rfl
  have f0xk : ∀ j : Nat, j < 8 → fI H xk j = fI H xk j := fun _ _ => rfl
  rcases hk with ⟨kn, h70⟩ | ⟨kq, kn, gkq, h70, q1, q4, q5, q10, q13, q16, hq1, hq2, hq3⟩
  · skip
    obtain ⟨hi, ehi⟩ : ∃ z : Int32, z = fI H b (K.1.2 10 70) := ⟨_, rfl⟩
    rw [← ehi] at h70
    obtain ⟨hc0, hs0⟩ := hB0 kn
    refine lv_aload_n hx hb dL_law_446 rfl (lv_at hl 2 rfl) ?_
    refine lv_aload_n hx hb dL_law_447 rfl (lv_at hl 3 rfl) ?_
    refine lv_iload_n hx hb dL_law_448 rfl (lv_at hl 0 rfl) ?_
    refine lv_iconst (v := 1) hx hb dL_law_449 (by decide) ?_
    refine lv_iadd hx hb dL_law_450 ?_
    refine lv_topi (fun x101 ex101 => ?_)
    obtain ⟨tx101, ejx101, evx101⟩ := lw_ix (k := 1) ex101 hI hL rfl (by decide)
    clear tx101
    refine va_sld hx hb hX hbl (Nat.not_le.mpr hbl) hS (vp_in_iff.mpr evx101) dL_law_451 ?_
    refine W.eq (g2 := F0 m 452 ls [.int (xs (i.toNatClampNeg + 1)), .ref a]) (congrArg (fun z => F0 m 452 ls [.int (xs z), .ref a]) ejx101) ?_
    refine lv_aload_n hx hb dL_law_452 rfl (lv_at hl 3 rfl) ?_
    refine lv_iload_n hx hb dL_law_453 rfl (lv_at hl 0 rfl) ?_
    refine lv_iconst (v := 2) hx hb dL_law_454 (by decide) ?_
    refine lv_iadd hx hb dL_law_455 ?_
    refine lv_topi (fun x102 ex102 => ?_)
    obtain ⟨tx102, ejx102, evx102⟩ := lw_ix (k := 2) ex102 hI hL rfl (by decide)
    clear tx102
    refine va_sld hx hb hX hbl (Nat.not_le.mpr hbl) hS (vp_in_iff.mpr evx102) dL_law_456 ?_
    refine W.eq (g2 := F0 m 457 ls [.int (xs (i.toNatClampNeg + 2)), .int (xs (i.toNatClampNeg + 1)), .ref a]) (congrArg (fun z => F0 m 457 ls [.int (xs z), .int (xs (i.toNatClampNeg + 1)), .ref a]) ejx102) ?_
    refine x_V (As := [.int (xs (i.toNatClampNeg + 1)), .int (xs (i.toNatClampNeg + 2))]) (rest := []) C (a_X9_text_r l K G H (xs (i.toNatClampNeg + 1)) (xs (i.toNatClampNeg + 2)) (s1) (s4) (s5) (s10) (s13) (s16) hT ga gw ew es1 es4 es5 es10 es13 es16 gcn ecn gcl ecl gck eck kn) yo_X9_text wM_L_43 ⟨⟨by decide, by decide⟩, show _ ≤ 284929 from Nat.le_trans hc (by decide), show _ ≤ 8247460 from Nat.le_trans hs (by decide)⟩ (x_rv C hT (ci := 9) rfl ga rg_68) rfl hl.1 rfl (Nat.le_of_ble_eq_true rfl) dL_law_457 hS (AE_new hN hS.1) (fun vH103 H103 locsH103 pH103 zH103 kH103 hSH103 => ?_)
    obtain ⟨x104, hvH103, m105, m106, m107, m108, m109, m110, m111, m112, m113, m114, m115, m116, hTH103⟩ := pH103
    subst hvH103
    have g117 : CG (avw K H103 b) := CG.congr (fun k hk j => av_eff hT kH103 gb (by decide) (CG_eff [68, 0, 78, 79, 80, 81, 69, 70, 71, 72, 73, 74, 75, 76, 77, 16, 17, 18, 19, 20, 21, 22, 23, 24] (by decide) k hk)) cg
    have g118 : TU (avw K H103 b) (svw K H103 b) := TU.congr (fun k hk j => av_eff hT kH103 gb (by decide) (TU_eff [68, 0, 78, 79, 80, 81, 69, 70, 71, 72, 73, 74, 75, 76, 77, 16, 17, 18, 19, 20, 21, 22, 23, 24] (by decide) k hk)) (fun k hk => sv_eff hT kH103 gb (by decide)) tu
    have g119 : WD (avw K H103 b) := WD.congr (fun k hk j => av_eff hT kH103 gb (by decide) (WD_eff [68, 0, 78, 79, 80, 81, 69, 70, 71, 72, 73, 74, 75, 76, 77, 16, 17, 18, 19, 20, 21, 22, 23, 24] (by decide) k hk)) wd
    have g120 : IM (avw K H103 b) := IM.congr (fun k hk j => av_eff hT kH103 gb (by decide) (IM_eff [68, 0, 78, 79, 80, 81, 69, 70, 71, 72, 73, 74, 75, 76, 77, 16, 17, 18, 19, 20, 21, 22, 23, 24] (by decide) k hk)) im
    have f121 : ∀ j : Nat, j < 8 → fI H103 cn j = fI H cn j := fun j hj => (fI_kept (x_lt hT kH103 gcn (by decide))).trans (f0cn j hj)
    have f122 : ∀ j : Nat, j < 8 → fI H103 xn j = fI H xn j := fun j hj => (fI_kept (x_lt hT kH103 gxn (by decide))).trans (f0xn j hj)
    have f123 : ∀ j : Nat, j < 8 → fI H103 cl j = fI H cl j := fun j hj => (fI_kept (x_lt hT kH103 gcl (by decide))).trans (f0cl j hj)
    have f124 : ∀ j : Nat, j < 8 → fI H103 xl j = fI H xl j := fun j hj => (fI_kept (x_lt hT kH103 gxl (by decide))).trans (f0xl j hj)
    have f125 : ∀ j : Nat, j < 8 → fI H103 ck j = fI H ck j := fun j hj => (fI_kept (x_lt hT kH103 gck (by decide))).trans (f0ck j hj)
    have f126 : ∀ j : Nat, j < 8 → fI H103 xk j = fI H xk j := fun j hj => (fI_kept (x_lt hT kH103 gxk (by decide))).trans (f0xk j hj)
    have m127 := (etb).trans (fI_kept (x_lt hT kH103 gb (by decide))).symm
    have m128 := (ey1).trans (fI_kept (x_lt hT kH103 gb (by decide))).symm
    have m129 := (ey4).trans (fI_kept (x_lt hT kH103 gb (by decide))).symm
    have m130 := (ey5).trans (fI_kept (x_lt hT kH103 gb (by decide))).symm
    have m131 := (ey10).trans (fI_kept (x_lt hT kH103 gb (by decide))).symm
    have m132 := (ey13).trans (fI_kept (x_lt hT kH103 gb (by decide))).symm
    have m133 := (ey16).trans (fI_kept (x_lt hT kH103 gb (by decide))).symm
    have m134 := (exn).trans (fR_kept (x_lt hT kH103 gb (by decide))).symm
    have m135 := (exl).trans (fR_kept (x_lt hT kH103 gb (by decide))).symm
    have m136 := (exk).trans (fR_kept (x_lt hT kH103 gb (by decide))).symm
    have m137 := (ehi).trans (fI_kept (x_lt hT kH103 gb (by decide))).symm
    refine W.eq (g2 := F0 m 460 ls [.int x104]) rfl ?_
    clear eck ecl ecn ehi es1 es10 es13 es16 es4 es5 eta etb ew exk exl exn ey1 ey10 ey13 ey16 ey4 ey5 f0ck f0cl f0cn f0xk f0xl f0xn kn
    refine lv_pop hx hb dL_law_460 rfl ?_
    refine lv_aload_n hx hb dL_law_461 rfl (lv_at hl 1 rfl) ?_
    refine lv_aload_n hx hb dL_law_462 rfl (lv_at hl 3 rfl) ?_
    refine lv_iload_n hx hb dL_law_463 rfl (lv_at hl 0 rfl) ?_
    refine lv_iconst (v := 1) hx hb dL_law_464 (by decide) ?_
    refine lv_iadd hx hb dL_law_465 ?_
    refine lv_topi (fun x138 ex138 => ?_)
    obtain ⟨tx138, ejx138, evx138⟩ := lw_ix (k := 1) ex138 hI hL rfl (by decide)
    clear tx138
    refine va_sld hx hb hX hbl (Nat.not_le.mpr hbl) hSH103 (vp_in_iff.mpr evx138) dL_law_466 ?_
    refine W.eq (g2 := F0 m 467 ls [.int (xs (i.toNatClampNeg + 1)), .ref b]) (congrArg (fun z => F0 m 467 ls [.int (xs z), .ref b]) ejx138) ?_
    refine lv_aload_n hx hb dL_law_467 rfl (lv_at hl 3 rfl) ?_
    refine lv_iload_n hx hb dL_law_468 rfl (lv_at hl 0 rfl) ?_
    refine lv_iconst (v := 2) hx hb dL_law_469 (by decide) ?_
    refine lv_iadd hx hb dL_law_470 ?_
    refine lv_topi (fun x139 ex139 => ?_)
    obtain ⟨tx139, ejx139, evx139⟩ := lw_ix (k := 2) ex139 hI hL rfl (by decide)
    clear tx139
    refine va_sld hx hb hX hbl (Nat.not_le.mpr hbl) hSH103 (vp_in_iff.mpr evx139) dL_law_471 ?_
    refine W.eq (g2 := F0 m 472 ls [.int (xs (i.toNatClampNeg + 2)), .int (xs (i.toNatClampNeg + 1)), .ref b]) (congrArg (fun z => F0 m 472 ls [.int (xs z), .int (xs (i.toNatClampNeg + 1)), .ref b]) ejx139) ?_
    obtain ⟨q140, eq140⟩ : ∃ z : Nat, z = fR H103 b (K.1.2 10 32) := ⟨_, rfl⟩
    have gq140 := ty_fr (q := q140) (k := 32) (u := 136) eq140 hTH103 gb rg_112 rfl
    obtain ⟨q141, eq141⟩ : ∃ z : Nat, z = fR H103 b (K.1.2 10 33) := ⟨_, rfl⟩
    have gq141 := ty_fr (q := q141) (k := 33) (u := 137) eq141 hTH103 gb rg_112 rfl
    obtain ⟨q142, eq142⟩ : ∃ z : Nat, z = fR H103 b (K.1.2 10 29) := ⟨_, rfl⟩
    have gq142 := ty_fr (q := q142) (k := 29) (u := 133) eq142 hTH103 gb rg_112 rfl
    obtain ⟨q143, eq143⟩ : ∃ z : Nat, z = fR H103 b (K.1.2 10 30) := ⟨_, rfl⟩
    have gq143 := ty_fr (q := q143) (k := 30) (u := 134) eq143 hTH103 gb rg_112 rfl
    obtain ⟨q144, eq144⟩ : ∃ z : Nat, z = fR H103 b (K.1.2 10 31) := ⟨_, rfl⟩
    have gq144 := ty_fr (q := q144) (k := 31) (u := 135) eq144 hTH103 gb rg_112 rfl
    obtain ⟨q145, eq145⟩ : ∃ z : Nat, z = fR H103 b (K.1.2 10 24) := ⟨_, rfl⟩
    have gq145 := ty_fr (q := q145) (k := 24) (u := 128) eq145 hTH103 gb rg_112 rfl
    obtain ⟨x146, ex146⟩ : ∃ z : Int32, z = fI H103 b (K.1.2 10 35) := ⟨_, rfl⟩
    have bx146 := ty_fi (x := x146) (k := 35) ex146 hTH103 gb rg_112 rfl
    refine x_V (As := [.int (xs (i.toNatClampNeg + 1)), .int (xs (i.toNatClampNeg + 2))]) (rest := []) C (a_X10_text l K G H103 ((xs (i.toNatClampNeg + 1))) ((xs (i.toNatClampNeg + 2))) (x146) (tb) hTH103 gb gq140 eq140 gq141 eq141 gq142 eq142 gq143 eq143 gq144 eq144 gq145 eq145 ex146 m127 g117 g118 g119 g120) yo_X10_text wM_L_47 ⟨⟨by decide, by decide⟩, show _ ≤ 284929 from Nat.le_trans hc (by decide), show _ ≤ 8247460 from Nat.le_trans hs (by decide)⟩ (x_rv C hTH103 (ci := 10) rfl gb rg_112) rfl hl.1 rfl (Nat.le_of_ble_eq_true rfl) dL_law_472 hSH103 (AE_new hN hSH103.1) (fun vH147 H147 locsH147 pH147 zH147 kH147 hSH147 => ?_)
    obtain ⟨x148, x149, x150, hvH147, ex149, ex150, hrH147, m151, m152, m153, m154, m155, m156, g157, g158, g159, g160, mf161, hTH147⟩ := pH147
    subst hvH147
    have f162 : ∀ j : Nat, j < 8 → fI H147 cn j = fI H cn j := fun j hj => (fI_kept (x_lt hTH103 kH147 gcn (by decide))).trans (f121 j hj)
    have f163 : ∀ j : Nat, j < 8 → fI H147 xn j = fI H xn j := fun j hj => (fI_kept (x_lt hTH103 kH147 gxn (by decide))).trans (f122 j hj)
    have f164 : ∀ j : Nat, j < 8 → fI H147 cl j = fI H cl j := fun j hj => (fI_kept (x_lt hTH103 kH147 gcl (by decide))).trans (f123 j hj)
    have f165 : ∀ j : Nat, j < 8 → fI H147 xl j = fI H xl j := fun j hj => (fI_kept (x_lt hTH103 kH147 gxl (by decide))).trans (f124 j hj)
    have f166 : ∀ j : Nat, j < 8 → fI H147 ck j = fI H ck j := fun j hj => (fI_kept (x_lt hTH103 kH147 gck (by decide))).trans (f125 j hj)
    have f167 : ∀ j : Nat, j < 8 → fI H147 xk j = fI H xk j := fun j hj => (fI_kept (x_lt hTH103 kH147 gxk (by decide))).trans (f126 j hj)
    have m168 := (m105).trans (fR_kept (x_lt hTH103 kH147 ga (by decide))).symm
    have m169 := (m106).trans (fI_kept (x_lt hTH103 kH147 gw (by decide))).symm
    have m170 := (m107).trans (fI_kept (x_lt hTH103 kH147 gw (by decide))).symm
    have m171 := (m108).trans (fI_kept (x_lt hTH103 kH147 gw (by decide))).symm
    have m172 := (m109).trans (fI_kept (x_lt hTH103 kH147 gw (by decide))).symm
    have m173 := (m110).trans (fI_kept (x_lt hTH103 kH147 gw (by decide))).symm
    have m174 := (m111).trans (fI_kept (x_lt hTH103 kH147 gw (by decide))).symm
    have m175 := (fI_kept (x_lt hTH103 kH147 ga (by decide))).trans m112
    have m176 := (fV_kept (x_lt hTH103 kH147 ga (by decide))).trans m113
    have m177 := (m114).trans (fR_kept (x_lt hTH103 kH147 gw (by decide))).symm
    have m178 := (m115).trans (fR_kept (x_lt hTH103 kH147 gw (by decide))).symm
    have m179 := (m116).trans (fR_kept (x_lt hTH103 kH147 gw (by decide))).symm
    have m180 := (m128).trans (MF.i mf161 (k := 1) (by decide) (by decide)).symm
    have m181 := (m129).trans (MF.i mf161 (k := 2) (by decide) (by decide)).symm
    have m182 := (m130).trans (MF.i mf161 (k := 3) (by decide) (by decide)).symm
    have m183 := (m131).trans (MF.i mf161 (k := 59) (by decide) (by decide)).symm
    have m184 := (m132).trans (MF.i mf161 (k := 62) (by decide) (by decide)).symm
    have m185 := (m133).trans (MF.i mf161 (k := 65) (by decide) (by decide)).symm
    have m186 := (m134).trans (MF.r mf161 (k := 64) (by decide) (by decide)).symm
    have m187 := (m135).trans (MF.r mf161 (k := 66) (by decide) (by decide)).symm
    have m188 := (m136).trans (MF.r mf161 (k := 67) (by decide) (by decide)).symm
    have m189 := (m137).trans (MF.i mf161 (k := 70) (by decide) (by decide)).symm
    have m190 := (eq140).trans (MF.r mf161 (k := 32) (by decide) (by decide)).symm
    have m191 := (eq141).trans (MF.r mf161 (k := 33) (by decide) (by decide)).symm
    have m192 := (eq142).trans (MF.r mf161 (k := 29) (by decide) (by decide)).symm
    have m193 := (eq143).trans (MF.r mf161 (k := 30) (by decide) (by decide)).symm
    have m194 := (eq144).trans (MF.r mf161 (k := 31) (by decide) (by decide)).symm
    have m195 := (eq145).trans (MF.r mf161 (k := 24) (by decide) (by decide)).symm
    have bx149 := ty_fi (x := x149) (k := 35) ex149 hTH147 gb rg_112 rfl
    have bx150 := ty_fi (x := x150) (k := 18) ex150 hTH147 gb rg_112 rfl
    refine W.eq (g2 := F0 m 475 ls [.int x148]) rfl ?_
    clear f121 f122 f123 f124 f125 f126 m105 m106 m107 m108 m109 m110 m111 m112 m113 m114 m115 m116 m127 m128 m129 m130 m131 m132 m133 m134 m135 m136 m137
    refine lv_pop hx hb dL_law_475 rfl ?_
    refine lv_goto (tgt := 1509) hx hb dL_law_476 (by decide) ?_
    exact nx G H147 locsH147 _ _ ls ⟨hTH147, hN, ga, gb, g157, g158, g159, g160, ⟨(by rw [m175, ← ex150]; omega), (by rw [← m168, ← m169, ← m180]; exact r1), (by rw [← m168, ← m170, ← m181]; exact r4), (by rw [← m168, ← m171, ← m182]; exact r5), (by rw [← m168, ← m172, ← m183]; exact r10), (by rw [← m168, ← m173, ← m184]; exact r13), (by rw [← m168, ← m174, ← m185]; exact r16)⟩, Or.inl ⟨m176, (by rw [← m189]; exact h70)⟩, ⟨(by rw [← m168, ← m177, ← m186, ← m184]; exact EQR.of hrn (fun j hj => f162 j (by omega)) (fun j hj => f163 j (by omega)) (by omega)), (by rw [← m168, ← m178, ← m187, ← m185]; exact EQR.of hrl (fun j hj => f164 j (by omega)) (fun j hj => f165 j (by omega)) (by omega)), (by rw [← m168, ← m179, ← m188, ← m185]; exact EQR.of hrk (fun j hj => f166 j (by omega)) (fun j hj => f167 j (by omega)) (by omega))⟩, hSH147⟩ hl ⟨hc, hs, fun _ => ⟨hc0, hs0⟩⟩
  · skip
    obtain ⟨hi, ehi⟩ : ∃ z : Int32, z = fI H b (K.1.2 10 70) := ⟨_, rfl⟩
    rw [← ehi] at h70
    obtain ⟨iq, eiq⟩ : ∃ z : Nat, z = fR H b (K.1.2 10 73) := ⟨_, rfl⟩
    have giq := ty_fr (q := iq) (k := 73) (u := 162) eiq hT gb rg_112 rfl
    rw [← eiq] at q1 q4 q5 q10 q13 q16
    obtain ⟨k1, ek1⟩ : ∃ z : Int32, z = fI H kq (K.1.2 8 1) := ⟨_, rfl⟩
    rw [← ek1] at q1
    obtain ⟨i1, ei1⟩ : ∃ z : Int32, z = fI H iq ((0 : Int32).toNatClampNeg) := ⟨_, rfl⟩
    rw [← ei1] at q1
    obtain ⟨k4, ek4⟩ : ∃ z : Int32, z = fI H kq (K.1.2 8 4) := ⟨_, rfl⟩
    rw [← ek4] at q4
    obtain ⟨i4, ei4⟩ : ∃ z : Int32, z = fI H iq ((1 : Int32).toNatClampNeg) := ⟨_, rfl⟩
    rw [← ei4] at q4
    obtain ⟨k5, ek5⟩ : ∃ z : Int32, z = fI H kq (K.1.2 8 5) := ⟨_, rfl⟩
    rw [← ek5] at q5
    obtain ⟨i5, ei5⟩ : ∃ z : Int32, z = fI H iq ((2 : Int32).toNatClampNeg) := ⟨_, rfl⟩
    rw [← ei5] at q5
    obtain ⟨k10, ek10⟩ : ∃ z : Int32, z = fI H kq (K.1.2 8 10) := ⟨_, rfl⟩
    rw [← ek10] at q10
    obtain ⟨i10, ei10⟩ : ∃ z : Int32, z = fI H iq ((3 : Int32).toNatClampNeg) := ⟨_, rfl⟩
    rw [← ei10] at q10
    obtain ⟨k13, ek13⟩ : ∃ z : Int32, z = fI H kq (K.1.2 8 13) := ⟨_, rfl⟩
    rw [← ek13] at q13
    obtain ⟨i13, ei13⟩ : ∃ z : Int32, z = fI H iq ((4 : Int32).toNatClampNeg) := ⟨_, rfl⟩
    rw [← ei13] at q13
    obtain ⟨k16, ek16⟩ : ∃ z : Int32, z = fI H kq (K.1.2 8 16) := ⟨_, rfl⟩
    rw [← ek16] at q16
    obtain ⟨i16, ei16⟩ : ∃ z : Int32, z = fI H iq ((5 : Int32).toNatClampNeg) := ⟨_, rfl⟩
    rw [← ei16] at q16
    obtain ⟨dn, edn⟩ : ∃ z : Nat, z = fR H kq (K.1.2 8 12) := ⟨_, rfl⟩
    have gdn := ty_fr (q := dn) (k := 12) (u := 65) edn hT gkq rg_34 rfl
    obtain ⟨dl, edl⟩ : ∃ z : Nat, z = fR H kq (K.1.2 8 14) := ⟨_, rfl⟩
    have gdl := ty_fr (q := dl) (k := 14) (u := 66) edl hT gkq rg_34 rfl
    obtain ⟨dk, edk⟩ : ∃ z : Nat, z = fR H kq (K.1.2 8 15) := ⟨_, rfl⟩
    have gdk := ty_fr (q := dk) (k := 15) (u := 67) edk hT gkq rg_34 rfl
    have hsn : EQR (fun j => fI H dn j) (fun j => fI H iq (8877 + 4 * j)) k13.toInt := by rw [edn, eiq, ek13]; exact hq1
    have hsl : EQR (fun j => fI H dl j) (fun j => fI H iq (8878 + 4 * j)) k16.toInt := by rw [edl, eiq, ek16]; exact hq2
    have hsk : EQR (fun j => fI H dk j) (fun j => fI H iq (8879 + 4 * j)) k16.toInt := by rw [edk, eiq, ek16]; exact hq3
    have bk13 := ty_fi (x := k13) (k := 13) ek13 hT gkq rg_34 rfl
    have bk16 := ty_fi (x := k16) (k := 16) ek16 hT gkq rg_34 rfl
    have f0dn : ∀ j : Nat, j < 8 → fI H dn j = fI H dn j := fun _ _ => rfl
    have f0dl : ∀ j : Nat, j < 8 → fI H dl j = fI H dl j := fun _ _ => rfl
    have f0dk : ∀ j : Nat, j < 8 → fI H dk j = fI H dk j := fun _ _ => rfl
    have f0i : ∀ j : Nat, fI H iq j = fI H iq j := fun _ => rfl
    refine lv_aload_n hx hb dL_law_446 rfl (lv_at hl 2 rfl) ?_
    refine lv_aload_n hx hb dL_law_447 rfl (lv_at hl 3 rfl) ?_
    refine lv_iload_n hx hb dL_law_448 rfl (lv_at hl 0 rfl) ?_
    refine lv_iconst (v := 1) hx hb dL_law_449 (by decide) ?_
    refine lv_iadd hx hb dL_law_450 ?_
    refine lv_topi (fun x196 ex196 => ?_)
    obtain ⟨tx196, ejx196, evx196⟩ := lw_ix (k := 1) ex196 hI hL rfl (by decide)
    clear tx196
    refine va_sld hx hb hX hbl (Nat.not_le.mpr hbl) hS (vp_in_iff.mpr evx196) dL_law_451 ?_
    refine W.eq (g2 := F0 m 452 ls [.int (xs (i.toNatClampNeg + 1)), .ref a]) (congrArg (fun z => F0 m 452 ls [.int (xs z), .ref a]) ejx196) ?_
    refine lv_aload_n hx hb dL_law_452 rfl (lv_at hl 3 rfl) ?_
    refine lv_iload_n hx hb dL_law_453 rfl (lv_at hl 0 rfl) ?_
    refine lv_iconst (v := 2) hx hb dL_law_454 (by decide) ?_
    refine lv_iadd hx hb dL_law_455 ?_
    refine lv_topi (fun x197 ex197 => ?_)
    obtain ⟨tx197, ejx197, evx197⟩ := lw_ix (k := 2) ex197 hI hL rfl (by decide)
    clear tx197
    refine va_sld hx hb hX hbl (Nat.not_le.mpr hbl) hS (vp_in_iff.mpr evx197) dL_law_456 ?_
    refine W.eq (g2 := F0 m 457 ls [.int (xs (i.toNatClampNeg + 2)), .int (xs (i.toNatClampNeg + 1)), .ref a]) (congrArg (fun z => F0 m 457 ls [.int (xs z), .int (xs (i.toNatClampNeg + 1)), .ref a]) ejx197) ?_
    refine x_V (As := [.int (xs (i.toNatClampNeg + 1)), .int (xs (i.toNatClampNeg + 2))]) (rest := []) C (a_X9_text_r l K G H (xs (i.toNatClampNeg + 1)) (xs (i.toNatClampNeg + 2)) (s1) (s4) (s5) (s10) (s13) (s16) hT ga gw ew es1 es4 es5 es10 es13 es16 gcn ecn gcl ecl gck eck kn) yo_X9_text wM_L_43 ⟨⟨by decide, by decide⟩, show _ ≤ 284929 from Nat.le_trans hc (by decide), show _ ≤ 8247460 from Nat.le_trans hs (by decide)⟩ (x_rv C hT (ci := 9) rfl ga rg_68) rfl hl.1 rfl (Nat.le_of_ble_eq_true rfl) dL_law_457 hS (AE_new hN hS.1) (fun vH198 H198 locsH198 pH198 zH198 kH198 hSH198 => ?_)
    obtain ⟨x199, hvH198, m200, m201, m202, m203, m204, m205, m206, m207, m208, m209, m210, m211, hTH198⟩ := pH198
    subst hvH198
    have g212 : CG (avw K H198 b) := CG.congr (fun k hk j => av_eff hT kH198 gb (by decide) (CG_eff [68, 0, 78, 79, 80, 81, 69, 70, 71, 72, 73, 74, 75, 76, 77, 16, 17, 18, 19, 20, 21, 22, 23, 24] (by decide) k hk)) cg
    have g213 : TU (avw K H198 b) (svw K H198 b) := TU.congr (fun k hk j => av_eff hT kH198 gb (by decide) (TU_eff [68, 0, 78, 79, 80, 81, 69, 70, 71, 72, 73, 74, 75, 76, 77, 16, 17, 18, 19, 20, 21, 22, 23, 24] (by decide) k hk)) (fun k hk => sv_eff hT kH198 gb (by decide)) tu
    have g214 : WD (avw K H198 b) := WD.congr (fun k hk j => av_eff hT kH198 gb (by decide) (WD_eff [68, 0, 78, 79, 80, 81, 69, 70, 71, 72, 73, 74, 75, 76, 77, 16, 17, 18, 19, 20, 21, 22, 23, 24] (by decide) k hk)) wd
    have g215 : IM (avw K H198 b) := IM.congr (fun k hk j => av_eff hT kH198 gb (by decide) (IM_eff [68, 0, 78, 79, 80, 81, 69, 70, 71, 72, 73, 74, 75, 76, 77, 16, 17, 18, 19, 20, 21, 22, 23, 24] (by decide) k hk)) im
    have f216 : ∀ j : Nat, j < 8 → fI H198 cn j = fI H cn j := fun j hj => (fI_kept (x_lt hT kH198 gcn (by decide))).trans (f0cn j hj)
    have f217 : ∀ j : Nat, j < 8 → fI H198 xn j = fI H xn j := fun j hj => (fI_kept (x_lt hT kH198 gxn (by decide))).trans (f0xn j hj)
    have f218 : ∀ j : Nat, j < 8 → fI H198 cl j = fI H cl j := fun j hj => (fI_kept (x_lt hT kH198 gcl (by decide))).trans (f0cl j hj)
    have f219 : ∀ j : Nat, j < 8 → fI H198 xl j = fI H xl j := fun j hj => (fI_kept (x_lt hT kH198 gxl (by decide))).trans (f0xl j hj)
    have f220 : ∀ j : Nat, j < 8 → fI H198 ck j = fI H ck j := fun j hj => (fI_kept (x_lt hT kH198 gck (by decide))).trans (f0ck j hj)
    have f221 : ∀ j : Nat, j < 8 → fI H198 xk j = fI H xk j := fun j hj => (fI_kept (x_lt hT kH198 gxk (by decide))).trans (f0xk j hj)
    have f222 : ∀ j : Nat, j < 8 → fI H198 dn j = fI H dn j := fun j hj => (fI_kept (x_lt hT kH198 gdn (by decide))).trans (f0dn j hj)
    have f223 : ∀ j : Nat, j < 8 → fI H198 dl j = fI H dl j := fun j hj => (fI_kept (x_lt hT kH198 gdl (by decide))).trans (f0dl j hj)
    have f224 : ∀ j : Nat, j < 8 → fI H198 dk j = fI H dk j := fun j hj => (fI_kept (x_lt hT kH198 gdk (by decide))).trans (f0dk j hj)
    have f225 : ∀ j : Nat, fI H198 iq j = fI H iq j := fun j => (fI_kept (x_lt hT kH198 giq (by decide))).trans (f0i j)
    have m226 := (etb).trans (fI_kept (x_lt hT kH198 gb (by decide))).symm
    have m227 := (ey1).trans (fI_kept (x_lt hT kH198 gb (by decide))).symm
    have m228 := (ey4).trans (fI_kept (x_lt hT kH198 gb (by decide))).symm
    have m229 := (ey5).trans (fI_kept (x_lt hT kH198 gb (by decide))).symm
    have m230 := (ey10).trans (fI_kept (x_lt hT kH198 gb (by decide))).symm
    have m231 := (ey13).trans (fI_kept (x_lt hT kH198 gb (by decide))).symm
    have m232 := (ey16).trans (fI_kept (x_lt hT kH198 gb (by decide))).symm
    have m233 := (exn).trans (fR_kept (x_lt hT kH198 gb (by decide))).symm
    have m234 := (exl).trans (fR_kept (x_lt hT kH198 gb (by decide))).symm
    have m235 := (exk).trans (fR_kept (x_lt hT kH198 gb (by decide))).symm
    have m236 := (ehi).trans (fI_kept (x_lt hT kH198 gb (by decide))).symm
    have m237 := (eiq).trans (fR_kept (x_lt hT kH198 gb (by decide))).symm
    have m238 := (ek1).trans (fI_kept (x_lt hT kH198 gkq (by decide))).symm
    have m239 := (ei1).trans (fI_kept (x_lt hT kH198 giq (by decide))).symm
    have m240 := (ek4).trans (fI_kept (x_lt hT kH198 gkq (by decide))).symm
    have m241 := (ei4).trans (fI_kept (x_lt hT kH198 giq (by decide))).symm
    have m242 := (ek5).trans (fI_kept (x_lt hT kH198 gkq (by decide))).symm
    have m243 := (ei5).trans (fI_kept (x_lt hT kH198 giq (by decide))).symm
    have m244 := (ek10).trans (fI_kept (x_lt hT kH198 gkq (by decide))).symm
    have m245 := (ei10).trans (fI_kept (x_lt hT kH198 giq (by decide))).symm
    have m246 := (ek13).trans (fI_kept (x_lt hT kH198 gkq (by decide))).symm
    have m247 := (ei13).trans (fI_kept (x_lt hT kH198 giq (by decide))).symm
    have m248 := (ek16).trans (fI_kept (x_lt hT kH198 gkq (by decide))).symm
    have m249 := (ei16).trans (fI_kept (x_lt hT kH198 giq (by decide))).symm
    have m250 := (edn).trans (fR_kept (x_lt hT kH198 gkq (by decide))).symm
    have m251 := (edl).trans (fR_kept (x_lt hT kH198 gkq (by decide))).symm
    have m252 := (edk).trans (fR_kept (x_lt hT kH198 gkq (by decide))).symm
    refine W.eq (g2 := F0 m 460 ls [.int x199]) rfl ?_
    clear eck ecl ecn edk edl edn ehi ei1 ei10 ei13 ei16 ei4 ei5 eiq ek1 ek10 ek13 ek16 ek4 ek5 es1 es10 es13 es16 es4 es5 eta etb ew exk exl exn ey1 ey10 ey13 ey16 ey4 ey5 f0ck f0cl f0cn f0dk f0dl f0dn f0i f0xk f0xl f0xn kn
    refine lv_pop hx hb dL_law_460 rfl ?_
    refine lv_aload_n hx hb dL_law_461 rfl (lv_at hl 1 rfl) ?_
    refine lv_aload_n hx hb dL_law_462 rfl (lv_at hl 3 rfl) ?_
    refine lv_iload_n hx hb dL_law_463 rfl (lv_at hl 0 rfl) ?_
    refine lv_iconst (v := 1) hx hb dL_law_464 (by decide) ?_
    refine lv_iadd hx hb dL_law_465 ?_
    refine lv_topi (fun x253 ex253 => ?_)
    obtain ⟨tx253, ejx253, evx253⟩ := lw_ix (k := 1) ex253 hI hL rfl (by decide)
    clear tx253
    refine va_sld hx hb hX hbl (Nat.not_le.mpr hbl) hSH198 (vp_in_iff.mpr evx253) dL_law_466 ?_
    refine W.eq (g2 := F0 m 467 ls [.int (xs (i.toNatClampNeg + 1)), .ref b]) (congrArg (fun z => F0 m 467 ls [.int (xs z), .ref b]) ejx253) ?_
    refine lv_aload_n hx hb dL_law_467 rfl (lv_at hl 3 rfl) ?_
    refine lv_iload_n hx hb dL_law_468 rfl (lv_at hl 0 rfl) ?_
    refine lv_iconst (v := 2) hx hb dL_law_469 (by decide) ?_
    refine lv_iadd hx hb dL_law_470 ?_
    refine lv_topi (fun x254 ex254 => ?_)
    obtain ⟨tx254, ejx254, evx254⟩ := lw_ix (k := 2) ex254 hI hL rfl (by decide)
    clear tx254
    refine va_sld hx hb hX hbl (Nat.not_le.mpr hbl) hSH198 (vp_in_iff.mpr evx254) dL_law_471 ?_
    refine W.eq (g2 := F0 m 472 ls [.int (xs (i.toNatClampNeg + 2)), .int (xs (i.toNatClampNeg + 1)), .ref b]) (congrArg (fun z => F0 m 472 ls [.int (xs z), .int (xs (i.toNatClampNeg + 1)), .ref b]) ejx254) ?_
    obtain ⟨q255, eq255⟩ : ∃ z : Nat, z = fR H198 b (K.1.2 10 32) := ⟨_, rfl⟩
    have gq255 := ty_fr (q := q255) (k := 32) (u := 136) eq255 hTH198 gb rg_112 rfl
    obtain ⟨q256, eq256⟩ : ∃ z : Nat, z = fR H198 b (K.1.2 10 33) := ⟨_, rfl⟩
    have gq256 := ty_fr (q := q256) (k := 33) (u := 137) eq256 hTH198 gb rg_112 rfl
    obtain ⟨q257, eq257⟩ : ∃ z : Nat, z = fR H198 b (K.1.2 10 29) := ⟨_, rfl⟩
    have gq257 := ty_fr (q := q257) (k := 29) (u := 133) eq257 hTH198 gb rg_112 rfl
    obtain ⟨q258, eq258⟩ : ∃ z : Nat, z = fR H198 b (K.1.2 10 30) := ⟨_, rfl⟩
    have gq258 := ty_fr (q := q258) (k := 30) (u := 134) eq258 hTH198 gb rg_112 rfl
    obtain ⟨q259, eq259⟩ : ∃ z : Nat, z = fR H198 b (K.1.2 10 31) := ⟨_, rfl⟩
    have gq259 := ty_fr (q := q259) (k := 31) (u := 135) eq259 hTH198 gb rg_112 rfl
    obtain ⟨q260, eq260⟩ : ∃ z : Nat, z = fR H198 b (K.1.2 10 24) := ⟨_, rfl⟩
    have gq260 := ty_fr (q := q260) (k := 24) (u := 128) eq260 hTH198 gb rg_112 rfl
    obtain ⟨x261, ex261⟩ : ∃ z : Int32, z = fI H198 b (K.1.2 10 35) := ⟨_, rfl⟩
    have bx261 := ty_fi (x := x261) (k := 35) ex261 hTH198 gb rg_112 rfl
    refine x_V (As := [.int (xs (i.toNatClampNeg + 1)), .int (xs (i.toNatClampNeg + 2))]) (rest := []) C (a_X10_text l K G H198 ((xs (i.toNatClampNeg + 1))) ((xs (i.toNatClampNeg + 2))) (x261) (tb) hTH198 gb gq255 eq255 gq256 eq256 gq257 eq257 gq258 eq258 gq259 eq259 gq260 eq260 ex261 m226 g212 g213 g214 g215) yo_X10_text wM_L_47 ⟨⟨by decide, by decide⟩, show _ ≤ 284929 from Nat.le_trans hc (by decide), show _ ≤ 8247460 from Nat.le_trans hs (by decide)⟩ (x_rv C hTH198 (ci := 10) rfl gb rg_112) rfl hl.1 rfl (Nat.le_of_ble_eq_true rfl) dL_law_472 hSH198 (AE_new hN hSH198.1) (fun vH262 H262 locsH262 pH262 zH262 kH262 hSH262 => ?_)
    obtain ⟨x263, x264, x265, hvH262, ex264, ex265, hrH262, m266, m267, m268, m269, m270, m271, g272, g273, g274, g275, mf276, hTH262⟩ := pH262
    subst hvH262
    have f277 : ∀ j : Nat, j < 8 → fI H262 cn j = fI H cn j := fun j hj => (fI_kept (x_lt hTH198 kH262 gcn (by decide))).trans (f216 j hj)
    have f278 : ∀ j : Nat, j < 8 → fI H262 xn j = fI H xn j := fun j hj => (fI_kept (x_lt hTH198 kH262 gxn (by decide))).trans (f217 j hj)
    have f279 : ∀ j : Nat, j < 8 → fI H262 cl j = fI H cl j := fun j hj => (fI_kept (x_lt hTH198 kH262 gcl (by decide))).trans (f218 j hj)
    have f280 : ∀ j : Nat, j < 8 → fI H262 xl j = fI H xl j := fun j hj => (fI_kept (x_lt hTH198 kH262 gxl (by decide))).trans (f219 j hj)
    have f281 : ∀ j : Nat, j < 8 → fI H262 ck j = fI H ck j := fun j hj => (fI_kept (x_lt hTH198 kH262 gck (by decide))).trans (f220 j hj)
    have f282 : ∀ j : Nat, j < 8 → fI H262 xk j = fI H xk j := fun j hj => (fI_kept (x_lt hTH198 kH262 gxk (by decide))).trans (f221 j hj)
    have f283 : ∀ j : Nat, j < 8 → fI H262 dn j = fI H dn j := fun j hj => (fI_kept (x_lt hTH198 kH262 gdn (by decide))).trans (f222 j hj)
    have f284 : ∀ j : Nat, j < 8 → fI H262 dl j = fI H dl j := fun j hj => (fI_kept (x_lt hTH198 kH262 gdl (by decide))).trans (f223 j hj)
    have f285 : ∀ j : Nat, j < 8 → fI H262 dk j = fI H dk j := fun j hj => (fI_kept (x_lt hTH198 kH262 gdk (by decide))).trans (f224 j hj)
    have f286 : ∀ j : Nat, fI H262 iq j = fI H iq j := fun j => (fI_kept (x_lt hTH198 kH262 giq (by decide))).trans (f225 j)
    have m287 := (m238).trans (fI_kept (x_lt hTH198 kH262 gkq (by decide))).symm
    have m288 := (m239).trans (fI_kept (x_lt hTH198 kH262 giq (by decide))).symm
    have m289 := (m240).trans (fI_kept (x_lt hTH198 kH262 gkq (by decide))).symm
    have m290 := (m241).trans (fI_kept (x_lt hTH198 kH262 giq (by decide))).symm
    have m291 := (m242).trans (fI_kept (x_lt hTH198 kH262 gkq (by decide))).symm
    have m292 := (m243).trans (fI_kept (x_lt hTH198 kH262 giq (by decide))).symm
    have m293 := (m244).trans (fI_kept (x_lt hTH198 kH262 gkq (by decide))).symm
    have m294 := (m245).trans (fI_kept (x_lt hTH198 kH262 giq (by decide))).symm
    have m295 := (m246).trans (fI_kept (x_lt hTH198 kH262 gkq (by decide))).symm
    have m296 := (m247).trans (fI_kept (x_lt hTH198 kH262 giq (by decide))).symm
    have m297 := (m248).trans (fI_kept (x_lt hTH198 kH262 gkq (by decide))).symm
    have m298 := (m249).trans (fI_kept (x_lt hTH198 kH262 giq (by decide))).symm
    have m299 := (m250).trans (fR_kept (x_lt hTH198 kH262 gkq (by decide))).symm
    have m300 := (m251).trans (fR_kept (x_lt hTH198 kH262 gkq (by decide))).symm
    have m301 := (m252).trans (fR_kept (x_lt hTH198 kH262 gkq (by decide))).symm
    have m302 := (m200).trans (fR_kept (x_lt hTH198 kH262 ga (by decide))).symm
    have m303 := (m201).trans (fI_kept (x_lt hTH198 kH262 gw (by decide))).symm
    have m304 := (m202).trans (fI_kept (x_lt hTH198 kH262 gw (by decide))).symm
    have m305 := (m203).trans (fI_kept (x_lt hTH198 kH262 gw (by decide))).symm
    have m306 := (m204).trans (fI_kept (x_lt hTH198 kH262 gw (by decide))).symm
    have m307 := (m205).trans (fI_kept (x_lt hTH198 kH262 gw (by decide))).symm
    have m308 := (m206).trans (fI_kept (x_lt hTH198 kH262 gw (by decide))).symm
    have m309 := (fI_kept (x_lt hTH198 kH262 ga (by decide))).trans m207
    have m310 := (fV_kept (x_lt hTH198 kH262 ga (by decide))).trans m208
    have m311 := (m209).trans (fR_kept (x_lt hTH198 kH262 gw (by decide))).symm
    have m312 := (m210).trans (fR_kept (x_lt hTH198 kH262 gw (by decide))).symm
    have m313 := (m211).trans (fR_kept (x_lt hTH198 kH262 gw (by decide))).symm
    have m314 := (m227).trans (MF.i mf276 (k := 1) (by decide) (by decide)).symm
    have m315 := (m228).trans (MF.i mf276 (k := 2) (by decide) (by decide)).symm
    have m316 := (m229).trans (MF.i mf276 (k := 3) (by decide) (by decide)).symm
    have m317 := (m230).trans (MF.i mf276 (k := 59) (by decide) (by decide)).symm
    have m318 := (m231).trans (MF.i mf276 (k := 62) (by decide) (by decide)).symm
    have m319 := (m232).trans (MF.i mf276 (k := 65) (by decide) (by decide)).symm
    have m320 := (m233).trans (MF.r mf276 (k := 64) (by decide) (by decide)).symm
    have m321 := (m234).trans (MF.r mf276 (k := 66) (by decide) (by decide)).symm
    have m322 := (m235).trans (MF.r mf276 (k := 67) (by decide) (by decide)).symm
    have m323 := (m236).trans (MF.i mf276 (k := 70) (by decide) (by decide)).symm
    have m324 := (m237).trans (MF.r mf276 (k := 73) (by decide) (by decide)).symm
    have m325 := (eq255).trans (MF.r mf276 (k := 32) (by decide) (by decide)).symm
    have m326 := (eq256).trans (MF.r mf276 (k := 33) (by decide) (by decide)).symm
    have m327 := (eq257).trans (MF.r mf276 (k := 29) (by decide) (by decide)).symm
    have m328 := (eq258).trans (MF.r mf276 (k := 30) (by decide) (by decide)).symm
    have m329 := (eq259).trans (MF.r mf276 (k := 31) (by decide) (by decide)).symm
    have m330 := (eq260).trans (MF.r mf276 (k := 24) (by decide) (by decide)).symm
    have bx264 := ty_fi (x := x264) (k := 35) ex264 hTH262 gb rg_112 rfl
    have bx265 := ty_fi (x := x265) (k := 18) ex265 hTH262 gb rg_112 rfl
    refine W.eq (g2 := F0 m 475 ls [.int x263]) rfl ?_
    clear f216 f217 f218 f219 f220 f221 f222 f223 f224 f225 m200 m201 m202 m203 m204 m205 m206 m207 m208 m209 m210 m211 m226 m227 m228 m229 m230 m231 m232 m233 m234 m235 m236 m237 m238 m239 m240 m241 m242 m243 m244 m245 m246 m247 m248 m249 m250 m251 m252
    refine lv_pop hx hb dL_law_475 rfl ?_
    refine lv_goto (tgt := 1509) hx hb dL_law_476 (by decide) ?_
    exact nx G H262 locsH262 _ _ ls ⟨hTH262, hN, ga, gb, g272, g273, g274, g275, ⟨(by rw [m309, ← ex265]; omega), (by rw [← m302, ← m303, ← m314]; exact r1), (by rw [← m302, ← m304, ← m315]; exact r4), (by rw [← m302, ← m305, ← m316]; exact r5), (by rw [← m302, ← m306, ← m317]; exact r10), (by rw [← m302, ← m307, ← m318]; exact r13), (by rw [← m302, ← m308, ← m319]; exact r16)⟩, Or.inr ⟨kq, m310, gkq, (by rw [← m323]; exact h70), (by rw [← m287, ← m324, ← m288]; exact q1), (by rw [← m289, ← m324, ← m290]; exact q4), (by rw [← m291, ← m324, ← m292]; exact q5), (by rw [← m293, ← m324, ← m294]; exact q10), (by rw [← m295, ← m324, ← m296]; exact q13), (by rw [← m297, ← m324, ← m298]; exact q16), (by rw [← m299, ← m324, ← m295]; exact EQR.of hsn (fun j hj => f283 j (by omega)) (fun j hj => f286 _) (by omega)), (by rw [← m300, ← m324, ← m297]; exact EQR.of hsl (fun j hj => f284 j (by omega)) (fun j hj => f286 _) (by omega)), (by rw [← m301, ← m324, ← m297]; exact EQR.of hsk (fun j hj => f285 j (by omega)) (fun j hj => f286 _) (by omega))⟩, ⟨(by rw [← m302, ← m311, ← m320, ← m318]; exact EQR.of hrn (fun j hj => f277 j (by omega)) (fun j hj => f278 j (by omega)) (by omega)), (by rw [← m302, ← m312, ← m321, ← m319]; exact EQR.of hrl (fun j hj => f279 j (by omega)) (fun j hj => f280 j (by omega)) (by omega)), (by rw [← m302, ← m313, ← m322, ← m319]; exact EQR.of hrk (fun j hj => f281 j (by omega)) (fun j hj => f282 j (by omega)) (by omega))⟩, hSH262⟩ hl ⟨hc, hs, fun h => by have h1 := h.symm.trans m310; cases h1⟩
set_option maxRecDepth 100000 in
set_option maxHeartbeats 8000000 in
theorem lw_c7 {p : Program} {l : Launch} {e : Env} {s : State} {m : MethodId} {below : List Frame} {meth : Method} {c : Code} {K : KE} {b0 L : Nat} {xs : Nat → Int32} {G : Nat → Option Nat} {H : Heap} {locs : List Loc} {a b : Nat} {cells slots : Nat} {ls : Array Slot} {i : Int32} {n : Nat} (D : LC p K s m meth c b0 L xs) (S : SX K s G H locs a b) (hl : lv_has ls 4 [(3, .int i), (2, .ref b), (1, .ref a), (0, .ref b0)]) (hi : 0 ≤ i.toInt ∧ i.toInt + 6 ≤ L) (hn : n ≤ 511) (hB : BD K H a cells slots) (nx : ∀ (G : Nat → Option Nat) (H : Heap) (locs : List Loc) (cells slots : Nat) (ls : Array Slot), SX K s G H locs a b → lv_has ls 4 [(3, .int i), (2, .ref b), (1, .ref a), (0, .ref b0)] → BD K H a cells slots → W p l e room_1 s m #[Value.ref b0] below meth c H locs cells slots (lw_Z below #[Value.ref b0] s) (F0 m 1509 ls [])) : W p l e room_1 s m #[Value.ref b0] below meth c H locs cells slots (lw_Z below #[Value.ref b0] s) (F0 m 479 ls []) := by
  have hI := hi
  obtain ⟨C, hX, hbl, hL⟩ := id D
  obtain ⟨hx, hb, hml, hown, hts, hKT, hr, hlocks, hnm⟩ := id C
  obtain ⟨hT, hN, ga, gb, cg, tu, wd, im, ⟨rt, r1, r4, r5, r10, r13, r16⟩, hk, hnb, hS⟩ := S
  obtain ⟨hc, hs, hB0⟩ := hB
  have n_1 : (1 : Int32).toInt = 1 := rfl
  obtain ⟨w, ew⟩ : ∃ z : Nat, z = fR H a (K.1.2 9 0) := ⟨_, rfl⟩
  have gw := ty_fr (q := w) (k := 0) (u := 0) ew hT ga rg_68 rfl
  rw [← ew] at r1 r4 r5 r10 r13 r16
  obtain ⟨ta, eta⟩ : ∃ z : Int32, z = fI H a (K.1.2 9 3) := ⟨_, rfl⟩
  rw [← eta] at rt
  obtain ⟨tb, etb⟩ : ∃ z : Int32, z = fI H b (K.1.2 10 18) := ⟨_, rfl⟩
  rw [← etb] at rt
  obtain ⟨s1, es1⟩ : ∃ z : Int32, z = fI H w (K.1.2 8 1) := ⟨_, rfl⟩
  rw [← es1] at r1
  obtain ⟨y1, ey1⟩ : ∃ z : Int32, z = fI H b (K.1.2 10 1) := ⟨_, rfl⟩
  rw [← ey1] at r1
  obtain ⟨s4, es4⟩ : ∃ z : Int32, z = fI H w (K.1.2 8 4) := ⟨_, rfl⟩
  rw [← es4] at r4
  obtain ⟨y4, ey4⟩ : ∃ z : Int32, z = fI H b (K.1.2 10 2) := ⟨_, rfl⟩
  rw [← ey4] at r4
  obtain ⟨s5, es5⟩ : ∃ z : Int32, z = fI H w (K.1.2 8 5) := ⟨_, rfl⟩
  rw [← es5] at r5
  obtain ⟨y5, ey5⟩ : ∃ z : Int32, z = fI H b (K.1.2 10 3) := ⟨_, rfl⟩
  rw [← ey5] at r5
  obtain ⟨s10, es10⟩ : ∃ z : Int32, z = fI H w (K.1.2 8 10) := ⟨_, rfl⟩
  rw [← es10] at r10
  obtain ⟨y10, ey10⟩ : ∃ z : Int32, z = fI H b (K.1.2 10 59) := ⟨_, rfl⟩
  rw [← ey10] at r10
  obtain ⟨s13, es13⟩ : ∃ z : Int32, z = fI H w (K.1.2 8 13) := ⟨_, rfl⟩
  rw [← es13] at r13
  obtain ⟨y13, ey13⟩ : ∃ z : Int32, z = fI H b (K.1.2 10 62) := ⟨_, rfl⟩
  rw [← ey13] at r13
  obtain ⟨s16, es16⟩ : ∃ z : Int32, z = fI H w (K.1.2 8 16) := ⟨_, rfl⟩
  rw [← es16] at r16
  obtain ⟨y16, ey16⟩ : ∃ z : Int32, z = fI H b (K.1.2 10 65) := ⟨_, rfl⟩
  rw [← ey16] at r16
  obtain ⟨hb1, hb2, hb3⟩ := hnb
  obtain ⟨cn, ecn⟩ : ∃ z : Nat, z = fR H w (K.1.2 8 12) := ⟨_, rfl⟩
  have gcn := ty_fr (q := cn) (k := 12) (u := 31) ecn hT gw rg_0 rfl
  obtain ⟨xn, exn⟩ : ∃ z : Nat, z = fR H b (K.1.2 10 64) := ⟨_, rfl⟩
  have gxn := ty_fr (q := xn) (k := 64) (u := 157) exn hT gb rg_112 rfl
  obtain ⟨cl, ecl⟩ : ∃ z : Nat, z = fR H w (K.1.2 8 14) := ⟨_, rfl⟩
  have gcl := ty_fr (q := cl) (k := 14) (u := 32) ecl hT gw rg_0 rfl
  obtain ⟨xl, exl⟩ : ∃ z : Nat, z = fR H b (K.1.2 10 66) := ⟨_, rfl⟩
  have gxl := ty_fr (q := xl) (k := 66) (u := 158) exl hT gb rg_112 rfl
  obtain ⟨ck, eck⟩ : ∃ z : Nat, z = fR H w (K.1.2 8 15) := ⟨_, rfl⟩
  have gck := ty_fr (q := ck) (k := 15) (u := 33) eck hT gw rg_0 rfl
  obtain ⟨xk, exk⟩ : ∃ z : Nat, z = fR H b (K.1.2 10 67) := ⟨_, rfl⟩
  have gxk := ty_fr (q := xk) (k := 67) (u := 159) exk hT gb rg_112 rfl
  have hrn : EQR (fun j => fI H cn j) (fun j => fI H xn j) y13.toInt := by rw [ecn, exn, ew, ey13]; exact hb1
  have hrl : EQR (fun j => fI H cl j) (fun j => fI H xl j) y16.toInt := by rw [ecl, exl, ew, ey16]; exact hb2
  have hrk : EQR (fun j => fI H ck j) (fun j => fI H xk j) y16.toInt := by rw [eck, exk, ew, ey16]; exact hb3
  have by13 := ty_fi (x := y13) (k := 62) ey13 hT gb rg_112 rfl
  have by16 := ty_fi (x := y16) (k := 65) ey16 hT gb rg_112 rfl
  have f0cn : ∀ j : Nat, j < 8 → fI H cn j = fI H cn j := fun _ _ => rfl
  have f0xn : ∀ j : Nat, j < 8 → fI H xn j = fI H xn j := fun _ _ => rfl
  have f0cl : ∀ j : Nat, j < 8 → fI H cl j = fI H cl j := fun _ _ => rfl
  have f0xl : ∀ j : Nat, j < 8 → fI H xl j = fI H xl j := fun _ _ => rfl
  have f0ck : ∀ j : Nat, j < 8 → fI H ck j = fI H ck j := fun _ _ => rfl
  have f0xk : ∀ j : Nat, j < 8 → fI H xk j = fI H xk j := fun _ _ => rfl
  rcases hk with ⟨kn, h70⟩ | ⟨kq, kn, gkq, h70, q1, q4, q5, q10, q13, q16, hq1, hq2, hq3⟩
  · skip
    obtain ⟨hi, ehi⟩ : ∃ z : Int32, z = fI H b (K.1.2 10 70) := ⟨_, rfl⟩
    rw [← ehi] at h70
    obtain ⟨hc0, hs0⟩ := hB0 kn
    refine lv_aload_n hx hb dL_law_479 rfl (lv_at hl 2 rfl) ?_
    refine lv_aload_n hx hb dL_law_480 rfl (lv_at hl 3 rfl) ?_
    refine lv_iload_n hx hb dL_law_481 rfl (lv_at hl 0 rfl) ?_
    refine lv_iconst (v := 1) hx hb dL_law_482 (by decide) ?_
    refine lv_iadd hx hb dL_law_483 ?_
    refine lv_topi (fun x101 ex101 => ?_)
    obtain ⟨tx101, ejx101, evx101⟩ := lw_ix (k := 1) ex101 hI hL rfl (by decide)
    clear tx101
    refine va_sld hx hb hX hbl (Nat.not_le.mpr hbl) hS (vp_in_iff.mpr evx101) dL_law_484 ?_
    refine W.eq (g2 := F0 m 485 ls [.int (xs (i.toNatClampNeg + 1)), .ref a]) (congrArg (fun z => F0 m 485 ls [.int (xs z), .ref a]) ejx101) ?_
    refine x_V (As := [.int (xs (i.toNatClampNeg + 1))]) (rest := []) C (a_X9_fault l K G H ((xs (i.toNatClampNeg + 1))) hT ga) yo_X9_fault wM_L_48 ⟨⟨by decide, by decide⟩, show _ ≤ 284929 from Nat.le_trans hc (by decide), show _ ≤ 8247460 from Nat.le_trans hs (by decide)⟩ (x_rv C hT (ci := 9) rfl ga rg_68) rfl hl.1 rfl (Nat.le_of_ble_eq_true rfl) dL_law_485 hS (AE_new hN hS.1) (fun vH102 H102 locsH102 pH102 zH102 kH102 hSH102 => ?_)
    obtain ⟨x103, hvH102, hTH102⟩ := pH102
    subst hvH102
    have g104 : CG (avw K H102 b) := CG.congr (fun k hk j => av_eff hT kH102 gb (by decide) (CG_eff [] (by decide) k hk)) cg
    have g105 : TU (avw K H102 b) (svw K H102 b) := TU.congr (fun k hk j => av_eff hT kH102 gb (by decide) (TU_eff [] (by decide) k hk)) (fun k hk => sv_eff hT kH102 gb (by decide)) tu
    have g106 : WD (avw K H102 b) := WD.congr (fun k hk j => av_eff hT kH102 gb (by decide) (WD_eff [] (by decide) k hk)) wd
    have g107 : IM (avw K H102 b) := IM.congr (fun k hk j => av_eff hT kH102 gb (by decide) (IM_eff [] (by decide) k hk)) im
    have f108 : ∀ j : Nat, j < 8 → fI H102 cn j = fI H cn j := fun j hj => (fI_kept (x_lt hT kH102 gcn (by decide))).trans (f0cn j hj)
    have f109 : ∀ j : Nat, j < 8 → fI H102 xn j = fI H xn j := fun j hj => (fI_kept (x_lt hT kH102 gxn (by decide))).trans (f0xn j hj)
    have f110 : ∀ j : Nat, j < 8 → fI H102 cl j = fI H cl j := fun j hj => (fI_kept (x_lt hT kH102 gcl (by decide))).trans (f0cl j hj)
    have f111 : ∀ j : Nat, j < 8 → fI H102 xl j = fI H xl j := fun j hj => (fI_kept (x_lt hT kH102 gxl (by decide))).trans (f0xl j hj)
    have f112 : ∀ j : Nat, j < 8 → fI H102 ck j = fI H ck j := fun j hj => (fI_kept (x_lt hT kH102 gck (by decide))).trans (f0ck j hj)
    have f113 : ∀ j : Nat, j < 8 → fI H102 xk j = fI H xk j := fun j hj => (fI_kept (x_lt hT kH102 gxk (by decide))).trans (f0xk j hj)
    have m114 := (ew).trans (fR_kept (x_lt hT kH102 ga (by decide))).symm
    have m115 := (eta).trans (fI_kept (x_lt hT kH102 ga (by decide))).symm
    have m116 := (etb).trans (fI_kept (x_lt hT kH102 gb (by decide))).symm
    have m117 := (es1).trans (fI_kept (x_lt hT kH102 gw (by decide))).symm
    have m118 := (ey1).trans (fI_kept (x_lt hT kH102 gb (by decide))).symm
    have m119 := (es4).trans (fI_kept (x_lt hT kH102 gw (by decide))).symm
    have m120 := (ey4).trans (fI_kept (x_lt hT kH102 gb (by decide))).symm
    have m121 := (es5).trans (fI_kept (x_lt hT kH102 gw (by decide))).symm
    have m122 := (ey5).trans (fI_kept (x_lt hT kH102 gb (by decide))).symm
    have m123 := (es10).trans (fI_kept (x_lt hT kH102 gw (by decide))).symm
    have m124 := (ey10).trans (fI_kept (x_lt hT kH102 gb (by decide))).symm
    have m125 := (es13).trans (fI_kept (x_lt hT kH102 gw (by decide))).symm
    have m126 := (ey13).trans (fI_kept (x_lt hT kH102 gb (by decide))).symm
    have m127 := (es16).trans (fI_kept (x_lt hT kH102 gw (by decide))).symm
    have m128 := (ey16).trans (fI_kept (x_lt hT kH102 gb (by decide))).symm
    have m129 := (ecn).trans (fR_kept (x_lt hT kH102 gw (by decide))).symm
    have m130 := (exn).trans (fR_kept (x_lt hT kH102 gb (by decide))).symm
    have m131 := (ecl).trans (fR_kept (x_lt hT kH102 gw (by decide))).symm
    have m132 := (exl).trans (fR_kept (x_lt hT kH102 gb (by decide))).symm
    have m133 := (eck).trans (fR_kept (x_lt hT kH102 gw (by decide))).symm
    have m134 := (exk).trans (fR_kept (x_lt hT kH102 gb (by decide))).symm
    have m135 := (ehi).trans (fI_kept (x_lt hT kH102 gb (by decide))).symm
    have m136 := (fV_kept (x_lt hT kH102 ga (by decide))).trans kn
    refine W.eq (g2 := F0 m 488 ls [.int x103]) rfl ?_
    clear eck ecl ecn ehi es1 es10 es13 es16 es4 es5 eta etb ew exk exl exn ey1 ey10 ey13 ey16 ey4 ey5 f0ck f0cl f0cn f0xk f0xl f0xn kn
    refine lv_pop hx hb dL_law_488 rfl ?_
    refine lv_aload_n hx hb dL_law_489 rfl (lv_at hl 1 rfl) ?_
    refine lv_aload_n hx hb dL_law_490 rfl (lv_at hl 3 rfl) ?_
    refine lv_iload_n hx hb dL_law_491 rfl (lv_at hl 0 rfl) ?_
    refine lv_iconst (v := 1) hx hb dL_law_492 (by decide) ?_
    refine lv_iadd hx hb dL_law_493 ?_
    refine lv_topi (fun x137 ex137 => ?_)
    obtain ⟨tx137, ejx137, evx137⟩ := lw_ix (k := 1) ex137 hI hL rfl (by decide)
    clear tx137
    refine va_sld hx hb hX hbl (Nat.not_le.mpr hbl) hSH102 (vp_in_iff.mpr evx137) dL_law_494 ?_
    refine W.eq (g2 := F0 m 495 ls [.int (xs (i.toNatClampNeg + 1)), .ref b]) (congrArg (fun z => F0 m 495 ls [.int (xs z), .ref b]) ejx137) ?_
    refine x_V (As := [.int (xs (i.toNatClampNeg + 1))]) (rest := []) C (a_X10_fault l K G H102 ((xs (i.toNatClampNeg + 1))) hTH102 gb g104 g105 g106 g107) yo_X10_fault wM_L_51 ⟨⟨by decide, by decide⟩, show _ ≤ 284929 from Nat.le_trans hc (by decide), show _ ≤ 8247460 from Nat.le_trans hs (by decide)⟩ (x_rv C hTH102 (ci := 10) rfl gb rg_112) rfl hl.1 rfl (Nat.le_of_ble_eq_true rfl) dL_law_495 hSH102 (AE_new hN hSH102.1) (fun vH138 H138 locsH138 pH138 zH138 kH138 hSH138 => ?_)
    obtain ⟨x139, hvH138, g140, g141, g142, g143, mf144, hTH138⟩ := pH138
    subst hvH138
    have f145 : ∀ j : Nat, j < 8 → fI H138 cn j = fI H cn j := fun j hj => (fI_kept (x_lt hTH102 kH138 gcn (by decide))).trans (f108 j hj)
    have f146 : ∀ j : Nat, j < 8 → fI H138 xn j = fI H xn j := fun j hj => (fI_kept (x_lt hTH102 kH138 gxn (by decide))).trans (f109 j hj)
    have f147 : ∀ j : Nat, j < 8 → fI H138 cl j = fI H cl j := fun j hj => (fI_kept (x_lt hTH102 kH138 gcl (by decide))).trans (f110 j hj)
    have f148 : ∀ j : Nat, j < 8 → fI H138 xl j = fI H xl j := fun j hj => (fI_kept (x_lt hTH102 kH138 gxl (by decide))).trans (f111 j hj)
    have f149 : ∀ j : Nat, j < 8 → fI H138 ck j = fI H ck j := fun j hj => (fI_kept (x_lt hTH102 kH138 gck (by decide))).trans (f112 j hj)
    have f150 : ∀ j : Nat, j < 8 → fI H138 xk j = fI H xk j := fun j hj => (fI_kept (x_lt hTH102 kH138 gxk (by decide))).trans (f113 j hj)
    have m151 := (m114).trans (fR_kept (x_lt hTH102 kH138 ga (by decide))).symm
    have m152 := (m115).trans (fI_kept (x_lt hTH102 kH138 ga (by decide))).symm
    have m153 := (m117).trans (fI_kept (x_lt hTH102 kH138 gw (by decide))).symm
    have m154 := (m119).trans (fI_kept (x_lt hTH102 kH138 gw (by decide))).symm
    have m155 := (m121).trans (fI_kept (x_lt hTH102 kH138 gw (by decide))).symm
    have m156 := (m123).trans (fI_kept (x_lt hTH102 kH138 gw (by decide))).symm
    have m157 := (m125).trans (fI_kept (x_lt hTH102 kH138 gw (by decide))).symm
    have m158 := (m127).trans (fI_kept (x_lt hTH102 kH138 gw (by decide))).symm
    have m159 := (m129).trans (fR_kept (x_lt hTH102 kH138 gw (by decide))).symm
    have m160 := (m131).trans (fR_kept (x_lt hTH102 kH138 gw (by decide))).symm
    have m161 := (m133).trans (fR_kept (x_lt hTH102 kH138 gw (by decide))).symm
    have m162 := (fV_kept (x_lt hTH102 kH138 ga (by decide))).trans m136
    have m163 := (m116).trans (MF.i mf144 (k := 18) (by decide) (by decide)).symm
    have m164 := (m118).trans (MF.i mf144 (k := 1) (by decide) (by decide)).symm
    have m165 := (m120).trans (MF.i mf144 (k := 2) (by decide) (by decide)).symm
    have m166 := (m122).trans (MF.i mf144 (k := 3) (by decide) (by decide)).symm
    have m167 := (m124).trans (MF.i mf144 (k := 59) (by decide) (by decide)).symm
    have m168 := (m126).trans (MF.i mf144 (k := 62) (by decide) (by decide)).symm
    have m169 := (m128).trans (MF.i mf144 (k := 65) (by decide) (by decide)).symm
    have m170 := (m130).trans (MF.r mf144 (k := 64) (by decide) (by decide)).symm
    have m171 := (m132).trans (MF.r mf144 (k := 66) (by decide) (by decide)).symm
    have m172 := (m134).trans (MF.r mf144 (k := 67) (by decide) (by decide)).symm
    have m173 := (m135).trans (MF.i mf144 (k := 70) (by decide) (by decide)).symm
    refine W.eq (g2 := F0 m 498 ls [.int x139]) rfl ?_
    clear f108 f109 f110 f111 f112 f113 m114 m115 m116 m117 m118 m119 m120 m121 m122 m123 m124 m125 m126 m127 m128 m129 m130 m131 m132 m133 m134 m135 m136
    refine lv_pop hx hb dL_law_498 rfl ?_
    refine lv_goto (tgt := 1509) hx hb dL_law_499 (by decide) ?_
    exact nx G H138 locsH138 _ _ ls ⟨hTH138, hN, ga, gb, g140, g141, g142, g143, ⟨(by rw [← m152, ← m163]; exact rt), (by rw [← m151, ← m153, ← m164]; exact r1), (by rw [← m151, ← m154, ← m165]; exact r4), (by rw [← m151, ← m155, ← m166]; exact r5), (by rw [← m151, ← m156, ← m167]; exact r10), (by rw [← m151, ← m157, ← m168]; exact r13), (by rw [← m151, ← m158, ← m169]; exact r16)⟩, Or.inl ⟨m162, (by rw [← m173]; exact h70)⟩, ⟨(by rw [← m151, ← m159, ← m170, ← m168]; exact EQR.of hrn (fun j hj => f145 j (by omega)) (fun j hj => f146 j (by omega)) (by omega)), (by rw [← m151, ← m160, ← m171, ← m169]; exact EQR.of hrl (fun j hj => f147 j (by omega)) (fun j hj => f148 j (by omega)) (by omega)), (by rw [← m151, ← m161, ← m172, ← m169]; exact EQR.of hrk (fun j hj => f149 j (by omega)) (fun j hj => f150 j (by omega)) (by omega))⟩, hSH138⟩ hl ⟨hc, hs, fun _ => ⟨hc0, hs0⟩⟩
  · skip
    obtain ⟨hi, ehi⟩ : ∃ z : Int32, z = fI H b (K.1.2 10 70) := ⟨_, rfl⟩
    rw [← ehi] at h70
    obtain ⟨iq, eiq⟩ : ∃ z : Nat, z = fR H b (K.1.2 10 73) := ⟨_, rfl⟩
    have giq := ty_fr (q := iq) (k := 73) (u := 162) eiq hT gb rg_112 rfl
    rw [← eiq] at q1 q4 q5 q10 q13 q16
    obtain ⟨k1, ek1⟩ : ∃ z : Int32, z = fI H kq (K.1.2 8 1) := ⟨_, rfl⟩
    rw [← ek1] at q1
    obtain ⟨i1, ei1⟩ : ∃ z : Int32, z = fI H iq ((0 : Int32).toNatClampNeg) := ⟨_, rfl⟩
    rw [← ei1] at q1
    obtain ⟨k4, ek4⟩ : ∃ z : Int32, z = fI H kq (K.1.2 8 4) := ⟨_, rfl⟩
    rw [← ek4] at q4
    obtain ⟨i4, ei4⟩ : ∃ z : Int32, z = fI H iq ((1 : Int32).toNatClampNeg) := ⟨_, rfl⟩
    rw [← ei4] at q4
    obtain ⟨k5, ek5⟩ : ∃ z : Int32, z = fI H kq (K.1.2 8 5) := ⟨_, rfl⟩
    rw [← ek5] at q5
    obtain ⟨i5, ei5⟩ : ∃ z : Int32, z = fI H iq ((2 : Int32).toNatClampNeg) := ⟨_, rfl⟩
    rw [← ei5] at q5
    obtain ⟨k10, ek10⟩ : ∃ z : Int32, z = fI H kq (K.1.2 8 10) := ⟨_, rfl⟩
    rw [← ek10] at q10
    obtain ⟨i10, ei10⟩ : ∃ z : Int32, z = fI H iq ((3 : Int32).toNatClampNeg) := ⟨_, rfl⟩
    rw [← ei10] at q10
    obtain ⟨k13, ek13⟩ : ∃ z : Int32, z = fI H kq (K.1.2 8 13) := ⟨_, rfl⟩
    rw [← ek13] at q13
    obtain ⟨i13, ei13⟩ : ∃ z : Int32, z = fI H iq ((4 : Int32).toNatClampNeg) := ⟨_, rfl⟩
    rw [← ei13] at q13
    obtain ⟨k16, ek16⟩ : ∃ z : Int32, z = fI H kq (K.1.2 8 16) := ⟨_, rfl⟩
    rw [← ek16] at q16
    obtain ⟨i16, ei16⟩ : ∃ z : Int32, z = fI H iq ((5 : Int32).toNatClampNeg) := ⟨_, rfl⟩
    rw [← ei16] at q16
    obtain ⟨dn, edn⟩ : ∃ z : Nat, z = fR H kq (K.1.2 8 12) := ⟨_, rfl⟩
    have gdn := ty_fr (q := dn) (k := 12) (u := 65) edn hT gkq rg_34 rfl
    obtain ⟨dl, edl⟩ : ∃ z : Nat, z = fR H kq (K.1.2 8 14) := ⟨_, rfl⟩
    have gdl := ty_fr (q := dl) (k := 14) (u := 66) edl hT gkq rg_34 rfl
    obtain ⟨dk, edk⟩ : ∃ z : Nat, z = fR H kq (K.1.2 8 15) := ⟨_, rfl⟩
    have gdk := ty_fr (q := dk) (k := 15) (u := 67) edk hT gkq rg_34 rfl
    have hsn : EQR (fun j => fI H dn j) (fun j => fI H iq (8877 + 4 * j)) k13.toInt := by rw [edn, eiq, ek13]; exact hq1
    have hsl : EQR (fun j => fI H dl j) (fun j => fI H iq (8878 + 4 * j)) k16.toInt := by rw [edl, eiq, ek16]; exact hq2
    have hsk : EQR (fun j => fI H dk j) (fun j => fI H iq (8879 + 4 * j)) k16.toInt := by rw [edk, eiq, ek16]; exact hq3
    have bk13 := ty_fi (x := k13) (k := 13) ek13 hT gkq rg_34 rfl
    have bk16 := ty_fi (x := k16) (k := 16) ek16 hT gkq rg_34 rfl
    have f0dn : ∀ j : Nat, j < 8 → fI H dn j = fI H dn j := fun _ _ => rfl
    have f0dl : ∀ j : Nat, j < 8 → fI H dl j = fI H dl j := fun _ _ => rfl
    have f0dk : ∀ j : Nat, j < 8 → fI H dk j = fI H dk j := fun _ _ => rfl
    have f0i : ∀ j : Nat, fI H iq j = fI H iq j := fun _ => rfl
    refine lv_aload_n hx hb dL_law_479 rfl (lv_at hl 2 rfl) ?_
    refine lv_aload_n hx hb dL_law_480 rfl (lv_at hl 3 rfl) ?_
    refine lv_iload_n hx hb dL_law_481 rfl (lv_at hl 0 rfl) ?_
    refine lv_iconst (v := 1) hx hb dL_law_482 (by decide) ?_
    refine lv_iadd hx hb dL_law_483 ?_
    refine lv_topi (fun x174 ex174 => ?_)
    obtain ⟨tx174, ejx174, evx174⟩ := lw_ix (k := 1) ex174 hI hL rfl (by decide)
    clear tx174
    refine va_sld hx hb hX hbl (Nat.not_le.mpr hbl) hS (vp_in_iff.mpr evx174) dL_law_484 ?_
    refine W.eq (g2 := F0 m 485 ls [.int (xs (i.toNatClampNeg + 1)), .ref a]) (congrArg (fun z => F0 m 485 ls [.int (xs z), .ref a]) ejx174) ?_
    refine x_V (As := [.int (xs (i.toNatClampNeg + 1))]) (rest := []) C (a_X9_fault l K G H ((xs (i.toNatClampNeg + 1))) hT ga) yo_X9_fault wM_L_48 ⟨⟨by decide, by decide⟩, show _ ≤ 284929 from Nat.le_trans hc (by decide), show _ ≤ 8247460 from Nat.le_trans hs (by decide)⟩ (x_rv C hT (ci := 9) rfl ga rg_68) rfl hl.1 rfl (Nat.le_of_ble_eq_true rfl) dL_law_485 hS (AE_new hN hS.1) (fun vH175 H175 locsH175 pH175 zH175 kH175 hSH175 => ?_)
    obtain ⟨x176, hvH175, hTH175⟩ := pH175
    subst hvH175
    have g177 : CG (avw K H175 b) := CG.congr (fun k hk j => av_eff hT kH175 gb (by decide) (CG_eff [] (by decide) k hk)) cg
    have g178 : TU (avw K H175 b) (svw K H175 b) := TU.congr (fun k hk j => av_eff hT kH175 gb (by decide) (TU_eff [] (by decide) k hk)) (fun k hk => sv_eff hT kH175 gb (by decide)) tu
    have g179 : WD (avw K H175 b) := WD.congr (fun k hk j => av_eff hT kH175 gb (by decide) (WD_eff [] (by decide) k hk)) wd
    have g180 : IM (avw K H175 b) := IM.congr (fun k hk j => av_eff hT kH175 gb (by decide) (IM_eff [] (by decide) k hk)) im
    have f181 : ∀ j : Nat, j < 8 → fI H175 cn j = fI H cn j := fun j hj => (fI_kept (x_lt hT kH175 gcn (by decide))).trans (f0cn j hj)
    have f182 : ∀ j : Nat, j < 8 → fI H175 xn j = fI H xn j := fun j hj => (fI_kept (x_lt hT kH175 gxn (by decide))).trans (f0xn j hj)
    have f183 : ∀ j : Nat, j < 8 → fI H175 cl j = fI H cl j := fun j hj => (fI_kept (x_lt hT kH175 gcl (by decide))).trans (f0cl j hj)
    have f184 : ∀ j : Nat, j < 8 → fI H175 xl j = fI H xl j := fun j hj => (fI_kept (x_lt hT kH175 gxl (by decide))).trans (f0xl j hj)
    have f185 : ∀ j : Nat, j < 8 → fI H175 ck j = fI H ck j := fun j hj => (fI_kept (x_lt hT kH175 gck (by decide))).trans (f0ck j hj)
    have f186 : ∀ j : Nat, j < 8 → fI H175 xk j = fI H xk j := fun j hj => (fI_kept (x_lt hT kH175 gxk (by decide))).trans (f0xk j hj)
    have f187 : ∀ j : Nat, j < 8 → fI H175 dn j = fI H dn j := fun j hj => (fI_kept (x_lt hT kH175 gdn (by decide))).trans (f0dn j hj)
    have f188 : ∀ j : Nat, j < 8 → fI H175 dl j = fI H dl j := fun j hj => (fI_kept (x_lt hT kH175 gdl (by decide))).trans (f0dl j hj)
    have f189 : ∀ j : Nat, j < 8 → fI H175 dk j = fI H dk j := fun j hj => (fI_kept (x_lt hT kH175 gdk (by decide))).trans (f0dk j hj)
    have f190 : ∀ j : Nat, fI H175 iq j = fI H iq j := fun j => (fI_kept (x_lt hT kH175 giq (by decide))).trans (f0i j)
    have m191 := (ew).trans (fR_kept (x_lt hT kH175 ga (by decide))).symm
    have m192 := (eta).trans (fI_kept (x_lt hT kH175 ga (by decide))).symm
    have m193 := (etb).trans (fI_kept (x_lt hT kH175 gb (by decide))).symm
    have m194 := (es1).trans (fI_kept (x_lt hT kH175 gw (by decide))).symm
    have m195 := (ey1).trans (fI_kept (x_lt hT kH175 gb (by decide))).symm
    have m196 := (es4).trans (fI_kept (x_lt hT kH175 gw (by decide))).symm
    have m197 := (ey4).trans (fI_kept (x_lt hT kH175 gb (by decide))).symm
    have m198 := (es5).trans (fI_kept (x_lt hT kH175 gw (by decide))).symm
    have m199 := (ey5).trans (fI_kept (x_lt hT kH175 gb (by decide))).symm
    have m200 := (es10).trans (fI_kept (x_lt hT kH175 gw (by decide))).symm
    have m201 := (ey10).trans (fI_kept (x_lt hT kH175 gb (by decide))).symm
    have m202 := (es13).trans (fI_kept (x_lt hT kH175 gw (by decide))).symm
    have m203 := (ey13).trans (fI_kept (x_lt hT kH175 gb (by decide))).symm
    have m204 := (es16).trans (fI_kept (x_lt hT kH175 gw (by decide))).symm
    have m205 := (ey16).trans (fI_kept (x_lt hT kH175 gb (by decide))).symm
    have m206 := (ecn).trans (fR_kept (x_lt hT kH175 gw (by decide))).symm
    have m207 := (exn).trans (fR_kept (x_lt hT kH175 gb (by decide))).symm
    have m208 := (ecl).trans (fR_kept (x_lt hT kH175 gw (by decide))).symm
    have m209 := (exl).trans (fR_kept (x_lt hT kH175 gb (by decide))).symm
    have m210 := (eck).trans (fR_kept (x_lt hT kH175 gw (by decide))).symm
    have m211 := (exk).trans (fR_kept (x_lt hT kH175 gb (by decide))).symm
    have m212 := (ehi).trans (fI_kept (x_lt hT kH175 gb (by decide))).symm
    have m213 := (fV_kept (x_lt hT kH175 ga (by decide))).trans kn
    have m214 := (eiq).trans (fR_kept (x_lt hT kH175 gb (by decide))).symm
    have m215 := (ek1).trans (fI_kept (x_lt hT kH175 gkq (by decide))).symm
    have m216 := (ei1).trans (fI_kept (x_lt hT kH175 giq (by decide))).symm
    have m217 := (ek4).trans (fI_kept (x_lt hT kH175 gkq (by decide))).symm
    have m218 := (ei4).trans (fI_kept (x_lt hT kH175 giq (by decide))).symm
    have m219 := (ek5).trans (fI_kept (x_lt hT kH175 gkq (by decide))).symm
    have m220 := (ei5).trans (fI_kept (x_lt hT kH175 giq (by decide))).symm
    have m221 := (ek10).trans (fI_kept (x_lt hT kH175 gkq (by decide))).symm
    have m222 := (ei10).trans (fI_kept (x_lt hT kH175 giq (by decide))).symm
    have m223 := (ek13).trans (fI_kept (x_lt hT kH175 gkq (by decide))).symm
    have m224 := (ei13).trans (fI_kept (x_lt hT kH175 giq (by decide))).symm
    have m225 := (ek16).trans (fI_kept (x_lt hT kH175 gkq (by decide))).symm
    have m226 := (ei16).trans (fI_kept (x_lt hT kH175 giq (by decide))).symm
    have m227 := (edn).trans (fR_kept (x_lt hT kH175 gkq (by decide))).symm
    have m228 := (edl).trans (fR_kept (x_lt hT kH175 gkq (by decide))).symm
    have m229 := (edk).trans (fR_kept (x_lt hT kH175 gkq (by decide))).symm
    refine W.eq (g2 := F0 m 488 ls [.int x176]) rfl ?_
    clear eck ecl ecn edk edl edn ehi ei1 ei10 ei13 ei16 ei4 ei5 eiq ek1 ek10 ek13 ek16 ek4 ek5 es1 es10 es13 es16 es4 es5 eta etb ew exk exl exn ey1 ey10 ey13 ey16 ey4 ey5 f0ck f0cl f0cn f0dk f0dl f0dn f0i f0xk f0xl f0xn kn
    refine lv_pop hx hb dL_law_488 rfl ?_
    refine lv_aload_n hx hb dL_law_489 rfl (lv_at hl 1 rfl) ?_
    refine lv_aload_n hx hb dL_law_490 rfl (lv_at hl 3 rfl) ?_
    refine lv_iload_n hx hb dL_law_491 rfl (lv_at hl 0 rfl) ?_
    refine lv_iconst (v := 1) hx hb dL_law_492 (by decide) ?_
    refine lv_iadd hx hb dL_law_493 ?_
    refine lv_topi (fun x230 ex230 => ?_)
    obtain ⟨tx230, ejx230, evx230⟩ := lw_ix (k := 1) ex230 hI hL rfl (by decide)
    clear tx230
    refine va_sld hx hb hX hbl (Nat.not_le.mpr hbl) hSH175 (vp_in_iff.mpr evx230) dL_law_494 ?_
    refine W.eq (g2 := F0 m 495 ls [.int (xs (i.toNatClampNeg + 1)), .ref b]) (congrArg (fun z => F0 m 495 ls [.int (xs z), .ref b]) ejx230) ?_
    refine x_V (As := [.int (xs (i.toNatClampNeg + 1))]) (rest := []) C (a_X10_fault l K G H175 ((xs (i.toNatClampNeg + 1))) hTH175 gb g177 g178 g179 g180) yo_X10_fault wM_L_51 ⟨⟨by decide, by decide⟩, show _ ≤ 284929 from Nat.le_trans hc (by decide), show _ ≤ 8247460 from Nat.le_trans hs (by decide)⟩ (x_rv C hTH175 (ci := 10) rfl gb rg_112) rfl hl.1 rfl (Nat.le_of_ble_eq_true rfl) dL_law_495 hSH175 (AE_new hN hSH175.1) (fun vH231 H231 locsH231 pH231 zH231 kH231 hSH231 => ?_)
    obtain ⟨x232, hvH231, g233, g234, g235, g236, mf237, hTH231⟩ := pH231
    subst hvH231
    have f238 : ∀ j : Nat, j < 8 → fI H231 cn j = fI H cn j := fun j hj => (fI_kept (x_lt hTH175 kH231 gcn (by decide))).trans (f181 j hj)
    have f239 : ∀ j : Nat, j < 8 → fI H231 xn j = fI H xn j := fun j hj => (fI_kept (x_lt hTH175 kH231 gxn (by decide))).trans (f182 j hj)
    have f240 : ∀ j : Nat, j < 8 → fI H231 cl j = fI H cl j := fun j hj => (fI_kept (x_lt hTH175 kH231 gcl (by decide))).trans (f183 j hj)
    have f241 : ∀ j : Nat, j < 8 → fI H231 xl j = fI H xl j := fun j hj => (fI_kept (x_lt hTH175 kH231 gxl (by decide))).trans (f184 j hj)
    have f242 : ∀ j : Nat, j < 8 → fI H231 ck j = fI H ck j := fun j hj => (fI_kept (x_lt hTH175 kH231 gck (by decide))).trans (f185 j hj)
    have f243 : ∀ j : Nat, j < 8 → fI H231 xk j = fI H xk j := fun j hj => (fI_kept (x_lt hTH175 kH231 gxk (by decide))).trans (f186 j hj)
    have f244 : ∀ j : Nat, j < 8 → fI H231 dn j = fI H dn j := fun j hj => (fI_kept (x_lt hTH175 kH231 gdn (by decide))).trans (f187 j hj)
    have f245 : ∀ j : Nat, j < 8 → fI H231 dl j = fI H dl j := fun j hj => (fI_kept (x_lt hTH175 kH231 gdl (by decide))).trans (f188 j hj)
    have f246 : ∀ j : Nat, j < 8 → fI H231 dk j = fI H dk j := fun j hj => (fI_kept (x_lt hTH175 kH231 gdk (by decide))).trans (f189 j hj)
    have f247 : ∀ j : Nat, fI H231 iq j = fI H iq j := fun j => (fI_kept (x_lt hTH175 kH231 giq (by decide))).trans (f190 j)
    have m248 := (m191).trans (fR_kept (x_lt hTH175 kH231 ga (by decide))).symm
    have m249 := (m192).trans (fI_kept (x_lt hTH175 kH231 ga (by decide))).symm
    have m250 := (m194).trans (fI_kept (x_lt hTH175 kH231 gw (by decide))).symm
    have m251 := (m196).trans (fI_kept (x_lt hTH175 kH231 gw (by decide))).symm
    have m252 := (m198).trans (fI_kept (x_lt hTH175 kH231 gw (by decide))).symm
    have m253 := (m200).trans (fI_kept (x_lt hTH175 kH231 gw (by decide))).symm
    have m254 := (m202).trans (fI_kept (x_lt hTH175 kH231 gw (by decide))).symm
    have m255 := (m204).trans (fI_kept (x_lt hTH175 kH231 gw (by decide))).symm
    have m256 := (m206).trans (fR_kept (x_lt hTH175 kH231 gw (by decide))).symm
    have m257 := (m208).trans (fR_kept (x_lt hTH175 kH231 gw (by decide))).symm
    have m258 := (m210).trans (fR_kept (x_lt hTH175 kH231 gw (by decide))).symm
    have m259 := (fV_kept (x_lt hTH175 kH231 ga (by decide))).trans m213
    have m260 := (m215).trans (fI_kept (x_lt hTH175 kH231 gkq (by decide))).symm
    have m261 := (m216).trans (fI_kept (x_lt hTH175 kH231 giq (by decide))).symm
    have m262 := (m217).trans (fI_kept (x_lt hTH175 kH231 gkq (by decide))).symm
    have m263 := (m218).trans (fI_kept (x_lt hTH175 kH231 giq (by decide))).symm
    have m264 := (m219).trans (fI_kept (x_lt hTH175 kH231 gkq (by decide))).symm
    have m265 := (m220).trans (fI_kept (x_lt hTH175 kH231 giq (by decide))).symm
    have m266 := (m221).trans (fI_kept (x_lt hTH175 kH231 gkq (by decide))).symm
    have m267 := (m222).trans (fI_kept (x_lt hTH175 kH231 giq (by decide))).symm
    have m268 := (m223).trans (fI_kept (x_lt hTH175 kH231 gkq (by decide))).symm
    have m269 := (m224).trans (fI_kept (x_lt hTH175 kH231 giq (by decide))).symm
    have m270 := (m225).trans (fI_kept (x_lt hTH175 kH231 gkq (by decide))).symm
    have m271 := (m226).trans (fI_kept (x_lt hTH175 kH231 giq (by decide))).symm
    have m272 := (m227).trans (fR_kept (x_lt hTH175 kH231 gkq (by decide))).symm
    have m273 := (m228).trans (fR_kept (x_lt hTH175 kH231 gkq (by decide))).symm
    have m274 := (m229).trans (fR_kept (x_lt hTH175 kH231 gkq (by decide))).symm
    have m275 := (m193).trans (MF.i mf237 (k := 18) (by decide) (by decide)).symm
    have m276 := (m195).trans (MF.i mf237 (k := 1) (by decide) (by decide)).symm
    have m277 := (m197).trans (MF.i mf237 (k := 2) (by decide) (by decide)).symm
    have m278 := (m199).trans (MF.i mf237 (k := 3) (by decide) (by decide)).symm
    have m279 := (m201).trans (MF.i mf237 (k := 59) (by decide) (by decide)).symm
    have m280 := (m203).trans (MF.i mf237 (k := 62) (by decide) (by decide)).symm
    have m281 := (m205).trans (MF.i mf237 (k := 65) (by decide) (by decide)).symm
    have m282 := (m207).trans (MF.r mf237 (k := 64) (by decide) (by decide)).symm
    have m283 := (m209).trans (MF.r mf237 (k := 66) (by decide) (by decide)).symm
    have m284 := (m211).trans (MF.r mf237 (k := 67) (by decide) (by decide)).symm
    have m285 := (m212).trans (MF.i mf237 (k := 70) (by decide) (by decide)).symm
    have m286 := (m214).trans (MF.r mf237 (k := 73) (by decide) (by decide)).symm
    refine W.eq (g2 := F0 m 498 ls [.int x232]) rfl ?_
    clear f181 f182 f183 f184 f185 f186 f187 f188 f189 f190 m191 m192 m193 m194 m195 m196 m197 m198 m199 m200 m201 m202 m203 m204 m205 m206 m207 m208 m209 m210 m211 m212 m213 m214 m215 m216 m217 m218 m219 m220 m221 m222 m223 m224 m225 m226 m227 m228 m229
    refine lv_pop hx hb dL_law_498 rfl ?_
    refine lv_goto (tgt := 1509) hx hb dL_law_499 (by decide) ?_
    exact nx G H231 locsH231 _ _ ls ⟨hTH231, hN, ga, gb, g233, g234, g235, g236, ⟨(by rw [← m249, ← m275]; exact rt), (by rw [← m248, ← m250, ← m276]; exact r1), (by rw [← m248, ← m251, ← m277]; exact r4), (by rw [← m248, ← m252, ← m278]; exact r5), (by rw [← m248, ← m253, ← m279]; exact r10), (by rw [← m248, ← m254, ← m280]; exact r13), (by rw [← m248, ← m255, ← m281]; exact r16)⟩, Or.inr ⟨kq, m259, gkq, (by rw [← m285]; exact h70), (by rw [← m260, ← m286, ← m261]; exact q1), (by rw [← m262, ← m286, ← m263]; exact q4), (by rw [← m264, ← m286, ← m265]; exact q5), (by rw [← m266, ← m286, ← m267]; exact q10), (by rw [← m268, ← m286, ← m269]; exact q13), (by rw [← m270, ← m286, ← m271]; exact q16), (by rw [← m272, ← m286, ← m268]; exact EQR.of hsn (fun j hj => f244 j (by omega)) (fun j hj => f247 _) (by omega)), (by rw [← m273, ← m286, ← m270]; exact EQR.of hsl (fun j hj => f245 j (by omega)) (fun j hj => f247 _) (by omega)), (by rw [← m274, ← m286, ← m270]; exact EQR.of hsk (fun j hj => f246 j (by omega)) (fun j hj => f247 _) (by omega))⟩, ⟨(by rw [← m248, ← m256, ← m282, ← m280]; exact EQR.of hrn (fun j hj => f238 j (by omega)) (fun j hj => f239 j (by omega)) (by omega)), (by rw [← m248, ← m257, ← m283, ← m281]; exact EQR.of hrl (fun j hj => f240 j (by omega)) (fun j hj => f241 j (by omega)) (by omega)), (by rw [← m248, ← m258, ← m284, ← m281]; exact EQR.of hrk (fun j hj => f242 j (by omega)) (fun j hj => f243 j (by omega)) (by omega))⟩, hSH231⟩ hl ⟨hc, hs, fun h => by have h1 := h.symm.trans m259; cases h1⟩
set_option maxRecDepth 100000 in
set_option maxHeartbeats 8000000 in
theorem lw_c8 {p : Program} {l : Launch} {e : Env} {s : State} {m : MethodId} {below : List Frame} {meth : Method} {c : Code} {K : KE} {b0 L : Nat} {xs : Nat → Int32} {G : Nat → Option Nat} {H : Heap} {locs : List Loc} {a b : Nat} {cells slots : Nat} {ls : Array Slot} {i : Int32} {n : Nat} (D : LC p K s m meth c b0 L xs) (S : SX K s G H locs a b) (hl : lv_has ls 4 [(3, .int i), (2, .ref b), (1, .ref a), (0, .ref b0)]) (hi : 0 ≤ i.toInt ∧ i.toInt + 6 ≤ L) (hn : n ≤ 511) (hB : BD K H a cells slots) (nx : ∀ (G : Nat → Option Nat) (H : Heap) (locs : List Loc) (cells slots : Nat) (ls : Array Slot), SX K s G H locs a b → lv_has ls 4 [(3, .int i), (2, .ref b), (1, .ref a), (0, .ref b0)] → BD K H a cells slots → W p l e room_1 s m #[Value.ref b0] below meth c H locs cells slots (lw_Z below #[Value.ref b0] s) (F0 m 1509 ls [])) : W p l e room_1 s m #[Value.ref b0] below meth c H locs cells slots (lw_Z below #[Value.ref b0] s) (F0 m 502 ls []) := by
  have hI := hi
  obtain ⟨C, hX, hbl, hL⟩ := id D
  obtain ⟨hx, hb, hml, hown, hts, hKT, hr, hlocks, hnm⟩ := id C
  obtain ⟨hT, hN, ga, gb, cg, tu, wd, im, ⟨rt, r1, r4, r5, r10, r13, r16⟩, hk, hnb, hS⟩ := S
  obtain ⟨hc, hs, hB0⟩ := hB
  have n_1 : (1 : Int32).toInt = 1 := rfl
  obtain ⟨w, ew⟩ : ∃ z : Nat, z = fR H a (K.1.2 9 0) := ⟨_, rfl⟩
  have gw := ty_fr (q := w) (k := 0) (u := 0) ew hT ga rg_68 rfl
  rw [← ew] at r1 r4 r5 r10 r13 r16
  obtain ⟨ta, eta⟩ : ∃ z : Int32, z = fI H a (K.1.2 9 3) := ⟨_, rfl⟩
  rw [← eta] at rt
  obtain ⟨tb, etb⟩ : ∃ z : Int32, z = fI H b (K.1.2 10 18) := ⟨_, rfl⟩
  rw [← etb] at rt
  obtain ⟨s1, es1⟩ : ∃ z : Int32, z = fI H w (K.1.2 8 1) := ⟨_, rfl⟩
  rw [← es1] at r1
  obtain ⟨y1, ey1⟩ : ∃ z : Int32, z = fI H b (K.1.2 10 1) := ⟨_, rfl⟩
  rw [← ey1] at r1
  obtain ⟨s4, es4⟩ : ∃ z : Int32, z = fI H w (K.1.2 8 4) := ⟨_, rfl⟩
  rw [← es4] at r4
  obtain ⟨y4, ey4⟩ : ∃ z : Int32, z = fI H b (K.1.2 10 2) := ⟨_, rfl⟩
  rw [← ey4] at r4
  obtain ⟨s5, es5⟩ : ∃ z : Int32, z = fI H w (K.1.2 8 5) := ⟨_, rfl⟩
  rw [← es5] at r5
  obtain ⟨y5, ey5⟩ : ∃ z : Int32, z = fI H b (K.1.2 10 3) := ⟨_, rfl⟩
  rw [← ey5] at r5
  obtain ⟨s10, es10⟩ : ∃ z : Int32, z = fI H w (K.1.2 8 10) := ⟨_, rfl⟩
  rw [← es10] at r10
  obtain ⟨y10, ey10⟩ : ∃ z : Int32, z = fI H b (K.1.2 10 59) := ⟨_, rfl⟩
  rw [← ey10] at r10
  obtain ⟨s13, es13⟩ : ∃ z : Int32, z = fI H w (K.1.2 8 13) := ⟨_, rfl⟩
  rw [← es13] at r13
  obtain ⟨y13, ey13⟩ : ∃ z : Int32, z = fI H b (K.1.2 10 62) := ⟨_, rfl⟩
  rw [← ey13] at r13
  obtain ⟨s16, es16⟩ : ∃ z : Int32, z = fI H w (K.1.2 8 16) := ⟨_, rfl⟩
  rw [← es16] at r16
  obtain ⟨y16, ey16⟩ : ∃ z : Int32, z = fI H b (K.1.2 10 65) := ⟨_, rfl⟩
  rw [← ey16] at r16
  obtain ⟨hb1, hb2, hb3⟩ := hnb
  obtain ⟨cn, ecn⟩ : ∃ z : Nat, z = fR H w (K.1.2 8 12) := ⟨_, rfl⟩
  have gcn := ty_fr (q := cn) (k := 12) (u := 31) ecn hT gw rg_0 rfl
  obtain ⟨xn, exn⟩ : ∃ z : Nat, z = fR H b (K.1.2 10 64) := ⟨_, rfl⟩
  have gxn := ty_fr (q := xn) (k := 64) (u := 157) exn hT gb rg_112 rfl
  obtain ⟨cl, ecl⟩ : ∃ z : Nat, z = fR H w (K.1.2 8 14) := ⟨_, rfl⟩
  have gcl := ty_fr (q := cl) (k := 14) (u := 32) ecl hT gw rg_0 rfl
  obtain ⟨xl, exl⟩ : ∃ z : Nat, z = fR H b (K.1.2 10 66) := ⟨_, rfl⟩
  have gxl := ty_fr (q := xl) (k := 66) (u := 158) exl hT gb rg_112 rfl
  obtain ⟨ck, eck⟩ : ∃ z : Nat, z = fR H w (K.1.2 8 15) := ⟨_, rfl⟩
  have gck := ty_fr (q := ck) (k := 15) (u := 33) eck hT gw rg_0 rfl
  obtain ⟨xk, exk⟩ : ∃ z : Nat, z = fR H b (K.1.2 10 67) := ⟨_, rfl⟩
  have gxk := ty_fr (q := xk) (k := 67) (u := 159) exk hT gb rg_112 rfl
  have hrn : EQR (fun j => fI H cn j) (fun j => fI H xn j) y13.toInt := by rw [ecn, exn, ew, ey13]; exact hb1
  have hrl : EQR (fun j => fI H cl j) (fun j => fI H xl j) y16.toInt := by rw [ecl, exl, ew, ey16]; exact hb2
  have hrk : EQR (fun j => fI H ck j) (fun j => fI H xk j) y16.toInt := by rw [eck, exk, ew, ey16]; exact hb3
  have by13 := ty_fi (x := y13) (k := 62) ey13 hT gb rg_112 rfl
  have by16 := ty_fi (x := y16) (k := 65) ey16 hT gb rg_112 rfl
  have f0cn : ∀ j : Nat, j < 8 → fI H cn j = fI H cn j := fun _ _ => rfl
  have f0xn : ∀ j : Nat, j < 8 → fI H xn j = fI H xn j := fun _ _ => rfl
  have f0cl : ∀ j : Nat, j < 8 → fI H cl j = fI H cl j := fun _ _ => rfl
  have f0xl : ∀ j : Nat, j < 8 → fI H xl j = fI H xl j := fun _ _ => rfl
  have f0ck : ∀ j : Nat, j < 8 → fI H ck j = fI H ck j := fun _ _ => rfl
  have f0xk : ∀ j : Nat, j < 8 → fI H xk j = fI H xk j := fun _ _ => rfl
  rcases hk with ⟨kn, h70⟩ | ⟨kq, kn, gkq, h70, q1, q4, q5, q10, q13, q16, hq1, hq2, hq3⟩
  · skip
    obtain ⟨hi, ehi⟩ : ∃ z : Int32, z = fI H b (K.1.2 10 70) := ⟨_, rfl⟩
    rw [← ehi] at h70
    obtain ⟨hc0, hs0⟩ := hB0 kn
    refine lv_aload_n hx hb dL_law_502 rfl (lv_at hl 2 rfl) ?_
    refine lv_aload_n hx hb dL_law_503 rfl (lv_at hl 3 rfl) ?_
    refine lv_iload_n hx hb dL_law_504 rfl (lv_at hl 0 rfl) ?_
    refine lv_iconst (v := 1) hx hb dL_law_505 (by decide) ?_
    refine lv_iadd hx hb dL_law_506 ?_
    refine lv_topi (fun x101 ex101 => ?_)
    obtain ⟨tx101, ejx101, evx101⟩ := lw_ix (k := 1) ex101 hI hL rfl (by decide)
    clear tx101
    refine va_sld hx hb hX hbl (Nat.not_le.mpr hbl) hS (vp_in_iff.mpr evx101) dL_law_507 ?_
    refine W.eq (g2 := F0 m 508 ls [.int (xs (i.toNatClampNeg + 1)), .ref a]) (congrArg (fun z => F0 m 508 ls [.int (xs z), .ref a]) ejx101) ?_
    refine x_V (As := [.int (xs (i.toNatClampNeg + 1))]) (rest := []) C (a_X9_force_r l K G H ((xs (i.toNatClampNeg + 1))) (s1) (s4) (s5) (s10) (s13) (s16) hT ga gw ew gcn ecn gcl ecl gck eck es1 es4 es5 es10 es13 es16) yo_X9_force wM_L_52 ⟨⟨by decide, by decide⟩, show _ ≤ 284929 from Nat.le_trans hc (by decide), show _ ≤ 8247460 from Nat.le_trans hs (by decide)⟩ (x_rv C hT (ci := 9) rfl ga rg_68) rfl hl.1 rfl (Nat.le_of_ble_eq_true rfl) dL_law_508 hS (AE_new hN hS.1) (fun vH102 H102 locsH102 pH102 zH102 kH102 hSH102 => ?_)
    obtain ⟨x103, x104, x105, x106, x107, x108, x109, hvH102, ex104, ex105, ex106, ex107, ex108, ex109, hrH102, m110, m111, m112, hTH102⟩ := pH102
    subst hvH102
    have g113 : CG (avw K H102 b) := CG.congr (fun k hk j => av_eff hT kH102 gb (by decide) (CG_eff [0] (by decide) k hk)) cg
    have g114 : TU (avw K H102 b) (svw K H102 b) := TU.congr (fun k hk j => av_eff hT kH102 gb (by decide) (TU_eff [0] (by decide) k hk)) (fun k hk => sv_eff hT kH102 gb (by decide)) tu
    have g115 : WD (avw K H102 b) := WD.congr (fun k hk j => av_eff hT kH102 gb (by decide) (WD_eff [0] (by decide) k hk)) wd
    have g116 : IM (avw K H102 b) := IM.congr (fun k hk j => av_eff hT kH102 gb (by decide) (IM_eff [0] (by decide) k hk)) im
    have f117 : ∀ j : Nat, j < 8 → fI H102 cn j = fI H cn j := fun j hj => (fI_kept (x_lt hT kH102 gcn (by decide))).trans (f0cn j hj)
    have f118 : ∀ j : Nat, j < 8 → fI H102 xn j = fI H xn j := fun j hj => (fI_kept (x_lt hT kH102 gxn (by decide))).trans (f0xn j hj)
    have f119 : ∀ j : Nat, j < 8 → fI H102 cl j = fI H cl j := fun j hj => (fI_kept (x_lt hT kH102 gcl (by decide))).trans (f0cl j hj)
    have f120 : ∀ j : Nat, j < 8 → fI H102 xl j = fI H xl j := fun j hj => (fI_kept (x_lt hT kH102 gxl (by decide))).trans (f0xl j hj)
    have f121 : ∀ j : Nat, j < 8 → fI H102 ck j = fI H ck j := fun j hj => (fI_kept (x_lt hT kH102 gck (by decide))).trans (f0ck j hj)
    have f122 : ∀ j : Nat, j < 8 → fI H102 xk j = fI H xk j := fun j hj => (fI_kept (x_lt hT kH102 gxk (by decide))).trans (f0xk j hj)
    have m123 := (ew).trans (fR_kept (x_lt hT kH102 ga (by decide))).symm
    have m124 := (eta).trans (fI_kept (x_lt hT kH102 ga (by decide))).symm
    have m125 := (etb).trans (fI_kept (x_lt hT kH102 gb (by decide))).symm
    have m126 := (ey1).trans (fI_kept (x_lt hT kH102 gb (by decide))).symm
    have m127 := (ey4).trans (fI_kept (x_lt hT kH102 gb (by decide))).symm
    have m128 := (ey5).trans (fI_kept (x_lt hT kH102 gb (by decide))).symm
    have m129 := (ey10).trans (fI_kept (x_lt hT kH102 gb (by decide))).symm
    have m130 := (ey13).trans (fI_kept (x_lt hT kH102 gb (by decide))).symm
    have m131 := (ey16).trans (fI_kept (x_lt hT kH102 gb (by decide))).symm
    have m132 := (exn).trans (fR_kept (x_lt hT kH102 gb (by decide))).symm
    have m133 := (exl).trans (fR_kept (x_lt hT kH102 gb (by decide))).symm
    have m134 := (exk).trans (fR_kept (x_lt hT kH102 gb (by decide))).symm
    have m135 := (ehi).trans (fI_kept (x_lt hT kH102 gb (by decide))).symm
    have m136 := (fV_kept (x_lt hT kH102 ga (by decide))).trans kn
    have bx104 := ty_fi (x := x104) (k := 1) ex104 hTH102 gw rg_0 rfl
    have bx105 := ty_fi (x := x105) (k := 4) ex105 hTH102 gw rg_0 rfl
    have bx106 := ty_fi (x := x106) (k := 5) ex106 hTH102 gw rg_0 rfl
    have bx107 := ty_fi (x := x107) (k := 10) ex107 hTH102 gw rg_0 rfl
    have bx108 := ty_fi (x := x108) (k := 13) ex108 hTH102 gw rg_0 rfl
    have bx109 := ty_fi (x := x109) (k := 16) ex109 hTH102 gw rg_0 rfl
    refine W.eq (g2 := F0 m 511 ls [.int x103]) rfl ?_
    clear eck ecl ecn ehi es1 es10 es13 es16 es4 es5 eta etb ew exk exl exn ey1 ey10 ey13 ey16 ey4 ey5 f0ck f0cl f0cn f0xk f0xl f0xn kn
    refine lv_pop hx hb dL_law_511 rfl ?_
    refine lv_aload_n hx hb dL_law_512 rfl (lv_at hl 1 rfl) ?_
    refine lv_aload_n hx hb dL_law_513 rfl (lv_at hl 3 rfl) ?_
    refine lv_iload_n hx hb dL_law_514 rfl (lv_at hl 0 rfl) ?_
    refine lv_iconst (v := 1) hx hb dL_law_515 (by decide) ?_
    refine lv_iadd hx hb dL_law_516 ?_
    refine lv_topi (fun x137 ex137 => ?_)
    obtain ⟨tx137, ejx137, evx137⟩ := lw_ix (k := 1) ex137 hI hL rfl (by decide)
    clear tx137
    refine va_sld hx hb hX hbl (Nat.not_le.mpr hbl) hSH102 (vp_in_iff.mpr evx137) dL_law_517 ?_
    refine W.eq (g2 := F0 m 518 ls [.int (xs (i.toNatClampNeg + 1)), .ref b]) (congrArg (fun z => F0 m 518 ls [.int (xs z), .ref b]) ejx137) ?_
    refine x_V (As := [.int (xs (i.toNatClampNeg + 1))]) (rest := []) C (a_X10_force_r l K G H102 ((xs (i.toNatClampNeg + 1))) (y4) hTH102 gb m127 g113 g114 g115 g116) yo_X10_force wM_L_55 ⟨⟨by decide, by decide⟩, show _ ≤ 284929 from Nat.le_trans hc (by decide), show _ ≤ 8247460 from Nat.le_trans hs (by decide)⟩ (x_rv C hTH102 (ci := 10) rfl gb rg_112) rfl hl.1 rfl (Nat.le_of_ble_eq_true rfl) dL_law_518 hSH102 (AE_new hN hSH102.1) (fun vH138 H138 locsH138 pH138 zH138 kH138 hSH138 => ?_)
    obtain ⟨x139, x140, hvH138, ex140, hrH138, g141, g142, g143, g144, mf145, hTH138⟩ := pH138
    subst hvH138
    have f146 : ∀ j : Nat, j < 8 → fI H138 cn j = fI H cn j := fun j hj => (fI_kept (x_lt hTH102 kH138 gcn (by decide))).trans (f117 j hj)
    have f147 : ∀ j : Nat, j < 8 → fI H138 xn j = fI H xn j := fun j hj => (fI_kept (x_lt hTH102 kH138 gxn (by decide))).trans (f118 j hj)
    have f148 : ∀ j : Nat, j < 8 → fI H138 cl j = fI H cl j := fun j hj => (fI_kept (x_lt hTH102 kH138 gcl (by decide))).trans (f119 j hj)
    have f149 : ∀ j : Nat, j < 8 → fI H138 xl j = fI H xl j := fun j hj => (fI_kept (x_lt hTH102 kH138 gxl (by decide))).trans (f120 j hj)
    have f150 : ∀ j : Nat, j < 8 → fI H138 ck j = fI H ck j := fun j hj => (fI_kept (x_lt hTH102 kH138 gck (by decide))).trans (f121 j hj)
    have f151 : ∀ j : Nat, j < 8 → fI H138 xk j = fI H xk j := fun j hj => (fI_kept (x_lt hTH102 kH138 gxk (by decide))).trans (f122 j hj)
    have m152 := (m123).trans (fR_kept (x_lt hTH102 kH138 ga (by decide))).symm
    have m153 := (m124).trans (fI_kept (x_lt hTH102 kH138 ga (by decide))).symm
    have m154 := (fV_kept (x_lt hTH102 kH138 ga (by decide))).trans m136
    have m155 := (m110).trans (fR_kept (x_lt hTH102 kH138 gw (by decide))).symm
    have m156 := (m111).trans (fR_kept (x_lt hTH102 kH138 gw (by decide))).symm
    have m157 := (m112).trans (fR_kept (x_lt hTH102 kH138 gw (by decide))).symm
    have m158 := (ex104).trans (fI_kept (x_lt hTH102 kH138 gw (by decide))).symm
    have m159 := (ex105).trans (fI_kept (x_lt hTH102 kH138 gw (by decide))).symm
    have m160 := (ex106).trans (fI_kept (x_lt hTH102 kH138 gw (by decide))).symm
    have m161 := (ex107).trans (fI_kept (x_lt hTH102 kH138 gw (by decide))).symm
    have m162 := (ex108).trans (fI_kept (x_lt hTH102 kH138 gw (by decide))).symm
    have m163 := (ex109).trans (fI_kept (x_lt hTH102 kH138 gw (by decide))).symm
    have m164 := (m125).trans (MF.i mf145 (k := 18) (by decide) (by decide)).symm
    have m165 := (m126).trans (MF.i mf145 (k := 1) (by decide) (by decide)).symm
    have m166 := (m128).trans (MF.i mf145 (k := 3) (by decide) (by decide)).symm
    have m167 := (m129).trans (MF.i mf145 (k := 59) (by decide) (by decide)).symm
    have m168 := (m130).trans (MF.i mf145 (k := 62) (by decide) (by decide)).symm
    have m169 := (m131).trans (MF.i mf145 (k := 65) (by decide) (by decide)).symm
    have m170 := (m132).trans (MF.r mf145 (k := 64) (by decide) (by decide)).symm
    have m171 := (m133).trans (MF.r mf145 (k := 66) (by decide) (by decide)).symm
    have m172 := (m134).trans (MF.r mf145 (k := 67) (by decide) (by decide)).symm
    have m173 := (m135).trans (MF.i mf145 (k := 70) (by decide) (by decide)).symm
    have bx140 := ty_fi (x := x140) (k := 2) ex140 hTH138 gb rg_112 rfl
    refine W.eq (g2 := F0 m 521 ls [.int x139]) rfl ?_
    clear ex104 ex105 ex106 ex107 ex108 ex109 f117 f118 f119 f120 f121 f122 m110 m111 m112 m123 m124 m125 m126 m127 m128 m129 m130 m131 m132 m133 m134 m135 m136
    refine lv_pop hx hb dL_law_521 rfl ?_
    refine lv_goto (tgt := 1509) hx hb dL_law_522 (by decide) ?_
    exact nx G H138 locsH138 _ _ ls ⟨hTH138, hN, ga, gb, g141, g142, g143, g144, ⟨(by rw [← m153, ← m164]; exact rt), (by rw [← m152, ← m158, ← m165]; omega), (by rw [← m152, ← m159, ← ex140]; omega), (by rw [← m152, ← m160, ← m166]; omega), (by rw [← m152, ← m161, ← m167]; omega), (by rw [← m152, ← m162, ← m168]; omega), (by rw [← m152, ← m163, ← m169]; omega)⟩, Or.inl ⟨m154, (by rw [← m173]; exact h70)⟩, ⟨(by rw [← m152, ← m155, ← m170, ← m168]; exact EQR.of hrn (fun j hj => f146 j (by omega)) (fun j hj => f147 j (by omega)) (by omega)), (by rw [← m152, ← m156, ← m171, ← m169]; exact EQR.of hrl (fun j hj => f148 j (by omega)) (fun j hj => f149 j (by omega)) (by omega)), (by rw [← m152, ← m157, ← m172, ← m169]; exact EQR.of hrk (fun j hj => f150 j (by omega)) (fun j hj => f151 j (by omega)) (by omega))⟩, hSH138⟩ hl ⟨hc, hs, fun _ => ⟨hc0, hs0⟩⟩
  · skip
    obtain ⟨hi, ehi⟩ : ∃ z : Int32, z = fI H b (K.1.2 10 70) := ⟨_, rfl⟩
    rw [← ehi] at h70
    obtain ⟨iq, eiq⟩ : ∃ z : Nat, z = fR H b (K.1.2 10 73) := ⟨_, rfl⟩
    have giq := ty_fr (q := iq) (k := 73) (u := 162) eiq hT gb rg_112 rfl
    rw [← eiq] at q1 q4 q5 q10 q13 q16
    obtain ⟨k1, ek1⟩ : ∃ z : Int32, z = fI H kq (K.1.2 8 1) := ⟨_, rfl⟩
    rw [← ek1] at q1
    obtain ⟨i1, ei1⟩ : ∃ z : Int32, z = fI H iq ((0 : Int32).toNatClampNeg) := ⟨_, rfl⟩
    rw [← ei1] at q1
    obtain ⟨k4, ek4⟩ : ∃ z : Int32, z = fI H kq (K.1.2 8 4) := ⟨_, rfl⟩
    rw [← ek4] at q4
    obtain ⟨i4, ei4⟩ : ∃ z : Int32, z = fI H iq ((1 : Int32).toNatClampNeg) := ⟨_, rfl⟩
    rw [← ei4] at q4
    obtain ⟨k5, ek5⟩ : ∃ z : Int32, z = fI H kq (K.1.2 8 5) := ⟨_, rfl⟩
    rw [← ek5] at q5
    obtain ⟨i5, ei5⟩ : ∃ z : Int32, z = fI H iq ((2 : Int32).toNatClampNeg) := ⟨_, rfl⟩
    rw [← ei5] at q5
    obtain ⟨k10, ek10⟩ : ∃ z : Int32, z = fI H kq (K.1.2 8 10) := ⟨_, rfl⟩
    rw [← ek10] at q10
    obtain ⟨i10, ei10⟩ : ∃ z : Int32, z = fI H iq ((3 : Int32).toNatClampNeg) := ⟨_, rfl⟩
    rw [← ei10] at q10
    obtain ⟨k13, ek13⟩ : ∃ z : Int32, z = fI H kq (K.1.2 8 13) := ⟨_, rfl⟩
    rw [← ek13] at q13
    obtain ⟨i13, ei13⟩ : ∃ z : Int32, z = fI H iq ((4 : Int32).toNatClampNeg) := ⟨_, rfl⟩
    rw [← ei13] at q13
    obtain ⟨k16, ek16⟩ : ∃ z : Int32, z = fI H kq (K.1.2 8 16) := ⟨_, rfl⟩
    rw [← ek16] at q16
    obtain ⟨i16, ei16⟩ : ∃ z : Int32, z = fI H iq ((5 : Int32).toNatClampNeg) := ⟨_, rfl⟩
    rw [← ei16] at q16
    obtain ⟨dn, edn⟩ : ∃ z : Nat, z = fR H kq (K.1.2 8 12) := ⟨_, rfl⟩
    have gdn := ty_fr (q := dn) (k := 12) (u := 65) edn hT gkq rg_34 rfl
    obtain ⟨dl, edl⟩ : ∃ z : Nat, z = fR H kq (K.1.2 8 14) := ⟨_, rfl⟩
    have gdl := ty_fr (q := dl) (k := 14) (u := 66) edl hT gkq rg_34 rfl
    obtain ⟨dk, edk⟩ : ∃ z : Nat, z = fR H kq (K.1.2 8 15) := ⟨_, rfl⟩
    have gdk := ty_fr (q := dk) (k := 15) (u := 67) edk hT gkq rg_34 rfl
    have hsn : EQR (fun j => fI H dn j) (fun j => fI H iq (8877 + 4 * j)) k13.toInt := by rw [edn, eiq, ek13]; exact hq1
    have hsl : EQR (fun j => fI H dl j) (fun j => fI H iq (8878 + 4 * j)) k16.toInt := by rw [edl, eiq, ek16]; exact hq2
    have hsk : EQR (fun j => fI H dk j) (fun j => fI H iq (8879 + 4 * j)) k16.toInt := by rw [edk, eiq, ek16]; exact hq3
    have bk13 := ty_fi (x := k13) (k := 13) ek13 hT gkq rg_34 rfl
    have bk16 := ty_fi (x := k16) (k := 16) ek16 hT gkq rg_34 rfl
    have f0dn : ∀ j : Nat, j < 8 → fI H dn j = fI H dn j := fun _ _ => rfl
    have f0dl : ∀ j : Nat, j < 8 → fI H dl j = fI H dl j := fun _ _ => rfl
    have f0dk : ∀ j : Nat, j < 8 → fI H dk j = fI H dk j := fun _ _ => rfl
    have f0i : ∀ j : Nat, fI H iq j = fI H iq j := fun _ => rfl
    refine lv_aload_n hx hb dL_law_502 rfl (lv_at hl 2 rfl) ?_
    refine lv_aload_n hx hb dL_law_503 rfl (lv_at hl 3 rfl) ?_
    refine lv_iload_n hx hb dL_law_504 rfl (lv_at hl 0 rfl) ?_
    refine lv_iconst (v := 1) hx hb dL_law_505 (by decide) ?_
    refine lv_iadd hx hb dL_law_506 ?_
    refine lv_topi (fun x174 ex174 => ?_)
    obtain ⟨tx174, ejx174, evx174⟩ := lw_ix (k := 1) ex174 hI hL rfl (by decide)
    clear tx174
    refine va_sld hx hb hX hbl (Nat.not_le.mpr hbl) hS (vp_in_iff.mpr evx174) dL_law_507 ?_
    refine W.eq (g2 := F0 m 508 ls [.int (xs (i.toNatClampNeg + 1)), .ref a]) (congrArg (fun z => F0 m 508 ls [.int (xs z), .ref a]) ejx174) ?_
    refine x_V (As := [.int (xs (i.toNatClampNeg + 1))]) (rest := []) C (a_X9_force_r l K G H ((xs (i.toNatClampNeg + 1))) (s1) (s4) (s5) (s10) (s13) (s16) hT ga gw ew gcn ecn gcl ecl gck eck es1 es4 es5 es10 es13 es16) yo_X9_force wM_L_52 ⟨⟨by decide, by decide⟩, show _ ≤ 284929 from Nat.le_trans hc (by decide), show _ ≤ 8247460 from Nat.le_trans hs (by decide)⟩ (x_rv C hT (ci := 9) rfl ga rg_68) rfl hl.1 rfl (Nat.le_of_ble_eq_true rfl) dL_law_508 hS (AE_new hN hS.1) (fun vH175 H175 locsH175 pH175 zH175 kH175 hSH175 => ?_)
    obtain ⟨x176, x177, x178, x179, x180, x181, x182, hvH175, ex177, ex178, ex179, ex180, ex181, ex182, hrH175, m183, m184, m185, hTH175⟩ := pH175
    subst hvH175
    have g186 : CG (avw K H175 b) := CG.congr (fun k hk j => av_eff hT kH175 gb (by decide) (CG_eff [0] (by decide) k hk)) cg
    have g187 : TU (avw K H175 b) (svw K H175 b) := TU.congr (fun k hk j => av_eff hT kH175 gb (by decide) (TU_eff [0] (by decide) k hk)) (fun k hk => sv_eff hT kH175 gb (by decide)) tu
    have g188 : WD (avw K H175 b) := WD.congr (fun k hk j => av_eff hT kH175 gb (by decide) (WD_eff [0] (by decide) k hk)) wd
    have g189 : IM (avw K H175 b) := IM.congr (fun k hk j => av_eff hT kH175 gb (by decide) (IM_eff [0] (by decide) k hk)) im
    have f190 : ∀ j : Nat, j < 8 → fI H175 cn j = fI H cn j := fun j hj => (fI_kept (x_lt hT kH175 gcn (by decide))).trans (f0cn j hj)
    have f191 : ∀ j : Nat, j < 8 → fI H175 xn j = fI H xn j := fun j hj => (fI_kept (x_lt hT kH175 gxn (by decide))).trans (f0xn j hj)
    have f192 : ∀ j : Nat, j < 8 → fI H175 cl j = fI H cl j := fun j hj => (fI_kept (x_lt hT kH175 gcl (by decide))).trans (f0cl j hj)
    have f193 : ∀ j : Nat, j < 8 → fI H175 xl j = fI H xl j := fun j hj => (fI_kept (x_lt hT kH175 gxl (by decide))).trans (f0xl j hj)
    have f194 : ∀ j : Nat, j < 8 → fI H175 ck j = fI H ck j := fun j hj => (fI_kept (x_lt hT kH175 gck (by decide))).trans (f0ck j hj)
    have f195 : ∀ j : Nat, j < 8 → fI H175 xk j = fI H xk j := fun j hj => (fI_kept (x_lt hT kH175 gxk (by decide))).trans (f0xk j hj)
    have f196 : ∀ j : Nat, j < 8 → fI H175 dn j = fI H dn j := fun j hj => (fI_kept (x_lt hT kH175 gdn (by decide))).trans (f0dn j hj)
    have f197 : ∀ j : Nat, j < 8 → fI H175 dl j = fI H dl j := fun j hj => (fI_kept (x_lt hT kH175 gdl (by decide))).trans (f0dl j hj)
    have f198 : ∀ j : Nat, j < 8 → fI H175 dk j = fI H dk j := fun j hj => (fI_kept (x_lt hT kH175 gdk (by decide))).trans (f0dk j hj)
    have f199 : ∀ j : Nat, fI H175 iq j = fI H iq j := fun j => (fI_kept (x_lt hT kH175 giq (by decide))).trans (f0i j)
    have m200 := (ew).trans (fR_kept (x_lt hT kH175 ga (by decide))).symm
    have m201 := (eta).trans (fI_kept (x_lt hT kH175 ga (by decide))).symm
    have m202 := (etb).trans (fI_kept (x_lt hT kH175 gb (by decide))).symm
    have m203 := (ey1).trans (fI_kept (x_lt hT kH175 gb (by decide))).symm
    have m204 := (ey4).trans (fI_kept (x_lt hT kH175 gb (by decide))).symm
    have m205 := (ey5).trans (fI_kept (x_lt hT kH175 gb (by decide))).symm
    have m206 := (ey10).trans (fI_kept (x_lt hT kH175 gb (by decide))).symm
    have m207 := (ey13).trans (fI_kept (x_lt hT kH175 gb (by decide))).symm
    have m208 := (ey16).trans (fI_kept (x_lt hT kH175 gb (by decide))).symm
    have m209 := (exn).trans (fR_kept (x_lt hT kH175 gb (by decide))).symm
    have m210 := (exl).trans (fR_kept (x_lt hT kH175 gb (by decide))).symm
    have m211 := (exk).trans (fR_kept (x_lt hT kH175 gb (by decide))).symm
    have m212 := (ehi).trans (fI_kept (x_lt hT kH175 gb (by decide))).symm
    have m213 := (fV_kept (x_lt hT kH175 ga (by decide))).trans kn
    have m214 := (eiq).trans (fR_kept (x_lt hT kH175 gb (by decide))).symm
    have m215 := (ek1).trans (fI_kept (x_lt hT kH175 gkq (by decide))).symm
    have m216 := (ei1).trans (fI_kept (x_lt hT kH175 giq (by decide))).symm
    have m217 := (ek4).trans (fI_kept (x_lt hT kH175 gkq (by decide))).symm
    have m218 := (ei4).trans (fI_kept (x_lt hT kH175 giq (by decide))).symm
    have m219 := (ek5).trans (fI_kept (x_lt hT kH175 gkq (by decide))).symm
    have m220 := (ei5).trans (fI_kept (x_lt hT kH175 giq (by decide))).symm
    have m221 := (ek10).trans (fI_kept (x_lt hT kH175 gkq (by decide))).symm
    have m222 := (ei10).trans (fI_kept (x_lt hT kH175 giq (by decide))).symm
    have m223 := (ek13).trans (fI_kept (x_lt hT kH175 gkq (by decide))).symm
    have m224 := (ei13).trans (fI_kept (x_lt hT kH175 giq (by decide))).symm
    have m225 := (ek16).trans (fI_kept (x_lt hT kH175 gkq (by decide))).symm
    have m226 := (ei16).trans (fI_kept (x_lt hT kH175 giq (by decide))).symm
    have m227 := (edn).trans (fR_kept (x_lt hT kH175 gkq (by decide))).symm
    have m228 := (edl).trans (fR_kept (x_lt hT kH175 gkq (by decide))).symm
    have m229 := (edk).trans (fR_kept (x_lt hT kH175 gkq (by decide))).symm
    have bx177 := ty_fi (x := x177) (k := 1) ex177 hTH175 gw rg_0 rfl
    have bx178 := ty_fi (x := x178) (k := 4) ex178 hTH175 gw rg_0 rfl
    have bx179 := ty_fi (x := x179) (k := 5) ex179 hTH175 gw rg_0 rfl
    have bx180 := ty_fi (x := x180) (k := 10) ex180 hTH175 gw rg_0 rfl
    have bx181 := ty_fi (x := x181) (k := 13) ex181 hTH175 gw rg_0 rfl
    have bx182 := ty_fi (x := x182) (k := 16) ex182 hTH175 gw rg_0 rfl
    refine W.eq (g2 := F0 m 511 ls [.int x176]) rfl ?_
    clear eck ecl ecn edk edl edn ehi ei1 ei10 ei13 ei16 ei4 ei5 eiq ek1 ek10 ek13 ek16 ek4 ek5 es1 es10 es13 es16 es4 es5 eta etb ew exk exl exn ey1 ey10 ey13 ey16 ey4 ey5 f0ck f0cl f0cn f0dk f0dl f0dn f0i f0xk f0xl f0xn kn
    refine lv_pop hx hb dL_law_511 rfl ?_
    refine lv_aload_n hx hb dL_law_512 rfl (lv_at hl 1 rfl) ?_
    refine lv_aload_n hx hb dL_law_513 rfl (lv_at hl 3 rfl) ?_
    refine lv_iload_n hx hb dL_law_514 rfl (lv_at hl 0 rfl) ?_
    refine lv_iconst (v := 1) hx hb dL_law_515 (by decide) ?_
    refine lv_iadd hx hb dL_law_516 ?_
    refine lv_topi (fun x230 ex230 => ?_)
    obtain ⟨tx230, ejx230, evx230⟩ := lw_ix (k := 1) ex230 hI hL rfl (by decide)
    clear tx230
    refine va_sld hx hb hX hbl (Nat.not_le.mpr hbl) hSH175 (vp_in_iff.mpr evx230) dL_law_517 ?_
    refine W.eq (g2 := F0 m 518 ls [.int (xs (i.toNatClampNeg + 1)), .ref b]) (congrArg (fun z => F0 m 518 ls [.int (xs z), .ref b]) ejx230) ?_
    refine x_V (As := [.int (xs (i.toNatClampNeg + 1))]) (rest := []) C (a_X10_force_r l K G H175 ((xs (i.toNatClampNeg + 1))) (y4) hTH175 gb m204 g186 g187 g188 g189) yo_X10_force wM_L_55 ⟨⟨by decide, by decide⟩, show _ ≤ 284929 from Nat.le_trans hc (by decide), show _ ≤ 8247460 from Nat.le_trans hs (by decide)⟩ (x_rv C hTH175 (ci := 10) rfl gb rg_112) rfl hl.1 rfl (Nat.le_of_ble_eq_true rfl) dL_law_518 hSH175 (AE_new hN hSH175.1) (fun vH231 H231 locsH231 pH231 zH231 kH231 hSH231 => ?_)
    obtain ⟨x232, x233, hvH231, ex233, hrH231, g234, g235, g236, g237, mf238, hTH231⟩ := pH231
    subst hvH231
    have f239 : ∀ j : Nat, j < 8 → fI H231 cn j = fI H cn j := fun j hj => (fI_kept (x_lt hTH175 kH231 gcn (by decide))).trans (f190 j hj)
    have f240 : ∀ j : Nat, j < 8 → fI H231 xn j = fI H xn j := fun j hj => (fI_kept (x_lt hTH175 kH231 gxn (by decide))).trans (f191 j hj)
    have f241 : ∀ j : Nat, j < 8 → fI H231 cl j = fI H cl j := fun j hj => (fI_kept (x_lt hTH175 kH231 gcl (by decide))).trans (f192 j hj)
    have f242 : ∀ j : Nat, j < 8 → fI H231 xl j = fI H xl j := fun j hj => (fI_kept (x_lt hTH175 kH231 gxl (by decide))).trans (f193 j hj)
    have f243 : ∀ j : Nat, j < 8 → fI H231 ck j = fI H ck j := fun j hj => (fI_kept (x_lt hTH175 kH231 gck (by decide))).trans (f194 j hj)
    have f244 : ∀ j : Nat, j < 8 → fI H231 xk j = fI H xk j := fun j hj => (fI_kept (x_lt hTH175 kH231 gxk (by decide))).trans (f195 j hj)
    have f245 : ∀ j : Nat, j < 8 → fI H231 dn j = fI H dn j := fun j hj => (fI_kept (x_lt hTH175 kH231 gdn (by decide))).trans (f196 j hj)
    have f246 : ∀ j : Nat, j < 8 → fI H231 dl j = fI H dl j := fun j hj => (fI_kept (x_lt hTH175 kH231 gdl (by decide))).trans (f197 j hj)
    have f247 : ∀ j : Nat, j < 8 → fI H231 dk j = fI H dk j := fun j hj => (fI_kept (x_lt hTH175 kH231 gdk (by decide))).trans (f198 j hj)
    have f248 : ∀ j : Nat, fI H231 iq j = fI H iq j := fun j => (fI_kept (x_lt hTH175 kH231 giq (by decide))).trans (f199 j)
    have m249 := (m200).trans (fR_kept (x_lt hTH175 kH231 ga (by decide))).symm
    have m250 := (m201).trans (fI_kept (x_lt hTH175 kH231 ga (by decide))).symm
    have m251 := (fV_kept (x_lt hTH175 kH231 ga (by decide))).trans m213
    have m252 := (m215).trans (fI_kept (x_lt hTH175 kH231 gkq (by decide))).symm
    have m253 := (m216).trans (fI_kept (x_lt hTH175 kH231 giq (by decide))).symm
    have m254 := (m217).trans (fI_kept (x_lt hTH175 kH231 gkq (by decide))).symm
    have m255 := (m218).trans (fI_kept (x_lt hTH175 kH231 giq (by decide))).symm
    have m256 := (m219).trans (fI_kept (x_lt hTH175 kH231 gkq (by decide))).symm
    have m257 := (m220).trans (fI_kept (x_lt hTH175 kH231 giq (by decide))).symm
    have m258 := (m221).trans (fI_kept (x_lt hTH175 kH231 gkq (by decide))).symm
    have m259 := (m222).trans (fI_kept (x_lt hTH175 kH231 giq (by decide))).symm
    have m260 := (m223).trans (fI_kept (x_lt hTH175 kH231 gkq (by decide))).symm
    have m261 := (m224).trans (fI_kept (x_lt hTH175 kH231 giq (by decide))).symm
    have m262 := (m225).trans (fI_kept (x_lt hTH175 kH231 gkq (by decide))).symm
    have m263 := (m226).trans (fI_kept (x_lt hTH175 kH231 giq (by decide))).symm
    have m264 := (m227).trans (fR_kept (x_lt hTH175 kH231 gkq (by decide))).symm
    have m265 := (m228).trans (fR_kept (x_lt hTH175 kH231 gkq (by decide))).symm
    have m266 := (m229).trans (fR_kept (x_lt hTH175 kH231 gkq (by decide))).symm
    have m267 := (m183).trans (fR_kept (x_lt hTH175 kH231 gw (by decide))).symm
    have m268 := (m184).trans (fR_kept (x_lt hTH175 kH231 gw (by decide))).symm
    have m269 := (m185).trans (fR_kept (x_lt hTH175 kH231 gw (by decide))).symm
    have m270 := (ex177).trans (fI_kept (x_lt hTH175 kH231 gw (by decide))).symm
    have m271 := (ex178).trans (fI_kept (x_lt hTH175 kH231 gw (by decide))).symm
    have m272 := (ex179).trans (fI_kept (x_lt hTH175 kH231 gw (by decide))).symm
    have m273 := (ex180).trans (fI_kept (x_lt hTH175 kH231 gw (by decide))).symm
    have m274 := (ex181).trans (fI_kept (x_lt hTH175 kH231 gw (by decide))).symm
    have m275 := (ex182).trans (fI_kept (x_lt hTH175 kH231 gw (by decide))).symm
    have m276 := (m202).trans (MF.i mf238 (k := 18) (by decide) (by decide)).symm
    have m277 := (m203).trans (MF.i mf238 (k := 1) (by decide) (by decide)).symm
    have m278 := (m205).trans (MF.i mf238 (k := 3) (by decide) (by decide)).symm
    have m279 := (m206).trans (MF.i mf238 (k := 59) (by decide) (by decide)).symm
    have m280 := (m207).trans (MF.i mf238 (k := 62) (by decide) (by decide)).symm
    have m281 := (m208).trans (MF.i mf238 (k := 65) (by decide) (by decide)).symm
    have m282 := (m209).trans (MF.r mf238 (k := 64) (by decide) (by decide)).symm
    have m283 := (m210).trans (MF.r mf238 (k := 66) (by decide) (by decide)).symm
    have m284 := (m211).trans (MF.r mf238 (k := 67) (by decide) (by decide)).symm
    have m285 := (m212).trans (MF.i mf238 (k := 70) (by decide) (by decide)).symm
    have m286 := (m214).trans (MF.r mf238 (k := 73) (by decide) (by decide)).symm
    have bx233 := ty_fi (x := x233) (k := 2) ex233 hTH231 gb rg_112 rfl
    refine W.eq (g2 := F0 m 521 ls [.int x232]) rfl ?_
    clear ex177 ex178 ex179 ex180 ex181 ex182 f190 f191 f192 f193 f194 f195 f196 f197 f198 f199 m183 m184 m185 m200 m201 m202 m203 m204 m205 m206 m207 m208 m209 m210 m211 m212 m213 m214 m215 m216 m217 m218 m219 m220 m221 m222 m223 m224 m225 m226 m227 m228 m229
    refine lv_pop hx hb dL_law_521 rfl ?_
    refine lv_goto (tgt := 1509) hx hb dL_law_522 (by decide) ?_
    exact nx G H231 locsH231 _ _ ls ⟨hTH231, hN, ga, gb, g234, g235, g236, g237, ⟨(by rw [← m250, ← m276]; exact rt), (by rw [← m249, ← m270, ← m277]; omega), (by rw [← m249, ← m271, ← ex233]; omega), (by rw [← m249, ← m272, ← m278]; omega), (by rw [← m249, ← m273, ← m279]; omega), (by rw [← m249, ← m274, ← m280]; omega), (by rw [← m249, ← m275, ← m281]; omega)⟩, Or.inr ⟨kq, m251, gkq, (by rw [← m285]; exact h70), (by rw [← m252, ← m286, ← m253]; exact q1), (by rw [← m254, ← m286, ← m255]; exact q4), (by rw [← m256, ← m286, ← m257]; exact q5), (by rw [← m258, ← m286, ← m259]; exact q10), (by rw [← m260, ← m286, ← m261]; exact q13), (by rw [← m262, ← m286, ← m263]; exact q16), (by rw [← m264, ← m286, ← m260]; exact EQR.of hsn (fun j hj => f245 j (by omega)) (fun j hj => f248 _) (by omega)), (by rw [← m265, ← m286, ← m262]; exact EQR.of hsl (fun j hj => f246 j (by omega)) (fun j hj => f248 _) (by omega)), (by rw [← m266, ← m286, ← m262]; exact EQR.of hsk (fun j hj => f247 j (by omega)) (fun j hj => f248 _) (by omega))⟩, ⟨(by rw [← m249, ← m267, ← m282, ← m280]; exact EQR.of hrn (fun j hj => f239 j (by omega)) (fun j hj => f240 j (by omega)) (by omega)), (by rw [← m249, ← m268, ← m283, ← m281]; exact EQR.of hrl (fun j hj => f241 j (by omega)) (fun j hj => f242 j (by omega)) (by omega)), (by rw [← m249, ← m269, ← m284, ← m281]; exact EQR.of hrk (fun j hj => f243 j (by omega)) (fun j hj => f244 j (by omega)) (by omega))⟩, hSH231⟩ hl ⟨hc, hs, fun h => by have h1 := h.symm.trans m251; cases h1⟩