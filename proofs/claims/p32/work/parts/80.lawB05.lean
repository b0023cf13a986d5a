set_option maxRecDepth 100000 in
set_option maxHeartbeats 8000000 in
theorem lw_c15 {p : Program} {l : Launch} {e : Env} {s : State} {m : MethodId} {below : List Frame} {meth : Method} {c : Code} {K : KE} {b0 L : Nat} {xs : Nat → Int32} {G : Nat → Option Nat} {H : Heap} {locs : List Loc} {a b : Nat} {cells slots : Nat} {ls : Array Slot} {i : Int32} {n : Nat} (D : LC p K s m meth c b0 L xs) (S : SX K s G H locs a b) (hl : lv_has ls 4 [(3, .int i), (2, .ref b), (1, .ref a), (0, .ref b0)]) (hi : 0 ≤ i.toInt ∧ i.toInt + 6 ≤ L) (hn : n ≤ 511) (hB : BD K H a cells slots) (nx : ∀ (G : Nat → Option Nat) (H : Heap) (locs : List Loc) (cells slots : Nat) (ls : Array Slot), SX K s G H locs a b → lv_has ls 4 [(3, .int i), (2, .ref b), (1, .ref a), (0, .ref b0)] → BD K H a cells slots → W p l e room_1 s m #[Value.ref b0] below meth c H locs cells slots (lw_Z below #[Value.ref b0] s) (F0 m 1509 ls [])) : W p l e room_1 s m #[Value.ref b0] below meth c H locs cells slots (lw_Z below #[Value.ref b0] s) (F0 m 773 ls []) := by
  have hI := hi
  obtain ⟨C, hX, hbl, hL⟩ := id D
  obtain ⟨hx, hb, hml, hown, hts, hKT, hr, hlocks, hnm⟩ := id C
  obtain ⟨hT, hN, ga, gb, cg, tu, wd, im, ⟨rt, r1, r4, r5, r10, r13, r16⟩, hk, hnb, hS⟩ := S
  obtain ⟨hc, hs, hB0⟩ := hB
  have n_1 : (1 : Int32).toInt = 1 := rfl
  have n_2 : (2 : Int32).toInt = 2 := rfl
  obtain ⟨w, ew⟩ : ∃ z : Nat, z = fR H a (K.1.2 9 0) := ⟨_, rfl⟩
  have gw := ty_fr (q := w) (k := 0) (u := 0) ew hT ga rg_68 rfl
  rw [← ew] at r1 r4 r5 r10 r13 r16
  obtain ⟨ta, eta⟩ : ∃ z : Int32, z = fI H a (K.1.2 9 3) := ⟨_, rfl⟩
  rw [← eta] at rt
  obtain ⟨tb, etb⟩ : ∃ z : Int32, z = fI H b (K.1.2 10 18) := ⟨_, rfl⟩
  rw [← etb] at rt
  obtain ⟨s1, es1⟩ : ∃ z : Int32, z = fI H w (K.1.2 8 1) := ⟨_, rfl⟩
  rw [← es1] at r1
  obtain ⟨y1, ey1⟩ : ∃ z : Int32, z = fI H b (K.1.2 10 1) := ⟨_, rfl⟩
  rw [← ey1] at r1
  obtain ⟨s4, es4⟩ : ∃ z : Int32, z = fI H w (K.1.2 8 4) := ⟨_, rfl⟩
  rw [← es4] at r4
  obtain ⟨y4, ey4⟩ : ∃ z : Int32, z = fI H b (K.1.2 10 2) := ⟨_, rfl⟩
  rw [← ey4] at r4
  obtain ⟨s5, es5⟩ : ∃ z : Int32, z = fI H w (K.1.2 8 5) := ⟨_, rfl⟩
  rw [← es5] at r5
  obtain ⟨y5, ey5⟩ : ∃ z : Int32, z = fI H b (K.1.2 10 3) := ⟨_, rfl⟩
  rw [← ey5] at r5
  obtain ⟨s10, es10⟩ : ∃ z : Int32, z = fI H w (K.1.2 8 10) := ⟨_, rfl⟩
  rw [← es10] at r10
  obtain ⟨y10, ey10⟩ : ∃ z : Int32, z = fI H b (K.1.2 10 59) := ⟨_, rfl⟩
  rw [← ey10] at r10
  obtain ⟨s13, es13⟩ : ∃ z : Int32, z = fI H w (K.1.2 8 13) := ⟨_, rfl⟩
  rw [← es13] at r13
  obtain ⟨y13, ey13⟩ : ∃ z : Int32, z = fI H b (K.1.2 10 62) := ⟨_, rfl⟩
  rw [← ey13] at r13
  obtain ⟨s16, es16⟩ : ∃ z : Int32, z = fI H w (K.1.2 8 16) := ⟨_, rfl⟩
  rw [← es16] at r16
  obtain ⟨y16, ey16⟩ : ∃ z : Int32, z = fI H b (K.1.2 10 65) := ⟨_, rfl⟩
  rw [← ey16] at r16
  obtain ⟨hb1, hb2, hb3⟩ := hnb
  obtain ⟨cn, ecn⟩ : ∃ z : Nat, z = fR H w (K.1.2 8 12) := ⟨_, rfl⟩
  have gcn := ty_fr (q := cn) (k := 12) (u := 31) ecn hT gw rg_0 rfl
  obtain ⟨xn, exn⟩ : ∃ z : Nat, z = fR H b (K.1.2 10 64) := ⟨_, rfl⟩
  have gxn := ty_fr (q := xn) (k := 64) (u := 157) exn hT gb rg_112 rfl
  obtain ⟨cl, ecl⟩ : ∃ z : Nat, z = fR H w (K.1.2 8 14) := ⟨_, rfl⟩
  have gcl := ty_fr (q := cl) (k := 14) (u := 32) ecl hT gw rg_0 rfl
  obtain ⟨xl, exl⟩ : ∃ z : Nat, z = fR H b (K.1.2 10 66) := ⟨_, rfl⟩
  have gxl := ty_fr (q := xl) (k := 66) (u := 158) exl hT gb rg_112 rfl
  obtain ⟨ck, eck⟩ : ∃ z : Nat, z = fR H w (K.1.2 8 15) := ⟨_, rfl⟩
  have gck := ty_fr (q := ck) (k := 15) (u := 33) eck hT gw rg_0 rfl
  obtain ⟨xk, exk⟩ : ∃ z : Nat, z = fR H b (K.1.2 10 67) := ⟨_, rfl⟩
  have gxk := ty_fr (q := xk) (k := 67) (u := 159) exk hT gb rg_112 rfl
  have hrn : EQR (fun j => fI H cn j) (fun j => fI H xn j) y13.toInt := by rw [ecn, exn, ew, ey13]; exact hb1
  have hrl : EQR (fun j => fI H cl j) (fun j => fI H xl j) y16.toInt := by rw [ecl, exl, ew, ey16]; exact hb2
  have hrk : EQR (fun j => fI H ck j) (fun j => fI H xk j) y16.toInt := by rw [eck, exk, ew, ey16]; exact hb3
  have by13 := ty_fi (x := y13) (k := 62) ey13 hT gb rg_112 rfl
  have by16 := ty_fi (x := y16) (k := 65) ey16 hT gb rg_112 rfl
  have f0cn : ∀ j : Nat, j < 8 → fI H cn j = fI H cn j := fun _ _ => rfl
  have f0xn : ∀ j : Nat, j < 8 → fI H xn j = fI H xn j := fun _ _ => rfl
  have f0cl : ∀ j : Nat, j < 8 → fI H cl j = fI H cl j := fun _ _ => rfl
  have f0xl : ∀ j : Nat, j < 8 → fI H xl j = fI H xl j := fun _ _ => rfl
  have f0ck : ∀ j : Nat, j < 8 → fI H ck j = fI H ck j := fun _ _ => rfl
  have f0xk : ∀ j : Nat, j < 8 → fI H xk j = fI H xk j := fun _ _ => rfl
  rcases hk with ⟨kn, h70⟩ | ⟨kq, kn, gkq, h70, q1, q4, q5, q10, q13, q16, hq1, hq2, hq3⟩
  · skip
    obtain ⟨hi, ehi⟩ : ∃ z : Int32, z = fI H b (K.1.2 10 70) := ⟨_, rfl⟩
    rw [← ehi] at h70
    obtain ⟨hc0, hs0⟩ := hB0 kn
    refine lv_aload_n hx hb dL_law_773 rfl (lv_at hl 2 rfl) ?_
    refine lv_aload_n hx hb dL_law_774 rfl (lv_at hl 3 rfl) ?_
    refine lv_iload_n hx hb dL_law_775 rfl (lv_at hl 0 rfl) ?_
    refine lv_iconst (v := 1) hx hb dL_law_776 (by decide) ?_
    refine lv_iadd hx hb dL_law_777 ?_
    refine lv_topi (fun x101 ex101 => ?_)
    obtain ⟨tx101, ejx101, evx101⟩ := lw_ix (k := 1) ex101 hI hL rfl (by decide)
    clear tx101
    refine va_sld hx hb hX hbl (Nat.not_le.mpr hbl) hS (vp_in_iff.mpr evx101) dL_law_778 ?_
    refine W.eq (g2 := F0 m 779 ls [.int (xs (i.toNatClampNeg + 1)), .ref a]) (congrArg (fun z => F0 m 779 ls [.int (xs z), .ref a]) ejx101) ?_
    refine lv_aload_n hx hb dL_law_779 rfl (lv_at hl 3 rfl) ?_
    refine lv_iload_n hx hb dL_law_780 rfl (lv_at hl 0 rfl) ?_
    refine lv_iconst (v := 2) hx hb dL_law_781 (by decide) ?_
    refine lv_iadd hx hb dL_law_782 ?_
    refine lv_topi (fun x102 ex102 => ?_)
    obtain ⟨tx102, ejx102, evx102⟩ := lw_ix (k := 2) ex102 hI hL rfl (by decide)
    clear tx102
    refine va_sld hx hb hX hbl (Nat.not_le.mpr hbl) hS (vp_in_iff.mpr evx102) dL_law_783 ?_
    refine W.eq (g2 := F0 m 784 ls [.int (xs (i.toNatClampNeg + 2)), .int (xs (i.toNatClampNeg + 1)), .ref a]) (congrArg (fun z => F0 m 784 ls [.int (xs z), .int (xs (i.toNatClampNeg + 1)), .ref a]) ejx102) ?_
    refine x_V (As := [.int (xs (i.toNatClampNeg + 1)), .int (xs (i.toNatClampNeg + 2))]) (rest := []) C (a_X9_state l K G H ((xs (i.toNatClampNeg + 1))) ((xs (i.toNatClampNeg + 2))) hT ga) yo_X9_state wM_L_80 ⟨⟨by decide, by decide⟩, show _ ≤ 284929 from Nat.le_trans hc (by decide), show _ ≤ 8247460 from Nat.le_trans hs (by decide)⟩ (x_rv C hT (ci := 9) rfl ga rg_68) rfl hl.1 rfl (Nat.le_of_ble_eq_true rfl) dL_law_784 hS (AE_new hN hS.1) (fun vH103 H103 locsH103 pH103 zH103 kH103 hSH103 => ?_)
    obtain ⟨x104, hvH103, hTH103⟩ := pH103
    subst hvH103
    have g105 : CG (avw K H103 b) := CG.congr (fun k hk j => av_eff hT kH103 gb (by decide) (CG_eff [83, 84, 110] (by decide) k hk)) cg
    have g106 : TU (avw K H103 b) (svw K H103 b) := TU.congr (fun k hk j => av_eff hT kH103 gb (by decide) (TU_eff [83, 84, 110] (by decide) k hk)) (fun k hk => sv_eff hT kH103 gb (by decide)) tu
    have g107 : WD (avw K H103 b) := WD.congr (fun k hk j => av_eff hT kH103 gb (by decide) (WD_eff [83, 84, 110] (by decide) k hk)) wd
    have g108 : IM (avw K H103 b) := IM.congr (fun k hk j => av_eff hT kH103 gb (by decide) (IM_eff [83, 84, 110] (by decide) k hk)) im
    have f109 : ∀ j : Nat, j < 8 → fI H103 cn j = fI H cn j := fun j hj => (fI_kept (x_lt hT kH103 gcn (by decide))).trans (f0cn j hj)
    have f110 : ∀ j : Nat, j < 8 → fI H103 xn j = fI H xn j := fun j hj => (fI_kept (x_lt hT kH103 gxn (by decide))).trans (f0xn j hj)
    have f111 : ∀ j : Nat, j < 8 → fI H103 cl j = fI H cl j := fun j hj => (fI_kept (x_lt hT kH103 gcl (by decide))).trans (f0cl j hj)
    have f112 : ∀ j : Nat, j < 8 → fI H103 xl j = fI H xl j := fun j hj => (fI_kept (x_lt hT kH103 gxl (by decide))).trans (f0xl j hj)
    have f113 : ∀ j : Nat, j < 8 → fI H103 ck j = fI H ck j := fun j hj => (fI_kept (x_lt hT kH103 gck (by decide))).trans (f0ck j hj)
    have f114 : ∀ j : Nat, j < 8 → fI H103 xk j = fI H xk j := fun j hj => (fI_kept (x_lt hT kH103 gxk (by decide))).trans (f0xk j hj)
    have m115 := (ew).trans (fR_kept (x_lt hT kH103 ga (by decide))).symm
    have m116 := (eta).trans (fI_kept (x_lt hT kH103 ga (by decide))).symm
    have m117 := (etb).trans (fI_kept (x_lt hT kH103 gb (by decide))).symm
    have m118 := (es1).trans (fI_kept (x_lt hT kH103 gw (by decide))).symm
    have m119 := (ey1).trans (fI_kept (x_lt hT kH103 gb (by decide))).symm
    have m120 := (es4).trans (fI_kept (x_lt hT kH103 gw (by decide))).symm
    have m121 := (ey4).trans (fI_kept (x_lt hT kH103 gb (by decide))).symm
    have m122 := (es5).trans (fI_kept (x_lt hT kH103 gw (by decide))).symm
    have m123 := (ey5).trans (fI_kept (x_lt hT kH103 gb (by decide))).symm
    have m124 := (es10).trans (fI_kept (x_lt hT kH103 gw (by decide))).symm
    have m125 := (ey10).trans (fI_kept (x_lt hT kH103 gb (by decide))).symm
    have m126 := (es13).trans (fI_kept (x_lt hT kH103 gw (by decide))).symm
    have m127 := (ey13).trans (fI_kept (x_lt hT kH103 gb (by decide))).symm
    have m128 := (es16).trans (fI_kept (x_lt hT kH103 gw (by decide))).symm
    have m129 := (ey16).trans (fI_kept (x_lt hT kH103 gb (by decide))).symm
    have m130 := (ecn).trans (fR_kept (x_lt hT kH103 gw (by decide))).symm
    have m131 := (exn).trans (fR_kept (x_lt hT kH103 gb (by decide))).symm
    have m132 := (ecl).trans (fR_kept (x_lt hT kH103 gw (by decide))).symm
    have m133 := (exl).trans (fR_kept (x_lt hT kH103 gb (by decide))).symm
    have m134 := (eck).trans (fR_kept (x_lt hT kH103 gw (by decide))).symm
    have m135 := (exk).trans (fR_kept (x_lt hT kH103 gb (by decide))).symm
    have m136 := (ehi).trans (fI_kept (x_lt hT kH103 gb (by decide))).symm
    have m137 := (fV_kept (x_lt hT kH103 ga (by decide))).trans kn
    refine W.eq (g2 := F0 m 787 ls [.int x104]) rfl ?_
    clear eck ecl ecn ehi es1 es10 es13 es16 es4 es5 eta etb ew exk exl exn ey1 ey10 ey13 ey16 ey4 ey5 f0ck f0cl f0cn f0xk f0xl f0xn kn
    refine lv_pop hx hb dL_law_787 rfl ?_
    refine lv_aload_n hx hb dL_law_788 rfl (lv_at hl 1 rfl) ?_
    refine lv_aload_n hx hb dL_law_789 rfl (lv_at hl 3 rfl) ?_
    refine lv_iload_n hx hb dL_law_790 rfl (lv_at hl 0 rfl) ?_
    refine lv_iconst (v := 1) hx hb dL_law_791 (by decide) ?_
    refine lv_iadd hx hb dL_law_792 ?_
    refine lv_topi (fun x138 ex138 => ?_)
    obtain ⟨tx138, ejx138, evx138⟩ := lw_ix (k := 1) ex138 hI hL rfl (by decide)
    clear tx138
    refine va_sld hx hb hX hbl (Nat.not_le.mpr hbl) hSH103 (vp_in_iff.mpr evx138) dL_law_793 ?_
    refine W.eq (g2 := F0 m 794 ls [.int (xs (i.toNatClampNeg + 1)), .ref b]) (congrArg (fun z => F0 m 794 ls [.int (xs z), .ref b]) ejx138) ?_
    refine lv_aload_n hx hb dL_law_794 rfl (lv_at hl 3 rfl) ?_
    refine lv_iload_n hx hb dL_law_795 rfl (lv_at hl 0 rfl) ?_
    refine lv_iconst (v := 2) hx hb dL_law_796 (by decide) ?_
    refine lv_iadd hx hb dL_law_797 ?_
    refine lv_topi (fun x139 ex139 => ?_)
    obtain ⟨tx139, ejx139, evx139⟩ := lw_ix (k := 2) ex139 hI hL rfl (by decide)
    clear tx139
    refine va_sld hx hb hX hbl (Nat.not_le.mpr hbl) hSH103 (vp_in_iff.mpr evx139) dL_law_798 ?_
    refine W.eq (g2 := F0 m 799 ls [.int (xs (i.toNatClampNeg + 2)), .int (xs (i.toNatClampNeg + 1)), .ref b]) (congrArg (fun z => F0 m 799 ls [.int (xs z), .int (xs (i.toNatClampNeg + 1)), .ref b]) ejx139) ?_
    refine x_V (As := [.int (xs (i.toNatClampNeg + 1)), .int (xs (i.toNatClampNeg + 2))]) (rest := []) C (a_X10_state l K G H103 ((xs (i.toNatClampNeg + 1))) ((xs (i.toNatClampNeg + 2))) hTH103 gb g105 g106 g107 g108) yo_X10_state wM_L_83 ⟨⟨by decide, by decide⟩, show _ ≤ 284929 from Nat.le_trans hc (by decide), show _ ≤ 8247460 from Nat.le_trans hs (by decide)⟩ (x_rv C hTH103 (ci := 10) rfl gb rg_112) rfl hl.1 rfl (Nat.le_of_ble_eq_true rfl) dL_law_799 hSH103 (AE_new hN hSH103.1) (fun vH140 H140 locsH140 pH140 zH140 kH140 hSH140 => ?_)
    obtain ⟨x141, hvH140, g142, g143, g144, g145, mf146, hTH140⟩ := pH140
    subst hvH140
    have f147 : ∀ j : Nat, j < 8 → fI H140 cn j = fI H cn j := fun j hj => (fI_kept (x_lt hTH103 kH140 gcn (by decide))).trans (f109 j hj)
    have f148 : ∀ j : Nat, j < 8 → fI H140 xn j = fI H xn j := fun j hj => (fI_kept (x_lt hTH103 kH140 gxn (by decide))).trans (f110 j hj)
    have f149 : ∀ j : Nat, j < 8 → fI H140 cl j = fI H cl j := fun j hj => (fI_kept (x_lt hTH103 kH140 gcl (by decide))).trans (f111 j hj)
    have f150 : ∀ j : Nat, j < 8 → fI H140 xl j = fI H xl j := fun j hj => (fI_kept (x_lt hTH103 kH140 gxl (by decide))).trans (f112 j hj)
    have f151 : ∀ j : Nat, j < 8 → fI H140 ck j = fI H ck j := fun j hj => (fI_kept (x_lt hTH103 kH140 gck (by decide))).trans (f113 j hj)
    have f152 : ∀ j : Nat, j < 8 → fI H140 xk j = fI H xk j := fun j hj => (fI_kept (x_lt hTH103 kH140 gxk (by decide))).trans (f114 j hj)
    have m153 := (m115).trans (fR_kept (x_lt hTH103 kH140 ga (by decide))).symm
    have m154 := (m116).trans (fI_kept (x_lt hTH103 kH140 ga (by decide))).symm
    have m155 := (m118).trans (fI_kept (x_lt hTH103 kH140 gw (by decide))).symm
    have m156 := (m120).trans (fI_kept (x_lt hTH103 kH140 gw (by decide))).symm
    have m157 := (m122).trans (fI_kept (x_lt hTH103 kH140 gw (by decide))).symm
    have m158 := (m124).trans (fI_kept (x_lt hTH103 kH140 gw (by decide))).symm
    have m159 := (m126).trans (fI_kept (x_lt hTH103 kH140 gw (by decide))).symm
    have m160 := (m128).trans (fI_kept (x_lt hTH103 kH140 gw (by decide))).symm
    have m161 := (m130).trans (fR_kept (x_lt hTH103 kH140 gw (by decide))).symm
    have m162 := (m132).trans (fR_kept (x_lt hTH103 kH140 gw (by decide))).symm
    have m163 := (m134).trans (fR_kept (x_lt hTH103 kH140 gw (by decide))).symm
    have m164 := (fV_kept (x_lt hTH103 kH140 ga (by decide))).trans m137
    have m165 := (m117).trans (MF.i mf146 (k := 18) (by decide) (by decide)).symm
    have m166 := (m119).trans (MF.i mf146 (k := 1) (by decide) (by decide)).symm
    have m167 := (m121).trans (MF.i mf146 (k := 2) (by decide) (by decide)).symm
    have m168 := (m123).trans (MF.i mf146 (k := 3) (by decide) (by decide)).symm
    have m169 := (m125).trans (MF.i mf146 (k := 59) (by decide) (by decide)).symm
    have m170 := (m127).trans (MF.i mf146 (k := 62) (by decide) (by decide)).symm
    have m171 := (m129).trans (MF.i mf146 (k := 65) (by decide) (by decide)).symm
    have m172 := (m131).trans (MF.r mf146 (k := 64) (by decide) (by decide)).symm
    have m173 := (m133).trans (MF.r mf146 (k := 66) (by decide) (by decide)).symm
    have m174 := (m135).trans (MF.r mf146 (k := 67) (by decide) (by decide)).symm
    have m175 := (m136).trans (MF.i mf146 (k := 70) (by decide) (by decide)).symm
    refine W.eq (g2 := F0 m 802 ls [.int x141]) rfl ?_
    clear f109 f110 f111 f112 f113 f114 m115 m116 m117 m118 m119 m120 m121 m122 m123 m124 m125 m126 m127 m128 m129 m130 m131 m132 m133 m134 m135 m136 m137
    refine lv_pop hx hb dL_law_802 rfl ?_
    refine lv_goto (tgt := 1509) hx hb dL_law_803 (by decide) ?_
    exact nx G H140 locsH140 _ _ ls ⟨hTH140, hN, ga, gb, g142, g143, g144, g145, ⟨(by rw [← m154, ← m165]; exact rt), (by rw [← m153, ← m155, ← m166]; exact r1), (by rw [← m153, ← m156, ← m167]; exact r4), (by rw [← m153, ← m157, ← m168]; exact r5), (by rw [← m153, ← m158, ← m169]; exact r10), (by rw [← m153, ← m159, ← m170]; exact r13), (by rw [← m153, ← m160, ← m171]; exact r16)⟩, Or.inl ⟨m164, (by rw [← m175]; exact h70)⟩, ⟨(by rw [← m153, ← m161, ← m172, ← m170]; exact EQR.of hrn (fun j hj => f147 j (by omega)) (fun j hj => f148 j (by omega)) (by omega)), (by rw [← m153, ← m162, ← m173, ← m171]; exact EQR.of hrl (fun j hj => f149 j (by omega)) (fun j hj => f150 j (by omega)) (by omega)), (by rw [← m153, ← m163, ← m174, ← m171]; exact EQR.of hrk (fun j hj => f151 j (by omega)) (fun j hj => f152 j (by omega)) (by omega))⟩, hSH140⟩ hl ⟨hc, hs, fun _ => ⟨hc0, hs0⟩⟩
  · skip
    obtain ⟨hi, ehi⟩ : ∃ z : Int32, z = fI H b (K.1.2 10 70) := ⟨_, rfl⟩
    rw [← ehi] at h70
    obtain ⟨iq, eiq⟩ : ∃ z : Nat, z = fR H b (K.1.2 10 73) := ⟨_, rfl⟩
    have giq := ty_fr (q := iq) (k := 73) (u := 162) eiq hT gb rg_112 rfl
    rw [← eiq] at q1 q4 q5 q10 q13 q16
    obtain ⟨k1, ek1⟩ : ∃ z : Int32, z = fI H kq (K.1.2 8 1) := ⟨_, rfl⟩
    rw [← ek1] at q1
    obtain ⟨i1, ei1⟩ : ∃ z : Int32, z = fI H iq ((0 : Int32).toNatClampNeg) := ⟨_, rfl⟩
    rw [← ei1] at q1
    obtain ⟨k4, ek4⟩ : ∃ z : Int32, z = fI H kq (K.1.2 8 4) := ⟨_, rfl⟩
    rw [← ek4] at q4
    obtain ⟨i4, ei4⟩ : ∃ z : Int32, z = fI H iq ((1 : Int32).toNatClampNeg) := ⟨_, rfl⟩
    rw [← ei4] at q4
    obtain ⟨k5, ek5⟩ : ∃ z : Int32, z = fI H kq (K.1.2 8 5) := ⟨_, rfl⟩
    rw [← ek5] at q5
    obtain ⟨i5, ei5⟩ : ∃ z : Int32, z = fI H iq ((2 : Int32).toNatClampNeg) := ⟨_, rfl⟩
    rw [← ei5] at q5
    obtain ⟨k10, ek10⟩ : ∃ z : Int32, z = fI H kq (K.1.2 8 10) := ⟨_, rfl⟩
    rw [← ek10] at q10
    obtain ⟨i10, ei10⟩ : ∃ z : Int32, z = fI H iq ((3 : Int32).toNatClampNeg) := ⟨_, rfl⟩
    rw [← ei10] at q10
    obtain ⟨k13, ek13⟩ : ∃ z : Int32, z = fI H kq (K.1.2 8 13) := ⟨_, rfl⟩
    rw [← ek13] at q13
    obtain ⟨i13, ei13⟩ : ∃ z : Int32, z = fI H iq ((4 : Int32).toNatClampNeg) := ⟨_, rfl⟩
    rw [← ei13] at q13
    obtain ⟨k16, ek16⟩ : ∃ z : Int32, z = fI H kq (K.1.2 8 16) := ⟨_, rfl⟩
    rw [← ek16] at q16
    obtain ⟨i16, ei16⟩ : ∃ z : Int32, z = fI H iq ((5 : Int32).toNatClampNeg) := ⟨_, rfl⟩
    rw [← ei16] at q16
    obtain ⟨dn, edn⟩ : ∃ z : Nat, z = fR H kq (K.1.2 8 12) := ⟨_, rfl⟩
    have gdn := ty_fr (q := dn) (k := 12) (u := 65) edn hT gkq rg_34 rfl
    obtain ⟨dl, edl⟩ : ∃ z : Nat, z = fR H kq (K.1.2 8 14) := ⟨_, rfl⟩
    have gdl := ty_fr (q := dl) (k := 14) (u := 66) edl hT gkq rg_34 rfl
    obtain ⟨dk, edk⟩ : ∃ z : Nat, z = fR H kq (K.1.2 8 15) := ⟨_, rfl⟩
    have gdk := ty_fr (q := dk) (k := 15) (u := 67) edk hT gkq rg_34 rfl
    have hsn : EQR (fun j => fI H dn j) (fun j => fI H iq (8877 + 4 * j)) k13.toInt := by rw [edn, eiq, ek13]; exact hq1
    have hsl : EQR (fun j => fI H dl j) (fun j => fI H iq (8878 + 4 * j)) k16.toInt := by rw [edl, eiq, ek16]; exact hq2
    have hsk : EQR (fun j => fI H dk j) (fun j => fI H iq (8879 + 4 * j)) k16.toInt := by rw [edk, eiq, ek16]; exact hq3
    have bk13 := ty_fi (x := k13) (k := 13) ek13 hT gkq rg_34 rfl
    have bk16 := ty_fi (x := k16) (k := 16) ek16 hT gkq rg_34 rfl
    have f0dn : ∀ j : Nat, j < 8 → fI H dn j = fI H dn j := fun _ _ => rfl
    have f0dl : ∀ j : Nat, j < 8 → fI H dl j = fI H dl j := fun _ _ => rfl
    have f0dk : ∀ j : Nat, j < 8 → fI H dk j = fI H dk j := fun _ _ => rfl
    have f0i : ∀ j : Nat, fI H iq j = fI H iq j := fun _ => rfl
    refine lv_aload_n hx hb dL_law_773 rfl (lv_at hl 2 rfl) ?_
    refine lv_aload_n hx hb dL_law_774 rfl (lv_at hl 3 rfl) ?_
    refine lv_iload_n hx hb dL_law_775 rfl (lv_at hl 0 rfl) ?_
    refine lv_iconst (v := 1) hx hb dL_law_776 (by decide) ?_
    refine lv_iadd hx hb dL_law_777 ?_
    refine lv_topi (fun x176 ex176 => ?_)
    obtain ⟨tx176, ejx176, evx176⟩ := lw_ix (k := 1) ex176 hI hL rfl (by decide)
    clear tx176
    refine va_sld hx hb hX hbl (Nat.not_le.mpr hbl) hS (vp_in_iff.mpr evx176) dL_law_778 ?_
    refine W.eq (g2 := F0 m 779 ls [.int (xs (i.toNatClampNeg + 1)), .ref a]) (congrArg (fun z => F0 m 779 ls [.int (xs z), .ref a]) ejx176) ?_
    refine lv_aload_n hx hb dL_law_779 rfl (lv_at hl 3 rfl) ?_
    refine lv_iload_n hx hb dL_law_780 rfl (lv_at hl 0 rfl) ?_
    refine lv_iconst (v := 2) hx hb dL_law_781 (by decide) ?_
    refine lv_iadd hx hb dL_law_782 ?_
    refine lv_topi (fun x177 ex177 => ?_)
    obtain ⟨tx177, ejx177, evx177⟩ := lw_ix (k := 2) ex177 hI hL rfl (by decide)
    clear tx177
    refine va_sld hx hb hX hbl (Nat.not_le.mpr hbl) hS (vp_in_iff.mpr evx177) dL_law_783 ?_
    refine W.eq (g2 := F0 m 784 ls [.int (xs (i.toNatClampNeg + 2)), .int (xs (i.toNatClampNeg + 1)), .ref a]) (congrArg (fun z => F0 m 784 ls [.int (xs z), .int (xs (i.toNatClampNeg + 1)), .ref a]) ejx177) ?_
    refine x_V (As := [.int (xs (i.toNatClampNeg + 1)), .int (xs (i.toNatClampNeg + 2))]) (rest := []) C (a_X9_state l K G H ((xs (i.toNatClampNeg + 1))) ((xs (i.toNatClampNeg + 2))) hT ga) yo_X9_state wM_L_80 ⟨⟨by decide, by decide⟩, show _ ≤ 284929 from Nat.le_trans hc (by decide), show _ ≤ 8247460 from Nat.le_trans hs (by decide)⟩ (x_rv C hT (ci := 9) rfl ga rg_68) rfl hl.1 rfl (Nat.le_of_ble_eq_true rfl) dL_law_784 hS (AE_new hN hS.1) (fun vH178 H178 locsH178 pH178 zH178 kH178 hSH178 => ?_)
    obtain ⟨x179, hvH178, hTH178⟩ := pH178
    subst hvH178
    have g180 : CG (avw K H178 b) := CG.congr (fun k hk j => av_eff hT kH178 gb (by decide) (CG_eff [83, 84, 110] (by decide) k hk)) cg
    have g181 : TU (avw K H178 b) (svw K H178 b) := TU.congr (fun k hk j => av_eff hT kH178 gb (by decide) (TU_eff [83, 84, 110] (by decide) k hk)) (fun k hk => sv_eff hT kH178 gb (by decide)) tu
    have g182 : WD (avw K H178 b) := WD.congr (fun k hk j => av_eff hT kH178 gb (by decide) (WD_eff [83, 84, 110] (by decide) k hk)) wd
    have g183 : IM (avw K H178 b) := IM.congr (fun k hk j => av_eff hT kH178 gb (by decide) (IM_eff [83, 84, 110] (by decide) k hk)) im
    have f184 : ∀ j : Nat, j < 8 → fI H178 cn j = fI H cn j := fun j hj => (fI_kept (x_lt hT kH178 gcn (by decide))).trans (f0cn j hj)
    have f185 : ∀ j : Nat, j < 8 → fI H178 xn j = fI H xn j := fun j hj => (fI_kept (x_lt hT kH178 gxn (by decide))).trans (f0xn j hj)
    have f186 : ∀ j : Nat, j < 8 → fI H178 cl j = fI H cl j := fun j hj => (fI_kept (x_lt hT kH178 gcl (by decide))).trans (f0cl j hj)
    have f187 : ∀ j : Nat, j < 8 → fI H178 xl j = fI H xl j := fun j hj => (fI_kept (x_lt hT kH178 gxl (by decide))).trans (f0xl j hj)
    have f188 : ∀ j : Nat, j < 8 → fI H178 ck j = fI H ck j := fun j hj => (fI_kept (x_lt hT kH178 gck (by decide))).trans (f0ck j hj)
    have f189 : ∀ j : Nat, j < 8 → fI H178 xk j = fI H xk j := fun j hj => (fI_kept (x_lt hT kH178 gxk (by decide))).trans (f0xk j hj)
    have f190 : ∀ j : Nat, j < 8 → fI H178 dn j = fI H dn j := fun j hj => (fI_kept (x_lt hT kH178 gdn (by decide))).trans (f0dn j hj)
    have f191 : ∀ j : Nat, j < 8 → fI H178 dl j = fI H dl j := fun j hj => (fI_kept (x_lt hT kH178 gdl (by decide))).trans (f0dl j hj)
    have f192 : ∀ j : Nat, j < 8 → fI H178 dk j = fI H dk j := fun j hj => (fI_kept (x_lt hT kH178 gdk (by decide))).trans (f0dk j hj)
    have f193 : ∀ j : Nat, fI H178 iq j = fI H iq j := fun j => (fI_kept (x_lt hT kH178 giq (by decide))).trans (f0i j)
    have m194 := (ew).trans (fR_kept (x_lt hT kH178 ga (by decide))).symm
    have m195 := (eta).trans (fI_kept (x_lt hT kH178 ga (by decide))).symm
    have m196 := (etb).trans (fI_kept (x_lt hT kH178 gb (by decide))).symm
    have m197 := (es1).trans (fI_kept (x_lt hT kH178 gw (by decide))).symm
    have m198 := (ey1).trans (fI_kept (x_lt hT kH178 gb (by decide))).symm
    have m199 := (es4).trans (fI_kept (x_lt hT kH178 gw (by decide))).symm
    have m200 := (ey4).trans (fI_kept (x_lt hT kH178 gb (by decide))).symm
    have m201 := (es5).trans (fI_kept (x_lt hT kH178 gw (by decide))).symm
    have m202 := (ey5).trans (fI_kept (x_lt hT kH178 gb (by decide))).symm
    have m203 := (es10).trans (fI_kept (x_lt hT kH178 gw (by decide))).symm
    have m204 := (ey10).trans (fI_kept (x_lt hT kH178 gb (by decide))).symm
    have m205 := (es13).trans (fI_kept (x_lt hT kH178 gw (by decide))).symm
    have m206 := (ey13).trans (fI_kept (x_lt hT kH178 gb (by decide))).symm
    have m207 := (es16).trans (fI_kept (x_lt hT kH178 gw (by decide))).symm
    have m208 := (ey16).trans (fI_kept (x_lt hT kH178 gb (by decide))).symm
    have m209 := (ecn).trans (fR_kept (x_lt hT kH178 gw (by decide))).symm
    have m210 := (exn).trans (fR_kept (x_lt hT kH178 gb (by decide))).symm
    have m211 := (ecl).trans (fR_kept (x_lt hT kH178 gw (by decide))).symm
    have m212 := (exl).trans (fR_kept (x_lt hT kH178 gb (by decide))).symm
    have m213 := (eck).trans (fR_kept (x_lt hT kH178 gw (by decide))).symm
    have m214 := (exk).trans (fR_kept (x_lt hT kH178 gb (by decide))).symm
    have m215 := (ehi).trans (fI_kept (x_lt hT kH178 gb (by decide))).symm
    have m216 := (fV_kept (x_lt hT kH178 ga (by decide))).trans kn
    have m217 := (eiq).trans (fR_kept (x_lt hT kH178 gb (by decide))).symm
    have m218 := (ek1).trans (fI_kept (x_lt hT kH178 gkq (by decide))).symm
    have m219 := (ei1).trans (fI_kept (x_lt hT kH178 giq (by decide))).symm
    have m220 := (ek4).trans (fI_kept (x_lt hT kH178 gkq (by decide))).symm
    have m221 := (ei4).trans (fI_kept (x_lt hT kH178 giq (by decide))).symm
    have m222 := (ek5).trans (fI_kept (x_lt hT kH178 gkq (by decide))).symm
    have m223 := (ei5).trans (fI_kept (x_lt hT kH178 giq (by decide))).symm
    have m224 := (ek10).trans (fI_kept (x_lt hT kH178 gkq (by decide))).symm
    have m225 := (ei10).trans (fI_kept (x_lt hT kH178 giq (by decide))).symm
    have m226 := (ek13).trans (fI_kept (x_lt hT kH178 gkq (by decide))).symm
    have m227 := (ei13).trans (fI_kept (x_lt hT kH178 giq (by decide))).symm
    have m228 := (ek16).trans (fI_kept (x_lt hT kH178 gkq (by decide))).symm
    have m229 := (ei16).trans (fI_kept (x_lt hT kH178 giq (by decide))).symm
    have m230 := (edn).trans (fR_kept (x_lt hT kH178 gkq (by decide))).symm
    have m231 := (edl).trans (fR_kept (x_lt hT kH178 gkq (by decide))).symm
    have m232 := (edk).trans (fR_kept (x_lt hT kH178 gkq (by decide))).symm
    refine W.eq (g2 := F0 m 787 ls [.int x179]) rfl ?_
    clear eck ecl ecn edk edl edn ehi ei1 ei10 ei13 ei16 ei4 ei5 eiq ek1 ek10 ek13 ek16 ek4 ek5 es1 es10 es13 es16 es4 es5 eta etb ew exk exl exn ey1 ey10 ey13 ey16 ey4 ey5 f0ck f0cl f0cn f0dk f0dl f0dn f0i f0xk f0xl f0xn kn
    refine lv_pop hx hb dL_law_787 rfl ?_
    refine lv_aload_n hx hb dL_law_788 rfl (lv_at hl 1 rfl) ?_
    refine lv_aload_n hx hb dL_law_789 rfl (lv_at hl 3 rfl) ?_
    refine lv_iload_n hx hb dL_law_790 rfl (lv_at hl 0 rfl) ?_
    refine lv_iconst (v := 1) hx hb dL_law_791 (by decide) ?_
    refine lv_iadd hx hb dL_law_792 ?_
    refine lv_topi (fun x233 ex233 => ?_)
    obtain ⟨tx233, ejx233, evx233⟩ := lw_ix (k := 1) ex233 hI hL rfl (by decide)
    clear tx233
    refine va_sld hx hb hX hbl (Nat.not_le.mpr hbl) hSH178 (vp_in_iff.mpr evx233) dL_law_793 ?_
    refine W.eq (g2 := F0 m 794 ls [.int (xs (i.toNatClampNeg + 1)), .ref b]) (congrArg (fun z => F0 m 794 ls [.int (xs z), .ref b]) ejx233) ?_
    refine lv_aload_n hx hb dL_law_794 rfl (lv_at hl 3 rfl) ?_
    refine lv_iload_n hx hb dL_law_795 rfl (lv_at hl 0 rfl) ?_
    refine lv_iconst (v := 2) hx hb dL_law_796 (by decide) ?_
    refine lv_iadd hx hb dL_law_797 ?_
    refine lv_topi (fun x234 ex234 => ?_)
    obtain ⟨tx234, ejx234, evx234⟩ := lw_ix (k := 2) ex234 hI hL rfl (by decide)
    clear tx234
    refine va_sld hx hb hX hbl (Nat.not_le.mpr hbl) hSH178 (vp_in_iff.mpr evx234) dL_law_798 ?_
    refine W.eq (g2 := F0 m 799 ls [.int (xs (i.toNatClampNeg + 2)), .int (xs (i.toNatClampNeg + 1)), .ref b]) (congrArg (fun z => F0 m 799 ls [.int (xs z), .int (xs (i.toNatClampNeg + 1)), .ref b]) ejx234) ?_
    refine x_V (As := [.int (xs (i.toNatClampNeg + 1)), .int (xs (i.toNatClampNeg + 2))]) (rest := []) C (a_X10_state l K G H178 ((xs (i.toNatClampNeg + 1))) ((xs (i.toNatClampNeg + 2))) hTH178 gb g180 g181 g182 g183) yo_X10_state wM_L_83 ⟨⟨by decide, by decide⟩, show _ ≤ 284929 from Nat.le_trans hc (by decide), show _ ≤ 8247460 from Nat.le_trans hs (by decide)⟩ (x_rv C hTH178 (ci := 10) rfl gb rg_112) rfl hl.1 rfl (Nat.le_of_ble_eq_true rfl) dL_law_799 hSH178 (AE_new hN hSH178.1) (fun vH235 H235 locsH235 pH235 zH235 kH235 hSH235 => ?_)
    obtain ⟨x236, hvH235, g237, g238, g239, g240, mf241, hTH235⟩ := pH235
    subst hvH235
    have f242 : ∀ j : Nat, j < 8 → fI H235 cn j = fI H cn j := fun j hj => (fI_kept (x_lt hTH178 kH235 gcn (by decide))).trans (f184 j hj)
    have f243 : ∀ j : Nat, j < 8 → fI H235 xn j = fI H xn j := fun j hj => (fI_kept (x_lt hTH178 kH235 gxn (by decide))).trans (f185 j hj)
    have f244 : ∀ j : Nat, j < 8 → fI H235 cl j = fI H cl j := fun j hj => (fI_kept (x_lt hTH178 kH235 gcl (by decide))).trans (f186 j hj)
    have f245 : ∀ j : Nat, j < 8 → fI H235 xl j = fI H xl j := fun j hj => (fI_kept (x_lt hTH178 kH235 gxl (by decide))).trans (f187 j hj)
    have f246 : ∀ j : Nat, j < 8 → fI H235 ck j = fI H ck j := fun j hj => (fI_kept (x_lt hTH178 kH235 gck (by decide))).trans (f188 j hj)
    have f247 : ∀ j : Nat, j < 8 → fI H235 xk j = fI H xk j := fun j hj => (fI_kept (x_lt hTH178 kH235 gxk (by decide))).trans (f189 j hj)
    have f248 : ∀ j : Nat, j < 8 → fI H235 dn j = fI H dn j := fun j hj => (fI_kept (x_lt hTH178 kH235 gdn (by decide))).trans (f190 j hj)
    have f249 : ∀ j : Nat, j < 8 → fI H235 dl j = fI H dl j := fun j hj => (fI_kept (x_lt hTH178 kH235 gdl (by decide))).trans (f191 j hj)
    have f250 : ∀ j : Nat, j < 8 → fI H235 dk j = fI H dk j := fun j hj => (fI_kept (x_lt hTH178 kH235 gdk (by decide))).trans (f192 j hj)
    have f251 : ∀ j : Nat, fI H235 iq j = fI H iq j := fun j => (fI_kept (x_lt hTH178 kH235 giq (by decide))).trans (f193 j)
    have m252 := (m194).trans (fR_kept (x_lt hTH178 kH235 ga (by decide))).symm
    have m253 := (m195).trans (fI_kept (x_lt hTH178 kH235 ga (by decide))).symm
    have m254 := (m197).trans (fI_kept (x_lt hTH178 kH235 gw (by decide))).symm
    have m255 := (m199).trans (fI_kept (x_lt hTH178 kH235 gw (by decide))).symm
    have m256 := (m201).trans (fI_kept (x_lt hTH178 kH235 gw (by decide))).symm
    have m257 := (m203).trans (fI_kept (x_lt hTH178 kH235 gw (by decide))).symm
    have m258 := (m205).trans (fI_kept (x_lt hTH178 kH235 gw (by decide))).symm
    have m259 := (m207).trans (fI_kept (x_lt hTH178 kH235 gw (by decide))).symm
    have m260 := (m209).trans (fR_kept (x_lt hTH178 kH235 gw (by decide))).symm
    have m261 := (m211).trans (fR_kept (x_lt hTH178 kH235 gw (by decide))).symm
    have m262 := (m213).trans (fR_kept (x_lt hTH178 kH235 gw (by decide))).symm
    have m263 := (fV_kept (x_lt hTH178 kH235 ga (by decide))).trans m216
    have m264 := (m218).trans (fI_kept (x_lt hTH178 kH235 gkq (by decide))).symm
    have m265 := (m219).trans (fI_kept (x_lt hTH178 kH235 giq (by decide))).symm
    have m266 := (m220).trans (fI_kept (x_lt hTH178 kH235 gkq (by decide))).symm
    have m267 := (m221).trans (fI_kept (x_lt hTH178 kH235 giq (by decide))).symm
    have m268 := (m222).trans (fI_kept (x_lt hTH178 kH235 gkq (by decide))).symm
    have m269 := (m223).trans (fI_kept (x_lt hTH178 kH235 giq (by decide))).symm
    have m270 := (m224).trans (fI_kept (x_lt hTH178 kH235 gkq (by decide))).symm
    have m271 := (m225).trans (fI_kept (x_lt hTH178 kH235 giq (by decide))).symm
    have m272 := (m226).trans (fI_kept (x_lt hTH178 kH235 gkq (by decide))).symm
    have m273 := (m227).trans (fI_kept (x_lt hTH178 kH235 giq (by decide))).symm
    have m274 := (m228).trans (fI_kept (x_lt hTH178 kH235 gkq (by decide))).symm
    have m275 := (m229).trans (fI_kept (x_lt hTH178 kH235 giq (by decide))).symm
    have m276 := (m230).trans (fR_kept (x_lt hTH178 kH235 gkq (by decide))).symm
    have m277 := (m231).trans (fR_kept (x_lt hTH178 kH235 gkq (by decide))).symm
    have m278 := (m232).trans (fR_kept (x_lt hTH178 kH235 gkq (by decide))).symm
    have m279 := (m196).trans (MF.i mf241 (k := 18) (by decide) (by decide)).symm
    have m280 := (m198).trans (MF.i mf241 (k := 1) (by decide) (by decide)).symm
    have m281 := (m200).trans (MF.i mf241 (k := 2) (by decide) (by decide)).symm
    have m282 := (m202).trans (MF.i mf241 (k := 3) (by decide) (by decide)).symm
    have m283 := (m204).trans (MF.i mf241 (k := 59) (by decide) (by decide)).symm
    have m284 := (m206).trans (MF.i mf241 (k := 62) (by decide) (by decide)).symm
    have m285 := (m208).trans (MF.i mf241 (k := 65) (by decide) (by decide)).symm
    have m286 := (m210).trans (MF.r mf241 (k := 64) (by decide) (by decide)).symm
    have m287 := (m212).trans (MF.r mf241 (k := 66) (by decide) (by decide)).symm
    have m288 := (m214).trans (MF.r mf241 (k := 67) (by decide) (by decide)).symm
    have m289 := (m215).trans (MF.i mf241 (k := 70) (by decide) (by decide)).symm
    have m290 := (m217).trans (MF.r mf241 (k := 73) (by decide) (by decide)).symm
    refine W.eq (g2 := F0 m 802 ls [.int x236]) rfl ?_
    clear f184 f185 f186 f187 f188 f189 f190 f191 f192 f193 m194 m195 m196 m197 m198 m199 m200 m201 m202 m203 m204 m205 m206 m207 m208 m209 m210 m211 m212 m213 m214 m215 m216 m217 m218 m219 m220 m221 m222 m223 m224 m225 m226 m227 m228 m229 m230 m231 m232
    refine lv_pop hx hb dL_law_802 rfl ?_
    refine lv_goto (tgt := 1509) hx hb dL_law_803 (by decide) ?_
    exact nx G H235 locsH235 _ _ ls ⟨hTH235, hN, ga, gb, g237, g238, g239, g240, ⟨(by rw [← m253, ← m279]; exact rt), (by rw [← m252, ← m254, ← m280]; exact r1), (by rw [← m252, ← m255, ← m281]; exact r4), (by rw [← m252, ← m256, ← m282]; exact r5), (by rw [← m252, ← m257, ← m283]; exact r10), (by rw [← m252, ← m258, ← m284]; exact r13), (by rw [← m252, ← m259, ← m285]; exact r16)⟩, Or.inr ⟨kq, m263, gkq, (by rw [← m289]; exact h70), (by rw [← m264, ← m290, ← m265]; exact q1), (by rw [← m266, ← m290, ← m267]; exact q4), (by rw [← m268, ← m290, ← m269]; exact q5), (by rw [← m270, ← m290, ← m271]; exact q10), (by rw [← m272, ← m290, ← m273]; exact q13), (by rw [← m274, ← m290, ← m275]; exact q16), (by rw [← m276, ← m290, ← m272]; exact EQR.of hsn (fun j hj => f248 j (by omega)) (fun j hj => f251 _) (by omega)), (by rw [← m277, ← m290, ← m274]; exact EQR.of hsl (fun j hj => f249 j (by omega)) (fun j hj => f251 _) (by omega)), (by rw [← m278, ← m290, ← m274]; exact EQR.of hsk (fun j hj => f250 j (by omega)) (fun j hj => f251 _) (by omega))⟩, ⟨(by rw [← m252, ← m260, ← m286, ← m284]; exact EQR.of hrn (fun j hj => f242 j (by omega)) (fun j hj => f243 j (by omega)) (by omega)), (by rw [← m252, ← m261, ← m287, ← m285]; exact EQR.of hrl (fun j hj => f244 j (by omega)) (fun j hj => f245 j (by omega)) (by omega)), (by rw [← m252, ← m262, ← m288, ← m285]; exact EQR.of hrk (fun j hj => f246 j (by omega)) (fun j hj => f247 j (by omega)) (by omega))⟩, hSH235⟩ hl ⟨hc, hs, fun h => by have h1 := h.symm.trans m263; cases h1⟩
set_option maxRecDepth 100000 in
set_option maxHeartbeats 8000000 in
theorem lw_c16 {p : Program} {l : Launch} {e : Env} {s : State} {m : MethodId} {below : List Frame} {meth : Method} {c : Code} {K : KE} {b0 L : Nat} {xs : Nat → Int32} {G : Nat → Option Nat} {H : Heap} {locs : List Loc} {a b : Nat} {cells slots : Nat} {ls : Array Slot} {i : Int32} {n : Nat} (D : LC p K s m meth c b0 L xs) (S : SX K s G H locs a b) (hl : lv_has ls 4 [(3, .int i), (2, .ref b), (1, .ref a), (0, .ref b0)]) (hi : 0 ≤ i.toInt ∧ i.toInt + 6 ≤ L) (hn : n ≤ 511) (hB : BD K H a cells slots) (nx : ∀ (G : Nat → Option Nat) (H : Heap) (locs : List Loc) (cells slots : Nat) (ls : Array Slot), SX K s G H locs a b → lv_has ls 4 [(3, .int i), (2, .ref b), (1, .ref a), (0, .ref b0)] → BD K H a cells slots → W p l e room_1 s m #[Value.ref b0] below meth c H locs cells slots (lw_Z below #[Value.ref b0] s) (F0 m 1509 ls [])) : W p l e room_1 s m #[Value.ref b0] below meth c H locs cells slots (lw_Z below #[Value.ref b0] s) (F0 m 806 ls []) := by
  have hI := hi
  obtain ⟨C, hX, hbl, hL⟩ := id D
  obtain ⟨hx, hb, hml, hown, hts, hKT, hr, hlocks, hnm⟩ := id C
  obtain ⟨hT, hN, ga, gb, cg, tu, wd, im, ⟨rt, r1, r4, r5, r10, r13, r16⟩, hk, hnb, hS⟩ := S
  obtain ⟨hc, hs, hB0⟩ := hB
  have n_1 : (1 : Int32).toInt = 1 := rfl
  have n_2 : (2 : Int32).toInt = 2 := rfl
  have n_3 : (3 : Int32).toInt = 3 := rfl
  obtain ⟨w, ew⟩ : ∃ z : Nat, z = fR H a (K.1.2 9 0) := ⟨_, rfl⟩
  have gw := ty_fr (q := w) (k := 0) (u := 0) ew hT ga rg_68 rfl
  rw [← ew] at r1 r4 r5 r10 r13 r16
  obtain ⟨ta, eta⟩ : ∃ z : Int32, z = fI H a (K.1.2 9 3) := ⟨_, rfl⟩
  rw [← eta] at rt
  obtain ⟨tb, etb⟩ : ∃ z : Int32, z = fI H b (K.1.2 10 18) := ⟨_, rfl⟩
  rw [← etb] at rt
  obtain ⟨s1, es1⟩ : ∃ z : Int32, z = fI H w (K.1.2 8 1) := ⟨_, rfl⟩
  rw [← es1] at r1
  obtain ⟨y1, ey1⟩ : ∃ z : Int32, z = fI H b (K.1.2 10 1) := ⟨_, rfl⟩
  rw [← ey1] at r1
  obtain ⟨s4, es4⟩ : ∃ z : Int32, z = fI H w (K.1.2 8 4) := ⟨_, rfl⟩
  rw [← es4] at r4
  obtain ⟨y4, ey4⟩ : ∃ z : Int32, z = fI H b (K.1.2 10 2) := ⟨_, rfl⟩
  rw [← ey4] at r4
  obtain ⟨s5, es5⟩ : ∃ z : Int32, z = fI H w (K.1.2 8 5) := ⟨_, rfl⟩
  rw [← es5] at r5
  obtain ⟨y5, ey5⟩ : ∃ z : Int32, z = fI H b (K.1.2 10 3) := ⟨_, rfl⟩
  rw [← ey5] at r5
  obtain ⟨s10, es10⟩ : ∃ z : Int32, z = fI H w (K.1.2 8 10) := ⟨_, rfl⟩
  rw [← es10] at r10
  obtain ⟨y10, ey10⟩ : ∃ z : Int32, z = fI H b (K.1.2 10 59) := ⟨_, rfl⟩
  rw [← ey10] at r10
  obtain ⟨s13, es13⟩ : ∃ z : Int32, z = fI H w (K.1.2 8 13) := ⟨_, rfl⟩
  rw [← es13] at r13
  obtain ⟨y13, ey13⟩ : ∃ z : Int32, z = fI H b (K.1.2 10 62) := ⟨_, rfl⟩
  rw [← ey13] at r13
  obtain ⟨s16, es16⟩ : ∃ z : Int32, z = fI H w (K.1.2 8 16) := ⟨_, rfl⟩
  rw [← es16] at r16
  obtain ⟨y16, ey16⟩ : ∃ z : Int32, z = fI H b (K.1.2 10 65) := ⟨_, rfl⟩
  rw [← ey16] at r16
  obtain ⟨hb1, hb2, hb3⟩ := hnb
  obtain ⟨cn, ecn⟩ : ∃ z : Nat, z = fR H w (K.1.2 8 12) := ⟨_, rfl⟩
  have gcn := ty_fr (q := cn) (k := 12) (u := 31) ecn hT gw rg_0 rfl
  obtain ⟨xn, exn⟩ : ∃ z : Nat, z = fR H b (K.1.2 10 64) := ⟨_, rfl⟩
  have gxn := ty_fr (q := xn) (k := 64) (u := 157) exn hT gb rg_112 rfl
  obtain ⟨cl, ecl⟩ : ∃ z : Nat, z = fR H w (K.1.2 8 14) := ⟨_, rfl⟩
  have gcl := ty_fr (q := cl) (k := 14) (u := 32) ecl hT gw rg_0 rfl
  obtain ⟨xl, exl⟩ : ∃ z : Nat, z = fR H b (K.1.2 10 66) := ⟨_, rfl⟩
  have gxl := ty_fr (q := xl) (k := 66) (u := 158) exl hT gb rg_112 rfl
  obtain ⟨ck, eck⟩ : ∃ z : Nat, z = fR H w (K.1.2 8 15) := ⟨_, rfl⟩
  have gck := ty_fr (q := ck) (k := 15) (u := 33) eck hT gw rg_0 rfl
  obtain ⟨xk, exk⟩ : ∃ z : Nat, z = fR H b (K.1.2 10 67) := ⟨_, rfl⟩
  have gxk := ty_fr (q := xk) (k := 67) (u := 159) exk hT gb rg_112 rfl
  have hrn : EQR (fun j => fI H cn j) (fun j => fI H xn j) y13.toInt := by rw [ecn, exn, ew, ey13]; exact hb1
  have hrl : EQR (fun j => fI H cl j) (fun j => fI H xl j) y16.toInt := by rw [ecl, exl, ew, ey16]; exact hb2
  have hrk : EQR (fun j => fI H ck j) (fun j => fI H xk j) y16.toInt := by rw [eck, exk, ew, ey16]; exact hb3
  have by13 := ty_fi (x := y13) (k := 62) ey13 hT gb rg_112 rfl
  have by16 := ty_fi (x := y16) (k := 65) ey16 hT gb rg_112 rfl
  have f0cn : ∀ j : Nat, j < 8 → fI H cn j = fI H cn j := fun _ _ => rfl
  have f0xn : ∀ j : Nat, j < 8 → fI H xn j = fI H xn j := fun _ _ => rfl
  have f0cl : ∀ j : Nat, j < 8 → fI H cl j = fI H cl j := fun _ _ => rfl
  have f0xl : ∀ j : Nat, j < 8 → fI H xl j = fI H xl j := fun _ _ => rfl
  have f0ck : ∀ j : Nat, j < 8 → fI H ck j = fI H ck j := fun _ _ => rfl
  have f0xk : ∀ j : Nat, j < 8 → fI H xk j = fI H xk j := fun _ _ => rfl
  rcases hk with ⟨kn, h70⟩ | ⟨kq, kn, gkq, h70, q1, q4, q5, q10, q13, q16, hq1, hq2, hq3⟩
  · skip
    obtain ⟨hi, ehi⟩ : ∃ z : Int32, z = fI H b (K.1.2 10 70) := ⟨_, rfl⟩
    rw [← ehi] at h70
    obtain ⟨hc0, hs0⟩ := hB0 kn
    refine lv_aload_n hx hb dL_law_806 rfl (lv_at hl 2 rfl) ?_
    refine lv_aload_n hx hb dL_law_807 rfl (lv_at hl 3 rfl) ?_
    refine lv_iload_n hx hb dL_law_808 rfl (lv_at hl 0 rfl) ?_
    refine lv_iconst (v := 1) hx hb dL_law_809 (by decide) ?_
    refine lv_iadd hx hb dL_law_810 ?_
    refine lv_topi (fun x101 ex101 => ?_)
    obtain ⟨tx101, ejx101, evx101⟩ := lw_ix (k := 1) ex101 hI hL rfl (by decide)
    clear tx101
    refine va_sld hx hb hX hbl (Nat.not_le.mpr hbl) hS (vp_in_iff.mpr evx101) dL_law_811 ?_
    refine W.eq (g2 := F0 m 812 ls [.int (xs (i.toNatClampNeg + 1)), .ref a]) (congrArg (fun z => F0 m 812 ls [.int (xs z), .ref a]) ejx101) ?_
    refine lv_aload_n hx hb dL_law_812 rfl (lv_at hl 3 rfl) ?_
    refine lv_iload_n hx hb dL_law_813 rfl (lv_at hl 0 rfl) ?_
    refine lv_iconst (v := 2) hx hb dL_law_814 (by decide) ?_
    refine lv_iadd hx hb dL_law_815 ?_
    refine lv_topi (fun x102 ex102 => ?_)
    obtain ⟨tx102, ejx102, evx102⟩ := lw_ix (k := 2) ex102 hI hL rfl (by decide)
    clear tx102
    refine va_sld hx hb hX hbl (Nat.not_le.mpr hbl) hS (vp_in_iff.mpr evx102) dL_law_816 ?_
    refine W.eq (g2 := F0 m 817 ls [.int (xs (i.toNatClampNeg + 2)), .int (xs (i.toNatClampNeg + 1)), .ref a]) (congrArg (fun z => F0 m 817 ls [.int (xs z), .int (xs (i.toNatClampNeg + 1)), .ref a]) ejx102) ?_
    refine lv_aload_n hx hb dL_law_817 rfl (lv_at hl 3 rfl) ?_
    refine lv_iload_n hx hb dL_law_818 rfl (lv_at hl 0 rfl) ?_
    refine lv_iconst (v := 3) hx hb dL_law_819 (by decide) ?_
    refine lv_iadd hx hb dL_law_820 ?_
    refine lv_topi (fun x103 ex103 => ?_)
    obtain ⟨tx103, ejx103, evx103⟩ := lw_ix (k := 3) ex103 hI hL rfl (by decide)
    clear tx103
    refine va_sld hx hb hX hbl (Nat.not_le.mpr hbl) hS (vp_in_iff.mpr evx103) dL_law_821 ?_
    refine W.eq (g2 := F0 m 822 ls [.int (xs (i.toNatClampNeg + 3)), .int (xs (i.toNatClampNeg + 2)), .int (xs (i.toNatClampNeg + 1)), .ref a]) (congrArg (fun z => F0 m 822 ls [.int (xs z), .int (xs (i.toNatClampNeg + 2)), .int (xs (i.toNatClampNeg + 1)), .ref a]) ejx103) ?_
    refine x_V (As := [.int (xs (i.toNatClampNeg + 1)), .int (xs (i.toNatClampNeg + 2)), .int (xs (i.toNatClampNeg + 3))]) (rest := []) C (a_X9_takes l K G H ((xs (i.toNatClampNeg + 1))) ((xs (i.toNatClampNeg + 2))) ((xs (i.toNatClampNeg + 3))) hT ga) yo_X9_takes wM_L_84 ⟨⟨by decide, by decide⟩, show _ ≤ 284929 from Nat.le_trans hc (by decide), show _ ≤ 8247460 from Nat.le_trans hs (by decide)⟩ (x_rv C hT (ci := 9) rfl ga rg_68) rfl hl.1 rfl (Nat.le_of_ble_eq_true rfl) dL_law_822 hS (AE_new hN hS.1) (fun vH104 H104 locsH104 pH104 zH104 kH104 hSH104 => ?_)
    obtain ⟨x105, hvH104, hTH104⟩ := pH104
    subst hvH104
    have g106 : CG (avw K H104 b) := CG.congr (fun k hk j => av_eff hT kH104 gb (by decide) (CG_eff [111, 83, 84] (by decide) k hk)) cg
    have g107 : TU (avw K H104 b) (svw K H104 b) := TU.congr (fun k hk j => av_eff hT kH104 gb (by decide) (TU_eff [111, 83, 84] (by decide) k hk)) (fun k hk => sv_eff hT kH104 gb (by decide)) tu
    have g108 : WD (avw K H104 b) := WD.congr (fun k hk j => av_eff hT kH104 gb (by decide) (WD_eff [111, 83, 84] (by decide) k hk)) wd
    have g109 : IM (avw K H104 b) := IM.congr (fun k hk j => av_eff hT kH104 gb (by decide) (IM_eff [111, 83, 84] (by decide) k hk)) im
    have f110 : ∀ j : Nat, j < 8 → fI H104 cn j = fI H cn j := fun j hj => (fI_kept (x_lt hT kH104 gcn (by decide))).trans (f0cn j hj)
    have f111 : ∀ j : Nat, j < 8 → fI H104 xn j = fI H xn j := fun j hj => (fI_kept (x_lt hT kH104 gxn (by decide))).trans (f0xn j hj)
    have f112 : ∀ j : Nat, j < 8 → fI H104 cl j = fI H cl j := fun j hj => (fI_kept (x_lt hT kH104 gcl (by decide))).trans (f0cl j hj)
    have f113 : ∀ j : Nat, j < 8 → fI H104 xl j = fI H xl j := fun j hj => (fI_kept (x_lt hT kH104 gxl (by decide))).trans (f0xl j hj)
    have f114 : ∀ j : Nat, j < 8 → fI H104 ck j = fI H ck j := fun j hj => (fI_kept (x_lt hT kH104 gck (by decide))).trans (f0ck j hj)
    have f115 : ∀ j : Nat, j < 8 → fI H104 xk j = fI H xk j := fun j hj => (fI_kept (x_lt hT kH104 gxk (by decide))).trans (f0xk j hj)
    have m116 := (ew).trans (fR_kept (x_lt hT kH104 ga (by decide))).symm
    have m117 := (eta).trans (fI_kept (x_lt hT kH104 ga (by decide))).symm
    have m118 := (etb).trans (fI_kept (x_lt hT kH104 gb (by decide))).symm
    have m119 := (es1).trans (fI_kept (x_lt hT kH104 gw (by decide))).symm
    have m120 := (ey1).trans (fI_kept (x_lt hT kH104 gb (by decide))).symm
    have m121 := (es4).trans (fI_kept (x_lt hT kH104 gw (by decide))).symm
    have m122 := (ey4).trans (fI_kept (x_lt hT kH104 gb (by decide))).symm
    have m123 := (es5).trans (fI_kept (x_lt hT kH104 gw (by decide))).symm
    have m124 := (ey5).trans (fI_kept (x_lt hT kH104 gb (by decide))).symm
    have m125 := (es10).trans (fI_kept (x_lt hT kH104 gw (by decide))).symm
    have m126 := (ey10).trans (fI_kept (x_lt hT kH104 gb (by decide))).symm
    have m127 := (es13).trans (fI_kept (x_lt hT kH104 gw (by decide))).symm
    have m128 := (ey13).trans (fI_kept (x_lt hT kH104 gb (by decide))).symm
    have m129 := (es16).trans (fI_kept (x_lt hT kH104 gw (by decide))).symm
    have m130 := (ey16).trans (fI_kept (x_lt hT kH104 gb (by decide))).symm
    have m131 := (ecn).trans (fR_kept (x_lt hT kH104 gw (by decide))).symm
    have m132 := (exn).trans (fR_kept (x_lt hT kH104 gb (by decide))).symm
    have m133 := (ecl).trans (fR_kept (x_lt hT kH104 gw (by decide))).symm
    have m134 := (exl).trans (fR_kept (x_lt hT kH104 gb (by decide))).symm
    have m135 := (eck).trans (fR_kept (x_lt hT kH104 gw (by decide))).symm
    have m136 := (exk).trans (fR_kept (x_lt hT kH104 gb (by decide))).symm
    have m137 := (ehi).trans (fI_kept (x_lt hT kH104 gb (by decide))).symm
    have m138 := (fV_kept (x_lt hT kH104 ga (by decide))).trans kn
    refine W.eq (g2 := F0 m 825 ls [.int x105]) rfl ?_
    clear eck ecl ecn ehi es1 es10 es13 es16 es4 es5 eta etb ew exk exl exn ey1 ey10 ey13 ey16 ey4 ey5 f0ck f0cl f0cn f0xk f0xl f0xn kn
    refine lv_pop hx hb dL_law_825 rfl ?_
    refine lv_aload_n hx hb dL_law_826 rfl (lv_at hl 1 rfl) ?_
    refine lv_aload_n hx hb dL_law_827 rfl (lv_at hl 3 rfl) ?_
    refine lv_iload_n hx hb dL_law_828 rfl (lv_at hl 0 rfl) ?_
    refine lv_iconst (v := 1) hx hb dL_law_829 (by decide) ?_
    refine lv_iadd hx hb dL_law_830 ?_
    refine lv_topi (fun x139 ex139 => ?_)
    obtain ⟨tx139, ejx139, evx139⟩ := lw_ix (k := 1) ex139 hI hL rfl (by decide)
    clear tx139
    refine va_sld hx hb hX hbl (Nat.not_le.mpr hbl) hSH104 (vp_in_iff.mpr evx139) dL_law_831 ?_
    refine W.eq (g2 := F0 m 832 ls [.int (xs (i.toNatClampNeg + 1)), .ref b]) (congrArg (fun z => F0 m 832 ls [.int (xs z), .ref b]) ejx139) ?_
    refine lv_aload_n hx hb dL_law_832 rfl (lv_at hl 3 rfl) ?_
    refine lv_iload_n hx hb dL_law_833 rfl (lv_at hl 0 rfl) ?_
    refine lv_iconst (v := 2) hx hb dL_law_834 (by decide) ?_
    refine lv_iadd hx hb dL_law_835 ?_
    refine lv_topi (fun x140 ex140 => ?_)
    obtain ⟨tx140, ejx140, evx140⟩ := lw_ix (k := 2) ex140 hI hL rfl (by decide)
    clear tx140
    refine va_sld hx hb hX hbl (Nat.not_le.mpr hbl) hSH104 (vp_in_iff.mpr evx140) dL_law_836 ?_
    refine W.eq (g2 := F0 m 837 ls [.int (xs (i.toNatClampNeg + 2)), .int (xs (i.toNatClampNeg + 1)), .ref b]) (congrArg (fun z => F0 m 837 ls [.int (xs z), .int (xs (i.toNatClampNeg + 1)), .ref b]) ejx140) ?_
    refine lv_aload_n hx hb dL_law_837 rfl (lv_at hl 3 rfl) ?_
    refine lv_iload_n hx hb dL_law_838 rfl (lv_at hl 0 rfl) ?_
    refine lv_iconst (v := 3) hx hb dL_law_839 (by decide) ?_
    refine lv_iadd hx hb dL_law_840 ?_
    refine lv_topi (fun x141 ex141 => ?_)
    obtain ⟨tx141, ejx141, evx141⟩ := lw_ix (k := 3) ex141 hI hL rfl (by decide)
    clear tx141
    refine va_sld hx hb hX hbl (Nat.not_le.mpr hbl) hSH104 (vp_in_iff.mpr evx141) dL_law_841 ?_
    refine W.eq (g2 := F0 m 842 ls [.int (xs (i.toNatClampNeg + 3)), .int (xs (i.toNatClampNeg + 2)), .int (xs (i.toNatClampNeg + 1)), .ref b]) (congrArg (fun z => F0 m 842 ls [.int (xs z), .int (xs (i.toNatClampNeg + 2)), .int (xs (i.toNatClampNeg + 1)), .ref b]) ejx141) ?_
    refine x_V (As := [.int (xs (i.toNatClampNeg + 1)), .int (xs (i.toNatClampNeg + 2)), .int (xs (i.toNatClampNeg + 3))]) (rest := []) C (a_X10_takes l K G H104 ((xs (i.toNatClampNeg + 1))) ((xs (i.toNatClampNeg + 2))) ((xs (i.toNatClampNeg + 3))) hTH104 gb g106 g107 g108 g109) yo_X10_takes wM_L_87 ⟨⟨by decide, by decide⟩, show _ ≤ 284929 from Nat.le_trans hc (by decide), show _ ≤ 8247460 from Nat.le_trans hs (by decide)⟩ (x_rv C hTH104 (ci := 10) rfl gb rg_112) rfl hl.1 rfl (Nat.le_of_ble_eq_true rfl) dL_law_842 hSH104 (AE_new hN hSH104.1) (fun vH142 H142 locsH142 pH142 zH142 kH142 hSH142 => ?_)
    obtain ⟨x143, hvH142, g144, g145, g146, g147, mf148, hTH142⟩ := pH142
    subst hvH142
    have f149 : ∀ j : Nat, j < 8 → fI H142 cn j = fI H cn j := fun j hj => (fI_kept (x_lt hTH104 kH142 gcn (by decide))).trans (f110 j hj)
    have f150 : ∀ j : Nat, j < 8 → fI H142 xn j = fI H xn j := fun j hj => (fI_kept (x_lt hTH104 kH142 gxn (by decide))).trans (f111 j hj)
    have f151 : ∀ j : Nat, j < 8 → fI H142 cl j = fI H cl j := fun j hj => (fI_kept (x_lt hTH104 kH142 gcl (by decide))).trans (f112 j hj)
    have f152 : ∀ j : Nat, j < 8 → fI H142 xl j = fI H xl j := fun j hj => (fI_kept (x_lt hTH104 kH142 gxl (by decide))).trans (f113 j hj)
    have f153 : ∀ j : Nat, j < 8 → fI H142 ck j = fI H ck j := fun j hj => (fI_kept (x_lt hTH104 kH142 gck (by decide))).trans (f114 j hj)
    have f154 : ∀ j : Nat, j < 8 → fI H142 xk j = fI H xk j := fun j hj => (fI_kept (x_lt hTH104 kH142 gxk (by decide))).trans (f115 j hj)
    have m155 := (m116).trans (fR_kept (x_lt hTH104 kH142 ga (by decide))).symm
    have m156 := (m117).trans (fI_kept (x_lt hTH104 kH142 ga (by decide))).symm
    have m157 := (m119).trans (fI_kept (x_lt hTH104 kH142 gw (by decide))).symm
    have m158 := (m121).trans (fI_kept (x_lt hTH104 kH142 gw (by decide))).symm
    have m159 := (m123).trans (fI_kept (x_lt hTH104 kH142 gw (by decide))).symm
    have m160 := (m125).trans (fI_kept (x_lt hTH104 kH142 gw (by decide))).symm
    have m161 := (m127).trans (fI_kept (x_lt hTH104 kH142 gw (by decide))).symm
    have m162 := (m129).trans (fI_kept (x_lt hTH104 kH142 gw (by decide))).symm
    have m163 := (m131).trans (fR_kept (x_lt hTH104 kH142 gw (by decide))).symm
    have m164 := (m133).trans (fR_kept (x_lt hTH104 kH142 gw (by decide))).symm
    have m165 := (m135).trans (fR_kept (x_lt hTH104 kH142 gw (by decide))).symm
    have m166 := (fV_kept (x_lt hTH104 kH142 ga (by decide))).trans m138
    have m167 := (m118).trans (MF.i mf148 (k := 18) (by decide) (by decide)).symm
    have m168 := (m120).trans (MF.i mf148 (k := 1) (by decide) (by decide)).symm
    have m169 := (m122).trans (MF.i mf148 (k := 2) (by decide) (by decide)).symm
    have m170 := (m124).trans (MF.i mf148 (k := 3) (by decide) (by decide)).symm
    have m171 := (m126).trans (MF.i mf148 (k := 59) (by decide) (by decide)).symm
    have m172 := (m128).trans (MF.i mf148 (k := 62) (by decide) (by decide)).symm
    have m173 := (m130).trans (MF.i mf148 (k := 65) (by decide) (by decide)).symm
    have m174 := (m132).trans (MF.r mf148 (k := 64) (by decide) (by decide)).symm
    have m175 := (m134).trans (MF.r mf148 (k := 66) (by decide) (by decide)).symm
    have m176 := (m136).trans (MF.r mf148 (k := 67) (by decide) (by decide)).symm
    have m177 := (m137).trans (MF.i mf148 (k := 70) (by decide) (by decide)).symm
    refine W.eq (g2 := F0 m 845 ls [.int x143]) rfl ?_
    clear f110 f111 f112 f113 f114 f115 m116 m117 m118 m119 m120 m121 m122 m123 m124 m125 m126 m127 m128 m129 m130 m131 m132 m133 m134 m135 m136 m137 m138
    refine lv_pop hx hb dL_law_845 rfl ?_
    refine lv_goto (tgt := 1509) hx hb dL_law_846 (by decide) ?_
    exact nx G H142 locsH142 _ _ ls ⟨hTH142, hN, ga, gb, g144, g145, g146, g147, ⟨(by rw [← m156, ← m167]; exact rt), (by rw [← m155, ← m157, ← m168]; exact r1), (by rw [← m155, ← m158, ← m169]; exact r4), (by rw [← m155, ← m159, ← m170]; exact r5), (by rw [← m155, ← m160, ← m171]; exact r10), (by rw [← m155, ← m161, ← m172]; exact r13), (by rw [← m155, ← m162, ← m173]; exact r16)⟩, Or.inl ⟨m166, (by rw [← m177]; exact h70)⟩, ⟨(by rw [← m155, ← m163, ← m174, ← m172]; exact EQR.of hrn (fun j hj => f149 j (by omega)) (fun j hj => f150 j (by omega)) (by omega)), (by rw [← m155, ← m164, ← m175, ← m173]; exact EQR.of hrl (fun j hj => f151 j (by omega)) (fun j hj => f152 j (by omega)) (by omega)), (by rw [← m155, ← m165, ← m176, ← m173]; exact EQR.of hrk (fun j hj => f153 j (by omega)) (fun j hj => f154 j (by omega)) (by omega))⟩, hSH142⟩ hl ⟨hc, hs, fun _ => ⟨hc0, hs0⟩⟩
  · skip
    obtain ⟨hi, ehi⟩ : ∃ z : Int32, z = fI H b (K.1.2 10 70) := ⟨_, rfl⟩
    rw [← ehi] at h70
    obtain ⟨iq, eiq⟩ : ∃ z : Nat, z = fR H b (K.1.2 10 73) := ⟨_, rfl⟩
    have giq := ty_fr (q := iq) (k := 73) (u := 162) eiq hT gb rg_112 rfl
    rw [← eiq] at q1 q4 q5 q10 q13 q16
    obtain ⟨k1, ek1⟩ : ∃ z : Int32, z = fI H kq (K.1.2 8 1) := ⟨_, rfl⟩
    rw [← ek1] at q1
    obtain ⟨i1, ei1⟩ : ∃ z : Int32, z = fI H iq ((0 : Int32).toNatClampNeg) := ⟨_, rfl⟩
    rw [← ei1] at q1
    obtain ⟨k4, ek4⟩ : ∃ z : Int32, z = fI H kq (K.1.2 8 4) := ⟨_, rfl⟩
    rw [← ek4] at q4
    obtain ⟨i4, ei4⟩ : ∃ z : Int32, z = fI H iq ((1 : Int32).toNatClampNeg) := ⟨_, rfl⟩
    rw [← ei4] at q4
    obtain ⟨k5, ek5⟩ : ∃ z : Int32, z = fI H kq (K.1.2 8 5) := ⟨_, rfl⟩
    rw [← ek5] at q5
    obtain ⟨i5, ei5⟩ : ∃ z : Int32, z = fI H iq ((2 : Int32).toNatClampNeg) := ⟨_, rfl⟩
    rw [← ei5] at q5
    obtain ⟨k10, ek10⟩ : ∃ z : Int32, z = fI H kq (K.1.2 8 10) := ⟨_, rfl⟩
    rw [← ek10] at q10
    obtain ⟨i10, ei10⟩ : ∃ z : Int32, z = fI H iq ((3 : Int32).toNatClampNeg) := ⟨_, rfl⟩
    rw [← ei10] at q10
    obtain ⟨k13, ek13⟩ : ∃ z : Int32, z = fI H kq (K.1.2 8 13) := ⟨_, rfl⟩
    rw [← ek13] at q13
    obtain ⟨i13, ei13⟩ : ∃ z : Int32, z = fI H iq ((4 : Int32).toNatClampNeg) := ⟨_, rfl⟩
    rw [← ei13] at q13
    obtain ⟨k16, ek16⟩ : ∃ z : Int32, z = fI H kq (K.1.2 8 16) := ⟨_, rfl⟩
    rw [← ek16] at q16
    obtain ⟨i16, ei16⟩ : ∃ z : Int32, z = fI H iq ((5 : Int32).toNatClampNeg) := ⟨_, rfl⟩
    rw [← ei16] at q16
    obtain ⟨dn, edn⟩ : ∃ z : Nat, z = fR H kq (K.1.2 8 12) := ⟨_, rfl⟩
    have gdn := ty_fr (q := dn) (k := 12) (u := 65) edn hT gkq rg_34 rfl
    obtain ⟨dl, edl⟩ : ∃ z : Nat, z = fR H kq (K.1.2 8 14) := ⟨_, rfl⟩
    have gdl := ty_fr (q := dl) (k := 14) (u := 66) edl hT gkq rg_34 rfl
    obtain ⟨dk, edk⟩ : ∃ z : Nat, z = fR H kq (K.1.2 8 15) := ⟨_, rfl⟩
    have gdk := ty_fr (q := dk) (k := 15) (u := 67) edk hT gkq rg_34 rfl
    have hsn : EQR (fun j => fI H dn j) (fun j => fI H iq (8877 + 4 * j)) k13.toInt := by rw [edn, eiq, ek13]; exact hq1
    have hsl : EQR (fun j => fI H dl j) (fun j => fI H iq (8878 + 4 * j)) k16.toInt := by rw [edl, eiq, ek16]; exact hq2
    have hsk : EQR (fun j => fI H dk j) (fun j => fI H iq (8879 + 4 * j)) k16.toInt := by rw [edk, eiq, ek16]; exact hq3
    have bk13 := ty_fi (x := k13) (k := 13) ek13 hT gkq rg_34 rfl
    have bk16 := ty_fi (x := k16) (k := 16) ek16 hT gkq rg_34 rfl
    have f0dn : ∀ j : Nat, j < 8 → fI H dn j = fI H dn j := fun _ _ => rfl
    have f0dl : ∀ j : Nat, j < 8 → fI H dl j = fI H dl j := fun _ _ => rfl
    have f0dk : ∀ j : Nat, j < 8 → fI H dk j = fI H dk j := fun _ _ => rfl
    have f0i : ∀ j : Nat, fI H iq j = fI H iq j := fun _ => rfl
    refine lv_aload_n hx hb dL_law_806 rfl (lv_at hl 2 rfl) ?_
    refine lv_aload_n hx hb dL_law_807 rfl (lv_at hl 3 rfl) ?_
    refine lv_iload_n hx hb dL_law_808 rfl (lv_at hl 0 rfl) ?_
    refine lv_iconst (v := 1) hx hb dL_law_809 (by decide) ?_
    refine lv_iadd hx hb dL_law_810 ?_
    refine lv_topi (fun x178 ex178 => ?_)
    obtain ⟨tx178, ejx178, evx178⟩ := lw_ix (k := 1) ex178 hI hL rfl (by decide)
    clear tx178
    refine va_sld hx hb hX hbl (Nat.not_le.mpr hbl) hS (vp_in_iff.mpr evx178) dL_law_811 ?_
    refine W.eq (g2 := F0 m 812 ls [.int (xs (i.toNatClampNeg + 1)), .ref a]) (congrArg (fun z => F0 m 812 ls [.int (xs z), .ref a]) ejx178) ?_
    refine lv_aload_n hx hb dL_law_812 rfl (lv_at hl 3 rfl) ?_
    refine lv_iload_n hx hb dL_law_813 rfl (lv_at hl 0 rfl) ?_
    refine lv_iconst (v := 2) hx hb dL_law_814 (by decide) ?_
    refine lv_iadd hx hb dL_law_815 ?_
    refine lv_topi (fun x179 ex179 => ?_)
    obtain ⟨tx179, ejx179, evx179⟩ := lw_ix (k := 2) ex179 hI hL rfl (by decide)
    clear tx179
    refine va_sld hx hb hX hbl (Nat.not_le.mpr hbl) hS (vp_in_iff.mpr evx179) dL_law_816 ?_
    refine W.eq (g2 := F0 m 817 ls [.int (xs (i.toNatClampNeg + 2)), .int (xs (i.toNatClampNeg + 1)), .ref a]) (congrArg (fun z => F0 m 817 ls [.int (xs z), .int (xs (i.toNatClampNeg + 1)), .ref a]) ejx179) ?_
    refine lv_aload_n hx hb dL_law_817 rfl (lv_at hl 3 rfl) ?_
    refine lv_iload_n hx hb dL_law_818 rfl (lv_at hl 0 rfl) ?_
    refine lv_iconst (v := 3) hx hb dL_law_819 (by decide) ?_
    refine lv_iadd hx hb dL_law_820 ?_
    refine lv_topi (fun x180 ex180 => ?_)
    obtain ⟨tx180, ejx180, evx180⟩ := lw_ix (k := 3) ex180 hI hL rfl (by decide)
    clear tx180
    refine va_sld hx hb hX hbl (Nat.not_le.mpr hbl) hS (vp_in_iff.mpr evx180) dL_law_821 ?_
    refine W.eq (g2 := F0 m 822 ls [.int (xs (i.toNatClampNeg + 3)), .int (xs (i.toNatClampNeg + 2)), .int (xs (i.toNatClampNeg + 1)), .ref a]) (congrArg (fun z => F0 m 822 ls [.int (xs z), .int (xs (i.toNatClampNeg + 2)), .int (xs (i.toNatClampNeg + 1)), .ref a]) ejx180) ?_
    refine x_V (As := [.int (xs (i.toNatClampNeg + 1)), .int (xs (i.toNatClampNeg + 2)), .int (xs (i.toNatClampNeg + 3))]) (rest := []) C (a_X9_takes l K G H ((xs (i.toNatClampNeg + 1))) ((xs (i.toNatClampNeg + 2))) ((xs (i.toNatClampNeg + 3))) hT ga) yo_X9_takes wM_L_84 ⟨⟨by decide, by decide⟩, show _ ≤ 284929 from Nat.le_trans hc (by decide), show _ ≤ 8247460 from Nat.le_trans hs (by decide)⟩ (x_rv C hT (ci := 9) rfl ga rg_68) rfl hl.1 rfl (Nat.le_of_ble_eq_true rfl) dL_law_822 hS (AE_new hN hS.1) (fun vH181 H181 locsH181 pH181 zH181 kH181 hSH181 => ?_)
    obtain ⟨x182, hvH181, hTH181⟩ := pH181
    subst hvH181
    have g183 : CG (avw K H181 b) := CG.congr (fun k hk j => av_eff hT kH181 gb (by decide) (CG_eff [111, 83, 84] (by decide) k hk)) cg
    have g184 : TU (avw K H181 b) (svw K H181 b) := TU.congr (fun k hk j => av_eff hT kH181 gb (by decide) (TU_eff [111, 83, 84] (by decide) k hk)) (fun k hk => sv_eff hT kH181 gb (by decide)) tu
    have g185 : WD (avw K H181 b) := WD.congr (fun k hk j => av_eff hT kH181 gb (by decide) (WD_eff [111, 83, 84] (by decide) k hk)) wd
    have g186 : IM (avw K H181 b) := IM.congr (fun k hk j => av_eff hT kH181 gb (by decide) (IM_eff [111, 83, 84] (by decide) k hk)) im
    have f187 : ∀ j : Nat, j < 8 → fI H181 cn j = fI H cn j := fun j hj => (fI_kept (x_lt hT kH181 gcn (by decide))).trans (f0cn j hj)
    have f188 : ∀ j : Nat, j < 8 → fI H181 xn j = fI H xn j := fun j hj => (fI_kept (x_lt hT kH181 gxn (by decide))).trans (f0xn j hj)
    have f189 : ∀ j : Nat, j < 8 → fI H181 cl j = fI H cl j := fun j hj => (fI_kept (x_lt hT kH181 gcl (by decide))).trans (f0cl j hj)
    have f190 : ∀ j : Nat, j < 8 → fI H181 xl j = fI H xl j := fun j hj => (fI_kept (x_lt hT kH181 gxl (by decide))).trans (f0xl j hj)
    have f191 : ∀ j : Nat, j < 8 → fI H181 ck j = fI H ck j := fun j hj => (fI_kept (x_lt hT kH181 gck (by decide))).trans (f0ck j hj)
    have f192 : ∀ j : Nat, j < 8 → fI H181 xk j = fI H xk j := fun j hj => (fI_kept (x_lt hT kH181 gxk (by decide))).trans (f0xk j hj)
    have f193 : ∀ j : Nat, j < 8 → fI H181 dn j = fI H dn j := fun j hj => (fI_kept (x_lt hT kH181 gdn (by decide))).trans (f0dn j hj)
    have f194 : ∀ j : Nat, j < 8 → fI H181 dl j = fI H dl j := fun j hj => (fI_kept (x_lt hT kH181 gdl (by decide))).trans (f0dl j hj)
    have f195 : ∀ j : Nat, j < 8 → fI H181 dk j = fI H dk j := fun j hj => (fI_kept (x_lt hT kH181 gdk (by decide))).trans (f0dk j hj)
    have f196 : ∀ j : Nat, fI H181 iq j = fI H iq j := fun j => (fI_kept (x_lt hT kH181 giq (by decide))).trans (f0i j)
    have m197 := (ew).trans (fR_kept (x_lt hT kH181 ga (by decide))).symm
    have m198 := (eta).trans (fI_kept (x_lt hT kH181 ga (by decide))).symm
    have m199 := (etb).trans (fI_kept (x_lt hT kH181 gb (by decide))).symm
    have m200 := (es1).trans (fI_kept (x_lt hT kH181 gw (by decide))).symm
    have m201 := (ey1).trans (fI_kept (x_lt hT kH181 gb (by decide))).symm
    have m202 := (es4).trans (fI_kept (x_lt hT kH181 gw (by decide))).symm
    have m203 := (ey4).trans (fI_kept (x_lt hT kH181 gb (by decide))).symm
    have m204 := (es5).trans (fI_kept (x_lt hT kH181 gw (by decide))).symm
    have m205 := (ey5).trans (fI_kept (x_lt hT kH181 gb (by decide))).symm
    have m206 := (es10).trans (fI_kept (x_lt hT kH181 gw (by decide))).symm
    have m207 := (ey10).trans (fI_kept (x_lt hT kH181 gb (by decide))).symm
    have m208 := (es13).trans (fI_kept (x_lt hT kH181 gw (by decide))).symm
    have m209 := (ey13).trans (fI_kept (x_lt hT kH181 gb (by decide))).symm
    have m210 := (es16).trans (fI_kept (x_lt hT kH181 gw (by decide))).symm
    have m211 := (ey16).trans (fI_kept (x_lt hT kH181 gb (by decide))).symm
    have m212 := (ecn).trans (fR_kept (x_lt hT kH181 gw (by decide))).symm
    have m213 := (exn).trans (fR_kept (x_lt hT kH181 gb (by decide))).symm
    have m214 := (ecl).trans (fR_kept (x_lt hT kH181 gw (by decide))).symm
    have m215 := (exl).trans (fR_kept (x_lt hT kH181 gb (by decide))).symm
    have m216 := (eck).trans (fR_kept (x_lt hT kH181 gw (by decide))).symm
    have m217 := (exk).trans (fR_kept (x_lt hT kH181 gb (by decide))).symm
    have m218 := (ehi).trans (fI_kept (x_lt hT kH181 gb (by decide))).symm
    have m219 := (fV_kept (x_lt hT kH181 ga (by decide))).trans kn
    have m220 := (eiq).trans (fR_kept (x_lt hT kH181 gb (by decide))).symm
    have m221 := (ek1).trans (fI_kept (x_lt hT kH181 gkq (by decide))).symm
    have m222 := (ei1).trans (fI_kept (x_lt hT kH181 giq (by decide))).symm
    have m223 := (ek4).trans (fI_kept (x_lt hT kH181 gkq (by decide))).symm
    have m224 := (ei4).trans (fI_kept (x_lt hT kH181 giq (by decide))).symm
    have m225 := (ek5).trans (fI_kept (x_lt hT kH181 gkq (by decide))).symm
    have m226 := (ei5).trans (fI_kept (x_lt hT kH181 giq (by decide))).symm
    have m227 := (ek10).trans (fI_kept (x_lt hT kH181 gkq (by decide))).symm
    have m228 := (ei10).trans (fI_kept (x_lt hT kH181 giq (by decide))).symm
    have m229 := (ek13).trans (fI_kept (x_lt hT kH181 gkq (by decide))).symm
    have m230 := (ei13).trans (fI_kept (x_lt hT kH181 giq (by decide))).symm
    have m231 := (ek16).trans (fI_kept (x_lt hT kH181 gkq (by decide))).symm
    have m232 := (ei16).trans (fI_kept (x_lt hT kH181 giq (by decide))).symm
    have m233 := (edn).trans (fR_kept (x_lt hT kH181 gkq (by decide))).symm
    have m234 := (edl).trans (fR_kept (x_lt hT kH181 gkq (by decide))).symm
    have m235 := (edk).trans (fR_kept (x_lt hT kH181 gkq (by decide))).symm
    refine W.eq (g2 := F0 m 825 ls [.int x182]) rfl ?_
    clear eck ecl ecn edk edl edn ehi ei1 ei10 ei13 ei16 ei4 ei5 eiq ek1 ek10 ek13 ek16 ek4 ek5 es1 es10 es13 es16 es4 es5 eta etb ew exk exl exn ey1 ey10 ey13 ey16 ey4 ey5 f0ck f0cl f0cn f0dk f0dl f0dn f0i f0xk f0xl f0xn kn
    refine lv_pop hx hb dL_law_825 rfl ?_
    refine lv_aload_n hx hb dL_law_826 rfl (lv_at hl 1 rfl) ?_
    refine lv_aload_n hx hb dL_law_827 rfl (lv_at hl 3 rfl) ?_
    refine lv_iload_n hx hb dL_law_828 rfl (lv_at hl 0 rfl) ?_
    refine lv_iconst (v := 1) hx hb dL_law_829 (by decide) ?_
    refine lv_iadd hx hb dL_law_830 ?_
    refine lv_topi (fun x236 ex236 => ?_)
    obtain ⟨tx236, ejx236, evx236⟩ := lw_ix (k := 1) ex236 hI hL rfl (by decide)
    clear tx236
    refine va_sld hx hb hX hbl (Nat.not_le.mpr hbl) hSH181 (vp_in_iff.mpr evx236) dL_law_831 ?_
    refine W.eq (g2 := F0 m 832 ls [.int (xs (i.toNatClampNeg + 1)), .ref b]) (congrArg (fun z => F0 m 832 ls [.int (xs z), .ref b]) ejx236) ?_
    refine lv_aload_n hx hb dL_law_832 rfl (lv_at hl 3 rfl) ?_
    refine lv_iload_n hx hb dL_law_833 rfl (lv_at hl 0 rfl) ?_
    refine lv_iconst (v := 2) hx hb dL_law_834 (by decide) ?_
    refine lv_iadd hx hb dL_law_835 ?_
    refine lv_topi (fun x237 ex237 => ?_)
    obtain ⟨tx237, ejx237, evx237⟩ := lw_ix (k := 2) ex237 hI hL rfl (by decide)
    clear tx237
    refine va_sld hx hb hX hbl (Nat.not_le.mpr hbl) hSH181 (vp_in_iff.mpr evx237) dL_law_836 ?_
    refine W.eq (g2 := F0 m 837 ls [.int (xs (i.toNatClampNeg + 2)), .int (xs (i.toNatClampNeg + 1)), .ref b]) (congrArg (fun z => F0 m 837 ls [.int (xs z), .int (xs (i.toNatClampNeg + 1)), .ref b]) ejx237) ?_
    refine lv_aload_n hx hb dL_law_837 rfl (lv_at hl 3 rfl) ?_
    refine lv_iload_n hx hb dL_law_838 rfl (lv_at hl 0 rfl) ?_
    refine lv_iconst (v := 3) hx hb dL_law_839 (by decide) ?_
    refine lv_iadd hx hb dL_law_840 ?_
    refine lv_topi (fun x238 ex238 => ?_)
    obtain ⟨tx238, ejx238, evx238⟩ := lw_ix (k := 3) ex238 hI hL rfl (by decide)
    clear tx238
    refine va_sld hx hb hX hbl (Nat.not_le.mpr hbl) hSH181 (vp_in_iff.mpr evx238) dL_law_841 ?_
    refine W.eq (g2 := F0 m 842 ls [.int (xs (i.toNatClampNeg + 3)), .int (xs (i.toNatClampNeg + 2)), .int (xs (i.toNatClampNeg + 1)), .ref b]) (congrArg (fun z => F0 m 842 ls [.int (xs z), .int (xs (i.toNatClampNeg + 2)), .int (xs (i.toNatClampNeg + 1)), .ref b]) ejx238) ?_
    refine x_V (As := [.int (xs (i.toNatClampNeg + 1)), .int (xs (i.toNatClampNeg + 2)), .int (xs (i.toNatClampNeg + 3))]) (rest := []) C (a_X10_takes l K G H181 ((xs (i.toNatClampNeg + 1))) ((xs (i.toNatClampNeg + 2))) ((xs (i.toNatClampNeg + 3))) hTH181 gb g183 g184 g185 g186) yo_X10_takes wM_L_87 ⟨⟨by decide, by decide⟩, show _ ≤ 284929 from Nat.le_trans hc (by decide), show _ ≤ 8247460 from Nat.le_trans hs (by decide)⟩ (x_rv C hTH181 (ci := 10) rfl gb rg_112) rfl hl.1 rfl (Nat.le_of_ble_eq_true rfl) dL_law_842 hSH181 (AE_new hN hSH181.1) (fun vH239 H239 locsH239 pH239 zH239 kH239 hSH239 => ?_)
    obtain ⟨x240, hvH239, g241, g242, g243, g244, mf245, hTH239⟩ := pH239
    subst hvH239
    have f246 : ∀ j : Nat, j < 8 → fI H239 cn j = fI H cn j := fun j hj => (fI_kept (x_lt hTH181 kH239 gcn (by decide))).trans (f187 j hj)
    have f247 : ∀ j : Nat, j < 8 → fI H239 xn j = fI H xn j := fun j hj => (fI_kept (x_lt hTH181 kH239 gxn (by decide))).trans (f188 j hj)
    have f248 : ∀ j : Nat, j < 8 → fI H239 cl j = fI H cl j := fun j hj => (fI_kept (x_lt hTH181 kH239 gcl (by decide))).trans (f189 j hj)
    have f249 : ∀ j : Nat, j < 8 → fI H239 xl j = fI H xl j := fun j hj => (fI_kept (x_lt hTH181 kH239 gxl (by decide))).trans (f190 j hj)
    have f250 : ∀ j : Nat, j < 8 → fI H239 ck j = fI H ck j := fun j hj => (fI_kept (x_lt hTH181 kH239 gck (by decide))).trans (f191 j hj)
    have f251 : ∀ j : Nat, j < 8 → fI H239 xk j = fI H xk j := fun j hj => (fI_kept (x_lt hTH181 kH239 gxk (by decide))).trans (f192 j hj)
    have f252 : ∀ j : Nat, j < 8 → fI H239 dn j = fI H dn j := fun j hj => (fI_kept (x_lt hTH181 kH239 gdn (by decide))).trans (f193 j hj)
    have f253 : ∀ j : Nat, j < 8 → fI H239 dl j = fI H dl j := fun j hj => (fI_kept (x_lt hTH181 kH239 gdl (by decide))).trans (f194 j hj)
    have f254 : ∀ j : Nat, j < 8 → fI H239 dk j = fI H dk j := fun j hj => (fI_kept (x_lt hTH181 kH239 gdk (by decide))).trans (f195 j hj)
    have f255 : ∀ j : Nat, fI H239 iq j = fI H iq j := fun j => (fI_kept (x_lt hTH181 kH239 giq (by decide))).trans (f196 j)
    have m256 := (m197).trans (fR_kept (x_lt hTH181 kH239 ga (by decide))).symm
    have m257 := (m198).trans (fI_kept (x_lt hTH181 kH239 ga (by decide))).symm
    have m258 := (m200).trans (fI_kept (x_lt hTH181 kH239 gw (by decide))).symm
    have m259 := (m202).trans (fI_kept (x_lt hTH181 kH239 gw (by decide))).symm
    have m260 := (m204).trans (fI_kept (x_lt hTH181 kH239 gw (by decide))).symm
    have m261 := (m206).trans (fI_kept (x_lt hTH181 kH239 gw (by decide))).symm
    have m262 := (m208).trans (fI_kept (x_lt hTH181 kH239 gw (by decide))).symm
    have m263 := (m210).trans (fI_kept (x_lt hTH181 kH239 gw (by decide))).symm
    have m264 := (m212).trans (fR_kept (x_lt hTH181 kH239 gw (by decide))).symm
    have m265 := (m214).trans (fR_kept (x_lt hTH181 kH239 gw (by decide))).symm
    have m266 := (m216).trans (fR_kept (x_lt hTH181 kH239 gw (by decide))).symm
    have m267 := (fV_kept (x_lt hTH181 kH239 ga (by decide))).trans m219
    have m268 := (m221).trans (fI_kept (x_lt hTH181 kH239 gkq (by decide))).symm
    have m269 := (m222).trans (fI_kept (x_lt hTH181 kH239 giq (by decide))).symm
    have m270 := (m223).trans (fI_kept (x_lt hTH181 kH239 gkq (by decide))).symm
    have m271 := (m224).trans (fI_kept (x_lt hTH181 kH239 giq (by decide))).symm
    have m272 := (m225).trans (fI_kept (x_lt hTH181 kH239 gkq (by decide))).symm
    have m273 := (m226).trans (fI_kept (x_lt hTH181 kH239 giq (by decide))).symm
    have m274 := (m227).trans (fI_kept (x_lt hTH181 kH239 gkq (by decide))).symm
    have m275 := (m228).trans (fI_kept (x_lt hTH181 kH239 giq (by decide))).symm
    have m276 := (m229).trans (fI_kept (x_lt hTH181 kH239 gkq (by decide))).symm
    have m277 := (m230).trans (fI_kept (x_lt hTH181 kH239 giq (by decide))).symm
    have m278 := (m231).trans (fI_kept (x_lt hTH181 kH239 gkq (by decide))).symm
    have m279 := (m232).trans (fI_kept (x_lt hTH181 kH239 giq (by decide))).symm
    have m280 := (m233).trans (fR_kept (x_lt hTH181 kH239 gkq (by decide))).symm
    have m281 := (m234).trans (fR_kept (x_lt hTH181 kH239 gkq (by decide))).symm
    have m282 := (m235).trans (fR_kept (x_lt hTH181 kH239 gkq (by decide))).symm
    have m283 := (m199).trans (MF.i mf245 (k := 18) (by decide) (by decide)).symm
    have m284 := (m201).trans (MF.i mf245 (k := 1) (by decide) (by decide)).symm
    have m285 := (m203).trans (MF.i mf245 (k := 2) (by decide) (by decide)).symm
    have m286 := (m205).trans (MF.i mf245 (k := 3) (by decide) (by decide)).symm
    have m287 := (m207).trans (MF.i mf245 (k := 59) (by decide) (by decide)).symm
    have m288 := (m209).trans (MF.i mf245 (k := 62) (by decide) (by decide)).symm
    have m289 := (m211).trans (MF.i mf245 (k := 65) (by decide) (by decide)).symm
    have m290 := (m213).trans (MF.r mf245 (k := 64) (by decide) (by decide)).symm
    have m291 := (m215).trans (MF.r mf245 (k := 66) (by decide) (by decide)).symm
    have m292 := (m217).trans (MF.r mf245 (k := 67) (by decide) (by decide)).symm
    have m293 := (m218).trans (MF.i mf245 (k := 70) (by decide) (by decide)).symm
    have m294 := (m220).trans (MF.r mf245 (k := 73) (by decide) (by decide)).symm
    refine W.eq (g2 := F0 m 845 ls [.int x240]) rfl ?_
    clear f187 f188 f189 f190 f191 f192 f193 f194 f195 f196 m197 m198 m199 m200 m201 m202 m203 m204 m205 m206 m207 m208 m209 m210 m211 m212 m213 m214 m215 m216 m217 m218 m219 m220 m221 m222 m223 m224 m225 m226 m227 m228 m229 m230 m231 m232 m233 m234 m235
    refine lv_pop hx hb dL_law_845 rfl ?_
    refine lv_goto (tgt := 1509) hx hb dL_law_846 (by decide) ?_
    exact nx G H239 locsH239 _ _ ls ⟨hTH239, hN, ga, gb, g241, g242, g243, g244, ⟨(by rw [← m257, ← m283]; exact rt), (by rw [← m256, ← m258, ← m284]; exact r1), (by rw [← m256, ← m259, ← m285]; exact r4), (by rw [← m256, ← m260, ← m286]; exact r5), (by rw [← m256, ← m261, ← m287]; exact r10), (by rw [← m256, ← m262, ← m288]; exact r13), (by rw [← m256, ← m263, ← m289]; exact r16)⟩, Or.inr ⟨kq, m267, gkq, (by rw [← m293]; exact h70), (by rw [← m268, ← m294, ← m269]; exact q1), (by rw [← m270, ← m294, ← m271]; exact q4), (by rw [← m272, ← m294, ← m273]; exact q5), (by rw [← m274, ← m294, ← m275]; exact q10), (by rw [← m276, ← m294, ← m277]; exact q13), (by rw [← m278, ← m294, ← m279]; exact q16), (by rw [← m280, ← m294, ← m276]; exact EQR.of hsn (fun j hj => f252 j (by omega)) (fun j hj => f255 _) (by omega)), (by rw [← m281, ← m294, ← m278]; exact EQR.of hsl (fun j hj => f253 j (by omega)) (fun j hj => f255 _) (by omega)), (by rw [← m282, ← m294, ← m278]; exact EQR.of hsk (fun j hj => f254 j (by omega)) (fun j hj => f255 _) (by omega))⟩, ⟨(by rw [← m256, ← m264, ← m290, ← m288]; exact EQR.of hrn (fun j hj => f246 j (by omega)) (fun j hj => f247 j (by omega)) (by omega)), (by rw [← m256, ← m265, ← m291, ← m289]; exact EQR.of hrl (fun j hj => f248 j (by omega)) (fun j hj => f249 j (by omega)) (by omega)), (by rw [← m256, ← m266, ← m292, ← m289]; exact EQR.of hrk (fun j hj => f250 j (by omega)) (fun j hj => f251 j (by omega)) (by omega))⟩, hSH239⟩ hl ⟨hc, hs, fun h => by have h1 := h.symm.trans m267; cases h1⟩
set_option maxRecDepth 100000 in
set_option maxHeartbeats 8000000 in
theorem lw_c17 {p : Program} {l : Launch} {e : Env} {s : State} {m : MethodId} {below : List Frame} {meth : Method} {c : Code} {K : KE} {b0 L : Nat} {xs : Nat → Int32} {G : Nat → Option Nat} {H : Heap} {locs : List Loc} {a b : Nat} {cells slots : Nat} {ls : Array Slot} {i : Int32} {n : Nat} (D : LC p K s m meth c b0 L xs) (S : SX K s G H locs a b) (hl : lv_has ls 4 [(3, .int i), (2, .ref b), (1, .ref a), (0, .ref b0)]) (hi : 0 ≤ i.toInt ∧ i.toInt + 6 ≤ L) (hn : n ≤ 511) (hB : BD K H a cells slots) (nx : ∀ (G : Nat → Option Nat) (H : Heap) (locs : List Loc) (cells slots : Nat) (ls : Array Slot), SX K s G H locs a b → lv_has ls 4 [(3, .int i), (2, .ref b), (1, .ref a), (0, .ref b0)] → BD K H a cells slots → W p l e room_1 s m #[Value.ref b0] below meth c H locs cells slots (lw_Z below #[Value.ref b0] s) (F0 m 1509 ls [])) : W p l e room_1 s m #[Value.ref b0] below meth c H locs cells slots (lw_Z below #[Value.ref b0] s) (F0 m 849 ls []) := by
  have hI := hi
  obtain ⟨C, hX, hbl, hL⟩ := id D
  obtain ⟨hx, hb, hml, hown, hts, hKT, hr, hlocks, hnm⟩ := id C
  obtain ⟨hT, hN, ga, gb, cg, tu, wd, im, ⟨rt, r1, r4, r5, r10, r13, r16⟩, hk, hnb, hS⟩ := S
  obtain ⟨hc, hs, hB0⟩ := hB
  have n_1 : (1 : Int32).toInt = 1 := rfl
  have n_2 : (2 : Int32).toInt = 2 := rfl
  obtain ⟨w, ew⟩ : ∃ z : Nat, z = fR H a (K.1.2 9 0) := ⟨_, rfl⟩
  have gw := ty_fr (q := w) (k := 0) (u := 0) ew hT ga rg_68 rfl
  rw [← ew] at r1 r4 r5 r10 r13 r16
  obtain ⟨ta, eta⟩ : ∃ z : Int32, z = fI H a (K.1.2 9 3) := ⟨_, rfl⟩
  rw [← eta] at rt
  obtain ⟨tb, etb⟩ : ∃ z : Int32, z = fI H b (K.1.2 10 18) := ⟨_, rfl⟩
  rw [← etb] at rt
  obtain ⟨s1, es1⟩ : ∃ z : Int32, z = fI H w (K.1.2 8 1) := ⟨_, rfl⟩
  rw [← es1] at r1
  obtain ⟨y1, ey1⟩ : ∃ z : Int32, z = fI H b (K.1.2 10 1) := ⟨_, rfl⟩
  rw [← ey1] at r1
  obtain ⟨s4, es4⟩ : ∃ z : Int32, z = fI H w (K.1.2 8 4) := ⟨_, rfl⟩
  rw [← es4] at r4
  obtain ⟨y4, ey4⟩ : ∃ z : Int32, z = fI H b (K.1.2 10 2) := ⟨_, rfl⟩
  rw [← ey4] at r4
  obtain ⟨s5, es5⟩ : ∃ z : Int32, z = fI H w (K.1.2 8 5) := ⟨_, rfl⟩
  rw [← es5] at r5
  obtain ⟨y5, ey5⟩ : ∃ z : Int32, z = fI H b (K.1.2 10 3) := ⟨_, rfl⟩
  rw [← ey5] at r5
  obtain ⟨s10, es10⟩ : ∃ z : Int32, z = fI H w (K.1.2 8 10) := ⟨_, rfl⟩
  rw [← es10] at r10
  obtain ⟨y10, ey10⟩ : ∃ z : Int32, z = fI H b (K.1.2 10 59) := ⟨_, rfl⟩
  rw [← ey10] at r10
  obtain ⟨s13, es13⟩ : ∃ z : Int32, z = fI H w (K.1.2 8 13) := ⟨_, rfl⟩
  rw [← es13] at r13
  obtain ⟨y13, ey13⟩ : ∃ z : Int32, z = fI H b (K.1.2 10 62) := ⟨_, rfl⟩
  rw [← ey13] at r13
  obtain ⟨s16, es16⟩ : ∃ z : Int32, z = fI H w (K.1.2 8 16) := ⟨_, rfl⟩
  rw [← es16] at r16
  obtain ⟨y16, ey16⟩ : ∃ z : Int32, z = fI H b (K.1.2 10 65) := ⟨_, rfl⟩
  rw [← ey16] at r16
  obtain ⟨hb1, hb2, hb3⟩ := hnb
  obtain ⟨cn, ecn⟩ : ∃ z : Nat, z = fR H w (K.1.2 8 12) := ⟨_, rfl⟩
  have gcn := ty_fr (q := cn) (k := 12) (u := 31) ecn hT gw rg_0 rfl
  obtain ⟨xn, exn⟩ : ∃ z : Nat, z = fR H b (K.1.2 10 64) := ⟨_, rfl⟩
  have gxn := ty_fr (q := xn) (k := 64) (u := 157) exn hT gb rg_112 rfl
  obtain ⟨cl, ecl⟩ : ∃ z : Nat, z = fR H w (K.1.2 8 14) := ⟨_, rfl⟩
  have gcl := ty_fr (q := cl) (k := 14) (u := 32) ecl hT gw rg_0 rfl
  obtain ⟨xl, exl⟩ : ∃ z : Nat, z = fR H b (K.1.2 10 66) := ⟨_, rfl⟩
  have gxl := ty_fr (q := xl) (k := 66) (u := 158) exl hT gb rg_112 rfl
  obtain ⟨ck, eck⟩ : ∃ z : Nat, z = fR H w (K.1.2 8 15) := ⟨_, rfl⟩
  have gck := ty_fr (q := ck) (k := 15) (u := 33) eck hT gw rg_0 rfl
  obtain ⟨xk, exk⟩ : ∃ z : Nat, z = fR H b (K.1.2 10 67) := ⟨_, rfl⟩
  have gxk := ty_fr (q := xk) (k := 67) (u := 159) exk hT gb rg_112 rfl
  have hrn : EQR (fun j => fI H cn j) (fun j => fI H xn j) y13.toInt := by rw [ecn, exn, ew, ey13]; exact hb1
  have hrl : EQR (fun j => fI H cl j) (fun j => fI H xl j) y16.toInt := by rw [ecl, exl, ew, ey16]; exact hb2
  have hrk : EQR (fun j => fI H ck j) (fun j => fI H xk j) y16.toInt := by rw [eck, exk, ew, ey16]; exact hb3
  have by13 := ty_fi (x := y13) (k := 62) ey13 hT gb rg_112 rfl
  have by16 := ty_fi (x := y16) (k := 65) ey16 hT gb rg_112 rfl
  have f0cn : ∀ j : Nat, j < 8 → fI H cn j = fI H cn j := fun _ _ => rfl
  have f0xn : ∀ j : Nat, j < 8 → fI H xn j = fI H xn j := fun _ _ => rfl
  have f0cl : ∀ j : Nat, j < 8 → fI H cl j = fI H cl j := fun _ _ => rfl
  have f0xl : ∀ j : Nat, j < 8 → fI H xl j = fI H xl j := fun _ _ => rfl
  have f0ck : ∀ j : Nat, j < 8 → fI H ck j = fI H ck j := fun _ _ => rfl
  have f0xk : ∀ j : Nat, j < 8 → fI H xk j = fI H xk j := fun _ _ => rfl
  rcases hk with ⟨kn, h70⟩ | ⟨kq, kn, gkq, h70, q1, q4, q5, q10, q13, q16, hq1, hq2, hq3⟩
  · skip
    obtain ⟨hi, ehi⟩ : ∃ z : Int32, z = fI H b (K.1.2 10 70) := ⟨_, rfl⟩
    rw [← ehi] at h70
    obtain ⟨hc0, hs0⟩ := hB0 kn
    refine lv_aload_n hx hb dL_law_849 rfl (lv_at hl 2 rfl) ?_
    refine lv_aload_n hx hb dL_law_850 rfl (lv_at hl 3 rfl) ?_
    refine lv_iload_n hx hb dL_law_851 rfl (lv_at hl 0 rfl) ?_
    refine lv_iconst (v := 1) hx hb dL_law_852 (by decide) ?_
    refine lv_iadd hx hb dL_law_853 ?_
    refine lv_topi (fun x101 ex101 => ?_)
    obtain ⟨tx101, ejx101, evx101⟩ := lw_ix (k := 1) ex101 hI hL rfl (by decide)
    clear tx101
    refine va_sld hx hb hX hbl (Nat.not_le.mpr hbl) hS (vp_in_iff.mpr evx101) dL_law_854 ?_
    refine W.eq (g2 := F0 m 855 ls [.int (xs (i.toNatClampNeg + 1)), .ref a]) (congrArg (fun z => F0 m 855 ls [.int (xs z), .ref a]) ejx101) ?_
    refine lv_aload_n hx hb dL_law_855 rfl (lv_at hl 3 rfl) ?_
    refine lv_iload_n hx hb dL_law_856 rfl (lv_at hl 0 rfl) ?_
    refine lv_iconst (v := 2) hx hb dL_law_857 (by decide) ?_
    refine lv_iadd hx hb dL_law_858 ?_
    refine lv_topi (fun x102 ex102 => ?_)
    obtain ⟨tx102, ejx102, evx102⟩ := lw_ix (k := 2) ex102 hI hL rfl (by decide)
    clear tx102
    refine va_sld hx hb hX hbl (Nat.not_le.mpr hbl) hS (vp_in_iff.mpr evx102) dL_law_859 ?_
    refine W.eq (g2 := F0 m 860 ls [.int (xs (i.toNatClampNeg + 2)), .int (xs (i.toNatClampNeg + 1)), .ref a]) (congrArg (fun z => F0 m 860 ls [.int (xs z), .int (xs (i.toNatClampNeg + 1)), .ref a]) ejx102) ?_
    refine x_V (As := [.int (xs (i.toNatClampNeg + 1)), .int (xs (i.toNatClampNeg + 2))]) (rest := []) C (a_X9_job l K G H ((xs (i.toNatClampNeg + 1))) ((xs (i.toNatClampNeg + 2))) hT ga) yo_X9_job wM_L_88 ⟨⟨by decide, by decide⟩, show _ ≤ 284929 from Nat.le_trans hc (by decide), show _ ≤ 8247460 from Nat.le_trans hs (by decide)⟩ (x_rv C hT (ci := 9) rfl ga rg_68) rfl hl.1 rfl (Nat.le_of_ble_eq_true rfl) dL_law_860 hS (AE_new hN hS.1) (fun vH103 H103 locsH103 pH103 zH103 kH103 hSH103 => ?_)
    obtain ⟨x104, hvH103, hTH103⟩ := pH103
    subst hvH103
    have g105 : CG (avw K H103 b) := CG.congr (fun k hk j => av_eff hT kH103 gb (by decide) (CG_eff [1, 2, 7, 8, 83, 84, 5] (by decide) k hk)) cg
    have g106 : TU (avw K H103 b) (svw K H103 b) := TU.congr (fun k hk j => av_eff hT kH103 gb (by decide) (TU_eff [1, 2, 7, 8, 83, 84, 5] (by decide) k hk)) (fun k hk => sv_eff hT kH103 gb (by decide)) tu
    have g107 : WD (avw K H103 b) := WD.congr (fun k hk j => av_eff hT kH103 gb (by decide) (WD_eff [1, 2, 7, 8, 83, 84, 5] (by decide) k hk)) wd
    have g108 : IM (avw K H103 b) := IM.congr (fun k hk j => av_eff hT kH103 gb (by decide) (IM_eff [1, 2, 7, 8, 83, 84, 5] (by decide) k hk)) im
    have f109 : ∀ j : Nat, j < 8 → fI H103 cn j = fI H cn j := fun j hj => (fI_kept (x_lt hT kH103 gcn (by decide))).trans (f0cn j hj)
    have f110 : ∀ j : Nat, j < 8 → fI H103 xn j = fI H xn j := fun j hj => (fI_kept (x_lt hT kH103 gxn (by decide))).trans (f0xn j hj)
    have f111 : ∀ j : Nat, j < 8 → fI H103 cl j = fI H cl j := fun j hj => (fI_kept (x_lt hT kH103 gcl (by decide))).trans (f0cl j hj)
    have f112 : ∀ j : Nat, j < 8 → fI H103 xl j = fI H xl j := fun j hj => (fI_kept (x_lt hT kH103 gxl (by decide))).trans (f0xl j hj)
    have f113 : ∀ j : Nat, j < 8 → fI H103 ck j = fI H ck j := fun j hj => (fI_kept (x_lt hT kH103 gck (by decide))).trans (f0ck j hj)
    have f114 : ∀ j : Nat, j < 8 → fI H103 xk j = fI H xk j := fun j hj => (fI_kept (x_lt hT kH103 gxk (by decide))).trans (f0xk j hj)
    have m115 := (ew).trans (fR_kept (x_lt hT kH103 ga (by decide))).symm
    have m116 := (eta).trans (fI_kept (x_lt hT kH103 ga (by decide))).symm
    have m117 := (etb).trans (fI_kept (x_lt hT kH103 gb (by decide))).symm
    have m118 := (es1).trans (fI_kept (x_lt hT kH103 gw (by decide))).symm
    have m119 := (ey1).trans (fI_kept (x_lt hT kH103 gb (by decide))).symm
    have m120 := (es4).trans (fI_kept (x_lt hT kH103 gw (by decide))).symm
    have m121 := (ey4).trans (fI_kept (x_lt hT kH103 gb (by decide))).symm
    have m122 := (es5).trans (fI_kept (x_lt hT kH103 gw (by decide))).symm
    have m123 := (ey5).trans (fI_kept (x_lt hT kH103 gb (by decide))).symm
    have m124 := (es10).trans (fI_kept (x_lt hT kH103 gw (by decide))).symm
    have m125 := (ey10).trans (fI_kept (x_lt hT kH103 gb (by decide))).symm
    have m126 := (es13).trans (fI_kept (x_lt hT kH103 gw (by decide))).symm
    have m127 := (ey13).trans (fI_kept (x_lt hT kH103 gb (by decide))).symm
    have m128 := (es16).trans (fI_kept (x_lt hT kH103 gw (by decide))).symm
    have m129 := (ey16).trans (fI_kept (x_lt hT kH103 gb (by decide))).symm
    have m130 := (ecn).trans (fR_kept (x_lt hT kH103 gw (by decide))).symm
    have m131 := (exn).trans (fR_kept (x_lt hT kH103 gb (by decide))).symm
    have m132 := (ecl).trans (fR_kept (x_lt hT kH103 gw (by decide))).symm
    have m133 := (exl).trans (fR_kept (x_lt hT kH103 gb (by decide))).symm
    have m134 := (eck).trans (fR_kept (x_lt hT kH103 gw (by decide))).symm
    have m135 := (exk).trans (fR_kept (x_lt hT kH103 gb (by decide))).symm
    have m136 := (ehi).trans (fI_kept (x_lt hT kH103 gb (by decide))).symm
    have m137 := (fV_kept (x_lt hT kH103 ga (by decide))).trans kn
    refine W.eq (g2 := F0 m 863 ls [.int x104]) rfl ?_
    clear eck ecl ecn ehi es1 es10 es13 es16 es4 es5 eta etb ew exk exl exn ey1 ey10 ey13 ey16 ey4 ey5 f0ck f0cl f0cn f0xk f0xl f0xn kn
    refine lv_pop hx hb dL_law_863 rfl ?_
    refine lv_aload_n hx hb dL_law_864 rfl (lv_at hl 1 rfl) ?_
    refine lv_aload_n hx hb dL_law_865 rfl (lv_at hl 3 rfl) ?_
    refine lv_iload_n hx hb dL_law_866 rfl (lv_at hl 0 rfl) ?_
    refine lv_iconst (v := 1) hx hb dL_law_867 (by decide) ?_
    refine lv_iadd hx hb dL_law_868 ?_
    refine lv_topi (fun x138 ex138 => ?_)
    obtain ⟨tx138, ejx138, evx138⟩ := lw_ix (k := 1) ex138 hI hL rfl (by decide)
    clear tx138
    refine va_sld hx hb hX hbl (Nat.not_le.mpr hbl) hSH103 (vp_in_iff.mpr evx138) dL_law_869 ?_
    refine W.eq (g2 := F0 m 870 ls [.int (xs (i.toNatClampNeg + 1)), .ref b]) (congrArg (fun z => F0 m 870 ls [.int (xs z), .ref b]) ejx138) ?_
    refine lv_aload_n hx hb dL_law_870 rfl (lv_at hl 3 rfl) ?_
    refine lv_iload_n hx hb dL_law_871 rfl (lv_at hl 0 rfl) ?_
    refine lv_iconst (v := 2) hx hb dL_law_872 (by decide) ?_
    refine lv_iadd hx hb dL_law_873 ?_
    refine lv_topi (fun x139 ex139 => ?_)
    obtain ⟨tx139, ejx139, evx139⟩ := lw_ix (k := 2) ex139 hI hL rfl (by decide)
    clear tx139
    refine va_sld hx hb hX hbl (Nat.not_le.mpr hbl) hSH103 (vp_in_iff.mpr evx139) dL_law_874 ?_
    refine W.eq (g2 := F0 m 875 ls [.int (xs (i.toNatClampNeg + 2)), .int (xs (i.toNatClampNeg + 1)), .ref b]) (congrArg (fun z => F0 m 875 ls [.int (xs z), .int (xs (i.toNatClampNeg + 1)), .ref b]) ejx139) ?_
    refine x_V (As := [.int (xs (i.toNatClampNeg + 1)), .int (xs (i.toNatClampNeg + 2))]) (rest := []) C (a_X10_job l K G H103 ((xs (i.toNatClampNeg + 1))) ((xs (i.toNatClampNeg + 2))) hTH103 gb g105 g106 g107 g108) yo_X10_job wM_L_91 ⟨⟨by decide, by decide⟩, show _ ≤ 284929 from Nat.le_trans hc (by decide), show _ ≤ 8247460 from Nat.le_trans hs (by decide)⟩ (x_rv C hTH103 (ci := 10) rfl gb rg_112) rfl hl.1 rfl (Nat.le_of_ble_eq_true rfl) dL_law_875 hSH103 (AE_new hN hSH103.1) (fun vH140 H140 locsH140 pH140 zH140 kH140 hSH140 => ?_)
    obtain ⟨x141, hvH140, g142, g143, g144, g145, mf146, hTH140⟩ := pH140
    subst hvH140
    have f147 : ∀ j : Nat, j < 8 → fI H140 cn j = fI H cn j := fun j hj => (fI_kept (x_lt hTH103 kH140 gcn (by decide))).trans (f109 j hj)
    have f148 : ∀ j : Nat, j < 8 → fI H140 xn j = fI H xn j := fun j hj => (fI_kept (x_lt hTH103 kH140 gxn (by decide))).trans (f110 j hj)
    have f149 : ∀ j : Nat, j < 8 → fI H140 cl j = fI H cl j := fun j hj => (fI_kept (x_lt hTH103 kH140 gcl (by decide))).trans (f111 j hj)
    have f150 : ∀ j : Nat, j < 8 → fI H140 xl j = fI H xl j := fun j hj => (fI_kept (x_lt hTH103 kH140 gxl (by decide))).trans (f112 j hj)
    have f151 : ∀ j : Nat, j < 8 → fI H140 ck j = fI H ck j := fun j hj => (fI_kept (x_lt hTH103 kH140 gck (by decide))).trans (f113 j hj)
    have f152 : ∀ j : Nat, j < 8 → fI H140 xk j = fI H xk j := fun j hj => (fI_kept (x_lt hTH103 kH140 gxk (by decide))).trans (f114 j hj)
    have m153 := (m115).trans (fR_kept (x_lt hTH103 kH140 ga (by decide))).symm
    have m154 := (m116).trans (fI_kept (x_lt hTH103 kH140 ga (by decide))).symm
    have m155 := (m118).trans (fI_kept (x_lt hTH103 kH140 gw (by decide))).symm
    have m156 := (m120).trans (fI_kept (x_lt hTH103 kH140 gw (by decide))).symm
    have m157 := (m122).trans (fI_kept (x_lt hTH103 kH140 gw (by decide))).symm
    have m158 := (m124).trans (fI_kept (x_lt hTH103 kH140 gw (by decide))).symm
    have m159 := (m126).trans (fI_kept (x_lt hTH103 kH140 gw (by decide))).symm
    have m160 := (m128).trans (fI_kept (x_lt hTH103 kH140 gw (by decide))).symm
    have m161 := (m130).trans (fR_kept (x_lt hTH103 kH140 gw (by decide))).symm
    have m162 := (m132).trans (fR_kept (x_lt hTH103 kH140 gw (by decide))).symm
    have m163 := (m134).trans (fR_kept (x_lt hTH103 kH140 gw (by decide))).symm
    have m164 := (fV_kept (x_lt hTH103 kH140 ga (by decide))).trans m137
    have m165 := (m117).trans (MF.i mf146 (k := 18) (by decide) (by decide)).symm
    have m166 := (m119).trans (MF.i mf146 (k := 1) (by decide) (by decide)).symm
    have m167 := (m121).trans (MF.i mf146 (k := 2) (by decide) (by decide)).symm
    have m168 := (m123).trans (MF.i mf146 (k := 3) (by decide) (by decide)).symm
    have m169 := (m125).trans (MF.i mf146 (k := 59) (by decide) (by decide)).symm
    have m170 := (m127).trans (MF.i mf146 (k := 62) (by decide) (by decide)).symm
    have m171 := (m129).trans (MF.i mf146 (k := 65) (by decide) (by decide)).symm
    have m172 := (m131).trans (MF.r mf146 (k := 64) (by decide) (by decide)).symm
    have m173 := (m133).trans (MF.r mf146 (k := 66) (by decide) (by decide)).symm
    have m174 := (m135).trans (MF.r mf146 (k := 67) (by decide) (by decide)).symm
    have m175 := (m136).trans (MF.i mf146 (k := 70) (by decide) (by decide)).symm
    refine W.eq (g2 := F0 m 878 ls [.int x141]) rfl ?_
    clear f109 f110 f111 f112 f113 f114 m115 m116 m117 m118 m119 m120 m121 m122 m123 m124 m125 m126 m127 m128 m129 m130 m131 m132 m133 m134 m135 m136 m137
    refine lv_pop hx hb dL_law_878 rfl ?_
    refine lv_goto (tgt := 1509) hx hb dL_law_879 (by decide) ?_
    exact nx G H140 locsH140 _ _ ls ⟨hTH140, hN, ga, gb, g142, g143, g144, g145, ⟨(by rw [← m154, ← m165]; exact rt), (by rw [← m153, ← m155, ← m166]; exact r1), (by rw [← m153, ← m156, ← m167]; exact r4), (by rw [← m153, ← m157, ← m168]; exact r5), (by rw [← m153, ← m158, ← m169]; exact r10), (by rw [← m153, ← m159, ← m170]; exact r13), (by rw [← m153, ← m160, ← m171]; exact r16)⟩, Or.inl ⟨m164, (by rw [← m175]; exact h70)⟩, ⟨(by rw [← m153, ← m161, ← m172, ← m170]; exact EQR.of hrn (fun j hj => f147 j (by omega)) (fun j hj => f148 j (by omega)) (by omega)), (by rw [← m153, ← m162, ← m173, ← m171]; exact EQR.of hrl (fun j hj => f149 j (by omega)) (fun j hj => f150 j (by omega)) (by omega)), (by rw [← m153, ← m163, ← m174, ← m171]; exact EQR.of hrk (fun j hj => f151 j (by omega)) (fun j hj => f152 j (by omega)) (by omega))⟩, hSH140⟩ hl ⟨hc, hs, fun _ => ⟨hc0, hs0⟩⟩
  · skip
    obtain ⟨hi, ehi⟩ : ∃ z : Int32, z = fI H b (K.1.2 10 70) := ⟨_, rfl⟩
    rw [← ehi] at h70
    obtain ⟨iq, eiq⟩ : ∃ z : Nat, z = fR H b (K.1.2 10 73) := ⟨_, rfl⟩
    have giq := ty_fr (q := iq) (k := 73) (u := 162) eiq hT gb rg_112 rfl
    rw [← eiq] at q1 q4 q5 q10 q13 q16
    obtain ⟨k1, ek1⟩ : ∃ z : Int32, z = fI H kq (K.1.2 8 1) := ⟨_, rfl⟩
    rw [← ek1] at q1
    obtain ⟨i1, ei1⟩ : ∃ z : Int32, z = fI H iq ((0 : Int32).toNatClampNeg) := ⟨_, rfl⟩
    rw [← ei1] at q1
    obtain ⟨k4, ek4⟩ : ∃ z : Int32, z = fI H kq (K.1.2 8 4) := ⟨_, rfl⟩
    rw [← ek4] at q4
    obtain ⟨i4, ei4⟩ : ∃ z : Int32, z = fI H iq ((1 : Int32).toNatClampNeg) := ⟨_, rfl⟩
    rw [← ei4] at q4
    obtain ⟨k5, ek5⟩ : ∃ z : Int32, z = fI H kq (K.1.2 8 5) := ⟨_, rfl⟩
    rw [← ek5] at q5
    obtain ⟨i5, ei5⟩ : ∃ z : Int32, z = fI H iq ((2 : Int32).toNatClampNeg) := ⟨_, rfl⟩
    rw [← ei5] at q5
    obtain ⟨k10, ek10⟩ : ∃ z : Int32, z = fI H kq (K.1.2 8 10) := ⟨_, rfl⟩
    rw [← ek10] at q10
    obtain ⟨i10, ei10⟩ : ∃ z : Int32, z = fI H iq ((3 : Int32).toNatClampNeg) := ⟨_, rfl⟩
    rw [← ei10] at q10
    obtain ⟨k13, ek13⟩ : ∃ z : Int32, z = fI H kq (K.1.2 8 13) := ⟨_, rfl⟩
    rw [← ek13] at q13
    obtain ⟨i13, ei13⟩ : ∃ z : Int32, z = fI H iq ((4 : Int32).toNatClampNeg) := ⟨_, rfl⟩
    rw [← ei13] at q13
    obtain ⟨k16, ek16⟩ : ∃ z : Int32, z = fI H kq (K.1.2 8 16) := ⟨_, rfl⟩
    rw [← ek16] at q16
    obtain ⟨i16, ei16⟩ : ∃ z : Int32, z = fI H iq ((5 : Int32).toNatClampNeg) := ⟨_, rfl⟩
    rw [← ei16] at q16
    obtain ⟨dn, edn⟩ : ∃ z : Nat, z = fR H kq (K.1.2 8 12) := ⟨_, rfl⟩
    have gdn := ty_fr (q := dn) (k := 12) (u := 65) edn hT gkq rg_34 rfl
    obtain ⟨dl, edl⟩ : ∃ z : Nat, z = fR H kq (K.1.2 8 14) := ⟨_, rfl⟩
    have gdl := ty_fr (q := dl) (k := 14) (u := 66) edl hT gkq rg_34 rfl
    obtain ⟨dk, edk⟩ : ∃ z : Nat, z = fR H kq (K.1.2 8 15) := ⟨_, rfl⟩
    have gdk := ty_fr (q := dk) (k := 15) (u := 67) edk hT gkq rg_34 rfl
    have hsn : EQR (fun j => fI H dn j) (fun j => fI H iq (8877 + 4 * j)) k13.toInt := by rw [edn, eiq, ek13]; exact hq1
    have hsl : EQR (fun j => fI H dl j) (fun j => fI H iq (8878 + 4 * j)) k16.toInt := by rw [edl, eiq, ek16]; exact hq2
    have hsk : EQR (fun j => fI H dk j) (fun j => fI H iq (8879 + 4 * j)) k16.toInt := by rw [edk, eiq, ek16]; exact hq3
    have bk13 := ty_fi (x := k13) (k := 13) ek13 hT gkq rg_34 rfl
    have bk16 := ty_fi (x := k16) (k := 16) ek16 hT gkq rg_34 rfl
    have f0dn : ∀ j : Nat, j < 8 → fI H dn j = fI H dn j := fun _ _ => rfl
    have f0dl : ∀ j : Nat, j < 8 → fI H dl j = fI H dl j := fun _ _ => rfl
    have f0dk : ∀ j : Nat, j < 8 → fI H dk j = fI H dk j := fun _ _ => rfl
    have f0i : ∀ j : Nat, fI H iq j = fI H iq j := fun _ => rfl
    refine lv_aload_n hx hb dL_law_849 rfl (lv_at hl 2 rfl) ?_
    refine lv_aload_n hx hb dL_law_850 rfl (lv_at hl 3 rfl) ?_
    refine lv_iload_n hx hb dL_law_851 rfl (lv_at hl 0 rfl) ?_
    refine lv_iconst (v := 1) hx hb dL_law_852 (by decide) ?_
    refine lv_iadd hx hb dL_law_853 ?_
    refine lv_topi (fun x176 ex176 => ?_)
    obtain ⟨tx176, ejx176, evx176⟩ := lw_ix (k := 1) ex176 hI hL rfl (by decide)
    clear tx176
    refine va_sld hx hb hX hbl (Nat.not_le.mpr hbl) hS (vp_in_iff.mpr evx176) dL_law_854 ?_
    refine W.eq (g2 := F0 m 855 ls [.int (xs (i.toNatClampNeg + 1)), .ref a]) (congrArg (fun z => F0 m 855 ls [.int (xs z), .ref a]) ejx176) ?_
    refine lv_aload_n hx hb dL_law_855 rfl (lv_at hl 3 rfl) ?_
    refine lv_iload_n hx hb dL_law_856 rfl (lv_at hl 0 rfl) ?_
    refine lv_iconst (v := 2) hx hb dL_law_857 (by decide) ?_
    refine lv_iadd hx hb dL_law_858 ?_
    refine lv_topi (fun x177 ex177 => ?_)
    obtain ⟨tx177, ejx177, evx177⟩ := lw_ix (k := 2) ex177 hI hL rfl (by decide)
    clear tx177
    refine va_sld hx hb hX hbl (Nat.not_le.mpr hbl) hS (vp_in_iff.mpr evx177) dL_law_859 ?_
    refine W.eq (g2 := F0 m 860 ls [.int (xs (i.toNatClampNeg + 2)), .int (xs (i.toNatClampNeg + 1)), .ref a]) (congrArg (fun z => F0 m 860 ls [.int (xs z), .int (xs (i.toNatClampNeg + 1)), .ref a]) ejx177) ?_
    refine x_V (As := [.int (xs (i.toNatClampNeg + 1)), .int (xs (i.toNatClampNeg + 2))]) (rest := []) C (a_X9_job l K G H ((xs (i.toNatClampNeg + 1))) ((xs (i.toNatClampNeg + 2))) hT ga) yo_X9_job wM_L_88 ⟨⟨by decide, by decide⟩, show _ ≤ 284929 from Nat.le_trans hc (by decide), show _ ≤ 8247460 from Nat.le_trans hs (by decide)⟩ (x_rv C hT (ci := 9) rfl ga rg_68) rfl hl.1 rfl (Nat.le_of_ble_eq_true rfl) dL_law_860 hS (AE_new hN hS.1) (fun vH178 H178 locsH178 pH178 zH178 kH178 hSH178 => ?_)
    obtain ⟨x179, hvH178, hTH178⟩ := pH178
    subst hvH178
    have g180 : CG (avw K H178 b) := CG.congr (fun k hk j => av_eff hT kH178 gb (by decide) (CG_eff [1, 2, 7, 8, 83, 84, 5] (by decide) k hk)) cg
    have g181 : TU (avw K H178 b) (svw K H178 b) := TU.congr (fun k hk j => av_eff hT kH178 gb (by decide) (TU_eff [1, 2, 7, 8, 83, 84, 5] (by decide) k hk)) (fun k hk => sv_eff hT kH178 gb (by decide)) tu
    have g182 : WD (avw K H178 b) := WD.congr (fun k hk j => av_eff hT kH178 gb (by decide) (WD_eff [1, 2, 7, 8, 83, 84, 5] (by decide) k hk)) wd
    have g183 : IM (avw K H178 b) := IM.congr (fun k hk j => av_eff hT kH178 gb (by decide) (IM_eff [1, 2, 7, 8, 83, 84, 5] (by decide) k hk)) im
    have f184 : ∀ j : Nat, j < 8 → fI H178 cn j = fI H cn j := fun j hj => (fI_kept (x_lt hT kH178 gcn (by decide))).trans (f0cn j hj)
    have f185 : ∀ j : Nat, j < 8 → fI H178 xn j = fI H xn j := fun j hj => (fI_kept (x_lt hT kH178 gxn (by decide))).trans (f0xn j hj)
    have f186 : ∀ j : Nat, j < 8 → fI H178 cl j = fI H cl j := fun j hj => (fI_kept (x_lt hT kH178 gcl (by decide))).trans (f0cl j hj)
    have f187 : ∀ j : Nat, j < 8 → fI H178 xl j = fI H xl j := fun j hj => (fI_kept (x_lt hT kH178 gxl (by decide))).trans (f0xl j hj)
    have f188 : ∀ j : Nat, j < 8 → fI H178 ck j = fI H ck j := fun j hj => (fI_kept (x_lt hT kH178 gck (by decide))).trans (f0ck j hj)
    have f189 : ∀ j : Nat, j < 8 → fI H178 xk j = fI H xk j := fun j hj => (fI_kept (x_lt hT kH178 gxk (by decide))).trans (f0xk j hj)
    have f190 : ∀ j : Nat, j < 8 → fI H178 dn j = fI H dn j := fun j hj => (fI_kept (x_lt hT kH178 gdn (by decide))).trans (f0dn j hj)
    have f191 : ∀ j : Nat, j < 8 → fI H178 dl j = fI H dl j := fun j hj => (fI_kept (x_lt hT kH178 gdl (by decide))).trans (f0dl j hj)
    have f192 : ∀ j : Nat, j < 8 → fI H178 dk j = fI H dk j := fun j hj => (fI_kept (x_lt hT kH178 gdk (by decide))).trans (f0dk j hj)
    have f193 : ∀ j : Nat, fI H178 iq j = fI H iq j := fun j => (fI_kept (x_lt hT kH178 giq (by decide))).trans (f0i j)
    have m194 := (ew).trans (fR_kept (x_lt hT kH178 ga (by decide))).symm
    have m195 := (eta).trans (fI_kept (x_lt hT kH178 ga (by decide))).symm
    have m196 := (etb).trans (fI_kept (x_lt hT kH178 gb (by decide))).symm
    have m197 := (es1).trans (fI_kept (x_lt hT kH178 gw (by decide))).symm
    have m198 := (ey1).trans (fI_kept (x_lt hT kH178 gb (by decide))).symm
    have m199 := (es4).trans (fI_kept (x_lt hT kH178 gw (by decide))).symm
    have m200 := (ey4).trans (fI_kept (x_lt hT kH178 gb (by decide))).symm
    have m201 := (es5).trans (fI_kept (x_lt hT kH178 gw (by decide))).symm
    have m202 := (ey5).trans (fI_kept (x_lt hT kH178 gb (by decide))).symm
    have m203 := (es10).trans (fI_kept (x_lt hT kH178 gw (by decide))).symm
    have m204 := (ey10).trans (fI_kept (x_lt hT kH178 gb (by decide))).symm
    have m205 := (es13).trans (fI_kept (x_lt hT kH178 gw (by decide))).symm
    have m206 := (ey13).trans (fI_kept (x_lt hT kH178 gb (by decide))).symm
    have m207 := (es16).trans (fI_kept (x_lt hT kH178 gw (by decide))).symm
    have m208 := (ey16).trans (fI_kept (x_lt hT kH178 gb (by decide))).symm
    have m209 := (ecn).trans (fR_kept (x_lt hT kH178 gw (by decide))).symm
    have m210 := (exn).trans (fR_kept (x_lt hT kH178 gb (by decide))).symm
    have m211 := (ecl).trans (fR_kept (x_lt hT kH178 gw (by decide))).symm
    have m212 := (exl).trans (fR_kept (x_lt hT kH178 gb (by decide))).symm
    have m213 := (eck).trans (fR_kept (x_lt hT kH178 gw (by decide))).symm
    have m214 := (exk).trans (fR_kept (x_lt hT kH178 gb (by decide))).symm
    have m215 := (ehi).trans (fI_kept (x_lt hT kH178 gb (by decide))).symm
    have m216 := (fV_kept (x_lt hT kH178 ga (by decide))).trans kn
    have m217 := (eiq).trans (fR_kept (x_lt hT kH178 gb (by decide))).symm
    have m218 := (ek1).trans (fI_kept (x_lt hT kH178 gkq (by decide))).symm
    have m219 := (ei1).trans (fI_kept (x_lt hT kH178 giq (by decide))).symm
    have m220 := (ek4).trans (fI_kept (x_lt hT kH178 gkq (by decide))).symm
    have m221 := (ei4).trans (fI_kept (x_lt hT kH178 giq (by decide))).symm
    have m222 := (ek5).trans (fI_kept (x_lt hT kH178 gkq (by decide))).symm
    have m223 := (ei5).trans (fI_kept (x_lt hT kH178 giq (by decide))).symm
    have m224 := (ek10).trans (fI_kept (x_lt hT kH178 gkq (by decide))).symm
    have m225 := (ei10).trans (fI_kept (x_lt hT kH178 giq (by decide))).symm
    have m226 := (ek13).trans (fI_kept (x_lt hT kH178 gkq (by decide))).symm
    have m227 := (ei13).trans (fI_kept (x_lt hT kH178 giq (by decide))).symm
    have m228 := (ek16).trans (fI_kept (x_lt hT kH178 gkq (by decide))).symm
    have m229 := (ei16).trans (fI_kept (x_lt hT kH178 giq (by decide))).symm
    have m230 := (edn).trans (fR_kept (x_lt hT kH178 gkq (by decide))).symm
    have m231 := (edl).trans (fR_kept (x_lt hT kH178 gkq (by decide))).symm
    have m232 := (edk).trans (fR_kept (x_lt hT kH178 gkq (by decide))).symm
    refine W.eq (g2 := F0 m 863 ls [.int x179]) rfl ?_
    clear eck ecl ecn edk edl edn ehi ei1 ei10 ei13 ei16 ei4 ei5 eiq ek1 ek10 ek13 ek16 ek4 ek5 es1 es10 es13 es16 es4 es5 eta etb ew exk exl exn ey1 ey10 ey13 ey16 ey4 ey5 f0ck f0cl f0cn f0dk f0dl f0dn f0i f0xk f0xl f0xn kn
    refine lv_pop hx hb dL_law_863 rfl ?_
    refine lv_aload_n hx hb dL_law_864 rfl (lv_at hl 1 rfl) ?_
    refine lv_aload_n hx hb dL_law_865 rfl (lv_at hl 3 rfl) ?_
    refine lv_iload_n hx hb dL_law_866 rfl (lv_at hl 0 rfl) ?_
    refine lv_iconst (v := 1) hx hb dL_law_867 (by decide) ?_
    refine lv_iadd hx hb dL_law_868 ?_
    refine lv_topi (fun x233 ex233 => ?_)
    obtain ⟨tx233, ejx233, evx233⟩ := lw_ix (k := 1) ex233 hI hL rfl (by decide)
    clear tx233
    refine va_sld hx hb hX hbl (Nat.not_le.mpr hbl) hSH178 (vp_in_iff.mpr evx233) dL_law_869 ?_
    refine W.eq (g2 := F0 m 870 ls [.int (xs (i.toNatClampNeg + 1)), .ref b]) (congrArg (fun z => F0 m 870 ls [.int (xs z), .ref b]) ejx233) ?_
    refine lv_aload_n hx hb dL_law_870 rfl (lv_at hl 3 rfl) ?_
    refine lv_iload_n hx hb dL_law_871 rfl (lv_at hl 0 rfl) ?_
    refine lv_iconst (v := 2) hx hb dL_law_872 (by decide) ?_
    refine lv_iadd hx hb dL_law_873 ?_
    refine lv_topi (fun x234 ex234 => ?_)
    obtain ⟨tx234, ejx234, evx234⟩ := lw_ix (k := 2) ex234 hI hL rfl (by decide)
    clear tx234
    refine va_sld hx hb hX hbl (Nat.not_le.mpr hbl) hSH178 (vp_in_iff.mpr evx234) dL_law_874 ?_
    refine W.eq (g2 := F0 m 875 ls [.int (xs (i.toNatClampNeg + 2)), .int (xs (i.toNatClampNeg + 1)), .ref b]) (congrArg (fun z => F0 m 875 ls [.int (xs z), .int (xs (i.toNatClampNeg + 1)), .ref b]) ejx234) ?_
    refine x_V (As := [.int (xs (i.toNatClampNeg + 1)), .int (xs (i.toNatClampNeg + 2))]) (rest := []) C (a_X10_job l K G H178 ((xs (i.toNatClampNeg + 1))) ((xs (i.toNatClampNeg + 2))) hTH178 gb g180 g181 g182 g183) yo_X10_job wM_L_91 ⟨⟨by decide, by decide⟩, show _ ≤ 284929 from Nat.le_trans hc (by decide), show _ ≤ 8247460 from Nat.le_trans hs (by decide)⟩ (x_rv C hTH178 (ci := 10) rfl gb rg_112) rfl hl.1 rfl (Nat.le_of_ble_eq_true rfl) dL_law_875 hSH178 (AE_new hN hSH178.1) (fun vH235 H235 locsH235 pH235 zH235 kH235 hSH235 => ?_)
    obtain ⟨x236, hvH235, g237, g238, g239, g240, mf241, hTH235⟩ := pH235
    subst hvH235
    have f242 : ∀ j : Nat, j < 8 → fI H235 cn j = fI H cn j := fun j hj => (fI_kept (x_lt hTH178 kH235 gcn (by decide))).trans (f184 j hj)
    have f243 : ∀ j : Nat, j < 8 → fI H235 xn j = fI H xn j := fun j hj => (fI_kept (x_lt hTH178 kH235 gxn (by decide))).trans (f185 j hj)
    have f244 : ∀ j : Nat, j < 8 → fI H235 cl j = fI H cl j := fun j hj => (fI_kept (x_lt hTH178 kH235 gcl (by decide))).trans (f186 j hj)
    have f245 : ∀ j : Nat, j < 8 → fI H235 xl j = fI H xl j := fun j hj => (fI_kept (x_lt hTH178 kH235 gxl (by decide))).trans (f187 j hj)
    have f246 : ∀ j : Nat, j < 8 → fI H235 ck j = fI H ck j := fun j hj => (fI_kept (x_lt hTH178 kH235 gck (by decide))).trans (f188 j hj)
    have f247 : ∀ j : Nat, j < 8 → fI H235 xk j = fI H xk j := fun j hj => (fI_kept (x_lt hTH178 kH235 gxk (by decide))).trans (f189 j hj)
    have f248 : ∀ j : Nat, j < 8 → fI H235 dn j = fI H dn j := fun j hj => (fI_kept (x_lt hTH178 kH235 gdn (by decide))).trans (f190 j hj)
    have f249 : ∀ j : Nat, j < 8 → fI H235 dl j = fI H dl j := fun j hj => (fI_kept (x_lt hTH178 kH235 gdl (by decide))).trans (f191 j hj)
    have f250 : ∀ j : Nat, j < 8 → fI H235 dk j = fI H dk j := fun j hj => (fI_kept (x_lt hTH178 kH235 gdk (by decide))).trans (f192 j hj)
    have f251 : ∀ j : Nat, fI H235 iq j = fI H iq j := fun j => (fI_kept (x_lt hTH178 kH235 giq (by decide))).trans (f193 j)
    have m252 := (m194).trans (fR_kept (x_lt hTH178 kH235 ga (by decide))).symm
    have m253 := (m195).trans (fI_kept (x_lt hTH178 kH235 ga (by decide))).symm
    have m254 := (m197).trans (fI_kept (x_lt hTH178 kH235 gw (by decide))).symm
    have m255 := (m199).trans (fI_kept (x_lt hTH178 kH235 gw (by decide))).symm
    have m256 := (m201).trans (fI_kept (x_lt hTH178 kH235 gw (by decide))).symm
    have m257 := (m203).trans (fI_kept (x_lt hTH178 kH235 gw (by decide))).symm
    have m258 := (m205).trans (fI_kept (x_lt hTH178 kH235 gw (by decide))).symm
    have m259 := (m207).trans (fI_kept (x_lt hTH178 kH235 gw (by decide))).symm
    have m260 := (m209).trans (fR_kept (x_lt hTH178 kH235 gw (by decide))).symm
    have m261 := (m211).trans (fR_kept (x_lt hTH178 kH235 gw (by decide))).symm
    have m262 := (m213).trans (fR_kept (x_lt hTH178 kH235 gw (by decide))).symm
    have m263 := (fV_kept (x_lt hTH178 kH235 ga (by decide))).trans m216
    have m264 := (m218).trans (fI_kept (x_lt hTH178 kH235 gkq (by decide))).symm
    have m265 := (m219).trans (fI_kept (x_lt hTH178 kH235 giq (by decide))).symm
    have m266 := (m220).trans (fI_kept (x_lt hTH178 kH235 gkq (by decide))).symm
    have m267 := (m221).trans (fI_kept (x_lt hTH178 kH235 giq (by decide))).symm
    have m268 := (m222).trans (fI_kept (x_lt hTH178 kH235 gkq (by decide))).symm
    have m269 := (m223).trans (fI_kept (x_lt hTH178 kH235 giq (by decide))).symm
    have m270 := (m224).trans (fI_kept (x_lt hTH178 kH235 gkq (by decide))).symm
    have m271 := (m225).trans (fI_kept (x_lt hTH178 kH235 giq (by decide))).symm
    have m272 := (m226).trans (fI_kept (x_lt hTH178 kH235 gkq (by decide))).symm
    have m273 := (m227).trans (fI_kept (x_lt hTH178 kH235 giq (by decide))).symm
    have m274 := (m228).trans (fI_kept (x_lt hTH178 kH235 gkq (by decide))).symm
    have m275 := (m229).trans (fI_kept (x_lt hTH178 kH235 giq (by decide))).symm
    have m276 := (m230).trans (fR_kept (x_lt hTH178 kH235 gkq (by decide))).symm
    have m277 := (m231).trans (fR_kept (x_lt hTH178 kH235 gkq (by decide))).symm
    have m278 := (m232).trans (fR_kept (x_lt hTH178 kH235 gkq (by decide))).symm
    have m279 := (m196).trans (MF.i mf241 (k := 18) (by decide) (by decide)).symm
    have m280 := (m198).trans (MF.i mf241 (k := 1) (by decide) (by decide)).symm
    have m281 := (m200).trans (MF.i mf241 (k := 2) (by decide) (by decide)).symm
    have m282 := (m202).trans (MF.i mf241 (k := 3) (by decide) (by decide)).symm
    have m283 := (m204).trans (MF.i mf241 (k := 59) (by decide) (by decide)).symm
    have m284 := (m206).trans (MF.i mf241 (k := 62) (by decide) (by decide)).symm
    have m285 := (m208).trans (MF.i mf241 (k := 65) (by decide) (by decide)).symm
    have m286 := (m210).trans (MF.r mf241 (k := 64) (by decide) (by decide)).symm
    have m287 := (m212).trans (MF.r mf241 (k := 66) (by decide) (by decide)).symm
    have m288 := (m214).trans (MF.r mf241 (k := 67) (by decide) (by decide)).symm
    have m289 := (m215).trans (MF.i mf241 (k := 70) (by decide) (by decide)).symm
    have m290 := (m217).trans (MF.r mf241 (k := 73) (by decide) (by decide)).symm
    refine W.eq (g2 := F0 m 878 ls [.int x236]) rfl ?_
    clear f184 f185 f186 f187 f188 f189 f190 f191 f192 f193 m194 m195 m196 m197 m198 m199 m200 m201 m202 m203 m204 m205 m206 m207 m208 m209 m210 m211 m212 m213 m214 m215 m216 m217 m218 m219 m220 m221 m222 m223 m224 m225 m226 m227 m228 m229 m230 m231 m232
    refine lv_pop hx hb dL_law_878 rfl ?_
    refine lv_goto (tgt := 1509) hx hb dL_law_879 (by decide) ?_
    exact nx G H235 locsH235 _ _ ls ⟨hTH235, hN, ga, gb, g237, g238, g239, g240, ⟨(by rw [← m253, ← m279]; exact rt), (by rw [← m252, ← m254, ← m280]; exact r1), (by rw [← m252, ← m255, ← m281]; exact r4), (by rw [← m252, ← m256, ← m282]; exact r5), (by rw [← m252, ← m257, ← m283]; exact r10), (by rw [← m252, ← m258, ← m284]; exact r13), (by rw [← m252, ← m259, ← m285]; exact r16)⟩, Or.inr ⟨kq, m263, gkq, (by rw [← m289]; exact h70), (by rw [← m264, ← m290, ← m265]; exact q1), (by rw [← m266, ← m290, ← m267]; exact q4), (by rw [← m268, ← m290, ← m269]; exact q5), (by rw [← m270, ← m290, ← m271]; exact q10), (by rw [← m272, ← m290, ← m273]; exact q13), (by rw [← m274, ← m290, ← m275]; exact q16), (by rw [← m276, ← m290, ← m272]; exact EQR.of hsn (fun j hj => f248 j (by omega)) (fun j hj => f251 _) (by omega)), (by rw [← m277, ← m290, ← m274]; exact EQR.of hsl (fun j hj => f249 j (by omega)) (fun j hj => f251 _) (by omega)), (by rw [← m278, ← m290, ← m274]; exact EQR.of hsk (fun j hj => f250 j (by omega)) (fun j hj => f251 _) (by omega))⟩, ⟨(by rw [← m252, ← m260, ← m286, ← m284]; exact EQR.of hrn (fun j hj => f242 j (by omega)) (fun j hj => f243 j (by omega)) (by omega)), (by rw [← m252, ← m261, ← m287, ← m285]; exact EQR.of hrl (fun j hj => f244 j (by omega)) (fun j hj => f245 j (by omega)) (by omega)), (by rw [← m252, ← m262, ← m288, ← m285]; exact EQR.of hrk (fun j hj => f246 j (by omega)) (fun j hj => f247 j (by omega)) (by omega))⟩, hSH235⟩ hl ⟨hc, hs, fun h => by have h1 := h.symm.trans m263; cases h1⟩