set_option maxRecDepth 100000 in
set_option maxHeartbeats 8000000 in
theorem lw_c18 {p : Program} {l : Launch} {e : Env} {s : State} {m : MethodId} {below : List Frame} {meth : Method} {c : Code} {K : KE} {b0 L : Nat} {xs : Nat → Int32} {G : Nat → Option Nat} {H : Heap} {locs : List Loc} {a b : Nat} {cells slots : Nat} {ls : Array Slot} {i : Int32} {n : Nat} (D : LC p K s m meth c b0 L xs) (S : SX K s G H locs a b) (hl : lv_has ls 4 [(3, .int i), (2, .ref b), (1, .ref a), (0, .ref b0)]) (hi : 0 ≤ i.toInt ∧ i.toInt + 6 ≤ L) (hn : n ≤ 511) (hB : BD K H a cells slots) (nx : ∀ (G : Nat → Option Nat) (H : Heap) (locs : List Loc) (cells slots : Nat) (ls : Array Slot), SX K s G H locs a b → lv_has ls 4 [(3, .int i), (2, .ref b), (1, .ref a), (0, .ref b0)] → BD K H a cells slots → W p l e room_1 s m #[Value.ref b0] below meth c H locs cells slots (lw_Z below #[Value.ref b0] s) (F0 m 1509 ls [])) : W p l e room_1 s m #[Value.ref b0] below meth c H locs cells slots (lw_Z below #[Value.ref b0] s) (F0 m 882 ls []) := by
  have hI := hi
  obtain ⟨C, hX, hbl, hL⟩ := id D
  obtain ⟨hx, hb, hml, hown, hts, hKT, hr, hlocks, hnm⟩ := id C
  obtain ⟨hT, hN, ga, gb, cg, tu, wd, im, ⟨rt, r1, r4, r5, r10, r13, r16⟩, hk, hnb, hS⟩ := S
  obtain ⟨hc, hs, hB0⟩ := hB
  have n_1 : (1 : Int32).toInt = 1 := rfl
  have n_2 : (2 : Int32).toInt = 2 := rfl
  obtain ⟨w, ew⟩ : ∃ z : Nat, z = fR H a (K.1.2 9 0) := ⟨_, rfl⟩
  have gw := ty_fr (q := w) (k := 0) (u := 0) ew hT ga rg_68 rfl
  rw [← ew] at r1 r4 r5 r10 r13 r16
  obtain ⟨ta, eta⟩ : ∃ z : Int32, z = fI H a (K.1.2 9 3) := ⟨_, rfl⟩
  rw [← eta] at rt
  obtain ⟨tb, etb⟩ : ∃ z : Int32, z = fI H b (K.1.2 10 18) := ⟨_, rfl⟩
  rw [← etb] at rt
  obtain ⟨s1, es1⟩ : ∃ z : Int32, z = fI H w (K.1.2 8 1) := ⟨_, rfl⟩
  rw [← es1] at r1
  obtain ⟨y1, ey1⟩ : ∃ z : Int32, z = fI H b (K.1.2 10 1) := ⟨_, rfl⟩
  rw [← ey1] at r1
  obtain ⟨s4, es4⟩ : ∃ z : Int32, z = fI H w (K.1.2 8 4) := ⟨_, rfl⟩
  rw [← es4] at r4
  obtain ⟨y4, ey4⟩ : ∃ z : Int32, z = fI H b (K.1.2 10 2) := ⟨_, rfl⟩
  rw [← ey4] at r4
  obtain ⟨s5, es5⟩ : ∃ z : Int32, z = fI H w (K.1.2 8 5) := ⟨_, rfl⟩
  rw [← es5] at r5
  obtain ⟨y5, ey5⟩ : ∃ z : Int32, z = fI H b (K.1.2 10 3) := ⟨_, rfl⟩
  rw [← ey5] at r5
  obtain ⟨s10, es10⟩ : ∃ z : Int32, z = fI H w (K.1.2 8 10) := ⟨_, rfl⟩
  rw [← es10] at r10
  obtain ⟨y10, ey10⟩ : ∃ z : Int32, z = fI H b (K.1.2 10 59) := ⟨_, rfl⟩
  rw [← ey10] at r10
  obtain ⟨s13, es13⟩ : ∃ z : Int32, z = fI H w (K.1.2 8 13) := ⟨_, rfl⟩
  rw [← es13] at r13
  obtain ⟨y13, ey13⟩ : ∃ z : Int32, z = fI H b (K.1.2 10 62) := ⟨_, rfl⟩
  rw [← ey13] at r13
  obtain ⟨s16, es16⟩ : ∃ z : Int32, z = fI H w (K.1.2 8 16) := ⟨_, rfl⟩
  rw [← es16] at r16
  obtain ⟨y16, ey16⟩ : ∃ z : Int32, z = fI H b (K.1.2 10 65) := ⟨_, rfl⟩
  rw [← ey16] at r16
  obtain ⟨hb1, hb2, hb3⟩ := hnb
  obtain ⟨cn, ecn⟩ : ∃ z : Nat, z = fR H w (K.1.2 8 12) := ⟨_, rfl⟩
  have gcn := ty_fr (q := cn) (k := 12) (u := 31) ecn hT gw rg_0 rfl
  obtain ⟨xn, exn⟩ : ∃ z : Nat, z = fR H b (K.1.2 10 64) := ⟨_, rfl⟩
  have gxn := ty_fr (q := xn) (k := 64) (u := 157) exn hT gb rg_112 rfl
  obtain ⟨cl, ecl⟩ : ∃ z : Nat, z = fR H w (K.1.2 8 14) := ⟨_, rfl⟩
  have gcl := ty_fr (q := cl) (k := 14) (u := 32) ecl hT gw rg_0 rfl
  obtain ⟨xl, exl⟩ : ∃ z : Nat, z = fR H b (K.1.2 10 66) := ⟨_, rfl⟩
  have gxl := ty_fr (q := xl) (k := 66) (u := 158) exl hT gb rg_112 rfl
  obtain ⟨ck, eck⟩ : ∃ z : Nat, z = fR H w (K.1.2 8 15) := ⟨_, rfl⟩
  have gck := ty_fr (q := ck) (k := 15) (u := 33) eck hT gw rg_0 rfl
  obtain ⟨xk, exk⟩ : ∃ z : Nat, z = fR H b (K.1.2 10 67) := ⟨_, rfl⟩
  have gxk := ty_fr (q := xk) (k := 67) (u := 159) exk hT gb rg_112 rfl
  have hrn : EQR (fun j => fI H cn j) (fun j => fI H xn j) y13.toInt := by rw [ecn, exn, ew, ey13]; exact hb1
  have hrl : EQR (fun j => fI H cl j) (fun j => fI H xl j) y16.toInt := by rw [ecl, exl, ew, ey16]; exact hb2
  have hrk : EQR (fun j => fI H ck j) (fun j => fI H xk j) y16.toInt := by rw [eck, exk, ew, ey16]; exact hb3
  have by13 := ty_fi (x := y13) (k := 62) ey13 hT gb rg_112 rfl
  have by16 := ty_fi (x := y16) (k := 65) ey16 hT gb rg_112 rfl
  have f0cn : ∀ j : Nat, j < 8 → fI H cn j = fI H cn j := fun _ _ => rfl
  have f0xn : ∀ j : Nat, j < 8 → fI H xn j = fI H xn j := fun _ _ => rfl
  have f0cl : ∀ j : Nat, j < 8 → fI H cl j = fI H cl j := fun _ _ => rfl
  have f0xl : ∀ j : Nat, j < 8 → fI H xl j = fI H xl j := fun _ _ => rfl
  have f0ck : ∀ j : Nat, j < 8 → fI H ck j = fI H ck j := fun _ _ => rfl
  have f0xk : ∀ j : Nat, j < 8 → fI H xk j = fI H xk j := fun _ _ => rfl
  rcases hk with ⟨kn, h70⟩ | ⟨kq, kn, gkq, h70, q1, q4, q5, q10, q13, q16, hq1, hq2, hq3⟩
  · skip
    obtain ⟨hi, ehi⟩ : ∃ z : Int32, z = fI H b (K.1.2 10 70) := ⟨_, rfl⟩
    rw [← ehi] at h70
    obtain ⟨hc0, hs0⟩ := hB0 kn
    refine lv_aload_n hx hb dL_law_882 rfl (lv_at hl 2 rfl) ?_
    refine lv_aload_n hx hb dL_law_883 rfl (lv_at hl 3 rfl) ?_
    refine lv_iload_n hx hb dL_law_884 rfl (lv_at hl 0 rfl) ?_
    refine lv_iconst (v := 1) hx hb dL_law_885 (by decide) ?_
    refine lv_iadd hx hb dL_law_886 ?_
    refine lv_topi (fun x101 ex101 => ?_)
    obtain ⟨tx101, ejx101, evx101⟩ := lw_ix (k := 1) ex101 hI hL rfl (by decide)
    clear tx101
    refine va_sld hx hb hX hbl (Nat.not_le.mpr hbl) hS (vp_in_iff.mpr evx101) dL_law_887 ?_
    refine W.eq (g2 := F0 m 888 ls [.int (xs (i.toNatClampNeg + 1)), .ref a]) (congrArg (fun z => F0 m 888 ls [.int (xs z), .ref a]) ejx101) ?_
    refine lv_aload_n hx hb dL_law_888 rfl (lv_at hl 3 rfl) ?_
    refine lv_iload_n hx hb dL_law_889 rfl (lv_at hl 0 rfl) ?_
    refine lv_iconst (v := 2) hx hb dL_law_890 (by decide) ?_
    refine lv_iadd hx hb dL_law_891 ?_
    refine lv_topi (fun x102 ex102 => ?_)
    obtain ⟨tx102, ejx102, evx102⟩ := lw_ix (k := 2) ex102 hI hL rfl (by decide)
    clear tx102
    refine va_sld hx hb hX hbl (Nat.not_le.mpr hbl) hS (vp_in_iff.mpr evx102) dL_law_892 ?_
    refine W.eq (g2 := F0 m 893 ls [.int (xs (i.toNatClampNeg + 2)), .int (xs (i.toNatClampNeg + 1)), .ref a]) (congrArg (fun z => F0 m 893 ls [.int (xs z), .int (xs (i.toNatClampNeg + 1)), .ref a]) ejx102) ?_
    refine x_V (As := [.int (xs (i.toNatClampNeg + 1)), .int (xs (i.toNatClampNeg + 2))]) (rest := []) C (a_X9_fewest l K G H ((xs (i.toNatClampNeg + 1))) ((xs (i.toNatClampNeg + 2))) hT ga) yo_X9_fewest wM_L_92 ⟨⟨by decide, by decide⟩, show _ ≤ 284929 from Nat.le_trans hc (by decide), show _ ≤ 8247460 from Nat.le_trans hs (by decide)⟩ (x_rv C hT (ci := 9) rfl ga rg_68) rfl hl.1 rfl (Nat.le_of_ble_eq_true rfl) dL_law_893 hS (AE_new hN hS.1) (fun vH103 H103 locsH103 pH103 zH103 kH103 hSH103 => ?_)
    obtain ⟨x104, hvH103, hTH103⟩ := pH103
    subst hvH103
    have g105 : CG (avw K H103 b) := CG.congr (fun k hk j => av_eff hT kH103 gb (by decide) (CG_eff [89, 91, 92, 93, 94, 95, 96, 97, 90, 85, 86, 83, 84] (by decide) k hk)) cg
    have g106 : TU (avw K H103 b) (svw K H103 b) := TU.congr (fun k hk j => av_eff hT kH103 gb (by decide) (TU_eff [89, 91, 92, 93, 94, 95, 96, 97, 90, 85, 86, 83, 84] (by decide) k hk)) (fun k hk => sv_eff hT kH103 gb (by decide)) tu
    have g107 : WD (avw K H103 b) := WD.congr (fun k hk j => av_eff hT kH103 gb (by decide) (WD_eff [89, 91, 92, 93, 94, 95, 96, 97, 90, 85, 86, 83, 84] (by decide) k hk)) wd
    have g108 : IM (avw K H103 b) := IM.congr (fun k hk j => av_eff hT kH103 gb (by decide) (IM_eff [89, 91, 92, 93, 94, 95, 96, 97, 90, 85, 86, 83, 84] (by decide) k hk)) im
    have f109 : ∀ j : Nat, j < 8 → fI H103 cn j = fI H cn j := fun j hj => (fI_kept (x_lt hT kH103 gcn (by decide))).trans (f0cn j hj)
    have f110 : ∀ j : Nat, j < 8 → fI H103 xn j = fI H xn j := fun j hj => (fI_kept (x_lt hT kH103 gxn (by decide))).trans (f0xn j hj)
    have f111 : ∀ j : Nat, j < 8 → fI H103 cl j = fI H cl j := fun j hj => (fI_kept (x_lt hT kH103 gcl (by decide))).trans (f0cl j hj)
    have f112 : ∀ j : Nat, j < 8 → fI H103 xl j = fI H xl j := fun j hj => (fI_kept (x_lt hT kH103 gxl (by decide))).trans (f0xl j hj)
    have f113 : ∀ j : Nat, j < 8 → fI H103 ck j = fI H ck j := fun j hj => (fI_kept (x_lt hT kH103 gck (by decide))).trans (f0ck j hj)
    have f114 : ∀ j : Nat, j < 8 → fI H103 xk j = fI H xk j := fun j hj => (fI_kept (x_lt hT kH103 gxk (by decide))).trans (f0xk j hj)
    have m115 := (ew).trans (fR_kept (x_lt hT kH103 ga (by decide))).symm
    have m116 := (eta).trans (fI_kept (x_lt hT kH103 ga (by decide))).symm
    have m117 := (etb).trans (fI_kept (x_lt hT kH103 gb (by decide))).symm
    have m118 := (es1).trans (fI_kept (x_lt hT kH103 gw (by decide))).symm
    have m119 := (ey1).trans (fI_kept (x_lt hT kH103 gb (by decide))).symm
    have m120 := (es4).trans (fI_kept (x_lt hT kH103 gw (by decide))).symm
    have m121 := (ey4).trans (fI_kept (x_lt hT kH103 gb (by decide))).symm
    have m122 := (es5).trans (fI_kept (x_lt hT kH103 gw (by decide))).symm
    have m123 := (ey5).trans (fI_kept (x_lt hT kH103 gb (by decide))).symm
    have m124 := (es10).trans (fI_kept (x_lt hT kH103 gw (by decide))).symm
    have m125 := (ey10).trans (fI_kept (x_lt hT kH103 gb (by decide))).symm
    have m126 := (es13).trans (fI_kept (x_lt hT kH103 gw (by decide))).symm
    have m127 := (ey13).trans (fI_kept (x_lt hT kH103 gb (by decide))).symm
    have m128 := (es16).trans (fI_kept (x_lt hT kH103 gw (by decide))).symm
    have m129 := (ey16).trans (fI_kept (x_lt hT kH103 gb (by decide))).symm
    have m130 := (ecn).trans (fR_kept (x_lt hT kH103 gw (by decide))).symm
    have m131 := (exn).trans (fR_kept (x_lt hT kH103 gb (by decide))).symm
    have m132 := (ecl).trans (fR_kept (x_lt hT kH103 gw (by decide))).symm
    have m133 := (exl).trans (fR_kept (x_lt hT kH103 gb (by decide))).symm
    have m134 := (eck).trans (fR_kept (x_lt hT kH103 gw (by decide))).symm
    have m135 := (exk).trans (fR_kept (x_lt hT kH103 gb (by decide))).symm
    have m136 := (ehi).trans (fI_kept (x_lt hT kH103 gb (by decide))).symm
    have m137 := (fV_kept (x_lt hT kH103 ga (by decide))).trans kn
    refine W.eq (g2 := F0 m 896 ls [.int x104]) rfl ?_
    clear eck ecl ecn ehi es1 es10 es13 es16 es4 es5 eta etb ew exk exl exn ey1 ey10 ey13 ey16 ey4 ey5 f0ck f0cl f0cn f0xk f0xl f0xn kn
    refine lv_pop hx hb dL_law_896 rfl ?_
    refine lv_aload_n hx hb dL_law_897 rfl (lv_at hl 1 rfl) ?_
    refine lv_aload_n hx hb dL_law_898 rfl (lv_at hl 3 rfl) ?_
    refine lv_iload_n hx hb dL_law_899 rfl (lv_at hl 0 rfl) ?_
    refine lv_iconst (v := 1) hx hb dL_law_900 (by decide) ?_
    refine lv_iadd hx hb dL_law_901 ?_
    refine lv_topi (fun x138 ex138 => ?_)
    obtain ⟨tx138, ejx138, evx138⟩ := lw_ix (k := 1) ex138 hI hL rfl (by decide)
    clear tx138
    refine va_sld hx hb hX hbl (Nat.not_le.mpr hbl) hSH103 (vp_in_iff.mpr evx138) dL_law_902 ?_
    refine W.eq (g2 := F0 m 903 ls [.int (xs (i.toNatClampNeg + 1)), .ref b]) (congrArg (fun z => F0 m 903 ls [.int (xs z), .ref b]) ejx138) ?_
    refine lv_aload_n hx hb dL_law_903 rfl (lv_at hl 3 rfl) ?_
    refine lv_iload_n hx hb dL_law_904 rfl (lv_at hl 0 rfl) ?_
    refine lv_iconst (v := 2) hx hb dL_law_905 (by decide) ?_
    refine lv_iadd hx hb dL_law_906 ?_
    refine lv_topi (fun x139 ex139 => ?_)
    obtain ⟨tx139, ejx139, evx139⟩ := lw_ix (k := 2) ex139 hI hL rfl (by decide)
    clear tx139
    refine va_sld hx hb hX hbl (Nat.not_le.mpr hbl) hSH103 (vp_in_iff.mpr evx139) dL_law_907 ?_
    refine W.eq (g2 := F0 m 908 ls [.int (xs (i.toNatClampNeg + 2)), .int (xs (i.toNatClampNeg + 1)), .ref b]) (congrArg (fun z => F0 m 908 ls [.int (xs z), .int (xs (i.toNatClampNeg + 1)), .ref b]) ejx139) ?_
    refine x_V (As := [.int (xs (i.toNatClampNeg + 1)), .int (xs (i.toNatClampNeg + 2))]) (rest := []) C (a_X10_fewest l K G H103 ((xs (i.toNatClampNeg + 1))) ((xs (i.toNatClampNeg + 2))) hTH103 gb g105 g106 g107 g108) yo_X10_fewest wM_L_95 ⟨⟨by decide, by decide⟩, show _ ≤ 284929 from Nat.le_trans hc (by decide), show _ ≤ 8247460 from Nat.le_trans hs (by decide)⟩ (x_rv C hTH103 (ci := 10) rfl gb rg_112) rfl hl.1 rfl (Nat.le_of_ble_eq_true rfl) dL_law_908 hSH103 (AE_new hN hSH103.1) (fun vH140 H140 locsH140 pH140 zH140 kH140 hSH140 => ?_)
    obtain ⟨x141, hvH140, g142, g143, g144, g145, mf146, hTH140⟩ := pH140
    subst hvH140
    have f147 : ∀ j : Nat, j < 8 → fI H140 cn j = fI H cn j := fun j hj => (fI_kept (x_lt hTH103 kH140 gcn (by decide))).trans (f109 j hj)
    have f148 : ∀ j : Nat, j < 8 → fI H140 xn j = fI H xn j := fun j hj => (fI_kept (x_lt hTH103 kH140 gxn (by decide))).trans (f110 j hj)
    have f149 : ∀ j : Nat, j < 8 → fI H140 cl j = fI H cl j := fun j hj => (fI_kept (x_lt hTH103 kH140 gcl (by decide))).trans (f111 j hj)
    have f150 : ∀ j : Nat, j < 8 → fI H140 xl j = fI H xl j := fun j hj => (fI_kept (x_lt hTH103 kH140 gxl (by decide))).trans (f112 j hj)
    have f151 : ∀ j : Nat, j < 8 → fI H140 ck j = fI H ck j := fun j hj => (fI_kept (x_lt hTH103 kH140 gck (by decide))).trans (f113 j hj)
    have f152 : ∀ j : Nat, j < 8 → fI H140 xk j = fI H xk j := fun j hj => (fI_kept (x_lt hTH103 kH140 gxk (by decide))).trans (f114 j hj)
    have m153 := (m115).trans (fR_kept (x_lt hTH103 kH140 ga (by decide))).symm
    have m154 := (m116).trans (fI_kept (x_lt hTH103 kH140 ga (by decide))).symm
    have m155 := (m118).trans (fI_kept (x_lt hTH103 kH140 gw (by decide))).symm
    have m156 := (m120).trans (fI_kept (x_lt hTH103 kH140 gw (by decide))).symm
    have m157 := (m122).trans (fI_kept (x_lt hTH103 kH140 gw (by decide))).symm
    have m158 := (m124).trans (fI_kept (x_lt hTH103 kH140 gw (by decide))).symm
    have m159 := (m126).trans (fI_kept (x_lt hTH103 kH140 gw (by decide))).symm
    have m160 := (m128).trans (fI_kept (x_lt hTH103 kH140 gw (by decide))).symm
    have m161 := (m130).trans (fR_kept (x_lt hTH103 kH140 gw (by decide))).symm
    have m162 := (m132).trans (fR_kept (x_lt hTH103 kH140 gw (by decide))).symm
    have m163 := (m134).trans (fR_kept (x_lt hTH103 kH140 gw (by decide))).symm
    have m164 := (fV_kept (x_lt hTH103 kH140 ga (by decide))).trans m137
    have m165 := (m117).trans (MF.i mf146 (k := 18) (by decide) (by decide)).symm
    have m166 := (m119).trans (MF.i mf146 (k := 1) (by decide) (by decide)).symm
    have m167 := (m121).trans (MF.i mf146 (k := 2) (by decide) (by decide)).symm
    have m168 := (m123).trans (MF.i mf146 (k := 3) (by decide) (by decide)).symm
    have m169 := (m125).trans (MF.i mf146 (k := 59) (by decide) (by decide)).symm
    have m170 := (m127).trans (MF.i mf146 (k := 62) (by decide) (by decide)).symm
    have m171 := (m129).trans (MF.i mf146 (k := 65) (by decide) (by decide)).symm
    have m172 := (m131).trans (MF.r mf146 (k := 64) (by decide) (by decide)).symm
    have m173 := (m133).trans (MF.r mf146 (k := 66) (by decide) (by decide)).symm
    have m174 := (m135).trans (MF.r mf146 (k := 67) (by decide) (by decide)).symm
    have m175 := (m136).trans (MF.i mf146 (k := 70) (by decide) (by decide)).symm
    refine W.eq (g2 := F0 m 911 ls [.int x141]) rfl ?_
    clear f109 f110 f111 f112 f113 f114 m115 m116 m117 m118 m119 m120 m121 m122 m123 m124 m125 m126 m127 m128 m129 m130 m131 m132 m133 m134 m135 m136 m137
    refine lv_pop hx hb dL_law_911 rfl ?_
    refine lv_goto (tgt := 1509) hx hb dL_law_912 (by decide) ?_
    exact nx G H140 locsH140 _ _ ls ⟨hTH140, hN, ga, gb, g142, g143, g144, g145, ⟨(by rw [← m154, ← m165]; exact rt), (by rw [← m153, ← m155, ← m166]; exact r1), (by rw [← m153, ← m156, ← m167]; exact r4), (by rw [← m153, ← m157, ← m168]; exact r5), (by rw [← m153, ← m158, ← m169]; exact r10), (by rw [← m153, ← m159, ← m170]; exact r13), (by rw [← m153, ← m160, ← m171]; exact r16)⟩, Or.inl ⟨m164, (by rw [← m175]; exact h70)⟩, ⟨(by rw [← m153, ← m161, ← m172, ← m170]; exact EQR.of hrn (fun j hj => f147 j (by omega)) (fun j hj => f148 j (by omega)) (by omega)), (by rw [← m153, ← m162, ← m173, ← m171]; exact EQR.of hrl (fun j hj => f149 j (by omega)) (fun j hj => f150 j (by omega)) (by omega)), (by rw [← m153, ← m163, ← m174, ← m171]; exact EQR.of hrk (fun j hj => f151 j (by omega)) (fun j hj => f152 j (by omega)) (by omega))⟩, hSH140⟩ hl ⟨hc, hs, fun _ => ⟨hc0, hs0⟩⟩
  · skip
    obtain ⟨hi, ehi⟩ : ∃ z : Int32, z = fI H b (K.1.2 10 70) := ⟨_, rfl⟩
    rw [← ehi] at h70
    obtain ⟨iq, eiq⟩ : ∃ z : Nat, z = fR H b (K.1.2 10 73) := ⟨_, rfl⟩
    have giq := ty_fr (q := iq) (k := 73) (u := 162) eiq hT gb rg_112 rfl
    rw [← eiq] at q1 q4 q5 q10 q13 q16
    obtain ⟨k1, ek1⟩ : ∃ z : Int32, z = fI H kq (K.1.2 8 1) := ⟨_, rfl⟩
    rw [← ek1] at q1
    obtain ⟨i1, ei1⟩ : ∃ z : Int32, z = fI H iq ((0 : Int32).toNatClampNeg) := ⟨_, rfl⟩
    rw [← ei1] at q1
    obtain ⟨k4, ek4⟩ : ∃ z : Int32, z = fI H kq (K.1.2 8 4) := ⟨_, rfl⟩
    rw [← ek4] at q4
    obtain ⟨i4, ei4⟩ : ∃ z : Int32, z = fI H iq ((1 : Int32).toNatClampNeg) := ⟨_, rfl⟩
    rw [← ei4] at q4
    obtain ⟨k5, ek5⟩ : ∃ z : Int32, z = fI H kq (K.1.2 8 5) := ⟨_, rfl⟩
    rw [← ek5] at q5
    obtain ⟨i5, ei5⟩ : ∃ z : Int32, z = fI H iq ((2 : Int32).toNatClampNeg) := ⟨_, rfl⟩
    rw [← ei5] at q5
    obtain ⟨k10, ek10⟩ : ∃ z : Int32, z = fI H kq (K.1.2 8 10) := ⟨_, rfl⟩
    rw [← ek10] at q10
    obtain ⟨i10, ei10⟩ : ∃ z : Int32, z = fI H iq ((3 : Int32).toNatClampNeg) := ⟨_, rfl⟩
    rw [← ei10] at q10
    obtain ⟨k13, ek13⟩ : ∃ z : Int32, z = fI H kq (K.1.2 8 13) := ⟨_, rfl⟩
    rw [← ek13] at q13
    obtain ⟨i13, ei13⟩ : ∃ z : Int32, z = fI H iq ((4 : Int32).toNatClampNeg) := ⟨_, rfl⟩
    rw [← ei13] at q13
    obtain ⟨k16, ek16⟩ : ∃ z : Int32, z = fI H kq (K.1.2 8 16) := ⟨_, rfl⟩
    rw [← ek16] at q16
    obtain ⟨i16, ei16⟩ : ∃ z : Int32, z = fI H iq ((5 : Int32).toNatClampNeg) := ⟨_, rfl⟩
    rw [← ei16] at q16
    obtain ⟨dn, edn⟩ : ∃ z : Nat, z = fR H kq (K.1.2 8 12) := ⟨_, rfl⟩
    have gdn := ty_fr (q := dn) (k := 12) (u := 65) edn hT gkq rg_34 rfl
    obtain ⟨dl, edl⟩ : ∃ z : Nat, z = fR H kq (K.1.2 8 14) := ⟨_, rfl⟩
    have gdl := ty_fr (q := dl) (k := 14) (u := 66) edl hT gkq rg_34 rfl
    obtain ⟨dk, edk⟩ : ∃ z : Nat, z = fR H kq (K.1.2 8 15) := ⟨_, rfl⟩
    have gdk := ty_fr (q := dk) (k := 15) (u := 67) edk hT gkq rg_34 rfl
    have hsn : EQR (fun j => fI H dn j) (fun j => fI H iq (8877 + 4 * j)) k13.toInt := by rw [edn, eiq, ek13]; exact hq1
    have hsl : EQR (fun j => fI H dl j) (fun j => fI H iq (8878 + 4 * j)) k16.toInt := by rw [edl, eiq, ek16]; exact hq2
    have hsk : EQR (fun j => fI H dk j) (fun j => fI H iq (8879 + 4 * j)) k16.toInt := by rw [edk, eiq, ek16]; exact hq3
    have bk13 := ty_fi (x := k13) (k := 13) ek13 hT gkq rg_34 rfl
    have bk16 := ty_fi (x := k16) (k := 16) ek16 hT gkq rg_34 rfl
    have f0dn : ∀ j : Nat, j < 8 → fI H dn j = fI H dn j := fun _ _ => rfl
    have f0dl : ∀ j : Nat, j < 8 → fI H dl j = fI H dl j := fun _ _ => rfl
    have f0dk : ∀ j : Nat, j < 8 → fI H dk j = fI H dk j := fun _ _ => rfl
    have f0i : ∀ j : Nat, fI H iq j = fI H iq j := fun _ => rfl
    refine lv_aload_n hx hb dL_law_882 rfl (lv_at hl 2 rfl) ?_
    refine lv_aload_n hx hb dL_law_883 rfl (lv_at hl 3 rfl) ?_
    refine lv_iload_n hx hb dL_law_884 rfl (lv_at hl 0 rfl) ?_
    refine lv_iconst (v := 1) hx hb dL_law_885 (by decide) ?_
    refine lv_iadd hx hb dL_law_886 ?_
    refine lv_topi (fun x176 ex176 => ?_)
    obtain ⟨tx176, ejx176, evx176⟩ := lw_ix (k := 1) ex176 hI hL rfl (by decide)
    clear tx176
    refine va_sld hx hb hX hbl (Nat.not_le.mpr hbl) hS (vp_in_iff.mpr evx176) dL_law_887 ?_
    refine W.eq (g2 := F0 m 888 ls [.int (xs (i.toNatClampNeg + 1)), .ref a]) (congrArg (fun z => F0 m 888 ls [.int (xs z), .ref a]) ejx176) ?_
    refine lv_aload_n hx hb dL_law_888 rfl (lv_at hl 3 rfl) ?_
    refine lv_iload_n hx hb dL_law_889 rfl (lv_at hl 0 rfl) ?_
    refine lv_iconst (v := 2) hx hb dL_law_890 (by decide) ?_
    refine lv_iadd hx hb dL_law_891 ?_
    refine lv_topi (fun x177 ex177 => ?_)
    obtain ⟨tx177, ejx177, evx177⟩ := lw_ix (k := 2) ex177 hI hL rfl (by decide)
    clear tx177
    refine va_sld hx hb hX hbl (Nat.not_le.mpr hbl) hS (vp_in_iff.mpr evx177) dL_law_892 ?_
    refine W.eq (g2 := F0 m 893 ls [.int (xs (i.toNatClampNeg + 2)), .int (xs (i.toNatClampNeg + 1)), .ref a]) (congrArg (fun z => F0 m 893 ls [.int (xs z), .int (xs (i.toNatClampNeg + 1)), .ref a]) ejx177) ?_
    refine x_V (As := [.int (xs (i.toNatClampNeg + 1)), .int (xs (i.toNatClampNeg + 2))]) (rest := []) C (a_X9_fewest l K G H ((xs (i.toNatClampNeg + 1))) ((xs (i.toNatClampNeg + 2))) hT ga) yo_X9_fewest wM_L_92 ⟨⟨by decide, by decide⟩, show _ ≤ 284929 from Nat.le_trans hc (by decide), show _ ≤ 8247460 from Nat.le_trans hs (by decide)⟩ (x_rv C hT (ci := 9) rfl ga rg_68) rfl hl.1 rfl (Nat.le_of_ble_eq_true rfl) dL_law_893 hS (AE_new hN hS.1) (fun vH178 H178 locsH178 pH178 zH178 kH178 hSH178 => ?_)
    obtain ⟨x179, hvH178, hTH178⟩ := pH178
    subst hvH178
    have g180 : CG (avw K H178 b) := CG.congr (fun k hk j => av_eff hT kH178 gb (by decide) (CG_eff [89, 91, 92, 93, 94, 95, 96, 97, 90, 85, 86, 83, 84] (by decide) k hk)) cg
    have g181 : TU (avw K H178 b) (svw K H178 b) := TU.congr (fun k hk j => av_eff hT kH178 gb (by decide) (TU_eff [89, 91, 92, 93, 94, 95, 96, 97, 90, 85, 86, 83, 84] (by decide) k hk)) (fun k hk => sv_eff hT kH178 gb (by decide)) tu
    have g182 : WD (avw K H178 b) := WD.congr (fun k hk j => av_eff hT kH178 gb (by decide) (WD_eff [89, 91, 92, 93, 94, 95, 96, 97, 90, 85, 86, 83, 84] (by decide) k hk)) wd
    have g183 : IM (avw K H178 b) := IM.congr (fun k hk j => av_eff hT kH178 gb (by decide) (IM_eff [89, 91, 92, 93, 94, 95, 96, 97, 90, 85, 86, 83, 84] (by decide) k hk)) im
    have f184 : ∀ j : Nat, j < 8 → fI H178 cn j = fI H cn j := fun j hj => (fI_kept (x_lt hT kH178 gcn (by decide))).trans (f0cn j hj)
    have f185 : ∀ j : Nat, j < 8 → fI H178 xn j = fI H xn j := fun j hj => (fI_kept (x_lt hT kH178 gxn (by decide))).trans (f0xn j hj)
    have f186 : ∀ j : Nat, j < 8 → fI H178 cl j = fI H cl j := fun j hj => (fI_kept (x_lt hT kH178 gcl (by decide))).trans (f0cl j hj)
    have f187 : ∀ j : Nat, j < 8 → fI H178 xl j = fI H xl j := fun j hj => (fI_kept (x_lt hT kH178 gxl (by decide))).trans (f0xl j hj)
    have f188 : ∀ j : Nat, j < 8 → fI H178 ck j = fI H ck j := fun j hj => (fI_kept (x_lt hT kH178 gck (by decide))).trans (f0ck j hj)
    have f189 : ∀ j : Nat, j < 8 → fI H178 xk j = fI H xk j := fun j hj => (fI_kept (x_lt hT kH178 gxk (by decide))).trans (f0xk j hj)
    have f190 : ∀ j : Nat, j < 8 → fI H178 dn j = fI H dn j := fun j hj => (fI_kept (x_lt hT kH178 gdn (by decide))).trans (f0dn j hj)
    have f191 : ∀ j : Nat, j < 8 → fI H178 dl j = fI H dl j := fun j hj => (fI_kept (x_lt hT kH178 gdl (by decide))).trans (f0dl j hj)
    have f192 : ∀ j : Nat, j < 8 → fI H178 dk j = fI H dk j := fun j hj => (fI_kept (x_lt hT kH178 gdk (by decide))).trans (f0dk j hj)
    have f193 : ∀ j : Nat, fI H178 iq j = fI H iq j := fun j => (fI_kept (x_lt hT kH178 giq (by decide))).trans (f0i j)
    have m194 := (ew).trans (fR_kept (x_lt hT kH178 ga (by decide))).symm
    have m195 := (eta).trans (fI_kept (x_lt hT kH178 ga (by decide))).symm
    have m196 := (etb).trans (fI_kept (x_lt hT kH178 gb (by decide))).symm
    have m197 := (es1).trans (fI_kept (x_lt hT kH178 gw (by decide))).symm
    have m198 := (ey1).trans (fI_kept (x_lt hT kH178 gb (by decide))).symm
    have m199 := (es4).trans (fI_kept (x_lt hT kH178 gw (by decide))).symm
    have m200 := (ey4).trans (fI_kept (x_lt hT kH178 gb (by decide))).symm
    have m201 := (es5).trans (fI_kept (x_lt hT kH178 gw (by decide))).symm
    have m202 := (ey5).trans (fI_kept (x_lt hT kH178 gb (by decide))).symm
    have m203 := (es10).trans (fI_kept (x_lt hT kH178 gw (by decide))).symm
    have m204 := (ey10).trans (fI_kept (x_lt hT kH178 gb (by decide))).symm
    have m205 := (es13).trans (fI_kept (x_lt hT kH178 gw (by decide))).symm
    have m206 := (ey13).trans (fI_kept (x_lt hT kH178 gb (by decide))).symm
    have m207 := (es16).trans (fI_kept (x_lt hT kH178 gw (by decide))).symm
    have m208 := (ey16).trans (fI_kept (x_lt hT kH178 gb (by decide))).symm
    have m209 := (ecn).trans (fR_kept (x_lt hT kH178 gw (by decide))).symm
    have m210 := (exn).trans (fR_kept (x_lt hT kH178 gb (by decide))).symm
    have m211 := (ecl).trans (fR_kept (x_lt hT kH178 gw (by decide))).symm
    have m212 := (exl).trans (fR_kept (x_lt hT kH178 gb (by decide))).symm
    have m213 := (eck).trans (fR_kept (x_lt hT kH178 gw (by decide))).symm
    have m214 := (exk).trans (fR_kept (x_lt hT kH178 gb (by decide))).symm
    have m215 := (ehi).trans (fI_kept (x_lt hT kH178 gb (by decide))).symm
    have m216 := (fV_kept (x_lt hT kH178 ga (by decide))).trans kn
    have m217 := (eiq).trans (fR_kept (x_lt hT kH178 gb (by decide))).symm
    have m218 := (ek1).trans (fI_kept (x_lt hT kH178 gkq (by decide))).symm
    have m219 := (ei1).trans (fI_kept (x_lt hT kH178 giq (by decide))).symm
    have m220 := (ek4).trans (fI_kept (x_lt hT kH178 gkq (by decide))).symm
    have m221 := (ei4).trans (fI_kept (x_lt hT kH178 giq (by decide))).symm
    have m222 := (ek5).trans (fI_kept (x_lt hT kH178 gkq (by decide))).symm
    have m223 := (ei5).trans (fI_kept (x_lt hT kH178 giq (by decide))).symm
    have m224 := (ek10).trans (fI_kept (x_lt hT kH178 gkq (by decide))).symm
    have m225 := (ei10).trans (fI_kept (x_lt hT kH178 giq (by decide))).symm
    have m226 := (ek13).trans (fI_kept (x_lt hT kH178 gkq (by decide))).symm
    have m227 := (ei13).trans (fI_kept (x_lt hT kH178 giq (by decide))).symm
    have m228 := (ek16).trans (fI_kept (x_lt hT kH178 gkq (by decide))).symm
    have m229 := (ei16).trans (fI_kept (x_lt hT kH178 giq (by decide))).symm
    have m230 := (edn).trans (fR_kept (x_lt hT kH178 gkq (by decide))).symm
    have m231 := (edl).trans (fR_kept (x_lt hT kH178 gkq (by decide))).symm
    have m232 := (edk).trans (fR_kept (x_lt hT kH178 gkq (by decide))).symm
    refine W.eq (g2 := F0 m 896 ls [.int x179]) rfl ?_
    clear eck ecl ecn edk edl edn ehi ei1 ei10 ei13 ei16 ei4 ei5 eiq ek1 ek10 ek13 ek16 ek4 ek5 es1 es10 es13 es16 es4 es5 eta etb ew exk exl exn ey1 ey10 ey13 ey16 ey4 ey5 f0ck f0cl f0cn f0dk f0dl f0dn f0i f0xk f0xl f0xn kn
    refine lv_pop hx hb dL_law_896 rfl ?_
    refine lv_aload_n hx hb dL_law_897 rfl (lv_at hl 1 rfl) ?_
    refine lv_aload_n hx hb dL_law_898 rfl (lv_at hl 3 rfl) ?_
    refine lv_iload_n hx hb dL_law_899 rfl (lv_at hl 0 rfl) ?_
    refine lv_iconst (v := 1) hx hb dL_law_900 (by decide) ?_
    refine lv_iadd hx hb dL_law_901 ?_
    refine lv_topi (fun x233 ex233 => ?_)
    obtain ⟨tx233, ejx233, evx233⟩ := lw_ix (k := 1) ex233 hI hL rfl (by decide)
    clear tx233
    refine va_sld hx hb hX hbl (Nat.not_le.mpr hbl) hSH178 (vp_in_iff.mpr evx233) dL_law_902 ?_
    refine W.eq (g2 := F0 m 903 ls [.int (xs (i.toNatClampNeg + 1)), .ref b]) (congrArg (fun z => F0 m 903 ls [.int (xs z), .ref b]) ejx233) ?_
    refine lv_aload_n hx hb dL_law_903 rfl (lv_at hl 3 rfl) ?_
    refine lv_iload_n hx hb dL_law_904 rfl (lv_at hl 0 rfl) ?_
    refine lv_iconst (v := 2) hx hb dL_law_905 (by decide) ?_
    refine lv_iadd hx hb dL_law_906 ?_
    refine lv_topi (fun x234 ex234 => ?_)
    obtain ⟨tx234, ejx234, evx234⟩ := lw_ix (k := 2) ex234 hI hL rfl (by decide)
    clear tx234
    refine va_sld hx hb hX hbl (Nat.not_le.mpr hbl) hSH178 (vp_in_iff.mpr evx234) dL_law_907 ?_
    refine W.eq (g2 := F0 m 908 ls [.int (xs (i.toNatClampNeg + 2)), .int (xs (i.toNatClampNeg + 1)), .ref b]) (congrArg (fun z => F0 m 908 ls [.int (xs z), .int (xs (i.toNatClampNeg + 1)), .ref b]) ejx234) ?_
    refine x_V (As := [.int (xs (i.toNatClampNeg + 1)), .int (xs (i.toNatClampNeg + 2))]) (rest := []) C (a_X10_fewest l K G H178 ((xs (i.toNatClampNeg + 1))) ((xs (i.toNatClampNeg + 2))) hTH178 gb g180 g181 g182 g183) yo_X10_fewest wM_L_95 ⟨⟨by decide, by decide⟩, show _ ≤ 284929 from Nat.le_trans hc (by decide), show _ ≤ 8247460 from Nat.le_trans hs (by decide)⟩ (x_rv C hTH178 (ci := 10) rfl gb rg_112) rfl hl.1 rfl (Nat.le_of_ble_eq_true rfl) dL_law_908 hSH178 (AE_new hN hSH178.1) (fun vH235 H235 locsH235 pH235 zH235 kH235 hSH235 => ?_)
    obtain ⟨x236, hvH235, g237, g238, g239, g240, mf241, hTH235⟩ := pH235
    subst hvH235
    have f242 : ∀ j : Nat, j < 8 → fI H235 cn j = fI H cn j := fun j hj => (fI_kept (x_lt hTH178 kH235 gcn (by decide))).trans (f184 j hj)
    have f243 : ∀ j : Nat, j < 8 → fI H235 xn j = fI H xn j := fun j hj => (fI_kept (x_lt hTH178 kH235 gxn (by decide))).trans (f185 j hj)
    have f244 : ∀ j : Nat, j < 8 → fI H235 cl j = fI H cl j := fun j hj => (fI_kept (x_lt hTH178 kH235 gcl (by decide))).trans (f186 j hj)
    have f245 : ∀ j : Nat, j < 8 → fI H235 xl j = fI H xl j := fun j hj => (fI_kept (x_lt hTH178 kH235 gxl (by decide))).trans (f187 j hj)
    have f246 : ∀ j : Nat, j < 8 → fI H235 ck j = fI H ck j := fun j hj => (fI_kept (x_lt hTH178 kH235 gck (by decide))).trans (f188 j hj)
    have f247 : ∀ j : Nat, j < 8 → fI H235 xk j = fI H xk j := fun j hj => (fI_kept (x_lt hTH178 kH235 gxk (by decide))).trans (f189 j hj)
    have f248 : ∀ j : Nat, j < 8 → fI H235 dn j = fI H dn j := fun j hj => (fI_kept (x_lt hTH178 kH235 gdn (by decide))).trans (f190 j hj)
    have f249 : ∀ j : Nat, j < 8 → fI H235 dl j = fI H dl j := fun j hj => (fI_kept (x_lt hTH178 kH235 gdl (by decide))).trans (f191 j hj)
    have f250 : ∀ j : Nat, j < 8 → fI H235 dk j = fI H dk j := fun j hj => (fI_kept (x_lt hTH178 kH235 gdk (by decide))).trans (f192 j hj)
    have f251 : ∀ j : Nat, fI H235 iq j = fI H iq j := fun j => (fI_kept (x_lt hTH178 kH235 giq (by decide))).trans (f193 j)
    have m252 := (m194).trans (fR_kept (x_lt hTH178 kH235 ga (by decide))).symm
    have m253 := (m195).trans (fI_kept (x_lt hTH178 kH235 ga (by decide))).symm
    have m254 := (m197).trans (fI_kept (x_lt hTH178 kH235 gw (by decide))).symm
    have m255 := (m199).trans (fI_kept (x_lt hTH178 kH235 gw (by decide))).symm
    have m256 := (m201).trans (fI_kept (x_lt hTH178 kH235 gw (by decide))).symm
    have m257 := (m203).trans (fI_kept (x_lt hTH178 kH235 gw (by decide))).symm
    have m258 := (m205).trans (fI_kept (x_lt hTH178 kH235 gw (by decide))).symm
    have m259 := (m207).trans (fI_kept (x_lt hTH178 kH235 gw (by decide))).symm
    have m260 := (m209).trans (fR_kept (x_lt hTH178 kH235 gw (by decide))).symm
    have m261 := (m211).trans (fR_kept (x_lt hTH178 kH235 gw (by decide))).symm
    have m262 := (m213).trans (fR_kept (x_lt hTH178 kH235 gw (by decide))).symm
    have m263 := (fV_kept (x_lt hTH178 kH235 ga (by decide))).trans m216
    have m264 := (m218).trans (fI_kept (x_lt hTH178 kH235 gkq (by decide))).symm
    have m265 := (m219).trans (fI_kept (x_lt hTH178 kH235 giq (by decide))).symm
    have m266 := (m220).trans (fI_kept (x_lt hTH178 kH235 gkq (by decide))).symm
    have m267 := (m221).trans (fI_kept (x_lt hTH178 kH235 giq (by decide))).symm
    have m268 := (m222).trans (fI_kept (x_lt hTH178 kH235 gkq (by decide))).symm
    have m269 := (m223).trans (fI_kept (x_lt hTH178 kH235 giq (by decide))).symm
    have m270 := (m224).trans (fI_kept (x_lt hTH178 kH235 gkq (by decide))).symm
    have m271 := (m225).trans (fI_kept (x_lt hTH178 kH235 giq (by decide))).symm
    have m272 := (m226).trans (fI_kept (x_lt hTH178 kH235 gkq (by decide))).symm
    have m273 := (m227).trans (fI_kept (x_lt hTH178 kH235 giq (by decide))).symm
    have m274 := (m228).trans (fI_kept (x_lt hTH178 kH235 gkq (by decide))).symm
    have m275 := (m229).trans (fI_kept (x_lt hTH178 kH235 giq (by decide))).symm
    have m276 := (m230).trans (fR_kept (x_lt hTH178 kH235 gkq (by decide))).symm
    have m277 := (m231).trans (fR_kept (x_lt hTH178 kH235 gkq (by decide))).symm
    have m278 := (m232).trans (fR_kept (x_lt hTH178 kH235 gkq (by decide))).symm
    have m279 := (m196).trans (MF.i mf241 (k := 18) (by decide) (by decide)).symm
    have m280 := (m198).trans (MF.i mf241 (k := 1) (by decide) (by decide)).symm
    have m281 := (m200).trans (MF.i mf241 (k := 2) (by decide) (by decide)).symm
    have m282 := (m202).trans (MF.i mf241 (k := 3) (by decide) (by decide)).symm
    have m283 := (m204).trans (MF.i mf241 (k := 59) (by decide) (by decide)).symm
    have m284 := (m206).trans (MF.i mf241 (k := 62) (by decide) (by decide)).symm
    have m285 := (m208).trans (MF.i mf241 (k := 65) (by decide) (by decide)).symm
    have m286 := (m210).trans (MF.r mf241 (k := 64) (by decide) (by decide)).symm
    have m287 := (m212).trans (MF.r mf241 (k := 66) (by decide) (by decide)).symm
    have m288 := (m214).trans (MF.r mf241 (k := 67) (by decide) (by decide)).symm
    have m289 := (m215).trans (MF.i mf241 (k := 70) (by decide) (by decide)).symm
    have m290 := (m217).trans (MF.r mf241 (k := 73) (by decide) (by decide)).symm
    refine W.eq (g2 := F0 m 911 ls [.int x236]) rfl ?_
    clear f184 f185 f186 f187 f188 f189 f190 f191 f192 f193 m194 m195 m196 m197 m198 m199 m200 m201 m202 m203 m204 m205 m206 m207 m208 m209 m210 m211 m212 m213 m214 m215 m216 m217 m218 m219 m220 m221 m222 m223 m224 m225 m226 m227 m228 m229 m230 m231 m232
    refine lv_pop hx hb dL_law_911 rfl ?_
    refine lv_goto (tgt := 1509) hx hb dL_law_912 (by decide) ?_
    exact nx G H235 locsH235 _ _ ls ⟨hTH235, hN, ga, gb, g237, g238, g239, g240, ⟨(by rw [← m253, ← m279]; exact rt), (by rw [← m252, ← m254, ← m280]; exact r1), (by rw [← m252, ← m255, ← m281]; exact r4), (by rw [← m252, ← m256, ← m282]; exact r5), (by rw [← m252, ← m257, ← m283]; exact r10), (by rw [← m252, ← m258, ← m284]; exact r13), (by rw [← m252, ← m259, ← m285]; exact r16)⟩, Or.inr ⟨kq, m263, gkq, (by rw [← m289]; exact h70), (by rw [← m264, ← m290, ← m265]; exact q1), (by rw [← m266, ← m290, ← m267]; exact q4), (by rw [← m268, ← m290, ← m269]; exact q5), (by rw [← m270, ← m290, ← m271]; exact q10), (by rw [← m272, ← m290, ← m273]; exact q13), (by rw [← m274, ← m290, ← m275]; exact q16), (by rw [← m276, ← m290, ← m272]; exact EQR.of hsn (fun j hj => f248 j (by omega)) (fun j hj => f251 _) (by omega)), (by rw [← m277, ← m290, ← m274]; exact EQR.of hsl (fun j hj => f249 j (by omega)) (fun j hj => f251 _) (by omega)), (by rw [← m278, ← m290, ← m274]; exact EQR.of hsk (fun j hj => f250 j (by omega)) (fun j hj => f251 _) (by omega))⟩, ⟨(by rw [← m252, ← m260, ← m286, ← m284]; exact EQR.of hrn (fun j hj => f242 j (by omega)) (fun j hj => f243 j (by omega)) (by omega)), (by rw [← m252, ← m261, ← m287, ← m285]; exact EQR.of hrl (fun j hj => f244 j (by omega)) (fun j hj => f245 j (by omega)) (by omega)), (by rw [← m252, ← m262, ← m288, ← m285]; exact EQR.of hrk (fun j hj => f246 j (by omega)) (fun j hj => f247 j (by omega)) (by omega))⟩, hSH235⟩ hl ⟨hc, hs, fun h => by have h1 := h.symm.trans m263; cases h1⟩
set_option maxRecDepth 100000 in
set_option maxHeartbeats 8000000 in
theorem lw_c19 {p : Program} {l : Launch} {e : Env} {s : State} {m : MethodId} {below : List Frame} {meth : Method} {c : Code} {K : KE} {b0 L : Nat} {xs : Nat → Int32} {G : Nat → Option Nat} {H : Heap} {locs : List Loc} {a b : Nat} {cells slots : Nat} {ls : Array Slot} {i : Int32} {n : Nat} (D : LC p K s m meth c b0 L xs) (S : SX K s G H locs a b) (hl : lv_has ls 4 [(3, .int i), (2, .ref b), (1, .ref a), (0, .ref b0)]) (hi : 0 ≤ i.toInt ∧ i.toInt + 6 ≤ L) (hn : n ≤ 511) (hB : BD K H a cells slots) (nx : ∀ (G : Nat → Option Nat) (H : Heap) (locs : List Loc) (cells slots : Nat) (ls : Array Slot), SX K s G H locs a b → lv_has ls 4 [(3, .int i), (2, .ref b), (1, .ref a), (0, .ref b0)] → BD K H a cells slots → W p l e room_1 s m #[Value.ref b0] below meth c H locs cells slots (lw_Z below #[Value.ref b0] s) (F0 m 1509 ls [])) : W p l e room_1 s m #[Value.ref b0] below meth c H locs cells slots (lw_Z below #[Value.ref b0] s) (F0 m 915 ls []) := by
  have hI := hi
  obtain ⟨C, hX, hbl, hL⟩ := id D
  obtain ⟨hx, hb, hml, hown, hts, hKT, hr, hlocks, hnm⟩ := id C
  obtain ⟨hT, hN, ga, gb, cg, tu, wd, im, ⟨rt, r1, r4, r5, r10, r13, r16⟩, hk, hnb, hS⟩ := S
  obtain ⟨hc, hs, hB0⟩ := hB
  have n_1 : (1 : Int32).toInt = 1 := rfl
  have n_2 : (2 : Int32).toInt = 2 := rfl
  have n_3 : (3 : Int32).toInt = 3 := rfl
  obtain ⟨w, ew⟩ : ∃ z : Nat, z = fR H a (K.1.2 9 0) := ⟨_, rfl⟩
  have gw := ty_fr (q := w) (k := 0) (u := 0) ew hT ga rg_68 rfl
  rw [← ew] at r1 r4 r5 r10 r13 r16
  obtain ⟨ta, eta⟩ : ∃ z : Int32, z = fI H a (K.1.2 9 3) := ⟨_, rfl⟩
  rw [← eta] at rt
  obtain ⟨tb, etb⟩ : ∃ z : Int32, z = fI H b (K.1.2 10 18) := ⟨_, rfl⟩
  rw [← etb] at rt
  obtain ⟨s1, es1⟩ : ∃ z : Int32, z = fI H w (K.1.2 8 1) := ⟨_, rfl⟩
  rw [← es1] at r1
  obtain ⟨y1, ey1⟩ : ∃ z : Int32, z = fI H b (K.1.2 10 1) := ⟨_, rfl⟩
  rw [← ey1] at r1
  obtain ⟨s4, es4⟩ : ∃ z : Int32, z = fI H w (K.1.2 8 4) := ⟨_, rfl⟩
  rw [← es4] at r4
  obtain ⟨y4, ey4⟩ : ∃ z : Int32, z = fI H b (K.1.2 10 2) := ⟨_, rfl⟩
  rw [← ey4] at r4
  obtain ⟨s5, es5⟩ : ∃ z : Int32, z = fI H w (K.1.2 8 5) := ⟨_, rfl⟩
  rw [← es5] at r5
  obtain ⟨y5, ey5⟩ : ∃ z : Int32, z = fI H b (K.1.2 10 3) := ⟨_, rfl⟩
  rw [← ey5] at r5
  obtain ⟨s10, es10⟩ : ∃ z : Int32, z = fI H w (K.1.2 8 10) := ⟨_, rfl⟩
  rw [← es10] at r10
  obtain ⟨y10, ey10⟩ : ∃ z : Int32, z = fI H b (K.1.2 10 59) := ⟨_, rfl⟩
  rw [← ey10] at r10
  obtain ⟨s13, es13⟩ : ∃ z : Int32, z = fI H w (K.1.2 8 13) := ⟨_, rfl⟩
  rw [← es13] at r13
  obtain ⟨y13, ey13⟩ : ∃ z : Int32, z = fI H b (K.1.2 10 62) := ⟨_, rfl⟩
  rw [← ey13] at r13
  obtain ⟨s16, es16⟩ : ∃ z : Int32, z = fI H w (K.1.2 8 16) := ⟨_, rfl⟩
  rw [← es16] at r16
  obtain ⟨y16, ey16⟩ : ∃ z : Int32, z = fI H b (K.1.2 10 65) := ⟨_, rfl⟩
  rw [← ey16] at r16
  obtain ⟨hb1, hb2, hb3⟩ := hnb
  obtain ⟨cn, ecn⟩ : ∃ z : Nat, z = fR H w (K.1.2 8 12) := ⟨_, rfl⟩
  have gcn := ty_fr (q := cn) (k := 12) (u := 31) ecn hT gw rg_0 rfl
  obtain ⟨xn, exn⟩ : ∃ z : Nat, z = fR H b (K.1.2 10 64) := ⟨_, rfl⟩
  have gxn := ty_fr (q := xn) (k := 64) (u := 157) exn hT gb rg_112 rfl
  obtain ⟨cl, ecl⟩ : ∃ z : Nat, z = fR H w (K.1.2 8 14) := ⟨_, rfl⟩
  have gcl := ty_fr (q := cl) (k := 14) (u := 32) ecl hT gw rg_0 rfl
  obtain ⟨xl, exl⟩ : ∃ z : Nat, z = fR H b (K.1.2 10 66) := ⟨_, rfl⟩
  have gxl := ty_fr (q := xl) (k := 66) (u := 158) exl hT gb rg_112 rfl
  obtain ⟨ck, eck⟩ : ∃ z : Nat, z = fR H w (K.1.2 8 15) := ⟨_, rfl⟩
  have gck := ty_fr (q := ck) (k := 15) (u := 33) eck hT gw rg_0 rfl
  obtain ⟨xk, exk⟩ : ∃ z : Nat, z = fR H b (K.1.2 10 67) := ⟨_, rfl⟩
  have gxk := ty_fr (q := xk) (k := 67) (u := 159) exk hT gb rg_112 rfl
  have hrn : EQR (fun j => fI H cn j) (fun j => fI H xn j) y13.toInt := by rw [ecn, exn, ew, ey13]; exact hb1
  have hrl : EQR (fun j => fI H cl j) (fun j => fI H xl j) y16.toInt := by rw [ecl, exl, ew, ey16]; exact hb2
  have hrk : EQR (fun j => fI H ck j) (fun j => fI H xk j) y16.toInt := by rw [eck, exk, ew, ey16]; exact hb3
  have by13 := ty_fi (x := y13) (k := 62) ey13 hT gb rg_112 rfl
  have by16 := ty_fi (x := y16) (k := 65) ey16 hT gb rg_112 rfl
  have f0cn : ∀ j : Nat, j < 8 → fI H cn j = fI H cn j := fun _ _ => rfl
  have f0xn : ∀ j : Nat, j < 8 → fI H xn j = fI H xn j := fun _ _ => rfl
  have f0cl : ∀ j : Nat, j < 8 → fI H cl j = fI H cl j := fun _ _ => rfl
  have f0xl : ∀ j : Nat, j < 8 → fI H xl j = fI H xl j := fun _ _ => rfl
  have f0ck : ∀ j : Nat, j < 8 → fI H ck j = fI H ck j := fun _ _ => rfl
  have f0xk : ∀ j : Nat, j < 8 → fI H xk j = fI H xk j := fun _ _ => rfl
  rcases hk with ⟨kn, h70⟩ | ⟨kq, kn, gkq, h70, q1, q4, q5, q10, q13, q16, hq1, hq2, hq3⟩
  · skip
    obtain ⟨hi, ehi⟩ : ∃ z : Int32, z = fI H b (K.1.2 10 70) := ⟨_, rfl⟩
    rw [← ehi] at h70
    obtain ⟨hc0, hs0⟩ := hB0 kn
    refine lv_aload_n hx hb dL_law_915 rfl (lv_at hl 2 rfl) ?_
    refine lv_aload_n hx hb dL_law_916 rfl (lv_at hl 3 rfl) ?_
    refine lv_iload_n hx hb dL_law_917 rfl (lv_at hl 0 rfl) ?_
    refine lv_iconst (v := 1) hx hb dL_law_918 (by decide) ?_
    refine lv_iadd hx hb dL_law_919 ?_
    refine lv_topi (fun x101 ex101 => ?_)
    obtain ⟨tx101, ejx101, evx101⟩ := lw_ix (k := 1) ex101 hI hL rfl (by decide)
    clear tx101
    refine va_sld hx hb hX hbl (Nat.not_le.mpr hbl) hS (vp_in_iff.mpr evx101) dL_law_920 ?_
    refine W.eq (g2 := F0 m 921 ls [.int (xs (i.toNatClampNeg + 1)), .ref a]) (congrArg (fun z => F0 m 921 ls [.int (xs z), .ref a]) ejx101) ?_
    refine lv_aload_n hx hb dL_law_921 rfl (lv_at hl 3 rfl) ?_
    refine lv_iload_n hx hb dL_law_922 rfl (lv_at hl 0 rfl) ?_
    refine lv_iconst (v := 2) hx hb dL_law_923 (by decide) ?_
    refine lv_iadd hx hb dL_law_924 ?_
    refine lv_topi (fun x102 ex102 => ?_)
    obtain ⟨tx102, ejx102, evx102⟩ := lw_ix (k := 2) ex102 hI hL rfl (by decide)
    clear tx102
    refine va_sld hx hb hX hbl (Nat.not_le.mpr hbl) hS (vp_in_iff.mpr evx102) dL_law_925 ?_
    refine W.eq (g2 := F0 m 926 ls [.int (xs (i.toNatClampNeg + 2)), .int (xs (i.toNatClampNeg + 1)), .ref a]) (congrArg (fun z => F0 m 926 ls [.int (xs z), .int (xs (i.toNatClampNeg + 1)), .ref a]) ejx102) ?_
    refine lv_aload_n hx hb dL_law_926 rfl (lv_at hl 3 rfl) ?_
    refine lv_iload_n hx hb dL_law_927 rfl (lv_at hl 0 rfl) ?_
    refine lv_iconst (v := 3) hx hb dL_law_928 (by decide) ?_
    refine lv_iadd hx hb dL_law_929 ?_
    refine lv_topi (fun x103 ex103 => ?_)
    obtain ⟨tx103, ejx103, evx103⟩ := lw_ix (k := 3) ex103 hI hL rfl (by decide)
    clear tx103
    refine va_sld hx hb hX hbl (Nat.not_le.mpr hbl) hS (vp_in_iff.mpr evx103) dL_law_930 ?_
    refine W.eq (g2 := F0 m 931 ls [.int (xs (i.toNatClampNeg + 3)), .int (xs (i.toNatClampNeg + 2)), .int (xs (i.toNatClampNeg + 1)), .ref a]) (congrArg (fun z => F0 m 931 ls [.int (xs z), .int (xs (i.toNatClampNeg + 2)), .int (xs (i.toNatClampNeg + 1)), .ref a]) ejx103) ?_
    refine x_V (As := [.int (xs (i.toNatClampNeg + 1)), .int (xs (i.toNatClampNeg + 2)), .int (xs (i.toNatClampNeg + 3))]) (rest := []) C (a_X9_tap l K G H ((xs (i.toNatClampNeg + 1))) ((xs (i.toNatClampNeg + 2))) ((xs (i.toNatClampNeg + 3))) hT ga) yo_X9_tap wM_L_96 ⟨⟨by decide, by decide⟩, show _ ≤ 284929 from Nat.le_trans hc (by decide), show _ ≤ 8247460 from Nat.le_trans hs (by decide)⟩ (x_rv C hT (ci := 9) rfl ga rg_68) rfl hl.1 rfl (Nat.le_of_ble_eq_true rfl) dL_law_931 hS (AE_new hN hS.1) (fun vH104 H104 locsH104 pH104 zH104 kH104 hSH104 => ?_)
    obtain ⟨x105, hvH104, hTH104⟩ := pH104
    subst hvH104
    have g106 : CG (avw K H104 b) := CG.congr (fun k hk j => av_eff hT kH104 gb (by decide) (CG_eff [1, 9, 10, 12, 14] (by decide) k hk)) cg
    have g107 : TU (avw K H104 b) (svw K H104 b) := TU.congr (fun k hk j => av_eff hT kH104 gb (by decide) (TU_eff [1, 9, 10, 12, 14] (by decide) k hk)) (fun k hk => sv_eff hT kH104 gb (by decide)) tu
    have g108 : WD (avw K H104 b) := WD.congr (fun k hk j => av_eff hT kH104 gb (by decide) (WD_eff [1, 9, 10, 12, 14] (by decide) k hk)) wd
    have g109 : IM (avw K H104 b) := IM.congr (fun k hk j => av_eff hT kH104 gb (by decide) (IM_eff [1, 9, 10, 12, 14] (by decide) k hk)) im
    have f110 : ∀ j : Nat, j < 8 → fI H104 cn j = fI H cn j := fun j hj => (fI_kept (x_lt hT kH104 gcn (by decide))).trans (f0cn j hj)
    have f111 : ∀ j : Nat, j < 8 → fI H104 xn j = fI H xn j := fun j hj => (fI_kept (x_lt hT kH104 gxn (by decide))).trans (f0xn j hj)
    have f112 : ∀ j : Nat, j < 8 → fI H104 cl j = fI H cl j := fun j hj => (fI_kept (x_lt hT kH104 gcl (by decide))).trans (f0cl j hj)
    have f113 : ∀ j : Nat, j < 8 → fI H104 xl j = fI H xl j := fun j hj => (fI_kept (x_lt hT kH104 gxl (by decide))).trans (f0xl j hj)
    have f114 : ∀ j : Nat, j < 8 → fI H104 ck j = fI H ck j := fun j hj => (fI_kept (x_lt hT kH104 gck (by decide))).trans (f0ck j hj)
    have f115 : ∀ j : Nat, j < 8 → fI H104 xk j = fI H xk j := fun j hj => (fI_kept (x_lt hT kH104 gxk (by decide))).trans (f0xk j hj)
    have m116 := (ew).trans (fR_kept (x_lt hT kH104 ga (by decide))).symm
    have m117 := (eta).trans (fI_kept (x_lt hT kH104 ga (by decide))).symm
    have m118 := (etb).trans (fI_kept (x_lt hT kH104 gb (by decide))).symm
    have m119 := (es1).trans (fI_kept (x_lt hT kH104 gw (by decide))).symm
    have m120 := (ey1).trans (fI_kept (x_lt hT kH104 gb (by decide))).symm
    have m121 := (es4).trans (fI_kept (x_lt hT kH104 gw (by decide))).symm
    have m122 := (ey4).trans (fI_kept (x_lt hT kH104 gb (by decide))).symm
    have m123 := (es5).trans (fI_kept (x_lt hT kH104 gw (by decide))).symm
    have m124 := (ey5).trans (fI_kept (x_lt hT kH104 gb (by decide))).symm
    have m125 := (es10).trans (fI_kept (x_lt hT kH104 gw (by decide))).symm
    have m126 := (ey10).trans (fI_kept (x_lt hT kH104 gb (by decide))).symm
    have m127 := (es13).trans (fI_kept (x_lt hT kH104 gw (by decide))).symm
    have m128 := (ey13).trans (fI_kept (x_lt hT kH104 gb (by decide))).symm
    have m129 := (es16).trans (fI_kept (x_lt hT kH104 gw (by decide))).symm
    have m130 := (ey16).trans (fI_kept (x_lt hT kH104 gb (by decide))).symm
    have m131 := (ecn).trans (fR_kept (x_lt hT kH104 gw (by decide))).symm
    have m132 := (exn).trans (fR_kept (x_lt hT kH104 gb (by decide))).symm
    have m133 := (ecl).trans (fR_kept (x_lt hT kH104 gw (by decide))).symm
    have m134 := (exl).trans (fR_kept (x_lt hT kH104 gb (by decide))).symm
    have m135 := (eck).trans (fR_kept (x_lt hT kH104 gw (by decide))).symm
    have m136 := (exk).trans (fR_kept (x_lt hT kH104 gb (by decide))).symm
    have m137 := (ehi).trans (fI_kept (x_lt hT kH104 gb (by decide))).symm
    have m138 := (fV_kept (x_lt hT kH104 ga (by decide))).trans kn
    refine W.eq (g2 := F0 m 934 ls [.int x105]) rfl ?_
    clear eck ecl ecn ehi es1 es10 es13 es16 es4 es5 eta etb ew exk exl exn ey1 ey10 ey13 ey16 ey4 ey5 f0ck f0cl f0cn f0xk f0xl f0xn kn
    refine lv_pop hx hb dL_law_934 rfl ?_
    refine lv_aload_n hx hb dL_law_935 rfl (lv_at hl 1 rfl) ?_
    refine lv_aload_n hx hb dL_law_936 rfl (lv_at hl 3 rfl) ?_
    refine lv_iload_n hx hb dL_law_937 rfl (lv_at hl 0 rfl) ?_
    refine lv_iconst (v := 1) hx hb dL_law_938 (by decide) ?_
    refine lv_iadd hx hb dL_law_939 ?_
    refine lv_topi (fun x139 ex139 => ?_)
    obtain ⟨tx139, ejx139, evx139⟩ := lw_ix (k := 1) ex139 hI hL rfl (by decide)
    clear tx139
    refine va_sld hx hb hX hbl (Nat.not_le.mpr hbl) hSH104 (vp_in_iff.mpr evx139) dL_law_940 ?_
    refine W.eq (g2 := F0 m 941 ls [.int (xs (i.toNatClampNeg + 1)), .ref b]) (congrArg (fun z => F0 m 941 ls [.int (xs z), .ref b]) ejx139) ?_
    refine lv_aload_n hx hb dL_law_941 rfl (lv_at hl 3 rfl) ?_
    refine lv_iload_n hx hb dL_law_942 rfl (lv_at hl 0 rfl) ?_
    refine lv_iconst (v := 2) hx hb dL_law_943 (by decide) ?_
    refine lv_iadd hx hb dL_law_944 ?_
    refine lv_topi (fun x140 ex140 => ?_)
    obtain ⟨tx140, ejx140, evx140⟩ := lw_ix (k := 2) ex140 hI hL rfl (by decide)
    clear tx140
    refine va_sld hx hb hX hbl (Nat.not_le.mpr hbl) hSH104 (vp_in_iff.mpr evx140) dL_law_945 ?_
    refine W.eq (g2 := F0 m 946 ls [.int (xs (i.toNatClampNeg + 2)), .int (xs (i.toNatClampNeg + 1)), .ref b]) (congrArg (fun z => F0 m 946 ls [.int (xs z), .int (xs (i.toNatClampNeg + 1)), .ref b]) ejx140) ?_
    refine lv_aload_n hx hb dL_law_946 rfl (lv_at hl 3 rfl) ?_
    refine lv_iload_n hx hb dL_law_947 rfl (lv_at hl 0 rfl) ?_
    refine lv_iconst (v := 3) hx hb dL_law_948 (by decide) ?_
    refine lv_iadd hx hb dL_law_949 ?_
    refine lv_topi (fun x141 ex141 => ?_)
    obtain ⟨tx141, ejx141, evx141⟩ := lw_ix (k := 3) ex141 hI hL rfl (by decide)
    clear tx141
    refine va_sld hx hb hX hbl (Nat.not_le.mpr hbl) hSH104 (vp_in_iff.mpr evx141) dL_law_950 ?_
    refine W.eq (g2 := F0 m 951 ls [.int (xs (i.toNatClampNeg + 3)), .int (xs (i.toNatClampNeg + 2)), .int (xs (i.toNatClampNeg + 1)), .ref b]) (congrArg (fun z => F0 m 951 ls [.int (xs z), .int (xs (i.toNatClampNeg + 2)), .int (xs (i.toNatClampNeg + 1)), .ref b]) ejx141) ?_
    obtain ⟨q142, eq142⟩ : ∃ z : Nat, z = fR H104 b (K.1.2 10 50) := ⟨_, rfl⟩
    have gq142 := ty_fr (q := q142) (k := 50) (u := 146) eq142 hTH104 gb rg_112 rfl
    refine x_V (As := [.int (xs (i.toNatClampNeg + 1)), .int (xs (i.toNatClampNeg + 2)), .int (xs (i.toNatClampNeg + 3))]) (rest := []) C (a_X10_tap l K G H104 ((xs (i.toNatClampNeg + 1))) ((xs (i.toNatClampNeg + 2))) ((xs (i.toNatClampNeg + 3))) hTH104 gb gq142 eq142 g106 g107 g108 g109) yo_X10_tap wM_L_99 ⟨⟨by decide, by decide⟩, show _ ≤ 284929 from Nat.le_trans hc (by decide), show _ ≤ 8247460 from Nat.le_trans hs (by decide)⟩ (x_rv C hTH104 (ci := 10) rfl gb rg_112) rfl hl.1 rfl (Nat.le_of_ble_eq_true rfl) dL_law_951 hSH104 (AE_new hN hSH104.1) (fun vH143 H143 locsH143 pH143 zH143 kH143 hSH143 => ?_)
    obtain ⟨x144, hvH143, m145, g146, g147, g148, g149, mf150, hTH143⟩ := pH143
    subst hvH143
    have f151 : ∀ j : Nat, j < 8 → fI H143 cn j = fI H cn j := fun j hj => (fI_kept (x_lt hTH104 kH143 gcn (by decide))).trans (f110 j hj)
    have f152 : ∀ j : Nat, j < 8 → fI H143 xn j = fI H xn j := fun j hj => (fI_kept (x_lt hTH104 kH143 gxn (by decide))).trans (f111 j hj)
    have f153 : ∀ j : Nat, j < 8 → fI H143 cl j = fI H cl j := fun j hj => (fI_kept (x_lt hTH104 kH143 gcl (by decide))).trans (f112 j hj)
    have f154 : ∀ j : Nat, j < 8 → fI H143 xl j = fI H xl j := fun j hj => (fI_kept (x_lt hTH104 kH143 gxl (by decide))).trans (f113 j hj)
    have f155 : ∀ j : Nat, j < 8 → fI H143 ck j = fI H ck j := fun j hj => (fI_kept (x_lt hTH104 kH143 gck (by decide))).trans (f114 j hj)
    have f156 : ∀ j : Nat, j < 8 → fI H143 xk j = fI H xk j := fun j hj => (fI_kept (x_lt hTH104 kH143 gxk (by decide))).trans (f115 j hj)
    have m157 := (m116).trans (fR_kept (x_lt hTH104 kH143 ga (by decide))).symm
    have m158 := (m117).trans (fI_kept (x_lt hTH104 kH143 ga (by decide))).symm
    have m159 := (m119).trans (fI_kept (x_lt hTH104 kH143 gw (by decide))).symm
    have m160 := (m121).trans (fI_kept (x_lt hTH104 kH143 gw (by decide))).symm
    have m161 := (m123).trans (fI_kept (x_lt hTH104 kH143 gw (by decide))).symm
    have m162 := (m125).trans (fI_kept (x_lt hTH104 kH143 gw (by decide))).symm
    have m163 := (m127).trans (fI_kept (x_lt hTH104 kH143 gw (by decide))).symm
    have m164 := (m129).trans (fI_kept (x_lt hTH104 kH143 gw (by decide))).symm
    have m165 := (m131).trans (fR_kept (x_lt hTH104 kH143 gw (by decide))).symm
    have m166 := (m133).trans (fR_kept (x_lt hTH104 kH143 gw (by decide))).symm
    have m167 := (m135).trans (fR_kept (x_lt hTH104 kH143 gw (by decide))).symm
    have m168 := (fV_kept (x_lt hTH104 kH143 ga (by decide))).trans m138
    have m169 := (m118).trans (MF.i mf150 (k := 18) (by decide) (by decide)).symm
    have m170 := (m120).trans (MF.i mf150 (k := 1) (by decide) (by decide)).symm
    have m171 := (m122).trans (MF.i mf150 (k := 2) (by decide) (by decide)).symm
    have m172 := (m124).trans (MF.i mf150 (k := 3) (by decide) (by decide)).symm
    have m173 := (m126).trans (MF.i mf150 (k := 59) (by decide) (by decide)).symm
    have m174 := (m128).trans (MF.i mf150 (k := 62) (by decide) (by decide)).symm
    have m175 := (m130).trans (MF.i mf150 (k := 65) (by decide) (by decide)).symm
    have m176 := (m132).trans (MF.r mf150 (k := 64) (by decide) (by decide)).symm
    have m177 := (m134).trans (MF.r mf150 (k := 66) (by decide) (by decide)).symm
    have m178 := (m136).trans (MF.r mf150 (k := 67) (by decide) (by decide)).symm
    have m179 := (m137).trans (MF.i mf150 (k := 70) (by decide) (by decide)).symm
    have m180 := (eq142).trans (MF.r mf150 (k := 50) (by decide) (by decide)).symm
    refine W.eq (g2 := F0 m 954 ls [.int x144]) rfl ?_
    clear f110 f111 f112 f113 f114 f115 m116 m117 m118 m119 m120 m121 m122 m123 m124 m125 m126 m127 m128 m129 m130 m131 m132 m133 m134 m135 m136 m137 m138
    refine lv_pop hx hb dL_law_954 rfl ?_
    refine lv_goto (tgt := 1509) hx hb dL_law_955 (by decide) ?_
    exact nx G H143 locsH143 _ _ ls ⟨hTH143, hN, ga, gb, g146, g147, g148, g149, ⟨(by rw [← m158, ← m169]; exact rt), (by rw [← m157, ← m159, ← m170]; exact r1), (by rw [← m157, ← m160, ← m171]; exact r4), (by rw [← m157, ← m161, ← m172]; exact r5), (by rw [← m157, ← m162, ← m173]; exact r10), (by rw [← m157, ← m163, ← m174]; exact r13), (by rw [← m157, ← m164, ← m175]; exact r16)⟩, Or.inl ⟨m168, (by rw [← m179]; exact h70)⟩, ⟨(by rw [← m157, ← m165, ← m176, ← m174]; exact EQR.of hrn (fun j hj => f151 j (by omega)) (fun j hj => f152 j (by omega)) (by omega)), (by rw [← m157, ← m166, ← m177, ← m175]; exact EQR.of hrl (fun j hj => f153 j (by omega)) (fun j hj => f154 j (by omega)) (by omega)), (by rw [← m157, ← m167, ← m178, ← m175]; exact EQR.of hrk (fun j hj => f155 j (by omega)) (fun j hj => f156 j (by omega)) (by omega))⟩, hSH143⟩ hl ⟨hc, hs, fun _ => ⟨hc0, hs0⟩⟩
  · skip
    obtain ⟨hi, ehi⟩ : ∃ z : Int32, z = fI H b (K.1.2 10 70) := ⟨_, rfl⟩
    rw [← ehi] at h70
    obtain ⟨iq, eiq⟩ : ∃ z : Nat, z = fR H b (K.1.2 10 73) := ⟨_, rfl⟩
    have giq := ty_fr (q := iq) (k := 73) (u := 162) eiq hT gb rg_112 rfl
    rw [← eiq] at q1 q4 q5 q10 q13 q16
    obtain ⟨k1, ek1⟩ : ∃ z : Int32, z = fI H kq (K.1.2 8 1) := ⟨_, rfl⟩
    rw [← ek1] at q1
    obtain ⟨i1, ei1⟩ : ∃ z : Int32, z = fI H iq ((0 : Int32).toNatClampNeg) := ⟨_, rfl⟩
    rw [← ei1] at q1
    obtain ⟨k4, ek4⟩ : ∃ z : Int32, z = fI H kq (K.1.2 8 4) := ⟨_, rfl⟩
    rw [← ek4] at q4
    obtain ⟨i4, ei4⟩ : ∃ z : Int32, z = fI H iq ((1 : Int32).toNatClampNeg) := ⟨_, rfl⟩
    rw [← ei4] at q4
    obtain ⟨k5, ek5⟩ : ∃ z : Int32, z = fI H kq (K.1.2 8 5) := ⟨_, rfl⟩
    rw [← ek5] at q5
    obtain ⟨i5, ei5⟩ : ∃ z : Int32, z = fI H iq ((2 : Int32).toNatClampNeg) := ⟨_, rfl⟩
    rw [← ei5] at q5
    obtain ⟨k10, ek10⟩ : ∃ z : Int32, z = fI H kq (K.1.2 8 10) := ⟨_, rfl⟩
    rw [← ek10] at q10
    obtain ⟨i10, ei10⟩ : ∃ z : Int32, z = fI H iq ((3 : Int32).toNatClampNeg) := ⟨_, rfl⟩
    rw [← ei10] at q10
    obtain ⟨k13, ek13⟩ : ∃ z : Int32, z = fI H kq (K.1.2 8 13) := ⟨_, rfl⟩
    rw [← ek13] at q13
    obtain ⟨i13, ei13⟩ : ∃ z : Int32, z = fI H iq ((4 : Int32).toNatClampNeg) := ⟨_, rfl⟩
    rw [← ei13] at q13
    obtain ⟨k16, ek16⟩ : ∃ z : Int32, z = fI H kq (K.1.2 8 16) := ⟨_, rfl⟩
    rw [← ek16] at q16
    obtain ⟨i16, ei16⟩ : ∃ z : Int32, z = fI H iq ((5 : Int32).toNatClampNeg) := ⟨_, rfl⟩
    rw [← ei16] at q16
    obtain ⟨dn, edn⟩ : ∃ z : Nat, z = fR H kq (K.1.2 8 12) := ⟨_, rfl⟩
    have gdn := ty_fr (q := dn) (k := 12) (u := 65) edn hT gkq rg_34 rfl
    obtain ⟨dl, edl⟩ : ∃ z : Nat, z = fR H kq (K.1.2 8 14) := ⟨_, rfl⟩
    have gdl := ty_fr (q := dl) (k := 14) (u := 66) edl hT gkq rg_34 rfl
    obtain ⟨dk, edk⟩ : ∃ z : Nat, z = fR H kq (K.1.2 8 15) := ⟨_, rfl⟩
    have gdk := ty_fr (q := dk) (k := 15) (u := 67) edk hT gkq rg_34 rfl
    have hsn : EQR (fun j => fI H dn j) (fun j => fI H iq (8877 + 4 * j)) k13.toInt := by rw [edn, eiq, ek13]; exact hq1
    have hsl : EQR (fun j => fI H dl j) (fun j => fI H iq (8878 + 4 * j)) k16.toInt := by rw [edl, eiq, ek16]; exact hq2
    have hsk : EQR (fun j => fI H dk j) (fun j => fI H iq (8879 + 4 * j)) k16.toInt := by rw [edk, eiq, ek16]; exact hq3
    have bk13 := ty_fi (x := k13) (k := 13) ek13 hT gkq rg_34 rfl
    have bk16 := ty_fi (x := k16) (k := 16) ek16 hT gkq rg_34 rfl
    have f0dn : ∀ j : Nat, j < 8 → fI H dn j = fI H dn j := fun _ _ => rfl
    have f0dl : ∀ j : Nat, j < 8 → fI H dl j = fI H dl j := fun _ _ => rfl
    have f0dk : ∀ j : Nat, j < 8 → fI H dk j = fI H dk j := fun _ _ => rfl
    have f0i : ∀ j : Nat, fI H iq j = fI H iq j := fun _ => rfl
    refine lv_aload_n hx hb dL_law_915 rfl (lv_at hl 2 rfl) ?_
    refine lv_aload_n hx hb dL_law_916 rfl (lv_at hl 3 rfl) ?_
    refine lv_iload_n hx hb dL_law_917 rfl (lv_at hl 0 rfl) ?_
    refine lv_iconst (v := 1) hx hb dL_law_918 (by decide) ?_
    refine lv_iadd hx hb dL_law_919 ?_
    refine lv_topi (fun x181 ex181 => ?_)
    obtain ⟨tx181, ejx181, evx181⟩ := lw_ix (k := 1) ex181 hI hL rfl (by decide)
    clear tx181
    refine va_sld hx hb hX hbl (Nat.not_le.mpr hbl) hS (vp_in_iff.mpr evx181) dL_law_920 ?_
    refine W.eq (g2 := F0 m 921 ls [.int (xs (i.toNatClampNeg + 1)), .ref a]) (congrArg (fun z => F0 m 921 ls [.int (xs z), .ref a]) ejx181) ?_
    refine lv_aload_n hx hb dL_law_921 rfl (lv_at hl 3 rfl) ?_
    refine lv_iload_n hx hb dL_law_922 rfl (lv_at hl 0 rfl) ?_
    refine lv_iconst (v := 2) hx hb dL_law_923 (by decide) ?_
    refine lv_iadd hx hb dL_law_924 ?_
    refine lv_topi (fun x182 ex182 => ?_)
    obtain ⟨tx182, ejx182, evx182⟩ := lw_ix (k := 2) ex182 hI hL rfl (by decide)
    clear tx182
    refine va_sld hx hb hX hbl (Nat.not_le.mpr hbl) hS (vp_in_iff.mpr evx182) dL_law_925 ?_
    refine W.eq (g2 := F0 m 926 ls [.int (xs (i.toNatClampNeg + 2)), .int (xs (i.toNatClampNeg + 1)), .ref a]) (congrArg (fun z => F0 m 926 ls [.int (xs z), .int (xs (i.toNatClampNeg + 1)), .ref a]) ejx182) ?_
    refine lv_aload_n hx hb dL_law_926 rfl (lv_at hl 3 rfl) ?_
    refine lv_iload_n hx hb dL_law_927 rfl (lv_at hl 0 rfl) ?_
    refine lv_iconst (v := 3) hx hb dL_law_928 (by decide) ?_
    refine lv_iadd hx hb dL_law_929 ?_
    refine lv_topi (fun x183 ex183 => ?_)
    obtain ⟨tx183, ejx183, evx183⟩ := lw_ix (k := 3) ex183 hI hL rfl (by decide)
    clear tx183
    refine va_sld hx hb hX hbl (Nat.not_le.mpr hbl) hS (vp_in_iff.mpr evx183) dL_law_930 ?_
    refine W.eq (g2 := F0 m 931 ls [.int (xs (i.toNatClampNeg + 3)), .int (xs (i.toNatClampNeg + 2)), .int (xs (i.toNatClampNeg + 1)), .ref a]) (congrArg (fun z => F0 m 931 ls [.int (xs z), .int (xs (i.toNatClampNeg + 2)), .int (xs (i.toNatClampNeg + 1)), .ref a]) ejx183) ?_
    refine x_V (As := [.int (xs (i.toNatClampNeg + 1)), .int (xs (i.toNatClampNeg + 2)), .int (xs (i.toNatClampNeg + 3))]) (rest := []) C (a_X9_tap l K G H ((xs (i.toNatClampNeg + 1))) ((xs (i.toNatClampNeg + 2))) ((xs (i.toNatClampNeg + 3))) hT ga) yo_X9_tap wM_L_96 ⟨⟨by decide, by decide⟩, show _ ≤ 284929 from Nat.le_trans hc (by decide), show _ ≤ 8247460 from Nat.le_trans hs (by decide)⟩ (x_rv C hT (ci := 9) rfl ga rg_68) rfl hl.1 rfl (Nat.le_of_ble_eq_true rfl) dL_law_931 hS (AE_new hN hS.1) (fun vH184 H184 locsH184 pH184 zH184 kH184 hSH184 => ?_)
    obtain ⟨x185, hvH184, hTH184⟩ := pH184
    subst hvH184
    have g186 : CG (avw K H184 b) := CG.congr (fun k hk j => av_eff hT kH184 gb (by decide) (CG_eff [1, 9, 10, 12, 14] (by decide) k hk)) cg
    have g187 : TU (avw K H184 b) (svw K H184 b) := TU.congr (fun k hk j => av_eff hT kH184 gb (by decide) (TU_eff [1, 9, 10, 12, 14] (by decide) k hk)) (fun k hk => sv_eff hT kH184 gb (by decide)) tu
    have g188 : WD (avw K H184 b) := WD.congr (fun k hk j => av_eff hT kH184 gb (by decide) (WD_eff [1, 9, 10, 12, 14] (by decide) k hk)) wd
    have g189 : IM (avw K H184 b) := IM.congr (fun k hk j => av_eff hT kH184 gb (by decide) (IM_eff [1, 9, 10, 12, 14] (by decide) k hk)) im
    have f190 : ∀ j : Nat, j < 8 → fI H184 cn j = fI H cn j := fun j hj => (fI_kept (x_lt hT kH184 gcn (by decide))).trans (f0cn j hj)
    have f191 : ∀ j : Nat, j < 8 → fI H184 xn j = fI H xn j := fun j hj => (fI_kept (x_lt hT kH184 gxn (by decide))).trans (f0xn j hj)
    have f192 : ∀ j : Nat, j < 8 → fI H184 cl j = fI H cl j := fun j hj => (fI_kept (x_lt hT kH184 gcl (by decide))).trans (f0cl j hj)
    have f193 : ∀ j : Nat, j < 8 → fI H184 xl j = fI H xl j := fun j hj => (fI_kept (x_lt hT kH184 gxl (by decide))).trans (f0xl j hj)
    have f194 : ∀ j : Nat, j < 8 → fI H184 ck j = fI H ck j := fun j hj => (fI_kept (x_lt hT kH184 gck (by decide))).trans (f0ck j hj)
    have f195 : ∀ j : Nat, j < 8 → fI H184 xk j = fI H xk j := fun j hj => (fI_kept (x_lt hT kH184 gxk (by decide))).trans (f0xk j hj)
    have f196 : ∀ j : Nat, j < 8 → fI H184 dn j = fI H dn j := fun j hj => (fI_kept (x_lt hT kH184 gdn (by decide))).trans (f0dn j hj)
    have f197 : ∀ j : Nat, j < 8 → fI H184 dl j = fI H dl j := fun j hj => (fI_kept (x_lt hT kH184 gdl (by decide))).trans (f0dl j hj)
    have f198 : ∀ j : Nat, j < 8 → fI H184 dk j = fI H dk j := fun j hj => (fI_kept (x_lt hT kH184 gdk (by decide))).trans (f0dk j hj)
    have f199 : ∀ j : Nat, fI H184 iq j = fI H iq j := fun j => (fI_kept (x_lt hT kH184 giq (by decide))).trans (f0i j)
    have m200 := (ew).trans (fR_kept (x_lt hT kH184 ga (by decide))).symm
    have m201 := (eta).trans (fI_kept (x_lt hT kH184 ga (by decide))).symm
    have m202 := (etb).trans (fI_kept (x_lt hT kH184 gb (by decide))).symm
    have m203 := (es1).trans (fI_kept (x_lt hT kH184 gw (by decide))).symm
    have m204 := (ey1).trans (fI_kept (x_lt hT kH184 gb (by decide))).symm
    have m205 := (es4).trans (fI_kept (x_lt hT kH184 gw (by decide))).symm
    have m206 := (ey4).trans (fI_kept (x_lt hT kH184 gb (by decide))).symm
    have m207 := (es5).trans (fI_kept (x_lt hT kH184 gw (by decide))).symm
    have m208 := (ey5).trans (fI_kept (x_lt hT kH184 gb (by decide))).symm
    have m209 := (es10).trans (fI_kept (x_lt hT kH184 gw (by decide))).symm
    have m210 := (ey10).trans (fI_kept (x_lt hT kH184 gb (by decide))).symm
    have m211 := (es13).trans (fI_kept (x_lt hT kH184 gw (by decide))).symm
    have m212 := (ey13).trans (fI_kept (x_lt hT kH184 gb (by decide))).symm
    have m213 := (es16).trans (fI_kept (x_lt hT kH184 gw (by decide))).symm
    have m214 := (ey16).trans (fI_kept (x_lt hT kH184 gb (by decide))).symm
    have m215 := (ecn).trans (fR_kept (x_lt hT kH184 gw (by decide))).symm
    have m216 := (exn).trans (fR_kept (x_lt hT kH184 gb (by decide))).symm
    have m217 := (ecl).trans (fR_kept (x_lt hT kH184 gw (by decide))).symm
    have m218 := (exl).trans (fR_kept (x_lt hT kH184 gb (by decide))).symm
    have m219 := (eck).trans (fR_kept (x_lt hT kH184 gw (by decide))).symm
    have m220 := (exk).trans (fR_kept (x_lt hT kH184 gb (by decide))).symm
    have m221 := (ehi).trans (fI_kept (x_lt hT kH184 gb (by decide))).symm
    have m222 := (fV_kept (x_lt hT kH184 ga (by decide))).trans kn
    have m223 := (eiq).trans (fR_kept (x_lt hT kH184 gb (by decide))).symm
    have m224 := (ek1).trans (fI_kept (x_lt hT kH184 gkq (by decide))).symm
    have m225 := (ei1).trans (fI_kept (x_lt hT kH184 giq (by decide))).symm
    have m226 := (ek4).trans (fI_kept (x_lt hT kH184 gkq (by decide))).symm
    have m227 := (ei4).trans (fI_kept (x_lt hT kH184 giq (by decide))).symm
    have m228 := (ek5).trans (fI_kept (x_lt hT kH184 gkq (by decide))).symm
    have m229 := (ei5).trans (fI_kept (x_lt hT kH184 giq (by decide))).symm
    have m230 := (ek10).trans (fI_kept (x_lt hT kH184 gkq (by decide))).symm
    have m231 := (ei10).trans (fI_kept (x_lt hT kH184 giq (by decide))).symm
    have m232 := (ek13).trans (fI_kept (x_lt hT kH184 gkq (by decide))).symm
    have m233 := (ei13).trans (fI_kept (x_lt hT kH184 giq (by decide))).symm
    have m234 := (ek16).trans (fI_kept (x_lt hT kH184 gkq (by decide))).symm
    have m235 := (ei16).trans (fI_kept (x_lt hT kH184 giq (by decide))).symm
    have m236 := (edn).trans (fR_kept (x_lt hT kH184 gkq (by decide))).symm
    have m237 := (edl).trans (fR_kept (x_lt hT kH184 gkq (by decide))).symm
    have m238 := (edk).trans (fR_kept (x_lt hT kH184 gkq (by decide))).symm
    refine W.eq (g2 := F0 m 934 ls [.int x185]) rfl ?_
    clear eck ecl ecn edk edl edn ehi ei1 ei10 ei13 ei16 ei4 ei5 eiq ek1 ek10 ek13 ek16 ek4 ek5 es1 es10 es13 es16 es4 es5 eta etb ew exk exl exn ey1 ey10 ey13 ey16 ey4 ey5 f0ck f0cl f0cn f0dk f0dl f0dn f0i f0xk f0xl f0xn kn
    refine lv_pop hx hb dL_law_934 rfl ?_
    refine lv_aload_n hx hb dL_law_935 rfl (lv_at hl 1 rfl) ?_
    refine lv_aload_n hx hb dL_law_936 rfl (lv_at hl 3 rfl) ?_
    refine lv_iload_n hx hb dL_law_937 rfl (lv_at hl 0 rfl) ?_
    refine lv_iconst (v := 1) hx hb dL_law_938 (by decide) ?_
    refine lv_iadd hx hb dL_law_939 ?_
    refine lv_topi (fun x239 ex239 => ?_)
    obtain ⟨tx239, ejx239, evx239⟩ := lw_ix (k := 1) ex239 hI hL rfl (by decide)
    clear tx239
    refine va_sld hx hb hX hbl (Nat.not_le.mpr hbl) hSH184 (vp_in_iff.mpr evx239) dL_law_940 ?_
    refine W.eq (g2 := F0 m 941 ls [.int (xs (i.toNatClampNeg + 1)), .ref b]) (congrArg (fun z => F0 m 941 ls [.int (xs z), .ref b]) ejx239) ?_
    refine lv_aload_n hx hb dL_law_941 rfl (lv_at hl 3 rfl) ?_
    refine lv_iload_n hx hb dL_law_942 rfl (lv_at hl 0 rfl) ?_
    refine lv_iconst (v := 2) hx hb dL_law_943 (by decide) ?_
    refine lv_iadd hx hb dL_law_944 ?_
    refine lv_topi (fun x240 ex240 => ?_)
    obtain ⟨tx240, ejx240, evx240⟩ := lw_ix (k := 2) ex240 hI hL rfl (by decide)
    clear tx240
    refine va_sld hx hb hX hbl (Nat.not_le.mpr hbl) hSH184 (vp_in_iff.mpr evx240) dL_law_945 ?_
    refine W.eq (g2 := F0 m 946 ls [.int (xs (i.toNatClampNeg + 2)), .int (xs (i.toNatClampNeg + 1)), .ref b]) (congrArg (fun z => F0 m 946 ls [.int (xs z), .int (xs (i.toNatClampNeg + 1)), .ref b]) ejx240) ?_
    refine lv_aload_n hx hb dL_law_946 rfl (lv_at hl 3 rfl) ?_
    refine lv_iload_n hx hb dL_law_947 rfl (lv_at hl 0 rfl) ?_
    refine lv_iconst (v := 3) hx hb dL_law_948 (by decide) ?_
    refine lv_iadd hx hb dL_law_949 ?_
    refine lv_topi (fun x241 ex241 => ?_)
    obtain ⟨tx241, ejx241, evx241⟩ := lw_ix (k := 3) ex241 hI hL rfl (by decide)
    clear tx241
    refine va_sld hx hb hX hbl (Nat.not_le.mpr hbl) hSH184 (vp_in_iff.mpr evx241) dL_law_950 ?_
    refine W.eq (g2 := F0 m 951 ls [.int (xs (i.toNatClampNeg + 3)), .int (xs (i.toNatClampNeg + 2)), .int (xs (i.toNatClampNeg + 1)), .ref b]) (congrArg (fun z => F0 m 951 ls [.int (xs z), .int (xs (i.toNatClampNeg + 2)), .int (xs (i.toNatClampNeg + 1)), .ref b]) ejx241) ?_
    obtain ⟨q242, eq242⟩ : ∃ z : Nat, z = fR H184 b (K.1.2 10 50) := ⟨_, rfl⟩
    have gq242 := ty_fr (q := q242) (k := 50) (u := 146) eq242 hTH184 gb rg_112 rfl
    refine x_V (As := [.int (xs (i.toNatClampNeg + 1)), .int (xs (i.toNatClampNeg + 2)), .int (xs (i.toNatClampNeg + 3))]) (rest := []) C (a_X10_tap l K G H184 ((xs (i.toNatClampNeg + 1))) ((xs (i.toNatClampNeg + 2))) ((xs (i.toNatClampNeg + 3))) hTH184 gb gq242 eq242 g186 g187 g188 g189) yo_X10_tap wM_L_99 ⟨⟨by decide, by decide⟩, show _ ≤ 284929 from Nat.le_trans hc (by decide), show _ ≤ 8247460 from Nat.le_trans hs (by decide)⟩ (x_rv C hTH184 (ci := 10) rfl gb rg_112) rfl hl.1 rfl (Nat.le_of_ble_eq_true rfl) dL_law_951 hSH184 (AE_new hN hSH184.1) (fun vH243 H243 locsH243 pH243 zH243 kH243 hSH243 => ?_)
    obtain ⟨x244, hvH243, m245, g246, g247, g248, g249, mf250, hTH243⟩ := pH243
    subst hvH243
    have f251 : ∀ j : Nat, j < 8 → fI H243 cn j = fI H cn j := fun j hj => (fI_kept (x_lt hTH184 kH243 gcn (by decide))).trans (f190 j hj)
    have f252 : ∀ j : Nat, j < 8 → fI H243 xn j = fI H xn j := fun j hj => (fI_kept (x_lt hTH184 kH243 gxn (by decide))).trans (f191 j hj)
    have f253 : ∀ j : Nat, j < 8 → fI H243 cl j = fI H cl j := fun j hj => (fI_kept (x_lt hTH184 kH243 gcl (by decide))).trans (f192 j hj)
    have f254 : ∀ j : Nat, j < 8 → fI H243 xl j = fI H xl j := fun j hj => (fI_kept (x_lt hTH184 kH243 gxl (by decide))).trans (f193 j hj)
    have f255 : ∀ j : Nat, j < 8 → fI H243 ck j = fI H ck j := fun j hj => (fI_kept (x_lt hTH184 kH243 gck (by decide))).trans (f194 j hj)
    have f256 : ∀ j : Nat, j < 8 → fI H243 xk j = fI H xk j := fun j hj => (fI_kept (x_lt hTH184 kH243 gxk (by decide))).trans (f195 j hj)
    have f257 : ∀ j : Nat, j < 8 → fI H243 dn j = fI H dn j := fun j hj => (fI_kept (x_lt hTH184 kH243 gdn (by decide))).trans (f196 j hj)
    have f258 : ∀ j : Nat, j < 8 → fI H243 dl j = fI H dl j := fun j hj => (fI_kept (x_lt hTH184 kH243 gdl (by decide))).trans (f197 j hj)
    have f259 : ∀ j : Nat, j < 8 → fI H243 dk j = fI H dk j := fun j hj => (fI_kept (x_lt hTH184 kH243 gdk (by decide))).trans (f198 j hj)
    have f260 : ∀ j : Nat, fI H243 iq j = fI H iq j := fun j => (fI_kept (x_lt hTH184 kH243 giq (by decide))).trans (f199 j)
    have m261 := (m200).trans (fR_kept (x_lt hTH184 kH243 ga (by decide))).symm
    have m262 := (m201).trans (fI_kept (x_lt hTH184 kH243 ga (by decide))).symm
    have m263 := (m203).trans (fI_kept (x_lt hTH184 kH243 gw (by decide))).symm
    have m264 := (m205).trans (fI_kept (x_lt hTH184 kH243 gw (by decide))).symm
    have m265 := (m207).trans (fI_kept (x_lt hTH184 kH243 gw (by decide))).symm
    have m266 := (m209).trans (fI_kept (x_lt hTH184 kH243 gw (by decide))).symm
    have m267 := (m211).trans (fI_kept (x_lt hTH184 kH243 gw (by decide))).symm
    have m268 := (m213).trans (fI_kept (x_lt hTH184 kH243 gw (by decide))).symm
    have m269 := (m215).trans (fR_kept (x_lt hTH184 kH243 gw (by decide))).symm
    have m270 := (m217).trans (fR_kept (x_lt hTH184 kH243 gw (by decide))).symm
    have m271 := (m219).trans (fR_kept (x_lt hTH184 kH243 gw (by decide))).symm
    have m272 := (fV_kept (x_lt hTH184 kH243 ga (by decide))).trans m222
    have m273 := (m224).trans (fI_kept (x_lt hTH184 kH243 gkq (by decide))).symm
    have m274 := (m225).trans (fI_kept (x_lt hTH184 kH243 giq (by decide))).symm
    have m275 := (m226).trans (fI_kept (x_lt hTH184 kH243 gkq (by decide))).symm
    have m276 := (m227).trans (fI_kept (x_lt hTH184 kH243 giq (by decide))).symm
    have m277 := (m228).trans (fI_kept (x_lt hTH184 kH243 gkq (by decide))).symm
    have m278 := (m229).trans (fI_kept (x_lt hTH184 kH243 giq (by decide))).symm
    have m279 := (m230).trans (fI_kept (x_lt hTH184 kH243 gkq (by decide))).symm
    have m280 := (m231).trans (fI_kept (x_lt hTH184 kH243 giq (by decide))).symm
    have m281 := (m232).trans (fI_kept (x_lt hTH184 kH243 gkq (by decide))).symm
    have m282 := (m233).trans (fI_kept (x_lt hTH184 kH243 giq (by decide))).symm
    have m283 := (m234).trans (fI_kept (x_lt hTH184 kH243 gkq (by decide))).symm
    have m284 := (m235).trans (fI_kept (x_lt hTH184 kH243 giq (by decide))).symm
    have m285 := (m236).trans (fR_kept (x_lt hTH184 kH243 gkq (by decide))).symm
    have m286 := (m237).trans (fR_kept (x_lt hTH184 kH243 gkq (by decide))).symm
    have m287 := (m238).trans (fR_kept (x_lt hTH184 kH243 gkq (by decide))).symm
    have m288 := (m202).trans (MF.i mf250 (k := 18) (by decide) (by decide)).symm
    have m289 := (m204).trans (MF.i mf250 (k := 1) (by decide) (by decide)).symm
    have m290 := (m206).trans (MF.i mf250 (k := 2) (by decide) (by decide)).symm
    have m291 := (m208).trans (MF.i mf250 (k := 3) (by decide) (by decide)).symm
    have m292 := (m210).trans (MF.i mf250 (k := 59) (by decide) (by decide)).symm
    have m293 := (m212).trans (MF.i mf250 (k := 62) (by decide) (by decide)).symm
    have m294 := (m214).trans (MF.i mf250 (k := 65) (by decide) (by decide)).symm
    have m295 := (m216).trans (MF.r mf250 (k := 64) (by decide) (by decide)).symm
    have m296 := (m218).trans (MF.r mf250 (k := 66) (by decide) (by decide)).symm
    have m297 := (m220).trans (MF.r mf250 (k := 67) (by decide) (by decide)).symm
    have m298 := (m221).trans (MF.i mf250 (k := 70) (by decide) (by decide)).symm
    have m299 := (m223).trans (MF.r mf250 (k := 73) (by decide) (by decide)).symm
    have m300 := (eq242).trans (MF.r mf250 (k := 50) (by decide) (by decide)).symm
    refine W.eq (g2 := F0 m 954 ls [.int x244]) rfl ?_
    clear f190 f191 f192 f193 f194 f195 f196 f197 f198 f199 m200 m201 m202 m203 m204 m205 m206 m207 m208 m209 m210 m211 m212 m213 m214 m215 m216 m217 m218 m219 m220 m221 m222 m223 m224 m225 m226 m227 m228 m229 m230 m231 m232 m233 m234 m235 m236 m237 m238
    refine lv_pop hx hb dL_law_954 rfl ?_
    refine lv_goto (tgt := 1509) hx hb dL_law_955 (by decide) ?_
    exact nx G H243 locsH243 _ _ ls ⟨hTH243, hN, ga, gb, g246, g247, g248, g249, ⟨(by rw [← m262, ← m288]; exact rt), (by rw [← m261, ← m263, ← m289]; exact r1), (by rw [← m261, ← m264, ← m290]; exact r4), (by rw [← m261, ← m265, ← m291]; exact r5), (by rw [← m261, ← m266, ← m292]; exact r10), (by rw [← m261, ← m267, ← m293]; exact r13), (by rw [← m261, ← m268, ← m294]; exact r16)⟩, Or.inr ⟨kq, m272, gkq, (by rw [← m298]; exact h70), (by rw [← m273, ← m299, ← m274]; exact q1), (by rw [← m275, ← m299, ← m276]; exact q4), (by rw [← m277, ← m299, ← m278]; exact q5), (by rw [← m279, ← m299, ← m280]; exact q10), (by rw [← m281, ← m299, ← m282]; exact q13), (by rw [← m283, ← m299, ← m284]; exact q16), (by rw [← m285, ← m299, ← m281]; exact EQR.of hsn (fun j hj => f257 j (by omega)) (fun j hj => f260 _) (by omega)), (by rw [← m286, ← m299, ← m283]; exact EQR.of hsl (fun j hj => f258 j (by omega)) (fun j hj => f260 _) (by omega)), (by rw [← m287, ← m299, ← m283]; exact EQR.of hsk (fun j hj => f259 j (by omega)) (fun j hj => f260 _) (by omega))⟩, ⟨(by rw [← m261, ← m269, ← m295, ← m293]; exact EQR.of hrn (fun j hj => f251 j (by omega)) (fun j hj => f252 j (by omega)) (by omega)), (by rw [← m261, ← m270, ← m296, ← m294]; exact EQR.of hrl (fun j hj => f253 j (by omega)) (fun j hj => f254 j (by omega)) (by omega)), (by rw [← m261, ← m271, ← m297, ← m294]; exact EQR.of hrk (fun j hj => f255 j (by omega)) (fun j hj => f256 j (by omega)) (by omega))⟩, hSH243⟩ hl ⟨hc, hs, fun h => by have h1 := h.symm.trans m272; cases h1⟩
set_option maxRecDepth 100000 in
set_option maxHeartbeats 8000000 in
theorem lw_c20 {p : Program} {l : Launch} {e : Env} {s : State} {m : MethodId} {below : List Frame} {meth : Method} {c : Code} {K : KE} {b0 L : Nat} {xs : Nat → Int32} {G : Nat → Option Nat} {H : Heap} {locs : List Loc} {a b : Nat} {cells slots : Nat} {ls : Array Slot} {i : Int32} {n : Nat} (D : LC p K s m meth c b0 L xs) (S : SX K s G H locs a b) (hl : lv_has ls 4 [(3, .int i), (2, .ref b), (1, .ref a), (0, .ref b0)]) (hi : 0 ≤ i.toInt ∧ i.toInt + 6 ≤ L) (hn : n ≤ 511) (hB : BD K H a cells slots) (nx : ∀ (G : Nat → Option Nat) (H : Heap) (locs : List Loc) (cells slots : Nat) (ls : Array Slot), SX K s G H locs a b → lv_has ls 4 [(3, .int i), (2, .ref b), (1, .ref a), (0, .ref b0)] → BD K H a cells slots → W p l e room_1 s m #[Value.ref b0] below meth c H locs cells slots (lw_Z below #[Value.ref b0] s) (F0 m 1509 ls [])) : W p l e room_1 s m #[Value.ref b0] below meth c H locs cells slots (lw_Z below #[Value.ref b0] s) (F0 m 958 ls []) := by
  have hI := hi
  obtain ⟨C, hX, hbl, hL⟩ := id D
  obtain ⟨hx, hb, hml, hown, hts, hKT, hr, hlocks, hnm⟩ := id C
  obtain ⟨hT, hN, ga, gb, cg, tu, wd, im, ⟨rt, r1, r4, r5, r10, r13, r16⟩, hk, hnb, hS⟩ := S
  obtain ⟨hc, hs, hB0⟩ := hB
  have n_1 : (1 : Int32).toInt = 1 := rfl
  have n_2 : (2 : Int32).toInt = 2 := rfl
  have n_3 : (3 : Int32).toInt = 3 := rfl
  have n_4 : (4 : Int32).toInt = 4 := rfl
  obtain ⟨w, ew⟩ : ∃ z : Nat, z = fR H a (K.1.2 9 0) := ⟨_, rfl⟩
  have gw := ty_fr (q := w) (k := 0) (u := 0) ew hT ga rg_68 rfl
  rw [← ew] at r1 r4 r5 r10 r13 r16
  obtain ⟨ta, eta⟩ : ∃ z : Int32, z = fI H a (K.1.2 9 3) := ⟨_, rfl⟩
  rw [← eta] at rt
  obtain ⟨tb, etb⟩ : ∃ z : Int32, z = fI H b (K.1.2 10 18) := ⟨_, rfl⟩
  rw [← etb] at rt
  obtain ⟨s1, es1⟩ : ∃ z : Int32, z = fI H w (K.1.2 8 1) := ⟨_, rfl⟩
  rw [← es1] at r1
  obtain ⟨y1, ey1⟩ : ∃ z : Int32, z = fI H b (K.1.2 10 1) := ⟨_, rfl⟩
  rw [← ey1] at r1
  obtain ⟨s4, es4⟩ : ∃ z : Int32, z = fI H w (K.1.2 8 4) := ⟨_, rfl⟩
  rw [← es4] at r4
  obtain ⟨y4, ey4⟩ : ∃ z : Int32, z = fI H b (K.1.2 10 2) := ⟨_, rfl⟩
  rw [← ey4] at r4
  obtain ⟨s5, es5⟩ : ∃ z : Int32, z = fI H w (K.1.2 8 5) := ⟨_, rfl⟩
  rw [← es5] at r5
  obtain ⟨y5, ey5⟩ : ∃ z : Int32, z = fI H b (K.1.2 10 3) := ⟨_, rfl⟩
  rw [← ey5] at r5
  obtain ⟨s10, es10⟩ : ∃ z : Int32, z = fI H w (K.1.2 8 10) := ⟨_, rfl⟩
  rw [← es10] at r10
  obtain ⟨y10, ey10⟩ : ∃ z : Int32, z = fI H b (K.1.2 10 59) := ⟨_, rfl⟩
  rw [← ey10] at r10
  obtain ⟨s13, es13⟩ : ∃ z : Int32, z = fI H w (K.1.2 8 13) := ⟨_, rfl⟩
  rw [← es13] at r13
  obtain ⟨y13, ey13⟩ : ∃ z : Int32, z = fI H b (K.1.2 10 62) := ⟨_, rfl⟩
  rw [← ey13] at r13
  obtain ⟨s16, es16⟩ : ∃ z : Int32, z = fI H w (K.1.2 8 16) := ⟨_, rfl⟩
  rw [← es16] at r16
  obtain ⟨y16, ey16⟩ : ∃ z : Int32, z = fI H b (K.1.2 10 65) := ⟨_, rfl⟩
  rw [← ey16] at r16
  obtain ⟨hb1, hb2, hb3⟩ := hnb
  obtain ⟨cn, ecn⟩ : ∃ z : Nat, z = fR H w (K.1.2 8 12) := ⟨_, rfl⟩
  have gcn := ty_fr (q := cn) (k := 12) (u := 31) ecn hT gw rg_0 rfl
  obtain ⟨xn, exn⟩ : ∃ z : Nat, z = fR H b (K.1.2 10 64) := ⟨_, rfl⟩
  have gxn := ty_fr (q := xn) (k := 64) (u := 157) exn hT gb rg_112 rfl
  obtain ⟨cl, ecl⟩ : ∃ z : Nat, z = fR H w (K.1.2 8 14) := ⟨_, rfl⟩
  have gcl := ty_fr (q := cl) (k := 14) (u := 32) ecl hT gw rg_0 rfl
  obtain ⟨xl, exl⟩ : ∃ z : Nat, z = fR H b (K.1.2 10 66) := ⟨_, rfl⟩
  have gxl := ty_fr (q := xl) (k := 66) (u := 158) exl hT gb rg_112 rfl
  obtain ⟨ck, eck⟩ : ∃ z : Nat, z = fR H w (K.1.2 8 15) := ⟨_, rfl⟩
  have gck := ty_fr (q := ck) (k := 15) (u := 33) eck hT gw rg_0 rfl
  obtain ⟨xk, exk⟩ : ∃ z : Nat, z = fR H b (K.1.2 10 67) := ⟨_, rfl⟩
  have gxk := ty_fr (q := xk) (k := 67) (u := 159) exk hT gb rg_112 rfl
  have hrn : EQR (fun j => fI H cn j) (fun j => fI H xn j) y13.toInt := by rw [ecn, exn, ew, ey13]; exact hb1
  have hrl : EQR (fun j => fI H cl j) (fun j => fI H xl j) y16.toInt := by rw [ecl, exl, ew, ey16]; exact hb2
  have hrk : EQR (fun j => fI H ck j) (fun j => fI H xk j) y16.toInt := by rw [eck, exk, ew, ey16]; exact hb3
  have by13 := ty_fi (x := y13) (k := 62) ey13 hT gb rg_112 rfl
  have by16 := ty_fi (x := y16) (k := 65) ey16 hT gb rg_112 rfl
  have f0cn : ∀ j : Nat, j < 8 → fI H cn j = fI H cn j := fun _ _ => rfl
  have f0xn : ∀ j : Nat, j < 8 → fI H xn j = fI H xn j := fun _ _ => rfl
  have f0cl : ∀ j : Nat, j < 8 → fI H cl j = fI H cl j := fun _ _ => rfl
  have f0xl : ∀ j : Nat, j < 8 → fI H xl j = fI H xl j := fun _ _ => rfl
  have f0ck : ∀ j : Nat, j < 8 → fI H ck j = fI H ck j := fun _ _ => rfl
  have f0xk : ∀ j : Nat, j < 8 → fI H xk j = fI H xk j := fun _ _ => rfl
  rcases hk with ⟨kn, h70⟩ | ⟨kq, kn, gkq, h70, q1, q4, q5, q10, q13, q16, hq1, hq2, hq3⟩
  · skip
    obtain ⟨hi, ehi⟩ : ∃ z : Int32, z = fI H b (K.1.2 10 70) := ⟨_, rfl⟩
    rw [← ehi] at h70
    obtain ⟨hc0, hs0⟩ := hB0 kn
    refine lv_aload_n hx hb dL_law_958 rfl (lv_at hl 2 rfl) ?_
    refine lv_aload_n hx hb dL_law_959 rfl (lv_at hl 3 rfl) ?_
    refine lv_iload_n hx hb dL_law_960 rfl (lv_at hl 0 rfl) ?_
    refine lv_iconst (v := 1) hx hb dL_law_961 (by decide) ?_
    refine lv_iadd hx hb dL_law_962 ?_
    refine lv_topi (fun x101 ex101 => ?_)
    obtain ⟨tx101, ejx101, evx101⟩ := lw_ix (k := 1) ex101 hI hL rfl (by decide)
    clear tx101
    refine va_sld hx hb hX hbl (Nat.not_le.mpr hbl) hS (vp_in_iff.mpr evx101) dL_law_963 ?_
    refine W.eq (g2 := F0 m 964 ls [.int (xs (i.toNatClampNeg + 1)), .ref a]) (congrArg (fun z => F0 m 964 ls [.int (xs z), .ref a]) ejx101) ?_
    refine lv_aload_n hx hb dL_law_964 rfl (lv_at hl 3 rfl) ?_
    refine lv_iload_n hx hb dL_law_965 rfl (lv_at hl 0 rfl) ?_
    refine lv_iconst (v := 2) hx hb dL_law_966 (by decide) ?_
    refine lv_iadd hx hb dL_law_967 ?_
    refine lv_topi (fun x102 ex102 => ?_)
    obtain ⟨tx102, ejx102, evx102⟩ := lw_ix (k := 2) ex102 hI hL rfl (by decide)
    clear tx102
    refine va_sld hx hb hX hbl (Nat.not_le.mpr hbl) hS (vp_in_iff.mpr evx102) dL_law_968 ?_
    refine W.eq (g2 := F0 m 969 ls [.int (xs (i.toNatClampNeg + 2)), .int (xs (i.toNatClampNeg + 1)), .ref a]) (congrArg (fun z => F0 m 969 ls [.int (xs z), .int (xs (i.toNatClampNeg + 1)), .ref a]) ejx102) ?_
    refine lv_aload_n hx hb dL_law_969 rfl (lv_at hl 3 rfl) ?_
    refine lv_iload_n hx hb dL_law_970 rfl (lv_at hl 0 rfl) ?_
    refine lv_iconst (v := 3) hx hb dL_law_971 (by decide) ?_
    refine lv_iadd hx hb dL_law_972 ?_
    refine lv_topi (fun x103 ex103 => ?_)
    obtain ⟨tx103, ejx103, evx103⟩ := lw_ix (k := 3) ex103 hI hL rfl (by decide)
    clear tx103
    refine va_sld hx hb hX hbl (Nat.not_le.mpr hbl) hS (vp_in_iff.mpr evx103) dL_law_973 ?_
    refine W.eq (g2 := F0 m 974 ls [.int (xs (i.toNatClampNeg + 3)), .int (xs (i.toNatClampNeg + 2)), .int (xs (i.toNatClampNeg + 1)), .ref a]) (congrArg (fun z => F0 m 974 ls [.int (xs z), .int (xs (i.toNatClampNeg + 2)), .int (xs (i.toNatClampNeg + 1)), .ref a]) ejx103) ?_
    refine lv_aload_n hx hb dL_law_974 rfl (lv_at hl 3 rfl) ?_
    refine lv_iload_n hx hb dL_law_975 rfl (lv_at hl 0 rfl) ?_
    refine lv_iconst (v := 4) hx hb dL_law_976 (by decide) ?_
    refine lv_iadd hx hb dL_law_977 ?_
    refine lv_topi (fun x104 ex104 => ?_)
    obtain ⟨tx104, ejx104, evx104⟩ := lw_ix (k := 4) ex104 hI hL rfl (by decide)
    clear tx104
    refine va_sld hx hb hX hbl (Nat.not_le.mpr hbl) hS (vp_in_iff.mpr evx104) dL_law_978 ?_
    refine W.eq (g2 := F0 m 979 ls [.int (xs (i.toNatClampNeg + 4)), .int (xs (i.toNatClampNeg + 3)), .int (xs (i.toNatClampNeg + 2)), .int (xs (i.toNatClampNeg + 1)), .ref a]) (congrArg (fun z => F0 m 979 ls [.int (xs z), .int (xs (i.toNatClampNeg + 3)), .int (xs (i.toNatClampNeg + 2)), .int (xs (i.toNatClampNeg + 1)), .ref a]) ejx104) ?_
    refine x_V (As := [.int (xs (i.toNatClampNeg + 1)), .int (xs (i.toNatClampNeg + 2)), .int (xs (i.toNatClampNeg + 3)), .int (xs (i.toNatClampNeg + 4))]) (rest := []) C (a_X9_fits l K G H ((xs (i.toNatClampNeg + 1))) ((xs (i.toNatClampNeg + 2))) ((xs (i.toNatClampNeg + 3))) ((xs (i.toNatClampNeg + 4))) hT ga) yo_X9_fits wM_L_100 ⟨⟨by decide, by decide⟩, show _ ≤ 284929 from Nat.le_trans hc (by decide), show _ ≤ 8247460 from Nat.le_trans hs (by decide)⟩ (x_rv C hT (ci := 9) rfl ga rg_68) rfl hl.1 rfl (Nat.le_of_ble_eq_true rfl) dL_law_979 hS (AE_new hN hS.1) (fun vH105 H105 locsH105 pH105 zH105 kH105 hSH105 => ?_)
    obtain ⟨x106, hvH105, hTH105⟩ := pH105
    subst hvH105
    have g107 : CG (avw K H105 b) := CG.congr (fun k hk j => av_eff hT kH105 gb (by decide) (CG_eff [98, 101, 102, 103, 87, 88, 101, 99, 100, 83, 84] (by decide) k hk)) cg
    have g108 : TU (avw K H105 b) (svw K H105 b) := TU.congr (fun k hk j => av_eff hT kH105 gb (by decide) (TU_eff [98, 101, 102, 103, 87, 88, 101, 99, 100, 83, 84] (by decide) k hk)) (fun k hk => sv_eff hT kH105 gb (by decide)) tu
    have g109 : WD (avw K H105 b) := WD.congr (fun k hk j => av_eff hT kH105 gb (by decide) (WD_eff [98, 101, 102, 103, 87, 88, 101, 99, 100, 83, 84] (by decide) k hk)) wd
    have g110 : IM (avw K H105 b) := IM.congr (fun k hk j => av_eff hT kH105 gb (by decide) (IM_eff [98, 101, 102, 103, 87, 88, 101, 99, 100, 83, 84] (by decide) k hk)) im
    have f111 : ∀ j : Nat, j < 8 → fI H105 cn j = fI H cn j := fun j hj => (fI_kept (x_lt hT kH105 gcn (by decide))).trans (f0cn j hj)
    have f112 : ∀ j : Nat, j < 8 → fI H105 xn j = fI H xn j := fun j hj => (fI_kept (x_lt hT kH105 gxn (by decide))).trans (f0xn j hj)
    have f113 : ∀ j : Nat, j < 8 → fI H105 cl j = fI H cl j := fun j hj => (fI_kept (x_lt hT kH105 gcl (by decide))).trans (f0cl j hj)
    have f114 : ∀ j : Nat, j < 8 → fI H105 xl j = fI H xl j := fun j hj => (fI_kept (x_lt hT kH105 gxl (by decide))).trans (f0xl j hj)
    have f115 : ∀ j : Nat, j < 8 → fI H105 ck j = fI H ck j := fun j hj => (fI_kept (x_lt hT kH105 gck (by decide))).trans (f0ck j hj)
    have f116 : ∀ j : Nat, j < 8 → fI H105 xk j = fI H xk j := fun j hj => (fI_kept (x_lt hT kH105 gxk (by decide))).trans (f0xk j hj)
    have m117 := (ew).trans (fR_kept (x_lt hT kH105 ga (by decide))).symm
    have m118 := (eta).trans (fI_kept (x_lt hT kH105 ga (by decide))).symm
    have m119 := (etb).trans (fI_kept (x_lt hT kH105 gb (by decide))).symm
    have m120 := (es1).trans (fI_kept (x_lt hT kH105 gw (by decide))).symm
    have m121 := (ey1).trans (fI_kept (x_lt hT kH105 gb (by decide))).symm
    have m122 := (es4).trans (fI_kept (x_lt hT kH105 gw (by decide))).symm
    have m123 := (ey4).trans (fI_kept (x_lt hT kH105 gb (by decide))).symm
    have m124 := (es5).trans (fI_kept (x_lt hT kH105 gw (by decide))).symm
    have m125 := (ey5).trans (fI_kept (x_lt hT kH105 gb (by decide))).symm
    have m126 := (es10).trans (fI_kept (x_lt hT kH105 gw (by decide))).symm
    have m127 := (ey10).trans (fI_kept (x_lt hT kH105 gb (by decide))).symm
    have m128 := (es13).trans (fI_kept (x_lt hT kH105 gw (by decide))).symm
    have m129 := (ey13).trans (fI_kept (x_lt hT kH105 gb (by decide))).symm
    have m130 := (es16).trans (fI_kept (x_lt hT kH105 gw (by decide))).symm
    have m131 := (ey16).trans (fI_kept (x_lt hT kH105 gb (by decide))).symm
    have m132 := (ecn).trans (fR_kept (x_lt hT kH105 gw (by decide))).symm
    have m133 := (exn).trans (fR_kept (x_lt hT kH105 gb (by decide))).symm
    have m134 := (ecl).trans (fR_kept (x_lt hT kH105 gw (by decide))).symm
    have m135 := (exl).trans (fR_kept (x_lt hT kH105 gb (by decide))).symm
    have m136 := (eck).trans (fR_kept (x_lt hT kH105 gw (by decide))).symm
    have m137 := (exk).trans (fR_kept (x_lt hT kH105 gb (by decide))).symm
    have m138 := (ehi).trans (fI_kept (x_lt hT kH105 gb (by decide))).symm
    have m139 := (fV_kept (x_lt hT kH105 ga (by decide))).trans kn
    refine W.eq (g2 := F0 m 982 ls [.int x106]) rfl ?_
    clear eck ecl ecn ehi es1 es10 es13 es16 es4 es5 eta etb ew exk exl exn ey1 ey10 ey13 ey16 ey4 ey5 f0ck f0cl f0cn f0xk f0xl f0xn kn
    refine lv_pop hx hb dL_law_982 rfl ?_
    refine lv_aload_n hx hb dL_law_983 rfl (lv_at hl 1 rfl) ?_
    refine lv_aload_n hx hb dL_law_984 rfl (lv_at hl 3 rfl) ?_
    refine lv_iload_n hx hb dL_law_985 rfl (lv_at hl 0 rfl) ?_
    refine lv_iconst (v := 1) hx hb dL_law_986 (by decide) ?_
    refine lv_iadd hx hb dL_law_987 ?_
    refine lv_topi (fun x140 ex140 => ?_)
    obtain ⟨tx140, ejx140, evx140⟩ := lw_ix (k := 1) ex140 hI hL rfl (by decide)
    clear tx140
    refine va_sld hx hb hX hbl (Nat.not_le.mpr hbl) hSH105 (vp_in_iff.mpr evx140) dL_law_988 ?_
    refine W.eq (g2 := F0 m 989 ls [.int (xs (i.toNatClampNeg + 1)), .ref b]) (congrArg (fun z => F0 m 989 ls [.int (xs z), .ref b]) ejx140) ?_
    refine lv_aload_n hx hb dL_law_989 rfl (lv_at hl 3 rfl) ?_
    refine lv_iload_n hx hb dL_law_990 rfl (lv_at hl 0 rfl) ?_
    refine lv_iconst (v := 2) hx hb dL_law_991 (by decide) ?_
    refine lv_iadd hx hb dL_law_992 ?_
    refine lv_topi (fun x141 ex141 => ?_)
    obtain ⟨tx141, ejx141, evx141⟩ := lw_ix (k := 2) ex141 hI hL rfl (by decide)
    clear tx141
    refine va_sld hx hb hX hbl (Nat.not_le.mpr hbl) hSH105 (vp_in_iff.mpr evx141) dL_law_993 ?_
    refine W.eq (g2 := F0 m 994 ls [.int (xs (i.toNatClampNeg + 2)), .int (xs (i.toNatClampNeg + 1)), .ref b]) (congrArg (fun z => F0 m 994 ls [.int (xs z), .int (xs (i.toNatClampNeg + 1)), .ref b]) ejx141) ?_
    refine lv_aload_n hx hb dL_law_994 rfl (lv_at hl 3 rfl) ?_
    refine lv_iload_n hx hb dL_law_995 rfl (lv_at hl 0 rfl) ?_
    refine lv_iconst (v := 3) hx hb dL_law_996 (by decide) ?_
    refine lv_iadd hx hb dL_law_997 ?_
    refine lv_topi (fun x142 ex142 => ?_)
    obtain ⟨tx142, ejx142, evx142⟩ := lw_ix (k := 3) ex142 hI hL rfl (by decide)
    clear tx142
    refine va_sld hx hb hX hbl (Nat.not_le.mpr hbl) hSH105 (vp_in_iff.mpr evx142) dL_law_998 ?_
    refine W.eq (g2 := F0 m 999 ls [.int (xs (i.toNatClampNeg + 3)), .int (xs (i.toNatClampNeg + 2)), .int (xs (i.toNatClampNeg + 1)), .ref b]) (congrArg (fun z => F0 m 999 ls [.int (xs z), .int (xs (i.toNatClampNeg + 2)), .int (xs (i.toNatClampNeg + 1)), .ref b]) ejx142) ?_
    refine lv_aload_n hx hb dL_law_999 rfl (lv_at hl 3 rfl) ?_
    refine lv_iload_n hx hb dL_law_1000 rfl (lv_at hl 0 rfl) ?_
    refine lv_iconst (v := 4) hx hb dL_law_1001 (by decide) ?_
    refine lv_iadd hx hb dL_law_1002 ?_
    refine lv_topi (fun x143 ex143 => ?_)
    obtain ⟨tx143, ejx143, evx143⟩ := lw_ix (k := 4) ex143 hI hL rfl (by decide)
    clear tx143
    refine va_sld hx hb hX hbl (Nat.not_le.mpr hbl) hSH105 (vp_in_iff.mpr evx143) dL_law_1003 ?_
    refine W.eq (g2 := F0 m 1004 ls [.int (xs (i.toNatClampNeg + 4)), .int (xs (i.toNatClampNeg + 3)), .int (xs (i.toNatClampNeg + 2)), .int (xs (i.toNatClampNeg + 1)), .ref b]) (congrArg (fun z => F0 m 1004 ls [.int (xs z), .int (xs (i.toNatClampNeg + 3)), .int (xs (i.toNatClampNeg + 2)), .int (xs (i.toNatClampNeg + 1)), .ref b]) ejx143) ?_
    obtain ⟨q144, eq144⟩ : ∃ z : Nat, z = fR H105 b (K.1.2 10 4) := ⟨_, rfl⟩
    have gq144 := ty_fr (q := q144) (k := 4) (u := 113) eq144 hTH105 gb rg_112 rfl
    refine x_V (As := [.int (xs (i.toNatClampNeg + 1)), .int (xs (i.toNatClampNeg + 2)), .int (xs (i.toNatClampNeg + 3)), .int (xs (i.toNatClampNeg + 4))]) (rest := []) C (a_X10_fits l K G H105 ((xs (i.toNatClampNeg + 1))) ((xs (i.toNatClampNeg + 2))) ((xs (i.toNatClampNeg + 3))) ((xs (i.toNatClampNeg + 4))) hTH105 gb gq144 eq144 g107 g108 g109 g110) yo_X10_fits wM_L_104 ⟨⟨by decide, by decide⟩, show _ ≤ 284929 from Nat.le_trans hc (by decide), show _ ≤ 8247460 from Nat.le_trans hs (by decide)⟩ (x_rv C hTH105 (ci := 10) rfl gb rg_112) rfl hl.1 rfl (Nat.le_of_ble_eq_true rfl) dL_law_1004 hSH105 (AE_new hN hSH105.1) (fun vH145 H145 locsH145 pH145 zH145 kH145 hSH145 => ?_)
    obtain ⟨x146, hvH145, m147, g148, g149, g150, g151, mf152, hTH145⟩ := pH145
    subst hvH145
    have f153 : ∀ j : Nat, j < 8 → fI H145 cn j = fI H cn j := fun j hj => (fI_kept (x_lt hTH105 kH145 gcn (by decide))).trans (f111 j hj)
    have f154 : ∀ j : Nat, j < 8 → fI H145 xn j = fI H xn j := fun j hj => (fI_kept (x_lt hTH105 kH145 gxn (by decide))).trans (f112 j hj)
    have f155 : ∀ j : Nat, j < 8 → fI H145 cl j = fI H cl j := fun j hj => (fI_kept (x_lt hTH105 kH145 gcl (by decide))).trans (f113 j hj)
    have f156 : ∀ j : Nat, j < 8 → fI H145 xl j = fI H xl j := fun j hj => (fI_kept (x_lt hTH105 kH145 gxl (by decide))).trans (f114 j hj)
    have f157 : ∀ j : Nat, j < 8 → fI H145 ck j = fI H ck j := fun j hj => (fI_kept (x_lt hTH105 kH145 gck (by decide))).trans (f115 j hj)
    have f158 : ∀ j : Nat, j < 8 → fI H145 xk j = fI H xk j := fun j hj => (fI_kept (x_lt hTH105 kH145 gxk (by decide))).trans (f116 j hj)
    have m159 := (m117).trans (fR_kept (x_lt hTH105 kH145 ga (by decide))).symm
    have m160 := (m118).trans (fI_kept (x_lt hTH105 kH145 ga (by decide))).symm
    have m161 := (m120).trans (fI_kept (x_lt hTH105 kH145 gw (by decide))).symm
    have m162 := (m122).trans (fI_kept (x_lt hTH105 kH145 gw (by decide))).symm
    have m163 := (m124).trans (fI_kept (x_lt hTH105 kH145 gw (by decide))).symm
    have m164 := (m126).trans (fI_kept (x_lt hTH105 kH145 gw (by decide))).symm
    have m165 := (m128).trans (fI_kept (x_lt hTH105 kH145 gw (by decide))).symm
    have m166 := (m130).trans (fI_kept (x_lt hTH105 kH145 gw (by decide))).symm
    have m167 := (m132).trans (fR_kept (x_lt hTH105 kH145 gw (by decide))).symm
    have m168 := (m134).trans (fR_kept (x_lt hTH105 kH145 gw (by decide))).symm
    have m169 := (m136).trans (fR_kept (x_lt hTH105 kH145 gw (by decide))).symm
    have m170 := (fV_kept (x_lt hTH105 kH145 ga (by decide))).trans m139
    have m171 := (m119).trans (MF.i mf152 (k := 18) (by decide) (by decide)).symm
    have m172 := (m121).trans (MF.i mf152 (k := 1) (by decide) (by decide)).symm
    have m173 := (m123).trans (MF.i mf152 (k := 2) (by decide) (by decide)).symm
    have m174 := (m125).trans (MF.i mf152 (k := 3) (by decide) (by decide)).symm
    have m175 := (m127).trans (MF.i mf152 (k := 59) (by decide) (by decide)).symm
    have m176 := (m129).trans (MF.i mf152 (k := 62) (by decide) (by decide)).symm
    have m177 := (m131).trans (MF.i mf152 (k := 65) (by decide) (by decide)).symm
    have m178 := (m133).trans (MF.r mf152 (k := 64) (by decide) (by decide)).symm
    have m179 := (m135).trans (MF.r mf152 (k := 66) (by decide) (by decide)).symm
    have m180 := (m137).trans (MF.r mf152 (k := 67) (by decide) (by decide)).symm
    have m181 := (m138).trans (MF.i mf152 (k := 70) (by decide) (by decide)).symm
    have m182 := (eq144).trans (MF.r mf152 (k := 4) (by decide) (by decide)).symm
    refine W.eq (g2 := F0 m 1007 ls [.int x146]) rfl ?_
    clear f111 f112 f113 f114 f115 f116 m117 m118 m119 m120 m121 m122 m123 m124 m125 m126 m127 m128 m129 m130 m131 m132 m133 m134 m135 m136 m137 m138 m139
    refine lv_pop hx hb dL_law_1007 rfl ?_
    refine lv_goto (tgt := 1509) hx hb dL_law_1008 (by decide) ?_
    exact nx G H145 locsH145 _ _ ls ⟨hTH145, hN, ga, gb, g148, g149, g150, g151, ⟨(by rw [← m160, ← m171]; exact rt), (by rw [← m159, ← m161, ← m172]; exact r1), (by rw [← m159, ← m162, ← m173]; exact r4), (by rw [← m159, ← m163, ← m174]; exact r5), (by rw [← m159, ← m164, ← m175]; exact r10), (by rw [← m159, ← m165, ← m176]; exact r13), (by rw [← m159, ← m166, ← m177]; exact r16)⟩, Or.inl ⟨m170, (by rw [← m181]; exact h70)⟩, ⟨(by rw [← m159, ← m167, ← m178, ← m176]; exact EQR.of hrn (fun j hj => f153 j (by omega)) (fun j hj => f154 j (by omega)) (by omega)), (by rw [← m159, ← m168, ← m179, ← m177]; exact EQR.of hrl (fun j hj => f155 j (by omega)) (fun j hj => f156 j (by omega)) (by omega)), (by rw [← m159, ← m169, ← m180, ← m177]; exact EQR.of hrk (fun j hj => f157 j (by omega)) (fun j hj => f158 j (by omega)) (by omega))⟩, hSH145⟩ hl ⟨hc, hs, fun _ => ⟨hc0, hs0⟩⟩
  · skip
    obtain ⟨hi, ehi⟩ : ∃ z : Int32, z = fI H b (K.1.2 10 70) := ⟨_, rfl⟩
    rw [← ehi] at h70
    obtain ⟨iq, eiq⟩ : ∃ z : Nat, z = fR H b (K.1.2 10 73) := ⟨_, rfl⟩
    have giq := ty_fr (q := iq) (k := 73) (u := 162) eiq hT gb rg_112 rfl
    rw [← eiq] at q1 q4 q5 q10 q13 q16
    obtain ⟨k1, ek1⟩ : ∃ z : Int32, z = fI H kq (K.1.2 8 1) := ⟨_, rfl⟩
    rw [← ek1] at q1
    obtain ⟨i1, ei1⟩ : ∃ z : Int32, z = fI H iq ((0 : Int32).toNatClampNeg) := ⟨_, rfl⟩
    rw [← ei1] at q1
    obtain ⟨k4, ek4⟩ : ∃ z : Int32, z = fI H kq (K.1.2 8 4) := ⟨_, rfl⟩
    rw [← ek4] at q4
    obtain ⟨i4, ei4⟩ : ∃ z : Int32, z = fI H iq ((1 : Int32).toNatClampNeg) := ⟨_, rfl⟩
    rw [← ei4] at q4
    obtain ⟨k5, ek5⟩ : ∃ z : Int32, z = fI H kq (K.1.2 8 5) := ⟨_, rfl⟩
    rw [← ek5] at q5
    obtain ⟨i5, ei5⟩ : ∃ z : Int32, z = fI H iq ((2 : Int32).toNatClampNeg) := ⟨_, rfl⟩
    rw [← ei5] at q5
    obtain ⟨k10, ek10⟩ : ∃ z : Int32, z = fI H kq (K.1.2 8 10) := ⟨_, rfl⟩
    rw [← ek10] at q10
    obtain ⟨i10, ei10⟩ : ∃ z : Int32, z = fI H iq ((3 : Int32).toNatClampNeg) := ⟨_, rfl⟩
    rw [← ei10] at q10
    obtain ⟨k13, ek13⟩ : ∃ z : Int32, z = fI H kq (K.1.2 8 13) := ⟨_, rfl⟩
    rw [← ek13] at q13
    obtain ⟨i13, ei13⟩ : ∃ z : Int32, z = fI H iq ((4 : Int32).toNatClampNeg) := ⟨_, rfl⟩
    rw [← ei13] at q13
    obtain ⟨k16, ek16⟩ : ∃ z : Int32, z = fI H kq (K.1.2 8 16) := ⟨_, rfl⟩
    rw [← ek16] at q16
    obtain ⟨i16, ei16⟩ : ∃ z : Int32, z = fI H iq ((5 : Int32).toNatClampNeg) := ⟨_, rfl⟩
    rw [← ei16] at q16
    obtain ⟨dn, edn⟩ : ∃ z : Nat, z = fR H kq (K.1.2 8 12) := ⟨_, rfl⟩
    have gdn := ty_fr (q := dn) (k := 12) (u := 65) edn hT gkq rg_34 rfl
    obtain ⟨dl, edl⟩ : ∃ z : Nat, z = fR H kq (K.1.2 8 14) := ⟨_, rfl⟩
    have gdl := ty_fr (q := dl) (k := 14) (u := 66) edl hT gkq rg_34 rfl
    obtain ⟨dk, edk⟩ : ∃ z : Nat, z = fR H kq (K.1.2 8 15) := ⟨_, rfl⟩
    have gdk := ty_fr (q := dk) (k := 15) (u := 67) edk hT gkq rg_34 rfl
    have hsn : EQR (fun j => fI H dn j) (fun j => fI H iq (8877 + 4 * j)) k13.toInt := by rw [edn, eiq, ek13]; exact hq1
    have hsl : EQR (fun j => fI H dl j) (fun j => fI H iq (8878 + 4 * j)) k16.toInt := by rw [edl, eiq, ek16]; exact hq2
    have hsk : EQR (fun j => fI H dk j) (fun j => fI H iq (8879 + 4 * j)) k16.toInt := by rw [edk, eiq, ek16]; exact hq3
    have bk13 := ty_fi (x := k13) (k := 13) ek13 hT gkq rg_34 rfl
    have bk16 := ty_fi (x := k16) (k := 16) ek16 hT gkq rg_34 rfl
    have f0dn : ∀ j : Nat, j < 8 → fI H dn j = fI H dn j := fun _ _ => rfl
    have f0dl : ∀ j : Nat, j < 8 → fI H dl j = fI H dl j := fun _ _ => rfl
    have f0dk : ∀ j : Nat, j < 8 → fI H dk j = fI H dk j := fun _ _ => rfl
    have f0i : ∀ j : Nat, fI H iq j = fI H iq j := fun _ => rfl
    refine lv_aload_n hx hb dL_law_958 rfl (lv_at hl 2 rfl) ?_
    refine lv_aload_n hx hb dL_law_959 rfl (lv_at hl 3 rfl) ?_
    refine lv_iload_n hx hb dL_law_960 rfl (lv_at hl 0 rfl) ?_
    refine lv_iconst (v := 1) hx hb dL_law_961 (by decide) ?_
    refine lv_iadd hx hb dL_law_962 ?_
    refine lv_topi (fun x183 ex183 => ?_)
    obtain ⟨tx183, ejx183, evx183⟩ := lw_ix (k := 1) ex183 hI hL rfl (by decide)
    clear tx183
    refine va_sld hx hb hX hbl (Nat.not_le.mpr hbl) hS (vp_in_iff.mpr evx183) dL_law_963 ?_
    refine W.eq (g2 := F0 m 964 ls [.int (xs (i.toNatClampNeg + 1)), .ref a]) (congrArg (fun z => F0 m 964 ls [.int (xs z), .ref a]) ejx183) ?_
    refine lv_aload_n hx hb dL_law_964 rfl (lv_at hl 3 rfl) ?_
    refine lv_iload_n hx hb dL_law_965 rfl (lv_at hl 0 rfl) ?_
    refine lv_iconst (v := 2) hx hb dL_law_966 (by decide) ?_
    refine lv_iadd hx hb dL_law_967 ?_
    refine lv_topi (fun x184 ex184 => ?_)
    obtain ⟨tx184, ejx184, evx184⟩ := lw_ix (k := 2) ex184 hI hL rfl (by decide)
    clear tx184
    refine va_sld hx hb hX hbl (Nat.not_le.mpr hbl) hS (vp_in_iff.mpr evx184) dL_law_968 ?_
    refine W.eq (g2 := F0 m 969 ls [.int (xs (i.toNatClampNeg + 2)), .int (xs (i.toNatClampNeg + 1)), .ref a]) (congrArg (fun z => F0 m 969 ls [.int (xs z), .int (xs (i.toNatClampNeg + 1)), .ref a]) ejx184) ?_
    refine lv_aload_n hx hb dL_law_969 rfl (lv_at hl 3 rfl) ?_
    refine lv_iload_n hx hb dL_law_970 rfl (lv_at hl 0 rfl) ?_
    refine lv_iconst (v := 3) hx hb dL_law_971 (by decide) ?_
    refine lv_iadd hx hb dL_law_972 ?_
    refine lv_topi (fun x185 ex185 => ?_)
    obtain ⟨tx185, ejx185, evx185⟩ := lw_ix (k := 3) ex185 hI hL rfl (by decide)
    clear tx185
    refine va_sld hx hb hX hbl (Nat.not_le.mpr hbl) hS (vp_in_iff.mpr evx185) dL_law_973 ?_
    refine W.eq (g2 := F0 m 974 ls [.int (xs (i.toNatClampNeg + 3)), .int (xs (i.toNatClampNeg + 2)), .int (xs (i.toNatClampNeg + 1)), .ref a]) (congrArg (fun z => F0 m 974 ls [.int (xs z), .int (xs (i.toNatClampNeg + 2)), .int (xs (i.toNatClampNeg + 1)), .ref a]) ejx185) ?_
    refine lv_aload_n hx hb dL_law_974 rfl (lv_at hl 3 rfl) ?_
    refine lv_iload_n hx hb dL_law_975 rfl (lv_at hl 0 rfl) ?_
    refine lv_iconst (v := 4) hx hb dL_law_976 (by decide) ?_
    refine lv_iadd hx hb dL_law_977 ?_
    refine lv_topi (fun x186 ex186 => ?_)
    obtain ⟨tx186, ejx186, evx186⟩ := lw_ix (k := 4) ex186 hI hL rfl (by decide)
    clear tx186
    refine va_sld hx hb hX hbl (Nat.not_le.mpr hbl) hS (vp_in_iff.mpr evx186) dL_law_978 ?_
    refine W.eq (g2 := F0 m 979 ls [.int (xs (i.toNatClampNeg + 4)), .int (xs (i.toNatClampNeg + 3)), .int (xs (i.toNatClampNeg + 2)), .int (xs (i.toNatClampNeg + 1)), .ref a]) (congrArg (fun z => F0 m 979 ls [.int (xs z), .int (xs (i.toNatClampNeg + 3)), .int (xs (i.toNatClampNeg + 2)), .int (xs (i.toNatClampNeg + 1)), .ref a]) ejx186) ?_
    refine x_V (As := [.int (xs (i.toNatClampNeg + 1)), .int (xs (i.toNatClampNeg + 2)), .int (xs (i.toNatClampNeg + 3)), .int (xs (i.toNatClampNeg + 4))]) (rest := []) C (a_X9_fits l K G H ((xs (i.toNatClampNeg + 1))) ((xs (i.toNatClampNeg + 2))) ((xs (i.toNatClampNeg + 3))) ((xs (i.toNatClampNeg + 4))) hT ga) yo_X9_fits wM_L_100 ⟨⟨by decide, by decide⟩, show _ ≤ 284929 from Nat.le_trans hc (by decide), show _ ≤ 8247460 from Nat.le_trans hs (by decide)⟩ (x_rv C hT (ci := 9) rfl ga rg_68) rfl hl.1 rfl (Nat.le_of_ble_eq_true rfl) dL_law_979 hS (AE_new hN hS.1) (fun vH187 H187 locsH187 pH187 zH187 kH187 hSH187 => ?_)
    obtain ⟨x188, hvH187, hTH187⟩ := pH187
    subst hvH187
    have g189 : CG (avw K H187 b) := CG.congr (fun k hk j => av_eff hT kH187 gb (by decide) (CG_eff [98, 101, 102, 103, 87, 88, 101, 99, 100, 83, 84] (by decide) k hk)) cg
    have g190 : TU (avw K H187 b) (svw K H187 b) := TU.congr (fun k hk j => av_eff hT kH187 gb (by decide) (TU_eff [98, 101, 102, 103, 87, 88, 101, 99, 100, 83, 84] (by decide) k hk)) (fun k hk => sv_eff hT kH187 gb (by decide)) tu
    have g191 : WD (avw K H187 b) := WD.congr (fun k hk j => av_eff hT kH187 gb (by decide) (WD_eff [98, 101, 102, 103, 87, 88, 101, 99, 100, 83, 84] (by decide) k hk)) wd
    have g192 : IM (avw K H187 b) := IM.congr (fun k hk j => av_eff hT kH187 gb (by decide) (IM_eff [98, 101, 102, 103, 87, 88, 101, 99, 100, 83, 84] (by decide) k hk)) im
    have f193 : ∀ j : Nat, j < 8 → fI H187 cn j = fI H cn j := fun j hj => (fI_kept (x_lt hT kH187 gcn (by decide))).trans (f0cn j hj)
    have f194 : ∀ j : Nat, j < 8 → fI H187 xn j = fI H xn j := fun j hj => (fI_kept (x_lt hT kH187 gxn (by decide))).trans (f0xn j hj)
    have f195 : ∀ j : Nat, j < 8 → fI H187 cl j = fI H cl j := fun j hj => (fI_kept (x_lt hT kH187 gcl (by decide))).trans (f0cl j hj)
    have f196 : ∀ j : Nat, j < 8 → fI H187 xl j = fI H xl j := fun j hj => (fI_kept (x_lt hT kH187 gxl (by decide))).trans (f0xl j hj)
    have f197 : ∀ j : Nat, j < 8 → fI H187 ck j = fI H ck j := fun j hj => (fI_kept (x_lt hT kH187 gck (by decide))).trans (f0ck j hj)
    have f198 : ∀ j : Nat, j < 8 → fI H187 xk j = fI H xk j := fun j hj => (fI_kept (x_lt hT kH187 gxk (by decide))).trans (f0xk j hj)
    have f199 : ∀ j : Nat, j < 8 → fI H187 dn j = fI H dn j := fun j hj => (fI_kept (x_lt hT kH187 gdn (by decide))).trans (f0dn j hj)
    have f200 : ∀ j : Nat, j < 8 → fI H187 dl j = fI H dl j := fun j hj => (fI_kept (x_lt hT kH187 gdl (by decide))).trans (f0dl j hj)
    have f201 : ∀ j : Nat, j < 8 → fI H187 dk j = fI H dk j := fun j hj => (fI_kept (x_lt hT kH187 gdk (by decide))).trans (f0dk j hj)
    have f202 : ∀ j : Nat, fI H187 iq j = fI H iq j := fun j => (fI_kept (x_lt hT kH187 giq (by decide))).trans (f0i j)
    have m203 := (ew).trans (fR_kept (x_lt hT kH187 ga (by decide))).symm
    have m204 := (eta).trans (fI_kept (x_lt hT kH187 ga (by decide))).symm
    have m205 := (etb).trans (fI_kept (x_lt hT kH187 gb (by decide))).symm
    have m206 := (es1).trans (fI_kept (x_lt hT kH187 gw (by decide))).symm
    have m207 := (ey1).trans (fI_kept (x_lt hT kH187 gb (by decide))).symm
    have m208 := (es4).trans (fI_kept (x_lt hT kH187 gw (by decide))).symm
    have m209 := (ey4).trans (fI_kept (x_lt hT kH187 gb (by decide))).symm
    have m210 := (es5).trans (fI_kept (x_lt hT kH187 gw (by decide))).symm
    have m211 := (ey5).trans (fI_kept (x_lt hT kH187 gb (by decide))).symm
    have m212 := (es10).trans (fI_kept (x_lt hT kH187 gw (by decide))).symm
    have m213 := (ey10).trans (fI_kept (x_lt hT kH187 gb (by decide))).symm
    have m214 := (es13).trans (fI_kept (x_lt hT kH187 gw (by decide))).symm
    have m215 := (ey13).trans (fI_kept (x_lt hT kH187 gb (by decide))).symm
    have m216 := (es16).trans (fI_kept (x_lt hT kH187 gw (by decide))).symm
    have m217 := (ey16).trans (fI_kept (x_lt hT kH187 gb (by decide))).symm
    have m218 := (ecn).trans (fR_kept (x_lt hT kH187 gw (by decide))).symm
    have m219 := (exn).trans (fR_kept (x_lt hT kH187 gb (by decide))).symm
    have m220 := (ecl).trans (fR_kept (x_lt hT kH187 gw (by decide))).symm
    have m221 := (exl).trans (fR_kept (x_lt hT kH187 gb (by decide))).symm
    have m222 := (eck).trans (fR_kept (x_lt hT kH187 gw (by decide))).symm
    have m223 := (exk).trans (fR_kept (x_lt hT kH187 gb (by decide))).symm
    have m224 := (ehi).trans (fI_kept (x_lt hT kH187 gb (by decide))).symm
    have m225 := (fV_kept (x_lt hT kH187 ga (by decide))).trans kn
    have m226 := (eiq).trans (fR_kept (x_lt hT kH187 gb (by decide))).symm
    have m227 := (ek1).trans (fI_kept (x_lt hT kH187 gkq (by decide))).symm
    have m228 := (ei1).trans (fI_kept (x_lt hT kH187 giq (by decide))).symm
    have m229 := (ek4).trans (fI_kept (x_lt hT kH187 gkq (by decide))).symm
    have m230 := (ei4).trans (fI_kept (x_lt hT kH187 giq (by decide))).symm
    have m231 := (ek5).trans (fI_kept (x_lt hT kH187 gkq (by decide))).symm
    have m232 := (ei5).trans (fI_kept (x_lt hT kH187 giq (by decide))).symm
    have m233 := (ek10).trans (fI_kept (x_lt hT kH187 gkq (by decide))).symm
    have m234 := (ei10).trans (fI_kept (x_lt hT kH187 giq (by decide))).symm
    have m235 := (ek13).trans (fI_kept (x_lt hT kH187 gkq (by decide))).symm
    have m236 := (ei13).trans (fI_kept (x_lt hT kH187 giq (by decide))).symm
    have m237 := (ek16).trans (fI_kept (x_lt hT kH187 gkq (by decide))).symm
    have m238 := (ei16).trans (fI_kept (x_lt hT kH187 giq (by decide))).symm
    have m239 := (edn).trans (fR_kept (x_lt hT kH187 gkq (by decide))).symm
    have m240 := (edl).trans (fR_kept (x_lt hT kH187 gkq (by decide))).symm
    have m241 := (edk).trans (fR_kept (x_lt hT kH187 gkq (by decide))).symm
    refine W.eq (g2 := F0 m 982 ls [.int x188]) rfl ?_
    clear eck ecl ecn edk edl edn ehi ei1 ei10 ei13 ei16 ei4 ei5 eiq ek1 ek10 ek13 ek16 ek4 ek5 es1 es10 es13 es16 es4 es5 eta etb ew exk exl exn ey1 ey10 ey13 ey16 ey4 ey5 f0ck f0cl f0cn f0dk f0dl f0dn f0i f0xk f0xl f0xn kn
    refine lv_pop hx hb dL_law_982 rfl ?_
    refine lv_aload_n hx hb dL_law_983 rfl (lv_at hl 1 rfl) ?_
    refine lv_aload_n hx hb dL_law_984 rfl (lv_at hl 3 rfl) ?_
    refine lv_iload_n hx hb dL_law_985 rfl (lv_at hl 0 rfl) ?_
    refine lv_iconst (v := 1) hx hb dL_law_986 (by decide) ?_
    refine lv_iadd hx hb dL_law_987 ?_
    refine lv_topi (fun x242 ex242 => ?_)
    obtain ⟨tx242, ejx242, evx242⟩ := lw_ix (k := 1) ex242 hI hL rfl (by decide)
    clear tx242
    refine va_sld hx hb hX hbl (Nat.not_le.mpr hbl) hSH187 (vp_in_iff.mpr evx242) dL_law_988 ?_
    refine W.eq (g2 := F0 m 989 ls [.int (xs (i.toNatClampNeg + 1)), .ref b]) (congrArg (fun z => F0 m 989 ls [.int (xs z), .ref b]) ejx242) ?_
    refine lv_aload_n hx hb dL_law_989 rfl (lv_at hl 3 rfl) ?_
    refine lv_iload_n hx hb dL_law_990 rfl (lv_at hl 0 rfl) ?_
    refine lv_iconst (v := 2) hx hb dL_law_991 (by decide) ?_
    refine lv_iadd hx hb dL_law_992 ?_
    refine lv_topi (fun x243 ex243 => ?_)
    obtain ⟨tx243, ejx243, evx243⟩ := lw_ix (k := 2) ex243 hI hL rfl (by decide)
    clear tx243
    refine va_sld hx hb hX hbl (Nat.not_le.mpr hbl) hSH187 (vp_in_iff.mpr evx243) dL_law_993 ?_
    refine W.eq (g2 := F0 m 994 ls [.int (xs (i.toNatClampNeg + 2)), .int (xs (i.toNatClampNeg + 1)), .ref b]) (congrArg (fun z => F0 m 994 ls [.int (xs z), .int (xs (i.toNatClampNeg + 1)), .ref b]) ejx243) ?_
    refine lv_aload_n hx hb dL_law_994 rfl (lv_at hl 3 rfl) ?_
    refine lv_iload_n hx hb dL_law_995 rfl (lv_at hl 0 rfl) ?_
    refine lv_iconst (v := 3) hx hb dL_law_996 (by decide) ?_
    refine lv_iadd hx hb dL_law_997 ?_
    refine lv_topi (fun x244 ex244 => ?_)
    obtain ⟨tx244, ejx244, evx244⟩ := lw_ix (k := 3) ex244 hI hL rfl (by decide)
    clear tx244
    refine va_sld hx hb hX hbl (Nat.not_le.mpr hbl) hSH187 (vp_in_iff.mpr evx244) dL_law_998 ?_
    refine W.eq (g2 := F0 m 999 ls [.int (xs (i.toNatClampNeg + 3)), .int (xs (i.toNatClampNeg + 2)), .int (xs (i.toNatClampNeg + 1)), .ref b]) (congrArg (fun z => F0 m 999 ls [.int (xs z), .int (xs (i.toNatClampNeg + 2)), .int (xs (i.toNatClampNeg + 1)), .ref b]) ejx244) ?_
    refine lv_aload_n hx hb dL_law_999 rfl (lv_at hl 3 rfl) ?_
    refine lv_iload_n hx hb dL_law_1000 rfl (lv_at hl 0 rfl) ?_
    refine lv_iconst (v := 4) hx hb dL_law_1001 (by decide) ?_
    refine lv_iadd hx hb dL_law_1002 ?_
    refine lv_topi (fun x245 ex245 => ?_)
    obtain ⟨tx245, ejx245, evx245⟩ := lw_ix (k := 4) ex245 hI hL rfl (by decide)
    clear tx245
    refine va_sld hx hb hX hbl (Nat.not_le.mpr hbl) hSH187 (vp_in_iff.mpr evx245) dL_law_1003 ?_
    refine W.eq (g2 := F0 m 1004 ls [.int (xs (i.toNatClampNeg + 4)), .int (xs (i.toNatClampNeg + 3)), .int (xs (i.toNatClampNeg + 2)), .int (xs (i.toNatClampNeg + 1)), .ref b]) (congrArg (fun z => F0 m 1004 ls [.int (xs z), .int (xs (i.toNatClampNeg + 3)), .int (xs (i.toNatClampNeg + 2)), .int (xs (i.toNatClampNeg + 1)), .ref b]) ejx245) ?_
    obtain ⟨q246, eq246⟩ : ∃ z : Nat, z = fR H187 b (K.1.2 10 4) := ⟨_, rfl⟩
    have gq246 := ty_fr (q := q246) (k := 4) (u := 113) eq246 hTH187 gb rg_112 rfl
    refine x_V (As := [.int (xs (i.toNatClampNeg + 1)), .int (xs (i.toNatClampNeg + 2)), .int (xs (i.toNatClampNeg + 3)), .int (xs (i.toNatClampNeg + 4))]) (rest := []) C (a_X10_fits l K G H187 ((xs (i.toNatClampNeg + 1))) ((xs (i.toNatClampNeg + 2))) ((xs (i.toNatClampNeg + 3))) ((xs (i.toNatClampNeg + 4))) hTH187 gb gq246 eq246 g189 g190 g191 g192) yo_X10_fits wM_L_104 ⟨⟨by decide, by decide⟩, show _ ≤ 284929 from Nat.le_trans hc (by decide), show _ ≤ 8247460 from Nat.le_trans hs (by decide)⟩ (x_rv C hTH187 (ci := 10) rfl gb rg_112) rfl hl.1 rfl (Nat.le_of_ble_eq_true rfl) dL_law_1004 hSH187 (AE_new hN hSH187.1) (fun vH247 H247 locsH247 pH247 zH247 kH247 hSH247 => ?_)
    obtain ⟨x248, hvH247, m249, g250, g251, g252, g253, mf254, hTH247⟩ := pH247
    subst hvH247
    have f255 : ∀ j : Nat, j < 8 → fI H247 cn j = fI H cn j := fun j hj => (fI_kept (x_lt hTH187 kH247 gcn (by decide))).trans (f193 j hj)
    have f256 : ∀ j : Nat, j < 8 → fI H247 xn j = fI H xn j := fun j hj => (fI_kept (x_lt hTH187 kH247 gxn (by decide))).trans (f194 j hj)
    have f257 : ∀ j : Nat, j < 8 → fI H247 cl j = fI H cl j := fun j hj => (fI_kept (x_lt hTH187 kH247 gcl (by decide))).trans (f195 j hj)
    have f258 : ∀ j : Nat, j < 8 → fI H247 xl j = fI H xl j := fun j hj => (fI_kept (x_lt hTH187 kH247 gxl (by decide))).trans (f196 j hj)
    have f259 : ∀ j : Nat, j < 8 → fI H247 ck j = fI H ck j := fun j hj => (fI_kept (x_lt hTH187 kH247 gck (by decide))).trans (f197 j hj)
    have f260 : ∀ j : Nat, j < 8 → fI H247 xk j = fI H xk j := fun j hj => (fI_kept (x_lt hTH187 kH247 gxk (by decide))).trans (f198 j hj)
    have f261 : ∀ j : Nat, j < 8 → fI H247 dn j = fI H dn j := fun j hj => (fI_kept (x_lt hTH187 kH247 gdn (by decide))).trans (f199 j hj)
    have f262 : ∀ j : Nat, j < 8 → fI H247 dl j = fI H dl j := fun j hj => (fI_kept (x_lt hTH187 kH247 gdl (by decide))).trans (f200 j hj)
    have f263 : ∀ j : Nat, j < 8 → fI H247 dk j = fI H dk j := fun j hj => (fI_kept (x_lt hTH187 kH247 gdk (by decide))).trans (f201 j hj)
    have f264 : ∀ j : Nat, fI H247 iq j = fI H iq j := fun j => (fI_kept (x_lt hTH187 kH247 giq (by decide))).trans (f202 j)
    have m265 := (m203).trans (fR_kept (x_lt hTH187 kH247 ga (by decide))).symm
    have m266 := (m204).trans (fI_kept (x_lt hTH187 kH247 ga (by decide))).symm
    have m267 := (m206).trans (fI_kept (x_lt hTH187 kH247 gw (by decide))).symm
    have m268 := (m208).trans (fI_kept (x_lt hTH187 kH247 gw (by decide))).symm
    have m269 := (m210).trans (fI_kept (x_lt hTH187 kH247 gw (by decide))).symm
    have m270 := (m212).trans (fI_kept (x_lt hTH187 kH247 gw (by decide))).symm
    have m271 := (m214).trans (fI_kept (x_lt hTH187 kH247 gw (by decide))).symm
    have m272 := (m216).trans (fI_kept (x_lt hTH187 kH247 gw (by decide))).symm
    have m273 := (m218).trans (fR_kept (x_lt hTH187 kH247 gw (by decide))).symm
    have m274 := (m220).trans (fR_kept (x_lt hTH187 kH247 gw (by decide))).symm
    have m275 := (m222).trans (fR_kept (x_lt hTH187 kH247 gw (by decide))).symm
    have m276 := (fV_kept (x_lt hTH187 kH247 ga (by decide))).trans m225
    have m277 := (m227).trans (fI_kept (x_lt hTH187 kH247 gkq (by decide))).symm
    have m278 := (m228).trans (fI_kept (x_lt hTH187 kH247 giq (by decide))).symm
    have m279 := (m229).trans (fI_kept (x_lt hTH187 kH247 gkq (by decide))).symm
    have m280 := (m230).trans (fI_kept (x_lt hTH187 kH247 giq (by decide))).symm
    have m281 := (m231).trans (fI_kept (x_lt hTH187 kH247 gkq (by decide))).symm
    have m282 := (m232).trans (fI_kept (x_lt hTH187 kH247 giq (by decide))).symm
    have m283 := (m233).trans (fI_kept (x_lt hTH187 kH247 gkq (by decide))).symm
    have m284 := (m234).trans (fI_kept (x_lt hTH187 kH247 giq (by decide))).symm
    have m285 := (m235).trans (fI_kept (x_lt hTH187 kH247 gkq (by decide))).symm
    have m286 := (m236).trans (fI_kept (x_lt hTH187 kH247 giq (by decide))).symm
    have m287 := (m237).trans (fI_kept (x_lt hTH187 kH247 gkq (by decide))).symm
    have m288 := (m238).trans (fI_kept (x_lt hTH187 kH247 giq (by decide))).symm
    have m289 := (m239).trans (fR_kept (x_lt hTH187 kH247 gkq (by decide))).symm
    have m290 := (m240).trans (fR_kept (x_lt hTH187 kH247 gkq (by decide))).symm
    have m291 := (m241).trans (fR_kept (x_lt hTH187 kH247 gkq (by decide))).symm
    have m292 := (m205).trans (MF.i mf254 (k := 18) (by decide) (by decide)).symm
    have m293 := (m207).trans (MF.i mf254 (k := 1) (by decide) (by decide)).symm
    have m294 := (m209).trans (MF.i mf254 (k := 2) (by decide) (by decide)).symm
    have m295 := (m211).trans (MF.i mf254 (k := 3) (by decide) (by decide)).symm
    have m296 := (m213).trans (MF.i mf254 (k := 59) (by decide) (by decide)).symm
    have m297 := (m215).trans (MF.i mf254 (k := 62) (by decide) (by decide)).symm
    have m298 := (m217).trans (MF.i mf254 (k := 65) (by decide) (by decide)).symm
    have m299 := (m219).trans (MF.r mf254 (k := 64) (by decide) (by decide)).symm
    have m300 := (m221).trans (MF.r mf254 (k := 66) (by decide) (by decide)).symm
    have m301 := (m223).trans (MF.r mf254 (k := 67) (by decide) (by decide)).symm
    have m302 := (m224).trans (MF.i mf254 (k := 70) (by decide) (by decide)).symm
    have m303 := (m226).trans (MF.r mf254 (k := 73) (by decide) (by decide)).symm
    have m304 := (eq246).trans (MF.r mf254 (k := 4) (by decide) (by decide)).symm
    refine W.eq (g2 := F0 m 1007 ls [.int x248]) rfl ?_
    clear f193 f194 f195 f196 f197 f198 f199 f200 f201 f202 m203 m204 m205 m206 m207 m208 m209 m210 m211 m212 m213 m214 m215 m216 m217 m218 m219 m220 m221 m222 m223 m224 m225 m226 m227 m228 m229 m230 m231 m232 m233 m234 m235 m236 m237 m238 m239 m240 m241
    refine lv_pop hx hb dL_law_1007 rfl ?_
    refine lv_goto (tgt := 1509) hx hb dL_law_1008 (by decide) ?_
    exact nx G H247 locsH247 _ _ ls ⟨hTH247, hN, ga, gb, g250, g251, g252, g253, ⟨(by rw [← m266, ← m292]; exact rt), (by rw [← m265, ← m267, ← m293]; exact r1), (by rw [← m265, ← m268, ← m294]; exact r4), (by rw [← m265, ← m269, ← m295]; exact r5), (by rw [← m265, ← m270, ← m296]; exact r10), (by rw [← m265, ← m271, ← m297]; exact r13), (by rw [← m265, ← m272, ← m298]; exact r16)⟩, Or.inr ⟨kq, m276, gkq, (by rw [← m302]; exact h70), (by rw [← m277, ← m303, ← m278]; exact q1), (by rw [← m279, ← m303, ← m280]; exact q4), (by rw [← m281, ← m303, ← m282]; exact q5), (by rw [← m283, ← m303, ← m284]; exact q10), (by rw [← m285, ← m303, ← m286]; exact q13), (by rw [← m287, ← m303, ← m288]; exact q16), (by rw [← m289, ← m303, ← m285]; exact EQR.of hsn (fun j hj => f261 j (by omega)) (fun j hj => f264 _) (by omega)), (by rw [← m290, ← m303, ← m287]; exact EQR.of hsl (fun j hj => f262 j (by omega)) (fun j hj => f264 _) (by omega)), (by rw [← m291, ← m303, ← m287]; exact EQR.of hsk (fun j hj => f263 j (by omega)) (fun j hj => f264 _) (by omega))⟩, ⟨(by rw [← m265, ← m273, ← m299, ← m297]; exact EQR.of hrn (fun j hj => f255 j (by omega)) (fun j hj => f256 j (by omega)) (by omega)), (by rw [← m265, ← m274, ← m300, ← m298]; exact EQR.of hrl (fun j hj => f257 j (by omega)) (fun j hj => f258 j (by omega)) (by omega)), (by rw [← m265, ← m275, ← m301, ← m298]; exact EQR.of hrk (fun j hj => f259 j (by omega)) (fun j hj => f260 j (by omega)) (by omega))⟩, hSH247⟩ hl ⟨hc, hs, fun h => by have h1 := h.symm.trans m276; cases h1⟩