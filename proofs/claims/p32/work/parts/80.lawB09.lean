set_option maxRecDepth 100000 in
set_option maxHeartbeats 8000000 in
theorem lw_c27 {p : Program} {l : Launch} {e : Env} {s : State} {m : MethodId} {below : List Frame} {meth : Method} {c : Code} {K : KE} {b0 L : Nat} {xs : Nat → Int32} {G : Nat → Option Nat} {H : Heap} {locs : List Loc} {a b : Nat} {cells slots : Nat} {ls : Array Slot} {i : Int32} {n : Nat} (D : LC p K s m meth c b0 L xs) (S : SX K s G H locs a b) (hl : lv_has ls 4 [(3, .int i), (2, .ref b), (1, .ref a), (0, .ref b0)]) (hi : 0 ≤ i.toInt ∧ i.toInt + 6 ≤ L) (hn : n ≤ 511) (hB : BD K H a cells slots) (nx : ∀ (G : Nat → Option Nat) (H : Heap) (locs : List Loc) (cells slots : Nat) (ls : Array Slot), SX K s G H locs a b → lv_has ls 4 [(3, .int i), (2, .ref b), (1, .ref a), (0, .ref b0)] → BD K H a cells slots → W p l e room_1 s m #[Value.ref b0] below meth c H locs cells slots (lw_Z below #[Value.ref b0] s) (F0 m 1509 ls [])) : W p l e room_1 s m #[Value.ref b0] below meth c H locs cells slots (lw_Z below #[Value.ref b0] s) (F0 m 1249 ls []) := by
  have hI := hi
  obtain ⟨C, hX, hbl, hL⟩ := id D
  obtain ⟨hx, hb, hml, hown, hts, hKT, hr, hlocks, hnm⟩ := id C
  obtain ⟨hT, hN, ga, gb, cg, tu, wd, im, ⟨rt, r1, r4, r5, r10, r13, r16⟩, hk, hnb, hS⟩ := S
  obtain ⟨hc, hs, hB0⟩ := hB
  have n_1 : (1 : Int32).toInt = 1 := rfl
  have n_2 : (2 : Int32).toInt = 2 := rfl
  obtain ⟨w, ew⟩ : ∃ z : Nat, z = fR H a (K.1.2 9 0) := ⟨_, rfl⟩
  have gw := ty_fr (q := w) (k := 0) (u := 0) ew hT ga rg_68 rfl
  rw [← ew] at r1 r4 r5 r10 r13 r16
  obtain ⟨ta, eta⟩ : ∃ z : Int32, z = fI H a (K.1.2 9 3) := ⟨_, rfl⟩
  rw [← eta] at rt
  obtain ⟨tb, etb⟩ : ∃ z : Int32, z = fI H b (K.1.2 10 18) := ⟨_, rfl⟩
  rw [← etb] at rt
  obtain ⟨s1, es1⟩ : ∃ z : Int32, z = fI H w (K.1.2 8 1) := ⟨_, rfl⟩
  rw [← es1] at r1
  obtain ⟨y1, ey1⟩ : ∃ z : Int32, z = fI H b (K.1.2 10 1) := ⟨_, rfl⟩
  rw [← ey1] at r1
  obtain ⟨s4, es4⟩ : ∃ z : Int32, z = fI H w (K.1.2 8 4) := ⟨_, rfl⟩
  rw [← es4] at r4
  obtain ⟨y4, ey4⟩ : ∃ z : Int32, z = fI H b (K.1.2 10 2) := ⟨_, rfl⟩
  rw [← ey4] at r4
  obtain ⟨s5, es5⟩ : ∃ z : Int32, z = fI H w (K.1.2 8 5) := ⟨_, rfl⟩
  rw [← es5] at r5
  obtain ⟨y5, ey5⟩ : ∃ z : Int32, z = fI H b (K.1.2 10 3) := ⟨_, rfl⟩
  rw [← ey5] at r5
  obtain ⟨s10, es10⟩ : ∃ z : Int32, z = fI H w (K.1.2 8 10) := ⟨_, rfl⟩
  rw [← es10] at r10
  obtain ⟨y10, ey10⟩ : ∃ z : Int32, z = fI H b (K.1.2 10 59) := ⟨_, rfl⟩
  rw [← ey10] at r10
  obtain ⟨s13, es13⟩ : ∃ z : Int32, z = fI H w (K.1.2 8 13) := ⟨_, rfl⟩
  rw [← es13] at r13
  obtain ⟨y13, ey13⟩ : ∃ z : Int32, z = fI H b (K.1.2 10 62) := ⟨_, rfl⟩
  rw [← ey13] at r13
  obtain ⟨s16, es16⟩ : ∃ z : Int32, z = fI H w (K.1.2 8 16) := ⟨_, rfl⟩
  rw [← es16] at r16
  obtain ⟨y16, ey16⟩ : ∃ z : Int32, z = fI H b (K.1.2 10 65) := ⟨_, rfl⟩
  rw [← ey16] at r16
  obtain ⟨hb1, hb2, hb3⟩ := hnb
  obtain ⟨cn, ecn⟩ : ∃ z : Nat, z = fR H w (K.1.2 8 12) := ⟨_, rfl⟩
  have gcn := ty_fr (q := cn) (k := 12) (u := 31) ecn hT gw rg_0 rfl
  obtain ⟨xn, exn⟩ : ∃ z : Nat, z = fR H b (K.1.2 10 64) := ⟨_, rfl⟩
  have gxn := ty_fr (q := xn) (k := 64) (u := 157) exn hT gb rg_112 rfl
  obtain ⟨cl, ecl⟩ : ∃ z : Nat, z = fR H w (K.1.2 8 14) := ⟨_, rfl⟩
  have gcl := ty_fr (q := cl) (k := 14) (u := 32) ecl hT gw rg_0 rfl
  obtain ⟨xl, exl⟩ : ∃ z : Nat, z = fR H b (K.1.2 10 66) := ⟨_, rfl⟩
  have gxl := ty_fr (q := xl) (k := 66) (u := 158) exl hT gb rg_112 rfl
  obtain ⟨ck, eck⟩ : ∃ z : Nat, z = fR H w (K.1.2 8 15) := ⟨_, rfl⟩
  have gck := ty_fr (q := ck) (k := 15) (u := 33) eck hT gw rg_0 rfl
  obtain ⟨xk, exk⟩ : ∃ z : Nat, z = fR H b (K.1.2 10 67) := ⟨_, rfl⟩
  have gxk := ty_fr (q := xk) (k := 67) (u := 159) exk hT gb rg_112 rfl
  have hrn : EQR (fun j => fI H cn j) (fun j => fI H xn j) y13.toInt := by rw [ecn, exn, ew, ey13]; exact hb1
  have hrl : EQR (fun j => fI H cl j) (fun j => fI H xl j) y16.toInt := by rw [ecl, exl, ew, ey16]; exact hb2
  have hrk : EQR (fun j => fI H ck j) (fun j => fI H xk j) y16.toInt := by rw [eck, exk, ew, ey16]; exact hb3
  have by13 := ty_fi (x := y13) (k := 62) ey13 hT gb rg_112 rfl
  have by16 := ty_fi (x := y16) (k := 65) ey16 hT gb rg_112 rfl
  have f0cn : ∀ j : Nat, j < 8 → fI H cn j = fI H cn j := fun _ _ => rfl
  have f0xn : ∀ j : Nat, j < 8 → fI H xn j = fI H xn j := fun _ _ => rfl
  have f0cl : ∀ j : Nat, j < 8 → fI H cl j = fI H cl j := fun _ _ => rfl
  have f0xl : ∀ j : Nat, j < 8 → fI H xl j = fI H xl j := fun _ _ => rfl
  have f0ck : ∀ j : Nat, j < 8 → fI H ck j = fI H ck j := fun _ _ => rfl
  have f0xk : ∀ j : Nat, j < 8 → fI H xk j = fI H xk j := fun _ _ => rfl
  rcases hk with ⟨kn, h70⟩ | ⟨kq, kn, gkq, h70, q1, q4, q5, q10, q13, q16, hq1, hq2, hq3⟩
  · skip
    obtain ⟨hi, ehi⟩ : ∃ z : Int32, z = fI H b (K.1.2 10 70) := ⟨_, rfl⟩
    rw [← ehi] at h70
    obtain ⟨hc0, hs0⟩ := hB0 kn
    refine lv_aload_n hx hb dL_law_1249 rfl (lv_at hl 2 rfl) ?_
    refine lv_aload_n hx hb dL_law_1250 rfl (lv_at hl 3 rfl) ?_
    refine lv_iload_n hx hb dL_law_1251 rfl (lv_at hl 0 rfl) ?_
    refine lv_iconst (v := 1) hx hb dL_law_1252 (by decide) ?_
    refine lv_iadd hx hb dL_law_1253 ?_
    refine lv_topi (fun x101 ex101 => ?_)
    obtain ⟨tx101, ejx101, evx101⟩ := lw_ix (k := 1) ex101 hI hL rfl (by decide)
    clear tx101
    refine va_sld hx hb hX hbl (Nat.not_le.mpr hbl) hS (vp_in_iff.mpr evx101) dL_law_1254 ?_
    refine W.eq (g2 := F0 m 1255 ls [.int (xs (i.toNatClampNeg + 1)), .ref a]) (congrArg (fun z => F0 m 1255 ls [.int (xs z), .ref a]) ejx101) ?_
    refine lv_aload_n hx hb dL_law_1255 rfl (lv_at hl 3 rfl) ?_
    refine lv_iload_n hx hb dL_law_1256 rfl (lv_at hl 0 rfl) ?_
    refine lv_iconst (v := 2) hx hb dL_law_1257 (by decide) ?_
    refine lv_iadd hx hb dL_law_1258 ?_
    refine lv_topi (fun x102 ex102 => ?_)
    obtain ⟨tx102, ejx102, evx102⟩ := lw_ix (k := 2) ex102 hI hL rfl (by decide)
    clear tx102
    refine va_sld hx hb hX hbl (Nat.not_le.mpr hbl) hS (vp_in_iff.mpr evx102) dL_law_1259 ?_
    refine W.eq (g2 := F0 m 1260 ls [.int (xs (i.toNatClampNeg + 2)), .int (xs (i.toNatClampNeg + 1)), .ref a]) (congrArg (fun z => F0 m 1260 ls [.int (xs z), .int (xs (i.toNatClampNeg + 1)), .ref a]) ejx102) ?_
    refine x_V (As := [.int (xs (i.toNatClampNeg + 1)), .int (xs (i.toNatClampNeg + 2))]) (rest := []) C (a_X9_nights l K G H ((xs (i.toNatClampNeg + 1))) ((xs (i.toNatClampNeg + 2))) hT ga) yo_X9_nights wM_L_129 ⟨⟨by decide, by decide⟩, show _ ≤ 284929 from Nat.le_trans hc (by decide), show _ ≤ 8247460 from Nat.le_trans hs (by decide)⟩ (x_rv C hT (ci := 9) rfl ga rg_68) rfl hl.1 rfl (Nat.le_of_ble_eq_true rfl) dL_law_1260 hS (AE_new hN hS.1) (fun vH103 H103 locsH103 pH103 zH103 kH103 hSH103 => ?_)
    obtain ⟨x104, hvH103, hTH103⟩ := pH103
    subst hvH103
    have g105 : CG (avw K H103 b) := CG.congr (fun k hk j => av_eff hT kH103 gb (by decide) (CG_eff [83, 84, 109] (by decide) k hk)) cg
    have g106 : TU (avw K H103 b) (svw K H103 b) := TU.congr (fun k hk j => av_eff hT kH103 gb (by decide) (TU_eff [83, 84, 109] (by decide) k hk)) (fun k hk => sv_eff hT kH103 gb (by decide)) tu
    have g107 : WD (avw K H103 b) := WD.congr (fun k hk j => av_eff hT kH103 gb (by decide) (WD_eff [83, 84, 109] (by decide) k hk)) wd
    have g108 : IM (avw K H103 b) := IM.congr (fun k hk j => av_eff hT kH103 gb (by decide) (IM_eff [83, 84, 109] (by decide) k hk)) im
    have f109 : ∀ j : Nat, j < 8 → fI H103 cn j = fI H cn j := fun j hj => (fI_kept (x_lt hT kH103 gcn (by decide))).trans (f0cn j hj)
    have f110 : ∀ j : Nat, j < 8 → fI H103 xn j = fI H xn j := fun j hj => (fI_kept (x_lt hT kH103 gxn (by decide))).trans (f0xn j hj)
    have f111 : ∀ j : Nat, j < 8 → fI H103 cl j = fI H cl j := fun j hj => (fI_kept (x_lt hT kH103 gcl (by decide))).trans (f0cl j hj)
    have f112 : ∀ j : Nat, j < 8 → fI H103 xl j = fI H xl j := fun j hj => (fI_kept (x_lt hT kH103 gxl (by decide))).trans (f0xl j hj)
    have f113 : ∀ j : Nat, j < 8 → fI H103 ck j = fI H ck j := fun j hj => (fI_kept (x_lt hT kH103 gck (by decide))).trans (f0ck j hj)
    have f114 : ∀ j : Nat, j < 8 → fI H103 xk j = fI H xk j := fun j hj => (fI_kept (x_lt hT kH103 gxk (by decide))).trans (f0xk j hj)
    have m115 := (ew).trans (fR_kept (x_lt hT kH103 ga (by decide))).symm
    have m116 := (eta).trans (fI_kept (x_lt hT kH103 ga (by decide))).symm
    have m117 := (etb).trans (fI_kept (x_lt hT kH103 gb (by decide))).symm
    have m118 := (es1).trans (fI_kept (x_lt hT kH103 gw (by decide))).symm
    have m119 := (ey1).trans (fI_kept (x_lt hT kH103 gb (by decide))).symm
    have m120 := (es4).trans (fI_kept (x_lt hT kH103 gw (by decide))).symm
    have m121 := (ey4).trans (fI_kept (x_lt hT kH103 gb (by decide))).symm
    have m122 := (es5).trans (fI_kept (x_lt hT kH103 gw (by decide))).symm
    have m123 := (ey5).trans (fI_kept (x_lt hT kH103 gb (by decide))).symm
    have m124 := (es10).trans (fI_kept (x_lt hT kH103 gw (by decide))).symm
    have m125 := (ey10).trans (fI_kept (x_lt hT kH103 gb (by decide))).symm
    have m126 := (es13).trans (fI_kept (x_lt hT kH103 gw (by decide))).symm
    have m127 := (ey13).trans (fI_kept (x_lt hT kH103 gb (by decide))).symm
    have m128 := (es16).trans (fI_kept (x_lt hT kH103 gw (by decide))).symm
    have m129 := (ey16).trans (fI_kept (x_lt hT kH103 gb (by decide))).symm
    have m130 := (ecn).trans (fR_kept (x_lt hT kH103 gw (by decide))).symm
    have m131 := (exn).trans (fR_kept (x_lt hT kH103 gb (by decide))).symm
    have m132 := (ecl).trans (fR_kept (x_lt hT kH103 gw (by decide))).symm
    have m133 := (exl).trans (fR_kept (x_lt hT kH103 gb (by decide))).symm
    have m134 := (eck).trans (fR_kept (x_lt hT kH103 gw (by decide))).symm
    have m135 := (exk).trans (fR_kept (x_lt hT kH103 gb (by decide))).symm
    have m136 := (ehi).trans (fI_kept (x_lt hT kH103 gb (by decide))).symm
    have m137 := (fV_kept (x_lt hT kH103 ga (by decide))).trans kn
    refine W.eq (g2 := F0 m 1263 ls [.int x104]) rfl ?_
    clear eck ecl ecn ehi es1 es10 es13 es16 es4 es5 eta etb ew exk exl exn ey1 ey10 ey13 ey16 ey4 ey5 f0ck f0cl f0cn f0xk f0xl f0xn kn
    refine lv_pop hx hb dL_law_1263 rfl ?_
    refine lv_aload_n hx hb dL_law_1264 rfl (lv_at hl 1 rfl) ?_
    refine lv_aload_n hx hb dL_law_1265 rfl (lv_at hl 3 rfl) ?_
    refine lv_iload_n hx hb dL_law_1266 rfl (lv_at hl 0 rfl) ?_
    refine lv_iconst (v := 1) hx hb dL_law_1267 (by decide) ?_
    refine lv_iadd hx hb dL_law_1268 ?_
    refine lv_topi (fun x138 ex138 => ?_)
    obtain ⟨tx138, ejx138, evx138⟩ := lw_ix (k := 1) ex138 hI hL rfl (by decide)
    clear tx138
    refine va_sld hx hb hX hbl (Nat.not_le.mpr hbl) hSH103 (vp_in_iff.mpr evx138) dL_law_1269 ?_
    refine W.eq (g2 := F0 m 1270 ls [.int (xs (i.toNatClampNeg + 1)), .ref b]) (congrArg (fun z => F0 m 1270 ls [.int (xs z), .ref b]) ejx138) ?_
    refine lv_aload_n hx hb dL_law_1270 rfl (lv_at hl 3 rfl) ?_
    refine lv_iload_n hx hb dL_law_1271 rfl (lv_at hl 0 rfl) ?_
    refine lv_iconst (v := 2) hx hb dL_law_1272 (by decide) ?_
    refine lv_iadd hx hb dL_law_1273 ?_
    refine lv_topi (fun x139 ex139 => ?_)
    obtain ⟨tx139, ejx139, evx139⟩ := lw_ix (k := 2) ex139 hI hL rfl (by decide)
    clear tx139
    refine va_sld hx hb hX hbl (Nat.not_le.mpr hbl) hSH103 (vp_in_iff.mpr evx139) dL_law_1274 ?_
    refine W.eq (g2 := F0 m 1275 ls [.int (xs (i.toNatClampNeg + 2)), .int (xs (i.toNatClampNeg + 1)), .ref b]) (congrArg (fun z => F0 m 1275 ls [.int (xs z), .int (xs (i.toNatClampNeg + 1)), .ref b]) ejx139) ?_
    refine x_V (As := [.int (xs (i.toNatClampNeg + 1)), .int (xs (i.toNatClampNeg + 2))]) (rest := []) C (a_X10_nights l K G H103 ((xs (i.toNatClampNeg + 1))) ((xs (i.toNatClampNeg + 2))) hTH103 gb g105 g106 g107 g108) yo_X10_nights wM_L_132 ⟨⟨by decide, by decide⟩, show _ ≤ 284929 from Nat.le_trans hc (by decide), show _ ≤ 8247460 from Nat.le_trans hs (by decide)⟩ (x_rv C hTH103 (ci := 10) rfl gb rg_112) rfl hl.1 rfl (Nat.le_of_ble_eq_true rfl) dL_law_1275 hSH103 (AE_new hN hSH103.1) (fun vH140 H140 locsH140 pH140 zH140 kH140 hSH140 => ?_)
    obtain ⟨x141, hvH140, g142, g143, g144, g145, mf146, hTH140⟩ := pH140
    subst hvH140
    have f147 : ∀ j : Nat, j < 8 → fI H140 cn j = fI H cn j := fun j hj => (fI_kept (x_lt hTH103 kH140 gcn (by decide))).trans (f109 j hj)
    have f148 : ∀ j : Nat, j < 8 → fI H140 xn j = fI H xn j := fun j hj => (fI_kept (x_lt hTH103 kH140 gxn (by decide))).trans (f110 j hj)
    have f149 : ∀ j : Nat, j < 8 → fI H140 cl j = fI H cl j := fun j hj => (fI_kept (x_lt hTH103 kH140 gcl (by decide))).trans (f111 j hj)
    have f150 : ∀ j : Nat, j < 8 → fI H140 xl j = fI H xl j := fun j hj => (fI_kept (x_lt hTH103 kH140 gxl (by decide))).trans (f112 j hj)
    have f151 : ∀ j : Nat, j < 8 → fI H140 ck j = fI H ck j := fun j hj => (fI_kept (x_lt hTH103 kH140 gck (by decide))).trans (f113 j hj)
    have f152 : ∀ j : Nat, j < 8 → fI H140 xk j = fI H xk j := fun j hj => (fI_kept (x_lt hTH103 kH140 gxk (by decide))).trans (f114 j hj)
    have m153 := (m115).trans (fR_kept (x_lt hTH103 kH140 ga (by decide))).symm
    have m154 := (m116).trans (fI_kept (x_lt hTH103 kH140 ga (by decide))).symm
    have m155 := (m118).trans (fI_kept (x_lt hTH103 kH140 gw (by decide))).symm
    have m156 := (m120).trans (fI_kept (x_lt hTH103 kH140 gw (by decide))).symm
    have m157 := (m122).trans (fI_kept (x_lt hTH103 kH140 gw (by decide))).symm
    have m158 := (m124).trans (fI_kept (x_lt hTH103 kH140 gw (by decide))).symm
    have m159 := (m126).trans (fI_kept (x_lt hTH103 kH140 gw (by decide))).symm
    have m160 := (m128).trans (fI_kept (x_lt hTH103 kH140 gw (by decide))).symm
    have m161 := (m130).trans (fR_kept (x_lt hTH103 kH140 gw (by decide))).symm
    have m162 := (m132).trans (fR_kept (x_lt hTH103 kH140 gw (by decide))).symm
    have m163 := (m134).trans (fR_kept (x_lt hTH103 kH140 gw (by decide))).symm
    have m164 := (fV_kept (x_lt hTH103 kH140 ga (by decide))).trans m137
    have m165 := (m117).trans (MF.i mf146 (k := 18) (by decide) (by decide)).symm
    have m166 := (m119).trans (MF.i mf146 (k := 1) (by decide) (by decide)).symm
    have m167 := (m121).trans (MF.i mf146 (k := 2) (by decide) (by decide)).symm
    have m168 := (m123).trans (MF.i mf146 (k := 3) (by decide) (by decide)).symm
    have m169 := (m125).trans (MF.i mf146 (k := 59) (by decide) (by decide)).symm
    have m170 := (m127).trans (MF.i mf146 (k := 62) (by decide) (by decide)).symm
    have m171 := (m129).trans (MF.i mf146 (k := 65) (by decide) (by decide)).symm
    have m172 := (m131).trans (MF.r mf146 (k := 64) (by decide) (by decide)).symm
    have m173 := (m133).trans (MF.r mf146 (k := 66) (by decide) (by decide)).symm
    have m174 := (m135).trans (MF.r mf146 (k := 67) (by decide) (by decide)).symm
    have m175 := (m136).trans (MF.i mf146 (k := 70) (by decide) (by decide)).symm
    refine W.eq (g2 := F0 m 1278 ls [.int x141]) rfl ?_
    clear f109 f110 f111 f112 f113 f114 m115 m116 m117 m118 m119 m120 m121 m122 m123 m124 m125 m126 m127 m128 m129 m130 m131 m132 m133 m134 m135 m136 m137
    refine lv_pop hx hb dL_law_1278 rfl ?_
    refine lv_goto (tgt := 1509) hx hb dL_law_1279 (by decide) ?_
    exact nx G H140 locsH140 _ _ ls ⟨hTH140, hN, ga, gb, g142, g143, g144, g145, ⟨(by rw [← m154, ← m165]; exact rt), (by rw [← m153, ← m155, ← m166]; exact r1), (by rw [← m153, ← m156, ← m167]; exact r4), (by rw [← m153, ← m157, ← m168]; exact r5), (by rw [← m153, ← m158, ← m169]; exact r10), (by rw [← m153, ← m159, ← m170]; exact r13), (by rw [← m153, ← m160, ← m171]; exact r16)⟩, Or.inl ⟨m164, (by rw [← m175]; exact h70)⟩, ⟨(by rw [← m153, ← m161, ← m172, ← m170]; exact EQR.of hrn (fun j hj => f147 j (by omega)) (fun j hj => f148 j (by omega)) (by omega)), (by rw [← m153, ← m162, ← m173, ← m171]; exact EQR.of hrl (fun j hj => f149 j (by omega)) (fun j hj => f150 j (by omega)) (by omega)), (by rw [← m153, ← m163, ← m174, ← m171]; exact EQR.of hrk (fun j hj => f151 j (by omega)) (fun j hj => f152 j (by omega)) (by omega))⟩, hSH140⟩ hl ⟨hc, hs, fun _ => ⟨hc0, hs0⟩⟩
  · skip
    obtain ⟨hi, ehi⟩ : ∃ z : Int32, z = fI H b (K.1.2 10 70) := ⟨_, rfl⟩
    rw [← ehi] at h70
    obtain ⟨iq, eiq⟩ : ∃ z : Nat, z = fR H b (K.1.2 10 73) := ⟨_, rfl⟩
    have giq := ty_fr (q := iq) (k := 73) (u := 162) eiq hT gb rg_112 rfl
    rw [← eiq] at q1 q4 q5 q10 q13 q16
    obtain ⟨k1, ek1⟩ : ∃ z : Int32, z = fI H kq (K.1.2 8 1) := ⟨_, rfl⟩
    rw [← ek1] at q1
    obtain ⟨i1, ei1⟩ : ∃ z : Int32, z = fI H iq ((0 : Int32).toNatClampNeg) := ⟨_, rfl⟩
    rw [← ei1] at q1
    obtain ⟨k4, ek4⟩ : ∃ z : Int32, z = fI H kq (K.1.2 8 4) := ⟨_, rfl⟩
    rw [← ek4] at q4
    obtain ⟨i4, ei4⟩ : ∃ z : Int32, z = fI H iq ((1 : Int32).toNatClampNeg) := ⟨_, rfl⟩
    rw [← ei4] at q4
    obtain ⟨k5, ek5⟩ : ∃ z : Int32, z = fI H kq (K.1.2 8 5) := ⟨_, rfl⟩
    rw [← ek5] at q5
    obtain ⟨i5, ei5⟩ : ∃ z : Int32, z = fI H iq ((2 : Int32).toNatClampNeg) := ⟨_, rfl⟩
    rw [← ei5] at q5
    obtain ⟨k10, ek10⟩ : ∃ z : Int32, z = fI H kq (K.1.2 8 10) := ⟨_, rfl⟩
    rw [← ek10] at q10
    obtain ⟨i10, ei10⟩ : ∃ z : Int32, z = fI H iq ((3 : Int32).toNatClampNeg) := ⟨_, rfl⟩
    rw [← ei10] at q10
    obtain ⟨k13, ek13⟩ : ∃ z : Int32, z = fI H kq (K.1.2 8 13) := ⟨_, rfl⟩
    rw [← ek13] at q13
    obtain ⟨i13, ei13⟩ : ∃ z : Int32, z = fI H iq ((4 : Int32).toNatClampNeg) := ⟨_, rfl⟩
    rw [← ei13] at q13
    obtain ⟨k16, ek16⟩ : ∃ z : Int32, z = fI H kq (K.1.2 8 16) := ⟨_, rfl⟩
    rw [← ek16] at q16
    obtain ⟨i16, ei16⟩ : ∃ z : Int32, z = fI H iq ((5 : Int32).toNatClampNeg) := ⟨_, rfl⟩
    rw [← ei16] at q16
    obtain ⟨dn, edn⟩ : ∃ z : Nat, z = fR H kq (K.1.2 8 12) := ⟨_, rfl⟩
    have gdn := ty_fr (q := dn) (k := 12) (u := 65) edn hT gkq rg_34 rfl
    obtain ⟨dl, edl⟩ : ∃ z : Nat, z = fR H kq (K.1.2 8 14) := ⟨_, rfl⟩
    have gdl := ty_fr (q := dl) (k := 14) (u := 66) edl hT gkq rg_34 rfl
    obtain ⟨dk, edk⟩ : ∃ z : Nat, z = fR H kq (K.1.2 8 15) := ⟨_, rfl⟩
    have gdk := ty_fr (q := dk) (k := 15) (u := 67) edk hT gkq rg_34 rfl
    have hsn : EQR (fun j => fI H dn j) (fun j => fI H iq (8877 + 4 * j)) k13.toInt := by rw [edn, eiq, ek13]; exact hq1
    have hsl : EQR (fun j => fI H dl j) (fun j => fI H iq (8878 + 4 * j)) k16.toInt := by rw [edl, eiq, ek16]; exact hq2
    have hsk : EQR (fun j => fI H dk j) (fun j => fI H iq (8879 + 4 * j)) k16.toInt := by rw [edk, eiq, ek16]; exact hq3
    have bk13 := ty_fi (x := k13) (k := 13) ek13 hT gkq rg_34 rfl
    have bk16 := ty_fi (x := k16) (k := 16) ek16 hT gkq rg_34 rfl
    have f0dn : ∀ j : Nat, j < 8 → fI H dn j = fI H dn j := fun _ _ => rfl
    have f0dl : ∀ j : Nat, j < 8 → fI H dl j = fI H dl j := fun _ _ => rfl
    have f0dk : ∀ j : Nat, j < 8 → fI H dk j = fI H dk j := fun _ _ => rfl
    have f0i : ∀ j : Nat, fI H iq j = fI H iq j := fun _ => rfl
    refine lv_aload_n hx hb dL_law_1249 rfl (lv_at hl 2 rfl) ?_
    refine lv_aload_n hx hb dL_law_1250 rfl (lv_at hl 3 rfl) ?_
    refine lv_iload_n hx hb dL_law_1251 rfl (lv_at hl 0 rfl) ?_
    refine lv_iconst (v := 1) hx hb dL_law_1252 (by decide) ?_
    refine lv_iadd hx hb dL_law_1253 ?_
    refine lv_topi (fun x176 ex176 => ?_)
    obtain ⟨tx176, ejx176, evx176⟩ := lw_ix (k := 1) ex176 hI hL rfl (by decide)
    clear tx176
    refine va_sld hx hb hX hbl (Nat.not_le.mpr hbl) hS (vp_in_iff.mpr evx176) dL_law_1254 ?_
    refine W.eq (g2 := F0 m 1255 ls [.int (xs (i.toNatClampNeg + 1)), .ref a]) (congrArg (fun z => F0 m 1255 ls [.int (xs z), .ref a]) ejx176) ?_
    refine lv_aload_n hx hb dL_law_1255 rfl (lv_at hl 3 rfl) ?_
    refine lv_iload_n hx hb dL_law_1256 rfl (lv_at hl 0 rfl) ?_
    refine lv_iconst (v := 2) hx hb dL_law_1257 (by decide) ?_
    refine lv_iadd hx hb dL_law_1258 ?_
    refine lv_topi (fun x177 ex177 => ?_)
    obtain ⟨tx177, ejx177, evx177⟩ := lw_ix (k := 2) ex177 hI hL rfl (by decide)
    clear tx177
    refine va_sld hx hb hX hbl (Nat.not_le.mpr hbl) hS (vp_in_iff.mpr evx177) dL_law_1259 ?_
    refine W.eq (g2 := F0 m 1260 ls [.int (xs (i.toNatClampNeg + 2)), .int (xs (i.toNatClampNeg + 1)), .ref a]) (congrArg (fun z => F0 m 1260 ls [.int (xs z), .int (xs (i.toNatClampNeg + 1)), .ref a]) ejx177) ?_
    refine x_V (As := [.int (xs (i.toNatClampNeg + 1)), .int (xs (i.toNatClampNeg + 2))]) (rest := []) C (a_X9_nights l K G H ((xs (i.toNatClampNeg + 1))) ((xs (i.toNatClampNeg + 2))) hT ga) yo_X9_nights wM_L_129 ⟨⟨by decide, by decide⟩, show _ ≤ 284929 from Nat.le_trans hc (by decide), show _ ≤ 8247460 from Nat.le_trans hs (by decide)⟩ (x_rv C hT (ci := 9) rfl ga rg_68) rfl hl.1 rfl (Nat.le_of_ble_eq_true rfl) dL_law_1260 hS (AE_new hN hS.1) (fun vH178 H178 locsH178 pH178 zH178 kH178 hSH178 => ?_)
    obtain ⟨x179, hvH178, hTH178⟩ := pH178
    subst hvH178
    have g180 : CG (avw K H178 b) := CG.congr (fun k hk j => av_eff hT kH178 gb (by decide) (CG_eff [83, 84, 109] (by decide) k hk)) cg
    have g181 : TU (avw K H178 b) (svw K H178 b) := TU.congr (fun k hk j => av_eff hT kH178 gb (by decide) (TU_eff [83, 84, 109] (by decide) k hk)) (fun k hk => sv_eff hT kH178 gb (by decide)) tu
    have g182 : WD (avw K H178 b) := WD.congr (fun k hk j => av_eff hT kH178 gb (by decide) (WD_eff [83, 84, 109] (by decide) k hk)) wd
    have g183 : IM (avw K H178 b) := IM.congr (fun k hk j => av_eff hT kH178 gb (by decide) (IM_eff [83, 84, 109] (by decide) k hk)) im
    have f184 : ∀ j : Nat, j < 8 → fI H178 cn j = fI H cn j := fun j hj => (fI_kept (x_lt hT kH178 gcn (by decide))).trans (f0cn j hj)
    have f185 : ∀ j : Nat, j < 8 → fI H178 xn j = fI H xn j := fun j hj => (fI_kept (x_lt hT kH178 gxn (by decide))).trans (f0xn j hj)
    have f186 : ∀ j : Nat, j < 8 → fI H178 cl j = fI H cl j := fun j hj => (fI_kept (x_lt hT kH178 gcl (by decide))).trans (f0cl j hj)
    have f187 : ∀ j : Nat, j < 8 → fI H178 xl j = fI H xl j := fun j hj => (fI_kept (x_lt hT kH178 gxl (by decide))).trans (f0xl j hj)
    have f188 : ∀ j : Nat, j < 8 → fI H178 ck j = fI H ck j := fun j hj => (fI_kept (x_lt hT kH178 gck (by decide))).trans (f0ck j hj)
    have f189 : ∀ j : Nat, j < 8 → fI H178 xk j = fI H xk j := fun j hj => (fI_kept (x_lt hT kH178 gxk (by decide))).trans (f0xk j hj)
    have f190 : ∀ j : Nat, j < 8 → fI H178 dn j = fI H dn j := fun j hj => (fI_kept (x_lt hT kH178 gdn (by decide))).trans (f0dn j hj)
    have f191 : ∀ j : Nat, j < 8 → fI H178 dl j = fI H dl j := fun j hj => (fI_kept (x_lt hT kH178 gdl (by decide))).trans (f0dl j hj)
    have f192 : ∀ j : Nat, j < 8 → fI H178 dk j = fI H dk j := fun j hj => (fI_kept (x_lt hT kH178 gdk (by decide))).trans (f0dk j hj)
    have f193 : ∀ j : Nat, fI H178 iq j = fI H iq j := fun j => (fI_kept (x_lt hT kH178 giq (by decide))).trans (f0i j)
    have m194 := (ew).trans (fR_kept (x_lt hT kH178 ga (by decide))).symm
    have m195 := (eta).trans (fI_kept (x_lt hT kH178 ga (by decide))).symm
    have m196 := (etb).trans (fI_kept (x_lt hT kH178 gb (by decide))).symm
    have m197 := (es1).trans (fI_kept (x_lt hT kH178 gw (by decide))).symm
    have m198 := (ey1).trans (fI_kept (x_lt hT kH178 gb (by decide))).symm
    have m199 := (es4).trans (fI_kept (x_lt hT kH178 gw (by decide))).symm
    have m200 := (ey4).trans (fI_kept (x_lt hT kH178 gb (by decide))).symm
    have m201 := (es5).trans (fI_kept (x_lt hT kH178 gw (by decide))).symm
    have m202 := (ey5).trans (fI_kept (x_lt hT kH178 gb (by decide))).symm
    have m203 := (es10).trans (fI_kept (x_lt hT kH178 gw (by decide))).symm
    have m204 := (ey10).trans (fI_kept (x_lt hT kH178 gb (by decide))).symm
    have m205 := (es13).trans (fI_kept (x_lt hT kH178 gw (by decide))).symm
    have m206 := (ey13).trans (fI_kept (x_lt hT kH178 gb (by decide))).symm
    have m207 := (es16).trans (fI_kept (x_lt hT kH178 gw (by decide))).symm
    have m208 := (ey16).trans (fI_kept (x_lt hT kH178 gb (by decide))).symm
    have m209 := (ecn).trans (fR_kept (x_lt hT kH178 gw (by decide))).symm
    have m210 := (exn).trans (fR_kept (x_lt hT kH178 gb (by decide))).symm
    have m211 := (ecl).trans (fR_kept (x_lt hT kH178 gw (by decide))).symm
    have m212 := (exl).trans (fR_kept (x_lt hT kH178 gb (by decide))).symm
    have m213 := (eck).trans (fR_kept (x_lt hT kH178 gw (by decide))).symm
    have m214 := (exk).trans (fR_kept (x_lt hT kH178 gb (by decide))).symm
    have m215 := (ehi).trans (fI_kept (x_lt hT kH178 gb (by decide))).symm
    have m216 := (fV_kept (x_lt hT kH178 ga (by decide))).trans kn
    have m217 := (eiq).trans (fR_kept (x_lt hT kH178 gb (by decide))).symm
    have m218 := (ek1).trans (fI_kept (x_lt hT kH178 gkq (by decide))).symm
    have m219 := (ei1).trans (fI_kept (x_lt hT kH178 giq (by decide))).symm
    have m220 := (ek4).trans (fI_kept (x_lt hT kH178 gkq (by decide))).symm
    have m221 := (ei4).trans (fI_kept (x_lt hT kH178 giq (by decide))).symm
    have m222 := (ek5).trans (fI_kept (x_lt hT kH178 gkq (by decide))).symm
    have m223 := (ei5).trans (fI_kept (x_lt hT kH178 giq (by decide))).symm
    have m224 := (ek10).trans (fI_kept (x_lt hT kH178 gkq (by decide))).symm
    have m225 := (ei10).trans (fI_kept (x_lt hT kH178 giq (by decide))).symm
    have m226 := (ek13).trans (fI_kept (x_lt hT kH178 gkq (by decide))).symm
    have m227 := (ei13).trans (fI_kept (x_lt hT kH178 giq (by decide))).symm
    have m228 := (ek16).trans (fI_kept (x_lt hT kH178 gkq (by decide))).symm
    have m229 := (ei16).trans (fI_kept (x_lt hT kH178 giq (by decide))).symm
    have m230 := (edn).trans (fR_kept (x_lt hT kH178 gkq (by decide))).symm
    have m231 := (edl).trans (fR_kept (x_lt hT kH178 gkq (by decide))).symm
    have m232 := (edk).trans (fR_kept (x_lt hT kH178 gkq (by decide))).symm
    refine W.eq (g2 := F0 m 1263 ls [.int x179]) rfl ?_
    clear eck ecl ecn edk edl edn ehi ei1 ei10 ei13 ei16 ei4 ei5 eiq ek1 ek10 ek13 ek16 ek4 ek5 es1 es10 es13 es16 es4 es5 eta etb ew exk exl exn ey1 ey10 ey13 ey16 ey4 ey5 f0ck f0cl f0cn f0dk f0dl f0dn f0i f0xk f0xl f0xn kn
    refine lv_pop hx hb dL_law_1263 rfl ?_
    refine lv_aload_n hx hb dL_law_1264 rfl (lv_at hl 1 rfl) ?_
    refine lv_aload_n hx hb dL_law_1265 rfl (lv_at hl 3 rfl) ?_
    refine lv_iload_n hx hb dL_law_1266 rfl (lv_at hl 0 rfl) ?_
    refine lv_iconst (v := 1) hx hb dL_law_1267 (by decide) ?_
    refine lv_iadd hx hb dL_law_1268 ?_
    refine lv_topi (fun x233 ex233 => ?_)
    obtain ⟨tx233, ejx233, evx233⟩ := lw_ix (k := 1) ex233 hI hL rfl (by decide)
    clear tx233
    refine va_sld hx hb hX hbl (Nat.not_le.mpr hbl) hSH178 (vp_in_iff.mpr evx233) dL_law_1269 ?_
    refine W.eq (g2 := F0 m 1270 ls [.int (xs (i.toNatClampNeg + 1)), .ref b]) (congrArg (fun z => F0 m 1270 ls [.int (xs z), .ref b]) ejx233) ?_
    refine lv_aload_n hx hb dL_law_1270 rfl (lv_at hl 3 rfl) ?_
    refine lv_iload_n hx hb dL_law_1271 rfl (lv_at hl 0 rfl) ?_
    refine lv_iconst (v := 2) hx hb dL_law_1272 (by decide) ?_
    refine lv_iadd hx hb dL_law_1273 ?_
    refine lv_topi (fun x234 ex234 => ?_)
    obtain ⟨tx234, ejx234, evx234⟩ := lw_ix (k := 2) ex234 hI hL rfl (by decide)
    clear tx234
    refine va_sld hx hb hX hbl (Nat.not_le.mpr hbl) hSH178 (vp_in_iff.mpr evx234) dL_law_1274 ?_
    refine W.eq (g2 := F0 m 1275 ls [.int (xs (i.toNatClampNeg + 2)), .int (xs (i.toNatClampNeg + 1)), .ref b]) (congrArg (fun z => F0 m 1275 ls [.int (xs z), .int (xs (i.toNatClampNeg + 1)), .ref b]) ejx234) ?_
    refine x_V (As := [.int (xs (i.toNatClampNeg + 1)), .int (xs (i.toNatClampNeg + 2))]) (rest := []) C (a_X10_nights l K G H178 ((xs (i.toNatClampNeg + 1))) ((xs (i.toNatClampNeg + 2))) hTH178 gb g180 g181 g182 g183) yo_X10_nights wM_L_132 ⟨⟨by decide, by decide⟩, show _ ≤ 284929 from Nat.le_trans hc (by decide), show _ ≤ 8247460 from Nat.le_trans hs (by decide)⟩ (x_rv C hTH178 (ci := 10) rfl gb rg_112) rfl hl.1 rfl (Nat.le_of_ble_eq_true rfl) dL_law_1275 hSH178 (AE_new hN hSH178.1) (fun vH235 H235 locsH235 pH235 zH235 kH235 hSH235 => ?_)
    obtain ⟨x236, hvH235, g237, g238, g239, g240, mf241, hTH235⟩ := pH235
    subst hvH235
    have f242 : ∀ j : Nat, j < 8 → fI H235 cn j = fI H cn j := fun j hj => (fI_kept (x_lt hTH178 kH235 gcn (by decide))).trans (f184 j hj)
    have f243 : ∀ j : Nat, j < 8 → fI H235 xn j = fI H xn j := fun j hj => (fI_kept (x_lt hTH178 kH235 gxn (by decide))).trans (f185 j hj)
    have f244 : ∀ j : Nat, j < 8 → fI H235 cl j = fI H cl j := fun j hj => (fI_kept (x_lt hTH178 kH235 gcl (by decide))).trans (f186 j hj)
    have f245 : ∀ j : Nat, j < 8 → fI H235 xl j = fI H xl j := fun j hj => (fI_kept (x_lt hTH178 kH235 gxl (by decide))).trans (f187 j hj)
    have f246 : ∀ j : Nat, j < 8 → fI H235 ck j = fI H ck j := fun j hj => (fI_kept (x_lt hTH178 kH235 gck (by decide))).trans (f188 j hj)
    have f247 : ∀ j : Nat, j < 8 → fI H235 xk j = fI H xk j := fun j hj => (fI_kept (x_lt hTH178 kH235 gxk (by decide))).trans (f189 j hj)
    have f248 : ∀ j : Nat, j < 8 → fI H235 dn j = fI H dn j := fun j hj => (fI_kept (x_lt hTH178 kH235 gdn (by decide))).trans (f190 j hj)
    have f249 : ∀ j : Nat, j < 8 → fI H235 dl j = fI H dl j := fun j hj => (fI_kept (x_lt hTH178 kH235 gdl (by decide))).trans (f191 j hj)
    have f250 : ∀ j : Nat, j < 8 → fI H235 dk j = fI H dk j := fun j hj => (fI_kept (x_lt hTH178 kH235 gdk (by decide))).trans (f192 j hj)
    have f251 : ∀ j : Nat, fI H235 iq j = fI H iq j := fun j => (fI_kept (x_lt hTH178 kH235 giq (by decide))).trans (f193 j)
    have m252 := (m194).trans (fR_kept (x_lt hTH178 kH235 ga (by decide))).symm
    have m253 := (m195).trans (fI_kept (x_lt hTH178 kH235 ga (by decide))).symm
    have m254 := (m197).trans (fI_kept (x_lt hTH178 kH235 gw (by decide))).symm
    have m255 := (m199).trans (fI_kept (x_lt hTH178 kH235 gw (by decide))).symm
    have m256 := (m201).trans (fI_kept (x_lt hTH178 kH235 gw (by decide))).symm
    have m257 := (m203).trans (fI_kept (x_lt hTH178 kH235 gw (by decide))).symm
    have m258 := (m205).trans (fI_kept (x_lt hTH178 kH235 gw (by decide))).symm
    have m259 := (m207).trans (fI_kept (x_lt hTH178 kH235 gw (by decide))).symm
    have m260 := (m209).trans (fR_kept (x_lt hTH178 kH235 gw (by decide))).symm
    have m261 := (m211).trans (fR_kept (x_lt hTH178 kH235 gw (by decide))).symm
    have m262 := (m213).trans (fR_kept (x_lt hTH178 kH235 gw (by decide))).symm
    have m263 := (fV_kept (x_lt hTH178 kH235 ga (by decide))).trans m216
    have m264 := (m218).trans (fI_kept (x_lt hTH178 kH235 gkq (by decide))).symm
    have m265 := (m219).trans (fI_kept (x_lt hTH178 kH235 giq (by decide))).symm
    have m266 := (m220).trans (fI_kept (x_lt hTH178 kH235 gkq (by decide))).symm
    have m267 := (m221).trans (fI_kept (x_lt hTH178 kH235 giq (by decide))).symm
    have m268 := (m222).trans (fI_kept (x_lt hTH178 kH235 gkq (by decide))).symm
    have m269 := (m223).trans (fI_kept (x_lt hTH178 kH235 giq (by decide))).symm
    have m270 := (m224).trans (fI_kept (x_lt hTH178 kH235 gkq (by decide))).symm
    have m271 := (m225).trans (fI_kept (x_lt hTH178 kH235 giq (by decide))).symm
    have m272 := (m226).trans (fI_kept (x_lt hTH178 kH235 gkq (by decide))).symm
    have m273 := (m227).trans (fI_kept (x_lt hTH178 kH235 giq (by decide))).symm
    have m274 := (m228).trans (fI_kept (x_lt hTH178 kH235 gkq (by decide))).symm
    have m275 := (m229).trans (fI_kept (x_lt hTH178 kH235 giq (by decide))).symm
    have m276 := (m230).trans (fR_kept (x_lt hTH178 kH235 gkq (by decide))).symm
    have m277 := (m231).trans (fR_kept (x_lt hTH178 kH235 gkq (by decide))).symm
    have m278 := (m232).trans (fR_kept (x_lt hTH178 kH235 gkq (by decide))).symm
    have m279 := (m196).trans (MF.i mf241 (k := 18) (by decide) (by decide)).symm
    have m280 := (m198).trans (MF.i mf241 (k := 1) (by decide) (by decide)).symm
    have m281 := (m200).trans (MF.i mf241 (k := 2) (by decide) (by decide)).symm
    have m282 := (m202).trans (MF.i mf241 (k := 3) (by decide) (by decide)).symm
    have m283 := (m204).trans (MF.i mf241 (k := 59) (by decide) (by decide)).symm
    have m284 := (m206).trans (MF.i mf241 (k := 62) (by decide) (by decide)).symm
    have m285 := (m208).trans (MF.i mf241 (k := 65) (by decide) (by decide)).symm
    have m286 := (m210).trans (MF.r mf241 (k := 64) (by decide) (by decide)).symm
    have m287 := (m212).trans (MF.r mf241 (k := 66) (by decide) (by decide)).symm
    have m288 := (m214).trans (MF.r mf241 (k := 67) (by decide) (by decide)).symm
    have m289 := (m215).trans (MF.i mf241 (k := 70) (by decide) (by decide)).symm
    have m290 := (m217).trans (MF.r mf241 (k := 73) (by decide) (by decide)).symm
    refine W.eq (g2 := F0 m 1278 ls [.int x236]) rfl ?_
    clear f184 f185 f186 f187 f188 f189 f190 f191 f192 f193 m194 m195 m196 m197 m198 m199 m200 m201 m202 m203 m204 m205 m206 m207 m208 m209 m210 m211 m212 m213 m214 m215 m216 m217 m218 m219 m220 m221 m222 m223 m224 m225 m226 m227 m228 m229 m230 m231 m232
    refine lv_pop hx hb dL_law_1278 rfl ?_
    refine lv_goto (tgt := 1509) hx hb dL_law_1279 (by decide) ?_
    exact nx G H235 locsH235 _ _ ls ⟨hTH235, hN, ga, gb, g237, g238, g239, g240, ⟨(by rw [← m253, ← m279]; exact rt), (by rw [← m252, ← m254, ← m280]; exact r1), (by rw [← m252, ← m255, ← m281]; exact r4), (by rw [← m252, ← m256, ← m282]; exact r5), (by rw [← m252, ← m257, ← m283]; exact r10), (by rw [← m252, ← m258, ← m284]; exact r13), (by rw [← m252, ← m259, ← m285]; exact r16)⟩, Or.inr ⟨kq, m263, gkq, (by rw [← m289]; exact h70), (by rw [← m264, ← m290, ← m265]; exact q1), (by rw [← m266, ← m290, ← m267]; exact q4), (by rw [← m268, ← m290, ← m269]; exact q5), (by rw [← m270, ← m290, ← m271]; exact q10), (by rw [← m272, ← m290, ← m273]; exact q13), (by rw [← m274, ← m290, ← m275]; exact q16), (by rw [← m276, ← m290, ← m272]; exact EQR.of hsn (fun j hj => f248 j (by omega)) (fun j hj => f251 _) (by omega)), (by rw [← m277, ← m290, ← m274]; exact EQR.of hsl (fun j hj => f249 j (by omega)) (fun j hj => f251 _) (by omega)), (by rw [← m278, ← m290, ← m274]; exact EQR.of hsk (fun j hj => f250 j (by omega)) (fun j hj => f251 _) (by omega))⟩, ⟨(by rw [← m252, ← m260, ← m286, ← m284]; exact EQR.of hrn (fun j hj => f242 j (by omega)) (fun j hj => f243 j (by omega)) (by omega)), (by rw [← m252, ← m261, ← m287, ← m285]; exact EQR.of hrl (fun j hj => f244 j (by omega)) (fun j hj => f245 j (by omega)) (by omega)), (by rw [← m252, ← m262, ← m288, ← m285]; exact EQR.of hrk (fun j hj => f246 j (by omega)) (fun j hj => f247 j (by omega)) (by omega))⟩, hSH235⟩ hl ⟨hc, hs, fun h => by have h1 := h.symm.trans m263; cases h1⟩
set_option maxRecDepth 100000 in
set_option maxHeartbeats 8000000 in
theorem lw_c28 {p : Program} {l : Launch} {e : Env} {s : State} {m : MethodId} {below : List Frame} {meth : Method} {c : Code} {K : KE} {b0 L : Nat} {xs : Nat → Int32} {G : Nat → Option Nat} {H : Heap} {locs : List Loc} {a b : Nat} {cells slots : Nat} {ls : Array Slot} {i : Int32} {n : Nat} (D : LC p K s m meth c b0 L xs) (S : SX K s G H locs a b) (hl : lv_has ls 4 [(3, .int i), (2, .ref b), (1, .ref a), (0, .ref b0)]) (hi : 0 ≤ i.toInt ∧ i.toInt + 6 ≤ L) (hn : n ≤ 511) (hB : BD K H a cells slots) (nx : ∀ (G : Nat → Option Nat) (H : Heap) (locs : List Loc) (cells slots : Nat) (ls : Array Slot), SX K s G H locs a b → lv_has ls 4 [(3, .int i), (2, .ref b), (1, .ref a), (0, .ref b0)] → BD K H a cells slots → W p l e room_1 s m #[Value.ref b0] below meth c H locs cells slots (lw_Z below #[Value.ref b0] s) (F0 m 1509 ls [])) : W p l e room_1 s m #[Value.ref b0] below meth c H locs cells slots (lw_Z below #[Value.ref b0] s) (F0 m 1282 ls []) := by
  have hI := hi
  obtain ⟨C, hX, hbl, hL⟩ := id D
  obtain ⟨hx, hb, hml, hown, hts, hKT, hr, hlocks, hnm⟩ := id C
  obtain ⟨hT, hN, ga, gb, cg, tu, wd, im, ⟨rt, r1, r4, r5, r10, r13, r16⟩, hk, hnb, hS⟩ := S
  obtain ⟨hc, hs, hB0⟩ := hB
  have n_1 : (1 : Int32).toInt = 1 := rfl
  have n_2 : (2 : Int32).toInt = 2 := rfl
  obtain ⟨w, ew⟩ : ∃ z : Nat, z = fR H a (K.1.2 9 0) := ⟨_, rfl⟩
  have gw := ty_fr (q := w) (k := 0) (u := 0) ew hT ga rg_68 rfl
  rw [← ew] at r1 r4 r5 r10 r13 r16
  obtain ⟨ta, eta⟩ : ∃ z : Int32, z = fI H a (K.1.2 9 3) := ⟨_, rfl⟩
  rw [← eta] at rt
  obtain ⟨tb, etb⟩ : ∃ z : Int32, z = fI H b (K.1.2 10 18) := ⟨_, rfl⟩
  rw [← etb] at rt
  obtain ⟨s1, es1⟩ : ∃ z : Int32, z = fI H w (K.1.2 8 1) := ⟨_, rfl⟩
  rw [← es1] at r1
  obtain ⟨y1, ey1⟩ : ∃ z : Int32, z = fI H b (K.1.2 10 1) := ⟨_, rfl⟩
  rw [← ey1] at r1
  obtain ⟨s4, es4⟩ : ∃ z : Int32, z = fI H w (K.1.2 8 4) := ⟨_, rfl⟩
  rw [← es4] at r4
  obtain ⟨y4, ey4⟩ : ∃ z : Int32, z = fI H b (K.1.2 10 2) := ⟨_, rfl⟩
  rw [← ey4] at r4
  obtain ⟨s5, es5⟩ : ∃ z : Int32, z = fI H w (K.1.2 8 5) := ⟨_, rfl⟩
  rw [← es5] at r5
  obtain ⟨y5, ey5⟩ : ∃ z : Int32, z = fI H b (K.1.2 10 3) := ⟨_, rfl⟩
  rw [← ey5] at r5
  obtain ⟨s10, es10⟩ : ∃ z : Int32, z = fI H w (K.1.2 8 10) := ⟨_, rfl⟩
  rw [← es10] at r10
  obtain ⟨y10, ey10⟩ : ∃ z : Int32, z = fI H b (K.1.2 10 59) := ⟨_, rfl⟩
  rw [← ey10] at r10
  obtain ⟨s13, es13⟩ : ∃ z : Int32, z = fI H w (K.1.2 8 13) := ⟨_, rfl⟩
  rw [← es13] at r13
  obtain ⟨y13, ey13⟩ : ∃ z : Int32, z = fI H b (K.1.2 10 62) := ⟨_, rfl⟩
  rw [← ey13] at r13
  obtain ⟨s16, es16⟩ : ∃ z : Int32, z = fI H w (K.1.2 8 16) := ⟨_, rfl⟩
  rw [← es16] at r16
  obtain ⟨y16, ey16⟩ : ∃ z : Int32, z = fI H b (K.1.2 10 65) := ⟨_, rfl⟩
  rw [← ey16] at r16
  obtain ⟨hb1, hb2, hb3⟩ := hnb
  obtain ⟨cn, ecn⟩ : ∃ z : Nat, z = fR H w (K.1.2 8 12) := ⟨_, rfl⟩
  have gcn := ty_fr (q := cn) (k := 12) (u := 31) ecn hT gw rg_0 rfl
  obtain ⟨xn, exn⟩ : ∃ z : Nat, z = fR H b (K.1.2 10 64) := ⟨_, rfl⟩
  have gxn := ty_fr (q := xn) (k := 64) (u := 157) exn hT gb rg_112 rfl
  obtain ⟨cl, ecl⟩ : ∃ z : Nat, z = fR H w (K.1.2 8 14) := ⟨_, rfl⟩
  have gcl := ty_fr (q := cl) (k := 14) (u := 32) ecl hT gw rg_0 rfl
  obtain ⟨xl, exl⟩ : ∃ z : Nat, z = fR H b (K.1.2 10 66) := ⟨_, rfl⟩
  have gxl := ty_fr (q := xl) (k := 66) (u := 158) exl hT gb rg_112 rfl
  obtain ⟨ck, eck⟩ : ∃ z : Nat, z = fR H w (K.1.2 8 15) := ⟨_, rfl⟩
  have gck := ty_fr (q := ck) (k := 15) (u := 33) eck hT gw rg_0 rfl
  obtain ⟨xk, exk⟩ : ∃ z : Nat, z = fR H b (K.1.2 10 67) := ⟨_, rfl⟩
  have gxk := ty_fr (q := xk) (k := 67) (u := 159) exk hT gb rg_112 rfl
  have hrn : EQR (fun j => fI H cn j) (fun j => fI H xn j) y13.toInt := by rw [ecn, exn, ew, ey13]; exact hb1
  have hrl : EQR (fun j => fI H cl j) (fun j => fI H xl j) y16.toInt := by rw [ecl, exl, ew, ey16]; exact hb2
  have hrk : EQR (fun j => fI H ck j) (fun j => fI H xk j) y16.toInt := by rw [eck, exk, ew, ey16]; exact hb3
  have by13 := ty_fi (x := y13) (k := 62) ey13 hT gb rg_112 rfl
  have by16 := ty_fi (x := y16) (k := 65) ey16 hT gb rg_112 rfl
  have f0cn : ∀ j : Nat, j < 8 → fI H cn j = fI H cn j := fun _ _ => rfl
  have f0xn : ∀ j : Nat, j < 8 → fI H xn j = fI H xn j := fun _ _ => rfl
  have f0cl : ∀ j : Nat, j < 8 → fI H cl j = fI H cl j := fun _ _ => rfl
  have f0xl : ∀ j : Nat, j < 8 → fI H xl j = fI H xl j := fun _ _ => rfl
  have f0ck : ∀ j : Nat, j < 8 → fI H ck j = fI H ck j := fun _ _ => rfl
  have f0xk : ∀ j : Nat, j < 8 → fI H xk j = fI H xk j := fun _ _ => rfl
  rcases hk with ⟨kn, h70⟩ | ⟨kq, kn, gkq, h70, q1, q4, q5, q10, q13, q16, hq1, hq2, hq3⟩
  · skip
    obtain ⟨hi, ehi⟩ : ∃ z : Int32, z = fI H b (K.1.2 10 70) := ⟨_, rfl⟩
    rw [← ehi] at h70
    obtain ⟨hc0, hs0⟩ := hB0 kn
    refine lv_aload_n hx hb dL_law_1282 rfl (lv_at hl 2 rfl) ?_
    refine lv_aload_n hx hb dL_law_1283 rfl (lv_at hl 3 rfl) ?_
    refine lv_iload_n hx hb dL_law_1284 rfl (lv_at hl 0 rfl) ?_
    refine lv_iconst (v := 1) hx hb dL_law_1285 (by decide) ?_
    refine lv_iadd hx hb dL_law_1286 ?_
    refine lv_topi (fun x101 ex101 => ?_)
    obtain ⟨tx101, ejx101, evx101⟩ := lw_ix (k := 1) ex101 hI hL rfl (by decide)
    clear tx101
    refine va_sld hx hb hX hbl (Nat.not_le.mpr hbl) hS (vp_in_iff.mpr evx101) dL_law_1287 ?_
    refine W.eq (g2 := F0 m 1288 ls [.int (xs (i.toNatClampNeg + 1)), .ref a]) (congrArg (fun z => F0 m 1288 ls [.int (xs z), .ref a]) ejx101) ?_
    refine lv_aload_n hx hb dL_law_1288 rfl (lv_at hl 3 rfl) ?_
    refine lv_iload_n hx hb dL_law_1289 rfl (lv_at hl 0 rfl) ?_
    refine lv_iconst (v := 2) hx hb dL_law_1290 (by decide) ?_
    refine lv_iadd hx hb dL_law_1291 ?_
    refine lv_topi (fun x102 ex102 => ?_)
    obtain ⟨tx102, ejx102, evx102⟩ := lw_ix (k := 2) ex102 hI hL rfl (by decide)
    clear tx102
    refine va_sld hx hb hX hbl (Nat.not_le.mpr hbl) hS (vp_in_iff.mpr evx102) dL_law_1292 ?_
    refine W.eq (g2 := F0 m 1293 ls [.int (xs (i.toNatClampNeg + 2)), .int (xs (i.toNatClampNeg + 1)), .ref a]) (congrArg (fun z => F0 m 1293 ls [.int (xs z), .int (xs (i.toNatClampNeg + 1)), .ref a]) ejx102) ?_
    refine x_V (As := [.int (xs (i.toNatClampNeg + 1)), .int (xs (i.toNatClampNeg + 2))]) (rest := []) C (a_X9_note_n l K G H ((xs (i.toNatClampNeg + 1))) ((xs (i.toNatClampNeg + 2))) (s1) (s4) (s5) (s10) (s13) (s16) hT ga gw ew gcn ecn gcl ecl gck eck es1 es4 es5 es10 es13 es16) yo_X9_note wM_L_133 ⟨⟨by decide, by decide⟩, show _ ≤ 284929 from Nat.le_trans hc (by decide), show _ ≤ 8247460 from Nat.le_trans hs (by decide)⟩ (x_rv C hT (ci := 9) rfl ga rg_68) rfl hl.1 rfl (Nat.le_of_ble_eq_true rfl) dL_law_1293 hS (AE_new hN hS.1) (fun vH103 H103 locsH103 pH103 zH103 kH103 hSH103 => ?_)
    obtain ⟨x104, x105, x106, x107, x108, x109, x110, hvH103, ex105, ex106, ex107, ex108, ex109, ex110, hrH103, m111, m112, m113, m114, hTH103⟩ := pH103
    subst hvH103
    have g115 : CG (avw K H103 b) := CG.congr (fun k hk j => av_eff hT kH103 gb (by decide) (CG_eff [0, 30, 31] (by decide) k hk)) cg
    have g116 : TU (avw K H103 b) (svw K H103 b) := TU.congr (fun k hk j => av_eff hT kH103 gb (by decide) (TU_eff [0, 30, 31] (by decide) k hk)) (fun k hk => sv_eff hT kH103 gb (by decide)) tu
    have g117 : WD (avw K H103 b) := WD.congr (fun k hk j => av_eff hT kH103 gb (by decide) (WD_eff [0, 30, 31] (by decide) k hk)) wd
    have g118 : IM (avw K H103 b) := IM.congr (fun k hk j => av_eff hT kH103 gb (by decide) (IM_eff [0, 30, 31] (by decide) k hk)) im
    have f119 : ∀ j : Nat, j < 8 → fI H103 xn j = fI H xn j := fun j hj => (fI_kept (x_lt hT kH103 gxn (by decide))).trans (f0xn j hj)
    have f120 : ∀ j : Nat, j < 8 → fI H103 cl j = fI H cl j := fun j hj => (fI_kept (x_lt hT kH103 gcl (by decide))).trans (f0cl j hj)
    have f121 : ∀ j : Nat, j < 8 → fI H103 xl j = fI H xl j := fun j hj => (fI_kept (x_lt hT kH103 gxl (by decide))).trans (f0xl j hj)
    have f122 : ∀ j : Nat, j < 8 → fI H103 ck j = fI H ck j := fun j hj => (fI_kept (x_lt hT kH103 gck (by decide))).trans (f0ck j hj)
    have f123 : ∀ j : Nat, j < 8 → fI H103 xk j = fI H xk j := fun j hj => (fI_kept (x_lt hT kH103 gxk (by decide))).trans (f0xk j hj)
    have m124 := (ew).trans (fR_kept (x_lt hT kH103 ga (by decide))).symm
    have m125 := (eta).trans (fI_kept (x_lt hT kH103 ga (by decide))).symm
    have m126 := (etb).trans (fI_kept (x_lt hT kH103 gb (by decide))).symm
    have m127 := (ey1).trans (fI_kept (x_lt hT kH103 gb (by decide))).symm
    have m128 := (ey4).trans (fI_kept (x_lt hT kH103 gb (by decide))).symm
    have m129 := (ey5).trans (fI_kept (x_lt hT kH103 gb (by decide))).symm
    have m130 := (ey10).trans (fI_kept (x_lt hT kH103 gb (by decide))).symm
    have m131 := (ey13).trans (fI_kept (x_lt hT kH103 gb (by decide))).symm
    have m132 := (ey16).trans (fI_kept (x_lt hT kH103 gb (by decide))).symm
    have m133 := (exn).trans (fR_kept (x_lt hT kH103 gb (by decide))).symm
    have m134 := (exl).trans (fR_kept (x_lt hT kH103 gb (by decide))).symm
    have m135 := (exk).trans (fR_kept (x_lt hT kH103 gb (by decide))).symm
    have m136 := (ehi).trans (fI_kept (x_lt hT kH103 gb (by decide))).symm
    have m137 := (fV_kept (x_lt hT kH103 ga (by decide))).trans kn
    have bx105 := ty_fi (x := x105) (k := 1) ex105 hTH103 gw rg_0 rfl
    have bx106 := ty_fi (x := x106) (k := 4) ex106 hTH103 gw rg_0 rfl
    have bx107 := ty_fi (x := x107) (k := 5) ex107 hTH103 gw rg_0 rfl
    have bx108 := ty_fi (x := x108) (k := 10) ex108 hTH103 gw rg_0 rfl
    have bx109 := ty_fi (x := x109) (k := 13) ex109 hTH103 gw rg_0 rfl
    have bx110 := ty_fi (x := x110) (k := 16) ex110 hTH103 gw rg_0 rfl
    refine W.eq (g2 := F0 m 1296 ls [.int x104]) rfl ?_
    have f138 : ∀ j : Nat, j < 8 → fI H103 cn j = nuX ((xs (i.toNatClampNeg + 2))) s13 x109 (fun j => fI H cn j) j := fun j hj => (m114 j).trans (nu_b (f0cn j hj))
    clear eck ecl ecn ehi es1 es10 es13 es16 es4 es5 eta etb ew exk exl exn ey1 ey10 ey13 ey16 ey4 ey5 f0ck f0cl f0cn f0xk f0xl f0xn kn
    refine lv_pop hx hb dL_law_1296 rfl ?_
    refine lv_aload_n hx hb dL_law_1297 rfl (lv_at hl 1 rfl) ?_
    refine lv_aload_n hx hb dL_law_1298 rfl (lv_at hl 3 rfl) ?_
    refine lv_iload_n hx hb dL_law_1299 rfl (lv_at hl 0 rfl) ?_
    refine lv_iconst (v := 1) hx hb dL_law_1300 (by decide) ?_
    refine lv_iadd hx hb dL_law_1301 ?_
    refine lv_topi (fun x139 ex139 => ?_)
    obtain ⟨tx139, ejx139, evx139⟩ := lw_ix (k := 1) ex139 hI hL rfl (by decide)
    clear tx139
    refine va_sld hx hb hX hbl (Nat.not_le.mpr hbl) hSH103 (vp_in_iff.mpr evx139) dL_law_1302 ?_
    refine W.eq (g2 := F0 m 1303 ls [.int (xs (i.toNatClampNeg + 1)), .ref b]) (congrArg (fun z => F0 m 1303 ls [.int (xs z), .ref b]) ejx139) ?_
    refine lv_aload_n hx hb dL_law_1303 rfl (lv_at hl 3 rfl) ?_
    refine lv_iload_n hx hb dL_law_1304 rfl (lv_at hl 0 rfl) ?_
    refine lv_iconst (v := 2) hx hb dL_law_1305 (by decide) ?_
    refine lv_iadd hx hb dL_law_1306 ?_
    refine lv_topi (fun x140 ex140 => ?_)
    obtain ⟨tx140, ejx140, evx140⟩ := lw_ix (k := 2) ex140 hI hL rfl (by decide)
    clear tx140
    refine va_sld hx hb hX hbl (Nat.not_le.mpr hbl) hSH103 (vp_in_iff.mpr evx140) dL_law_1307 ?_
    refine W.eq (g2 := F0 m 1308 ls [.int (xs (i.toNatClampNeg + 2)), .int (xs (i.toNatClampNeg + 1)), .ref b]) (congrArg (fun z => F0 m 1308 ls [.int (xs z), .int (xs (i.toNatClampNeg + 1)), .ref b]) ejx140) ?_
    refine x_V (As := [.int (xs (i.toNatClampNeg + 1)), .int (xs (i.toNatClampNeg + 2))]) (rest := []) C (a_X10_note_n l K G H103 ((xs (i.toNatClampNeg + 1))) ((xs (i.toNatClampNeg + 2))) (y13) hTH103 gb gxn m133 m131 g115 g116 g117 g118) yo_X10_note wM_L_136 ⟨⟨by decide, by decide⟩, show _ ≤ 284929 from Nat.le_trans hc (by decide), show _ ≤ 8247460 from Nat.le_trans hs (by decide)⟩ (x_rv C hTH103 (ci := 10) rfl gb rg_112) rfl hl.1 rfl (Nat.le_of_ble_eq_true rfl) dL_law_1308 hSH103 (AE_new hN hSH103.1) (fun vH141 H141 locsH141 pH141 zH141 kH141 hSH141 => ?_)
    obtain ⟨x142, x143, hvH141, ex143, hrH141, m144, g145, g146, g147, g148, mf149, m150, hTH141⟩ := pH141
    subst hvH141
    have f151 : ∀ j : Nat, j < 8 → fI H141 cl j = fI H cl j := fun j hj => (fI_kept (x_lt hTH103 kH141 gcl (by decide))).trans (f120 j hj)
    have f152 : ∀ j : Nat, j < 8 → fI H141 xl j = fI H xl j := fun j hj => (fI_kept (x_lt hTH103 kH141 gxl (by decide))).trans (f121 j hj)
    have f153 : ∀ j : Nat, j < 8 → fI H141 ck j = fI H ck j := fun j hj => (fI_kept (x_lt hTH103 kH141 gck (by decide))).trans (f122 j hj)
    have f154 : ∀ j : Nat, j < 8 → fI H141 xk j = fI H xk j := fun j hj => (fI_kept (x_lt hTH103 kH141 gxk (by decide))).trans (f123 j hj)
    have f155 : ∀ j : Nat, j < 8 → fI H141 cn j = nuX ((xs (i.toNatClampNeg + 2))) s13 x109 (fun j => fI H cn j) j := fun j hj => (fI_kept (x_lt hTH103 kH141 gcn (by decide))).trans (f138 j hj)
    have m156 := (m124).trans (fR_kept (x_lt hTH103 kH141 ga (by decide))).symm
    have m157 := (m125).trans (fI_kept (x_lt hTH103 kH141 ga (by decide))).symm
    have m158 := (fV_kept (x_lt hTH103 kH141 ga (by decide))).trans m137
    have m159 := (m111).trans (fR_kept (x_lt hTH103 kH141 gw (by decide))).symm
    have m160 := (m112).trans (fR_kept (x_lt hTH103 kH141 gw (by decide))).symm
    have m161 := (m113).trans (fR_kept (x_lt hTH103 kH141 gw (by decide))).symm
    have m162 := (ex105).trans (fI_kept (x_lt hTH103 kH141 gw (by decide))).symm
    have m163 := (ex106).trans (fI_kept (x_lt hTH103 kH141 gw (by decide))).symm
    have m164 := (ex107).trans (fI_kept (x_lt hTH103 kH141 gw (by decide))).symm
    have m165 := (ex108).trans (fI_kept (x_lt hTH103 kH141 gw (by decide))).symm
    have m166 := (ex109).trans (fI_kept (x_lt hTH103 kH141 gw (by decide))).symm
    have m167 := (ex110).trans (fI_kept (x_lt hTH103 kH141 gw (by decide))).symm
    have m168 := (m126).trans (MF.i mf149 (k := 18) (by decide) (by decide)).symm
    have m169 := (m127).trans (MF.i mf149 (k := 1) (by decide) (by decide)).symm
    have m170 := (m128).trans (MF.i mf149 (k := 2) (by decide) (by decide)).symm
    have m171 := (m129).trans (MF.i mf149 (k := 3) (by decide) (by decide)).symm
    have m172 := (m130).trans (MF.i mf149 (k := 59) (by decide) (by decide)).symm
    have m173 := (m132).trans (MF.i mf149 (k := 65) (by decide) (by decide)).symm
    have m174 := (m133).trans (MF.r mf149 (k := 64) (by decide) (by decide)).symm
    have m175 := (m134).trans (MF.r mf149 (k := 66) (by decide) (by decide)).symm
    have m176 := (m135).trans (MF.r mf149 (k := 67) (by decide) (by decide)).symm
    have m177 := (m136).trans (MF.i mf149 (k := 70) (by decide) (by decide)).symm
    have bx143 := ty_fi (x := x143) (k := 62) ex143 hTH141 gb rg_112 rfl
    refine W.eq (g2 := F0 m 1311 ls [.int x142]) rfl ?_
    have f178 : ∀ j : Nat, j < 8 → fI H141 xn j = nuX ((xs (i.toNatClampNeg + 2))) y13 x143 (fun j => fI H xn j) j := fun j hj => (m150 j).trans (nu_b (f119 j hj))
    clear ex105 ex106 ex107 ex108 ex109 ex110 f119 f120 f121 f122 f123 f138 m111 m112 m113 m124 m125 m126 m127 m128 m129 m130 m131 m132 m133 m134 m135 m136 m137
    refine lv_pop hx hb dL_law_1311 rfl ?_
    refine lv_goto (tgt := 1509) hx hb dL_law_1312 (by decide) ?_
    have hu179 : EQR (fun j => nuX ((xs (i.toNatClampNeg + 2))) s13 x109 (fun j => fI H cn j) j) (fun j => nuX ((xs (i.toNatClampNeg + 2))) y13 x143 (fun j => fI H xn j) j) x143.toInt := EQR.nu hrn (by omega) (by omega) (by omega) (by omega) (by omega)
    exact nx G H141 locsH141 _ _ ls ⟨hTH141, hN, ga, gb, g145, g146, g147, g148, ⟨(by rw [← m157, ← m168]; exact rt), (by rw [← m156, ← m162, ← m169]; omega), (by rw [← m156, ← m163, ← m170]; omega), (by rw [← m156, ← m164, ← m171]; omega), (by rw [← m156, ← m165, ← m172]; omega), (by rw [← m156, ← m166, ← ex143]; omega), (by rw [← m156, ← m167, ← m173]; omega)⟩, Or.inl ⟨m158, (by rw [← m177]; exact h70)⟩, ⟨(by rw [← m156, ← m159, ← m144, ← ex143]; exact EQR.of hu179 (fun j hj => f155 j (by omega)) (fun j hj => f178 j (by omega)) (by omega)), (by rw [← m156, ← m160, ← m175, ← m173]; exact EQR.of hrl (fun j hj => f151 j (by omega)) (fun j hj => f152 j (by omega)) (by omega)), (by rw [← m156, ← m161, ← m176, ← m173]; exact EQR.of hrk (fun j hj => f153 j (by omega)) (fun j hj => f154 j (by omega)) (by omega))⟩, hSH141⟩ hl ⟨hc, hs, fun _ => ⟨hc0, hs0⟩⟩
  · skip
    obtain ⟨hi, ehi⟩ : ∃ z : Int32, z = fI H b (K.1.2 10 70) := ⟨_, rfl⟩
    rw [← ehi] at h70
    obtain ⟨iq, eiq⟩ : ∃ z : Nat, z = fR H b (K.1.2 10 73) := ⟨_, rfl⟩
    have giq := ty_fr (q := iq) (k := 73) (u := 162) eiq hT gb rg_112 rfl
    rw [← eiq] at q1 q4 q5 q10 q13 q16
    obtain ⟨k1, ek1⟩ : ∃ z : Int32, z = fI H kq (K.1.2 8 1) := ⟨_, rfl⟩
    rw [← ek1] at q1
    obtain ⟨i1, ei1⟩ : ∃ z : Int32, z = fI H iq ((0 : Int32).toNatClampNeg) := ⟨_, rfl⟩
    rw [← ei1] at q1
    obtain ⟨k4, ek4⟩ : ∃ z : Int32, z = fI H kq (K.1.2 8 4) := ⟨_, rfl⟩
    rw [← ek4] at q4
    obtain ⟨i4, ei4⟩ : ∃ z : Int32, z = fI H iq ((1 : Int32).toNatClampNeg) := ⟨_, rfl⟩
    rw [← ei4] at q4
    obtain ⟨k5, ek5⟩ : ∃ z : Int32, z = fI H kq (K.1.2 8 5) := ⟨_, rfl⟩
    rw [← ek5] at q5
    obtain ⟨i5, ei5⟩ : ∃ z : Int32, z = fI H iq ((2 : Int32).toNatClampNeg) := ⟨_, rfl⟩
    rw [← ei5] at q5
    obtain ⟨k10, ek10⟩ : ∃ z : Int32, z = fI H kq (K.1.2 8 10) := ⟨_, rfl⟩
    rw [← ek10] at q10
    obtain ⟨i10, ei10⟩ : ∃ z : Int32, z = fI H iq ((3 : Int32).toNatClampNeg) := ⟨_, rfl⟩
    rw [← ei10] at q10
    obtain ⟨k13, ek13⟩ : ∃ z : Int32, z = fI H kq (K.1.2 8 13) := ⟨_, rfl⟩
    rw [← ek13] at q13
    obtain ⟨i13, ei13⟩ : ∃ z : Int32, z = fI H iq ((4 : Int32).toNatClampNeg) := ⟨_, rfl⟩
    rw [← ei13] at q13
    obtain ⟨k16, ek16⟩ : ∃ z : Int32, z = fI H kq (K.1.2 8 16) := ⟨_, rfl⟩
    rw [← ek16] at q16
    obtain ⟨i16, ei16⟩ : ∃ z : Int32, z = fI H iq ((5 : Int32).toNatClampNeg) := ⟨_, rfl⟩
    rw [← ei16] at q16
    obtain ⟨dn, edn⟩ : ∃ z : Nat, z = fR H kq (K.1.2 8 12) := ⟨_, rfl⟩
    have gdn := ty_fr (q := dn) (k := 12) (u := 65) edn hT gkq rg_34 rfl
    obtain ⟨dl, edl⟩ : ∃ z : Nat, z = fR H kq (K.1.2 8 14) := ⟨_, rfl⟩
    have gdl := ty_fr (q := dl) (k := 14) (u := 66) edl hT gkq rg_34 rfl
    obtain ⟨dk, edk⟩ : ∃ z : Nat, z = fR H kq (K.1.2 8 15) := ⟨_, rfl⟩
    have gdk := ty_fr (q := dk) (k := 15) (u := 67) edk hT gkq rg_34 rfl
    have hsn : EQR (fun j => fI H dn j) (fun j => fI H iq (8877 + 4 * j)) k13.toInt := by rw [edn, eiq, ek13]; exact hq1
    have hsl : EQR (fun j => fI H dl j) (fun j => fI H iq (8878 + 4 * j)) k16.toInt := by rw [edl, eiq, ek16]; exact hq2
    have hsk : EQR (fun j => fI H dk j) (fun j => fI H iq (8879 + 4 * j)) k16.toInt := by rw [edk, eiq, ek16]; exact hq3
    have bk13 := ty_fi (x := k13) (k := 13) ek13 hT gkq rg_34 rfl
    have bk16 := ty_fi (x := k16) (k := 16) ek16 hT gkq rg_34 rfl
    have f0dn : ∀ j : Nat, j < 8 → fI H dn j = fI H dn j := fun _ _ => rfl
    have f0dl : ∀ j : Nat, j < 8 → fI H dl j = fI H dl j := fun _ _ => rfl
    have f0dk : ∀ j : Nat, j < 8 → fI H dk j = fI H dk j := fun _ _ => rfl
    have f0i : ∀ j : Nat, fI H iq j = fI H iq j := fun _ => rfl
    refine lv_aload_n hx hb dL_law_1282 rfl (lv_at hl 2 rfl) ?_
    refine lv_aload_n hx hb dL_law_1283 rfl (lv_at hl 3 rfl) ?_
    refine lv_iload_n hx hb dL_law_1284 rfl (lv_at hl 0 rfl) ?_
    refine lv_iconst (v := 1) hx hb dL_law_1285 (by decide) ?_
    refine lv_iadd hx hb dL_law_1286 ?_
    refine lv_topi (fun x180 ex180 => ?_)
    obtain ⟨tx180, ejx180, evx180⟩ := lw_ix (k := 1) ex180 hI hL rfl (by decide)
    clear tx180
    refine va_sld hx hb hX hbl (Nat.not_le.mpr hbl) hS (vp_in_iff.mpr evx180) dL_law_1287 ?_
    refine W.eq (g2 := F0 m 1288 ls [.int (xs (i.toNatClampNeg + 1)), .ref a]) (congrArg (fun z => F0 m 1288 ls [.int (xs z), .ref a]) ejx180) ?_
    refine lv_aload_n hx hb dL_law_1288 rfl (lv_at hl 3 rfl) ?_
    refine lv_iload_n hx hb dL_law_1289 rfl (lv_at hl 0 rfl) ?_
    refine lv_iconst (v := 2) hx hb dL_law_1290 (by decide) ?_
    refine lv_iadd hx hb dL_law_1291 ?_
    refine lv_topi (fun x181 ex181 => ?_)
    obtain ⟨tx181, ejx181, evx181⟩ := lw_ix (k := 2) ex181 hI hL rfl (by decide)
    clear tx181
    refine va_sld hx hb hX hbl (Nat.not_le.mpr hbl) hS (vp_in_iff.mpr evx181) dL_law_1292 ?_
    refine W.eq (g2 := F0 m 1293 ls [.int (xs (i.toNatClampNeg + 2)), .int (xs (i.toNatClampNeg + 1)), .ref a]) (congrArg (fun z => F0 m 1293 ls [.int (xs z), .int (xs (i.toNatClampNeg + 1)), .ref a]) ejx181) ?_
    refine x_V (As := [.int (xs (i.toNatClampNeg + 1)), .int (xs (i.toNatClampNeg + 2))]) (rest := []) C (a_X9_note_n l K G H ((xs (i.toNatClampNeg + 1))) ((xs (i.toNatClampNeg + 2))) (s1) (s4) (s5) (s10) (s13) (s16) hT ga gw ew gcn ecn gcl ecl gck eck es1 es4 es5 es10 es13 es16) yo_X9_note wM_L_133 ⟨⟨by decide, by decide⟩, show _ ≤ 284929 from Nat.le_trans hc (by decide), show _ ≤ 8247460 from Nat.le_trans hs (by decide)⟩ (x_rv C hT (ci := 9) rfl ga rg_68) rfl hl.1 rfl (Nat.le_of_ble_eq_true rfl) dL_law_1293 hS (AE_new hN hS.1) (fun vH182 H182 locsH182 pH182 zH182 kH182 hSH182 => ?_)
    obtain ⟨x183, x184, x185, x186, x187, x188, x189, hvH182, ex184, ex185, ex186, ex187, ex188, ex189, hrH182, m190, m191, m192, m193, hTH182⟩ := pH182
    subst hvH182
    have g194 : CG (avw K H182 b) := CG.congr (fun k hk j => av_eff hT kH182 gb (by decide) (CG_eff [0, 30, 31] (by decide) k hk)) cg
    have g195 : TU (avw K H182 b) (svw K H182 b) := TU.congr (fun k hk j => av_eff hT kH182 gb (by decide) (TU_eff [0, 30, 31] (by decide) k hk)) (fun k hk => sv_eff hT kH182 gb (by decide)) tu
    have g196 : WD (avw K H182 b) := WD.congr (fun k hk j => av_eff hT kH182 gb (by decide) (WD_eff [0, 30, 31] (by decide) k hk)) wd
    have g197 : IM (avw K H182 b) := IM.congr (fun k hk j => av_eff hT kH182 gb (by decide) (IM_eff [0, 30, 31] (by decide) k hk)) im
    have f198 : ∀ j : Nat, j < 8 → fI H182 xn j = fI H xn j := fun j hj => (fI_kept (x_lt hT kH182 gxn (by decide))).trans (f0xn j hj)
    have f199 : ∀ j : Nat, j < 8 → fI H182 cl j = fI H cl j := fun j hj => (fI_kept (x_lt hT kH182 gcl (by decide))).trans (f0cl j hj)
    have f200 : ∀ j : Nat, j < 8 → fI H182 xl j = fI H xl j := fun j hj => (fI_kept (x_lt hT kH182 gxl (by decide))).trans (f0xl j hj)
    have f201 : ∀ j : Nat, j < 8 → fI H182 ck j = fI H ck j := fun j hj => (fI_kept (x_lt hT kH182 gck (by decide))).trans (f0ck j hj)
    have f202 : ∀ j : Nat, j < 8 → fI H182 xk j = fI H xk j := fun j hj => (fI_kept (x_lt hT kH182 gxk (by decide))).trans (f0xk j hj)
    have f203 : ∀ j : Nat, j < 8 → fI H182 dn j = fI H dn j := fun j hj => (fI_kept (x_lt hT kH182 gdn (by decide))).trans (f0dn j hj)
    have f204 : ∀ j : Nat, j < 8 → fI H182 dl j = fI H dl j := fun j hj => (fI_kept (x_lt hT kH182 gdl (by decide))).trans (f0dl j hj)
    have f205 : ∀ j : Nat, j < 8 → fI H182 dk j = fI H dk j := fun j hj => (fI_kept (x_lt hT kH182 gdk (by decide))).trans (f0dk j hj)
    have f206 : ∀ j : Nat, fI H182 iq j = fI H iq j := fun j => (fI_kept (x_lt hT kH182 giq (by decide))).trans (f0i j)
    have m207 := (ew).trans (fR_kept (x_lt hT kH182 ga (by decide))).symm
    have m208 := (eta).trans (fI_kept (x_lt hT kH182 ga (by decide))).symm
    have m209 := (etb).trans (fI_kept (x_lt hT kH182 gb (by decide))).symm
    have m210 := (ey1).trans (fI_kept (x_lt hT kH182 gb (by decide))).symm
    have m211 := (ey4).trans (fI_kept (x_lt hT kH182 gb (by decide))).symm
    have m212 := (ey5).trans (fI_kept (x_lt hT kH182 gb (by decide))).symm
    have m213 := (ey10).trans (fI_kept (x_lt hT kH182 gb (by decide))).symm
    have m214 := (ey13).trans (fI_kept (x_lt hT kH182 gb (by decide))).symm
    have m215 := (ey16).trans (fI_kept (x_lt hT kH182 gb (by decide))).symm
    have m216 := (exn).trans (fR_kept (x_lt hT kH182 gb (by decide))).symm
    have m217 := (exl).trans (fR_kept (x_lt hT kH182 gb (by decide))).symm
    have m218 := (exk).trans (fR_kept (x_lt hT kH182 gb (by decide))).symm
    have m219 := (ehi).trans (fI_kept (x_lt hT kH182 gb (by decide))).symm
    have m220 := (fV_kept (x_lt hT kH182 ga (by decide))).trans kn
    have m221 := (eiq).trans (fR_kept (x_lt hT kH182 gb (by decide))).symm
    have m222 := (ek1).trans (fI_kept (x_lt hT kH182 gkq (by decide))).symm
    have m223 := (ei1).trans (fI_kept (x_lt hT kH182 giq (by decide))).symm
    have m224 := (ek4).trans (fI_kept (x_lt hT kH182 gkq (by decide))).symm
    have m225 := (ei4).trans (fI_kept (x_lt hT kH182 giq (by decide))).symm
    have m226 := (ek5).trans (fI_kept (x_lt hT kH182 gkq (by decide))).symm
    have m227 := (ei5).trans (fI_kept (x_lt hT kH182 giq (by decide))).symm
    have m228 := (ek10).trans (fI_kept (x_lt hT kH182 gkq (by decide))).symm
    have m229 := (ei10).trans (fI_kept (x_lt hT kH182 giq (by decide))).symm
    have m230 := (ek13).trans (fI_kept (x_lt hT kH182 gkq (by decide))).symm
    have m231 := (ei13).trans (fI_kept (x_lt hT kH182 giq (by decide))).symm
    have m232 := (ek16).trans (fI_kept (x_lt hT kH182 gkq (by decide))).symm
    have m233 := (ei16).trans (fI_kept (x_lt hT kH182 giq (by decide))).symm
    have m234 := (edn).trans (fR_kept (x_lt hT kH182 gkq (by decide))).symm
    have m235 := (edl).trans (fR_kept (x_lt hT kH182 gkq (by decide))).symm
    have m236 := (edk).trans (fR_kept (x_lt hT kH182 gkq (by decide))).symm
    have bx184 := ty_fi (x := x184) (k := 1) ex184 hTH182 gw rg_0 rfl
    have bx185 := ty_fi (x := x185) (k := 4) ex185 hTH182 gw rg_0 rfl
    have bx186 := ty_fi (x := x186) (k := 5) ex186 hTH182 gw rg_0 rfl
    have bx187 := ty_fi (x := x187) (k := 10) ex187 hTH182 gw rg_0 rfl
    have bx188 := ty_fi (x := x188) (k := 13) ex188 hTH182 gw rg_0 rfl
    have bx189 := ty_fi (x := x189) (k := 16) ex189 hTH182 gw rg_0 rfl
    refine W.eq (g2 := F0 m 1296 ls [.int x183]) rfl ?_
    have f237 : ∀ j : Nat, j < 8 → fI H182 cn j = nuX ((xs (i.toNatClampNeg + 2))) s13 x188 (fun j => fI H cn j) j := fun j hj => (m193 j).trans (nu_b (f0cn j hj))
    clear eck ecl ecn edk edl edn ehi ei1 ei10 ei13 ei16 ei4 ei5 eiq ek1 ek10 ek13 ek16 ek4 ek5 es1 es10 es13 es16 es4 es5 eta etb ew exk exl exn ey1 ey10 ey13 ey16 ey4 ey5 f0ck f0cl f0cn f0dk f0dl f0dn f0i f0xk f0xl f0xn kn
    refine lv_pop hx hb dL_law_1296 rfl ?_
    refine lv_aload_n hx hb dL_law_1297 rfl (lv_at hl 1 rfl) ?_
    refine lv_aload_n hx hb dL_law_1298 rfl (lv_at hl 3 rfl) ?_
    refine lv_iload_n hx hb dL_law_1299 rfl (lv_at hl 0 rfl) ?_
    refine lv_iconst (v := 1) hx hb dL_law_1300 (by decide) ?_
    refine lv_iadd hx hb dL_law_1301 ?_
    refine lv_topi (fun x238 ex238 => ?_)
    obtain ⟨tx238, ejx238, evx238⟩ := lw_ix (k := 1) ex238 hI hL rfl (by decide)
    clear tx238
    refine va_sld hx hb hX hbl (Nat.not_le.mpr hbl) hSH182 (vp_in_iff.mpr evx238) dL_law_1302 ?_
    refine W.eq (g2 := F0 m 1303 ls [.int (xs (i.toNatClampNeg + 1)), .ref b]) (congrArg (fun z => F0 m 1303 ls [.int (xs z), .ref b]) ejx238) ?_
    refine lv_aload_n hx hb dL_law_1303 rfl (lv_at hl 3 rfl) ?_
    refine lv_iload_n hx hb dL_law_1304 rfl (lv_at hl 0 rfl) ?_
    refine lv_iconst (v := 2) hx hb dL_law_1305 (by decide) ?_
    refine lv_iadd hx hb dL_law_1306 ?_
    refine lv_topi (fun x239 ex239 => ?_)
    obtain ⟨tx239, ejx239, evx239⟩ := lw_ix (k := 2) ex239 hI hL rfl (by decide)
    clear tx239
    refine va_sld hx hb hX hbl (Nat.not_le.mpr hbl) hSH182 (vp_in_iff.mpr evx239) dL_law_1307 ?_
    refine W.eq (g2 := F0 m 1308 ls [.int (xs (i.toNatClampNeg + 2)), .int (xs (i.toNatClampNeg + 1)), .ref b]) (congrArg (fun z => F0 m 1308 ls [.int (xs z), .int (xs (i.toNatClampNeg + 1)), .ref b]) ejx239) ?_
    refine x_V (As := [.int (xs (i.toNatClampNeg + 1)), .int (xs (i.toNatClampNeg + 2))]) (rest := []) C (a_X10_note_n l K G H182 ((xs (i.toNatClampNeg + 1))) ((xs (i.toNatClampNeg + 2))) (y13) hTH182 gb gxn m216 m214 g194 g195 g196 g197) yo_X10_note wM_L_136 ⟨⟨by decide, by decide⟩, show _ ≤ 284929 from Nat.le_trans hc (by decide), show _ ≤ 8247460 from Nat.le_trans hs (by decide)⟩ (x_rv C hTH182 (ci := 10) rfl gb rg_112) rfl hl.1 rfl (Nat.le_of_ble_eq_true rfl) dL_law_1308 hSH182 (AE_new hN hSH182.1) (fun vH240 H240 locsH240 pH240 zH240 kH240 hSH240 => ?_)
    obtain ⟨x241, x242, hvH240, ex242, hrH240, m243, g244, g245, g246, g247, mf248, m249, hTH240⟩ := pH240
    subst hvH240
    have f250 : ∀ j : Nat, j < 8 → fI H240 cl j = fI H cl j := fun j hj => (fI_kept (x_lt hTH182 kH240 gcl (by decide))).trans (f199 j hj)
    have f251 : ∀ j : Nat, j < 8 → fI H240 xl j = fI H xl j := fun j hj => (fI_kept (x_lt hTH182 kH240 gxl (by decide))).trans (f200 j hj)
    have f252 : ∀ j : Nat, j < 8 → fI H240 ck j = fI H ck j := fun j hj => (fI_kept (x_lt hTH182 kH240 gck (by decide))).trans (f201 j hj)
    have f253 : ∀ j : Nat, j < 8 → fI H240 xk j = fI H xk j := fun j hj => (fI_kept (x_lt hTH182 kH240 gxk (by decide))).trans (f202 j hj)
    have f254 : ∀ j : Nat, j < 8 → fI H240 dn j = fI H dn j := fun j hj => (fI_kept (x_lt hTH182 kH240 gdn (by decide))).trans (f203 j hj)
    have f255 : ∀ j : Nat, j < 8 → fI H240 dl j = fI H dl j := fun j hj => (fI_kept (x_lt hTH182 kH240 gdl (by decide))).trans (f204 j hj)
    have f256 : ∀ j : Nat, j < 8 → fI H240 dk j = fI H dk j := fun j hj => (fI_kept (x_lt hTH182 kH240 gdk (by decide))).trans (f205 j hj)
    have f257 : ∀ j : Nat, fI H240 iq j = fI H iq j := fun j => (fI_kept (x_lt hTH182 kH240 giq (by decide))).trans (f206 j)
    have f258 : ∀ j : Nat, j < 8 → fI H240 cn j = nuX ((xs (i.toNatClampNeg + 2))) s13 x188 (fun j => fI H cn j) j := fun j hj => (fI_kept (x_lt hTH182 kH240 gcn (by decide))).trans (f237 j hj)
    have m259 := (m207).trans (fR_kept (x_lt hTH182 kH240 ga (by decide))).symm
    have m260 := (m208).trans (fI_kept (x_lt hTH182 kH240 ga (by decide))).symm
    have m261 := (fV_kept (x_lt hTH182 kH240 ga (by decide))).trans m220
    have m262 := (m222).trans (fI_kept (x_lt hTH182 kH240 gkq (by decide))).symm
    have m263 := (m223).trans (fI_kept (x_lt hTH182 kH240 giq (by decide))).symm
    have m264 := (m224).trans (fI_kept (x_lt hTH182 kH240 gkq (by decide))).symm
    have m265 := (m225).trans (fI_kept (x_lt hTH182 kH240 giq (by decide))).symm
    have m266 := (m226).trans (fI_kept (x_lt hTH182 kH240 gkq (by decide))).symm
    have m267 := (m227).trans (fI_kept (x_lt hTH182 kH240 giq (by decide))).symm
    have m268 := (m228).trans (fI_kept (x_lt hTH182 kH240 gkq (by decide))).symm
    have m269 := (m229).trans (fI_kept (x_lt hTH182 kH240 giq (by decide))).symm
    have m270 := (m230).trans (fI_kept (x_lt hTH182 kH240 gkq (by decide))).symm
    have m271 := (m231).trans (fI_kept (x_lt hTH182 kH240 giq (by decide))).symm
    have m272 := (m232).trans (fI_kept (x_lt hTH182 kH240 gkq (by decide))).symm
    have m273 := (m233).trans (fI_kept (x_lt hTH182 kH240 giq (by decide))).symm
    have m274 := (m234).trans (fR_kept (x_lt hTH182 kH240 gkq (by decide))).symm
    have m275 := (m235).trans (fR_kept (x_lt hTH182 kH240 gkq (by decide))).symm
    have m276 := (m236).trans (fR_kept (x_lt hTH182 kH240 gkq (by decide))).symm
    have m277 := (m190).trans (fR_kept (x_lt hTH182 kH240 gw (by decide))).symm
    have m278 := (m191).trans (fR_kept (x_lt hTH182 kH240 gw (by decide))).symm
    have m279 := (m192).trans (fR_kept (x_lt hTH182 kH240 gw (by decide))).symm
    have m280 := (ex184).trans (fI_kept (x_lt hTH182 kH240 gw (by decide))).symm
    have m281 := (ex185).trans (fI_kept (x_lt hTH182 kH240 gw (by decide))).symm
    have m282 := (ex186).trans (fI_kept (x_lt hTH182 kH240 gw (by decide))).symm
    have m283 := (ex187).trans (fI_kept (x_lt hTH182 kH240 gw (by decide))).symm
    have m284 := (ex188).trans (fI_kept (x_lt hTH182 kH240 gw (by decide))).symm
    have m285 := (ex189).trans (fI_kept (x_lt hTH182 kH240 gw (by decide))).symm
    have m286 := (m209).trans (MF.i mf248 (k := 18) (by decide) (by decide)).symm
    have m287 := (m210).trans (MF.i mf248 (k := 1) (by decide) (by decide)).symm
    have m288 := (m211).trans (MF.i mf248 (k := 2) (by decide) (by decide)).symm
    have m289 := (m212).trans (MF.i mf248 (k := 3) (by decide) (by decide)).symm
    have m290 := (m213).trans (MF.i mf248 (k := 59) (by decide) (by decide)).symm
    have m291 := (m215).trans (MF.i mf248 (k := 65) (by decide) (by decide)).symm
    have m292 := (m216).trans (MF.r mf248 (k := 64) (by decide) (by decide)).symm
    have m293 := (m217).trans (MF.r mf248 (k := 66) (by decide) (by decide)).symm
    have m294 := (m218).trans (MF.r mf248 (k := 67) (by decide) (by decide)).symm
    have m295 := (m219).trans (MF.i mf248 (k := 70) (by decide) (by decide)).symm
    have m296 := (m221).trans (MF.r mf248 (k := 73) (by decide) (by decide)).symm
    have bx242 := ty_fi (x := x242) (k := 62) ex242 hTH240 gb rg_112 rfl
    refine W.eq (g2 := F0 m 1311 ls [.int x241]) rfl ?_
    have f297 : ∀ j : Nat, j < 8 → fI H240 xn j = nuX ((xs (i.toNatClampNeg + 2))) y13 x242 (fun j => fI H xn j) j := fun j hj => (m249 j).trans (nu_b (f198 j hj))
    clear ex184 ex185 ex186 ex187 ex188 ex189 f198 f199 f200 f201 f202 f203 f204 f205 f206 f237 m190 m191 m192 m207 m208 m209 m210 m211 m212 m213 m214 m215 m216 m217 m218 m219 m220 m221 m222 m223 m224 m225 m226 m227 m228 m229 m230 m231 m232 m233 m234 m235 m236
    refine lv_pop hx hb dL_law_1311 rfl ?_
    refine lv_goto (tgt := 1509) hx hb dL_law_1312 (by decide) ?_
    have hu298 : EQR (fun j => nuX ((xs (i.toNatClampNeg + 2))) s13 x188 (fun j => fI H cn j) j) (fun j => nuX ((xs (i.toNatClampNeg + 2))) y13 x242 (fun j => fI H xn j) j) x242.toInt := EQR.nu hrn (by omega) (by omega) (by omega) (by omega) (by omega)
    exact nx G H240 locsH240 _ _ ls ⟨hTH240, hN, ga, gb, g244, g245, g246, g247, ⟨(by rw [← m260, ← m286]; exact rt), (by rw [← m259, ← m280, ← m287]; omega), (by rw [← m259, ← m281, ← m288]; omega), (by rw [← m259, ← m282, ← m289]; omega), (by rw [← m259, ← m283, ← m290]; omega), (by rw [← m259, ← m284, ← ex242]; omega), (by rw [← m259, ← m285, ← m291]; omega)⟩, Or.inr ⟨kq, m261, gkq, (by rw [← m295]; exact h70), (by rw [← m262, ← m296, ← m263]; exact q1), (by rw [← m264, ← m296, ← m265]; exact q4), (by rw [← m266, ← m296, ← m267]; exact q5), (by rw [← m268, ← m296, ← m269]; exact q10), (by rw [← m270, ← m296, ← m271]; exact q13), (by rw [← m272, ← m296, ← m273]; exact q16), (by rw [← m274, ← m296, ← m270]; exact EQR.of hsn (fun j hj => f254 j (by omega)) (fun j hj => f257 _) (by omega)), (by rw [← m275, ← m296, ← m272]; exact EQR.of hsl (fun j hj => f255 j (by omega)) (fun j hj => f257 _) (by omega)), (by rw [← m276, ← m296, ← m272]; exact EQR.of hsk (fun j hj => f256 j (by omega)) (fun j hj => f257 _) (by omega))⟩, ⟨(by rw [← m259, ← m277, ← m243, ← ex242]; exact EQR.of hu298 (fun j hj => f258 j (by omega)) (fun j hj => f297 j (by omega)) (by omega)), (by rw [← m259, ← m278, ← m293, ← m291]; exact EQR.of hrl (fun j hj => f250 j (by omega)) (fun j hj => f251 j (by omega)) (by omega)), (by rw [← m259, ← m279, ← m294, ← m291]; exact EQR.of hrk (fun j hj => f252 j (by omega)) (fun j hj => f253 j (by omega)) (by omega))⟩, hSH240⟩ hl ⟨hc, hs, fun h => by have h1 := h.symm.trans m261; cases h1⟩
set_option maxRecDepth 100000 in
set_option maxHeartbeats 8000000 in
theorem lw_c29 {p : Program} {l : Launch} {e : Env} {s : State} {m : MethodId} {below : List Frame} {meth : Method} {c : Code} {K : KE} {b0 L : Nat} {xs : Nat → Int32} {G : Nat → Option Nat} {H : Heap} {locs : List Loc} {a b : Nat} {cells slots : Nat} {ls : Array Slot} {i : Int32} {n : Nat} (D : LC p K s m meth c b0 L xs) (S : SX K s G H locs a b) (hl : lv_has ls 4 [(3, .int i), (2, .ref b), (1, .ref a), (0, .ref b0)]) (hi : 0 ≤ i.toInt ∧ i.toInt + 6 ≤ L) (hn : n ≤ 511) (hB : BD K H a cells slots) (nx : ∀ (G : Nat → Option Nat) (H : Heap) (locs : List Loc) (cells slots : Nat) (ls : Array Slot), SX K s G H locs a b → lv_has ls 4 [(3, .int i), (2, .ref b), (1, .ref a), (0, .ref b0)] → BD K H a cells slots → W p l e room_1 s m #[Value.ref b0] below meth c H locs cells slots (lw_Z below #[Value.ref b0] s) (F0 m 1509 ls [])) : W p l e room_1 s m #[Value.ref b0] below meth c H locs cells slots (lw_Z below #[Value.ref b0] s) (F0 m 1315 ls []) := by
  have hI := hi
  obtain ⟨C, hX, hbl, hL⟩ := id D
  obtain ⟨hx, hb, hml, hown, hts, hKT, hr, hlocks, hnm⟩ := id C
  obtain ⟨hT, hN, ga, gb, cg, tu, wd, im, ⟨rt, r1, r4, r5, r10, r13, r16⟩, hk, hnb, hS⟩ := S
  obtain ⟨hc, hs, hB0⟩ := hB
  have n_1 : (1 : Int32).toInt = 1 := rfl
  have n_2 : (2 : Int32).toInt = 2 := rfl
  obtain ⟨w, ew⟩ : ∃ z : Nat, z = fR H a (K.1.2 9 0) := ⟨_, rfl⟩
  have gw := ty_fr (q := w) (k := 0) (u := 0) ew hT ga rg_68 rfl
  rw [← ew] at r1 r4 r5 r10 r13 r16
  obtain ⟨ta, eta⟩ : ∃ z : Int32, z = fI H a (K.1.2 9 3) := ⟨_, rfl⟩
  rw [← eta] at rt
  obtain ⟨tb, etb⟩ : ∃ z : Int32, z = fI H b (K.1.2 10 18) := ⟨_, rfl⟩
  rw [← etb] at rt
  obtain ⟨s1, es1⟩ : ∃ z : Int32, z = fI H w (K.1.2 8 1) := ⟨_, rfl⟩
  rw [← es1] at r1
  obtain ⟨y1, ey1⟩ : ∃ z : Int32, z = fI H b (K.1.2 10 1) := ⟨_, rfl⟩
  rw [← ey1] at r1
  obtain ⟨s4, es4⟩ : ∃ z : Int32, z = fI H w (K.1.2 8 4) := ⟨_, rfl⟩
  rw [← es4] at r4
  obtain ⟨y4, ey4⟩ : ∃ z : Int32, z = fI H b (K.1.2 10 2) := ⟨_, rfl⟩
  rw [← ey4] at r4
  obtain ⟨s5, es5⟩ : ∃ z : Int32, z = fI H w (K.1.2 8 5) := ⟨_, rfl⟩
  rw [← es5] at r5
  obtain ⟨y5, ey5⟩ : ∃ z : Int32, z = fI H b (K.1.2 10 3) := ⟨_, rfl⟩
  rw [← ey5] at r5
  obtain ⟨s10, es10⟩ : ∃ z : Int32, z = fI H w (K.1.2 8 10) := ⟨_, rfl⟩
  rw [← es10] at r10
  obtain ⟨y10, ey10⟩ : ∃ z : Int32, z = fI H b (K.1.2 10 59) := ⟨_, rfl⟩
  rw [← ey10] at r10
  obtain ⟨s13, es13⟩ : ∃ z : Int32, z = fI H w (K.1.2 8 13) := ⟨_, rfl⟩
  rw [← es13] at r13
  obtain ⟨y13, ey13⟩ : ∃ z : Int32, z = fI H b (K.1.2 10 62) := ⟨_, rfl⟩
  rw [← ey13] at r13
  obtain ⟨s16, es16⟩ : ∃ z : Int32, z = fI H w (K.1.2 8 16) := ⟨_, rfl⟩
  rw [← es16] at r16
  obtain ⟨y16, ey16⟩ : ∃ z : Int32, z = fI H b (K.1.2 10 65) := ⟨_, rfl⟩
  rw [← ey16] at r16
  obtain ⟨hb1, hb2, hb3⟩ := hnb
  obtain ⟨cn, ecn⟩ : ∃ z : Nat, z = fR H w (K.1.2 8 12) := ⟨_, rfl⟩
  have gcn := ty_fr (q := cn) (k := 12) (u := 31) ecn hT gw rg_0 rfl
  obtain ⟨xn, exn⟩ : ∃ z : Nat, z = fR H b (K.1.2 10 64) := ⟨_, rfl⟩
  have gxn := ty_fr (q := xn) (k := 64) (u := 157) exn hT gb rg_112 rfl
  obtain ⟨cl, ecl⟩ : ∃ z : Nat, z = fR H w (K.1.2 8 14) := ⟨_, rfl⟩
  have gcl := ty_fr (q := cl) (k := 14) (u := 32) ecl hT gw rg_0 rfl
  obtain ⟨xl, exl⟩ : ∃ z : Nat, z = fR H b (K.1.2 10 66) := ⟨_, rfl⟩
  have gxl := ty_fr (q := xl) (k := 66) (u := 158) exl hT gb rg_112 rfl
  obtain ⟨ck, eck⟩ : ∃ z : Nat, z = fR H w (K.1.2 8 15) := ⟨_, rfl⟩
  have gck := ty_fr (q := ck) (k := 15) (u := 33) eck hT gw rg_0 rfl
  obtain ⟨xk, exk⟩ : ∃ z : Nat, z = fR H b (K.1.2 10 67) := ⟨_, rfl⟩
  have gxk := ty_fr (q := xk) (k := 67) (u := 159) exk hT gb rg_112 rfl
  have hrn : EQR (fun j => fI H cn j) (fun j => fI H xn j) y13.toInt := by rw [ecn, exn, ew, ey13]; exact hb1
  have hrl : EQR (fun j => fI H cl j) (fun j => fI H xl j) y16.toInt := by rw [ecl, exl, ew, ey16]; exact hb2
  have hrk : EQR (fun j => fI H ck j) (fun j => fI H xk j) y16.toInt := by rw [eck, exk, ew, ey16]; exact hb3
  have by13 := ty_fi (x := y13) (k := 62) ey13 hT gb rg_112 rfl
  have by16 := ty_fi (x := y16) (k := 65) ey16 hT gb rg_112 rfl
  have f0cn : ∀ j : Nat, j < 8 → fI H cn j = fI H cn j := fun _ _ => rfl
  have f0xn : ∀ j : Nat, j < 8 → fI H xn j = fI H xn j := fun _ _ => rfl
  have f0cl : ∀ j : Nat, j < 8 → fI H cl j = fI H cl j := fun _ _ => rfl
  have f0xl : ∀ j : Nat, j < 8 → fI H xl j = fI H xl j := fun _ _ => rfl
  have f0ck : ∀ j : Nat, j < 8 → fI H ck j = fI H ck j := fun _ _ => rfl
  have f0xk : ∀ j : Nat, j < 8 → fI H xk j = fI H xk j := fun _ _ => rfl
  rcases hk with ⟨kn, h70⟩ | ⟨kq, kn, gkq, h70, q1, q4, q5, q10, q13, q16, hq1, hq2, hq3⟩
  · skip
    obtain ⟨hi, ehi⟩ : ∃ z : Int32, z = fI H b (K.1.2 10 70) := ⟨_, rfl⟩
    rw [← ehi] at h70
    obtain ⟨hc0, hs0⟩ := hB0 kn
    refine lv_aload_n hx hb dL_law_1315 rfl (lv_at hl 2 rfl) ?_
    refine lv_aload_n hx hb dL_law_1316 rfl (lv_at hl 3 rfl) ?_
    refine lv_iload_n hx hb dL_law_1317 rfl (lv_at hl 0 rfl) ?_
    refine lv_iconst (v := 1) hx hb dL_law_1318 (by decide) ?_
    refine lv_iadd hx hb dL_law_1319 ?_
    refine lv_topi (fun x101 ex101 => ?_)
    obtain ⟨tx101, ejx101, evx101⟩ := lw_ix (k := 1) ex101 hI hL rfl (by decide)
    clear tx101
    refine va_sld hx hb hX hbl (Nat.not_le.mpr hbl) hS (vp_in_iff.mpr evx101) dL_law_1320 ?_
    refine W.eq (g2 := F0 m 1321 ls [.int (xs (i.toNatClampNeg + 1)), .ref a]) (congrArg (fun z => F0 m 1321 ls [.int (xs z), .ref a]) ejx101) ?_
    refine lv_aload_n hx hb dL_law_1321 rfl (lv_at hl 3 rfl) ?_
    refine lv_iload_n hx hb dL_law_1322 rfl (lv_at hl 0 rfl) ?_
    refine lv_iconst (v := 2) hx hb dL_law_1323 (by decide) ?_
    refine lv_iadd hx hb dL_law_1324 ?_
    refine lv_topi (fun x102 ex102 => ?_)
    obtain ⟨tx102, ejx102, evx102⟩ := lw_ix (k := 2) ex102 hI hL rfl (by decide)
    clear tx102
    refine va_sld hx hb hX hbl (Nat.not_le.mpr hbl) hS (vp_in_iff.mpr evx102) dL_law_1325 ?_
    refine W.eq (g2 := F0 m 1326 ls [.int (xs (i.toNatClampNeg + 2)), .int (xs (i.toNatClampNeg + 1)), .ref a]) (congrArg (fun z => F0 m 1326 ls [.int (xs z), .int (xs (i.toNatClampNeg + 1)), .ref a]) ejx102) ?_
    refine x_V (As := [.int (xs (i.toNatClampNeg + 1)), .int (xs (i.toNatClampNeg + 2))]) (rest := []) C (a_X9_blank_n l K G H ((xs (i.toNatClampNeg + 1))) ((xs (i.toNatClampNeg + 2))) (s1) (s4) (s5) (s10) (s13) (s16) hT ga gw ew gcn ecn gcl ecl gck eck es1 es4 es5 es10 es13 es16) yo_X9_blank wM_L_137 ⟨⟨by decide, by decide⟩, show _ ≤ 284929 from Nat.le_trans hc (by decide), show _ ≤ 8247460 from Nat.le_trans hs (by decide)⟩ (x_rv C hT (ci := 9) rfl ga rg_68) rfl hl.1 rfl (Nat.le_of_ble_eq_true rfl) dL_law_1326 hS (AE_new hN hS.1) (fun vH103 H103 locsH103 pH103 zH103 kH103 hSH103 => ?_)
    obtain ⟨x104, x105, x106, x107, x108, x109, x110, hvH103, ex105, ex106, ex107, ex108, ex109, ex110, hrH103, m111, m112, m113, m114, m115, hTH103⟩ := pH103
    subst hvH103
    have g116 : CG (avw K H103 b) := CG.congr (fun k hk j => av_eff hT kH103 gb (by decide) (CG_eff [0, 32, 33] (by decide) k hk)) cg
    have g117 : TU (avw K H103 b) (svw K H103 b) := TU.congr (fun k hk j => av_eff hT kH103 gb (by decide) (TU_eff [0, 32, 33] (by decide) k hk)) (fun k hk => sv_eff hT kH103 gb (by decide)) tu
    have g118 : WD (avw K H103 b) := WD.congr (fun k hk j => av_eff hT kH103 gb (by decide) (WD_eff [0, 32, 33] (by decide) k hk)) wd
    have g119 : IM (avw K H103 b) := IM.congr (fun k hk j => av_eff hT kH103 gb (by decide) (IM_eff [0, 32, 33] (by decide) k hk)) im
    have f120 : ∀ j : Nat, j < 8 → fI H103 cn j = fI H cn j := fun j hj => (fI_kept (x_lt hT kH103 gcn (by decide))).trans (f0cn j hj)
    have f121 : ∀ j : Nat, j < 8 → fI H103 xn j = fI H xn j := fun j hj => (fI_kept (x_lt hT kH103 gxn (by decide))).trans (f0xn j hj)
    have f122 : ∀ j : Nat, j < 8 → fI H103 xl j = fI H xl j := fun j hj => (fI_kept (x_lt hT kH103 gxl (by decide))).trans (f0xl j hj)
    have f123 : ∀ j : Nat, j < 8 → fI H103 xk j = fI H xk j := fun j hj => (fI_kept (x_lt hT kH103 gxk (by decide))).trans (f0xk j hj)
    have m124 := (ew).trans (fR_kept (x_lt hT kH103 ga (by decide))).symm
    have m125 := (eta).trans (fI_kept (x_lt hT kH103 ga (by decide))).symm
    have m126 := (etb).trans (fI_kept (x_lt hT kH103 gb (by decide))).symm
    have m127 := (ey1).trans (fI_kept (x_lt hT kH103 gb (by decide))).symm
    have m128 := (ey4).trans (fI_kept (x_lt hT kH103 gb (by decide))).symm
    have m129 := (ey5).trans (fI_kept (x_lt hT kH103 gb (by decide))).symm
    have m130 := (ey10).trans (fI_kept (x_lt hT kH103 gb (by decide))).symm
    have m131 := (ey13).trans (fI_kept (x_lt hT kH103 gb (by decide))).symm
    have m132 := (ey16).trans (fI_kept (x_lt hT kH103 gb (by decide))).symm
    have m133 := (exn).trans (fR_kept (x_lt hT kH103 gb (by decide))).symm
    have m134 := (exl).trans (fR_kept (x_lt hT kH103 gb (by decide))).symm
    have m135 := (exk).trans (fR_kept (x_lt hT kH103 gb (by decide))).symm
    have m136 := (ehi).trans (fI_kept (x_lt hT kH103 gb (by decide))).symm
    have m137 := (fV_kept (x_lt hT kH103 ga (by decide))).trans kn
    have bx105 := ty_fi (x := x105) (k := 1) ex105 hTH103 gw rg_0 rfl
    have bx106 := ty_fi (x := x106) (k := 4) ex106 hTH103 gw rg_0 rfl
    have bx107 := ty_fi (x := x107) (k := 5) ex107 hTH103 gw rg_0 rfl
    have bx108 := ty_fi (x := x108) (k := 10) ex108 hTH103 gw rg_0 rfl
    have bx109 := ty_fi (x := x109) (k := 13) ex109 hTH103 gw rg_0 rfl
    have bx110 := ty_fi (x := x110) (k := 16) ex110 hTH103 gw rg_0 rfl
    refine W.eq (g2 := F0 m 1329 ls [.int x104]) rfl ?_
    have f138 : ∀ j : Nat, j < 8 → fI H103 cl j = nuX ((xs (i.toNatClampNeg + 1))) s16 x110 (fun j => fI H cl j) j := fun j hj => (m114 j).trans (nu_b (f0cl j hj))
    have f139 : ∀ j : Nat, j < 8 → fI H103 ck j = nuX ((xs (i.toNatClampNeg + 2))) s16 x110 (fun j => fI H ck j) j := fun j hj => (m115 j).trans (nu_b (f0ck j hj))
    clear eck ecl ecn ehi es1 es10 es13 es16 es4 es5 eta etb ew exk exl exn ey1 ey10 ey13 ey16 ey4 ey5 f0ck f0cl f0cn f0xk f0xl f0xn kn
    refine lv_pop hx hb dL_law_1329 rfl ?_
    refine lv_aload_n hx hb dL_law_1330 rfl (lv_at hl 1 rfl) ?_
    refine lv_aload_n hx hb dL_law_1331 rfl (lv_at hl 3 rfl) ?_
    refine lv_iload_n hx hb dL_law_1332 rfl (lv_at hl 0 rfl) ?_
    refine lv_iconst (v := 1) hx hb dL_law_1333 (by decide) ?_
    refine lv_iadd hx hb dL_law_1334 ?_
    refine lv_topi (fun x140 ex140 => ?_)
    obtain ⟨tx140, ejx140, evx140⟩ := lw_ix (k := 1) ex140 hI hL rfl (by decide)
    clear tx140
    refine va_sld hx hb hX hbl (Nat.not_le.mpr hbl) hSH103 (vp_in_iff.mpr evx140) dL_law_1335 ?_
    refine W.eq (g2 := F0 m 1336 ls [.int (xs (i.toNatClampNeg + 1)), .ref b]) (congrArg (fun z => F0 m 1336 ls [.int (xs z), .ref b]) ejx140) ?_
    refine lv_aload_n hx hb dL_law_1336 rfl (lv_at hl 3 rfl) ?_
    refine lv_iload_n hx hb dL_law_1337 rfl (lv_at hl 0 rfl) ?_
    refine lv_iconst (v := 2) hx hb dL_law_1338 (by decide) ?_
    refine lv_iadd hx hb dL_law_1339 ?_
    refine lv_topi (fun x141 ex141 => ?_)
    obtain ⟨tx141, ejx141, evx141⟩ := lw_ix (k := 2) ex141 hI hL rfl (by decide)
    clear tx141
    refine va_sld hx hb hX hbl (Nat.not_le.mpr hbl) hSH103 (vp_in_iff.mpr evx141) dL_law_1340 ?_
    refine W.eq (g2 := F0 m 1341 ls [.int (xs (i.toNatClampNeg + 2)), .int (xs (i.toNatClampNeg + 1)), .ref b]) (congrArg (fun z => F0 m 1341 ls [.int (xs z), .int (xs (i.toNatClampNeg + 1)), .ref b]) ejx141) ?_
    refine x_V (As := [.int (xs (i.toNatClampNeg + 1)), .int (xs (i.toNatClampNeg + 2))]) (rest := []) C (a_X10_blank_n l K G H103 ((xs (i.toNatClampNeg + 1))) ((xs (i.toNatClampNeg + 2))) (y16) hTH103 gb gxl m134 gxk m135 m132 g116 g117 g118 g119) yo_X10_blank wM_L_140 ⟨⟨by decide, by decide⟩, show _ ≤ 284929 from Nat.le_trans hc (by decide), show _ ≤ 8247460 from Nat.le_trans hs (by decide)⟩ (x_rv C hTH103 (ci := 10) rfl gb rg_112) rfl hl.1 rfl (Nat.le_of_ble_eq_true rfl) dL_law_1341 hSH103 (AE_new hN hSH103.1) (fun vH142 H142 locsH142 pH142 zH142 kH142 hSH142 => ?_)
    obtain ⟨x143, x144, hvH142, ex144, hrH142, m145, m146, g147, g148, g149, g150, mf151, m152, m153, hTH142⟩ := pH142
    subst hvH142
    have f154 : ∀ j : Nat, j < 8 → fI H142 cn j = fI H cn j := fun j hj => (fI_kept (x_lt hTH103 kH142 gcn (by decide))).trans (f120 j hj)
    have f155 : ∀ j : Nat, j < 8 → fI H142 xn j = fI H xn j := fun j hj => (fI_kept (x_lt hTH103 kH142 gxn (by decide))).trans (f121 j hj)
    have f156 : ∀ j : Nat, j < 8 → fI H142 cl j = nuX ((xs (i.toNatClampNeg + 1))) s16 x110 (fun j => fI H cl j) j := fun j hj => (fI_kept (x_lt hTH103 kH142 gcl (by decide))).trans (f138 j hj)
    have f157 : ∀ j : Nat, j < 8 → fI H142 ck j = nuX ((xs (i.toNatClampNeg + 2))) s16 x110 (fun j => fI H ck j) j := fun j hj => (fI_kept (x_lt hTH103 kH142 gck (by decide))).trans (f139 j hj)
    have m158 := (m124).trans (fR_kept (x_lt hTH103 kH142 ga (by decide))).symm
    have m159 := (m125).trans (fI_kept (x_lt hTH103 kH142 ga (by decide))).symm
    have m160 := (fV_kept (x_lt hTH103 kH142 ga (by decide))).trans m137
    have m161 := (m111).trans (fR_kept (x_lt hTH103 kH142 gw (by decide))).symm
    have m162 := (m112).trans (fR_kept (x_lt hTH103 kH142 gw (by decide))).symm
    have m163 := (m113).trans (fR_kept (x_lt hTH103 kH142 gw (by decide))).symm
    have m164 := (ex105).trans (fI_kept (x_lt hTH103 kH142 gw (by decide))).symm
    have m165 := (ex106).trans (fI_kept (x_lt hTH103 kH142 gw (by decide))).symm
    have m166 := (ex107).trans (fI_kept (x_lt hTH103 kH142 gw (by decide))).symm
    have m167 := (ex108).trans (fI_kept (x_lt hTH103 kH142 gw (by decide))).symm
    have m168 := (ex109).trans (fI_kept (x_lt hTH103 kH142 gw (by decide))).symm
    have m169 := (ex110).trans (fI_kept (x_lt hTH103 kH142 gw (by decide))).symm
    have m170 := (m126).trans (MF.i mf151 (k := 18) (by decide) (by decide)).symm
    have m171 := (m127).trans (MF.i mf151 (k := 1) (by decide) (by decide)).symm
    have m172 := (m128).trans (MF.i mf151 (k := 2) (by decide) (by decide)).symm
    have m173 := (m129).trans (MF.i mf151 (k := 3) (by decide) (by decide)).symm
    have m174 := (m130).trans (MF.i mf151 (k := 59) (by decide) (by decide)).symm
    have m175 := (m131).trans (MF.i mf151 (k := 62) (by decide) (by decide)).symm
    have m176 := (m133).trans (MF.r mf151 (k := 64) (by decide) (by decide)).symm
    have m177 := (m134).trans (MF.r mf151 (k := 66) (by decide) (by decide)).symm
    have m178 := (m135).trans (MF.r mf151 (k := 67) (by decide) (by decide)).symm
    have m179 := (m136).trans (MF.i mf151 (k := 70) (by decide) (by decide)).symm
    have bx144 := ty_fi (x := x144) (k := 65) ex144 hTH142 gb rg_112 rfl
    refine W.eq (g2 := F0 m 1344 ls [.int x143]) rfl ?_
    have f180 : ∀ j : Nat, j < 8 → fI H142 xl j = nuX ((xs (i.toNatClampNeg + 1))) y16 x144 (fun j => fI H xl j) j := fun j hj => (m152 j).trans (nu_b (f122 j hj))
    have f181 : ∀ j : Nat, j < 8 → fI H142 xk j = nuX ((xs (i.toNatClampNeg + 2))) y16 x144 (fun j => fI H xk j) j := fun j hj => (m153 j).trans (nu_b (f123 j hj))
    clear ex105 ex106 ex107 ex108 ex109 ex110 f120 f121 f122 f123 f138 f139 m111 m112 m113 m124 m125 m126 m127 m128 m129 m130 m131 m132 m133 m134 m135 m136 m137
    refine lv_pop hx hb dL_law_1344 rfl ?_
    refine lv_goto (tgt := 1509) hx hb dL_law_1345 (by decide) ?_
    have hu182 : EQR (fun j => nuX ((xs (i.toNatClampNeg + 1))) s16 x110 (fun j => fI H cl j) j) (fun j => nuX ((xs (i.toNatClampNeg + 1))) y16 x144 (fun j => fI H xl j) j) x144.toInt := EQR.nu hrl (by omega) (by omega) (by omega) (by omega) (by omega)
    have hu183 : EQR (fun j => nuX ((xs (i.toNatClampNeg + 2))) s16 x110 (fun j => fI H ck j) j) (fun j => nuX ((xs (i.toNatClampNeg + 2))) y16 x144 (fun j => fI H xk j) j) x144.toInt := EQR.nu hrk (by omega) (by omega) (by omega) (by omega) (by omega)
    exact nx G H142 locsH142 _ _ ls ⟨hTH142, hN, ga, gb, g147, g148, g149, g150, ⟨(by rw [← m159, ← m170]; exact rt), (by rw [← m158, ← m164, ← m171]; omega), (by rw [← m158, ← m165, ← m172]; omega), (by rw [← m158, ← m166, ← m173]; omega), (by rw [← m158, ← m167, ← m174]; omega), (by rw [← m158, ← m168, ← m175]; omega), (by rw [← m158, ← m169, ← ex144]; omega)⟩, Or.inl ⟨m160, (by rw [← m179]; exact h70)⟩, ⟨(by rw [← m158, ← m161, ← m176, ← m175]; exact EQR.of hrn (fun j hj => f154 j (by omega)) (fun j hj => f155 j (by omega)) (by omega)), (by rw [← m158, ← m162, ← m145, ← ex144]; exact EQR.of hu182 (fun j hj => f156 j (by omega)) (fun j hj => f180 j (by omega)) (by omega)), (by rw [← m158, ← m163, ← m146, ← ex144]; exact EQR.of hu183 (fun j hj => f157 j (by omega)) (fun j hj => f181 j (by omega)) (by omega))⟩, hSH142⟩ hl ⟨hc, hs, fun _ => ⟨hc0, hs0⟩⟩
  · skip
    obtain ⟨hi, ehi⟩ : ∃ z : Int32, z = fI H b (K.1.2 10 70) := ⟨_, rfl⟩
    rw [← ehi] at h70
    obtain ⟨iq, eiq⟩ : ∃ z : Nat, z = fR H b (K.1.2 10 73) := ⟨_, rfl⟩
    have giq := ty_fr (q := iq) (k := 73) (u := 162) eiq hT gb rg_112 rfl
    rw [← eiq] at q1 q4 q5 q10 q13 q16
    obtain ⟨k1, ek1⟩ : ∃ z : Int32, z = fI H kq (K.1.2 8 1) := ⟨_, rfl⟩
    rw [← ek1] at q1
    obtain ⟨i1, ei1⟩ : ∃ z : Int32, z = fI H iq ((0 : Int32).toNatClampNeg) := ⟨_, rfl⟩
    rw [← ei1] at q1
    obtain ⟨k4, ek4⟩ : ∃ z : Int32, z = fI H kq (K.1.2 8 4) := ⟨_, rfl⟩
    rw [← ek4] at q4
    obtain ⟨i4, ei4⟩ : ∃ z : Int32, z = fI H iq ((1 : Int32).toNatClampNeg) := ⟨_, rfl⟩
    rw [← ei4] at q4
    obtain ⟨k5, ek5⟩ : ∃ z : Int32, z = fI H kq (K.1.2 8 5) := ⟨_, rfl⟩
    rw [← ek5] at q5
    obtain ⟨i5, ei5⟩ : ∃ z : Int32, z = fI H iq ((2 : Int32).toNatClampNeg) := ⟨_, rfl⟩
    rw [← ei5] at q5
    obtain ⟨k10, ek10⟩ : ∃ z : Int32, z = fI H kq (K.1.2 8 10) := ⟨_, rfl⟩
    rw [← ek10] at q10
    obtain ⟨i10, ei10⟩ : ∃ z : Int32, z = fI H iq ((3 : Int32).toNatClampNeg) := ⟨_, rfl⟩
    rw [← ei10] at q10
    obtain ⟨k13, ek13⟩ : ∃ z : Int32, z = fI H kq (K.1.2 8 13) := ⟨_, rfl⟩
    rw [← ek13] at q13
    obtain ⟨i13, ei13⟩ : ∃ z : Int32, z = fI H iq ((4 : Int32).toNatClampNeg) := ⟨_, rfl⟩
    rw [← ei13] at q13
    obtain ⟨k16, ek16⟩ : ∃ z : Int32, z = fI H kq (K.1.2 8 16) := ⟨_, rfl⟩
    rw [← ek16] at q16
    obtain ⟨i16, ei16⟩ : ∃ z : Int32, z = fI H iq ((5 : Int32).toNatClampNeg) := ⟨_, rfl⟩
    rw [← ei16] at q16
    obtain ⟨dn, edn⟩ : ∃ z : Nat, z = fR H kq (K.1.2 8 12) := ⟨_, rfl⟩
    have gdn := ty_fr (q := dn) (k := 12) (u := 65) edn hT gkq rg_34 rfl
    obtain ⟨dl, edl⟩ : ∃ z : Nat, z = fR H kq (K.1.2 8 14) := ⟨_, rfl⟩
    have gdl := ty_fr (q := dl) (k := 14) (u := 66) edl hT gkq rg_34 rfl
    obtain ⟨dk, edk⟩ : ∃ z : Nat, z = fR H kq (K.1.2 8 15) := ⟨_, rfl⟩
    have gdk := ty_fr (q := dk) (k := 15) (u := 67) edk hT gkq rg_34 rfl
    have hsn : EQR (fun j => fI H dn j) (fun j => fI H iq (8877 + 4 * j)) k13.toInt := by rw [edn, eiq, ek13]; exact hq1
    have hsl : EQR (fun j => fI H dl j) (fun j => fI H iq (8878 + 4 * j)) k16.toInt := by rw [edl, eiq, ek16]; exact hq2
    have hsk : EQR (fun j => fI H dk j) (fun j => fI H iq (8879 + 4 * j)) k16.toInt := by rw [edk, eiq, ek16]; exact hq3
    have bk13 := ty_fi (x := k13) (k := 13) ek13 hT gkq rg_34 rfl
    have bk16 := ty_fi (x := k16) (k := 16) ek16 hT gkq rg_34 rfl
    have f0dn : ∀ j : Nat, j < 8 → fI H dn j = fI H dn j := fun _ _ => rfl
    have f0dl : ∀ j : Nat, j < 8 → fI H dl j = fI H dl j := fun _ _ => rfl
    have f0dk : ∀ j : Nat, j < 8 → fI H dk j = fI H dk j := fun _ _ => rfl
    have f0i : ∀ j : Nat, fI H iq j = fI H iq j := fun _ => rfl
    refine lv_aload_n hx hb dL_law_1315 rfl (lv_at hl 2 rfl) ?_
    refine lv_aload_n hx hb dL_law_1316 rfl (lv_at hl 3 rfl) ?_
    refine lv_iload_n hx hb dL_law_1317 rfl (lv_at hl 0 rfl) ?_
    refine lv_iconst (v := 1) hx hb dL_law_1318 (by decide) ?_
    refine lv_iadd hx hb dL_law_1319 ?_
    refine lv_topi (fun x184 ex184 => ?_)
    obtain ⟨tx184, ejx184, evx184⟩ := lw_ix (k := 1) ex184 hI hL rfl (by decide)
    clear tx184
    refine va_sld hx hb hX hbl (Nat.not_le.mpr hbl) hS (vp_in_iff.mpr evx184) dL_law_1320 ?_
    refine W.eq (g2 := F0 m 1321 ls [.int (xs (i.toNatClampNeg + 1)), .ref a]) (congrArg (fun z => F0 m 1321 ls [.int (xs z), .ref a]) ejx184) ?_
    refine lv_aload_n hx hb dL_law_1321 rfl (lv_at hl 3 rfl) ?_
    refine lv_iload_n hx hb dL_law_1322 rfl (lv_at hl 0 rfl) ?_
    refine lv_iconst (v := 2) hx hb dL_law_1323 (by decide) ?_
    refine lv_iadd hx hb dL_law_1324 ?_
    refine lv_topi (fun x185 ex185 => ?_)
    obtain ⟨tx185, ejx185, evx185⟩ := lw_ix (k := 2) ex185 hI hL rfl (by decide)
    clear tx185
    refine va_sld hx hb hX hbl (Nat.not_le.mpr hbl) hS (vp_in_iff.mpr evx185) dL_law_1325 ?_
    refine W.eq (g2 := F0 m 1326 ls [.int (xs (i.toNatClampNeg + 2)), .int (xs (i.toNatClampNeg + 1)), .ref a]) (congrArg (fun z => F0 m 1326 ls [.int (xs z), .int (xs (i.toNatClampNeg + 1)), .ref a]) ejx185) ?_
    refine x_V (As := [.int (xs (i.toNatClampNeg + 1)), .int (xs (i.toNatClampNeg + 2))]) (rest := []) C (a_X9_blank_n l K G H ((xs (i.toNatClampNeg + 1))) ((xs (i.toNatClampNeg + 2))) (s1) (s4) (s5) (s10) (s13) (s16) hT ga gw ew gcn ecn gcl ecl gck eck es1 es4 es5 es10 es13 es16) yo_X9_blank wM_L_137 ⟨⟨by decide, by decide⟩, show _ ≤ 284929 from Nat.le_trans hc (by decide), show _ ≤ 8247460 from Nat.le_trans hs (by decide)⟩ (x_rv C hT (ci := 9) rfl ga rg_68) rfl hl.1 rfl (Nat.le_of_ble_eq_true rfl) dL_law_1326 hS (AE_new hN hS.1) (fun vH186 H186 locsH186 pH186 zH186 kH186 hSH186 => ?_)
    obtain ⟨x187, x188, x189, x190, x191, x192, x193, hvH186, ex188, ex189, ex190, ex191, ex192, ex193, hrH186, m194, m195, m196, m197, m198, hTH186⟩ := pH186
    subst hvH186
    have g199 : CG (avw K H186 b) := CG.congr (fun k hk j => av_eff hT kH186 gb (by decide) (CG_eff [0, 32, 33] (by decide) k hk)) cg
    have g200 : TU (avw K H186 b) (svw K H186 b) := TU.congr (fun k hk j => av_eff hT kH186 gb (by decide) (TU_eff [0, 32, 33] (by decide) k hk)) (fun k hk => sv_eff hT kH186 gb (by decide)) tu
    have g201 : WD (avw K H186 b) := WD.congr (fun k hk j => av_eff hT kH186 gb (by decide) (WD_eff [0, 32, 33] (by decide) k hk)) wd
    have g202 : IM (avw K H186 b) := IM.congr (fun k hk j => av_eff hT kH186 gb (by decide) (IM_eff [0, 32, 33] (by decide) k hk)) im
    have f203 : ∀ j : Nat, j < 8 → fI H186 cn j = fI H cn j := fun j hj => (fI_kept (x_lt hT kH186 gcn (by decide))).trans (f0cn j hj)
    have f204 : ∀ j : Nat, j < 8 → fI H186 xn j = fI H xn j := fun j hj => (fI_kept (x_lt hT kH186 gxn (by decide))).trans (f0xn j hj)
    have f205 : ∀ j : Nat, j < 8 → fI H186 xl j = fI H xl j := fun j hj => (fI_kept (x_lt hT kH186 gxl (by decide))).trans (f0xl j hj)
    have f206 : ∀ j : Nat, j < 8 → fI H186 xk j = fI H xk j := fun j hj => (fI_kept (x_lt hT kH186 gxk (by decide))).trans (f0xk j hj)
    have f207 : ∀ j : Nat, j < 8 → fI H186 dn j = fI H dn j := fun j hj => (fI_kept (x_lt hT kH186 gdn (by decide))).trans (f0dn j hj)
    have f208 : ∀ j : Nat, j < 8 → fI H186 dl j = fI H dl j := fun j hj => (fI_kept (x_lt hT kH186 gdl (by decide))).trans (f0dl j hj)
    have f209 : ∀ j : Nat, j < 8 → fI H186 dk j = fI H dk j := fun j hj => (fI_kept (x_lt hT kH186 gdk (by decide))).trans (f0dk j hj)
    have f210 : ∀ j : Nat, fI H186 iq j = fI H iq j := fun j => (fI_kept (x_lt hT kH186 giq (by decide))).trans (f0i j)
    have m211 := (ew).trans (fR_kept (x_lt hT kH186 ga (by decide))).symm
    have m212 := (eta).trans (fI_kept (x_lt hT kH186 ga (by decide))).symm
    have m213 := (etb).trans (fI_kept (x_lt hT kH186 gb (by decide))).symm
    have m214 := (ey1).trans (fI_kept (x_lt hT kH186 gb (by decide))).symm
    have m215 := (ey4).trans (fI_kept (x_lt hT kH186 gb (by decide))).symm
    have m216 := (ey5).trans (fI_kept (x_lt hT kH186 gb (by decide))).symm
    have m217 := (ey10).trans (fI_kept (x_lt hT kH186 gb (by decide))).symm
    have m218 := (ey13).trans (fI_kept (x_lt hT kH186 gb (by decide))).symm
    have m219 := (ey16).trans (fI_kept (x_lt hT kH186 gb (by decide))).symm
    have m220 := (exn).trans (fR_kept (x_lt hT kH186 gb (by decide))).symm
    have m221 := (exl).trans (fR_kept (x_lt hT kH186 gb (by decide))).symm
    have m222 := (exk).trans (fR_kept (x_lt hT kH186 gb (by decide))).symm
    have m223 := (ehi).trans (fI_kept (x_lt hT kH186 gb (by decide))).symm
    have m224 := (fV_kept (x_lt hT kH186 ga (by decide))).trans kn
    have m225 := (eiq).trans (fR_kept (x_lt hT kH186 gb (by decide))).symm
    have m226 := (ek1).trans (fI_kept (x_lt hT kH186 gkq (by decide))).symm
    have m227 := (ei1).trans (fI_kept (x_lt hT kH186 giq (by decide))).symm
    have m228 := (ek4).trans (fI_kept (x_lt hT kH186 gkq (by decide))).symm
    have m229 := (ei4).trans (fI_kept (x_lt hT kH186 giq (by decide))).symm
    have m230 := (ek5).trans (fI_kept (x_lt hT kH186 gkq (by decide))).symm
    have m231 := (ei5).trans (fI_kept (x_lt hT kH186 giq (by decide))).symm
    have m232 := (ek10).trans (fI_kept (x_lt hT kH186 gkq (by decide))).symm
    have m233 := (ei10).trans (fI_kept (x_lt hT kH186 giq (by decide))).symm
    have m234 := (ek13).trans (fI_kept (x_lt hT kH186 gkq (by decide))).symm
    have m235 := (ei13).trans (fI_kept (x_lt hT kH186 giq (by decide))).symm
    have m236 := (ek16).trans (fI_kept (x_lt hT kH186 gkq (by decide))).symm
    have m237 := (ei16).trans (fI_kept (x_lt hT kH186 giq (by decide))).symm
    have m238 := (edn).trans (fR_kept (x_lt hT kH186 gkq (by decide))).symm
    have m239 := (edl).trans (fR_kept (x_lt hT kH186 gkq (by decide))).symm
    have m240 := (edk).trans (fR_kept (x_lt hT kH186 gkq (by decide))).symm
    have bx188 := ty_fi (x := x188) (k := 1) ex188 hTH186 gw rg_0 rfl
    have bx189 := ty_fi (x := x189) (k := 4) ex189 hTH186 gw rg_0 rfl
    have bx190 := ty_fi (x := x190) (k := 5) ex190 hTH186 gw rg_0 rfl
    have bx191 := ty_fi (x := x191) (k := 10) ex191 hTH186 gw rg_0 rfl
    have bx192 := ty_fi (x := x192) (k := 13) ex192 hTH186 gw rg_0 rfl
    have bx193 := ty_fi (x := x193) (k := 16) ex193 hTH186 gw rg_0 rfl
    refine W.eq (g2 := F0 m 1329 ls [.int x187]) rfl ?_
    have f241 : ∀ j : Nat, j < 8 → fI H186 cl j = nuX ((xs (i.toNatClampNeg + 1))) s16 x193 (fun j => fI H cl j) j := fun j hj => (m197 j).trans (nu_b (f0cl j hj))
    have f242 : ∀ j : Nat, j < 8 → fI H186 ck j = nuX ((xs (i.toNatClampNeg + 2))) s16 x193 (fun j => fI H ck j) j := fun j hj => (m198 j).trans (nu_b (f0ck j hj))
    clear eck ecl ecn edk edl edn ehi ei1 ei10 ei13 ei16 ei4 ei5 eiq ek1 ek10 ek13 ek16 ek4 ek5 es1 es10 es13 es16 es4 es5 eta etb ew exk exl exn ey1 ey10 ey13 ey16 ey4 ey5 f0ck f0cl f0cn f0dk f0dl f0dn f0i f0xk f0xl f0xn kn
    refine lv_pop hx hb dL_law_1329 rfl ?_
    refine lv_aload_n hx hb dL_law_1330 rfl (lv_at hl 1 rfl) ?_
    refine lv_aload_n hx hb dL_law_1331 rfl (lv_at hl 3 rfl) ?_
    refine lv_iload_n hx hb dL_law_1332 rfl (lv_at hl 0 rfl) ?_
    refine lv_iconst (v := 1) hx hb dL_law_1333 (by decide) ?_
    refine lv_iadd hx hb dL_law_1334 ?_
    refine lv_topi (fun x243 ex243 => ?_)
    obtain ⟨tx243, ejx243, evx243⟩ := lw_ix (k := 1) ex243 hI hL rfl (by decide)
    clear tx243
    refine va_sld hx hb hX hbl (Nat.not_le.mpr hbl) hSH186 (vp_in_iff.mpr evx243) dL_law_1335 ?_
    refine W.eq (g2 := F0 m 1336 ls [.int (xs (i.toNatClampNeg + 1)), .ref b]) (congrArg (fun z => F0 m 1336 ls [.int (xs z), .ref b]) ejx243) ?_
    refine lv_aload_n hx hb dL_law_1336 rfl (lv_at hl 3 rfl) ?_
    refine lv_iload_n hx hb dL_law_1337 rfl (lv_at hl 0 rfl) ?_
    refine lv_iconst (v := 2) hx hb dL_law_1338 (by decide) ?_
    refine lv_iadd hx hb dL_law_1339 ?_
    refine lv_topi (fun x244 ex244 => ?_)
    obtain ⟨tx244, ejx244, evx244⟩ := lw_ix (k := 2) ex244 hI hL rfl (by decide)
    clear tx244
    refine va_sld hx hb hX hbl (Nat.not_le.mpr hbl) hSH186 (vp_in_iff.mpr evx244) dL_law_1340 ?_
    refine W.eq (g2 := F0 m 1341 ls [.int (xs (i.toNatClampNeg + 2)), .int (xs (i.toNatClampNeg + 1)), .ref b]) (congrArg (fun z => F0 m 1341 ls [.int (xs z), .int (xs (i.toNatClampNeg + 1)), .ref b]) ejx244) ?_
    refine x_V (As := [.int (xs (i.toNatClampNeg + 1)), .int (xs (i.toNatClampNeg + 2))]) (rest := []) C (a_X10_blank_n l K G H186 ((xs (i.toNatClampNeg + 1))) ((xs (i.toNatClampNeg + 2))) (y16) hTH186 gb gxl m221 gxk m222 m219 g199 g200 g201 g202) yo_X10_blank wM_L_140 ⟨⟨by decide, by decide⟩, show _ ≤ 284929 from Nat.le_trans hc (by decide), show _ ≤ 8247460 from Nat.le_trans hs (by decide)⟩ (x_rv C hTH186 (ci := 10) rfl gb rg_112) rfl hl.1 rfl (Nat.le_of_ble_eq_true rfl) dL_law_1341 hSH186 (AE_new hN hSH186.1) (fun vH245 H245 locsH245 pH245 zH245 kH245 hSH245 => ?_)
    obtain ⟨x246, x247, hvH245, ex247, hrH245, m248, m249, g250, g251, g252, g253, mf254, m255, m256, hTH245⟩ := pH245
    subst hvH245
    have f257 : ∀ j : Nat, j < 8 → fI H245 cn j = fI H cn j := fun j hj => (fI_kept (x_lt hTH186 kH245 gcn (by decide))).trans (f203 j hj)
    have f258 : ∀ j : Nat, j < 8 → fI H245 xn j = fI H xn j := fun j hj => (fI_kept (x_lt hTH186 kH245 gxn (by decide))).trans (f204 j hj)
    have f259 : ∀ j : Nat, j < 8 → fI H245 dn j = fI H dn j := fun j hj => (fI_kept (x_lt hTH186 kH245 gdn (by decide))).trans (f207 j hj)
    have f260 : ∀ j : Nat, j < 8 → fI H245 dl j = fI H dl j := fun j hj => (fI_kept (x_lt hTH186 kH245 gdl (by decide))).trans (f208 j hj)
    have f261 : ∀ j : Nat, j < 8 → fI H245 dk j = fI H dk j := fun j hj => (fI_kept (x_lt hTH186 kH245 gdk (by decide))).trans (f209 j hj)
    have f262 : ∀ j : Nat, fI H245 iq j = fI H iq j := fun j => (fI_kept (x_lt hTH186 kH245 giq (by decide))).trans (f210 j)
    have f263 : ∀ j : Nat, j < 8 → fI H245 cl j = nuX ((xs (i.toNatClampNeg + 1))) s16 x193 (fun j => fI H cl j) j := fun j hj => (fI_kept (x_lt hTH186 kH245 gcl (by decide))).trans (f241 j hj)
    have f264 : ∀ j : Nat, j < 8 → fI H245 ck j = nuX ((xs (i.toNatClampNeg + 2))) s16 x193 (fun j => fI H ck j) j := fun j hj => (fI_kept (x_lt hTH186 kH245 gck (by decide))).trans (f242 j hj)
    have m265 := (m211).trans (fR_kept (x_lt hTH186 kH245 ga (by decide))).symm
    have m266 := (m212).trans (fI_kept (x_lt hTH186 kH245 ga (by decide))).symm
    have m267 := (fV_kept (x_lt hTH186 kH245 ga (by decide))).trans m224
    have m268 := (m226).trans (fI_kept (x_lt hTH186 kH245 gkq (by decide))).symm
    have m269 := (m227).trans (fI_kept (x_lt hTH186 kH245 giq (by decide))).symm
    have m270 := (m228).trans (fI_kept (x_lt hTH186 kH245 gkq (by decide))).symm
    have m271 := (m229).trans (fI_kept (x_lt hTH186 kH245 giq (by decide))).symm
    have m272 := (m230).trans (fI_kept (x_lt hTH186 kH245 gkq (by decide))).symm
    have m273 := (m231).trans (fI_kept (x_lt hTH186 kH245 giq (by decide))).symm
    have m274 := (m232).trans (fI_kept (x_lt hTH186 kH245 gkq (by decide))).symm
    have m275 := (m233).trans (fI_kept (x_lt hTH186 kH245 giq (by decide))).symm
    have m276 := (m234).trans (fI_kept (x_lt hTH186 kH245 gkq (by decide))).symm
    have m277 := (m235).trans (fI_kept (x_lt hTH186 kH245 giq (by decide))).symm
    have m278 := (m236).trans (fI_kept (x_lt hTH186 kH245 gkq (by decide))).symm
    have m279 := (m237).trans (fI_kept (x_lt hTH186 kH245 giq (by decide))).symm
    have m280 := (m238).trans (fR_kept (x_lt hTH186 kH245 gkq (by decide))).symm
    have m281 := (m239).trans (fR_kept (x_lt hTH186 kH245 gkq (by decide))).symm
    have m282 := (m240).trans (fR_kept (x_lt hTH186 kH245 gkq (by decide))).symm
    have m283 := (m194).trans (fR_kept (x_lt hTH186 kH245 gw (by decide))).symm
    have m284 := (m195).trans (fR_kept (x_lt hTH186 kH245 gw (by decide))).symm
    have m285 := (m196).trans (fR_kept (x_lt hTH186 kH245 gw (by decide))).symm
    have m286 := (ex188).trans (fI_kept (x_lt hTH186 kH245 gw (by decide))).symm
    have m287 := (ex189).trans (fI_kept (x_lt hTH186 kH245 gw (by decide))).symm
    have m288 := (ex190).trans (fI_kept (x_lt hTH186 kH245 gw (by decide))).symm
    have m289 := (ex191).trans (fI_kept (x_lt hTH186 kH245 gw (by decide))).symm
    have m290 := (ex192).trans (fI_kept (x_lt hTH186 kH245 gw (by decide))).symm
    have m291 := (ex193).trans (fI_kept (x_lt hTH186 kH245 gw (by decide))).symm
    have m292 := (m213).trans (MF.i mf254 (k := 18) (by decide) (by decide)).symm
    have m293 := (m214).trans (MF.i mf254 (k := 1) (by decide) (by decide)).symm
    have m294 := (m215).trans (MF.i mf254 (k := 2) (by decide) (by decide)).symm
    have m295 := (m216).trans (MF.i mf254 (k := 3) (by decide) (by decide)).symm
    have m296 := (m217).trans (MF.i mf254 (k := 59) (by decide) (by decide)).symm
    have m297 := (m218).trans (MF.i mf254 (k := 62) (by decide) (by decide)).symm
    have m298 := (m220).trans (MF.r mf254 (k := 64) (by decide) (by decide)).symm
    have m299 := (m221).trans (MF.r mf254 (k := 66) (by decide) (by decide)).symm
    have m300 := (m222).trans (MF.r mf254 (k := 67) (by decide) (by decide)).symm
    have m301 := (m223).trans (MF.i mf254 (k := 70) (by decide) (by decide)).symm
    have m302 := (m225).trans (MF.r mf254 (k := 73) (by decide) (by decide)).symm
    have bx247 := ty_fi (x := x247) (k := 65) ex247 hTH245 gb rg_112 rfl
    refine W.eq (g2 := F0 m 1344 ls [.int x246]) rfl ?_
    have f303 : ∀ j : Nat, j < 8 → fI H245 xl j = nuX ((xs (i.toNatClampNeg + 1))) y16 x247 (fun j => fI H xl j) j := fun j hj => (m255 j).trans (nu_b (f205 j hj))
    have f304 : ∀ j : Nat, j < 8 → fI H245 xk j = nuX ((xs (i.toNatClampNeg + 2))) y16 x247 (fun j => fI H xk j) j := fun j hj => (m256 j).trans (nu_b (f206 j hj))
    clear ex188 ex189 ex190 ex191 ex192 ex193 f203 f204 f205 f206 f207 f208 f209 f210 f241 f242 m194 m195 m196 m211 m212 m213 m214 m215 m216 m217 m218 m219 m220 m221 m222 m223 m224 m225 m226 m227 m228 m229 m230 m231 m232 m233 m234 m235 m236 m237 m238 m239 m240
    refine lv_pop hx hb dL_law_1344 rfl ?_
    refine lv_goto (tgt := 1509) hx hb dL_law_1345 (by decide) ?_
    have hu305 : EQR (fun j => nuX ((xs (i.toNatClampNeg + 1))) s16 x193 (fun j => fI H cl j) j) (fun j => nuX ((xs (i.toNatClampNeg + 1))) y16 x247 (fun j => fI H xl j) j) x247.toInt := EQR.nu hrl (by omega) (by omega) (by omega) (by omega) (by omega)
    have hu306 : EQR (fun j => nuX ((xs (i.toNatClampNeg + 2))) s16 x193 (fun j => fI H ck j) j) (fun j => nuX ((xs (i.toNatClampNeg + 2))) y16 x247 (fun j => fI H xk j) j) x247.toInt := EQR.nu hrk (by omega) (by omega) (by omega) (by omega) (by omega)
    exact nx G H245 locsH245 _ _ ls ⟨hTH245, hN, ga, gb, g250, g251, g252, g253, ⟨(by rw [← m266, ← m292]; exact rt), (by rw [← m265, ← m286, ← m293]; omega), (by rw [← m265, ← m287, ← m294]; omega), (by rw [← m265, ← m288, ← m295]; omega), (by rw [← m265, ← m289, ← m296]; omega), (by rw [← m265, ← m290, ← m297]; omega), (by rw [← m265, ← m291, ← ex247]; omega)⟩, Or.inr ⟨kq, m267, gkq, (by rw [← m301]; exact h70), (by rw [← m268, ← m302, ← m269]; exact q1), (by rw [← m270, ← m302, ← m271]; exact q4), (by rw [← m272, ← m302, ← m273]; exact q5), (by rw [← m274, ← m302, ← m275]; exact q10), (by rw [← m276, ← m302, ← m277]; exact q13), (by rw [← m278, ← m302, ← m279]; exact q16), (by rw [← m280, ← m302, ← m276]; exact EQR.of hsn (fun j hj => f259 j (by omega)) (fun j hj => f262 _) (by omega)), (by rw [← m281, ← m302, ← m278]; exact EQR.of hsl (fun j hj => f260 j (by omega)) (fun j hj => f262 _) (by omega)), (by rw [← m282, ← m302, ← m278]; exact EQR.of hsk (fun j hj => f261 j (by omega)) (fun j hj => f262 _) (by omega))⟩, ⟨(by rw [← m265, ← m283, ← m298, ← m297]; exact EQR.of hrn (fun j hj => f257 j (by omega)) (fun j hj => f258 j (by omega)) (by omega)), (by rw [← m265, ← m284, ← m248, ← ex247]; exact EQR.of hu305 (fun j hj => f263 j (by omega)) (fun j hj => f303 j (by omega)) (by omega)), (by rw [← m265, ← m285, ← m249, ← ex247]; exact EQR.of hu306 (fun j hj => f264 j (by omega)) (fun j hj => f304 j (by omega)) (by omega))⟩, hSH245⟩ hl ⟨hc, hs, fun h => by have h1 := h.symm.trans m267; cases h1⟩