set_option maxRecDepth 100000 in
set_option maxHeartbeats 8000000 in
theorem lw_c24 {p : Program} {l : Launch} {e : Env} {s : State} {m : MethodId} {below : List Frame} {meth : Method} {c : Code} {K : KE} {b0 L : Nat} {xs : Nat → Int32} {G : Nat → Option Nat} {H : Heap} {locs : List Loc} {a b : Nat} {cells slots : Nat} {ls : Array Slot} {i : Int32} {n : Nat} (D : LC p K s m meth c b0 L xs) (S : SX K s G H locs a b) (hl : lv_has ls 4 [(3, .int i), (2, .ref b), (1, .ref a), (0, .ref b0)]) (hi : 0 ≤ i.toInt ∧ i.toInt + 6 ≤ L) (hn : n ≤ 511) (hB : BD K H a cells slots) (nx : ∀ (G : Nat → Option Nat) (H : Heap) (locs : List Loc) (cells slots : Nat) (ls : Array Slot), SX K s G H locs a b → lv_has ls 4 [(3, .int i), (2, .ref b), (1, .ref a), (0, .ref b0)] → BD K H a cells slots → W p l e room_1 s m #[Value.ref b0] below meth c H locs cells slots (lw_Z below #[Value.ref b0] s) (F0 m 1509 ls [])) : W p l e room_1 s m #[Value.ref b0] below meth c H locs cells slots (lw_Z below #[Value.ref b0] s) (F0 m 1120 ls []) := by
  have hI := hi
  obtain ⟨C, hX, hbl, hL⟩ := id D
  obtain ⟨hx, hb, hml, hown, hts, hKT, hr, hlocks, hnm⟩ := id C
  obtain ⟨hT, hN, ga, gb, cg, tu, wd, im, ⟨rt, r1, r4, r5, r10, r13, r16⟩, hk, hnb, hS⟩ := S
  obtain ⟨hc, hs, hB0⟩ := hB
  have n_1 : (1 : Int32).toInt = 1 := rfl
  have n_2 : (2 : Int32).toInt = 2 := rfl
  have n_3 : (3 : Int32).toInt = 3 := rfl
  obtain ⟨w, ew⟩ : ∃ z : Nat, z = fR H a (K.1.2 9 0) := ⟨_, rfl⟩
  have gw := ty_fr (q := w) (k := 0) (u := 0) ew hT ga rg_68 rfl
  rw [← ew] at r1 r4 r5 r10 r13 r16
  obtain ⟨ta, eta⟩ : ∃ z : Int32, z = fI H a (K.1.2 9 3) := ⟨_, rfl⟩
  rw [← eta] at rt
  obtain ⟨tb, etb⟩ : ∃ z : Int32, z = fI H b (K.1.2 10 18) := ⟨_, rfl⟩
  rw [← etb] at rt
  obtain ⟨s1, es1⟩ : ∃ z : Int32, z = fI H w (K.1.2 8 1) := ⟨_, rfl⟩
  rw [← es1] at r1
  obtain ⟨y1, ey1⟩ : ∃ z : Int32, z = fI H b (K.1.2 10 1) := ⟨_, rfl⟩
  rw [← ey1] at r1
  obtain ⟨s4, es4⟩ : ∃ z : Int32, z = fI H w (K.1.2 8 4) := ⟨_, rfl⟩
  rw [← es4] at r4
  obtain ⟨y4, ey4⟩ : ∃ z : Int32, z = fI H b (K.1.2 10 2) := ⟨_, rfl⟩
  rw [← ey4] at r4
  obtain ⟨s5, es5⟩ : ∃ z : Int32, z = fI H w (K.1.2 8 5) := ⟨_, rfl⟩
  rw [← es5] at r5
  obtain ⟨y5, ey5⟩ : ∃ z : Int32, z = fI H b (K.1.2 10 3) := ⟨_, rfl⟩
  rw [← ey5] at r5
  obtain ⟨s10, es10⟩ : ∃ z : Int32, z = fI H w (K.1.2 8 10) := ⟨_, rfl⟩
  rw [← es10] at r10
  obtain ⟨y10, ey10⟩ : ∃ z : Int32, z = fI H b (K.1.2 10 59) := ⟨_, rfl⟩
  rw [← ey10] at r10
  obtain ⟨s13, es13⟩ : ∃ z : Int32, z = fI H w (K.1.2 8 13) := ⟨_, rfl⟩
  rw [← es13] at r13
  obtain ⟨y13, ey13⟩ : ∃ z : Int32, z = fI H b (K.1.2 10 62) := ⟨_, rfl⟩
  rw [← ey13] at r13
  obtain ⟨s16, es16⟩ : ∃ z : Int32, z = fI H w (K.1.2 8 16) := ⟨_, rfl⟩
  rw [← es16] at r16
  obtain ⟨y16, ey16⟩ : ∃ z : Int32, z = fI H b (K.1.2 10 65) := ⟨_, rfl⟩
  rw [← ey16] at r16
  obtain ⟨hb1, hb2, hb3⟩ := hnb
  obtain ⟨cn, ecn⟩ : ∃ z : Nat, z = fR H w (K.1.2 8 12) := ⟨_, rfl⟩
  have gcn := ty_fr (q := cn) (k := 12) (u := 31) ecn hT gw rg_0 rfl
  obtain ⟨xn, exn⟩ : ∃ z : Nat, z = fR H b (K.1.2 10 64) := ⟨_, rfl⟩
  have gxn := ty_fr (q := xn) (k := 64) (u := 157) exn hT gb rg_112 rfl
  obtain ⟨cl, ecl⟩ : ∃ z : Nat, z = fR H w (K.1.2 8 14) := ⟨_, rfl⟩
  have gcl := ty_fr (q := cl) (k := 14) (u := 32) ecl hT gw rg_0 rfl
  obtain ⟨xl, exl⟩ : ∃ z : Nat, z = fR H b (K.1.2 10 66) := ⟨_, rfl⟩
  have gxl := ty_fr (q := xl) (k := 66) (u := 158) exl hT gb rg_112 rfl
  obtain ⟨ck, eck⟩ : ∃ z : Nat, z = fR H w (K.1.2 8 15) := ⟨_, rfl⟩
  have gck := ty_fr (q := ck) (k := 15) (u := 33) eck hT gw rg_0 rfl
  obtain ⟨xk, exk⟩ : ∃ z : Nat, z = fR H b (K.1.2 10 67) := ⟨_, rfl⟩
  have gxk := ty_fr (q := xk) (k := 67) (u := 159) exk hT gb rg_112 rfl
  have hrn : EQR (fun j => fI H cn j) (fun j => fI H xn j) y13.toInt := by rw [ecn, exn, ew, ey13]; exact hb1
  have hrl : EQR (fun j => fI H cl j) (fun j => fI H xl j) y16.toInt := by rw [ecl, exl, ew, ey16]; exact hb2
  have hrk : EQR (fun j => fI H ck j) (fun j => fI H xk j) y16.toInt := by rw [eck, exk, ew, ey16]; exact hb3
  have by13 := ty_fi (x := y13) (k := 62) ey13 hT gb rg_112 rfl
  have by16 := ty_fi (x := y16) (k := 65) ey16 hT gb rg_112 rfl
  have f0cn : ∀ j : Nat, j < 8 → fI H cn j = fI H cn j := fun _ _ => rfl
  have f0xn : ∀ j : Nat, j < 8 → fI H xn j = fI H xn j := fun _ _ => rfl
  have f0cl : ∀ j : Nat, j < 8 → fI H cl j = fI H cl j := fun _ _ => rfl
  have f0xl : ∀ j : Nat, j < 8 → fI H xl j = fI H xl j := fun _ _ => rfl
  have f0ck : ∀ j : Nat, j < 8 → fI H ck j = fI H ck j := fun _ _ => rfl
  have f0xk : ∀ j : Nat, j < 8 → fI H xk j = fI H xk j := fun _ _ => rfl
  rcases hk with ⟨kn, h70⟩ | ⟨kq, kn, gkq, h70, q1, q4, q5, q10, q13, q16, hq1, hq2, hq3⟩
  · skip
    obtain ⟨hi, ehi⟩ : ∃ z : Int32, z = fI H b (K.1.2 10 70) := ⟨_, rfl⟩
    rw [← ehi] at h70
    obtain ⟨hc0, hs0⟩ := hB0 kn
    refine lv_aload_n hx hb dL_law_1120 rfl (lv_at hl 2 rfl) ?_
    refine lv_aload_n hx hb dL_law_1121 rfl (lv_at hl 3 rfl) ?_
    refine lv_iload_n hx hb dL_law_1122 rfl (lv_at hl 0 rfl) ?_
    refine lv_iconst (v := 1) hx hb dL_law_1123 (by decide) ?_
    refine lv_iadd hx hb dL_law_1124 ?_
    refine lv_topi (fun x101 ex101 => ?_)
    obtain ⟨tx101, ejx101, evx101⟩ := lw_ix (k := 1) ex101 hI hL rfl (by decide)
    clear tx101
    refine va_sld hx hb hX hbl (Nat.not_le.mpr hbl) hS (vp_in_iff.mpr evx101) dL_law_1125 ?_
    refine W.eq (g2 := F0 m 1126 ls [.int (xs (i.toNatClampNeg + 1)), .ref a]) (congrArg (fun z => F0 m 1126 ls [.int (xs z), .ref a]) ejx101) ?_
    refine lv_aload_n hx hb dL_law_1126 rfl (lv_at hl 3 rfl) ?_
    refine lv_iload_n hx hb dL_law_1127 rfl (lv_at hl 0 rfl) ?_
    refine lv_iconst (v := 2) hx hb dL_law_1128 (by decide) ?_
    refine lv_iadd hx hb dL_law_1129 ?_
    refine lv_topi (fun x102 ex102 => ?_)
    obtain ⟨tx102, ejx102, evx102⟩ := lw_ix (k := 2) ex102 hI hL rfl (by decide)
    clear tx102
    refine va_sld hx hb hX hbl (Nat.not_le.mpr hbl) hS (vp_in_iff.mpr evx102) dL_law_1130 ?_
    refine W.eq (g2 := F0 m 1131 ls [.int (xs (i.toNatClampNeg + 2)), .int (xs (i.toNatClampNeg + 1)), .ref a]) (congrArg (fun z => F0 m 1131 ls [.int (xs z), .int (xs (i.toNatClampNeg + 1)), .ref a]) ejx102) ?_
    refine lv_aload_n hx hb dL_law_1131 rfl (lv_at hl 3 rfl) ?_
    refine lv_iload_n hx hb dL_law_1132 rfl (lv_at hl 0 rfl) ?_
    refine lv_iconst (v := 3) hx hb dL_law_1133 (by decide) ?_
    refine lv_iadd hx hb dL_law_1134 ?_
    refine lv_topi (fun x103 ex103 => ?_)
    obtain ⟨tx103, ejx103, evx103⟩ := lw_ix (k := 3) ex103 hI hL rfl (by decide)
    clear tx103
    refine va_sld hx hb hX hbl (Nat.not_le.mpr hbl) hS (vp_in_iff.mpr evx103) dL_law_1135 ?_
    refine W.eq (g2 := F0 m 1136 ls [.int (xs (i.toNatClampNeg + 3)), .int (xs (i.toNatClampNeg + 2)), .int (xs (i.toNatClampNeg + 1)), .ref a]) (congrArg (fun z => F0 m 1136 ls [.int (xs z), .int (xs (i.toNatClampNeg + 2)), .int (xs (i.toNatClampNeg + 1)), .ref a]) ejx103) ?_
    refine x_V (As := [.int (xs (i.toNatClampNeg + 1)), .int (xs (i.toNatClampNeg + 2)), .int (xs (i.toNatClampNeg + 3))]) (rest := []) C (a_X9_tube_r l K G H ((xs (i.toNatClampNeg + 1))) ((xs (i.toNatClampNeg + 2))) ((xs (i.toNatClampNeg + 3))) (s1) (s4) (s5) (s10) (s13) (s16) hT ga gw ew es1 es4 es5 es10 es13 es16) yo_X9_tube wM_L_117 ⟨⟨by decide, by decide⟩, show _ ≤ 284929 from Nat.le_trans hc (by decide), show _ ≤ 8247460 from Nat.le_trans hs (by decide)⟩ (x_rv C hT (ci := 9) rfl ga rg_68) rfl hl.1 rfl (Nat.le_of_ble_eq_true rfl) dL_law_1136 hS (AE_new hN hS.1) (fun vH104 H104 locsH104 pH104 zH104 kH104 hSH104 => ?_)
    obtain ⟨x105, hvH104, bx105, hrH104, hTH104⟩ := pH104
    subst hvH104
    have g106 : CG (avw K H104 b) := CG.congr (fun k hk j => av_eff hT kH104 gb (by decide) (CG_eff [15] (by decide) k hk)) cg
    have g107 : TU (avw K H104 b) (svw K H104 b) := TU.congr (fun k hk j => av_eff hT kH104 gb (by decide) (TU_eff [15] (by decide) k hk)) (fun k hk => sv_eff hT kH104 gb (by decide)) tu
    have g108 : WD (avw K H104 b) := WD.congr (fun k hk j => av_eff hT kH104 gb (by decide) (WD_eff [15] (by decide) k hk)) wd
    have g109 : IM (avw K H104 b) := IM.congr (fun k hk j => av_eff hT kH104 gb (by decide) (IM_eff [15] (by decide) k hk)) im
    have f110 : ∀ j : Nat, j < 8 → fI H104 cn j = fI H cn j := fun j hj => (fI_kept (x_lt hT kH104 gcn (by decide))).trans (f0cn j hj)
    have f111 : ∀ j : Nat, j < 8 → fI H104 xn j = fI H xn j := fun j hj => (fI_kept (x_lt hT kH104 gxn (by decide))).trans (f0xn j hj)
    have f112 : ∀ j : Nat, j < 8 → fI H104 cl j = fI H cl j := fun j hj => (fI_kept (x_lt hT kH104 gcl (by decide))).trans (f0cl j hj)
    have f113 : ∀ j : Nat, j < 8 → fI H104 xl j = fI H xl j := fun j hj => (fI_kept (x_lt hT kH104 gxl (by decide))).trans (f0xl j hj)
    have f114 : ∀ j : Nat, j < 8 → fI H104 ck j = fI H ck j := fun j hj => (fI_kept (x_lt hT kH104 gck (by decide))).trans (f0ck j hj)
    have f115 : ∀ j : Nat, j < 8 → fI H104 xk j = fI H xk j := fun j hj => (fI_kept (x_lt hT kH104 gxk (by decide))).trans (f0xk j hj)
    have m116 := (ew).trans (fR_kept (x_lt hT kH104 ga (by decide))).symm
    have m117 := (eta).trans (fI_kept (x_lt hT kH104 ga (by decide))).symm
    have m118 := (etb).trans (fI_kept (x_lt hT kH104 gb (by decide))).symm
    have m119 := (es1).trans (fI_kept (x_lt hT kH104 gw (by decide))).symm
    have m120 := (ey1).trans (fI_kept (x_lt hT kH104 gb (by decide))).symm
    have m121 := (es4).trans (fI_kept (x_lt hT kH104 gw (by decide))).symm
    have m122 := (ey4).trans (fI_kept (x_lt hT kH104 gb (by decide))).symm
    have m123 := (es5).trans (fI_kept (x_lt hT kH104 gw (by decide))).symm
    have m124 := (ey5).trans (fI_kept (x_lt hT kH104 gb (by decide))).symm
    have m125 := (es10).trans (fI_kept (x_lt hT kH104 gw (by decide))).symm
    have m126 := (ey10).trans (fI_kept (x_lt hT kH104 gb (by decide))).symm
    have m127 := (es13).trans (fI_kept (x_lt hT kH104 gw (by decide))).symm
    have m128 := (ey13).trans (fI_kept (x_lt hT kH104 gb (by decide))).symm
    have m129 := (es16).trans (fI_kept (x_lt hT kH104 gw (by decide))).symm
    have m130 := (ey16).trans (fI_kept (x_lt hT kH104 gb (by decide))).symm
    have m131 := (ecn).trans (fR_kept (x_lt hT kH104 gw (by decide))).symm
    have m132 := (exn).trans (fR_kept (x_lt hT kH104 gb (by decide))).symm
    have m133 := (ecl).trans (fR_kept (x_lt hT kH104 gw (by decide))).symm
    have m134 := (exl).trans (fR_kept (x_lt hT kH104 gb (by decide))).symm
    have m135 := (eck).trans (fR_kept (x_lt hT kH104 gw (by decide))).symm
    have m136 := (exk).trans (fR_kept (x_lt hT kH104 gb (by decide))).symm
    have m137 := (ehi).trans (fI_kept (x_lt hT kH104 gb (by decide))).symm
    have m138 := (fV_kept (x_lt hT kH104 ga (by decide))).trans kn
    refine W.eq (g2 := F0 m 1139 ls [.int x105]) rfl ?_
    clear eck ecl ecn ehi es1 es10 es13 es16 es4 es5 eta etb ew exk exl exn ey1 ey10 ey13 ey16 ey4 ey5 f0ck f0cl f0cn f0xk f0xl f0xn kn
    refine lv_pop hx hb dL_law_1139 rfl ?_
    refine lv_aload_n hx hb dL_law_1140 rfl (lv_at hl 1 rfl) ?_
    refine lv_aload_n hx hb dL_law_1141 rfl (lv_at hl 3 rfl) ?_
    refine lv_iload_n hx hb dL_law_1142 rfl (lv_at hl 0 rfl) ?_
    refine lv_iconst (v := 1) hx hb dL_law_1143 (by decide) ?_
    refine lv_iadd hx hb dL_law_1144 ?_
    refine lv_topi (fun x139 ex139 => ?_)
    obtain ⟨tx139, ejx139, evx139⟩ := lw_ix (k := 1) ex139 hI hL rfl (by decide)
    clear tx139
    refine va_sld hx hb hX hbl (Nat.not_le.mpr hbl) hSH104 (vp_in_iff.mpr evx139) dL_law_1145 ?_
    refine W.eq (g2 := F0 m 1146 ls [.int (xs (i.toNatClampNeg + 1)), .ref b]) (congrArg (fun z => F0 m 1146 ls [.int (xs z), .ref b]) ejx139) ?_
    refine lv_aload_n hx hb dL_law_1146 rfl (lv_at hl 3 rfl) ?_
    refine lv_iload_n hx hb dL_law_1147 rfl (lv_at hl 0 rfl) ?_
    refine lv_iconst (v := 2) hx hb dL_law_1148 (by decide) ?_
    refine lv_iadd hx hb dL_law_1149 ?_
    refine lv_topi (fun x140 ex140 => ?_)
    obtain ⟨tx140, ejx140, evx140⟩ := lw_ix (k := 2) ex140 hI hL rfl (by decide)
    clear tx140
    refine va_sld hx hb hX hbl (Nat.not_le.mpr hbl) hSH104 (vp_in_iff.mpr evx140) dL_law_1150 ?_
    refine W.eq (g2 := F0 m 1151 ls [.int (xs (i.toNatClampNeg + 2)), .int (xs (i.toNatClampNeg + 1)), .ref b]) (congrArg (fun z => F0 m 1151 ls [.int (xs z), .int (xs (i.toNatClampNeg + 1)), .ref b]) ejx140) ?_
    refine lv_aload_n hx hb dL_law_1151 rfl (lv_at hl 3 rfl) ?_
    refine lv_iload_n hx hb dL_law_1152 rfl (lv_at hl 0 rfl) ?_
    refine lv_iconst (v := 3) hx hb dL_law_1153 (by decide) ?_
    refine lv_iadd hx hb dL_law_1154 ?_
    refine lv_topi (fun x141 ex141 => ?_)
    obtain ⟨tx141, ejx141, evx141⟩ := lw_ix (k := 3) ex141 hI hL rfl (by decide)
    clear tx141
    refine va_sld hx hb hX hbl (Nat.not_le.mpr hbl) hSH104 (vp_in_iff.mpr evx141) dL_law_1155 ?_
    refine W.eq (g2 := F0 m 1156 ls [.int (xs (i.toNatClampNeg + 3)), .int (xs (i.toNatClampNeg + 2)), .int (xs (i.toNatClampNeg + 1)), .ref b]) (congrArg (fun z => F0 m 1156 ls [.int (xs z), .int (xs (i.toNatClampNeg + 2)), .int (xs (i.toNatClampNeg + 1)), .ref b]) ejx141) ?_
    refine x_V (As := [.int (xs (i.toNatClampNeg + 1)), .int (xs (i.toNatClampNeg + 2)), .int (xs (i.toNatClampNeg + 3))]) (rest := []) C (a_X10_tube_r l K G H104 ((xs (i.toNatClampNeg + 1))) ((xs (i.toNatClampNeg + 2))) ((xs (i.toNatClampNeg + 3))) (y1) hTH104 gb m120 g106 g107 g108 g109) yo_X10_tube wM_L_120 ⟨⟨by decide, by decide⟩, show _ ≤ 284929 from Nat.le_trans hc (by decide), show _ ≤ 8247460 from Nat.le_trans hs (by decide)⟩ (x_rv C hTH104 (ci := 10) rfl gb rg_112) rfl hl.1 rfl (Nat.le_of_ble_eq_true rfl) dL_law_1156 hSH104 (AE_new hN hSH104.1) (fun vH142 H142 locsH142 pH142 zH142 kH142 hSH142 => ?_)
    obtain ⟨x143, hvH142, bx143, hrH142, g144, g145, g146, g147, mf148, hTH142⟩ := pH142
    subst hvH142
    have f149 : ∀ j : Nat, j < 8 → fI H142 cn j = fI H cn j := fun j hj => (fI_kept (x_lt hTH104 kH142 gcn (by decide))).trans (f110 j hj)
    have f150 : ∀ j : Nat, j < 8 → fI H142 xn j = fI H xn j := fun j hj => (fI_kept (x_lt hTH104 kH142 gxn (by decide))).trans (f111 j hj)
    have f151 : ∀ j : Nat, j < 8 → fI H142 cl j = fI H cl j := fun j hj => (fI_kept (x_lt hTH104 kH142 gcl (by decide))).trans (f112 j hj)
    have f152 : ∀ j : Nat, j < 8 → fI H142 xl j = fI H xl j := fun j hj => (fI_kept (x_lt hTH104 kH142 gxl (by decide))).trans (f113 j hj)
    have f153 : ∀ j : Nat, j < 8 → fI H142 ck j = fI H ck j := fun j hj => (fI_kept (x_lt hTH104 kH142 gck (by decide))).trans (f114 j hj)
    have f154 : ∀ j : Nat, j < 8 → fI H142 xk j = fI H xk j := fun j hj => (fI_kept (x_lt hTH104 kH142 gxk (by decide))).trans (f115 j hj)
    have m155 := (m116).trans (fR_kept (x_lt hTH104 kH142 ga (by decide))).symm
    have m156 := (m117).trans (fI_kept (x_lt hTH104 kH142 ga (by decide))).symm
    have m157 := (m119).trans (fI_kept (x_lt hTH104 kH142 gw (by decide))).symm
    have m158 := (m121).trans (fI_kept (x_lt hTH104 kH142 gw (by decide))).symm
    have m159 := (m123).trans (fI_kept (x_lt hTH104 kH142 gw (by decide))).symm
    have m160 := (m125).trans (fI_kept (x_lt hTH104 kH142 gw (by decide))).symm
    have m161 := (m127).trans (fI_kept (x_lt hTH104 kH142 gw (by decide))).symm
    have m162 := (m129).trans (fI_kept (x_lt hTH104 kH142 gw (by decide))).symm
    have m163 := (m131).trans (fR_kept (x_lt hTH104 kH142 gw (by decide))).symm
    have m164 := (m133).trans (fR_kept (x_lt hTH104 kH142 gw (by decide))).symm
    have m165 := (m135).trans (fR_kept (x_lt hTH104 kH142 gw (by decide))).symm
    have m166 := (fV_kept (x_lt hTH104 kH142 ga (by decide))).trans m138
    have m167 := (m118).trans (MF.i mf148 (k := 18) (by decide) (by decide)).symm
    have m168 := (m120).trans (MF.i mf148 (k := 1) (by decide) (by decide)).symm
    have m169 := (m122).trans (MF.i mf148 (k := 2) (by decide) (by decide)).symm
    have m170 := (m124).trans (MF.i mf148 (k := 3) (by decide) (by decide)).symm
    have m171 := (m126).trans (MF.i mf148 (k := 59) (by decide) (by decide)).symm
    have m172 := (m128).trans (MF.i mf148 (k := 62) (by decide) (by decide)).symm
    have m173 := (m130).trans (MF.i mf148 (k := 65) (by decide) (by decide)).symm
    have m174 := (m132).trans (MF.r mf148 (k := 64) (by decide) (by decide)).symm
    have m175 := (m134).trans (MF.r mf148 (k := 66) (by decide) (by decide)).symm
    have m176 := (m136).trans (MF.r mf148 (k := 67) (by decide) (by decide)).symm
    have m177 := (m137).trans (MF.i mf148 (k := 70) (by decide) (by decide)).symm
    refine W.eq (g2 := F0 m 1159 ls [.int x143]) rfl ?_
    clear f110 f111 f112 f113 f114 f115 m116 m117 m118 m119 m120 m121 m122 m123 m124 m125 m126 m127 m128 m129 m130 m131 m132 m133 m134 m135 m136 m137 m138
    refine lv_pop hx hb dL_law_1159 rfl ?_
    refine lv_goto (tgt := 1509) hx hb dL_law_1160 (by decide) ?_
    exact nx G H142 locsH142 _ _ ls ⟨hTH142, hN, ga, gb, g144, g145, g146, g147, ⟨(by rw [← m156, ← m167]; exact rt), (by rw [← m155, ← m157, ← m168]; exact r1), (by rw [← m155, ← m158, ← m169]; exact r4), (by rw [← m155, ← m159, ← m170]; exact r5), (by rw [← m155, ← m160, ← m171]; exact r10), (by rw [← m155, ← m161, ← m172]; exact r13), (by rw [← m155, ← m162, ← m173]; exact r16)⟩, Or.inl ⟨m166, (by rw [← m177]; exact h70)⟩, ⟨(by rw [← m155, ← m163, ← m174, ← m172]; exact EQR.of hrn (fun j hj => f149 j (by omega)) (fun j hj => f150 j (by omega)) (by omega)), (by rw [← m155, ← m164, ← m175, ← m173]; exact EQR.of hrl (fun j hj => f151 j (by omega)) (fun j hj => f152 j (by omega)) (by omega)), (by rw [← m155, ← m165, ← m176, ← m173]; exact EQR.of hrk (fun j hj => f153 j (by omega)) (fun j hj => f154 j (by omega)) (by omega))⟩, hSH142⟩ hl ⟨hc, hs, fun _ => ⟨hc0, hs0⟩⟩
  · skip
    obtain ⟨hi, ehi⟩ : ∃ z : Int32, z = fI H b (K.1.2 10 70) := ⟨_, rfl⟩
    rw [← ehi] at h70
    obtain ⟨iq, eiq⟩ : ∃ z : Nat, z = fR H b (K.1.2 10 73) := ⟨_, rfl⟩
    have giq := ty_fr (q := iq) (k := 73) (u := 162) eiq hT gb rg_112 rfl
    rw [← eiq] at q1 q4 q5 q10 q13 q16
    obtain ⟨k1, ek1⟩ : ∃ z : Int32, z = fI H kq (K.1.2 8 1) := ⟨_, rfl⟩
    rw [← ek1] at q1
    obtain ⟨i1, ei1⟩ : ∃ z : Int32, z = fI H iq ((0 : Int32).toNatClampNeg) := ⟨_, rfl⟩
    rw [← ei1] at q1
    obtain ⟨k4, ek4⟩ : ∃ z : Int32, z = fI H kq (K.1.2 8 4) := ⟨_, rfl⟩
    rw [← ek4] at q4
    obtain ⟨i4, ei4⟩ : ∃ z : Int32, z = fI H iq ((1 : Int32).toNatClampNeg) := ⟨_, rfl⟩
    rw [← ei4] at q4
    obtain ⟨k5, ek5⟩ : ∃ z : Int32, z = fI H kq (K.1.2 8 5) := ⟨_, rfl⟩
    rw [← ek5] at q5
    obtain ⟨i5, ei5⟩ : ∃ z : Int32, z = fI H iq ((2 : Int32).toNatClampNeg) := ⟨_, rfl⟩
    rw [← ei5] at q5
    obtain ⟨k10, ek10⟩ : ∃ z : Int32, z = fI H kq (K.1.2 8 10) := ⟨_, rfl⟩
    rw [← ek10] at q10
    obtain ⟨i10, ei10⟩ : ∃ z : Int32, z = fI H iq ((3 : Int32).toNatClampNeg) := ⟨_, rfl⟩
    rw [← ei10] at q10
    obtain ⟨k13, ek13⟩ : ∃ z : Int32, z = fI H kq (K.1.2 8 13) := ⟨_, rfl⟩
    rw [← ek13] at q13
    obtain ⟨i13, ei13⟩ : ∃ z : Int32, z = fI H iq ((4 : Int32).toNatClampNeg) := ⟨_, rfl⟩
    rw [← ei13] at q13
    obtain ⟨k16, ek16⟩ : ∃ z : Int32, z = fI H kq (K.1.2 8 16) := ⟨_, rfl⟩
    rw [← ek16] at q16
    obtain ⟨i16, ei16⟩ : ∃ z : Int32, z = fI H iq ((5 : Int32).toNatClampNeg) := ⟨_, rfl⟩
    rw [← ei16] at q16
    obtain ⟨dn, edn⟩ : ∃ z : Nat, z = fR H kq (K.1.2 8 12) := ⟨_, rfl⟩
    have gdn := ty_fr (q := dn) (k := 12) (u := 65) edn hT gkq rg_34 rfl
    obtain ⟨dl, edl⟩ : ∃ z : Nat, z = fR H kq (K.1.2 8 14) := ⟨_, rfl⟩
    have gdl := ty_fr (q := dl) (k := 14) (u := 66) edl hT gkq rg_34 rfl
    obtain ⟨dk, edk⟩ : ∃ z : Nat, z = fR H kq (K.1.2 8 15) := ⟨_, rfl⟩
    have gdk := ty_fr (q := dk) (k := 15) (u := 67) edk hT gkq rg_34 rfl
    have hsn : EQR (fun j => fI H dn j) (fun j => fI H iq (8877 + 4 * j)) k13.toInt := by rw [edn, eiq, ek13]; exact hq1
    have hsl : EQR (fun j => fI H dl j) (fun j => fI H iq (8878 + 4 * j)) k16.toInt := by rw [edl, eiq, ek16]; exact hq2
    have hsk : EQR (fun j => fI H dk j) (fun j => fI H iq (8879 + 4 * j)) k16.toInt := by rw [edk, eiq, ek16]; exact hq3
    have bk13 := ty_fi (x := k13) (k := 13) ek13 hT gkq rg_34 rfl
    have bk16 := ty_fi (x := k16) (k := 16) ek16 hT gkq rg_34 rfl
    have f0dn : ∀ j : Nat, j < 8 → fI H dn j = fI H dn j := fun _ _ => rfl
    have f0dl : ∀ j : Nat, j < 8 → fI H dl j = fI H dl j := fun _ _ => rfl
    have f0dk : ∀ j : Nat, j < 8 → fI H dk j = fI H dk j := fun _ _ => rfl
    have f0i : ∀ j : Nat, fI H iq j = fI H iq j := fun _ => rfl
    refine lv_aload_n hx hb dL_law_1120 rfl (lv_at hl 2 rfl) ?_
    refine lv_aload_n hx hb dL_law_1121 rfl (lv_at hl 3 rfl) ?_
    refine lv_iload_n hx hb dL_law_1122 rfl (lv_at hl 0 rfl) ?_
    refine lv_iconst (v := 1) hx hb dL_law_1123 (by decide) ?_
    refine lv_iadd hx hb dL_law_1124 ?_
    refine lv_topi (fun x178 ex178 => ?_)
    obtain ⟨tx178, ejx178, evx178⟩ := lw_ix (k := 1) ex178 hI hL rfl (by decide)
    clear tx178
    refine va_sld hx hb hX hbl (Nat.not_le.mpr hbl) hS (vp_in_iff.mpr evx178) dL_law_1125 ?_
    refine W.eq (g2 := F0 m 1126 ls [.int (xs (i.toNatClampNeg + 1)), .ref a]) (congrArg (fun z => F0 m 1126 ls [.int (xs z), .ref a]) ejx178) ?_
    refine lv_aload_n hx hb dL_law_1126 rfl (lv_at hl 3 rfl) ?_
    refine lv_iload_n hx hb dL_law_1127 rfl (lv_at hl 0 rfl) ?_
    refine lv_iconst (v := 2) hx hb dL_law_1128 (by decide) ?_
    refine lv_iadd hx hb dL_law_1129 ?_
    refine lv_topi (fun x179 ex179 => ?_)
    obtain ⟨tx179, ejx179, evx179⟩ := lw_ix (k := 2) ex179 hI hL rfl (by decide)
    clear tx179
    refine va_sld hx hb hX hbl (Nat.not_le.mpr hbl) hS (vp_in_iff.mpr evx179) dL_law_1130 ?_
    refine W.eq (g2 := F0 m 1131 ls [.int (xs (i.toNatClampNeg + 2)), .int (xs (i.toNatClampNeg + 1)), .ref a]) (congrArg (fun z => F0 m 1131 ls [.int (xs z), .int (xs (i.toNatClampNeg + 1)), .ref a]) ejx179) ?_
    refine lv_aload_n hx hb dL_law_1131 rfl (lv_at hl 3 rfl) ?_
    refine lv_iload_n hx hb dL_law_1132 rfl (lv_at hl 0 rfl) ?_
    refine lv_iconst (v := 3) hx hb dL_law_1133 (by decide) ?_
    refine lv_iadd hx hb dL_law_1134 ?_
    refine lv_topi (fun x180 ex180 => ?_)
    obtain ⟨tx180, ejx180, evx180⟩ := lw_ix (k := 3) ex180 hI hL rfl (by decide)
    clear tx180
    refine va_sld hx hb hX hbl (Nat.not_le.mpr hbl) hS (vp_in_iff.mpr evx180) dL_law_1135 ?_
    refine W.eq (g2 := F0 m 1136 ls [.int (xs (i.toNatClampNeg + 3)), .int (xs (i.toNatClampNeg + 2)), .int (xs (i.toNatClampNeg + 1)), .ref a]) (congrArg (fun z => F0 m 1136 ls [.int (xs z), .int (xs (i.toNatClampNeg + 2)), .int (xs (i.toNatClampNeg + 1)), .ref a]) ejx180) ?_
    refine x_V (As := [.int (xs (i.toNatClampNeg + 1)), .int (xs (i.toNatClampNeg + 2)), .int (xs (i.toNatClampNeg + 3))]) (rest := []) C (a_X9_tube_r l K G H ((xs (i.toNatClampNeg + 1))) ((xs (i.toNatClampNeg + 2))) ((xs (i.toNatClampNeg + 3))) (s1) (s4) (s5) (s10) (s13) (s16) hT ga gw ew es1 es4 es5 es10 es13 es16) yo_X9_tube wM_L_117 ⟨⟨by decide, by decide⟩, show _ ≤ 284929 from Nat.le_trans hc (by decide), show _ ≤ 8247460 from Nat.le_trans hs (by decide)⟩ (x_rv C hT (ci := 9) rfl ga rg_68) rfl hl.1 rfl (Nat.le_of_ble_eq_true rfl) dL_law_1136 hS (AE_new hN hS.1) (fun vH181 H181 locsH181 pH181 zH181 kH181 hSH181 => ?_)
    obtain ⟨x182, hvH181, bx182, hrH181, hTH181⟩ := pH181
    subst hvH181
    have g183 : CG (avw K H181 b) := CG.congr (fun k hk j => av_eff hT kH181 gb (by decide) (CG_eff [15] (by decide) k hk)) cg
    have g184 : TU (avw K H181 b) (svw K H181 b) := TU.congr (fun k hk j => av_eff hT kH181 gb (by decide) (TU_eff [15] (by decide) k hk)) (fun k hk => sv_eff hT kH181 gb (by decide)) tu
    have g185 : WD (avw K H181 b) := WD.congr (fun k hk j => av_eff hT kH181 gb (by decide) (WD_eff [15] (by decide) k hk)) wd
    have g186 : IM (avw K H181 b) := IM.congr (fun k hk j => av_eff hT kH181 gb (by decide) (IM_eff [15] (by decide) k hk)) im
    have f187 : ∀ j : Nat, j < 8 → fI H181 cn j = fI H cn j := fun j hj => (fI_kept (x_lt hT kH181 gcn (by decide))).trans (f0cn j hj)
    have f188 : ∀ j : Nat, j < 8 → fI H181 xn j = fI H xn j := fun j hj => (fI_kept (x_lt hT kH181 gxn (by decide))).trans (f0xn j hj)
    have f189 : ∀ j : Nat, j < 8 → fI H181 cl j = fI H cl j := fun j hj => (fI_kept (x_lt hT kH181 gcl (by decide))).trans (f0cl j hj)
    have f190 : ∀ j : Nat, j < 8 → fI H181 xl j = fI H xl j := fun j hj => (fI_kept (x_lt hT kH181 gxl (by decide))).trans (f0xl j hj)
    have f191 : ∀ j : Nat, j < 8 → fI H181 ck j = fI H ck j := fun j hj => (fI_kept (x_lt hT kH181 gck (by decide))).trans (f0ck j hj)
    have f192 : ∀ j : Nat, j < 8 → fI H181 xk j = fI H xk j := fun j hj => (fI_kept (x_lt hT kH181 gxk (by decide))).trans (f0xk j hj)
    have f193 : ∀ j : Nat, j < 8 → fI H181 dn j = fI H dn j := fun j hj => (fI_kept (x_lt hT kH181 gdn (by decide))).trans (f0dn j hj)
    have f194 : ∀ j : Nat, j < 8 → fI H181 dl j = fI H dl j := fun j hj => (fI_kept (x_lt hT kH181 gdl (by decide))).trans (f0dl j hj)
    have f195 : ∀ j : Nat, j < 8 → fI H181 dk j = fI H dk j := fun j hj => (fI_kept (x_lt hT kH181 gdk (by decide))).trans (f0dk j hj)
    have f196 : ∀ j : Nat, fI H181 iq j = fI H iq j := fun j => (fI_kept (x_lt hT kH181 giq (by decide))).trans (f0i j)
    have m197 := (ew).trans (fR_kept (x_lt hT kH181 ga (by decide))).symm
    have m198 := (eta).trans (fI_kept (x_lt hT kH181 ga (by decide))).symm
    have m199 := (etb).trans (fI_kept (x_lt hT kH181 gb (by decide))).symm
    have m200 := (es1).trans (fI_kept (x_lt hT kH181 gw (by decide))).symm
    have m201 := (ey1).trans (fI_kept (x_lt hT kH181 gb (by decide))).symm
    have m202 := (es4).trans (fI_kept (x_lt hT kH181 gw (by decide))).symm
    have m203 := (ey4).trans (fI_kept (x_lt hT kH181 gb (by decide))).symm
    have m204 := (es5).trans (fI_kept (x_lt hT kH181 gw (by decide))).symm
    have m205 := (ey5).trans (fI_kept (x_lt hT kH181 gb (by decide))).symm
    have m206 := (es10).trans (fI_kept (x_lt hT kH181 gw (by decide))).symm
    have m207 := (ey10).trans (fI_kept (x_lt hT kH181 gb (by decide))).symm
    have m208 := (es13).trans (fI_kept (x_lt hT kH181 gw (by decide))).symm
    have m209 := (ey13).trans (fI_kept (x_lt hT kH181 gb (by decide))).symm
    have m210 := (es16).trans (fI_kept (x_lt hT kH181 gw (by decide))).symm
    have m211 := (ey16).trans (fI_kept (x_lt hT kH181 gb (by decide))).symm
    have m212 := (ecn).trans (fR_kept (x_lt hT kH181 gw (by decide))).symm
    have m213 := (exn).trans (fR_kept (x_lt hT kH181 gb (by decide))).symm
    have m214 := (ecl).trans (fR_kept (x_lt hT kH181 gw (by decide))).symm
    have m215 := (exl).trans (fR_kept (x_lt hT kH181 gb (by decide))).symm
    have m216 := (eck).trans (fR_kept (x_lt hT kH181 gw (by decide))).symm
    have m217 := (exk).trans (fR_kept (x_lt hT kH181 gb (by decide))).symm
    have m218 := (ehi).trans (fI_kept (x_lt hT kH181 gb (by decide))).symm
    have m219 := (fV_kept (x_lt hT kH181 ga (by decide))).trans kn
    have m220 := (eiq).trans (fR_kept (x_lt hT kH181 gb (by decide))).symm
    have m221 := (ek1).trans (fI_kept (x_lt hT kH181 gkq (by decide))).symm
    have m222 := (ei1).trans (fI_kept (x_lt hT kH181 giq (by decide))).symm
    have m223 := (ek4).trans (fI_kept (x_lt hT kH181 gkq (by decide))).symm
    have m224 := (ei4).trans (fI_kept (x_lt hT kH181 giq (by decide))).symm
    have m225 := (ek5).trans (fI_kept (x_lt hT kH181 gkq (by decide))).symm
    have m226 := (ei5).trans (fI_kept (x_lt hT kH181 giq (by decide))).symm
    have m227 := (ek10).trans (fI_kept (x_lt hT kH181 gkq (by decide))).symm
    have m228 := (ei10).trans (fI_kept (x_lt hT kH181 giq (by decide))).symm
    have m229 := (ek13).trans (fI_kept (x_lt hT kH181 gkq (by decide))).symm
    have m230 := (ei13).trans (fI_kept (x_lt hT kH181 giq (by decide))).symm
    have m231 := (ek16).trans (fI_kept (x_lt hT kH181 gkq (by decide))).symm
    have m232 := (ei16).trans (fI_kept (x_lt hT kH181 giq (by decide))).symm
    have m233 := (edn).trans (fR_kept (x_lt hT kH181 gkq (by decide))).symm
    have m234 := (edl).trans (fR_kept (x_lt hT kH181 gkq (by decide))).symm
    have m235 := (edk).trans (fR_kept (x_lt hT kH181 gkq (by decide))).symm
    refine W.eq (g2 := F0 m 1139 ls [.int x182]) rfl ?_
    clear eck ecl ecn edk edl edn ehi ei1 ei10 ei13 ei16 ei4 ei5 eiq ek1 ek10 ek13 ek16 ek4 ek5 es1 es10 es13 es16 es4 es5 eta etb ew exk exl exn ey1 ey10 ey13 ey16 ey4 ey5 f0ck f0cl f0cn f0dk f0dl f0dn f0i f0xk f0xl f0xn kn
    refine lv_pop hx hb dL_law_1139 rfl ?_
    refine lv_aload_n hx hb dL_law_1140 rfl (lv_at hl 1 rfl) ?_
    refine lv_aload_n hx hb dL_law_1141 rfl (lv_at hl 3 rfl) ?_
    refine lv_iload_n hx hb dL_law_1142 rfl (lv_at hl 0 rfl) ?_
    refine lv_iconst (v := 1) hx hb dL_law_1143 (by decide) ?_
    refine lv_iadd hx hb dL_law_1144 ?_
    refine lv_topi (fun x236 ex236 => ?_)
    obtain ⟨tx236, ejx236, evx236⟩ := lw_ix (k := 1) ex236 hI hL rfl (by decide)
    clear tx236
    refine va_sld hx hb hX hbl (Nat.not_le.mpr hbl) hSH181 (vp_in_iff.mpr evx236) dL_law_1145 ?_
    refine W.eq (g2 := F0 m 1146 ls [.int (xs (i.toNatClampNeg + 1)), .ref b]) (congrArg (fun z => F0 m 1146 ls [.int (xs z), .ref b]) ejx236) ?_
    refine lv_aload_n hx hb dL_law_1146 rfl (lv_at hl 3 rfl) ?_
    refine lv_iload_n hx hb dL_law_1147 rfl (lv_at hl 0 rfl) ?_
    refine lv_iconst (v := 2) hx hb dL_law_1148 (by decide) ?_
    refine lv_iadd hx hb dL_law_1149 ?_
    refine lv_topi (fun x237 ex237 => ?_)
    obtain ⟨tx237, ejx237, evx237⟩ := lw_ix (k := 2) ex237 hI hL rfl (by decide)
    clear tx237
    refine va_sld hx hb hX hbl (Nat.not_le.mpr hbl) hSH181 (vp_in_iff.mpr evx237) dL_law_1150 ?_
    refine W.eq (g2 := F0 m 1151 ls [.int (xs (i.toNatClampNeg + 2)), .int (xs (i.toNatClampNeg + 1)), .ref b]) (congrArg (fun z => F0 m 1151 ls [.int (xs z), .int (xs (i.toNatClampNeg + 1)), .ref b]) ejx237) ?_
    refine lv_aload_n hx hb dL_law_1151 rfl (lv_at hl 3 rfl) ?_
    refine lv_iload_n hx hb dL_law_1152 rfl (lv_at hl 0 rfl) ?_
    refine lv_iconst (v := 3) hx hb dL_law_1153 (by decide) ?_
    refine lv_iadd hx hb dL_law_1154 ?_
    refine lv_topi (fun x238 ex238 => ?_)
    obtain ⟨tx238, ejx238, evx238⟩ := lw_ix (k := 3) ex238 hI hL rfl (by decide)
    clear tx238
    refine va_sld hx hb hX hbl (Nat.not_le.mpr hbl) hSH181 (vp_in_iff.mpr evx238) dL_law_1155 ?_
    refine W.eq (g2 := F0 m 1156 ls [.int (xs (i.toNatClampNeg + 3)), .int (xs (i.toNatClampNeg + 2)), .int (xs (i.toNatClampNeg + 1)), .ref b]) (congrArg (fun z => F0 m 1156 ls [.int (xs z), .int (xs (i.toNatClampNeg + 2)), .int (xs (i.toNatClampNeg + 1)), .ref b]) ejx238) ?_
    refine x_V (As := [.int (xs (i.toNatClampNeg + 1)), .int (xs (i.toNatClampNeg + 2)), .int (xs (i.toNatClampNeg + 3))]) (rest := []) C (a_X10_tube_r l K G H181 ((xs (i.toNatClampNeg + 1))) ((xs (i.toNatClampNeg + 2))) ((xs (i.toNatClampNeg + 3))) (y1) hTH181 gb m201 g183 g184 g185 g186) yo_X10_tube wM_L_120 ⟨⟨by decide, by decide⟩, show _ ≤ 284929 from Nat.le_trans hc (by decide), show _ ≤ 8247460 from Nat.le_trans hs (by decide)⟩ (x_rv C hTH181 (ci := 10) rfl gb rg_112) rfl hl.1 rfl (Nat.le_of_ble_eq_true rfl) dL_law_1156 hSH181 (AE_new hN hSH181.1) (fun vH239 H239 locsH239 pH239 zH239 kH239 hSH239 => ?_)
    obtain ⟨x240, hvH239, bx240, hrH239, g241, g242, g243, g244, mf245, hTH239⟩ := pH239
    subst hvH239
    have f246 : ∀ j : Nat, j < 8 → fI H239 cn j = fI H cn j := fun j hj => (fI_kept (x_lt hTH181 kH239 gcn (by decide))).trans (f187 j hj)
    have f247 : ∀ j : Nat, j < 8 → fI H239 xn j = fI H xn j := fun j hj => (fI_kept (x_lt hTH181 kH239 gxn (by decide))).trans (f188 j hj)
    have f248 : ∀ j : Nat, j < 8 → fI H239 cl j = fI H cl j := fun j hj => (fI_kept (x_lt hTH181 kH239 gcl (by decide))).trans (f189 j hj)
    have f249 : ∀ j : Nat, j < 8 → fI H239 xl j = fI H xl j := fun j hj => (fI_kept (x_lt hTH181 kH239 gxl (by decide))).trans (f190 j hj)
    have f250 : ∀ j : Nat, j < 8 → fI H239 ck j = fI H ck j := fun j hj => (fI_kept (x_lt hTH181 kH239 gck (by decide))).trans (f191 j hj)
    have f251 : ∀ j : Nat, j < 8 → fI H239 xk j = fI H xk j := fun j hj => (fI_kept (x_lt hTH181 kH239 gxk (by decide))).trans (f192 j hj)
    have f252 : ∀ j : Nat, j < 8 → fI H239 dn j = fI H dn j := fun j hj => (fI_kept (x_lt hTH181 kH239 gdn (by decide))).trans (f193 j hj)
    have f253 : ∀ j : Nat, j < 8 → fI H239 dl j = fI H dl j := fun j hj => (fI_kept (x_lt hTH181 kH239 gdl (by decide))).trans (f194 j hj)
    have f254 : ∀ j : Nat, j < 8 → fI H239 dk j = fI H dk j := fun j hj => (fI_kept (x_lt hTH181 kH239 gdk (by decide))).trans (f195 j hj)
    have f255 : ∀ j : Nat, fI H239 iq j = fI H iq j := fun j => (fI_kept (x_lt hTH181 kH239 giq (by decide))).trans (f196 j)
    have m256 := (m197).trans (fR_kept (x_lt hTH181 kH239 ga (by decide))).symm
    have m257 := (m198).trans (fI_kept (x_lt hTH181 kH239 ga (by decide))).symm
    have m258 := (m200).trans (fI_kept (x_lt hTH181 kH239 gw (by decide))).symm
    have m259 := (m202).trans (fI_kept (x_lt hTH181 kH239 gw (by decide))).symm
    have m260 := (m204).trans (fI_kept (x_lt hTH181 kH239 gw (by decide))).symm
    have m261 := (m206).trans (fI_kept (x_lt hTH181 kH239 gw (by decide))).symm
    have m262 := (m208).trans (fI_kept (x_lt hTH181 kH239 gw (by decide))).symm
    have m263 := (m210).trans (fI_kept (x_lt hTH181 kH239 gw (by decide))).symm
    have m264 := (m212).trans (fR_kept (x_lt hTH181 kH239 gw (by decide))).symm
    have m265 := (m214).trans (fR_kept (x_lt hTH181 kH239 gw (by decide))).symm
    have m266 := (m216).trans (fR_kept (x_lt hTH181 kH239 gw (by decide))).symm
    have m267 := (fV_kept (x_lt hTH181 kH239 ga (by decide))).trans m219
    have m268 := (m221).trans (fI_kept (x_lt hTH181 kH239 gkq (by decide))).symm
    have m269 := (m222).trans (fI_kept (x_lt hTH181 kH239 giq (by decide))).symm
    have m270 := (m223).trans (fI_kept (x_lt hTH181 kH239 gkq (by decide))).symm
    have m271 := (m224).trans (fI_kept (x_lt hTH181 kH239 giq (by decide))).symm
    have m272 := (m225).trans (fI_kept (x_lt hTH181 kH239 gkq (by decide))).symm
    have m273 := (m226).trans (fI_kept (x_lt hTH181 kH239 giq (by decide))).symm
    have m274 := (m227).trans (fI_kept (x_lt hTH181 kH239 gkq (by decide))).symm
    have m275 := (m228).trans (fI_kept (x_lt hTH181 kH239 giq (by decide))).symm
    have m276 := (m229).trans (fI_kept (x_lt hTH181 kH239 gkq (by decide))).symm
    have m277 := (m230).trans (fI_kept (x_lt hTH181 kH239 giq (by decide))).symm
    have m278 := (m231).trans (fI_kept (x_lt hTH181 kH239 gkq (by decide))).symm
    have m279 := (m232).trans (fI_kept (x_lt hTH181 kH239 giq (by decide))).symm
    have m280 := (m233).trans (fR_kept (x_lt hTH181 kH239 gkq (by decide))).symm
    have m281 := (m234).trans (fR_kept (x_lt hTH181 kH239 gkq (by decide))).symm
    have m282 := (m235).trans (fR_kept (x_lt hTH181 kH239 gkq (by decide))).symm
    have m283 := (m199).trans (MF.i mf245 (k := 18) (by decide) (by decide)).symm
    have m284 := (m201).trans (MF.i mf245 (k := 1) (by decide) (by decide)).symm
    have m285 := (m203).trans (MF.i mf245 (k := 2) (by decide) (by decide)).symm
    have m286 := (m205).trans (MF.i mf245 (k := 3) (by decide) (by decide)).symm
    have m287 := (m207).trans (MF.i mf245 (k := 59) (by decide) (by decide)).symm
    have m288 := (m209).trans (MF.i mf245 (k := 62) (by decide) (by decide)).symm
    have m289 := (m211).trans (MF.i mf245 (k := 65) (by decide) (by decide)).symm
    have m290 := (m213).trans (MF.r mf245 (k := 64) (by decide) (by decide)).symm
    have m291 := (m215).trans (MF.r mf245 (k := 66) (by decide) (by decide)).symm
    have m292 := (m217).trans (MF.r mf245 (k := 67) (by decide) (by decide)).symm
    have m293 := (m218).trans (MF.i mf245 (k := 70) (by decide) (by decide)).symm
    have m294 := (m220).trans (MF.r mf245 (k := 73) (by decide) (by decide)).symm
    refine W.eq (g2 := F0 m 1159 ls [.int x240]) rfl ?_
    clear f187 f188 f189 f190 f191 f192 f193 f194 f195 f196 m197 m198 m199 m200 m201 m202 m203 m204 m205 m206 m207 m208 m209 m210 m211 m212 m213 m214 m215 m216 m217 m218 m219 m220 m221 m222 m223 m224 m225 m226 m227 m228 m229 m230 m231 m232 m233 m234 m235
    refine lv_pop hx hb dL_law_1159 rfl ?_
    refine lv_goto (tgt := 1509) hx hb dL_law_1160 (by decide) ?_
    exact nx G H239 locsH239 _ _ ls ⟨hTH239, hN, ga, gb, g241, g242, g243, g244, ⟨(by rw [← m257, ← m283]; exact rt), (by rw [← m256, ← m258, ← m284]; exact r1), (by rw [← m256, ← m259, ← m285]; exact r4), (by rw [← m256, ← m260, ← m286]; exact r5), (by rw [← m256, ← m261, ← m287]; exact r10), (by rw [← m256, ← m262, ← m288]; exact r13), (by rw [← m256, ← m263, ← m289]; exact r16)⟩, Or.inr ⟨kq, m267, gkq, (by rw [← m293]; exact h70), (by rw [← m268, ← m294, ← m269]; exact q1), (by rw [← m270, ← m294, ← m271]; exact q4), (by rw [← m272, ← m294, ← m273]; exact q5), (by rw [← m274, ← m294, ← m275]; exact q10), (by rw [← m276, ← m294, ← m277]; exact q13), (by rw [← m278, ← m294, ← m279]; exact q16), (by rw [← m280, ← m294, ← m276]; exact EQR.of hsn (fun j hj => f252 j (by omega)) (fun j hj => f255 _) (by omega)), (by rw [← m281, ← m294, ← m278]; exact EQR.of hsl (fun j hj => f253 j (by omega)) (fun j hj => f255 _) (by omega)), (by rw [← m282, ← m294, ← m278]; exact EQR.of hsk (fun j hj => f254 j (by omega)) (fun j hj => f255 _) (by omega))⟩, ⟨(by rw [← m256, ← m264, ← m290, ← m288]; exact EQR.of hrn (fun j hj => f246 j (by omega)) (fun j hj => f247 j (by omega)) (by omega)), (by rw [← m256, ← m265, ← m291, ← m289]; exact EQR.of hrl (fun j hj => f248 j (by omega)) (fun j hj => f249 j (by omega)) (by omega)), (by rw [← m256, ← m266, ← m292, ← m289]; exact EQR.of hrk (fun j hj => f250 j (by omega)) (fun j hj => f251 j (by omega)) (by omega))⟩, hSH239⟩ hl ⟨hc, hs, fun h => by have h1 := h.symm.trans m267; cases h1⟩
set_option maxRecDepth 100000 in
set_option maxHeartbeats 8000000 in
theorem lw_c25 {p : Program} {l : Launch} {e : Env} {s : State} {m : MethodId} {below : List Frame} {meth : Method} {c : Code} {K : KE} {b0 L : Nat} {xs : Nat → Int32} {G : Nat → Option Nat} {H : Heap} {locs : List Loc} {a b : Nat} {cells slots : Nat} {ls : Array Slot} {i : Int32} {n : Nat} (D : LC p K s m meth c b0 L xs) (S : SX K s G H locs a b) (hl : lv_has ls 4 [(3, .int i), (2, .ref b), (1, .ref a), (0, .ref b0)]) (hi : 0 ≤ i.toInt ∧ i.toInt + 6 ≤ L) (hn : n ≤ 511) (hB : BD K H a cells slots) (nx : ∀ (G : Nat → Option Nat) (H : Heap) (locs : List Loc) (cells slots : Nat) (ls : Array Slot), SX K s G H locs a b → lv_has ls 4 [(3, .int i), (2, .ref b), (1, .ref a), (0, .ref b0)] → BD K H a cells slots → W p l e room_1 s m #[Value.ref b0] below meth c H locs cells slots (lw_Z below #[Value.ref b0] s) (F0 m 1509 ls [])) : W p l e room_1 s m #[Value.ref b0] below meth c H locs cells slots (lw_Z below #[Value.ref b0] s) (F0 m 1163 ls []) := by
  have hI := hi
  obtain ⟨C, hX, hbl, hL⟩ := id D
  obtain ⟨hx, hb, hml, hown, hts, hKT, hr, hlocks, hnm⟩ := id C
  obtain ⟨hT, hN, ga, gb, cg, tu, wd, im, ⟨rt, r1, r4, r5, r10, r13, r16⟩, hk, hnb, hS⟩ := S
  obtain ⟨hc, hs, hB0⟩ := hB
  have n_1 : (1 : Int32).toInt = 1 := rfl
  have n_2 : (2 : Int32).toInt = 2 := rfl
  have n_3 : (3 : Int32).toInt = 3 := rfl
  have n_4 : (4 : Int32).toInt = 4 := rfl
  obtain ⟨w, ew⟩ : ∃ z : Nat, z = fR H a (K.1.2 9 0) := ⟨_, rfl⟩
  have gw := ty_fr (q := w) (k := 0) (u := 0) ew hT ga rg_68 rfl
  rw [← ew] at r1 r4 r5 r10 r13 r16
  obtain ⟨ta, eta⟩ : ∃ z : Int32, z = fI H a (K.1.2 9 3) := ⟨_, rfl⟩
  rw [← eta] at rt
  obtain ⟨tb, etb⟩ : ∃ z : Int32, z = fI H b (K.1.2 10 18) := ⟨_, rfl⟩
  rw [← etb] at rt
  obtain ⟨s1, es1⟩ : ∃ z : Int32, z = fI H w (K.1.2 8 1) := ⟨_, rfl⟩
  rw [← es1] at r1
  obtain ⟨y1, ey1⟩ : ∃ z : Int32, z = fI H b (K.1.2 10 1) := ⟨_, rfl⟩
  rw [← ey1] at r1
  obtain ⟨s4, es4⟩ : ∃ z : Int32, z = fI H w (K.1.2 8 4) := ⟨_, rfl⟩
  rw [← es4] at r4
  obtain ⟨y4, ey4⟩ : ∃ z : Int32, z = fI H b (K.1.2 10 2) := ⟨_, rfl⟩
  rw [← ey4] at r4
  obtain ⟨s5, es5⟩ : ∃ z : Int32, z = fI H w (K.1.2 8 5) := ⟨_, rfl⟩
  rw [← es5] at r5
  obtain ⟨y5, ey5⟩ : ∃ z : Int32, z = fI H b (K.1.2 10 3) := ⟨_, rfl⟩
  rw [← ey5] at r5
  obtain ⟨s10, es10⟩ : ∃ z : Int32, z = fI H w (K.1.2 8 10) := ⟨_, rfl⟩
  rw [← es10] at r10
  obtain ⟨y10, ey10⟩ : ∃ z : Int32, z = fI H b (K.1.2 10 59) := ⟨_, rfl⟩
  rw [← ey10] at r10
  obtain ⟨s13, es13⟩ : ∃ z : Int32, z = fI H w (K.1.2 8 13) := ⟨_, rfl⟩
  rw [← es13] at r13
  obtain ⟨y13, ey13⟩ : ∃ z : Int32, z = fI H b (K.1.2 10 62) := ⟨_, rfl⟩
  rw [← ey13] at r13
  obtain ⟨s16, es16⟩ : ∃ z : Int32, z = fI H w (K.1.2 8 16) := ⟨_, rfl⟩
  rw [← es16] at r16
  obtain ⟨y16, ey16⟩ : ∃ z : Int32, z = fI H b (K.1.2 10 65) := ⟨_, rfl⟩
  rw [← ey16] at r16
  obtain ⟨hb1, hb2, hb3⟩ := hnb
  obtain ⟨cn, ecn⟩ : ∃ z : Nat, z = fR H w (K.1.2 8 12) := ⟨_, rfl⟩
  have gcn := ty_fr (q := cn) (k := 12) (u := 31) ecn hT gw rg_0 rfl
  obtain ⟨xn, exn⟩ : ∃ z : Nat, z = fR H b (K.1.2 10 64) := ⟨_, rfl⟩
  have gxn := ty_fr (q := xn) (k := 64) (u := 157) exn hT gb rg_112 rfl
  obtain ⟨cl, ecl⟩ : ∃ z : Nat, z = fR H w (K.1.2 8 14) := ⟨_, rfl⟩
  have gcl := ty_fr (q := cl) (k := 14) (u := 32) ecl hT gw rg_0 rfl
  obtain ⟨xl, exl⟩ : ∃ z : Nat, z = fR H b (K.1.2 10 66) := ⟨_, rfl⟩
  have gxl := ty_fr (q := xl) (k := 66) (u := 158) exl hT gb rg_112 rfl
  obtain ⟨ck, eck⟩ : ∃ z : Nat, z = fR H w (K.1.2 8 15) := ⟨_, rfl⟩
  have gck := ty_fr (q := ck) (k := 15) (u := 33) eck hT gw rg_0 rfl
  obtain ⟨xk, exk⟩ : ∃ z : Nat, z = fR H b (K.1.2 10 67) := ⟨_, rfl⟩
  have gxk := ty_fr (q := xk) (k := 67) (u := 159) exk hT gb rg_112 rfl
  have hrn : EQR (fun j => fI H cn j) (fun j => fI H xn j) y13.toInt := by rw [ecn, exn, ew, ey13]; exact hb1
  have hrl : EQR (fun j => fI H cl j) (fun j => fI H xl j) y16.toInt := by rw [ecl, exl, ew, ey16]; exact hb2
  have hrk : EQR (fun j => fI H ck j) (fun j => fI H xk j) y16.toInt := by rw [eck, exk, ew, ey16]; exact hb3
  have by13 := ty_fi (x := y13) (k := 62) ey13 hT gb rg_112 rfl
  have by16 := ty_fi (x := y16) (k := 65) ey16 hT gb rg_112 rfl
  have f0cn : ∀ j : Nat, j < 8 → fI H cn j = fI H cn j := fun _ _ => rfl
  have f0xn : ∀ j : Nat, j < 8 → fI H xn j = fI H xn j := fun _ _ => rfl
  have f0cl : ∀ j : Nat, j < 8 → fI H cl j = fI H cl j := fun _ _ => rfl
  have f0xl : ∀ j : Nat, j < 8 → fI H xl j = fI H xl j := fun _ _ => rfl
  have f0ck : ∀ j : Nat, j < 8 → fI H ck j = fI H ck j := fun _ _ => rfl
  have f0xk : ∀ j : Nat, j < 8 → fI H xk j = fI H xk j := fun _ _ => rfl
  rcases hk with ⟨kn, h70⟩ | ⟨kq, kn, gkq, h70, q1, q4, q5, q10, q13, q16, hq1, hq2, hq3⟩
  · skip
    obtain ⟨hi, ehi⟩ : ∃ z : Int32, z = fI H b (K.1.2 10 70) := ⟨_, rfl⟩
    rw [← ehi] at h70
    obtain ⟨hc0, hs0⟩ := hB0 kn
    refine lv_aload_n hx hb dL_law_1163 rfl (lv_at hl 2 rfl) ?_
    refine lv_aload_n hx hb dL_law_1164 rfl (lv_at hl 3 rfl) ?_
    refine lv_iload_n hx hb dL_law_1165 rfl (lv_at hl 0 rfl) ?_
    refine lv_iconst (v := 1) hx hb dL_law_1166 (by decide) ?_
    refine lv_iadd hx hb dL_law_1167 ?_
    refine lv_topi (fun x101 ex101 => ?_)
    obtain ⟨tx101, ejx101, evx101⟩ := lw_ix (k := 1) ex101 hI hL rfl (by decide)
    clear tx101
    refine va_sld hx hb hX hbl (Nat.not_le.mpr hbl) hS (vp_in_iff.mpr evx101) dL_law_1168 ?_
    refine W.eq (g2 := F0 m 1169 ls [.int (xs (i.toNatClampNeg + 1)), .ref a]) (congrArg (fun z => F0 m 1169 ls [.int (xs z), .ref a]) ejx101) ?_
    refine lv_aload_n hx hb dL_law_1169 rfl (lv_at hl 3 rfl) ?_
    refine lv_iload_n hx hb dL_law_1170 rfl (lv_at hl 0 rfl) ?_
    refine lv_iconst (v := 2) hx hb dL_law_1171 (by decide) ?_
    refine lv_iadd hx hb dL_law_1172 ?_
    refine lv_topi (fun x102 ex102 => ?_)
    obtain ⟨tx102, ejx102, evx102⟩ := lw_ix (k := 2) ex102 hI hL rfl (by decide)
    clear tx102
    refine va_sld hx hb hX hbl (Nat.not_le.mpr hbl) hS (vp_in_iff.mpr evx102) dL_law_1173 ?_
    refine W.eq (g2 := F0 m 1174 ls [.int (xs (i.toNatClampNeg + 2)), .int (xs (i.toNatClampNeg + 1)), .ref a]) (congrArg (fun z => F0 m 1174 ls [.int (xs z), .int (xs (i.toNatClampNeg + 1)), .ref a]) ejx102) ?_
    refine lv_aload_n hx hb dL_law_1174 rfl (lv_at hl 3 rfl) ?_
    refine lv_iload_n hx hb dL_law_1175 rfl (lv_at hl 0 rfl) ?_
    refine lv_iconst (v := 3) hx hb dL_law_1176 (by decide) ?_
    refine lv_iadd hx hb dL_law_1177 ?_
    refine lv_topi (fun x103 ex103 => ?_)
    obtain ⟨tx103, ejx103, evx103⟩ := lw_ix (k := 3) ex103 hI hL rfl (by decide)
    clear tx103
    refine va_sld hx hb hX hbl (Nat.not_le.mpr hbl) hS (vp_in_iff.mpr evx103) dL_law_1178 ?_
    refine W.eq (g2 := F0 m 1179 ls [.int (xs (i.toNatClampNeg + 3)), .int (xs (i.toNatClampNeg + 2)), .int (xs (i.toNatClampNeg + 1)), .ref a]) (congrArg (fun z => F0 m 1179 ls [.int (xs z), .int (xs (i.toNatClampNeg + 2)), .int (xs (i.toNatClampNeg + 1)), .ref a]) ejx103) ?_
    refine lv_aload_n hx hb dL_law_1179 rfl (lv_at hl 3 rfl) ?_
    refine lv_iload_n hx hb dL_law_1180 rfl (lv_at hl 0 rfl) ?_
    refine lv_iconst (v := 4) hx hb dL_law_1181 (by decide) ?_
    refine lv_iadd hx hb dL_law_1182 ?_
    refine lv_topi (fun x104 ex104 => ?_)
    obtain ⟨tx104, ejx104, evx104⟩ := lw_ix (k := 4) ex104 hI hL rfl (by decide)
    clear tx104
    refine va_sld hx hb hX hbl (Nat.not_le.mpr hbl) hS (vp_in_iff.mpr evx104) dL_law_1183 ?_
    refine W.eq (g2 := F0 m 1184 ls [.int (xs (i.toNatClampNeg + 4)), .int (xs (i.toNatClampNeg + 3)), .int (xs (i.toNatClampNeg + 2)), .int (xs (i.toNatClampNeg + 1)), .ref a]) (congrArg (fun z => F0 m 1184 ls [.int (xs z), .int (xs (i.toNatClampNeg + 3)), .int (xs (i.toNatClampNeg + 2)), .int (xs (i.toNatClampNeg + 1)), .ref a]) ejx104) ?_
    refine x_V (As := [.int (xs (i.toNatClampNeg + 1)), .int (xs (i.toNatClampNeg + 2)), .int (xs (i.toNatClampNeg + 3)), .int (xs (i.toNatClampNeg + 4))]) (rest := []) C (a_X9_in l K G H ((xs (i.toNatClampNeg + 1))) ((xs (i.toNatClampNeg + 2))) ((xs (i.toNatClampNeg + 3))) ((xs (i.toNatClampNeg + 4))) hT ga) yo_X9_in wM_L_121 ⟨⟨by decide, by decide⟩, show _ ≤ 284929 from Nat.le_trans hc (by decide), show _ ≤ 8247460 from Nat.le_trans hs (by decide)⟩ (x_rv C hT (ci := 9) rfl ga rg_68) rfl hl.1 rfl (Nat.le_of_ble_eq_true rfl) dL_law_1184 hS (AE_new hN hS.1) (fun vH105 H105 locsH105 pH105 zH105 kH105 hSH105 => ?_)
    obtain ⟨x106, hvH105, hTH105⟩ := pH105
    subst hvH105
    have g107 : CG (avw K H105 b) := CG.congr (fun k hk j => av_eff hT kH105 gb (by decide) (CG_eff [83, 84] (by decide) k hk)) cg
    have g108 : TU (avw K H105 b) (svw K H105 b) := TU.congr (fun k hk j => av_eff hT kH105 gb (by decide) (TU_eff [83, 84] (by decide) k hk)) (fun k hk => sv_eff hT kH105 gb (by decide)) tu
    have g109 : WD (avw K H105 b) := WD.congr (fun k hk j => av_eff hT kH105 gb (by decide) (WD_eff [83, 84] (by decide) k hk)) wd
    have g110 : IM (avw K H105 b) := IM.congr (fun k hk j => av_eff hT kH105 gb (by decide) (IM_eff [83, 84] (by decide) k hk)) im
    have f111 : ∀ j : Nat, j < 8 → fI H105 cn j = fI H cn j := fun j hj => (fI_kept (x_lt hT kH105 gcn (by decide))).trans (f0cn j hj)
    have f112 : ∀ j : Nat, j < 8 → fI H105 xn j = fI H xn j := fun j hj => (fI_kept (x_lt hT kH105 gxn (by decide))).trans (f0xn j hj)
    have f113 : ∀ j : Nat, j < 8 → fI H105 cl j = fI H cl j := fun j hj => (fI_kept (x_lt hT kH105 gcl (by decide))).trans (f0cl j hj)
    have f114 : ∀ j : Nat, j < 8 → fI H105 xl j = fI H xl j := fun j hj => (fI_kept (x_lt hT kH105 gxl (by decide))).trans (f0xl j hj)
    have f115 : ∀ j : Nat, j < 8 → fI H105 ck j = fI H ck j := fun j hj => (fI_kept (x_lt hT kH105 gck (by decide))).trans (f0ck j hj)
    have f116 : ∀ j : Nat, j < 8 → fI H105 xk j = fI H xk j := fun j hj => (fI_kept (x_lt hT kH105 gxk (by decide))).trans (f0xk j hj)
    have m117 := (ew).trans (fR_kept (x_lt hT kH105 ga (by decide))).symm
    have m118 := (eta).trans (fI_kept (x_lt hT kH105 ga (by decide))).symm
    have m119 := (etb).trans (fI_kept (x_lt hT kH105 gb (by decide))).symm
    have m120 := (es1).trans (fI_kept (x_lt hT kH105 gw (by decide))).symm
    have m121 := (ey1).trans (fI_kept (x_lt hT kH105 gb (by decide))).symm
    have m122 := (es4).trans (fI_kept (x_lt hT kH105 gw (by decide))).symm
    have m123 := (ey4).trans (fI_kept (x_lt hT kH105 gb (by decide))).symm
    have m124 := (es5).trans (fI_kept (x_lt hT kH105 gw (by decide))).symm
    have m125 := (ey5).trans (fI_kept (x_lt hT kH105 gb (by decide))).symm
    have m126 := (es10).trans (fI_kept (x_lt hT kH105 gw (by decide))).symm
    have m127 := (ey10).trans (fI_kept (x_lt hT kH105 gb (by decide))).symm
    have m128 := (es13).trans (fI_kept (x_lt hT kH105 gw (by decide))).symm
    have m129 := (ey13).trans (fI_kept (x_lt hT kH105 gb (by decide))).symm
    have m130 := (es16).trans (fI_kept (x_lt hT kH105 gw (by decide))).symm
    have m131 := (ey16).trans (fI_kept (x_lt hT kH105 gb (by decide))).symm
    have m132 := (ecn).trans (fR_kept (x_lt hT kH105 gw (by decide))).symm
    have m133 := (exn).trans (fR_kept (x_lt hT kH105 gb (by decide))).symm
    have m134 := (ecl).trans (fR_kept (x_lt hT kH105 gw (by decide))).symm
    have m135 := (exl).trans (fR_kept (x_lt hT kH105 gb (by decide))).symm
    have m136 := (eck).trans (fR_kept (x_lt hT kH105 gw (by decide))).symm
    have m137 := (exk).trans (fR_kept (x_lt hT kH105 gb (by decide))).symm
    have m138 := (ehi).trans (fI_kept (x_lt hT kH105 gb (by decide))).symm
    have m139 := (fV_kept (x_lt hT kH105 ga (by decide))).trans kn
    refine W.eq (g2 := F0 m 1187 ls [.int x106]) rfl ?_
    clear eck ecl ecn ehi es1 es10 es13 es16 es4 es5 eta etb ew exk exl exn ey1 ey10 ey13 ey16 ey4 ey5 f0ck f0cl f0cn f0xk f0xl f0xn kn
    refine lv_pop hx hb dL_law_1187 rfl ?_
    refine lv_aload_n hx hb dL_law_1188 rfl (lv_at hl 1 rfl) ?_
    refine lv_aload_n hx hb dL_law_1189 rfl (lv_at hl 3 rfl) ?_
    refine lv_iload_n hx hb dL_law_1190 rfl (lv_at hl 0 rfl) ?_
    refine lv_iconst (v := 1) hx hb dL_law_1191 (by decide) ?_
    refine lv_iadd hx hb dL_law_1192 ?_
    refine lv_topi (fun x140 ex140 => ?_)
    obtain ⟨tx140, ejx140, evx140⟩ := lw_ix (k := 1) ex140 hI hL rfl (by decide)
    clear tx140
    refine va_sld hx hb hX hbl (Nat.not_le.mpr hbl) hSH105 (vp_in_iff.mpr evx140) dL_law_1193 ?_
    refine W.eq (g2 := F0 m 1194 ls [.int (xs (i.toNatClampNeg + 1)), .ref b]) (congrArg (fun z => F0 m 1194 ls [.int (xs z), .ref b]) ejx140) ?_
    refine lv_aload_n hx hb dL_law_1194 rfl (lv_at hl 3 rfl) ?_
    refine lv_iload_n hx hb dL_law_1195 rfl (lv_at hl 0 rfl) ?_
    refine lv_iconst (v := 2) hx hb dL_law_1196 (by decide) ?_
    refine lv_iadd hx hb dL_law_1197 ?_
    refine lv_topi (fun x141 ex141 => ?_)
    obtain ⟨tx141, ejx141, evx141⟩ := lw_ix (k := 2) ex141 hI hL rfl (by decide)
    clear tx141
    refine va_sld hx hb hX hbl (Nat.not_le.mpr hbl) hSH105 (vp_in_iff.mpr evx141) dL_law_1198 ?_
    refine W.eq (g2 := F0 m 1199 ls [.int (xs (i.toNatClampNeg + 2)), .int (xs (i.toNatClampNeg + 1)), .ref b]) (congrArg (fun z => F0 m 1199 ls [.int (xs z), .int (xs (i.toNatClampNeg + 1)), .ref b]) ejx141) ?_
    refine lv_aload_n hx hb dL_law_1199 rfl (lv_at hl 3 rfl) ?_
    refine lv_iload_n hx hb dL_law_1200 rfl (lv_at hl 0 rfl) ?_
    refine lv_iconst (v := 3) hx hb dL_law_1201 (by decide) ?_
    refine lv_iadd hx hb dL_law_1202 ?_
    refine lv_topi (fun x142 ex142 => ?_)
    obtain ⟨tx142, ejx142, evx142⟩ := lw_ix (k := 3) ex142 hI hL rfl (by decide)
    clear tx142
    refine va_sld hx hb hX hbl (Nat.not_le.mpr hbl) hSH105 (vp_in_iff.mpr evx142) dL_law_1203 ?_
    refine W.eq (g2 := F0 m 1204 ls [.int (xs (i.toNatClampNeg + 3)), .int (xs (i.toNatClampNeg + 2)), .int (xs (i.toNatClampNeg + 1)), .ref b]) (congrArg (fun z => F0 m 1204 ls [.int (xs z), .int (xs (i.toNatClampNeg + 2)), .int (xs (i.toNatClampNeg + 1)), .ref b]) ejx142) ?_
    refine lv_aload_n hx hb dL_law_1204 rfl (lv_at hl 3 rfl) ?_
    refine lv_iload_n hx hb dL_law_1205 rfl (lv_at hl 0 rfl) ?_
    refine lv_iconst (v := 4) hx hb dL_law_1206 (by decide) ?_
    refine lv_iadd hx hb dL_law_1207 ?_
    refine lv_topi (fun x143 ex143 => ?_)
    obtain ⟨tx143, ejx143, evx143⟩ := lw_ix (k := 4) ex143 hI hL rfl (by decide)
    clear tx143
    refine va_sld hx hb hX hbl (Nat.not_le.mpr hbl) hSH105 (vp_in_iff.mpr evx143) dL_law_1208 ?_
    refine W.eq (g2 := F0 m 1209 ls [.int (xs (i.toNatClampNeg + 4)), .int (xs (i.toNatClampNeg + 3)), .int (xs (i.toNatClampNeg + 2)), .int (xs (i.toNatClampNeg + 1)), .ref b]) (congrArg (fun z => F0 m 1209 ls [.int (xs z), .int (xs (i.toNatClampNeg + 3)), .int (xs (i.toNatClampNeg + 2)), .int (xs (i.toNatClampNeg + 1)), .ref b]) ejx143) ?_
    refine x_V (As := [.int (xs (i.toNatClampNeg + 1)), .int (xs (i.toNatClampNeg + 2)), .int (xs (i.toNatClampNeg + 3)), .int (xs (i.toNatClampNeg + 4))]) (rest := []) C (a_X10_in l K G H105 ((xs (i.toNatClampNeg + 1))) ((xs (i.toNatClampNeg + 2))) ((xs (i.toNatClampNeg + 3))) ((xs (i.toNatClampNeg + 4))) (y1) hTH105 gb m121 g107 g108 g109 g110) yo_X10_in wM_L_124 ⟨⟨by decide, by decide⟩, show _ ≤ 284929 from Nat.le_trans hc (by decide), show _ ≤ 8247460 from Nat.le_trans hs (by decide)⟩ (x_rv C hTH105 (ci := 10) rfl gb rg_112) rfl hl.1 rfl (Nat.le_of_ble_eq_true rfl) dL_law_1209 hSH105 (AE_new hN hSH105.1) (fun vH144 H144 locsH144 pH144 zH144 kH144 hSH144 => ?_)
    obtain ⟨x145, hvH144, g146, g147, g148, g149, mf150, hTH144⟩ := pH144
    subst hvH144
    have f151 : ∀ j : Nat, j < 8 → fI H144 cn j = fI H cn j := fun j hj => (fI_kept (x_lt hTH105 kH144 gcn (by decide))).trans (f111 j hj)
    have f152 : ∀ j : Nat, j < 8 → fI H144 xn j = fI H xn j := fun j hj => (fI_kept (x_lt hTH105 kH144 gxn (by decide))).trans (f112 j hj)
    have f153 : ∀ j : Nat, j < 8 → fI H144 cl j = fI H cl j := fun j hj => (fI_kept (x_lt hTH105 kH144 gcl (by decide))).trans (f113 j hj)
    have f154 : ∀ j : Nat, j < 8 → fI H144 xl j = fI H xl j := fun j hj => (fI_kept (x_lt hTH105 kH144 gxl (by decide))).trans (f114 j hj)
    have f155 : ∀ j : Nat, j < 8 → fI H144 ck j = fI H ck j := fun j hj => (fI_kept (x_lt hTH105 kH144 gck (by decide))).trans (f115 j hj)
    have f156 : ∀ j : Nat, j < 8 → fI H144 xk j = fI H xk j := fun j hj => (fI_kept (x_lt hTH105 kH144 gxk (by decide))).trans (f116 j hj)
    have m157 := (m117).trans (fR_kept (x_lt hTH105 kH144 ga (by decide))).symm
    have m158 := (m118).trans (fI_kept (x_lt hTH105 kH144 ga (by decide))).symm
    have m159 := (m120).trans (fI_kept (x_lt hTH105 kH144 gw (by decide))).symm
    have m160 := (m122).trans (fI_kept (x_lt hTH105 kH144 gw (by decide))).symm
    have m161 := (m124).trans (fI_kept (x_lt hTH105 kH144 gw (by decide))).symm
    have m162 := (m126).trans (fI_kept (x_lt hTH105 kH144 gw (by decide))).symm
    have m163 := (m128).trans (fI_kept (x_lt hTH105 kH144 gw (by decide))).symm
    have m164 := (m130).trans (fI_kept (x_lt hTH105 kH144 gw (by decide))).symm
    have m165 := (m132).trans (fR_kept (x_lt hTH105 kH144 gw (by decide))).symm
    have m166 := (m134).trans (fR_kept (x_lt hTH105 kH144 gw (by decide))).symm
    have m167 := (m136).trans (fR_kept (x_lt hTH105 kH144 gw (by decide))).symm
    have m168 := (fV_kept (x_lt hTH105 kH144 ga (by decide))).trans m139
    have m169 := (m119).trans (MF.i mf150 (k := 18) (by decide) (by decide)).symm
    have m170 := (m121).trans (MF.i mf150 (k := 1) (by decide) (by decide)).symm
    have m171 := (m123).trans (MF.i mf150 (k := 2) (by decide) (by decide)).symm
    have m172 := (m125).trans (MF.i mf150 (k := 3) (by decide) (by decide)).symm
    have m173 := (m127).trans (MF.i mf150 (k := 59) (by decide) (by decide)).symm
    have m174 := (m129).trans (MF.i mf150 (k := 62) (by decide) (by decide)).symm
    have m175 := (m131).trans (MF.i mf150 (k := 65) (by decide) (by decide)).symm
    have m176 := (m133).trans (MF.r mf150 (k := 64) (by decide) (by decide)).symm
    have m177 := (m135).trans (MF.r mf150 (k := 66) (by decide) (by decide)).symm
    have m178 := (m137).trans (MF.r mf150 (k := 67) (by decide) (by decide)).symm
    have m179 := (m138).trans (MF.i mf150 (k := 70) (by decide) (by decide)).symm
    refine W.eq (g2 := F0 m 1212 ls [.int x145]) rfl ?_
    clear f111 f112 f113 f114 f115 f116 m117 m118 m119 m120 m121 m122 m123 m124 m125 m126 m127 m128 m129 m130 m131 m132 m133 m134 m135 m136 m137 m138 m139
    refine lv_pop hx hb dL_law_1212 rfl ?_
    refine lv_goto (tgt := 1509) hx hb dL_law_1213 (by decide) ?_
    exact nx G H144 locsH144 _ _ ls ⟨hTH144, hN, ga, gb, g146, g147, g148, g149, ⟨(by rw [← m158, ← m169]; exact rt), (by rw [← m157, ← m159, ← m170]; exact r1), (by rw [← m157, ← m160, ← m171]; exact r4), (by rw [← m157, ← m161, ← m172]; exact r5), (by rw [← m157, ← m162, ← m173]; exact r10), (by rw [← m157, ← m163, ← m174]; exact r13), (by rw [← m157, ← m164, ← m175]; exact r16)⟩, Or.inl ⟨m168, (by rw [← m179]; exact h70)⟩, ⟨(by rw [← m157, ← m165, ← m176, ← m174]; exact EQR.of hrn (fun j hj => f151 j (by omega)) (fun j hj => f152 j (by omega)) (by omega)), (by rw [← m157, ← m166, ← m177, ← m175]; exact EQR.of hrl (fun j hj => f153 j (by omega)) (fun j hj => f154 j (by omega)) (by omega)), (by rw [← m157, ← m167, ← m178, ← m175]; exact EQR.of hrk (fun j hj => f155 j (by omega)) (fun j hj => f156 j (by omega)) (by omega))⟩, hSH144⟩ hl ⟨hc, hs, fun _ => ⟨hc0, hs0⟩⟩
  · skip
    obtain ⟨hi, ehi⟩ : ∃ z : Int32, z = fI H b (K.1.2 10 70) := ⟨_, rfl⟩
    rw [← ehi] at h70
    obtain ⟨iq, eiq⟩ : ∃ z : Nat, z = fR H b (K.1.2 10 73) := ⟨_, rfl⟩
    have giq := ty_fr (q := iq) (k := 73) (u := 162) eiq hT gb rg_112 rfl
    rw [← eiq] at q1 q4 q5 q10 q13 q16
    obtain ⟨k1, ek1⟩ : ∃ z : Int32, z = fI H kq (K.1.2 8 1) := ⟨_, rfl⟩
    rw [← ek1] at q1
    obtain ⟨i1, ei1⟩ : ∃ z : Int32, z = fI H iq ((0 : Int32).toNatClampNeg) := ⟨_, rfl⟩
    rw [← ei1] at q1
    obtain ⟨k4, ek4⟩ : ∃ z : Int32, z = fI H kq (K.1.2 8 4) := ⟨_, rfl⟩
    rw [← ek4] at q4
    obtain ⟨i4, ei4⟩ : ∃ z : Int32, z = fI H iq ((1 : Int32).toNatClampNeg) := ⟨_, rfl⟩
    rw [← ei4] at q4
    obtain ⟨k5, ek5⟩ : ∃ z : Int32, z = fI H kq (K.1.2 8 5) := ⟨_, rfl⟩
    rw [← ek5] at q5
    obtain ⟨i5, ei5⟩ : ∃ z : Int32, z = fI H iq ((2 : Int32).toNatClampNeg) := ⟨_, rfl⟩
    rw [← ei5] at q5
    obtain ⟨k10, ek10⟩ : ∃ z : Int32, z = fI H kq (K.1.2 8 10) := ⟨_, rfl⟩
    rw [← ek10] at q10
    obtain ⟨i10, ei10⟩ : ∃ z : Int32, z = fI H iq ((3 : Int32).toNatClampNeg) := ⟨_, rfl⟩
    rw [← ei10] at q10
    obtain ⟨k13, ek13⟩ : ∃ z : Int32, z = fI H kq (K.1.2 8 13) := ⟨_, rfl⟩
    rw [← ek13] at q13
    obtain ⟨i13, ei13⟩ : ∃ z : Int32, z = fI H iq ((4 : Int32).toNatClampNeg) := ⟨_, rfl⟩
    rw [← ei13] at q13
    obtain ⟨k16, ek16⟩ : ∃ z : Int32, z = fI H kq (K.1.2 8 16) := ⟨_, rfl⟩
    rw [← ek16] at q16
    obtain ⟨i16, ei16⟩ : ∃ z : Int32, z = fI H iq ((5 : Int32).toNatClampNeg) := ⟨_, rfl⟩
    rw [← ei16] at q16
    obtain ⟨dn, edn⟩ : ∃ z : Nat, z = fR H kq (K.1.2 8 12) := ⟨_, rfl⟩
    have gdn := ty_fr (q := dn) (k := 12) (u := 65) edn hT gkq rg_34 rfl
    obtain ⟨dl, edl⟩ : ∃ z : Nat, z = fR H kq (K.1.2 8 14) := ⟨_, rfl⟩
    have gdl := ty_fr (q := dl) (k := 14) (u := 66) edl hT gkq rg_34 rfl
    obtain ⟨dk, edk⟩ : ∃ z : Nat, z = fR H kq (K.1.2 8 15) := ⟨_, rfl⟩
    have gdk := ty_fr (q := dk) (k := 15) (u := 67) edk hT gkq rg_34 rfl
    have hsn : EQR (fun j => fI H dn j) (fun j => fI H iq (8877 + 4 * j)) k13.toInt := by rw [edn, eiq, ek13]; exact hq1
    have hsl : EQR (fun j => fI H dl j) (fun j => fI H iq (8878 + 4 * j)) k16.toInt := by rw [edl, eiq, ek16]; exact hq2
    have hsk : EQR (fun j => fI H dk j) (fun j => fI H iq (8879 + 4 * j)) k16.toInt := by rw [edk, eiq, ek16]; exact hq3
    have bk13 := ty_fi (x := k13) (k := 13) ek13 hT gkq rg_34 rfl
    have bk16 := ty_fi (x := k16) (k := 16) ek16 hT gkq rg_34 rfl
    have f0dn : ∀ j : Nat, j < 8 → fI H dn j = fI H dn j := fun _ _ => rfl
    have f0dl : ∀ j : Nat, j < 8 → fI H dl j = fI H dl j := fun _ _ => rfl
    have f0dk : ∀ j : Nat, j < 8 → fI H dk j = fI H dk j := fun _ _ => rfl
    have f0i : ∀ j : Nat, fI H iq j = fI H iq j := fun _ => rfl
    refine lv_aload_n hx hb dL_law_1163 rfl (lv_at hl 2 rfl) ?_
    refine lv_aload_n hx hb dL_law_1164 rfl (lv_at hl 3 rfl) ?_
    refine lv_iload_n hx hb dL_law_1165 rfl (lv_at hl 0 rfl) ?_
    refine lv_iconst (v := 1) hx hb dL_law_1166 (by decide) ?_
    refine lv_iadd hx hb dL_law_1167 ?_
    refine lv_topi (fun x180 ex180 => ?_)
    obtain ⟨tx180, ejx180, evx180⟩ := lw_ix (k := 1) ex180 hI hL rfl (by decide)
    clear tx180
    refine va_sld hx hb hX hbl (Nat.not_le.mpr hbl) hS (vp_in_iff.mpr evx180) dL_law_1168 ?_
    refine W.eq (g2 := F0 m 1169 ls [.int (xs (i.toNatClampNeg + 1)), .ref a]) (congrArg (fun z => F0 m 1169 ls [.int (xs z), .ref a]) ejx180) ?_
    refine lv_aload_n hx hb dL_law_1169 rfl (lv_at hl 3 rfl) ?_
    refine lv_iload_n hx hb dL_law_1170 rfl (lv_at hl 0 rfl) ?_
    refine lv_iconst (v := 2) hx hb dL_law_1171 (by decide) ?_
    refine lv_iadd hx hb dL_law_1172 ?_
    refine lv_topi (fun x181 ex181 => ?_)
    obtain ⟨tx181, ejx181, evx181⟩ := lw_ix (k := 2) ex181 hI hL rfl (by decide)
    clear tx181
    refine va_sld hx hb hX hbl (Nat.not_le.mpr hbl) hS (vp_in_iff.mpr evx181) dL_law_1173 ?_
    refine W.eq (g2 := F0 m 1174 ls [.int (xs (i.toNatClampNeg + 2)), .int (xs (i.toNatClampNeg + 1)), .ref a]) (congrArg (fun z => F0 m 1174 ls [.int (xs z), .int (xs (i.toNatClampNeg + 1)), .ref a]) ejx181) ?_
    refine lv_aload_n hx hb dL_law_1174 rfl (lv_at hl 3 rfl) ?_
    refine lv_iload_n hx hb dL_law_1175 rfl (lv_at hl 0 rfl) ?_
    refine lv_iconst (v := 3) hx hb dL_law_1176 (by decide) ?_
    refine lv_iadd hx hb dL_law_1177 ?_
    refine lv_topi (fun x182 ex182 => ?_)
    obtain ⟨tx182, ejx182, evx182⟩ := lw_ix (k := 3) ex182 hI hL rfl (by decide)
    clear tx182
    refine va_sld hx hb hX hbl (Nat.not_le.mpr hbl) hS (vp_in_iff.mpr evx182) dL_law_1178 ?_
    refine W.eq (g2 := F0 m 1179 ls [.int (xs (i.toNatClampNeg + 3)), .int (xs (i.toNatClampNeg + 2)), .int (xs (i.toNatClampNeg + 1)), .ref a]) (congrArg (fun z => F0 m 1179 ls [.int (xs z), .int (xs (i.toNatClampNeg + 2)), .int (xs (i.toNatClampNeg + 1)), .ref a]) ejx182) ?_
    refine lv_aload_n hx hb dL_law_1179 rfl (lv_at hl 3 rfl) ?_
    refine lv_iload_n hx hb dL_law_1180 rfl (lv_at hl 0 rfl) ?_
    refine lv_iconst (v := 4) hx hb dL_law_1181 (by decide) ?_
    refine lv_iadd hx hb dL_law_1182 ?_
    refine lv_topi (fun x183 ex183 => ?_)
    obtain ⟨tx183, ejx183, evx183⟩ := lw_ix (k := 4) ex183 hI hL rfl (by decide)
    clear tx183
    refine va_sld hx hb hX hbl (Nat.not_le.mpr hbl) hS (vp_in_iff.mpr evx183) dL_law_1183 ?_
    refine W.eq (g2 := F0 m 1184 ls [.int (xs (i.toNatClampNeg + 4)), .int (xs (i.toNatClampNeg + 3)), .int (xs (i.toNatClampNeg + 2)), .int (xs (i.toNatClampNeg + 1)), .ref a]) (congrArg (fun z => F0 m 1184 ls [.int (xs z), .int (xs (i.toNatClampNeg + 3)), .int (xs (i.toNatClampNeg + 2)), .int (xs (i.toNatClampNeg + 1)), .ref a]) ejx183) ?_
    refine x_V (As := [.int (xs (i.toNatClampNeg + 1)), .int (xs (i.toNatClampNeg + 2)), .int (xs (i.toNatClampNeg + 3)), .int (xs (i.toNatClampNeg + 4))]) (rest := []) C (a_X9_in l K G H ((xs (i.toNatClampNeg + 1))) ((xs (i.toNatClampNeg + 2))) ((xs (i.toNatClampNeg + 3))) ((xs (i.toNatClampNeg + 4))) hT ga) yo_X9_in wM_L_121 ⟨⟨by decide, by decide⟩, show _ ≤ 284929 from Nat.le_trans hc (by decide), show _ ≤ 8247460 from Nat.le_trans hs (by decide)⟩ (x_rv C hT (ci := 9) rfl ga rg_68) rfl hl.1 rfl (Nat.le_of_ble_eq_true rfl) dL_law_1184 hS (AE_new hN hS.1) (fun vH184 H184 locsH184 pH184 zH184 kH184 hSH184 => ?_)
    obtain ⟨x185, hvH184, hTH184⟩ := pH184
    subst hvH184
    have g186 : CG (avw K H184 b) := CG.congr (fun k hk j => av_eff hT kH184 gb (by decide) (CG_eff [83, 84] (by decide) k hk)) cg
    have g187 : TU (avw K H184 b) (svw K H184 b) := TU.congr (fun k hk j => av_eff hT kH184 gb (by decide) (TU_eff [83, 84] (by decide) k hk)) (fun k hk => sv_eff hT kH184 gb (by decide)) tu
    have g188 : WD (avw K H184 b) := WD.congr (fun k hk j => av_eff hT kH184 gb (by decide) (WD_eff [83, 84] (by decide) k hk)) wd
    have g189 : IM (avw K H184 b) := IM.congr (fun k hk j => av_eff hT kH184 gb (by decide) (IM_eff [83, 84] (by decide) k hk)) im
    have f190 : ∀ j : Nat, j < 8 → fI H184 cn j = fI H cn j := fun j hj => (fI_kept (x_lt hT kH184 gcn (by decide))).trans (f0cn j hj)
    have f191 : ∀ j : Nat, j < 8 → fI H184 xn j = fI H xn j := fun j hj => (fI_kept (x_lt hT kH184 gxn (by decide))).trans (f0xn j hj)
    have f192 : ∀ j : Nat, j < 8 → fI H184 cl j = fI H cl j := fun j hj => (fI_kept (x_lt hT kH184 gcl (by decide))).trans (f0cl j hj)
    have f193 : ∀ j : Nat, j < 8 → fI H184 xl j = fI H xl j := fun j hj => (fI_kept (x_lt hT kH184 gxl (by decide))).trans (f0xl j hj)
    have f194 : ∀ j : Nat, j < 8 → fI H184 ck j = fI H ck j := fun j hj => (fI_kept (x_lt hT kH184 gck (by decide))).trans (f0ck j hj)
    have f195 : ∀ j : Nat, j < 8 → fI H184 xk j = fI H xk j := fun j hj => (fI_kept (x_lt hT kH184 gxk (by decide))).trans (f0xk j hj)
    have f196 : ∀ j : Nat, j < 8 → fI H184 dn j = fI H dn j := fun j hj => (fI_kept (x_lt hT kH184 gdn (by decide))).trans (f0dn j hj)
    have f197 : ∀ j : Nat, j < 8 → fI H184 dl j = fI H dl j := fun j hj => (fI_kept (x_lt hT kH184 gdl (by decide))).trans (f0dl j hj)
    have f198 : ∀ j : Nat, j < 8 → fI H184 dk j = fI H dk j := fun j hj => (fI_kept (x_lt hT kH184 gdk (by decide))).trans (f0dk j hj)
    have f199 : ∀ j : Nat, fI H184 iq j = fI H iq j := fun j => (fI_kept (x_lt hT kH184 giq (by decide))).trans (f0i j)
    have m200 := (ew).trans (fR_kept (x_lt hT kH184 ga (by decide))).symm
    have m201 := (eta).trans (fI_kept (x_lt hT kH184 ga (by decide))).symm
    have m202 := (etb).trans (fI_kept (x_lt hT kH184 gb (by decide))).symm
    have m203 := (es1).trans (fI_kept (x_lt hT kH184 gw (by decide))).symm
    have m204 := (ey1).trans (fI_kept (x_lt hT kH184 gb (by decide))).symm
    have m205 := (es4).trans (fI_kept (x_lt hT kH184 gw (by decide))).symm
    have m206 := (ey4).trans (fI_kept (x_lt hT kH184 gb (by decide))).symm
    have m207 := (es5).trans (fI_kept (x_lt hT kH184 gw (by decide))).symm
    have m208 := (ey5).trans (fI_kept (x_lt hT kH184 gb (by decide))).symm
    have m209 := (es10).trans (fI_kept (x_lt hT kH184 gw (by decide))).symm
    have m210 := (ey10).trans (fI_kept (x_lt hT kH184 gb (by decide))).symm
    have m211 := (es13).trans (fI_kept (x_lt hT kH184 gw (by decide))).symm
    have m212 := (ey13).trans (fI_kept (x_lt hT kH184 gb (by decide))).symm
    have m213 := (es16).trans (fI_kept (x_lt hT kH184 gw (by decide))).symm
    have m214 := (ey16).trans (fI_kept (x_lt hT kH184 gb (by decide))).symm
    have m215 := (ecn).trans (fR_kept (x_lt hT kH184 gw (by decide))).symm
    have m216 := (exn).trans (fR_kept (x_lt hT kH184 gb (by decide))).symm
    have m217 := (ecl).trans (fR_kept (x_lt hT kH184 gw (by decide))).symm
    have m218 := (exl).trans (fR_kept (x_lt hT kH184 gb (by decide))).symm
    have m219 := (eck).trans (fR_kept (x_lt hT kH184 gw (by decide))).symm
    have m220 := (exk).trans (fR_kept (x_lt hT kH184 gb (by decide))).symm
    have m221 := (ehi).trans (fI_kept (x_lt hT kH184 gb (by decide))).symm
    have m222 := (fV_kept (x_lt hT kH184 ga (by decide))).trans kn
    have m223 := (eiq).trans (fR_kept (x_lt hT kH184 gb (by decide))).symm
    have m224 := (ek1).trans (fI_kept (x_lt hT kH184 gkq (by decide))).symm
    have m225 := (ei1).trans (fI_kept (x_lt hT kH184 giq (by decide))).symm
    have m226 := (ek4).trans (fI_kept (x_lt hT kH184 gkq (by decide))).symm
    have m227 := (ei4).trans (fI_kept (x_lt hT kH184 giq (by decide))).symm
    have m228 := (ek5).trans (fI_kept (x_lt hT kH184 gkq (by decide))).symm
    have m229 := (ei5).trans (fI_kept (x_lt hT kH184 giq (by decide))).symm
    have m230 := (ek10).trans (fI_kept (x_lt hT kH184 gkq (by decide))).symm
    have m231 := (ei10).trans (fI_kept (x_lt hT kH184 giq (by decide))).symm
    have m232 := (ek13).trans (fI_kept (x_lt hT kH184 gkq (by decide))).symm
    have m233 := (ei13).trans (fI_kept (x_lt hT kH184 giq (by decide))).symm
    have m234 := (ek16).trans (fI_kept (x_lt hT kH184 gkq (by decide))).symm
    have m235 := (ei16).trans (fI_kept (x_lt hT kH184 giq (by decide))).symm
    have m236 := (edn).trans (fR_kept (x_lt hT kH184 gkq (by decide))).symm
    have m237 := (edl).trans (fR_kept (x_lt hT kH184 gkq (by decide))).symm
    have m238 := (edk).trans (fR_kept (x_lt hT kH184 gkq (by decide))).symm
    refine W.eq (g2 := F0 m 1187 ls [.int x185]) rfl ?_
    clear eck ecl ecn edk edl edn ehi ei1 ei10 ei13 ei16 ei4 ei5 eiq ek1 ek10 ek13 ek16 ek4 ek5 es1 es10 es13 es16 es4 es5 eta etb ew exk exl exn ey1 ey10 ey13 ey16 ey4 ey5 f0ck f0cl f0cn f0dk f0dl f0dn f0i f0xk f0xl f0xn kn
    refine lv_pop hx hb dL_law_1187 rfl ?_
    refine lv_aload_n hx hb dL_law_1188 rfl (lv_at hl 1 rfl) ?_
    refine lv_aload_n hx hb dL_law_1189 rfl (lv_at hl 3 rfl) ?_
    refine lv_iload_n hx hb dL_law_1190 rfl (lv_at hl 0 rfl) ?_
    refine lv_iconst (v := 1) hx hb dL_law_1191 (by decide) ?_
    refine lv_iadd hx hb dL_law_1192 ?_
    refine lv_topi (fun x239 ex239 => ?_)
    obtain ⟨tx239, ejx239, evx239⟩ := lw_ix (k := 1) ex239 hI hL rfl (by decide)
    clear tx239
    refine va_sld hx hb hX hbl (Nat.not_le.mpr hbl) hSH184 (vp_in_iff.mpr evx239) dL_law_1193 ?_
    refine W.eq (g2 := F0 m 1194 ls [.int (xs (i.toNatClampNeg + 1)), .ref b]) (congrArg (fun z => F0 m 1194 ls [.int (xs z), .ref b]) ejx239) ?_
    refine lv_aload_n hx hb dL_law_1194 rfl (lv_at hl 3 rfl) ?_
    refine lv_iload_n hx hb dL_law_1195 rfl (lv_at hl 0 rfl) ?_
    refine lv_iconst (v := 2) hx hb dL_law_1196 (by decide) ?_
    refine lv_iadd hx hb dL_law_1197 ?_
    refine lv_topi (fun x240 ex240 => ?_)
    obtain ⟨tx240, ejx240, evx240⟩ := lw_ix (k := 2) ex240 hI hL rfl (by decide)
    clear tx240
    refine va_sld hx hb hX hbl (Nat.not_le.mpr hbl) hSH184 (vp_in_iff.mpr evx240) dL_law_1198 ?_
    refine W.eq (g2 := F0 m 1199 ls [.int (xs (i.toNatClampNeg + 2)), .int (xs (i.toNatClampNeg + 1)), .ref b]) (congrArg (fun z => F0 m 1199 ls [.int (xs z), .int (xs (i.toNatClampNeg + 1)), .ref b]) ejx240) ?_
    refine lv_aload_n hx hb dL_law_1199 rfl (lv_at hl 3 rfl) ?_
    refine lv_iload_n hx hb dL_law_1200 rfl (lv_at hl 0 rfl) ?_
    refine lv_iconst (v := 3) hx hb dL_law_1201 (by decide) ?_
    refine lv_iadd hx hb dL_law_1202 ?_
    refine lv_topi (fun x241 ex241 => ?_)
    obtain ⟨tx241, ejx241, evx241⟩ := lw_ix (k := 3) ex241 hI hL rfl (by decide)
    clear tx241
    refine va_sld hx hb hX hbl (Nat.not_le.mpr hbl) hSH184 (vp_in_iff.mpr evx241) dL_law_1203 ?_
    refine W.eq (g2 := F0 m 1204 ls [.int (xs (i.toNatClampNeg + 3)), .int (xs (i.toNatClampNeg + 2)), .int (xs (i.toNatClampNeg + 1)), .ref b]) (congrArg (fun z => F0 m 1204 ls [.int (xs z), .int (xs (i.toNatClampNeg + 2)), .int (xs (i.toNatClampNeg + 1)), .ref b]) ejx241) ?_
    refine lv_aload_n hx hb dL_law_1204 rfl (lv_at hl 3 rfl) ?_
    refine lv_iload_n hx hb dL_law_1205 rfl (lv_at hl 0 rfl) ?_
    refine lv_iconst (v := 4) hx hb dL_law_1206 (by decide) ?_
    refine lv_iadd hx hb dL_law_1207 ?_
    refine lv_topi (fun x242 ex242 => ?_)
    obtain ⟨tx242, ejx242, evx242⟩ := lw_ix (k := 4) ex242 hI hL rfl (by decide)
    clear tx242
    refine va_sld hx hb hX hbl (Nat.not_le.mpr hbl) hSH184 (vp_in_iff.mpr evx242) dL_law_1208 ?_
    refine W.eq (g2 := F0 m 1209 ls [.int (xs (i.toNatClampNeg + 4)), .int (xs (i.toNatClampNeg + 3)), .int (xs (i.toNatClampNeg + 2)), .int (xs (i.toNatClampNeg + 1)), .ref b]) (congrArg (fun z => F0 m 1209 ls [.int (xs z), .int (xs (i.toNatClampNeg + 3)), .int (xs (i.toNatClampNeg + 2)), .int (xs (i.toNatClampNeg + 1)), .ref b]) ejx242) ?_
    refine x_V (As := [.int (xs (i.toNatClampNeg + 1)), .int (xs (i.toNatClampNeg + 2)), .int (xs (i.toNatClampNeg + 3)), .int (xs (i.toNatClampNeg + 4))]) (rest := []) C (a_X10_in l K G H184 ((xs (i.toNatClampNeg + 1))) ((xs (i.toNatClampNeg + 2))) ((xs (i.toNatClampNeg + 3))) ((xs (i.toNatClampNeg + 4))) (y1) hTH184 gb m204 g186 g187 g188 g189) yo_X10_in wM_L_124 ⟨⟨by decide, by decide⟩, show _ ≤ 284929 from Nat.le_trans hc (by decide), show _ ≤ 8247460 from Nat.le_trans hs (by decide)⟩ (x_rv C hTH184 (ci := 10) rfl gb rg_112) rfl hl.1 rfl (Nat.le_of_ble_eq_true rfl) dL_law_1209 hSH184 (AE_new hN hSH184.1) (fun vH243 H243 locsH243 pH243 zH243 kH243 hSH243 => ?_)
    obtain ⟨x244, hvH243, g245, g246, g247, g248, mf249, hTH243⟩ := pH243
    subst hvH243
    have f250 : ∀ j : Nat, j < 8 → fI H243 cn j = fI H cn j := fun j hj => (fI_kept (x_lt hTH184 kH243 gcn (by decide))).trans (f190 j hj)
    have f251 : ∀ j : Nat, j < 8 → fI H243 xn j = fI H xn j := fun j hj => (fI_kept (x_lt hTH184 kH243 gxn (by decide))).trans (f191 j hj)
    have f252 : ∀ j : Nat, j < 8 → fI H243 cl j = fI H cl j := fun j hj => (fI_kept (x_lt hTH184 kH243 gcl (by decide))).trans (f192 j hj)
    have f253 : ∀ j : Nat, j < 8 → fI H243 xl j = fI H xl j := fun j hj => (fI_kept (x_lt hTH184 kH243 gxl (by decide))).trans (f193 j hj)
    have f254 : ∀ j : Nat, j < 8 → fI H243 ck j = fI H ck j := fun j hj => (fI_kept (x_lt hTH184 kH243 gck (by decide))).trans (f194 j hj)
    have f255 : ∀ j : Nat, j < 8 → fI H243 xk j = fI H xk j := fun j hj => (fI_kept (x_lt hTH184 kH243 gxk (by decide))).trans (f195 j hj)
    have f256 : ∀ j : Nat, j < 8 → fI H243 dn j = fI H dn j := fun j hj => (fI_kept (x_lt hTH184 kH243 gdn (by decide))).trans (f196 j hj)
    have f257 : ∀ j : Nat, j < 8 → fI H243 dl j = fI H dl j := fun j hj => (fI_kept (x_lt hTH184 kH243 gdl (by decide))).trans (f197 j hj)
    have f258 : ∀ j : Nat, j < 8 → fI H243 dk j = fI H dk j := fun j hj => (fI_kept (x_lt hTH184 kH243 gdk (by decide))).trans (f198 j hj)
    have f259 : ∀ j : Nat, fI H243 iq j = fI H iq j := fun j => (fI_kept (x_lt hTH184 kH243 giq (by decide))).trans (f199 j)
    have m260 := (m200).trans (fR_kept (x_lt hTH184 kH243 ga (by decide))).symm
    have m261 := (m201).trans (fI_kept (x_lt hTH184 kH243 ga (by decide))).symm
    have m262 := (m203).trans (fI_kept (x_lt hTH184 kH243 gw (by decide))).symm
    have m263 := (m205).trans (fI_kept (x_lt hTH184 kH243 gw (by decide))).symm
    have m264 := (m207).trans (fI_kept (x_lt hTH184 kH243 gw (by decide))).symm
    have m265 := (m209).trans (fI_kept (x_lt hTH184 kH243 gw (by decide))).symm
    have m266 := (m211).trans (fI_kept (x_lt hTH184 kH243 gw (by decide))).symm
    have m267 := (m213).trans (fI_kept (x_lt hTH184 kH243 gw (by decide))).symm
    have m268 := (m215).trans (fR_kept (x_lt hTH184 kH243 gw (by decide))).symm
    have m269 := (m217).trans (fR_kept (x_lt hTH184 kH243 gw (by decide))).symm
    have m270 := (m219).trans (fR_kept (x_lt hTH184 kH243 gw (by decide))).symm
    have m271 := (fV_kept (x_lt hTH184 kH243 ga (by decide))).trans m222
    have m272 := (m224).trans (fI_kept (x_lt hTH184 kH243 gkq (by decide))).symm
    have m273 := (m225).trans (fI_kept (x_lt hTH184 kH243 giq (by decide))).symm
    have m274 := (m226).trans (fI_kept (x_lt hTH184 kH243 gkq (by decide))).symm
    have m275 := (m227).trans (fI_kept (x_lt hTH184 kH243 giq (by decide))).symm
    have m276 := (m228).trans (fI_kept (x_lt hTH184 kH243 gkq (by decide))).symm
    have m277 := (m229).trans (fI_kept (x_lt hTH184 kH243 giq (by decide))).symm
    have m278 := (m230).trans (fI_kept (x_lt hTH184 kH243 gkq (by decide))).symm
    have m279 := (m231).trans (fI_kept (x_lt hTH184 kH243 giq (by decide))).symm
    have m280 := (m232).trans (fI_kept (x_lt hTH184 kH243 gkq (by decide))).symm
    have m281 := (m233).trans (fI_kept (x_lt hTH184 kH243 giq (by decide))).symm
    have m282 := (m234).trans (fI_kept (x_lt hTH184 kH243 gkq (by decide))).symm
    have m283 := (m235).trans (fI_kept (x_lt hTH184 kH243 giq (by decide))).symm
    have m284 := (m236).trans (fR_kept (x_lt hTH184 kH243 gkq (by decide))).symm
    have m285 := (m237).trans (fR_kept (x_lt hTH184 kH243 gkq (by decide))).symm
    have m286 := (m238).trans (fR_kept (x_lt hTH184 kH243 gkq (by decide))).symm
    have m287 := (m202).trans (MF.i mf249 (k := 18) (by decide) (by decide)).symm
    have m288 := (m204).trans (MF.i mf249 (k := 1) (by decide) (by decide)).symm
    have m289 := (m206).trans (MF.i mf249 (k := 2) (by decide) (by decide)).symm
    have m290 := (m208).trans (MF.i mf249 (k := 3) (by decide) (by decide)).symm
    have m291 := (m210).trans (MF.i mf249 (k := 59) (by decide) (by decide)).symm
    have m292 := (m212).trans (MF.i mf249 (k := 62) (by decide) (by decide)).symm
    have m293 := (m214).trans (MF.i mf249 (k := 65) (by decide) (by decide)).symm
    have m294 := (m216).trans (MF.r mf249 (k := 64) (by decide) (by decide)).symm
    have m295 := (m218).trans (MF.r mf249 (k := 66) (by decide) (by decide)).symm
    have m296 := (m220).trans (MF.r mf249 (k := 67) (by decide) (by decide)).symm
    have m297 := (m221).trans (MF.i mf249 (k := 70) (by decide) (by decide)).symm
    have m298 := (m223).trans (MF.r mf249 (k := 73) (by decide) (by decide)).symm
    refine W.eq (g2 := F0 m 1212 ls [.int x244]) rfl ?_
    clear f190 f191 f192 f193 f194 f195 f196 f197 f198 f199 m200 m201 m202 m203 m204 m205 m206 m207 m208 m209 m210 m211 m212 m213 m214 m215 m216 m217 m218 m219 m220 m221 m222 m223 m224 m225 m226 m227 m228 m229 m230 m231 m232 m233 m234 m235 m236 m237 m238
    refine lv_pop hx hb dL_law_1212 rfl ?_
    refine lv_goto (tgt := 1509) hx hb dL_law_1213 (by decide) ?_
    exact nx G H243 locsH243 _ _ ls ⟨hTH243, hN, ga, gb, g245, g246, g247, g248, ⟨(by rw [← m261, ← m287]; exact rt), (by rw [← m260, ← m262, ← m288]; exact r1), (by rw [← m260, ← m263, ← m289]; exact r4), (by rw [← m260, ← m264, ← m290]; exact r5), (by rw [← m260, ← m265, ← m291]; exact r10), (by rw [← m260, ← m266, ← m292]; exact r13), (by rw [← m260, ← m267, ← m293]; exact r16)⟩, Or.inr ⟨kq, m271, gkq, (by rw [← m297]; exact h70), (by rw [← m272, ← m298, ← m273]; exact q1), (by rw [← m274, ← m298, ← m275]; exact q4), (by rw [← m276, ← m298, ← m277]; exact q5), (by rw [← m278, ← m298, ← m279]; exact q10), (by rw [← m280, ← m298, ← m281]; exact q13), (by rw [← m282, ← m298, ← m283]; exact q16), (by rw [← m284, ← m298, ← m280]; exact EQR.of hsn (fun j hj => f256 j (by omega)) (fun j hj => f259 _) (by omega)), (by rw [← m285, ← m298, ← m282]; exact EQR.of hsl (fun j hj => f257 j (by omega)) (fun j hj => f259 _) (by omega)), (by rw [← m286, ← m298, ← m282]; exact EQR.of hsk (fun j hj => f258 j (by omega)) (fun j hj => f259 _) (by omega))⟩, ⟨(by rw [← m260, ← m268, ← m294, ← m292]; exact EQR.of hrn (fun j hj => f250 j (by omega)) (fun j hj => f251 j (by omega)) (by omega)), (by rw [← m260, ← m269, ← m295, ← m293]; exact EQR.of hrl (fun j hj => f252 j (by omega)) (fun j hj => f253 j (by omega)) (by omega)), (by rw [← m260, ← m270, ← m296, ← m293]; exact EQR.of hrk (fun j hj => f254 j (by omega)) (fun j hj => f255 j (by omega)) (by omega))⟩, hSH243⟩ hl ⟨hc, hs, fun h => by have h1 := h.symm.trans m271; cases h1⟩
set_option maxRecDepth 100000 in
set_option maxHeartbeats 8000000 in
theorem lw_c26 {p : Program} {l : Launch} {e : Env} {s : State} {m : MethodId} {below : List Frame} {meth : Method} {c : Code} {K : KE} {b0 L : Nat} {xs : Nat → Int32} {G : Nat → Option Nat} {H : Heap} {locs : List Loc} {a b : Nat} {cells slots : Nat} {ls : Array Slot} {i : Int32} {n : Nat} (D : LC p K s m meth c b0 L xs) (S : SX K s G H locs a b) (hl : lv_has ls 4 [(3, .int i), (2, .ref b), (1, .ref a), (0, .ref b0)]) (hi : 0 ≤ i.toInt ∧ i.toInt + 6 ≤ L) (hn : n ≤ 511) (hB : BD K H a cells slots) (nx : ∀ (G : Nat → Option Nat) (H : Heap) (locs : List Loc) (cells slots : Nat) (ls : Array Slot), SX K s G H locs a b → lv_has ls 4 [(3, .int i), (2, .ref b), (1, .ref a), (0, .ref b0)] → BD K H a cells slots → W p l e room_1 s m #[Value.ref b0] below meth c H locs cells slots (lw_Z below #[Value.ref b0] s) (F0 m 1509 ls [])) : W p l e room_1 s m #[Value.ref b0] below meth c H locs cells slots (lw_Z below #[Value.ref b0] s) (F0 m 1216 ls []) := by
  have hI := hi
  obtain ⟨C, hX, hbl, hL⟩ := id D
  obtain ⟨hx, hb, hml, hown, hts, hKT, hr, hlocks, hnm⟩ := id C
  obtain ⟨hT, hN, ga, gb, cg, tu, wd, im, ⟨rt, r1, r4, r5, r10, r13, r16⟩, hk, hnb, hS⟩ := S
  obtain ⟨hc, hs, hB0⟩ := hB
  have n_1 : (1 : Int32).toInt = 1 := rfl
  have n_2 : (2 : Int32).toInt = 2 := rfl
  obtain ⟨w, ew⟩ : ∃ z : Nat, z = fR H a (K.1.2 9 0) := ⟨_, rfl⟩
  have gw := ty_fr (q := w) (k := 0) (u := 0) ew hT ga rg_68 rfl
  rw [← ew] at r1 r4 r5 r10 r13 r16
  obtain ⟨ta, eta⟩ : ∃ z : Int32, z = fI H a (K.1.2 9 3) := ⟨_, rfl⟩
  rw [← eta] at rt
  obtain ⟨tb, etb⟩ : ∃ z : Int32, z = fI H b (K.1.2 10 18) := ⟨_, rfl⟩
  rw [← etb] at rt
  obtain ⟨s1, es1⟩ : ∃ z : Int32, z = fI H w (K.1.2 8 1) := ⟨_, rfl⟩
  rw [← es1] at r1
  obtain ⟨y1, ey1⟩ : ∃ z : Int32, z = fI H b (K.1.2 10 1) := ⟨_, rfl⟩
  rw [← ey1] at r1
  obtain ⟨s4, es4⟩ : ∃ z : Int32, z = fI H w (K.1.2 8 4) := ⟨_, rfl⟩
  rw [← es4] at r4
  obtain ⟨y4, ey4⟩ : ∃ z : Int32, z = fI H b (K.1.2 10 2) := ⟨_, rfl⟩
  rw [← ey4] at r4
  obtain ⟨s5, es5⟩ : ∃ z : Int32, z = fI H w (K.1.2 8 5) := ⟨_, rfl⟩
  rw [← es5] at r5
  obtain ⟨y5, ey5⟩ : ∃ z : Int32, z = fI H b (K.1.2 10 3) := ⟨_, rfl⟩
  rw [← ey5] at r5
  obtain ⟨s10, es10⟩ : ∃ z : Int32, z = fI H w (K.1.2 8 10) := ⟨_, rfl⟩
  rw [← es10] at r10
  obtain ⟨y10, ey10⟩ : ∃ z : Int32, z = fI H b (K.1.2 10 59) := ⟨_, rfl⟩
  rw [← ey10] at r10
  obtain ⟨s13, es13⟩ : ∃ z : Int32, z = fI H w (K.1.2 8 13) := ⟨_, rfl⟩
  rw [← es13] at r13
  obtain ⟨y13, ey13⟩ : ∃ z : Int32, z = fI H b (K.1.2 10 62) := ⟨_, rfl⟩
  rw [← ey13] at r13
  obtain ⟨s16, es16⟩ : ∃ z : Int32, z = fI H w (K.1.2 8 16) := ⟨_, rfl⟩
  rw [← es16] at r16
  obtain ⟨y16, ey16⟩ : ∃ z : Int32, z = fI H b (K.1.2 10 65) := ⟨_, rfl⟩
  rw [← ey16] at r16
  obtain ⟨hb1, hb2, hb3⟩ := hnb
  obtain ⟨cn, ecn⟩ : ∃ z : Nat, z = fR H w (K.1.2 8 12) := ⟨_, rfl⟩
  have gcn := ty_fr (q := cn) (k := 12) (u := 31) ecn hT gw rg_0 rfl
  obtain ⟨xn, exn⟩ : ∃ z : Nat, z = fR H b (K.1.2 10 64) := ⟨_, rfl⟩
  have gxn := ty_fr (q := xn) (k := 64) (u := 157) exn hT gb rg_112 rfl
  obtain ⟨cl, ecl⟩ : ∃ z : Nat, z = fR H w (K.1.2 8 14) := ⟨_, rfl⟩
  have gcl := ty_fr (q := cl) (k := 14) (u := 32) ecl hT gw rg_0 rfl
  obtain ⟨xl, exl⟩ : ∃ z : Nat, z = fR H b (K.1.2 10 66) := ⟨_, rfl⟩
  have gxl := ty_fr (q := xl) (k := 66) (u := 158) exl hT gb rg_112 rfl
  obtain ⟨ck, eck⟩ : ∃ z : Nat, z = fR H w (K.1.2 8 15) := ⟨_, rfl⟩
  have gck := ty_fr (q := ck) (k := 15) (u := 33) eck hT gw rg_0 rfl
  obtain ⟨xk, exk⟩ : ∃ z : Nat, z = fR H b (K.1.2 10 67) := ⟨_, rfl⟩
  have gxk := ty_fr (q := xk) (k := 67) (u := 159) exk hT gb rg_112 rfl
  have hrn : EQR (fun j => fI H cn j) (fun j => fI H xn j) y13.toInt := by rw [ecn, exn, ew, ey13]; exact hb1
  have hrl : EQR (fun j => fI H cl j) (fun j => fI H xl j) y16.toInt := by rw [ecl, exl, ew, ey16]; exact hb2
  have hrk : EQR (fun j => fI H ck j) (fun j => fI H xk j) y16.toInt := by rw [eck, exk, ew, ey16]; exact hb3
  have by13 := ty_fi (x := y13) (k := 62) ey13 hT gb rg_112 rfl
  have by16 := ty_fi (x := y16) (k := 65) ey16 hT gb rg_112 rfl
  have f0cn : ∀ j : Nat, j < 8 → fI H cn j = fI H cn j := fun _ _ => rfl
  have f0xn : ∀ j : Nat, j < 8 → fI H xn j = fI H xn j := fun _ _ => rfl
  have f0cl : ∀ j : Nat, j < 8 → fI H cl j = fI H cl j := fun _ _ => rfl
  have f0xl : ∀ j : Nat, j < 8 → fI H xl j = fI H xl j := fun _ _ => rfl
  have f0ck : ∀ j : Nat, j < 8 → fI H ck j = fI H ck j := fun _ _ => rfl
  have f0xk : ∀ j : Nat, j < 8 → fI H xk j = fI H xk j := fun _ _ => rfl
  rcases hk with ⟨kn, h70⟩ | ⟨kq, kn, gkq, h70, q1, q4, q5, q10, q13, q16, hq1, hq2, hq3⟩
  · skip
    obtain ⟨hi, ehi⟩ : ∃ z : Int32, z = fI H b (K.1.2 10 70) := ⟨_, rfl⟩
    rw [← ehi] at h70
    obtain ⟨hc0, hs0⟩ := hB0 kn
    refine lv_aload_n hx hb dL_law_1216 rfl (lv_at hl 2 rfl) ?_
    refine lv_aload_n hx hb dL_law_1217 rfl (lv_at hl 3 rfl) ?_
    refine lv_iload_n hx hb dL_law_1218 rfl (lv_at hl 0 rfl) ?_
    refine lv_iconst (v := 1) hx hb dL_law_1219 (by decide) ?_
    refine lv_iadd hx hb dL_law_1220 ?_
    refine lv_topi (fun x101 ex101 => ?_)
    obtain ⟨tx101, ejx101, evx101⟩ := lw_ix (k := 1) ex101 hI hL rfl (by decide)
    clear tx101
    refine va_sld hx hb hX hbl (Nat.not_le.mpr hbl) hS (vp_in_iff.mpr evx101) dL_law_1221 ?_
    refine W.eq (g2 := F0 m 1222 ls [.int (xs (i.toNatClampNeg + 1)), .ref a]) (congrArg (fun z => F0 m 1222 ls [.int (xs z), .ref a]) ejx101) ?_
    refine lv_aload_n hx hb dL_law_1222 rfl (lv_at hl 3 rfl) ?_
    refine lv_iload_n hx hb dL_law_1223 rfl (lv_at hl 0 rfl) ?_
    refine lv_iconst (v := 2) hx hb dL_law_1224 (by decide) ?_
    refine lv_iadd hx hb dL_law_1225 ?_
    refine lv_topi (fun x102 ex102 => ?_)
    obtain ⟨tx102, ejx102, evx102⟩ := lw_ix (k := 2) ex102 hI hL rfl (by decide)
    clear tx102
    refine va_sld hx hb hX hbl (Nat.not_le.mpr hbl) hS (vp_in_iff.mpr evx102) dL_law_1226 ?_
    refine W.eq (g2 := F0 m 1227 ls [.int (xs (i.toNatClampNeg + 2)), .int (xs (i.toNatClampNeg + 1)), .ref a]) (congrArg (fun z => F0 m 1227 ls [.int (xs z), .int (xs (i.toNatClampNeg + 1)), .ref a]) ejx102) ?_
    refine x_V (As := [.int (xs (i.toNatClampNeg + 1)), .int (xs (i.toNatClampNeg + 2))]) (rest := []) C (a_X9_night_r l K G H ((xs (i.toNatClampNeg + 1))) ((xs (i.toNatClampNeg + 2))) (s1) (s4) (s5) (s10) (s13) (s16) hT ga gw ew gcn ecn gcl ecl gck eck es1 es4 es5 es10 es13 es16) yo_X9_night wM_L_125 ⟨⟨by decide, by decide⟩, show _ ≤ 284929 from Nat.le_trans hc (by decide), show _ ≤ 8247460 from Nat.le_trans hs (by decide)⟩ (x_rv C hT (ci := 9) rfl ga rg_68) rfl hl.1 rfl (Nat.le_of_ble_eq_true rfl) dL_law_1227 hS (AE_new hN hS.1) (fun vH103 H103 locsH103 pH103 zH103 kH103 hSH103 => ?_)
    obtain ⟨x104, x105, x106, x107, x108, x109, x110, hvH103, ex105, ex106, ex107, ex108, ex109, ex110, hrH103, m111, m112, m113, hTH103⟩ := pH103
    subst hvH103
    have g114 : CG (avw K H103 b) := CG.congr (fun k hk j => av_eff hT kH103 gb (by decide) (CG_eff [0, 28, 29] (by decide) k hk)) cg
    have g115 : TU (avw K H103 b) (svw K H103 b) := TU.congr (fun k hk j => av_eff hT kH103 gb (by decide) (TU_eff [0, 28, 29] (by decide) k hk)) (fun k hk => sv_eff hT kH103 gb (by decide)) tu
    have g116 : WD (avw K H103 b) := WD.congr (fun k hk j => av_eff hT kH103 gb (by decide) (WD_eff [0, 28, 29] (by decide) k hk)) wd
    have g117 : IM (avw K H103 b) := IM.congr (fun k hk j => av_eff hT kH103 gb (by decide) (IM_eff [0, 28, 29] (by decide) k hk)) im
    have f118 : ∀ j : Nat, j < 8 → fI H103 cn j = fI H cn j := fun j hj => (fI_kept (x_lt hT kH103 gcn (by decide))).trans (f0cn j hj)
    have f119 : ∀ j : Nat, j < 8 → fI H103 xn j = fI H xn j := fun j hj => (fI_kept (x_lt hT kH103 gxn (by decide))).trans (f0xn j hj)
    have f120 : ∀ j : Nat, j < 8 → fI H103 cl j = fI H cl j := fun j hj => (fI_kept (x_lt hT kH103 gcl (by decide))).trans (f0cl j hj)
    have f121 : ∀ j : Nat, j < 8 → fI H103 xl j = fI H xl j := fun j hj => (fI_kept (x_lt hT kH103 gxl (by decide))).trans (f0xl j hj)
    have f122 : ∀ j : Nat, j < 8 → fI H103 ck j = fI H ck j := fun j hj => (fI_kept (x_lt hT kH103 gck (by decide))).trans (f0ck j hj)
    have f123 : ∀ j : Nat, j < 8 → fI H103 xk j = fI H xk j := fun j hj => (fI_kept (x_lt hT kH103 gxk (by decide))).trans (f0xk j hj)
    have m124 := (ew).trans (fR_kept (x_lt hT kH103 ga (by decide))).symm
    have m125 := (eta).trans (fI_kept (x_lt hT kH103 ga (by decide))).symm
    have m126 := (etb).trans (fI_kept (x_lt hT kH103 gb (by decide))).symm
    have m127 := (ey1).trans (fI_kept (x_lt hT kH103 gb (by decide))).symm
    have m128 := (ey4).trans (fI_kept (x_lt hT kH103 gb (by decide))).symm
    have m129 := (ey5).trans (fI_kept (x_lt hT kH103 gb (by decide))).symm
    have m130 := (ey10).trans (fI_kept (x_lt hT kH103 gb (by decide))).symm
    have m131 := (ey13).trans (fI_kept (x_lt hT kH103 gb (by decide))).symm
    have m132 := (ey16).trans (fI_kept (x_lt hT kH103 gb (by decide))).symm
    have m133 := (exn).trans (fR_kept (x_lt hT kH103 gb (by decide))).symm
    have m134 := (exl).trans (fR_kept (x_lt hT kH103 gb (by decide))).symm
    have m135 := (exk).trans (fR_kept (x_lt hT kH103 gb (by decide))).symm
    have m136 := (ehi).trans (fI_kept (x_lt hT kH103 gb (by decide))).symm
    have m137 := (fV_kept (x_lt hT kH103 ga (by decide))).trans kn
    have bx105 := ty_fi (x := x105) (k := 1) ex105 hTH103 gw rg_0 rfl
    have bx106 := ty_fi (x := x106) (k := 4) ex106 hTH103 gw rg_0 rfl
    have bx107 := ty_fi (x := x107) (k := 5) ex107 hTH103 gw rg_0 rfl
    have bx108 := ty_fi (x := x108) (k := 10) ex108 hTH103 gw rg_0 rfl
    have bx109 := ty_fi (x := x109) (k := 13) ex109 hTH103 gw rg_0 rfl
    have bx110 := ty_fi (x := x110) (k := 16) ex110 hTH103 gw rg_0 rfl
    refine W.eq (g2 := F0 m 1230 ls [.int x104]) rfl ?_
    clear eck ecl ecn ehi es1 es10 es13 es16 es4 es5 eta etb ew exk exl exn ey1 ey10 ey13 ey16 ey4 ey5 f0ck f0cl f0cn f0xk f0xl f0xn kn
    refine lv_pop hx hb dL_law_1230 rfl ?_
    refine lv_aload_n hx hb dL_law_1231 rfl (lv_at hl 1 rfl) ?_
    refine lv_aload_n hx hb dL_law_1232 rfl (lv_at hl 3 rfl) ?_
    refine lv_iload_n hx hb dL_law_1233 rfl (lv_at hl 0 rfl) ?_
    refine lv_iconst (v := 1) hx hb dL_law_1234 (by decide) ?_
    refine lv_iadd hx hb dL_law_1235 ?_
    refine lv_topi (fun x138 ex138 => ?_)
    obtain ⟨tx138, ejx138, evx138⟩ := lw_ix (k := 1) ex138 hI hL rfl (by decide)
    clear tx138
    refine va_sld hx hb hX hbl (Nat.not_le.mpr hbl) hSH103 (vp_in_iff.mpr evx138) dL_law_1236 ?_
    refine W.eq (g2 := F0 m 1237 ls [.int (xs (i.toNatClampNeg + 1)), .ref b]) (congrArg (fun z => F0 m 1237 ls [.int (xs z), .ref b]) ejx138) ?_
    refine lv_aload_n hx hb dL_law_1237 rfl (lv_at hl 3 rfl) ?_
    refine lv_iload_n hx hb dL_law_1238 rfl (lv_at hl 0 rfl) ?_
    refine lv_iconst (v := 2) hx hb dL_law_1239 (by decide) ?_
    refine lv_iadd hx hb dL_law_1240 ?_
    refine lv_topi (fun x139 ex139 => ?_)
    obtain ⟨tx139, ejx139, evx139⟩ := lw_ix (k := 2) ex139 hI hL rfl (by decide)
    clear tx139
    refine va_sld hx hb hX hbl (Nat.not_le.mpr hbl) hSH103 (vp_in_iff.mpr evx139) dL_law_1241 ?_
    refine W.eq (g2 := F0 m 1242 ls [.int (xs (i.toNatClampNeg + 2)), .int (xs (i.toNatClampNeg + 1)), .ref b]) (congrArg (fun z => F0 m 1242 ls [.int (xs z), .int (xs (i.toNatClampNeg + 1)), .ref b]) ejx139) ?_
    refine x_V (As := [.int (xs (i.toNatClampNeg + 1)), .int (xs (i.toNatClampNeg + 2))]) (rest := []) C (a_X10_night_r l K G H103 ((xs (i.toNatClampNeg + 1))) ((xs (i.toNatClampNeg + 2))) (y10) hTH103 gb m130 g114 g115 g116 g117) yo_X10_night wM_L_128 ⟨⟨by decide, by decide⟩, show _ ≤ 284929 from Nat.le_trans hc (by decide), show _ ≤ 8247460 from Nat.le_trans hs (by decide)⟩ (x_rv C hTH103 (ci := 10) rfl gb rg_112) rfl hl.1 rfl (Nat.le_of_ble_eq_true rfl) dL_law_1242 hSH103 (AE_new hN hSH103.1) (fun vH140 H140 locsH140 pH140 zH140 kH140 hSH140 => ?_)
    obtain ⟨x141, x142, hvH140, ex142, hrH140, g143, g144, g145, g146, mf147, hTH140⟩ := pH140
    subst hvH140
    have f148 : ∀ j : Nat, j < 8 → fI H140 cn j = fI H cn j := fun j hj => (fI_kept (x_lt hTH103 kH140 gcn (by decide))).trans (f118 j hj)
    have f149 : ∀ j : Nat, j < 8 → fI H140 xn j = fI H xn j := fun j hj => (fI_kept (x_lt hTH103 kH140 gxn (by decide))).trans (f119 j hj)
    have f150 : ∀ j : Nat, j < 8 → fI H140 cl j = fI H cl j := fun j hj => (fI_kept (x_lt hTH103 kH140 gcl (by decide))).trans (f120 j hj)
    have f151 : ∀ j : Nat, j < 8 → fI H140 xl j = fI H xl j := fun j hj => (fI_kept (x_lt hTH103 kH140 gxl (by decide))).trans (f121 j hj)
    have f152 : ∀ j : Nat, j < 8 → fI H140 ck j = fI H ck j := fun j hj => (fI_kept (x_lt hTH103 kH140 gck (by decide))).trans (f122 j hj)
    have f153 : ∀ j : Nat, j < 8 → fI H140 xk j = fI H xk j := fun j hj => (fI_kept (x_lt hTH103 kH140 gxk (by decide))).trans (f123 j hj)
    have m154 := (m124).trans (fR_kept (x_lt hTH103 kH140 ga (by decide))).symm
    have m155 := (m125).trans (fI_kept (x_lt hTH103 kH140 ga (by decide))).symm
    have m156 := (fV_kept (x_lt hTH103 kH140 ga (by decide))).trans m137
    have m157 := (m111).trans (fR_kept (x_lt hTH103 kH140 gw (by decide))).symm
    have m158 := (m112).trans (fR_kept (x_lt hTH103 kH140 gw (by decide))).symm
    have m159 := (m113).trans (fR_kept (x_lt hTH103 kH140 gw (by decide))).symm
    have m160 := (ex105).trans (fI_kept (x_lt hTH103 kH140 gw (by decide))).symm
    have m161 := (ex106).trans (fI_kept (x_lt hTH103 kH140 gw (by decide))).symm
    have m162 := (ex107).trans (fI_kept (x_lt hTH103 kH140 gw (by decide))).symm
    have m163 := (ex108).trans (fI_kept (x_lt hTH103 kH140 gw (by decide))).symm
    have m164 := (ex109).trans (fI_kept (x_lt hTH103 kH140 gw (by decide))).symm
    have m165 := (ex110).trans (fI_kept (x_lt hTH103 kH140 gw (by decide))).symm
    have m166 := (m126).trans (MF.i mf147 (k := 18) (by decide) (by decide)).symm
    have m167 := (m127).trans (MF.i mf147 (k := 1) (by decide) (by decide)).symm
    have m168 := (m128).trans (MF.i mf147 (k := 2) (by decide) (by decide)).symm
    have m169 := (m129).trans (MF.i mf147 (k := 3) (by decide) (by decide)).symm
    have m170 := (m131).trans (MF.i mf147 (k := 62) (by decide) (by decide)).symm
    have m171 := (m132).trans (MF.i mf147 (k := 65) (by decide) (by decide)).symm
    have m172 := (m133).trans (MF.r mf147 (k := 64) (by decide) (by decide)).symm
    have m173 := (m134).trans (MF.r mf147 (k := 66) (by decide) (by decide)).symm
    have m174 := (m135).trans (MF.r mf147 (k := 67) (by decide) (by decide)).symm
    have m175 := (m136).trans (MF.i mf147 (k := 70) (by decide) (by decide)).symm
    have bx142 := ty_fi (x := x142) (k := 59) ex142 hTH140 gb rg_112 rfl
    refine W.eq (g2 := F0 m 1245 ls [.int x141]) rfl ?_
    clear ex105 ex106 ex107 ex108 ex109 ex110 f118 f119 f120 f121 f122 f123 m111 m112 m113 m124 m125 m126 m127 m128 m129 m130 m131 m132 m133 m134 m135 m136 m137
    refine lv_pop hx hb dL_law_1245 rfl ?_
    refine lv_goto (tgt := 1509) hx hb dL_law_1246 (by decide) ?_
    exact nx G H140 locsH140 _ _ ls ⟨hTH140, hN, ga, gb, g143, g144, g145, g146, ⟨(by rw [← m155, ← m166]; exact rt), (by rw [← m154, ← m160, ← m167]; omega), (by rw [← m154, ← m161, ← m168]; omega), (by rw [← m154, ← m162, ← m169]; omega), (by rw [← m154, ← m163, ← ex142]; omega), (by rw [← m154, ← m164, ← m170]; omega), (by rw [← m154, ← m165, ← m171]; omega)⟩, Or.inl ⟨m156, (by rw [← m175]; exact h70)⟩, ⟨(by rw [← m154, ← m157, ← m172, ← m170]; exact EQR.of hrn (fun j hj => f148 j (by omega)) (fun j hj => f149 j (by omega)) (by omega)), (by rw [← m154, ← m158, ← m173, ← m171]; exact EQR.of hrl (fun j hj => f150 j (by omega)) (fun j hj => f151 j (by omega)) (by omega)), (by rw [← m154, ← m159, ← m174, ← m171]; exact EQR.of hrk (fun j hj => f152 j (by omega)) (fun j hj => f153 j (by omega)) (by omega))⟩, hSH140⟩ hl ⟨hc, hs, fun _ => ⟨hc0, hs0⟩⟩
  · skip
    obtain ⟨hi, ehi⟩ : ∃ z : Int32, z = fI H b (K.1.2 10 70) := ⟨_, rfl⟩
    rw [← ehi] at h70
    obtain ⟨iq, eiq⟩ : ∃ z : Nat, z = fR H b (K.1.2 10 73) := ⟨_, rfl⟩
    have giq := ty_fr (q := iq) (k := 73) (u := 162) eiq hT gb rg_112 rfl
    rw [← eiq] at q1 q4 q5 q10 q13 q16
    obtain ⟨k1, ek1⟩ : ∃ z : Int32, z = fI H kq (K.1.2 8 1) := ⟨_, rfl⟩
    rw [← ek1] at q1
    obtain ⟨i1, ei1⟩ : ∃ z : Int32, z = fI H iq ((0 : Int32).toNatClampNeg) := ⟨_, rfl⟩
    rw [← ei1] at q1
    obtain ⟨k4, ek4⟩ : ∃ z : Int32, z = fI H kq (K.1.2 8 4) := ⟨_, rfl⟩
    rw [← ek4] at q4
    obtain ⟨i4, ei4⟩ : ∃ z : Int32, z = fI H iq ((1 : Int32).toNatClampNeg) := ⟨_, rfl⟩
    rw [← ei4] at q4
    obtain ⟨k5, ek5⟩ : ∃ z : Int32, z = fI H kq (K.1.2 8 5) := ⟨_, rfl⟩
    rw [← ek5] at q5
    obtain ⟨i5, ei5⟩ : ∃ z : Int32, z = fI H iq ((2 : Int32).toNatClampNeg) := ⟨_, rfl⟩
    rw [← ei5] at q5
    obtain ⟨k10, ek10⟩ : ∃ z : Int32, z = fI H kq (K.1.2 8 10) := ⟨_, rfl⟩
    rw [← ek10] at q10
    obtain ⟨i10, ei10⟩ : ∃ z : Int32, z = fI H iq ((3 : Int32).toNatClampNeg) := ⟨_, rfl⟩
    rw [← ei10] at q10
    obtain ⟨k13, ek13⟩ : ∃ z : Int32, z = fI H kq (K.1.2 8 13) := ⟨_, rfl⟩
    rw [← ek13] at q13
    obtain ⟨i13, ei13⟩ : ∃ z : Int32, z = fI H iq ((4 : Int32).toNatClampNeg) := ⟨_, rfl⟩
    rw [← ei13] at q13
    obtain ⟨k16, ek16⟩ : ∃ z : Int32, z = fI H kq (K.1.2 8 16) := ⟨_, rfl⟩
    rw [← ek16] at q16
    obtain ⟨i16, ei16⟩ : ∃ z : Int32, z = fI H iq ((5 : Int32).toNatClampNeg) := ⟨_, rfl⟩
    rw [← ei16] at q16
    obtain ⟨dn, edn⟩ : ∃ z : Nat, z = fR H kq (K.1.2 8 12) := ⟨_, rfl⟩
    have gdn := ty_fr (q := dn) (k := 12) (u := 65) edn hT gkq rg_34 rfl
    obtain ⟨dl, edl⟩ : ∃ z : Nat, z = fR H kq (K.1.2 8 14) := ⟨_, rfl⟩
    have gdl := ty_fr (q := dl) (k := 14) (u := 66) edl hT gkq rg_34 rfl
    obtain ⟨dk, edk⟩ : ∃ z : Nat, z = fR H kq (K.1.2 8 15) := ⟨_, rfl⟩
    have gdk := ty_fr (q := dk) (k := 15) (u := 67) edk hT gkq rg_34 rfl
    have hsn : EQR (fun j => fI H dn j) (fun j => fI H iq (8877 + 4 * j)) k13.toInt := by rw [edn, eiq, ek13]; exact hq1
    have hsl : EQR (fun j => fI H dl j) (fun j => fI H iq (8878 + 4 * j)) k16.toInt := by rw [edl, eiq, ek16]; exact hq2
    have hsk : EQR (fun j => fI H dk j) (fun j => fI H iq (8879 + 4 * j)) k16.toInt := by rw [edk, eiq, ek16]; exact hq3
    have bk13 := ty_fi (x := k13) (k := 13) ek13 hT gkq rg_34 rfl
    have bk16 := ty_fi (x := k16) (k := 16) ek16 hT gkq rg_34 rfl
    have f0dn : ∀ j : Nat, j < 8 → fI H dn j = fI H dn j := fun _ _ => rfl
    have f0dl : ∀ j : Nat, j < 8 → fI H dl j = fI H dl j := fun _ _ => rfl
    have f0dk : ∀ j : Nat, j < 8 → fI H dk j = fI H dk j := fun _ _ => rfl
    have f0i : ∀ j : Nat, fI H iq j = fI H iq j := fun _ => rfl
    refine lv_aload_n hx hb dL_law_1216 rfl (lv_at hl 2 rfl) ?_
    refine lv_aload_n hx hb dL_law_1217 rfl (lv_at hl 3 rfl) ?_
    refine lv_iload_n hx hb dL_law_1218 rfl (lv_at hl 0 rfl) ?_
    refine lv_iconst (v := 1) hx hb dL_law_1219 (by decide) ?_
    refine lv_iadd hx hb dL_law_1220 ?_
    refine lv_topi (fun x176 ex176 => ?_)
    obtain ⟨tx176, ejx176, evx176⟩ := lw_ix (k := 1) ex176 hI hL rfl (by decide)
    clear tx176
    refine va_sld hx hb hX hbl (Nat.not_le.mpr hbl) hS (vp_in_iff.mpr evx176) dL_law_1221 ?_
    refine W.eq (g2 := F0 m 1222 ls [.int (xs (i.toNatClampNeg + 1)), .ref a]) (congrArg (fun z => F0 m 1222 ls [.int (xs z), .ref a]) ejx176) ?_
    refine lv_aload_n hx hb dL_law_1222 rfl (lv_at hl 3 rfl) ?_
    refine lv_iload_n hx hb dL_law_1223 rfl (lv_at hl 0 rfl) ?_
    refine lv_iconst (v := 2) hx hb dL_law_1224 (by decide) ?_
    refine lv_iadd hx hb dL_law_1225 ?_
    refine lv_topi (fun x177 ex177 => ?_)
    obtain ⟨tx177, ejx177, evx177⟩ := lw_ix (k := 2) ex177 hI hL rfl (by decide)
    clear tx177
    refine va_sld hx hb hX hbl (Nat.not_le.mpr hbl) hS (vp_in_iff.mpr evx177) dL_law_1226 ?_
    refine W.eq (g2 := F0 m 1227 ls [.int (xs (i.toNatClampNeg + 2)), .int (xs (i.toNatClampNeg + 1)), .ref a]) (congrArg (fun z => F0 m 1227 ls [.int (xs z), .int (xs (i.toNatClampNeg + 1)), .ref a]) ejx177) ?_
    refine x_V (As := [.int (xs (i.toNatClampNeg + 1)), .int (xs (i.toNatClampNeg + 2))]) (rest := []) C (a_X9_night_r l K G H ((xs (i.toNatClampNeg + 1))) ((xs (i.toNatClampNeg + 2))) (s1) (s4) (s5) (s10) (s13) (s16) hT ga gw ew gcn ecn gcl ecl gck eck es1 es4 es5 es10 es13 es16) yo_X9_night wM_L_125 ⟨⟨by decide, by decide⟩, show _ ≤ 284929 from Nat.le_trans hc (by decide), show _ ≤ 8247460 from Nat.le_trans hs (by decide)⟩ (x_rv C hT (ci := 9) rfl ga rg_68) rfl hl.1 rfl (Nat.le_of_ble_eq_true rfl) dL_law_1227 hS (AE_new hN hS.1) (fun vH178 H178 locsH178 pH178 zH178 kH178 hSH178 => ?_)
    obtain ⟨x179, x180, x181, x182, x183, x184, x185, hvH178, ex180, ex181, ex182, ex183, ex184, ex185, hrH178, m186, m187, m188, hTH178⟩ := pH178
    subst hvH178
    have g189 : CG (avw K H178 b) := CG.congr (fun k hk j => av_eff hT kH178 gb (by decide) (CG_eff [0, 28, 29] (by decide) k hk)) cg
    have g190 : TU (avw K H178 b) (svw K H178 b) := TU.congr (fun k hk j => av_eff hT kH178 gb (by decide) (TU_eff [0, 28, 29] (by decide) k hk)) (fun k hk => sv_eff hT kH178 gb (by decide)) tu
    have g191 : WD (avw K H178 b) := WD.congr (fun k hk j => av_eff hT kH178 gb (by decide) (WD_eff [0, 28, 29] (by decide) k hk)) wd
    have g192 : IM (avw K H178 b) := IM.congr (fun k hk j => av_eff hT kH178 gb (by decide) (IM_eff [0, 28, 29] (by decide) k hk)) im
    have f193 : ∀ j : Nat, j < 8 → fI H178 cn j = fI H cn j := fun j hj => (fI_kept (x_lt hT kH178 gcn (by decide))).trans (f0cn j hj)
    have f194 : ∀ j : Nat, j < 8 → fI H178 xn j = fI H xn j := fun j hj => (fI_kept (x_lt hT kH178 gxn (by decide))).trans (f0xn j hj)
    have f195 : ∀ j : Nat, j < 8 → fI H178 cl j = fI H cl j := fun j hj => (fI_kept (x_lt hT kH178 gcl (by decide))).trans (f0cl j hj)
    have f196 : ∀ j : Nat, j < 8 → fI H178 xl j = fI H xl j := fun j hj => (fI_kept (x_lt hT kH178 gxl (by decide))).trans (f0xl j hj)
    have f197 : ∀ j : Nat, j < 8 → fI H178 ck j = fI H ck j := fun j hj => (fI_kept (x_lt hT kH178 gck (by decide))).trans (f0ck j hj)
    have f198 : ∀ j : Nat, j < 8 → fI H178 xk j = fI H xk j := fun j hj => (fI_kept (x_lt hT kH178 gxk (by decide))).trans (f0xk j hj)
    have f199 : ∀ j : Nat, j < 8 → fI H178 dn j = fI H dn j := fun j hj => (fI_kept (x_lt hT kH178 gdn (by decide))).trans (f0dn j hj)
    have f200 : ∀ j : Nat, j < 8 → fI H178 dl j = fI H dl j := fun j hj => (fI_kept (x_lt hT kH178 gdl (by decide))).trans (f0dl j hj)
    have f201 : ∀ j : Nat, j < 8 → fI H178 dk j = fI H dk j := fun j hj => (fI_kept (x_lt hT kH178 gdk (by decide))).trans (f0dk j hj)
    have f202 : ∀ j : Nat, fI H178 iq j = fI H iq j := fun j => (fI_kept (x_lt hT kH178 giq (by decide))).trans (f0i j)
    have m203 := (ew).trans (fR_kept (x_lt hT kH178 ga (by decide))).symm
    have m204 := (eta).trans (fI_kept (x_lt hT kH178 ga (by decide))).symm
    have m205 := (etb).trans (fI_kept (x_lt hT kH178 gb (by decide))).symm
    have m206 := (ey1).trans (fI_kept (x_lt hT kH178 gb (by decide))).symm
    have m207 := (ey4).trans (fI_kept (x_lt hT kH178 gb (by decide))).symm
    have m208 := (ey5).trans (fI_kept (x_lt hT kH178 gb (by decide))).symm
    have m209 := (ey10).trans (fI_kept (x_lt hT kH178 gb (by decide))).symm
    have m210 := (ey13).trans (fI_kept (x_lt hT kH178 gb (by decide))).symm
    have m211 := (ey16).trans (fI_kept (x_lt hT kH178 gb (by decide))).symm
    have m212 := (exn).trans (fR_kept (x_lt hT kH178 gb (by decide))).symm
    have m213 := (exl).trans (fR_kept (x_lt hT kH178 gb (by decide))).symm
    have m214 := (exk).trans (fR_kept (x_lt hT kH178 gb (by decide))).symm
    have m215 := (ehi).trans (fI_kept (x_lt hT kH178 gb (by decide))).symm
    have m216 := (fV_kept (x_lt hT kH178 ga (by decide))).trans kn
    have m217 := (eiq).trans (fR_kept (x_lt hT kH178 gb (by decide))).symm
    have m218 := (ek1).trans (fI_kept (x_lt hT kH178 gkq (by decide))).symm
    have m219 := (ei1).trans (fI_kept (x_lt hT kH178 giq (by decide))).symm
    have m220 := (ek4).trans (fI_kept (x_lt hT kH178 gkq (by decide))).symm
    have m221 := (ei4).trans (fI_kept (x_lt hT kH178 giq (by decide))).symm
    have m222 := (ek5).trans (fI_kept (x_lt hT kH178 gkq (by decide))).symm
    have m223 := (ei5).trans (fI_kept (x_lt hT kH178 giq (by decide))).symm
    have m224 := (ek10).trans (fI_kept (x_lt hT kH178 gkq (by decide))).symm
    have m225 := (ei10).trans (fI_kept (x_lt hT kH178 giq (by decide))).symm
    have m226 := (ek13).trans (fI_kept (x_lt hT kH178 gkq (by decide))).symm
    have m227 := (ei13).trans (fI_kept (x_lt hT kH178 giq (by decide))).symm
    have m228 := (ek16).trans (fI_kept (x_lt hT kH178 gkq (by decide))).symm
    have m229 := (ei16).trans (fI_kept (x_lt hT kH178 giq (by decide))).symm
    have m230 := (edn).trans (fR_kept (x_lt hT kH178 gkq (by decide))).symm
    have m231 := (edl).trans (fR_kept (x_lt hT kH178 gkq (by decide))).symm
    have m232 := (edk).trans (fR_kept (x_lt hT kH178 gkq (by decide))).symm
    have bx180 := ty_fi (x := x180) (k := 1) ex180 hTH178 gw rg_0 rfl
    have bx181 := ty_fi (x := x181) (k := 4) ex181 hTH178 gw rg_0 rfl
    have bx182 := ty_fi (x := x182) (k := 5) ex182 hTH178 gw rg_0 rfl
    have bx183 := ty_fi (x := x183) (k := 10) ex183 hTH178 gw rg_0 rfl
    have bx184 := ty_fi (x := x184) (k := 13) ex184 hTH178 gw rg_0 rfl
    have bx185 := ty_fi (x := x185) (k := 16) ex185 hTH178 gw rg_0 rfl
    refine W.eq (g2 := F0 m 1230 ls [.int x179]) rfl ?_
    clear eck ecl ecn edk edl edn ehi ei1 ei10 ei13 ei16 ei4 ei5 eiq ek1 ek10 ek13 ek16 ek4 ek5 es1 es10 es13 es16 es4 es5 eta etb ew exk exl exn ey1 ey10 ey13 ey16 ey4 ey5 f0ck f0cl f0cn f0dk f0dl f0dn f0i f0xk f0xl f0xn kn
    refine lv_pop hx hb dL_law_1230 rfl ?_
    refine lv_aload_n hx hb dL_law_1231 rfl (lv_at hl 1 rfl) ?_
    refine lv_aload_n hx hb dL_law_1232 rfl (lv_at hl 3 rfl) ?_
    refine lv_iload_n hx hb dL_law_1233 rfl (lv_at hl 0 rfl) ?_
    refine lv_iconst (v := 1) hx hb dL_law_1234 (by decide) ?_
    refine lv_iadd hx hb dL_law_1235 ?_
    refine lv_topi (fun x233 ex233 => ?_)
    obtain ⟨tx233, ejx233, evx233⟩ := lw_ix (k := 1) ex233 hI hL rfl (by decide)
    clear tx233
    refine va_sld hx hb hX hbl (Nat.not_le.mpr hbl) hSH178 (vp_in_iff.mpr evx233) dL_law_1236 ?_
    refine W.eq (g2 := F0 m 1237 ls [.int (xs (i.toNatClampNeg + 1)), .ref b]) (congrArg (fun z => F0 m 1237 ls [.int (xs z), .ref b]) ejx233) ?_
    refine lv_aload_n hx hb dL_law_1237 rfl (lv_at hl 3 rfl) ?_
    refine lv_iload_n hx hb dL_law_1238 rfl (lv_at hl 0 rfl) ?_
    refine lv_iconst (v := 2) hx hb dL_law_1239 (by decide) ?_
    refine lv_iadd hx hb dL_law_1240 ?_
    refine lv_topi (fun x234 ex234 => ?_)
    obtain ⟨tx234, ejx234, evx234⟩ := lw_ix (k := 2) ex234 hI hL rfl (by decide)
    clear tx234
    refine va_sld hx hb hX hbl (Nat.not_le.mpr hbl) hSH178 (vp_in_iff.mpr evx234) dL_law_1241 ?_
    refine W.eq (g2 := F0 m 1242 ls [.int (xs (i.toNatClampNeg + 2)), .int (xs (i.toNatClampNeg + 1)), .ref b]) (congrArg (fun z => F0 m 1242 ls [.int (xs z), .int (xs (i.toNatClampNeg + 1)), .ref b]) ejx234) ?_
    refine x_V (As := [.int (xs (i.toNatClampNeg + 1)), .int (xs (i.toNatClampNeg + 2))]) (rest := []) C (a_X10_night_r l K G H178 ((xs (i.toNatClampNeg + 1))) ((xs (i.toNatClampNeg + 2))) (y10) hTH178 gb m209 g189 g190 g191 g192) yo_X10_night wM_L_128 ⟨⟨by decide, by decide⟩, show _ ≤ 284929 from Nat.le_trans hc (by decide), show _ ≤ 8247460 from Nat.le_trans hs (by decide)⟩ (x_rv C hTH178 (ci := 10) rfl gb rg_112) rfl hl.1 rfl (Nat.le_of_ble_eq_true rfl) dL_law_1242 hSH178 (AE_new hN hSH178.1) (fun vH235 H235 locsH235 pH235 zH235 kH235 hSH235 => ?_)
    obtain ⟨x236, x237, hvH235, ex237, hrH235, g238, g239, g240, g241, mf242, hTH235⟩ := pH235
    subst hvH235
    have f243 : ∀ j : Nat, j < 8 → fI H235 cn j = fI H cn j := fun j hj => (fI_kept (x_lt hTH178 kH235 gcn (by decide))).trans (f193 j hj)
    have f244 : ∀ j : Nat, j < 8 → fI H235 xn j = fI H xn j := fun j hj => (fI_kept (x_lt hTH178 kH235 gxn (by decide))).trans (f194 j hj)
    have f245 : ∀ j : Nat, j < 8 → fI H235 cl j = fI H cl j := fun j hj => (fI_kept (x_lt hTH178 kH235 gcl (by decide))).trans (f195 j hj)
    have f246 : ∀ j : Nat, j < 8 → fI H235 xl j = fI H xl j := fun j hj => (fI_kept (x_lt hTH178 kH235 gxl (by decide))).trans (f196 j hj)
    have f247 : ∀ j : Nat, j < 8 → fI H235 ck j = fI H ck j := fun j hj => (fI_kept (x_lt hTH178 kH235 gck (by decide))).trans (f197 j hj)
    have f248 : ∀ j : Nat, j < 8 → fI H235 xk j = fI H xk j := fun j hj => (fI_kept (x_lt hTH178 kH235 gxk (by decide))).trans (f198 j hj)
    have f249 : ∀ j : Nat, j < 8 → fI H235 dn j = fI H dn j := fun j hj => (fI_kept (x_lt hTH178 kH235 gdn (by decide))).trans (f199 j hj)
    have f250 : ∀ j : Nat, j < 8 → fI H235 dl j = fI H dl j := fun j hj => (fI_kept (x_lt hTH178 kH235 gdl (by decide))).trans (f200 j hj)
    have f251 : ∀ j : Nat, j < 8 → fI H235 dk j = fI H dk j := fun j hj => (fI_kept (x_lt hTH178 kH235 gdk (by decide))).trans (f201 j hj)
    have f252 : ∀ j : Nat, fI H235 iq j = fI H iq j := fun j => (fI_kept (x_lt hTH178 kH235 giq (by decide))).trans (f202 j)
    have m253 := (m203).trans (fR_kept (x_lt hTH178 kH235 ga (by decide))).symm
    have m254 := (m204).trans (fI_kept (x_lt hTH178 kH235 ga (by decide))).symm
    have m255 := (fV_kept (x_lt hTH178 kH235 ga (by decide))).trans m216
    have m256 := (m218).trans (fI_kept (x_lt hTH178 kH235 gkq (by decide))).symm
    have m257 := (m219).trans (fI_kept (x_lt hTH178 kH235 giq (by decide))).symm
    have m258 := (m220).trans (fI_kept (x_lt hTH178 kH235 gkq (by decide))).symm
    have m259 := (m221).trans (fI_kept (x_lt hTH178 kH235 giq (by decide))).symm
    have m260 := (m222).trans (fI_kept (x_lt hTH178 kH235 gkq (by decide))).symm
    have m261 := (m223).trans (fI_kept (x_lt hTH178 kH235 giq (by decide))).symm
    have m262 := (m224).trans (fI_kept (x_lt hTH178 kH235 gkq (by decide))).symm
    have m263 := (m225).trans (fI_kept (x_lt hTH178 kH235 giq (by decide))).symm
    have m264 := (m226).trans (fI_kept (x_lt hTH178 kH235 gkq (by decide))).symm
    have m265 := (m227).trans (fI_kept (x_lt hTH178 kH235 giq (by decide))).symm
    have m266 := (m228).trans (fI_kept (x_lt hTH178 kH235 gkq (by decide))).symm
    have m267 := (m229).trans (fI_kept (x_lt hTH178 kH235 giq (by decide))).symm
    have m268 := (m230).trans (fR_kept (x_lt hTH178 kH235 gkq (by decide))).symm
    have m269 := (m231).trans (fR_kept (x_lt hTH178 kH235 gkq (by decide))).symm
    have m270 := (m232).trans (fR_kept (x_lt hTH178 kH235 gkq (by decide))).symm
    have m271 := (m186).trans (fR_kept (x_lt hTH178 kH235 gw (by decide))).symm
    have m272 := (m187).trans (fR_kept (x_lt hTH178 kH235 gw (by decide))).symm
    have m273 := (m188).trans (fR_kept (x_lt hTH178 kH235 gw (by decide))).symm
    have m274 := (ex180).trans (fI_kept (x_lt hTH178 kH235 gw (by decide))).symm
    have m275 := (ex181).trans (fI_kept (x_lt hTH178 kH235 gw (by decide))).symm
    have m276 := (ex182).trans (fI_kept (x_lt hTH178 kH235 gw (by decide))).symm
    have m277 := (ex183).trans (fI_kept (x_lt hTH178 kH235 gw (by decide))).symm
    have m278 := (ex184).trans (fI_kept (x_lt hTH178 kH235 gw (by decide))).symm
    have m279 := (ex185).trans (fI_kept (x_lt hTH178 kH235 gw (by decide))).symm
    have m280 := (m205).trans (MF.i mf242 (k := 18) (by decide) (by decide)).symm
    have m281 := (m206).trans (MF.i mf242 (k := 1) (by decide) (by decide)).symm
    have m282 := (m207).trans (MF.i mf242 (k := 2) (by decide) (by decide)).symm
    have m283 := (m208).trans (MF.i mf242 (k := 3) (by decide) (by decide)).symm
    have m284 := (m210).trans (MF.i mf242 (k := 62) (by decide) (by decide)).symm
    have m285 := (m211).trans (MF.i mf242 (k := 65) (by decide) (by decide)).symm
    have m286 := (m212).trans (MF.r mf242 (k := 64) (by decide) (by decide)).symm
    have m287 := (m213).trans (MF.r mf242 (k := 66) (by decide) (by decide)).symm
    have m288 := (m214).trans (MF.r mf242 (k := 67) (by decide) (by decide)).symm
    have m289 := (m215).trans (MF.i mf242 (k := 70) (by decide) (by decide)).symm
    have m290 := (m217).trans (MF.r mf242 (k := 73) (by decide) (by decide)).symm
    have bx237 := ty_fi (x := x237) (k := 59) ex237 hTH235 gb rg_112 rfl
    refine W.eq (g2 := F0 m 1245 ls [.int x236]) rfl ?_
    clear ex180 ex181 ex182 ex183 ex184 ex185 f193 f194 f195 f196 f197 f198 f199 f200 f201 f202 m186 m187 m188 m203 m204 m205 m206 m207 m208 m209 m210 m211 m212 m213 m214 m215 m216 m217 m218 m219 m220 m221 m222 m223 m224 m225 m226 m227 m228 m229 m230 m231 m232
    refine lv_pop hx hb dL_law_1245 rfl ?_
    refine lv_goto (tgt := 1509) hx hb dL_law_1246 (by decide) ?_
    exact nx G H235 locsH235 _ _ ls ⟨hTH235, hN, ga, gb, g238, g239, g240, g241, ⟨(by rw [← m254, ← m280]; exact rt), (by rw [← m253, ← m274, ← m281]; omega), (by rw [← m253, ← m275, ← m282]; omega), (by rw [← m253, ← m276, ← m283]; omega), (by rw [← m253, ← m277, ← ex237]; omega), (by rw [← m253, ← m278, ← m284]; omega), (by rw [← m253, ← m279, ← m285]; omega)⟩, Or.inr ⟨kq, m255, gkq, (by rw [← m289]; exact h70), (by rw [← m256, ← m290, ← m257]; exact q1), (by rw [← m258, ← m290, ← m259]; exact q4), (by rw [← m260, ← m290, ← m261]; exact q5), (by rw [← m262, ← m290, ← m263]; exact q10), (by rw [← m264, ← m290, ← m265]; exact q13), (by rw [← m266, ← m290, ← m267]; exact q16), (by rw [← m268, ← m290, ← m264]; exact EQR.of hsn (fun j hj => f249 j (by omega)) (fun j hj => f252 _) (by omega)), (by rw [← m269, ← m290, ← m266]; exact EQR.of hsl (fun j hj => f250 j (by omega)) (fun j hj => f252 _) (by omega)), (by rw [← m270, ← m290, ← m266]; exact EQR.of hsk (fun j hj => f251 j (by omega)) (fun j hj => f252 _) (by omega))⟩, ⟨(by rw [← m253, ← m271, ← m286, ← m284]; exact EQR.of hrn (fun j hj => f243 j (by omega)) (fun j hj => f244 j (by omega)) (by omega)), (by rw [← m253, ← m272, ← m287, ← m285]; exact EQR.of hrl (fun j hj => f245 j (by omega)) (fun j hj => f246 j (by omega)) (by omega)), (by rw [← m253, ← m273, ← m288, ← m285]; exact EQR.of hrk (fun j hj => f247 j (by omega)) (fun j hj => f248 j (by omega)) (by omega))⟩, hSH235⟩ hl ⟨hc, hs, fun h => by have h1 := h.symm.trans m255; cases h1⟩