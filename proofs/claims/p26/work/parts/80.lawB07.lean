set_option maxRecDepth 100000 in
set_option maxHeartbeats 1000000 in
theorem lw_c28 {p : Program} {l : Launch} {e : Env} {s : State} {m : MethodId} {below : List Frame} {meth : Method} {c : Code} {K : KE} {b0 L : Nat} {xs : Nat → Int32} {G : Nat → Option Nat} {H : Heap} {locs : List Loc} {a b : Nat} {cells slots : Nat} {ls : Array Slot} {i : Int32} {n : Nat} (D : LC p K s m meth c b0 L xs) (S : SX K s G H locs a b) (hl : lv_has ls 4 [(3, .int i), (2, .ref b), (1, .ref a), (0, .ref b0)]) (hi : 0 ≤ i.toInt ∧ i.toInt + 6 ≤ L) (hn : n ≤ 511) (hB : BD K H a cells slots) (nx : ∀ (G : Nat → Option Nat) (H : Heap) (locs : List Loc) (cells slots : Nat) (ls : Array Slot), SX K s G H locs a b → lv_has ls 4 [(3, .int i), (2, .ref b), (1, .ref a), (0, .ref b0)] → BD K H a cells slots → W p l e room_1 s m #[Value.ref b0] below meth c H locs cells slots (lw_Z below #[Value.ref b0] s) (F0 m 1509 ls [])) : W p l e room_1 s m #[Value.ref b0] below meth c H locs cells slots (lw_Z below #[Value.ref b0] s) (F0 m 1282 ls []) := by
  have hI := hi
  obtain ⟨C, hX, hbl, hL⟩ := id D
  obtain ⟨hx, hb, hml, hown, hts, hKT, hr, hlocks, hnm⟩ := id C
  obtain ⟨hT, hN, ga, gb, cg, tu, wd, im, ⟨rt, r1, r4, r5, r10, r13, r16⟩, hk, hS⟩ := S
  obtain ⟨hc, hs, hB0⟩ := hB
  have n_1 : (1 : Int32).toInt = 1 := rfl
  have n_2 : (2 : Int32).toInt = 2 := rfl
  obtain ⟨w, ew⟩ : ∃ z : Nat, z = fR H a (K.1.2 9 0) := ⟨_, rfl⟩
  have gw := ty_fr (q := w) (k := 0) (u := 0) ew hT ga rg_68 rfl
  rw [← ew] at r1 r4 r5 r10 r13 r16
  obtain ⟨ta, eta⟩ : ∃ z : Int32, z = fI H a (K.1.2 9 3) := ⟨_, rfl⟩
  rw [← eta] at rt
  obtain ⟨tb, etb⟩ : ∃ z : Int32, z = fI H b (K.1.2 10 18) := ⟨_, rfl⟩
  rw [← etb] at rt
  obtain ⟨s1, es1⟩ : ∃ z : Int32, z = fI H w (K.1.2 8 1) := ⟨_, rfl⟩
  rw [← es1] at r1
  obtain ⟨y1, ey1⟩ : ∃ z : Int32, z = fI H b (K.1.2 10 1) := ⟨_, rfl⟩
  rw [← ey1] at r1
  obtain ⟨s4, es4⟩ : ∃ z : Int32, z = fI H w (K.1.2 8 4) := ⟨_, rfl⟩
  rw [← es4] at r4
  obtain ⟨y4, ey4⟩ : ∃ z : Int32, z = fI H b (K.1.2 10 2) := ⟨_, rfl⟩
  rw [← ey4] at r4
  obtain ⟨s5, es5⟩ : ∃ z : Int32, z = fI H w (K.1.2 8 5) := ⟨_, rfl⟩
  rw [← es5] at r5
  obtain ⟨y5, ey5⟩ : ∃ z : Int32, z = fI H b (K.1.2 10 3) := ⟨_, rfl⟩
  rw [← ey5] at r5
  obtain ⟨s10, es10⟩ : ∃ z : Int32, z = fI H w (K.1.2 8 10) := ⟨_, rfl⟩
  rw [← es10] at r10
  obtain ⟨y10, ey10⟩ : ∃ z : Int32, z = fI H b (K.1.2 10 59) := ⟨_, rfl⟩
  rw [← ey10] at r10
  obtain ⟨s13, es13⟩ : ∃ z : Int32, z = fI H w (K.1.2 8 13) := ⟨_, rfl⟩
  rw [← es13] at r13
  obtain ⟨y13, ey13⟩ : ∃ z : Int32, z = fI H b (K.1.2 10 62) := ⟨_, rfl⟩
  rw [← ey13] at r13
  obtain ⟨s16, es16⟩ : ∃ z : Int32, z = fI H w (K.1.2 8 16) := ⟨_, rfl⟩
  rw [← es16] at r16
  obtain ⟨y16, ey16⟩ : ∃ z : Int32, z = fI H b (K.1.2 10 65) := ⟨_, rfl⟩
  rw [← ey16] at r16
  rcases hk with ⟨kn, h70⟩ | ⟨kq, kn, gkq, h70, q1, q4, q5, q10, q13, q16⟩
  · skip
    obtain ⟨hi, ehi⟩ : ∃ z : Int32, z = fI H b (K.1.2 10 70) := ⟨_, rfl⟩
    rw [← ehi] at h70
    obtain ⟨hc0, hs0⟩ := hB0 kn
    refine lv_aload_n hx hb dL_law_1282 rfl (lv_at hl 2 rfl) ?_
    refine lv_aload_n hx hb dL_law_1283 rfl (lv_at hl 3 rfl) ?_
    refine lv_iload_n hx hb dL_law_1284 rfl (lv_at hl 0 rfl) ?_
    refine lv_iconst (v := 1) hx hb dL_law_1285 (by decide) ?_
    refine lv_iadd hx hb dL_law_1286 ?_
    refine lv_topi (fun x101 ex101 => ?_)
    obtain ⟨tx101, ejx101, evx101⟩ := lw_ix (k := 1) ex101 hI hL rfl (by decide)
    clear tx101
    refine va_sld hx hb hX hbl (Nat.not_le.mpr hbl) hS (vp_in_iff.mpr evx101) dL_law_1287 ?_
    refine W.eq (g2 := F0 m 1288 ls [.int (xs (i.toNatClampNeg + 1)), .ref a]) (congrArg (fun z => F0 m 1288 ls [.int (xs z), .ref a]) ejx101) ?_
    refine lv_aload_n hx hb dL_law_1288 rfl (lv_at hl 3 rfl) ?_
    refine lv_iload_n hx hb dL_law_1289 rfl (lv_at hl 0 rfl) ?_
    refine lv_iconst (v := 2) hx hb dL_law_1290 (by decide) ?_
    refine lv_iadd hx hb dL_law_1291 ?_
    refine lv_topi (fun x102 ex102 => ?_)
    obtain ⟨tx102, ejx102, evx102⟩ := lw_ix (k := 2) ex102 hI hL rfl (by decide)
    clear tx102
    refine va_sld hx hb hX hbl (Nat.not_le.mpr hbl) hS (vp_in_iff.mpr evx102) dL_law_1292 ?_
    refine W.eq (g2 := F0 m 1293 ls [.int (xs (i.toNatClampNeg + 2)), .int (xs (i.toNatClampNeg + 1)), .ref a]) (congrArg (fun z => F0 m 1293 ls [.int (xs z), .int (xs (i.toNatClampNeg + 1)), .ref a]) ejx102) ?_
    refine x_V (As := [.int (xs (i.toNatClampNeg + 1)), .int (xs (i.toNatClampNeg + 2))]) (rest := []) C (a_X9_note_r l K G H ((xs (i.toNatClampNeg + 1))) ((xs (i.toNatClampNeg + 2))) (s1) (s4) (s5) (s10) (s13) (s16) hT ga gw ew es1 es4 es5 es10 es13 es16) yo_X9_note wM_L_133 ⟨⟨by decide, by decide⟩, show _ ≤ 284929 from Nat.le_trans hc (by decide), show _ ≤ 8247460 from Nat.le_trans hs (by decide)⟩ (x_rv C hT (ci := 9) rfl ga rg_68) rfl hl.1 rfl (Nat.le_of_ble_eq_true rfl) dL_law_1293 hS (AE_new hN hS.1) (fun vH103 H103 locsH103 pH103 zH103 kH103 hSH103 => ?_)
    obtain ⟨x104, x105, x106, x107, x108, x109, x110, hvH103, ex105, ex106, ex107, ex108, ex109, ex110, hrH103, hTH103⟩ := pH103
    subst hvH103
    have g111 : CG (avw K H103 b) := CG.congr (fun k hk j => av_eff hT kH103 gb (by decide) (CG_eff [0, 30, 31] (by decide) k hk)) cg
    have g112 : TU (avw K H103 b) (svw K H103 b) := TU.congr (fun k hk j => av_eff hT kH103 gb (by decide) (TU_eff [0, 30, 31] (by decide) k hk)) (fun k hk => sv_eff hT kH103 gb (by decide)) tu
    have g113 : WD (avw K H103 b) := WD.congr (fun k hk j => av_eff hT kH103 gb (by decide) (WD_eff [0, 30, 31] (by decide) k hk)) wd
    have g114 : IM (avw K H103 b) := IM.congr (fun k hk j => av_eff hT kH103 gb (by decide) (IM_eff [0, 30, 31] (by decide) k hk)) im
    have m115 := (ew).trans (fR_kept (x_lt hT kH103 ga (by decide))).symm
    have m116 := (eta).trans (fI_kept (x_lt hT kH103 ga (by decide))).symm
    have m117 := (etb).trans (fI_kept (x_lt hT kH103 gb (by decide))).symm
    have m118 := (ey1).trans (fI_kept (x_lt hT kH103 gb (by decide))).symm
    have m119 := (ey4).trans (fI_kept (x_lt hT kH103 gb (by decide))).symm
    have m120 := (ey5).trans (fI_kept (x_lt hT kH103 gb (by decide))).symm
    have m121 := (ey10).trans (fI_kept (x_lt hT kH103 gb (by decide))).symm
    have m122 := (ey13).trans (fI_kept (x_lt hT kH103 gb (by decide))).symm
    have m123 := (ey16).trans (fI_kept (x_lt hT kH103 gb (by decide))).symm
    have m124 := (ehi).trans (fI_kept (x_lt hT kH103 gb (by decide))).symm
    have m125 := (fV_kept (x_lt hT kH103 ga (by decide))).trans kn
    have bx105 := ty_fi (x := x105) (k := 1) ex105 hTH103 gw rg_0 rfl
    have bx106 := ty_fi (x := x106) (k := 4) ex106 hTH103 gw rg_0 rfl
    have bx107 := ty_fi (x := x107) (k := 5) ex107 hTH103 gw rg_0 rfl
    have bx108 := ty_fi (x := x108) (k := 10) ex108 hTH103 gw rg_0 rfl
    have bx109 := ty_fi (x := x109) (k := 13) ex109 hTH103 gw rg_0 rfl
    have bx110 := ty_fi (x := x110) (k := 16) ex110 hTH103 gw rg_0 rfl
    refine W.eq (g2 := F0 m 1296 ls [.int x104]) rfl ?_
    refine lv_pop hx hb dL_law_1296 rfl ?_
    refine lv_aload_n hx hb dL_law_1297 rfl (lv_at hl 1 rfl) ?_
    refine lv_aload_n hx hb dL_law_1298 rfl (lv_at hl 3 rfl) ?_
    refine lv_iload_n hx hb dL_law_1299 rfl (lv_at hl 0 rfl) ?_
    refine lv_iconst (v := 1) hx hb dL_law_1300 (by decide) ?_
    refine lv_iadd hx hb dL_law_1301 ?_
    refine lv_topi (fun x126 ex126 => ?_)
    obtain ⟨tx126, ejx126, evx126⟩ := lw_ix (k := 1) ex126 hI hL rfl (by decide)
    clear tx126
    refine va_sld hx hb hX hbl (Nat.not_le.mpr hbl) hSH103 (vp_in_iff.mpr evx126) dL_law_1302 ?_
    refine W.eq (g2 := F0 m 1303 ls [.int (xs (i.toNatClampNeg + 1)), .ref b]) (congrArg (fun z => F0 m 1303 ls [.int (xs z), .ref b]) ejx126) ?_
    refine lv_aload_n hx hb dL_law_1303 rfl (lv_at hl 3 rfl) ?_
    refine lv_iload_n hx hb dL_law_1304 rfl (lv_at hl 0 rfl) ?_
    refine lv_iconst (v := 2) hx hb dL_law_1305 (by decide) ?_
    refine lv_iadd hx hb dL_law_1306 ?_
    refine lv_topi (fun x127 ex127 => ?_)
    obtain ⟨tx127, ejx127, evx127⟩ := lw_ix (k := 2) ex127 hI hL rfl (by decide)
    clear tx127
    refine va_sld hx hb hX hbl (Nat.not_le.mpr hbl) hSH103 (vp_in_iff.mpr evx127) dL_law_1307 ?_
    refine W.eq (g2 := F0 m 1308 ls [.int (xs (i.toNatClampNeg + 2)), .int (xs (i.toNatClampNeg + 1)), .ref b]) (congrArg (fun z => F0 m 1308 ls [.int (xs z), .int (xs (i.toNatClampNeg + 1)), .ref b]) ejx127) ?_
    refine x_V (As := [.int (xs (i.toNatClampNeg + 1)), .int (xs (i.toNatClampNeg + 2))]) (rest := []) C (a_X10_note_r l K G H103 ((xs (i.toNatClampNeg + 1))) ((xs (i.toNatClampNeg + 2))) (y13) hTH103 gb m122 g111 g112 g113 g114) yo_X10_note wM_L_136 ⟨⟨by decide, by decide⟩, show _ ≤ 284929 from Nat.le_trans hc (by decide), show _ ≤ 8247460 from Nat.le_trans hs (by decide)⟩ (x_rv C hTH103 (ci := 10) rfl gb rg_112) rfl hl.1 rfl (Nat.le_of_ble_eq_true rfl) dL_law_1308 hSH103 (AE_new hN hSH103.1) (fun vH128 H128 locsH128 pH128 zH128 kH128 hSH128 => ?_)
    obtain ⟨x129, x130, hvH128, ex130, hrH128, g131, g132, g133, g134, mf135, hTH128⟩ := pH128
    subst hvH128
    have m136 := (m115).trans (fR_kept (x_lt hTH103 kH128 ga (by decide))).symm
    have m137 := (m116).trans (fI_kept (x_lt hTH103 kH128 ga (by decide))).symm
    have m138 := (fV_kept (x_lt hTH103 kH128 ga (by decide))).trans m125
    have m139 := (ex105).trans (fI_kept (x_lt hTH103 kH128 gw (by decide))).symm
    have m140 := (ex106).trans (fI_kept (x_lt hTH103 kH128 gw (by decide))).symm
    have m141 := (ex107).trans (fI_kept (x_lt hTH103 kH128 gw (by decide))).symm
    have m142 := (ex108).trans (fI_kept (x_lt hTH103 kH128 gw (by decide))).symm
    have m143 := (ex109).trans (fI_kept (x_lt hTH103 kH128 gw (by decide))).symm
    have m144 := (ex110).trans (fI_kept (x_lt hTH103 kH128 gw (by decide))).symm
    have m145 := (m117).trans (MF.i mf135 (k := 18) (by decide) (by decide)).symm
    have m146 := (m118).trans (MF.i mf135 (k := 1) (by decide) (by decide)).symm
    have m147 := (m119).trans (MF.i mf135 (k := 2) (by decide) (by decide)).symm
    have m148 := (m120).trans (MF.i mf135 (k := 3) (by decide) (by decide)).symm
    have m149 := (m121).trans (MF.i mf135 (k := 59) (by decide) (by decide)).symm
    have m150 := (m123).trans (MF.i mf135 (k := 65) (by decide) (by decide)).symm
    have m151 := (m124).trans (MF.i mf135 (k := 70) (by decide) (by decide)).symm
    have bx130 := ty_fi (x := x130) (k := 62) ex130 hTH128 gb rg_112 rfl
    refine W.eq (g2 := F0 m 1311 ls [.int x129]) rfl ?_
    refine lv_pop hx hb dL_law_1311 rfl ?_
    refine lv_goto (tgt := 1509) hx hb dL_law_1312 (by decide) ?_
    exact nx G H128 locsH128 _ _ ls ⟨hTH128, hN, ga, gb, g131, g132, g133, g134, ⟨(by rw [← m137, ← m145]; exact rt), (by rw [← m136, ← m139, ← m146]; omega), (by rw [← m136, ← m140, ← m147]; omega), (by rw [← m136, ← m141, ← m148]; omega), (by rw [← m136, ← m142, ← m149]; omega), (by rw [← m136, ← m143, ← ex130]; omega), (by rw [← m136, ← m144, ← m150]; omega)⟩, Or.inl ⟨m138, (by rw [← m151]; exact h70)⟩, hSH128⟩ hl ⟨hc, hs, fun _ => ⟨hc0, hs0⟩⟩
  · skip
    obtain ⟨hi, ehi⟩ : ∃ z : Int32, z = fI H b (K.1.2 10 70) := ⟨_, rfl⟩
    rw [← ehi] at h70
    obtain ⟨iq, eiq⟩ : ∃ z : Nat, z = fR H b (K.1.2 10 73) := ⟨_, rfl⟩
    have giq := ty_fr (q := iq) (k := 73) (u := 162) eiq hT gb rg_112 rfl
    rw [← eiq] at q1 q4 q5 q10 q13 q16
    obtain ⟨k1, ek1⟩ : ∃ z : Int32, z = fI H kq (K.1.2 8 1) := ⟨_, rfl⟩
    rw [← ek1] at q1
    obtain ⟨i1, ei1⟩ : ∃ z : Int32, z = fI H iq ((0 : Int32).toNatClampNeg) := ⟨_, rfl⟩
    rw [← ei1] at q1
    obtain ⟨k4, ek4⟩ : ∃ z : Int32, z = fI H kq (K.1.2 8 4) := ⟨_, rfl⟩
    rw [← ek4] at q4
    obtain ⟨i4, ei4⟩ : ∃ z : Int32, z = fI H iq ((1 : Int32).toNatClampNeg) := ⟨_, rfl⟩
    rw [← ei4] at q4
    obtain ⟨k5, ek5⟩ : ∃ z : Int32, z = fI H kq (K.1.2 8 5) := ⟨_, rfl⟩
    rw [← ek5] at q5
    obtain ⟨i5, ei5⟩ : ∃ z : Int32, z = fI H iq ((2 : Int32).toNatClampNeg) := ⟨_, rfl⟩
    rw [← ei5] at q5
    obtain ⟨k10, ek10⟩ : ∃ z : Int32, z = fI H kq (K.1.2 8 10) := ⟨_, rfl⟩
    rw [← ek10] at q10
    obtain ⟨i10, ei10⟩ : ∃ z : Int32, z = fI H iq ((3 : Int32).toNatClampNeg) := ⟨_, rfl⟩
    rw [← ei10] at q10
    obtain ⟨k13, ek13⟩ : ∃ z : Int32, z = fI H kq (K.1.2 8 13) := ⟨_, rfl⟩
    rw [← ek13] at q13
    obtain ⟨i13, ei13⟩ : ∃ z : Int32, z = fI H iq ((4 : Int32).toNatClampNeg) := ⟨_, rfl⟩
    rw [← ei13] at q13
    obtain ⟨k16, ek16⟩ : ∃ z : Int32, z = fI H kq (K.1.2 8 16) := ⟨_, rfl⟩
    rw [← ek16] at q16
    obtain ⟨i16, ei16⟩ : ∃ z : Int32, z = fI H iq ((5 : Int32).toNatClampNeg) := ⟨_, rfl⟩
    rw [← ei16] at q16
    refine lv_aload_n hx hb dL_law_1282 rfl (lv_at hl 2 rfl) ?_
    refine lv_aload_n hx hb dL_law_1283 rfl (lv_at hl 3 rfl) ?_
    refine lv_iload_n hx hb dL_law_1284 rfl (lv_at hl 0 rfl) ?_
    refine lv_iconst (v := 1) hx hb dL_law_1285 (by decide) ?_
    refine lv_iadd hx hb dL_law_1286 ?_
    refine lv_topi (fun x152 ex152 => ?_)
    obtain ⟨tx152, ejx152, evx152⟩ := lw_ix (k := 1) ex152 hI hL rfl (by decide)
    clear tx152
    refine va_sld hx hb hX hbl (Nat.not_le.mpr hbl) hS (vp_in_iff.mpr evx152) dL_law_1287 ?_
    refine W.eq (g2 := F0 m 1288 ls [.int (xs (i.toNatClampNeg + 1)), .ref a]) (congrArg (fun z => F0 m 1288 ls [.int (xs z), .ref a]) ejx152) ?_
    refine lv_aload_n hx hb dL_law_1288 rfl (lv_at hl 3 rfl) ?_
    refine lv_iload_n hx hb dL_law_1289 rfl (lv_at hl 0 rfl) ?_
    refine lv_iconst (v := 2) hx hb dL_law_1290 (by decide) ?_
    refine lv_iadd hx hb dL_law_1291 ?_
    refine lv_topi (fun x153 ex153 => ?_)
    obtain ⟨tx153, ejx153, evx153⟩ := lw_ix (k := 2) ex153 hI hL rfl (by decide)
    clear tx153
    refine va_sld hx hb hX hbl (Nat.not_le.mpr hbl) hS (vp_in_iff.mpr evx153) dL_law_1292 ?_
    refine W.eq (g2 := F0 m 1293 ls [.int (xs (i.toNatClampNeg + 2)), .int (xs (i.toNatClampNeg + 1)), .ref a]) (congrArg (fun z => F0 m 1293 ls [.int (xs z), .int (xs (i.toNatClampNeg + 1)), .ref a]) ejx153) ?_
    refine x_V (As := [.int (xs (i.toNatClampNeg + 1)), .int (xs (i.toNatClampNeg + 2))]) (rest := []) C (a_X9_note_r l K G H ((xs (i.toNatClampNeg + 1))) ((xs (i.toNatClampNeg + 2))) (s1) (s4) (s5) (s10) (s13) (s16) hT ga gw ew es1 es4 es5 es10 es13 es16) yo_X9_note wM_L_133 ⟨⟨by decide, by decide⟩, show _ ≤ 284929 from Nat.le_trans hc (by decide), show _ ≤ 8247460 from Nat.le_trans hs (by decide)⟩ (x_rv C hT (ci := 9) rfl ga rg_68) rfl hl.1 rfl (Nat.le_of_ble_eq_true rfl) dL_law_1293 hS (AE_new hN hS.1) (fun vH154 H154 locsH154 pH154 zH154 kH154 hSH154 => ?_)
    obtain ⟨x155, x156, x157, x158, x159, x160, x161, hvH154, ex156, ex157, ex158, ex159, ex160, ex161, hrH154, hTH154⟩ := pH154
    subst hvH154
    have g162 : CG (avw K H154 b) := CG.congr (fun k hk j => av_eff hT kH154 gb (by decide) (CG_eff [0, 30, 31] (by decide) k hk)) cg
    have g163 : TU (avw K H154 b) (svw K H154 b) := TU.congr (fun k hk j => av_eff hT kH154 gb (by decide) (TU_eff [0, 30, 31] (by decide) k hk)) (fun k hk => sv_eff hT kH154 gb (by decide)) tu
    have g164 : WD (avw K H154 b) := WD.congr (fun k hk j => av_eff hT kH154 gb (by decide) (WD_eff [0, 30, 31] (by decide) k hk)) wd
    have g165 : IM (avw K H154 b) := IM.congr (fun k hk j => av_eff hT kH154 gb (by decide) (IM_eff [0, 30, 31] (by decide) k hk)) im
    have m166 := (ew).trans (fR_kept (x_lt hT kH154 ga (by decide))).symm
    have m167 := (eta).trans (fI_kept (x_lt hT kH154 ga (by decide))).symm
    have m168 := (etb).trans (fI_kept (x_lt hT kH154 gb (by decide))).symm
    have m169 := (ey1).trans (fI_kept (x_lt hT kH154 gb (by decide))).symm
    have m170 := (ey4).trans (fI_kept (x_lt hT kH154 gb (by decide))).symm
    have m171 := (ey5).trans (fI_kept (x_lt hT kH154 gb (by decide))).symm
    have m172 := (ey10).trans (fI_kept (x_lt hT kH154 gb (by decide))).symm
    have m173 := (ey13).trans (fI_kept (x_lt hT kH154 gb (by decide))).symm
    have m174 := (ey16).trans (fI_kept (x_lt hT kH154 gb (by decide))).symm
    have m175 := (ehi).trans (fI_kept (x_lt hT kH154 gb (by decide))).symm
    have m176 := (fV_kept (x_lt hT kH154 ga (by decide))).trans kn
    have m177 := (eiq).trans (fR_kept (x_lt hT kH154 gb (by decide))).symm
    have m178 := (ek1).trans (fI_kept (x_lt hT kH154 gkq (by decide))).symm
    have m179 := (ei1).trans (fI_kept (x_lt hT kH154 giq (by decide))).symm
    have m180 := (ek4).trans (fI_kept (x_lt hT kH154 gkq (by decide))).symm
    have m181 := (ei4).trans (fI_kept (x_lt hT kH154 giq (by decide))).symm
    have m182 := (ek5).trans (fI_kept (x_lt hT kH154 gkq (by decide))).symm
    have m183 := (ei5).trans (fI_kept (x_lt hT kH154 giq (by decide))).symm
    have m184 := (ek10).trans (fI_kept (x_lt hT kH154 gkq (by decide))).symm
    have m185 := (ei10).trans (fI_kept (x_lt hT kH154 giq (by decide))).symm
    have m186 := (ek13).trans (fI_kept (x_lt hT kH154 gkq (by decide))).symm
    have m187 := (ei13).trans (fI_kept (x_lt hT kH154 giq (by decide))).symm
    have m188 := (ek16).trans (fI_kept (x_lt hT kH154 gkq (by decide))).symm
    have m189 := (ei16).trans (fI_kept (x_lt hT kH154 giq (by decide))).symm
    have bx156 := ty_fi (x := x156) (k := 1) ex156 hTH154 gw rg_0 rfl
    have bx157 := ty_fi (x := x157) (k := 4) ex157 hTH154 gw rg_0 rfl
    have bx158 := ty_fi (x := x158) (k := 5) ex158 hTH154 gw rg_0 rfl
    have bx159 := ty_fi (x := x159) (k := 10) ex159 hTH154 gw rg_0 rfl
    have bx160 := ty_fi (x := x160) (k := 13) ex160 hTH154 gw rg_0 rfl
    have bx161 := ty_fi (x := x161) (k := 16) ex161 hTH154 gw rg_0 rfl
    refine W.eq (g2 := F0 m 1296 ls [.int x155]) rfl ?_
    refine lv_pop hx hb dL_law_1296 rfl ?_
    refine lv_aload_n hx hb dL_law_1297 rfl (lv_at hl 1 rfl) ?_
    refine lv_aload_n hx hb dL_law_1298 rfl (lv_at hl 3 rfl) ?_
    refine lv_iload_n hx hb dL_law_1299 rfl (lv_at hl 0 rfl) ?_
    refine lv_iconst (v := 1) hx hb dL_law_1300 (by decide) ?_
    refine lv_iadd hx hb dL_law_1301 ?_
    refine lv_topi (fun x190 ex190 => ?_)
    obtain ⟨tx190, ejx190, evx190⟩ := lw_ix (k := 1) ex190 hI hL rfl (by decide)
    clear tx190
    refine va_sld hx hb hX hbl (Nat.not_le.mpr hbl) hSH154 (vp_in_iff.mpr evx190) dL_law_1302 ?_
    refine W.eq (g2 := F0 m 1303 ls [.int (xs (i.toNatClampNeg + 1)), .ref b]) (congrArg (fun z => F0 m 1303 ls [.int (xs z), .ref b]) ejx190) ?_
    refine lv_aload_n hx hb dL_law_1303 rfl (lv_at hl 3 rfl) ?_
    refine lv_iload_n hx hb dL_law_1304 rfl (lv_at hl 0 rfl) ?_
    refine lv_iconst (v := 2) hx hb dL_law_1305 (by decide) ?_
    refine lv_iadd hx hb dL_law_1306 ?_
    refine lv_topi (fun x191 ex191 => ?_)
    obtain ⟨tx191, ejx191, evx191⟩ := lw_ix (k := 2) ex191 hI hL rfl (by decide)
    clear tx191
    refine va_sld hx hb hX hbl (Nat.not_le.mpr hbl) hSH154 (vp_in_iff.mpr evx191) dL_law_1307 ?_
    refine W.eq (g2 := F0 m 1308 ls [.int (xs (i.toNatClampNeg + 2)), .int (xs (i.toNatClampNeg + 1)), .ref b]) (congrArg (fun z => F0 m 1308 ls [.int (xs z), .int (xs (i.toNatClampNeg + 1)), .ref b]) ejx191) ?_
    refine x_V (As := [.int (xs (i.toNatClampNeg + 1)), .int (xs (i.toNatClampNeg + 2))]) (rest := []) C (a_X10_note_r l K G H154 ((xs (i.toNatClampNeg + 1))) ((xs (i.toNatClampNeg + 2))) (y13) hTH154 gb m173 g162 g163 g164 g165) yo_X10_note wM_L_136 ⟨⟨by decide, by decide⟩, show _ ≤ 284929 from Nat.le_trans hc (by decide), show _ ≤ 8247460 from Nat.le_trans hs (by decide)⟩ (x_rv C hTH154 (ci := 10) rfl gb rg_112) rfl hl.1 rfl (Nat.le_of_ble_eq_true rfl) dL_law_1308 hSH154 (AE_new hN hSH154.1) (fun vH192 H192 locsH192 pH192 zH192 kH192 hSH192 => ?_)
    obtain ⟨x193, x194, hvH192, ex194, hrH192, g195, g196, g197, g198, mf199, hTH192⟩ := pH192
    subst hvH192
    have m200 := (m166).trans (fR_kept (x_lt hTH154 kH192 ga (by decide))).symm
    have m201 := (m167).trans (fI_kept (x_lt hTH154 kH192 ga (by decide))).symm
    have m202 := (fV_kept (x_lt hTH154 kH192 ga (by decide))).trans m176
    have m203 := (m178).trans (fI_kept (x_lt hTH154 kH192 gkq (by decide))).symm
    have m204 := (m179).trans (fI_kept (x_lt hTH154 kH192 giq (by decide))).symm
    have m205 := (m180).trans (fI_kept (x_lt hTH154 kH192 gkq (by decide))).symm
    have m206 := (m181).trans (fI_kept (x_lt hTH154 kH192 giq (by decide))).symm
    have m207 := (m182).trans (fI_kept (x_lt hTH154 kH192 gkq (by decide))).symm
    have m208 := (m183).trans (fI_kept (x_lt hTH154 kH192 giq (by decide))).symm
    have m209 := (m184).trans (fI_kept (x_lt hTH154 kH192 gkq (by decide))).symm
    have m210 := (m185).trans (fI_kept (x_lt hTH154 kH192 giq (by decide))).symm
    have m211 := (m186).trans (fI_kept (x_lt hTH154 kH192 gkq (by decide))).symm
    have m212 := (m187).trans (fI_kept (x_lt hTH154 kH192 giq (by decide))).symm
    have m213 := (m188).trans (fI_kept (x_lt hTH154 kH192 gkq (by decide))).symm
    have m214 := (m189).trans (fI_kept (x_lt hTH154 kH192 giq (by decide))).symm
    have m215 := (ex156).trans (fI_kept (x_lt hTH154 kH192 gw (by decide))).symm
    have m216 := (ex157).trans (fI_kept (x_lt hTH154 kH192 gw (by decide))).symm
    have m217 := (ex158).trans (fI_kept (x_lt hTH154 kH192 gw (by decide))).symm
    have m218 := (ex159).trans (fI_kept (x_lt hTH154 kH192 gw (by decide))).symm
    have m219 := (ex160).trans (fI_kept (x_lt hTH154 kH192 gw (by decide))).symm
    have m220 := (ex161).trans (fI_kept (x_lt hTH154 kH192 gw (by decide))).symm
    have m221 := (m168).trans (MF.i mf199 (k := 18) (by decide) (by decide)).symm
    have m222 := (m169).trans (MF.i mf199 (k := 1) (by decide) (by decide)).symm
    have m223 := (m170).trans (MF.i mf199 (k := 2) (by decide) (by decide)).symm
    have m224 := (m171).trans (MF.i mf199 (k := 3) (by decide) (by decide)).symm
    have m225 := (m172).trans (MF.i mf199 (k := 59) (by decide) (by decide)).symm
    have m226 := (m174).trans (MF.i mf199 (k := 65) (by decide) (by decide)).symm
    have m227 := (m175).trans (MF.i mf199 (k := 70) (by decide) (by decide)).symm
    have m228 := (m177).trans (MF.r mf199 (k := 73) (by decide) (by decide)).symm
    have bx194 := ty_fi (x := x194) (k := 62) ex194 hTH192 gb rg_112 rfl
    refine W.eq (g2 := F0 m 1311 ls [.int x193]) rfl ?_
    refine lv_pop hx hb dL_law_1311 rfl ?_
    refine lv_goto (tgt := 1509) hx hb dL_law_1312 (by decide) ?_
    exact nx G H192 locsH192 _ _ ls ⟨hTH192, hN, ga, gb, g195, g196, g197, g198, ⟨(by rw [← m201, ← m221]; exact rt), (by rw [← m200, ← m215, ← m222]; omega), (by rw [← m200, ← m216, ← m223]; omega), (by rw [← m200, ← m217, ← m224]; omega), (by rw [← m200, ← m218, ← m225]; omega), (by rw [← m200, ← m219, ← ex194]; omega), (by rw [← m200, ← m220, ← m226]; omega)⟩, Or.inr ⟨kq, m202, gkq, (by rw [← m227]; exact h70), (by rw [← m203, ← m228, ← m204]; exact q1), (by rw [← m205, ← m228, ← m206]; exact q4), (by rw [← m207, ← m228, ← m208]; exact q5), (by rw [← m209, ← m228, ← m210]; exact q10), (by rw [← m211, ← m228, ← m212]; exact q13), (by rw [← m213, ← m228, ← m214]; exact q16)⟩, hSH192⟩ hl ⟨hc, hs, fun h => by have h1 := h.symm.trans m202; cases h1⟩
set_option maxRecDepth 100000 in
set_option maxHeartbeats 1000000 in
theorem lw_c29 {p : Program} {l : Launch} {e : Env} {s : State} {m : MethodId} {below : List Frame} {meth : Method} {c : Code} {K : KE} {b0 L : Nat} {xs : Nat → Int32} {G : Nat → Option Nat} {H : Heap} {locs : List Loc} {a b : Nat} {cells slots : Nat} {ls : Array Slot} {i : Int32} {n : Nat} (D : LC p K s m meth c b0 L xs) (S : SX K s G H locs a b) (hl : lv_has ls 4 [(3, .int i), (2, .ref b), (1, .ref a), (0, .ref b0)]) (hi : 0 ≤ i.toInt ∧ i.toInt + 6 ≤ L) (hn : n ≤ 511) (hB : BD K H a cells slots) (nx : ∀ (G : Nat → Option Nat) (H : Heap) (locs : List Loc) (cells slots : Nat) (ls : Array Slot), SX K s G H locs a b → lv_has ls 4 [(3, .int i), (2, .ref b), (1, .ref a), (0, .ref b0)] → BD K H a cells slots → W p l e room_1 s m #[Value.ref b0] below meth c H locs cells slots (lw_Z below #[Value.ref b0] s) (F0 m 1509 ls [])) : W p l e room_1 s m #[Value.ref b0] below meth c H locs cells slots (lw_Z below #[Value.ref b0] s) (F0 m 1315 ls []) := by
  have hI := hi
  obtain ⟨C, hX, hbl, hL⟩ := id D
  obtain ⟨hx, hb, hml, hown, hts, hKT, hr, hlocks, hnm⟩ := id C
  obtain ⟨hT, hN, ga, gb, cg, tu, wd, im, ⟨rt, r1, r4, r5, r10, r13, r16⟩, hk, hS⟩ := S
  obtain ⟨hc, hs, hB0⟩ := hB
  have n_1 : (1 : Int32).toInt = 1 := rfl
  have n_2 : (2 : Int32).toInt = 2 := rfl
  obtain ⟨w, ew⟩ : ∃ z : Nat, z = fR H a (K.1.2 9 0) := ⟨_, rfl⟩
  have gw := ty_fr (q := w) (k := 0) (u := 0) ew hT ga rg_68 rfl
  rw [← ew] at r1 r4 r5 r10 r13 r16
  obtain ⟨ta, eta⟩ : ∃ z : Int32, z = fI H a (K.1.2 9 3) := ⟨_, rfl⟩
  rw [← eta] at rt
  obtain ⟨tb, etb⟩ : ∃ z : Int32, z = fI H b (K.1.2 10 18) := ⟨_, rfl⟩
  rw [← etb] at rt
  obtain ⟨s1, es1⟩ : ∃ z : Int32, z = fI H w (K.1.2 8 1) := ⟨_, rfl⟩
  rw [← es1] at r1
  obtain ⟨y1, ey1⟩ : ∃ z : Int32, z = fI H b (K.1.2 10 1) := ⟨_, rfl⟩
  rw [← ey1] at r1
  obtain ⟨s4, es4⟩ : ∃ z : Int32, z = fI H w (K.1.2 8 4) := ⟨_, rfl⟩
  rw [← es4] at r4
  obtain ⟨y4, ey4⟩ : ∃ z : Int32, z = fI H b (K.1.2 10 2) := ⟨_, rfl⟩
  rw [← ey4] at r4
  obtain ⟨s5, es5⟩ : ∃ z : Int32, z = fI H w (K.1.2 8 5) := ⟨_, rfl⟩
  rw [← es5] at r5
  obtain ⟨y5, ey5⟩ : ∃ z : Int32, z = fI H b (K.1.2 10 3) := ⟨_, rfl⟩
  rw [← ey5] at r5
  obtain ⟨s10, es10⟩ : ∃ z : Int32, z = fI H w (K.1.2 8 10) := ⟨_, rfl⟩
  rw [← es10] at r10
  obtain ⟨y10, ey10⟩ : ∃ z : Int32, z = fI H b (K.1.2 10 59) := ⟨_, rfl⟩
  rw [← ey10] at r10
  obtain ⟨s13, es13⟩ : ∃ z : Int32, z = fI H w (K.1.2 8 13) := ⟨_, rfl⟩
  rw [← es13] at r13
  obtain ⟨y13, ey13⟩ : ∃ z : Int32, z = fI H b (K.1.2 10 62) := ⟨_, rfl⟩
  rw [← ey13] at r13
  obtain ⟨s16, es16⟩ : ∃ z : Int32, z = fI H w (K.1.2 8 16) := ⟨_, rfl⟩
  rw [← es16] at r16
  obtain ⟨y16, ey16⟩ : ∃ z : Int32, z = fI H b (K.1.2 10 65) := ⟨_, rfl⟩
  rw [← ey16] at r16
  rcases hk with ⟨kn, h70⟩ | ⟨kq, kn, gkq, h70, q1, q4, q5, q10, q13, q16⟩
  · skip
    obtain ⟨hi, ehi⟩ : ∃ z : Int32, z = fI H b (K.1.2 10 70) := ⟨_, rfl⟩
    rw [← ehi] at h70
    obtain ⟨hc0, hs0⟩ := hB0 kn
    refine lv_aload_n hx hb dL_law_1315 rfl (lv_at hl 2 rfl) ?_
    refine lv_aload_n hx hb dL_law_1316 rfl (lv_at hl 3 rfl) ?_
    refine lv_iload_n hx hb dL_law_1317 rfl (lv_at hl 0 rfl) ?_
    refine lv_iconst (v := 1) hx hb dL_law_1318 (by decide) ?_
    refine lv_iadd hx hb dL_law_1319 ?_
    refine lv_topi (fun x101 ex101 => ?_)
    obtain ⟨tx101, ejx101, evx101⟩ := lw_ix (k := 1) ex101 hI hL rfl (by decide)
    clear tx101
    refine va_sld hx hb hX hbl (Nat.not_le.mpr hbl) hS (vp_in_iff.mpr evx101) dL_law_1320 ?_
    refine W.eq (g2 := F0 m 1321 ls [.int (xs (i.toNatClampNeg + 1)), .ref a]) (congrArg (fun z => F0 m 1321 ls [.int (xs z), .ref a]) ejx101) ?_
    refine lv_aload_n hx hb dL_law_1321 rfl (lv_at hl 3 rfl) ?_
    refine lv_iload_n hx hb dL_law_1322 rfl (lv_at hl 0 rfl) ?_
    refine lv_iconst (v := 2) hx hb dL_law_1323 (by decide) ?_
    refine lv_iadd hx hb dL_law_1324 ?_
    refine lv_topi (fun x102 ex102 => ?_)
    obtain ⟨tx102, ejx102, evx102⟩ := lw_ix (k := 2) ex102 hI hL rfl (by decide)
    clear tx102
    refine va_sld hx hb hX hbl (Nat.not_le.mpr hbl) hS (vp_in_iff.mpr evx102) dL_law_1325 ?_
    refine W.eq (g2 := F0 m 1326 ls [.int (xs (i.toNatClampNeg + 2)), .int (xs (i.toNatClampNeg + 1)), .ref a]) (congrArg (fun z => F0 m 1326 ls [.int (xs z), .int (xs (i.toNatClampNeg + 1)), .ref a]) ejx102) ?_
    refine x_V (As := [.int (xs (i.toNatClampNeg + 1)), .int (xs (i.toNatClampNeg + 2))]) (rest := []) C (a_X9_blank_r l K G H ((xs (i.toNatClampNeg + 1))) ((xs (i.toNatClampNeg + 2))) (s1) (s4) (s5) (s10) (s13) (s16) hT ga gw ew es1 es4 es5 es10 es13 es16) yo_X9_blank wM_L_137 ⟨⟨by decide, by decide⟩, show _ ≤ 284929 from Nat.le_trans hc (by decide), show _ ≤ 8247460 from Nat.le_trans hs (by decide)⟩ (x_rv C hT (ci := 9) rfl ga rg_68) rfl hl.1 rfl (Nat.le_of_ble_eq_true rfl) dL_law_1326 hS (AE_new hN hS.1) (fun vH103 H103 locsH103 pH103 zH103 kH103 hSH103 => ?_)
    obtain ⟨x104, x105, x106, x107, x108, x109, x110, hvH103, ex105, ex106, ex107, ex108, ex109, ex110, hrH103, hTH103⟩ := pH103
    subst hvH103
    have g111 : CG (avw K H103 b) := CG.congr (fun k hk j => av_eff hT kH103 gb (by decide) (CG_eff [0, 32, 33] (by decide) k hk)) cg
    have g112 : TU (avw K H103 b) (svw K H103 b) := TU.congr (fun k hk j => av_eff hT kH103 gb (by decide) (TU_eff [0, 32, 33] (by decide) k hk)) (fun k hk => sv_eff hT kH103 gb (by decide)) tu
    have g113 : WD (avw K H103 b) := WD.congr (fun k hk j => av_eff hT kH103 gb (by decide) (WD_eff [0, 32, 33] (by decide) k hk)) wd
    have g114 : IM (avw K H103 b) := IM.congr (fun k hk j => av_eff hT kH103 gb (by decide) (IM_eff [0, 32, 33] (by decide) k hk)) im
    have m115 := (ew).trans (fR_kept (x_lt hT kH103 ga (by decide))).symm
    have m116 := (eta).trans (fI_kept (x_lt hT kH103 ga (by decide))).symm
    have m117 := (etb).trans (fI_kept (x_lt hT kH103 gb (by decide))).symm
    have m118 := (ey1).trans (fI_kept (x_lt hT kH103 gb (by decide))).symm
    have m119 := (ey4).trans (fI_kept (x_lt hT kH103 gb (by decide))).symm
    have m120 := (ey5).trans (fI_kept (x_lt hT kH103 gb (by decide))).symm
    have m121 := (ey10).trans (fI_kept (x_lt hT kH103 gb (by decide))).symm
    have m122 := (ey13).trans (fI_kept (x_lt hT kH103 gb (by decide))).symm
    have m123 := (ey16).trans (fI_kept (x_lt hT kH103 gb (by decide))).symm
    have m124 := (ehi).trans (fI_kept (x_lt hT kH103 gb (by decide))).symm
    have m125 := (fV_kept (x_lt hT kH103 ga (by decide))).trans kn
    have bx105 := ty_fi (x := x105) (k := 1) ex105 hTH103 gw rg_0 rfl
    have bx106 := ty_fi (x := x106) (k := 4) ex106 hTH103 gw rg_0 rfl
    have bx107 := ty_fi (x := x107) (k := 5) ex107 hTH103 gw rg_0 rfl
    have bx108 := ty_fi (x := x108) (k := 10) ex108 hTH103 gw rg_0 rfl
    have bx109 := ty_fi (x := x109) (k := 13) ex109 hTH103 gw rg_0 rfl
    have bx110 := ty_fi (x := x110) (k := 16) ex110 hTH103 gw rg_0 rfl
    refine W.eq (g2 := F0 m 1329 ls [.int x104]) rfl ?_
    refine lv_pop hx hb dL_law_1329 rfl ?_
    refine lv_aload_n hx hb dL_law_1330 rfl (lv_at hl 1 rfl) ?_
    refine lv_aload_n hx hb dL_law_1331 rfl (lv_at hl 3 rfl) ?_
    refine lv_iload_n hx hb dL_law_1332 rfl (lv_at hl 0 rfl) ?_
    refine lv_iconst (v := 1) hx hb dL_law_1333 (by decide) ?_
    refine lv_iadd hx hb dL_law_1334 ?_
    refine lv_topi (fun x126 ex126 => ?_)
    obtain ⟨tx126, ejx126, evx126⟩ := lw_ix (k := 1) ex126 hI hL rfl (by decide)
    clear tx126
    refine va_sld hx hb hX hbl (Nat.not_le.mpr hbl) hSH103 (vp_in_iff.mpr evx126) dL_law_1335 ?_
    refine W.eq (g2 := F0 m 1336 ls [.int (xs (i.toNatClampNeg + 1)), .ref b]) (congrArg (fun z => F0 m 1336 ls [.int (xs z), .ref b]) ejx126) ?_
    refine lv_aload_n hx hb dL_law_1336 rfl (lv_at hl 3 rfl) ?_
    refine lv_iload_n hx hb dL_law_1337 rfl (lv_at hl 0 rfl) ?_
    refine lv_iconst (v := 2) hx hb dL_law_1338 (by decide) ?_
    refine lv_iadd hx hb dL_law_1339 ?_
    refine lv_topi (fun x127 ex127 => ?_)
    obtain ⟨tx127, ejx127, evx127⟩ := lw_ix (k := 2) ex127 hI hL rfl (by decide)
    clear tx127
    refine va_sld hx hb hX hbl (Nat.not_le.mpr hbl) hSH103 (vp_in_iff.mpr evx127) dL_law_1340 ?_
    refine W.eq (g2 := F0 m 1341 ls [.int (xs (i.toNatClampNeg + 2)), .int (xs (i.toNatClampNeg + 1)), .ref b]) (congrArg (fun z => F0 m 1341 ls [.int (xs z), .int (xs (i.toNatClampNeg + 1)), .ref b]) ejx127) ?_
    refine x_V (As := [.int (xs (i.toNatClampNeg + 1)), .int (xs (i.toNatClampNeg + 2))]) (rest := []) C (a_X10_blank_r l K G H103 ((xs (i.toNatClampNeg + 1))) ((xs (i.toNatClampNeg + 2))) (y16) hTH103 gb m123 g111 g112 g113 g114) yo_X10_blank wM_L_140 ⟨⟨by decide, by decide⟩, show _ ≤ 284929 from Nat.le_trans hc (by decide), show _ ≤ 8247460 from Nat.le_trans hs (by decide)⟩ (x_rv C hTH103 (ci := 10) rfl gb rg_112) rfl hl.1 rfl (Nat.le_of_ble_eq_true rfl) dL_law_1341 hSH103 (AE_new hN hSH103.1) (fun vH128 H128 locsH128 pH128 zH128 kH128 hSH128 => ?_)
    obtain ⟨x129, x130, hvH128, ex130, hrH128, g131, g132, g133, g134, mf135, hTH128⟩ := pH128
    subst hvH128
    have m136 := (m115).trans (fR_kept (x_lt hTH103 kH128 ga (by decide))).symm
    have m137 := (m116).trans (fI_kept (x_lt hTH103 kH128 ga (by decide))).symm
    have m138 := (fV_kept (x_lt hTH103 kH128 ga (by decide))).trans m125
    have m139 := (ex105).trans (fI_kept (x_lt hTH103 kH128 gw (by decide))).symm
    have m140 := (ex106).trans (fI_kept (x_lt hTH103 kH128 gw (by decide))).symm
    have m141 := (ex107).trans (fI_kept (x_lt hTH103 kH128 gw (by decide))).symm
    have m142 := (ex108).trans (fI_kept (x_lt hTH103 kH128 gw (by decide))).symm
    have m143 := (ex109).trans (fI_kept (x_lt hTH103 kH128 gw (by decide))).symm
    have m144 := (ex110).trans (fI_kept (x_lt hTH103 kH128 gw (by decide))).symm
    have m145 := (m117).trans (MF.i mf135 (k := 18) (by decide) (by decide)).symm
    have m146 := (m118).trans (MF.i mf135 (k := 1) (by decide) (by decide)).symm
    have m147 := (m119).trans (MF.i mf135 (k := 2) (by decide) (by decide)).symm
    have m148 := (m120).trans (MF.i mf135 (k := 3) (by decide) (by decide)).symm
    have m149 := (m121).trans (MF.i mf135 (k := 59) (by decide) (by decide)).symm
    have m150 := (m122).trans (MF.i mf135 (k := 62) (by decide) (by decide)).symm
    have m151 := (m124).trans (MF.i mf135 (k := 70) (by decide) (by decide)).symm
    have bx130 := ty_fi (x := x130) (k := 65) ex130 hTH128 gb rg_112 rfl
    refine W.eq (g2 := F0 m 1344 ls [.int x129]) rfl ?_
    refine lv_pop hx hb dL_law_1344 rfl ?_
    refine lv_goto (tgt := 1509) hx hb dL_law_1345 (by decide) ?_
    exact nx G H128 locsH128 _ _ ls ⟨hTH128, hN, ga, gb, g131, g132, g133, g134, ⟨(by rw [← m137, ← m145]; exact rt), (by rw [← m136, ← m139, ← m146]; omega), (by rw [← m136, ← m140, ← m147]; omega), (by rw [← m136, ← m141, ← m148]; omega), (by rw [← m136, ← m142, ← m149]; omega), (by rw [← m136, ← m143, ← m150]; omega), (by rw [← m136, ← m144, ← ex130]; omega)⟩, Or.inl ⟨m138, (by rw [← m151]; exact h70)⟩, hSH128⟩ hl ⟨hc, hs, fun _ => ⟨hc0, hs0⟩⟩
  · skip
    obtain ⟨hi, ehi⟩ : ∃ z : Int32, z = fI H b (K.1.2 10 70) := ⟨_, rfl⟩
    rw [← ehi] at h70
    obtain ⟨iq, eiq⟩ : ∃ z : Nat, z = fR H b (K.1.2 10 73) := ⟨_, rfl⟩
    have giq := ty_fr (q := iq) (k := 73) (u := 162) eiq hT gb rg_112 rfl
    rw [← eiq] at q1 q4 q5 q10 q13 q16
    obtain ⟨k1, ek1⟩ : ∃ z : Int32, z = fI H kq (K.1.2 8 1) := ⟨_, rfl⟩
    rw [← ek1] at q1
    obtain ⟨i1, ei1⟩ : ∃ z : Int32, z = fI H iq ((0 : Int32).toNatClampNeg) := ⟨_, rfl⟩
    rw [← ei1] at q1
    obtain ⟨k4, ek4⟩ : ∃ z : Int32, z = fI H kq (K.1.2 8 4) := ⟨_, rfl⟩
    rw [← ek4] at q4
    obtain ⟨i4, ei4⟩ : ∃ z : Int32, z = fI H iq ((1 : Int32).toNatClampNeg) := ⟨_, rfl⟩
    rw [← ei4] at q4
    obtain ⟨k5, ek5⟩ : ∃ z : Int32, z = fI H kq (K.1.2 8 5) := ⟨_, rfl⟩
    rw [← ek5] at q5
    obtain ⟨i5, ei5⟩ : ∃ z : Int32, z = fI H iq ((2 : Int32).toNatClampNeg) := ⟨_, rfl⟩
    rw [← ei5] at q5
    obtain ⟨k10, ek10⟩ : ∃ z : Int32, z = fI H kq (K.1.2 8 10) := ⟨_, rfl⟩
    rw [← ek10] at q10
    obtain ⟨i10, ei10⟩ : ∃ z : Int32, z = fI H iq ((3 : Int32).toNatClampNeg) := ⟨_, rfl⟩
    rw [← ei10] at q10
    obtain ⟨k13, ek13⟩ : ∃ z : Int32, z = fI H kq (K.1.2 8 13) := ⟨_, rfl⟩
    rw [← ek13] at q13
    obtain ⟨i13, ei13⟩ : ∃ z : Int32, z = fI H iq ((4 : Int32).toNatClampNeg) := ⟨_, rfl⟩
    rw [← ei13] at q13
    obtain ⟨k16, ek16⟩ : ∃ z : Int32, z = fI H kq (K.1.2 8 16) := ⟨_, rfl⟩
    rw [← ek16] at q16
    obtain ⟨i16, ei16⟩ : ∃ z : Int32, z = fI H iq ((5 : Int32).toNatClampNeg) := ⟨_, rfl⟩
    rw [← ei16] at q16
    refine lv_aload_n hx hb dL_law_1315 rfl (lv_at hl 2 rfl) ?_
    refine lv_aload_n hx hb dL_law_1316 rfl (lv_at hl 3 rfl) ?_
    refine lv_iload_n hx hb dL_law_1317 rfl (lv_at hl 0 rfl) ?_
    refine lv_iconst (v := 1) hx hb dL_law_1318 (by decide) ?_
    refine lv_iadd hx hb dL_law_1319 ?_
    refine lv_topi (fun x152 ex152 => ?_)
    obtain ⟨tx152, ejx152, evx152⟩ := lw_ix (k := 1) ex152 hI hL rfl (by decide)
    clear tx152
    refine va_sld hx hb hX hbl (Nat.not_le.mpr hbl) hS (vp_in_iff.mpr evx152) dL_law_1320 ?_
    refine W.eq (g2 := F0 m 1321 ls [.int (xs (i.toNatClampNeg + 1)), .ref a]) (congrArg (fun z => F0 m 1321 ls [.int (xs z), .ref a]) ejx152) ?_
    refine lv_aload_n hx hb dL_law_1321 rfl (lv_at hl 3 rfl) ?_
    refine lv_iload_n hx hb dL_law_1322 rfl (lv_at hl 0 rfl) ?_
    refine lv_iconst (v := 2) hx hb dL_law_1323 (by decide) ?_
    refine lv_iadd hx hb dL_law_1324 ?_
    refine lv_topi (fun x153 ex153 => ?_)
    obtain ⟨tx153, ejx153, evx153⟩ := lw_ix (k := 2) ex153 hI hL rfl (by decide)
    clear tx153
    refine va_sld hx hb hX hbl (Nat.not_le.mpr hbl) hS (vp_in_iff.mpr evx153) dL_law_1325 ?_
    refine W.eq (g2 := F0 m 1326 ls [.int (xs (i.toNatClampNeg + 2)), .int (xs (i.toNatClampNeg + 1)), .ref a]) (congrArg (fun z => F0 m 1326 ls [.int (xs z), .int (xs (i.toNatClampNeg + 1)), .ref a]) ejx153) ?_
    refine x_V (As := [.int (xs (i.toNatClampNeg + 1)), .int (xs (i.toNatClampNeg + 2))]) (rest := []) C (a_X9_blank_r l K G H ((xs (i.toNatClampNeg + 1))) ((xs (i.toNatClampNeg + 2))) (s1) (s4) (s5) (s10) (s13) (s16) hT ga gw ew es1 es4 es5 es10 es13 es16) yo_X9_blank wM_L_137 ⟨⟨by decide, by decide⟩, show _ ≤ 284929 from Nat.le_trans hc (by decide), show _ ≤ 8247460 from Nat.le_trans hs (by decide)⟩ (x_rv C hT (ci := 9) rfl ga rg_68) rfl hl.1 rfl (Nat.le_of_ble_eq_true rfl) dL_law_1326 hS (AE_new hN hS.1) (fun vH154 H154 locsH154 pH154 zH154 kH154 hSH154 => ?_)
    obtain ⟨x155, x156, x157, x158, x159, x160, x161, hvH154, ex156, ex157, ex158, ex159, ex160, ex161, hrH154, hTH154⟩ := pH154
    subst hvH154
    have g162 : CG (avw K H154 b) := CG.congr (fun k hk j => av_eff hT kH154 gb (by decide) (CG_eff [0, 32, 33] (by decide) k hk)) cg
    have g163 : TU (avw K H154 b) (svw K H154 b) := TU.congr (fun k hk j => av_eff hT kH154 gb (by decide) (TU_eff [0, 32, 33] (by decide) k hk)) (fun k hk => sv_eff hT kH154 gb (by decide)) tu
    have g164 : WD (avw K H154 b) := WD.congr (fun k hk j => av_eff hT kH154 gb (by decide) (WD_eff [0, 32, 33] (by decide) k hk)) wd
    have g165 : IM (avw K H154 b) := IM.congr (fun k hk j => av_eff hT kH154 gb (by decide) (IM_eff [0, 32, 33] (by decide) k hk)) im
    have m166 := (ew).trans (fR_kept (x_lt hT kH154 ga (by decide))).symm
    have m167 := (eta).trans (fI_kept (x_lt hT kH154 ga (by decide))).symm
    have m168 := (etb).trans (fI_kept (x_lt hT kH154 gb (by decide))).symm
    have m169 := (ey1).trans (fI_kept (x_lt hT kH154 gb (by decide))).symm
    have m170 := (ey4).trans (fI_kept (x_lt hT kH154 gb (by decide))).symm
    have m171 := (ey5).trans (fI_kept (x_lt hT kH154 gb (by decide))).symm
    have m172 := (ey10).trans (fI_kept (x_lt hT kH154 gb (by decide))).symm
    have m173 := (ey13).trans (fI_kept (x_lt hT kH154 gb (by decide))).symm
    have m174 := (ey16).trans (fI_kept (x_lt hT kH154 gb (by decide))).symm
    have m175 := (ehi).trans (fI_kept (x_lt hT kH154 gb (by decide))).symm
    have m176 := (fV_kept (x_lt hT kH154 ga (by decide))).trans kn
    have m177 := (eiq).trans (fR_kept (x_lt hT kH154 gb (by decide))).symm
    have m178 := (ek1).trans (fI_kept (x_lt hT kH154 gkq (by decide))).symm
    have m179 := (ei1).trans (fI_kept (x_lt hT kH154 giq (by decide))).symm
    have m180 := (ek4).trans (fI_kept (x_lt hT kH154 gkq (by decide))).symm
    have m181 := (ei4).trans (fI_kept (x_lt hT kH154 giq (by decide))).symm
    have m182 := (ek5).trans (fI_kept (x_lt hT kH154 gkq (by decide))).symm
    have m183 := (ei5).trans (fI_kept (x_lt hT kH154 giq (by decide))).symm
    have m184 := (ek10).trans (fI_kept (x_lt hT kH154 gkq (by decide))).symm
    have m185 := (ei10).trans (fI_kept (x_lt hT kH154 giq (by decide))).symm
    have m186 := (ek13).trans (fI_kept (x_lt hT kH154 gkq (by decide))).symm
    have m187 := (ei13).trans (fI_kept (x_lt hT kH154 giq (by decide))).symm
    have m188 := (ek16).trans (fI_kept (x_lt hT kH154 gkq (by decide))).symm
    have m189 := (ei16).trans (fI_kept (x_lt hT kH154 giq (by decide))).symm
    have bx156 := ty_fi (x := x156) (k := 1) ex156 hTH154 gw rg_0 rfl
    have bx157 := ty_fi (x := x157) (k := 4) ex157 hTH154 gw rg_0 rfl
    have bx158 := ty_fi (x := x158) (k := 5) ex158 hTH154 gw rg_0 rfl
    have bx159 := ty_fi (x := x159) (k := 10) ex159 hTH154 gw rg_0 rfl
    have bx160 := ty_fi (x := x160) (k := 13) ex160 hTH154 gw rg_0 rfl
    have bx161 := ty_fi (x := x161) (k := 16) ex161 hTH154 gw rg_0 rfl
    refine W.eq (g2 := F0 m 1329 ls [.int x155]) rfl ?_
    refine lv_pop hx hb dL_law_1329 rfl ?_
    refine lv_aload_n hx hb dL_law_1330 rfl (lv_at hl 1 rfl) ?_
    refine lv_aload_n hx hb dL_law_1331 rfl (lv_at hl 3 rfl) ?_
    refine lv_iload_n hx hb dL_law_1332 rfl (lv_at hl 0 rfl) ?_
    refine lv_iconst (v := 1) hx hb dL_law_1333 (by decide) ?_
    refine lv_iadd hx hb dL_law_1334 ?_
    refine lv_topi (fun x190 ex190 => ?_)
    obtain ⟨tx190, ejx190, evx190⟩ := lw_ix (k := 1) ex190 hI hL rfl (by decide)
    clear tx190
    refine va_sld hx hb hX hbl (Nat.not_le.mpr hbl) hSH154 (vp_in_iff.mpr evx190) dL_law_1335 ?_
    refine W.eq (g2 := F0 m 1336 ls [.int (xs (i.toNatClampNeg + 1)), .ref b]) (congrArg (fun z => F0 m 1336 ls [.int (xs z), .ref b]) ejx190) ?_
    refine lv_aload_n hx hb dL_law_1336 rfl (lv_at hl 3 rfl) ?_
    refine lv_iload_n hx hb dL_law_1337 rfl (lv_at hl 0 rfl) ?_
    refine lv_iconst (v := 2) hx hb dL_law_1338 (by decide) ?_
    refine lv_iadd hx hb dL_law_1339 ?_
    refine lv_topi (fun x191 ex191 => ?_)
    obtain ⟨tx191, ejx191, evx191⟩ := lw_ix (k := 2) ex191 hI hL rfl (by decide)
    clear tx191
    refine va_sld hx hb hX hbl (Nat.not_le.mpr hbl) hSH154 (vp_in_iff.mpr evx191) dL_law_1340 ?_
    refine W.eq (g2 := F0 m 1341 ls [.int (xs (i.toNatClampNeg + 2)), .int (xs (i.toNatClampNeg + 1)), .ref b]) (congrArg (fun z => F0 m 1341 ls [.int (xs z), .int (xs (i.toNatClampNeg + 1)), .ref b]) ejx191) ?_
    refine x_V (As := [.int (xs (i.toNatClampNeg + 1)), .int (xs (i.toNatClampNeg + 2))]) (rest := []) C (a_X10_blank_r l K G H154 ((xs (i.toNatClampNeg + 1))) ((xs (i.toNatClampNeg + 2))) (y16) hTH154 gb m174 g162 g163 g164 g165) yo_X10_blank wM_L_140 ⟨⟨by decide, by decide⟩, show _ ≤ 284929 from Nat.le_trans hc (by decide), show _ ≤ 8247460 from Nat.le_trans hs (by decide)⟩ (x_rv C hTH154 (ci := 10) rfl gb rg_112) rfl hl.1 rfl (Nat.le_of_ble_eq_true rfl) dL_law_1341 hSH154 (AE_new hN hSH154.1) (fun vH192 H192 locsH192 pH192 zH192 kH192 hSH192 => ?_)
    obtain ⟨x193, x194, hvH192, ex194, hrH192, g195, g196, g197, g198, mf199, hTH192⟩ := pH192
    subst hvH192
    have m200 := (m166).trans (fR_kept (x_lt hTH154 kH192 ga (by decide))).symm
    have m201 := (m167).trans (fI_kept (x_lt hTH154 kH192 ga (by decide))).symm
    have m202 := (fV_kept (x_lt hTH154 kH192 ga (by decide))).trans m176
    have m203 := (m178).trans (fI_kept (x_lt hTH154 kH192 gkq (by decide))).symm
    have m204 := (m179).trans (fI_kept (x_lt hTH154 kH192 giq (by decide))).symm
    have m205 := (m180).trans (fI_kept (x_lt hTH154 kH192 gkq (by decide))).symm
    have m206 := (m181).trans (fI_kept (x_lt hTH154 kH192 giq (by decide))).symm
    have m207 := (m182).trans (fI_kept (x_lt hTH154 kH192 gkq (by decide))).symm
    have m208 := (m183).trans (fI_kept (x_lt hTH154 kH192 giq (by decide))).symm
    have m209 := (m184).trans (fI_kept (x_lt hTH154 kH192 gkq (by decide))).symm
    have m210 := (m185).trans (fI_kept (x_lt hTH154 kH192 giq (by decide))).symm
    have m211 := (m186).trans (fI_kept (x_lt hTH154 kH192 gkq (by decide))).symm
    have m212 := (m187).trans (fI_kept (x_lt hTH154 kH192 giq (by decide))).symm
    have m213 := (m188).trans (fI_kept (x_lt hTH154 kH192 gkq (by decide))).symm
    have m214 := (m189).trans (fI_kept (x_lt hTH154 kH192 giq (by decide))).symm
    have m215 := (ex156).trans (fI_kept (x_lt hTH154 kH192 gw (by decide))).symm
    have m216 := (ex157).trans (fI_kept (x_lt hTH154 kH192 gw (by decide))).symm
    have m217 := (ex158).trans (fI_kept (x_lt hTH154 kH192 gw (by decide))).symm
    have m218 := (ex159).trans (fI_kept (x_lt hTH154 kH192 gw (by decide))).symm
    have m219 := (ex160).trans (fI_kept (x_lt hTH154 kH192 gw (by decide))).symm
    have m220 := (ex161).trans (fI_kept (x_lt hTH154 kH192 gw (by decide))).symm
    have m221 := (m168).trans (MF.i mf199 (k := 18) (by decide) (by decide)).symm
    have m222 := (m169).trans (MF.i mf199 (k := 1) (by decide) (by decide)).symm
    have m223 := (m170).trans (MF.i mf199 (k := 2) (by decide) (by decide)).symm
    have m224 := (m171).trans (MF.i mf199 (k := 3) (by decide) (by decide)).symm
    have m225 := (m172).trans (MF.i mf199 (k := 59) (by decide) (by decide)).symm
    have m226 := (m173).trans (MF.i mf199 (k := 62) (by decide) (by decide)).symm
    have m227 := (m175).trans (MF.i mf199 (k := 70) (by decide) (by decide)).symm
    have m228 := (m177).trans (MF.r mf199 (k := 73) (by decide) (by decide)).symm
    have bx194 := ty_fi (x := x194) (k := 65) ex194 hTH192 gb rg_112 rfl
    refine W.eq (g2 := F0 m 1344 ls [.int x193]) rfl ?_
    refine lv_pop hx hb dL_law_1344 rfl ?_
    refine lv_goto (tgt := 1509) hx hb dL_law_1345 (by decide) ?_
    exact nx G H192 locsH192 _ _ ls ⟨hTH192, hN, ga, gb, g195, g196, g197, g198, ⟨(by rw [← m201, ← m221]; exact rt), (by rw [← m200, ← m215, ← m222]; omega), (by rw [← m200, ← m216, ← m223]; omega), (by rw [← m200, ← m217, ← m224]; omega), (by rw [← m200, ← m218, ← m225]; omega), (by rw [← m200, ← m219, ← m226]; omega), (by rw [← m200, ← m220, ← ex194]; omega)⟩, Or.inr ⟨kq, m202, gkq, (by rw [← m227]; exact h70), (by rw [← m203, ← m228, ← m204]; exact q1), (by rw [← m205, ← m228, ← m206]; exact q4), (by rw [← m207, ← m228, ← m208]; exact q5), (by rw [← m209, ← m228, ← m210]; exact q10), (by rw [← m211, ← m228, ← m212]; exact q13), (by rw [← m213, ← m228, ← m214]; exact q16)⟩, hSH192⟩ hl ⟨hc, hs, fun h => by have h1 := h.symm.trans m202; cases h1⟩
set_option maxRecDepth 100000 in
set_option maxHeartbeats 1000000 in
theorem lw_c30 {p : Program} {l : Launch} {e : Env} {s : State} {m : MethodId} {below : List Frame} {meth : Method} {c : Code} {K : KE} {b0 L : Nat} {xs : Nat → Int32} {G : Nat → Option Nat} {H : Heap} {locs : List Loc} {a b : Nat} {cells slots : Nat} {ls : Array Slot} {i : Int32} {n : Nat} (D : LC p K s m meth c b0 L xs) (S : SX K s G H locs a b) (hl : lv_has ls 4 [(3, .int i), (2, .ref b), (1, .ref a), (0, .ref b0)]) (hi : 0 ≤ i.toInt ∧ i.toInt + 6 ≤ L) (hn : n ≤ 511) (hB : BD K H a cells slots) (nx : ∀ (G : Nat → Option Nat) (H : Heap) (locs : List Loc) (cells slots : Nat) (ls : Array Slot), SX K s G H locs a b → lv_has ls 4 [(3, .int i), (2, .ref b), (1, .ref a), (0, .ref b0)] → BD K H a cells slots → W p l e room_1 s m #[Value.ref b0] below meth c H locs cells slots (lw_Z below #[Value.ref b0] s) (F0 m 1509 ls [])) : W p l e room_1 s m #[Value.ref b0] below meth c H locs cells slots (lw_Z below #[Value.ref b0] s) (F0 m 1348 ls []) := by
  have hI := hi
  obtain ⟨C, hX, hbl, hL⟩ := id D
  obtain ⟨hx, hb, hml, hown, hts, hKT, hr, hlocks, hnm⟩ := id C
  obtain ⟨hT, hN, ga, gb, cg, tu, wd, im, ⟨rt, r1, r4, r5, r10, r13, r16⟩, hk, hS⟩ := S
  obtain ⟨hc, hs, hB0⟩ := hB
  have n_1 : (1 : Int32).toInt = 1 := rfl
  have n_2 : (2 : Int32).toInt = 2 := rfl
  obtain ⟨w, ew⟩ : ∃ z : Nat, z = fR H a (K.1.2 9 0) := ⟨_, rfl⟩
  have gw := ty_fr (q := w) (k := 0) (u := 0) ew hT ga rg_68 rfl
  rw [← ew] at r1 r4 r5 r10 r13 r16
  obtain ⟨ta, eta⟩ : ∃ z : Int32, z = fI H a (K.1.2 9 3) := ⟨_, rfl⟩
  rw [← eta] at rt
  obtain ⟨tb, etb⟩ : ∃ z : Int32, z = fI H b (K.1.2 10 18) := ⟨_, rfl⟩
  rw [← etb] at rt
  obtain ⟨s1, es1⟩ : ∃ z : Int32, z = fI H w (K.1.2 8 1) := ⟨_, rfl⟩
  rw [← es1] at r1
  obtain ⟨y1, ey1⟩ : ∃ z : Int32, z = fI H b (K.1.2 10 1) := ⟨_, rfl⟩
  rw [← ey1] at r1
  obtain ⟨s4, es4⟩ : ∃ z : Int32, z = fI H w (K.1.2 8 4) := ⟨_, rfl⟩
  rw [← es4] at r4
  obtain ⟨y4, ey4⟩ : ∃ z : Int32, z = fI H b (K.1.2 10 2) := ⟨_, rfl⟩
  rw [← ey4] at r4
  obtain ⟨s5, es5⟩ : ∃ z : Int32, z = fI H w (K.1.2 8 5) := ⟨_, rfl⟩
  rw [← es5] at r5
  obtain ⟨y5, ey5⟩ : ∃ z : Int32, z = fI H b (K.1.2 10 3) := ⟨_, rfl⟩
  rw [← ey5] at r5
  obtain ⟨s10, es10⟩ : ∃ z : Int32, z = fI H w (K.1.2 8 10) := ⟨_, rfl⟩
  rw [← es10] at r10
  obtain ⟨y10, ey10⟩ : ∃ z : Int32, z = fI H b (K.1.2 10 59) := ⟨_, rfl⟩
  rw [← ey10] at r10
  obtain ⟨s13, es13⟩ : ∃ z : Int32, z = fI H w (K.1.2 8 13) := ⟨_, rfl⟩
  rw [← es13] at r13
  obtain ⟨y13, ey13⟩ : ∃ z : Int32, z = fI H b (K.1.2 10 62) := ⟨_, rfl⟩
  rw [← ey13] at r13
  obtain ⟨s16, es16⟩ : ∃ z : Int32, z = fI H w (K.1.2 8 16) := ⟨_, rfl⟩
  rw [← es16] at r16
  obtain ⟨y16, ey16⟩ : ∃ z : Int32, z = fI H b (K.1.2 10 65) := ⟨_, rfl⟩
  rw [← ey16] at r16
  rcases hk with ⟨kn, h70⟩ | ⟨kq, kn, gkq, h70, q1, q4, q5, q10, q13, q16⟩
  · skip
    obtain ⟨hi, ehi⟩ : ∃ z : Int32, z = fI H b (K.1.2 10 70) := ⟨_, rfl⟩
    rw [← ehi] at h70
    obtain ⟨hc0, hs0⟩ := hB0 kn
    refine lv_aload_n hx hb dL_law_1348 rfl (lv_at hl 2 rfl) ?_
    refine lv_aload_n hx hb dL_law_1349 rfl (lv_at hl 3 rfl) ?_
    refine lv_iload_n hx hb dL_law_1350 rfl (lv_at hl 0 rfl) ?_
    refine lv_iconst (v := 1) hx hb dL_law_1351 (by decide) ?_
    refine lv_iadd hx hb dL_law_1352 ?_
    refine lv_topi (fun x101 ex101 => ?_)
    obtain ⟨tx101, ejx101, evx101⟩ := lw_ix (k := 1) ex101 hI hL rfl (by decide)
    clear tx101
    refine va_sld hx hb hX hbl (Nat.not_le.mpr hbl) hS (vp_in_iff.mpr evx101) dL_law_1353 ?_
    refine W.eq (g2 := F0 m 1354 ls [.int (xs (i.toNatClampNeg + 1)), .ref a]) (congrArg (fun z => F0 m 1354 ls [.int (xs z), .ref a]) ejx101) ?_
    refine lv_aload_n hx hb dL_law_1354 rfl (lv_at hl 3 rfl) ?_
    refine lv_iload_n hx hb dL_law_1355 rfl (lv_at hl 0 rfl) ?_
    refine lv_iconst (v := 2) hx hb dL_law_1356 (by decide) ?_
    refine lv_iadd hx hb dL_law_1357 ?_
    refine lv_topi (fun x102 ex102 => ?_)
    obtain ⟨tx102, ejx102, evx102⟩ := lw_ix (k := 2) ex102 hI hL rfl (by decide)
    clear tx102
    refine va_sld hx hb hX hbl (Nat.not_le.mpr hbl) hS (vp_in_iff.mpr evx102) dL_law_1358 ?_
    refine W.eq (g2 := F0 m 1359 ls [.int (xs (i.toNatClampNeg + 2)), .int (xs (i.toNatClampNeg + 1)), .ref a]) (congrArg (fun z => F0 m 1359 ls [.int (xs z), .int (xs (i.toNatClampNeg + 1)), .ref a]) ejx102) ?_
    refine x_V (As := [.int (xs (i.toNatClampNeg + 1)), .int (xs (i.toNatClampNeg + 2))]) (rest := []) C (a_X9_set l K G H ((xs (i.toNatClampNeg + 1))) ((xs (i.toNatClampNeg + 2))) hT ga) yo_X9_set wM_L_141 ⟨⟨by decide, by decide⟩, show _ ≤ 284929 from Nat.le_trans hc (by decide), show _ ≤ 8247460 from Nat.le_trans hs (by decide)⟩ (x_rv C hT (ci := 9) rfl ga rg_68) rfl hl.1 rfl (Nat.le_of_ble_eq_true rfl) dL_law_1359 hS (AE_new hN hS.1) (fun vH103 H103 locsH103 pH103 zH103 kH103 hSH103 => ?_)
    obtain ⟨x104, hvH103, hTH103⟩ := pH103
    subst hvH103
    have g105 : CG (avw K H103 b) := CG.congr (fun k hk j => av_eff hT kH103 gb (by decide) (CG_eff [104, 105, 106, 107] (by decide) k hk)) cg
    have g106 : TU (avw K H103 b) (svw K H103 b) := TU.congr (fun k hk j => av_eff hT kH103 gb (by decide) (TU_eff [104, 105, 106, 107] (by decide) k hk)) (fun k hk => sv_eff hT kH103 gb (by decide)) tu
    have g107 : WD (avw K H103 b) := WD.congr (fun k hk j => av_eff hT kH103 gb (by decide) (WD_eff [104, 105, 106, 107] (by decide) k hk)) wd
    have g108 : IM (avw K H103 b) := IM.congr (fun k hk j => av_eff hT kH103 gb (by decide) (IM_eff [104, 105, 106, 107] (by decide) k hk)) im
    have m109 := (ew).trans (fR_kept (x_lt hT kH103 ga (by decide))).symm
    have m110 := (eta).trans (fI_kept (x_lt hT kH103 ga (by decide))).symm
    have m111 := (etb).trans (fI_kept (x_lt hT kH103 gb (by decide))).symm
    have m112 := (es1).trans (fI_kept (x_lt hT kH103 gw (by decide))).symm
    have m113 := (ey1).trans (fI_kept (x_lt hT kH103 gb (by decide))).symm
    have m114 := (es4).trans (fI_kept (x_lt hT kH103 gw (by decide))).symm
    have m115 := (ey4).trans (fI_kept (x_lt hT kH103 gb (by decide))).symm
    have m116 := (es5).trans (fI_kept (x_lt hT kH103 gw (by decide))).symm
    have m117 := (ey5).trans (fI_kept (x_lt hT kH103 gb (by decide))).symm
    have m118 := (es10).trans (fI_kept (x_lt hT kH103 gw (by decide))).symm
    have m119 := (ey10).trans (fI_kept (x_lt hT kH103 gb (by decide))).symm
    have m120 := (es13).trans (fI_kept (x_lt hT kH103 gw (by decide))).symm
    have m121 := (ey13).trans (fI_kept (x_lt hT kH103 gb (by decide))).symm
    have m122 := (es16).trans (fI_kept (x_lt hT kH103 gw (by decide))).symm
    have m123 := (ey16).trans (fI_kept (x_lt hT kH103 gb (by decide))).symm
    have m124 := (ehi).trans (fI_kept (x_lt hT kH103 gb (by decide))).symm
    have m125 := (fV_kept (x_lt hT kH103 ga (by decide))).trans kn
    refine W.eq (g2 := F0 m 1362 ls [.int x104]) rfl ?_
    refine lv_pop hx hb dL_law_1362 rfl ?_
    refine lv_aload_n hx hb dL_law_1363 rfl (lv_at hl 1 rfl) ?_
    refine lv_aload_n hx hb dL_law_1364 rfl (lv_at hl 3 rfl) ?_
    refine lv_iload_n hx hb dL_law_1365 rfl (lv_at hl 0 rfl) ?_
    refine lv_iconst (v := 1) hx hb dL_law_1366 (by decide) ?_
    refine lv_iadd hx hb dL_law_1367 ?_
    refine lv_topi (fun x126 ex126 => ?_)
    obtain ⟨tx126, ejx126, evx126⟩ := lw_ix (k := 1) ex126 hI hL rfl (by decide)
    clear tx126
    refine va_sld hx hb hX hbl (Nat.not_le.mpr hbl) hSH103 (vp_in_iff.mpr evx126) dL_law_1368 ?_
    refine W.eq (g2 := F0 m 1369 ls [.int (xs (i.toNatClampNeg + 1)), .ref b]) (congrArg (fun z => F0 m 1369 ls [.int (xs z), .ref b]) ejx126) ?_
    refine lv_aload_n hx hb dL_law_1369 rfl (lv_at hl 3 rfl) ?_
    refine lv_iload_n hx hb dL_law_1370 rfl (lv_at hl 0 rfl) ?_
    refine lv_iconst (v := 2) hx hb dL_law_1371 (by decide) ?_
    refine lv_iadd hx hb dL_law_1372 ?_
    refine lv_topi (fun x127 ex127 => ?_)
    obtain ⟨tx127, ejx127, evx127⟩ := lw_ix (k := 2) ex127 hI hL rfl (by decide)
    clear tx127
    refine va_sld hx hb hX hbl (Nat.not_le.mpr hbl) hSH103 (vp_in_iff.mpr evx127) dL_law_1373 ?_
    refine W.eq (g2 := F0 m 1374 ls [.int (xs (i.toNatClampNeg + 2)), .int (xs (i.toNatClampNeg + 1)), .ref b]) (congrArg (fun z => F0 m 1374 ls [.int (xs z), .int (xs (i.toNatClampNeg + 1)), .ref b]) ejx127) ?_
    refine x_V (As := [.int (xs (i.toNatClampNeg + 1)), .int (xs (i.toNatClampNeg + 2))]) (rest := []) C (a_X10_set l K G H103 ((xs (i.toNatClampNeg + 1))) ((xs (i.toNatClampNeg + 2))) hTH103 gb g105 g106 g107 g108) yo_X10_set wM_L_144 ⟨⟨by decide, by decide⟩, show _ ≤ 284929 from Nat.le_trans hc (by decide), show _ ≤ 8247460 from Nat.le_trans hs (by decide)⟩ (x_rv C hTH103 (ci := 10) rfl gb rg_112) rfl hl.1 rfl (Nat.le_of_ble_eq_true rfl) dL_law_1374 hSH103 (AE_new hN hSH103.1) (fun vH128 H128 locsH128 pH128 zH128 kH128 hSH128 => ?_)
    obtain ⟨x129, hvH128, g130, g131, g132, g133, mf134, hTH128⟩ := pH128
    subst hvH128
    have m135 := (m109).trans (fR_kept (x_lt hTH103 kH128 ga (by decide))).symm
    have m136 := (m110).trans (fI_kept (x_lt hTH103 kH128 ga (by decide))).symm
    have m137 := (m112).trans (fI_kept (x_lt hTH103 kH128 gw (by decide))).symm
    have m138 := (m114).trans (fI_kept (x_lt hTH103 kH128 gw (by decide))).symm
    have m139 := (m116).trans (fI_kept (x_lt hTH103 kH128 gw (by decide))).symm
    have m140 := (m118).trans (fI_kept (x_lt hTH103 kH128 gw (by decide))).symm
    have m141 := (m120).trans (fI_kept (x_lt hTH103 kH128 gw (by decide))).symm
    have m142 := (m122).trans (fI_kept (x_lt hTH103 kH128 gw (by decide))).symm
    have m143 := (fV_kept (x_lt hTH103 kH128 ga (by decide))).trans m125
    have m144 := (m111).trans (MF.i mf134 (k := 18) (by decide) (by decide)).symm
    have m145 := (m113).trans (MF.i mf134 (k := 1) (by decide) (by decide)).symm
    have m146 := (m115).trans (MF.i mf134 (k := 2) (by decide) (by decide)).symm
    have m147 := (m117).trans (MF.i mf134 (k := 3) (by decide) (by decide)).symm
    have m148 := (m119).trans (MF.i mf134 (k := 59) (by decide) (by decide)).symm
    have m149 := (m121).trans (MF.i mf134 (k := 62) (by decide) (by decide)).symm
    have m150 := (m123).trans (MF.i mf134 (k := 65) (by decide) (by decide)).symm
    have m151 := (m124).trans (MF.i mf134 (k := 70) (by decide) (by decide)).symm
    refine W.eq (g2 := F0 m 1377 ls [.int x129]) rfl ?_
    refine lv_pop hx hb dL_law_1377 rfl ?_
    refine lv_goto (tgt := 1509) hx hb dL_law_1378 (by decide) ?_
    exact nx G H128 locsH128 _ _ ls ⟨hTH128, hN, ga, gb, g130, g131, g132, g133, ⟨(by rw [← m136, ← m144]; exact rt), (by rw [← m135, ← m137, ← m145]; exact r1), (by rw [← m135, ← m138, ← m146]; exact r4), (by rw [← m135, ← m139, ← m147]; exact r5), (by rw [← m135, ← m140, ← m148]; exact r10), (by rw [← m135, ← m141, ← m149]; exact r13), (by rw [← m135, ← m142, ← m150]; exact r16)⟩, Or.inl ⟨m143, (by rw [← m151]; exact h70)⟩, hSH128⟩ hl ⟨hc, hs, fun _ => ⟨hc0, hs0⟩⟩
  · skip
    obtain ⟨hi, ehi⟩ : ∃ z : Int32, z = fI H b (K.1.2 10 70) := ⟨_, rfl⟩
    rw [← ehi] at h70
    obtain ⟨iq, eiq⟩ : ∃ z : Nat, z = fR H b (K.1.2 10 73) := ⟨_, rfl⟩
    have giq := ty_fr (q := iq) (k := 73) (u := 162) eiq hT gb rg_112 rfl
    rw [← eiq] at q1 q4 q5 q10 q13 q16
    obtain ⟨k1, ek1⟩ : ∃ z : Int32, z = fI H kq (K.1.2 8 1) := ⟨_, rfl⟩
    rw [← ek1] at q1
    obtain ⟨i1, ei1⟩ : ∃ z : Int32, z = fI H iq ((0 : Int32).toNatClampNeg) := ⟨_, rfl⟩
    rw [← ei1] at q1
    obtain ⟨k4, ek4⟩ : ∃ z : Int32, z = fI H kq (K.1.2 8 4) := ⟨_, rfl⟩
    rw [← ek4] at q4
    obtain ⟨i4, ei4⟩ : ∃ z : Int32, z = fI H iq ((1 : Int32).toNatClampNeg) := ⟨_, rfl⟩
    rw [← ei4] at q4
    obtain ⟨k5, ek5⟩ : ∃ z : Int32, z = fI H kq (K.1.2 8 5) := ⟨_, rfl⟩
    rw [← ek5] at q5
    obtain ⟨i5, ei5⟩ : ∃ z : Int32, z = fI H iq ((2 : Int32).toNatClampNeg) := ⟨_, rfl⟩
    rw [← ei5] at q5
    obtain ⟨k10, ek10⟩ : ∃ z : Int32, z = fI H kq (K.1.2 8 10) := ⟨_, rfl⟩
    rw [← ek10] at q10
    obtain ⟨i10, ei10⟩ : ∃ z : Int32, z = fI H iq ((3 : Int32).toNatClampNeg) := ⟨_, rfl⟩
    rw [← ei10] at q10
    obtain ⟨k13, ek13⟩ : ∃ z : Int32, z = fI H kq (K.1.2 8 13) := ⟨_, rfl⟩
    rw [← ek13] at q13
    obtain ⟨i13, ei13⟩ : ∃ z : Int32, z = fI H iq ((4 : Int32).toNatClampNeg) := ⟨_, rfl⟩
    rw [← ei13] at q13
    obtain ⟨k16, ek16⟩ : ∃ z : Int32, z = fI H kq (K.1.2 8 16) := ⟨_, rfl⟩
    rw [← ek16] at q16
    obtain ⟨i16, ei16⟩ : ∃ z : Int32, z = fI H iq ((5 : Int32).toNatClampNeg) := ⟨_, rfl⟩
    rw [← ei16] at q16
    refine lv_aload_n hx hb dL_law_1348 rfl (lv_at hl 2 rfl) ?_
    refine lv_aload_n hx hb dL_law_1349 rfl (lv_at hl 3 rfl) ?_
    refine lv_iload_n hx hb dL_law_1350 rfl (lv_at hl 0 rfl) ?_
    refine lv_iconst (v := 1) hx hb dL_law_1351 (by decide) ?_
    refine lv_iadd hx hb dL_law_1352 ?_
    refine lv_topi (fun x152 ex152 => ?_)
    obtain ⟨tx152, ejx152, evx152⟩ := lw_ix (k := 1) ex152 hI hL rfl (by decide)
    clear tx152
    refine va_sld hx hb hX hbl (Nat.not_le.mpr hbl) hS (vp_in_iff.mpr evx152) dL_law_1353 ?_
    refine W.eq (g2 := F0 m 1354 ls [.int (xs (i.toNatClampNeg + 1)), .ref a]) (congrArg (fun z => F0 m 1354 ls [.int (xs z), .ref a]) ejx152) ?_
    refine lv_aload_n hx hb dL_law_1354 rfl (lv_at hl 3 rfl) ?_
    refine lv_iload_n hx hb dL_law_1355 rfl (lv_at hl 0 rfl) ?_
    refine lv_iconst (v := 2) hx hb dL_law_1356 (by decide) ?_
    refine lv_iadd hx hb dL_law_1357 ?_
    refine lv_topi (fun x153 ex153 => ?_)
    obtain ⟨tx153, ejx153, evx153⟩ := lw_ix (k := 2) ex153 hI hL rfl (by decide)
    clear tx153
    refine va_sld hx hb hX hbl (Nat.not_le.mpr hbl) hS (vp_in_iff.mpr evx153) dL_law_1358 ?_
    refine W.eq (g2 := F0 m 1359 ls [.int (xs (i.toNatClampNeg + 2)), .int (xs (i.toNatClampNeg + 1)), .ref a]) (congrArg (fun z => F0 m 1359 ls [.int (xs z), .int (xs (i.toNatClampNeg + 1)), .ref a]) ejx153) ?_
    refine x_V (As := [.int (xs (i.toNatClampNeg + 1)), .int (xs (i.toNatClampNeg + 2))]) (rest := []) C (a_X9_set l K G H ((xs (i.toNatClampNeg + 1))) ((xs (i.toNatClampNeg + 2))) hT ga) yo_X9_set wM_L_141 ⟨⟨by decide, by decide⟩, show _ ≤ 284929 from Nat.le_trans hc (by decide), show _ ≤ 8247460 from Nat.le_trans hs (by decide)⟩ (x_rv C hT (ci := 9) rfl ga rg_68) rfl hl.1 rfl (Nat.le_of_ble_eq_true rfl) dL_law_1359 hS (AE_new hN hS.1) (fun vH154 H154 locsH154 pH154 zH154 kH154 hSH154 => ?_)
    obtain ⟨x155, hvH154, hTH154⟩ := pH154
    subst hvH154
    have g156 : CG (avw K H154 b) := CG.congr (fun k hk j => av_eff hT kH154 gb (by decide) (CG_eff [104, 105, 106, 107] (by decide) k hk)) cg
    have g157 : TU (avw K H154 b) (svw K H154 b) := TU.congr (fun k hk j => av_eff hT kH154 gb (by decide) (TU_eff [104, 105, 106, 107] (by decide) k hk)) (fun k hk => sv_eff hT kH154 gb (by decide)) tu
    have g158 : WD (avw K H154 b) := WD.congr (fun k hk j => av_eff hT kH154 gb (by decide) (WD_eff [104, 105, 106, 107] (by decide) k hk)) wd
    have g159 : IM (avw K H154 b) := IM.congr (fun k hk j => av_eff hT kH154 gb (by decide) (IM_eff [104, 105, 106, 107] (by decide) k hk)) im
    have m160 := (ew).trans (fR_kept (x_lt hT kH154 ga (by decide))).symm
    have m161 := (eta).trans (fI_kept (x_lt hT kH154 ga (by decide))).symm
    have m162 := (etb).trans (fI_kept (x_lt hT kH154 gb (by decide))).symm
    have m163 := (es1).trans (fI_kept (x_lt hT kH154 gw (by decide))).symm
    have m164 := (ey1).trans (fI_kept (x_lt hT kH154 gb (by decide))).symm
    have m165 := (es4).trans (fI_kept (x_lt hT kH154 gw (by decide))).symm
    have m166 := (ey4).trans (fI_kept (x_lt hT kH154 gb (by decide))).symm
    have m167 := (es5).trans (fI_kept (x_lt hT kH154 gw (by decide))).symm
    have m168 := (ey5).trans (fI_kept (x_lt hT kH154 gb (by decide))).symm
    have m169 := (es10).trans (fI_kept (x_lt hT kH154 gw (by decide))).symm
    have m170 := (ey10).trans (fI_kept (x_lt hT kH154 gb (by decide))).symm
    have m171 := (es13).trans (fI_kept (x_lt hT kH154 gw (by decide))).symm
    have m172 := (ey13).trans (fI_kept (x_lt hT kH154 gb (by decide))).symm
    have m173 := (es16).trans (fI_kept (x_lt hT kH154 gw (by decide))).symm
    have m174 := (ey16).trans (fI_kept (x_lt hT kH154 gb (by decide))).symm
    have m175 := (ehi).trans (fI_kept (x_lt hT kH154 gb (by decide))).symm
    have m176 := (fV_kept (x_lt hT kH154 ga (by decide))).trans kn
    have m177 := (eiq).trans (fR_kept (x_lt hT kH154 gb (by decide))).symm
    have m178 := (ek1).trans (fI_kept (x_lt hT kH154 gkq (by decide))).symm
    have m179 := (ei1).trans (fI_kept (x_lt hT kH154 giq (by decide))).symm
    have m180 := (ek4).trans (fI_kept (x_lt hT kH154 gkq (by decide))).symm
    have m181 := (ei4).trans (fI_kept (x_lt hT kH154 giq (by decide))).symm
    have m182 := (ek5).trans (fI_kept (x_lt hT kH154 gkq (by decide))).symm
    have m183 := (ei5).trans (fI_kept (x_lt hT kH154 giq (by decide))).symm
    have m184 := (ek10).trans (fI_kept (x_lt hT kH154 gkq (by decide))).symm
    have m185 := (ei10).trans (fI_kept (x_lt hT kH154 giq (by decide))).symm
    have m186 := (ek13).trans (fI_kept (x_lt hT kH154 gkq (by decide))).symm
    have m187 := (ei13).trans (fI_kept (x_lt hT kH154 giq (by decide))).symm
    have m188 := (ek16).trans (fI_kept (x_lt hT kH154 gkq (by decide))).symm
    have m189 := (ei16).trans (fI_kept (x_lt hT kH154 giq (by decide))).symm
    refine W.eq (g2 := F0 m 1362 ls [.int x155]) rfl ?_
    refine lv_pop hx hb dL_law_1362 rfl ?_
    refine lv_aload_n hx hb dL_law_1363 rfl (lv_at hl 1 rfl) ?_
    refine lv_aload_n hx hb dL_law_1364 rfl (lv_at hl 3 rfl) ?_
    refine lv_iload_n hx hb dL_law_1365 rfl (lv_at hl 0 rfl) ?_
    refine lv_iconst (v := 1) hx hb dL_law_1366 (by decide) ?_
    refine lv_iadd hx hb dL_law_1367 ?_
    refine lv_topi (fun x190 ex190 => ?_)
    obtain ⟨tx190, ejx190, evx190⟩ := lw_ix (k := 1) ex190 hI hL rfl (by decide)
    clear tx190
    refine va_sld hx hb hX hbl (Nat.not_le.mpr hbl) hSH154 (vp_in_iff.mpr evx190) dL_law_1368 ?_
    refine W.eq (g2 := F0 m 1369 ls [.int (xs (i.toNatClampNeg + 1)), .ref b]) (congrArg (fun z => F0 m 1369 ls [.int (xs z), .ref b]) ejx190) ?_
    refine lv_aload_n hx hb dL_law_1369 rfl (lv_at hl 3 rfl) ?_
    refine lv_iload_n hx hb dL_law_1370 rfl (lv_at hl 0 rfl) ?_
    refine lv_iconst (v := 2) hx hb dL_law_1371 (by decide) ?_
    refine lv_iadd hx hb dL_law_1372 ?_
    refine lv_topi (fun x191 ex191 => ?_)
    obtain ⟨tx191, ejx191, evx191⟩ := lw_ix (k := 2) ex191 hI hL rfl (by decide)
    clear tx191
    refine va_sld hx hb hX hbl (Nat.not_le.mpr hbl) hSH154 (vp_in_iff.mpr evx191) dL_law_1373 ?_
    refine W.eq (g2 := F0 m 1374 ls [.int (xs (i.toNatClampNeg + 2)), .int (xs (i.toNatClampNeg + 1)), .ref b]) (congrArg (fun z => F0 m 1374 ls [.int (xs z), .int (xs (i.toNatClampNeg + 1)), .ref b]) ejx191) ?_
    refine x_V (As := [.int (xs (i.toNatClampNeg + 1)), .int (xs (i.toNatClampNeg + 2))]) (rest := []) C (a_X10_set l K G H154 ((xs (i.toNatClampNeg + 1))) ((xs (i.toNatClampNeg + 2))) hTH154 gb g156 g157 g158 g159) yo_X10_set wM_L_144 ⟨⟨by decide, by decide⟩, show _ ≤ 284929 from Nat.le_trans hc (by decide), show _ ≤ 8247460 from Nat.le_trans hs (by decide)⟩ (x_rv C hTH154 (ci := 10) rfl gb rg_112) rfl hl.1 rfl (Nat.le_of_ble_eq_true rfl) dL_law_1374 hSH154 (AE_new hN hSH154.1) (fun vH192 H192 locsH192 pH192 zH192 kH192 hSH192 => ?_)
    obtain ⟨x193, hvH192, g194, g195, g196, g197, mf198, hTH192⟩ := pH192
    subst hvH192
    have m199 := (m160).trans (fR_kept (x_lt hTH154 kH192 ga (by decide))).symm
    have m200 := (m161).trans (fI_kept (x_lt hTH154 kH192 ga (by decide))).symm
    have m201 := (m163).trans (fI_kept (x_lt hTH154 kH192 gw (by decide))).symm
    have m202 := (m165).trans (fI_kept (x_lt hTH154 kH192 gw (by decide))).symm
    have m203 := (m167).trans (fI_kept (x_lt hTH154 kH192 gw (by decide))).symm
    have m204 := (m169).trans (fI_kept (x_lt hTH154 kH192 gw (by decide))).symm
    have m205 := (m171).trans (fI_kept (x_lt hTH154 kH192 gw (by decide))).symm
    have m206 := (m173).trans (fI_kept (x_lt hTH154 kH192 gw (by decide))).symm
    have m207 := (fV_kept (x_lt hTH154 kH192 ga (by decide))).trans m176
    have m208 := (m178).trans (fI_kept (x_lt hTH154 kH192 gkq (by decide))).symm
    have m209 := (m179).trans (fI_kept (x_lt hTH154 kH192 giq (by decide))).symm
    have m210 := (m180).trans (fI_kept (x_lt hTH154 kH192 gkq (by decide))).symm
    have m211 := (m181).trans (fI_kept (x_lt hTH154 kH192 giq (by decide))).symm
    have m212 := (m182).trans (fI_kept (x_lt hTH154 kH192 gkq (by decide))).symm
    have m213 := (m183).trans (fI_kept (x_lt hTH154 kH192 giq (by decide))).symm
    have m214 := (m184).trans (fI_kept (x_lt hTH154 kH192 gkq (by decide))).symm
    have m215 := (m185).trans (fI_kept (x_lt hTH154 kH192 giq (by decide))).symm
    have m216 := (m186).trans (fI_kept (x_lt hTH154 kH192 gkq (by decide))).symm
    have m217 := (m187).trans (fI_kept (x_lt hTH154 kH192 giq (by decide))).symm
    have m218 := (m188).trans (fI_kept (x_lt hTH154 kH192 gkq (by decide))).symm
    have m219 := (m189).trans (fI_kept (x_lt hTH154 kH192 giq (by decide))).symm
    have m220 := (m162).trans (MF.i mf198 (k := 18) (by decide) (by decide)).symm
    have m221 := (m164).trans (MF.i mf198 (k := 1) (by decide) (by decide)).symm
    have m222 := (m166).trans (MF.i mf198 (k := 2) (by decide) (by decide)).symm
    have m223 := (m168).trans (MF.i mf198 (k := 3) (by decide) (by decide)).symm
    have m224 := (m170).trans (MF.i mf198 (k := 59) (by decide) (by decide)).symm
    have m225 := (m172).trans (MF.i mf198 (k := 62) (by decide) (by decide)).symm
    have m226 := (m174).trans (MF.i mf198 (k := 65) (by decide) (by decide)).symm
    have m227 := (m175).trans (MF.i mf198 (k := 70) (by decide) (by decide)).symm
    have m228 := (m177).trans (MF.r mf198 (k := 73) (by decide) (by decide)).symm
    refine W.eq (g2 := F0 m 1377 ls [.int x193]) rfl ?_
    refine lv_pop hx hb dL_law_1377 rfl ?_
    refine lv_goto (tgt := 1509) hx hb dL_law_1378 (by decide) ?_
    exact nx G H192 locsH192 _ _ ls ⟨hTH192, hN, ga, gb, g194, g195, g196, g197, ⟨(by rw [← m200, ← m220]; exact rt), (by rw [← m199, ← m201, ← m221]; exact r1), (by rw [← m199, ← m202, ← m222]; exact r4), (by rw [← m199, ← m203, ← m223]; exact r5), (by rw [← m199, ← m204, ← m224]; exact r10), (by rw [← m199, ← m205, ← m225]; exact r13), (by rw [← m199, ← m206, ← m226]; exact r16)⟩, Or.inr ⟨kq, m207, gkq, (by rw [← m227]; exact h70), (by rw [← m208, ← m228, ← m209]; exact q1), (by rw [← m210, ← m228, ← m211]; exact q4), (by rw [← m212, ← m228, ← m213]; exact q5), (by rw [← m214, ← m228, ← m215]; exact q10), (by rw [← m216, ← m228, ← m217]; exact q13), (by rw [← m218, ← m228, ← m219]; exact q16)⟩, hSH192⟩ hl ⟨hc, hs, fun h => by have h1 := h.symm.trans m207; cases h1⟩
set_option maxRecDepth 100000 in
set_option maxHeartbeats 1000000 in
theorem lw_c31 {p : Program} {l : Launch} {e : Env} {s : State} {m : MethodId} {below : List Frame} {meth : Method} {c : Code} {K : KE} {b0 L : Nat} {xs : Nat → Int32} {G : Nat → Option Nat} {H : Heap} {locs : List Loc} {a b : Nat} {cells slots : Nat} {ls : Array Slot} {i : Int32} {n : Nat} (D : LC p K s m meth c b0 L xs) (S : SX K s G H locs a b) (hl : lv_has ls 4 [(3, .int i), (2, .ref b), (1, .ref a), (0, .ref b0)]) (hi : 0 ≤ i.toInt ∧ i.toInt + 6 ≤ L) (hn : n ≤ 511) (hB : BD K H a cells slots) (nx : ∀ (G : Nat → Option Nat) (H : Heap) (locs : List Loc) (cells slots : Nat) (ls : Array Slot), SX K s G H locs a b → lv_has ls 4 [(3, .int i), (2, .ref b), (1, .ref a), (0, .ref b0)] → BD K H a cells slots → W p l e room_1 s m #[Value.ref b0] below meth c H locs cells slots (lw_Z below #[Value.ref b0] s) (F0 m 1509 ls [])) : W p l e room_1 s m #[Value.ref b0] below meth c H locs cells slots (lw_Z below #[Value.ref b0] s) (F0 m 1381 ls []) := by
  have hI := hi
  obtain ⟨C, hX, hbl, hL⟩ := id D
  obtain ⟨hx, hb, hml, hown, hts, hKT, hr, hlocks, hnm⟩ := id C
  obtain ⟨hT, hN, ga, gb, cg, tu, wd, im, ⟨rt, r1, r4, r5, r10, r13, r16⟩, hk, hS⟩ := S
  obtain ⟨hc, hs, hB0⟩ := hB
  have n_1 : (1 : Int32).toInt = 1 := rfl
  obtain ⟨w, ew⟩ : ∃ z : Nat, z = fR H a (K.1.2 9 0) := ⟨_, rfl⟩
  have gw := ty_fr (q := w) (k := 0) (u := 0) ew hT ga rg_68 rfl
  rw [← ew] at r1 r4 r5 r10 r13 r16
  obtain ⟨ta, eta⟩ : ∃ z : Int32, z = fI H a (K.1.2 9 3) := ⟨_, rfl⟩
  rw [← eta] at rt
  obtain ⟨tb, etb⟩ : ∃ z : Int32, z = fI H b (K.1.2 10 18) := ⟨_, rfl⟩
  rw [← etb] at rt
  obtain ⟨s1, es1⟩ : ∃ z : Int32, z = fI H w (K.1.2 8 1) := ⟨_, rfl⟩
  rw [← es1] at r1
  obtain ⟨y1, ey1⟩ : ∃ z : Int32, z = fI H b (K.1.2 10 1) := ⟨_, rfl⟩
  rw [← ey1] at r1
  obtain ⟨s4, es4⟩ : ∃ z : Int32, z = fI H w (K.1.2 8 4) := ⟨_, rfl⟩
  rw [← es4] at r4
  obtain ⟨y4, ey4⟩ : ∃ z : Int32, z = fI H b (K.1.2 10 2) := ⟨_, rfl⟩
  rw [← ey4] at r4
  obtain ⟨s5, es5⟩ : ∃ z : Int32, z = fI H w (K.1.2 8 5) := ⟨_, rfl⟩
  rw [← es5] at r5
  obtain ⟨y5, ey5⟩ : ∃ z : Int32, z = fI H b (K.1.2 10 3) := ⟨_, rfl⟩
  rw [← ey5] at r5
  obtain ⟨s10, es10⟩ : ∃ z : Int32, z = fI H w (K.1.2 8 10) := ⟨_, rfl⟩
  rw [← es10] at r10
  obtain ⟨y10, ey10⟩ : ∃ z : Int32, z = fI H b (K.1.2 10 59) := ⟨_, rfl⟩
  rw [← ey10] at r10
  obtain ⟨s13, es13⟩ : ∃ z : Int32, z = fI H w (K.1.2 8 13) := ⟨_, rfl⟩
  rw [← es13] at r13
  obtain ⟨y13, ey13⟩ : ∃ z : Int32, z = fI H b (K.1.2 10 62) := ⟨_, rfl⟩
  rw [← ey13] at r13
  obtain ⟨s16, es16⟩ : ∃ z : Int32, z = fI H w (K.1.2 8 16) := ⟨_, rfl⟩
  rw [← es16] at r16
  obtain ⟨y16, ey16⟩ : ∃ z : Int32, z = fI H b (K.1.2 10 65) := ⟨_, rfl⟩
  rw [← ey16] at r16
  rcases hk with ⟨kn, h70⟩ | ⟨kq, kn, gkq, h70, q1, q4, q5, q10, q13, q16⟩
  · skip
    obtain ⟨hi, ehi⟩ : ∃ z : Int32, z = fI H b (K.1.2 10 70) := ⟨_, rfl⟩
    rw [← ehi] at h70
    obtain ⟨hc0, hs0⟩ := hB0 kn
    refine lv_aload_n hx hb dL_law_1381 rfl (lv_at hl 2 rfl) ?_
    refine lv_aload_n hx hb dL_law_1382 rfl (lv_at hl 3 rfl) ?_
    refine lv_iload_n hx hb dL_law_1383 rfl (lv_at hl 0 rfl) ?_
    refine lv_iconst (v := 1) hx hb dL_law_1384 (by decide) ?_
    refine lv_iadd hx hb dL_law_1385 ?_
    refine lv_topi (fun x101 ex101 => ?_)
    obtain ⟨tx101, ejx101, evx101⟩ := lw_ix (k := 1) ex101 hI hL rfl (by decide)
    clear tx101
    refine va_sld hx hb hX hbl (Nat.not_le.mpr hbl) hS (vp_in_iff.mpr evx101) dL_law_1386 ?_
    refine W.eq (g2 := F0 m 1387 ls [.int (xs (i.toNatClampNeg + 1)), .ref a]) (congrArg (fun z => F0 m 1387 ls [.int (xs z), .ref a]) ejx101) ?_
    refine x_V (As := [.int (xs (i.toNatClampNeg + 1))]) (rest := []) C (a_X9_down l K G H ((xs (i.toNatClampNeg + 1))) hT ga) yo_X9_down wM_L_145 ⟨⟨by decide, by decide⟩, show _ ≤ 284929 from Nat.le_trans hc (by decide), show _ ≤ 8247460 from Nat.le_trans hs (by decide)⟩ (x_rv C hT (ci := 9) rfl ga rg_68) rfl hl.1 rfl (Nat.le_of_ble_eq_true rfl) dL_law_1387 hS (AE_new hN hS.1) (fun vH102 H102 locsH102 pH102 zH102 kH102 hSH102 => ?_)
    obtain ⟨x103, hvH102, hTH102⟩ := pH102
    subst hvH102
    have g104 : CG (avw K H102 b) := CG.congr (fun k hk j => av_eff hT kH102 gb (by decide) (CG_eff [83, 84] (by decide) k hk)) cg
    have g105 : TU (avw K H102 b) (svw K H102 b) := TU.congr (fun k hk j => av_eff hT kH102 gb (by decide) (TU_eff [83, 84] (by decide) k hk)) (fun k hk => sv_eff hT kH102 gb (by decide)) tu
    have g106 : WD (avw K H102 b) := WD.congr (fun k hk j => av_eff hT kH102 gb (by decide) (WD_eff [83, 84] (by decide) k hk)) wd
    have g107 : IM (avw K H102 b) := IM.congr (fun k hk j => av_eff hT kH102 gb (by decide) (IM_eff [83, 84] (by decide) k hk)) im
    have m108 := (ew).trans (fR_kept (x_lt hT kH102 ga (by decide))).symm
    have m109 := (eta).trans (fI_kept (x_lt hT kH102 ga (by decide))).symm
    have m110 := (etb).trans (fI_kept (x_lt hT kH102 gb (by decide))).symm
    have m111 := (es1).trans (fI_kept (x_lt hT kH102 gw (by decide))).symm
    have m112 := (ey1).trans (fI_kept (x_lt hT kH102 gb (by decide))).symm
    have m113 := (es4).trans (fI_kept (x_lt hT kH102 gw (by decide))).symm
    have m114 := (ey4).trans (fI_kept (x_lt hT kH102 gb (by decide))).symm
    have m115 := (es5).trans (fI_kept (x_lt hT kH102 gw (by decide))).symm
    have m116 := (ey5).trans (fI_kept (x_lt hT kH102 gb (by decide))).symm
    have m117 := (es10).trans (fI_kept (x_lt hT kH102 gw (by decide))).symm
    have m118 := (ey10).trans (fI_kept (x_lt hT kH102 gb (by decide))).symm
    have m119 := (es13).trans (fI_kept (x_lt hT kH102 gw (by decide))).symm
    have m120 := (ey13).trans (fI_kept (x_lt hT kH102 gb (by decide))).symm
    have m121 := (es16).trans (fI_kept (x_lt hT kH102 gw (by decide))).symm
    have m122 := (ey16).trans (fI_kept (x_lt hT kH102 gb (by decide))).symm
    have m123 := (ehi).trans (fI_kept (x_lt hT kH102 gb (by decide))).symm
    have m124 := (fV_kept (x_lt hT kH102 ga (by decide))).trans kn
    refine W.eq (g2 := F0 m 1390 ls [.int x103]) rfl ?_
    refine lv_pop hx hb dL_law_1390 rfl ?_
    refine lv_aload_n hx hb dL_law_1391 rfl (lv_at hl 1 rfl) ?_
    refine lv_aload_n hx hb dL_law_1392 rfl (lv_at hl 3 rfl) ?_
    refine lv_iload_n hx hb dL_law_1393 rfl (lv_at hl 0 rfl) ?_
    refine lv_iconst (v := 1) hx hb dL_law_1394 (by decide) ?_
    refine lv_iadd hx hb dL_law_1395 ?_
    refine lv_topi (fun x125 ex125 => ?_)
    obtain ⟨tx125, ejx125, evx125⟩ := lw_ix (k := 1) ex125 hI hL rfl (by decide)
    clear tx125
    refine va_sld hx hb hX hbl (Nat.not_le.mpr hbl) hSH102 (vp_in_iff.mpr evx125) dL_law_1396 ?_
    refine W.eq (g2 := F0 m 1397 ls [.int (xs (i.toNatClampNeg + 1)), .ref b]) (congrArg (fun z => F0 m 1397 ls [.int (xs z), .ref b]) ejx125) ?_
    refine x_V (As := [.int (xs (i.toNatClampNeg + 1))]) (rest := []) C (a_X10_down l K G H102 ((xs (i.toNatClampNeg + 1))) hTH102 gb g104 g105 g106 g107) yo_X10_down wM_L_148 ⟨⟨by decide, by decide⟩, show _ ≤ 284929 from Nat.le_trans hc (by decide), show _ ≤ 8247460 from Nat.le_trans hs (by decide)⟩ (x_rv C hTH102 (ci := 10) rfl gb rg_112) rfl hl.1 rfl (Nat.le_of_ble_eq_true rfl) dL_law_1397 hSH102 (AE_new hN hSH102.1) (fun vH126 H126 locsH126 pH126 zH126 kH126 hSH126 => ?_)
    obtain ⟨x127, hvH126, g128, g129, g130, g131, mf132, hTH126⟩ := pH126
    subst hvH126
    have m133 := (m108).trans (fR_kept (x_lt hTH102 kH126 ga (by decide))).symm
    have m134 := (m109).trans (fI_kept (x_lt hTH102 kH126 ga (by decide))).symm
    have m135 := (m111).trans (fI_kept (x_lt hTH102 kH126 gw (by decide))).symm
    have m136 := (m113).trans (fI_kept (x_lt hTH102 kH126 gw (by decide))).symm
    have m137 := (m115).trans (fI_kept (x_lt hTH102 kH126 gw (by decide))).symm
    have m138 := (m117).trans (fI_kept (x_lt hTH102 kH126 gw (by decide))).symm
    have m139 := (m119).trans (fI_kept (x_lt hTH102 kH126 gw (by decide))).symm
    have m140 := (m121).trans (fI_kept (x_lt hTH102 kH126 gw (by decide))).symm
    have m141 := (fV_kept (x_lt hTH102 kH126 ga (by decide))).trans m124
    have m142 := (m110).trans (MF.i mf132 (k := 18) (by decide) (by decide)).symm
    have m143 := (m112).trans (MF.i mf132 (k := 1) (by decide) (by decide)).symm
    have m144 := (m114).trans (MF.i mf132 (k := 2) (by decide) (by decide)).symm
    have m145 := (m116).trans (MF.i mf132 (k := 3) (by decide) (by decide)).symm
    have m146 := (m118).trans (MF.i mf132 (k := 59) (by decide) (by decide)).symm
    have m147 := (m120).trans (MF.i mf132 (k := 62) (by decide) (by decide)).symm
    have m148 := (m122).trans (MF.i mf132 (k := 65) (by decide) (by decide)).symm
    have m149 := (m123).trans (MF.i mf132 (k := 70) (by decide) (by decide)).symm
    refine W.eq (g2 := F0 m 1400 ls [.int x127]) rfl ?_
    refine lv_pop hx hb dL_law_1400 rfl ?_
    refine lv_goto (tgt := 1509) hx hb dL_law_1401 (by decide) ?_
    exact nx G H126 locsH126 _ _ ls ⟨hTH126, hN, ga, gb, g128, g129, g130, g131, ⟨(by rw [← m134, ← m142]; exact rt), (by rw [← m133, ← m135, ← m143]; exact r1), (by rw [← m133, ← m136, ← m144]; exact r4), (by rw [← m133, ← m137, ← m145]; exact r5), (by rw [← m133, ← m138, ← m146]; exact r10), (by rw [← m133, ← m139, ← m147]; exact r13), (by rw [← m133, ← m140, ← m148]; exact r16)⟩, Or.inl ⟨m141, (by rw [← m149]; exact h70)⟩, hSH126⟩ hl ⟨hc, hs, fun _ => ⟨hc0, hs0⟩⟩
  · skip
    obtain ⟨hi, ehi⟩ : ∃ z : Int32, z = fI H b (K.1.2 10 70) := ⟨_, rfl⟩
    rw [← ehi] at h70
    obtain ⟨iq, eiq⟩ : ∃ z : Nat, z = fR H b (K.1.2 10 73) := ⟨_, rfl⟩
    have giq := ty_fr (q := iq) (k := 73) (u := 162) eiq hT gb rg_112 rfl
    rw [← eiq] at q1 q4 q5 q10 q13 q16
    obtain ⟨k1, ek1⟩ : ∃ z : Int32, z = fI H kq (K.1.2 8 1) := ⟨_, rfl⟩
    rw [← ek1] at q1
    obtain ⟨i1, ei1⟩ : ∃ z : Int32, z = fI H iq ((0 : Int32).toNatClampNeg) := ⟨_, rfl⟩
    rw [← ei1] at q1
    obtain ⟨k4, ek4⟩ : ∃ z : Int32, z = fI H kq (K.1.2 8 4) := ⟨_, rfl⟩
    rw [← ek4] at q4
    obtain ⟨i4, ei4⟩ : ∃ z : Int32, z = fI H iq ((1 : Int32).toNatClampNeg) := ⟨_, rfl⟩
    rw [← ei4] at q4
    obtain ⟨k5, ek5⟩ : ∃ z : Int32, z = fI H kq (K.1.2 8 5) := ⟨_, rfl⟩
    rw [← ek5] at q5
    obtain ⟨i5, ei5⟩ : ∃ z : Int32, z = fI H iq ((2 : Int32).toNatClampNeg) := ⟨_, rfl⟩
    rw [← ei5] at q5
    obtain ⟨k10, ek10⟩ : ∃ z : Int32, z = fI H kq (K.1.2 8 10) := ⟨_, rfl⟩
    rw [← ek10] at q10
    obtain ⟨i10, ei10⟩ : ∃ z : Int32, z = fI H iq ((3 : Int32).toNatClampNeg) := ⟨_, rfl⟩
    rw [← ei10] at q10
    obtain ⟨k13, ek13⟩ : ∃ z : Int32, z = fI H kq (K.1.2 8 13) := ⟨_, rfl⟩
    rw [← ek13] at q13
    obtain ⟨i13, ei13⟩ : ∃ z : Int32, z = fI H iq ((4 : Int32).toNatClampNeg) := ⟨_, rfl⟩
    rw [← ei13] at q13
    obtain ⟨k16, ek16⟩ : ∃ z : Int32, z = fI H kq (K.1.2 8 16) := ⟨_, rfl⟩
    rw [← ek16] at q16
    obtain ⟨i16, ei16⟩ : ∃ z : Int32, z = fI H iq ((5 : Int32).toNatClampNeg) := ⟨_, rfl⟩
    rw [← ei16] at q16
    refine lv_aload_n hx hb dL_law_1381 rfl (lv_at hl 2 rfl) ?_
    refine lv_aload_n hx hb dL_law_1382 rfl (lv_at hl 3 rfl) ?_
    refine lv_iload_n hx hb dL_law_1383 rfl (lv_at hl 0 rfl) ?_
    refine lv_iconst (v := 1) hx hb dL_law_1384 (by decide) ?_
    refine lv_iadd hx hb dL_law_1385 ?_
    refine lv_topi (fun x150 ex150 => ?_)
    obtain ⟨tx150, ejx150, evx150⟩ := lw_ix (k := 1) ex150 hI hL rfl (by decide)
    clear tx150
    refine va_sld hx hb hX hbl (Nat.not_le.mpr hbl) hS (vp_in_iff.mpr evx150) dL_law_1386 ?_
    refine W.eq (g2 := F0 m 1387 ls [.int (xs (i.toNatClampNeg + 1)), .ref a]) (congrArg (fun z => F0 m 1387 ls [.int (xs z), .ref a]) ejx150) ?_
    refine x_V (As := [.int (xs (i.toNatClampNeg + 1))]) (rest := []) C (a_X9_down l K G H ((xs (i.toNatClampNeg + 1))) hT ga) yo_X9_down wM_L_145 ⟨⟨by decide, by decide⟩, show _ ≤ 284929 from Nat.le_trans hc (by decide), show _ ≤ 8247460 from Nat.le_trans hs (by decide)⟩ (x_rv C hT (ci := 9) rfl ga rg_68) rfl hl.1 rfl (Nat.le_of_ble_eq_true rfl) dL_law_1387 hS (AE_new hN hS.1) (fun vH151 H151 locsH151 pH151 zH151 kH151 hSH151 => ?_)
    obtain ⟨x152, hvH151, hTH151⟩ := pH151
    subst hvH151
    have g153 : CG (avw K H151 b) := CG.congr (fun k hk j => av_eff hT kH151 gb (by decide) (CG_eff [83, 84] (by decide) k hk)) cg
    have g154 : TU (avw K H151 b) (svw K H151 b) := TU.congr (fun k hk j => av_eff hT kH151 gb (by decide) (TU_eff [83, 84] (by decide) k hk)) (fun k hk => sv_eff hT kH151 gb (by decide)) tu
    have g155 : WD (avw K H151 b) := WD.congr (fun k hk j => av_eff hT kH151 gb (by decide) (WD_eff [83, 84] (by decide) k hk)) wd
    have g156 : IM (avw K H151 b) := IM.congr (fun k hk j => av_eff hT kH151 gb (by decide) (IM_eff [83, 84] (by decide) k hk)) im
    have m157 := (ew).trans (fR_kept (x_lt hT kH151 ga (by decide))).symm
    have m158 := (eta).trans (fI_kept (x_lt hT kH151 ga (by decide))).symm
    have m159 := (etb).trans (fI_kept (x_lt hT kH151 gb (by decide))).symm
    have m160 := (es1).trans (fI_kept (x_lt hT kH151 gw (by decide))).symm
    have m161 := (ey1).trans (fI_kept (x_lt hT kH151 gb (by decide))).symm
    have m162 := (es4).trans (fI_kept (x_lt hT kH151 gw (by decide))).symm
    have m163 := (ey4).trans (fI_kept (x_lt hT kH151 gb (by decide))).symm
    have m164 := (es5).trans (fI_kept (x_lt hT kH151 gw (by decide))).symm
    have m165 := (ey5).trans (fI_kept (x_lt hT kH151 gb (by decide))).symm
    have m166 := (es10).trans (fI_kept (x_lt hT kH151 gw (by decide))).symm
    have m167 := (ey10).trans (fI_kept (x_lt hT kH151 gb (by decide))).symm
    have m168 := (es13).trans (fI_kept (x_lt hT kH151 gw (by decide))).symm
    have m169 := (ey13).trans (fI_kept (x_lt hT kH151 gb (by decide))).symm
    have m170 := (es16).trans (fI_kept (x_lt hT kH151 gw (by decide))).symm
    have m171 := (ey16).trans (fI_kept (x_lt hT kH151 gb (by decide))).symm
    have m172 := (ehi).trans (fI_kept (x_lt hT kH151 gb (by decide))).symm
    have m173 := (fV_kept (x_lt hT kH151 ga (by decide))).trans kn
    have m174 := (eiq).trans (fR_kept (x_lt hT kH151 gb (by decide))).symm
    have m175 := (ek1).trans (fI_kept (x_lt hT kH151 gkq (by decide))).symm
    have m176 := (ei1).trans (fI_kept (x_lt hT kH151 giq (by decide))).symm
    have m177 := (ek4).trans (fI_kept (x_lt hT kH151 gkq (by decide))).symm
    have m178 := (ei4).trans (fI_kept (x_lt hT kH151 giq (by decide))).symm
    have m179 := (ek5).trans (fI_kept (x_lt hT kH151 gkq (by decide))).symm
    have m180 := (ei5).trans (fI_kept (x_lt hT kH151 giq (by decide))).symm
    have m181 := (ek10).trans (fI_kept (x_lt hT kH151 gkq (by decide))).symm
    have m182 := (ei10).trans (fI_kept (x_lt hT kH151 giq (by decide))).symm
    have m183 := (ek13).trans (fI_kept (x_lt hT kH151 gkq (by decide))).symm
    have m184 := (ei13).trans (fI_kept (x_lt hT kH151 giq (by decide))).symm
    have m185 := (ek16).trans (fI_kept (x_lt hT kH151 gkq (by decide))).symm
    have m186 := (ei16).trans (fI_kept (x_lt hT kH151 giq (by decide))).symm
    refine W.eq (g2 := F0 m 1390 ls [.int x152]) rfl ?_
    refine lv_pop hx hb dL_law_1390 rfl ?_
    refine lv_aload_n hx hb dL_law_1391 rfl (lv_at hl 1 rfl) ?_
    refine lv_aload_n hx hb dL_law_1392 rfl (lv_at hl 3 rfl) ?_
    refine lv_iload_n hx hb dL_law_1393 rfl (lv_at hl 0 rfl) ?_
    refine lv_iconst (v := 1) hx hb dL_law_1394 (by decide) ?_
    refine lv_iadd hx hb dL_law_1395 ?_
    refine lv_topi (fun x187 ex187 => ?_)
    obtain ⟨tx187, ejx187, evx187⟩ := lw_ix (k := 1) ex187 hI hL rfl (by decide)
    clear tx187
    refine va_sld hx hb hX hbl (Nat.not_le.mpr hbl) hSH151 (vp_in_iff.mpr evx187) dL_law_1396 ?_
    refine W.eq (g2 := F0 m 1397 ls [.int (xs (i.toNatClampNeg + 1)), .ref b]) (congrArg (fun z => F0 m 1397 ls [.int (xs z), .ref b]) ejx187) ?_
    refine x_V (As := [.int (xs (i.toNatClampNeg + 1))]) (rest := []) C (a_X10_down l K G H151 ((xs (i.toNatClampNeg + 1))) hTH151 gb g153 g154 g155 g156) yo_X10_down wM_L_148 ⟨⟨by decide, by decide⟩, show _ ≤ 284929 from Nat.le_trans hc (by decide), show _ ≤ 8247460 from Nat.le_trans hs (by decide)⟩ (x_rv C hTH151 (ci := 10) rfl gb rg_112) rfl hl.1 rfl (Nat.le_of_ble_eq_true rfl) dL_law_1397 hSH151 (AE_new hN hSH151.1) (fun vH188 H188 locsH188 pH188 zH188 kH188 hSH188 => ?_)
    obtain ⟨x189, hvH188, g190, g191, g192, g193, mf194, hTH188⟩ := pH188
    subst hvH188
    have m195 := (m157).trans (fR_kept (x_lt hTH151 kH188 ga (by decide))).symm
    have m196 := (m158).trans (fI_kept (x_lt hTH151 kH188 ga (by decide))).symm
    have m197 := (m160).trans (fI_kept (x_lt hTH151 kH188 gw (by decide))).symm
    have m198 := (m162).trans (fI_kept (x_lt hTH151 kH188 gw (by decide))).symm
    have m199 := (m164).trans (fI_kept (x_lt hTH151 kH188 gw (by decide))).symm
    have m200 := (m166).trans (fI_kept (x_lt hTH151 kH188 gw (by decide))).symm
    have m201 := (m168).trans (fI_kept (x_lt hTH151 kH188 gw (by decide))).symm
    have m202 := (m170).trans (fI_kept (x_lt hTH151 kH188 gw (by decide))).symm
    have m203 := (fV_kept (x_lt hTH151 kH188 ga (by decide))).trans m173
    have m204 := (m175).trans (fI_kept (x_lt hTH151 kH188 gkq (by decide))).symm
    have m205 := (m176).trans (fI_kept (x_lt hTH151 kH188 giq (by decide))).symm
    have m206 := (m177).trans (fI_kept (x_lt hTH151 kH188 gkq (by decide))).symm
    have m207 := (m178).trans (fI_kept (x_lt hTH151 kH188 giq (by decide))).symm
    have m208 := (m179).trans (fI_kept (x_lt hTH151 kH188 gkq (by decide))).symm
    have m209 := (m180).trans (fI_kept (x_lt hTH151 kH188 giq (by decide))).symm
    have m210 := (m181).trans (fI_kept (x_lt hTH151 kH188 gkq (by decide))).symm
    have m211 := (m182).trans (fI_kept (x_lt hTH151 kH188 giq (by decide))).symm
    have m212 := (m183).trans (fI_kept (x_lt hTH151 kH188 gkq (by decide))).symm
    have m213 := (m184).trans (fI_kept (x_lt hTH151 kH188 giq (by decide))).symm
    have m214 := (m185).trans (fI_kept (x_lt hTH151 kH188 gkq (by decide))).symm
    have m215 := (m186).trans (fI_kept (x_lt hTH151 kH188 giq (by decide))).symm
    have m216 := (m159).trans (MF.i mf194 (k := 18) (by decide) (by decide)).symm
    have m217 := (m161).trans (MF.i mf194 (k := 1) (by decide) (by decide)).symm
    have m218 := (m163).trans (MF.i mf194 (k := 2) (by decide) (by decide)).symm
    have m219 := (m165).trans (MF.i mf194 (k := 3) (by decide) (by decide)).symm
    have m220 := (m167).trans (MF.i mf194 (k := 59) (by decide) (by decide)).symm
    have m221 := (m169).trans (MF.i mf194 (k := 62) (by decide) (by decide)).symm
    have m222 := (m171).trans (MF.i mf194 (k := 65) (by decide) (by decide)).symm
    have m223 := (m172).trans (MF.i mf194 (k := 70) (by decide) (by decide)).symm
    have m224 := (m174).trans (MF.r mf194 (k := 73) (by decide) (by decide)).symm
    refine W.eq (g2 := F0 m 1400 ls [.int x189]) rfl ?_
    refine lv_pop hx hb dL_law_1400 rfl ?_
    refine lv_goto (tgt := 1509) hx hb dL_law_1401 (by decide) ?_
    exact nx G H188 locsH188 _ _ ls ⟨hTH188, hN, ga, gb, g190, g191, g192, g193, ⟨(by rw [← m196, ← m216]; exact rt), (by rw [← m195, ← m197, ← m217]; exact r1), (by rw [← m195, ← m198, ← m218]; exact r4), (by rw [← m195, ← m199, ← m219]; exact r5), (by rw [← m195, ← m200, ← m220]; exact r10), (by rw [← m195, ← m201, ← m221]; exact r13), (by rw [← m195, ← m202, ← m222]; exact r16)⟩, Or.inr ⟨kq, m203, gkq, (by rw [← m223]; exact h70), (by rw [← m204, ← m224, ← m205]; exact q1), (by rw [← m206, ← m224, ← m207]; exact q4), (by rw [← m208, ← m224, ← m209]; exact q5), (by rw [← m210, ← m224, ← m211]; exact q10), (by rw [← m212, ← m224, ← m213]; exact q13), (by rw [← m214, ← m224, ← m215]; exact q16)⟩, hSH188⟩ hl ⟨hc, hs, fun h => by have h1 := h.symm.trans m203; cases h1⟩