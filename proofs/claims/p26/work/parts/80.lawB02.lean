set_option maxRecDepth 100000 in
set_option maxHeartbeats 1000000 in
theorem lw_c8 {p : Program} {l : Launch} {e : Env} {s : State} {m : MethodId} {below : List Frame} {meth : Method} {c : Code} {K : KE} {b0 L : Nat} {xs : Nat → Int32} {G : Nat → Option Nat} {H : Heap} {locs : List Loc} {a b : Nat} {cells slots : Nat} {ls : Array Slot} {i : Int32} {n : Nat} (D : LC p K s m meth c b0 L xs) (S : SX K s G H locs a b) (hl : lv_has ls 4 [(3, .int i), (2, .ref b), (1, .ref a), (0, .ref b0)]) (hi : 0 ≤ i.toInt ∧ i.toInt + 6 ≤ L) (hn : n ≤ 511) (hB : BD K H a cells slots) (nx : ∀ (G : Nat → Option Nat) (H : Heap) (locs : List Loc) (cells slots : Nat) (ls : Array Slot), SX K s G H locs a b → lv_has ls 4 [(3, .int i), (2, .ref b), (1, .ref a), (0, .ref b0)] → BD K H a cells slots → W p l e room_1 s m #[Value.ref b0] below meth c H locs cells slots (lw_Z below #[Value.ref b0] s) (F0 m 1509 ls [])) : W p l e room_1 s m #[Value.ref b0] below meth c H locs cells slots (lw_Z below #[Value.ref b0] s) (F0 m 502 ls []) := by
  have hI := hi
  obtain ⟨C, hX, hbl, hL⟩ := id D
  obtain ⟨hx, hb, hml, hown, hts, hKT, hr, hlocks, hnm⟩ := id C
  obtain ⟨hT, hN, ga, gb, cg, tu, wd, im, ⟨rt, r1, r4, r5, r10, r13, r16⟩, hk, hS⟩ := S
  obtain ⟨hc, hs, hB0⟩ := hB
  have n_1 : (1 : Int32).toInt = 1 := rfl
  obtain ⟨w, ew⟩ : ∃ z : Nat, z = fR H a (K.1.2 9 0) := ⟨_, rfl⟩
  have gw := ty_fr (q := w) (k := 0) (u := 0) ew hT ga rg_68 rfl
  rw [← ew] at r1 r4 r5 r10 r13 r16
  obtain ⟨ta, eta⟩ : ∃ z : Int32, z = fI H a (K.1.2 9 3) := ⟨_, rfl⟩
  rw [← eta] at rt
  obtain ⟨tb, etb⟩ : ∃ z : Int32, z = fI H b (K.1.2 10 18) := ⟨_, rfl⟩
  rw [← etb] at rt
  obtain ⟨s1, es1⟩ : ∃ z : Int32, z = fI H w (K.1.2 8 1) := ⟨_, rfl⟩
  rw [← es1] at r1
  obtain ⟨y1, ey1⟩ : ∃ z : Int32, z = fI H b (K.1.2 10 1) := ⟨_, rfl⟩
  rw [← ey1] at r1
  obtain ⟨s4, es4⟩ : ∃ z : Int32, z = fI H w (K.1.2 8 4) := ⟨_, rfl⟩
  rw [← es4] at r4
  obtain ⟨y4, ey4⟩ : ∃ z : Int32, z = fI H b (K.1.2 10 2) := ⟨_, rfl⟩
  rw [← ey4] at r4
  obtain ⟨s5, es5⟩ : ∃ z : Int32, z = fI H w (K.1.2 8 5) := ⟨_, rfl⟩
  rw [← es5] at r5
  obtain ⟨y5, ey5⟩ : ∃ z : Int32, z = fI H b (K.1.2 10 3) := ⟨_, rfl⟩
  rw [← ey5] at r5
  obtain ⟨s10, es10⟩ : ∃ z : Int32, z = fI H w (K.1.2 8 10) := ⟨_, rfl⟩
  rw [← es10] at r10
  obtain ⟨y10, ey10⟩ : ∃ z : Int32, z = fI H b (K.1.2 10 59) := ⟨_, rfl⟩
  rw [← ey10] at r10
  obtain ⟨s13, es13⟩ : ∃ z : Int32, z = fI H w (K.1.2 8 13) := ⟨_, rfl⟩
  rw [← es13] at r13
  obtain ⟨y13, ey13⟩ : ∃ z : Int32, z = fI H b (K.1.2 10 62) := ⟨_, rfl⟩
  rw [← ey13] at r13
  obtain ⟨s16, es16⟩ : ∃ z : Int32, z = fI H w (K.1.2 8 16) := ⟨_, rfl⟩
  rw [← es16] at r16
  obtain ⟨y16, ey16⟩ : ∃ z : Int32, z = fI H b (K.1.2 10 65) := ⟨_, rfl⟩
  rw [← ey16] at r16
  rcases hk with ⟨kn, h70⟩ | ⟨kq, kn, gkq, h70, q1, q4, q5, q10, q13, q16⟩
  · skip
    obtain ⟨hi, ehi⟩ : ∃ z : Int32, z = fI H b (K.1.2 10 70) := ⟨_, rfl⟩
    rw [← ehi] at h70
    obtain ⟨hc0, hs0⟩ := hB0 kn
    refine lv_aload_n hx hb dL_law_502 rfl (lv_at hl 2 rfl) ?_
    refine lv_aload_n hx hb dL_law_503 rfl (lv_at hl 3 rfl) ?_
    refine lv_iload_n hx hb dL_law_504 rfl (lv_at hl 0 rfl) ?_
    refine lv_iconst (v := 1) hx hb dL_law_505 (by decide) ?_
    refine lv_iadd hx hb dL_law_506 ?_
    refine lv_topi (fun x101 ex101 => ?_)
    obtain ⟨tx101, ejx101, evx101⟩ := lw_ix (k := 1) ex101 hI hL rfl (by decide)
    clear tx101
    refine va_sld hx hb hX hbl (Nat.not_le.mpr hbl) hS (vp_in_iff.mpr evx101) dL_law_507 ?_
    refine W.eq (g2 := F0 m 508 ls [.int (xs (i.toNatClampNeg + 1)), .ref a]) (congrArg (fun z => F0 m 508 ls [.int (xs z), .ref a]) ejx101) ?_
    refine x_V (As := [.int (xs (i.toNatClampNeg + 1))]) (rest := []) C (a_X9_force_r l K G H ((xs (i.toNatClampNeg + 1))) (s1) (s4) (s5) (s10) (s13) (s16) hT ga gw ew es1 es4 es5 es10 es13 es16) yo_X9_force wM_L_52 ⟨⟨by decide, by decide⟩, show _ ≤ 284929 from Nat.le_trans hc (by decide), show _ ≤ 8247460 from Nat.le_trans hs (by decide)⟩ (x_rv C hT (ci := 9) rfl ga rg_68) rfl hl.1 rfl (Nat.le_of_ble_eq_true rfl) dL_law_508 hS (AE_new hN hS.1) (fun vH102 H102 locsH102 pH102 zH102 kH102 hSH102 => ?_)
    obtain ⟨x103, x104, x105, x106, x107, x108, x109, hvH102, ex104, ex105, ex106, ex107, ex108, ex109, hrH102, hTH102⟩ := pH102
    subst hvH102
    have g110 : CG (avw K H102 b) := CG.congr (fun k hk j => av_eff hT kH102 gb (by decide) (CG_eff [0] (by decide) k hk)) cg
    have g111 : TU (avw K H102 b) (svw K H102 b) := TU.congr (fun k hk j => av_eff hT kH102 gb (by decide) (TU_eff [0] (by decide) k hk)) (fun k hk => sv_eff hT kH102 gb (by decide)) tu
    have g112 : WD (avw K H102 b) := WD.congr (fun k hk j => av_eff hT kH102 gb (by decide) (WD_eff [0] (by decide) k hk)) wd
    have g113 : IM (avw K H102 b) := IM.congr (fun k hk j => av_eff hT kH102 gb (by decide) (IM_eff [0] (by decide) k hk)) im
    have m114 := (ew).trans (fR_kept (x_lt hT kH102 ga (by decide))).symm
    have m115 := (eta).trans (fI_kept (x_lt hT kH102 ga (by decide))).symm
    have m116 := (etb).trans (fI_kept (x_lt hT kH102 gb (by decide))).symm
    have m117 := (ey1).trans (fI_kept (x_lt hT kH102 gb (by decide))).symm
    have m118 := (ey4).trans (fI_kept (x_lt hT kH102 gb (by decide))).symm
    have m119 := (ey5).trans (fI_kept (x_lt hT kH102 gb (by decide))).symm
    have m120 := (ey10).trans (fI_kept (x_lt hT kH102 gb (by decide))).symm
    have m121 := (ey13).trans (fI_kept (x_lt hT kH102 gb (by decide))).symm
    have m122 := (ey16).trans (fI_kept (x_lt hT kH102 gb (by decide))).symm
    have m123 := (ehi).trans (fI_kept (x_lt hT kH102 gb (by decide))).symm
    have m124 := (fV_kept (x_lt hT kH102 ga (by decide))).trans kn
    have bx104 := ty_fi (x := x104) (k := 1) ex104 hTH102 gw rg_0 rfl
    have bx105 := ty_fi (x := x105) (k := 4) ex105 hTH102 gw rg_0 rfl
    have bx106 := ty_fi (x := x106) (k := 5) ex106 hTH102 gw rg_0 rfl
    have bx107 := ty_fi (x := x107) (k := 10) ex107 hTH102 gw rg_0 rfl
    have bx108 := ty_fi (x := x108) (k := 13) ex108 hTH102 gw rg_0 rfl
    have bx109 := ty_fi (x := x109) (k := 16) ex109 hTH102 gw rg_0 rfl
    refine W.eq (g2 := F0 m 511 ls [.int x103]) rfl ?_
    refine lv_pop hx hb dL_law_511 rfl ?_
    refine lv_aload_n hx hb dL_law_512 rfl (lv_at hl 1 rfl) ?_
    refine lv_aload_n hx hb dL_law_513 rfl (lv_at hl 3 rfl) ?_
    refine lv_iload_n hx hb dL_law_514 rfl (lv_at hl 0 rfl) ?_
    refine lv_iconst (v := 1) hx hb dL_law_515 (by decide) ?_
    refine lv_iadd hx hb dL_law_516 ?_
    refine lv_topi (fun x125 ex125 => ?_)
    obtain ⟨tx125, ejx125, evx125⟩ := lw_ix (k := 1) ex125 hI hL rfl (by decide)
    clear tx125
    refine va_sld hx hb hX hbl (Nat.not_le.mpr hbl) hSH102 (vp_in_iff.mpr evx125) dL_law_517 ?_
    refine W.eq (g2 := F0 m 518 ls [.int (xs (i.toNatClampNeg + 1)), .ref b]) (congrArg (fun z => F0 m 518 ls [.int (xs z), .ref b]) ejx125) ?_
    refine x_V (As := [.int (xs (i.toNatClampNeg + 1))]) (rest := []) C (a_X10_force_r l K G H102 ((xs (i.toNatClampNeg + 1))) (y4) hTH102 gb m118 g110 g111 g112 g113) yo_X10_force wM_L_55 ⟨⟨by decide, by decide⟩, show _ ≤ 284929 from Nat.le_trans hc (by decide), show _ ≤ 8247460 from Nat.le_trans hs (by decide)⟩ (x_rv C hTH102 (ci := 10) rfl gb rg_112) rfl hl.1 rfl (Nat.le_of_ble_eq_true rfl) dL_law_518 hSH102 (AE_new hN hSH102.1) (fun vH126 H126 locsH126 pH126 zH126 kH126 hSH126 => ?_)
    obtain ⟨x127, x128, hvH126, ex128, hrH126, g129, g130, g131, g132, mf133, hTH126⟩ := pH126
    subst hvH126
    have m134 := (m114).trans (fR_kept (x_lt hTH102 kH126 ga (by decide))).symm
    have m135 := (m115).trans (fI_kept (x_lt hTH102 kH126 ga (by decide))).symm
    have m136 := (fV_kept (x_lt hTH102 kH126 ga (by decide))).trans m124
    have m137 := (ex104).trans (fI_kept (x_lt hTH102 kH126 gw (by decide))).symm
    have m138 := (ex105).trans (fI_kept (x_lt hTH102 kH126 gw (by decide))).symm
    have m139 := (ex106).trans (fI_kept (x_lt hTH102 kH126 gw (by decide))).symm
    have m140 := (ex107).trans (fI_kept (x_lt hTH102 kH126 gw (by decide))).symm
    have m141 := (ex108).trans (fI_kept (x_lt hTH102 kH126 gw (by decide))).symm
    have m142 := (ex109).trans (fI_kept (x_lt hTH102 kH126 gw (by decide))).symm
    have m143 := (m116).trans (MF.i mf133 (k := 18) (by decide) (by decide)).symm
    have m144 := (m117).trans (MF.i mf133 (k := 1) (by decide) (by decide)).symm
    have m145 := (m119).trans (MF.i mf133 (k := 3) (by decide) (by decide)).symm
    have m146 := (m120).trans (MF.i mf133 (k := 59) (by decide) (by decide)).symm
    have m147 := (m121).trans (MF.i mf133 (k := 62) (by decide) (by decide)).symm
    have m148 := (m122).trans (MF.i mf133 (k := 65) (by decide) (by decide)).symm
    have m149 := (m123).trans (MF.i mf133 (k := 70) (by decide) (by decide)).symm
    have bx128 := ty_fi (x := x128) (k := 2) ex128 hTH126 gb rg_112 rfl
    refine W.eq (g2 := F0 m 521 ls [.int x127]) rfl ?_
    refine lv_pop hx hb dL_law_521 rfl ?_
    refine lv_goto (tgt := 1509) hx hb dL_law_522 (by decide) ?_
    exact nx G H126 locsH126 _ _ ls ⟨hTH126, hN, ga, gb, g129, g130, g131, g132, ⟨(by rw [← m135, ← m143]; exact rt), (by rw [← m134, ← m137, ← m144]; omega), (by rw [← m134, ← m138, ← ex128]; omega), (by rw [← m134, ← m139, ← m145]; omega), (by rw [← m134, ← m140, ← m146]; omega), (by rw [← m134, ← m141, ← m147]; omega), (by rw [← m134, ← m142, ← m148]; omega)⟩, Or.inl ⟨m136, (by rw [← m149]; exact h70)⟩, hSH126⟩ hl ⟨hc, hs, fun _ => ⟨hc0, hs0⟩⟩
  · skip
    obtain ⟨hi, ehi⟩ : ∃ z : Int32, z = fI H b (K.1.2 10 70) := ⟨_, rfl⟩
    rw [← ehi] at h70
    obtain ⟨iq, eiq⟩ : ∃ z : Nat, z = fR H b (K.1.2 10 73) := ⟨_, rfl⟩
    have giq := ty_fr (q := iq) (k := 73) (u := 162) eiq hT gb rg_112 rfl
    rw [← eiq] at q1 q4 q5 q10 q13 q16
    obtain ⟨k1, ek1⟩ : ∃ z : Int32, z = fI H kq (K.1.2 8 1) := ⟨_, rfl⟩
    rw [← ek1] at q1
    obtain ⟨i1, ei1⟩ : ∃ z : Int32, z = fI H iq ((0 : Int32).toNatClampNeg) := ⟨_, rfl⟩
    rw [← ei1] at q1
    obtain ⟨k4, ek4⟩ : ∃ z : Int32, z = fI H kq (K.1.2 8 4) := ⟨_, rfl⟩
    rw [← ek4] at q4
    obtain ⟨i4, ei4⟩ : ∃ z : Int32, z = fI H iq ((1 : Int32).toNatClampNeg) := ⟨_, rfl⟩
    rw [← ei4] at q4
    obtain ⟨k5, ek5⟩ : ∃ z : Int32, z = fI H kq (K.1.2 8 5) := ⟨_, rfl⟩
    rw [← ek5] at q5
    obtain ⟨i5, ei5⟩ : ∃ z : Int32, z = fI H iq ((2 : Int32).toNatClampNeg) := ⟨_, rfl⟩
    rw [← ei5] at q5
    obtain ⟨k10, ek10⟩ : ∃ z : Int32, z = fI H kq (K.1.2 8 10) := ⟨_, rfl⟩
    rw [← ek10] at q10
    obtain ⟨i10, ei10⟩ : ∃ z : Int32, z = fI H iq ((3 : Int32).toNatClampNeg) := ⟨_, rfl⟩
    rw [← ei10] at q10
    obtain ⟨k13, ek13⟩ : ∃ z : Int32, z = fI H kq (K.1.2 8 13) := ⟨_, rfl⟩
    rw [← ek13] at q13
    obtain ⟨i13, ei13⟩ : ∃ z : Int32, z = fI H iq ((4 : Int32).toNatClampNeg) := ⟨_, rfl⟩
    rw [← ei13] at q13
    obtain ⟨k16, ek16⟩ : ∃ z : Int32, z = fI H kq (K.1.2 8 16) := ⟨_, rfl⟩
    rw [← ek16] at q16
    obtain ⟨i16, ei16⟩ : ∃ z : Int32, z = fI H iq ((5 : Int32).toNatClampNeg) := ⟨_, rfl⟩
    rw [← ei16] at q16
    refine lv_aload_n hx hb dL_law_502 rfl (lv_at hl 2 rfl) ?_
    refine lv_aload_n hx hb dL_law_503 rfl (lv_at hl 3 rfl) ?_
    refine lv_iload_n hx hb dL_law_504 rfl (lv_at hl 0 rfl) ?_
    refine lv_iconst (v := 1) hx hb dL_law_505 (by decide) ?_
    refine lv_iadd hx hb dL_law_506 ?_
    refine lv_topi (fun x150 ex150 => ?_)
    obtain ⟨tx150, ejx150, evx150⟩ := lw_ix (k := 1) ex150 hI hL rfl (by decide)
    clear tx150
    refine va_sld hx hb hX hbl (Nat.not_le.mpr hbl) hS (vp_in_iff.mpr evx150) dL_law_507 ?_
    refine W.eq (g2 := F0 m 508 ls [.int (xs (i.toNatClampNeg + 1)), .ref a]) (congrArg (fun z => F0 m 508 ls [.int (xs z), .ref a]) ejx150) ?_
    refine x_V (As := [.int (xs (i.toNatClampNeg + 1))]) (rest := []) C (a_X9_force_r l K G H ((xs (i.toNatClampNeg + 1))) (s1) (s4) (s5) (s10) (s13) (s16) hT ga gw ew es1 es4 es5 es10 es13 es16) yo_X9_force wM_L_52 ⟨⟨by decide, by decide⟩, show _ ≤ 284929 from Nat.le_trans hc (by decide), show _ ≤ 8247460 from Nat.le_trans hs (by decide)⟩ (x_rv C hT (ci := 9) rfl ga rg_68) rfl hl.1 rfl (Nat.le_of_ble_eq_true rfl) dL_law_508 hS (AE_new hN hS.1) (fun vH151 H151 locsH151 pH151 zH151 kH151 hSH151 => ?_)
    obtain ⟨x152, x153, x154, x155, x156, x157, x158, hvH151, ex153, ex154, ex155, ex156, ex157, ex158, hrH151, hTH151⟩ := pH151
    subst hvH151
    have g159 : CG (avw K H151 b) := CG.congr (fun k hk j => av_eff hT kH151 gb (by decide) (CG_eff [0] (by decide) k hk)) cg
    have g160 : TU (avw K H151 b) (svw K H151 b) := TU.congr (fun k hk j => av_eff hT kH151 gb (by decide) (TU_eff [0] (by decide) k hk)) (fun k hk => sv_eff hT kH151 gb (by decide)) tu
    have g161 : WD (avw K H151 b) := WD.congr (fun k hk j => av_eff hT kH151 gb (by decide) (WD_eff [0] (by decide) k hk)) wd
    have g162 : IM (avw K H151 b) := IM.congr (fun k hk j => av_eff hT kH151 gb (by decide) (IM_eff [0] (by decide) k hk)) im
    have m163 := (ew).trans (fR_kept (x_lt hT kH151 ga (by decide))).symm
    have m164 := (eta).trans (fI_kept (x_lt hT kH151 ga (by decide))).symm
    have m165 := (etb).trans (fI_kept (x_lt hT kH151 gb (by decide))).symm
    have m166 := (ey1).trans (fI_kept (x_lt hT kH151 gb (by decide))).symm
    have m167 := (ey4).trans (fI_kept (x_lt hT kH151 gb (by decide))).symm
    have m168 := (ey5).trans (fI_kept (x_lt hT kH151 gb (by decide))).symm
    have m169 := (ey10).trans (fI_kept (x_lt hT kH151 gb (by decide))).symm
    have m170 := (ey13).trans (fI_kept (x_lt hT kH151 gb (by decide))).symm
    have m171 := (ey16).trans (fI_kept (x_lt hT kH151 gb (by decide))).symm
    have m172 := (ehi).trans (fI_kept (x_lt hT kH151 gb (by decide))).symm
    have m173 := (fV_kept (x_lt hT kH151 ga (by decide))).trans kn
    have m174 := (eiq).trans (fR_kept (x_lt hT kH151 gb (by decide))).symm
    have m175 := (ek1).trans (fI_kept (x_lt hT kH151 gkq (by decide))).symm
    have m176 := (ei1).trans (fI_kept (x_lt hT kH151 giq (by decide))).symm
    have m177 := (ek4).trans (fI_kept (x_lt hT kH151 gkq (by decide))).symm
    have m178 := (ei4).trans (fI_kept (x_lt hT kH151 giq (by decide))).symm
    have m179 := (ek5).trans (fI_kept (x_lt hT kH151 gkq (by decide))).symm
    have m180 := (ei5).trans (fI_kept (x_lt hT kH151 giq (by decide))).symm
    have m181 := (ek10).trans (fI_kept (x_lt hT kH151 gkq (by decide))).symm
    have m182 := (ei10).trans (fI_kept (x_lt hT kH151 giq (by decide))).symm
    have m183 := (ek13).trans (fI_kept (x_lt hT kH151 gkq (by decide))).symm
    have m184 := (ei13).trans (fI_kept (x_lt hT kH151 giq (by decide))).symm
    have m185 := (ek16).trans (fI_kept (x_lt hT kH151 gkq (by decide))).symm
    have m186 := (ei16).trans (fI_kept (x_lt hT kH151 giq (by decide))).symm
    have bx153 := ty_fi (x := x153) (k := 1) ex153 hTH151 gw rg_0 rfl
    have bx154 := ty_fi (x := x154) (k := 4) ex154 hTH151 gw rg_0 rfl
    have bx155 := ty_fi (x := x155) (k := 5) ex155 hTH151 gw rg_0 rfl
    have bx156 := ty_fi (x := x156) (k := 10) ex156 hTH151 gw rg_0 rfl
    have bx157 := ty_fi (x := x157) (k := 13) ex157 hTH151 gw rg_0 rfl
    have bx158 := ty_fi (x := x158) (k := 16) ex158 hTH151 gw rg_0 rfl
    refine W.eq (g2 := F0 m 511 ls [.int x152]) rfl ?_
    refine lv_pop hx hb dL_law_511 rfl ?_
    refine lv_aload_n hx hb dL_law_512 rfl (lv_at hl 1 rfl) ?_
    refine lv_aload_n hx hb dL_law_513 rfl (lv_at hl 3 rfl) ?_
    refine lv_iload_n hx hb dL_law_514 rfl (lv_at hl 0 rfl) ?_
    refine lv_iconst (v := 1) hx hb dL_law_515 (by decide) ?_
    refine lv_iadd hx hb dL_law_516 ?_
    refine lv_topi (fun x187 ex187 => ?_)
    obtain ⟨tx187, ejx187, evx187⟩ := lw_ix (k := 1) ex187 hI hL rfl (by decide)
    clear tx187
    refine va_sld hx hb hX hbl (Nat.not_le.mpr hbl) hSH151 (vp_in_iff.mpr evx187) dL_law_517 ?_
    refine W.eq (g2 := F0 m 518 ls [.int (xs (i.toNatClampNeg + 1)), .ref b]) (congrArg (fun z => F0 m 518 ls [.int (xs z), .ref b]) ejx187) ?_
    refine x_V (As := [.int (xs (i.toNatClampNeg + 1))]) (rest := []) C (a_X10_force_r l K G H151 ((xs (i.toNatClampNeg + 1))) (y4) hTH151 gb m167 g159 g160 g161 g162) yo_X10_force wM_L_55 ⟨⟨by decide, by decide⟩, show _ ≤ 284929 from Nat.le_trans hc (by decide), show _ ≤ 8247460 from Nat.le_trans hs (by decide)⟩ (x_rv C hTH151 (ci := 10) rfl gb rg_112) rfl hl.1 rfl (Nat.le_of_ble_eq_true rfl) dL_law_518 hSH151 (AE_new hN hSH151.1) (fun vH188 H188 locsH188 pH188 zH188 kH188 hSH188 => ?_)
    obtain ⟨x189, x190, hvH188, ex190, hrH188, g191, g192, g193, g194, mf195, hTH188⟩ := pH188
    subst hvH188
    have m196 := (m163).trans (fR_kept (x_lt hTH151 kH188 ga (by decide))).symm
    have m197 := (m164).trans (fI_kept (x_lt hTH151 kH188 ga (by decide))).symm
    have m198 := (fV_kept (x_lt hTH151 kH188 ga (by decide))).trans m173
    have m199 := (m175).trans (fI_kept (x_lt hTH151 kH188 gkq (by decide))).symm
    have m200 := (m176).trans (fI_kept (x_lt hTH151 kH188 giq (by decide))).symm
    have m201 := (m177).trans (fI_kept (x_lt hTH151 kH188 gkq (by decide))).symm
    have m202 := (m178).trans (fI_kept (x_lt hTH151 kH188 giq (by decide))).symm
    have m203 := (m179).trans (fI_kept (x_lt hTH151 kH188 gkq (by decide))).symm
    have m204 := (m180).trans (fI_kept (x_lt hTH151 kH188 giq (by decide))).symm
    have m205 := (m181).trans (fI_kept (x_lt hTH151 kH188 gkq (by decide))).symm
    have m206 := (m182).trans (fI_kept (x_lt hTH151 kH188 giq (by decide))).symm
    have m207 := (m183).trans (fI_kept (x_lt hTH151 kH188 gkq (by decide))).symm
    have m208 := (m184).trans (fI_kept (x_lt hTH151 kH188 giq (by decide))).symm
    have m209 := (m185).trans (fI_kept (x_lt hTH151 kH188 gkq (by decide))).symm
    have m210 := (m186).trans (fI_kept (x_lt hTH151 kH188 giq (by decide))).symm
    have m211 := (ex153).trans (fI_kept (x_lt hTH151 kH188 gw (by decide))).symm
    have m212 := (ex154).trans (fI_kept (x_lt hTH151 kH188 gw (by decide))).symm
    have m213 := (ex155).trans (fI_kept (x_lt hTH151 kH188 gw (by decide))).symm
    have m214 := (ex156).trans (fI_kept (x_lt hTH151 kH188 gw (by decide))).symm
    have m215 := (ex157).trans (fI_kept (x_lt hTH151 kH188 gw (by decide))).symm
    have m216 := (ex158).trans (fI_kept (x_lt hTH151 kH188 gw (by decide))).symm
    have m217 := (m165).trans (MF.i mf195 (k := 18) (by decide) (by decide)).symm
    have m218 := (m166).trans (MF.i mf195 (k := 1) (by decide) (by decide)).symm
    have m219 := (m168).trans (MF.i mf195 (k := 3) (by decide) (by decide)).symm
    have m220 := (m169).trans (MF.i mf195 (k := 59) (by decide) (by decide)).symm
    have m221 := (m170).trans (MF.i mf195 (k := 62) (by decide) (by decide)).symm
    have m222 := (m171).trans (MF.i mf195 (k := 65) (by decide) (by decide)).symm
    have m223 := (m172).trans (MF.i mf195 (k := 70) (by decide) (by decide)).symm
    have m224 := (m174).trans (MF.r mf195 (k := 73) (by decide) (by decide)).symm
    have bx190 := ty_fi (x := x190) (k := 2) ex190 hTH188 gb rg_112 rfl
    refine W.eq (g2 := F0 m 521 ls [.int x189]) rfl ?_
    refine lv_pop hx hb dL_law_521 rfl ?_
    refine lv_goto (tgt := 1509) hx hb dL_law_522 (by decide) ?_
    exact nx G H188 locsH188 _ _ ls ⟨hTH188, hN, ga, gb, g191, g192, g193, g194, ⟨(by rw [← m197, ← m217]; exact rt), (by rw [← m196, ← m211, ← m218]; omega), (by rw [← m196, ← m212, ← ex190]; omega), (by rw [← m196, ← m213, ← m219]; omega), (by rw [← m196, ← m214, ← m220]; omega), (by rw [← m196, ← m215, ← m221]; omega), (by rw [← m196, ← m216, ← m222]; omega)⟩, Or.inr ⟨kq, m198, gkq, (by rw [← m223]; exact h70), (by rw [← m199, ← m224, ← m200]; exact q1), (by rw [← m201, ← m224, ← m202]; exact q4), (by rw [← m203, ← m224, ← m204]; exact q5), (by rw [← m205, ← m224, ← m206]; exact q10), (by rw [← m207, ← m224, ← m208]; exact q13), (by rw [← m209, ← m224, ← m210]; exact q16)⟩, hSH188⟩ hl ⟨hc, hs, fun h => by have h1 := h.symm.trans m198; cases h1⟩
set_option maxRecDepth 100000 in
set_option maxHeartbeats 1000000 in
theorem lw_c9 {p : Program} {l : Launch} {e : Env} {s : State} {m : MethodId} {below : List Frame} {meth : Method} {c : Code} {K : KE} {b0 L : Nat} {xs : Nat → Int32} {G : Nat → Option Nat} {H : Heap} {locs : List Loc} {a b : Nat} {cells slots : Nat} {ls : Array Slot} {i : Int32} {n : Nat} (D : LC p K s m meth c b0 L xs) (S : SX K s G H locs a b) (hl : lv_has ls 4 [(3, .int i), (2, .ref b), (1, .ref a), (0, .ref b0)]) (hi : 0 ≤ i.toInt ∧ i.toInt + 6 ≤ L) (hn : n ≤ 511) (hB : BD K H a cells slots) (nx : ∀ (G : Nat → Option Nat) (H : Heap) (locs : List Loc) (cells slots : Nat) (ls : Array Slot), SX K s G H locs a b → lv_has ls 4 [(3, .int i), (2, .ref b), (1, .ref a), (0, .ref b0)] → BD K H a cells slots → W p l e room_1 s m #[Value.ref b0] below meth c H locs cells slots (lw_Z below #[Value.ref b0] s) (F0 m 1509 ls [])) : W p l e room_1 s m #[Value.ref b0] below meth c H locs cells slots (lw_Z below #[Value.ref b0] s) (F0 m 525 ls []) := by
  have hI := hi
  obtain ⟨C, hX, hbl, hL⟩ := id D
  obtain ⟨hx, hb, hml, hown, hts, hKT, hr, hlocks, hnm⟩ := id C
  obtain ⟨hT, hN, ga, gb, cg, tu, wd, im, ⟨rt, r1, r4, r5, r10, r13, r16⟩, hk, hS⟩ := S
  obtain ⟨hc, hs, hB0⟩ := hB
  have n_1 : (1 : Int32).toInt = 1 := rfl
  have n_2 : (2 : Int32).toInt = 2 := rfl
  have n_3 : (3 : Int32).toInt = 3 := rfl
  have n_4 : (4 : Int32).toInt = 4 := rfl
  have n_5 : (5 : Int32).toInt = 5 := rfl
  obtain ⟨w, ew⟩ : ∃ z : Nat, z = fR H a (K.1.2 9 0) := ⟨_, rfl⟩
  have gw := ty_fr (q := w) (k := 0) (u := 0) ew hT ga rg_68 rfl
  rw [← ew] at r1 r4 r5 r10 r13 r16
  obtain ⟨ta, eta⟩ : ∃ z : Int32, z = fI H a (K.1.2 9 3) := ⟨_, rfl⟩
  rw [← eta] at rt
  obtain ⟨tb, etb⟩ : ∃ z : Int32, z = fI H b (K.1.2 10 18) := ⟨_, rfl⟩
  rw [← etb] at rt
  obtain ⟨s1, es1⟩ : ∃ z : Int32, z = fI H w (K.1.2 8 1) := ⟨_, rfl⟩
  rw [← es1] at r1
  obtain ⟨y1, ey1⟩ : ∃ z : Int32, z = fI H b (K.1.2 10 1) := ⟨_, rfl⟩
  rw [← ey1] at r1
  obtain ⟨s4, es4⟩ : ∃ z : Int32, z = fI H w (K.1.2 8 4) := ⟨_, rfl⟩
  rw [← es4] at r4
  obtain ⟨y4, ey4⟩ : ∃ z : Int32, z = fI H b (K.1.2 10 2) := ⟨_, rfl⟩
  rw [← ey4] at r4
  obtain ⟨s5, es5⟩ : ∃ z : Int32, z = fI H w (K.1.2 8 5) := ⟨_, rfl⟩
  rw [← es5] at r5
  obtain ⟨y5, ey5⟩ : ∃ z : Int32, z = fI H b (K.1.2 10 3) := ⟨_, rfl⟩
  rw [← ey5] at r5
  obtain ⟨s10, es10⟩ : ∃ z : Int32, z = fI H w (K.1.2 8 10) := ⟨_, rfl⟩
  rw [← es10] at r10
  obtain ⟨y10, ey10⟩ : ∃ z : Int32, z = fI H b (K.1.2 10 59) := ⟨_, rfl⟩
  rw [← ey10] at r10
  obtain ⟨s13, es13⟩ : ∃ z : Int32, z = fI H w (K.1.2 8 13) := ⟨_, rfl⟩
  rw [← es13] at r13
  obtain ⟨y13, ey13⟩ : ∃ z : Int32, z = fI H b (K.1.2 10 62) := ⟨_, rfl⟩
  rw [← ey13] at r13
  obtain ⟨s16, es16⟩ : ∃ z : Int32, z = fI H w (K.1.2 8 16) := ⟨_, rfl⟩
  rw [← es16] at r16
  obtain ⟨y16, ey16⟩ : ∃ z : Int32, z = fI H b (K.1.2 10 65) := ⟨_, rfl⟩
  rw [← ey16] at r16
  rcases hk with ⟨kn, h70⟩ | ⟨kq, kn, gkq, h70, q1, q4, q5, q10, q13, q16⟩
  · skip
    obtain ⟨hi, ehi⟩ : ∃ z : Int32, z = fI H b (K.1.2 10 70) := ⟨_, rfl⟩
    rw [← ehi] at h70
    obtain ⟨hc0, hs0⟩ := hB0 kn
    refine lv_aload_n hx hb dL_law_525 rfl (lv_at hl 2 rfl) ?_
    refine lv_aload_n hx hb dL_law_526 rfl (lv_at hl 3 rfl) ?_
    refine lv_iload_n hx hb dL_law_527 rfl (lv_at hl 0 rfl) ?_
    refine lv_iconst (v := 1) hx hb dL_law_528 (by decide) ?_
    refine lv_iadd hx hb dL_law_529 ?_
    refine lv_topi (fun x101 ex101 => ?_)
    obtain ⟨tx101, ejx101, evx101⟩ := lw_ix (k := 1) ex101 hI hL rfl (by decide)
    clear tx101
    refine va_sld hx hb hX hbl (Nat.not_le.mpr hbl) hS (vp_in_iff.mpr evx101) dL_law_530 ?_
    refine W.eq (g2 := F0 m 531 ls [.int (xs (i.toNatClampNeg + 1)), .ref a]) (congrArg (fun z => F0 m 531 ls [.int (xs z), .ref a]) ejx101) ?_
    refine lv_aload_n hx hb dL_law_531 rfl (lv_at hl 3 rfl) ?_
    refine lv_iload_n hx hb dL_law_532 rfl (lv_at hl 0 rfl) ?_
    refine lv_iconst (v := 2) hx hb dL_law_533 (by decide) ?_
    refine lv_iadd hx hb dL_law_534 ?_
    refine lv_topi (fun x102 ex102 => ?_)
    obtain ⟨tx102, ejx102, evx102⟩ := lw_ix (k := 2) ex102 hI hL rfl (by decide)
    clear tx102
    refine va_sld hx hb hX hbl (Nat.not_le.mpr hbl) hS (vp_in_iff.mpr evx102) dL_law_535 ?_
    refine W.eq (g2 := F0 m 536 ls [.int (xs (i.toNatClampNeg + 2)), .int (xs (i.toNatClampNeg + 1)), .ref a]) (congrArg (fun z => F0 m 536 ls [.int (xs z), .int (xs (i.toNatClampNeg + 1)), .ref a]) ejx102) ?_
    refine lv_aload_n hx hb dL_law_536 rfl (lv_at hl 3 rfl) ?_
    refine lv_iload_n hx hb dL_law_537 rfl (lv_at hl 0 rfl) ?_
    refine lv_iconst (v := 3) hx hb dL_law_538 (by decide) ?_
    refine lv_iadd hx hb dL_law_539 ?_
    refine lv_topi (fun x103 ex103 => ?_)
    obtain ⟨tx103, ejx103, evx103⟩ := lw_ix (k := 3) ex103 hI hL rfl (by decide)
    clear tx103
    refine va_sld hx hb hX hbl (Nat.not_le.mpr hbl) hS (vp_in_iff.mpr evx103) dL_law_540 ?_
    refine W.eq (g2 := F0 m 541 ls [.int (xs (i.toNatClampNeg + 3)), .int (xs (i.toNatClampNeg + 2)), .int (xs (i.toNatClampNeg + 1)), .ref a]) (congrArg (fun z => F0 m 541 ls [.int (xs z), .int (xs (i.toNatClampNeg + 2)), .int (xs (i.toNatClampNeg + 1)), .ref a]) ejx103) ?_
    refine lv_aload_n hx hb dL_law_541 rfl (lv_at hl 3 rfl) ?_
    refine lv_iload_n hx hb dL_law_542 rfl (lv_at hl 0 rfl) ?_
    refine lv_iconst (v := 4) hx hb dL_law_543 (by decide) ?_
    refine lv_iadd hx hb dL_law_544 ?_
    refine lv_topi (fun x104 ex104 => ?_)
    obtain ⟨tx104, ejx104, evx104⟩ := lw_ix (k := 4) ex104 hI hL rfl (by decide)
    clear tx104
    refine va_sld hx hb hX hbl (Nat.not_le.mpr hbl) hS (vp_in_iff.mpr evx104) dL_law_545 ?_
    refine W.eq (g2 := F0 m 546 ls [.int (xs (i.toNatClampNeg + 4)), .int (xs (i.toNatClampNeg + 3)), .int (xs (i.toNatClampNeg + 2)), .int (xs (i.toNatClampNeg + 1)), .ref a]) (congrArg (fun z => F0 m 546 ls [.int (xs z), .int (xs (i.toNatClampNeg + 3)), .int (xs (i.toNatClampNeg + 2)), .int (xs (i.toNatClampNeg + 1)), .ref a]) ejx104) ?_
    refine lv_aload_n hx hb dL_law_546 rfl (lv_at hl 3 rfl) ?_
    refine lv_iload_n hx hb dL_law_547 rfl (lv_at hl 0 rfl) ?_
    refine lv_iconst (v := 5) hx hb dL_law_548 (by decide) ?_
    refine lv_iadd hx hb dL_law_549 ?_
    refine lv_topi (fun x105 ex105 => ?_)
    obtain ⟨tx105, ejx105, evx105⟩ := lw_ix (k := 5) ex105 hI hL rfl (by decide)
    clear tx105
    refine va_sld hx hb hX hbl (Nat.not_le.mpr hbl) hS (vp_in_iff.mpr evx105) dL_law_550 ?_
    refine W.eq (g2 := F0 m 551 ls [.int (xs (i.toNatClampNeg + 5)), .int (xs (i.toNatClampNeg + 4)), .int (xs (i.toNatClampNeg + 3)), .int (xs (i.toNatClampNeg + 2)), .int (xs (i.toNatClampNeg + 1)), .ref a]) (congrArg (fun z => F0 m 551 ls [.int (xs z), .int (xs (i.toNatClampNeg + 4)), .int (xs (i.toNatClampNeg + 3)), .int (xs (i.toNatClampNeg + 2)), .int (xs (i.toNatClampNeg + 1)), .ref a]) ejx105) ?_
    refine x_V (As := [.int (xs (i.toNatClampNeg + 1)), .int (xs (i.toNatClampNeg + 2)), .int (xs (i.toNatClampNeg + 3)), .int (xs (i.toNatClampNeg + 4)), .int (xs (i.toNatClampNeg + 5))]) (rest := []) C (a_X9_tells l K G H ((xs (i.toNatClampNeg + 1))) ((xs (i.toNatClampNeg + 2))) ((xs (i.toNatClampNeg + 3))) ((xs (i.toNatClampNeg + 4))) ((xs (i.toNatClampNeg + 5))) hT ga) yo_X9_tells wM_L_56 ⟨⟨by decide, by decide⟩, show _ ≤ 284929 from Nat.le_trans hc (by decide), show _ ≤ 8247460 from Nat.le_trans hs (by decide)⟩ (x_rv C hT (ci := 9) rfl ga rg_68) rfl hl.1 rfl (Nat.le_of_ble_eq_true rfl) dL_law_551 hS (AE_new hN hS.1) (fun vH106 H106 locsH106 pH106 zH106 kH106 hSH106 => ?_)
    obtain ⟨x107, hvH106, hTH106⟩ := pH106
    subst hvH106
    have g108 : CG (avw K H106 b) := CG.congr (fun k hk j => av_eff hT kH106 gb (by decide) (CG_eff [83, 84] (by decide) k hk)) cg
    have g109 : TU (avw K H106 b) (svw K H106 b) := TU.congr (fun k hk j => av_eff hT kH106 gb (by decide) (TU_eff [83, 84] (by decide) k hk)) (fun k hk => sv_eff hT kH106 gb (by decide)) tu
    have g110 : WD (avw K H106 b) := WD.congr (fun k hk j => av_eff hT kH106 gb (by decide) (WD_eff [83, 84] (by decide) k hk)) wd
    have g111 : IM (avw K H106 b) := IM.congr (fun k hk j => av_eff hT kH106 gb (by decide) (IM_eff [83, 84] (by decide) k hk)) im
    have m112 := (ew).trans (fR_kept (x_lt hT kH106 ga (by decide))).symm
    have m113 := (eta).trans (fI_kept (x_lt hT kH106 ga (by decide))).symm
    have m114 := (etb).trans (fI_kept (x_lt hT kH106 gb (by decide))).symm
    have m115 := (es1).trans (fI_kept (x_lt hT kH106 gw (by decide))).symm
    have m116 := (ey1).trans (fI_kept (x_lt hT kH106 gb (by decide))).symm
    have m117 := (es4).trans (fI_kept (x_lt hT kH106 gw (by decide))).symm
    have m118 := (ey4).trans (fI_kept (x_lt hT kH106 gb (by decide))).symm
    have m119 := (es5).trans (fI_kept (x_lt hT kH106 gw (by decide))).symm
    have m120 := (ey5).trans (fI_kept (x_lt hT kH106 gb (by decide))).symm
    have m121 := (es10).trans (fI_kept (x_lt hT kH106 gw (by decide))).symm
    have m122 := (ey10).trans (fI_kept (x_lt hT kH106 gb (by decide))).symm
    have m123 := (es13).trans (fI_kept (x_lt hT kH106 gw (by decide))).symm
    have m124 := (ey13).trans (fI_kept (x_lt hT kH106 gb (by decide))).symm
    have m125 := (es16).trans (fI_kept (x_lt hT kH106 gw (by decide))).symm
    have m126 := (ey16).trans (fI_kept (x_lt hT kH106 gb (by decide))).symm
    have m127 := (ehi).trans (fI_kept (x_lt hT kH106 gb (by decide))).symm
    have m128 := (fV_kept (x_lt hT kH106 ga (by decide))).trans kn
    refine W.eq (g2 := F0 m 554 ls [.int x107]) rfl ?_
    refine lv_pop hx hb dL_law_554 rfl ?_
    refine lv_aload_n hx hb dL_law_555 rfl (lv_at hl 1 rfl) ?_
    refine lv_aload_n hx hb dL_law_556 rfl (lv_at hl 3 rfl) ?_
    refine lv_iload_n hx hb dL_law_557 rfl (lv_at hl 0 rfl) ?_
    refine lv_iconst (v := 1) hx hb dL_law_558 (by decide) ?_
    refine lv_iadd hx hb dL_law_559 ?_
    refine lv_topi (fun x129 ex129 => ?_)
    obtain ⟨tx129, ejx129, evx129⟩ := lw_ix (k := 1) ex129 hI hL rfl (by decide)
    clear tx129
    refine va_sld hx hb hX hbl (Nat.not_le.mpr hbl) hSH106 (vp_in_iff.mpr evx129) dL_law_560 ?_
    refine W.eq (g2 := F0 m 561 ls [.int (xs (i.toNatClampNeg + 1)), .ref b]) (congrArg (fun z => F0 m 561 ls [.int (xs z), .ref b]) ejx129) ?_
    refine lv_aload_n hx hb dL_law_561 rfl (lv_at hl 3 rfl) ?_
    refine lv_iload_n hx hb dL_law_562 rfl (lv_at hl 0 rfl) ?_
    refine lv_iconst (v := 2) hx hb dL_law_563 (by decide) ?_
    refine lv_iadd hx hb dL_law_564 ?_
    refine lv_topi (fun x130 ex130 => ?_)
    obtain ⟨tx130, ejx130, evx130⟩ := lw_ix (k := 2) ex130 hI hL rfl (by decide)
    clear tx130
    refine va_sld hx hb hX hbl (Nat.not_le.mpr hbl) hSH106 (vp_in_iff.mpr evx130) dL_law_565 ?_
    refine W.eq (g2 := F0 m 566 ls [.int (xs (i.toNatClampNeg + 2)), .int (xs (i.toNatClampNeg + 1)), .ref b]) (congrArg (fun z => F0 m 566 ls [.int (xs z), .int (xs (i.toNatClampNeg + 1)), .ref b]) ejx130) ?_
    refine lv_aload_n hx hb dL_law_566 rfl (lv_at hl 3 rfl) ?_
    refine lv_iload_n hx hb dL_law_567 rfl (lv_at hl 0 rfl) ?_
    refine lv_iconst (v := 3) hx hb dL_law_568 (by decide) ?_
    refine lv_iadd hx hb dL_law_569 ?_
    refine lv_topi (fun x131 ex131 => ?_)
    obtain ⟨tx131, ejx131, evx131⟩ := lw_ix (k := 3) ex131 hI hL rfl (by decide)
    clear tx131
    refine va_sld hx hb hX hbl (Nat.not_le.mpr hbl) hSH106 (vp_in_iff.mpr evx131) dL_law_570 ?_
    refine W.eq (g2 := F0 m 571 ls [.int (xs (i.toNatClampNeg + 3)), .int (xs (i.toNatClampNeg + 2)), .int (xs (i.toNatClampNeg + 1)), .ref b]) (congrArg (fun z => F0 m 571 ls [.int (xs z), .int (xs (i.toNatClampNeg + 2)), .int (xs (i.toNatClampNeg + 1)), .ref b]) ejx131) ?_
    refine lv_aload_n hx hb dL_law_571 rfl (lv_at hl 3 rfl) ?_
    refine lv_iload_n hx hb dL_law_572 rfl (lv_at hl 0 rfl) ?_
    refine lv_iconst (v := 4) hx hb dL_law_573 (by decide) ?_
    refine lv_iadd hx hb dL_law_574 ?_
    refine lv_topi (fun x132 ex132 => ?_)
    obtain ⟨tx132, ejx132, evx132⟩ := lw_ix (k := 4) ex132 hI hL rfl (by decide)
    clear tx132
    refine va_sld hx hb hX hbl (Nat.not_le.mpr hbl) hSH106 (vp_in_iff.mpr evx132) dL_law_575 ?_
    refine W.eq (g2 := F0 m 576 ls [.int (xs (i.toNatClampNeg + 4)), .int (xs (i.toNatClampNeg + 3)), .int (xs (i.toNatClampNeg + 2)), .int (xs (i.toNatClampNeg + 1)), .ref b]) (congrArg (fun z => F0 m 576 ls [.int (xs z), .int (xs (i.toNatClampNeg + 3)), .int (xs (i.toNatClampNeg + 2)), .int (xs (i.toNatClampNeg + 1)), .ref b]) ejx132) ?_
    refine lv_aload_n hx hb dL_law_576 rfl (lv_at hl 3 rfl) ?_
    refine lv_iload_n hx hb dL_law_577 rfl (lv_at hl 0 rfl) ?_
    refine lv_iconst (v := 5) hx hb dL_law_578 (by decide) ?_
    refine lv_iadd hx hb dL_law_579 ?_
    refine lv_topi (fun x133 ex133 => ?_)
    obtain ⟨tx133, ejx133, evx133⟩ := lw_ix (k := 5) ex133 hI hL rfl (by decide)
    clear tx133
    refine va_sld hx hb hX hbl (Nat.not_le.mpr hbl) hSH106 (vp_in_iff.mpr evx133) dL_law_580 ?_
    refine W.eq (g2 := F0 m 581 ls [.int (xs (i.toNatClampNeg + 5)), .int (xs (i.toNatClampNeg + 4)), .int (xs (i.toNatClampNeg + 3)), .int (xs (i.toNatClampNeg + 2)), .int (xs (i.toNatClampNeg + 1)), .ref b]) (congrArg (fun z => F0 m 581 ls [.int (xs z), .int (xs (i.toNatClampNeg + 4)), .int (xs (i.toNatClampNeg + 3)), .int (xs (i.toNatClampNeg + 2)), .int (xs (i.toNatClampNeg + 1)), .ref b]) ejx133) ?_
    refine x_V (As := [.int (xs (i.toNatClampNeg + 1)), .int (xs (i.toNatClampNeg + 2)), .int (xs (i.toNatClampNeg + 3)), .int (xs (i.toNatClampNeg + 4)), .int (xs (i.toNatClampNeg + 5))]) (rest := []) C (a_X10_tells l K G H106 ((xs (i.toNatClampNeg + 1))) ((xs (i.toNatClampNeg + 2))) ((xs (i.toNatClampNeg + 3))) ((xs (i.toNatClampNeg + 4))) ((xs (i.toNatClampNeg + 5))) hTH106 gb g108 g109 g110 g111) yo_X10_tells wM_L_59 ⟨⟨by decide, by decide⟩, show _ ≤ 284929 from Nat.le_trans hc (by decide), show _ ≤ 8247460 from Nat.le_trans hs (by decide)⟩ (x_rv C hTH106 (ci := 10) rfl gb rg_112) rfl hl.1 rfl (Nat.le_of_ble_eq_true rfl) dL_law_581 hSH106 (AE_new hN hSH106.1) (fun vH134 H134 locsH134 pH134 zH134 kH134 hSH134 => ?_)
    obtain ⟨x135, hvH134, g136, g137, g138, g139, mf140, hTH134⟩ := pH134
    subst hvH134
    have m141 := (m112).trans (fR_kept (x_lt hTH106 kH134 ga (by decide))).symm
    have m142 := (m113).trans (fI_kept (x_lt hTH106 kH134 ga (by decide))).symm
    have m143 := (m115).trans (fI_kept (x_lt hTH106 kH134 gw (by decide))).symm
    have m144 := (m117).trans (fI_kept (x_lt hTH106 kH134 gw (by decide))).symm
    have m145 := (m119).trans (fI_kept (x_lt hTH106 kH134 gw (by decide))).symm
    have m146 := (m121).trans (fI_kept (x_lt hTH106 kH134 gw (by decide))).symm
    have m147 := (m123).trans (fI_kept (x_lt hTH106 kH134 gw (by decide))).symm
    have m148 := (m125).trans (fI_kept (x_lt hTH106 kH134 gw (by decide))).symm
    have m149 := (fV_kept (x_lt hTH106 kH134 ga (by decide))).trans m128
    have m150 := (m114).trans (MF.i mf140 (k := 18) (by decide) (by decide)).symm
    have m151 := (m116).trans (MF.i mf140 (k := 1) (by decide) (by decide)).symm
    have m152 := (m118).trans (MF.i mf140 (k := 2) (by decide) (by decide)).symm
    have m153 := (m120).trans (MF.i mf140 (k := 3) (by decide) (by decide)).symm
    have m154 := (m122).trans (MF.i mf140 (k := 59) (by decide) (by decide)).symm
    have m155 := (m124).trans (MF.i mf140 (k := 62) (by decide) (by decide)).symm
    have m156 := (m126).trans (MF.i mf140 (k := 65) (by decide) (by decide)).symm
    have m157 := (m127).trans (MF.i mf140 (k := 70) (by decide) (by decide)).symm
    refine W.eq (g2 := F0 m 584 ls [.int x135]) rfl ?_
    refine lv_pop hx hb dL_law_584 rfl ?_
    refine lv_goto (tgt := 1509) hx hb dL_law_585 (by decide) ?_
    exact nx G H134 locsH134 _ _ ls ⟨hTH134, hN, ga, gb, g136, g137, g138, g139, ⟨(by rw [← m142, ← m150]; exact rt), (by rw [← m141, ← m143, ← m151]; exact r1), (by rw [← m141, ← m144, ← m152]; exact r4), (by rw [← m141, ← m145, ← m153]; exact r5), (by rw [← m141, ← m146, ← m154]; exact r10), (by rw [← m141, ← m147, ← m155]; exact r13), (by rw [← m141, ← m148, ← m156]; exact r16)⟩, Or.inl ⟨m149, (by rw [← m157]; exact h70)⟩, hSH134⟩ hl ⟨hc, hs, fun _ => ⟨hc0, hs0⟩⟩
  · skip
    obtain ⟨hi, ehi⟩ : ∃ z : Int32, z = fI H b (K.1.2 10 70) := ⟨_, rfl⟩
    rw [← ehi] at h70
    obtain ⟨iq, eiq⟩ : ∃ z : Nat, z = fR H b (K.1.2 10 73) := ⟨_, rfl⟩
    have giq := ty_fr (q := iq) (k := 73) (u := 162) eiq hT gb rg_112 rfl
    rw [← eiq] at q1 q4 q5 q10 q13 q16
    obtain ⟨k1, ek1⟩ : ∃ z : Int32, z = fI H kq (K.1.2 8 1) := ⟨_, rfl⟩
    rw [← ek1] at q1
    obtain ⟨i1, ei1⟩ : ∃ z : Int32, z = fI H iq ((0 : Int32).toNatClampNeg) := ⟨_, rfl⟩
    rw [← ei1] at q1
    obtain ⟨k4, ek4⟩ : ∃ z : Int32, z = fI H kq (K.1.2 8 4) := ⟨_, rfl⟩
    rw [← ek4] at q4
    obtain ⟨i4, ei4⟩ : ∃ z : Int32, z = fI H iq ((1 : Int32).toNatClampNeg) := ⟨_, rfl⟩
    rw [← ei4] at q4
    obtain ⟨k5, ek5⟩ : ∃ z : Int32, z = fI H kq (K.1.2 8 5) := ⟨_, rfl⟩
    rw [← ek5] at q5
    obtain ⟨i5, ei5⟩ : ∃ z : Int32, z = fI H iq ((2 : Int32).toNatClampNeg) := ⟨_, rfl⟩
    rw [← ei5] at q5
    obtain ⟨k10, ek10⟩ : ∃ z : Int32, z = fI H kq (K.1.2 8 10) := ⟨_, rfl⟩
    rw [← ek10] at q10
    obtain ⟨i10, ei10⟩ : ∃ z : Int32, z = fI H iq ((3 : Int32).toNatClampNeg) := ⟨_, rfl⟩
    rw [← ei10] at q10
    obtain ⟨k13, ek13⟩ : ∃ z : Int32, z = fI H kq (K.1.2 8 13) := ⟨_, rfl⟩
    rw [← ek13] at q13
    obtain ⟨i13, ei13⟩ : ∃ z : Int32, z = fI H iq ((4 : Int32).toNatClampNeg) := ⟨_, rfl⟩
    rw [← ei13] at q13
    obtain ⟨k16, ek16⟩ : ∃ z : Int32, z = fI H kq (K.1.2 8 16) := ⟨_, rfl⟩
    rw [← ek16] at q16
    obtain ⟨i16, ei16⟩ : ∃ z : Int32, z = fI H iq ((5 : Int32).toNatClampNeg) := ⟨_, rfl⟩
    rw [← ei16] at q16
    refine lv_aload_n hx hb dL_law_525 rfl (lv_at hl 2 rfl) ?_
    refine lv_aload_n hx hb dL_law_526 rfl (lv_at hl 3 rfl) ?_
    refine lv_iload_n hx hb dL_law_527 rfl (lv_at hl 0 rfl) ?_
    refine lv_iconst (v := 1) hx hb dL_law_528 (by decide) ?_
    refine lv_iadd hx hb dL_law_529 ?_
    refine lv_topi (fun x158 ex158 => ?_)
    obtain ⟨tx158, ejx158, evx158⟩ := lw_ix (k := 1) ex158 hI hL rfl (by decide)
    clear tx158
    refine va_sld hx hb hX hbl (Nat.not_le.mpr hbl) hS (vp_in_iff.mpr evx158) dL_law_530 ?_
    refine W.eq (g2 := F0 m 531 ls [.int (xs (i.toNatClampNeg + 1)), .ref a]) (congrArg (fun z => F0 m 531 ls [.int (xs z), .ref a]) ejx158) ?_
    refine lv_aload_n hx hb dL_law_531 rfl (lv_at hl 3 rfl) ?_
    refine lv_iload_n hx hb dL_law_532 rfl (lv_at hl 0 rfl) ?_
    refine lv_iconst (v := 2) hx hb dL_law_533 (by decide) ?_
    refine lv_iadd hx hb dL_law_534 ?_
    refine lv_topi (fun x159 ex159 => ?_)
    obtain ⟨tx159, ejx159, evx159⟩ := lw_ix (k := 2) ex159 hI hL rfl (by decide)
    clear tx159
    refine va_sld hx hb hX hbl (Nat.not_le.mpr hbl) hS (vp_in_iff.mpr evx159) dL_law_535 ?_
    refine W.eq (g2 := F0 m 536 ls [.int (xs (i.toNatClampNeg + 2)), .int (xs (i.toNatClampNeg + 1)), .ref a]) (congrArg (fun z => F0 m 536 ls [.int (xs z), .int (xs (i.toNatClampNeg + 1)), .ref a]) ejx159) ?_
    refine lv_aload_n hx hb dL_law_536 rfl (lv_at hl 3 rfl) ?_
    refine lv_iload_n hx hb dL_law_537 rfl (lv_at hl 0 rfl) ?_
    refine lv_iconst (v := 3) hx hb dL_law_538 (by decide) ?_
    refine lv_iadd hx hb dL_law_539 ?_
    refine lv_topi (fun x160 ex160 => ?_)
    obtain ⟨tx160, ejx160, evx160⟩ := lw_ix (k := 3) ex160 hI hL rfl (by decide)
    clear tx160
    refine va_sld hx hb hX hbl (Nat.not_le.mpr hbl) hS (vp_in_iff.mpr evx160) dL_law_540 ?_
    refine W.eq (g2 := F0 m 541 ls [.int (xs (i.toNatClampNeg + 3)), .int (xs (i.toNatClampNeg + 2)), .int (xs (i.toNatClampNeg + 1)), .ref a]) (congrArg (fun z => F0 m 541 ls [.int (xs z), .int (xs (i.toNatClampNeg + 2)), .int (xs (i.toNatClampNeg + 1)), .ref a]) ejx160) ?_
    refine lv_aload_n hx hb dL_law_541 rfl (lv_at hl 3 rfl) ?_
    refine lv_iload_n hx hb dL_law_542 rfl (lv_at hl 0 rfl) ?_
    refine lv_iconst (v := 4) hx hb dL_law_543 (by decide) ?_
    refine lv_iadd hx hb dL_law_544 ?_
    refine lv_topi (fun x161 ex161 => ?_)
    obtain ⟨tx161, ejx161, evx161⟩ := lw_ix (k := 4) ex161 hI hL rfl (by decide)
    clear tx161
    refine va_sld hx hb hX hbl (Nat.not_le.mpr hbl) hS (vp_in_iff.mpr evx161) dL_law_545 ?_
    refine W.eq (g2 := F0 m 546 ls [.int (xs (i.toNatClampNeg + 4)), .int (xs (i.toNatClampNeg + 3)), .int (xs (i.toNatClampNeg + 2)), .int (xs (i.toNatClampNeg + 1)), .ref a]) (congrArg (fun z => F0 m 546 ls [.int (xs z), .int (xs (i.toNatClampNeg + 3)), .int (xs (i.toNatClampNeg + 2)), .int (xs (i.toNatClampNeg + 1)), .ref a]) ejx161) ?_
    refine lv_aload_n hx hb dL_law_546 rfl (lv_at hl 3 rfl) ?_
    refine lv_iload_n hx hb dL_law_547 rfl (lv_at hl 0 rfl) ?_
    refine lv_iconst (v := 5) hx hb dL_law_548 (by decide) ?_
    refine lv_iadd hx hb dL_law_549 ?_
    refine lv_topi (fun x162 ex162 => ?_)
    obtain ⟨tx162, ejx162, evx162⟩ := lw_ix (k := 5) ex162 hI hL rfl (by decide)
    clear tx162
    refine va_sld hx hb hX hbl (Nat.not_le.mpr hbl) hS (vp_in_iff.mpr evx162) dL_law_550 ?_
    refine W.eq (g2 := F0 m 551 ls [.int (xs (i.toNatClampNeg + 5)), .int (xs (i.toNatClampNeg + 4)), .int (xs (i.toNatClampNeg + 3)), .int (xs (i.toNatClampNeg + 2)), .int (xs (i.toNatClampNeg + 1)), .ref a]) (congrArg (fun z => F0 m 551 ls [.int (xs z), .int (xs (i.toNatClampNeg + 4)), .int (xs (i.toNatClampNeg + 3)), .int (xs (i.toNatClampNeg + 2)), .int (xs (i.toNatClampNeg + 1)), .ref a]) ejx162) ?_
    refine x_V (As := [.int (xs (i.toNatClampNeg + 1)), .int (xs (i.toNatClampNeg + 2)), .int (xs (i.toNatClampNeg + 3)), .int (xs (i.toNatClampNeg + 4)), .int (xs (i.toNatClampNeg + 5))]) (rest := []) C (a_X9_tells l K G H ((xs (i.toNatClampNeg + 1))) ((xs (i.toNatClampNeg + 2))) ((xs (i.toNatClampNeg + 3))) ((xs (i.toNatClampNeg + 4))) ((xs (i.toNatClampNeg + 5))) hT ga) yo_X9_tells wM_L_56 ⟨⟨by decide, by decide⟩, show _ ≤ 284929 from Nat.le_trans hc (by decide), show _ ≤ 8247460 from Nat.le_trans hs (by decide)⟩ (x_rv C hT (ci := 9) rfl ga rg_68) rfl hl.1 rfl (Nat.le_of_ble_eq_true rfl) dL_law_551 hS (AE_new hN hS.1) (fun vH163 H163 locsH163 pH163 zH163 kH163 hSH163 => ?_)
    obtain ⟨x164, hvH163, hTH163⟩ := pH163
    subst hvH163
    have g165 : CG (avw K H163 b) := CG.congr (fun k hk j => av_eff hT kH163 gb (by decide) (CG_eff [83, 84] (by decide) k hk)) cg
    have g166 : TU (avw K H163 b) (svw K H163 b) := TU.congr (fun k hk j => av_eff hT kH163 gb (by decide) (TU_eff [83, 84] (by decide) k hk)) (fun k hk => sv_eff hT kH163 gb (by decide)) tu
    have g167 : WD (avw K H163 b) := WD.congr (fun k hk j => av_eff hT kH163 gb (by decide) (WD_eff [83, 84] (by decide) k hk)) wd
    have g168 : IM (avw K H163 b) := IM.congr (fun k hk j => av_eff hT kH163 gb (by decide) (IM_eff [83, 84] (by decide) k hk)) im
    have m169 := (ew).trans (fR_kept (x_lt hT kH163 ga (by decide))).symm
    have m170 := (eta).trans (fI_kept (x_lt hT kH163 ga (by decide))).symm
    have m171 := (etb).trans (fI_kept (x_lt hT kH163 gb (by decide))).symm
    have m172 := (es1).trans (fI_kept (x_lt hT kH163 gw (by decide))).symm
    have m173 := (ey1).trans (fI_kept (x_lt hT kH163 gb (by decide))).symm
    have m174 := (es4).trans (fI_kept (x_lt hT kH163 gw (by decide))).symm
    have m175 := (ey4).trans (fI_kept (x_lt hT kH163 gb (by decide))).symm
    have m176 := (es5).trans (fI_kept (x_lt hT kH163 gw (by decide))).symm
    have m177 := (ey5).trans (fI_kept (x_lt hT kH163 gb (by decide))).symm
    have m178 := (es10).trans (fI_kept (x_lt hT kH163 gw (by decide))).symm
    have m179 := (ey10).trans (fI_kept (x_lt hT kH163 gb (by decide))).symm
    have m180 := (es13).trans (fI_kept (x_lt hT kH163 gw (by decide))).symm
    have m181 := (ey13).trans (fI_kept (x_lt hT kH163 gb (by decide))).symm
    have m182 := (es16).trans (fI_kept (x_lt hT kH163 gw (by decide))).symm
    have m183 := (ey16).trans (fI_kept (x_lt hT kH163 gb (by decide))).symm
    have m184 := (ehi).trans (fI_kept (x_lt hT kH163 gb (by decide))).symm
    have m185 := (fV_kept (x_lt hT kH163 ga (by decide))).trans kn
    have m186 := (eiq).trans (fR_kept (x_lt hT kH163 gb (by decide))).symm
    have m187 := (ek1).trans (fI_kept (x_lt hT kH163 gkq (by decide))).symm
    have m188 := (ei1).trans (fI_kept (x_lt hT kH163 giq (by decide))).symm
    have m189 := (ek4).trans (fI_kept (x_lt hT kH163 gkq (by decide))).symm
    have m190 := (ei4).trans (fI_kept (x_lt hT kH163 giq (by decide))).symm
    have m191 := (ek5).trans (fI_kept (x_lt hT kH163 gkq (by decide))).symm
    have m192 := (ei5).trans (fI_kept (x_lt hT kH163 giq (by decide))).symm
    have m193 := (ek10).trans (fI_kept (x_lt hT kH163 gkq (by decide))).symm
    have m194 := (ei10).trans (fI_kept (x_lt hT kH163 giq (by decide))).symm
    have m195 := (ek13).trans (fI_kept (x_lt hT kH163 gkq (by decide))).symm
    have m196 := (ei13).trans (fI_kept (x_lt hT kH163 giq (by decide))).symm
    have m197 := (ek16).trans (fI_kept (x_lt hT kH163 gkq (by decide))).symm
    have m198 := (ei16).trans (fI_kept (x_lt hT kH163 giq (by decide))).symm
    refine W.eq (g2 := F0 m 554 ls [.int x164]) rfl ?_
    refine lv_pop hx hb dL_law_554 rfl ?_
    refine lv_aload_n hx hb dL_law_555 rfl (lv_at hl 1 rfl) ?_
    refine lv_aload_n hx hb dL_law_556 rfl (lv_at hl 3 rfl) ?_
    refine lv_iload_n hx hb dL_law_557 rfl (lv_at hl 0 rfl) ?_
    refine lv_iconst (v := 1) hx hb dL_law_558 (by decide) ?_
    refine lv_iadd hx hb dL_law_559 ?_
    refine lv_topi (fun x199 ex199 => ?_)
    obtain ⟨tx199, ejx199, evx199⟩ := lw_ix (k := 1) ex199 hI hL rfl (by decide)
    clear tx199
    refine va_sld hx hb hX hbl (Nat.not_le.mpr hbl) hSH163 (vp_in_iff.mpr evx199) dL_law_560 ?_
    refine W.eq (g2 := F0 m 561 ls [.int (xs (i.toNatClampNeg + 1)), .ref b]) (congrArg (fun z => F0 m 561 ls [.int (xs z), .ref b]) ejx199) ?_
    refine lv_aload_n hx hb dL_law_561 rfl (lv_at hl 3 rfl) ?_
    refine lv_iload_n hx hb dL_law_562 rfl (lv_at hl 0 rfl) ?_
    refine lv_iconst (v := 2) hx hb dL_law_563 (by decide) ?_
    refine lv_iadd hx hb dL_law_564 ?_
    refine lv_topi (fun x200 ex200 => ?_)
    obtain ⟨tx200, ejx200, evx200⟩ := lw_ix (k := 2) ex200 hI hL rfl (by decide)
    clear tx200
    refine va_sld hx hb hX hbl (Nat.not_le.mpr hbl) hSH163 (vp_in_iff.mpr evx200) dL_law_565 ?_
    refine W.eq (g2 := F0 m 566 ls [.int (xs (i.toNatClampNeg + 2)), .int (xs (i.toNatClampNeg + 1)), .ref b]) (congrArg (fun z => F0 m 566 ls [.int (xs z), .int (xs (i.toNatClampNeg + 1)), .ref b]) ejx200) ?_
    refine lv_aload_n hx hb dL_law_566 rfl (lv_at hl 3 rfl) ?_
    refine lv_iload_n hx hb dL_law_567 rfl (lv_at hl 0 rfl) ?_
    refine lv_iconst (v := 3) hx hb dL_law_568 (by decide) ?_
    refine lv_iadd hx hb dL_law_569 ?_
    refine lv_topi (fun x201 ex201 => ?_)
    obtain ⟨tx201, ejx201, evx201⟩ := lw_ix (k := 3) ex201 hI hL rfl (by decide)
    clear tx201
    refine va_sld hx hb hX hbl (Nat.not_le.mpr hbl) hSH163 (vp_in_iff.mpr evx201) dL_law_570 ?_
    refine W.eq (g2 := F0 m 571 ls [.int (xs (i.toNatClampNeg + 3)), .int (xs (i.toNatClampNeg + 2)), .int (xs (i.toNatClampNeg + 1)), .ref b]) (congrArg (fun z => F0 m 571 ls [.int (xs z), .int (xs (i.toNatClampNeg + 2)), .int (xs (i.toNatClampNeg + 1)), .ref b]) ejx201) ?_
    refine lv_aload_n hx hb dL_law_571 rfl (lv_at hl 3 rfl) ?_
    refine lv_iload_n hx hb dL_law_572 rfl (lv_at hl 0 rfl) ?_
    refine lv_iconst (v := 4) hx hb dL_law_573 (by decide) ?_
    refine lv_iadd hx hb dL_law_574 ?_
    refine lv_topi (fun x202 ex202 => ?_)
    obtain ⟨tx202, ejx202, evx202⟩ := lw_ix (k := 4) ex202 hI hL rfl (by decide)
    clear tx202
    refine va_sld hx hb hX hbl (Nat.not_le.mpr hbl) hSH163 (vp_in_iff.mpr evx202) dL_law_575 ?_
    refine W.eq (g2 := F0 m 576 ls [.int (xs (i.toNatClampNeg + 4)), .int (xs (i.toNatClampNeg + 3)), .int (xs (i.toNatClampNeg + 2)), .int (xs (i.toNatClampNeg + 1)), .ref b]) (congrArg (fun z => F0 m 576 ls [.int (xs z), .int (xs (i.toNatClampNeg + 3)), .int (xs (i.toNatClampNeg + 2)), .int (xs (i.toNatClampNeg + 1)), .ref b]) ejx202) ?_
    refine lv_aload_n hx hb dL_law_576 rfl (lv_at hl 3 rfl) ?_
    refine lv_iload_n hx hb dL_law_577 rfl (lv_at hl 0 rfl) ?_
    refine lv_iconst (v := 5) hx hb dL_law_578 (by decide) ?_
    refine lv_iadd hx hb dL_law_579 ?_
    refine lv_topi (fun x203 ex203 => ?_)
    obtain ⟨tx203, ejx203, evx203⟩ := lw_ix (k := 5) ex203 hI hL rfl (by decide)
    clear tx203
    refine va_sld hx hb hX hbl (Nat.not_le.mpr hbl) hSH163 (vp_in_iff.mpr evx203) dL_law_580 ?_
    refine W.eq (g2 := F0 m 581 ls [.int (xs (i.toNatClampNeg + 5)), .int (xs (i.toNatClampNeg + 4)), .int (xs (i.toNatClampNeg + 3)), .int (xs (i.toNatClampNeg + 2)), .int (xs (i.toNatClampNeg + 1)), .ref b]) (congrArg (fun z => F0 m 581 ls [.int (xs z), .int (xs (i.toNatClampNeg + 4)), .int (xs (i.toNatClampNeg + 3)), .int (xs (i.toNatClampNeg + 2)), .int (xs (i.toNatClampNeg + 1)), .ref b]) ejx203) ?_
    refine x_V (As := [.int (xs (i.toNatClampNeg + 1)), .int (xs (i.toNatClampNeg + 2)), .int (xs (i.toNatClampNeg + 3)), .int (xs (i.toNatClampNeg + 4)), .int (xs (i.toNatClampNeg + 5))]) (rest := []) C (a_X10_tells l K G H163 ((xs (i.toNatClampNeg + 1))) ((xs (i.toNatClampNeg + 2))) ((xs (i.toNatClampNeg + 3))) ((xs (i.toNatClampNeg + 4))) ((xs (i.toNatClampNeg + 5))) hTH163 gb g165 g166 g167 g168) yo_X10_tells wM_L_59 ⟨⟨by decide, by decide⟩, show _ ≤ 284929 from Nat.le_trans hc (by decide), show _ ≤ 8247460 from Nat.le_trans hs (by decide)⟩ (x_rv C hTH163 (ci := 10) rfl gb rg_112) rfl hl.1 rfl (Nat.le_of_ble_eq_true rfl) dL_law_581 hSH163 (AE_new hN hSH163.1) (fun vH204 H204 locsH204 pH204 zH204 kH204 hSH204 => ?_)
    obtain ⟨x205, hvH204, g206, g207, g208, g209, mf210, hTH204⟩ := pH204
    subst hvH204
    have m211 := (m169).trans (fR_kept (x_lt hTH163 kH204 ga (by decide))).symm
    have m212 := (m170).trans (fI_kept (x_lt hTH163 kH204 ga (by decide))).symm
    have m213 := (m172).trans (fI_kept (x_lt hTH163 kH204 gw (by decide))).symm
    have m214 := (m174).trans (fI_kept (x_lt hTH163 kH204 gw (by decide))).symm
    have m215 := (m176).trans (fI_kept (x_lt hTH163 kH204 gw (by decide))).symm
    have m216 := (m178).trans (fI_kept (x_lt hTH163 kH204 gw (by decide))).symm
    have m217 := (m180).trans (fI_kept (x_lt hTH163 kH204 gw (by decide))).symm
    have m218 := (m182).trans (fI_kept (x_lt hTH163 kH204 gw (by decide))).symm
    have m219 := (fV_kept (x_lt hTH163 kH204 ga (by decide))).trans m185
    have m220 := (m187).trans (fI_kept (x_lt hTH163 kH204 gkq (by decide))).symm
    have m221 := (m188).trans (fI_kept (x_lt hTH163 kH204 giq (by decide))).symm
    have m222 := (m189).trans (fI_kept (x_lt hTH163 kH204 gkq (by decide))).symm
    have m223 := (m190).trans (fI_kept (x_lt hTH163 kH204 giq (by decide))).symm
    have m224 := (m191).trans (fI_kept (x_lt hTH163 kH204 gkq (by decide))).symm
    have m225 := (m192).trans (fI_kept (x_lt hTH163 kH204 giq (by decide))).symm
    have m226 := (m193).trans (fI_kept (x_lt hTH163 kH204 gkq (by decide))).symm
    have m227 := (m194).trans (fI_kept (x_lt hTH163 kH204 giq (by decide))).symm
    have m228 := (m195).trans (fI_kept (x_lt hTH163 kH204 gkq (by decide))).symm
    have m229 := (m196).trans (fI_kept (x_lt hTH163 kH204 giq (by decide))).symm
    have m230 := (m197).trans (fI_kept (x_lt hTH163 kH204 gkq (by decide))).symm
    have m231 := (m198).trans (fI_kept (x_lt hTH163 kH204 giq (by decide))).symm
    have m232 := (m171).trans (MF.i mf210 (k := 18) (by decide) (by decide)).symm
    have m233 := (m173).trans (MF.i mf210 (k := 1) (by decide) (by decide)).symm
    have m234 := (m175).trans (MF.i mf210 (k := 2) (by decide) (by decide)).symm
    have m235 := (m177).trans (MF.i mf210 (k := 3) (by decide) (by decide)).symm
    have m236 := (m179).trans (MF.i mf210 (k := 59) (by decide) (by decide)).symm
    have m237 := (m181).trans (MF.i mf210 (k := 62) (by decide) (by decide)).symm
    have m238 := (m183).trans (MF.i mf210 (k := 65) (by decide) (by decide)).symm
    have m239 := (m184).trans (MF.i mf210 (k := 70) (by decide) (by decide)).symm
    have m240 := (m186).trans (MF.r mf210 (k := 73) (by decide) (by decide)).symm
    refine W.eq (g2 := F0 m 584 ls [.int x205]) rfl ?_
    refine lv_pop hx hb dL_law_584 rfl ?_
    refine lv_goto (tgt := 1509) hx hb dL_law_585 (by decide) ?_
    exact nx G H204 locsH204 _ _ ls ⟨hTH204, hN, ga, gb, g206, g207, g208, g209, ⟨(by rw [← m212, ← m232]; exact rt), (by rw [← m211, ← m213, ← m233]; exact r1), (by rw [← m211, ← m214, ← m234]; exact r4), (by rw [← m211, ← m215, ← m235]; exact r5), (by rw [← m211, ← m216, ← m236]; exact r10), (by rw [← m211, ← m217, ← m237]; exact r13), (by rw [← m211, ← m218, ← m238]; exact r16)⟩, Or.inr ⟨kq, m219, gkq, (by rw [← m239]; exact h70), (by rw [← m220, ← m240, ← m221]; exact q1), (by rw [← m222, ← m240, ← m223]; exact q4), (by rw [← m224, ← m240, ← m225]; exact q5), (by rw [← m226, ← m240, ← m227]; exact q10), (by rw [← m228, ← m240, ← m229]; exact q13), (by rw [← m230, ← m240, ← m231]; exact q16)⟩, hSH204⟩ hl ⟨hc, hs, fun h => by have h1 := h.symm.trans m219; cases h1⟩
set_option maxRecDepth 100000 in
set_option maxHeartbeats 1000000 in
theorem lw_c10 {p : Program} {l : Launch} {e : Env} {s : State} {m : MethodId} {below : List Frame} {meth : Method} {c : Code} {K : KE} {b0 L : Nat} {xs : Nat → Int32} {G : Nat → Option Nat} {H : Heap} {locs : List Loc} {a b : Nat} {cells slots : Nat} {ls : Array Slot} {i : Int32} {n : Nat} (D : LC p K s m meth c b0 L xs) (S : SX K s G H locs a b) (hl : lv_has ls 4 [(3, .int i), (2, .ref b), (1, .ref a), (0, .ref b0)]) (hi : 0 ≤ i.toInt ∧ i.toInt + 6 ≤ L) (hn : n ≤ 511) (hB : BD K H a cells slots) (nx : ∀ (G : Nat → Option Nat) (H : Heap) (locs : List Loc) (cells slots : Nat) (ls : Array Slot), SX K s G H locs a b → lv_has ls 4 [(3, .int i), (2, .ref b), (1, .ref a), (0, .ref b0)] → BD K H a cells slots → W p l e room_1 s m #[Value.ref b0] below meth c H locs cells slots (lw_Z below #[Value.ref b0] s) (F0 m 1509 ls [])) : W p l e room_1 s m #[Value.ref b0] below meth c H locs cells slots (lw_Z below #[Value.ref b0] s) (F0 m 588 ls []) := by
  have hI := hi
  obtain ⟨C, hX, hbl, hL⟩ := id D
  obtain ⟨hx, hb, hml, hown, hts, hKT, hr, hlocks, hnm⟩ := id C
  obtain ⟨hT, hN, ga, gb, cg, tu, wd, im, ⟨rt, r1, r4, r5, r10, r13, r16⟩, hk, hS⟩ := S
  obtain ⟨hc, hs, hB0⟩ := hB
  have n_1 : (1 : Int32).toInt = 1 := rfl
  have n_2 : (2 : Int32).toInt = 2 := rfl
  obtain ⟨w, ew⟩ : ∃ z : Nat, z = fR H a (K.1.2 9 0) := ⟨_, rfl⟩
  have gw := ty_fr (q := w) (k := 0) (u := 0) ew hT ga rg_68 rfl
  rw [← ew] at r1 r4 r5 r10 r13 r16
  obtain ⟨ta, eta⟩ : ∃ z : Int32, z = fI H a (K.1.2 9 3) := ⟨_, rfl⟩
  rw [← eta] at rt
  obtain ⟨tb, etb⟩ : ∃ z : Int32, z = fI H b (K.1.2 10 18) := ⟨_, rfl⟩
  rw [← etb] at rt
  obtain ⟨s1, es1⟩ : ∃ z : Int32, z = fI H w (K.1.2 8 1) := ⟨_, rfl⟩
  rw [← es1] at r1
  obtain ⟨y1, ey1⟩ : ∃ z : Int32, z = fI H b (K.1.2 10 1) := ⟨_, rfl⟩
  rw [← ey1] at r1
  obtain ⟨s4, es4⟩ : ∃ z : Int32, z = fI H w (K.1.2 8 4) := ⟨_, rfl⟩
  rw [← es4] at r4
  obtain ⟨y4, ey4⟩ : ∃ z : Int32, z = fI H b (K.1.2 10 2) := ⟨_, rfl⟩
  rw [← ey4] at r4
  obtain ⟨s5, es5⟩ : ∃ z : Int32, z = fI H w (K.1.2 8 5) := ⟨_, rfl⟩
  rw [← es5] at r5
  obtain ⟨y5, ey5⟩ : ∃ z : Int32, z = fI H b (K.1.2 10 3) := ⟨_, rfl⟩
  rw [← ey5] at r5
  obtain ⟨s10, es10⟩ : ∃ z : Int32, z = fI H w (K.1.2 8 10) := ⟨_, rfl⟩
  rw [← es10] at r10
  obtain ⟨y10, ey10⟩ : ∃ z : Int32, z = fI H b (K.1.2 10 59) := ⟨_, rfl⟩
  rw [← ey10] at r10
  obtain ⟨s13, es13⟩ : ∃ z : Int32, z = fI H w (K.1.2 8 13) := ⟨_, rfl⟩
  rw [← es13] at r13
  obtain ⟨y13, ey13⟩ : ∃ z : Int32, z = fI H b (K.1.2 10 62) := ⟨_, rfl⟩
  rw [← ey13] at r13
  obtain ⟨s16, es16⟩ : ∃ z : Int32, z = fI H w (K.1.2 8 16) := ⟨_, rfl⟩
  rw [← es16] at r16
  obtain ⟨y16, ey16⟩ : ∃ z : Int32, z = fI H b (K.1.2 10 65) := ⟨_, rfl⟩
  rw [← ey16] at r16
  rcases hk with ⟨kn, h70⟩ | ⟨kq, kn, gkq, h70, q1, q4, q5, q10, q13, q16⟩
  · skip
    obtain ⟨hi, ehi⟩ : ∃ z : Int32, z = fI H b (K.1.2 10 70) := ⟨_, rfl⟩
    rw [← ehi] at h70
    obtain ⟨hc0, hs0⟩ := hB0 kn
    refine lv_aload_n hx hb dL_law_588 rfl (lv_at hl 2 rfl) ?_
    refine lv_aload_n hx hb dL_law_589 rfl (lv_at hl 3 rfl) ?_
    refine lv_iload_n hx hb dL_law_590 rfl (lv_at hl 0 rfl) ?_
    refine lv_iconst (v := 1) hx hb dL_law_591 (by decide) ?_
    refine lv_iadd hx hb dL_law_592 ?_
    refine lv_topi (fun x101 ex101 => ?_)
    obtain ⟨tx101, ejx101, evx101⟩ := lw_ix (k := 1) ex101 hI hL rfl (by decide)
    clear tx101
    refine va_sld hx hb hX hbl (Nat.not_le.mpr hbl) hS (vp_in_iff.mpr evx101) dL_law_593 ?_
    refine W.eq (g2 := F0 m 594 ls [.int (xs (i.toNatClampNeg + 1)), .ref a]) (congrArg (fun z => F0 m 594 ls [.int (xs z), .ref a]) ejx101) ?_
    refine lv_aload_n hx hb dL_law_594 rfl (lv_at hl 3 rfl) ?_
    refine lv_iload_n hx hb dL_law_595 rfl (lv_at hl 0 rfl) ?_
    refine lv_iconst (v := 2) hx hb dL_law_596 (by decide) ?_
    refine lv_iadd hx hb dL_law_597 ?_
    refine lv_topi (fun x102 ex102 => ?_)
    obtain ⟨tx102, ejx102, evx102⟩ := lw_ix (k := 2) ex102 hI hL rfl (by decide)
    clear tx102
    refine va_sld hx hb hX hbl (Nat.not_le.mpr hbl) hS (vp_in_iff.mpr evx102) dL_law_598 ?_
    refine W.eq (g2 := F0 m 599 ls [.int (xs (i.toNatClampNeg + 2)), .int (xs (i.toNatClampNeg + 1)), .ref a]) (congrArg (fun z => F0 m 599 ls [.int (xs z), .int (xs (i.toNatClampNeg + 1)), .ref a]) ejx102) ?_
    refine x_V (As := [.int (xs (i.toNatClampNeg + 1)), .int (xs (i.toNatClampNeg + 2))]) (rest := []) C (a_X9_tone l K G H ((xs (i.toNatClampNeg + 1))) ((xs (i.toNatClampNeg + 2))) hT ga) yo_X9_tone wM_L_60 ⟨⟨by decide, by decide⟩, show _ ≤ 284929 from Nat.le_trans hc (by decide), show _ ≤ 8247460 from Nat.le_trans hs (by decide)⟩ (x_rv C hT (ci := 9) rfl ga rg_68) rfl hl.1 rfl (Nat.le_of_ble_eq_true rfl) dL_law_599 hS (AE_new hN hS.1) (fun vH103 H103 locsH103 pH103 zH103 kH103 hSH103 => ?_)
    obtain ⟨x104, hvH103, hTH103⟩ := pH103
    subst hvH103
    have g105 : CG (avw K H103 b) := CG.congr (fun k hk j => av_eff hT kH103 gb (by decide) (CG_eff [83, 84] (by decide) k hk)) cg
    have g106 : TU (avw K H103 b) (svw K H103 b) := TU.congr (fun k hk j => av_eff hT kH103 gb (by decide) (TU_eff [83, 84] (by decide) k hk)) (fun k hk => sv_eff hT kH103 gb (by decide)) tu
    have g107 : WD (avw K H103 b) := WD.congr (fun k hk j => av_eff hT kH103 gb (by decide) (WD_eff [83, 84] (by decide) k hk)) wd
    have g108 : IM (avw K H103 b) := IM.congr (fun k hk j => av_eff hT kH103 gb (by decide) (IM_eff [83, 84] (by decide) k hk)) im
    have m109 := (ew).trans (fR_kept (x_lt hT kH103 ga (by decide))).symm
    have m110 := (eta).trans (fI_kept (x_lt hT kH103 ga (by decide))).symm
    have m111 := (etb).trans (fI_kept (x_lt hT kH103 gb (by decide))).symm
    have m112 := (es1).trans (fI_kept (x_lt hT kH103 gw (by decide))).symm
    have m113 := (ey1).trans (fI_kept (x_lt hT kH103 gb (by decide))).symm
    have m114 := (es4).trans (fI_kept (x_lt hT kH103 gw (by decide))).symm
    have m115 := (ey4).trans (fI_kept (x_lt hT kH103 gb (by decide))).symm
    have m116 := (es5).trans (fI_kept (x_lt hT kH103 gw (by decide))).symm
    have m117 := (ey5).trans (fI_kept (x_lt hT kH103 gb (by decide))).symm
    have m118 := (es10).trans (fI_kept (x_lt hT kH103 gw (by decide))).symm
    have m119 := (ey10).trans (fI_kept (x_lt hT kH103 gb (by decide))).symm
    have m120 := (es13).trans (fI_kept (x_lt hT kH103 gw (by decide))).symm
    have m121 := (ey13).trans (fI_kept (x_lt hT kH103 gb (by decide))).symm
    have m122 := (es16).trans (fI_kept (x_lt hT kH103 gw (by decide))).symm
    have m123 := (ey16).trans (fI_kept (x_lt hT kH103 gb (by decide))).symm
    have m124 := (ehi).trans (fI_kept (x_lt hT kH103 gb (by decide))).symm
    have m125 := (fV_kept (x_lt hT kH103 ga (by decide))).trans kn
    refine W.eq (g2 := F0 m 602 ls [.int x104]) rfl ?_
    refine lv_pop hx hb dL_law_602 rfl ?_
    refine lv_aload_n hx hb dL_law_603 rfl (lv_at hl 1 rfl) ?_
    refine lv_aload_n hx hb dL_law_604 rfl (lv_at hl 3 rfl) ?_
    refine lv_iload_n hx hb dL_law_605 rfl (lv_at hl 0 rfl) ?_
    refine lv_iconst (v := 1) hx hb dL_law_606 (by decide) ?_
    refine lv_iadd hx hb dL_law_607 ?_
    refine lv_topi (fun x126 ex126 => ?_)
    obtain ⟨tx126, ejx126, evx126⟩ := lw_ix (k := 1) ex126 hI hL rfl (by decide)
    clear tx126
    refine va_sld hx hb hX hbl (Nat.not_le.mpr hbl) hSH103 (vp_in_iff.mpr evx126) dL_law_608 ?_
    refine W.eq (g2 := F0 m 609 ls [.int (xs (i.toNatClampNeg + 1)), .ref b]) (congrArg (fun z => F0 m 609 ls [.int (xs z), .ref b]) ejx126) ?_
    refine lv_aload_n hx hb dL_law_609 rfl (lv_at hl 3 rfl) ?_
    refine lv_iload_n hx hb dL_law_610 rfl (lv_at hl 0 rfl) ?_
    refine lv_iconst (v := 2) hx hb dL_law_611 (by decide) ?_
    refine lv_iadd hx hb dL_law_612 ?_
    refine lv_topi (fun x127 ex127 => ?_)
    obtain ⟨tx127, ejx127, evx127⟩ := lw_ix (k := 2) ex127 hI hL rfl (by decide)
    clear tx127
    refine va_sld hx hb hX hbl (Nat.not_le.mpr hbl) hSH103 (vp_in_iff.mpr evx127) dL_law_613 ?_
    refine W.eq (g2 := F0 m 614 ls [.int (xs (i.toNatClampNeg + 2)), .int (xs (i.toNatClampNeg + 1)), .ref b]) (congrArg (fun z => F0 m 614 ls [.int (xs z), .int (xs (i.toNatClampNeg + 1)), .ref b]) ejx127) ?_
    refine x_V (As := [.int (xs (i.toNatClampNeg + 1)), .int (xs (i.toNatClampNeg + 2))]) (rest := []) C (a_X10_tone l K G H103 ((xs (i.toNatClampNeg + 1))) ((xs (i.toNatClampNeg + 2))) hTH103 gb g105 g106 g107 g108) yo_X10_tone wM_L_63 ⟨⟨by decide, by decide⟩, show _ ≤ 284929 from Nat.le_trans hc (by decide), show _ ≤ 8247460 from Nat.le_trans hs (by decide)⟩ (x_rv C hTH103 (ci := 10) rfl gb rg_112) rfl hl.1 rfl (Nat.le_of_ble_eq_true rfl) dL_law_614 hSH103 (AE_new hN hSH103.1) (fun vH128 H128 locsH128 pH128 zH128 kH128 hSH128 => ?_)
    obtain ⟨x129, hvH128, g130, g131, g132, g133, mf134, hTH128⟩ := pH128
    subst hvH128
    have m135 := (m109).trans (fR_kept (x_lt hTH103 kH128 ga (by decide))).symm
    have m136 := (m110).trans (fI_kept (x_lt hTH103 kH128 ga (by decide))).symm
    have m137 := (m112).trans (fI_kept (x_lt hTH103 kH128 gw (by decide))).symm
    have m138 := (m114).trans (fI_kept (x_lt hTH103 kH128 gw (by decide))).symm
    have m139 := (m116).trans (fI_kept (x_lt hTH103 kH128 gw (by decide))).symm
    have m140 := (m118).trans (fI_kept (x_lt hTH103 kH128 gw (by decide))).symm
    have m141 := (m120).trans (fI_kept (x_lt hTH103 kH128 gw (by decide))).symm
    have m142 := (m122).trans (fI_kept (x_lt hTH103 kH128 gw (by decide))).symm
    have m143 := (fV_kept (x_lt hTH103 kH128 ga (by decide))).trans m125
    have m144 := (m111).trans (MF.i mf134 (k := 18) (by decide) (by decide)).symm
    have m145 := (m113).trans (MF.i mf134 (k := 1) (by decide) (by decide)).symm
    have m146 := (m115).trans (MF.i mf134 (k := 2) (by decide) (by decide)).symm
    have m147 := (m117).trans (MF.i mf134 (k := 3) (by decide) (by decide)).symm
    have m148 := (m119).trans (MF.i mf134 (k := 59) (by decide) (by decide)).symm
    have m149 := (m121).trans (MF.i mf134 (k := 62) (by decide) (by decide)).symm
    have m150 := (m123).trans (MF.i mf134 (k := 65) (by decide) (by decide)).symm
    have m151 := (m124).trans (MF.i mf134 (k := 70) (by decide) (by decide)).symm
    refine W.eq (g2 := F0 m 617 ls [.int x129]) rfl ?_
    refine lv_pop hx hb dL_law_617 rfl ?_
    refine lv_goto (tgt := 1509) hx hb dL_law_618 (by decide) ?_
    exact nx G H128 locsH128 _ _ ls ⟨hTH128, hN, ga, gb, g130, g131, g132, g133, ⟨(by rw [← m136, ← m144]; exact rt), (by rw [← m135, ← m137, ← m145]; exact r1), (by rw [← m135, ← m138, ← m146]; exact r4), (by rw [← m135, ← m139, ← m147]; exact r5), (by rw [← m135, ← m140, ← m148]; exact r10), (by rw [← m135, ← m141, ← m149]; exact r13), (by rw [← m135, ← m142, ← m150]; exact r16)⟩, Or.inl ⟨m143, (by rw [← m151]; exact h70)⟩, hSH128⟩ hl ⟨hc, hs, fun _ => ⟨hc0, hs0⟩⟩
  · skip
    obtain ⟨hi, ehi⟩ : ∃ z : Int32, z = fI H b (K.1.2 10 70) := ⟨_, rfl⟩
    rw [← ehi] at h70
    obtain ⟨iq, eiq⟩ : ∃ z : Nat, z = fR H b (K.1.2 10 73) := ⟨_, rfl⟩
    have giq := ty_fr (q := iq) (k := 73) (u := 162) eiq hT gb rg_112 rfl
    rw [← eiq] at q1 q4 q5 q10 q13 q16
    obtain ⟨k1, ek1⟩ : ∃ z : Int32, z = fI H kq (K.1.2 8 1) := ⟨_, rfl⟩
    rw [← ek1] at q1
    obtain ⟨i1, ei1⟩ : ∃ z : Int32, z = fI H iq ((0 : Int32).toNatClampNeg) := ⟨_, rfl⟩
    rw [← ei1] at q1
    obtain ⟨k4, ek4⟩ : ∃ z : Int32, z = fI H kq (K.1.2 8 4) := ⟨_, rfl⟩
    rw [← ek4] at q4
    obtain ⟨i4, ei4⟩ : ∃ z : Int32, z = fI H iq ((1 : Int32).toNatClampNeg) := ⟨_, rfl⟩
    rw [← ei4] at q4
    obtain ⟨k5, ek5⟩ : ∃ z : Int32, z = fI H kq (K.1.2 8 5) := ⟨_, rfl⟩
    rw [← ek5] at q5
    obtain ⟨i5, ei5⟩ : ∃ z : Int32, z = fI H iq ((2 : Int32).toNatClampNeg) := ⟨_, rfl⟩
    rw [← ei5] at q5
    obtain ⟨k10, ek10⟩ : ∃ z : Int32, z = fI H kq (K.1.2 8 10) := ⟨_, rfl⟩
    rw [← ek10] at q10
    obtain ⟨i10, ei10⟩ : ∃ z : Int32, z = fI H iq ((3 : Int32).toNatClampNeg) := ⟨_, rfl⟩
    rw [← ei10] at q10
    obtain ⟨k13, ek13⟩ : ∃ z : Int32, z = fI H kq (K.1.2 8 13) := ⟨_, rfl⟩
    rw [← ek13] at q13
    obtain ⟨i13, ei13⟩ : ∃ z : Int32, z = fI H iq ((4 : Int32).toNatClampNeg) := ⟨_, rfl⟩
    rw [← ei13] at q13
    obtain ⟨k16, ek16⟩ : ∃ z : Int32, z = fI H kq (K.1.2 8 16) := ⟨_, rfl⟩
    rw [← ek16] at q16
    obtain ⟨i16, ei16⟩ : ∃ z : Int32, z = fI H iq ((5 : Int32).toNatClampNeg) := ⟨_, rfl⟩
    rw [← ei16] at q16
    refine lv_aload_n hx hb dL_law_588 rfl (lv_at hl 2 rfl) ?_
    refine lv_aload_n hx hb dL_law_589 rfl (lv_at hl 3 rfl) ?_
    refine lv_iload_n hx hb dL_law_590 rfl (lv_at hl 0 rfl) ?_
    refine lv_iconst (v := 1) hx hb dL_law_591 (by decide) ?_
    refine lv_iadd hx hb dL_law_592 ?_
    refine lv_topi (fun x152 ex152 => ?_)
    obtain ⟨tx152, ejx152, evx152⟩ := lw_ix (k := 1) ex152 hI hL rfl (by decide)
    clear tx152
    refine va_sld hx hb hX hbl (Nat.not_le.mpr hbl) hS (vp_in_iff.mpr evx152) dL_law_593 ?_
    refine W.eq (g2 := F0 m 594 ls [.int (xs (i.toNatClampNeg + 1)), .ref a]) (congrArg (fun z => F0 m 594 ls [.int (xs z), .ref a]) ejx152) ?_
    refine lv_aload_n hx hb dL_law_594 rfl (lv_at hl 3 rfl) ?_
    refine lv_iload_n hx hb dL_law_595 rfl (lv_at hl 0 rfl) ?_
    refine lv_iconst (v := 2) hx hb dL_law_596 (by decide) ?_
    refine lv_iadd hx hb dL_law_597 ?_
    refine lv_topi (fun x153 ex153 => ?_)
    obtain ⟨tx153, ejx153, evx153⟩ := lw_ix (k := 2) ex153 hI hL rfl (by decide)
    clear tx153
    refine va_sld hx hb hX hbl (Nat.not_le.mpr hbl) hS (vp_in_iff.mpr evx153) dL_law_598 ?_
    refine W.eq (g2 := F0 m 599 ls [.int (xs (i.toNatClampNeg + 2)), .int (xs (i.toNatClampNeg + 1)), .ref a]) (congrArg (fun z => F0 m 599 ls [.int (xs z), .int (xs (i.toNatClampNeg + 1)), .ref a]) ejx153) ?_
    refine x_V (As := [.int (xs (i.toNatClampNeg + 1)), .int (xs (i.toNatClampNeg + 2))]) (rest := []) C (a_X9_tone l K G H ((xs (i.toNatClampNeg + 1))) ((xs (i.toNatClampNeg + 2))) hT ga) yo_X9_tone wM_L_60 ⟨⟨by decide, by decide⟩, show _ ≤ 284929 from Nat.le_trans hc (by decide), show _ ≤ 8247460 from Nat.le_trans hs (by decide)⟩ (x_rv C hT (ci := 9) rfl ga rg_68) rfl hl.1 rfl (Nat.le_of_ble_eq_true rfl) dL_law_599 hS (AE_new hN hS.1) (fun vH154 H154 locsH154 pH154 zH154 kH154 hSH154 => ?_)
    obtain ⟨x155, hvH154, hTH154⟩ := pH154
    subst hvH154
    have g156 : CG (avw K H154 b) := CG.congr (fun k hk j => av_eff hT kH154 gb (by decide) (CG_eff [83, 84] (by decide) k hk)) cg
    have g157 : TU (avw K H154 b) (svw K H154 b) := TU.congr (fun k hk j => av_eff hT kH154 gb (by decide) (TU_eff [83, 84] (by decide) k hk)) (fun k hk => sv_eff hT kH154 gb (by decide)) tu
    have g158 : WD (avw K H154 b) := WD.congr (fun k hk j => av_eff hT kH154 gb (by decide) (WD_eff [83, 84] (by decide) k hk)) wd
    have g159 : IM (avw K H154 b) := IM.congr (fun k hk j => av_eff hT kH154 gb (by decide) (IM_eff [83, 84] (by decide) k hk)) im
    have m160 := (ew).trans (fR_kept (x_lt hT kH154 ga (by decide))).symm
    have m161 := (eta).trans (fI_kept (x_lt hT kH154 ga (by decide))).symm
    have m162 := (etb).trans (fI_kept (x_lt hT kH154 gb (by decide))).symm
    have m163 := (es1).trans (fI_kept (x_lt hT kH154 gw (by decide))).symm
    have m164 := (ey1).trans (fI_kept (x_lt hT kH154 gb (by decide))).symm
    have m165 := (es4).trans (fI_kept (x_lt hT kH154 gw (by decide))).symm
    have m166 := (ey4).trans (fI_kept (x_lt hT kH154 gb (by decide))).symm
    have m167 := (es5).trans (fI_kept (x_lt hT kH154 gw (by decide))).symm
    have m168 := (ey5).trans (fI_kept (x_lt hT kH154 gb (by decide))).symm
    have m169 := (es10).trans (fI_kept (x_lt hT kH154 gw (by decide))).symm
    have m170 := (ey10).trans (fI_kept (x_lt hT kH154 gb (by decide))).symm
    have m171 := (es13).trans (fI_kept (x_lt hT kH154 gw (by decide))).symm
    have m172 := (ey13).trans (fI_kept (x_lt hT kH154 gb (by decide))).symm
    have m173 := (es16).trans (fI_kept (x_lt hT kH154 gw (by decide))).symm
    have m174 := (ey16).trans (fI_kept (x_lt hT kH154 gb (by decide))).symm
    have m175 := (ehi).trans (fI_kept (x_lt hT kH154 gb (by decide))).symm
    have m176 := (fV_kept (x_lt hT kH154 ga (by decide))).trans kn
    have m177 := (eiq).trans (fR_kept (x_lt hT kH154 gb (by decide))).symm
    have m178 := (ek1).trans (fI_kept (x_lt hT kH154 gkq (by decide))).symm
    have m179 := (ei1).trans (fI_kept (x_lt hT kH154 giq (by decide))).symm
    have m180 := (ek4).trans (fI_kept (x_lt hT kH154 gkq (by decide))).symm
    have m181 := (ei4).trans (fI_kept (x_lt hT kH154 giq (by decide))).symm
    have m182 := (ek5).trans (fI_kept (x_lt hT kH154 gkq (by decide))).symm
    have m183 := (ei5).trans (fI_kept (x_lt hT kH154 giq (by decide))).symm
    have m184 := (ek10).trans (fI_kept (x_lt hT kH154 gkq (by decide))).symm
    have m185 := (ei10).trans (fI_kept (x_lt hT kH154 giq (by decide))).symm
    have m186 := (ek13).trans (fI_kept (x_lt hT kH154 gkq (by decide))).symm
    have m187 := (ei13).trans (fI_kept (x_lt hT kH154 giq (by decide))).symm
    have m188 := (ek16).trans (fI_kept (x_lt hT kH154 gkq (by decide))).symm
    have m189 := (ei16).trans (fI_kept (x_lt hT kH154 giq (by decide))).symm
    refine W.eq (g2 := F0 m 602 ls [.int x155]) rfl ?_
    refine lv_pop hx hb dL_law_602 rfl ?_
    refine lv_aload_n hx hb dL_law_603 rfl (lv_at hl 1 rfl) ?_
    refine lv_aload_n hx hb dL_law_604 rfl (lv_at hl 3 rfl) ?_
    refine lv_iload_n hx hb dL_law_605 rfl (lv_at hl 0 rfl) ?_
    refine lv_iconst (v := 1) hx hb dL_law_606 (by decide) ?_
    refine lv_iadd hx hb dL_law_607 ?_
    refine lv_topi (fun x190 ex190 => ?_)
    obtain ⟨tx190, ejx190, evx190⟩ := lw_ix (k := 1) ex190 hI hL rfl (by decide)
    clear tx190
    refine va_sld hx hb hX hbl (Nat.not_le.mpr hbl) hSH154 (vp_in_iff.mpr evx190) dL_law_608 ?_
    refine W.eq (g2 := F0 m 609 ls [.int (xs (i.toNatClampNeg + 1)), .ref b]) (congrArg (fun z => F0 m 609 ls [.int (xs z), .ref b]) ejx190) ?_
    refine lv_aload_n hx hb dL_law_609 rfl (lv_at hl 3 rfl) ?_
    refine lv_iload_n hx hb dL_law_610 rfl (lv_at hl 0 rfl) ?_
    refine lv_iconst (v := 2) hx hb dL_law_611 (by decide) ?_
    refine lv_iadd hx hb dL_law_612 ?_
    refine lv_topi (fun x191 ex191 => ?_)
    obtain ⟨tx191, ejx191, evx191⟩ := lw_ix (k := 2) ex191 hI hL rfl (by decide)
    clear tx191
    refine va_sld hx hb hX hbl (Nat.not_le.mpr hbl) hSH154 (vp_in_iff.mpr evx191) dL_law_613 ?_
    refine W.eq (g2 := F0 m 614 ls [.int (xs (i.toNatClampNeg + 2)), .int (xs (i.toNatClampNeg + 1)), .ref b]) (congrArg (fun z => F0 m 614 ls [.int (xs z), .int (xs (i.toNatClampNeg + 1)), .ref b]) ejx191) ?_
    refine x_V (As := [.int (xs (i.toNatClampNeg + 1)), .int (xs (i.toNatClampNeg + 2))]) (rest := []) C (a_X10_tone l K G H154 ((xs (i.toNatClampNeg + 1))) ((xs (i.toNatClampNeg + 2))) hTH154 gb g156 g157 g158 g159) yo_X10_tone wM_L_63 ⟨⟨by decide, by decide⟩, show _ ≤ 284929 from Nat.le_trans hc (by decide), show _ ≤ 8247460 from Nat.le_trans hs (by decide)⟩ (x_rv C hTH154 (ci := 10) rfl gb rg_112) rfl hl.1 rfl (Nat.le_of_ble_eq_true rfl) dL_law_614 hSH154 (AE_new hN hSH154.1) (fun vH192 H192 locsH192 pH192 zH192 kH192 hSH192 => ?_)
    obtain ⟨x193, hvH192, g194, g195, g196, g197, mf198, hTH192⟩ := pH192
    subst hvH192
    have m199 := (m160).trans (fR_kept (x_lt hTH154 kH192 ga (by decide))).symm
    have m200 := (m161).trans (fI_kept (x_lt hTH154 kH192 ga (by decide))).symm
    have m201 := (m163).trans (fI_kept (x_lt hTH154 kH192 gw (by decide))).symm
    have m202 := (m165).trans (fI_kept (x_lt hTH154 kH192 gw (by decide))).symm
    have m203 := (m167).trans (fI_kept (x_lt hTH154 kH192 gw (by decide))).symm
    have m204 := (m169).trans (fI_kept (x_lt hTH154 kH192 gw (by decide))).symm
    have m205 := (m171).trans (fI_kept (x_lt hTH154 kH192 gw (by decide))).symm
    have m206 := (m173).trans (fI_kept (x_lt hTH154 kH192 gw (by decide))).symm
    have m207 := (fV_kept (x_lt hTH154 kH192 ga (by decide))).trans m176
    have m208 := (m178).trans (fI_kept (x_lt hTH154 kH192 gkq (by decide))).symm
    have m209 := (m179).trans (fI_kept (x_lt hTH154 kH192 giq (by decide))).symm
    have m210 := (m180).trans (fI_kept (x_lt hTH154 kH192 gkq (by decide))).symm
    have m211 := (m181).trans (fI_kept (x_lt hTH154 kH192 giq (by decide))).symm
    have m212 := (m182).trans (fI_kept (x_lt hTH154 kH192 gkq (by decide))).symm
    have m213 := (m183).trans (fI_kept (x_lt hTH154 kH192 giq (by decide))).symm
    have m214 := (m184).trans (fI_kept (x_lt hTH154 kH192 gkq (by decide))).symm
    have m215 := (m185).trans (fI_kept (x_lt hTH154 kH192 giq (by decide))).symm
    have m216 := (m186).trans (fI_kept (x_lt hTH154 kH192 gkq (by decide))).symm
    have m217 := (m187).trans (fI_kept (x_lt hTH154 kH192 giq (by decide))).symm
    have m218 := (m188).trans (fI_kept (x_lt hTH154 kH192 gkq (by decide))).symm
    have m219 := (m189).trans (fI_kept (x_lt hTH154 kH192 giq (by decide))).symm
    have m220 := (m162).trans (MF.i mf198 (k := 18) (by decide) (by decide)).symm
    have m221 := (m164).trans (MF.i mf198 (k := 1) (by decide) (by decide)).symm
    have m222 := (m166).trans (MF.i mf198 (k := 2) (by decide) (by decide)).symm
    have m223 := (m168).trans (MF.i mf198 (k := 3) (by decide) (by decide)).symm
    have m224 := (m170).trans (MF.i mf198 (k := 59) (by decide) (by decide)).symm
    have m225 := (m172).trans (MF.i mf198 (k := 62) (by decide) (by decide)).symm
    have m226 := (m174).trans (MF.i mf198 (k := 65) (by decide) (by decide)).symm
    have m227 := (m175).trans (MF.i mf198 (k := 70) (by decide) (by decide)).symm
    have m228 := (m177).trans (MF.r mf198 (k := 73) (by decide) (by decide)).symm
    refine W.eq (g2 := F0 m 617 ls [.int x193]) rfl ?_
    refine lv_pop hx hb dL_law_617 rfl ?_
    refine lv_goto (tgt := 1509) hx hb dL_law_618 (by decide) ?_
    exact nx G H192 locsH192 _ _ ls ⟨hTH192, hN, ga, gb, g194, g195, g196, g197, ⟨(by rw [← m200, ← m220]; exact rt), (by rw [← m199, ← m201, ← m221]; exact r1), (by rw [← m199, ← m202, ← m222]; exact r4), (by rw [← m199, ← m203, ← m223]; exact r5), (by rw [← m199, ← m204, ← m224]; exact r10), (by rw [← m199, ← m205, ← m225]; exact r13), (by rw [← m199, ← m206, ← m226]; exact r16)⟩, Or.inr ⟨kq, m207, gkq, (by rw [← m227]; exact h70), (by rw [← m208, ← m228, ← m209]; exact q1), (by rw [← m210, ← m228, ← m211]; exact q4), (by rw [← m212, ← m228, ← m213]; exact q5), (by rw [← m214, ← m228, ← m215]; exact q10), (by rw [← m216, ← m228, ← m217]; exact q13), (by rw [← m218, ← m228, ← m219]; exact q16)⟩, hSH192⟩ hl ⟨hc, hs, fun h => by have h1 := h.symm.trans m207; cases h1⟩
set_option maxRecDepth 100000 in
set_option maxHeartbeats 1000000 in
theorem lw_c11 {p : Program} {l : Launch} {e : Env} {s : State} {m : MethodId} {below : List Frame} {meth : Method} {c : Code} {K : KE} {b0 L : Nat} {xs : Nat → Int32} {G : Nat → Option Nat} {H : Heap} {locs : List Loc} {a b : Nat} {cells slots : Nat} {ls : Array Slot} {i : Int32} {n : Nat} (D : LC p K s m meth c b0 L xs) (S : SX K s G H locs a b) (hl : lv_has ls 4 [(3, .int i), (2, .ref b), (1, .ref a), (0, .ref b0)]) (hi : 0 ≤ i.toInt ∧ i.toInt + 6 ≤ L) (hn : n ≤ 511) (hB : BD K H a cells slots) (nx : ∀ (G : Nat → Option Nat) (H : Heap) (locs : List Loc) (cells slots : Nat) (ls : Array Slot), SX K s G H locs a b → lv_has ls 4 [(3, .int i), (2, .ref b), (1, .ref a), (0, .ref b0)] → BD K H a cells slots → W p l e room_1 s m #[Value.ref b0] below meth c H locs cells slots (lw_Z below #[Value.ref b0] s) (F0 m 1509 ls [])) : W p l e room_1 s m #[Value.ref b0] below meth c H locs cells slots (lw_Z below #[Value.ref b0] s) (F0 m 621 ls []) := by
  have hI := hi
  obtain ⟨C, hX, hbl, hL⟩ := id D
  obtain ⟨hx, hb, hml, hown, hts, hKT, hr, hlocks, hnm⟩ := id C
  obtain ⟨hT, hN, ga, gb, cg, tu, wd, im, ⟨rt, r1, r4, r5, r10, r13, r16⟩, hk, hS⟩ := S
  obtain ⟨hc, hs, hB0⟩ := hB
  have n_1 : (1 : Int32).toInt = 1 := rfl
  have n_2 : (2 : Int32).toInt = 2 := rfl
  have n_3 : (3 : Int32).toInt = 3 := rfl
  obtain ⟨w, ew⟩ : ∃ z : Nat, z = fR H a (K.1.2 9 0) := ⟨_, rfl⟩
  have gw := ty_fr (q := w) (k := 0) (u := 0) ew hT ga rg_68 rfl
  rw [← ew] at r1 r4 r5 r10 r13 r16
  obtain ⟨ta, eta⟩ : ∃ z : Int32, z = fI H a (K.1.2 9 3) := ⟨_, rfl⟩
  rw [← eta] at rt
  obtain ⟨tb, etb⟩ : ∃ z : Int32, z = fI H b (K.1.2 10 18) := ⟨_, rfl⟩
  rw [← etb] at rt
  obtain ⟨s1, es1⟩ : ∃ z : Int32, z = fI H w (K.1.2 8 1) := ⟨_, rfl⟩
  rw [← es1] at r1
  obtain ⟨y1, ey1⟩ : ∃ z : Int32, z = fI H b (K.1.2 10 1) := ⟨_, rfl⟩
  rw [← ey1] at r1
  obtain ⟨s4, es4⟩ : ∃ z : Int32, z = fI H w (K.1.2 8 4) := ⟨_, rfl⟩
  rw [← es4] at r4
  obtain ⟨y4, ey4⟩ : ∃ z : Int32, z = fI H b (K.1.2 10 2) := ⟨_, rfl⟩
  rw [← ey4] at r4
  obtain ⟨s5, es5⟩ : ∃ z : Int32, z = fI H w (K.1.2 8 5) := ⟨_, rfl⟩
  rw [← es5] at r5
  obtain ⟨y5, ey5⟩ : ∃ z : Int32, z = fI H b (K.1.2 10 3) := ⟨_, rfl⟩
  rw [← ey5] at r5
  obtain ⟨s10, es10⟩ : ∃ z : Int32, z = fI H w (K.1.2 8 10) := ⟨_, rfl⟩
  rw [← es10] at r10
  obtain ⟨y10, ey10⟩ : ∃ z : Int32, z = fI H b (K.1.2 10 59) := ⟨_, rfl⟩
  rw [← ey10] at r10
  obtain ⟨s13, es13⟩ : ∃ z : Int32, z = fI H w (K.1.2 8 13) := ⟨_, rfl⟩
  rw [← es13] at r13
  obtain ⟨y13, ey13⟩ : ∃ z : Int32, z = fI H b (K.1.2 10 62) := ⟨_, rfl⟩
  rw [← ey13] at r13
  obtain ⟨s16, es16⟩ : ∃ z : Int32, z = fI H w (K.1.2 8 16) := ⟨_, rfl⟩
  rw [← es16] at r16
  obtain ⟨y16, ey16⟩ : ∃ z : Int32, z = fI H b (K.1.2 10 65) := ⟨_, rfl⟩
  rw [← ey16] at r16
  rcases hk with ⟨kn, h70⟩ | ⟨kq, kn, gkq, h70, q1, q4, q5, q10, q13, q16⟩
  · skip
    obtain ⟨hi, ehi⟩ : ∃ z : Int32, z = fI H b (K.1.2 10 70) := ⟨_, rfl⟩
    rw [← ehi] at h70
    obtain ⟨hc0, hs0⟩ := hB0 kn
    refine lv_aload_n hx hb dL_law_621 rfl (lv_at hl 2 rfl) ?_
    refine lv_aload_n hx hb dL_law_622 rfl (lv_at hl 3 rfl) ?_
    refine lv_iload_n hx hb dL_law_623 rfl (lv_at hl 0 rfl) ?_
    refine lv_iconst (v := 1) hx hb dL_law_624 (by decide) ?_
    refine lv_iadd hx hb dL_law_625 ?_
    refine lv_topi (fun x101 ex101 => ?_)
    obtain ⟨tx101, ejx101, evx101⟩ := lw_ix (k := 1) ex101 hI hL rfl (by decide)
    clear tx101
    refine va_sld hx hb hX hbl (Nat.not_le.mpr hbl) hS (vp_in_iff.mpr evx101) dL_law_626 ?_
    refine W.eq (g2 := F0 m 627 ls [.int (xs (i.toNatClampNeg + 1)), .ref a]) (congrArg (fun z => F0 m 627 ls [.int (xs z), .ref a]) ejx101) ?_
    refine lv_aload_n hx hb dL_law_627 rfl (lv_at hl 3 rfl) ?_
    refine lv_iload_n hx hb dL_law_628 rfl (lv_at hl 0 rfl) ?_
    refine lv_iconst (v := 2) hx hb dL_law_629 (by decide) ?_
    refine lv_iadd hx hb dL_law_630 ?_
    refine lv_topi (fun x102 ex102 => ?_)
    obtain ⟨tx102, ejx102, evx102⟩ := lw_ix (k := 2) ex102 hI hL rfl (by decide)
    clear tx102
    refine va_sld hx hb hX hbl (Nat.not_le.mpr hbl) hS (vp_in_iff.mpr evx102) dL_law_631 ?_
    refine W.eq (g2 := F0 m 632 ls [.int (xs (i.toNatClampNeg + 2)), .int (xs (i.toNatClampNeg + 1)), .ref a]) (congrArg (fun z => F0 m 632 ls [.int (xs z), .int (xs (i.toNatClampNeg + 1)), .ref a]) ejx102) ?_
    refine lv_aload_n hx hb dL_law_632 rfl (lv_at hl 3 rfl) ?_
    refine lv_iload_n hx hb dL_law_633 rfl (lv_at hl 0 rfl) ?_
    refine lv_iconst (v := 3) hx hb dL_law_634 (by decide) ?_
    refine lv_iadd hx hb dL_law_635 ?_
    refine lv_topi (fun x103 ex103 => ?_)
    obtain ⟨tx103, ejx103, evx103⟩ := lw_ix (k := 3) ex103 hI hL rfl (by decide)
    clear tx103
    refine va_sld hx hb hX hbl (Nat.not_le.mpr hbl) hS (vp_in_iff.mpr evx103) dL_law_636 ?_
    refine W.eq (g2 := F0 m 637 ls [.int (xs (i.toNatClampNeg + 3)), .int (xs (i.toNatClampNeg + 2)), .int (xs (i.toNatClampNeg + 1)), .ref a]) (congrArg (fun z => F0 m 637 ls [.int (xs z), .int (xs (i.toNatClampNeg + 2)), .int (xs (i.toNatClampNeg + 1)), .ref a]) ejx103) ?_
    refine x_V (As := [.int (xs (i.toNatClampNeg + 1)), .int (xs (i.toNatClampNeg + 2)), .int (xs (i.toNatClampNeg + 3))]) (rest := []) C (a_X9_shave l K G H ((xs (i.toNatClampNeg + 1))) ((xs (i.toNatClampNeg + 2))) ((xs (i.toNatClampNeg + 3))) hT ga) yo_X9_shave wM_L_64 ⟨⟨by decide, by decide⟩, show _ ≤ 284929 from Nat.le_trans hc (by decide), show _ ≤ 8247460 from Nat.le_trans hs (by decide)⟩ (x_rv C hT (ci := 9) rfl ga rg_68) rfl hl.1 rfl (Nat.le_of_ble_eq_true rfl) dL_law_637 hS (AE_new hN hS.1) (fun vH104 H104 locsH104 pH104 zH104 kH104 hSH104 => ?_)
    obtain ⟨x105, hvH104, hTH104⟩ := pH104
    subst hvH104
    have g106 : CG (avw K H104 b) := CG.congr (fun k hk j => av_eff hT kH104 gb (by decide) (CG_eff [1, 2, 7, 8, 83, 84] (by decide) k hk)) cg
    have g107 : TU (avw K H104 b) (svw K H104 b) := TU.congr (fun k hk j => av_eff hT kH104 gb (by decide) (TU_eff [1, 2, 7, 8, 83, 84] (by decide) k hk)) (fun k hk => sv_eff hT kH104 gb (by decide)) tu
    have g108 : WD (avw K H104 b) := WD.congr (fun k hk j => av_eff hT kH104 gb (by decide) (WD_eff [1, 2, 7, 8, 83, 84] (by decide) k hk)) wd
    have g109 : IM (avw K H104 b) := IM.congr (fun k hk j => av_eff hT kH104 gb (by decide) (IM_eff [1, 2, 7, 8, 83, 84] (by decide) k hk)) im
    have m110 := (ew).trans (fR_kept (x_lt hT kH104 ga (by decide))).symm
    have m111 := (eta).trans (fI_kept (x_lt hT kH104 ga (by decide))).symm
    have m112 := (etb).trans (fI_kept (x_lt hT kH104 gb (by decide))).symm
    have m113 := (es1).trans (fI_kept (x_lt hT kH104 gw (by decide))).symm
    have m114 := (ey1).trans (fI_kept (x_lt hT kH104 gb (by decide))).symm
    have m115 := (es4).trans (fI_kept (x_lt hT kH104 gw (by decide))).symm
    have m116 := (ey4).trans (fI_kept (x_lt hT kH104 gb (by decide))).symm
    have m117 := (es5).trans (fI_kept (x_lt hT kH104 gw (by decide))).symm
    have m118 := (ey5).trans (fI_kept (x_lt hT kH104 gb (by decide))).symm
    have m119 := (es10).trans (fI_kept (x_lt hT kH104 gw (by decide))).symm
    have m120 := (ey10).trans (fI_kept (x_lt hT kH104 gb (by decide))).symm
    have m121 := (es13).trans (fI_kept (x_lt hT kH104 gw (by decide))).symm
    have m122 := (ey13).trans (fI_kept (x_lt hT kH104 gb (by decide))).symm
    have m123 := (es16).trans (fI_kept (x_lt hT kH104 gw (by decide))).symm
    have m124 := (ey16).trans (fI_kept (x_lt hT kH104 gb (by decide))).symm
    have m125 := (ehi).trans (fI_kept (x_lt hT kH104 gb (by decide))).symm
    have m126 := (fV_kept (x_lt hT kH104 ga (by decide))).trans kn
    refine W.eq (g2 := F0 m 640 ls [.int x105]) rfl ?_
    refine lv_pop hx hb dL_law_640 rfl ?_
    refine lv_aload_n hx hb dL_law_641 rfl (lv_at hl 1 rfl) ?_
    refine lv_aload_n hx hb dL_law_642 rfl (lv_at hl 3 rfl) ?_
    refine lv_iload_n hx hb dL_law_643 rfl (lv_at hl 0 rfl) ?_
    refine lv_iconst (v := 1) hx hb dL_law_644 (by decide) ?_
    refine lv_iadd hx hb dL_law_645 ?_
    refine lv_topi (fun x127 ex127 => ?_)
    obtain ⟨tx127, ejx127, evx127⟩ := lw_ix (k := 1) ex127 hI hL rfl (by decide)
    clear tx127
    refine va_sld hx hb hX hbl (Nat.not_le.mpr hbl) hSH104 (vp_in_iff.mpr evx127) dL_law_646 ?_
    refine W.eq (g2 := F0 m 647 ls [.int (xs (i.toNatClampNeg + 1)), .ref b]) (congrArg (fun z => F0 m 647 ls [.int (xs z), .ref b]) ejx127) ?_
    refine lv_aload_n hx hb dL_law_647 rfl (lv_at hl 3 rfl) ?_
    refine lv_iload_n hx hb dL_law_648 rfl (lv_at hl 0 rfl) ?_
    refine lv_iconst (v := 2) hx hb dL_law_649 (by decide) ?_
    refine lv_iadd hx hb dL_law_650 ?_
    refine lv_topi (fun x128 ex128 => ?_)
    obtain ⟨tx128, ejx128, evx128⟩ := lw_ix (k := 2) ex128 hI hL rfl (by decide)
    clear tx128
    refine va_sld hx hb hX hbl (Nat.not_le.mpr hbl) hSH104 (vp_in_iff.mpr evx128) dL_law_651 ?_
    refine W.eq (g2 := F0 m 652 ls [.int (xs (i.toNatClampNeg + 2)), .int (xs (i.toNatClampNeg + 1)), .ref b]) (congrArg (fun z => F0 m 652 ls [.int (xs z), .int (xs (i.toNatClampNeg + 1)), .ref b]) ejx128) ?_
    refine lv_aload_n hx hb dL_law_652 rfl (lv_at hl 3 rfl) ?_
    refine lv_iload_n hx hb dL_law_653 rfl (lv_at hl 0 rfl) ?_
    refine lv_iconst (v := 3) hx hb dL_law_654 (by decide) ?_
    refine lv_iadd hx hb dL_law_655 ?_
    refine lv_topi (fun x129 ex129 => ?_)
    obtain ⟨tx129, ejx129, evx129⟩ := lw_ix (k := 3) ex129 hI hL rfl (by decide)
    clear tx129
    refine va_sld hx hb hX hbl (Nat.not_le.mpr hbl) hSH104 (vp_in_iff.mpr evx129) dL_law_656 ?_
    refine W.eq (g2 := F0 m 657 ls [.int (xs (i.toNatClampNeg + 3)), .int (xs (i.toNatClampNeg + 2)), .int (xs (i.toNatClampNeg + 1)), .ref b]) (congrArg (fun z => F0 m 657 ls [.int (xs z), .int (xs (i.toNatClampNeg + 2)), .int (xs (i.toNatClampNeg + 1)), .ref b]) ejx129) ?_
    refine x_V (As := [.int (xs (i.toNatClampNeg + 1)), .int (xs (i.toNatClampNeg + 2)), .int (xs (i.toNatClampNeg + 3))]) (rest := []) C (a_X10_shave l K G H104 ((xs (i.toNatClampNeg + 1))) ((xs (i.toNatClampNeg + 2))) ((xs (i.toNatClampNeg + 3))) hTH104 gb g106 g107 g108 g109) yo_X10_shave wM_L_67 ⟨⟨by decide, by decide⟩, show _ ≤ 284929 from Nat.le_trans hc (by decide), show _ ≤ 8247460 from Nat.le_trans hs (by decide)⟩ (x_rv C hTH104 (ci := 10) rfl gb rg_112) rfl hl.1 rfl (Nat.le_of_ble_eq_true rfl) dL_law_657 hSH104 (AE_new hN hSH104.1) (fun vH130 H130 locsH130 pH130 zH130 kH130 hSH130 => ?_)
    obtain ⟨x131, hvH130, g132, g133, g134, g135, mf136, hTH130⟩ := pH130
    subst hvH130
    have m137 := (m110).trans (fR_kept (x_lt hTH104 kH130 ga (by decide))).symm
    have m138 := (m111).trans (fI_kept (x_lt hTH104 kH130 ga (by decide))).symm
    have m139 := (m113).trans (fI_kept (x_lt hTH104 kH130 gw (by decide))).symm
    have m140 := (m115).trans (fI_kept (x_lt hTH104 kH130 gw (by decide))).symm
    have m141 := (m117).trans (fI_kept (x_lt hTH104 kH130 gw (by decide))).symm
    have m142 := (m119).trans (fI_kept (x_lt hTH104 kH130 gw (by decide))).symm
    have m143 := (m121).trans (fI_kept (x_lt hTH104 kH130 gw (by decide))).symm
    have m144 := (m123).trans (fI_kept (x_lt hTH104 kH130 gw (by decide))).symm
    have m145 := (fV_kept (x_lt hTH104 kH130 ga (by decide))).trans m126
    have m146 := (m112).trans (MF.i mf136 (k := 18) (by decide) (by decide)).symm
    have m147 := (m114).trans (MF.i mf136 (k := 1) (by decide) (by decide)).symm
    have m148 := (m116).trans (MF.i mf136 (k := 2) (by decide) (by decide)).symm
    have m149 := (m118).trans (MF.i mf136 (k := 3) (by decide) (by decide)).symm
    have m150 := (m120).trans (MF.i mf136 (k := 59) (by decide) (by decide)).symm
    have m151 := (m122).trans (MF.i mf136 (k := 62) (by decide) (by decide)).symm
    have m152 := (m124).trans (MF.i mf136 (k := 65) (by decide) (by decide)).symm
    have m153 := (m125).trans (MF.i mf136 (k := 70) (by decide) (by decide)).symm
    refine W.eq (g2 := F0 m 660 ls [.int x131]) rfl ?_
    refine lv_pop hx hb dL_law_660 rfl ?_
    refine lv_goto (tgt := 1509) hx hb dL_law_661 (by decide) ?_
    exact nx G H130 locsH130 _ _ ls ⟨hTH130, hN, ga, gb, g132, g133, g134, g135, ⟨(by rw [← m138, ← m146]; exact rt), (by rw [← m137, ← m139, ← m147]; exact r1), (by rw [← m137, ← m140, ← m148]; exact r4), (by rw [← m137, ← m141, ← m149]; exact r5), (by rw [← m137, ← m142, ← m150]; exact r10), (by rw [← m137, ← m143, ← m151]; exact r13), (by rw [← m137, ← m144, ← m152]; exact r16)⟩, Or.inl ⟨m145, (by rw [← m153]; exact h70)⟩, hSH130⟩ hl ⟨hc, hs, fun _ => ⟨hc0, hs0⟩⟩
  · skip
    obtain ⟨hi, ehi⟩ : ∃ z : Int32, z = fI H b (K.1.2 10 70) := ⟨_, rfl⟩
    rw [← ehi] at h70
    obtain ⟨iq, eiq⟩ : ∃ z : Nat, z = fR H b (K.1.2 10 73) := ⟨_, rfl⟩
    have giq := ty_fr (q := iq) (k := 73) (u := 162) eiq hT gb rg_112 rfl
    rw [← eiq] at q1 q4 q5 q10 q13 q16
    obtain ⟨k1, ek1⟩ : ∃ z : Int32, z = fI H kq (K.1.2 8 1) := ⟨_, rfl⟩
    rw [← ek1] at q1
    obtain ⟨i1, ei1⟩ : ∃ z : Int32, z = fI H iq ((0 : Int32).toNatClampNeg) := ⟨_, rfl⟩
    rw [← ei1] at q1
    obtain ⟨k4, ek4⟩ : ∃ z : Int32, z = fI H kq (K.1.2 8 4) := ⟨_, rfl⟩
    rw [← ek4] at q4
    obtain ⟨i4, ei4⟩ : ∃ z : Int32, z = fI H iq ((1 : Int32).toNatClampNeg) := ⟨_, rfl⟩
    rw [← ei4] at q4
    obtain ⟨k5, ek5⟩ : ∃ z : Int32, z = fI H kq (K.1.2 8 5) := ⟨_, rfl⟩
    rw [← ek5] at q5
    obtain ⟨i5, ei5⟩ : ∃ z : Int32, z = fI H iq ((2 : Int32).toNatClampNeg) := ⟨_, rfl⟩
    rw [← ei5] at q5
    obtain ⟨k10, ek10⟩ : ∃ z : Int32, z = fI H kq (K.1.2 8 10) := ⟨_, rfl⟩
    rw [← ek10] at q10
    obtain ⟨i10, ei10⟩ : ∃ z : Int32, z = fI H iq ((3 : Int32).toNatClampNeg) := ⟨_, rfl⟩
    rw [← ei10] at q10
    obtain ⟨k13, ek13⟩ : ∃ z : Int32, z = fI H kq (K.1.2 8 13) := ⟨_, rfl⟩
    rw [← ek13] at q13
    obtain ⟨i13, ei13⟩ : ∃ z : Int32, z = fI H iq ((4 : Int32).toNatClampNeg) := ⟨_, rfl⟩
    rw [← ei13] at q13
    obtain ⟨k16, ek16⟩ : ∃ z : Int32, z = fI H kq (K.1.2 8 16) := ⟨_, rfl⟩
    rw [← ek16] at q16
    obtain ⟨i16, ei16⟩ : ∃ z : Int32, z = fI H iq ((5 : Int32).toNatClampNeg) := ⟨_, rfl⟩
    rw [← ei16] at q16
    refine lv_aload_n hx hb dL_law_621 rfl (lv_at hl 2 rfl) ?_
    refine lv_aload_n hx hb dL_law_622 rfl (lv_at hl 3 rfl) ?_
    refine lv_iload_n hx hb dL_law_623 rfl (lv_at hl 0 rfl) ?_
    refine lv_iconst (v := 1) hx hb dL_law_624 (by decide) ?_
    refine lv_iadd hx hb dL_law_625 ?_
    refine lv_topi (fun x154 ex154 => ?_)
    obtain ⟨tx154, ejx154, evx154⟩ := lw_ix (k := 1) ex154 hI hL rfl (by decide)
    clear tx154
    refine va_sld hx hb hX hbl (Nat.not_le.mpr hbl) hS (vp_in_iff.mpr evx154) dL_law_626 ?_
    refine W.eq (g2 := F0 m 627 ls [.int (xs (i.toNatClampNeg + 1)), .ref a]) (congrArg (fun z => F0 m 627 ls [.int (xs z), .ref a]) ejx154) ?_
    refine lv_aload_n hx hb dL_law_627 rfl (lv_at hl 3 rfl) ?_
    refine lv_iload_n hx hb dL_law_628 rfl (lv_at hl 0 rfl) ?_
    refine lv_iconst (v := 2) hx hb dL_law_629 (by decide) ?_
    refine lv_iadd hx hb dL_law_630 ?_
    refine lv_topi (fun x155 ex155 => ?_)
    obtain ⟨tx155, ejx155, evx155⟩ := lw_ix (k := 2) ex155 hI hL rfl (by decide)
    clear tx155
    refine va_sld hx hb hX hbl (Nat.not_le.mpr hbl) hS (vp_in_iff.mpr evx155) dL_law_631 ?_
    refine W.eq (g2 := F0 m 632 ls [.int (xs (i.toNatClampNeg + 2)), .int (xs (i.toNatClampNeg + 1)), .ref a]) (congrArg (fun z => F0 m 632 ls [.int (xs z), .int (xs (i.toNatClampNeg + 1)), .ref a]) ejx155) ?_
    refine lv_aload_n hx hb dL_law_632 rfl (lv_at hl 3 rfl) ?_
    refine lv_iload_n hx hb dL_law_633 rfl (lv_at hl 0 rfl) ?_
    refine lv_iconst (v := 3) hx hb dL_law_634 (by decide) ?_
    refine lv_iadd hx hb dL_law_635 ?_
    refine lv_topi (fun x156 ex156 => ?_)
    obtain ⟨tx156, ejx156, evx156⟩ := lw_ix (k := 3) ex156 hI hL rfl (by decide)
    clear tx156
    refine va_sld hx hb hX hbl (Nat.not_le.mpr hbl) hS (vp_in_iff.mpr evx156) dL_law_636 ?_
    refine W.eq (g2 := F0 m 637 ls [.int (xs (i.toNatClampNeg + 3)), .int (xs (i.toNatClampNeg + 2)), .int (xs (i.toNatClampNeg + 1)), .ref a]) (congrArg (fun z => F0 m 637 ls [.int (xs z), .int (xs (i.toNatClampNeg + 2)), .int (xs (i.toNatClampNeg + 1)), .ref a]) ejx156) ?_
    refine x_V (As := [.int (xs (i.toNatClampNeg + 1)), .int (xs (i.toNatClampNeg + 2)), .int (xs (i.toNatClampNeg + 3))]) (rest := []) C (a_X9_shave l K G H ((xs (i.toNatClampNeg + 1))) ((xs (i.toNatClampNeg + 2))) ((xs (i.toNatClampNeg + 3))) hT ga) yo_X9_shave wM_L_64 ⟨⟨by decide, by decide⟩, show _ ≤ 284929 from Nat.le_trans hc (by decide), show _ ≤ 8247460 from Nat.le_trans hs (by decide)⟩ (x_rv C hT (ci := 9) rfl ga rg_68) rfl hl.1 rfl (Nat.le_of_ble_eq_true rfl) dL_law_637 hS (AE_new hN hS.1) (fun vH157 H157 locsH157 pH157 zH157 kH157 hSH157 => ?_)
    obtain ⟨x158, hvH157, hTH157⟩ := pH157
    subst hvH157
    have g159 : CG (avw K H157 b) := CG.congr (fun k hk j => av_eff hT kH157 gb (by decide) (CG_eff [1, 2, 7, 8, 83, 84] (by decide) k hk)) cg
    have g160 : TU (avw K H157 b) (svw K H157 b) := TU.congr (fun k hk j => av_eff hT kH157 gb (by decide) (TU_eff [1, 2, 7, 8, 83, 84] (by decide) k hk)) (fun k hk => sv_eff hT kH157 gb (by decide)) tu
    have g161 : WD (avw K H157 b) := WD.congr (fun k hk j => av_eff hT kH157 gb (by decide) (WD_eff [1, 2, 7, 8, 83, 84] (by decide) k hk)) wd
    have g162 : IM (avw K H157 b) := IM.congr (fun k hk j => av_eff hT kH157 gb (by decide) (IM_eff [1, 2, 7, 8, 83, 84] (by decide) k hk)) im
    have m163 := (ew).trans (fR_kept (x_lt hT kH157 ga (by decide))).symm
    have m164 := (eta).trans (fI_kept (x_lt hT kH157 ga (by decide))).symm
    have m165 := (etb).trans (fI_kept (x_lt hT kH157 gb (by decide))).symm
    have m166 := (es1).trans (fI_kept (x_lt hT kH157 gw (by decide))).symm
    have m167 := (ey1).trans (fI_kept (x_lt hT kH157 gb (by decide))).symm
    have m168 := (es4).trans (fI_kept (x_lt hT kH157 gw (by decide))).symm
    have m169 := (ey4).trans (fI_kept (x_lt hT kH157 gb (by decide))).symm
    have m170 := (es5).trans (fI_kept (x_lt hT kH157 gw (by decide))).symm
    have m171 := (ey5).trans (fI_kept (x_lt hT kH157 gb (by decide))).symm
    have m172 := (es10).trans (fI_kept (x_lt hT kH157 gw (by decide))).symm
    have m173 := (ey10).trans (fI_kept (x_lt hT kH157 gb (by decide))).symm
    have m174 := (es13).trans (fI_kept (x_lt hT kH157 gw (by decide))).symm
    have m175 := (ey13).trans (fI_kept (x_lt hT kH157 gb (by decide))).symm
    have m176 := (es16).trans (fI_kept (x_lt hT kH157 gw (by decide))).symm
    have m177 := (ey16).trans (fI_kept (x_lt hT kH157 gb (by decide))).symm
    have m178 := (ehi).trans (fI_kept (x_lt hT kH157 gb (by decide))).symm
    have m179 := (fV_kept (x_lt hT kH157 ga (by decide))).trans kn
    have m180 := (eiq).trans (fR_kept (x_lt hT kH157 gb (by decide))).symm
    have m181 := (ek1).trans (fI_kept (x_lt hT kH157 gkq (by decide))).symm
    have m182 := (ei1).trans (fI_kept (x_lt hT kH157 giq (by decide))).symm
    have m183 := (ek4).trans (fI_kept (x_lt hT kH157 gkq (by decide))).symm
    have m184 := (ei4).trans (fI_kept (x_lt hT kH157 giq (by decide))).symm
    have m185 := (ek5).trans (fI_kept (x_lt hT kH157 gkq (by decide))).symm
    have m186 := (ei5).trans (fI_kept (x_lt hT kH157 giq (by decide))).symm
    have m187 := (ek10).trans (fI_kept (x_lt hT kH157 gkq (by decide))).symm
    have m188 := (ei10).trans (fI_kept (x_lt hT kH157 giq (by decide))).symm
    have m189 := (ek13).trans (fI_kept (x_lt hT kH157 gkq (by decide))).symm
    have m190 := (ei13).trans (fI_kept (x_lt hT kH157 giq (by decide))).symm
    have m191 := (ek16).trans (fI_kept (x_lt hT kH157 gkq (by decide))).symm
    have m192 := (ei16).trans (fI_kept (x_lt hT kH157 giq (by decide))).symm
    refine W.eq (g2 := F0 m 640 ls [.int x158]) rfl ?_
    refine lv_pop hx hb dL_law_640 rfl ?_
    refine lv_aload_n hx hb dL_law_641 rfl (lv_at hl 1 rfl) ?_
    refine lv_aload_n hx hb dL_law_642 rfl (lv_at hl 3 rfl) ?_
    refine lv_iload_n hx hb dL_law_643 rfl (lv_at hl 0 rfl) ?_
    refine lv_iconst (v := 1) hx hb dL_law_644 (by decide) ?_
    refine lv_iadd hx hb dL_law_645 ?_
    refine lv_topi (fun x193 ex193 => ?_)
    obtain ⟨tx193, ejx193, evx193⟩ := lw_ix (k := 1) ex193 hI hL rfl (by decide)
    clear tx193
    refine va_sld hx hb hX hbl (Nat.not_le.mpr hbl) hSH157 (vp_in_iff.mpr evx193) dL_law_646 ?_
    refine W.eq (g2 := F0 m 647 ls [.int (xs (i.toNatClampNeg + 1)), .ref b]) (congrArg (fun z => F0 m 647 ls [.int (xs z), .ref b]) ejx193) ?_
    refine lv_aload_n hx hb dL_law_647 rfl (lv_at hl 3 rfl) ?_
    refine lv_iload_n hx hb dL_law_648 rfl (lv_at hl 0 rfl) ?_
    refine lv_iconst (v := 2) hx hb dL_law_649 (by decide) ?_
    refine lv_iadd hx hb dL_law_650 ?_
    refine lv_topi (fun x194 ex194 => ?_)
    obtain ⟨tx194, ejx194, evx194⟩ := lw_ix (k := 2) ex194 hI hL rfl (by decide)
    clear tx194
    refine va_sld hx hb hX hbl (Nat.not_le.mpr hbl) hSH157 (vp_in_iff.mpr evx194) dL_law_651 ?_
    refine W.eq (g2 := F0 m 652 ls [.int (xs (i.toNatClampNeg + 2)), .int (xs (i.toNatClampNeg + 1)), .ref b]) (congrArg (fun z => F0 m 652 ls [.int (xs z), .int (xs (i.toNatClampNeg + 1)), .ref b]) ejx194) ?_
    refine lv_aload_n hx hb dL_law_652 rfl (lv_at hl 3 rfl) ?_
    refine lv_iload_n hx hb dL_law_653 rfl (lv_at hl 0 rfl) ?_
    refine lv_iconst (v := 3) hx hb dL_law_654 (by decide) ?_
    refine lv_iadd hx hb dL_law_655 ?_
    refine lv_topi (fun x195 ex195 => ?_)
    obtain ⟨tx195, ejx195, evx195⟩ := lw_ix (k := 3) ex195 hI hL rfl (by decide)
    clear tx195
    refine va_sld hx hb hX hbl (Nat.not_le.mpr hbl) hSH157 (vp_in_iff.mpr evx195) dL_law_656 ?_
    refine W.eq (g2 := F0 m 657 ls [.int (xs (i.toNatClampNeg + 3)), .int (xs (i.toNatClampNeg + 2)), .int (xs (i.toNatClampNeg + 1)), .ref b]) (congrArg (fun z => F0 m 657 ls [.int (xs z), .int (xs (i.toNatClampNeg + 2)), .int (xs (i.toNatClampNeg + 1)), .ref b]) ejx195) ?_
    refine x_V (As := [.int (xs (i.toNatClampNeg + 1)), .int (xs (i.toNatClampNeg + 2)), .int (xs (i.toNatClampNeg + 3))]) (rest := []) C (a_X10_shave l K G H157 ((xs (i.toNatClampNeg + 1))) ((xs (i.toNatClampNeg + 2))) ((xs (i.toNatClampNeg + 3))) hTH157 gb g159 g160 g161 g162) yo_X10_shave wM_L_67 ⟨⟨by decide, by decide⟩, show _ ≤ 284929 from Nat.le_trans hc (by decide), show _ ≤ 8247460 from Nat.le_trans hs (by decide)⟩ (x_rv C hTH157 (ci := 10) rfl gb rg_112) rfl hl.1 rfl (Nat.le_of_ble_eq_true rfl) dL_law_657 hSH157 (AE_new hN hSH157.1) (fun vH196 H196 locsH196 pH196 zH196 kH196 hSH196 => ?_)
    obtain ⟨x197, hvH196, g198, g199, g200, g201, mf202, hTH196⟩ := pH196
    subst hvH196
    have m203 := (m163).trans (fR_kept (x_lt hTH157 kH196 ga (by decide))).symm
    have m204 := (m164).trans (fI_kept (x_lt hTH157 kH196 ga (by decide))).symm
    have m205 := (m166).trans (fI_kept (x_lt hTH157 kH196 gw (by decide))).symm
    have m206 := (m168).trans (fI_kept (x_lt hTH157 kH196 gw (by decide))).symm
    have m207 := (m170).trans (fI_kept (x_lt hTH157 kH196 gw (by decide))).symm
    have m208 := (m172).trans (fI_kept (x_lt hTH157 kH196 gw (by decide))).symm
    have m209 := (m174).trans (fI_kept (x_lt hTH157 kH196 gw (by decide))).symm
    have m210 := (m176).trans (fI_kept (x_lt hTH157 kH196 gw (by decide))).symm
    have m211 := (fV_kept (x_lt hTH157 kH196 ga (by decide))).trans m179
    have m212 := (m181).trans (fI_kept (x_lt hTH157 kH196 gkq (by decide))).symm
    have m213 := (m182).trans (fI_kept (x_lt hTH157 kH196 giq (by decide))).symm
    have m214 := (m183).trans (fI_kept (x_lt hTH157 kH196 gkq (by decide))).symm
    have m215 := (m184).trans (fI_kept (x_lt hTH157 kH196 giq (by decide))).symm
    have m216 := (m185).trans (fI_kept (x_lt hTH157 kH196 gkq (by decide))).symm
    have m217 := (m186).trans (fI_kept (x_lt hTH157 kH196 giq (by decide))).symm
    have m218 := (m187).trans (fI_kept (x_lt hTH157 kH196 gkq (by decide))).symm
    have m219 := (m188).trans (fI_kept (x_lt hTH157 kH196 giq (by decide))).symm
    have m220 := (m189).trans (fI_kept (x_lt hTH157 kH196 gkq (by decide))).symm
    have m221 := (m190).trans (fI_kept (x_lt hTH157 kH196 giq (by decide))).symm
    have m222 := (m191).trans (fI_kept (x_lt hTH157 kH196 gkq (by decide))).symm
    have m223 := (m192).trans (fI_kept (x_lt hTH157 kH196 giq (by decide))).symm
    have m224 := (m165).trans (MF.i mf202 (k := 18) (by decide) (by decide)).symm
    have m225 := (m167).trans (MF.i mf202 (k := 1) (by decide) (by decide)).symm
    have m226 := (m169).trans (MF.i mf202 (k := 2) (by decide) (by decide)).symm
    have m227 := (m171).trans (MF.i mf202 (k := 3) (by decide) (by decide)).symm
    have m228 := (m173).trans (MF.i mf202 (k := 59) (by decide) (by decide)).symm
    have m229 := (m175).trans (MF.i mf202 (k := 62) (by decide) (by decide)).symm
    have m230 := (m177).trans (MF.i mf202 (k := 65) (by decide) (by decide)).symm
    have m231 := (m178).trans (MF.i mf202 (k := 70) (by decide) (by decide)).symm
    have m232 := (m180).trans (MF.r mf202 (k := 73) (by decide) (by decide)).symm
    refine W.eq (g2 := F0 m 660 ls [.int x197]) rfl ?_
    refine lv_pop hx hb dL_law_660 rfl ?_
    refine lv_goto (tgt := 1509) hx hb dL_law_661 (by decide) ?_
    exact nx G H196 locsH196 _ _ ls ⟨hTH196, hN, ga, gb, g198, g199, g200, g201, ⟨(by rw [← m204, ← m224]; exact rt), (by rw [← m203, ← m205, ← m225]; exact r1), (by rw [← m203, ← m206, ← m226]; exact r4), (by rw [← m203, ← m207, ← m227]; exact r5), (by rw [← m203, ← m208, ← m228]; exact r10), (by rw [← m203, ← m209, ← m229]; exact r13), (by rw [← m203, ← m210, ← m230]; exact r16)⟩, Or.inr ⟨kq, m211, gkq, (by rw [← m231]; exact h70), (by rw [← m212, ← m232, ← m213]; exact q1), (by rw [← m214, ← m232, ← m215]; exact q4), (by rw [← m216, ← m232, ← m217]; exact q5), (by rw [← m218, ← m232, ← m219]; exact q10), (by rw [← m220, ← m232, ← m221]; exact q13), (by rw [← m222, ← m232, ← m223]; exact q16)⟩, hSH196⟩ hl ⟨hc, hs, fun h => by have h1 := h.symm.trans m211; cases h1⟩