set_option maxRecDepth 100000 in
set_option maxHeartbeats 1000000 in
theorem lw_c0 {p : Program} {l : Launch} {e : Env} {s : State} {m : MethodId} {below : List Frame} {meth : Method} {c : Code} {K : KE} {b0 L : Nat} {xs : Nat → Int32} {G : Nat → Option Nat} {H : Heap} {locs : List Loc} {a b : Nat} {cells slots : Nat} {ls : Array Slot} {i : Int32} {n : Nat} (D : LC p K s m meth c b0 L xs) (S : SX K s G H locs a b) (hl : lv_has ls 4 [(3, .int i), (2, .ref b), (1, .ref a), (0, .ref b0)]) (hi : 0 ≤ i.toInt ∧ i.toInt + 6 ≤ L) (hn : n ≤ 511) (hB : BD K H a cells slots) (nx : ∀ (G : Nat → Option Nat) (H : Heap) (locs : List Loc) (cells slots : Nat) (ls : Array Slot), SX K s G H locs a b → lv_has ls 4 [(3, .int i), (2, .ref b), (1, .ref a), (0, .ref b0)] → BD K H a cells slots → W p l e room_1 s m #[Value.ref b0] below meth c H locs cells slots (lw_Z below #[Value.ref b0] s) (F0 m 1509 ls [])) : W p l e room_1 s m #[Value.ref b0] below meth c H locs cells slots (lw_Z below #[Value.ref b0] s) (F0 m 188 ls []) := by
  have hI := hi
  obtain ⟨C, hX, hbl, hL⟩ := id D
  obtain ⟨hx, hb, hml, hown, hts, hKT, hr, hlocks, hnm⟩ := id C
  obtain ⟨hT, hN, ga, gb, cg, tu, wd, im, ⟨rt, r1, r4, r5, r10, r13, r16⟩, hk, hS⟩ := S
  obtain ⟨hc, hs, hB0⟩ := hB
  have n_1 : (1 : Int32).toInt = 1 := rfl
  obtain ⟨w, ew⟩ : ∃ z : Nat, z = fR H a (K.1.2 9 0) := ⟨_, rfl⟩
  have gw := ty_fr (q := w) (k := 0) (u := 0) ew hT ga rg_68 rfl
  rw [← ew] at r1 r4 r5 r10 r13 r16
  obtain ⟨ta, eta⟩ : ∃ z : Int32, z = fI H a (K.1.2 9 3) := ⟨_, rfl⟩
  rw [← eta] at rt
  obtain ⟨tb, etb⟩ : ∃ z : Int32, z = fI H b (K.1.2 10 18) := ⟨_, rfl⟩
  rw [← etb] at rt
  obtain ⟨s1, es1⟩ : ∃ z : Int32, z = fI H w (K.1.2 8 1) := ⟨_, rfl⟩
  rw [← es1] at r1
  obtain ⟨y1, ey1⟩ : ∃ z : Int32, z = fI H b (K.1.2 10 1) := ⟨_, rfl⟩
  rw [← ey1] at r1
  obtain ⟨s4, es4⟩ : ∃ z : Int32, z = fI H w (K.1.2 8 4) := ⟨_, rfl⟩
  rw [← es4] at r4
  obtain ⟨y4, ey4⟩ : ∃ z : Int32, z = fI H b (K.1.2 10 2) := ⟨_, rfl⟩
  rw [← ey4] at r4
  obtain ⟨s5, es5⟩ : ∃ z : Int32, z = fI H w (K.1.2 8 5) := ⟨_, rfl⟩
  rw [← es5] at r5
  obtain ⟨y5, ey5⟩ : ∃ z : Int32, z = fI H b (K.1.2 10 3) := ⟨_, rfl⟩
  rw [← ey5] at r5
  obtain ⟨s10, es10⟩ : ∃ z : Int32, z = fI H w (K.1.2 8 10) := ⟨_, rfl⟩
  rw [← es10] at r10
  obtain ⟨y10, ey10⟩ : ∃ z : Int32, z = fI H b (K.1.2 10 59) := ⟨_, rfl⟩
  rw [← ey10] at r10
  obtain ⟨s13, es13⟩ : ∃ z : Int32, z = fI H w (K.1.2 8 13) := ⟨_, rfl⟩
  rw [← es13] at r13
  obtain ⟨y13, ey13⟩ : ∃ z : Int32, z = fI H b (K.1.2 10 62) := ⟨_, rfl⟩
  rw [← ey13] at r13
  obtain ⟨s16, es16⟩ : ∃ z : Int32, z = fI H w (K.1.2 8 16) := ⟨_, rfl⟩
  rw [← es16] at r16
  obtain ⟨y16, ey16⟩ : ∃ z : Int32, z = fI H b (K.1.2 10 65) := ⟨_, rfl⟩
  rw [← ey16] at r16
  rcases hk with ⟨kn, h70⟩ | ⟨kq, kn, gkq, h70, q1, q4, q5, q10, q13, q16⟩
  · skip
    obtain ⟨hi, ehi⟩ : ∃ z : Int32, z = fI H b (K.1.2 10 70) := ⟨_, rfl⟩
    rw [← ehi] at h70
    obtain ⟨hc0, hs0⟩ := hB0 kn
    refine lv_aload_n hx hb dL_law_188 rfl (lv_at hl 2 rfl) ?_
    refine lv_aload_n hx hb dL_law_189 rfl (lv_at hl 3 rfl) ?_
    refine lv_iload_n hx hb dL_law_190 rfl (lv_at hl 0 rfl) ?_
    refine lv_iconst (v := 1) hx hb dL_law_191 (by decide) ?_
    refine lv_iadd hx hb dL_law_192 ?_
    refine lv_topi (fun x101 ex101 => ?_)
    obtain ⟨tx101, ejx101, evx101⟩ := lw_ix (k := 1) ex101 hI hL rfl (by decide)
    clear tx101
    refine va_sld hx hb hX hbl (Nat.not_le.mpr hbl) hS (vp_in_iff.mpr evx101) dL_law_193 ?_
    refine W.eq (g2 := F0 m 194 ls [.int (xs (i.toNatClampNeg + 1)), .ref a]) (congrArg (fun z => F0 m 194 ls [.int (xs z), .ref a]) ejx101) ?_
    refine x_V (As := [.int (xs (i.toNatClampNeg + 1))]) (rest := []) C (a_X9_bar_r l K G H ((xs (i.toNatClampNeg + 1))) (s1) (s4) (s5) (s10) (s13) (s16) hT ga gw ew es1 es4 es5 es10 es13 es16) yo_X9_bar wM_L_13 ⟨⟨by decide, by decide⟩, show _ ≤ 284929 from Nat.le_trans hc (by decide), show _ ≤ 8247460 from Nat.le_trans hs (by decide)⟩ (x_rv C hT (ci := 9) rfl ga rg_68) rfl hl.1 rfl (Nat.le_of_ble_eq_true rfl) dL_law_194 hS (AE_new hN hS.1) (fun vH102 H102 locsH102 pH102 zH102 kH102 hSH102 => ?_)
    obtain ⟨x103, x104, x105, x106, x107, x108, x109, hvH102, ex104, ex105, ex106, ex107, ex108, ex109, hrH102, hTH102⟩ := pH102
    subst hvH102
    have g110 : CG (avw K H102 b) := CG.congr (fun k hk j => av_eff hT kH102 gb (by decide) (CG_eff [0, 1, 2, 3, 4, 5, 6, 15] (by decide) k hk)) cg
    have g111 : TU (avw K H102 b) (svw K H102 b) := TU.congr (fun k hk j => av_eff hT kH102 gb (by decide) (TU_eff [0, 1, 2, 3, 4, 5, 6, 15] (by decide) k hk)) (fun k hk => sv_eff hT kH102 gb (by decide)) tu
    have g112 : WD (avw K H102 b) := WD.congr (fun k hk j => av_eff hT kH102 gb (by decide) (WD_eff [0, 1, 2, 3, 4, 5, 6, 15] (by decide) k hk)) wd
    have g113 : IM (avw K H102 b) := IM.congr (fun k hk j => av_eff hT kH102 gb (by decide) (IM_eff [0, 1, 2, 3, 4, 5, 6, 15] (by decide) k hk)) im
    have m114 := (ew).trans (fR_kept (x_lt hT kH102 ga (by decide))).symm
    have m115 := (eta).trans (fI_kept (x_lt hT kH102 ga (by decide))).symm
    have m116 := (etb).trans (fI_kept (x_lt hT kH102 gb (by decide))).symm
    have m117 := (ey1).trans (fI_kept (x_lt hT kH102 gb (by decide))).symm
    have m118 := (ey4).trans (fI_kept (x_lt hT kH102 gb (by decide))).symm
    have m119 := (ey5).trans (fI_kept (x_lt hT kH102 gb (by decide))).symm
    have m120 := (ey10).trans (fI_kept (x_lt hT kH102 gb (by decide))).symm
    have m121 := (ey13).trans (fI_kept (x_lt hT kH102 gb (by decide))).symm
    have m122 := (ey16).trans (fI_kept (x_lt hT kH102 gb (by decide))).symm
    have m123 := (ehi).trans (fI_kept (x_lt hT kH102 gb (by decide))).symm
    have m124 := (fV_kept (x_lt hT kH102 ga (by decide))).trans kn
    have bx104 := ty_fi (x := x104) (k := 1) ex104 hTH102 gw rg_0 rfl
    have bx105 := ty_fi (x := x105) (k := 4) ex105 hTH102 gw rg_0 rfl
    have bx106 := ty_fi (x := x106) (k := 5) ex106 hTH102 gw rg_0 rfl
    have bx107 := ty_fi (x := x107) (k := 10) ex107 hTH102 gw rg_0 rfl
    have bx108 := ty_fi (x := x108) (k := 13) ex108 hTH102 gw rg_0 rfl
    have bx109 := ty_fi (x := x109) (k := 16) ex109 hTH102 gw rg_0 rfl
    refine W.eq (g2 := F0 m 197 ls [.int x103]) rfl ?_
    refine lv_pop hx hb dL_law_197 rfl ?_
    refine lv_aload_n hx hb dL_law_198 rfl (lv_at hl 1 rfl) ?_
    refine lv_aload_n hx hb dL_law_199 rfl (lv_at hl 3 rfl) ?_
    refine lv_iload_n hx hb dL_law_200 rfl (lv_at hl 0 rfl) ?_
    refine lv_iconst (v := 1) hx hb dL_law_201 (by decide) ?_
    refine lv_iadd hx hb dL_law_202 ?_
    refine lv_topi (fun x125 ex125 => ?_)
    obtain ⟨tx125, ejx125, evx125⟩ := lw_ix (k := 1) ex125 hI hL rfl (by decide)
    clear tx125
    refine va_sld hx hb hX hbl (Nat.not_le.mpr hbl) hSH102 (vp_in_iff.mpr evx125) dL_law_203 ?_
    refine W.eq (g2 := F0 m 204 ls [.int (xs (i.toNatClampNeg + 1)), .ref b]) (congrArg (fun z => F0 m 204 ls [.int (xs z), .ref b]) ejx125) ?_
    obtain ⟨q126, eq126⟩ : ∃ z : Nat, z = fR H102 b (K.1.2 10 4) := ⟨_, rfl⟩
    have gq126 := ty_fr (q := q126) (k := 4) (u := 113) eq126 hTH102 gb rg_112 rfl
    obtain ⟨q127, eq127⟩ : ∃ z : Nat, z = fR H102 b (K.1.2 10 16) := ⟨_, rfl⟩
    have gq127 := ty_fr (q := q127) (k := 16) (u := 125) eq127 hTH102 gb rg_112 rfl
    refine x_V (As := [.int (xs (i.toNatClampNeg + 1))]) (rest := []) C (a_X10_bar l K G H102 ((xs (i.toNatClampNeg + 1))) (y1) hTH102 gb gq126 eq126 gq127 eq127 m117 g110 g111 g112 g113) yo_X10_bar wM_L_17 ⟨⟨by decide, by decide⟩, show _ ≤ 284929 from Nat.le_trans hc (by decide), show _ ≤ 8247460 from Nat.le_trans hs (by decide)⟩ (x_rv C hTH102 (ci := 10) rfl gb rg_112) rfl hl.1 rfl (Nat.le_of_ble_eq_true rfl) dL_law_204 hSH102 (AE_new hN hSH102.1) (fun vH128 H128 locsH128 pH128 zH128 kH128 hSH128 => ?_)
    obtain ⟨x129, x130, hvH128, ex130, hrH128, m131, m132, g133, g134, g135, g136, mf137, hTH128⟩ := pH128
    subst hvH128
    have m138 := (m114).trans (fR_kept (x_lt hTH102 kH128 ga (by decide))).symm
    have m139 := (m115).trans (fI_kept (x_lt hTH102 kH128 ga (by decide))).symm
    have m140 := (fV_kept (x_lt hTH102 kH128 ga (by decide))).trans m124
    have m141 := (ex104).trans (fI_kept (x_lt hTH102 kH128 gw (by decide))).symm
    have m142 := (ex105).trans (fI_kept (x_lt hTH102 kH128 gw (by decide))).symm
    have m143 := (ex106).trans (fI_kept (x_lt hTH102 kH128 gw (by decide))).symm
    have m144 := (ex107).trans (fI_kept (x_lt hTH102 kH128 gw (by decide))).symm
    have m145 := (ex108).trans (fI_kept (x_lt hTH102 kH128 gw (by decide))).symm
    have m146 := (ex109).trans (fI_kept (x_lt hTH102 kH128 gw (by decide))).symm
    have m147 := (m116).trans (MF.i mf137 (k := 18) (by decide) (by decide)).symm
    have m148 := (m118).trans (MF.i mf137 (k := 2) (by decide) (by decide)).symm
    have m149 := (m119).trans (MF.i mf137 (k := 3) (by decide) (by decide)).symm
    have m150 := (m120).trans (MF.i mf137 (k := 59) (by decide) (by decide)).symm
    have m151 := (m121).trans (MF.i mf137 (k := 62) (by decide) (by decide)).symm
    have m152 := (m122).trans (MF.i mf137 (k := 65) (by decide) (by decide)).symm
    have m153 := (m123).trans (MF.i mf137 (k := 70) (by decide) (by decide)).symm
    have m154 := (eq126).trans (MF.r mf137 (k := 4) (by decide) (by decide)).symm
    have m155 := (eq127).trans (MF.r mf137 (k := 16) (by decide) (by decide)).symm
    have bx130 := ty_fi (x := x130) (k := 1) ex130 hTH128 gb rg_112 rfl
    refine W.eq (g2 := F0 m 207 ls [.int x129]) rfl ?_
    refine lv_pop hx hb dL_law_207 rfl ?_
    refine lv_goto (tgt := 1509) hx hb dL_law_208 (by decide) ?_
    exact nx G H128 locsH128 _ _ ls ⟨hTH128, hN, ga, gb, g133, g134, g135, g136, ⟨(by rw [← m139, ← m147]; exact rt), (by rw [← m138, ← m141, ← ex130]; omega), (by rw [← m138, ← m142, ← m148]; omega), (by rw [← m138, ← m143, ← m149]; omega), (by rw [← m138, ← m144, ← m150]; omega), (by rw [← m138, ← m145, ← m151]; omega), (by rw [← m138, ← m146, ← m152]; omega)⟩, Or.inl ⟨m140, (by rw [← m153]; exact h70)⟩, hSH128⟩ hl ⟨hc, hs, fun _ => ⟨hc0, hs0⟩⟩
  · skip
    obtain ⟨hi, ehi⟩ : ∃ z : Int32, z = fI H b (K.1.2 10 70) := ⟨_, rfl⟩
    rw [← ehi] at h70
    obtain ⟨iq, eiq⟩ : ∃ z : Nat, z = fR H b (K.1.2 10 73) := ⟨_, rfl⟩
    have giq := ty_fr (q := iq) (k := 73) (u := 162) eiq hT gb rg_112 rfl
    rw [← eiq] at q1 q4 q5 q10 q13 q16
    obtain ⟨k1, ek1⟩ : ∃ z : Int32, z = fI H kq (K.1.2 8 1) := ⟨_, rfl⟩
    rw [← ek1] at q1
    obtain ⟨i1, ei1⟩ : ∃ z : Int32, z = fI H iq ((0 : Int32).toNatClampNeg) := ⟨_, rfl⟩
    rw [← ei1] at q1
    obtain ⟨k4, ek4⟩ : ∃ z : Int32, z = fI H kq (K.1.2 8 4) := ⟨_, rfl⟩
    rw [← ek4] at q4
    obtain ⟨i4, ei4⟩ : ∃ z : Int32, z = fI H iq ((1 : Int32).toNatClampNeg) := ⟨_, rfl⟩
    rw [← ei4] at q4
    obtain ⟨k5, ek5⟩ : ∃ z : Int32, z = fI H kq (K.1.2 8 5) := ⟨_, rfl⟩
    rw [← ek5] at q5
    obtain ⟨i5, ei5⟩ : ∃ z : Int32, z = fI H iq ((2 : Int32).toNatClampNeg) := ⟨_, rfl⟩
    rw [← ei5] at q5
    obtain ⟨k10, ek10⟩ : ∃ z : Int32, z = fI H kq (K.1.2 8 10) := ⟨_, rfl⟩
    rw [← ek10] at q10
    obtain ⟨i10, ei10⟩ : ∃ z : Int32, z = fI H iq ((3 : Int32).toNatClampNeg) := ⟨_, rfl⟩
    rw [← ei10] at q10
    obtain ⟨k13, ek13⟩ : ∃ z : Int32, z = fI H kq (K.1.2 8 13) := ⟨_, rfl⟩
    rw [← ek13] at q13
    obtain ⟨i13, ei13⟩ : ∃ z : Int32, z = fI H iq ((4 : Int32).toNatClampNeg) := ⟨_, rfl⟩
    rw [← ei13] at q13
    obtain ⟨k16, ek16⟩ : ∃ z : Int32, z = fI H kq (K.1.2 8 16) := ⟨_, rfl⟩
    rw [← ek16] at q16
    obtain ⟨i16, ei16⟩ : ∃ z : Int32, z = fI H iq ((5 : Int32).toNatClampNeg) := ⟨_, rfl⟩
    rw [← ei16] at q16
    refine lv_aload_n hx hb dL_law_188 rfl (lv_at hl 2 rfl) ?_
    refine lv_aload_n hx hb dL_law_189 rfl (lv_at hl 3 rfl) ?_
    refine lv_iload_n hx hb dL_law_190 rfl (lv_at hl 0 rfl) ?_
    refine lv_iconst (v := 1) hx hb dL_law_191 (by decide) ?_
    refine lv_iadd hx hb dL_law_192 ?_
    refine lv_topi (fun x156 ex156 => ?_)
    obtain ⟨tx156, ejx156, evx156⟩ := lw_ix (k := 1) ex156 hI hL rfl (by decide)
    clear tx156
    refine va_sld hx hb hX hbl (Nat.not_le.mpr hbl) hS (vp_in_iff.mpr evx156) dL_law_193 ?_
    refine W.eq (g2 := F0 m 194 ls [.int (xs (i.toNatClampNeg + 1)), .ref a]) (congrArg (fun z => F0 m 194 ls [.int (xs z), .ref a]) ejx156) ?_
    refine x_V (As := [.int (xs (i.toNatClampNeg + 1))]) (rest := []) C (a_X9_bar_r l K G H ((xs (i.toNatClampNeg + 1))) (s1) (s4) (s5) (s10) (s13) (s16) hT ga gw ew es1 es4 es5 es10 es13 es16) yo_X9_bar wM_L_13 ⟨⟨by decide, by decide⟩, show _ ≤ 284929 from Nat.le_trans hc (by decide), show _ ≤ 8247460 from Nat.le_trans hs (by decide)⟩ (x_rv C hT (ci := 9) rfl ga rg_68) rfl hl.1 rfl (Nat.le_of_ble_eq_true rfl) dL_law_194 hS (AE_new hN hS.1) (fun vH157 H157 locsH157 pH157 zH157 kH157 hSH157 => ?_)
    obtain ⟨x158, x159, x160, x161, x162, x163, x164, hvH157, ex159, ex160, ex161, ex162, ex163, ex164, hrH157, hTH157⟩ := pH157
    subst hvH157
    have g165 : CG (avw K H157 b) := CG.congr (fun k hk j => av_eff hT kH157 gb (by decide) (CG_eff [0, 1, 2, 3, 4, 5, 6, 15] (by decide) k hk)) cg
    have g166 : TU (avw K H157 b) (svw K H157 b) := TU.congr (fun k hk j => av_eff hT kH157 gb (by decide) (TU_eff [0, 1, 2, 3, 4, 5, 6, 15] (by decide) k hk)) (fun k hk => sv_eff hT kH157 gb (by decide)) tu
    have g167 : WD (avw K H157 b) := WD.congr (fun k hk j => av_eff hT kH157 gb (by decide) (WD_eff [0, 1, 2, 3, 4, 5, 6, 15] (by decide) k hk)) wd
    have g168 : IM (avw K H157 b) := IM.congr (fun k hk j => av_eff hT kH157 gb (by decide) (IM_eff [0, 1, 2, 3, 4, 5, 6, 15] (by decide) k hk)) im
    have m169 := (ew).trans (fR_kept (x_lt hT kH157 ga (by decide))).symm
    have m170 := (eta).trans (fI_kept (x_lt hT kH157 ga (by decide))).symm
    have m171 := (etb).trans (fI_kept (x_lt hT kH157 gb (by decide))).symm
    have m172 := (ey1).trans (fI_kept (x_lt hT kH157 gb (by decide))).symm
    have m173 := (ey4).trans (fI_kept (x_lt hT kH157 gb (by decide))).symm
    have m174 := (ey5).trans (fI_kept (x_lt hT kH157 gb (by decide))).symm
    have m175 := (ey10).trans (fI_kept (x_lt hT kH157 gb (by decide))).symm
    have m176 := (ey13).trans (fI_kept (x_lt hT kH157 gb (by decide))).symm
    have m177 := (ey16).trans (fI_kept (x_lt hT kH157 gb (by decide))).symm
    have m178 := (ehi).trans (fI_kept (x_lt hT kH157 gb (by decide))).symm
    have m179 := (fV_kept (x_lt hT kH157 ga (by decide))).trans kn
    have m180 := (eiq).trans (fR_kept (x_lt hT kH157 gb (by decide))).symm
    have m181 := (ek1).trans (fI_kept (x_lt hT kH157 gkq (by decide))).symm
    have m182 := (ei1).trans (fI_kept (x_lt hT kH157 giq (by decide))).symm
    have m183 := (ek4).trans (fI_kept (x_lt hT kH157 gkq (by decide))).symm
    have m184 := (ei4).trans (fI_kept (x_lt hT kH157 giq (by decide))).symm
    have m185 := (ek5).trans (fI_kept (x_lt hT kH157 gkq (by decide))).symm
    have m186 := (ei5).trans (fI_kept (x_lt hT kH157 giq (by decide))).symm
    have m187 := (ek10).trans (fI_kept (x_lt hT kH157 gkq (by decide))).symm
    have m188 := (ei10).trans (fI_kept (x_lt hT kH157 giq (by decide))).symm
    have m189 := (ek13).trans (fI_kept (x_lt hT kH157 gkq (by decide))).symm
    have m190 := (ei13).trans (fI_kept (x_lt hT kH157 giq (by decide))).symm
    have m191 := (ek16).trans (fI_kept (x_lt hT kH157 gkq (by decide))).symm
    have m192 := (ei16).trans (fI_kept (x_lt hT kH157 giq (by decide))).symm
    have bx159 := ty_fi (x := x159) (k := 1) ex159 hTH157 gw rg_0 rfl
    have bx160 := ty_fi (x := x160) (k := 4) ex160 hTH157 gw rg_0 rfl
    have bx161 := ty_fi (x := x161) (k := 5) ex161 hTH157 gw rg_0 rfl
    have bx162 := ty_fi (x := x162) (k := 10) ex162 hTH157 gw rg_0 rfl
    have bx163 := ty_fi (x := x163) (k := 13) ex163 hTH157 gw rg_0 rfl
    have bx164 := ty_fi (x := x164) (k := 16) ex164 hTH157 gw rg_0 rfl
    refine W.eq (g2 := F0 m 197 ls [.int x158]) rfl ?_
    refine lv_pop hx hb dL_law_197 rfl ?_
    refine lv_aload_n hx hb dL_law_198 rfl (lv_at hl 1 rfl) ?_
    refine lv_aload_n hx hb dL_law_199 rfl (lv_at hl 3 rfl) ?_
    refine lv_iload_n hx hb dL_law_200 rfl (lv_at hl 0 rfl) ?_
    refine lv_iconst (v := 1) hx hb dL_law_201 (by decide) ?_
    refine lv_iadd hx hb dL_law_202 ?_
    refine lv_topi (fun x193 ex193 => ?_)
    obtain ⟨tx193, ejx193, evx193⟩ := lw_ix (k := 1) ex193 hI hL rfl (by decide)
    clear tx193
    refine va_sld hx hb hX hbl (Nat.not_le.mpr hbl) hSH157 (vp_in_iff.mpr evx193) dL_law_203 ?_
    refine W.eq (g2 := F0 m 204 ls [.int (xs (i.toNatClampNeg + 1)), .ref b]) (congrArg (fun z => F0 m 204 ls [.int (xs z), .ref b]) ejx193) ?_
    obtain ⟨q194, eq194⟩ : ∃ z : Nat, z = fR H157 b (K.1.2 10 4) := ⟨_, rfl⟩
    have gq194 := ty_fr (q := q194) (k := 4) (u := 113) eq194 hTH157 gb rg_112 rfl
    obtain ⟨q195, eq195⟩ : ∃ z : Nat, z = fR H157 b (K.1.2 10 16) := ⟨_, rfl⟩
    have gq195 := ty_fr (q := q195) (k := 16) (u := 125) eq195 hTH157 gb rg_112 rfl
    refine x_V (As := [.int (xs (i.toNatClampNeg + 1))]) (rest := []) C (a_X10_bar l K G H157 ((xs (i.toNatClampNeg + 1))) (y1) hTH157 gb gq194 eq194 gq195 eq195 m172 g165 g166 g167 g168) yo_X10_bar wM_L_17 ⟨⟨by decide, by decide⟩, show _ ≤ 284929 from Nat.le_trans hc (by decide), show _ ≤ 8247460 from Nat.le_trans hs (by decide)⟩ (x_rv C hTH157 (ci := 10) rfl gb rg_112) rfl hl.1 rfl (Nat.le_of_ble_eq_true rfl) dL_law_204 hSH157 (AE_new hN hSH157.1) (fun vH196 H196 locsH196 pH196 zH196 kH196 hSH196 => ?_)
    obtain ⟨x197, x198, hvH196, ex198, hrH196, m199, m200, g201, g202, g203, g204, mf205, hTH196⟩ := pH196
    subst hvH196
    have m206 := (m169).trans (fR_kept (x_lt hTH157 kH196 ga (by decide))).symm
    have m207 := (m170).trans (fI_kept (x_lt hTH157 kH196 ga (by decide))).symm
    have m208 := (fV_kept (x_lt hTH157 kH196 ga (by decide))).trans m179
    have m209 := (m181).trans (fI_kept (x_lt hTH157 kH196 gkq (by decide))).symm
    have m210 := (m182).trans (fI_kept (x_lt hTH157 kH196 giq (by decide))).symm
    have m211 := (m183).trans (fI_kept (x_lt hTH157 kH196 gkq (by decide))).symm
    have m212 := (m184).trans (fI_kept (x_lt hTH157 kH196 giq (by decide))).symm
    have m213 := (m185).trans (fI_kept (x_lt hTH157 kH196 gkq (by decide))).symm
    have m214 := (m186).trans (fI_kept (x_lt hTH157 kH196 giq (by decide))).symm
    have m215 := (m187).trans (fI_kept (x_lt hTH157 kH196 gkq (by decide))).symm
    have m216 := (m188).trans (fI_kept (x_lt hTH157 kH196 giq (by decide))).symm
    have m217 := (m189).trans (fI_kept (x_lt hTH157 kH196 gkq (by decide))).symm
    have m218 := (m190).trans (fI_kept (x_lt hTH157 kH196 giq (by decide))).symm
    have m219 := (m191).trans (fI_kept (x_lt hTH157 kH196 gkq (by decide))).symm
    have m220 := (m192).trans (fI_kept (x_lt hTH157 kH196 giq (by decide))).symm
    have m221 := (ex159).trans (fI_kept (x_lt hTH157 kH196 gw (by decide))).symm
    have m222 := (ex160).trans (fI_kept (x_lt hTH157 kH196 gw (by decide))).symm
    have m223 := (ex161).trans (fI_kept (x_lt hTH157 kH196 gw (by decide))).symm
    have m224 := (ex162).trans (fI_kept (x_lt hTH157 kH196 gw (by decide))).symm
    have m225 := (ex163).trans (fI_kept (x_lt hTH157 kH196 gw (by decide))).symm
    have m226 := (ex164).trans (fI_kept (x_lt hTH157 kH196 gw (by decide))).symm
    have m227 := (m171).trans (MF.i mf205 (k := 18) (by decide) (by decide)).symm
    have m228 := (m173).trans (MF.i mf205 (k := 2) (by decide) (by decide)).symm
    have m229 := (m174).trans (MF.i mf205 (k := 3) (by decide) (by decide)).symm
    have m230 := (m175).trans (MF.i mf205 (k := 59) (by decide) (by decide)).symm
    have m231 := (m176).trans (MF.i mf205 (k := 62) (by decide) (by decide)).symm
    have m232 := (m177).trans (MF.i mf205 (k := 65) (by decide) (by decide)).symm
    have m233 := (m178).trans (MF.i mf205 (k := 70) (by decide) (by decide)).symm
    have m234 := (m180).trans (MF.r mf205 (k := 73) (by decide) (by decide)).symm
    have m235 := (eq194).trans (MF.r mf205 (k := 4) (by decide) (by decide)).symm
    have m236 := (eq195).trans (MF.r mf205 (k := 16) (by decide) (by decide)).symm
    have bx198 := ty_fi (x := x198) (k := 1) ex198 hTH196 gb rg_112 rfl
    refine W.eq (g2 := F0 m 207 ls [.int x197]) rfl ?_
    refine lv_pop hx hb dL_law_207 rfl ?_
    refine lv_goto (tgt := 1509) hx hb dL_law_208 (by decide) ?_
    exact nx G H196 locsH196 _ _ ls ⟨hTH196, hN, ga, gb, g201, g202, g203, g204, ⟨(by rw [← m207, ← m227]; exact rt), (by rw [← m206, ← m221, ← ex198]; omega), (by rw [← m206, ← m222, ← m228]; omega), (by rw [← m206, ← m223, ← m229]; omega), (by rw [← m206, ← m224, ← m230]; omega), (by rw [← m206, ← m225, ← m231]; omega), (by rw [← m206, ← m226, ← m232]; omega)⟩, Or.inr ⟨kq, m208, gkq, (by rw [← m233]; exact h70), (by rw [← m209, ← m234, ← m210]; exact q1), (by rw [← m211, ← m234, ← m212]; exact q4), (by rw [← m213, ← m234, ← m214]; exact q5), (by rw [← m215, ← m234, ← m216]; exact q10), (by rw [← m217, ← m234, ← m218]; exact q13), (by rw [← m219, ← m234, ← m220]; exact q16)⟩, hSH196⟩ hl ⟨hc, hs, fun h => by have h1 := h.symm.trans m208; cases h1⟩
set_option maxRecDepth 100000 in
set_option maxHeartbeats 1000000 in
theorem lw_c1 {p : Program} {l : Launch} {e : Env} {s : State} {m : MethodId} {below : List Frame} {meth : Method} {c : Code} {K : KE} {b0 L : Nat} {xs : Nat → Int32} {G : Nat → Option Nat} {H : Heap} {locs : List Loc} {a b : Nat} {cells slots : Nat} {ls : Array Slot} {i : Int32} {n : Nat} (D : LC p K s m meth c b0 L xs) (S : SX K s G H locs a b) (hl : lv_has ls 4 [(3, .int i), (2, .ref b), (1, .ref a), (0, .ref b0)]) (hi : 0 ≤ i.toInt ∧ i.toInt + 6 ≤ L) (hn : n ≤ 511) (hB : BD K H a cells slots) (nx : ∀ (G : Nat → Option Nat) (H : Heap) (locs : List Loc) (cells slots : Nat) (ls : Array Slot), SX K s G H locs a b → lv_has ls 4 [(3, .int i), (2, .ref b), (1, .ref a), (0, .ref b0)] → BD K H a cells slots → W p l e room_1 s m #[Value.ref b0] below meth c H locs cells slots (lw_Z below #[Value.ref b0] s) (F0 m 1509 ls [])) : W p l e room_1 s m #[Value.ref b0] below meth c H locs cells slots (lw_Z below #[Value.ref b0] s) (F0 m 211 ls []) := by
  have hI := hi
  obtain ⟨C, hX, hbl, hL⟩ := id D
  obtain ⟨hx, hb, hml, hown, hts, hKT, hr, hlocks, hnm⟩ := id C
  obtain ⟨hT, hN, ga, gb, cg, tu, wd, im, ⟨rt, r1, r4, r5, r10, r13, r16⟩, hk, hS⟩ := S
  obtain ⟨hc, hs, hB0⟩ := hB
  have n_1 : (1 : Int32).toInt = 1 := rfl
  have n_2 : (2 : Int32).toInt = 2 := rfl
  have n_3 : (3 : Int32).toInt = 3 := rfl
  have n_4 : (4 : Int32).toInt = 4 := rfl
  have n_5 : (5 : Int32).toInt = 5 := rfl
  obtain ⟨w, ew⟩ : ∃ z : Nat, z = fR H a (K.1.2 9 0) := ⟨_, rfl⟩
  have gw := ty_fr (q := w) (k := 0) (u := 0) ew hT ga rg_68 rfl
  rw [← ew] at r1 r4 r5 r10 r13 r16
  obtain ⟨ta, eta⟩ : ∃ z : Int32, z = fI H a (K.1.2 9 3) := ⟨_, rfl⟩
  rw [← eta] at rt
  obtain ⟨tb, etb⟩ : ∃ z : Int32, z = fI H b (K.1.2 10 18) := ⟨_, rfl⟩
  rw [← etb] at rt
  obtain ⟨s1, es1⟩ : ∃ z : Int32, z = fI H w (K.1.2 8 1) := ⟨_, rfl⟩
  rw [← es1] at r1
  obtain ⟨y1, ey1⟩ : ∃ z : Int32, z = fI H b (K.1.2 10 1) := ⟨_, rfl⟩
  rw [← ey1] at r1
  obtain ⟨s4, es4⟩ : ∃ z : Int32, z = fI H w (K.1.2 8 4) := ⟨_, rfl⟩
  rw [← es4] at r4
  obtain ⟨y4, ey4⟩ : ∃ z : Int32, z = fI H b (K.1.2 10 2) := ⟨_, rfl⟩
  rw [← ey4] at r4
  obtain ⟨s5, es5⟩ : ∃ z : Int32, z = fI H w (K.1.2 8 5) := ⟨_, rfl⟩
  rw [← es5] at r5
  obtain ⟨y5, ey5⟩ : ∃ z : Int32, z = fI H b (K.1.2 10 3) := ⟨_, rfl⟩
  rw [← ey5] at r5
  obtain ⟨s10, es10⟩ : ∃ z : Int32, z = fI H w (K.1.2 8 10) := ⟨_, rfl⟩
  rw [← es10] at r10
  obtain ⟨y10, ey10⟩ : ∃ z : Int32, z = fI H b (K.1.2 10 59) := ⟨_, rfl⟩
  rw [← ey10] at r10
  obtain ⟨s13, es13⟩ : ∃ z : Int32, z = fI H w (K.1.2 8 13) := ⟨_, rfl⟩
  rw [← es13] at r13
  obtain ⟨y13, ey13⟩ : ∃ z : Int32, z = fI H b (K.1.2 10 62) := ⟨_, rfl⟩
  rw [← ey13] at r13
  obtain ⟨s16, es16⟩ : ∃ z : Int32, z = fI H w (K.1.2 8 16) := ⟨_, rfl⟩
  rw [← es16] at r16
  obtain ⟨y16, ey16⟩ : ∃ z : Int32, z = fI H b (K.1.2 10 65) := ⟨_, rfl⟩
  rw [← ey16] at r16
  rcases hk with ⟨kn, h70⟩ | ⟨kq, kn, gkq, h70, q1, q4, q5, q10, q13, q16⟩
  · skip
    obtain ⟨hi, ehi⟩ : ∃ z : Int32, z = fI H b (K.1.2 10 70) := ⟨_, rfl⟩
    rw [← ehi] at h70
    obtain ⟨hc0, hs0⟩ := hB0 kn
    refine lv_aload_n hx hb dL_law_211 rfl (lv_at hl 2 rfl) ?_
    refine lv_aload_n hx hb dL_law_212 rfl (lv_at hl 3 rfl) ?_
    refine lv_iload_n hx hb dL_law_213 rfl (lv_at hl 0 rfl) ?_
    refine lv_iconst (v := 1) hx hb dL_law_214 (by decide) ?_
    refine lv_iadd hx hb dL_law_215 ?_
    refine lv_topi (fun x101 ex101 => ?_)
    obtain ⟨tx101, ejx101, evx101⟩ := lw_ix (k := 1) ex101 hI hL rfl (by decide)
    clear tx101
    refine va_sld hx hb hX hbl (Nat.not_le.mpr hbl) hS (vp_in_iff.mpr evx101) dL_law_216 ?_
    refine W.eq (g2 := F0 m 217 ls [.int (xs (i.toNatClampNeg + 1)), .ref a]) (congrArg (fun z => F0 m 217 ls [.int (xs z), .ref a]) ejx101) ?_
    refine lv_aload_n hx hb dL_law_217 rfl (lv_at hl 3 rfl) ?_
    refine lv_iload_n hx hb dL_law_218 rfl (lv_at hl 0 rfl) ?_
    refine lv_iconst (v := 2) hx hb dL_law_219 (by decide) ?_
    refine lv_iadd hx hb dL_law_220 ?_
    refine lv_topi (fun x102 ex102 => ?_)
    obtain ⟨tx102, ejx102, evx102⟩ := lw_ix (k := 2) ex102 hI hL rfl (by decide)
    clear tx102
    refine va_sld hx hb hX hbl (Nat.not_le.mpr hbl) hS (vp_in_iff.mpr evx102) dL_law_221 ?_
    refine W.eq (g2 := F0 m 222 ls [.int (xs (i.toNatClampNeg + 2)), .int (xs (i.toNatClampNeg + 1)), .ref a]) (congrArg (fun z => F0 m 222 ls [.int (xs z), .int (xs (i.toNatClampNeg + 1)), .ref a]) ejx102) ?_
    refine lv_aload_n hx hb dL_law_222 rfl (lv_at hl 3 rfl) ?_
    refine lv_iload_n hx hb dL_law_223 rfl (lv_at hl 0 rfl) ?_
    refine lv_iconst (v := 3) hx hb dL_law_224 (by decide) ?_
    refine lv_iadd hx hb dL_law_225 ?_
    refine lv_topi (fun x103 ex103 => ?_)
    obtain ⟨tx103, ejx103, evx103⟩ := lw_ix (k := 3) ex103 hI hL rfl (by decide)
    clear tx103
    refine va_sld hx hb hX hbl (Nat.not_le.mpr hbl) hS (vp_in_iff.mpr evx103) dL_law_226 ?_
    refine W.eq (g2 := F0 m 227 ls [.int (xs (i.toNatClampNeg + 3)), .int (xs (i.toNatClampNeg + 2)), .int (xs (i.toNatClampNeg + 1)), .ref a]) (congrArg (fun z => F0 m 227 ls [.int (xs z), .int (xs (i.toNatClampNeg + 2)), .int (xs (i.toNatClampNeg + 1)), .ref a]) ejx103) ?_
    refine lv_aload_n hx hb dL_law_227 rfl (lv_at hl 3 rfl) ?_
    refine lv_iload_n hx hb dL_law_228 rfl (lv_at hl 0 rfl) ?_
    refine lv_iconst (v := 4) hx hb dL_law_229 (by decide) ?_
    refine lv_iadd hx hb dL_law_230 ?_
    refine lv_topi (fun x104 ex104 => ?_)
    obtain ⟨tx104, ejx104, evx104⟩ := lw_ix (k := 4) ex104 hI hL rfl (by decide)
    clear tx104
    refine va_sld hx hb hX hbl (Nat.not_le.mpr hbl) hS (vp_in_iff.mpr evx104) dL_law_231 ?_
    refine W.eq (g2 := F0 m 232 ls [.int (xs (i.toNatClampNeg + 4)), .int (xs (i.toNatClampNeg + 3)), .int (xs (i.toNatClampNeg + 2)), .int (xs (i.toNatClampNeg + 1)), .ref a]) (congrArg (fun z => F0 m 232 ls [.int (xs z), .int (xs (i.toNatClampNeg + 3)), .int (xs (i.toNatClampNeg + 2)), .int (xs (i.toNatClampNeg + 1)), .ref a]) ejx104) ?_
    refine lv_aload_n hx hb dL_law_232 rfl (lv_at hl 3 rfl) ?_
    refine lv_iload_n hx hb dL_law_233 rfl (lv_at hl 0 rfl) ?_
    refine lv_iconst (v := 5) hx hb dL_law_234 (by decide) ?_
    refine lv_iadd hx hb dL_law_235 ?_
    refine lv_topi (fun x105 ex105 => ?_)
    obtain ⟨tx105, ejx105, evx105⟩ := lw_ix (k := 5) ex105 hI hL rfl (by decide)
    clear tx105
    refine va_sld hx hb hX hbl (Nat.not_le.mpr hbl) hS (vp_in_iff.mpr evx105) dL_law_236 ?_
    refine W.eq (g2 := F0 m 237 ls [.int (xs (i.toNatClampNeg + 5)), .int (xs (i.toNatClampNeg + 4)), .int (xs (i.toNatClampNeg + 3)), .int (xs (i.toNatClampNeg + 2)), .int (xs (i.toNatClampNeg + 1)), .ref a]) (congrArg (fun z => F0 m 237 ls [.int (xs z), .int (xs (i.toNatClampNeg + 4)), .int (xs (i.toNatClampNeg + 3)), .int (xs (i.toNatClampNeg + 2)), .int (xs (i.toNatClampNeg + 1)), .ref a]) ejx105) ?_
    refine x_V (As := [.int (xs (i.toNatClampNeg + 1)), .int (xs (i.toNatClampNeg + 2)), .int (xs (i.toNatClampNeg + 3)), .int (xs (i.toNatClampNeg + 4)), .int (xs (i.toNatClampNeg + 5))]) (rest := []) C (a_X9_slice l K G H ((xs (i.toNatClampNeg + 1))) ((xs (i.toNatClampNeg + 2))) ((xs (i.toNatClampNeg + 3))) ((xs (i.toNatClampNeg + 4))) ((xs (i.toNatClampNeg + 5))) hT ga) yo_X9_slice wM_L_18 ⟨⟨by decide, by decide⟩, show _ ≤ 284929 from Nat.le_trans hc (by decide), show _ ≤ 8247460 from Nat.le_trans hs (by decide)⟩ (x_rv C hT (ci := 9) rfl ga rg_68) rfl hl.1 rfl (Nat.le_of_ble_eq_true rfl) dL_law_237 hS (AE_new hN hS.1) (fun vH106 H106 locsH106 pH106 zH106 kH106 hSH106 => ?_)
    obtain ⟨x107, hvH106, bx107, hTH106⟩ := pH106
    subst hvH106
    have g108 : CG (avw K H106 b) := CG.congr (fun k hk j => av_eff hT kH106 gb (by decide) (CG_eff [2, 3, 4] (by decide) k hk)) cg
    have g109 : TU (avw K H106 b) (svw K H106 b) := TU.congr (fun k hk j => av_eff hT kH106 gb (by decide) (TU_eff [2, 3, 4] (by decide) k hk)) (fun k hk => sv_eff hT kH106 gb (by decide)) tu
    have g110 : WD (avw K H106 b) := WD.congr (fun k hk j => av_eff hT kH106 gb (by decide) (WD_eff [2, 3, 4] (by decide) k hk)) wd
    have g111 : IM (avw K H106 b) := IM.congr (fun k hk j => av_eff hT kH106 gb (by decide) (IM_eff [2, 3, 4] (by decide) k hk)) im
    have m112 := (ew).trans (fR_kept (x_lt hT kH106 ga (by decide))).symm
    have m113 := (eta).trans (fI_kept (x_lt hT kH106 ga (by decide))).symm
    have m114 := (etb).trans (fI_kept (x_lt hT kH106 gb (by decide))).symm
    have m115 := (es1).trans (fI_kept (x_lt hT kH106 gw (by decide))).symm
    have m116 := (ey1).trans (fI_kept (x_lt hT kH106 gb (by decide))).symm
    have m117 := (es4).trans (fI_kept (x_lt hT kH106 gw (by decide))).symm
    have m118 := (ey4).trans (fI_kept (x_lt hT kH106 gb (by decide))).symm
    have m119 := (es5).trans (fI_kept (x_lt hT kH106 gw (by decide))).symm
    have m120 := (ey5).trans (fI_kept (x_lt hT kH106 gb (by decide))).symm
    have m121 := (es10).trans (fI_kept (x_lt hT kH106 gw (by decide))).symm
    have m122 := (ey10).trans (fI_kept (x_lt hT kH106 gb (by decide))).symm
    have m123 := (es13).trans (fI_kept (x_lt hT kH106 gw (by decide))).symm
    have m124 := (ey13).trans (fI_kept (x_lt hT kH106 gb (by decide))).symm
    have m125 := (es16).trans (fI_kept (x_lt hT kH106 gw (by decide))).symm
    have m126 := (ey16).trans (fI_kept (x_lt hT kH106 gb (by decide))).symm
    have m127 := (ehi).trans (fI_kept (x_lt hT kH106 gb (by decide))).symm
    have m128 := (fV_kept (x_lt hT kH106 ga (by decide))).trans kn
    refine W.eq (g2 := F0 m 240 ls [.int x107]) rfl ?_
    refine lv_pop hx hb dL_law_240 rfl ?_
    refine lv_aload_n hx hb dL_law_241 rfl (lv_at hl 1 rfl) ?_
    refine lv_aload_n hx hb dL_law_242 rfl (lv_at hl 3 rfl) ?_
    refine lv_iload_n hx hb dL_law_243 rfl (lv_at hl 0 rfl) ?_
    refine lv_iconst (v := 1) hx hb dL_law_244 (by decide) ?_
    refine lv_iadd hx hb dL_law_245 ?_
    refine lv_topi (fun x129 ex129 => ?_)
    obtain ⟨tx129, ejx129, evx129⟩ := lw_ix (k := 1) ex129 hI hL rfl (by decide)
    clear tx129
    refine va_sld hx hb hX hbl (Nat.not_le.mpr hbl) hSH106 (vp_in_iff.mpr evx129) dL_law_246 ?_
    refine W.eq (g2 := F0 m 247 ls [.int (xs (i.toNatClampNeg + 1)), .ref b]) (congrArg (fun z => F0 m 247 ls [.int (xs z), .ref b]) ejx129) ?_
    refine lv_aload_n hx hb dL_law_247 rfl (lv_at hl 3 rfl) ?_
    refine lv_iload_n hx hb dL_law_248 rfl (lv_at hl 0 rfl) ?_
    refine lv_iconst (v := 2) hx hb dL_law_249 (by decide) ?_
    refine lv_iadd hx hb dL_law_250 ?_
    refine lv_topi (fun x130 ex130 => ?_)
    obtain ⟨tx130, ejx130, evx130⟩ := lw_ix (k := 2) ex130 hI hL rfl (by decide)
    clear tx130
    refine va_sld hx hb hX hbl (Nat.not_le.mpr hbl) hSH106 (vp_in_iff.mpr evx130) dL_law_251 ?_
    refine W.eq (g2 := F0 m 252 ls [.int (xs (i.toNatClampNeg + 2)), .int (xs (i.toNatClampNeg + 1)), .ref b]) (congrArg (fun z => F0 m 252 ls [.int (xs z), .int (xs (i.toNatClampNeg + 1)), .ref b]) ejx130) ?_
    refine lv_aload_n hx hb dL_law_252 rfl (lv_at hl 3 rfl) ?_
    refine lv_iload_n hx hb dL_law_253 rfl (lv_at hl 0 rfl) ?_
    refine lv_iconst (v := 3) hx hb dL_law_254 (by decide) ?_
    refine lv_iadd hx hb dL_law_255 ?_
    refine lv_topi (fun x131 ex131 => ?_)
    obtain ⟨tx131, ejx131, evx131⟩ := lw_ix (k := 3) ex131 hI hL rfl (by decide)
    clear tx131
    refine va_sld hx hb hX hbl (Nat.not_le.mpr hbl) hSH106 (vp_in_iff.mpr evx131) dL_law_256 ?_
    refine W.eq (g2 := F0 m 257 ls [.int (xs (i.toNatClampNeg + 3)), .int (xs (i.toNatClampNeg + 2)), .int (xs (i.toNatClampNeg + 1)), .ref b]) (congrArg (fun z => F0 m 257 ls [.int (xs z), .int (xs (i.toNatClampNeg + 2)), .int (xs (i.toNatClampNeg + 1)), .ref b]) ejx131) ?_
    refine lv_aload_n hx hb dL_law_257 rfl (lv_at hl 3 rfl) ?_
    refine lv_iload_n hx hb dL_law_258 rfl (lv_at hl 0 rfl) ?_
    refine lv_iconst (v := 4) hx hb dL_law_259 (by decide) ?_
    refine lv_iadd hx hb dL_law_260 ?_
    refine lv_topi (fun x132 ex132 => ?_)
    obtain ⟨tx132, ejx132, evx132⟩ := lw_ix (k := 4) ex132 hI hL rfl (by decide)
    clear tx132
    refine va_sld hx hb hX hbl (Nat.not_le.mpr hbl) hSH106 (vp_in_iff.mpr evx132) dL_law_261 ?_
    refine W.eq (g2 := F0 m 262 ls [.int (xs (i.toNatClampNeg + 4)), .int (xs (i.toNatClampNeg + 3)), .int (xs (i.toNatClampNeg + 2)), .int (xs (i.toNatClampNeg + 1)), .ref b]) (congrArg (fun z => F0 m 262 ls [.int (xs z), .int (xs (i.toNatClampNeg + 3)), .int (xs (i.toNatClampNeg + 2)), .int (xs (i.toNatClampNeg + 1)), .ref b]) ejx132) ?_
    refine lv_aload_n hx hb dL_law_262 rfl (lv_at hl 3 rfl) ?_
    refine lv_iload_n hx hb dL_law_263 rfl (lv_at hl 0 rfl) ?_
    refine lv_iconst (v := 5) hx hb dL_law_264 (by decide) ?_
    refine lv_iadd hx hb dL_law_265 ?_
    refine lv_topi (fun x133 ex133 => ?_)
    obtain ⟨tx133, ejx133, evx133⟩ := lw_ix (k := 5) ex133 hI hL rfl (by decide)
    clear tx133
    refine va_sld hx hb hX hbl (Nat.not_le.mpr hbl) hSH106 (vp_in_iff.mpr evx133) dL_law_266 ?_
    refine W.eq (g2 := F0 m 267 ls [.int (xs (i.toNatClampNeg + 5)), .int (xs (i.toNatClampNeg + 4)), .int (xs (i.toNatClampNeg + 3)), .int (xs (i.toNatClampNeg + 2)), .int (xs (i.toNatClampNeg + 1)), .ref b]) (congrArg (fun z => F0 m 267 ls [.int (xs z), .int (xs (i.toNatClampNeg + 4)), .int (xs (i.toNatClampNeg + 3)), .int (xs (i.toNatClampNeg + 2)), .int (xs (i.toNatClampNeg + 1)), .ref b]) ejx133) ?_
    refine x_V (As := [.int (xs (i.toNatClampNeg + 1)), .int (xs (i.toNatClampNeg + 2)), .int (xs (i.toNatClampNeg + 3)), .int (xs (i.toNatClampNeg + 4)), .int (xs (i.toNatClampNeg + 5))]) (rest := []) C (a_X10_slice l K G H106 ((xs (i.toNatClampNeg + 1))) ((xs (i.toNatClampNeg + 2))) ((xs (i.toNatClampNeg + 3))) ((xs (i.toNatClampNeg + 4))) ((xs (i.toNatClampNeg + 5))) hTH106 gb g108 g109 g110 g111) yo_X10_slice wM_L_22 ⟨⟨by decide, by decide⟩, show _ ≤ 284929 from Nat.le_trans hc (by decide), show _ ≤ 8247460 from Nat.le_trans hs (by decide)⟩ (x_rv C hTH106 (ci := 10) rfl gb rg_112) rfl hl.1 rfl (Nat.le_of_ble_eq_true rfl) dL_law_267 hSH106 (AE_new hN hSH106.1) (fun vH134 H134 locsH134 pH134 zH134 kH134 hSH134 => ?_)
    obtain ⟨x135, hvH134, bx135, g136, g137, g138, g139, mf140, hTH134⟩ := pH134
    subst hvH134
    have m141 := (m112).trans (fR_kept (x_lt hTH106 kH134 ga (by decide))).symm
    have m142 := (m113).trans (fI_kept (x_lt hTH106 kH134 ga (by decide))).symm
    have m143 := (m115).trans (fI_kept (x_lt hTH106 kH134 gw (by decide))).symm
    have m144 := (m117).trans (fI_kept (x_lt hTH106 kH134 gw (by decide))).symm
    have m145 := (m119).trans (fI_kept (x_lt hTH106 kH134 gw (by decide))).symm
    have m146 := (m121).trans (fI_kept (x_lt hTH106 kH134 gw (by decide))).symm
    have m147 := (m123).trans (fI_kept (x_lt hTH106 kH134 gw (by decide))).symm
    have m148 := (m125).trans (fI_kept (x_lt hTH106 kH134 gw (by decide))).symm
    have m149 := (fV_kept (x_lt hTH106 kH134 ga (by decide))).trans m128
    have m150 := (m114).trans (MF.i mf140 (k := 18) (by decide) (by decide)).symm
    have m151 := (m116).trans (MF.i mf140 (k := 1) (by decide) (by decide)).symm
    have m152 := (m118).trans (MF.i mf140 (k := 2) (by decide) (by decide)).symm
    have m153 := (m120).trans (MF.i mf140 (k := 3) (by decide) (by decide)).symm
    have m154 := (m122).trans (MF.i mf140 (k := 59) (by decide) (by decide)).symm
    have m155 := (m124).trans (MF.i mf140 (k := 62) (by decide) (by decide)).symm
    have m156 := (m126).trans (MF.i mf140 (k := 65) (by decide) (by decide)).symm
    have m157 := (m127).trans (MF.i mf140 (k := 70) (by decide) (by decide)).symm
    refine W.eq (g2 := F0 m 270 ls [.int x135]) rfl ?_
    refine lv_pop hx hb dL_law_270 rfl ?_
    refine lv_goto (tgt := 1509) hx hb dL_law_271 (by decide) ?_
    exact nx G H134 locsH134 _ _ ls ⟨hTH134, hN, ga, gb, g136, g137, g138, g139, ⟨(by rw [← m142, ← m150]; exact rt), (by rw [← m141, ← m143, ← m151]; exact r1), (by rw [← m141, ← m144, ← m152]; exact r4), (by rw [← m141, ← m145, ← m153]; exact r5), (by rw [← m141, ← m146, ← m154]; exact r10), (by rw [← m141, ← m147, ← m155]; exact r13), (by rw [← m141, ← m148, ← m156]; exact r16)⟩, Or.inl ⟨m149, (by rw [← m157]; exact h70)⟩, hSH134⟩ hl ⟨hc, hs, fun _ => ⟨hc0, hs0⟩⟩
  · skip
    obtain ⟨hi, ehi⟩ : ∃ z : Int32, z = fI H b (K.1.2 10 70) := ⟨_, rfl⟩
    rw [← ehi] at h70
    obtain ⟨iq, eiq⟩ : ∃ z : Nat, z = fR H b (K.1.2 10 73) := ⟨_, rfl⟩
    have giq := ty_fr (q := iq) (k := 73) (u := 162) eiq hT gb rg_112 rfl
    rw [← eiq] at q1 q4 q5 q10 q13 q16
    obtain ⟨k1, ek1⟩ : ∃ z : Int32, z = fI H kq (K.1.2 8 1) := ⟨_, rfl⟩
    rw [← ek1] at q1
    obtain ⟨i1, ei1⟩ : ∃ z : Int32, z = fI H iq ((0 : Int32).toNatClampNeg) := ⟨_, rfl⟩
    rw [← ei1] at q1
    obtain ⟨k4, ek4⟩ : ∃ z : Int32, z = fI H kq (K.1.2 8 4) := ⟨_, rfl⟩
    rw [← ek4] at q4
    obtain ⟨i4, ei4⟩ : ∃ z : Int32, z = fI H iq ((1 : Int32).toNatClampNeg) := ⟨_, rfl⟩
    rw [← ei4] at q4
    obtain ⟨k5, ek5⟩ : ∃ z : Int32, z = fI H kq (K.1.2 8 5) := ⟨_, rfl⟩
    rw [← ek5] at q5
    obtain ⟨i5, ei5⟩ : ∃ z : Int32, z = fI H iq ((2 : Int32).toNatClampNeg) := ⟨_, rfl⟩
    rw [← ei5] at q5
    obtain ⟨k10, ek10⟩ : ∃ z : Int32, z = fI H kq (K.1.2 8 10) := ⟨_, rfl⟩
    rw [← ek10] at q10
    obtain ⟨i10, ei10⟩ : ∃ z : Int32, z = fI H iq ((3 : Int32).toNatClampNeg) := ⟨_, rfl⟩
    rw [← ei10] at q10
    obtain ⟨k13, ek13⟩ : ∃ z : Int32, z = fI H kq (K.1.2 8 13) := ⟨_, rfl⟩
    rw [← ek13] at q13
    obtain ⟨i13, ei13⟩ : ∃ z : Int32, z = fI H iq ((4 : Int32).toNatClampNeg) := ⟨_, rfl⟩
    rw [← ei13] at q13
    obtain ⟨k16, ek16⟩ : ∃ z : Int32, z = fI H kq (K.1.2 8 16) := ⟨_, rfl⟩
    rw [← ek16] at q16
    obtain ⟨i16, ei16⟩ : ∃ z : Int32, z = fI H iq ((5 : Int32).toNatClampNeg) := ⟨_, rfl⟩
    rw [← ei16] at q16
    refine lv_aload_n hx hb dL_law_211 rfl (lv_at hl 2 rfl) ?_
    refine lv_aload_n hx hb dL_law_212 rfl (lv_at hl 3 rfl) ?_
    refine lv_iload_n hx hb dL_law_213 rfl (lv_at hl 0 rfl) ?_
    refine lv_iconst (v := 1) hx hb dL_law_214 (by decide) ?_
    refine lv_iadd hx hb dL_law_215 ?_
    refine lv_topi (fun x158 ex158 => ?_)
    obtain ⟨tx158, ejx158, evx158⟩ := lw_ix (k := 1) ex158 hI hL rfl (by decide)
    clear tx158
    refine va_sld hx hb hX hbl (Nat.not_le.mpr hbl) hS (vp_in_iff.mpr evx158) dL_law_216 ?_
    refine W.eq (g2 := F0 m 217 ls [.int (xs (i.toNatClampNeg + 1)), .ref a]) (congrArg (fun z => F0 m 217 ls [.int (xs z), .ref a]) ejx158) ?_
    refine lv_aload_n hx hb dL_law_217 rfl (lv_at hl 3 rfl) ?_
    refine lv_iload_n hx hb dL_law_218 rfl (lv_at hl 0 rfl) ?_
    refine lv_iconst (v := 2) hx hb dL_law_219 (by decide) ?_
    refine lv_iadd hx hb dL_law_220 ?_
    refine lv_topi (fun x159 ex159 => ?_)
    obtain ⟨tx159, ejx159, evx159⟩ := lw_ix (k := 2) ex159 hI hL rfl (by decide)
    clear tx159
    refine va_sld hx hb hX hbl (Nat.not_le.mpr hbl) hS (vp_in_iff.mpr evx159) dL_law_221 ?_
    refine W.eq (g2 := F0 m 222 ls [.int (xs (i.toNatClampNeg + 2)), .int (xs (i.toNatClampNeg + 1)), .ref a]) (congrArg (fun z => F0 m 222 ls [.int (xs z), .int (xs (i.toNatClampNeg + 1)), .ref a]) ejx159) ?_
    refine lv_aload_n hx hb dL_law_222 rfl (lv_at hl 3 rfl) ?_
    refine lv_iload_n hx hb dL_law_223 rfl (lv_at hl 0 rfl) ?_
    refine lv_iconst (v := 3) hx hb dL_law_224 (by decide) ?_
    refine lv_iadd hx hb dL_law_225 ?_
    refine lv_topi (fun x160 ex160 => ?_)
    obtain ⟨tx160, ejx160, evx160⟩ := lw_ix (k := 3) ex160 hI hL rfl (by decide)
    clear tx160
    refine va_sld hx hb hX hbl (Nat.not_le.mpr hbl) hS (vp_in_iff.mpr evx160) dL_law_226 ?_
    refine W.eq (g2 := F0 m 227 ls [.int (xs (i.toNatClampNeg + 3)), .int (xs (i.toNatClampNeg + 2)), .int (xs (i.toNatClampNeg + 1)), .ref a]) (congrArg (fun z => F0 m 227 ls [.int (xs z), .int (xs (i.toNatClampNeg + 2)), .int (xs (i.toNatClampNeg + 1)), .ref a]) ejx160) ?_
    refine lv_aload_n hx hb dL_law_227 rfl (lv_at hl 3 rfl) ?_
    refine lv_iload_n hx hb dL_law_228 rfl (lv_at hl 0 rfl) ?_
    refine lv_iconst (v := 4) hx hb dL_law_229 (by decide) ?_
    refine lv_iadd hx hb dL_law_230 ?_
    refine lv_topi (fun x161 ex161 => ?_)
    obtain ⟨tx161, ejx161, evx161⟩ := lw_ix (k := 4) ex161 hI hL rfl (by decide)
    clear tx161
    refine va_sld hx hb hX hbl (Nat.not_le.mpr hbl) hS (vp_in_iff.mpr evx161) dL_law_231 ?_
    refine W.eq (g2 := F0 m 232 ls [.int (xs (i.toNatClampNeg + 4)), .int (xs (i.toNatClampNeg + 3)), .int (xs (i.toNatClampNeg + 2)), .int (xs (i.toNatClampNeg + 1)), .ref a]) (congrArg (fun z => F0 m 232 ls [.int (xs z), .int (xs (i.toNatClampNeg + 3)), .int (xs (i.toNatClampNeg + 2)), .int (xs (i.toNatClampNeg + 1)), .ref a]) ejx161) ?_
    refine lv_aload_n hx hb dL_law_232 rfl (lv_at hl 3 rfl) ?_
    refine lv_iload_n hx hb dL_law_233 rfl (lv_at hl 0 rfl) ?_
    refine lv_iconst (v := 5) hx hb dL_law_234 (by decide) ?_
    refine lv_iadd hx hb dL_law_235 ?_
    refine lv_topi (fun x162 ex162 => ?_)
    obtain ⟨tx162, ejx162, evx162⟩ := lw_ix (k := 5) ex162 hI hL rfl (by decide)
    clear tx162
    refine va_sld hx hb hX hbl (Nat.not_le.mpr hbl) hS (vp_in_iff.mpr evx162) dL_law_236 ?_
    refine W.eq (g2 := F0 m 237 ls [.int (xs (i.toNatClampNeg + 5)), .int (xs (i.toNatClampNeg + 4)), .int (xs (i.toNatClampNeg + 3)), .int (xs (i.toNatClampNeg + 2)), .int (xs (i.toNatClampNeg + 1)), .ref a]) (congrArg (fun z => F0 m 237 ls [.int (xs z), .int (xs (i.toNatClampNeg + 4)), .int (xs (i.toNatClampNeg + 3)), .int (xs (i.toNatClampNeg + 2)), .int (xs (i.toNatClampNeg + 1)), .ref a]) ejx162) ?_
    refine x_V (As := [.int (xs (i.toNatClampNeg + 1)), .int (xs (i.toNatClampNeg + 2)), .int (xs (i.toNatClampNeg + 3)), .int (xs (i.toNatClampNeg + 4)), .int (xs (i.toNatClampNeg + 5))]) (rest := []) C (a_X9_slice l K G H ((xs (i.toNatClampNeg + 1))) ((xs (i.toNatClampNeg + 2))) ((xs (i.toNatClampNeg + 3))) ((xs (i.toNatClampNeg + 4))) ((xs (i.toNatClampNeg + 5))) hT ga) yo_X9_slice wM_L_18 ⟨⟨by decide, by decide⟩, show _ ≤ 284929 from Nat.le_trans hc (by decide), show _ ≤ 8247460 from Nat.le_trans hs (by decide)⟩ (x_rv C hT (ci := 9) rfl ga rg_68) rfl hl.1 rfl (Nat.le_of_ble_eq_true rfl) dL_law_237 hS (AE_new hN hS.1) (fun vH163 H163 locsH163 pH163 zH163 kH163 hSH163 => ?_)
    obtain ⟨x164, hvH163, bx164, hTH163⟩ := pH163
    subst hvH163
    have g165 : CG (avw K H163 b) := CG.congr (fun k hk j => av_eff hT kH163 gb (by decide) (CG_eff [2, 3, 4] (by decide) k hk)) cg
    have g166 : TU (avw K H163 b) (svw K H163 b) := TU.congr (fun k hk j => av_eff hT kH163 gb (by decide) (TU_eff [2, 3, 4] (by decide) k hk)) (fun k hk => sv_eff hT kH163 gb (by decide)) tu
    have g167 : WD (avw K H163 b) := WD.congr (fun k hk j => av_eff hT kH163 gb (by decide) (WD_eff [2, 3, 4] (by decide) k hk)) wd
    have g168 : IM (avw K H163 b) := IM.congr (fun k hk j => av_eff hT kH163 gb (by decide) (IM_eff [2, 3, 4] (by decide) k hk)) im
    have m169 := (ew).trans (fR_kept (x_lt hT kH163 ga (by decide))).symm
    have m170 := (eta).trans (fI_kept (x_lt hT kH163 ga (by decide))).symm
    have m171 := (etb).trans (fI_kept (x_lt hT kH163 gb (by decide))).symm
    have m172 := (es1).trans (fI_kept (x_lt hT kH163 gw (by decide))).symm
    have m173 := (ey1).trans (fI_kept (x_lt hT kH163 gb (by decide))).symm
    have m174 := (es4).trans (fI_kept (x_lt hT kH163 gw (by decide))).symm
    have m175 := (ey4).trans (fI_kept (x_lt hT kH163 gb (by decide))).symm
    have m176 := (es5).trans (fI_kept (x_lt hT kH163 gw (by decide))).symm
    have m177 := (ey5).trans (fI_kept (x_lt hT kH163 gb (by decide))).symm
    have m178 := (es10).trans (fI_kept (x_lt hT kH163 gw (by decide))).symm
    have m179 := (ey10).trans (fI_kept (x_lt hT kH163 gb (by decide))).symm
    have m180 := (es13).trans (fI_kept (x_lt hT kH163 gw (by decide))).symm
    have m181 := (ey13).trans (fI_kept (x_lt hT kH163 gb (by decide))).symm
    have m182 := (es16).trans (fI_kept (x_lt hT kH163 gw (by decide))).symm
    have m183 := (ey16).trans (fI_kept (x_lt hT kH163 gb (by decide))).symm
    have m184 := (ehi).trans (fI_kept (x_lt hT kH163 gb (by decide))).symm
    have m185 := (fV_kept (x_lt hT kH163 ga (by decide))).trans kn
    have m186 := (eiq).trans (fR_kept (x_lt hT kH163 gb (by decide))).symm
    have m187 := (ek1).trans (fI_kept (x_lt hT kH163 gkq (by decide))).symm
    have m188 := (ei1).trans (fI_kept (x_lt hT kH163 giq (by decide))).symm
    have m189 := (ek4).trans (fI_kept (x_lt hT kH163 gkq (by decide))).symm
    have m190 := (ei4).trans (fI_kept (x_lt hT kH163 giq (by decide))).symm
    have m191 := (ek5).trans (fI_kept (x_lt hT kH163 gkq (by decide))).symm
    have m192 := (ei5).trans (fI_kept (x_lt hT kH163 giq (by decide))).symm
    have m193 := (ek10).trans (fI_kept (x_lt hT kH163 gkq (by decide))).symm
    have m194 := (ei10).trans (fI_kept (x_lt hT kH163 giq (by decide))).symm
    have m195 := (ek13).trans (fI_kept (x_lt hT kH163 gkq (by decide))).symm
    have m196 := (ei13).trans (fI_kept (x_lt hT kH163 giq (by decide))).symm
    have m197 := (ek16).trans (fI_kept (x_lt hT kH163 gkq (by decide))).symm
    have m198 := (ei16).trans (fI_kept (x_lt hT kH163 giq (by decide))).symm
    refine W.eq (g2 := F0 m 240 ls [.int x164]) rfl ?_
    refine lv_pop hx hb dL_law_240 rfl ?_
    refine lv_aload_n hx hb dL_law_241 rfl (lv_at hl 1 rfl) ?_
    refine lv_aload_n hx hb dL_law_242 rfl (lv_at hl 3 rfl) ?_
    refine lv_iload_n hx hb dL_law_243 rfl (lv_at hl 0 rfl) ?_
    refine lv_iconst (v := 1) hx hb dL_law_244 (by decide) ?_
    refine lv_iadd hx hb dL_law_245 ?_
    refine lv_topi (fun x199 ex199 => ?_)
    obtain ⟨tx199, ejx199, evx199⟩ := lw_ix (k := 1) ex199 hI hL rfl (by decide)
    clear tx199
    refine va_sld hx hb hX hbl (Nat.not_le.mpr hbl) hSH163 (vp_in_iff.mpr evx199) dL_law_246 ?_
    refine W.eq (g2 := F0 m 247 ls [.int (xs (i.toNatClampNeg + 1)), .ref b]) (congrArg (fun z => F0 m 247 ls [.int (xs z), .ref b]) ejx199) ?_
    refine lv_aload_n hx hb dL_law_247 rfl (lv_at hl 3 rfl) ?_
    refine lv_iload_n hx hb dL_law_248 rfl (lv_at hl 0 rfl) ?_
    refine lv_iconst (v := 2) hx hb dL_law_249 (by decide) ?_
    refine lv_iadd hx hb dL_law_250 ?_
    refine lv_topi (fun x200 ex200 => ?_)
    obtain ⟨tx200, ejx200, evx200⟩ := lw_ix (k := 2) ex200 hI hL rfl (by decide)
    clear tx200
    refine va_sld hx hb hX hbl (Nat.not_le.mpr hbl) hSH163 (vp_in_iff.mpr evx200) dL_law_251 ?_
    refine W.eq (g2 := F0 m 252 ls [.int (xs (i.toNatClampNeg + 2)), .int (xs (i.toNatClampNeg + 1)), .ref b]) (congrArg (fun z => F0 m 252 ls [.int (xs z), .int (xs (i.toNatClampNeg + 1)), .ref b]) ejx200) ?_
    refine lv_aload_n hx hb dL_law_252 rfl (lv_at hl 3 rfl) ?_
    refine lv_iload_n hx hb dL_law_253 rfl (lv_at hl 0 rfl) ?_
    refine lv_iconst (v := 3) hx hb dL_law_254 (by decide) ?_
    refine lv_iadd hx hb dL_law_255 ?_
    refine lv_topi (fun x201 ex201 => ?_)
    obtain ⟨tx201, ejx201, evx201⟩ := lw_ix (k := 3) ex201 hI hL rfl (by decide)
    clear tx201
    refine va_sld hx hb hX hbl (Nat.not_le.mpr hbl) hSH163 (vp_in_iff.mpr evx201) dL_law_256 ?_
    refine W.eq (g2 := F0 m 257 ls [.int (xs (i.toNatClampNeg + 3)), .int (xs (i.toNatClampNeg + 2)), .int (xs (i.toNatClampNeg + 1)), .ref b]) (congrArg (fun z => F0 m 257 ls [.int (xs z), .int (xs (i.toNatClampNeg + 2)), .int (xs (i.toNatClampNeg + 1)), .ref b]) ejx201) ?_
    refine lv_aload_n hx hb dL_law_257 rfl (lv_at hl 3 rfl) ?_
    refine lv_iload_n hx hb dL_law_258 rfl (lv_at hl 0 rfl) ?_
    refine lv_iconst (v := 4) hx hb dL_law_259 (by decide) ?_
    refine lv_iadd hx hb dL_law_260 ?_
    refine lv_topi (fun x202 ex202 => ?_)
    obtain ⟨tx202, ejx202, evx202⟩ := lw_ix (k := 4) ex202 hI hL rfl (by decide)
    clear tx202
    refine va_sld hx hb hX hbl (Nat.not_le.mpr hbl) hSH163 (vp_in_iff.mpr evx202) dL_law_261 ?_
    refine W.eq (g2 := F0 m 262 ls [.int (xs (i.toNatClampNeg + 4)), .int (xs (i.toNatClampNeg + 3)), .int (xs (i.toNatClampNeg + 2)), .int (xs (i.toNatClampNeg + 1)), .ref b]) (congrArg (fun z => F0 m 262 ls [.int (xs z), .int (xs (i.toNatClampNeg + 3)), .int (xs (i.toNatClampNeg + 2)), .int (xs (i.toNatClampNeg + 1)), .ref b]) ejx202) ?_
    refine lv_aload_n hx hb dL_law_262 rfl (lv_at hl 3 rfl) ?_
    refine lv_iload_n hx hb dL_law_263 rfl (lv_at hl 0 rfl) ?_
    refine lv_iconst (v := 5) hx hb dL_law_264 (by decide) ?_
    refine lv_iadd hx hb dL_law_265 ?_
    refine lv_topi (fun x203 ex203 => ?_)
    obtain ⟨tx203, ejx203, evx203⟩ := lw_ix (k := 5) ex203 hI hL rfl (by decide)
    clear tx203
    refine va_sld hx hb hX hbl (Nat.not_le.mpr hbl) hSH163 (vp_in_iff.mpr evx203) dL_law_266 ?_
    refine W.eq (g2 := F0 m 267 ls [.int (xs (i.toNatClampNeg + 5)), .int (xs (i.toNatClampNeg + 4)), .int (xs (i.toNatClampNeg + 3)), .int (xs (i.toNatClampNeg + 2)), .int (xs (i.toNatClampNeg + 1)), .ref b]) (congrArg (fun z => F0 m 267 ls [.int (xs z), .int (xs (i.toNatClampNeg + 4)), .int (xs (i.toNatClampNeg + 3)), .int (xs (i.toNatClampNeg + 2)), .int (xs (i.toNatClampNeg + 1)), .ref b]) ejx203) ?_
    refine x_V (As := [.int (xs (i.toNatClampNeg + 1)), .int (xs (i.toNatClampNeg + 2)), .int (xs (i.toNatClampNeg + 3)), .int (xs (i.toNatClampNeg + 4)), .int (xs (i.toNatClampNeg + 5))]) (rest := []) C (a_X10_slice l K G H163 ((xs (i.toNatClampNeg + 1))) ((xs (i.toNatClampNeg + 2))) ((xs (i.toNatClampNeg + 3))) ((xs (i.toNatClampNeg + 4))) ((xs (i.toNatClampNeg + 5))) hTH163 gb g165 g166 g167 g168) yo_X10_slice wM_L_22 ⟨⟨by decide, by decide⟩, show _ ≤ 284929 from Nat.le_trans hc (by decide), show _ ≤ 8247460 from Nat.le_trans hs (by decide)⟩ (x_rv C hTH163 (ci := 10) rfl gb rg_112) rfl hl.1 rfl (Nat.le_of_ble_eq_true rfl) dL_law_267 hSH163 (AE_new hN hSH163.1) (fun vH204 H204 locsH204 pH204 zH204 kH204 hSH204 => ?_)
    obtain ⟨x205, hvH204, bx205, g206, g207, g208, g209, mf210, hTH204⟩ := pH204
    subst hvH204
    have m211 := (m169).trans (fR_kept (x_lt hTH163 kH204 ga (by decide))).symm
    have m212 := (m170).trans (fI_kept (x_lt hTH163 kH204 ga (by decide))).symm
    have m213 := (m172).trans (fI_kept (x_lt hTH163 kH204 gw (by decide))).symm
    have m214 := (m174).trans (fI_kept (x_lt hTH163 kH204 gw (by decide))).symm
    have m215 := (m176).trans (fI_kept (x_lt hTH163 kH204 gw (by decide))).symm
    have m216 := (m178).trans (fI_kept (x_lt hTH163 kH204 gw (by decide))).symm
    have m217 := (m180).trans (fI_kept (x_lt hTH163 kH204 gw (by decide))).symm
    have m218 := (m182).trans (fI_kept (x_lt hTH163 kH204 gw (by decide))).symm
    have m219 := (fV_kept (x_lt hTH163 kH204 ga (by decide))).trans m185
    have m220 := (m187).trans (fI_kept (x_lt hTH163 kH204 gkq (by decide))).symm
    have m221 := (m188).trans (fI_kept (x_lt hTH163 kH204 giq (by decide))).symm
    have m222 := (m189).trans (fI_kept (x_lt hTH163 kH204 gkq (by decide))).symm
    have m223 := (m190).trans (fI_kept (x_lt hTH163 kH204 giq (by decide))).symm
    have m224 := (m191).trans (fI_kept (x_lt hTH163 kH204 gkq (by decide))).symm
    have m225 := (m192).trans (fI_kept (x_lt hTH163 kH204 giq (by decide))).symm
    have m226 := (m193).trans (fI_kept (x_lt hTH163 kH204 gkq (by decide))).symm
    have m227 := (m194).trans (fI_kept (x_lt hTH163 kH204 giq (by decide))).symm
    have m228 := (m195).trans (fI_kept (x_lt hTH163 kH204 gkq (by decide))).symm
    have m229 := (m196).trans (fI_kept (x_lt hTH163 kH204 giq (by decide))).symm
    have m230 := (m197).trans (fI_kept (x_lt hTH163 kH204 gkq (by decide))).symm
    have m231 := (m198).trans (fI_kept (x_lt hTH163 kH204 giq (by decide))).symm
    have m232 := (m171).trans (MF.i mf210 (k := 18) (by decide) (by decide)).symm
    have m233 := (m173).trans (MF.i mf210 (k := 1) (by decide) (by decide)).symm
    have m234 := (m175).trans (MF.i mf210 (k := 2) (by decide) (by decide)).symm
    have m235 := (m177).trans (MF.i mf210 (k := 3) (by decide) (by decide)).symm
    have m236 := (m179).trans (MF.i mf210 (k := 59) (by decide) (by decide)).symm
    have m237 := (m181).trans (MF.i mf210 (k := 62) (by decide) (by decide)).symm
    have m238 := (m183).trans (MF.i mf210 (k := 65) (by decide) (by decide)).symm
    have m239 := (m184).trans (MF.i mf210 (k := 70) (by decide) (by decide)).symm
    have m240 := (m186).trans (MF.r mf210 (k := 73) (by decide) (by decide)).symm
    refine W.eq (g2 := F0 m 270 ls [.int x205]) rfl ?_
    refine lv_pop hx hb dL_law_270 rfl ?_
    refine lv_goto (tgt := 1509) hx hb dL_law_271 (by decide) ?_
    exact nx G H204 locsH204 _ _ ls ⟨hTH204, hN, ga, gb, g206, g207, g208, g209, ⟨(by rw [← m212, ← m232]; exact rt), (by rw [← m211, ← m213, ← m233]; exact r1), (by rw [← m211, ← m214, ← m234]; exact r4), (by rw [← m211, ← m215, ← m235]; exact r5), (by rw [← m211, ← m216, ← m236]; exact r10), (by rw [← m211, ← m217, ← m237]; exact r13), (by rw [← m211, ← m218, ← m238]; exact r16)⟩, Or.inr ⟨kq, m219, gkq, (by rw [← m239]; exact h70), (by rw [← m220, ← m240, ← m221]; exact q1), (by rw [← m222, ← m240, ← m223]; exact q4), (by rw [← m224, ← m240, ← m225]; exact q5), (by rw [← m226, ← m240, ← m227]; exact q10), (by rw [← m228, ← m240, ← m229]; exact q13), (by rw [← m230, ← m240, ← m231]; exact q16)⟩, hSH204⟩ hl ⟨hc, hs, fun h => by have h1 := h.symm.trans m219; cases h1⟩
set_option maxRecDepth 100000 in
set_option maxHeartbeats 1000000 in
theorem lw_c2 {p : Program} {l : Launch} {e : Env} {s : State} {m : MethodId} {below : List Frame} {meth : Method} {c : Code} {K : KE} {b0 L : Nat} {xs : Nat → Int32} {G : Nat → Option Nat} {H : Heap} {locs : List Loc} {a b : Nat} {cells slots : Nat} {ls : Array Slot} {i : Int32} {n : Nat} (D : LC p K s m meth c b0 L xs) (S : SX K s G H locs a b) (hl : lv_has ls 4 [(3, .int i), (2, .ref b), (1, .ref a), (0, .ref b0)]) (hi : 0 ≤ i.toInt ∧ i.toInt + 6 ≤ L) (hn : n ≤ 511) (hB : BD K H a cells slots) (nx : ∀ (G : Nat → Option Nat) (H : Heap) (locs : List Loc) (cells slots : Nat) (ls : Array Slot), SX K s G H locs a b → lv_has ls 4 [(3, .int i), (2, .ref b), (1, .ref a), (0, .ref b0)] → BD K H a cells slots → W p l e room_1 s m #[Value.ref b0] below meth c H locs cells slots (lw_Z below #[Value.ref b0] s) (F0 m 1509 ls [])) : W p l e room_1 s m #[Value.ref b0] below meth c H locs cells slots (lw_Z below #[Value.ref b0] s) (F0 m 274 ls []) := by
  have hI := hi
  obtain ⟨C, hX, hbl, hL⟩ := id D
  obtain ⟨hx, hb, hml, hown, hts, hKT, hr, hlocks, hnm⟩ := id C
  obtain ⟨hT, hN, ga, gb, cg, tu, wd, im, ⟨rt, r1, r4, r5, r10, r13, r16⟩, hk, hS⟩ := S
  obtain ⟨hc, hs, hB0⟩ := hB
  have n_1 : (1 : Int32).toInt = 1 := rfl
  have n_2 : (2 : Int32).toInt = 2 := rfl
  have n_3 : (3 : Int32).toInt = 3 := rfl
  obtain ⟨w, ew⟩ : ∃ z : Nat, z = fR H a (K.1.2 9 0) := ⟨_, rfl⟩
  have gw := ty_fr (q := w) (k := 0) (u := 0) ew hT ga rg_68 rfl
  rw [← ew] at r1 r4 r5 r10 r13 r16
  obtain ⟨ta, eta⟩ : ∃ z : Int32, z = fI H a (K.1.2 9 3) := ⟨_, rfl⟩
  rw [← eta] at rt
  obtain ⟨tb, etb⟩ : ∃ z : Int32, z = fI H b (K.1.2 10 18) := ⟨_, rfl⟩
  rw [← etb] at rt
  obtain ⟨s1, es1⟩ : ∃ z : Int32, z = fI H w (K.1.2 8 1) := ⟨_, rfl⟩
  rw [← es1] at r1
  obtain ⟨y1, ey1⟩ : ∃ z : Int32, z = fI H b (K.1.2 10 1) := ⟨_, rfl⟩
  rw [← ey1] at r1
  obtain ⟨s4, es4⟩ : ∃ z : Int32, z = fI H w (K.1.2 8 4) := ⟨_, rfl⟩
  rw [← es4] at r4
  obtain ⟨y4, ey4⟩ : ∃ z : Int32, z = fI H b (K.1.2 10 2) := ⟨_, rfl⟩
  rw [← ey4] at r4
  obtain ⟨s5, es5⟩ : ∃ z : Int32, z = fI H w (K.1.2 8 5) := ⟨_, rfl⟩
  rw [← es5] at r5
  obtain ⟨y5, ey5⟩ : ∃ z : Int32, z = fI H b (K.1.2 10 3) := ⟨_, rfl⟩
  rw [← ey5] at r5
  obtain ⟨s10, es10⟩ : ∃ z : Int32, z = fI H w (K.1.2 8 10) := ⟨_, rfl⟩
  rw [← es10] at r10
  obtain ⟨y10, ey10⟩ : ∃ z : Int32, z = fI H b (K.1.2 10 59) := ⟨_, rfl⟩
  rw [← ey10] at r10
  obtain ⟨s13, es13⟩ : ∃ z : Int32, z = fI H w (K.1.2 8 13) := ⟨_, rfl⟩
  rw [← es13] at r13
  obtain ⟨y13, ey13⟩ : ∃ z : Int32, z = fI H b (K.1.2 10 62) := ⟨_, rfl⟩
  rw [← ey13] at r13
  obtain ⟨s16, es16⟩ : ∃ z : Int32, z = fI H w (K.1.2 8 16) := ⟨_, rfl⟩
  rw [← es16] at r16
  obtain ⟨y16, ey16⟩ : ∃ z : Int32, z = fI H b (K.1.2 10 65) := ⟨_, rfl⟩
  rw [← ey16] at r16
  rcases hk with ⟨kn, h70⟩ | ⟨kq, kn, gkq, h70, q1, q4, q5, q10, q13, q16⟩
  · skip
    obtain ⟨hi, ehi⟩ : ∃ z : Int32, z = fI H b (K.1.2 10 70) := ⟨_, rfl⟩
    rw [← ehi] at h70
    obtain ⟨hc0, hs0⟩ := hB0 kn
    refine lv_aload_n hx hb dL_law_274 rfl (lv_at hl 2 rfl) ?_
    refine lv_aload_n hx hb dL_law_275 rfl (lv_at hl 3 rfl) ?_
    refine lv_iload_n hx hb dL_law_276 rfl (lv_at hl 0 rfl) ?_
    refine lv_iconst (v := 1) hx hb dL_law_277 (by decide) ?_
    refine lv_iadd hx hb dL_law_278 ?_
    refine lv_topi (fun x101 ex101 => ?_)
    obtain ⟨tx101, ejx101, evx101⟩ := lw_ix (k := 1) ex101 hI hL rfl (by decide)
    clear tx101
    refine va_sld hx hb hX hbl (Nat.not_le.mpr hbl) hS (vp_in_iff.mpr evx101) dL_law_279 ?_
    refine W.eq (g2 := F0 m 280 ls [.int (xs (i.toNatClampNeg + 1)), .ref a]) (congrArg (fun z => F0 m 280 ls [.int (xs z), .ref a]) ejx101) ?_
    refine lv_aload_n hx hb dL_law_280 rfl (lv_at hl 3 rfl) ?_
    refine lv_iload_n hx hb dL_law_281 rfl (lv_at hl 0 rfl) ?_
    refine lv_iconst (v := 2) hx hb dL_law_282 (by decide) ?_
    refine lv_iadd hx hb dL_law_283 ?_
    refine lv_topi (fun x102 ex102 => ?_)
    obtain ⟨tx102, ejx102, evx102⟩ := lw_ix (k := 2) ex102 hI hL rfl (by decide)
    clear tx102
    refine va_sld hx hb hX hbl (Nat.not_le.mpr hbl) hS (vp_in_iff.mpr evx102) dL_law_284 ?_
    refine W.eq (g2 := F0 m 285 ls [.int (xs (i.toNatClampNeg + 2)), .int (xs (i.toNatClampNeg + 1)), .ref a]) (congrArg (fun z => F0 m 285 ls [.int (xs z), .int (xs (i.toNatClampNeg + 1)), .ref a]) ejx102) ?_
    refine lv_aload_n hx hb dL_law_285 rfl (lv_at hl 3 rfl) ?_
    refine lv_iload_n hx hb dL_law_286 rfl (lv_at hl 0 rfl) ?_
    refine lv_iconst (v := 3) hx hb dL_law_287 (by decide) ?_
    refine lv_iadd hx hb dL_law_288 ?_
    refine lv_topi (fun x103 ex103 => ?_)
    obtain ⟨tx103, ejx103, evx103⟩ := lw_ix (k := 3) ex103 hI hL rfl (by decide)
    clear tx103
    refine va_sld hx hb hX hbl (Nat.not_le.mpr hbl) hS (vp_in_iff.mpr evx103) dL_law_289 ?_
    refine W.eq (g2 := F0 m 290 ls [.int (xs (i.toNatClampNeg + 3)), .int (xs (i.toNatClampNeg + 2)), .int (xs (i.toNatClampNeg + 1)), .ref a]) (congrArg (fun z => F0 m 290 ls [.int (xs z), .int (xs (i.toNatClampNeg + 2)), .int (xs (i.toNatClampNeg + 1)), .ref a]) ejx103) ?_
    refine x_V (As := [.int (xs (i.toNatClampNeg + 1)), .int (xs (i.toNatClampNeg + 2)), .int (xs (i.toNatClampNeg + 3))]) (rest := []) C (a_X9_wax l K G H ((xs (i.toNatClampNeg + 1))) ((xs (i.toNatClampNeg + 2))) ((xs (i.toNatClampNeg + 3))) hT ga) yo_X9_wax wM_L_23 ⟨⟨by decide, by decide⟩, show _ ≤ 284929 from Nat.le_trans hc (by decide), show _ ≤ 8247460 from Nat.le_trans hs (by decide)⟩ (x_rv C hT (ci := 9) rfl ga rg_68) rfl hl.1 rfl (Nat.le_of_ble_eq_true rfl) dL_law_290 hS (AE_new hN hS.1) (fun vH104 H104 locsH104 pH104 zH104 kH104 hSH104 => ?_)
    obtain ⟨x105, hvH104, bx105, hTH104⟩ := pH104
    subst hvH104
    have g106 : CG (avw K H104 b) := CG.congr (fun k hk j => av_eff hT kH104 gb (by decide) (CG_eff [5] (by decide) k hk)) cg
    have g107 : TU (avw K H104 b) (svw K H104 b) := TU.congr (fun k hk j => av_eff hT kH104 gb (by decide) (TU_eff [5] (by decide) k hk)) (fun k hk => sv_eff hT kH104 gb (by decide)) tu
    have g108 : WD (avw K H104 b) := WD.congr (fun k hk j => av_eff hT kH104 gb (by decide) (WD_eff [5] (by decide) k hk)) wd
    have g109 : IM (avw K H104 b) := IM.congr (fun k hk j => av_eff hT kH104 gb (by decide) (IM_eff [5] (by decide) k hk)) im
    have m110 := (ew).trans (fR_kept (x_lt hT kH104 ga (by decide))).symm
    have m111 := (eta).trans (fI_kept (x_lt hT kH104 ga (by decide))).symm
    have m112 := (etb).trans (fI_kept (x_lt hT kH104 gb (by decide))).symm
    have m113 := (es1).trans (fI_kept (x_lt hT kH104 gw (by decide))).symm
    have m114 := (ey1).trans (fI_kept (x_lt hT kH104 gb (by decide))).symm
    have m115 := (es4).trans (fI_kept (x_lt hT kH104 gw (by decide))).symm
    have m116 := (ey4).trans (fI_kept (x_lt hT kH104 gb (by decide))).symm
    have m117 := (es5).trans (fI_kept (x_lt hT kH104 gw (by decide))).symm
    have m118 := (ey5).trans (fI_kept (x_lt hT kH104 gb (by decide))).symm
    have m119 := (es10).trans (fI_kept (x_lt hT kH104 gw (by decide))).symm
    have m120 := (ey10).trans (fI_kept (x_lt hT kH104 gb (by decide))).symm
    have m121 := (es13).trans (fI_kept (x_lt hT kH104 gw (by decide))).symm
    have m122 := (ey13).trans (fI_kept (x_lt hT kH104 gb (by decide))).symm
    have m123 := (es16).trans (fI_kept (x_lt hT kH104 gw (by decide))).symm
    have m124 := (ey16).trans (fI_kept (x_lt hT kH104 gb (by decide))).symm
    have m125 := (ehi).trans (fI_kept (x_lt hT kH104 gb (by decide))).symm
    have m126 := (fV_kept (x_lt hT kH104 ga (by decide))).trans kn
    refine W.eq (g2 := F0 m 293 ls [.int x105]) rfl ?_
    refine lv_pop hx hb dL_law_293 rfl ?_
    refine lv_aload_n hx hb dL_law_294 rfl (lv_at hl 1 rfl) ?_
    refine lv_aload_n hx hb dL_law_295 rfl (lv_at hl 3 rfl) ?_
    refine lv_iload_n hx hb dL_law_296 rfl (lv_at hl 0 rfl) ?_
    refine lv_iconst (v := 1) hx hb dL_law_297 (by decide) ?_
    refine lv_iadd hx hb dL_law_298 ?_
    refine lv_topi (fun x127 ex127 => ?_)
    obtain ⟨tx127, ejx127, evx127⟩ := lw_ix (k := 1) ex127 hI hL rfl (by decide)
    clear tx127
    refine va_sld hx hb hX hbl (Nat.not_le.mpr hbl) hSH104 (vp_in_iff.mpr evx127) dL_law_299 ?_
    refine W.eq (g2 := F0 m 300 ls [.int (xs (i.toNatClampNeg + 1)), .ref b]) (congrArg (fun z => F0 m 300 ls [.int (xs z), .ref b]) ejx127) ?_
    refine lv_aload_n hx hb dL_law_300 rfl (lv_at hl 3 rfl) ?_
    refine lv_iload_n hx hb dL_law_301 rfl (lv_at hl 0 rfl) ?_
    refine lv_iconst (v := 2) hx hb dL_law_302 (by decide) ?_
    refine lv_iadd hx hb dL_law_303 ?_
    refine lv_topi (fun x128 ex128 => ?_)
    obtain ⟨tx128, ejx128, evx128⟩ := lw_ix (k := 2) ex128 hI hL rfl (by decide)
    clear tx128
    refine va_sld hx hb hX hbl (Nat.not_le.mpr hbl) hSH104 (vp_in_iff.mpr evx128) dL_law_304 ?_
    refine W.eq (g2 := F0 m 305 ls [.int (xs (i.toNatClampNeg + 2)), .int (xs (i.toNatClampNeg + 1)), .ref b]) (congrArg (fun z => F0 m 305 ls [.int (xs z), .int (xs (i.toNatClampNeg + 1)), .ref b]) ejx128) ?_
    refine lv_aload_n hx hb dL_law_305 rfl (lv_at hl 3 rfl) ?_
    refine lv_iload_n hx hb dL_law_306 rfl (lv_at hl 0 rfl) ?_
    refine lv_iconst (v := 3) hx hb dL_law_307 (by decide) ?_
    refine lv_iadd hx hb dL_law_308 ?_
    refine lv_topi (fun x129 ex129 => ?_)
    obtain ⟨tx129, ejx129, evx129⟩ := lw_ix (k := 3) ex129 hI hL rfl (by decide)
    clear tx129
    refine va_sld hx hb hX hbl (Nat.not_le.mpr hbl) hSH104 (vp_in_iff.mpr evx129) dL_law_309 ?_
    refine W.eq (g2 := F0 m 310 ls [.int (xs (i.toNatClampNeg + 3)), .int (xs (i.toNatClampNeg + 2)), .int (xs (i.toNatClampNeg + 1)), .ref b]) (congrArg (fun z => F0 m 310 ls [.int (xs z), .int (xs (i.toNatClampNeg + 2)), .int (xs (i.toNatClampNeg + 1)), .ref b]) ejx129) ?_
    refine x_V (As := [.int (xs (i.toNatClampNeg + 1)), .int (xs (i.toNatClampNeg + 2)), .int (xs (i.toNatClampNeg + 3))]) (rest := []) C (a_X10_wax l K G H104 ((xs (i.toNatClampNeg + 1))) ((xs (i.toNatClampNeg + 2))) ((xs (i.toNatClampNeg + 3))) hTH104 gb g106 g107 g108 g109) yo_X10_wax wM_L_27 ⟨⟨by decide, by decide⟩, show _ ≤ 284929 from Nat.le_trans hc (by decide), show _ ≤ 8247460 from Nat.le_trans hs (by decide)⟩ (x_rv C hTH104 (ci := 10) rfl gb rg_112) rfl hl.1 rfl (Nat.le_of_ble_eq_true rfl) dL_law_310 hSH104 (AE_new hN hSH104.1) (fun vH130 H130 locsH130 pH130 zH130 kH130 hSH130 => ?_)
    obtain ⟨x131, hvH130, bx131, g132, g133, g134, g135, mf136, hTH130⟩ := pH130
    subst hvH130
    have m137 := (m110).trans (fR_kept (x_lt hTH104 kH130 ga (by decide))).symm
    have m138 := (m111).trans (fI_kept (x_lt hTH104 kH130 ga (by decide))).symm
    have m139 := (m113).trans (fI_kept (x_lt hTH104 kH130 gw (by decide))).symm
    have m140 := (m115).trans (fI_kept (x_lt hTH104 kH130 gw (by decide))).symm
    have m141 := (m117).trans (fI_kept (x_lt hTH104 kH130 gw (by decide))).symm
    have m142 := (m119).trans (fI_kept (x_lt hTH104 kH130 gw (by decide))).symm
    have m143 := (m121).trans (fI_kept (x_lt hTH104 kH130 gw (by decide))).symm
    have m144 := (m123).trans (fI_kept (x_lt hTH104 kH130 gw (by decide))).symm
    have m145 := (fV_kept (x_lt hTH104 kH130 ga (by decide))).trans m126
    have m146 := (m112).trans (MF.i mf136 (k := 18) (by decide) (by decide)).symm
    have m147 := (m114).trans (MF.i mf136 (k := 1) (by decide) (by decide)).symm
    have m148 := (m116).trans (MF.i mf136 (k := 2) (by decide) (by decide)).symm
    have m149 := (m118).trans (MF.i mf136 (k := 3) (by decide) (by decide)).symm
    have m150 := (m120).trans (MF.i mf136 (k := 59) (by decide) (by decide)).symm
    have m151 := (m122).trans (MF.i mf136 (k := 62) (by decide) (by decide)).symm
    have m152 := (m124).trans (MF.i mf136 (k := 65) (by decide) (by decide)).symm
    have m153 := (m125).trans (MF.i mf136 (k := 70) (by decide) (by decide)).symm
    refine W.eq (g2 := F0 m 313 ls [.int x131]) rfl ?_
    refine lv_pop hx hb dL_law_313 rfl ?_
    refine lv_goto (tgt := 1509) hx hb dL_law_314 (by decide) ?_
    exact nx G H130 locsH130 _ _ ls ⟨hTH130, hN, ga, gb, g132, g133, g134, g135, ⟨(by rw [← m138, ← m146]; exact rt), (by rw [← m137, ← m139, ← m147]; exact r1), (by rw [← m137, ← m140, ← m148]; exact r4), (by rw [← m137, ← m141, ← m149]; exact r5), (by rw [← m137, ← m142, ← m150]; exact r10), (by rw [← m137, ← m143, ← m151]; exact r13), (by rw [← m137, ← m144, ← m152]; exact r16)⟩, Or.inl ⟨m145, (by rw [← m153]; exact h70)⟩, hSH130⟩ hl ⟨hc, hs, fun _ => ⟨hc0, hs0⟩⟩
  · skip
    obtain ⟨hi, ehi⟩ : ∃ z : Int32, z = fI H b (K.1.2 10 70) := ⟨_, rfl⟩
    rw [← ehi] at h70
    obtain ⟨iq, eiq⟩ : ∃ z : Nat, z = fR H b (K.1.2 10 73) := ⟨_, rfl⟩
    have giq := ty_fr (q := iq) (k := 73) (u := 162) eiq hT gb rg_112 rfl
    rw [← eiq] at q1 q4 q5 q10 q13 q16
    obtain ⟨k1, ek1⟩ : ∃ z : Int32, z = fI H kq (K.1.2 8 1) := ⟨_, rfl⟩
    rw [← ek1] at q1
    obtain ⟨i1, ei1⟩ : ∃ z : Int32, z = fI H iq ((0 : Int32).toNatClampNeg) := ⟨_, rfl⟩
    rw [← ei1] at q1
    obtain ⟨k4, ek4⟩ : ∃ z : Int32, z = fI H kq (K.1.2 8 4) := ⟨_, rfl⟩
    rw [← ek4] at q4
    obtain ⟨i4, ei4⟩ : ∃ z : Int32, z = fI H iq ((1 : Int32).toNatClampNeg) := ⟨_, rfl⟩
    rw [← ei4] at q4
    obtain ⟨k5, ek5⟩ : ∃ z : Int32, z = fI H kq (K.1.2 8 5) := ⟨_, rfl⟩
    rw [← ek5] at q5
    obtain ⟨i5, ei5⟩ : ∃ z : Int32, z = fI H iq ((2 : Int32).toNatClampNeg) := ⟨_, rfl⟩
    rw [← ei5] at q5
    obtain ⟨k10, ek10⟩ : ∃ z : Int32, z = fI H kq (K.1.2 8 10) := ⟨_, rfl⟩
    rw [← ek10] at q10
    obtain ⟨i10, ei10⟩ : ∃ z : Int32, z = fI H iq ((3 : Int32).toNatClampNeg) := ⟨_, rfl⟩
    rw [← ei10] at q10
    obtain ⟨k13, ek13⟩ : ∃ z : Int32, z = fI H kq (K.1.2 8 13) := ⟨_, rfl⟩
    rw [← ek13] at q13
    obtain ⟨i13, ei13⟩ : ∃ z : Int32, z = fI H iq ((4 : Int32).toNatClampNeg) := ⟨_, rfl⟩
    rw [← ei13] at q13
    obtain ⟨k16, ek16⟩ : ∃ z : Int32, z = fI H kq (K.1.2 8 16) := ⟨_, rfl⟩
    rw [← ek16] at q16
    obtain ⟨i16, ei16⟩ : ∃ z : Int32, z = fI H iq ((5 : Int32).toNatClampNeg) := ⟨_, rfl⟩
    rw [← ei16] at q16
    refine lv_aload_n hx hb dL_law_274 rfl (lv_at hl 2 rfl) ?_
    refine lv_aload_n hx hb dL_law_275 rfl (lv_at hl 3 rfl) ?_
    refine lv_iload_n hx hb dL_law_276 rfl (lv_at hl 0 rfl) ?_
    refine lv_iconst (v := 1) hx hb dL_law_277 (by decide) ?_
    refine lv_iadd hx hb dL_law_278 ?_
    refine lv_topi (fun x154 ex154 => ?_)
    obtain ⟨tx154, ejx154, evx154⟩ := lw_ix (k := 1) ex154 hI hL rfl (by decide)
    clear tx154
    refine va_sld hx hb hX hbl (Nat.not_le.mpr hbl) hS (vp_in_iff.mpr evx154) dL_law_279 ?_
    refine W.eq (g2 := F0 m 280 ls [.int (xs (i.toNatClampNeg + 1)), .ref a]) (congrArg (fun z => F0 m 280 ls [.int (xs z), .ref a]) ejx154) ?_
    refine lv_aload_n hx hb dL_law_280 rfl (lv_at hl 3 rfl) ?_
    refine lv_iload_n hx hb dL_law_281 rfl (lv_at hl 0 rfl) ?_
    refine lv_iconst (v := 2) hx hb dL_law_282 (by decide) ?_
    refine lv_iadd hx hb dL_law_283 ?_
    refine lv_topi (fun x155 ex155 => ?_)
    obtain ⟨tx155, ejx155, evx155⟩ := lw_ix (k := 2) ex155 hI hL rfl (by decide)
    clear tx155
    refine va_sld hx hb hX hbl (Nat.not_le.mpr hbl) hS (vp_in_iff.mpr evx155) dL_law_284 ?_
    refine W.eq (g2 := F0 m 285 ls [.int (xs (i.toNatClampNeg + 2)), .int (xs (i.toNatClampNeg + 1)), .ref a]) (congrArg (fun z => F0 m 285 ls [.int (xs z), .int (xs (i.toNatClampNeg + 1)), .ref a]) ejx155) ?_
    refine lv_aload_n hx hb dL_law_285 rfl (lv_at hl 3 rfl) ?_
    refine lv_iload_n hx hb dL_law_286 rfl (lv_at hl 0 rfl) ?_
    refine lv_iconst (v := 3) hx hb dL_law_287 (by decide) ?_
    refine lv_iadd hx hb dL_law_288 ?_
    refine lv_topi (fun x156 ex156 => ?_)
    obtain ⟨tx156, ejx156, evx156⟩ := lw_ix (k := 3) ex156 hI hL rfl (by decide)
    clear tx156
    refine va_sld hx hb hX hbl (Nat.not_le.mpr hbl) hS (vp_in_iff.mpr evx156) dL_law_289 ?_
    refine W.eq (g2 := F0 m 290 ls [.int (xs (i.toNatClampNeg + 3)), .int (xs (i.toNatClampNeg + 2)), .int (xs (i.toNatClampNeg + 1)), .ref a]) (congrArg (fun z => F0 m 290 ls [.int (xs z), .int (xs (i.toNatClampNeg + 2)), .int (xs (i.toNatClampNeg + 1)), .ref a]) ejx156) ?_
    refine x_V (As := [.int (xs (i.toNatClampNeg + 1)), .int (xs (i.toNatClampNeg + 2)), .int (xs (i.toNatClampNeg + 3))]) (rest := []) C (a_X9_wax l K G H ((xs (i.toNatClampNeg + 1))) ((xs (i.toNatClampNeg + 2))) ((xs (i.toNatClampNeg + 3))) hT ga) yo_X9_wax wM_L_23 ⟨⟨by decide, by decide⟩, show _ ≤ 284929 from Nat.le_trans hc (by decide), show _ ≤ 8247460 from Nat.le_trans hs (by decide)⟩ (x_rv C hT (ci := 9) rfl ga rg_68) rfl hl.1 rfl (Nat.le_of_ble_eq_true rfl) dL_law_290 hS (AE_new hN hS.1) (fun vH157 H157 locsH157 pH157 zH157 kH157 hSH157 => ?_)
    obtain ⟨x158, hvH157, bx158, hTH157⟩ := pH157
    subst hvH157
    have g159 : CG (avw K H157 b) := CG.congr (fun k hk j => av_eff hT kH157 gb (by decide) (CG_eff [5] (by decide) k hk)) cg
    have g160 : TU (avw K H157 b) (svw K H157 b) := TU.congr (fun k hk j => av_eff hT kH157 gb (by decide) (TU_eff [5] (by decide) k hk)) (fun k hk => sv_eff hT kH157 gb (by decide)) tu
    have g161 : WD (avw K H157 b) := WD.congr (fun k hk j => av_eff hT kH157 gb (by decide) (WD_eff [5] (by decide) k hk)) wd
    have g162 : IM (avw K H157 b) := IM.congr (fun k hk j => av_eff hT kH157 gb (by decide) (IM_eff [5] (by decide) k hk)) im
    have m163 := (ew).trans (fR_kept (x_lt hT kH157 ga (by decide))).symm
    have m164 := (eta).trans (fI_kept (x_lt hT kH157 ga (by decide))).symm
    have m165 := (etb).trans (fI_kept (x_lt hT kH157 gb (by decide))).symm
    have m166 := (es1).trans (fI_kept (x_lt hT kH157 gw (by decide))).symm
    have m167 := (ey1).trans (fI_kept (x_lt hT kH157 gb (by decide))).symm
    have m168 := (es4).trans (fI_kept (x_lt hT kH157 gw (by decide))).symm
    have m169 := (ey4).trans (fI_kept (x_lt hT kH157 gb (by decide))).symm
    have m170 := (es5).trans (fI_kept (x_lt hT kH157 gw (by decide))).symm
    have m171 := (ey5).trans (fI_kept (x_lt hT kH157 gb (by decide))).symm
    have m172 := (es10).trans (fI_kept (x_lt hT kH157 gw (by decide))).symm
    have m173 := (ey10).trans (fI_kept (x_lt hT kH157 gb (by decide))).symm
    have m174 := (es13).trans (fI_kept (x_lt hT kH157 gw (by decide))).symm
    have m175 := (ey13).trans (fI_kept (x_lt hT kH157 gb (by decide))).symm
    have m176 := (es16).trans (fI_kept (x_lt hT kH157 gw (by decide))).symm
    have m177 := (ey16).trans (fI_kept (x_lt hT kH157 gb (by decide))).symm
    have m178 := (ehi).trans (fI_kept (x_lt hT kH157 gb (by decide))).symm
    have m179 := (fV_kept (x_lt hT kH157 ga (by decide))).trans kn
    have m180 := (eiq).trans (fR_kept (x_lt hT kH157 gb (by decide))).symm
    have m181 := (ek1).trans (fI_kept (x_lt hT kH157 gkq (by decide))).symm
    have m182 := (ei1).trans (fI_kept (x_lt hT kH157 giq (by decide))).symm
    have m183 := (ek4).trans (fI_kept (x_lt hT kH157 gkq (by decide))).symm
    have m184 := (ei4).trans (fI_kept (x_lt hT kH157 giq (by decide))).symm
    have m185 := (ek5).trans (fI_kept (x_lt hT kH157 gkq (by decide))).symm
    have m186 := (ei5).trans (fI_kept (x_lt hT kH157 giq (by decide))).symm
    have m187 := (ek10).trans (fI_kept (x_lt hT kH157 gkq (by decide))).symm
    have m188 := (ei10).trans (fI_kept (x_lt hT kH157 giq (by decide))).symm
    have m189 := (ek13).trans (fI_kept (x_lt hT kH157 gkq (by decide))).symm
    have m190 := (ei13).trans (fI_kept (x_lt hT kH157 giq (by decide))).symm
    have m191 := (ek16).trans (fI_kept (x_lt hT kH157 gkq (by decide))).symm
    have m192 := (ei16).trans (fI_kept (x_lt hT kH157 giq (by decide))).symm
    refine W.eq (g2 := F0 m 293 ls [.int x158]) rfl ?_
    refine lv_pop hx hb dL_law_293 rfl ?_
    refine lv_aload_n hx hb dL_law_294 rfl (lv_at hl 1 rfl) ?_
    refine lv_aload_n hx hb dL_law_295 rfl (lv_at hl 3 rfl) ?_
    refine lv_iload_n hx hb dL_law_296 rfl (lv_at hl 0 rfl) ?_
    refine lv_iconst (v := 1) hx hb dL_law_297 (by decide) ?_
    refine lv_iadd hx hb dL_law_298 ?_
    refine lv_topi (fun x193 ex193 => ?_)
    obtain ⟨tx193, ejx193, evx193⟩ := lw_ix (k := 1) ex193 hI hL rfl (by decide)
    clear tx193
    refine va_sld hx hb hX hbl (Nat.not_le.mpr hbl) hSH157 (vp_in_iff.mpr evx193) dL_law_299 ?_
    refine W.eq (g2 := F0 m 300 ls [.int (xs (i.toNatClampNeg + 1)), .ref b]) (congrArg (fun z => F0 m 300 ls [.int (xs z), .ref b]) ejx193) ?_
    refine lv_aload_n hx hb dL_law_300 rfl (lv_at hl 3 rfl) ?_
    refine lv_iload_n hx hb dL_law_301 rfl (lv_at hl 0 rfl) ?_
    refine lv_iconst (v := 2) hx hb dL_law_302 (by decide) ?_
    refine lv_iadd hx hb dL_law_303 ?_
    refine lv_topi (fun x194 ex194 => ?_)
    obtain ⟨tx194, ejx194, evx194⟩ := lw_ix (k := 2) ex194 hI hL rfl (by decide)
    clear tx194
    refine va_sld hx hb hX hbl (Nat.not_le.mpr hbl) hSH157 (vp_in_iff.mpr evx194) dL_law_304 ?_
    refine W.eq (g2 := F0 m 305 ls [.int (xs (i.toNatClampNeg + 2)), .int (xs (i.toNatClampNeg + 1)), .ref b]) (congrArg (fun z => F0 m 305 ls [.int (xs z), .int (xs (i.toNatClampNeg + 1)), .ref b]) ejx194) ?_
    refine lv_aload_n hx hb dL_law_305 rfl (lv_at hl 3 rfl) ?_
    refine lv_iload_n hx hb dL_law_306 rfl (lv_at hl 0 rfl) ?_
    refine lv_iconst (v := 3) hx hb dL_law_307 (by decide) ?_
    refine lv_iadd hx hb dL_law_308 ?_
    refine lv_topi (fun x195 ex195 => ?_)
    obtain ⟨tx195, ejx195, evx195⟩ := lw_ix (k := 3) ex195 hI hL rfl (by decide)
    clear tx195
    refine va_sld hx hb hX hbl (Nat.not_le.mpr hbl) hSH157 (vp_in_iff.mpr evx195) dL_law_309 ?_
    refine W.eq (g2 := F0 m 310 ls [.int (xs (i.toNatClampNeg + 3)), .int (xs (i.toNatClampNeg + 2)), .int (xs (i.toNatClampNeg + 1)), .ref b]) (congrArg (fun z => F0 m 310 ls [.int (xs z), .int (xs (i.toNatClampNeg + 2)), .int (xs (i.toNatClampNeg + 1)), .ref b]) ejx195) ?_
    refine x_V (As := [.int (xs (i.toNatClampNeg + 1)), .int (xs (i.toNatClampNeg + 2)), .int (xs (i.toNatClampNeg + 3))]) (rest := []) C (a_X10_wax l K G H157 ((xs (i.toNatClampNeg + 1))) ((xs (i.toNatClampNeg + 2))) ((xs (i.toNatClampNeg + 3))) hTH157 gb g159 g160 g161 g162) yo_X10_wax wM_L_27 ⟨⟨by decide, by decide⟩, show _ ≤ 284929 from Nat.le_trans hc (by decide), show _ ≤ 8247460 from Nat.le_trans hs (by decide)⟩ (x_rv C hTH157 (ci := 10) rfl gb rg_112) rfl hl.1 rfl (Nat.le_of_ble_eq_true rfl) dL_law_310 hSH157 (AE_new hN hSH157.1) (fun vH196 H196 locsH196 pH196 zH196 kH196 hSH196 => ?_)
    obtain ⟨x197, hvH196, bx197, g198, g199, g200, g201, mf202, hTH196⟩ := pH196
    subst hvH196
    have m203 := (m163).trans (fR_kept (x_lt hTH157 kH196 ga (by decide))).symm
    have m204 := (m164).trans (fI_kept (x_lt hTH157 kH196 ga (by decide))).symm
    have m205 := (m166).trans (fI_kept (x_lt hTH157 kH196 gw (by decide))).symm
    have m206 := (m168).trans (fI_kept (x_lt hTH157 kH196 gw (by decide))).symm
    have m207 := (m170).trans (fI_kept (x_lt hTH157 kH196 gw (by decide))).symm
    have m208 := (m172).trans (fI_kept (x_lt hTH157 kH196 gw (by decide))).symm
    have m209 := (m174).trans (fI_kept (x_lt hTH157 kH196 gw (by decide))).symm
    have m210 := (m176).trans (fI_kept (x_lt hTH157 kH196 gw (by decide))).symm
    have m211 := (fV_kept (x_lt hTH157 kH196 ga (by decide))).trans m179
    have m212 := (m181).trans (fI_kept (x_lt hTH157 kH196 gkq (by decide))).symm
    have m213 := (m182).trans (fI_kept (x_lt hTH157 kH196 giq (by decide))).symm
    have m214 := (m183).trans (fI_kept (x_lt hTH157 kH196 gkq (by decide))).symm
    have m215 := (m184).trans (fI_kept (x_lt hTH157 kH196 giq (by decide))).symm
    have m216 := (m185).trans (fI_kept (x_lt hTH157 kH196 gkq (by decide))).symm
    have m217 := (m186).trans (fI_kept (x_lt hTH157 kH196 giq (by decide))).symm
    have m218 := (m187).trans (fI_kept (x_lt hTH157 kH196 gkq (by decide))).symm
    have m219 := (m188).trans (fI_kept (x_lt hTH157 kH196 giq (by decide))).symm
    have m220 := (m189).trans (fI_kept (x_lt hTH157 kH196 gkq (by decide))).symm
    have m221 := (m190).trans (fI_kept (x_lt hTH157 kH196 giq (by decide))).symm
    have m222 := (m191).trans (fI_kept (x_lt hTH157 kH196 gkq (by decide))).symm
    have m223 := (m192).trans (fI_kept (x_lt hTH157 kH196 giq (by decide))).symm
    have m224 := (m165).trans (MF.i mf202 (k := 18) (by decide) (by decide)).symm
    have m225 := (m167).trans (MF.i mf202 (k := 1) (by decide) (by decide)).symm
    have m226 := (m169).trans (MF.i mf202 (k := 2) (by decide) (by decide)).symm
    have m227 := (m171).trans (MF.i mf202 (k := 3) (by decide) (by decide)).symm
    have m228 := (m173).trans (MF.i mf202 (k := 59) (by decide) (by decide)).symm
    have m229 := (m175).trans (MF.i mf202 (k := 62) (by decide) (by decide)).symm
    have m230 := (m177).trans (MF.i mf202 (k := 65) (by decide) (by decide)).symm
    have m231 := (m178).trans (MF.i mf202 (k := 70) (by decide) (by decide)).symm
    have m232 := (m180).trans (MF.r mf202 (k := 73) (by decide) (by decide)).symm
    refine W.eq (g2 := F0 m 313 ls [.int x197]) rfl ?_
    refine lv_pop hx hb dL_law_313 rfl ?_
    refine lv_goto (tgt := 1509) hx hb dL_law_314 (by decide) ?_
    exact nx G H196 locsH196 _ _ ls ⟨hTH196, hN, ga, gb, g198, g199, g200, g201, ⟨(by rw [← m204, ← m224]; exact rt), (by rw [← m203, ← m205, ← m225]; exact r1), (by rw [← m203, ← m206, ← m226]; exact r4), (by rw [← m203, ← m207, ← m227]; exact r5), (by rw [← m203, ← m208, ← m228]; exact r10), (by rw [← m203, ← m209, ← m229]; exact r13), (by rw [← m203, ← m210, ← m230]; exact r16)⟩, Or.inr ⟨kq, m211, gkq, (by rw [← m231]; exact h70), (by rw [← m212, ← m232, ← m213]; exact q1), (by rw [← m214, ← m232, ← m215]; exact q4), (by rw [← m216, ← m232, ← m217]; exact q5), (by rw [← m218, ← m232, ← m219]; exact q10), (by rw [← m220, ← m232, ← m221]; exact q13), (by rw [← m222, ← m232, ← m223]; exact q16)⟩, hSH196⟩ hl ⟨hc, hs, fun h => by have h1 := h.symm.trans m211; cases h1⟩
set_option maxRecDepth 100000 in
set_option maxHeartbeats 1000000 in
theorem lw_c3 {p : Program} {l : Launch} {e : Env} {s : State} {m : MethodId} {below : List Frame} {meth : Method} {c : Code} {K : KE} {b0 L : Nat} {xs : Nat → Int32} {G : Nat → Option Nat} {H : Heap} {locs : List Loc} {a b : Nat} {cells slots : Nat} {ls : Array Slot} {i : Int32} {n : Nat} (D : LC p K s m meth c b0 L xs) (S : SX K s G H locs a b) (hl : lv_has ls 4 [(3, .int i), (2, .ref b), (1, .ref a), (0, .ref b0)]) (hi : 0 ≤ i.toInt ∧ i.toInt + 6 ≤ L) (hn : n ≤ 511) (hB : BD K H a cells slots) (nx : ∀ (G : Nat → Option Nat) (H : Heap) (locs : List Loc) (cells slots : Nat) (ls : Array Slot), SX K s G H locs a b → lv_has ls 4 [(3, .int i), (2, .ref b), (1, .ref a), (0, .ref b0)] → BD K H a cells slots → W p l e room_1 s m #[Value.ref b0] below meth c H locs cells slots (lw_Z below #[Value.ref b0] s) (F0 m 1509 ls [])) : W p l e room_1 s m #[Value.ref b0] below meth c H locs cells slots (lw_Z below #[Value.ref b0] s) (F0 m 317 ls []) := by
  have hI := hi
  obtain ⟨C, hX, hbl, hL⟩ := id D
  obtain ⟨hx, hb, hml, hown, hts, hKT, hr, hlocks, hnm⟩ := id C
  obtain ⟨hT, hN, ga, gb, cg, tu, wd, im, ⟨rt, r1, r4, r5, r10, r13, r16⟩, hk, hS⟩ := S
  obtain ⟨hc, hs, hB0⟩ := hB
  have n_1 : (1 : Int32).toInt = 1 := rfl
  have n_2 : (2 : Int32).toInt = 2 := rfl
  have n_3 : (3 : Int32).toInt = 3 := rfl
  obtain ⟨w, ew⟩ : ∃ z : Nat, z = fR H a (K.1.2 9 0) := ⟨_, rfl⟩
  have gw := ty_fr (q := w) (k := 0) (u := 0) ew hT ga rg_68 rfl
  rw [← ew] at r1 r4 r5 r10 r13 r16
  obtain ⟨ta, eta⟩ : ∃ z : Int32, z = fI H a (K.1.2 9 3) := ⟨_, rfl⟩
  rw [← eta] at rt
  obtain ⟨tb, etb⟩ : ∃ z : Int32, z = fI H b (K.1.2 10 18) := ⟨_, rfl⟩
  rw [← etb] at rt
  obtain ⟨s1, es1⟩ : ∃ z : Int32, z = fI H w (K.1.2 8 1) := ⟨_, rfl⟩
  rw [← es1] at r1
  obtain ⟨y1, ey1⟩ : ∃ z : Int32, z = fI H b (K.1.2 10 1) := ⟨_, rfl⟩
  rw [← ey1] at r1
  obtain ⟨s4, es4⟩ : ∃ z : Int32, z = fI H w (K.1.2 8 4) := ⟨_, rfl⟩
  rw [← es4] at r4
  obtain ⟨y4, ey4⟩ : ∃ z : Int32, z = fI H b (K.1.2 10 2) := ⟨_, rfl⟩
  rw [← ey4] at r4
  obtain ⟨s5, es5⟩ : ∃ z : Int32, z = fI H w (K.1.2 8 5) := ⟨_, rfl⟩
  rw [← es5] at r5
  obtain ⟨y5, ey5⟩ : ∃ z : Int32, z = fI H b (K.1.2 10 3) := ⟨_, rfl⟩
  rw [← ey5] at r5
  obtain ⟨s10, es10⟩ : ∃ z : Int32, z = fI H w (K.1.2 8 10) := ⟨_, rfl⟩
  rw [← es10] at r10
  obtain ⟨y10, ey10⟩ : ∃ z : Int32, z = fI H b (K.1.2 10 59) := ⟨_, rfl⟩
  rw [← ey10] at r10
  obtain ⟨s13, es13⟩ : ∃ z : Int32, z = fI H w (K.1.2 8 13) := ⟨_, rfl⟩
  rw [← es13] at r13
  obtain ⟨y13, ey13⟩ : ∃ z : Int32, z = fI H b (K.1.2 10 62) := ⟨_, rfl⟩
  rw [← ey13] at r13
  obtain ⟨s16, es16⟩ : ∃ z : Int32, z = fI H w (K.1.2 8 16) := ⟨_, rfl⟩
  rw [← es16] at r16
  obtain ⟨y16, ey16⟩ : ∃ z : Int32, z = fI H b (K.1.2 10 65) := ⟨_, rfl⟩
  rw [← ey16] at r16
  rcases hk with ⟨kn, h70⟩ | ⟨kq, kn, gkq, h70, q1, q4, q5, q10, q13, q16⟩
  · skip
    obtain ⟨hi, ehi⟩ : ∃ z : Int32, z = fI H b (K.1.2 10 70) := ⟨_, rfl⟩
    rw [← ehi] at h70
    obtain ⟨hc0, hs0⟩ := hB0 kn
    refine lv_aload_n hx hb dL_law_317 rfl (lv_at hl 2 rfl) ?_
    refine lv_aload_n hx hb dL_law_318 rfl (lv_at hl 3 rfl) ?_
    refine lv_iload_n hx hb dL_law_319 rfl (lv_at hl 0 rfl) ?_
    refine lv_iconst (v := 1) hx hb dL_law_320 (by decide) ?_
    refine lv_iadd hx hb dL_law_321 ?_
    refine lv_topi (fun x101 ex101 => ?_)
    obtain ⟨tx101, ejx101, evx101⟩ := lw_ix (k := 1) ex101 hI hL rfl (by decide)
    clear tx101
    refine va_sld hx hb hX hbl (Nat.not_le.mpr hbl) hS (vp_in_iff.mpr evx101) dL_law_322 ?_
    refine W.eq (g2 := F0 m 323 ls [.int (xs (i.toNatClampNeg + 1)), .ref a]) (congrArg (fun z => F0 m 323 ls [.int (xs z), .ref a]) ejx101) ?_
    refine lv_aload_n hx hb dL_law_323 rfl (lv_at hl 3 rfl) ?_
    refine lv_iload_n hx hb dL_law_324 rfl (lv_at hl 0 rfl) ?_
    refine lv_iconst (v := 2) hx hb dL_law_325 (by decide) ?_
    refine lv_iadd hx hb dL_law_326 ?_
    refine lv_topi (fun x102 ex102 => ?_)
    obtain ⟨tx102, ejx102, evx102⟩ := lw_ix (k := 2) ex102 hI hL rfl (by decide)
    clear tx102
    refine va_sld hx hb hX hbl (Nat.not_le.mpr hbl) hS (vp_in_iff.mpr evx102) dL_law_327 ?_
    refine W.eq (g2 := F0 m 328 ls [.int (xs (i.toNatClampNeg + 2)), .int (xs (i.toNatClampNeg + 1)), .ref a]) (congrArg (fun z => F0 m 328 ls [.int (xs z), .int (xs (i.toNatClampNeg + 1)), .ref a]) ejx102) ?_
    refine lv_aload_n hx hb dL_law_328 rfl (lv_at hl 3 rfl) ?_
    refine lv_iload_n hx hb dL_law_329 rfl (lv_at hl 0 rfl) ?_
    refine lv_iconst (v := 3) hx hb dL_law_330 (by decide) ?_
    refine lv_iadd hx hb dL_law_331 ?_
    refine lv_topi (fun x103 ex103 => ?_)
    obtain ⟨tx103, ejx103, evx103⟩ := lw_ix (k := 3) ex103 hI hL rfl (by decide)
    clear tx103
    refine va_sld hx hb hX hbl (Nat.not_le.mpr hbl) hS (vp_in_iff.mpr evx103) dL_law_332 ?_
    refine W.eq (g2 := F0 m 333 ls [.int (xs (i.toNatClampNeg + 3)), .int (xs (i.toNatClampNeg + 2)), .int (xs (i.toNatClampNeg + 1)), .ref a]) (congrArg (fun z => F0 m 333 ls [.int (xs z), .int (xs (i.toNatClampNeg + 2)), .int (xs (i.toNatClampNeg + 1)), .ref a]) ejx103) ?_
    refine x_V (As := [.int (xs (i.toNatClampNeg + 1)), .int (xs (i.toNatClampNeg + 2)), .int (xs (i.toNatClampNeg + 3))]) (rest := []) C (a_X9_of l K G H ((xs (i.toNatClampNeg + 1))) ((xs (i.toNatClampNeg + 2))) ((xs (i.toNatClampNeg + 3))) hT ga) yo_X9_of wM_L_28 ⟨⟨by decide, by decide⟩, show _ ≤ 284929 from Nat.le_trans hc (by decide), show _ ≤ 8247460 from Nat.le_trans hs (by decide)⟩ (x_rv C hT (ci := 9) rfl ga rg_68) rfl hl.1 rfl (Nat.le_of_ble_eq_true rfl) dL_law_333 hS (AE_new hN hS.1) (fun vH104 H104 locsH104 pH104 zH104 kH104 hSH104 => ?_)
    obtain ⟨x105, hvH104, hTH104⟩ := pH104
    subst hvH104
    have g106 : CG (avw K H104 b) := CG.congr (fun k hk j => av_eff hT kH104 gb (by decide) (CG_eff [] (by decide) k hk)) cg
    have g107 : TU (avw K H104 b) (svw K H104 b) := TU.congr (fun k hk j => av_eff hT kH104 gb (by decide) (TU_eff [] (by decide) k hk)) (fun k hk => sv_eff hT kH104 gb (by decide)) tu
    have g108 : WD (avw K H104 b) := WD.congr (fun k hk j => av_eff hT kH104 gb (by decide) (WD_eff [] (by decide) k hk)) wd
    have g109 : IM (avw K H104 b) := IM.congr (fun k hk j => av_eff hT kH104 gb (by decide) (IM_eff [] (by decide) k hk)) im
    have m110 := (ew).trans (fR_kept (x_lt hT kH104 ga (by decide))).symm
    have m111 := (eta).trans (fI_kept (x_lt hT kH104 ga (by decide))).symm
    have m112 := (etb).trans (fI_kept (x_lt hT kH104 gb (by decide))).symm
    have m113 := (es1).trans (fI_kept (x_lt hT kH104 gw (by decide))).symm
    have m114 := (ey1).trans (fI_kept (x_lt hT kH104 gb (by decide))).symm
    have m115 := (es4).trans (fI_kept (x_lt hT kH104 gw (by decide))).symm
    have m116 := (ey4).trans (fI_kept (x_lt hT kH104 gb (by decide))).symm
    have m117 := (es5).trans (fI_kept (x_lt hT kH104 gw (by decide))).symm
    have m118 := (ey5).trans (fI_kept (x_lt hT kH104 gb (by decide))).symm
    have m119 := (es10).trans (fI_kept (x_lt hT kH104 gw (by decide))).symm
    have m120 := (ey10).trans (fI_kept (x_lt hT kH104 gb (by decide))).symm
    have m121 := (es13).trans (fI_kept (x_lt hT kH104 gw (by decide))).symm
    have m122 := (ey13).trans (fI_kept (x_lt hT kH104 gb (by decide))).symm
    have m123 := (es16).trans (fI_kept (x_lt hT kH104 gw (by decide))).symm
    have m124 := (ey16).trans (fI_kept (x_lt hT kH104 gb (by decide))).symm
    have m125 := (ehi).trans (fI_kept (x_lt hT kH104 gb (by decide))).symm
    have m126 := (fV_kept (x_lt hT kH104 ga (by decide))).trans kn
    refine W.eq (g2 := F0 m 336 ls [.int x105]) rfl ?_
    refine lv_pop hx hb dL_law_336 rfl ?_
    refine lv_aload_n hx hb dL_law_337 rfl (lv_at hl 1 rfl) ?_
    refine lv_aload_n hx hb dL_law_338 rfl (lv_at hl 3 rfl) ?_
    refine lv_iload_n hx hb dL_law_339 rfl (lv_at hl 0 rfl) ?_
    refine lv_iconst (v := 1) hx hb dL_law_340 (by decide) ?_
    refine lv_iadd hx hb dL_law_341 ?_
    refine lv_topi (fun x127 ex127 => ?_)
    obtain ⟨tx127, ejx127, evx127⟩ := lw_ix (k := 1) ex127 hI hL rfl (by decide)
    clear tx127
    refine va_sld hx hb hX hbl (Nat.not_le.mpr hbl) hSH104 (vp_in_iff.mpr evx127) dL_law_342 ?_
    refine W.eq (g2 := F0 m 343 ls [.int (xs (i.toNatClampNeg + 1)), .ref b]) (congrArg (fun z => F0 m 343 ls [.int (xs z), .ref b]) ejx127) ?_
    refine lv_aload_n hx hb dL_law_343 rfl (lv_at hl 3 rfl) ?_
    refine lv_iload_n hx hb dL_law_344 rfl (lv_at hl 0 rfl) ?_
    refine lv_iconst (v := 2) hx hb dL_law_345 (by decide) ?_
    refine lv_iadd hx hb dL_law_346 ?_
    refine lv_topi (fun x128 ex128 => ?_)
    obtain ⟨tx128, ejx128, evx128⟩ := lw_ix (k := 2) ex128 hI hL rfl (by decide)
    clear tx128
    refine va_sld hx hb hX hbl (Nat.not_le.mpr hbl) hSH104 (vp_in_iff.mpr evx128) dL_law_347 ?_
    refine W.eq (g2 := F0 m 348 ls [.int (xs (i.toNatClampNeg + 2)), .int (xs (i.toNatClampNeg + 1)), .ref b]) (congrArg (fun z => F0 m 348 ls [.int (xs z), .int (xs (i.toNatClampNeg + 1)), .ref b]) ejx128) ?_
    refine lv_aload_n hx hb dL_law_348 rfl (lv_at hl 3 rfl) ?_
    refine lv_iload_n hx hb dL_law_349 rfl (lv_at hl 0 rfl) ?_
    refine lv_iconst (v := 3) hx hb dL_law_350 (by decide) ?_
    refine lv_iadd hx hb dL_law_351 ?_
    refine lv_topi (fun x129 ex129 => ?_)
    obtain ⟨tx129, ejx129, evx129⟩ := lw_ix (k := 3) ex129 hI hL rfl (by decide)
    clear tx129
    refine va_sld hx hb hX hbl (Nat.not_le.mpr hbl) hSH104 (vp_in_iff.mpr evx129) dL_law_352 ?_
    refine W.eq (g2 := F0 m 353 ls [.int (xs (i.toNatClampNeg + 3)), .int (xs (i.toNatClampNeg + 2)), .int (xs (i.toNatClampNeg + 1)), .ref b]) (congrArg (fun z => F0 m 353 ls [.int (xs z), .int (xs (i.toNatClampNeg + 2)), .int (xs (i.toNatClampNeg + 1)), .ref b]) ejx129) ?_
    refine x_V (As := [.int (xs (i.toNatClampNeg + 1)), .int (xs (i.toNatClampNeg + 2)), .int (xs (i.toNatClampNeg + 3))]) (rest := []) C (a_X10_of l K G H104 ((xs (i.toNatClampNeg + 1))) ((xs (i.toNatClampNeg + 2))) ((xs (i.toNatClampNeg + 3))) hTH104 gb g106 g107 g108 g109) yo_X10_of wM_L_32 ⟨⟨by decide, by decide⟩, show _ ≤ 284929 from Nat.le_trans hc (by decide), show _ ≤ 8247460 from Nat.le_trans hs (by decide)⟩ (x_rv C hTH104 (ci := 10) rfl gb rg_112) rfl hl.1 rfl (Nat.le_of_ble_eq_true rfl) dL_law_353 hSH104 (AE_new hN hSH104.1) (fun vH130 H130 locsH130 pH130 zH130 kH130 hSH130 => ?_)
    obtain ⟨x131, hvH130, g132, g133, g134, g135, mf136, hTH130⟩ := pH130
    subst hvH130
    have m137 := (m110).trans (fR_kept (x_lt hTH104 kH130 ga (by decide))).symm
    have m138 := (m111).trans (fI_kept (x_lt hTH104 kH130 ga (by decide))).symm
    have m139 := (m113).trans (fI_kept (x_lt hTH104 kH130 gw (by decide))).symm
    have m140 := (m115).trans (fI_kept (x_lt hTH104 kH130 gw (by decide))).symm
    have m141 := (m117).trans (fI_kept (x_lt hTH104 kH130 gw (by decide))).symm
    have m142 := (m119).trans (fI_kept (x_lt hTH104 kH130 gw (by decide))).symm
    have m143 := (m121).trans (fI_kept (x_lt hTH104 kH130 gw (by decide))).symm
    have m144 := (m123).trans (fI_kept (x_lt hTH104 kH130 gw (by decide))).symm
    have m145 := (fV_kept (x_lt hTH104 kH130 ga (by decide))).trans m126
    have m146 := (m112).trans (MF.i mf136 (k := 18) (by decide) (by decide)).symm
    have m147 := (m114).trans (MF.i mf136 (k := 1) (by decide) (by decide)).symm
    have m148 := (m116).trans (MF.i mf136 (k := 2) (by decide) (by decide)).symm
    have m149 := (m118).trans (MF.i mf136 (k := 3) (by decide) (by decide)).symm
    have m150 := (m120).trans (MF.i mf136 (k := 59) (by decide) (by decide)).symm
    have m151 := (m122).trans (MF.i mf136 (k := 62) (by decide) (by decide)).symm
    have m152 := (m124).trans (MF.i mf136 (k := 65) (by decide) (by decide)).symm
    have m153 := (m125).trans (MF.i mf136 (k := 70) (by decide) (by decide)).symm
    refine W.eq (g2 := F0 m 356 ls [.int x131]) rfl ?_
    refine lv_pop hx hb dL_law_356 rfl ?_
    refine lv_goto (tgt := 1509) hx hb dL_law_357 (by decide) ?_
    exact nx G H130 locsH130 _ _ ls ⟨hTH130, hN, ga, gb, g132, g133, g134, g135, ⟨(by rw [← m138, ← m146]; exact rt), (by rw [← m137, ← m139, ← m147]; exact r1), (by rw [← m137, ← m140, ← m148]; exact r4), (by rw [← m137, ← m141, ← m149]; exact r5), (by rw [← m137, ← m142, ← m150]; exact r10), (by rw [← m137, ← m143, ← m151]; exact r13), (by rw [← m137, ← m144, ← m152]; exact r16)⟩, Or.inl ⟨m145, (by rw [← m153]; exact h70)⟩, hSH130⟩ hl ⟨hc, hs, fun _ => ⟨hc0, hs0⟩⟩
  · skip
    obtain ⟨hi, ehi⟩ : ∃ z : Int32, z = fI H b (K.1.2 10 70) := ⟨_, rfl⟩
    rw [← ehi] at h70
    obtain ⟨iq, eiq⟩ : ∃ z : Nat, z = fR H b (K.1.2 10 73) := ⟨_, rfl⟩
    have giq := ty_fr (q := iq) (k := 73) (u := 162) eiq hT gb rg_112 rfl
    rw [← eiq] at q1 q4 q5 q10 q13 q16
    obtain ⟨k1, ek1⟩ : ∃ z : Int32, z = fI H kq (K.1.2 8 1) := ⟨_, rfl⟩
    rw [← ek1] at q1
    obtain ⟨i1, ei1⟩ : ∃ z : Int32, z = fI H iq ((0 : Int32).toNatClampNeg) := ⟨_, rfl⟩
    rw [← ei1] at q1
    obtain ⟨k4, ek4⟩ : ∃ z : Int32, z = fI H kq (K.1.2 8 4) := ⟨_, rfl⟩
    rw [← ek4] at q4
    obtain ⟨i4, ei4⟩ : ∃ z : Int32, z = fI H iq ((1 : Int32).toNatClampNeg) := ⟨_, rfl⟩
    rw [← ei4] at q4
    obtain ⟨k5, ek5⟩ : ∃ z : Int32, z = fI H kq (K.1.2 8 5) := ⟨_, rfl⟩
    rw [← ek5] at q5
    obtain ⟨i5, ei5⟩ : ∃ z : Int32, z = fI H iq ((2 : Int32).toNatClampNeg) := ⟨_, rfl⟩
    rw [← ei5] at q5
    obtain ⟨k10, ek10⟩ : ∃ z : Int32, z = fI H kq (K.1.2 8 10) := ⟨_, rfl⟩
    rw [← ek10] at q10
    obtain ⟨i10, ei10⟩ : ∃ z : Int32, z = fI H iq ((3 : Int32).toNatClampNeg) := ⟨_, rfl⟩
    rw [← ei10] at q10
    obtain ⟨k13, ek13⟩ : ∃ z : Int32, z = fI H kq (K.1.2 8 13) := ⟨_, rfl⟩
    rw [← ek13] at q13
    obtain ⟨i13, ei13⟩ : ∃ z : Int32, z = fI H iq ((4 : Int32).toNatClampNeg) := ⟨_, rfl⟩
    rw [← ei13] at q13
    obtain ⟨k16, ek16⟩ : ∃ z : Int32, z = fI H kq (K.1.2 8 16) := ⟨_, rfl⟩
    rw [← ek16] at q16
    obtain ⟨i16, ei16⟩ : ∃ z : Int32, z = fI H iq ((5 : Int32).toNatClampNeg) := ⟨_, rfl⟩
    rw [← ei16] at q16
    refine lv_aload_n hx hb dL_law_317 rfl (lv_at hl 2 rfl) ?_
    refine lv_aload_n hx hb dL_law_318 rfl (lv_at hl 3 rfl) ?_
    refine lv_iload_n hx hb dL_law_319 rfl (lv_at hl 0 rfl) ?_
    refine lv_iconst (v := 1) hx hb dL_law_320 (by decide) ?_
    refine lv_iadd hx hb dL_law_321 ?_
    refine lv_topi (fun x154 ex154 => ?_)
    obtain ⟨tx154, ejx154, evx154⟩ := lw_ix (k := 1) ex154 hI hL rfl (by decide)
    clear tx154
    refine va_sld hx hb hX hbl (Nat.not_le.mpr hbl) hS (vp_in_iff.mpr evx154) dL_law_322 ?_
    refine W.eq (g2 := F0 m 323 ls [.int (xs (i.toNatClampNeg + 1)), .ref a]) (congrArg (fun z => F0 m 323 ls [.int (xs z), .ref a]) ejx154) ?_
    refine lv_aload_n hx hb dL_law_323 rfl (lv_at hl 3 rfl) ?_
    refine lv_iload_n hx hb dL_law_324 rfl (lv_at hl 0 rfl) ?_
    refine lv_iconst (v := 2) hx hb dL_law_325 (by decide) ?_
    refine lv_iadd hx hb dL_law_326 ?_
    refine lv_topi (fun x155 ex155 => ?_)
    obtain ⟨tx155, ejx155, evx155⟩ := lw_ix (k := 2) ex155 hI hL rfl (by decide)
    clear tx155
    refine va_sld hx hb hX hbl (Nat.not_le.mpr hbl) hS (vp_in_iff.mpr evx155) dL_law_327 ?_
    refine W.eq (g2 := F0 m 328 ls [.int (xs (i.toNatClampNeg + 2)), .int (xs (i.toNatClampNeg + 1)), .ref a]) (congrArg (fun z => F0 m 328 ls [.int (xs z), .int (xs (i.toNatClampNeg + 1)), .ref a]) ejx155) ?_
    refine lv_aload_n hx hb dL_law_328 rfl (lv_at hl 3 rfl) ?_
    refine lv_iload_n hx hb dL_law_329 rfl (lv_at hl 0 rfl) ?_
    refine lv_iconst (v := 3) hx hb dL_law_330 (by decide) ?_
    refine lv_iadd hx hb dL_law_331 ?_
    refine lv_topi (fun x156 ex156 => ?_)
    obtain ⟨tx156, ejx156, evx156⟩ := lw_ix (k := 3) ex156 hI hL rfl (by decide)
    clear tx156
    refine va_sld hx hb hX hbl (Nat.not_le.mpr hbl) hS (vp_in_iff.mpr evx156) dL_law_332 ?_
    refine W.eq (g2 := F0 m 333 ls [.int (xs (i.toNatClampNeg + 3)), .int (xs (i.toNatClampNeg + 2)), .int (xs (i.toNatClampNeg + 1)), .ref a]) (congrArg (fun z => F0 m 333 ls [.int (xs z), .int (xs (i.toNatClampNeg + 2)), .int (xs (i.toNatClampNeg + 1)), .ref a]) ejx156) ?_
    refine x_V (As := [.int (xs (i.toNatClampNeg + 1)), .int (xs (i.toNatClampNeg + 2)), .int (xs (i.toNatClampNeg + 3))]) (rest := []) C (a_X9_of l K G H ((xs (i.toNatClampNeg + 1))) ((xs (i.toNatClampNeg + 2))) ((xs (i.toNatClampNeg + 3))) hT ga) yo_X9_of wM_L_28 ⟨⟨by decide, by decide⟩, show _ ≤ 284929 from Nat.le_trans hc (by decide), show _ ≤ 8247460 from Nat.le_trans hs (by decide)⟩ (x_rv C hT (ci := 9) rfl ga rg_68) rfl hl.1 rfl (Nat.le_of_ble_eq_true rfl) dL_law_333 hS (AE_new hN hS.1) (fun vH157 H157 locsH157 pH157 zH157 kH157 hSH157 => ?_)
    obtain ⟨x158, hvH157, hTH157⟩ := pH157
    subst hvH157
    have g159 : CG (avw K H157 b) := CG.congr (fun k hk j => av_eff hT kH157 gb (by decide) (CG_eff [] (by decide) k hk)) cg
    have g160 : TU (avw K H157 b) (svw K H157 b) := TU.congr (fun k hk j => av_eff hT kH157 gb (by decide) (TU_eff [] (by decide) k hk)) (fun k hk => sv_eff hT kH157 gb (by decide)) tu
    have g161 : WD (avw K H157 b) := WD.congr (fun k hk j => av_eff hT kH157 gb (by decide) (WD_eff [] (by decide) k hk)) wd
    have g162 : IM (avw K H157 b) := IM.congr (fun k hk j => av_eff hT kH157 gb (by decide) (IM_eff [] (by decide) k hk)) im
    have m163 := (ew).trans (fR_kept (x_lt hT kH157 ga (by decide))).symm
    have m164 := (eta).trans (fI_kept (x_lt hT kH157 ga (by decide))).symm
    have m165 := (etb).trans (fI_kept (x_lt hT kH157 gb (by decide))).symm
    have m166 := (es1).trans (fI_kept (x_lt hT kH157 gw (by decide))).symm
    have m167 := (ey1).trans (fI_kept (x_lt hT kH157 gb (by decide))).symm
    have m168 := (es4).trans (fI_kept (x_lt hT kH157 gw (by decide))).symm
    have m169 := (ey4).trans (fI_kept (x_lt hT kH157 gb (by decide))).symm
    have m170 := (es5).trans (fI_kept (x_lt hT kH157 gw (by decide))).symm
    have m171 := (ey5).trans (fI_kept (x_lt hT kH157 gb (by decide))).symm
    have m172 := (es10).trans (fI_kept (x_lt hT kH157 gw (by decide))).symm
    have m173 := (ey10).trans (fI_kept (x_lt hT kH157 gb (by decide))).symm
    have m174 := (es13).trans (fI_kept (x_lt hT kH157 gw (by decide))).symm
    have m175 := (ey13).trans (fI_kept (x_lt hT kH157 gb (by decide))).symm
    have m176 := (es16).trans (fI_kept (x_lt hT kH157 gw (by decide))).symm
    have m177 := (ey16).trans (fI_kept (x_lt hT kH157 gb (by decide))).symm
    have m178 := (ehi).trans (fI_kept (x_lt hT kH157 gb (by decide))).symm
    have m179 := (fV_kept (x_lt hT kH157 ga (by decide))).trans kn
    have m180 := (eiq).trans (fR_kept (x_lt hT kH157 gb (by decide))).symm
    have m181 := (ek1).trans (fI_kept (x_lt hT kH157 gkq (by decide))).symm
    have m182 := (ei1).trans (fI_kept (x_lt hT kH157 giq (by decide))).symm
    have m183 := (ek4).trans (fI_kept (x_lt hT kH157 gkq (by decide))).symm
    have m184 := (ei4).trans (fI_kept (x_lt hT kH157 giq (by decide))).symm
    have m185 := (ek5).trans (fI_kept (x_lt hT kH157 gkq (by decide))).symm
    have m186 := (ei5).trans (fI_kept (x_lt hT kH157 giq (by decide))).symm
    have m187 := (ek10).trans (fI_kept (x_lt hT kH157 gkq (by decide))).symm
    have m188 := (ei10).trans (fI_kept (x_lt hT kH157 giq (by decide))).symm
    have m189 := (ek13).trans (fI_kept (x_lt hT kH157 gkq (by decide))).symm
    have m190 := (ei13).trans (fI_kept (x_lt hT kH157 giq (by decide))).symm
    have m191 := (ek16).trans (fI_kept (x_lt hT kH157 gkq (by decide))).symm
    have m192 := (ei16).trans (fI_kept (x_lt hT kH157 giq (by decide))).symm
    refine W.eq (g2 := F0 m 336 ls [.int x158]) rfl ?_
    refine lv_pop hx hb dL_law_336 rfl ?_
    refine lv_aload_n hx hb dL_law_337 rfl (lv_at hl 1 rfl) ?_
    refine lv_aload_n hx hb dL_law_338 rfl (lv_at hl 3 rfl) ?_
    refine lv_iload_n hx hb dL_law_339 rfl (lv_at hl 0 rfl) ?_
    refine lv_iconst (v := 1) hx hb dL_law_340 (by decide) ?_
    refine lv_iadd hx hb dL_law_341 ?_
    refine lv_topi (fun x193 ex193 => ?_)
    obtain ⟨tx193, ejx193, evx193⟩ := lw_ix (k := 1) ex193 hI hL rfl (by decide)
    clear tx193
    refine va_sld hx hb hX hbl (Nat.not_le.mpr hbl) hSH157 (vp_in_iff.mpr evx193) dL_law_342 ?_
    refine W.eq (g2 := F0 m 343 ls [.int (xs (i.toNatClampNeg + 1)), .ref b]) (congrArg (fun z => F0 m 343 ls [.int (xs z), .ref b]) ejx193) ?_
    refine lv_aload_n hx hb dL_law_343 rfl (lv_at hl 3 rfl) ?_
    refine lv_iload_n hx hb dL_law_344 rfl (lv_at hl 0 rfl) ?_
    refine lv_iconst (v := 2) hx hb dL_law_345 (by decide) ?_
    refine lv_iadd hx hb dL_law_346 ?_
    refine lv_topi (fun x194 ex194 => ?_)
    obtain ⟨tx194, ejx194, evx194⟩ := lw_ix (k := 2) ex194 hI hL rfl (by decide)
    clear tx194
    refine va_sld hx hb hX hbl (Nat.not_le.mpr hbl) hSH157 (vp_in_iff.mpr evx194) dL_law_347 ?_
    refine W.eq (g2 := F0 m 348 ls [.int (xs (i.toNatClampNeg + 2)), .int (xs (i.toNatClampNeg + 1)), .ref b]) (congrArg (fun z => F0 m 348 ls [.int (xs z), .int (xs (i.toNatClampNeg + 1)), .ref b]) ejx194) ?_
    refine lv_aload_n hx hb dL_law_348 rfl (lv_at hl 3 rfl) ?_
    refine lv_iload_n hx hb dL_law_349 rfl (lv_at hl 0 rfl) ?_
    refine lv_iconst (v := 3) hx hb dL_law_350 (by decide) ?_
    refine lv_iadd hx hb dL_law_351 ?_
    refine lv_topi (fun x195 ex195 => ?_)
    obtain ⟨tx195, ejx195, evx195⟩ := lw_ix (k := 3) ex195 hI hL rfl (by decide)
    clear tx195
    refine va_sld hx hb hX hbl (Nat.not_le.mpr hbl) hSH157 (vp_in_iff.mpr evx195) dL_law_352 ?_
    refine W.eq (g2 := F0 m 353 ls [.int (xs (i.toNatClampNeg + 3)), .int (xs (i.toNatClampNeg + 2)), .int (xs (i.toNatClampNeg + 1)), .ref b]) (congrArg (fun z => F0 m 353 ls [.int (xs z), .int (xs (i.toNatClampNeg + 2)), .int (xs (i.toNatClampNeg + 1)), .ref b]) ejx195) ?_
    refine x_V (As := [.int (xs (i.toNatClampNeg + 1)), .int (xs (i.toNatClampNeg + 2)), .int (xs (i.toNatClampNeg + 3))]) (rest := []) C (a_X10_of l K G H157 ((xs (i.toNatClampNeg + 1))) ((xs (i.toNatClampNeg + 2))) ((xs (i.toNatClampNeg + 3))) hTH157 gb g159 g160 g161 g162) yo_X10_of wM_L_32 ⟨⟨by decide, by decide⟩, show _ ≤ 284929 from Nat.le_trans hc (by decide), show _ ≤ 8247460 from Nat.le_trans hs (by decide)⟩ (x_rv C hTH157 (ci := 10) rfl gb rg_112) rfl hl.1 rfl (Nat.le_of_ble_eq_true rfl) dL_law_353 hSH157 (AE_new hN hSH157.1) (fun vH196 H196 locsH196 pH196 zH196 kH196 hSH196 => ?_)
    obtain ⟨x197, hvH196, g198, g199, g200, g201, mf202, hTH196⟩ := pH196
    subst hvH196
    have m203 := (m163).trans (fR_kept (x_lt hTH157 kH196 ga (by decide))).symm
    have m204 := (m164).trans (fI_kept (x_lt hTH157 kH196 ga (by decide))).symm
    have m205 := (m166).trans (fI_kept (x_lt hTH157 kH196 gw (by decide))).symm
    have m206 := (m168).trans (fI_kept (x_lt hTH157 kH196 gw (by decide))).symm
    have m207 := (m170).trans (fI_kept (x_lt hTH157 kH196 gw (by decide))).symm
    have m208 := (m172).trans (fI_kept (x_lt hTH157 kH196 gw (by decide))).symm
    have m209 := (m174).trans (fI_kept (x_lt hTH157 kH196 gw (by decide))).symm
    have m210 := (m176).trans (fI_kept (x_lt hTH157 kH196 gw (by decide))).symm
    have m211 := (fV_kept (x_lt hTH157 kH196 ga (by decide))).trans m179
    have m212 := (m181).trans (fI_kept (x_lt hTH157 kH196 gkq (by decide))).symm
    have m213 := (m182).trans (fI_kept (x_lt hTH157 kH196 giq (by decide))).symm
    have m214 := (m183).trans (fI_kept (x_lt hTH157 kH196 gkq (by decide))).symm
    have m215 := (m184).trans (fI_kept (x_lt hTH157 kH196 giq (by decide))).symm
    have m216 := (m185).trans (fI_kept (x_lt hTH157 kH196 gkq (by decide))).symm
    have m217 := (m186).trans (fI_kept (x_lt hTH157 kH196 giq (by decide))).symm
    have m218 := (m187).trans (fI_kept (x_lt hTH157 kH196 gkq (by decide))).symm
    have m219 := (m188).trans (fI_kept (x_lt hTH157 kH196 giq (by decide))).symm
    have m220 := (m189).trans (fI_kept (x_lt hTH157 kH196 gkq (by decide))).symm
    have m221 := (m190).trans (fI_kept (x_lt hTH157 kH196 giq (by decide))).symm
    have m222 := (m191).trans (fI_kept (x_lt hTH157 kH196 gkq (by decide))).symm
    have m223 := (m192).trans (fI_kept (x_lt hTH157 kH196 giq (by decide))).symm
    have m224 := (m165).trans (MF.i mf202 (k := 18) (by decide) (by decide)).symm
    have m225 := (m167).trans (MF.i mf202 (k := 1) (by decide) (by decide)).symm
    have m226 := (m169).trans (MF.i mf202 (k := 2) (by decide) (by decide)).symm
    have m227 := (m171).trans (MF.i mf202 (k := 3) (by decide) (by decide)).symm
    have m228 := (m173).trans (MF.i mf202 (k := 59) (by decide) (by decide)).symm
    have m229 := (m175).trans (MF.i mf202 (k := 62) (by decide) (by decide)).symm
    have m230 := (m177).trans (MF.i mf202 (k := 65) (by decide) (by decide)).symm
    have m231 := (m178).trans (MF.i mf202 (k := 70) (by decide) (by decide)).symm
    have m232 := (m180).trans (MF.r mf202 (k := 73) (by decide) (by decide)).symm
    refine W.eq (g2 := F0 m 356 ls [.int x197]) rfl ?_
    refine lv_pop hx hb dL_law_356 rfl ?_
    refine lv_goto (tgt := 1509) hx hb dL_law_357 (by decide) ?_
    exact nx G H196 locsH196 _ _ ls ⟨hTH196, hN, ga, gb, g198, g199, g200, g201, ⟨(by rw [← m204, ← m224]; exact rt), (by rw [← m203, ← m205, ← m225]; exact r1), (by rw [← m203, ← m206, ← m226]; exact r4), (by rw [← m203, ← m207, ← m227]; exact r5), (by rw [← m203, ← m208, ← m228]; exact r10), (by rw [← m203, ← m209, ← m229]; exact r13), (by rw [← m203, ← m210, ← m230]; exact r16)⟩, Or.inr ⟨kq, m211, gkq, (by rw [← m231]; exact h70), (by rw [← m212, ← m232, ← m213]; exact q1), (by rw [← m214, ← m232, ← m215]; exact q4), (by rw [← m216, ← m232, ← m217]; exact q5), (by rw [← m218, ← m232, ← m219]; exact q10), (by rw [← m220, ← m232, ← m221]; exact q13), (by rw [← m222, ← m232, ← m223]; exact q16)⟩, hSH196⟩ hl ⟨hc, hs, fun h => by have h1 := h.symm.trans m211; cases h1⟩