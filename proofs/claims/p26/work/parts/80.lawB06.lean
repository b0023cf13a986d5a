set_option maxRecDepth 100000 in
set_option maxHeartbeats 1000000 in
theorem lw_c24 {p : Program} {l : Launch} {e : Env} {s : State} {m : MethodId} {below : List Frame} {meth : Method} {c : Code} {K : KE} {b0 L : Nat} {xs : Nat → Int32} {G : Nat → Option Nat} {H : Heap} {locs : List Loc} {a b : Nat} {cells slots : Nat} {ls : Array Slot} {i : Int32} {n : Nat} (D : LC p K s m meth c b0 L xs) (S : SX K s G H locs a b) (hl : lv_has ls 4 [(3, .int i), (2, .ref b), (1, .ref a), (0, .ref b0)]) (hi : 0 ≤ i.toInt ∧ i.toInt + 6 ≤ L) (hn : n ≤ 511) (hB : BD K H a cells slots) (nx : ∀ (G : Nat → Option Nat) (H : Heap) (locs : List Loc) (cells slots : Nat) (ls : Array Slot), SX K s G H locs a b → lv_has ls 4 [(3, .int i), (2, .ref b), (1, .ref a), (0, .ref b0)] → BD K H a cells slots → W p l e room_1 s m #[Value.ref b0] below meth c H locs cells slots (lw_Z below #[Value.ref b0] s) (F0 m 1509 ls [])) : W p l e room_1 s m #[Value.ref b0] below meth c H locs cells slots (lw_Z below #[Value.ref b0] s) (F0 m 1120 ls []) := by
  have hI := hi
  obtain ⟨C, hX, hbl, hL⟩ := id D
  obtain ⟨hx, hb, hml, hown, hts, hKT, hr, hlocks, hnm⟩ := id C
  obtain ⟨hT, hN, ga, gb, cg, tu, wd, im, ⟨rt, r1, r4, r5, r10, r13, r16⟩, hk, hS⟩ := S
  obtain ⟨hc, hs, hB0⟩ := hB
  have n_1 : (1 : Int32).toInt = 1 := rfl
  have n_2 : (2 : Int32).toInt = 2 := rfl
  have n_3 : (3 : Int32).toInt = 3 := rfl
  obtain ⟨w, ew⟩ : ∃ z : Nat, z = fR H a (K.1.2 9 0) := ⟨_, rfl⟩
  have gw := ty_fr (q := w) (k := 0) (u := 0) ew hT ga rg_68 rfl
  rw [← ew] at r1 r4 r5 r10 r13 r16
  obtain ⟨ta, eta⟩ : ∃ z : Int32, z = fI H a (K.1.2 9 3) := ⟨_, rfl⟩
  rw [← eta] at rt
  obtain ⟨tb, etb⟩ : ∃ z : Int32, z = fI H b (K.1.2 10 18) := ⟨_, rfl⟩
  rw [← etb] at rt
  obtain ⟨s1, es1⟩ : ∃ z : Int32, z = fI H w (K.1.2 8 1) := ⟨_, rfl⟩
  rw [← es1] at r1
  obtain ⟨y1, ey1⟩ : ∃ z : Int32, z = fI H b (K.1.2 10 1) := ⟨_, rfl⟩
  rw [← ey1] at r1
  obtain ⟨s4, es4⟩ : ∃ z : Int32, z = fI H w (K.1.2 8 4) := ⟨_, rfl⟩
  rw [← es4] at r4
  obtain ⟨y4, ey4⟩ : ∃ z : Int32, z = fI H b (K.1.2 10 2) := ⟨_, rfl⟩
  rw [← ey4] at r4
  obtain ⟨s5, es5⟩ : ∃ z : Int32, z = fI H w (K.1.2 8 5) := ⟨_, rfl⟩
  rw [← es5] at r5
  obtain ⟨y5, ey5⟩ : ∃ z : Int32, z = fI H b (K.1.2 10 3) := ⟨_, rfl⟩
  rw [← ey5] at r5
  obtain ⟨s10, es10⟩ : ∃ z : Int32, z = fI H w (K.1.2 8 10) := ⟨_, rfl⟩
  rw [← es10] at r10
  obtain ⟨y10, ey10⟩ : ∃ z : Int32, z = fI H b (K.1.2 10 59) := ⟨_, rfl⟩
  rw [← ey10] at r10
  obtain ⟨s13, es13⟩ : ∃ z : Int32, z = fI H w (K.1.2 8 13) := ⟨_, rfl⟩
  rw [← es13] at r13
  obtain ⟨y13, ey13⟩ : ∃ z : Int32, z = fI H b (K.1.2 10 62) := ⟨_, rfl⟩
  rw [← ey13] at r13
  obtain ⟨s16, es16⟩ : ∃ z : Int32, z = fI H w (K.1.2 8 16) := ⟨_, rfl⟩
  rw [← es16] at r16
  obtain ⟨y16, ey16⟩ : ∃ z : Int32, z = fI H b (K.1.2 10 65) := ⟨_, rfl⟩
  rw [← ey16] at r16
  rcases hk with ⟨kn, h70⟩ | ⟨kq, kn, gkq, h70, q1, q4, q5, q10, q13, q16⟩
  · skip
    obtain ⟨hi, ehi⟩ : ∃ z : Int32, z = fI H b (K.1.2 10 70) := ⟨_, rfl⟩
    rw [← ehi] at h70
    obtain ⟨hc0, hs0⟩ := hB0 kn
    refine lv_aload_n hx hb dL_law_1120 rfl (lv_at hl 2 rfl) ?_
    refine lv_aload_n hx hb dL_law_1121 rfl (lv_at hl 3 rfl) ?_
    refine lv_iload_n hx hb dL_law_1122 rfl (lv_at hl 0 rfl) ?_
    refine lv_iconst (v := 1) hx hb dL_law_1123 (by decide) ?_
    refine lv_iadd hx hb dL_law_1124 ?_
    refine lv_topi (fun x101 ex101 => ?_)
    obtain ⟨tx101, ejx101, evx101⟩ := lw_ix (k := 1) ex101 hI hL rfl (by decide)
    clear tx101
    refine va_sld hx hb hX hbl (Nat.not_le.mpr hbl) hS (vp_in_iff.mpr evx101) dL_law_1125 ?_
    refine W.eq (g2 := F0 m 1126 ls [.int (xs (i.toNatClampNeg + 1)), .ref a]) (congrArg (fun z => F0 m 1126 ls [.int (xs z), .ref a]) ejx101) ?_
    refine lv_aload_n hx hb dL_law_1126 rfl (lv_at hl 3 rfl) ?_
    refine lv_iload_n hx hb dL_law_1127 rfl (lv_at hl 0 rfl) ?_
    refine lv_iconst (v := 2) hx hb dL_law_1128 (by decide) ?_
    refine lv_iadd hx hb dL_law_1129 ?_
    refine lv_topi (fun x102 ex102 => ?_)
    obtain ⟨tx102, ejx102, evx102⟩ := lw_ix (k := 2) ex102 hI hL rfl (by decide)
    clear tx102
    refine va_sld hx hb hX hbl (Nat.not_le.mpr hbl) hS (vp_in_iff.mpr evx102) dL_law_1130 ?_
    refine W.eq (g2 := F0 m 1131 ls [.int (xs (i.toNatClampNeg + 2)), .int (xs (i.toNatClampNeg + 1)), .ref a]) (congrArg (fun z => F0 m 1131 ls [.int (xs z), .int (xs (i.toNatClampNeg + 1)), .ref a]) ejx102) ?_
    refine lv_aload_n hx hb dL_law_1131 rfl (lv_at hl 3 rfl) ?_
    refine lv_iload_n hx hb dL_law_1132 rfl (lv_at hl 0 rfl) ?_
    refine lv_iconst (v := 3) hx hb dL_law_1133 (by decide) ?_
    refine lv_iadd hx hb dL_law_1134 ?_
    refine lv_topi (fun x103 ex103 => ?_)
    obtain ⟨tx103, ejx103, evx103⟩ := lw_ix (k := 3) ex103 hI hL rfl (by decide)
    clear tx103
    refine va_sld hx hb hX hbl (Nat.not_le.mpr hbl) hS (vp_in_iff.mpr evx103) dL_law_1135 ?_
    refine W.eq (g2 := F0 m 1136 ls [.int (xs (i.toNatClampNeg + 3)), .int (xs (i.toNatClampNeg + 2)), .int (xs (i.toNatClampNeg + 1)), .ref a]) (congrArg (fun z => F0 m 1136 ls [.int (xs z), .int (xs (i.toNatClampNeg + 2)), .int (xs (i.toNatClampNeg + 1)), .ref a]) ejx103) ?_
    refine x_V (As := [.int (xs (i.toNatClampNeg + 1)), .int (xs (i.toNatClampNeg + 2)), .int (xs (i.toNatClampNeg + 3))]) (rest := []) C (a_X9_tube_r l K G H ((xs (i.toNatClampNeg + 1))) ((xs (i.toNatClampNeg + 2))) ((xs (i.toNatClampNeg + 3))) (s1) (s4) (s5) (s10) (s13) (s16) hT ga gw ew es1 es4 es5 es10 es13 es16) yo_X9_tube wM_L_117 ⟨⟨by decide, by decide⟩, show _ ≤ 284929 from Nat.le_trans hc (by decide), show _ ≤ 8247460 from Nat.le_trans hs (by decide)⟩ (x_rv C hT (ci := 9) rfl ga rg_68) rfl hl.1 rfl (Nat.le_of_ble_eq_true rfl) dL_law_1136 hS (AE_new hN hS.1) (fun vH104 H104 locsH104 pH104 zH104 kH104 hSH104 => ?_)
    obtain ⟨x105, hvH104, bx105, hrH104, hTH104⟩ := pH104
    subst hvH104
    have g106 : CG (avw K H104 b) := CG.congr (fun k hk j => av_eff hT kH104 gb (by decide) (CG_eff [15] (by decide) k hk)) cg
    have g107 : TU (avw K H104 b) (svw K H104 b) := TU.congr (fun k hk j => av_eff hT kH104 gb (by decide) (TU_eff [15] (by decide) k hk)) (fun k hk => sv_eff hT kH104 gb (by decide)) tu
    have g108 : WD (avw K H104 b) := WD.congr (fun k hk j => av_eff hT kH104 gb (by decide) (WD_eff [15] (by decide) k hk)) wd
    have g109 : IM (avw K H104 b) := IM.congr (fun k hk j => av_eff hT kH104 gb (by decide) (IM_eff [15] (by decide) k hk)) im
    have m110 := (ew).trans (fR_kept (x_lt hT kH104 ga (by decide))).symm
    have m111 := (eta).trans (fI_kept (x_lt hT kH104 ga (by decide))).symm
    have m112 := (etb).trans (fI_kept (x_lt hT kH104 gb (by decide))).symm
    have m113 := (es1).trans (fI_kept (x_lt hT kH104 gw (by decide))).symm
    have m114 := (ey1).trans (fI_kept (x_lt hT kH104 gb (by decide))).symm
    have m115 := (es4).trans (fI_kept (x_lt hT kH104 gw (by decide))).symm
    have m116 := (ey4).trans (fI_kept (x_lt hT kH104 gb (by decide))).symm
    have m117 := (es5).trans (fI_kept (x_lt hT kH104 gw (by decide))).symm
    have m118 := (ey5).trans (fI_kept (x_lt hT kH104 gb (by decide))).symm
    have m119 := (es10).trans (fI_kept (x_lt hT kH104 gw (by decide))).symm
    have m120 := (ey10).trans (fI_kept (x_lt hT kH104 gb (by decide))).symm
    have m121 := (es13).trans (fI_kept (x_lt hT kH104 gw (by decide))).symm
    have m122 := (ey13).trans (fI_kept (x_lt hT kH104 gb (by decide))).symm
    have m123 := (es16).trans (fI_kept (x_lt hT kH104 gw (by decide))).symm
    have m124 := (ey16).trans (fI_kept (x_lt hT kH104 gb (by decide))).symm
    have m125 := (ehi).trans (fI_kept (x_lt hT kH104 gb (by decide))).symm
    have m126 := (fV_kept (x_lt hT kH104 ga (by decide))).trans kn
    refine W.eq (g2 := F0 m 1139 ls [.int x105]) rfl ?_
    refine lv_aload_n hx hb dL_law_1139 rfl (lv_at hl 1 rfl) ?_
    refine lv_aload_n hx hb dL_law_1140 rfl (lv_at hl 3 rfl) ?_
    refine lv_iload_n hx hb dL_law_1141 rfl (lv_at hl 0 rfl) ?_
    refine lv_iconst (v := 1) hx hb dL_law_1142 (by decide) ?_
    refine lv_iadd hx hb dL_law_1143 ?_
    refine lv_topi (fun x127 ex127 => ?_)
    obtain ⟨tx127, ejx127, evx127⟩ := lw_ix (k := 1) ex127 hI hL rfl (by decide)
    clear tx127
    refine va_sld hx hb hX hbl (Nat.not_le.mpr hbl) hSH104 (vp_in_iff.mpr evx127) dL_law_1144 ?_
    refine W.eq (g2 := F0 m 1145 ls [.int (xs (i.toNatClampNeg + 1)), .ref b, .int x105]) (congrArg (fun z => F0 m 1145 ls [.int (xs z), .ref b, .int x105]) ejx127) ?_
    refine lv_aload_n hx hb dL_law_1145 rfl (lv_at hl 3 rfl) ?_
    refine lv_iload_n hx hb dL_law_1146 rfl (lv_at hl 0 rfl) ?_
    refine lv_iconst (v := 2) hx hb dL_law_1147 (by decide) ?_
    refine lv_iadd hx hb dL_law_1148 ?_
    refine lv_topi (fun x128 ex128 => ?_)
    obtain ⟨tx128, ejx128, evx128⟩ := lw_ix (k := 2) ex128 hI hL rfl (by decide)
    clear tx128
    refine va_sld hx hb hX hbl (Nat.not_le.mpr hbl) hSH104 (vp_in_iff.mpr evx128) dL_law_1149 ?_
    refine W.eq (g2 := F0 m 1150 ls [.int (xs (i.toNatClampNeg + 2)), .int (xs (i.toNatClampNeg + 1)), .ref b, .int x105]) (congrArg (fun z => F0 m 1150 ls [.int (xs z), .int (xs (i.toNatClampNeg + 1)), .ref b, .int x105]) ejx128) ?_
    refine lv_aload_n hx hb dL_law_1150 rfl (lv_at hl 3 rfl) ?_
    refine lv_iload_n hx hb dL_law_1151 rfl (lv_at hl 0 rfl) ?_
    refine lv_iconst (v := 3) hx hb dL_law_1152 (by decide) ?_
    refine lv_iadd hx hb dL_law_1153 ?_
    refine lv_topi (fun x129 ex129 => ?_)
    obtain ⟨tx129, ejx129, evx129⟩ := lw_ix (k := 3) ex129 hI hL rfl (by decide)
    clear tx129
    refine va_sld hx hb hX hbl (Nat.not_le.mpr hbl) hSH104 (vp_in_iff.mpr evx129) dL_law_1154 ?_
    refine W.eq (g2 := F0 m 1155 ls [.int (xs (i.toNatClampNeg + 3)), .int (xs (i.toNatClampNeg + 2)), .int (xs (i.toNatClampNeg + 1)), .ref b, .int x105]) (congrArg (fun z => F0 m 1155 ls [.int (xs z), .int (xs (i.toNatClampNeg + 2)), .int (xs (i.toNatClampNeg + 1)), .ref b, .int x105]) ejx129) ?_
    refine x_V (As := [.int (xs (i.toNatClampNeg + 1)), .int (xs (i.toNatClampNeg + 2)), .int (xs (i.toNatClampNeg + 3))]) (rest := [.int x105]) C (a_X10_tube_r l K G H104 ((xs (i.toNatClampNeg + 1))) ((xs (i.toNatClampNeg + 2))) ((xs (i.toNatClampNeg + 3))) (y1) hTH104 gb m114 g106 g107 g108 g109) yo_X10_tube wM_L_120 ⟨⟨by decide, by decide⟩, show _ ≤ 284929 from Nat.le_trans hc (by decide), show _ ≤ 8247460 from Nat.le_trans hs (by decide)⟩ (x_rv C hTH104 (ci := 10) rfl gb rg_112) rfl hl.1 rfl (Nat.le_of_ble_eq_true rfl) dL_law_1155 hSH104 (AE_new hN hSH104.1) (fun vH130 H130 locsH130 pH130 zH130 kH130 hSH130 => ?_)
    obtain ⟨x131, hvH130, bx131, hrH130, g132, g133, g134, g135, mf136, hTH130⟩ := pH130
    subst hvH130
    have m137 := (m110).trans (fR_kept (x_lt hTH104 kH130 ga (by decide))).symm
    have m138 := (m111).trans (fI_kept (x_lt hTH104 kH130 ga (by decide))).symm
    have m139 := (m113).trans (fI_kept (x_lt hTH104 kH130 gw (by decide))).symm
    have m140 := (m115).trans (fI_kept (x_lt hTH104 kH130 gw (by decide))).symm
    have m141 := (m117).trans (fI_kept (x_lt hTH104 kH130 gw (by decide))).symm
    have m142 := (m119).trans (fI_kept (x_lt hTH104 kH130 gw (by decide))).symm
    have m143 := (m121).trans (fI_kept (x_lt hTH104 kH130 gw (by decide))).symm
    have m144 := (m123).trans (fI_kept (x_lt hTH104 kH130 gw (by decide))).symm
    have m145 := (fV_kept (x_lt hTH104 kH130 ga (by decide))).trans m126
    have m146 := (m112).trans (MF.i mf136 (k := 18) (by decide) (by decide)).symm
    have m147 := (m114).trans (MF.i mf136 (k := 1) (by decide) (by decide)).symm
    have m148 := (m116).trans (MF.i mf136 (k := 2) (by decide) (by decide)).symm
    have m149 := (m118).trans (MF.i mf136 (k := 3) (by decide) (by decide)).symm
    have m150 := (m120).trans (MF.i mf136 (k := 59) (by decide) (by decide)).symm
    have m151 := (m122).trans (MF.i mf136 (k := 62) (by decide) (by decide)).symm
    have m152 := (m124).trans (MF.i mf136 (k := 65) (by decide) (by decide)).symm
    have m153 := (m125).trans (MF.i mf136 (k := 70) (by decide) (by decide)).symm
    refine W.eq (g2 := F0 m 1158 ls [.int x131, .int x105]) rfl ?_
    refine lv_icmp_eq (tgt := 1509) hx hb dL_law_1158 (by decide) (fun ce => ?_) (fun ce => ?_)
    · skip
      exact nx G H130 locsH130 _ _ ls ⟨hTH130, hN, ga, gb, g132, g133, g134, g135, ⟨(by rw [← m138, ← m146]; exact rt), (by rw [← m137, ← m139, ← m147]; exact r1), (by rw [← m137, ← m140, ← m148]; exact r4), (by rw [← m137, ← m141, ← m149]; exact r5), (by rw [← m137, ← m142, ← m150]; exact r10), (by rw [← m137, ← m143, ← m151]; exact r13), (by rw [← m137, ← m144, ← m152]; exact r16)⟩, Or.inl ⟨m145, (by rw [← m153]; exact h70)⟩, hSH130⟩ hl ⟨hc, hs, fun _ => ⟨hc0, hs0⟩⟩
    · exfalso
      have := i_ne ce
      omega
  · skip
    obtain ⟨hi, ehi⟩ : ∃ z : Int32, z = fI H b (K.1.2 10 70) := ⟨_, rfl⟩
    rw [← ehi] at h70
    obtain ⟨iq, eiq⟩ : ∃ z : Nat, z = fR H b (K.1.2 10 73) := ⟨_, rfl⟩
    have giq := ty_fr (q := iq) (k := 73) (u := 162) eiq hT gb rg_112 rfl
    rw [← eiq] at q1 q4 q5 q10 q13 q16
    obtain ⟨k1, ek1⟩ : ∃ z : Int32, z = fI H kq (K.1.2 8 1) := ⟨_, rfl⟩
    rw [← ek1] at q1
    obtain ⟨i1, ei1⟩ : ∃ z : Int32, z = fI H iq ((0 : Int32).toNatClampNeg) := ⟨_, rfl⟩
    rw [← ei1] at q1
    obtain ⟨k4, ek4⟩ : ∃ z : Int32, z = fI H kq (K.1.2 8 4) := ⟨_, rfl⟩
    rw [← ek4] at q4
    obtain ⟨i4, ei4⟩ : ∃ z : Int32, z = fI H iq ((1 : Int32).toNatClampNeg) := ⟨_, rfl⟩
    rw [← ei4] at q4
    obtain ⟨k5, ek5⟩ : ∃ z : Int32, z = fI H kq (K.1.2 8 5) := ⟨_, rfl⟩
    rw [← ek5] at q5
    obtain ⟨i5, ei5⟩ : ∃ z : Int32, z = fI H iq ((2 : Int32).toNatClampNeg) := ⟨_, rfl⟩
    rw [← ei5] at q5
    obtain ⟨k10, ek10⟩ : ∃ z : Int32, z = fI H kq (K.1.2 8 10) := ⟨_, rfl⟩
    rw [← ek10] at q10
    obtain ⟨i10, ei10⟩ : ∃ z : Int32, z = fI H iq ((3 : Int32).toNatClampNeg) := ⟨_, rfl⟩
    rw [← ei10] at q10
    obtain ⟨k13, ek13⟩ : ∃ z : Int32, z = fI H kq (K.1.2 8 13) := ⟨_, rfl⟩
    rw [← ek13] at q13
    obtain ⟨i13, ei13⟩ : ∃ z : Int32, z = fI H iq ((4 : Int32).toNatClampNeg) := ⟨_, rfl⟩
    rw [← ei13] at q13
    obtain ⟨k16, ek16⟩ : ∃ z : Int32, z = fI H kq (K.1.2 8 16) := ⟨_, rfl⟩
    rw [← ek16] at q16
    obtain ⟨i16, ei16⟩ : ∃ z : Int32, z = fI H iq ((5 : Int32).toNatClampNeg) := ⟨_, rfl⟩
    rw [← ei16] at q16
    refine lv_aload_n hx hb dL_law_1120 rfl (lv_at hl 2 rfl) ?_
    refine lv_aload_n hx hb dL_law_1121 rfl (lv_at hl 3 rfl) ?_
    refine lv_iload_n hx hb dL_law_1122 rfl (lv_at hl 0 rfl) ?_
    refine lv_iconst (v := 1) hx hb dL_law_1123 (by decide) ?_
    refine lv_iadd hx hb dL_law_1124 ?_
    refine lv_topi (fun x154 ex154 => ?_)
    obtain ⟨tx154, ejx154, evx154⟩ := lw_ix (k := 1) ex154 hI hL rfl (by decide)
    clear tx154
    refine va_sld hx hb hX hbl (Nat.not_le.mpr hbl) hS (vp_in_iff.mpr evx154) dL_law_1125 ?_
    refine W.eq (g2 := F0 m 1126 ls [.int (xs (i.toNatClampNeg + 1)), .ref a]) (congrArg (fun z => F0 m 1126 ls [.int (xs z), .ref a]) ejx154) ?_
    refine lv_aload_n hx hb dL_law_1126 rfl (lv_at hl 3 rfl) ?_
    refine lv_iload_n hx hb dL_law_1127 rfl (lv_at hl 0 rfl) ?_
    refine lv_iconst (v := 2) hx hb dL_law_1128 (by decide) ?_
    refine lv_iadd hx hb dL_law_1129 ?_
    refine lv_topi (fun x155 ex155 => ?_)
    obtain ⟨tx155, ejx155, evx155⟩ := lw_ix (k := 2) ex155 hI hL rfl (by decide)
    clear tx155
    refine va_sld hx hb hX hbl (Nat.not_le.mpr hbl) hS (vp_in_iff.mpr evx155) dL_law_1130 ?_
    refine W.eq (g2 := F0 m 1131 ls [.int (xs (i.toNatClampNeg + 2)), .int (xs (i.toNatClampNeg + 1)), .ref a]) (congrArg (fun z => F0 m 1131 ls [.int (xs z), .int (xs (i.toNatClampNeg + 1)), .ref a]) ejx155) ?_
    refine lv_aload_n hx hb dL_law_1131 rfl (lv_at hl 3 rfl) ?_
    refine lv_iload_n hx hb dL_law_1132 rfl (lv_at hl 0 rfl) ?_
    refine lv_iconst (v := 3) hx hb dL_law_1133 (by decide) ?_
    refine lv_iadd hx hb dL_law_1134 ?_
    refine lv_topi (fun x156 ex156 => ?_)
    obtain ⟨tx156, ejx156, evx156⟩ := lw_ix (k := 3) ex156 hI hL rfl (by decide)
    clear tx156
    refine va_sld hx hb hX hbl (Nat.not_le.mpr hbl) hS (vp_in_iff.mpr evx156) dL_law_1135 ?_
    refine W.eq (g2 := F0 m 1136 ls [.int (xs (i.toNatClampNeg + 3)), .int (xs (i.toNatClampNeg + 2)), .int (xs (i.toNatClampNeg + 1)), .ref a]) (congrArg (fun z => F0 m 1136 ls [.int (xs z), .int (xs (i.toNatClampNeg + 2)), .int (xs (i.toNatClampNeg + 1)), .ref a]) ejx156) ?_
    refine x_V (As := [.int (xs (i.toNatClampNeg + 1)), .int (xs (i.toNatClampNeg + 2)), .int (xs (i.toNatClampNeg + 3))]) (rest := []) C (a_X9_tube_r l K G H ((xs (i.toNatClampNeg + 1))) ((xs (i.toNatClampNeg + 2))) ((xs (i.toNatClampNeg + 3))) (s1) (s4) (s5) (s10) (s13) (s16) hT ga gw ew es1 es4 es5 es10 es13 es16) yo_X9_tube wM_L_117 ⟨⟨by decide, by decide⟩, show _ ≤ 284929 from Nat.le_trans hc (by decide), show _ ≤ 8247460 from Nat.le_trans hs (by decide)⟩ (x_rv C hT (ci := 9) rfl ga rg_68) rfl hl.1 rfl (Nat.le_of_ble_eq_true rfl) dL_law_1136 hS (AE_new hN hS.1) (fun vH157 H157 locsH157 pH157 zH157 kH157 hSH157 => ?_)
    obtain ⟨x158, hvH157, bx158, hrH157, hTH157⟩ := pH157
    subst hvH157
    have g159 : CG (avw K H157 b) := CG.congr (fun k hk j => av_eff hT kH157 gb (by decide) (CG_eff [15] (by decide) k hk)) cg
    have g160 : TU (avw K H157 b) (svw K H157 b) := TU.congr (fun k hk j => av_eff hT kH157 gb (by decide) (TU_eff [15] (by decide) k hk)) (fun k hk => sv_eff hT kH157 gb (by decide)) tu
    have g161 : WD (avw K H157 b) := WD.congr (fun k hk j => av_eff hT kH157 gb (by decide) (WD_eff [15] (by decide) k hk)) wd
    have g162 : IM (avw K H157 b) := IM.congr (fun k hk j => av_eff hT kH157 gb (by decide) (IM_eff [15] (by decide) k hk)) im
    have m163 := (ew).trans (fR_kept (x_lt hT kH157 ga (by decide))).symm
    have m164 := (eta).trans (fI_kept (x_lt hT kH157 ga (by decide))).symm
    have m165 := (etb).trans (fI_kept (x_lt hT kH157 gb (by decide))).symm
    have m166 := (es1).trans (fI_kept (x_lt hT kH157 gw (by decide))).symm
    have m167 := (ey1).trans (fI_kept (x_lt hT kH157 gb (by decide))).symm
    have m168 := (es4).trans (fI_kept (x_lt hT kH157 gw (by decide))).symm
    have m169 := (ey4).trans (fI_kept (x_lt hT kH157 gb (by decide))).symm
    have m170 := (es5).trans (fI_kept (x_lt hT kH157 gw (by decide))).symm
    have m171 := (ey5).trans (fI_kept (x_lt hT kH157 gb (by decide))).symm
    have m172 := (es10).trans (fI_kept (x_lt hT kH157 gw (by decide))).symm
    have m173 := (ey10).trans (fI_kept (x_lt hT kH157 gb (by decide))).symm
    have m174 := (es13).trans (fI_kept (x_lt hT kH157 gw (by decide))).symm
    have m175 := (ey13).trans (fI_kept (x_lt hT kH157 gb (by decide))).symm
    have m176 := (es16).trans (fI_kept (x_lt hT kH157 gw (by decide))).symm
    have m177 := (ey16).trans (fI_kept (x_lt hT kH157 gb (by decide))).symm
    have m178 := (ehi).trans (fI_kept (x_lt hT kH157 gb (by decide))).symm
    have m179 := (fV_kept (x_lt hT kH157 ga (by decide))).trans kn
    have m180 := (eiq).trans (fR_kept (x_lt hT kH157 gb (by decide))).symm
    have m181 := (ek1).trans (fI_kept (x_lt hT kH157 gkq (by decide))).symm
    have m182 := (ei1).trans (fI_kept (x_lt hT kH157 giq (by decide))).symm
    have m183 := (ek4).trans (fI_kept (x_lt hT kH157 gkq (by decide))).symm
    have m184 := (ei4).trans (fI_kept (x_lt hT kH157 giq (by decide))).symm
    have m185 := (ek5).trans (fI_kept (x_lt hT kH157 gkq (by decide))).symm
    have m186 := (ei5).trans (fI_kept (x_lt hT kH157 giq (by decide))).symm
    have m187 := (ek10).trans (fI_kept (x_lt hT kH157 gkq (by decide))).symm
    have m188 := (ei10).trans (fI_kept (x_lt hT kH157 giq (by decide))).symm
    have m189 := (ek13).trans (fI_kept (x_lt hT kH157 gkq (by decide))).symm
    have m190 := (ei13).trans (fI_kept (x_lt hT kH157 giq (by decide))).symm
    have m191 := (ek16).trans (fI_kept (x_lt hT kH157 gkq (by decide))).symm
    have m192 := (ei16).trans (fI_kept (x_lt hT kH157 giq (by decide))).symm
    refine W.eq (g2 := F0 m 1139 ls [.int x158]) rfl ?_
    refine lv_aload_n hx hb dL_law_1139 rfl (lv_at hl 1 rfl) ?_
    refine lv_aload_n hx hb dL_law_1140 rfl (lv_at hl 3 rfl) ?_
    refine lv_iload_n hx hb dL_law_1141 rfl (lv_at hl 0 rfl) ?_
    refine lv_iconst (v := 1) hx hb dL_law_1142 (by decide) ?_
    refine lv_iadd hx hb dL_law_1143 ?_
    refine lv_topi (fun x193 ex193 => ?_)
    obtain ⟨tx193, ejx193, evx193⟩ := lw_ix (k := 1) ex193 hI hL rfl (by decide)
    clear tx193
    refine va_sld hx hb hX hbl (Nat.not_le.mpr hbl) hSH157 (vp_in_iff.mpr evx193) dL_law_1144 ?_
    refine W.eq (g2 := F0 m 1145 ls [.int (xs (i.toNatClampNeg + 1)), .ref b, .int x158]) (congrArg (fun z => F0 m 1145 ls [.int (xs z), .ref b, .int x158]) ejx193) ?_
    refine lv_aload_n hx hb dL_law_1145 rfl (lv_at hl 3 rfl) ?_
    refine lv_iload_n hx hb dL_law_1146 rfl (lv_at hl 0 rfl) ?_
    refine lv_iconst (v := 2) hx hb dL_law_1147 (by decide) ?_
    refine lv_iadd hx hb dL_law_1148 ?_
    refine lv_topi (fun x194 ex194 => ?_)
    obtain ⟨tx194, ejx194, evx194⟩ := lw_ix (k := 2) ex194 hI hL rfl (by decide)
    clear tx194
    refine va_sld hx hb hX hbl (Nat.not_le.mpr hbl) hSH157 (vp_in_iff.mpr evx194) dL_law_1149 ?_
    refine W.eq (g2 := F0 m 1150 ls [.int (xs (i.toNatClampNeg + 2)), .int (xs (i.toNatClampNeg + 1)), .ref b, .int x158]) (congrArg (fun z => F0 m 1150 ls [.int (xs z), .int (xs (i.toNatClampNeg + 1)), .ref b, .int x158]) ejx194) ?_
    refine lv_aload_n hx hb dL_law_1150 rfl (lv_at hl 3 rfl) ?_
    refine lv_iload_n hx hb dL_law_1151 rfl (lv_at hl 0 rfl) ?_
    refine lv_iconst (v := 3) hx hb dL_law_1152 (by decide) ?_
    refine lv_iadd hx hb dL_law_1153 ?_
    refine lv_topi (fun x195 ex195 => ?_)
    obtain ⟨tx195, ejx195, evx195⟩ := lw_ix (k := 3) ex195 hI hL rfl (by decide)
    clear tx195
    refine va_sld hx hb hX hbl (Nat.not_le.mpr hbl) hSH157 (vp_in_iff.mpr evx195) dL_law_1154 ?_
    refine W.eq (g2 := F0 m 1155 ls [.int (xs (i.toNatClampNeg + 3)), .int (xs (i.toNatClampNeg + 2)), .int (xs (i.toNatClampNeg + 1)), .ref b, .int x158]) (congrArg (fun z => F0 m 1155 ls [.int (xs z), .int (xs (i.toNatClampNeg + 2)), .int (xs (i.toNatClampNeg + 1)), .ref b, .int x158]) ejx195) ?_
    refine x_V (As := [.int (xs (i.toNatClampNeg + 1)), .int (xs (i.toNatClampNeg + 2)), .int (xs (i.toNatClampNeg + 3))]) (rest := [.int x158]) C (a_X10_tube_r l K G H157 ((xs (i.toNatClampNeg + 1))) ((xs (i.toNatClampNeg + 2))) ((xs (i.toNatClampNeg + 3))) (y1) hTH157 gb m167 g159 g160 g161 g162) yo_X10_tube wM_L_120 ⟨⟨by decide, by decide⟩, show _ ≤ 284929 from Nat.le_trans hc (by decide), show _ ≤ 8247460 from Nat.le_trans hs (by decide)⟩ (x_rv C hTH157 (ci := 10) rfl gb rg_112) rfl hl.1 rfl (Nat.le_of_ble_eq_true rfl) dL_law_1155 hSH157 (AE_new hN hSH157.1) (fun vH196 H196 locsH196 pH196 zH196 kH196 hSH196 => ?_)
    obtain ⟨x197, hvH196, bx197, hrH196, g198, g199, g200, g201, mf202, hTH196⟩ := pH196
    subst hvH196
    have m203 := (m163).trans (fR_kept (x_lt hTH157 kH196 ga (by decide))).symm
    have m204 := (m164).trans (fI_kept (x_lt hTH157 kH196 ga (by decide))).symm
    have m205 := (m166).trans (fI_kept (x_lt hTH157 kH196 gw (by decide))).symm
    have m206 := (m168).trans (fI_kept (x_lt hTH157 kH196 gw (by decide))).symm
    have m207 := (m170).trans (fI_kept (x_lt hTH157 kH196 gw (by decide))).symm
    have m208 := (m172).trans (fI_kept (x_lt hTH157 kH196 gw (by decide))).symm
    have m209 := (m174).trans (fI_kept (x_lt hTH157 kH196 gw (by decide))).symm
    have m210 := (m176).trans (fI_kept (x_lt hTH157 kH196 gw (by decide))).symm
    have m211 := (fV_kept (x_lt hTH157 kH196 ga (by decide))).trans m179
    have m212 := (m181).trans (fI_kept (x_lt hTH157 kH196 gkq (by decide))).symm
    have m213 := (m182).trans (fI_kept (x_lt hTH157 kH196 giq (by decide))).symm
    have m214 := (m183).trans (fI_kept (x_lt hTH157 kH196 gkq (by decide))).symm
    have m215 := (m184).trans (fI_kept (x_lt hTH157 kH196 giq (by decide))).symm
    have m216 := (m185).trans (fI_kept (x_lt hTH157 kH196 gkq (by decide))).symm
    have m217 := (m186).trans (fI_kept (x_lt hTH157 kH196 giq (by decide))).symm
    have m218 := (m187).trans (fI_kept (x_lt hTH157 kH196 gkq (by decide))).symm
    have m219 := (m188).trans (fI_kept (x_lt hTH157 kH196 giq (by decide))).symm
    have m220 := (m189).trans (fI_kept (x_lt hTH157 kH196 gkq (by decide))).symm
    have m221 := (m190).trans (fI_kept (x_lt hTH157 kH196 giq (by decide))).symm
    have m222 := (m191).trans (fI_kept (x_lt hTH157 kH196 gkq (by decide))).symm
    have m223 := (m192).trans (fI_kept (x_lt hTH157 kH196 giq (by decide))).symm
    have m224 := (m165).trans (MF.i mf202 (k := 18) (by decide) (by decide)).symm
    have m225 := (m167).trans (MF.i mf202 (k := 1) (by decide) (by decide)).symm
    have m226 := (m169).trans (MF.i mf202 (k := 2) (by decide) (by decide)).symm
    have m227 := (m171).trans (MF.i mf202 (k := 3) (by decide) (by decide)).symm
    have m228 := (m173).trans (MF.i mf202 (k := 59) (by decide) (by decide)).symm
    have m229 := (m175).trans (MF.i mf202 (k := 62) (by decide) (by decide)).symm
    have m230 := (m177).trans (MF.i mf202 (k := 65) (by decide) (by decide)).symm
    have m231 := (m178).trans (MF.i mf202 (k := 70) (by decide) (by decide)).symm
    have m232 := (m180).trans (MF.r mf202 (k := 73) (by decide) (by decide)).symm
    refine W.eq (g2 := F0 m 1158 ls [.int x197, .int x158]) rfl ?_
    refine lv_icmp_eq (tgt := 1509) hx hb dL_law_1158 (by decide) (fun ce => ?_) (fun ce => ?_)
    · skip
      exact nx G H196 locsH196 _ _ ls ⟨hTH196, hN, ga, gb, g198, g199, g200, g201, ⟨(by rw [← m204, ← m224]; exact rt), (by rw [← m203, ← m205, ← m225]; exact r1), (by rw [← m203, ← m206, ← m226]; exact r4), (by rw [← m203, ← m207, ← m227]; exact r5), (by rw [← m203, ← m208, ← m228]; exact r10), (by rw [← m203, ← m209, ← m229]; exact r13), (by rw [← m203, ← m210, ← m230]; exact r16)⟩, Or.inr ⟨kq, m211, gkq, (by rw [← m231]; exact h70), (by rw [← m212, ← m232, ← m213]; exact q1), (by rw [← m214, ← m232, ← m215]; exact q4), (by rw [← m216, ← m232, ← m217]; exact q5), (by rw [← m218, ← m232, ← m219]; exact q10), (by rw [← m220, ← m232, ← m221]; exact q13), (by rw [← m222, ← m232, ← m223]; exact q16)⟩, hSH196⟩ hl ⟨hc, hs, fun h => by have h1 := h.symm.trans m211; cases h1⟩
    · exfalso
      have := i_ne ce
      omega
set_option maxRecDepth 100000 in
set_option maxHeartbeats 1000000 in
theorem lw_c25 {p : Program} {l : Launch} {e : Env} {s : State} {m : MethodId} {below : List Frame} {meth : Method} {c : Code} {K : KE} {b0 L : Nat} {xs : Nat → Int32} {G : Nat → Option Nat} {H : Heap} {locs : List Loc} {a b : Nat} {cells slots : Nat} {ls : Array Slot} {i : Int32} {n : Nat} (D : LC p K s m meth c b0 L xs) (S : SX K s G H locs a b) (hl : lv_has ls 4 [(3, .int i), (2, .ref b), (1, .ref a), (0, .ref b0)]) (hi : 0 ≤ i.toInt ∧ i.toInt + 6 ≤ L) (hn : n ≤ 511) (hB : BD K H a cells slots) (nx : ∀ (G : Nat → Option Nat) (H : Heap) (locs : List Loc) (cells slots : Nat) (ls : Array Slot), SX K s G H locs a b → lv_has ls 4 [(3, .int i), (2, .ref b), (1, .ref a), (0, .ref b0)] → BD K H a cells slots → W p l e room_1 s m #[Value.ref b0] below meth c H locs cells slots (lw_Z below #[Value.ref b0] s) (F0 m 1509 ls [])) : W p l e room_1 s m #[Value.ref b0] below meth c H locs cells slots (lw_Z below #[Value.ref b0] s) (F0 m 1163 ls []) := by
  have hI := hi
  obtain ⟨C, hX, hbl, hL⟩ := id D
  obtain ⟨hx, hb, hml, hown, hts, hKT, hr, hlocks, hnm⟩ := id C
  obtain ⟨hT, hN, ga, gb, cg, tu, wd, im, ⟨rt, r1, r4, r5, r10, r13, r16⟩, hk, hS⟩ := S
  obtain ⟨hc, hs, hB0⟩ := hB
  have n_1 : (1 : Int32).toInt = 1 := rfl
  have n_2 : (2 : Int32).toInt = 2 := rfl
  have n_3 : (3 : Int32).toInt = 3 := rfl
  have n_4 : (4 : Int32).toInt = 4 := rfl
  obtain ⟨w, ew⟩ : ∃ z : Nat, z = fR H a (K.1.2 9 0) := ⟨_, rfl⟩
  have gw := ty_fr (q := w) (k := 0) (u := 0) ew hT ga rg_68 rfl
  rw [← ew] at r1 r4 r5 r10 r13 r16
  obtain ⟨ta, eta⟩ : ∃ z : Int32, z = fI H a (K.1.2 9 3) := ⟨_, rfl⟩
  rw [← eta] at rt
  obtain ⟨tb, etb⟩ : ∃ z : Int32, z = fI H b (K.1.2 10 18) := ⟨_, rfl⟩
  rw [← etb] at rt
  obtain ⟨s1, es1⟩ : ∃ z : Int32, z = fI H w (K.1.2 8 1) := ⟨_, rfl⟩
  rw [← es1] at r1
  obtain ⟨y1, ey1⟩ : ∃ z : Int32, z = fI H b (K.1.2 10 1) := ⟨_, rfl⟩
  rw [← ey1] at r1
  obtain ⟨s4, es4⟩ : ∃ z : Int32, z = fI H w (K.1.2 8 4) := ⟨_, rfl⟩
  rw [← es4] at r4
  obtain ⟨y4, ey4⟩ : ∃ z : Int32, z = fI H b (K.1.2 10 2) := ⟨_, rfl⟩
  rw [← ey4] at r4
  obtain ⟨s5, es5⟩ : ∃ z : Int32, z = fI H w (K.1.2 8 5) := ⟨_, rfl⟩
  rw [← es5] at r5
  obtain ⟨y5, ey5⟩ : ∃ z : Int32, z = fI H b (K.1.2 10 3) := ⟨_, rfl⟩
  rw [← ey5] at r5
  obtain ⟨s10, es10⟩ : ∃ z : Int32, z = fI H w (K.1.2 8 10) := ⟨_, rfl⟩
  rw [← es10] at r10
  obtain ⟨y10, ey10⟩ : ∃ z : Int32, z = fI H b (K.1.2 10 59) := ⟨_, rfl⟩
  rw [← ey10] at r10
  obtain ⟨s13, es13⟩ : ∃ z : Int32, z = fI H w (K.1.2 8 13) := ⟨_, rfl⟩
  rw [← es13] at r13
  obtain ⟨y13, ey13⟩ : ∃ z : Int32, z = fI H b (K.1.2 10 62) := ⟨_, rfl⟩
  rw [← ey13] at r13
  obtain ⟨s16, es16⟩ : ∃ z : Int32, z = fI H w (K.1.2 8 16) := ⟨_, rfl⟩
  rw [← es16] at r16
  obtain ⟨y16, ey16⟩ : ∃ z : Int32, z = fI H b (K.1.2 10 65) := ⟨_, rfl⟩
  rw [← ey16] at r16
  rcases hk with ⟨kn, h70⟩ | ⟨kq, kn, gkq, h70, q1, q4, q5, q10, q13, q16⟩
  · skip
    obtain ⟨hi, ehi⟩ : ∃ z : Int32, z = fI H b (K.1.2 10 70) := ⟨_, rfl⟩
    rw [← ehi] at h70
    obtain ⟨hc0, hs0⟩ := hB0 kn
    refine lv_aload_n hx hb dL_law_1163 rfl (lv_at hl 2 rfl) ?_
    refine lv_aload_n hx hb dL_law_1164 rfl (lv_at hl 3 rfl) ?_
    refine lv_iload_n hx hb dL_law_1165 rfl (lv_at hl 0 rfl) ?_
    refine lv_iconst (v := 1) hx hb dL_law_1166 (by decide) ?_
    refine lv_iadd hx hb dL_law_1167 ?_
    refine lv_topi (fun x101 ex101 => ?_)
    obtain ⟨tx101, ejx101, evx101⟩ := lw_ix (k := 1) ex101 hI hL rfl (by decide)
    clear tx101
    refine va_sld hx hb hX hbl (Nat.not_le.mpr hbl) hS (vp_in_iff.mpr evx101) dL_law_1168 ?_
    refine W.eq (g2 := F0 m 1169 ls [.int (xs (i.toNatClampNeg + 1)), .ref a]) (congrArg (fun z => F0 m 1169 ls [.int (xs z), .ref a]) ejx101) ?_
    refine lv_aload_n hx hb dL_law_1169 rfl (lv_at hl 3 rfl) ?_
    refine lv_iload_n hx hb dL_law_1170 rfl (lv_at hl 0 rfl) ?_
    refine lv_iconst (v := 2) hx hb dL_law_1171 (by decide) ?_
    refine lv_iadd hx hb dL_law_1172 ?_
    refine lv_topi (fun x102 ex102 => ?_)
    obtain ⟨tx102, ejx102, evx102⟩ := lw_ix (k := 2) ex102 hI hL rfl (by decide)
    clear tx102
    refine va_sld hx hb hX hbl (Nat.not_le.mpr hbl) hS (vp_in_iff.mpr evx102) dL_law_1173 ?_
    refine W.eq (g2 := F0 m 1174 ls [.int (xs (i.toNatClampNeg + 2)), .int (xs (i.toNatClampNeg + 1)), .ref a]) (congrArg (fun z => F0 m 1174 ls [.int (xs z), .int (xs (i.toNatClampNeg + 1)), .ref a]) ejx102) ?_
    refine lv_aload_n hx hb dL_law_1174 rfl (lv_at hl 3 rfl) ?_
    refine lv_iload_n hx hb dL_law_1175 rfl (lv_at hl 0 rfl) ?_
    refine lv_iconst (v := 3) hx hb dL_law_1176 (by decide) ?_
    refine lv_iadd hx hb dL_law_1177 ?_
    refine lv_topi (fun x103 ex103 => ?_)
    obtain ⟨tx103, ejx103, evx103⟩ := lw_ix (k := 3) ex103 hI hL rfl (by decide)
    clear tx103
    refine va_sld hx hb hX hbl (Nat.not_le.mpr hbl) hS (vp_in_iff.mpr evx103) dL_law_1178 ?_
    refine W.eq (g2 := F0 m 1179 ls [.int (xs (i.toNatClampNeg + 3)), .int (xs (i.toNatClampNeg + 2)), .int (xs (i.toNatClampNeg + 1)), .ref a]) (congrArg (fun z => F0 m 1179 ls [.int (xs z), .int (xs (i.toNatClampNeg + 2)), .int (xs (i.toNatClampNeg + 1)), .ref a]) ejx103) ?_
    refine lv_aload_n hx hb dL_law_1179 rfl (lv_at hl 3 rfl) ?_
    refine lv_iload_n hx hb dL_law_1180 rfl (lv_at hl 0 rfl) ?_
    refine lv_iconst (v := 4) hx hb dL_law_1181 (by decide) ?_
    refine lv_iadd hx hb dL_law_1182 ?_
    refine lv_topi (fun x104 ex104 => ?_)
    obtain ⟨tx104, ejx104, evx104⟩ := lw_ix (k := 4) ex104 hI hL rfl (by decide)
    clear tx104
    refine va_sld hx hb hX hbl (Nat.not_le.mpr hbl) hS (vp_in_iff.mpr evx104) dL_law_1183 ?_
    refine W.eq (g2 := F0 m 1184 ls [.int (xs (i.toNatClampNeg + 4)), .int (xs (i.toNatClampNeg + 3)), .int (xs (i.toNatClampNeg + 2)), .int (xs (i.toNatClampNeg + 1)), .ref a]) (congrArg (fun z => F0 m 1184 ls [.int (xs z), .int (xs (i.toNatClampNeg + 3)), .int (xs (i.toNatClampNeg + 2)), .int (xs (i.toNatClampNeg + 1)), .ref a]) ejx104) ?_
    refine x_V (As := [.int (xs (i.toNatClampNeg + 1)), .int (xs (i.toNatClampNeg + 2)), .int (xs (i.toNatClampNeg + 3)), .int (xs (i.toNatClampNeg + 4))]) (rest := []) C (a_X9_in l K G H ((xs (i.toNatClampNeg + 1))) ((xs (i.toNatClampNeg + 2))) ((xs (i.toNatClampNeg + 3))) ((xs (i.toNatClampNeg + 4))) hT ga) yo_X9_in wM_L_121 ⟨⟨by decide, by decide⟩, show _ ≤ 284929 from Nat.le_trans hc (by decide), show _ ≤ 8247460 from Nat.le_trans hs (by decide)⟩ (x_rv C hT (ci := 9) rfl ga rg_68) rfl hl.1 rfl (Nat.le_of_ble_eq_true rfl) dL_law_1184 hS (AE_new hN hS.1) (fun vH105 H105 locsH105 pH105 zH105 kH105 hSH105 => ?_)
    obtain ⟨x106, hvH105, hTH105⟩ := pH105
    subst hvH105
    have g107 : CG (avw K H105 b) := CG.congr (fun k hk j => av_eff hT kH105 gb (by decide) (CG_eff [83, 84] (by decide) k hk)) cg
    have g108 : TU (avw K H105 b) (svw K H105 b) := TU.congr (fun k hk j => av_eff hT kH105 gb (by decide) (TU_eff [83, 84] (by decide) k hk)) (fun k hk => sv_eff hT kH105 gb (by decide)) tu
    have g109 : WD (avw K H105 b) := WD.congr (fun k hk j => av_eff hT kH105 gb (by decide) (WD_eff [83, 84] (by decide) k hk)) wd
    have g110 : IM (avw K H105 b) := IM.congr (fun k hk j => av_eff hT kH105 gb (by decide) (IM_eff [83, 84] (by decide) k hk)) im
    have m111 := (ew).trans (fR_kept (x_lt hT kH105 ga (by decide))).symm
    have m112 := (eta).trans (fI_kept (x_lt hT kH105 ga (by decide))).symm
    have m113 := (etb).trans (fI_kept (x_lt hT kH105 gb (by decide))).symm
    have m114 := (es1).trans (fI_kept (x_lt hT kH105 gw (by decide))).symm
    have m115 := (ey1).trans (fI_kept (x_lt hT kH105 gb (by decide))).symm
    have m116 := (es4).trans (fI_kept (x_lt hT kH105 gw (by decide))).symm
    have m117 := (ey4).trans (fI_kept (x_lt hT kH105 gb (by decide))).symm
    have m118 := (es5).trans (fI_kept (x_lt hT kH105 gw (by decide))).symm
    have m119 := (ey5).trans (fI_kept (x_lt hT kH105 gb (by decide))).symm
    have m120 := (es10).trans (fI_kept (x_lt hT kH105 gw (by decide))).symm
    have m121 := (ey10).trans (fI_kept (x_lt hT kH105 gb (by decide))).symm
    have m122 := (es13).trans (fI_kept (x_lt hT kH105 gw (by decide))).symm
    have m123 := (ey13).trans (fI_kept (x_lt hT kH105 gb (by decide))).symm
    have m124 := (es16).trans (fI_kept (x_lt hT kH105 gw (by decide))).symm
    have m125 := (ey16).trans (fI_kept (x_lt hT kH105 gb (by decide))).symm
    have m126 := (ehi).trans (fI_kept (x_lt hT kH105 gb (by decide))).symm
    have m127 := (fV_kept (x_lt hT kH105 ga (by decide))).trans kn
    refine W.eq (g2 := F0 m 1187 ls [.int x106]) rfl ?_
    refine lv_pop hx hb dL_law_1187 rfl ?_
    refine lv_aload_n hx hb dL_law_1188 rfl (lv_at hl 1 rfl) ?_
    refine lv_aload_n hx hb dL_law_1189 rfl (lv_at hl 3 rfl) ?_
    refine lv_iload_n hx hb dL_law_1190 rfl (lv_at hl 0 rfl) ?_
    refine lv_iconst (v := 1) hx hb dL_law_1191 (by decide) ?_
    refine lv_iadd hx hb dL_law_1192 ?_
    refine lv_topi (fun x128 ex128 => ?_)
    obtain ⟨tx128, ejx128, evx128⟩ := lw_ix (k := 1) ex128 hI hL rfl (by decide)
    clear tx128
    refine va_sld hx hb hX hbl (Nat.not_le.mpr hbl) hSH105 (vp_in_iff.mpr evx128) dL_law_1193 ?_
    refine W.eq (g2 := F0 m 1194 ls [.int (xs (i.toNatClampNeg + 1)), .ref b]) (congrArg (fun z => F0 m 1194 ls [.int (xs z), .ref b]) ejx128) ?_
    refine lv_aload_n hx hb dL_law_1194 rfl (lv_at hl 3 rfl) ?_
    refine lv_iload_n hx hb dL_law_1195 rfl (lv_at hl 0 rfl) ?_
    refine lv_iconst (v := 2) hx hb dL_law_1196 (by decide) ?_
    refine lv_iadd hx hb dL_law_1197 ?_
    refine lv_topi (fun x129 ex129 => ?_)
    obtain ⟨tx129, ejx129, evx129⟩ := lw_ix (k := 2) ex129 hI hL rfl (by decide)
    clear tx129
    refine va_sld hx hb hX hbl (Nat.not_le.mpr hbl) hSH105 (vp_in_iff.mpr evx129) dL_law_1198 ?_
    refine W.eq (g2 := F0 m 1199 ls [.int (xs (i.toNatClampNeg + 2)), .int (xs (i.toNatClampNeg + 1)), .ref b]) (congrArg (fun z => F0 m 1199 ls [.int (xs z), .int (xs (i.toNatClampNeg + 1)), .ref b]) ejx129) ?_
    refine lv_aload_n hx hb dL_law_1199 rfl (lv_at hl 3 rfl) ?_
    refine lv_iload_n hx hb dL_law_1200 rfl (lv_at hl 0 rfl) ?_
    refine lv_iconst (v := 3) hx hb dL_law_1201 (by decide) ?_
    refine lv_iadd hx hb dL_law_1202 ?_
    refine lv_topi (fun x130 ex130 => ?_)
    obtain ⟨tx130, ejx130, evx130⟩ := lw_ix (k := 3) ex130 hI hL rfl (by decide)
    clear tx130
    refine va_sld hx hb hX hbl (Nat.not_le.mpr hbl) hSH105 (vp_in_iff.mpr evx130) dL_law_1203 ?_
    refine W.eq (g2 := F0 m 1204 ls [.int (xs (i.toNatClampNeg + 3)), .int (xs (i.toNatClampNeg + 2)), .int (xs (i.toNatClampNeg + 1)), .ref b]) (congrArg (fun z => F0 m 1204 ls [.int (xs z), .int (xs (i.toNatClampNeg + 2)), .int (xs (i.toNatClampNeg + 1)), .ref b]) ejx130) ?_
    refine lv_aload_n hx hb dL_law_1204 rfl (lv_at hl 3 rfl) ?_
    refine lv_iload_n hx hb dL_law_1205 rfl (lv_at hl 0 rfl) ?_
    refine lv_iconst (v := 4) hx hb dL_law_1206 (by decide) ?_
    refine lv_iadd hx hb dL_law_1207 ?_
    refine lv_topi (fun x131 ex131 => ?_)
    obtain ⟨tx131, ejx131, evx131⟩ := lw_ix (k := 4) ex131 hI hL rfl (by decide)
    clear tx131
    refine va_sld hx hb hX hbl (Nat.not_le.mpr hbl) hSH105 (vp_in_iff.mpr evx131) dL_law_1208 ?_
    refine W.eq (g2 := F0 m 1209 ls [.int (xs (i.toNatClampNeg + 4)), .int (xs (i.toNatClampNeg + 3)), .int (xs (i.toNatClampNeg + 2)), .int (xs (i.toNatClampNeg + 1)), .ref b]) (congrArg (fun z => F0 m 1209 ls [.int (xs z), .int (xs (i.toNatClampNeg + 3)), .int (xs (i.toNatClampNeg + 2)), .int (xs (i.toNatClampNeg + 1)), .ref b]) ejx131) ?_
    refine x_V (As := [.int (xs (i.toNatClampNeg + 1)), .int (xs (i.toNatClampNeg + 2)), .int (xs (i.toNatClampNeg + 3)), .int (xs (i.toNatClampNeg + 4))]) (rest := []) C (a_X10_in l K G H105 ((xs (i.toNatClampNeg + 1))) ((xs (i.toNatClampNeg + 2))) ((xs (i.toNatClampNeg + 3))) ((xs (i.toNatClampNeg + 4))) (y1) hTH105 gb m115 g107 g108 g109 g110) yo_X10_in wM_L_124 ⟨⟨by decide, by decide⟩, show _ ≤ 284929 from Nat.le_trans hc (by decide), show _ ≤ 8247460 from Nat.le_trans hs (by decide)⟩ (x_rv C hTH105 (ci := 10) rfl gb rg_112) rfl hl.1 rfl (Nat.le_of_ble_eq_true rfl) dL_law_1209 hSH105 (AE_new hN hSH105.1) (fun vH132 H132 locsH132 pH132 zH132 kH132 hSH132 => ?_)
    obtain ⟨x133, hvH132, g134, g135, g136, g137, mf138, hTH132⟩ := pH132
    subst hvH132
    have m139 := (m111).trans (fR_kept (x_lt hTH105 kH132 ga (by decide))).symm
    have m140 := (m112).trans (fI_kept (x_lt hTH105 kH132 ga (by decide))).symm
    have m141 := (m114).trans (fI_kept (x_lt hTH105 kH132 gw (by decide))).symm
    have m142 := (m116).trans (fI_kept (x_lt hTH105 kH132 gw (by decide))).symm
    have m143 := (m118).trans (fI_kept (x_lt hTH105 kH132 gw (by decide))).symm
    have m144 := (m120).trans (fI_kept (x_lt hTH105 kH132 gw (by decide))).symm
    have m145 := (m122).trans (fI_kept (x_lt hTH105 kH132 gw (by decide))).symm
    have m146 := (m124).trans (fI_kept (x_lt hTH105 kH132 gw (by decide))).symm
    have m147 := (fV_kept (x_lt hTH105 kH132 ga (by decide))).trans m127
    have m148 := (m113).trans (MF.i mf138 (k := 18) (by decide) (by decide)).symm
    have m149 := (m115).trans (MF.i mf138 (k := 1) (by decide) (by decide)).symm
    have m150 := (m117).trans (MF.i mf138 (k := 2) (by decide) (by decide)).symm
    have m151 := (m119).trans (MF.i mf138 (k := 3) (by decide) (by decide)).symm
    have m152 := (m121).trans (MF.i mf138 (k := 59) (by decide) (by decide)).symm
    have m153 := (m123).trans (MF.i mf138 (k := 62) (by decide) (by decide)).symm
    have m154 := (m125).trans (MF.i mf138 (k := 65) (by decide) (by decide)).symm
    have m155 := (m126).trans (MF.i mf138 (k := 70) (by decide) (by decide)).symm
    refine W.eq (g2 := F0 m 1212 ls [.int x133]) rfl ?_
    refine lv_pop hx hb dL_law_1212 rfl ?_
    refine lv_goto (tgt := 1509) hx hb dL_law_1213 (by decide) ?_
    exact nx G H132 locsH132 _ _ ls ⟨hTH132, hN, ga, gb, g134, g135, g136, g137, ⟨(by rw [← m140, ← m148]; exact rt), (by rw [← m139, ← m141, ← m149]; exact r1), (by rw [← m139, ← m142, ← m150]; exact r4), (by rw [← m139, ← m143, ← m151]; exact r5), (by rw [← m139, ← m144, ← m152]; exact r10), (by rw [← m139, ← m145, ← m153]; exact r13), (by rw [← m139, ← m146, ← m154]; exact r16)⟩, Or.inl ⟨m147, (by rw [← m155]; exact h70)⟩, hSH132⟩ hl ⟨hc, hs, fun _ => ⟨hc0, hs0⟩⟩
  · skip
    obtain ⟨hi, ehi⟩ : ∃ z : Int32, z = fI H b (K.1.2 10 70) := ⟨_, rfl⟩
    rw [← ehi] at h70
    obtain ⟨iq, eiq⟩ : ∃ z : Nat, z = fR H b (K.1.2 10 73) := ⟨_, rfl⟩
    have giq := ty_fr (q := iq) (k := 73) (u := 162) eiq hT gb rg_112 rfl
    rw [← eiq] at q1 q4 q5 q10 q13 q16
    obtain ⟨k1, ek1⟩ : ∃ z : Int32, z = fI H kq (K.1.2 8 1) := ⟨_, rfl⟩
    rw [← ek1] at q1
    obtain ⟨i1, ei1⟩ : ∃ z : Int32, z = fI H iq ((0 : Int32).toNatClampNeg) := ⟨_, rfl⟩
    rw [← ei1] at q1
    obtain ⟨k4, ek4⟩ : ∃ z : Int32, z = fI H kq (K.1.2 8 4) := ⟨_, rfl⟩
    rw [← ek4] at q4
    obtain ⟨i4, ei4⟩ : ∃ z : Int32, z = fI H iq ((1 : Int32).toNatClampNeg) := ⟨_, rfl⟩
    rw [← ei4] at q4
    obtain ⟨k5, ek5⟩ : ∃ z : Int32, z = fI H kq (K.1.2 8 5) := ⟨_, rfl⟩
    rw [← ek5] at q5
    obtain ⟨i5, ei5⟩ : ∃ z : Int32, z = fI H iq ((2 : Int32).toNatClampNeg) := ⟨_, rfl⟩
    rw [← ei5] at q5
    obtain ⟨k10, ek10⟩ : ∃ z : Int32, z = fI H kq (K.1.2 8 10) := ⟨_, rfl⟩
    rw [← ek10] at q10
    obtain ⟨i10, ei10⟩ : ∃ z : Int32, z = fI H iq ((3 : Int32).toNatClampNeg) := ⟨_, rfl⟩
    rw [← ei10] at q10
    obtain ⟨k13, ek13⟩ : ∃ z : Int32, z = fI H kq (K.1.2 8 13) := ⟨_, rfl⟩
    rw [← ek13] at q13
    obtain ⟨i13, ei13⟩ : ∃ z : Int32, z = fI H iq ((4 : Int32).toNatClampNeg) := ⟨_, rfl⟩
    rw [← ei13] at q13
    obtain ⟨k16, ek16⟩ : ∃ z : Int32, z = fI H kq (K.1.2 8 16) := ⟨_, rfl⟩
    rw [← ek16] at q16
    obtain ⟨i16, ei16⟩ : ∃ z : Int32, z = fI H iq ((5 : Int32).toNatClampNeg) := ⟨_, rfl⟩
    rw [← ei16] at q16
    refine lv_aload_n hx hb dL_law_1163 rfl (lv_at hl 2 rfl) ?_
    refine lv_aload_n hx hb dL_law_1164 rfl (lv_at hl 3 rfl) ?_
    refine lv_iload_n hx hb dL_law_1165 rfl (lv_at hl 0 rfl) ?_
    refine lv_iconst (v := 1) hx hb dL_law_1166 (by decide) ?_
    refine lv_iadd hx hb dL_law_1167 ?_
    refine lv_topi (fun x156 ex156 => ?_)
    obtain ⟨tx156, ejx156, evx156⟩ := lw_ix (k := 1) ex156 hI hL rfl (by decide)
    clear tx156
    refine va_sld hx hb hX hbl (Nat.not_le.mpr hbl) hS (vp_in_iff.mpr evx156) dL_law_1168 ?_
    refine W.eq (g2 := F0 m 1169 ls [.int (xs (i.toNatClampNeg + 1)), .ref a]) (congrArg (fun z => F0 m 1169 ls [.int (xs z), .ref a]) ejx156) ?_
    refine lv_aload_n hx hb dL_law_1169 rfl (lv_at hl 3 rfl) ?_
    refine lv_iload_n hx hb dL_law_1170 rfl (lv_at hl 0 rfl) ?_
    refine lv_iconst (v := 2) hx hb dL_law_1171 (by decide) ?_
    refine lv_iadd hx hb dL_law_1172 ?_
    refine lv_topi (fun x157 ex157 => ?_)
    obtain ⟨tx157, ejx157, evx157⟩ := lw_ix (k := 2) ex157 hI hL rfl (by decide)
    clear tx157
    refine va_sld hx hb hX hbl (Nat.not_le.mpr hbl) hS (vp_in_iff.mpr evx157) dL_law_1173 ?_
    refine W.eq (g2 := F0 m 1174 ls [.int (xs (i.toNatClampNeg + 2)), .int (xs (i.toNatClampNeg + 1)), .ref a]) (congrArg (fun z => F0 m 1174 ls [.int (xs z), .int (xs (i.toNatClampNeg + 1)), .ref a]) ejx157) ?_
    refine lv_aload_n hx hb dL_law_1174 rfl (lv_at hl 3 rfl) ?_
    refine lv_iload_n hx hb dL_law_1175 rfl (lv_at hl 0 rfl) ?_
    refine lv_iconst (v := 3) hx hb dL_law_1176 (by decide) ?_
    refine lv_iadd hx hb dL_law_1177 ?_
    refine lv_topi (fun x158 ex158 => ?_)
    obtain ⟨tx158, ejx158, evx158⟩ := lw_ix (k := 3) ex158 hI hL rfl (by decide)
    clear tx158
    refine va_sld hx hb hX hbl (Nat.not_le.mpr hbl) hS (vp_in_iff.mpr evx158) dL_law_1178 ?_
    refine W.eq (g2 := F0 m 1179 ls [.int (xs (i.toNatClampNeg + 3)), .int (xs (i.toNatClampNeg + 2)), .int (xs (i.toNatClampNeg + 1)), .ref a]) (congrArg (fun z => F0 m 1179 ls [.int (xs z), .int (xs (i.toNatClampNeg + 2)), .int (xs (i.toNatClampNeg + 1)), .ref a]) ejx158) ?_
    refine lv_aload_n hx hb dL_law_1179 rfl (lv_at hl 3 rfl) ?_
    refine lv_iload_n hx hb dL_law_1180 rfl (lv_at hl 0 rfl) ?_
    refine lv_iconst (v := 4) hx hb dL_law_1181 (by decide) ?_
    refine lv_iadd hx hb dL_law_1182 ?_
    refine lv_topi (fun x159 ex159 => ?_)
    obtain ⟨tx159, ejx159, evx159⟩ := lw_ix (k := 4) ex159 hI hL rfl (by decide)
    clear tx159
    refine va_sld hx hb hX hbl (Nat.not_le.mpr hbl) hS (vp_in_iff.mpr evx159) dL_law_1183 ?_
    refine W.eq (g2 := F0 m 1184 ls [.int (xs (i.toNatClampNeg + 4)), .int (xs (i.toNatClampNeg + 3)), .int (xs (i.toNatClampNeg + 2)), .int (xs (i.toNatClampNeg + 1)), .ref a]) (congrArg (fun z => F0 m 1184 ls [.int (xs z), .int (xs (i.toNatClampNeg + 3)), .int (xs (i.toNatClampNeg + 2)), .int (xs (i.toNatClampNeg + 1)), .ref a]) ejx159) ?_
    refine x_V (As := [.int (xs (i.toNatClampNeg + 1)), .int (xs (i.toNatClampNeg + 2)), .int (xs (i.toNatClampNeg + 3)), .int (xs (i.toNatClampNeg + 4))]) (rest := []) C (a_X9_in l K G H ((xs (i.toNatClampNeg + 1))) ((xs (i.toNatClampNeg + 2))) ((xs (i.toNatClampNeg + 3))) ((xs (i.toNatClampNeg + 4))) hT ga) yo_X9_in wM_L_121 ⟨⟨by decide, by decide⟩, show _ ≤ 284929 from Nat.le_trans hc (by decide), show _ ≤ 8247460 from Nat.le_trans hs (by decide)⟩ (x_rv C hT (ci := 9) rfl ga rg_68) rfl hl.1 rfl (Nat.le_of_ble_eq_true rfl) dL_law_1184 hS (AE_new hN hS.1) (fun vH160 H160 locsH160 pH160 zH160 kH160 hSH160 => ?_)
    obtain ⟨x161, hvH160, hTH160⟩ := pH160
    subst hvH160
    have g162 : CG (avw K H160 b) := CG.congr (fun k hk j => av_eff hT kH160 gb (by decide) (CG_eff [83, 84] (by decide) k hk)) cg
    have g163 : TU (avw K H160 b) (svw K H160 b) := TU.congr (fun k hk j => av_eff hT kH160 gb (by decide) (TU_eff [83, 84] (by decide) k hk)) (fun k hk => sv_eff hT kH160 gb (by decide)) tu
    have g164 : WD (avw K H160 b) := WD.congr (fun k hk j => av_eff hT kH160 gb (by decide) (WD_eff [83, 84] (by decide) k hk)) wd
    have g165 : IM (avw K H160 b) := IM.congr (fun k hk j => av_eff hT kH160 gb (by decide) (IM_eff [83, 84] (by decide) k hk)) im
    have m166 := (ew).trans (fR_kept (x_lt hT kH160 ga (by decide))).symm
    have m167 := (eta).trans (fI_kept (x_lt hT kH160 ga (by decide))).symm
    have m168 := (etb).trans (fI_kept (x_lt hT kH160 gb (by decide))).symm
    have m169 := (es1).trans (fI_kept (x_lt hT kH160 gw (by decide))).symm
    have m170 := (ey1).trans (fI_kept (x_lt hT kH160 gb (by decide))).symm
    have m171 := (es4).trans (fI_kept (x_lt hT kH160 gw (by decide))).symm
    have m172 := (ey4).trans (fI_kept (x_lt hT kH160 gb (by decide))).symm
    have m173 := (es5).trans (fI_kept (x_lt hT kH160 gw (by decide))).symm
    have m174 := (ey5).trans (fI_kept (x_lt hT kH160 gb (by decide))).symm
    have m175 := (es10).trans (fI_kept (x_lt hT kH160 gw (by decide))).symm
    have m176 := (ey10).trans (fI_kept (x_lt hT kH160 gb (by decide))).symm
    have m177 := (es13).trans (fI_kept (x_lt hT kH160 gw (by decide))).symm
    have m178 := (ey13).trans (fI_kept (x_lt hT kH160 gb (by decide))).symm
    have m179 := (es16).trans (fI_kept (x_lt hT kH160 gw (by decide))).symm
    have m180 := (ey16).trans (fI_kept (x_lt hT kH160 gb (by decide))).symm
    have m181 := (ehi).trans (fI_kept (x_lt hT kH160 gb (by decide))).symm
    have m182 := (fV_kept (x_lt hT kH160 ga (by decide))).trans kn
    have m183 := (eiq).trans (fR_kept (x_lt hT kH160 gb (by decide))).symm
    have m184 := (ek1).trans (fI_kept (x_lt hT kH160 gkq (by decide))).symm
    have m185 := (ei1).trans (fI_kept (x_lt hT kH160 giq (by decide))).symm
    have m186 := (ek4).trans (fI_kept (x_lt hT kH160 gkq (by decide))).symm
    have m187 := (ei4).trans (fI_kept (x_lt hT kH160 giq (by decide))).symm
    have m188 := (ek5).trans (fI_kept (x_lt hT kH160 gkq (by decide))).symm
    have m189 := (ei5).trans (fI_kept (x_lt hT kH160 giq (by decide))).symm
    have m190 := (ek10).trans (fI_kept (x_lt hT kH160 gkq (by decide))).symm
    have m191 := (ei10).trans (fI_kept (x_lt hT kH160 giq (by decide))).symm
    have m192 := (ek13).trans (fI_kept (x_lt hT kH160 gkq (by decide))).symm
    have m193 := (ei13).trans (fI_kept (x_lt hT kH160 giq (by decide))).symm
    have m194 := (ek16).trans (fI_kept (x_lt hT kH160 gkq (by decide))).symm
    have m195 := (ei16).trans (fI_kept (x_lt hT kH160 giq (by decide))).symm
    refine W.eq (g2 := F0 m 1187 ls [.int x161]) rfl ?_
    refine lv_pop hx hb dL_law_1187 rfl ?_
    refine lv_aload_n hx hb dL_law_1188 rfl (lv_at hl 1 rfl) ?_
    refine lv_aload_n hx hb dL_law_1189 rfl (lv_at hl 3 rfl) ?_
    refine lv_iload_n hx hb dL_law_1190 rfl (lv_at hl 0 rfl) ?_
    refine lv_iconst (v := 1) hx hb dL_law_1191 (by decide) ?_
    refine lv_iadd hx hb dL_law_1192 ?_
    refine lv_topi (fun x196 ex196 => ?_)
    obtain ⟨tx196, ejx196, evx196⟩ := lw_ix (k := 1) ex196 hI hL rfl (by decide)
    clear tx196
    refine va_sld hx hb hX hbl (Nat.not_le.mpr hbl) hSH160 (vp_in_iff.mpr evx196) dL_law_1193 ?_
    refine W.eq (g2 := F0 m 1194 ls [.int (xs (i.toNatClampNeg + 1)), .ref b]) (congrArg (fun z => F0 m 1194 ls [.int (xs z), .ref b]) ejx196) ?_
    refine lv_aload_n hx hb dL_law_1194 rfl (lv_at hl 3 rfl) ?_
    refine lv_iload_n hx hb dL_law_1195 rfl (lv_at hl 0 rfl) ?_
    refine lv_iconst (v := 2) hx hb dL_law_1196 (by decide) ?_
    refine lv_iadd hx hb dL_law_1197 ?_
    refine lv_topi (fun x197 ex197 => ?_)
    obtain ⟨tx197, ejx197, evx197⟩ := lw_ix (k := 2) ex197 hI hL rfl (by decide)
    clear tx197
    refine va_sld hx hb hX hbl (Nat.not_le.mpr hbl) hSH160 (vp_in_iff.mpr evx197) dL_law_1198 ?_
    refine W.eq (g2 := F0 m 1199 ls [.int (xs (i.toNatClampNeg + 2)), .int (xs (i.toNatClampNeg + 1)), .ref b]) (congrArg (fun z => F0 m 1199 ls [.int (xs z), .int (xs (i.toNatClampNeg + 1)), .ref b]) ejx197) ?_
    refine lv_aload_n hx hb dL_law_1199 rfl (lv_at hl 3 rfl) ?_
    refine lv_iload_n hx hb dL_law_1200 rfl (lv_at hl 0 rfl) ?_
    refine lv_iconst (v := 3) hx hb dL_law_1201 (by decide) ?_
    refine lv_iadd hx hb dL_law_1202 ?_
    refine lv_topi (fun x198 ex198 => ?_)
    obtain ⟨tx198, ejx198, evx198⟩ := lw_ix (k := 3) ex198 hI hL rfl (by decide)
    clear tx198
    refine va_sld hx hb hX hbl (Nat.not_le.mpr hbl) hSH160 (vp_in_iff.mpr evx198) dL_law_1203 ?_
    refine W.eq (g2 := F0 m 1204 ls [.int (xs (i.toNatClampNeg + 3)), .int (xs (i.toNatClampNeg + 2)), .int (xs (i.toNatClampNeg + 1)), .ref b]) (congrArg (fun z => F0 m 1204 ls [.int (xs z), .int (xs (i.toNatClampNeg + 2)), .int (xs (i.toNatClampNeg + 1)), .ref b]) ejx198) ?_
    refine lv_aload_n hx hb dL_law_1204 rfl (lv_at hl 3 rfl) ?_
    refine lv_iload_n hx hb dL_law_1205 rfl (lv_at hl 0 rfl) ?_
    refine lv_iconst (v := 4) hx hb dL_law_1206 (by decide) ?_
    refine lv_iadd hx hb dL_law_1207 ?_
    refine lv_topi (fun x199 ex199 => ?_)
    obtain ⟨tx199, ejx199, evx199⟩ := lw_ix (k := 4) ex199 hI hL rfl (by decide)
    clear tx199
    refine va_sld hx hb hX hbl (Nat.not_le.mpr hbl) hSH160 (vp_in_iff.mpr evx199) dL_law_1208 ?_
    refine W.eq (g2 := F0 m 1209 ls [.int (xs (i.toNatClampNeg + 4)), .int (xs (i.toNatClampNeg + 3)), .int (xs (i.toNatClampNeg + 2)), .int (xs (i.toNatClampNeg + 1)), .ref b]) (congrArg (fun z => F0 m 1209 ls [.int (xs z), .int (xs (i.toNatClampNeg + 3)), .int (xs (i.toNatClampNeg + 2)), .int (xs (i.toNatClampNeg + 1)), .ref b]) ejx199) ?_
    refine x_V (As := [.int (xs (i.toNatClampNeg + 1)), .int (xs (i.toNatClampNeg + 2)), .int (xs (i.toNatClampNeg + 3)), .int (xs (i.toNatClampNeg + 4))]) (rest := []) C (a_X10_in l K G H160 ((xs (i.toNatClampNeg + 1))) ((xs (i.toNatClampNeg + 2))) ((xs (i.toNatClampNeg + 3))) ((xs (i.toNatClampNeg + 4))) (y1) hTH160 gb m170 g162 g163 g164 g165) yo_X10_in wM_L_124 ⟨⟨by decide, by decide⟩, show _ ≤ 284929 from Nat.le_trans hc (by decide), show _ ≤ 8247460 from Nat.le_trans hs (by decide)⟩ (x_rv C hTH160 (ci := 10) rfl gb rg_112) rfl hl.1 rfl (Nat.le_of_ble_eq_true rfl) dL_law_1209 hSH160 (AE_new hN hSH160.1) (fun vH200 H200 locsH200 pH200 zH200 kH200 hSH200 => ?_)
    obtain ⟨x201, hvH200, g202, g203, g204, g205, mf206, hTH200⟩ := pH200
    subst hvH200
    have m207 := (m166).trans (fR_kept (x_lt hTH160 kH200 ga (by decide))).symm
    have m208 := (m167).trans (fI_kept (x_lt hTH160 kH200 ga (by decide))).symm
    have m209 := (m169).trans (fI_kept (x_lt hTH160 kH200 gw (by decide))).symm
    have m210 := (m171).trans (fI_kept (x_lt hTH160 kH200 gw (by decide))).symm
    have m211 := (m173).trans (fI_kept (x_lt hTH160 kH200 gw (by decide))).symm
    have m212 := (m175).trans (fI_kept (x_lt hTH160 kH200 gw (by decide))).symm
    have m213 := (m177).trans (fI_kept (x_lt hTH160 kH200 gw (by decide))).symm
    have m214 := (m179).trans (fI_kept (x_lt hTH160 kH200 gw (by decide))).symm
    have m215 := (fV_kept (x_lt hTH160 kH200 ga (by decide))).trans m182
    have m216 := (m184).trans (fI_kept (x_lt hTH160 kH200 gkq (by decide))).symm
    have m217 := (m185).trans (fI_kept (x_lt hTH160 kH200 giq (by decide))).symm
    have m218 := (m186).trans (fI_kept (x_lt hTH160 kH200 gkq (by decide))).symm
    have m219 := (m187).trans (fI_kept (x_lt hTH160 kH200 giq (by decide))).symm
    have m220 := (m188).trans (fI_kept (x_lt hTH160 kH200 gkq (by decide))).symm
    have m221 := (m189).trans (fI_kept (x_lt hTH160 kH200 giq (by decide))).symm
    have m222 := (m190).trans (fI_kept (x_lt hTH160 kH200 gkq (by decide))).symm
    have m223 := (m191).trans (fI_kept (x_lt hTH160 kH200 giq (by decide))).symm
    have m224 := (m192).trans (fI_kept (x_lt hTH160 kH200 gkq (by decide))).symm
    have m225 := (m193).trans (fI_kept (x_lt hTH160 kH200 giq (by decide))).symm
    have m226 := (m194).trans (fI_kept (x_lt hTH160 kH200 gkq (by decide))).symm
    have m227 := (m195).trans (fI_kept (x_lt hTH160 kH200 giq (by decide))).symm
    have m228 := (m168).trans (MF.i mf206 (k := 18) (by decide) (by decide)).symm
    have m229 := (m170).trans (MF.i mf206 (k := 1) (by decide) (by decide)).symm
    have m230 := (m172).trans (MF.i mf206 (k := 2) (by decide) (by decide)).symm
    have m231 := (m174).trans (MF.i mf206 (k := 3) (by decide) (by decide)).symm
    have m232 := (m176).trans (MF.i mf206 (k := 59) (by decide) (by decide)).symm
    have m233 := (m178).trans (MF.i mf206 (k := 62) (by decide) (by decide)).symm
    have m234 := (m180).trans (MF.i mf206 (k := 65) (by decide) (by decide)).symm
    have m235 := (m181).trans (MF.i mf206 (k := 70) (by decide) (by decide)).symm
    have m236 := (m183).trans (MF.r mf206 (k := 73) (by decide) (by decide)).symm
    refine W.eq (g2 := F0 m 1212 ls [.int x201]) rfl ?_
    refine lv_pop hx hb dL_law_1212 rfl ?_
    refine lv_goto (tgt := 1509) hx hb dL_law_1213 (by decide) ?_
    exact nx G H200 locsH200 _ _ ls ⟨hTH200, hN, ga, gb, g202, g203, g204, g205, ⟨(by rw [← m208, ← m228]; exact rt), (by rw [← m207, ← m209, ← m229]; exact r1), (by rw [← m207, ← m210, ← m230]; exact r4), (by rw [← m207, ← m211, ← m231]; exact r5), (by rw [← m207, ← m212, ← m232]; exact r10), (by rw [← m207, ← m213, ← m233]; exact r13), (by rw [← m207, ← m214, ← m234]; exact r16)⟩, Or.inr ⟨kq, m215, gkq, (by rw [← m235]; exact h70), (by rw [← m216, ← m236, ← m217]; exact q1), (by rw [← m218, ← m236, ← m219]; exact q4), (by rw [← m220, ← m236, ← m221]; exact q5), (by rw [← m222, ← m236, ← m223]; exact q10), (by rw [← m224, ← m236, ← m225]; exact q13), (by rw [← m226, ← m236, ← m227]; exact q16)⟩, hSH200⟩ hl ⟨hc, hs, fun h => by have h1 := h.symm.trans m215; cases h1⟩
set_option maxRecDepth 100000 in
set_option maxHeartbeats 1000000 in
theorem lw_c26 {p : Program} {l : Launch} {e : Env} {s : State} {m : MethodId} {below : List Frame} {meth : Method} {c : Code} {K : KE} {b0 L : Nat} {xs : Nat → Int32} {G : Nat → Option Nat} {H : Heap} {locs : List Loc} {a b : Nat} {cells slots : Nat} {ls : Array Slot} {i : Int32} {n : Nat} (D : LC p K s m meth c b0 L xs) (S : SX K s G H locs a b) (hl : lv_has ls 4 [(3, .int i), (2, .ref b), (1, .ref a), (0, .ref b0)]) (hi : 0 ≤ i.toInt ∧ i.toInt + 6 ≤ L) (hn : n ≤ 511) (hB : BD K H a cells slots) (nx : ∀ (G : Nat → Option Nat) (H : Heap) (locs : List Loc) (cells slots : Nat) (ls : Array Slot), SX K s G H locs a b → lv_has ls 4 [(3, .int i), (2, .ref b), (1, .ref a), (0, .ref b0)] → BD K H a cells slots → W p l e room_1 s m #[Value.ref b0] below meth c H locs cells slots (lw_Z below #[Value.ref b0] s) (F0 m 1509 ls [])) : W p l e room_1 s m #[Value.ref b0] below meth c H locs cells slots (lw_Z below #[Value.ref b0] s) (F0 m 1216 ls []) := by
  have hI := hi
  obtain ⟨C, hX, hbl, hL⟩ := id D
  obtain ⟨hx, hb, hml, hown, hts, hKT, hr, hlocks, hnm⟩ := id C
  obtain ⟨hT, hN, ga, gb, cg, tu, wd, im, ⟨rt, r1, r4, r5, r10, r13, r16⟩, hk, hS⟩ := S
  obtain ⟨hc, hs, hB0⟩ := hB
  have n_1 : (1 : Int32).toInt = 1 := rfl
  have n_2 : (2 : Int32).toInt = 2 := rfl
  obtain ⟨w, ew⟩ : ∃ z : Nat, z = fR H a (K.1.2 9 0) := ⟨_, rfl⟩
  have gw := ty_fr (q := w) (k := 0) (u := 0) ew hT ga rg_68 rfl
  rw [← ew] at r1 r4 r5 r10 r13 r16
  obtain ⟨ta, eta⟩ : ∃ z : Int32, z = fI H a (K.1.2 9 3) := ⟨_, rfl⟩
  rw [← eta] at rt
  obtain ⟨tb, etb⟩ : ∃ z : Int32, z = fI H b (K.1.2 10 18) := ⟨_, rfl⟩
  rw [← etb] at rt
  obtain ⟨s1, es1⟩ : ∃ z : Int32, z = fI H w (K.1.2 8 1) := ⟨_, rfl⟩
  rw [← es1] at r1
  obtain ⟨y1, ey1⟩ : ∃ z : Int32, z = fI H b (K.1.2 10 1) := ⟨_, rfl⟩
  rw [← ey1] at r1
  obtain ⟨s4, es4⟩ : ∃ z : Int32, z = fI H w (K.1.2 8 4) := ⟨_, rfl⟩
  rw [← es4] at r4
  obtain ⟨y4, ey4⟩ : ∃ z : Int32, z = fI H b (K.1.2 10 2) := ⟨_, rfl⟩
  rw [← ey4] at r4
  obtain ⟨s5, es5⟩ : ∃ z : Int32, z = fI H w (K.1.2 8 5) := ⟨_, rfl⟩
  rw [← es5] at r5
  obtain ⟨y5, ey5⟩ : ∃ z : Int32, z = fI H b (K.1.2 10 3) := ⟨_, rfl⟩
  rw [← ey5] at r5
  obtain ⟨s10, es10⟩ : ∃ z : Int32, z = fI H w (K.1.2 8 10) := ⟨_, rfl⟩
  rw [← es10] at r10
  obtain ⟨y10, ey10⟩ : ∃ z : Int32, z = fI H b (K.1.2 10 59) := ⟨_, rfl⟩
  rw [← ey10] at r10
  obtain ⟨s13, es13⟩ : ∃ z : Int32, z = fI H w (K.1.2 8 13) := ⟨_, rfl⟩
  rw [← es13] at r13
  obtain ⟨y13, ey13⟩ : ∃ z : Int32, z = fI H b (K.1.2 10 62) := ⟨_, rfl⟩
  rw [← ey13] at r13
  obtain ⟨s16, es16⟩ : ∃ z : Int32, z = fI H w (K.1.2 8 16) := ⟨_, rfl⟩
  rw [← es16] at r16
  obtain ⟨y16, ey16⟩ : ∃ z : Int32, z = fI H b (K.1.2 10 65) := ⟨_, rfl⟩
  rw [← ey16] at r16
  rcases hk with ⟨kn, h70⟩ | ⟨kq, kn, gkq, h70, q1, q4, q5, q10, q13, q16⟩
  · skip
    obtain ⟨hi, ehi⟩ : ∃ z : Int32, z = fI H b (K.1.2 10 70) := ⟨_, rfl⟩
    rw [← ehi] at h70
    obtain ⟨hc0, hs0⟩ := hB0 kn
    refine lv_aload_n hx hb dL_law_1216 rfl (lv_at hl 2 rfl) ?_
    refine lv_aload_n hx hb dL_law_1217 rfl (lv_at hl 3 rfl) ?_
    refine lv_iload_n hx hb dL_law_1218 rfl (lv_at hl 0 rfl) ?_
    refine lv_iconst (v := 1) hx hb dL_law_1219 (by decide) ?_
    refine lv_iadd hx hb dL_law_1220 ?_
    refine lv_topi (fun x101 ex101 => ?_)
    obtain ⟨tx101, ejx101, evx101⟩ := lw_ix (k := 1) ex101 hI hL rfl (by decide)
    clear tx101
    refine va_sld hx hb hX hbl (Nat.not_le.mpr hbl) hS (vp_in_iff.mpr evx101) dL_law_1221 ?_
    refine W.eq (g2 := F0 m 1222 ls [.int (xs (i.toNatClampNeg + 1)), .ref a]) (congrArg (fun z => F0 m 1222 ls [.int (xs z), .ref a]) ejx101) ?_
    refine lv_aload_n hx hb dL_law_1222 rfl (lv_at hl 3 rfl) ?_
    refine lv_iload_n hx hb dL_law_1223 rfl (lv_at hl 0 rfl) ?_
    refine lv_iconst (v := 2) hx hb dL_law_1224 (by decide) ?_
    refine lv_iadd hx hb dL_law_1225 ?_
    refine lv_topi (fun x102 ex102 => ?_)
    obtain ⟨tx102, ejx102, evx102⟩ := lw_ix (k := 2) ex102 hI hL rfl (by decide)
    clear tx102
    refine va_sld hx hb hX hbl (Nat.not_le.mpr hbl) hS (vp_in_iff.mpr evx102) dL_law_1226 ?_
    refine W.eq (g2 := F0 m 1227 ls [.int (xs (i.toNatClampNeg + 2)), .int (xs (i.toNatClampNeg + 1)), .ref a]) (congrArg (fun z => F0 m 1227 ls [.int (xs z), .int (xs (i.toNatClampNeg + 1)), .ref a]) ejx102) ?_
    refine x_V (As := [.int (xs (i.toNatClampNeg + 1)), .int (xs (i.toNatClampNeg + 2))]) (rest := []) C (a_X9_night_r l K G H ((xs (i.toNatClampNeg + 1))) ((xs (i.toNatClampNeg + 2))) (s1) (s4) (s5) (s10) (s13) (s16) hT ga gw ew es1 es4 es5 es10 es13 es16) yo_X9_night wM_L_125 ⟨⟨by decide, by decide⟩, show _ ≤ 284929 from Nat.le_trans hc (by decide), show _ ≤ 8247460 from Nat.le_trans hs (by decide)⟩ (x_rv C hT (ci := 9) rfl ga rg_68) rfl hl.1 rfl (Nat.le_of_ble_eq_true rfl) dL_law_1227 hS (AE_new hN hS.1) (fun vH103 H103 locsH103 pH103 zH103 kH103 hSH103 => ?_)
    obtain ⟨x104, x105, x106, x107, x108, x109, x110, hvH103, ex105, ex106, ex107, ex108, ex109, ex110, hrH103, hTH103⟩ := pH103
    subst hvH103
    have g111 : CG (avw K H103 b) := CG.congr (fun k hk j => av_eff hT kH103 gb (by decide) (CG_eff [0, 28, 29] (by decide) k hk)) cg
    have g112 : TU (avw K H103 b) (svw K H103 b) := TU.congr (fun k hk j => av_eff hT kH103 gb (by decide) (TU_eff [0, 28, 29] (by decide) k hk)) (fun k hk => sv_eff hT kH103 gb (by decide)) tu
    have g113 : WD (avw K H103 b) := WD.congr (fun k hk j => av_eff hT kH103 gb (by decide) (WD_eff [0, 28, 29] (by decide) k hk)) wd
    have g114 : IM (avw K H103 b) := IM.congr (fun k hk j => av_eff hT kH103 gb (by decide) (IM_eff [0, 28, 29] (by decide) k hk)) im
    have m115 := (ew).trans (fR_kept (x_lt hT kH103 ga (by decide))).symm
    have m116 := (eta).trans (fI_kept (x_lt hT kH103 ga (by decide))).symm
    have m117 := (etb).trans (fI_kept (x_lt hT kH103 gb (by decide))).symm
    have m118 := (ey1).trans (fI_kept (x_lt hT kH103 gb (by decide))).symm
    have m119 := (ey4).trans (fI_kept (x_lt hT kH103 gb (by decide))).symm
    have m120 := (ey5).trans (fI_kept (x_lt hT kH103 gb (by decide))).symm
    have m121 := (ey10).trans (fI_kept (x_lt hT kH103 gb (by decide))).symm
    have m122 := (ey13).trans (fI_kept (x_lt hT kH103 gb (by decide))).symm
    have m123 := (ey16).trans (fI_kept (x_lt hT kH103 gb (by decide))).symm
    have m124 := (ehi).trans (fI_kept (x_lt hT kH103 gb (by decide))).symm
    have m125 := (fV_kept (x_lt hT kH103 ga (by decide))).trans kn
    have bx105 := ty_fi (x := x105) (k := 1) ex105 hTH103 gw rg_0 rfl
    have bx106 := ty_fi (x := x106) (k := 4) ex106 hTH103 gw rg_0 rfl
    have bx107 := ty_fi (x := x107) (k := 5) ex107 hTH103 gw rg_0 rfl
    have bx108 := ty_fi (x := x108) (k := 10) ex108 hTH103 gw rg_0 rfl
    have bx109 := ty_fi (x := x109) (k := 13) ex109 hTH103 gw rg_0 rfl
    have bx110 := ty_fi (x := x110) (k := 16) ex110 hTH103 gw rg_0 rfl
    refine W.eq (g2 := F0 m 1230 ls [.int x104]) rfl ?_
    refine lv_pop hx hb dL_law_1230 rfl ?_
    refine lv_aload_n hx hb dL_law_1231 rfl (lv_at hl 1 rfl) ?_
    refine lv_aload_n hx hb dL_law_1232 rfl (lv_at hl 3 rfl) ?_
    refine lv_iload_n hx hb dL_law_1233 rfl (lv_at hl 0 rfl) ?_
    refine lv_iconst (v := 1) hx hb dL_law_1234 (by decide) ?_
    refine lv_iadd hx hb dL_law_1235 ?_
    refine lv_topi (fun x126 ex126 => ?_)
    obtain ⟨tx126, ejx126, evx126⟩ := lw_ix (k := 1) ex126 hI hL rfl (by decide)
    clear tx126
    refine va_sld hx hb hX hbl (Nat.not_le.mpr hbl) hSH103 (vp_in_iff.mpr evx126) dL_law_1236 ?_
    refine W.eq (g2 := F0 m 1237 ls [.int (xs (i.toNatClampNeg + 1)), .ref b]) (congrArg (fun z => F0 m 1237 ls [.int (xs z), .ref b]) ejx126) ?_
    refine lv_aload_n hx hb dL_law_1237 rfl (lv_at hl 3 rfl) ?_
    refine lv_iload_n hx hb dL_law_1238 rfl (lv_at hl 0 rfl) ?_
    refine lv_iconst (v := 2) hx hb dL_law_1239 (by decide) ?_
    refine lv_iadd hx hb dL_law_1240 ?_
    refine lv_topi (fun x127 ex127 => ?_)
    obtain ⟨tx127, ejx127, evx127⟩ := lw_ix (k := 2) ex127 hI hL rfl (by decide)
    clear tx127
    refine va_sld hx hb hX hbl (Nat.not_le.mpr hbl) hSH103 (vp_in_iff.mpr evx127) dL_law_1241 ?_
    refine W.eq (g2 := F0 m 1242 ls [.int (xs (i.toNatClampNeg + 2)), .int (xs (i.toNatClampNeg + 1)), .ref b]) (congrArg (fun z => F0 m 1242 ls [.int (xs z), .int (xs (i.toNatClampNeg + 1)), .ref b]) ejx127) ?_
    refine x_V (As := [.int (xs (i.toNatClampNeg + 1)), .int (xs (i.toNatClampNeg + 2))]) (rest := []) C (a_X10_night_r l K G H103 ((xs (i.toNatClampNeg + 1))) ((xs (i.toNatClampNeg + 2))) (y10) hTH103 gb m121 g111 g112 g113 g114) yo_X10_night wM_L_128 ⟨⟨by decide, by decide⟩, show _ ≤ 284929 from Nat.le_trans hc (by decide), show _ ≤ 8247460 from Nat.le_trans hs (by decide)⟩ (x_rv C hTH103 (ci := 10) rfl gb rg_112) rfl hl.1 rfl (Nat.le_of_ble_eq_true rfl) dL_law_1242 hSH103 (AE_new hN hSH103.1) (fun vH128 H128 locsH128 pH128 zH128 kH128 hSH128 => ?_)
    obtain ⟨x129, x130, hvH128, ex130, hrH128, g131, g132, g133, g134, mf135, hTH128⟩ := pH128
    subst hvH128
    have m136 := (m115).trans (fR_kept (x_lt hTH103 kH128 ga (by decide))).symm
    have m137 := (m116).trans (fI_kept (x_lt hTH103 kH128 ga (by decide))).symm
    have m138 := (fV_kept (x_lt hTH103 kH128 ga (by decide))).trans m125
    have m139 := (ex105).trans (fI_kept (x_lt hTH103 kH128 gw (by decide))).symm
    have m140 := (ex106).trans (fI_kept (x_lt hTH103 kH128 gw (by decide))).symm
    have m141 := (ex107).trans (fI_kept (x_lt hTH103 kH128 gw (by decide))).symm
    have m142 := (ex108).trans (fI_kept (x_lt hTH103 kH128 gw (by decide))).symm
    have m143 := (ex109).trans (fI_kept (x_lt hTH103 kH128 gw (by decide))).symm
    have m144 := (ex110).trans (fI_kept (x_lt hTH103 kH128 gw (by decide))).symm
    have m145 := (m117).trans (MF.i mf135 (k := 18) (by decide) (by decide)).symm
    have m146 := (m118).trans (MF.i mf135 (k := 1) (by decide) (by decide)).symm
    have m147 := (m119).trans (MF.i mf135 (k := 2) (by decide) (by decide)).symm
    have m148 := (m120).trans (MF.i mf135 (k := 3) (by decide) (by decide)).symm
    have m149 := (m122).trans (MF.i mf135 (k := 62) (by decide) (by decide)).symm
    have m150 := (m123).trans (MF.i mf135 (k := 65) (by decide) (by decide)).symm
    have m151 := (m124).trans (MF.i mf135 (k := 70) (by decide) (by decide)).symm
    have bx130 := ty_fi (x := x130) (k := 59) ex130 hTH128 gb rg_112 rfl
    refine W.eq (g2 := F0 m 1245 ls [.int x129]) rfl ?_
    refine lv_pop hx hb dL_law_1245 rfl ?_
    refine lv_goto (tgt := 1509) hx hb dL_law_1246 (by decide) ?_
    exact nx G H128 locsH128 _ _ ls ⟨hTH128, hN, ga, gb, g131, g132, g133, g134, ⟨(by rw [← m137, ← m145]; exact rt), (by rw [← m136, ← m139, ← m146]; omega), (by rw [← m136, ← m140, ← m147]; omega), (by rw [← m136, ← m141, ← m148]; omega), (by rw [← m136, ← m142, ← ex130]; omega), (by rw [← m136, ← m143, ← m149]; omega), (by rw [← m136, ← m144, ← m150]; omega)⟩, Or.inl ⟨m138, (by rw [← m151]; exact h70)⟩, hSH128⟩ hl ⟨hc, hs, fun _ => ⟨hc0, hs0⟩⟩
  · skip
    obtain ⟨hi, ehi⟩ : ∃ z : Int32, z = fI H b (K.1.2 10 70) := ⟨_, rfl⟩
    rw [← ehi] at h70
    obtain ⟨iq, eiq⟩ : ∃ z : Nat, z = fR H b (K.1.2 10 73) := ⟨_, rfl⟩
    have giq := ty_fr (q := iq) (k := 73) (u := 162) eiq hT gb rg_112 rfl
    rw [← eiq] at q1 q4 q5 q10 q13 q16
    obtain ⟨k1, ek1⟩ : ∃ z : Int32, z = fI H kq (K.1.2 8 1) := ⟨_, rfl⟩
    rw [← ek1] at q1
    obtain ⟨i1, ei1⟩ : ∃ z : Int32, z = fI H iq ((0 : Int32).toNatClampNeg) := ⟨_, rfl⟩
    rw [← ei1] at q1
    obtain ⟨k4, ek4⟩ : ∃ z : Int32, z = fI H kq (K.1.2 8 4) := ⟨_, rfl⟩
    rw [← ek4] at q4
    obtain ⟨i4, ei4⟩ : ∃ z : Int32, z = fI H iq ((1 : Int32).toNatClampNeg) := ⟨_, rfl⟩
    rw [← ei4] at q4
    obtain ⟨k5, ek5⟩ : ∃ z : Int32, z = fI H kq (K.1.2 8 5) := ⟨_, rfl⟩
    rw [← ek5] at q5
    obtain ⟨i5, ei5⟩ : ∃ z : Int32, z = fI H iq ((2 : Int32).toNatClampNeg) := ⟨_, rfl⟩
    rw [← ei5] at q5
    obtain ⟨k10, ek10⟩ : ∃ z : Int32, z = fI H kq (K.1.2 8 10) := ⟨_, rfl⟩
    rw [← ek10] at q10
    obtain ⟨i10, ei10⟩ : ∃ z : Int32, z = fI H iq ((3 : Int32).toNatClampNeg) := ⟨_, rfl⟩
    rw [← ei10] at q10
    obtain ⟨k13, ek13⟩ : ∃ z : Int32, z = fI H kq (K.1.2 8 13) := ⟨_, rfl⟩
    rw [← ek13] at q13
    obtain ⟨i13, ei13⟩ : ∃ z : Int32, z = fI H iq ((4 : Int32).toNatClampNeg) := ⟨_, rfl⟩
    rw [← ei13] at q13
    obtain ⟨k16, ek16⟩ : ∃ z : Int32, z = fI H kq (K.1.2 8 16) := ⟨_, rfl⟩
    rw [← ek16] at q16
    obtain ⟨i16, ei16⟩ : ∃ z : Int32, z = fI H iq ((5 : Int32).toNatClampNeg) := ⟨_, rfl⟩
    rw [← ei16] at q16
    refine lv_aload_n hx hb dL_law_1216 rfl (lv_at hl 2 rfl) ?_
    refine lv_aload_n hx hb dL_law_1217 rfl (lv_at hl 3 rfl) ?_
    refine lv_iload_n hx hb dL_law_1218 rfl (lv_at hl 0 rfl) ?_
    refine lv_iconst (v := 1) hx hb dL_law_1219 (by decide) ?_
    refine lv_iadd hx hb dL_law_1220 ?_
    refine lv_topi (fun x152 ex152 => ?_)
    obtain ⟨tx152, ejx152, evx152⟩ := lw_ix (k := 1) ex152 hI hL rfl (by decide)
    clear tx152
    refine va_sld hx hb hX hbl (Nat.not_le.mpr hbl) hS (vp_in_iff.mpr evx152) dL_law_1221 ?_
    refine W.eq (g2 := F0 m 1222 ls [.int (xs (i.toNatClampNeg + 1)), .ref a]) (congrArg (fun z => F0 m 1222 ls [.int (xs z), .ref a]) ejx152) ?_
    refine lv_aload_n hx hb dL_law_1222 rfl (lv_at hl 3 rfl) ?_
    refine lv_iload_n hx hb dL_law_1223 rfl (lv_at hl 0 rfl) ?_
    refine lv_iconst (v := 2) hx hb dL_law_1224 (by decide) ?_
    refine lv_iadd hx hb dL_law_1225 ?_
    refine lv_topi (fun x153 ex153 => ?_)
    obtain ⟨tx153, ejx153, evx153⟩ := lw_ix (k := 2) ex153 hI hL rfl (by decide)
    clear tx153
    refine va_sld hx hb hX hbl (Nat.not_le.mpr hbl) hS (vp_in_iff.mpr evx153) dL_law_1226 ?_
    refine W.eq (g2 := F0 m 1227 ls [.int (xs (i.toNatClampNeg + 2)), .int (xs (i.toNatClampNeg + 1)), .ref a]) (congrArg (fun z => F0 m 1227 ls [.int (xs z), .int (xs (i.toNatClampNeg + 1)), .ref a]) ejx153) ?_
    refine x_V (As := [.int (xs (i.toNatClampNeg + 1)), .int (xs (i.toNatClampNeg + 2))]) (rest := []) C (a_X9_night_r l K G H ((xs (i.toNatClampNeg + 1))) ((xs (i.toNatClampNeg + 2))) (s1) (s4) (s5) (s10) (s13) (s16) hT ga gw ew es1 es4 es5 es10 es13 es16) yo_X9_night wM_L_125 ⟨⟨by decide, by decide⟩, show _ ≤ 284929 from Nat.le_trans hc (by decide), show _ ≤ 8247460 from Nat.le_trans hs (by decide)⟩ (x_rv C hT (ci := 9) rfl ga rg_68) rfl hl.1 rfl (Nat.le_of_ble_eq_true rfl) dL_law_1227 hS (AE_new hN hS.1) (fun vH154 H154 locsH154 pH154 zH154 kH154 hSH154 => ?_)
    obtain ⟨x155, x156, x157, x158, x159, x160, x161, hvH154, ex156, ex157, ex158, ex159, ex160, ex161, hrH154, hTH154⟩ := pH154
    subst hvH154
    have g162 : CG (avw K H154 b) := CG.congr (fun k hk j => av_eff hT kH154 gb (by decide) (CG_eff [0, 28, 29] (by decide) k hk)) cg
    have g163 : TU (avw K H154 b) (svw K H154 b) := TU.congr (fun k hk j => av_eff hT kH154 gb (by decide) (TU_eff [0, 28, 29] (by decide) k hk)) (fun k hk => sv_eff hT kH154 gb (by decide)) tu
    have g164 : WD (avw K H154 b) := WD.congr (fun k hk j => av_eff hT kH154 gb (by decide) (WD_eff [0, 28, 29] (by decide) k hk)) wd
    have g165 : IM (avw K H154 b) := IM.congr (fun k hk j => av_eff hT kH154 gb (by decide) (IM_eff [0, 28, 29] (by decide) k hk)) im
    have m166 := (ew).trans (fR_kept (x_lt hT kH154 ga (by decide))).symm
    have m167 := (eta).trans (fI_kept (x_lt hT kH154 ga (by decide))).symm
    have m168 := (etb).trans (fI_kept (x_lt hT kH154 gb (by decide))).symm
    have m169 := (ey1).trans (fI_kept (x_lt hT kH154 gb (by decide))).symm
    have m170 := (ey4).trans (fI_kept (x_lt hT kH154 gb (by decide))).symm
    have m171 := (ey5).trans (fI_kept (x_lt hT kH154 gb (by decide))).symm
    have m172 := (ey10).trans (fI_kept (x_lt hT kH154 gb (by decide))).symm
    have m173 := (ey13).trans (fI_kept (x_lt hT kH154 gb (by decide))).symm
    have m174 := (ey16).trans (fI_kept (x_lt hT kH154 gb (by decide))).symm
    have m175 := (ehi).trans (fI_kept (x_lt hT kH154 gb (by decide))).symm
    have m176 := (fV_kept (x_lt hT kH154 ga (by decide))).trans kn
    have m177 := (eiq).trans (fR_kept (x_lt hT kH154 gb (by decide))).symm
    have m178 := (ek1).trans (fI_kept (x_lt hT kH154 gkq (by decide))).symm
    have m179 := (ei1).trans (fI_kept (x_lt hT kH154 giq (by decide))).symm
    have m180 := (ek4).trans (fI_kept (x_lt hT kH154 gkq (by decide))).symm
    have m181 := (ei4).trans (fI_kept (x_lt hT kH154 giq (by decide))).symm
    have m182 := (ek5).trans (fI_kept (x_lt hT kH154 gkq (by decide))).symm
    have m183 := (ei5).trans (fI_kept (x_lt hT kH154 giq (by decide))).symm
    have m184 := (ek10).trans (fI_kept (x_lt hT kH154 gkq (by decide))).symm
    have m185 := (ei10).trans (fI_kept (x_lt hT kH154 giq (by decide))).symm
    have m186 := (ek13).trans (fI_kept (x_lt hT kH154 gkq (by decide))).symm
    have m187 := (ei13).trans (fI_kept (x_lt hT kH154 giq (by decide))).symm
    have m188 := (ek16).trans (fI_kept (x_lt hT kH154 gkq (by decide))).symm
    have m189 := (ei16).trans (fI_kept (x_lt hT kH154 giq (by decide))).symm
    have bx156 := ty_fi (x := x156) (k := 1) ex156 hTH154 gw rg_0 rfl
    have bx157 := ty_fi (x := x157) (k := 4) ex157 hTH154 gw rg_0 rfl
    have bx158 := ty_fi (x := x158) (k := 5) ex158 hTH154 gw rg_0 rfl
    have bx159 := ty_fi (x := x159) (k := 10) ex159 hTH154 gw rg_0 rfl
    have bx160 := ty_fi (x := x160) (k := 13) ex160 hTH154 gw rg_0 rfl
    have bx161 := ty_fi (x := x161) (k := 16) ex161 hTH154 gw rg_0 rfl
    refine W.eq (g2 := F0 m 1230 ls [.int x155]) rfl ?_
    refine lv_pop hx hb dL_law_1230 rfl ?_
    refine lv_aload_n hx hb dL_law_1231 rfl (lv_at hl 1 rfl) ?_
    refine lv_aload_n hx hb dL_law_1232 rfl (lv_at hl 3 rfl) ?_
    refine lv_iload_n hx hb dL_law_1233 rfl (lv_at hl 0 rfl) ?_
    refine lv_iconst (v := 1) hx hb dL_law_1234 (by decide) ?_
    refine lv_iadd hx hb dL_law_1235 ?_
    refine lv_topi (fun x190 ex190 => ?_)
    obtain ⟨tx190, ejx190, evx190⟩ := lw_ix (k := 1) ex190 hI hL rfl (by decide)
    clear tx190
    refine va_sld hx hb hX hbl (Nat.not_le.mpr hbl) hSH154 (vp_in_iff.mpr evx190) dL_law_1236 ?_
    refine W.eq (g2 := F0 m 1237 ls [.int (xs (i.toNatClampNeg + 1)), .ref b]) (congrArg (fun z => F0 m 1237 ls [.int (xs z), .ref b]) ejx190) ?_
    refine lv_aload_n hx hb dL_law_1237 rfl (lv_at hl 3 rfl) ?_
    refine lv_iload_n hx hb dL_law_1238 rfl (lv_at hl 0 rfl) ?_
    refine lv_iconst (v := 2) hx hb dL_law_1239 (by decide) ?_
    refine lv_iadd hx hb dL_law_1240 ?_
    refine lv_topi (fun x191 ex191 => ?_)
    obtain ⟨tx191, ejx191, evx191⟩ := lw_ix (k := 2) ex191 hI hL rfl (by decide)
    clear tx191
    refine va_sld hx hb hX hbl (Nat.not_le.mpr hbl) hSH154 (vp_in_iff.mpr evx191) dL_law_1241 ?_
    refine W.eq (g2 := F0 m 1242 ls [.int (xs (i.toNatClampNeg + 2)), .int (xs (i.toNatClampNeg + 1)), .ref b]) (congrArg (fun z => F0 m 1242 ls [.int (xs z), .int (xs (i.toNatClampNeg + 1)), .ref b]) ejx191) ?_
    refine x_V (As := [.int (xs (i.toNatClampNeg + 1)), .int (xs (i.toNatClampNeg + 2))]) (rest := []) C (a_X10_night_r l K G H154 ((xs (i.toNatClampNeg + 1))) ((xs (i.toNatClampNeg + 2))) (y10) hTH154 gb m172 g162 g163 g164 g165) yo_X10_night wM_L_128 ⟨⟨by decide, by decide⟩, show _ ≤ 284929 from Nat.le_trans hc (by decide), show _ ≤ 8247460 from Nat.le_trans hs (by decide)⟩ (x_rv C hTH154 (ci := 10) rfl gb rg_112) rfl hl.1 rfl (Nat.le_of_ble_eq_true rfl) dL_law_1242 hSH154 (AE_new hN hSH154.1) (fun vH192 H192 locsH192 pH192 zH192 kH192 hSH192 => ?_)
    obtain ⟨x193, x194, hvH192, ex194, hrH192, g195, g196, g197, g198, mf199, hTH192⟩ := pH192
    subst hvH192
    have m200 := (m166).trans (fR_kept (x_lt hTH154 kH192 ga (by decide))).symm
    have m201 := (m167).trans (fI_kept (x_lt hTH154 kH192 ga (by decide))).symm
    have m202 := (fV_kept (x_lt hTH154 kH192 ga (by decide))).trans m176
    have m203 := (m178).trans (fI_kept (x_lt hTH154 kH192 gkq (by decide))).symm
    have m204 := (m179).trans (fI_kept (x_lt hTH154 kH192 giq (by decide))).symm
    have m205 := (m180).trans (fI_kept (x_lt hTH154 kH192 gkq (by decide))).symm
    have m206 := (m181).trans (fI_kept (x_lt hTH154 kH192 giq (by decide))).symm
    have m207 := (m182).trans (fI_kept (x_lt hTH154 kH192 gkq (by decide))).symm
    have m208 := (m183).trans (fI_kept (x_lt hTH154 kH192 giq (by decide))).symm
    have m209 := (m184).trans (fI_kept (x_lt hTH154 kH192 gkq (by decide))).symm
    have m210 := (m185).trans (fI_kept (x_lt hTH154 kH192 giq (by decide))).symm
    have m211 := (m186).trans (fI_kept (x_lt hTH154 kH192 gkq (by decide))).symm
    have m212 := (m187).trans (fI_kept (x_lt hTH154 kH192 giq (by decide))).symm
    have m213 := (m188).trans (fI_kept (x_lt hTH154 kH192 gkq (by decide))).symm
    have m214 := (m189).trans (fI_kept (x_lt hTH154 kH192 giq (by decide))).symm
    have m215 := (ex156).trans (fI_kept (x_lt hTH154 kH192 gw (by decide))).symm
    have m216 := (ex157).trans (fI_kept (x_lt hTH154 kH192 gw (by decide))).symm
    have m217 := (ex158).trans (fI_kept (x_lt hTH154 kH192 gw (by decide))).symm
    have m218 := (ex159).trans (fI_kept (x_lt hTH154 kH192 gw (by decide))).symm
    have m219 := (ex160).trans (fI_kept (x_lt hTH154 kH192 gw (by decide))).symm
    have m220 := (ex161).trans (fI_kept (x_lt hTH154 kH192 gw (by decide))).symm
    have m221 := (m168).trans (MF.i mf199 (k := 18) (by decide) (by decide)).symm
    have m222 := (m169).trans (MF.i mf199 (k := 1) (by decide) (by decide)).symm
    have m223 := (m170).trans (MF.i mf199 (k := 2) (by decide) (by decide)).symm
    have m224 := (m171).trans (MF.i mf199 (k := 3) (by decide) (by decide)).symm
    have m225 := (m173).trans (MF.i mf199 (k := 62) (by decide) (by decide)).symm
    have m226 := (m174).trans (MF.i mf199 (k := 65) (by decide) (by decide)).symm
    have m227 := (m175).trans (MF.i mf199 (k := 70) (by decide) (by decide)).symm
    have m228 := (m177).trans (MF.r mf199 (k := 73) (by decide) (by decide)).symm
    have bx194 := ty_fi (x := x194) (k := 59) ex194 hTH192 gb rg_112 rfl
    refine W.eq (g2 := F0 m 1245 ls [.int x193]) rfl ?_
    refine lv_pop hx hb dL_law_1245 rfl ?_
    refine lv_goto (tgt := 1509) hx hb dL_law_1246 (by decide) ?_
    exact nx G H192 locsH192 _ _ ls ⟨hTH192, hN, ga, gb, g195, g196, g197, g198, ⟨(by rw [← m201, ← m221]; exact rt), (by rw [← m200, ← m215, ← m222]; omega), (by rw [← m200, ← m216, ← m223]; omega), (by rw [← m200, ← m217, ← m224]; omega), (by rw [← m200, ← m218, ← ex194]; omega), (by rw [← m200, ← m219, ← m225]; omega), (by rw [← m200, ← m220, ← m226]; omega)⟩, Or.inr ⟨kq, m202, gkq, (by rw [← m227]; exact h70), (by rw [← m203, ← m228, ← m204]; exact q1), (by rw [← m205, ← m228, ← m206]; exact q4), (by rw [← m207, ← m228, ← m208]; exact q5), (by rw [← m209, ← m228, ← m210]; exact q10), (by rw [← m211, ← m228, ← m212]; exact q13), (by rw [← m213, ← m228, ← m214]; exact q16)⟩, hSH192⟩ hl ⟨hc, hs, fun h => by have h1 := h.symm.trans m202; cases h1⟩
set_option maxRecDepth 100000 in
set_option maxHeartbeats 1000000 in
theorem lw_c27 {p : Program} {l : Launch} {e : Env} {s : State} {m : MethodId} {below : List Frame} {meth : Method} {c : Code} {K : KE} {b0 L : Nat} {xs : Nat → Int32} {G : Nat → Option Nat} {H : Heap} {locs : List Loc} {a b : Nat} {cells slots : Nat} {ls : Array Slot} {i : Int32} {n : Nat} (D : LC p K s m meth c b0 L xs) (S : SX K s G H locs a b) (hl : lv_has ls 4 [(3, .int i), (2, .ref b), (1, .ref a), (0, .ref b0)]) (hi : 0 ≤ i.toInt ∧ i.toInt + 6 ≤ L) (hn : n ≤ 511) (hB : BD K H a cells slots) (nx : ∀ (G : Nat → Option Nat) (H : Heap) (locs : List Loc) (cells slots : Nat) (ls : Array Slot), SX K s G H locs a b → lv_has ls 4 [(3, .int i), (2, .ref b), (1, .ref a), (0, .ref b0)] → BD K H a cells slots → W p l e room_1 s m #[Value.ref b0] below meth c H locs cells slots (lw_Z below #[Value.ref b0] s) (F0 m 1509 ls [])) : W p l e room_1 s m #[Value.ref b0] below meth c H locs cells slots (lw_Z below #[Value.ref b0] s) (F0 m 1249 ls []) := by
  have hI := hi
  obtain ⟨C, hX, hbl, hL⟩ := id D
  obtain ⟨hx, hb, hml, hown, hts, hKT, hr, hlocks, hnm⟩ := id C
  obtain ⟨hT, hN, ga, gb, cg, tu, wd, im, ⟨rt, r1, r4, r5, r10, r13, r16⟩, hk, hS⟩ := S
  obtain ⟨hc, hs, hB0⟩ := hB
  have n_1 : (1 : Int32).toInt = 1 := rfl
  have n_2 : (2 : Int32).toInt = 2 := rfl
  obtain ⟨w, ew⟩ : ∃ z : Nat, z = fR H a (K.1.2 9 0) := ⟨_, rfl⟩
  have gw := ty_fr (q := w) (k := 0) (u := 0) ew hT ga rg_68 rfl
  rw [← ew] at r1 r4 r5 r10 r13 r16
  obtain ⟨ta, eta⟩ : ∃ z : Int32, z = fI H a (K.1.2 9 3) := ⟨_, rfl⟩
  rw [← eta] at rt
  obtain ⟨tb, etb⟩ : ∃ z : Int32, z = fI H b (K.1.2 10 18) := ⟨_, rfl⟩
  rw [← etb] at rt
  obtain ⟨s1, es1⟩ : ∃ z : Int32, z = fI H w (K.1.2 8 1) := ⟨_, rfl⟩
  rw [← es1] at r1
  obtain ⟨y1, ey1⟩ : ∃ z : Int32, z = fI H b (K.1.2 10 1) := ⟨_, rfl⟩
  rw [← ey1] at r1
  obtain ⟨s4, es4⟩ : ∃ z : Int32, z = fI H w (K.1.2 8 4) := ⟨_, rfl⟩
  rw [← es4] at r4
  obtain ⟨y4, ey4⟩ : ∃ z : Int32, z = fI H b (K.1.2 10 2) := ⟨_, rfl⟩
  rw [← ey4] at r4
  obtain ⟨s5, es5⟩ : ∃ z : Int32, z = fI H w (K.1.2 8 5) := ⟨_, rfl⟩
  rw [← es5] at r5
  obtain ⟨y5, ey5⟩ : ∃ z : Int32, z = fI H b (K.1.2 10 3) := ⟨_, rfl⟩
  rw [← ey5] at r5
  obtain ⟨s10, es10⟩ : ∃ z : Int32, z = fI H w (K.1.2 8 10) := ⟨_, rfl⟩
  rw [← es10] at r10
  obtain ⟨y10, ey10⟩ : ∃ z : Int32, z = fI H b (K.1.2 10 59) := ⟨_, rfl⟩
  rw [← ey10] at r10
  obtain ⟨s13, es13⟩ : ∃ z : Int32, z = fI H w (K.1.2 8 13) := ⟨_, rfl⟩
  rw [← es13] at r13
  obtain ⟨y13, ey13⟩ : ∃ z : Int32, z = fI H b (K.1.2 10 62) := ⟨_, rfl⟩
  rw [← ey13] at r13
  obtain ⟨s16, es16⟩ : ∃ z : Int32, z = fI H w (K.1.2 8 16) := ⟨_, rfl⟩
  rw [← es16] at r16
  obtain ⟨y16, ey16⟩ : ∃ z : Int32, z = fI H b (K.1.2 10 65) := ⟨_, rfl⟩
  rw [← ey16] at r16
  rcases hk with ⟨kn, h70⟩ | ⟨kq, kn, gkq, h70, q1, q4, q5, q10, q13, q16⟩
  · skip
    obtain ⟨hi, ehi⟩ : ∃ z : Int32, z = fI H b (K.1.2 10 70) := ⟨_, rfl⟩
    rw [← ehi] at h70
    obtain ⟨hc0, hs0⟩ := hB0 kn
    refine lv_aload_n hx hb dL_law_1249 rfl (lv_at hl 2 rfl) ?_
    refine lv_aload_n hx hb dL_law_1250 rfl (lv_at hl 3 rfl) ?_
    refine lv_iload_n hx hb dL_law_1251 rfl (lv_at hl 0 rfl) ?_
    refine lv_iconst (v := 1) hx hb dL_law_1252 (by decide) ?_
    refine lv_iadd hx hb dL_law_1253 ?_
    refine lv_topi (fun x101 ex101 => ?_)
    obtain ⟨tx101, ejx101, evx101⟩ := lw_ix (k := 1) ex101 hI hL rfl (by decide)
    clear tx101
    refine va_sld hx hb hX hbl (Nat.not_le.mpr hbl) hS (vp_in_iff.mpr evx101) dL_law_1254 ?_
    refine W.eq (g2 := F0 m 1255 ls [.int (xs (i.toNatClampNeg + 1)), .ref a]) (congrArg (fun z => F0 m 1255 ls [.int (xs z), .ref a]) ejx101) ?_
    refine lv_aload_n hx hb dL_law_1255 rfl (lv_at hl 3 rfl) ?_
    refine lv_iload_n hx hb dL_law_1256 rfl (lv_at hl 0 rfl) ?_
    refine lv_iconst (v := 2) hx hb dL_law_1257 (by decide) ?_
    refine lv_iadd hx hb dL_law_1258 ?_
    refine lv_topi (fun x102 ex102 => ?_)
    obtain ⟨tx102, ejx102, evx102⟩ := lw_ix (k := 2) ex102 hI hL rfl (by decide)
    clear tx102
    refine va_sld hx hb hX hbl (Nat.not_le.mpr hbl) hS (vp_in_iff.mpr evx102) dL_law_1259 ?_
    refine W.eq (g2 := F0 m 1260 ls [.int (xs (i.toNatClampNeg + 2)), .int (xs (i.toNatClampNeg + 1)), .ref a]) (congrArg (fun z => F0 m 1260 ls [.int (xs z), .int (xs (i.toNatClampNeg + 1)), .ref a]) ejx102) ?_
    refine x_V (As := [.int (xs (i.toNatClampNeg + 1)), .int (xs (i.toNatClampNeg + 2))]) (rest := []) C (a_X9_nights l K G H ((xs (i.toNatClampNeg + 1))) ((xs (i.toNatClampNeg + 2))) hT ga) yo_X9_nights wM_L_129 ⟨⟨by decide, by decide⟩, show _ ≤ 284929 from Nat.le_trans hc (by decide), show _ ≤ 8247460 from Nat.le_trans hs (by decide)⟩ (x_rv C hT (ci := 9) rfl ga rg_68) rfl hl.1 rfl (Nat.le_of_ble_eq_true rfl) dL_law_1260 hS (AE_new hN hS.1) (fun vH103 H103 locsH103 pH103 zH103 kH103 hSH103 => ?_)
    obtain ⟨x104, hvH103, hTH103⟩ := pH103
    subst hvH103
    have g105 : CG (avw K H103 b) := CG.congr (fun k hk j => av_eff hT kH103 gb (by decide) (CG_eff [83, 84, 109] (by decide) k hk)) cg
    have g106 : TU (avw K H103 b) (svw K H103 b) := TU.congr (fun k hk j => av_eff hT kH103 gb (by decide) (TU_eff [83, 84, 109] (by decide) k hk)) (fun k hk => sv_eff hT kH103 gb (by decide)) tu
    have g107 : WD (avw K H103 b) := WD.congr (fun k hk j => av_eff hT kH103 gb (by decide) (WD_eff [83, 84, 109] (by decide) k hk)) wd
    have g108 : IM (avw K H103 b) := IM.congr (fun k hk j => av_eff hT kH103 gb (by decide) (IM_eff [83, 84, 109] (by decide) k hk)) im
    have m109 := (ew).trans (fR_kept (x_lt hT kH103 ga (by decide))).symm
    have m110 := (eta).trans (fI_kept (x_lt hT kH103 ga (by decide))).symm
    have m111 := (etb).trans (fI_kept (x_lt hT kH103 gb (by decide))).symm
    have m112 := (es1).trans (fI_kept (x_lt hT kH103 gw (by decide))).symm
    have m113 := (ey1).trans (fI_kept (x_lt hT kH103 gb (by decide))).symm
    have m114 := (es4).trans (fI_kept (x_lt hT kH103 gw (by decide))).symm
    have m115 := (ey4).trans (fI_kept (x_lt hT kH103 gb (by decide))).symm
    have m116 := (es5).trans (fI_kept (x_lt hT kH103 gw (by decide))).symm
    have m117 := (ey5).trans (fI_kept (x_lt hT kH103 gb (by decide))).symm
    have m118 := (es10).trans (fI_kept (x_lt hT kH103 gw (by decide))).symm
    have m119 := (ey10).trans (fI_kept (x_lt hT kH103 gb (by decide))).symm
    have m120 := (es13).trans (fI_kept (x_lt hT kH103 gw (by decide))).symm
    have m121 := (ey13).trans (fI_kept (x_lt hT kH103 gb (by decide))).symm
    have m122 := (es16).trans (fI_kept (x_lt hT kH103 gw (by decide))).symm
    have m123 := (ey16).trans (fI_kept (x_lt hT kH103 gb (by decide))).symm
    have m124 := (ehi).trans (fI_kept (x_lt hT kH103 gb (by decide))).symm
    have m125 := (fV_kept (x_lt hT kH103 ga (by decide))).trans kn
    refine W.eq (g2 := F0 m 1263 ls [.int x104]) rfl ?_
    refine lv_pop hx hb dL_law_1263 rfl ?_
    refine lv_aload_n hx hb dL_law_1264 rfl (lv_at hl 1 rfl) ?_
    refine lv_aload_n hx hb dL_law_1265 rfl (lv_at hl 3 rfl) ?_
    refine lv_iload_n hx hb dL_law_1266 rfl (lv_at hl 0 rfl) ?_
    refine lv_iconst (v := 1) hx hb dL_law_1267 (by decide) ?_
    refine lv_iadd hx hb dL_law_1268 ?_
    refine lv_topi (fun x126 ex126 => ?_)
    obtain ⟨tx126, ejx126, evx126⟩ := lw_ix (k := 1) ex126 hI hL rfl (by decide)
    clear tx126
    refine va_sld hx hb hX hbl (Nat.not_le.mpr hbl) hSH103 (vp_in_iff.mpr evx126) dL_law_1269 ?_
    refine W.eq (g2 := F0 m 1270 ls [.int (xs (i.toNatClampNeg + 1)), .ref b]) (congrArg (fun z => F0 m 1270 ls [.int (xs z), .ref b]) ejx126) ?_
    refine lv_aload_n hx hb dL_law_1270 rfl (lv_at hl 3 rfl) ?_
    refine lv_iload_n hx hb dL_law_1271 rfl (lv_at hl 0 rfl) ?_
    refine lv_iconst (v := 2) hx hb dL_law_1272 (by decide) ?_
    refine lv_iadd hx hb dL_law_1273 ?_
    refine lv_topi (fun x127 ex127 => ?_)
    obtain ⟨tx127, ejx127, evx127⟩ := lw_ix (k := 2) ex127 hI hL rfl (by decide)
    clear tx127
    refine va_sld hx hb hX hbl (Nat.not_le.mpr hbl) hSH103 (vp_in_iff.mpr evx127) dL_law_1274 ?_
    refine W.eq (g2 := F0 m 1275 ls [.int (xs (i.toNatClampNeg + 2)), .int (xs (i.toNatClampNeg + 1)), .ref b]) (congrArg (fun z => F0 m 1275 ls [.int (xs z), .int (xs (i.toNatClampNeg + 1)), .ref b]) ejx127) ?_
    refine x_V (As := [.int (xs (i.toNatClampNeg + 1)), .int (xs (i.toNatClampNeg + 2))]) (rest := []) C (a_X10_nights l K G H103 ((xs (i.toNatClampNeg + 1))) ((xs (i.toNatClampNeg + 2))) hTH103 gb g105 g106 g107 g108) yo_X10_nights wM_L_132 ⟨⟨by decide, by decide⟩, show _ ≤ 284929 from Nat.le_trans hc (by decide), show _ ≤ 8247460 from Nat.le_trans hs (by decide)⟩ (x_rv C hTH103 (ci := 10) rfl gb rg_112) rfl hl.1 rfl (Nat.le_of_ble_eq_true rfl) dL_law_1275 hSH103 (AE_new hN hSH103.1) (fun vH128 H128 locsH128 pH128 zH128 kH128 hSH128 => ?_)
    obtain ⟨x129, hvH128, g130, g131, g132, g133, mf134, hTH128⟩ := pH128
    subst hvH128
    have m135 := (m109).trans (fR_kept (x_lt hTH103 kH128 ga (by decide))).symm
    have m136 := (m110).trans (fI_kept (x_lt hTH103 kH128 ga (by decide))).symm
    have m137 := (m112).trans (fI_kept (x_lt hTH103 kH128 gw (by decide))).symm
    have m138 := (m114).trans (fI_kept (x_lt hTH103 kH128 gw (by decide))).symm
    have m139 := (m116).trans (fI_kept (x_lt hTH103 kH128 gw (by decide))).symm
    have m140 := (m118).trans (fI_kept (x_lt hTH103 kH128 gw (by decide))).symm
    have m141 := (m120).trans (fI_kept (x_lt hTH103 kH128 gw (by decide))).symm
    have m142 := (m122).trans (fI_kept (x_lt hTH103 kH128 gw (by decide))).symm
    have m143 := (fV_kept (x_lt hTH103 kH128 ga (by decide))).trans m125
    have m144 := (m111).trans (MF.i mf134 (k := 18) (by decide) (by decide)).symm
    have m145 := (m113).trans (MF.i mf134 (k := 1) (by decide) (by decide)).symm
    have m146 := (m115).trans (MF.i mf134 (k := 2) (by decide) (by decide)).symm
    have m147 := (m117).trans (MF.i mf134 (k := 3) (by decide) (by decide)).symm
    have m148 := (m119).trans (MF.i mf134 (k := 59) (by decide) (by decide)).symm
    have m149 := (m121).trans (MF.i mf134 (k := 62) (by decide) (by decide)).symm
    have m150 := (m123).trans (MF.i mf134 (k := 65) (by decide) (by decide)).symm
    have m151 := (m124).trans (MF.i mf134 (k := 70) (by decide) (by decide)).symm
    refine W.eq (g2 := F0 m 1278 ls [.int x129]) rfl ?_
    refine lv_pop hx hb dL_law_1278 rfl ?_
    refine lv_goto (tgt := 1509) hx hb dL_law_1279 (by decide) ?_
    exact nx G H128 locsH128 _ _ ls ⟨hTH128, hN, ga, gb, g130, g131, g132, g133, ⟨(by rw [← m136, ← m144]; exact rt), (by rw [← m135, ← m137, ← m145]; exact r1), (by rw [← m135, ← m138, ← m146]; exact r4), (by rw [← m135, ← m139, ← m147]; exact r5), (by rw [← m135, ← m140, ← m148]; exact r10), (by rw [← m135, ← m141, ← m149]; exact r13), (by rw [← m135, ← m142, ← m150]; exact r16)⟩, Or.inl ⟨m143, (by rw [← m151]; exact h70)⟩, hSH128⟩ hl ⟨hc, hs, fun _ => ⟨hc0, hs0⟩⟩
  · skip
    obtain ⟨hi, ehi⟩ : ∃ z : Int32, z = fI H b (K.1.2 10 70) := ⟨_, rfl⟩
    rw [← ehi] at h70
    obtain ⟨iq, eiq⟩ : ∃ z : Nat, z = fR H b (K.1.2 10 73) := ⟨_, rfl⟩
    have giq := ty_fr (q := iq) (k := 73) (u := 162) eiq hT gb rg_112 rfl
    rw [← eiq] at q1 q4 q5 q10 q13 q16
    obtain ⟨k1, ek1⟩ : ∃ z : Int32, z = fI H kq (K.1.2 8 1) := ⟨_, rfl⟩
    rw [← ek1] at q1
    obtain ⟨i1, ei1⟩ : ∃ z : Int32, z = fI H iq ((0 : Int32).toNatClampNeg) := ⟨_, rfl⟩
    rw [← ei1] at q1
    obtain ⟨k4, ek4⟩ : ∃ z : Int32, z = fI H kq (K.1.2 8 4) := ⟨_, rfl⟩
    rw [← ek4] at q4
    obtain ⟨i4, ei4⟩ : ∃ z : Int32, z = fI H iq ((1 : Int32).toNatClampNeg) := ⟨_, rfl⟩
    rw [← ei4] at q4
    obtain ⟨k5, ek5⟩ : ∃ z : Int32, z = fI H kq (K.1.2 8 5) := ⟨_, rfl⟩
    rw [← ek5] at q5
    obtain ⟨i5, ei5⟩ : ∃ z : Int32, z = fI H iq ((2 : Int32).toNatClampNeg) := ⟨_, rfl⟩
    rw [← ei5] at q5
    obtain ⟨k10, ek10⟩ : ∃ z : Int32, z = fI H kq (K.1.2 8 10) := ⟨_, rfl⟩
    rw [← ek10] at q10
    obtain ⟨i10, ei10⟩ : ∃ z : Int32, z = fI H iq ((3 : Int32).toNatClampNeg) := ⟨_, rfl⟩
    rw [← ei10] at q10
    obtain ⟨k13, ek13⟩ : ∃ z : Int32, z = fI H kq (K.1.2 8 13) := ⟨_, rfl⟩
    rw [← ek13] at q13
    obtain ⟨i13, ei13⟩ : ∃ z : Int32, z = fI H iq ((4 : Int32).toNatClampNeg) := ⟨_, rfl⟩
    rw [← ei13] at q13
    obtain ⟨k16, ek16⟩ : ∃ z : Int32, z = fI H kq (K.1.2 8 16) := ⟨_, rfl⟩
    rw [← ek16] at q16
    obtain ⟨i16, ei16⟩ : ∃ z : Int32, z = fI H iq ((5 : Int32).toNatClampNeg) := ⟨_, rfl⟩
    rw [← ei16] at q16
    refine lv_aload_n hx hb dL_law_1249 rfl (lv_at hl 2 rfl) ?_
    refine lv_aload_n hx hb dL_law_1250 rfl (lv_at hl 3 rfl) ?_
    refine lv_iload_n hx hb dL_law_1251 rfl (lv_at hl 0 rfl) ?_
    refine lv_iconst (v := 1) hx hb dL_law_1252 (by decide) ?_
    refine lv_iadd hx hb dL_law_1253 ?_
    refine lv_topi (fun x152 ex152 => ?_)
    obtain ⟨tx152, ejx152, evx152⟩ := lw_ix (k := 1) ex152 hI hL rfl (by decide)
    clear tx152
    refine va_sld hx hb hX hbl (Nat.not_le.mpr hbl) hS (vp_in_iff.mpr evx152) dL_law_1254 ?_
    refine W.eq (g2 := F0 m 1255 ls [.int (xs (i.toNatClampNeg + 1)), .ref a]) (congrArg (fun z => F0 m 1255 ls [.int (xs z), .ref a]) ejx152) ?_
    refine lv_aload_n hx hb dL_law_1255 rfl (lv_at hl 3 rfl) ?_
    refine lv_iload_n hx hb dL_law_1256 rfl (lv_at hl 0 rfl) ?_
    refine lv_iconst (v := 2) hx hb dL_law_1257 (by decide) ?_
    refine lv_iadd hx hb dL_law_1258 ?_
    refine lv_topi (fun x153 ex153 => ?_)
    obtain ⟨tx153, ejx153, evx153⟩ := lw_ix (k := 2) ex153 hI hL rfl (by decide)
    clear tx153
    refine va_sld hx hb hX hbl (Nat.not_le.mpr hbl) hS (vp_in_iff.mpr evx153) dL_law_1259 ?_
    refine W.eq (g2 := F0 m 1260 ls [.int (xs (i.toNatClampNeg + 2)), .int (xs (i.toNatClampNeg + 1)), .ref a]) (congrArg (fun z => F0 m 1260 ls [.int (xs z), .int (xs (i.toNatClampNeg + 1)), .ref a]) ejx153) ?_
    refine x_V (As := [.int (xs (i.toNatClampNeg + 1)), .int (xs (i.toNatClampNeg + 2))]) (rest := []) C (a_X9_nights l K G H ((xs (i.toNatClampNeg + 1))) ((xs (i.toNatClampNeg + 2))) hT ga) yo_X9_nights wM_L_129 ⟨⟨by decide, by decide⟩, show _ ≤ 284929 from Nat.le_trans hc (by decide), show _ ≤ 8247460 from Nat.le_trans hs (by decide)⟩ (x_rv C hT (ci := 9) rfl ga rg_68) rfl hl.1 rfl (Nat.le_of_ble_eq_true rfl) dL_law_1260 hS (AE_new hN hS.1) (fun vH154 H154 locsH154 pH154 zH154 kH154 hSH154 => ?_)
    obtain ⟨x155, hvH154, hTH154⟩ := pH154
    subst hvH154
    have g156 : CG (avw K H154 b) := CG.congr (fun k hk j => av_eff hT kH154 gb (by decide) (CG_eff [83, 84, 109] (by decide) k hk)) cg
    have g157 : TU (avw K H154 b) (svw K H154 b) := TU.congr (fun k hk j => av_eff hT kH154 gb (by decide) (TU_eff [83, 84, 109] (by decide) k hk)) (fun k hk => sv_eff hT kH154 gb (by decide)) tu
    have g158 : WD (avw K H154 b) := WD.congr (fun k hk j => av_eff hT kH154 gb (by decide) (WD_eff [83, 84, 109] (by decide) k hk)) wd
    have g159 : IM (avw K H154 b) := IM.congr (fun k hk j => av_eff hT kH154 gb (by decide) (IM_eff [83, 84, 109] (by decide) k hk)) im
    have m160 := (ew).trans (fR_kept (x_lt hT kH154 ga (by decide))).symm
    have m161 := (eta).trans (fI_kept (x_lt hT kH154 ga (by decide))).symm
    have m162 := (etb).trans (fI_kept (x_lt hT kH154 gb (by decide))).symm
    have m163 := (es1).trans (fI_kept (x_lt hT kH154 gw (by decide))).symm
    have m164 := (ey1).trans (fI_kept (x_lt hT kH154 gb (by decide))).symm
    have m165 := (es4).trans (fI_kept (x_lt hT kH154 gw (by decide))).symm
    have m166 := (ey4).trans (fI_kept (x_lt hT kH154 gb (by decide))).symm
    have m167 := (es5).trans (fI_kept (x_lt hT kH154 gw (by decide))).symm
    have m168 := (ey5).trans (fI_kept (x_lt hT kH154 gb (by decide))).symm
    have m169 := (es10).trans (fI_kept (x_lt hT kH154 gw (by decide))).symm
    have m170 := (ey10).trans (fI_kept (x_lt hT kH154 gb (by decide))).symm
    have m171 := (es13).trans (fI_kept (x_lt hT kH154 gw (by decide))).symm
    have m172 := (ey13).trans (fI_kept (x_lt hT kH154 gb (by decide))).symm
    have m173 := (es16).trans (fI_kept (x_lt hT kH154 gw (by decide))).symm
    have m174 := (ey16).trans (fI_kept (x_lt hT kH154 gb (by decide))).symm
    have m175 := (ehi).trans (fI_kept (x_lt hT kH154 gb (by decide))).symm
    have m176 := (fV_kept (x_lt hT kH154 ga (by decide))).trans kn
    have m177 := (eiq).trans (fR_kept (x_lt hT kH154 gb (by decide))).symm
    have m178 := (ek1).trans (fI_kept (x_lt hT kH154 gkq (by decide))).symm
    have m179 := (ei1).trans (fI_kept (x_lt hT kH154 giq (by decide))).symm
    have m180 := (ek4).trans (fI_kept (x_lt hT kH154 gkq (by decide))).symm
    have m181 := (ei4).trans (fI_kept (x_lt hT kH154 giq (by decide))).symm
    have m182 := (ek5).trans (fI_kept (x_lt hT kH154 gkq (by decide))).symm
    have m183 := (ei5).trans (fI_kept (x_lt hT kH154 giq (by decide))).symm
    have m184 := (ek10).trans (fI_kept (x_lt hT kH154 gkq (by decide))).symm
    have m185 := (ei10).trans (fI_kept (x_lt hT kH154 giq (by decide))).symm
    have m186 := (ek13).trans (fI_kept (x_lt hT kH154 gkq (by decide))).symm
    have m187 := (ei13).trans (fI_kept (x_lt hT kH154 giq (by decide))).symm
    have m188 := (ek16).trans (fI_kept (x_lt hT kH154 gkq (by decide))).symm
    have m189 := (ei16).trans (fI_kept (x_lt hT kH154 giq (by decide))).symm
    refine W.eq (g2 := F0 m 1263 ls [.int x155]) rfl ?_
    refine lv_pop hx hb dL_law_1263 rfl ?_
    refine lv_aload_n hx hb dL_law_1264 rfl (lv_at hl 1 rfl) ?_
    refine lv_aload_n hx hb dL_law_1265 rfl (lv_at hl 3 rfl) ?_
    refine lv_iload_n hx hb dL_law_1266 rfl (lv_at hl 0 rfl) ?_
    refine lv_iconst (v := 1) hx hb dL_law_1267 (by decide) ?_
    refine lv_iadd hx hb dL_law_1268 ?_
    refine lv_topi (fun x190 ex190 => ?_)
    obtain ⟨tx190, ejx190, evx190⟩ := lw_ix (k := 1) ex190 hI hL rfl (by decide)
    clear tx190
    refine va_sld hx hb hX hbl (Nat.not_le.mpr hbl) hSH154 (vp_in_iff.mpr evx190) dL_law_1269 ?_
    refine W.eq (g2 := F0 m 1270 ls [.int (xs (i.toNatClampNeg + 1)), .ref b]) (congrArg (fun z => F0 m 1270 ls [.int (xs z), .ref b]) ejx190) ?_
    refine lv_aload_n hx hb dL_law_1270 rfl (lv_at hl 3 rfl) ?_
    refine lv_iload_n hx hb dL_law_1271 rfl (lv_at hl 0 rfl) ?_
    refine lv_iconst (v := 2) hx hb dL_law_1272 (by decide) ?_
    refine lv_iadd hx hb dL_law_1273 ?_
    refine lv_topi (fun x191 ex191 => ?_)
    obtain ⟨tx191, ejx191, evx191⟩ := lw_ix (k := 2) ex191 hI hL rfl (by decide)
    clear tx191
    refine va_sld hx hb hX hbl (Nat.not_le.mpr hbl) hSH154 (vp_in_iff.mpr evx191) dL_law_1274 ?_
    refine W.eq (g2 := F0 m 1275 ls [.int (xs (i.toNatClampNeg + 2)), .int (xs (i.toNatClampNeg + 1)), .ref b]) (congrArg (fun z => F0 m 1275 ls [.int (xs z), .int (xs (i.toNatClampNeg + 1)), .ref b]) ejx191) ?_
    refine x_V (As := [.int (xs (i.toNatClampNeg + 1)), .int (xs (i.toNatClampNeg + 2))]) (rest := []) C (a_X10_nights l K G H154 ((xs (i.toNatClampNeg + 1))) ((xs (i.toNatClampNeg + 2))) hTH154 gb g156 g157 g158 g159) yo_X10_nights wM_L_132 ⟨⟨by decide, by decide⟩, show _ ≤ 284929 from Nat.le_trans hc (by decide), show _ ≤ 8247460 from Nat.le_trans hs (by decide)⟩ (x_rv C hTH154 (ci := 10) rfl gb rg_112) rfl hl.1 rfl (Nat.le_of_ble_eq_true rfl) dL_law_1275 hSH154 (AE_new hN hSH154.1) (fun vH192 H192 locsH192 pH192 zH192 kH192 hSH192 => ?_)
    obtain ⟨x193, hvH192, g194, g195, g196, g197, mf198, hTH192⟩ := pH192
    subst hvH192
    have m199 := (m160).trans (fR_kept (x_lt hTH154 kH192 ga (by decide))).symm
    have m200 := (m161).trans (fI_kept (x_lt hTH154 kH192 ga (by decide))).symm
    have m201 := (m163).trans (fI_kept (x_lt hTH154 kH192 gw (by decide))).symm
    have m202 := (m165).trans (fI_kept (x_lt hTH154 kH192 gw (by decide))).symm
    have m203 := (m167).trans (fI_kept (x_lt hTH154 kH192 gw (by decide))).symm
    have m204 := (m169).trans (fI_kept (x_lt hTH154 kH192 gw (by decide))).symm
    have m205 := (m171).trans (fI_kept (x_lt hTH154 kH192 gw (by decide))).symm
    have m206 := (m173).trans (fI_kept (x_lt hTH154 kH192 gw (by decide))).symm
    have m207 := (fV_kept (x_lt hTH154 kH192 ga (by decide))).trans m176
    have m208 := (m178).trans (fI_kept (x_lt hTH154 kH192 gkq (by decide))).symm
    have m209 := (m179).trans (fI_kept (x_lt hTH154 kH192 giq (by decide))).symm
    have m210 := (m180).trans (fI_kept (x_lt hTH154 kH192 gkq (by decide))).symm
    have m211 := (m181).trans (fI_kept (x_lt hTH154 kH192 giq (by decide))).symm
    have m212 := (m182).trans (fI_kept (x_lt hTH154 kH192 gkq (by decide))).symm
    have m213 := (m183).trans (fI_kept (x_lt hTH154 kH192 giq (by decide))).symm
    have m214 := (m184).trans (fI_kept (x_lt hTH154 kH192 gkq (by decide))).symm
    have m215 := (m185).trans (fI_kept (x_lt hTH154 kH192 giq (by decide))).symm
    have m216 := (m186).trans (fI_kept (x_lt hTH154 kH192 gkq (by decide))).symm
    have m217 := (m187).trans (fI_kept (x_lt hTH154 kH192 giq (by decide))).symm
    have m218 := (m188).trans (fI_kept (x_lt hTH154 kH192 gkq (by decide))).symm
    have m219 := (m189).trans (fI_kept (x_lt hTH154 kH192 giq (by decide))).symm
    have m220 := (m162).trans (MF.i mf198 (k := 18) (by decide) (by decide)).symm
    have m221 := (m164).trans (MF.i mf198 (k := 1) (by decide) (by decide)).symm
    have m222 := (m166).trans (MF.i mf198 (k := 2) (by decide) (by decide)).symm
    have m223 := (m168).trans (MF.i mf198 (k := 3) (by decide) (by decide)).symm
    have m224 := (m170).trans (MF.i mf198 (k := 59) (by decide) (by decide)).symm
    have m225 := (m172).trans (MF.i mf198 (k := 62) (by decide) (by decide)).symm
    have m226 := (m174).trans (MF.i mf198 (k := 65) (by decide) (by decide)).symm
    have m227 := (m175).trans (MF.i mf198 (k := 70) (by decide) (by decide)).symm
    have m228 := (m177).trans (MF.r mf198 (k := 73) (by decide) (by decide)).symm
    refine W.eq (g2 := F0 m 1278 ls [.int x193]) rfl ?_
    refine lv_pop hx hb dL_law_1278 rfl ?_
    refine lv_goto (tgt := 1509) hx hb dL_law_1279 (by decide) ?_
    exact nx G H192 locsH192 _ _ ls ⟨hTH192, hN, ga, gb, g194, g195, g196, g197, ⟨(by rw [← m200, ← m220]; exact rt), (by rw [← m199, ← m201, ← m221]; exact r1), (by rw [← m199, ← m202, ← m222]; exact r4), (by rw [← m199, ← m203, ← m223]; exact r5), (by rw [← m199, ← m204, ← m224]; exact r10), (by rw [← m199, ← m205, ← m225]; exact r13), (by rw [← m199, ← m206, ← m226]; exact r16)⟩, Or.inr ⟨kq, m207, gkq, (by rw [← m227]; exact h70), (by rw [← m208, ← m228, ← m209]; exact q1), (by rw [← m210, ← m228, ← m211]; exact q4), (by rw [← m212, ← m228, ← m213]; exact q5), (by rw [← m214, ← m228, ← m215]; exact q10), (by rw [← m216, ← m228, ← m217]; exact q13), (by rw [← m218, ← m228, ← m219]; exact q16)⟩, hSH192⟩ hl ⟨hc, hs, fun h => by have h1 := h.symm.trans m207; cases h1⟩