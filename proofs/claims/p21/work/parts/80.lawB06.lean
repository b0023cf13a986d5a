set_option maxRecDepth 100000 in
set_option maxHeartbeats 8000000 in
theorem lw_c24 {p : Program} {l : Launch} {e : Env} {s : State} {m : MethodId} {below : List Frame} {meth : Method} {c : Code} {K : KE} {b0 L : Nat} {xs : Nat → Int32} {G : Nat → Option Nat} {H : Heap} {locs : List Loc} {a b : Nat} {cells slots : Nat} {ls : Array Slot} {i : Int32} {n : Nat} (D : LC p K s m meth c b0 L xs) (S : SX K s G H locs a b) (hl : lv_has ls 4 [(3, .int i), (2, .ref b), (1, .ref a), (0, .ref b0)]) (hi : 0 ≤ i.toInt ∧ i.toInt + 6 ≤ L) (hn : n ≤ 511) (hB : BD K H a cells slots) (nx : ∀ (G : Nat → Option Nat) (H : Heap) (locs : List Loc) (cells slots : Nat) (ls : Array Slot), SX K s G H locs a b → lv_has ls 4 [(3, .int i), (2, .ref b), (1, .ref a), (0, .ref b0)] → BD K H a cells slots → W p l e room_1 s m #[Value.ref b0] below meth c H locs cells slots (lw_Z below #[Value.ref b0] s) (F0 m 1509 ls [])) : W p l e room_1 s m #[Value.ref b0] below meth c H locs cells slots (lw_Z below #[Value.ref b0] s) (F0 m 1120 ls []) := by
  have hI := hi
  obtain ⟨C, hX, hbl, hL⟩ := id D
  obtain ⟨hx, hb, hml, hown, hts, hKT, hr, hlocks, hnm⟩ := id C
  obtain ⟨hT, hN, ga, gb, cg, tu, wd, im, ⟨rt, r1, r4, r5, r10, r13, r16⟩, hk, hrb, hS⟩ := S
  obtain ⟨hc, hs, hB0⟩ := hB
  have n_m1 : ((-1) : Int32).toInt = -1 := rfl
  have n_0 : (0 : Int32).toInt = 0 := rfl
  have n_1 : (1 : Int32).toInt = 1 := rfl
  have n_2 : (2 : Int32).toInt = 2 := rfl
  have n_3 : (3 : Int32).toInt = 3 := rfl
  obtain ⟨w, ew⟩ : ∃ z : Nat, z = fR H a (K.1.2 9 0) := ⟨_, rfl⟩
  have gw := ty_fr (q := w) (k := 0) (u := 0) ew hT ga rg_68 rfl
  rw [← ew] at r1 r4 r5 r10 r13 r16
  obtain ⟨ta, eta⟩ : ∃ z : Int32, z = fI H a (K.1.2 9 3) := ⟨_, rfl⟩
  rw [← eta] at rt
  obtain ⟨tb, etb⟩ : ∃ z : Int32, z = fI H b (K.1.2 10 18) := ⟨_, rfl⟩
  rw [← etb] at rt
  obtain ⟨s1, es1⟩ : ∃ z : Int32, z = fI H w (K.1.2 8 1) := ⟨_, rfl⟩
  rw [← es1] at r1
  obtain ⟨y1, ey1⟩ : ∃ z : Int32, z = fI H b (K.1.2 10 1) := ⟨_, rfl⟩
  rw [← ey1] at r1
  obtain ⟨s4, es4⟩ : ∃ z : Int32, z = fI H w (K.1.2 8 4) := ⟨_, rfl⟩
  rw [← es4] at r4
  obtain ⟨y4, ey4⟩ : ∃ z : Int32, z = fI H b (K.1.2 10 2) := ⟨_, rfl⟩
  rw [← ey4] at r4
  obtain ⟨s5, es5⟩ : ∃ z : Int32, z = fI H w (K.1.2 8 5) := ⟨_, rfl⟩
  rw [← es5] at r5
  obtain ⟨y5, ey5⟩ : ∃ z : Int32, z = fI H b (K.1.2 10 3) := ⟨_, rfl⟩
  rw [← ey5] at r5
  obtain ⟨s10, es10⟩ : ∃ z : Int32, z = fI H w (K.1.2 8 10) := ⟨_, rfl⟩
  rw [← es10] at r10
  obtain ⟨y10, ey10⟩ : ∃ z : Int32, z = fI H b (K.1.2 10 59) := ⟨_, rfl⟩
  rw [← ey10] at r10
  obtain ⟨s13, es13⟩ : ∃ z : Int32, z = fI H w (K.1.2 8 13) := ⟨_, rfl⟩
  rw [← es13] at r13
  obtain ⟨y13, ey13⟩ : ∃ z : Int32, z = fI H b (K.1.2 10 62) := ⟨_, rfl⟩
  rw [← ey13] at r13
  obtain ⟨s16, es16⟩ : ∃ z : Int32, z = fI H w (K.1.2 8 16) := ⟨_, rfl⟩
  rw [← es16] at r16
  obtain ⟨y16, ey16⟩ : ∃ z : Int32, z = fI H b (K.1.2 10 65) := ⟨_, rfl⟩
  rw [← ey16] at r16
  obtain ⟨bq, ebq⟩ : ∃ z : Nat, z = fR H w (K.1.2 8 0) := ⟨_, rfl⟩
  have gbq := ty_fr (q := bq) (k := 0) (u := 25) ebq hT gw rg_0 rfl
  obtain ⟨aq, eaq⟩ : ∃ z : Nat, z = fR H b (K.1.2 10 50) := ⟨_, rfl⟩
  have gaq := ty_fr (q := aq) (k := 50) (u := 146) eaq hT gb rg_112 rfl
  have bs1 := ty_fi (x := s1) (k := 1) es1 hT gw rg_0 rfl
  have by1 := ty_fi (x := y1) (k := 1) ey1 hT gb rg_112 rfl
  obtain ⟨db, vr, vt⟩ := hrb
  rw [← ew, ← ebq] at db
  rw [← ew, ← ebq, ← eaq, ← ey1] at vr
  rw [← eaq, ← ey1] at vt
  obtain ⟨cz101, ecz101⟩ : ∃ f : Nat → Int32, ∀ j : Nat, j < 10 → f j = fI H (fR H bq j) (K.1.2 0 14) := ⟨_, fun _ _ => rfl⟩
  obtain ⟨rz102, erz102⟩ : ∃ f : Nat → Int32, ∀ j : Nat, j < 10 → f j = fI H aq j := ⟨_, fun _ _ => rfl⟩
  have rel : ∀ j : Nat, j < 10 → (j : Int) < y1.toInt → cz101 j = rz102 j := fun j h1 h2 => by rw [ecz101 j h1, erz102 j h1]; exact vr j h1 h2
  clear vr
  have tl : ∀ j : Nat, j < 10 → y1.toInt ≤ (j : Int) → rz102 j = 0 := fun j h1 h2 => by rw [erz102 j h1]; exact vt j h1 h2
  clear vt
  rcases hk with ⟨kn, h70⟩ | ⟨kq, kn, gkq, h70, q1, q4, q5, q10, q13, q16, dbk, vk, vkt⟩
  · skip
    obtain ⟨hi, ehi⟩ : ∃ z : Int32, z = fI H b (K.1.2 10 70) := ⟨_, rfl⟩
    rw [← ehi] at h70
    obtain ⟨hc0, hs0⟩ := hB0 kn
    obtain ⟨iq, eiq⟩ : ∃ z : Nat, z = fR H b (K.1.2 10 73) := ⟨_, rfl⟩
    have giq := ty_fr (q := iq) (k := 73) (u := 162) eiq hT gb rg_112 rfl
    refine lv_aload_n hx hb dL_law_1120 rfl (lv_at hl 2 rfl) ?_
    refine lv_aload_n hx hb dL_law_1121 rfl (lv_at hl 3 rfl) ?_
    refine lv_iload_n hx hb dL_law_1122 rfl (lv_at hl 0 rfl) ?_
    refine lv_iconst (v := 1) hx hb dL_law_1123 (by decide) ?_
    refine lv_iadd hx hb dL_law_1124 ?_
    refine lv_topi (fun x103 ex103 => ?_)
    obtain ⟨tx103, ejx103, evx103⟩ := lw_ix (k := 1) ex103 hI hL rfl (by decide)
    clear tx103
    refine va_sld hx hb hX hbl (Nat.not_le.mpr hbl) hS (vp_in_iff.mpr evx103) dL_law_1125 ?_
    refine W.eq (g2 := F0 m 1126 ls [.int (xs (i.toNatClampNeg + 1)), .ref a]) (congrArg (fun z => F0 m 1126 ls [.int (xs z), .ref a]) ejx103) ?_
    refine lv_aload_n hx hb dL_law_1126 rfl (lv_at hl 3 rfl) ?_
    refine lv_iload_n hx hb dL_law_1127 rfl (lv_at hl 0 rfl) ?_
    refine lv_iconst (v := 2) hx hb dL_law_1128 (by decide) ?_
    refine lv_iadd hx hb dL_law_1129 ?_
    refine lv_topi (fun x104 ex104 => ?_)
    obtain ⟨tx104, ejx104, evx104⟩ := lw_ix (k := 2) ex104 hI hL rfl (by decide)
    clear tx104
    refine va_sld hx hb hX hbl (Nat.not_le.mpr hbl) hS (vp_in_iff.mpr evx104) dL_law_1130 ?_
    refine W.eq (g2 := F0 m 1131 ls [.int (xs (i.toNatClampNeg + 2)), .int (xs (i.toNatClampNeg + 1)), .ref a]) (congrArg (fun z => F0 m 1131 ls [.int (xs z), .int (xs (i.toNatClampNeg + 1)), .ref a]) ejx104) ?_
    refine lv_aload_n hx hb dL_law_1131 rfl (lv_at hl 3 rfl) ?_
    refine lv_iload_n hx hb dL_law_1132 rfl (lv_at hl 0 rfl) ?_
    refine lv_iconst (v := 3) hx hb dL_law_1133 (by decide) ?_
    refine lv_iadd hx hb dL_law_1134 ?_
    refine lv_topi (fun x105 ex105 => ?_)
    obtain ⟨tx105, ejx105, evx105⟩ := lw_ix (k := 3) ex105 hI hL rfl (by decide)
    clear tx105
    refine va_sld hx hb hX hbl (Nat.not_le.mpr hbl) hS (vp_in_iff.mpr evx105) dL_law_1135 ?_
    refine W.eq (g2 := F0 m 1136 ls [.int (xs (i.toNatClampNeg + 3)), .int (xs (i.toNatClampNeg + 2)), .int (xs (i.toNatClampNeg + 1)), .ref a]) (congrArg (fun z => F0 m 1136 ls [.int (xs z), .int (xs (i.toNatClampNeg + 2)), .int (xs (i.toNatClampNeg + 1)), .ref a]) ejx105) ?_
    refine x_V (As := [.int (xs (i.toNatClampNeg + 1)), .int (xs (i.toNatClampNeg + 2)), .int (xs (i.toNatClampNeg + 3))]) (rest := []) C (a_X9_tube_r l K G H ((xs (i.toNatClampNeg + 1))) ((xs (i.toNatClampNeg + 2))) ((xs (i.toNatClampNeg + 3))) (s1) (s4) (s5) (s10) (s13) (s16) hT ga gw ew es1 es4 es5 es10 es13 es16) yo_X9_tube wM_L_117 ⟨⟨by decide, by decide⟩, show _ ≤ 1200000 from Nat.le_trans hc (by decide), show _ ≤ 5502250 from Nat.le_trans hs (by decide)⟩ (x_rv C hT (ci := 9) rfl ga rg_68) rfl hl.1 rfl (Nat.le_of_ble_eq_true rfl) dL_law_1136 hS (AE_new hN hS.1) (fun vH106 H106 locsH106 pH106 zH106 kH106 hSH106 => ?_)
    obtain ⟨x107, hvH106, bx107, hrH106, hTH106⟩ := pH106
    subst hvH106
    have g108 : CG (avw K H106 b) := CG.congr (fun k hk j => av_eff hT kH106 gb (by decide) (CG_eff [15] (by decide) k hk)) cg
    have g109 : TU (avw K H106 b) (svw K H106 b) := TU.congr (fun k hk j => av_eff hT kH106 gb (by decide) (TU_eff [15] (by decide) k hk)) (fun k hk => sv_eff hT kH106 gb (by decide)) tu
    have g110 : WD (avw K H106 b) := WD.congr (fun k hk j => av_eff hT kH106 gb (by decide) (WD_eff [15] (by decide) k hk)) wd
    have g111 : IM (avw K H106 b) := IM.congr (fun k hk j => av_eff hT kH106 gb (by decide) (IM_eff [15] (by decide) k hk)) im
    have m112 := (ew).trans (fR_kept (x_lt hT kH106 ga (by decide))).symm
    have m113 := (eta).trans (fI_kept (x_lt hT kH106 ga (by decide))).symm
    have m114 := (etb).trans (fI_kept (x_lt hT kH106 gb (by decide))).symm
    have m115 := (es1).trans (fI_kept (x_lt hT kH106 gw (by decide))).symm
    have m116 := (ey1).trans (fI_kept (x_lt hT kH106 gb (by decide))).symm
    have m117 := (es4).trans (fI_kept (x_lt hT kH106 gw (by decide))).symm
    have m118 := (ey4).trans (fI_kept (x_lt hT kH106 gb (by decide))).symm
    have m119 := (es5).trans (fI_kept (x_lt hT kH106 gw (by decide))).symm
    have m120 := (ey5).trans (fI_kept (x_lt hT kH106 gb (by decide))).symm
    have m121 := (es10).trans (fI_kept (x_lt hT kH106 gw (by decide))).symm
    have m122 := (ey10).trans (fI_kept (x_lt hT kH106 gb (by decide))).symm
    have m123 := (es13).trans (fI_kept (x_lt hT kH106 gw (by decide))).symm
    have m124 := (ey13).trans (fI_kept (x_lt hT kH106 gb (by decide))).symm
    have m125 := (es16).trans (fI_kept (x_lt hT kH106 gw (by decide))).symm
    have m126 := (ey16).trans (fI_kept (x_lt hT kH106 gb (by decide))).symm
    have m127 := (ebq).trans (fR_kept (x_lt hT kH106 gw (by decide))).symm
    have m128 := (eaq).trans (fR_kept (x_lt hT kH106 gb (by decide))).symm
    have m129 := (ehi).trans (fI_kept (x_lt hT kH106 gb (by decide))).symm
    have m130 := (fV_kept (x_lt hT kH106 ga (by decide))).trans kn
    have m131 := (eiq).trans (fR_kept (x_lt hT kH106 gb (by decide))).symm
    refine W.eq (g2 := F0 m 1139 ls [.int x107]) rfl ?_
    have v132 : ∀ j : Nat, j < 10 → cz101 j = fI H106 (fR H106 bq j) (K.1.2 0 14) := fun j h => (ecz101 j h).trans (by rw [fR_kept (x_lt hT kH106 gbq (by decide))]; exact (fI_kept (x_lt hT kH106 (bar_g hT gbq j h) (by decide))).symm)
    have v133 : ∀ j : Nat, j < 10 → rz102 j = fI H106 aq j := fun j h => (erz102 j h).trans (fI_kept (x_lt hT kH106 gaq (by decide))).symm
    have d134 := DB.kept db (x_lt hT kH106 gbq (by decide))
    refine lv_pop hx hb dL_law_1139 rfl ?_
    refine lv_aload_n hx hb dL_law_1140 rfl (lv_at hl 1 rfl) ?_
    refine lv_aload_n hx hb dL_law_1141 rfl (lv_at hl 3 rfl) ?_
    refine lv_iload_n hx hb dL_law_1142 rfl (lv_at hl 0 rfl) ?_
    refine lv_iconst (v := 1) hx hb dL_law_1143 (by decide) ?_
    refine lv_iadd hx hb dL_law_1144 ?_
    refine lv_topi (fun x135 ex135 => ?_)
    obtain ⟨tx135, ejx135, evx135⟩ := lw_ix (k := 1) ex135 hI hL rfl (by decide)
    clear tx135
    refine va_sld hx hb hX hbl (Nat.not_le.mpr hbl) hSH106 (vp_in_iff.mpr evx135) dL_law_1145 ?_
    refine W.eq (g2 := F0 m 1146 ls [.int (xs (i.toNatClampNeg + 1)), .ref b]) (congrArg (fun z => F0 m 1146 ls [.int (xs z), .ref b]) ejx135) ?_
    refine lv_aload_n hx hb dL_law_1146 rfl (lv_at hl 3 rfl) ?_
    refine lv_iload_n hx hb dL_law_1147 rfl (lv_at hl 0 rfl) ?_
    refine lv_iconst (v := 2) hx hb dL_law_1148 (by decide) ?_
    refine lv_iadd hx hb dL_law_1149 ?_
    refine lv_topi (fun x136 ex136 => ?_)
    obtain ⟨tx136, ejx136, evx136⟩ := lw_ix (k := 2) ex136 hI hL rfl (by decide)
    clear tx136
    refine va_sld hx hb hX hbl (Nat.not_le.mpr hbl) hSH106 (vp_in_iff.mpr evx136) dL_law_1150 ?_
    refine W.eq (g2 := F0 m 1151 ls [.int (xs (i.toNatClampNeg + 2)), .int (xs (i.toNatClampNeg + 1)), .ref b]) (congrArg (fun z => F0 m 1151 ls [.int (xs z), .int (xs (i.toNatClampNeg + 1)), .ref b]) ejx136) ?_
    refine lv_aload_n hx hb dL_law_1151 rfl (lv_at hl 3 rfl) ?_
    refine lv_iload_n hx hb dL_law_1152 rfl (lv_at hl 0 rfl) ?_
    refine lv_iconst (v := 3) hx hb dL_law_1153 (by decide) ?_
    refine lv_iadd hx hb dL_law_1154 ?_
    refine lv_topi (fun x137 ex137 => ?_)
    obtain ⟨tx137, ejx137, evx137⟩ := lw_ix (k := 3) ex137 hI hL rfl (by decide)
    clear tx137
    refine va_sld hx hb hX hbl (Nat.not_le.mpr hbl) hSH106 (vp_in_iff.mpr evx137) dL_law_1155 ?_
    refine W.eq (g2 := F0 m 1156 ls [.int (xs (i.toNatClampNeg + 3)), .int (xs (i.toNatClampNeg + 2)), .int (xs (i.toNatClampNeg + 1)), .ref b]) (congrArg (fun z => F0 m 1156 ls [.int (xs z), .int (xs (i.toNatClampNeg + 2)), .int (xs (i.toNatClampNeg + 1)), .ref b]) ejx137) ?_
    refine x_V (As := [.int (xs (i.toNatClampNeg + 1)), .int (xs (i.toNatClampNeg + 2)), .int (xs (i.toNatClampNeg + 3))]) (rest := []) C (a_X10_tube_r l K G H106 ((xs (i.toNatClampNeg + 1))) ((xs (i.toNatClampNeg + 2))) ((xs (i.toNatClampNeg + 3))) (y1) hTH106 gb m116 g108 g109 g110 g111) yo_X10_tube wM_L_120 ⟨⟨by decide, by decide⟩, show _ ≤ 1200000 from Nat.le_trans hc (by decide), show _ ≤ 5502250 from Nat.le_trans hs (by decide)⟩ (x_rv C hTH106 (ci := 10) rfl gb rg_112) rfl hl.1 rfl (Nat.le_of_ble_eq_true rfl) dL_law_1156 hSH106 (AE_new hN hSH106.1) (fun vH138 H138 locsH138 pH138 zH138 kH138 hSH138 => ?_)
    obtain ⟨x139, hvH138, bx139, hrH138, g140, g141, g142, g143, mf144, hTH138⟩ := pH138
    subst hvH138
    have m145 := (m112).trans (fR_kept (x_lt hTH106 kH138 ga (by decide))).symm
    have m146 := (m113).trans (fI_kept (x_lt hTH106 kH138 ga (by decide))).symm
    have m147 := (m115).trans (fI_kept (x_lt hTH106 kH138 gw (by decide))).symm
    have m148 := (m117).trans (fI_kept (x_lt hTH106 kH138 gw (by decide))).symm
    have m149 := (m119).trans (fI_kept (x_lt hTH106 kH138 gw (by decide))).symm
    have m150 := (m121).trans (fI_kept (x_lt hTH106 kH138 gw (by decide))).symm
    have m151 := (m123).trans (fI_kept (x_lt hTH106 kH138 gw (by decide))).symm
    have m152 := (m125).trans (fI_kept (x_lt hTH106 kH138 gw (by decide))).symm
    have m153 := (m127).trans (fR_kept (x_lt hTH106 kH138 gw (by decide))).symm
    have m154 := (fV_kept (x_lt hTH106 kH138 ga (by decide))).trans m130
    have m155 := (m114).trans (MF.i mf144 (k := 18) (by decide) (by decide)).symm
    have m156 := (m116).trans (MF.i mf144 (k := 1) (by decide) (by decide)).symm
    have m157 := (m118).trans (MF.i mf144 (k := 2) (by decide) (by decide)).symm
    have m158 := (m120).trans (MF.i mf144 (k := 3) (by decide) (by decide)).symm
    have m159 := (m122).trans (MF.i mf144 (k := 59) (by decide) (by decide)).symm
    have m160 := (m124).trans (MF.i mf144 (k := 62) (by decide) (by decide)).symm
    have m161 := (m126).trans (MF.i mf144 (k := 65) (by decide) (by decide)).symm
    have m162 := (m128).trans (MF.r mf144 (k := 50) (by decide) (by decide)).symm
    have m163 := (m129).trans (MF.i mf144 (k := 70) (by decide) (by decide)).symm
    have m164 := (m131).trans (MF.r mf144 (k := 73) (by decide) (by decide)).symm
    refine W.eq (g2 := F0 m 1159 ls [.int x139]) rfl ?_
    have v165 : ∀ j : Nat, j < 10 → cz101 j = fI H138 (fR H138 bq j) (K.1.2 0 14) := fun j h => (v132 j h).trans (by rw [fR_kept (x_lt hTH106 kH138 gbq (by decide))]; exact (fI_kept (x_lt hTH106 kH138 (bar_g hTH106 gbq j h) (by decide))).symm)
    have v166 : ∀ j : Nat, j < 10 → rz102 j = fI H138 aq j := fun j h => (v133 j h).trans (fI_kept (x_lt hTH106 kH138 gaq (by decide))).symm
    have d167 := DB.kept d134 (x_lt hTH106 kH138 gbq (by decide))
    refine lv_pop hx hb dL_law_1159 rfl ?_
    refine lv_goto (tgt := 1509) hx hb dL_law_1160 (by decide) ?_
    exact nx G H138 locsH138 _ _ ls ⟨hTH138, hN, ga, gb, g140, g141, g142, g143, ⟨(by rw [← m146, ← m155]; exact rt), (by rw [← m145, ← m147, ← m156]; exact r1), (by rw [← m145, ← m148, ← m157]; exact r4), (by rw [← m145, ← m149, ← m158]; exact r5), (by rw [← m145, ← m150, ← m159]; exact r10), (by rw [← m145, ← m151, ← m160]; exact r13), (by rw [← m145, ← m152, ← m161]; exact r16)⟩, Or.inl ⟨m154, (by rw [← m163]; exact h70)⟩, (by unfold RB; rw [← m145, ← m153, ← m162, ← m156]; exact ⟨d167, fun j h1 h2 => by rw [← v165 j h1, ← v166 j h1]; exact rel j h1 (by omega), fun j h1 h2 => by rw [← v166 j h1]; exact tl j h1 (by omega)⟩), hSH138⟩ hl ⟨hc, hs, fun _ => ⟨hc0, hs0⟩⟩
  · skip
    obtain ⟨hi, ehi⟩ : ∃ z : Int32, z = fI H b (K.1.2 10 70) := ⟨_, rfl⟩
    rw [← ehi] at h70
    obtain ⟨iq, eiq⟩ : ∃ z : Nat, z = fR H b (K.1.2 10 73) := ⟨_, rfl⟩
    have giq := ty_fr (q := iq) (k := 73) (u := 162) eiq hT gb rg_112 rfl
    rw [← eiq] at q1 q4 q5 q10 q13 q16
    obtain ⟨k1, ek1⟩ : ∃ z : Int32, z = fI H kq (K.1.2 8 1) := ⟨_, rfl⟩
    rw [← ek1] at q1
    obtain ⟨i1, ei1⟩ : ∃ z : Int32, z = fI H iq ((0 : Int32).toNatClampNeg) := ⟨_, rfl⟩
    rw [← ei1] at q1
    obtain ⟨k4, ek4⟩ : ∃ z : Int32, z = fI H kq (K.1.2 8 4) := ⟨_, rfl⟩
    rw [← ek4] at q4
    obtain ⟨i4, ei4⟩ : ∃ z : Int32, z = fI H iq ((1 : Int32).toNatClampNeg) := ⟨_, rfl⟩
    rw [← ei4] at q4
    obtain ⟨k5, ek5⟩ : ∃ z : Int32, z = fI H kq (K.1.2 8 5) := ⟨_, rfl⟩
    rw [← ek5] at q5
    obtain ⟨i5, ei5⟩ : ∃ z : Int32, z = fI H iq ((2 : Int32).toNatClampNeg) := ⟨_, rfl⟩
    rw [← ei5] at q5
    obtain ⟨k10, ek10⟩ : ∃ z : Int32, z = fI H kq (K.1.2 8 10) := ⟨_, rfl⟩
    rw [← ek10] at q10
    obtain ⟨i10, ei10⟩ : ∃ z : Int32, z = fI H iq ((3 : Int32).toNatClampNeg) := ⟨_, rfl⟩
    rw [← ei10] at q10
    obtain ⟨k13, ek13⟩ : ∃ z : Int32, z = fI H kq (K.1.2 8 13) := ⟨_, rfl⟩
    rw [← ek13] at q13
    obtain ⟨i13, ei13⟩ : ∃ z : Int32, z = fI H iq ((4 : Int32).toNatClampNeg) := ⟨_, rfl⟩
    rw [← ei13] at q13
    obtain ⟨k16, ek16⟩ : ∃ z : Int32, z = fI H kq (K.1.2 8 16) := ⟨_, rfl⟩
    rw [← ek16] at q16
    obtain ⟨i16, ei16⟩ : ∃ z : Int32, z = fI H iq ((5 : Int32).toNatClampNeg) := ⟨_, rfl⟩
    rw [← ei16] at q16
    obtain ⟨kb, ekb⟩ : ∃ z : Nat, z = fR H kq (K.1.2 8 0) := ⟨_, rfl⟩
    have gkb := ty_fr (q := kb) (k := 0) (u := 59) ekb hT gkq rg_34 rfl
    have bk1 := ty_fi (x := k1) (k := 1) ek1 hT gkq rg_34 rfl
    rw [← ekb] at dbk
    rw [← ekb, ← eiq, ← ek1] at vk
    rw [← eiq, ← ek1] at vkt
    obtain ⟨kz168, ekz168⟩ : ∃ f : Nat → Int32, ∀ j : Nat, j < 10 → f j = fI H (fR H kb j) (K.1.2 0 14) := ⟨_, fun _ _ => rfl⟩
    obtain ⟨iz169, eiz169⟩ : ∃ f : Nat → Int32, ∀ j : Nat, j < 10 → f j = fI H iq (11 + 6 * j) := ⟨_, fun _ _ => rfl⟩
    have vk0 : ∀ j : Nat, j < 10 → (j : Int) < k1.toInt → kz168 j = iz169 j := fun j h1 h2 => by rw [ekz168 j h1, eiz169 j h1]; exact vk j h1 h2
    clear vk
    have vk1 : ∀ j : Nat, j < 10 → k1.toInt ≤ (j : Int) → iz169 j = 0 := fun j h1 h2 => by rw [eiz169 j h1]; exact vkt j h1 h2
    clear vkt
    refine lv_aload_n hx hb dL_law_1120 rfl (lv_at hl 2 rfl) ?_
    refine lv_aload_n hx hb dL_law_1121 rfl (lv_at hl 3 rfl) ?_
    refine lv_iload_n hx hb dL_law_1122 rfl (lv_at hl 0 rfl) ?_
    refine lv_iconst (v := 1) hx hb dL_law_1123 (by decide) ?_
    refine lv_iadd hx hb dL_law_1124 ?_
    refine lv_topi (fun x170 ex170 => ?_)
    obtain ⟨tx170, ejx170, evx170⟩ := lw_ix (k := 1) ex170 hI hL rfl (by decide)
    clear tx170
    refine va_sld hx hb hX hbl (Nat.not_le.mpr hbl) hS (vp_in_iff.mpr evx170) dL_law_1125 ?_
    refine W.eq (g2 := F0 m 1126 ls [.int (xs (i.toNatClampNeg + 1)), .ref a]) (congrArg (fun z => F0 m 1126 ls [.int (xs z), .ref a]) ejx170) ?_
    refine lv_aload_n hx hb dL_law_1126 rfl (lv_at hl 3 rfl) ?_
    refine lv_iload_n hx hb dL_law_1127 rfl (lv_at hl 0 rfl) ?_
    refine lv_iconst (v := 2) hx hb dL_law_1128 (by decide) ?_
    refine lv_iadd hx hb dL_law_1129 ?_
    refine lv_topi (fun x171 ex171 => ?_)
    obtain ⟨tx171, ejx171, evx171⟩ := lw_ix (k := 2) ex171 hI hL rfl (by decide)
    clear tx171
    refine va_sld hx hb hX hbl (Nat.not_le.mpr hbl) hS (vp_in_iff.mpr evx171) dL_law_1130 ?_
    refine W.eq (g2 := F0 m 1131 ls [.int (xs (i.toNatClampNeg + 2)), .int (xs (i.toNatClampNeg + 1)), .ref a]) (congrArg (fun z => F0 m 1131 ls [.int (xs z), .int (xs (i.toNatClampNeg + 1)), .ref a]) ejx171) ?_
    refine lv_aload_n hx hb dL_law_1131 rfl (lv_at hl 3 rfl) ?_
    refine lv_iload_n hx hb dL_law_1132 rfl (lv_at hl 0 rfl) ?_
    refine lv_iconst (v := 3) hx hb dL_law_1133 (by decide) ?_
    refine lv_iadd hx hb dL_law_1134 ?_
    refine lv_topi (fun x172 ex172 => ?_)
    obtain ⟨tx172, ejx172, evx172⟩ := lw_ix (k := 3) ex172 hI hL rfl (by decide)
    clear tx172
    refine va_sld hx hb hX hbl (Nat.not_le.mpr hbl) hS (vp_in_iff.mpr evx172) dL_law_1135 ?_
    refine W.eq (g2 := F0 m 1136 ls [.int (xs (i.toNatClampNeg + 3)), .int (xs (i.toNatClampNeg + 2)), .int (xs (i.toNatClampNeg + 1)), .ref a]) (congrArg (fun z => F0 m 1136 ls [.int (xs z), .int (xs (i.toNatClampNeg + 2)), .int (xs (i.toNatClampNeg + 1)), .ref a]) ejx172) ?_
    refine x_V (As := [.int (xs (i.toNatClampNeg + 1)), .int (xs (i.toNatClampNeg + 2)), .int (xs (i.toNatClampNeg + 3))]) (rest := []) C (a_X9_tube_r l K G H ((xs (i.toNatClampNeg + 1))) ((xs (i.toNatClampNeg + 2))) ((xs (i.toNatClampNeg + 3))) (s1) (s4) (s5) (s10) (s13) (s16) hT ga gw ew es1 es4 es5 es10 es13 es16) yo_X9_tube wM_L_117 ⟨⟨by decide, by decide⟩, show _ ≤ 1200000 from Nat.le_trans hc (by decide), show _ ≤ 5502250 from Nat.le_trans hs (by decide)⟩ (x_rv C hT (ci := 9) rfl ga rg_68) rfl hl.1 rfl (Nat.le_of_ble_eq_true rfl) dL_law_1136 hS (AE_new hN hS.1) (fun vH173 H173 locsH173 pH173 zH173 kH173 hSH173 => ?_)
    obtain ⟨x174, hvH173, bx174, hrH173, hTH173⟩ := pH173
    subst hvH173
    have g175 : CG (avw K H173 b) := CG.congr (fun k hk j => av_eff hT kH173 gb (by decide) (CG_eff [15] (by decide) k hk)) cg
    have g176 : TU (avw K H173 b) (svw K H173 b) := TU.congr (fun k hk j => av_eff hT kH173 gb (by decide) (TU_eff [15] (by decide) k hk)) (fun k hk => sv_eff hT kH173 gb (by decide)) tu
    have g177 : WD (avw K H173 b) := WD.congr (fun k hk j => av_eff hT kH173 gb (by decide) (WD_eff [15] (by decide) k hk)) wd
    have g178 : IM (avw K H173 b) := IM.congr (fun k hk j => av_eff hT kH173 gb (by decide) (IM_eff [15] (by decide) k hk)) im
    have m179 := (ew).trans (fR_kept (x_lt hT kH173 ga (by decide))).symm
    have m180 := (eta).trans (fI_kept (x_lt hT kH173 ga (by decide))).symm
    have m181 := (etb).trans (fI_kept (x_lt hT kH173 gb (by decide))).symm
    have m182 := (es1).trans (fI_kept (x_lt hT kH173 gw (by decide))).symm
    have m183 := (ey1).trans (fI_kept (x_lt hT kH173 gb (by decide))).symm
    have m184 := (es4).trans (fI_kept (x_lt hT kH173 gw (by decide))).symm
    have m185 := (ey4).trans (fI_kept (x_lt hT kH173 gb (by decide))).symm
    have m186 := (es5).trans (fI_kept (x_lt hT kH173 gw (by decide))).symm
    have m187 := (ey5).trans (fI_kept (x_lt hT kH173 gb (by decide))).symm
    have m188 := (es10).trans (fI_kept (x_lt hT kH173 gw (by decide))).symm
    have m189 := (ey10).trans (fI_kept (x_lt hT kH173 gb (by decide))).symm
    have m190 := (es13).trans (fI_kept (x_lt hT kH173 gw (by decide))).symm
    have m191 := (ey13).trans (fI_kept (x_lt hT kH173 gb (by decide))).symm
    have m192 := (es16).trans (fI_kept (x_lt hT kH173 gw (by decide))).symm
    have m193 := (ey16).trans (fI_kept (x_lt hT kH173 gb (by decide))).symm
    have m194 := (ebq).trans (fR_kept (x_lt hT kH173 gw (by decide))).symm
    have m195 := (eaq).trans (fR_kept (x_lt hT kH173 gb (by decide))).symm
    have m196 := (ehi).trans (fI_kept (x_lt hT kH173 gb (by decide))).symm
    have m197 := (fV_kept (x_lt hT kH173 ga (by decide))).trans kn
    have m198 := (eiq).trans (fR_kept (x_lt hT kH173 gb (by decide))).symm
    have m199 := (ek1).trans (fI_kept (x_lt hT kH173 gkq (by decide))).symm
    have m200 := (ei1).trans (fI_kept (x_lt hT kH173 giq (by decide))).symm
    have m201 := (ek4).trans (fI_kept (x_lt hT kH173 gkq (by decide))).symm
    have m202 := (ei4).trans (fI_kept (x_lt hT kH173 giq (by decide))).symm
    have m203 := (ek5).trans (fI_kept (x_lt hT kH173 gkq (by decide))).symm
    have m204 := (ei5).trans (fI_kept (x_lt hT kH173 giq (by decide))).symm
    have m205 := (ek10).trans (fI_kept (x_lt hT kH173 gkq (by decide))).symm
    have m206 := (ei10).trans (fI_kept (x_lt hT kH173 giq (by decide))).symm
    have m207 := (ek13).trans (fI_kept (x_lt hT kH173 gkq (by decide))).symm
    have m208 := (ei13).trans (fI_kept (x_lt hT kH173 giq (by decide))).symm
    have m209 := (ek16).trans (fI_kept (x_lt hT kH173 gkq (by decide))).symm
    have m210 := (ei16).trans (fI_kept (x_lt hT kH173 giq (by decide))).symm
    have m211 := (ekb).trans (fR_kept (x_lt hT kH173 gkq (by decide))).symm
    refine W.eq (g2 := F0 m 1139 ls [.int x174]) rfl ?_
    have v212 : ∀ j : Nat, j < 10 → cz101 j = fI H173 (fR H173 bq j) (K.1.2 0 14) := fun j h => (ecz101 j h).trans (by rw [fR_kept (x_lt hT kH173 gbq (by decide))]; exact (fI_kept (x_lt hT kH173 (bar_g hT gbq j h) (by decide))).symm)
    have v213 : ∀ j : Nat, j < 10 → rz102 j = fI H173 aq j := fun j h => (erz102 j h).trans (fI_kept (x_lt hT kH173 gaq (by decide))).symm
    have v214 : ∀ j : Nat, j < 10 → kz168 j = fI H173 (fR H173 kb j) (K.1.2 0 14) := fun j h => (ekz168 j h).trans (by rw [fR_kept (x_lt hT kH173 gkb (by decide))]; exact (fI_kept (x_lt hT kH173 (bar_h hT gkb j h) (by decide))).symm)
    have d215 := DB.kept dbk (x_lt hT kH173 gkb (by decide))
    have v216 : ∀ j : Nat, j < 10 → iz169 j = fI H173 iq (11 + 6 * j) := fun j h => (eiz169 j h).trans (fI_kept (x_lt hT kH173 giq (by decide))).symm
    have d217 := DB.kept db (x_lt hT kH173 gbq (by decide))
    refine lv_pop hx hb dL_law_1139 rfl ?_
    refine lv_aload_n hx hb dL_law_1140 rfl (lv_at hl 1 rfl) ?_
    refine lv_aload_n hx hb dL_law_1141 rfl (lv_at hl 3 rfl) ?_
    refine lv_iload_n hx hb dL_law_1142 rfl (lv_at hl 0 rfl) ?_
    refine lv_iconst (v := 1) hx hb dL_law_1143 (by decide) ?_
    refine lv_iadd hx hb dL_law_1144 ?_
    refine lv_topi (fun x218 ex218 => ?_)
    obtain ⟨tx218, ejx218, evx218⟩ := lw_ix (k := 1) ex218 hI hL rfl (by decide)
    clear tx218
    refine va_sld hx hb hX hbl (Nat.not_le.mpr hbl) hSH173 (vp_in_iff.mpr evx218) dL_law_1145 ?_
    refine W.eq (g2 := F0 m 1146 ls [.int (xs (i.toNatClampNeg + 1)), .ref b]) (congrArg (fun z => F0 m 1146 ls [.int (xs z), .ref b]) ejx218) ?_
    refine lv_aload_n hx hb dL_law_1146 rfl (lv_at hl 3 rfl) ?_
    refine lv_iload_n hx hb dL_law_1147 rfl (lv_at hl 0 rfl) ?_
    refine lv_iconst (v := 2) hx hb dL_law_1148 (by decide) ?_
    refine lv_iadd hx hb dL_law_1149 ?_
    refine lv_topi (fun x219 ex219 => ?_)
    obtain ⟨tx219, ejx219, evx219⟩ := lw_ix (k := 2) ex219 hI hL rfl (by decide)
    clear tx219
    refine va_sld hx hb hX hbl (Nat.not_le.mpr hbl) hSH173 (vp_in_iff.mpr evx219) dL_law_1150 ?_
    refine W.eq (g2 := F0 m 1151 ls [.int (xs (i.toNatClampNeg + 2)), .int (xs (i.toNatClampNeg + 1)), .ref b]) (congrArg (fun z => F0 m 1151 ls [.int (xs z), .int (xs (i.toNatClampNeg + 1)), .ref b]) ejx219) ?_
    refine lv_aload_n hx hb dL_law_1151 rfl (lv_at hl 3 rfl) ?_
    refine lv_iload_n hx hb dL_law_1152 rfl (lv_at hl 0 rfl) ?_
    refine lv_iconst (v := 3) hx hb dL_law_1153 (by decide) ?_
    refine lv_iadd hx hb dL_law_1154 ?_
    refine lv_topi (fun x220 ex220 => ?_)
    obtain ⟨tx220, ejx220, evx220⟩ := lw_ix (k := 3) ex220 hI hL rfl (by decide)
    clear tx220
    refine va_sld hx hb hX hbl (Nat.not_le.mpr hbl) hSH173 (vp_in_iff.mpr evx220) dL_law_1155 ?_
    refine W.eq (g2 := F0 m 1156 ls [.int (xs (i.toNatClampNeg + 3)), .int (xs (i.toNatClampNeg + 2)), .int (xs (i.toNatClampNeg + 1)), .ref b]) (congrArg (fun z => F0 m 1156 ls [.int (xs z), .int (xs (i.toNatClampNeg + 2)), .int (xs (i.toNatClampNeg + 1)), .ref b]) ejx220) ?_
    refine x_V (As := [.int (xs (i.toNatClampNeg + 1)), .int (xs (i.toNatClampNeg + 2)), .int (xs (i.toNatClampNeg + 3))]) (rest := []) C (a_X10_tube_r l K G H173 ((xs (i.toNatClampNeg + 1))) ((xs (i.toNatClampNeg + 2))) ((xs (i.toNatClampNeg + 3))) (y1) hTH173 gb m183 g175 g176 g177 g178) yo_X10_tube wM_L_120 ⟨⟨by decide, by decide⟩, show _ ≤ 1200000 from Nat.le_trans hc (by decide), show _ ≤ 5502250 from Nat.le_trans hs (by decide)⟩ (x_rv C hTH173 (ci := 10) rfl gb rg_112) rfl hl.1 rfl (Nat.le_of_ble_eq_true rfl) dL_law_1156 hSH173 (AE_new hN hSH173.1) (fun vH221 H221 locsH221 pH221 zH221 kH221 hSH221 => ?_)
    obtain ⟨x222, hvH221, bx222, hrH221, g223, g224, g225, g226, mf227, hTH221⟩ := pH221
    subst hvH221
    have m228 := (m179).trans (fR_kept (x_lt hTH173 kH221 ga (by decide))).symm
    have m229 := (m180).trans (fI_kept (x_lt hTH173 kH221 ga (by decide))).symm
    have m230 := (m182).trans (fI_kept (x_lt hTH173 kH221 gw (by decide))).symm
    have m231 := (m184).trans (fI_kept (x_lt hTH173 kH221 gw (by decide))).symm
    have m232 := (m186).trans (fI_kept (x_lt hTH173 kH221 gw (by decide))).symm
    have m233 := (m188).trans (fI_kept (x_lt hTH173 kH221 gw (by decide))).symm
    have m234 := (m190).trans (fI_kept (x_lt hTH173 kH221 gw (by decide))).symm
    have m235 := (m192).trans (fI_kept (x_lt hTH173 kH221 gw (by decide))).symm
    have m236 := (m194).trans (fR_kept (x_lt hTH173 kH221 gw (by decide))).symm
    have m237 := (fV_kept (x_lt hTH173 kH221 ga (by decide))).trans m197
    have m238 := (m199).trans (fI_kept (x_lt hTH173 kH221 gkq (by decide))).symm
    have m239 := (m200).trans (fI_kept (x_lt hTH173 kH221 giq (by decide))).symm
    have m240 := (m201).trans (fI_kept (x_lt hTH173 kH221 gkq (by decide))).symm
    have m241 := (m202).trans (fI_kept (x_lt hTH173 kH221 giq (by decide))).symm
    have m242 := (m203).trans (fI_kept (x_lt hTH173 kH221 gkq (by decide))).symm
    have m243 := (m204).trans (fI_kept (x_lt hTH173 kH221 giq (by decide))).symm
    have m244 := (m205).trans (fI_kept (x_lt hTH173 kH221 gkq (by decide))).symm
    have m245 := (m206).trans (fI_kept (x_lt hTH173 kH221 giq (by decide))).symm
    have m246 := (m207).trans (fI_kept (x_lt hTH173 kH221 gkq (by decide))).symm
    have m247 := (m208).trans (fI_kept (x_lt hTH173 kH221 giq (by decide))).symm
    have m248 := (m209).trans (fI_kept (x_lt hTH173 kH221 gkq (by decide))).symm
    have m249 := (m210).trans (fI_kept (x_lt hTH173 kH221 giq (by decide))).symm
    have m250 := (m211).trans (fR_kept (x_lt hTH173 kH221 gkq (by decide))).symm
    have m251 := (m181).trans (MF.i mf227 (k := 18) (by decide) (by decide)).symm
    have m252 := (m183).trans (MF.i mf227 (k := 1) (by decide) (by decide)).symm
    have m253 := (m185).trans (MF.i mf227 (k := 2) (by decide) (by decide)).symm
    have m254 := (m187).trans (MF.i mf227 (k := 3) (by decide) (by decide)).symm
    have m255 := (m189).trans (MF.i mf227 (k := 59) (by decide) (by decide)).symm
    have m256 := (m191).trans (MF.i mf227 (k := 62) (by decide) (by decide)).symm
    have m257 := (m193).trans (MF.i mf227 (k := 65) (by decide) (by decide)).symm
    have m258 := (m195).trans (MF.r mf227 (k := 50) (by decide) (by decide)).symm
    have m259 := (m196).trans (MF.i mf227 (k := 70) (by decide) (by decide)).symm
    have m260 := (m198).trans (MF.r mf227 (k := 73) (by decide) (by decide)).symm
    refine W.eq (g2 := F0 m 1159 ls [.int x222]) rfl ?_
    have v261 : ∀ j : Nat, j < 10 → cz101 j = fI H221 (fR H221 bq j) (K.1.2 0 14) := fun j h => (v212 j h).trans (by rw [fR_kept (x_lt hTH173 kH221 gbq (by decide))]; exact (fI_kept (x_lt hTH173 kH221 (bar_g hTH173 gbq j h) (by decide))).symm)
    have v262 : ∀ j : Nat, j < 10 → rz102 j = fI H221 aq j := fun j h => (v213 j h).trans (fI_kept (x_lt hTH173 kH221 gaq (by decide))).symm
    have v263 : ∀ j : Nat, j < 10 → kz168 j = fI H221 (fR H221 kb j) (K.1.2 0 14) := fun j h => (v214 j h).trans (by rw [fR_kept (x_lt hTH173 kH221 gkb (by decide))]; exact (fI_kept (x_lt hTH173 kH221 (bar_h hTH173 gkb j h) (by decide))).symm)
    have d264 := DB.kept d215 (x_lt hTH173 kH221 gkb (by decide))
    have v265 : ∀ j : Nat, j < 10 → iz169 j = fI H221 iq (11 + 6 * j) := fun j h => (v216 j h).trans (fI_kept (x_lt hTH173 kH221 giq (by decide))).symm
    have d266 := DB.kept d217 (x_lt hTH173 kH221 gbq (by decide))
    refine lv_pop hx hb dL_law_1159 rfl ?_
    refine lv_goto (tgt := 1509) hx hb dL_law_1160 (by decide) ?_
    exact nx G H221 locsH221 _ _ ls ⟨hTH221, hN, ga, gb, g223, g224, g225, g226, ⟨(by rw [← m229, ← m251]; exact rt), (by rw [← m228, ← m230, ← m252]; exact r1), (by rw [← m228, ← m231, ← m253]; exact r4), (by rw [← m228, ← m232, ← m254]; exact r5), (by rw [← m228, ← m233, ← m255]; exact r10), (by rw [← m228, ← m234, ← m256]; exact r13), (by rw [← m228, ← m235, ← m257]; exact r16)⟩, Or.inr ⟨kq, m237, gkq, (by rw [← m259]; exact h70), (by rw [← m238, ← m260, ← m239]; exact q1), (by rw [← m240, ← m260, ← m241]; exact q4), (by rw [← m242, ← m260, ← m243]; exact q5), (by rw [← m244, ← m260, ← m245]; exact q10), (by rw [← m246, ← m260, ← m247]; exact q13), (by rw [← m248, ← m260, ← m249]; exact q16), (by rw [← m250]; exact d264), (by rw [← m250, ← m260, ← m238]; exact fun j h1 h2 => by rw [← v263 j h1, ← v265 j h1]; exact vk0 j h1 (by omega)), (by rw [← m260, ← m238]; exact fun j h1 h2 => by rw [← v265 j h1]; exact vk1 j h1 (by omega))⟩, (by unfold RB; rw [← m228, ← m236, ← m258, ← m252]; exact ⟨d266, fun j h1 h2 => by rw [← v261 j h1, ← v262 j h1]; exact rel j h1 (by omega), fun j h1 h2 => by rw [← v262 j h1]; exact tl j h1 (by omega)⟩), hSH221⟩ hl ⟨hc, hs, fun h => by have h1 := h.symm.trans m237; cases h1⟩
set_option maxRecDepth 100000 in
set_option maxHeartbeats 8000000 in
theorem lw_c25 {p : Program} {l : Launch} {e : Env} {s : State} {m : MethodId} {below : List Frame} {meth : Method} {c : Code} {K : KE} {b0 L : Nat} {xs : Nat → Int32} {G : Nat → Option Nat} {H : Heap} {locs : List Loc} {a b : Nat} {cells slots : Nat} {ls : Array Slot} {i : Int32} {n : Nat} (D : LC p K s m meth c b0 L xs) (S : SX K s G H locs a b) (hl : lv_has ls 4 [(3, .int i), (2, .ref b), (1, .ref a), (0, .ref b0)]) (hi : 0 ≤ i.toInt ∧ i.toInt + 6 ≤ L) (hn : n ≤ 511) (hB : BD K H a cells slots) (nx : ∀ (G : Nat → Option Nat) (H : Heap) (locs : List Loc) (cells slots : Nat) (ls : Array Slot), SX K s G H locs a b → lv_has ls 4 [(3, .int i), (2, .ref b), (1, .ref a), (0, .ref b0)] → BD K H a cells slots → W p l e room_1 s m #[Value.ref b0] below meth c H locs cells slots (lw_Z below #[Value.ref b0] s) (F0 m 1509 ls [])) : W p l e room_1 s m #[Value.ref b0] below meth c H locs cells slots (lw_Z below #[Value.ref b0] s) (F0 m 1163 ls []) := by
  have hI := hi
  obtain ⟨C, hX, hbl, hL⟩ := id D
  obtain ⟨hx, hb, hml, hown, hts, hKT, hr, hlocks, hnm⟩ := id C
  obtain ⟨hT, hN, ga, gb, cg, tu, wd, im, ⟨rt, r1, r4, r5, r10, r13, r16⟩, hk, hrb, hS⟩ := S
  obtain ⟨hc, hs, hB0⟩ := hB
  have n_m1 : ((-1) : Int32).toInt = -1 := rfl
  have n_0 : (0 : Int32).toInt = 0 := rfl
  have n_1 : (1 : Int32).toInt = 1 := rfl
  have n_2 : (2 : Int32).toInt = 2 := rfl
  have n_3 : (3 : Int32).toInt = 3 := rfl
  have n_4 : (4 : Int32).toInt = 4 := rfl
  obtain ⟨w, ew⟩ : ∃ z : Nat, z = fR H a (K.1.2 9 0) := ⟨_, rfl⟩
  have gw := ty_fr (q := w) (k := 0) (u := 0) ew hT ga rg_68 rfl
  rw [← ew] at r1 r4 r5 r10 r13 r16
  obtain ⟨ta, eta⟩ : ∃ z : Int32, z = fI H a (K.1.2 9 3) := ⟨_, rfl⟩
  rw [← eta] at rt
  obtain ⟨tb, etb⟩ : ∃ z : Int32, z = fI H b (K.1.2 10 18) := ⟨_, rfl⟩
  rw [← etb] at rt
  obtain ⟨s1, es1⟩ : ∃ z : Int32, z = fI H w (K.1.2 8 1) := ⟨_, rfl⟩
  rw [← es1] at r1
  obtain ⟨y1, ey1⟩ : ∃ z : Int32, z = fI H b (K.1.2 10 1) := ⟨_, rfl⟩
  rw [← ey1] at r1
  obtain ⟨s4, es4⟩ : ∃ z : Int32, z = fI H w (K.1.2 8 4) := ⟨_, rfl⟩
  rw [← es4] at r4
  obtain ⟨y4, ey4⟩ : ∃ z : Int32, z = fI H b (K.1.2 10 2) := ⟨_, rfl⟩
  rw [← ey4] at r4
  obtain ⟨s5, es5⟩ : ∃ z : Int32, z = fI H w (K.1.2 8 5) := ⟨_, rfl⟩
  rw [← es5] at r5
  obtain ⟨y5, ey5⟩ : ∃ z : Int32, z = fI H b (K.1.2 10 3) := ⟨_, rfl⟩
  rw [← ey5] at r5
  obtain ⟨s10, es10⟩ : ∃ z : Int32, z = fI H w (K.1.2 8 10) := ⟨_, rfl⟩
  rw [← es10] at r10
  obtain ⟨y10, ey10⟩ : ∃ z : Int32, z = fI H b (K.1.2 10 59) := ⟨_, rfl⟩
  rw [← ey10] at r10
  obtain ⟨s13, es13⟩ : ∃ z : Int32, z = fI H w (K.1.2 8 13) := ⟨_, rfl⟩
  rw [← es13] at r13
  obtain ⟨y13, ey13⟩ : ∃ z : Int32, z = fI H b (K.1.2 10 62) := ⟨_, rfl⟩
  rw [← ey13] at r13
  obtain ⟨s16, es16⟩ : ∃ z : Int32, z = fI H w (K.1.2 8 16) := ⟨_, rfl⟩
  rw [← es16] at r16
  obtain ⟨y16, ey16⟩ : ∃ z : Int32, z = fI H b (K.1.2 10 65) := ⟨_, rfl⟩
  rw [← ey16] at r16
  obtain ⟨bq, ebq⟩ : ∃ z : Nat, z = fR H w (K.1.2 8 0) := ⟨_, rfl⟩
  have gbq := ty_fr (q := bq) (k := 0) (u := 25) ebq hT gw rg_0 rfl
  obtain ⟨aq, eaq⟩ : ∃ z : Nat, z = fR H b (K.1.2 10 50) := ⟨_, rfl⟩
  have gaq := ty_fr (q := aq) (k := 50) (u := 146) eaq hT gb rg_112 rfl
  have bs1 := ty_fi (x := s1) (k := 1) es1 hT gw rg_0 rfl
  have by1 := ty_fi (x := y1) (k := 1) ey1 hT gb rg_112 rfl
  obtain ⟨db, vr, vt⟩ := hrb
  rw [← ew, ← ebq] at db
  rw [← ew, ← ebq, ← eaq, ← ey1] at vr
  rw [← eaq, ← ey1] at vt
  obtain ⟨cz101, ecz101⟩ : ∃ f : Nat → Int32, ∀ j : Nat, j < 10 → f j = fI H (fR H bq j) (K.1.2 0 14) := ⟨_, fun _ _ => rfl⟩
  obtain ⟨rz102, erz102⟩ : ∃ f : Nat → Int32, ∀ j : Nat, j < 10 → f j = fI H aq j := ⟨_, fun _ _ => rfl⟩
  have rel : ∀ j : Nat, j < 10 → (j : Int) < y1.toInt → cz101 j = rz102 j := fun j h1 h2 => by rw [ecz101 j h1, erz102 j h1]; exact vr j h1 h2
  clear vr
  have tl : ∀ j : Nat, j < 10 → y1.toInt ≤ (j : Int) → rz102 j = 0 := fun j h1 h2 => by rw [erz102 j h1]; exact vt j h1 h2
  clear vt
  rcases hk with ⟨kn, h70⟩ | ⟨kq, kn, gkq, h70, q1, q4, q5, q10, q13, q16, dbk, vk, vkt⟩
  · skip
    obtain ⟨hi, ehi⟩ : ∃ z : Int32, z = fI H b (K.1.2 10 70) := ⟨_, rfl⟩
    rw [← ehi] at h70
    obtain ⟨hc0, hs0⟩ := hB0 kn
    obtain ⟨iq, eiq⟩ : ∃ z : Nat, z = fR H b (K.1.2 10 73) := ⟨_, rfl⟩
    have giq := ty_fr (q := iq) (k := 73) (u := 162) eiq hT gb rg_112 rfl
    refine lv_aload_n hx hb dL_law_1163 rfl (lv_at hl 2 rfl) ?_
    refine lv_aload_n hx hb dL_law_1164 rfl (lv_at hl 3 rfl) ?_
    refine lv_iload_n hx hb dL_law_1165 rfl (lv_at hl 0 rfl) ?_
    refine lv_iconst (v := 1) hx hb dL_law_1166 (by decide) ?_
    refine lv_iadd hx hb dL_law_1167 ?_
    refine lv_topi (fun x103 ex103 => ?_)
    obtain ⟨tx103, ejx103, evx103⟩ := lw_ix (k := 1) ex103 hI hL rfl (by decide)
    clear tx103
    refine va_sld hx hb hX hbl (Nat.not_le.mpr hbl) hS (vp_in_iff.mpr evx103) dL_law_1168 ?_
    refine W.eq (g2 := F0 m 1169 ls [.int (xs (i.toNatClampNeg + 1)), .ref a]) (congrArg (fun z => F0 m 1169 ls [.int (xs z), .ref a]) ejx103) ?_
    refine lv_aload_n hx hb dL_law_1169 rfl (lv_at hl 3 rfl) ?_
    refine lv_iload_n hx hb dL_law_1170 rfl (lv_at hl 0 rfl) ?_
    refine lv_iconst (v := 2) hx hb dL_law_1171 (by decide) ?_
    refine lv_iadd hx hb dL_law_1172 ?_
    refine lv_topi (fun x104 ex104 => ?_)
    obtain ⟨tx104, ejx104, evx104⟩ := lw_ix (k := 2) ex104 hI hL rfl (by decide)
    clear tx104
    refine va_sld hx hb hX hbl (Nat.not_le.mpr hbl) hS (vp_in_iff.mpr evx104) dL_law_1173 ?_
    refine W.eq (g2 := F0 m 1174 ls [.int (xs (i.toNatClampNeg + 2)), .int (xs (i.toNatClampNeg + 1)), .ref a]) (congrArg (fun z => F0 m 1174 ls [.int (xs z), .int (xs (i.toNatClampNeg + 1)), .ref a]) ejx104) ?_
    refine lv_aload_n hx hb dL_law_1174 rfl (lv_at hl 3 rfl) ?_
    refine lv_iload_n hx hb dL_law_1175 rfl (lv_at hl 0 rfl) ?_
    refine lv_iconst (v := 3) hx hb dL_law_1176 (by decide) ?_
    refine lv_iadd hx hb dL_law_1177 ?_
    refine lv_topi (fun x105 ex105 => ?_)
    obtain ⟨tx105, ejx105, evx105⟩ := lw_ix (k := 3) ex105 hI hL rfl (by decide)
    clear tx105
    refine va_sld hx hb hX hbl (Nat.not_le.mpr hbl) hS (vp_in_iff.mpr evx105) dL_law_1178 ?_
    refine W.eq (g2 := F0 m 1179 ls [.int (xs (i.toNatClampNeg + 3)), .int (xs (i.toNatClampNeg + 2)), .int (xs (i.toNatClampNeg + 1)), .ref a]) (congrArg (fun z => F0 m 1179 ls [.int (xs z), .int (xs (i.toNatClampNeg + 2)), .int (xs (i.toNatClampNeg + 1)), .ref a]) ejx105) ?_
    refine lv_aload_n hx hb dL_law_1179 rfl (lv_at hl 3 rfl) ?_
    refine lv_iload_n hx hb dL_law_1180 rfl (lv_at hl 0 rfl) ?_
    refine lv_iconst (v := 4) hx hb dL_law_1181 (by decide) ?_
    refine lv_iadd hx hb dL_law_1182 ?_
    refine lv_topi (fun x106 ex106 => ?_)
    obtain ⟨tx106, ejx106, evx106⟩ := lw_ix (k := 4) ex106 hI hL rfl (by decide)
    clear tx106
    refine va_sld hx hb hX hbl (Nat.not_le.mpr hbl) hS (vp_in_iff.mpr evx106) dL_law_1183 ?_
    refine W.eq (g2 := F0 m 1184 ls [.int (xs (i.toNatClampNeg + 4)), .int (xs (i.toNatClampNeg + 3)), .int (xs (i.toNatClampNeg + 2)), .int (xs (i.toNatClampNeg + 1)), .ref a]) (congrArg (fun z => F0 m 1184 ls [.int (xs z), .int (xs (i.toNatClampNeg + 3)), .int (xs (i.toNatClampNeg + 2)), .int (xs (i.toNatClampNeg + 1)), .ref a]) ejx106) ?_
    refine x_V (As := [.int (xs (i.toNatClampNeg + 1)), .int (xs (i.toNatClampNeg + 2)), .int (xs (i.toNatClampNeg + 3)), .int (xs (i.toNatClampNeg + 4))]) (rest := []) C (a_X9_in l K G H ((xs (i.toNatClampNeg + 1))) ((xs (i.toNatClampNeg + 2))) ((xs (i.toNatClampNeg + 3))) ((xs (i.toNatClampNeg + 4))) hT ga) yo_X9_in wM_L_121 ⟨⟨by decide, by decide⟩, show _ ≤ 1200000 from Nat.le_trans hc (by decide), show _ ≤ 5502250 from Nat.le_trans hs (by decide)⟩ (x_rv C hT (ci := 9) rfl ga rg_68) rfl hl.1 rfl (Nat.le_of_ble_eq_true rfl) dL_law_1184 hS (AE_new hN hS.1) (fun vH107 H107 locsH107 pH107 zH107 kH107 hSH107 => ?_)
    obtain ⟨x108, hvH107, hTH107⟩ := pH107
    subst hvH107
    have g109 : CG (avw K H107 b) := CG.congr (fun k hk j => av_eff hT kH107 gb (by decide) (CG_eff [83, 84] (by decide) k hk)) cg
    have g110 : TU (avw K H107 b) (svw K H107 b) := TU.congr (fun k hk j => av_eff hT kH107 gb (by decide) (TU_eff [83, 84] (by decide) k hk)) (fun k hk => sv_eff hT kH107 gb (by decide)) tu
    have g111 : WD (avw K H107 b) := WD.congr (fun k hk j => av_eff hT kH107 gb (by decide) (WD_eff [83, 84] (by decide) k hk)) wd
    have g112 : IM (avw K H107 b) := IM.congr (fun k hk j => av_eff hT kH107 gb (by decide) (IM_eff [83, 84] (by decide) k hk)) im
    have m113 := (ew).trans (fR_kept (x_lt hT kH107 ga (by decide))).symm
    have m114 := (eta).trans (fI_kept (x_lt hT kH107 ga (by decide))).symm
    have m115 := (etb).trans (fI_kept (x_lt hT kH107 gb (by decide))).symm
    have m116 := (es1).trans (fI_kept (x_lt hT kH107 gw (by decide))).symm
    have m117 := (ey1).trans (fI_kept (x_lt hT kH107 gb (by decide))).symm
    have m118 := (es4).trans (fI_kept (x_lt hT kH107 gw (by decide))).symm
    have m119 := (ey4).trans (fI_kept (x_lt hT kH107 gb (by decide))).symm
    have m120 := (es5).trans (fI_kept (x_lt hT kH107 gw (by decide))).symm
    have m121 := (ey5).trans (fI_kept (x_lt hT kH107 gb (by decide))).symm
    have m122 := (es10).trans (fI_kept (x_lt hT kH107 gw (by decide))).symm
    have m123 := (ey10).trans (fI_kept (x_lt hT kH107 gb (by decide))).symm
    have m124 := (es13).trans (fI_kept (x_lt hT kH107 gw (by decide))).symm
    have m125 := (ey13).trans (fI_kept (x_lt hT kH107 gb (by decide))).symm
    have m126 := (es16).trans (fI_kept (x_lt hT kH107 gw (by decide))).symm
    have m127 := (ey16).trans (fI_kept (x_lt hT kH107 gb (by decide))).symm
    have m128 := (ebq).trans (fR_kept (x_lt hT kH107 gw (by decide))).symm
    have m129 := (eaq).trans (fR_kept (x_lt hT kH107 gb (by decide))).symm
    have m130 := (ehi).trans (fI_kept (x_lt hT kH107 gb (by decide))).symm
    have m131 := (fV_kept (x_lt hT kH107 ga (by decide))).trans kn
    have m132 := (eiq).trans (fR_kept (x_lt hT kH107 gb (by decide))).symm
    refine W.eq (g2 := F0 m 1187 ls [.int x108]) rfl ?_
    have v133 : ∀ j : Nat, j < 10 → cz101 j = fI H107 (fR H107 bq j) (K.1.2 0 14) := fun j h => (ecz101 j h).trans (by rw [fR_kept (x_lt hT kH107 gbq (by decide))]; exact (fI_kept (x_lt hT kH107 (bar_g hT gbq j h) (by decide))).symm)
    have v134 : ∀ j : Nat, j < 10 → rz102 j = fI H107 aq j := fun j h => (erz102 j h).trans (fI_kept (x_lt hT kH107 gaq (by decide))).symm
    have d135 := DB.kept db (x_lt hT kH107 gbq (by decide))
    refine lv_pop hx hb dL_law_1187 rfl ?_
    refine lv_aload_n hx hb dL_law_1188 rfl (lv_at hl 1 rfl) ?_
    refine lv_aload_n hx hb dL_law_1189 rfl (lv_at hl 3 rfl) ?_
    refine lv_iload_n hx hb dL_law_1190 rfl (lv_at hl 0 rfl) ?_
    refine lv_iconst (v := 1) hx hb dL_law_1191 (by decide) ?_
    refine lv_iadd hx hb dL_law_1192 ?_
    refine lv_topi (fun x136 ex136 => ?_)
    obtain ⟨tx136, ejx136, evx136⟩ := lw_ix (k := 1) ex136 hI hL rfl (by decide)
    clear tx136
    refine va_sld hx hb hX hbl (Nat.not_le.mpr hbl) hSH107 (vp_in_iff.mpr evx136) dL_law_1193 ?_
    refine W.eq (g2 := F0 m 1194 ls [.int (xs (i.toNatClampNeg + 1)), .ref b]) (congrArg (fun z => F0 m 1194 ls [.int (xs z), .ref b]) ejx136) ?_
    refine lv_aload_n hx hb dL_law_1194 rfl (lv_at hl 3 rfl) ?_
    refine lv_iload_n hx hb dL_law_1195 rfl (lv_at hl 0 rfl) ?_
    refine lv_iconst (v := 2) hx hb dL_law_1196 (by decide) ?_
    refine lv_iadd hx hb dL_law_1197 ?_
    refine lv_topi (fun x137 ex137 => ?_)
    obtain ⟨tx137, ejx137, evx137⟩ := lw_ix (k := 2) ex137 hI hL rfl (by decide)
    clear tx137
    refine va_sld hx hb hX hbl (Nat.not_le.mpr hbl) hSH107 (vp_in_iff.mpr evx137) dL_law_1198 ?_
    refine W.eq (g2 := F0 m 1199 ls [.int (xs (i.toNatClampNeg + 2)), .int (xs (i.toNatClampNeg + 1)), .ref b]) (congrArg (fun z => F0 m 1199 ls [.int (xs z), .int (xs (i.toNatClampNeg + 1)), .ref b]) ejx137) ?_
    refine lv_aload_n hx hb dL_law_1199 rfl (lv_at hl 3 rfl) ?_
    refine lv_iload_n hx hb dL_law_1200 rfl (lv_at hl 0 rfl) ?_
    refine lv_iconst (v := 3) hx hb dL_law_1201 (by decide) ?_
    refine lv_iadd hx hb dL_law_1202 ?_
    refine lv_topi (fun x138 ex138 => ?_)
    obtain ⟨tx138, ejx138, evx138⟩ := lw_ix (k := 3) ex138 hI hL rfl (by decide)
    clear tx138
    refine va_sld hx hb hX hbl (Nat.not_le.mpr hbl) hSH107 (vp_in_iff.mpr evx138) dL_law_1203 ?_
    refine W.eq (g2 := F0 m 1204 ls [.int (xs (i.toNatClampNeg + 3)), .int (xs (i.toNatClampNeg + 2)), .int (xs (i.toNatClampNeg + 1)), .ref b]) (congrArg (fun z => F0 m 1204 ls [.int (xs z), .int (xs (i.toNatClampNeg + 2)), .int (xs (i.toNatClampNeg + 1)), .ref b]) ejx138) ?_
    refine lv_aload_n hx hb dL_law_1204 rfl (lv_at hl 3 rfl) ?_
    refine lv_iload_n hx hb dL_law_1205 rfl (lv_at hl 0 rfl) ?_
    refine lv_iconst (v := 4) hx hb dL_law_1206 (by decide) ?_
    refine lv_iadd hx hb dL_law_1207 ?_
    refine lv_topi (fun x139 ex139 => ?_)
    obtain ⟨tx139, ejx139, evx139⟩ := lw_ix (k := 4) ex139 hI hL rfl (by decide)
    clear tx139
    refine va_sld hx hb hX hbl (Nat.not_le.mpr hbl) hSH107 (vp_in_iff.mpr evx139) dL_law_1208 ?_
    refine W.eq (g2 := F0 m 1209 ls [.int (xs (i.toNatClampNeg + 4)), .int (xs (i.toNatClampNeg + 3)), .int (xs (i.toNatClampNeg + 2)), .int (xs (i.toNatClampNeg + 1)), .ref b]) (congrArg (fun z => F0 m 1209 ls [.int (xs z), .int (xs (i.toNatClampNeg + 3)), .int (xs (i.toNatClampNeg + 2)), .int (xs (i.toNatClampNeg + 1)), .ref b]) ejx139) ?_
    refine x_V (As := [.int (xs (i.toNatClampNeg + 1)), .int (xs (i.toNatClampNeg + 2)), .int (xs (i.toNatClampNeg + 3)), .int (xs (i.toNatClampNeg + 4))]) (rest := []) C (a_X10_in l K G H107 ((xs (i.toNatClampNeg + 1))) ((xs (i.toNatClampNeg + 2))) ((xs (i.toNatClampNeg + 3))) ((xs (i.toNatClampNeg + 4))) (y1) hTH107 gb m117 g109 g110 g111 g112) yo_X10_in wM_L_124 ⟨⟨by decide, by decide⟩, show _ ≤ 1200000 from Nat.le_trans hc (by decide), show _ ≤ 5502250 from Nat.le_trans hs (by decide)⟩ (x_rv C hTH107 (ci := 10) rfl gb rg_112) rfl hl.1 rfl (Nat.le_of_ble_eq_true rfl) dL_law_1209 hSH107 (AE_new hN hSH107.1) (fun vH140 H140 locsH140 pH140 zH140 kH140 hSH140 => ?_)
    obtain ⟨x141, hvH140, g142, g143, g144, g145, mf146, hTH140⟩ := pH140
    subst hvH140
    have m147 := (m113).trans (fR_kept (x_lt hTH107 kH140 ga (by decide))).symm
    have m148 := (m114).trans (fI_kept (x_lt hTH107 kH140 ga (by decide))).symm
    have m149 := (m116).trans (fI_kept (x_lt hTH107 kH140 gw (by decide))).symm
    have m150 := (m118).trans (fI_kept (x_lt hTH107 kH140 gw (by decide))).symm
    have m151 := (m120).trans (fI_kept (x_lt hTH107 kH140 gw (by decide))).symm
    have m152 := (m122).trans (fI_kept (x_lt hTH107 kH140 gw (by decide))).symm
    have m153 := (m124).trans (fI_kept (x_lt hTH107 kH140 gw (by decide))).symm
    have m154 := (m126).trans (fI_kept (x_lt hTH107 kH140 gw (by decide))).symm
    have m155 := (m128).trans (fR_kept (x_lt hTH107 kH140 gw (by decide))).symm
    have m156 := (fV_kept (x_lt hTH107 kH140 ga (by decide))).trans m131
    have m157 := (m115).trans (MF.i mf146 (k := 18) (by decide) (by decide)).symm
    have m158 := (m117).trans (MF.i mf146 (k := 1) (by decide) (by decide)).symm
    have m159 := (m119).trans (MF.i mf146 (k := 2) (by decide) (by decide)).symm
    have m160 := (m121).trans (MF.i mf146 (k := 3) (by decide) (by decide)).symm
    have m161 := (m123).trans (MF.i mf146 (k := 59) (by decide) (by decide)).symm
    have m162 := (m125).trans (MF.i mf146 (k := 62) (by decide) (by decide)).symm
    have m163 := (m127).trans (MF.i mf146 (k := 65) (by decide) (by decide)).symm
    have m164 := (m129).trans (MF.r mf146 (k := 50) (by decide) (by decide)).symm
    have m165 := (m130).trans (MF.i mf146 (k := 70) (by decide) (by decide)).symm
    have m166 := (m132).trans (MF.r mf146 (k := 73) (by decide) (by decide)).symm
    refine W.eq (g2 := F0 m 1212 ls [.int x141]) rfl ?_
    have v167 : ∀ j : Nat, j < 10 → cz101 j = fI H140 (fR H140 bq j) (K.1.2 0 14) := fun j h => (v133 j h).trans (by rw [fR_kept (x_lt hTH107 kH140 gbq (by decide))]; exact (fI_kept (x_lt hTH107 kH140 (bar_g hTH107 gbq j h) (by decide))).symm)
    have v168 : ∀ j : Nat, j < 10 → rz102 j = fI H140 aq j := fun j h => (v134 j h).trans (fI_kept (x_lt hTH107 kH140 gaq (by decide))).symm
    have d169 := DB.kept d135 (x_lt hTH107 kH140 gbq (by decide))
    refine lv_pop hx hb dL_law_1212 rfl ?_
    refine lv_goto (tgt := 1509) hx hb dL_law_1213 (by decide) ?_
    exact nx G H140 locsH140 _ _ ls ⟨hTH140, hN, ga, gb, g142, g143, g144, g145, ⟨(by rw [← m148, ← m157]; exact rt), (by rw [← m147, ← m149, ← m158]; exact r1), (by rw [← m147, ← m150, ← m159]; exact r4), (by rw [← m147, ← m151, ← m160]; exact r5), (by rw [← m147, ← m152, ← m161]; exact r10), (by rw [← m147, ← m153, ← m162]; exact r13), (by rw [← m147, ← m154, ← m163]; exact r16)⟩, Or.inl ⟨m156, (by rw [← m165]; exact h70)⟩, (by unfold RB; rw [← m147, ← m155, ← m164, ← m158]; exact ⟨d169, fun j h1 h2 => by rw [← v167 j h1, ← v168 j h1]; exact rel j h1 (by omega), fun j h1 h2 => by rw [← v168 j h1]; exact tl j h1 (by omega)⟩), hSH140⟩ hl ⟨hc, hs, fun _ => ⟨hc0, hs0⟩⟩
  · skip
    obtain ⟨hi, ehi⟩ : ∃ z : Int32, z = fI H b (K.1.2 10 70) := ⟨_, rfl⟩
    rw [← ehi] at h70
    obtain ⟨iq, eiq⟩ : ∃ z : Nat, z = fR H b (K.1.2 10 73) := ⟨_, rfl⟩
    have giq := ty_fr (q := iq) (k := 73) (u := 162) eiq hT gb rg_112 rfl
    rw [← eiq] at q1 q4 q5 q10 q13 q16
    obtain ⟨k1, ek1⟩ : ∃ z : Int32, z = fI H kq (K.1.2 8 1) := ⟨_, rfl⟩
    rw [← ek1] at q1
    obtain ⟨i1, ei1⟩ : ∃ z : Int32, z = fI H iq ((0 : Int32).toNatClampNeg) := ⟨_, rfl⟩
    rw [← ei1] at q1
    obtain ⟨k4, ek4⟩ : ∃ z : Int32, z = fI H kq (K.1.2 8 4) := ⟨_, rfl⟩
    rw [← ek4] at q4
    obtain ⟨i4, ei4⟩ : ∃ z : Int32, z = fI H iq ((1 : Int32).toNatClampNeg) := ⟨_, rfl⟩
    rw [← ei4] at q4
    obtain ⟨k5, ek5⟩ : ∃ z : Int32, z = fI H kq (K.1.2 8 5) := ⟨_, rfl⟩
    rw [← ek5] at q5
    obtain ⟨i5, ei5⟩ : ∃ z : Int32, z = fI H iq ((2 : Int32).toNatClampNeg) := ⟨_, rfl⟩
    rw [← ei5] at q5
    obtain ⟨k10, ek10⟩ : ∃ z : Int32, z = fI H kq (K.1.2 8 10) := ⟨_, rfl⟩
    rw [← ek10] at q10
    obtain ⟨i10, ei10⟩ : ∃ z : Int32, z = fI H iq ((3 : Int32).toNatClampNeg) := ⟨_, rfl⟩
    rw [← ei10] at q10
    obtain ⟨k13, ek13⟩ : ∃ z : Int32, z = fI H kq (K.1.2 8 13) := ⟨_, rfl⟩
    rw [← ek13] at q13
    obtain ⟨i13, ei13⟩ : ∃ z : Int32, z = fI H iq ((4 : Int32).toNatClampNeg) := ⟨_, rfl⟩
    rw [← ei13] at q13
    obtain ⟨k16, ek16⟩ : ∃ z : Int32, z = fI H kq (K.1.2 8 16) := ⟨_, rfl⟩
    rw [← ek16] at q16
    obtain ⟨i16, ei16⟩ : ∃ z : Int32, z = fI H iq ((5 : Int32).toNatClampNeg) := ⟨_, rfl⟩
    rw [← ei16] at q16
    obtain ⟨kb, ekb⟩ : ∃ z : Nat, z = fR H kq (K.1.2 8 0) := ⟨_, rfl⟩
    have gkb := ty_fr (q := kb) (k := 0) (u := 59) ekb hT gkq rg_34 rfl
    have bk1 := ty_fi (x := k1) (k := 1) ek1 hT gkq rg_34 rfl
    rw [← ekb] at dbk
    rw [← ekb, ← eiq, ← ek1] at vk
    rw [← eiq, ← ek1] at vkt
    obtain ⟨kz170, ekz170⟩ : ∃ f : Nat → Int32, ∀ j : Nat, j < 10 → f j = fI H (fR H kb j) (K.1.2 0 14) := ⟨_, fun _ _ => rfl⟩
    obtain ⟨iz171, eiz171⟩ : ∃ f : Nat → Int32, ∀ j : Nat, j < 10 → f j = fI H iq (11 + 6 * j) := ⟨_, fun _ _ => rfl⟩
    have vk0 : ∀ j : Nat, j < 10 → (j : Int) < k1.toInt → kz170 j = iz171 j := fun j h1 h2 => by rw [ekz170 j h1, eiz171 j h1]; exact vk j h1 h2
    clear vk
    have vk1 : ∀ j : Nat, j < 10 → k1.toInt ≤ (j : Int) → iz171 j = 0 := fun j h1 h2 => by rw [eiz171 j h1]; exact vkt j h1 h2
    clear vkt
    refine lv_aload_n hx hb dL_law_1163 rfl (lv_at hl 2 rfl) ?_
    refine lv_aload_n hx hb dL_law_1164 rfl (lv_at hl 3 rfl) ?_
    refine lv_iload_n hx hb dL_law_1165 rfl (lv_at hl 0 rfl) ?_
    refine lv_iconst (v := 1) hx hb dL_law_1166 (by decide) ?_
    refine lv_iadd hx hb dL_law_1167 ?_
    refine lv_topi (fun x172 ex172 => ?_)
    obtain ⟨tx172, ejx172, evx172⟩ := lw_ix (k := 1) ex172 hI hL rfl (by decide)
    clear tx172
    refine va_sld hx hb hX hbl (Nat.not_le.mpr hbl) hS (vp_in_iff.mpr evx172) dL_law_1168 ?_
    refine W.eq (g2 := F0 m 1169 ls [.int (xs (i.toNatClampNeg + 1)), .ref a]) (congrArg (fun z => F0 m 1169 ls [.int (xs z), .ref a]) ejx172) ?_
    refine lv_aload_n hx hb dL_law_1169 rfl (lv_at hl 3 rfl) ?_
    refine lv_iload_n hx hb dL_law_1170 rfl (lv_at hl 0 rfl) ?_
    refine lv_iconst (v := 2) hx hb dL_law_1171 (by decide) ?_
    refine lv_iadd hx hb dL_law_1172 ?_
    refine lv_topi (fun x173 ex173 => ?_)
    obtain ⟨tx173, ejx173, evx173⟩ := lw_ix (k := 2) ex173 hI hL rfl (by decide)
    clear tx173
    refine va_sld hx hb hX hbl (Nat.not_le.mpr hbl) hS (vp_in_iff.mpr evx173) dL_law_1173 ?_
    refine W.eq (g2 := F0 m 1174 ls [.int (xs (i.toNatClampNeg + 2)), .int (xs (i.toNatClampNeg + 1)), .ref a]) (congrArg (fun z => F0 m 1174 ls [.int (xs z), .int (xs (i.toNatClampNeg + 1)), .ref a]) ejx173) ?_
    refine lv_aload_n hx hb dL_law_1174 rfl (lv_at hl 3 rfl) ?_
    refine lv_iload_n hx hb dL_law_1175 rfl (lv_at hl 0 rfl) ?_
    refine lv_iconst (v := 3) hx hb dL_law_1176 (by decide) ?_
    refine lv_iadd hx hb dL_law_1177 ?_
    refine lv_topi (fun x174 ex174 => ?_)
    obtain ⟨tx174, ejx174, evx174⟩ := lw_ix (k := 3) ex174 hI hL rfl (by decide)
    clear tx174
    refine va_sld hx hb hX hbl (Nat.not_le.mpr hbl) hS (vp_in_iff.mpr evx174) dL_law_1178 ?_
    refine W.eq (g2 := F0 m 1179 ls [.int (xs (i.toNatClampNeg + 3)), .int (xs (i.toNatClampNeg + 2)), .int (xs (i.toNatClampNeg + 1)), .ref a]) (congrArg (fun z => F0 m 1179 ls [.int (xs z), .int (xs (i.toNatClampNeg + 2)), .int (xs (i.toNatClampNeg + 1)), .ref a]) ejx174) ?_
    refine lv_aload_n hx hb dL_law_1179 rfl (lv_at hl 3 rfl) ?_
    refine lv_iload_n hx hb dL_law_1180 rfl (lv_at hl 0 rfl) ?_
    refine lv_iconst (v := 4) hx hb dL_law_1181 (by decide) ?_
    refine lv_iadd hx hb dL_law_1182 ?_
    refine lv_topi (fun x175 ex175 => ?_)
    obtain ⟨tx175, ejx175, evx175⟩ := lw_ix (k := 4) ex175 hI hL rfl (by decide)
    clear tx175
    refine va_sld hx hb hX hbl (Nat.not_le.mpr hbl) hS (vp_in_iff.mpr evx175) dL_law_1183 ?_
    refine W.eq (g2 := F0 m 1184 ls [.int (xs (i.toNatClampNeg + 4)), .int (xs (i.toNatClampNeg + 3)), .int (xs (i.toNatClampNeg + 2)), .int (xs (i.toNatClampNeg + 1)), .ref a]) (congrArg (fun z => F0 m 1184 ls [.int (xs z), .int (xs (i.toNatClampNeg + 3)), .int (xs (i.toNatClampNeg + 2)), .int (xs (i.toNatClampNeg + 1)), .ref a]) ejx175) ?_
    refine x_V (As := [.int (xs (i.toNatClampNeg + 1)), .int (xs (i.toNatClampNeg + 2)), .int (xs (i.toNatClampNeg + 3)), .int (xs (i.toNatClampNeg + 4))]) (rest := []) C (a_X9_in l K G H ((xs (i.toNatClampNeg + 1))) ((xs (i.toNatClampNeg + 2))) ((xs (i.toNatClampNeg + 3))) ((xs (i.toNatClampNeg + 4))) hT ga) yo_X9_in wM_L_121 ⟨⟨by decide, by decide⟩, show _ ≤ 1200000 from Nat.le_trans hc (by decide), show _ ≤ 5502250 from Nat.le_trans hs (by decide)⟩ (x_rv C hT (ci := 9) rfl ga rg_68) rfl hl.1 rfl (Nat.le_of_ble_eq_true rfl) dL_law_1184 hS (AE_new hN hS.1) (fun vH176 H176 locsH176 pH176 zH176 kH176 hSH176 => ?_)
    obtain ⟨x177, hvH176, hTH176⟩ := pH176
    subst hvH176
    have g178 : CG (avw K H176 b) := CG.congr (fun k hk j => av_eff hT kH176 gb (by decide) (CG_eff [83, 84] (by decide) k hk)) cg
    have g179 : TU (avw K H176 b) (svw K H176 b) := TU.congr (fun k hk j => av_eff hT kH176 gb (by decide) (TU_eff [83, 84] (by decide) k hk)) (fun k hk => sv_eff hT kH176 gb (by decide)) tu
    have g180 : WD (avw K H176 b) := WD.congr (fun k hk j => av_eff hT kH176 gb (by decide) (WD_eff [83, 84] (by decide) k hk)) wd
    have g181 : IM (avw K H176 b) := IM.congr (fun k hk j => av_eff hT kH176 gb (by decide) (IM_eff [83, 84] (by decide) k hk)) im
    have m182 := (ew).trans (fR_kept (x_lt hT kH176 ga (by decide))).symm
    have m183 := (eta).trans (fI_kept (x_lt hT kH176 ga (by decide))).symm
    have m184 := (etb).trans (fI_kept (x_lt hT kH176 gb (by decide))).symm
    have m185 := (es1).trans (fI_kept (x_lt hT kH176 gw (by decide))).symm
    have m186 := (ey1).trans (fI_kept (x_lt hT kH176 gb (by decide))).symm
    have m187 := (es4).trans (fI_kept (x_lt hT kH176 gw (by decide))).symm
    have m188 := (ey4).trans (fI_kept (x_lt hT kH176 gb (by decide))).symm
    have m189 := (es5).trans (fI_kept (x_lt hT kH176 gw (by decide))).symm
    have m190 := (ey5).trans (fI_kept (x_lt hT kH176 gb (by decide))).symm
    have m191 := (es10).trans (fI_kept (x_lt hT kH176 gw (by decide))).symm
    have m192 := (ey10).trans (fI_kept (x_lt hT kH176 gb (by decide))).symm
    have m193 := (es13).trans (fI_kept (x_lt hT kH176 gw (by decide))).symm
    have m194 := (ey13).trans (fI_kept (x_lt hT kH176 gb (by decide))).symm
    have m195 := (es16).trans (fI_kept (x_lt hT kH176 gw (by decide))).symm
    have m196 := (ey16).trans (fI_kept (x_lt hT kH176 gb (by decide))).symm
    have m197 := (ebq).trans (fR_kept (x_lt hT kH176 gw (by decide))).symm
    have m198 := (eaq).trans (fR_kept (x_lt hT kH176 gb (by decide))).symm
    have m199 := (ehi).trans (fI_kept (x_lt hT kH176 gb (by decide))).symm
    have m200 := (fV_kept (x_lt hT kH176 ga (by decide))).trans kn
    have m201 := (eiq).trans (fR_kept (x_lt hT kH176 gb (by decide))).symm
    have m202 := (ek1).trans (fI_kept (x_lt hT kH176 gkq (by decide))).symm
    have m203 := (ei1).trans (fI_kept (x_lt hT kH176 giq (by decide))).symm
    have m204 := (ek4).trans (fI_kept (x_lt hT kH176 gkq (by decide))).symm
    have m205 := (ei4).trans (fI_kept (x_lt hT kH176 giq (by decide))).symm
    have m206 := (ek5).trans (fI_kept (x_lt hT kH176 gkq (by decide))).symm
    have m207 := (ei5).trans (fI_kept (x_lt hT kH176 giq (by decide))).symm
    have m208 := (ek10).trans (fI_kept (x_lt hT kH176 gkq (by decide))).symm
    have m209 := (ei10).trans (fI_kept (x_lt hT kH176 giq (by decide))).symm
    have m210 := (ek13).trans (fI_kept (x_lt hT kH176 gkq (by decide))).symm
    have m211 := (ei13).trans (fI_kept (x_lt hT kH176 giq (by decide))).symm
    have m212 := (ek16).trans (fI_kept (x_lt hT kH176 gkq (by decide))).symm
    have m213 := (ei16).trans (fI_kept (x_lt hT kH176 giq (by decide))).symm
    have m214 := (ekb).trans (fR_kept (x_lt hT kH176 gkq (by decide))).symm
    refine W.eq (g2 := F0 m 1187 ls [.int x177]) rfl ?_
    have v215 : ∀ j : Nat, j < 10 → cz101 j = fI H176 (fR H176 bq j) (K.1.2 0 14) := fun j h => (ecz101 j h).trans (by rw [fR_kept (x_lt hT kH176 gbq (by decide))]; exact (fI_kept (x_lt hT kH176 (bar_g hT gbq j h) (by decide))).symm)
    have v216 : ∀ j : Nat, j < 10 → rz102 j = fI H176 aq j := fun j h => (erz102 j h).trans (fI_kept (x_lt hT kH176 gaq (by decide))).symm
    have v217 : ∀ j : Nat, j < 10 → kz170 j = fI H176 (fR H176 kb j) (K.1.2 0 14) := fun j h => (ekz170 j h).trans (by rw [fR_kept (x_lt hT kH176 gkb (by decide))]; exact (fI_kept (x_lt hT kH176 (bar_h hT gkb j h) (by decide))).symm)
    have d218 := DB.kept dbk (x_lt hT kH176 gkb (by decide))
    have v219 : ∀ j : Nat, j < 10 → iz171 j = fI H176 iq (11 + 6 * j) := fun j h => (eiz171 j h).trans (fI_kept (x_lt hT kH176 giq (by decide))).symm
    have d220 := DB.kept db (x_lt hT kH176 gbq (by decide))
    refine lv_pop hx hb dL_law_1187 rfl ?_
    refine lv_aload_n hx hb dL_law_1188 rfl (lv_at hl 1 rfl) ?_
    refine lv_aload_n hx hb dL_law_1189 rfl (lv_at hl 3 rfl) ?_
    refine lv_iload_n hx hb dL_law_1190 rfl (lv_at hl 0 rfl) ?_
    refine lv_iconst (v := 1) hx hb dL_law_1191 (by decide) ?_
    refine lv_iadd hx hb dL_law_1192 ?_
    refine lv_topi (fun x221 ex221 => ?_)
    obtain ⟨tx221, ejx221, evx221⟩ := lw_ix (k := 1) ex221 hI hL rfl (by decide)
    clear tx221
    refine va_sld hx hb hX hbl (Nat.not_le.mpr hbl) hSH176 (vp_in_iff.mpr evx221) dL_law_1193 ?_
    refine W.eq (g2 := F0 m 1194 ls [.int (xs (i.toNatClampNeg + 1)), .ref b]) (congrArg (fun z => F0 m 1194 ls [.int (xs z), .ref b]) ejx221) ?_
    refine lv_aload_n hx hb dL_law_1194 rfl (lv_at hl 3 rfl) ?_
    refine lv_iload_n hx hb dL_law_1195 rfl (lv_at hl 0 rfl) ?_
    refine lv_iconst (v := 2) hx hb dL_law_1196 (by decide) ?_
    refine lv_iadd hx hb dL_law_1197 ?_
    refine lv_topi (fun x222 ex222 => ?_)
    obtain ⟨tx222, ejx222, evx222⟩ := lw_ix (k := 2) ex222 hI hL rfl (by decide)
    clear tx222
    refine va_sld hx hb hX hbl (Nat.not_le.mpr hbl) hSH176 (vp_in_iff.mpr evx222) dL_law_1198 ?_
    refine W.eq (g2 := F0 m 1199 ls [.int (xs (i.toNatClampNeg + 2)), .int (xs (i.toNatClampNeg + 1)), .ref b]) (congrArg (fun z => F0 m 1199 ls [.int (xs z), .int (xs (i.toNatClampNeg + 1)), .ref b]) ejx222) ?_
    refine lv_aload_n hx hb dL_law_1199 rfl (lv_at hl 3 rfl) ?_
    refine lv_iload_n hx hb dL_law_1200 rfl (lv_at hl 0 rfl) ?_
    refine lv_iconst (v := 3) hx hb dL_law_1201 (by decide) ?_
    refine lv_iadd hx hb dL_law_1202 ?_
    refine lv_topi (fun x223 ex223 => ?_)
    obtain ⟨tx223, ejx223, evx223⟩ := lw_ix (k := 3) ex223 hI hL rfl (by decide)
    clear tx223
    refine va_sld hx hb hX hbl (Nat.not_le.mpr hbl) hSH176 (vp_in_iff.mpr evx223) dL_law_1203 ?_
    refine W.eq (g2 := F0 m 1204 ls [.int (xs (i.toNatClampNeg + 3)), .int (xs (i.toNatClampNeg + 2)), .int (xs (i.toNatClampNeg + 1)), .ref b]) (congrArg (fun z => F0 m 1204 ls [.int (xs z), .int (xs (i.toNatClampNeg + 2)), .int (xs (i.toNatClampNeg + 1)), .ref b]) ejx223) ?_
    refine lv_aload_n hx hb dL_law_1204 rfl (lv_at hl 3 rfl) ?_
    refine lv_iload_n hx hb dL_law_1205 rfl (lv_at hl 0 rfl) ?_
    refine lv_iconst (v := 4) hx hb dL_law_1206 (by decide) ?_
    refine lv_iadd hx hb dL_law_1207 ?_
    refine lv_topi (fun x224 ex224 => ?_)
    obtain ⟨tx224, ejx224, evx224⟩ := lw_ix (k := 4) ex224 hI hL rfl (by decide)
    clear tx224
    refine va_sld hx hb hX hbl (Nat.not_le.mpr hbl) hSH176 (vp_in_iff.mpr evx224) dL_law_1208 ?_
    refine W.eq (g2 := F0 m 1209 ls [.int (xs (i.toNatClampNeg + 4)), .int (xs (i.toNatClampNeg + 3)), .int (xs (i.toNatClampNeg + 2)), .int (xs (i.toNatClampNeg + 1)), .ref b]) (congrArg (fun z => F0 m 1209 ls [.int (xs z), .int (xs (i.toNatClampNeg + 3)), .int (xs (i.toNatClampNeg + 2)), .int (xs (i.toNatClampNeg + 1)), .ref b]) ejx224) ?_
    refine x_V (As := [.int (xs (i.toNatClampNeg + 1)), .int (xs (i.toNatClampNeg + 2)), .int (xs (i.toNatClampNeg + 3)), .int (xs (i.toNatClampNeg + 4))]) (rest := []) C (a_X10_in l K G H176 ((xs (i.toNatClampNeg + 1))) ((xs (i.toNatClampNeg + 2))) ((xs (i.toNatClampNeg + 3))) ((xs (i.toNatClampNeg + 4))) (y1) hTH176 gb m186 g178 g179 g180 g181) yo_X10_in wM_L_124 ⟨⟨by decide, by decide⟩, show _ ≤ 1200000 from Nat.le_trans hc (by decide), show _ ≤ 5502250 from Nat.le_trans hs (by decide)⟩ (x_rv C hTH176 (ci := 10) rfl gb rg_112) rfl hl.1 rfl (Nat.le_of_ble_eq_true rfl) dL_law_1209 hSH176 (AE_new hN hSH176.1) (fun vH225 H225 locsH225 pH225 zH225 kH225 hSH225 => ?_)
    obtain ⟨x226, hvH225, g227, g228, g229, g230, mf231, hTH225⟩ := pH225
    subst hvH225
    have m232 := (m182).trans (fR_kept (x_lt hTH176 kH225 ga (by decide))).symm
    have m233 := (m183).trans (fI_kept (x_lt hTH176 kH225 ga (by decide))).symm
    have m234 := (m185).trans (fI_kept (x_lt hTH176 kH225 gw (by decide))).symm
    have m235 := (m187).trans (fI_kept (x_lt hTH176 kH225 gw (by decide))).symm
    have m236 := (m189).trans (fI_kept (x_lt hTH176 kH225 gw (by decide))).symm
    have m237 := (m191).trans (fI_kept (x_lt hTH176 kH225 gw (by decide))).symm
    have m238 := (m193).trans (fI_kept (x_lt hTH176 kH225 gw (by decide))).symm
    have m239 := (m195).trans (fI_kept (x_lt hTH176 kH225 gw (by decide))).symm
    have m240 := (m197).trans (fR_kept (x_lt hTH176 kH225 gw (by decide))).symm
    have m241 := (fV_kept (x_lt hTH176 kH225 ga (by decide))).trans m200
    have m242 := (m202).trans (fI_kept (x_lt hTH176 kH225 gkq (by decide))).symm
    have m243 := (m203).trans (fI_kept (x_lt hTH176 kH225 giq (by decide))).symm
    have m244 := (m204).trans (fI_kept (x_lt hTH176 kH225 gkq (by decide))).symm
    have m245 := (m205).trans (fI_kept (x_lt hTH176 kH225 giq (by decide))).symm
    have m246 := (m206).trans (fI_kept (x_lt hTH176 kH225 gkq (by decide))).symm
    have m247 := (m207).trans (fI_kept (x_lt hTH176 kH225 giq (by decide))).symm
    have m248 := (m208).trans (fI_kept (x_lt hTH176 kH225 gkq (by decide))).symm
    have m249 := (m209).trans (fI_kept (x_lt hTH176 kH225 giq (by decide))).symm
    have m250 := (m210).trans (fI_kept (x_lt hTH176 kH225 gkq (by decide))).symm
    have m251 := (m211).trans (fI_kept (x_lt hTH176 kH225 giq (by decide))).symm
    have m252 := (m212).trans (fI_kept (x_lt hTH176 kH225 gkq (by decide))).symm
    have m253 := (m213).trans (fI_kept (x_lt hTH176 kH225 giq (by decide))).symm
    have m254 := (m214).trans (fR_kept (x_lt hTH176 kH225 gkq (by decide))).symm
    have m255 := (m184).trans (MF.i mf231 (k := 18) (by decide) (by decide)).symm
    have m256 := (m186).trans (MF.i mf231 (k := 1) (by decide) (by decide)).symm
    have m257 := (m188).trans (MF.i mf231 (k := 2) (by decide) (by decide)).symm
    have m258 := (m190).trans (MF.i mf231 (k := 3) (by decide) (by decide)).symm
    have m259 := (m192).trans (MF.i mf231 (k := 59) (by decide) (by decide)).symm
    have m260 := (m194).trans (MF.i mf231 (k := 62) (by decide) (by decide)).symm
    have m261 := (m196).trans (MF.i mf231 (k := 65) (by decide) (by decide)).symm
    have m262 := (m198).trans (MF.r mf231 (k := 50) (by decide) (by decide)).symm
    have m263 := (m199).trans (MF.i mf231 (k := 70) (by decide) (by decide)).symm
    have m264 := (m201).trans (MF.r mf231 (k := 73) (by decide) (by decide)).symm
    refine W.eq (g2 := F0 m 1212 ls [.int x226]) rfl ?_
    have v265 : ∀ j : Nat, j < 10 → cz101 j = fI H225 (fR H225 bq j) (K.1.2 0 14) := fun j h => (v215 j h).trans (by rw [fR_kept (x_lt hTH176 kH225 gbq (by decide))]; exact (fI_kept (x_lt hTH176 kH225 (bar_g hTH176 gbq j h) (by decide))).symm)
    have v266 : ∀ j : Nat, j < 10 → rz102 j = fI H225 aq j := fun j h => (v216 j h).trans (fI_kept (x_lt hTH176 kH225 gaq (by decide))).symm
    have v267 : ∀ j : Nat, j < 10 → kz170 j = fI H225 (fR H225 kb j) (K.1.2 0 14) := fun j h => (v217 j h).trans (by rw [fR_kept (x_lt hTH176 kH225 gkb (by decide))]; exact (fI_kept (x_lt hTH176 kH225 (bar_h hTH176 gkb j h) (by decide))).symm)
    have d268 := DB.kept d218 (x_lt hTH176 kH225 gkb (by decide))
    have v269 : ∀ j : Nat, j < 10 → iz171 j = fI H225 iq (11 + 6 * j) := fun j h => (v219 j h).trans (fI_kept (x_lt hTH176 kH225 giq (by decide))).symm
    have d270 := DB.kept d220 (x_lt hTH176 kH225 gbq (by decide))
    refine lv_pop hx hb dL_law_1212 rfl ?_
    refine lv_goto (tgt := 1509) hx hb dL_law_1213 (by decide) ?_
    exact nx G H225 locsH225 _ _ ls ⟨hTH225, hN, ga, gb, g227, g228, g229, g230, ⟨(by rw [← m233, ← m255]; exact rt), (by rw [← m232, ← m234, ← m256]; exact r1), (by rw [← m232, ← m235, ← m257]; exact r4), (by rw [← m232, ← m236, ← m258]; exact r5), (by rw [← m232, ← m237, ← m259]; exact r10), (by rw [← m232, ← m238, ← m260]; exact r13), (by rw [← m232, ← m239, ← m261]; exact r16)⟩, Or.inr ⟨kq, m241, gkq, (by rw [← m263]; exact h70), (by rw [← m242, ← m264, ← m243]; exact q1), (by rw [← m244, ← m264, ← m245]; exact q4), (by rw [← m246, ← m264, ← m247]; exact q5), (by rw [← m248, ← m264, ← m249]; exact q10), (by rw [← m250, ← m264, ← m251]; exact q13), (by rw [← m252, ← m264, ← m253]; exact q16), (by rw [← m254]; exact d268), (by rw [← m254, ← m264, ← m242]; exact fun j h1 h2 => by rw [← v267 j h1, ← v269 j h1]; exact vk0 j h1 (by omega)), (by rw [← m264, ← m242]; exact fun j h1 h2 => by rw [← v269 j h1]; exact vk1 j h1 (by omega))⟩, (by unfold RB; rw [← m232, ← m240, ← m262, ← m256]; exact ⟨d270, fun j h1 h2 => by rw [← v265 j h1, ← v266 j h1]; exact rel j h1 (by omega), fun j h1 h2 => by rw [← v266 j h1]; exact tl j h1 (by omega)⟩), hSH225⟩ hl ⟨hc, hs, fun h => by have h1 := h.symm.trans m241; cases h1⟩
set_option maxRecDepth 100000 in
set_option maxHeartbeats 8000000 in
theorem lw_c26 {p : Program} {l : Launch} {e : Env} {s : State} {m : MethodId} {below : List Frame} {meth : Method} {c : Code} {K : KE} {b0 L : Nat} {xs : Nat → Int32} {G : Nat → Option Nat} {H : Heap} {locs : List Loc} {a b : Nat} {cells slots : Nat} {ls : Array Slot} {i : Int32} {n : Nat} (D : LC p K s m meth c b0 L xs) (S : SX K s G H locs a b) (hl : lv_has ls 4 [(3, .int i), (2, .ref b), (1, .ref a), (0, .ref b0)]) (hi : 0 ≤ i.toInt ∧ i.toInt + 6 ≤ L) (hn : n ≤ 511) (hB : BD K H a cells slots) (nx : ∀ (G : Nat → Option Nat) (H : Heap) (locs : List Loc) (cells slots : Nat) (ls : Array Slot), SX K s G H locs a b → lv_has ls 4 [(3, .int i), (2, .ref b), (1, .ref a), (0, .ref b0)] → BD K H a cells slots → W p l e room_1 s m #[Value.ref b0] below meth c H locs cells slots (lw_Z below #[Value.ref b0] s) (F0 m 1509 ls [])) : W p l e room_1 s m #[Value.ref b0] below meth c H locs cells slots (lw_Z below #[Value.ref b0] s) (F0 m 1216 ls []) := by
  have hI := hi
  obtain ⟨C, hX, hbl, hL⟩ := id D
  obtain ⟨hx, hb, hml, hown, hts, hKT, hr, hlocks, hnm⟩ := id C
  obtain ⟨hT, hN, ga, gb, cg, tu, wd, im, ⟨rt, r1, r4, r5, r10, r13, r16⟩, hk, hrb, hS⟩ := S
  obtain ⟨hc, hs, hB0⟩ := hB
  have n_m1 : ((-1) : Int32).toInt = -1 := rfl
  have n_0 : (0 : Int32).toInt = 0 := rfl
  have n_1 : (1 : Int32).toInt = 1 := rfl
  have n_2 : (2 : Int32).toInt = 2 := rfl
  obtain ⟨w, ew⟩ : ∃ z : Nat, z = fR H a (K.1.2 9 0) := ⟨_, rfl⟩
  have gw := ty_fr (q := w) (k := 0) (u := 0) ew hT ga rg_68 rfl
  rw [← ew] at r1 r4 r5 r10 r13 r16
  obtain ⟨ta, eta⟩ : ∃ z : Int32, z = fI H a (K.1.2 9 3) := ⟨_, rfl⟩
  rw [← eta] at rt
  obtain ⟨tb, etb⟩ : ∃ z : Int32, z = fI H b (K.1.2 10 18) := ⟨_, rfl⟩
  rw [← etb] at rt
  obtain ⟨s1, es1⟩ : ∃ z : Int32, z = fI H w (K.1.2 8 1) := ⟨_, rfl⟩
  rw [← es1] at r1
  obtain ⟨y1, ey1⟩ : ∃ z : Int32, z = fI H b (K.1.2 10 1) := ⟨_, rfl⟩
  rw [← ey1] at r1
  obtain ⟨s4, es4⟩ : ∃ z : Int32, z = fI H w (K.1.2 8 4) := ⟨_, rfl⟩
  rw [← es4] at r4
  obtain ⟨y4, ey4⟩ : ∃ z : Int32, z = fI H b (K.1.2 10 2) := ⟨_, rfl⟩
  rw [← ey4] at r4
  obtain ⟨s5, es5⟩ : ∃ z : Int32, z = fI H w (K.1.2 8 5) := ⟨_, rfl⟩
  rw [← es5] at r5
  obtain ⟨y5, ey5⟩ : ∃ z : Int32, z = fI H b (K.1.2 10 3) := ⟨_, rfl⟩
  rw [← ey5] at r5
  obtain ⟨s10, es10⟩ : ∃ z : Int32, z = fI H w (K.1.2 8 10) := ⟨_, rfl⟩
  rw [← es10] at r10
  obtain ⟨y10, ey10⟩ : ∃ z : Int32, z = fI H b (K.1.2 10 59) := ⟨_, rfl⟩
  rw [← ey10] at r10
  obtain ⟨s13, es13⟩ : ∃ z : Int32, z = fI H w (K.1.2 8 13) := ⟨_, rfl⟩
  rw [← es13] at r13
  obtain ⟨y13, ey13⟩ : ∃ z : Int32, z = fI H b (K.1.2 10 62) := ⟨_, rfl⟩
  rw [← ey13] at r13
  obtain ⟨s16, es16⟩ : ∃ z : Int32, z = fI H w (K.1.2 8 16) := ⟨_, rfl⟩
  rw [← es16] at r16
  obtain ⟨y16, ey16⟩ : ∃ z : Int32, z = fI H b (K.1.2 10 65) := ⟨_, rfl⟩
  rw [← ey16] at r16
  obtain ⟨bq, ebq⟩ : ∃ z : Nat, z = fR H w (K.1.2 8 0) := ⟨_, rfl⟩
  have gbq := ty_fr (q := bq) (k := 0) (u := 25) ebq hT gw rg_0 rfl
  obtain ⟨aq, eaq⟩ : ∃ z : Nat, z = fR H b (K.1.2 10 50) := ⟨_, rfl⟩
  have gaq := ty_fr (q := aq) (k := 50) (u := 146) eaq hT gb rg_112 rfl
  have bs1 := ty_fi (x := s1) (k := 1) es1 hT gw rg_0 rfl
  have by1 := ty_fi (x := y1) (k := 1) ey1 hT gb rg_112 rfl
  obtain ⟨db, vr, vt⟩ := hrb
  rw [← ew, ← ebq] at db
  rw [← ew, ← ebq, ← eaq, ← ey1] at vr
  rw [← eaq, ← ey1] at vt
  obtain ⟨cz101, ecz101⟩ : ∃ f : Nat → Int32, ∀ j : Nat, j < 10 → f j = fI H (fR H bq j) (K.1.2 0 14) := ⟨_, fun _ _ => rfl⟩
  obtain ⟨rz102, erz102⟩ : ∃ f : Nat → Int32, ∀ j : Nat, j < 10 → f j = fI H aq j := ⟨_, fun _ _ => rfl⟩
  have rel : ∀ j : Nat, j < 10 → (j : Int) < y1.toInt → cz101 j = rz102 j := fun j h1 h2 => by rw [ecz101 j h1, erz102 j h1]; exact vr j h1 h2
  clear vr
  have tl : ∀ j : Nat, j < 10 → y1.toInt ≤ (j : Int) → rz102 j = 0 := fun j h1 h2 => by rw [erz102 j h1]; exact vt j h1 h2
  clear vt
  rcases hk with ⟨kn, h70⟩ | ⟨kq, kn, gkq, h70, q1, q4, q5, q10, q13, q16, dbk, vk, vkt⟩
  · skip
    obtain ⟨hi, ehi⟩ : ∃ z : Int32, z = fI H b (K.1.2 10 70) := ⟨_, rfl⟩
    rw [← ehi] at h70
    obtain ⟨hc0, hs0⟩ := hB0 kn
    obtain ⟨iq, eiq⟩ : ∃ z : Nat, z = fR H b (K.1.2 10 73) := ⟨_, rfl⟩
    have giq := ty_fr (q := iq) (k := 73) (u := 162) eiq hT gb rg_112 rfl
    refine lv_aload_n hx hb dL_law_1216 rfl (lv_at hl 2 rfl) ?_
    refine lv_aload_n hx hb dL_law_1217 rfl (lv_at hl 3 rfl) ?_
    refine lv_iload_n hx hb dL_law_1218 rfl (lv_at hl 0 rfl) ?_
    refine lv_iconst (v := 1) hx hb dL_law_1219 (by decide) ?_
    refine lv_iadd hx hb dL_law_1220 ?_
    refine lv_topi (fun x103 ex103 => ?_)
    obtain ⟨tx103, ejx103, evx103⟩ := lw_ix (k := 1) ex103 hI hL rfl (by decide)
    clear tx103
    refine va_sld hx hb hX hbl (Nat.not_le.mpr hbl) hS (vp_in_iff.mpr evx103) dL_law_1221 ?_
    refine W.eq (g2 := F0 m 1222 ls [.int (xs (i.toNatClampNeg + 1)), .ref a]) (congrArg (fun z => F0 m 1222 ls [.int (xs z), .ref a]) ejx103) ?_
    refine lv_aload_n hx hb dL_law_1222 rfl (lv_at hl 3 rfl) ?_
    refine lv_iload_n hx hb dL_law_1223 rfl (lv_at hl 0 rfl) ?_
    refine lv_iconst (v := 2) hx hb dL_law_1224 (by decide) ?_
    refine lv_iadd hx hb dL_law_1225 ?_
    refine lv_topi (fun x104 ex104 => ?_)
    obtain ⟨tx104, ejx104, evx104⟩ := lw_ix (k := 2) ex104 hI hL rfl (by decide)
    clear tx104
    refine va_sld hx hb hX hbl (Nat.not_le.mpr hbl) hS (vp_in_iff.mpr evx104) dL_law_1226 ?_
    refine W.eq (g2 := F0 m 1227 ls [.int (xs (i.toNatClampNeg + 2)), .int (xs (i.toNatClampNeg + 1)), .ref a]) (congrArg (fun z => F0 m 1227 ls [.int (xs z), .int (xs (i.toNatClampNeg + 1)), .ref a]) ejx104) ?_
    refine x_V (As := [.int (xs (i.toNatClampNeg + 1)), .int (xs (i.toNatClampNeg + 2))]) (rest := []) C (a_X9_night_r l K G H ((xs (i.toNatClampNeg + 1))) ((xs (i.toNatClampNeg + 2))) (s1) (s4) (s5) (s10) (s13) (s16) hT ga gw ew gbq ebq es1 es4 es5 es10 es13 es16) yo_X9_night wM_L_125 ⟨⟨by decide, by decide⟩, show _ ≤ 1200000 from Nat.le_trans hc (by decide), show _ ≤ 5502250 from Nat.le_trans hs (by decide)⟩ (x_rv C hT (ci := 9) rfl ga rg_68) rfl hl.1 rfl (Nat.le_of_ble_eq_true rfl) dL_law_1227 hS (AE_new hN hS.1) (fun vH105 H105 locsH105 pH105 zH105 kH105 hSH105 => ?_)
    obtain ⟨x106, x107, x108, x109, x110, x111, x112, hvH105, ex107, ex108, ex109, ex110, ex111, ex112, hrH105, m113, hTH105⟩ := pH105
    subst hvH105
    have g114 : CG (avw K H105 b) := CG.congr (fun k hk j => av_eff hT kH105 gb (by decide) (CG_eff [0, 28, 29] (by decide) k hk)) cg
    have g115 : TU (avw K H105 b) (svw K H105 b) := TU.congr (fun k hk j => av_eff hT kH105 gb (by decide) (TU_eff [0, 28, 29] (by decide) k hk)) (fun k hk => sv_eff hT kH105 gb (by decide)) tu
    have g116 : WD (avw K H105 b) := WD.congr (fun k hk j => av_eff hT kH105 gb (by decide) (WD_eff [0, 28, 29] (by decide) k hk)) wd
    have g117 : IM (avw K H105 b) := IM.congr (fun k hk j => av_eff hT kH105 gb (by decide) (IM_eff [0, 28, 29] (by decide) k hk)) im
    have m118 := (ew).trans (fR_kept (x_lt hT kH105 ga (by decide))).symm
    have m119 := (eta).trans (fI_kept (x_lt hT kH105 ga (by decide))).symm
    have m120 := (etb).trans (fI_kept (x_lt hT kH105 gb (by decide))).symm
    have m121 := (ey1).trans (fI_kept (x_lt hT kH105 gb (by decide))).symm
    have m122 := (ey4).trans (fI_kept (x_lt hT kH105 gb (by decide))).symm
    have m123 := (ey5).trans (fI_kept (x_lt hT kH105 gb (by decide))).symm
    have m124 := (ey10).trans (fI_kept (x_lt hT kH105 gb (by decide))).symm
    have m125 := (ey13).trans (fI_kept (x_lt hT kH105 gb (by decide))).symm
    have m126 := (ey16).trans (fI_kept (x_lt hT kH105 gb (by decide))).symm
    have m127 := (eaq).trans (fR_kept (x_lt hT kH105 gb (by decide))).symm
    have m128 := (ehi).trans (fI_kept (x_lt hT kH105 gb (by decide))).symm
    have m129 := (fV_kept (x_lt hT kH105 ga (by decide))).trans kn
    have m130 := (eiq).trans (fR_kept (x_lt hT kH105 gb (by decide))).symm
    have bx107 := ty_fi (x := x107) (k := 1) ex107 hTH105 gw rg_0 rfl
    have bx108 := ty_fi (x := x108) (k := 4) ex108 hTH105 gw rg_0 rfl
    have bx109 := ty_fi (x := x109) (k := 5) ex109 hTH105 gw rg_0 rfl
    have bx110 := ty_fi (x := x110) (k := 10) ex110 hTH105 gw rg_0 rfl
    have bx111 := ty_fi (x := x111) (k := 13) ex111 hTH105 gw rg_0 rfl
    have bx112 := ty_fi (x := x112) (k := 16) ex112 hTH105 gw rg_0 rfl
    refine W.eq (g2 := F0 m 1230 ls [.int x106]) rfl ?_
    have v131 : ∀ j : Nat, j < 10 → cz101 j = fI H105 (fR H105 bq j) (K.1.2 0 14) := fun j h => (ecz101 j h).trans (by rw [fR_kept (x_lt hT kH105 gbq (by decide))]; exact (fI_kept (x_lt hT kH105 (bar_g hT gbq j h) (by decide))).symm)
    have v132 : ∀ j : Nat, j < 10 → rz102 j = fI H105 aq j := fun j h => (erz102 j h).trans (fI_kept (x_lt hT kH105 gaq (by decide))).symm
    have d133 := DB.kept db (x_lt hT kH105 gbq (by decide))
    refine lv_pop hx hb dL_law_1230 rfl ?_
    refine lv_aload_n hx hb dL_law_1231 rfl (lv_at hl 1 rfl) ?_
    refine lv_aload_n hx hb dL_law_1232 rfl (lv_at hl 3 rfl) ?_
    refine lv_iload_n hx hb dL_law_1233 rfl (lv_at hl 0 rfl) ?_
    refine lv_iconst (v := 1) hx hb dL_law_1234 (by decide) ?_
    refine lv_iadd hx hb dL_law_1235 ?_
    refine lv_topi (fun x134 ex134 => ?_)
    obtain ⟨tx134, ejx134, evx134⟩ := lw_ix (k := 1) ex134 hI hL rfl (by decide)
    clear tx134
    refine va_sld hx hb hX hbl (Nat.not_le.mpr hbl) hSH105 (vp_in_iff.mpr evx134) dL_law_1236 ?_
    refine W.eq (g2 := F0 m 1237 ls [.int (xs (i.toNatClampNeg + 1)), .ref b]) (congrArg (fun z => F0 m 1237 ls [.int (xs z), .ref b]) ejx134) ?_
    refine lv_aload_n hx hb dL_law_1237 rfl (lv_at hl 3 rfl) ?_
    refine lv_iload_n hx hb dL_law_1238 rfl (lv_at hl 0 rfl) ?_
    refine lv_iconst (v := 2) hx hb dL_law_1239 (by decide) ?_
    refine lv_iadd hx hb dL_law_1240 ?_
    refine lv_topi (fun x135 ex135 => ?_)
    obtain ⟨tx135, ejx135, evx135⟩ := lw_ix (k := 2) ex135 hI hL rfl (by decide)
    clear tx135
    refine va_sld hx hb hX hbl (Nat.not_le.mpr hbl) hSH105 (vp_in_iff.mpr evx135) dL_law_1241 ?_
    refine W.eq (g2 := F0 m 1242 ls [.int (xs (i.toNatClampNeg + 2)), .int (xs (i.toNatClampNeg + 1)), .ref b]) (congrArg (fun z => F0 m 1242 ls [.int (xs z), .int (xs (i.toNatClampNeg + 1)), .ref b]) ejx135) ?_
    refine x_V (As := [.int (xs (i.toNatClampNeg + 1)), .int (xs (i.toNatClampNeg + 2))]) (rest := []) C (a_X10_night_r l K G H105 ((xs (i.toNatClampNeg + 1))) ((xs (i.toNatClampNeg + 2))) (y10) hTH105 gb m124 g114 g115 g116 g117) yo_X10_night wM_L_128 ⟨⟨by decide, by decide⟩, show _ ≤ 1200000 from Nat.le_trans hc (by decide), show _ ≤ 5502250 from Nat.le_trans hs (by decide)⟩ (x_rv C hTH105 (ci := 10) rfl gb rg_112) rfl hl.1 rfl (Nat.le_of_ble_eq_true rfl) dL_law_1242 hSH105 (AE_new hN hSH105.1) (fun vH136 H136 locsH136 pH136 zH136 kH136 hSH136 => ?_)
    obtain ⟨x137, x138, hvH136, ex138, hrH136, g139, g140, g141, g142, mf143, hTH136⟩ := pH136
    subst hvH136
    have m144 := (m118).trans (fR_kept (x_lt hTH105 kH136 ga (by decide))).symm
    have m145 := (m119).trans (fI_kept (x_lt hTH105 kH136 ga (by decide))).symm
    have m146 := (fV_kept (x_lt hTH105 kH136 ga (by decide))).trans m129
    have m147 := (m113).trans (fR_kept (x_lt hTH105 kH136 gw (by decide))).symm
    have m148 := (ex107).trans (fI_kept (x_lt hTH105 kH136 gw (by decide))).symm
    have m149 := (ex108).trans (fI_kept (x_lt hTH105 kH136 gw (by decide))).symm
    have m150 := (ex109).trans (fI_kept (x_lt hTH105 kH136 gw (by decide))).symm
    have m151 := (ex110).trans (fI_kept (x_lt hTH105 kH136 gw (by decide))).symm
    have m152 := (ex111).trans (fI_kept (x_lt hTH105 kH136 gw (by decide))).symm
    have m153 := (ex112).trans (fI_kept (x_lt hTH105 kH136 gw (by decide))).symm
    have m154 := (m120).trans (MF.i mf143 (k := 18) (by decide) (by decide)).symm
    have m155 := (m121).trans (MF.i mf143 (k := 1) (by decide) (by decide)).symm
    have m156 := (m122).trans (MF.i mf143 (k := 2) (by decide) (by decide)).symm
    have m157 := (m123).trans (MF.i mf143 (k := 3) (by decide) (by decide)).symm
    have m158 := (m125).trans (MF.i mf143 (k := 62) (by decide) (by decide)).symm
    have m159 := (m126).trans (MF.i mf143 (k := 65) (by decide) (by decide)).symm
    have m160 := (m127).trans (MF.r mf143 (k := 50) (by decide) (by decide)).symm
    have m161 := (m128).trans (MF.i mf143 (k := 70) (by decide) (by decide)).symm
    have m162 := (m130).trans (MF.r mf143 (k := 73) (by decide) (by decide)).symm
    have bx138 := ty_fi (x := x138) (k := 59) ex138 hTH136 gb rg_112 rfl
    refine W.eq (g2 := F0 m 1245 ls [.int x137]) rfl ?_
    have v163 : ∀ j : Nat, j < 10 → cz101 j = fI H136 (fR H136 bq j) (K.1.2 0 14) := fun j h => (v131 j h).trans (by rw [fR_kept (x_lt hTH105 kH136 gbq (by decide))]; exact (fI_kept (x_lt hTH105 kH136 (bar_g hTH105 gbq j h) (by decide))).symm)
    have v164 : ∀ j : Nat, j < 10 → rz102 j = fI H136 aq j := fun j h => (v132 j h).trans (fI_kept (x_lt hTH105 kH136 gaq (by decide))).symm
    have d165 := DB.kept d133 (x_lt hTH105 kH136 gbq (by decide))
    refine lv_pop hx hb dL_law_1245 rfl ?_
    refine lv_goto (tgt := 1509) hx hb dL_law_1246 (by decide) ?_
    exact nx G H136 locsH136 _ _ ls ⟨hTH136, hN, ga, gb, g139, g140, g141, g142, ⟨(by rw [← m145, ← m154]; exact rt), (by rw [← m144, ← m148, ← m155]; omega), (by rw [← m144, ← m149, ← m156]; omega), (by rw [← m144, ← m150, ← m157]; omega), (by rw [← m144, ← m151, ← ex138]; omega), (by rw [← m144, ← m152, ← m158]; omega), (by rw [← m144, ← m153, ← m159]; omega)⟩, Or.inl ⟨m146, (by rw [← m161]; exact h70)⟩, (by unfold RB; rw [← m144, ← m147, ← m160, ← m155]; exact ⟨d165, fun j h1 h2 => by rw [← v163 j h1, ← v164 j h1]; exact rel j h1 (by omega), fun j h1 h2 => by rw [← v164 j h1]; exact tl j h1 (by omega)⟩), hSH136⟩ hl ⟨hc, hs, fun _ => ⟨hc0, hs0⟩⟩
  · skip
    obtain ⟨hi, ehi⟩ : ∃ z : Int32, z = fI H b (K.1.2 10 70) := ⟨_, rfl⟩
    rw [← ehi] at h70
    obtain ⟨iq, eiq⟩ : ∃ z : Nat, z = fR H b (K.1.2 10 73) := ⟨_, rfl⟩
    have giq := ty_fr (q := iq) (k := 73) (u := 162) eiq hT gb rg_112 rfl
    rw [← eiq] at q1 q4 q5 q10 q13 q16
    obtain ⟨k1, ek1⟩ : ∃ z : Int32, z = fI H kq (K.1.2 8 1) := ⟨_, rfl⟩
    rw [← ek1] at q1
    obtain ⟨i1, ei1⟩ : ∃ z : Int32, z = fI H iq ((0 : Int32).toNatClampNeg) := ⟨_, rfl⟩
    rw [← ei1] at q1
    obtain ⟨k4, ek4⟩ : ∃ z : Int32, z = fI H kq (K.1.2 8 4) := ⟨_, rfl⟩
    rw [← ek4] at q4
    obtain ⟨i4, ei4⟩ : ∃ z : Int32, z = fI H iq ((1 : Int32).toNatClampNeg) := ⟨_, rfl⟩
    rw [← ei4] at q4
    obtain ⟨k5, ek5⟩ : ∃ z : Int32, z = fI H kq (K.1.2 8 5) := ⟨_, rfl⟩
    rw [← ek5] at q5
    obtain ⟨i5, ei5⟩ : ∃ z : Int32, z = fI H iq ((2 : Int32).toNatClampNeg) := ⟨_, rfl⟩
    rw [← ei5] at q5
    obtain ⟨k10, ek10⟩ : ∃ z : Int32, z = fI H kq (K.1.2 8 10) := ⟨_, rfl⟩
    rw [← ek10] at q10
    obtain ⟨i10, ei10⟩ : ∃ z : Int32, z = fI H iq ((3 : Int32).toNatClampNeg) := ⟨_, rfl⟩
    rw [← ei10] at q10
    obtain ⟨k13, ek13⟩ : ∃ z : Int32, z = fI H kq (K.1.2 8 13) := ⟨_, rfl⟩
    rw [← ek13] at q13
    obtain ⟨i13, ei13⟩ : ∃ z : Int32, z = fI H iq ((4 : Int32).toNatClampNeg) := ⟨_, rfl⟩
    rw [← ei13] at q13
    obtain ⟨k16, ek16⟩ : ∃ z : Int32, z = fI H kq (K.1.2 8 16) := ⟨_, rfl⟩
    rw [← ek16] at q16
    obtain ⟨i16, ei16⟩ : ∃ z : Int32, z = fI H iq ((5 : Int32).toNatClampNeg) := ⟨_, rfl⟩
    rw [← ei16] at q16
    obtain ⟨kb, ekb⟩ : ∃ z : Nat, z = fR H kq (K.1.2 8 0) := ⟨_, rfl⟩
    have gkb := ty_fr (q := kb) (k := 0) (u := 59) ekb hT gkq rg_34 rfl
    have bk1 := ty_fi (x := k1) (k := 1) ek1 hT gkq rg_34 rfl
    rw [← ekb] at dbk
    rw [← ekb, ← eiq, ← ek1] at vk
    rw [← eiq, ← ek1] at vkt
    obtain ⟨kz166, ekz166⟩ : ∃ f : Nat → Int32, ∀ j : Nat, j < 10 → f j = fI H (fR H kb j) (K.1.2 0 14) := ⟨_, fun _ _ => rfl⟩
    obtain ⟨iz167, eiz167⟩ : ∃ f : Nat → Int32, ∀ j : Nat, j < 10 → f j = fI H iq (11 + 6 * j) := ⟨_, fun _ _ => rfl⟩
    have vk0 : ∀ j : Nat, j < 10 → (j : Int) < k1.toInt → kz166 j = iz167 j := fun j h1 h2 => by rw [ekz166 j h1, eiz167 j h1]; exact vk j h1 h2
    clear vk
    have vk1 : ∀ j : Nat, j < 10 → k1.toInt ≤ (j : Int) → iz167 j = 0 := fun j h1 h2 => by rw [eiz167 j h1]; exact vkt j h1 h2
    clear vkt
    refine lv_aload_n hx hb dL_law_1216 rfl (lv_at hl 2 rfl) ?_
    refine lv_aload_n hx hb dL_law_1217 rfl (lv_at hl 3 rfl) ?_
    refine lv_iload_n hx hb dL_law_1218 rfl (lv_at hl 0 rfl) ?_
    refine lv_iconst (v := 1) hx hb dL_law_1219 (by decide) ?_
    refine lv_iadd hx hb dL_law_1220 ?_
    refine lv_topi (fun x168 ex168 => ?_)
    obtain ⟨tx168, ejx168, evx168⟩ := lw_ix (k := 1) ex168 hI hL rfl (by decide)
    clear tx168
    refine va_sld hx hb hX hbl (Nat.not_le.mpr hbl) hS (vp_in_iff.mpr evx168) dL_law_1221 ?_
    refine W.eq (g2 := F0 m 1222 ls [.int (xs (i.toNatClampNeg + 1)), .ref a]) (congrArg (fun z => F0 m 1222 ls [.int (xs z), .ref a]) ejx168) ?_
    refine lv_aload_n hx hb dL_law_1222 rfl (lv_at hl 3 rfl) ?_
    refine lv_iload_n hx hb dL_law_1223 rfl (lv_at hl 0 rfl) ?_
    refine lv_iconst (v := 2) hx hb dL_law_1224 (by decide) ?_
    refine lv_iadd hx hb dL_law_1225 ?_
    refine lv_topi (fun x169 ex169 => ?_)
    obtain ⟨tx169, ejx169, evx169⟩ := lw_ix (k := 2) ex169 hI hL rfl (by decide)
    clear tx169
    refine va_sld hx hb hX hbl (Nat.not_le.mpr hbl) hS (vp_in_iff.mpr evx169) dL_law_1226 ?_
    refine W.eq (g2 := F0 m 1227 ls [.int (xs (i.toNatClampNeg + 2)), .int (xs (i.toNatClampNeg + 1)), .ref a]) (congrArg (fun z => F0 m 1227 ls [.int (xs z), .int (xs (i.toNatClampNeg + 1)), .ref a]) ejx169) ?_
    refine x_V (As := [.int (xs (i.toNatClampNeg + 1)), .int (xs (i.toNatClampNeg + 2))]) (rest := []) C (a_X9_night_r l K G H ((xs (i.toNatClampNeg + 1))) ((xs (i.toNatClampNeg + 2))) (s1) (s4) (s5) (s10) (s13) (s16) hT ga gw ew gbq ebq es1 es4 es5 es10 es13 es16) yo_X9_night wM_L_125 ⟨⟨by decide, by decide⟩, show _ ≤ 1200000 from Nat.le_trans hc (by decide), show _ ≤ 5502250 from Nat.le_trans hs (by decide)⟩ (x_rv C hT (ci := 9) rfl ga rg_68) rfl hl.1 rfl (Nat.le_of_ble_eq_true rfl) dL_law_1227 hS (AE_new hN hS.1) (fun vH170 H170 locsH170 pH170 zH170 kH170 hSH170 => ?_)
    obtain ⟨x171, x172, x173, x174, x175, x176, x177, hvH170, ex172, ex173, ex174, ex175, ex176, ex177, hrH170, m178, hTH170⟩ := pH170
    subst hvH170
    have g179 : CG (avw K H170 b) := CG.congr (fun k hk j => av_eff hT kH170 gb (by decide) (CG_eff [0, 28, 29] (by decide) k hk)) cg
    have g180 : TU (avw K H170 b) (svw K H170 b) := TU.congr (fun k hk j => av_eff hT kH170 gb (by decide) (TU_eff [0, 28, 29] (by decide) k hk)) (fun k hk => sv_eff hT kH170 gb (by decide)) tu
    have g181 : WD (avw K H170 b) := WD.congr (fun k hk j => av_eff hT kH170 gb (by decide) (WD_eff [0, 28, 29] (by decide) k hk)) wd
    have g182 : IM (avw K H170 b) := IM.congr (fun k hk j => av_eff hT kH170 gb (by decide) (IM_eff [0, 28, 29] (by decide) k hk)) im
    have m183 := (ew).trans (fR_kept (x_lt hT kH170 ga (by decide))).symm
    have m184 := (eta).trans (fI_kept (x_lt hT kH170 ga (by decide))).symm
    have m185 := (etb).trans (fI_kept (x_lt hT kH170 gb (by decide))).symm
    have m186 := (ey1).trans (fI_kept (x_lt hT kH170 gb (by decide))).symm
    have m187 := (ey4).trans (fI_kept (x_lt hT kH170 gb (by decide))).symm
    have m188 := (ey5).trans (fI_kept (x_lt hT kH170 gb (by decide))).symm
    have m189 := (ey10).trans (fI_kept (x_lt hT kH170 gb (by decide))).symm
    have m190 := (ey13).trans (fI_kept (x_lt hT kH170 gb (by decide))).symm
    have m191 := (ey16).trans (fI_kept (x_lt hT kH170 gb (by decide))).symm
    have m192 := (eaq).trans (fR_kept (x_lt hT kH170 gb (by decide))).symm
    have m193 := (ehi).trans (fI_kept (x_lt hT kH170 gb (by decide))).symm
    have m194 := (fV_kept (x_lt hT kH170 ga (by decide))).trans kn
    have m195 := (eiq).trans (fR_kept (x_lt hT kH170 gb (by decide))).symm
    have m196 := (ek1).trans (fI_kept (x_lt hT kH170 gkq (by decide))).symm
    have m197 := (ei1).trans (fI_kept (x_lt hT kH170 giq (by decide))).symm
    have m198 := (ek4).trans (fI_kept (x_lt hT kH170 gkq (by decide))).symm
    have m199 := (ei4).trans (fI_kept (x_lt hT kH170 giq (by decide))).symm
    have m200 := (ek5).trans (fI_kept (x_lt hT kH170 gkq (by decide))).symm
    have m201 := (ei5).trans (fI_kept (x_lt hT kH170 giq (by decide))).symm
    have m202 := (ek10).trans (fI_kept (x_lt hT kH170 gkq (by decide))).symm
    have m203 := (ei10).trans (fI_kept (x_lt hT kH170 giq (by decide))).symm
    have m204 := (ek13).trans (fI_kept (x_lt hT kH170 gkq (by decide))).symm
    have m205 := (ei13).trans (fI_kept (x_lt hT kH170 giq (by decide))).symm
    have m206 := (ek16).trans (fI_kept (x_lt hT kH170 gkq (by decide))).symm
    have m207 := (ei16).trans (fI_kept (x_lt hT kH170 giq (by decide))).symm
    have m208 := (ekb).trans (fR_kept (x_lt hT kH170 gkq (by decide))).symm
    have bx172 := ty_fi (x := x172) (k := 1) ex172 hTH170 gw rg_0 rfl
    have bx173 := ty_fi (x := x173) (k := 4) ex173 hTH170 gw rg_0 rfl
    have bx174 := ty_fi (x := x174) (k := 5) ex174 hTH170 gw rg_0 rfl
    have bx175 := ty_fi (x := x175) (k := 10) ex175 hTH170 gw rg_0 rfl
    have bx176 := ty_fi (x := x176) (k := 13) ex176 hTH170 gw rg_0 rfl
    have bx177 := ty_fi (x := x177) (k := 16) ex177 hTH170 gw rg_0 rfl
    refine W.eq (g2 := F0 m 1230 ls [.int x171]) rfl ?_
    have v209 : ∀ j : Nat, j < 10 → cz101 j = fI H170 (fR H170 bq j) (K.1.2 0 14) := fun j h => (ecz101 j h).trans (by rw [fR_kept (x_lt hT kH170 gbq (by decide))]; exact (fI_kept (x_lt hT kH170 (bar_g hT gbq j h) (by decide))).symm)
    have v210 : ∀ j : Nat, j < 10 → rz102 j = fI H170 aq j := fun j h => (erz102 j h).trans (fI_kept (x_lt hT kH170 gaq (by decide))).symm
    have v211 : ∀ j : Nat, j < 10 → kz166 j = fI H170 (fR H170 kb j) (K.1.2 0 14) := fun j h => (ekz166 j h).trans (by rw [fR_kept (x_lt hT kH170 gkb (by decide))]; exact (fI_kept (x_lt hT kH170 (bar_h hT gkb j h) (by decide))).symm)
    have d212 := DB.kept dbk (x_lt hT kH170 gkb (by decide))
    have v213 : ∀ j : Nat, j < 10 → iz167 j = fI H170 iq (11 + 6 * j) := fun j h => (eiz167 j h).trans (fI_kept (x_lt hT kH170 giq (by decide))).symm
    have d214 := DB.kept db (x_lt hT kH170 gbq (by decide))
    refine lv_pop hx hb dL_law_1230 rfl ?_
    refine lv_aload_n hx hb dL_law_1231 rfl (lv_at hl 1 rfl) ?_
    refine lv_aload_n hx hb dL_law_1232 rfl (lv_at hl 3 rfl) ?_
    refine lv_iload_n hx hb dL_law_1233 rfl (lv_at hl 0 rfl) ?_
    refine lv_iconst (v := 1) hx hb dL_law_1234 (by decide) ?_
    refine lv_iadd hx hb dL_law_1235 ?_
    refine lv_topi (fun x215 ex215 => ?_)
    obtain ⟨tx215, ejx215, evx215⟩ := lw_ix (k := 1) ex215 hI hL rfl (by decide)
    clear tx215
    refine va_sld hx hb hX hbl (Nat.not_le.mpr hbl) hSH170 (vp_in_iff.mpr evx215) dL_law_1236 ?_
    refine W.eq (g2 := F0 m 1237 ls [.int (xs (i.toNatClampNeg + 1)), .ref b]) (congrArg (fun z => F0 m 1237 ls [.int (xs z), .ref b]) ejx215) ?_
    refine lv_aload_n hx hb dL_law_1237 rfl (lv_at hl 3 rfl) ?_
    refine lv_iload_n hx hb dL_law_1238 rfl (lv_at hl 0 rfl) ?_
    refine lv_iconst (v := 2) hx hb dL_law_1239 (by decide) ?_
    refine lv_iadd hx hb dL_law_1240 ?_
    refine lv_topi (fun x216 ex216 => ?_)
    obtain ⟨tx216, ejx216, evx216⟩ := lw_ix (k := 2) ex216 hI hL rfl (by decide)
    clear tx216
    refine va_sld hx hb hX hbl (Nat.not_le.mpr hbl) hSH170 (vp_in_iff.mpr evx216) dL_law_1241 ?_
    refine W.eq (g2 := F0 m 1242 ls [.int (xs (i.toNatClampNeg + 2)), .int (xs (i.toNatClampNeg + 1)), .ref b]) (congrArg (fun z => F0 m 1242 ls [.int (xs z), .int (xs (i.toNatClampNeg + 1)), .ref b]) ejx216) ?_
    refine x_V (As := [.int (xs (i.toNatClampNeg + 1)), .int (xs (i.toNatClampNeg + 2))]) (rest := []) C (a_X10_night_r l K G H170 ((xs (i.toNatClampNeg + 1))) ((xs (i.toNatClampNeg + 2))) (y10) hTH170 gb m189 g179 g180 g181 g182) yo_X10_night wM_L_128 ⟨⟨by decide, by decide⟩, show _ ≤ 1200000 from Nat.le_trans hc (by decide), show _ ≤ 5502250 from Nat.le_trans hs (by decide)⟩ (x_rv C hTH170 (ci := 10) rfl gb rg_112) rfl hl.1 rfl (Nat.le_of_ble_eq_true rfl) dL_law_1242 hSH170 (AE_new hN hSH170.1) (fun vH217 H217 locsH217 pH217 zH217 kH217 hSH217 => ?_)
    obtain ⟨x218, x219, hvH217, ex219, hrH217, g220, g221, g222, g223, mf224, hTH217⟩ := pH217
    subst hvH217
    have m225 := (m183).trans (fR_kept (x_lt hTH170 kH217 ga (by decide))).symm
    have m226 := (m184).trans (fI_kept (x_lt hTH170 kH217 ga (by decide))).symm
    have m227 := (fV_kept (x_lt hTH170 kH217 ga (by decide))).trans m194
    have m228 := (m196).trans (fI_kept (x_lt hTH170 kH217 gkq (by decide))).symm
    have m229 := (m197).trans (fI_kept (x_lt hTH170 kH217 giq (by decide))).symm
    have m230 := (m198).trans (fI_kept (x_lt hTH170 kH217 gkq (by decide))).symm
    have m231 := (m199).trans (fI_kept (x_lt hTH170 kH217 giq (by decide))).symm
    have m232 := (m200).trans (fI_kept (x_lt hTH170 kH217 gkq (by decide))).symm
    have m233 := (m201).trans (fI_kept (x_lt hTH170 kH217 giq (by decide))).symm
    have m234 := (m202).trans (fI_kept (x_lt hTH170 kH217 gkq (by decide))).symm
    have m235 := (m203).trans (fI_kept (x_lt hTH170 kH217 giq (by decide))).symm
    have m236 := (m204).trans (fI_kept (x_lt hTH170 kH217 gkq (by decide))).symm
    have m237 := (m205).trans (fI_kept (x_lt hTH170 kH217 giq (by decide))).symm
    have m238 := (m206).trans (fI_kept (x_lt hTH170 kH217 gkq (by decide))).symm
    have m239 := (m207).trans (fI_kept (x_lt hTH170 kH217 giq (by decide))).symm
    have m240 := (m208).trans (fR_kept (x_lt hTH170 kH217 gkq (by decide))).symm
    have m241 := (m178).trans (fR_kept (x_lt hTH170 kH217 gw (by decide))).symm
    have m242 := (ex172).trans (fI_kept (x_lt hTH170 kH217 gw (by decide))).symm
    have m243 := (ex173).trans (fI_kept (x_lt hTH170 kH217 gw (by decide))).symm
    have m244 := (ex174).trans (fI_kept (x_lt hTH170 kH217 gw (by decide))).symm
    have m245 := (ex175).trans (fI_kept (x_lt hTH170 kH217 gw (by decide))).symm
    have m246 := (ex176).trans (fI_kept (x_lt hTH170 kH217 gw (by decide))).symm
    have m247 := (ex177).trans (fI_kept (x_lt hTH170 kH217 gw (by decide))).symm
    have m248 := (m185).trans (MF.i mf224 (k := 18) (by decide) (by decide)).symm
    have m249 := (m186).trans (MF.i mf224 (k := 1) (by decide) (by decide)).symm
    have m250 := (m187).trans (MF.i mf224 (k := 2) (by decide) (by decide)).symm
    have m251 := (m188).trans (MF.i mf224 (k := 3) (by decide) (by decide)).symm
    have m252 := (m190).trans (MF.i mf224 (k := 62) (by decide) (by decide)).symm
    have m253 := (m191).trans (MF.i mf224 (k := 65) (by decide) (by decide)).symm
    have m254 := (m192).trans (MF.r mf224 (k := 50) (by decide) (by decide)).symm
    have m255 := (m193).trans (MF.i mf224 (k := 70) (by decide) (by decide)).symm
    have m256 := (m195).trans (MF.r mf224 (k := 73) (by decide) (by decide)).symm
    have bx219 := ty_fi (x := x219) (k := 59) ex219 hTH217 gb rg_112 rfl
    refine W.eq (g2 := F0 m 1245 ls [.int x218]) rfl ?_
    have v257 : ∀ j : Nat, j < 10 → cz101 j = fI H217 (fR H217 bq j) (K.1.2 0 14) := fun j h => (v209 j h).trans (by rw [fR_kept (x_lt hTH170 kH217 gbq (by decide))]; exact (fI_kept (x_lt hTH170 kH217 (bar_g hTH170 gbq j h) (by decide))).symm)
    have v258 : ∀ j : Nat, j < 10 → rz102 j = fI H217 aq j := fun j h => (v210 j h).trans (fI_kept (x_lt hTH170 kH217 gaq (by decide))).symm
    have v259 : ∀ j : Nat, j < 10 → kz166 j = fI H217 (fR H217 kb j) (K.1.2 0 14) := fun j h => (v211 j h).trans (by rw [fR_kept (x_lt hTH170 kH217 gkb (by decide))]; exact (fI_kept (x_lt hTH170 kH217 (bar_h hTH170 gkb j h) (by decide))).symm)
    have d260 := DB.kept d212 (x_lt hTH170 kH217 gkb (by decide))
    have v261 : ∀ j : Nat, j < 10 → iz167 j = fI H217 iq (11 + 6 * j) := fun j h => (v213 j h).trans (fI_kept (x_lt hTH170 kH217 giq (by decide))).symm
    have d262 := DB.kept d214 (x_lt hTH170 kH217 gbq (by decide))
    refine lv_pop hx hb dL_law_1245 rfl ?_
    refine lv_goto (tgt := 1509) hx hb dL_law_1246 (by decide) ?_
    exact nx G H217 locsH217 _ _ ls ⟨hTH217, hN, ga, gb, g220, g221, g222, g223, ⟨(by rw [← m226, ← m248]; exact rt), (by rw [← m225, ← m242, ← m249]; omega), (by rw [← m225, ← m243, ← m250]; omega), (by rw [← m225, ← m244, ← m251]; omega), (by rw [← m225, ← m245, ← ex219]; omega), (by rw [← m225, ← m246, ← m252]; omega), (by rw [← m225, ← m247, ← m253]; omega)⟩, Or.inr ⟨kq, m227, gkq, (by rw [← m255]; exact h70), (by rw [← m228, ← m256, ← m229]; exact q1), (by rw [← m230, ← m256, ← m231]; exact q4), (by rw [← m232, ← m256, ← m233]; exact q5), (by rw [← m234, ← m256, ← m235]; exact q10), (by rw [← m236, ← m256, ← m237]; exact q13), (by rw [← m238, ← m256, ← m239]; exact q16), (by rw [← m240]; exact d260), (by rw [← m240, ← m256, ← m228]; exact fun j h1 h2 => by rw [← v259 j h1, ← v261 j h1]; exact vk0 j h1 (by omega)), (by rw [← m256, ← m228]; exact fun j h1 h2 => by rw [← v261 j h1]; exact vk1 j h1 (by omega))⟩, (by unfold RB; rw [← m225, ← m241, ← m254, ← m249]; exact ⟨d262, fun j h1 h2 => by rw [← v257 j h1, ← v258 j h1]; exact rel j h1 (by omega), fun j h1 h2 => by rw [← v258 j h1]; exact tl j h1 (by omega)⟩), hSH217⟩ hl ⟨hc, hs, fun h => by have h1 := h.symm.trans m227; cases h1⟩
set_option maxRecDepth 100000 in
set_option maxHeartbeats 8000000 in
theorem lw_c27 {p : Program} {l : Launch} {e : Env} {s : State} {m : MethodId} {below : List Frame} {meth : Method} {c : Code} {K : KE} {b0 L : Nat} {xs : Nat → Int32} {G : Nat → Option Nat} {H : Heap} {locs : List Loc} {a b : Nat} {cells slots : Nat} {ls : Array Slot} {i : Int32} {n : Nat} (D : LC p K s m meth c b0 L xs) (S : SX K s G H locs a b) (hl : lv_has ls 4 [(3, .int i), (2, .ref b), (1, .ref a), (0, .ref b0)]) (hi : 0 ≤ i.toInt ∧ i.toInt + 6 ≤ L) (hn : n ≤ 511) (hB : BD K H a cells slots) (nx : ∀ (G : Nat → Option Nat) (H : Heap) (locs : List Loc) (cells slots : Nat) (ls : Array Slot), SX K s G H locs a b → lv_has ls 4 [(3, .int i), (2, .ref b), (1, .ref a), (0, .ref b0)] → BD K H a cells slots → W p l e room_1 s m #[Value.ref b0] below meth c H locs cells slots (lw_Z below #[Value.ref b0] s) (F0 m 1509 ls [])) : W p l e room_1 s m #[Value.ref b0] below meth c H locs cells slots (lw_Z below #[Value.ref b0] s) (F0 m 1249 ls []) := by
  have hI := hi
  obtain ⟨C, hX, hbl, hL⟩ := id D
  obtain ⟨hx, hb, hml, hown, hts, hKT, hr, hlocks, hnm⟩ := id C
  obtain ⟨hT, hN, ga, gb, cg, tu, wd, im, ⟨rt, r1, r4, r5, r10, r13, r16⟩, hk, hrb, hS⟩ := S
  obtain ⟨hc, hs, hB0⟩ := hB
  have n_m1 : ((-1) : Int32).toInt = -1 := rfl
  have n_0 : (0 : Int32).toInt = 0 := rfl
  have n_1 : (1 : Int32).toInt = 1 := rfl
  have n_2 : (2 : Int32).toInt = 2 := rfl
  obtain ⟨w, ew⟩ : ∃ z : Nat, z = fR H a (K.1.2 9 0) := ⟨_, rfl⟩
  have gw := ty_fr (q := w) (k := 0) (u := 0) ew hT ga rg_68 rfl
  rw [← ew] at r1 r4 r5 r10 r13 r16
  obtain ⟨ta, eta⟩ : ∃ z : Int32, z = fI H a (K.1.2 9 3) := ⟨_, rfl⟩
  rw [← eta] at rt
  obtain ⟨tb, etb⟩ : ∃ z : Int32, z = fI H b (K.1.2 10 18) := ⟨_, rfl⟩
  rw [← etb] at rt
  obtain ⟨s1, es1⟩ : ∃ z : Int32, z = fI H w (K.1.2 8 1) := ⟨_, rfl⟩
  rw [← es1] at r1
  obtain ⟨y1, ey1⟩ : ∃ z : Int32, z = fI H b (K.1.2 10 1) := ⟨_, rfl⟩
  rw [← ey1] at r1
  obtain ⟨s4, es4⟩ : ∃ z : Int32, z = fI H w (K.1.2 8 4) := ⟨_, rfl⟩
  rw [← es4] at r4
  obtain ⟨y4, ey4⟩ : ∃ z : Int32, z = fI H b (K.1.2 10 2) := ⟨_, rfl⟩
  rw [← ey4] at r4
  obtain ⟨s5, es5⟩ : ∃ z : Int32, z = fI H w (K.1.2 8 5) := ⟨_, rfl⟩
  rw [← es5] at r5
  obtain ⟨y5, ey5⟩ : ∃ z : Int32, z = fI H b (K.1.2 10 3) := ⟨_, rfl⟩
  rw [← ey5] at r5
  obtain ⟨s10, es10⟩ : ∃ z : Int32, z = fI H w (K.1.2 8 10) := ⟨_, rfl⟩
  rw [← es10] at r10
  obtain ⟨y10, ey10⟩ : ∃ z : Int32, z = fI H b (K.1.2 10 59) := ⟨_, rfl⟩
  rw [← ey10] at r10
  obtain ⟨s13, es13⟩ : ∃ z : Int32, z = fI H w (K.1.2 8 13) := ⟨_, rfl⟩
  rw [← es13] at r13
  obtain ⟨y13, ey13⟩ : ∃ z : Int32, z = fI H b (K.1.2 10 62) := ⟨_, rfl⟩
  rw [← ey13] at r13
  obtain ⟨s16, es16⟩ : ∃ z : Int32, z = fI H w (K.1.2 8 16) := ⟨_, rfl⟩
  rw [← es16] at r16
  obtain ⟨y16, ey16⟩ : ∃ z : Int32, z = fI H b (K.1.2 10 65) := ⟨_, rfl⟩
  rw [← ey16] at r16
  obtain ⟨bq, ebq⟩ : ∃ z : Nat, z = fR H w (K.1.2 8 0) := ⟨_, rfl⟩
  have gbq := ty_fr (q := bq) (k := 0) (u := 25) ebq hT gw rg_0 rfl
  obtain ⟨aq, eaq⟩ : ∃ z : Nat, z = fR H b (K.1.2 10 50) := ⟨_, rfl⟩
  have gaq := ty_fr (q := aq) (k := 50) (u := 146) eaq hT gb rg_112 rfl
  have bs1 := ty_fi (x := s1) (k := 1) es1 hT gw rg_0 rfl
  have by1 := ty_fi (x := y1) (k := 1) ey1 hT gb rg_112 rfl
  obtain ⟨db, vr, vt⟩ := hrb
  rw [← ew, ← ebq] at db
  rw [← ew, ← ebq, ← eaq, ← ey1] at vr
  rw [← eaq, ← ey1] at vt
  obtain ⟨cz101, ecz101⟩ : ∃ f : Nat → Int32, ∀ j : Nat, j < 10 → f j = fI H (fR H bq j) (K.1.2 0 14) := ⟨_, fun _ _ => rfl⟩
  obtain ⟨rz102, erz102⟩ : ∃ f : Nat → Int32, ∀ j : Nat, j < 10 → f j = fI H aq j := ⟨_, fun _ _ => rfl⟩
  have rel : ∀ j : Nat, j < 10 → (j : Int) < y1.toInt → cz101 j = rz102 j := fun j h1 h2 => by rw [ecz101 j h1, erz102 j h1]; exact vr j h1 h2
  clear vr
  have tl : ∀ j : Nat, j < 10 → y1.toInt ≤ (j : Int) → rz102 j = 0 := fun j h1 h2 => by rw [erz102 j h1]; exact vt j h1 h2
  clear vt
  rcases hk with ⟨kn, h70⟩ | ⟨kq, kn, gkq, h70, q1, q4, q5, q10, q13, q16, dbk, vk, vkt⟩
  · skip
    obtain ⟨hi, ehi⟩ : ∃ z : Int32, z = fI H b (K.1.2 10 70) := ⟨_, rfl⟩
    rw [← ehi] at h70
    obtain ⟨hc0, hs0⟩ := hB0 kn
    obtain ⟨iq, eiq⟩ : ∃ z : Nat, z = fR H b (K.1.2 10 73) := ⟨_, rfl⟩
    have giq := ty_fr (q := iq) (k := 73) (u := 162) eiq hT gb rg_112 rfl
    refine lv_aload_n hx hb dL_law_1249 rfl (lv_at hl 2 rfl) ?_
    refine lv_aload_n hx hb dL_law_1250 rfl (lv_at hl 3 rfl) ?_
    refine lv_iload_n hx hb dL_law_1251 rfl (lv_at hl 0 rfl) ?_
    refine lv_iconst (v := 1) hx hb dL_law_1252 (by decide) ?_
    refine lv_iadd hx hb dL_law_1253 ?_
    refine lv_topi (fun x103 ex103 => ?_)
    obtain ⟨tx103, ejx103, evx103⟩ := lw_ix (k := 1) ex103 hI hL rfl (by decide)
    clear tx103
    refine va_sld hx hb hX hbl (Nat.not_le.mpr hbl) hS (vp_in_iff.mpr evx103) dL_law_1254 ?_
    refine W.eq (g2 := F0 m 1255 ls [.int (xs (i.toNatClampNeg + 1)), .ref a]) (congrArg (fun z => F0 m 1255 ls [.int (xs z), .ref a]) ejx103) ?_
    refine lv_aload_n hx hb dL_law_1255 rfl (lv_at hl 3 rfl) ?_
    refine lv_iload_n hx hb dL_law_1256 rfl (lv_at hl 0 rfl) ?_
    refine lv_iconst (v := 2) hx hb dL_law_1257 (by decide) ?_
    refine lv_iadd hx hb dL_law_1258 ?_
    refine lv_topi (fun x104 ex104 => ?_)
    obtain ⟨tx104, ejx104, evx104⟩ := lw_ix (k := 2) ex104 hI hL rfl (by decide)
    clear tx104
    refine va_sld hx hb hX hbl (Nat.not_le.mpr hbl) hS (vp_in_iff.mpr evx104) dL_law_1259 ?_
    refine W.eq (g2 := F0 m 1260 ls [.int (xs (i.toNatClampNeg + 2)), .int (xs (i.toNatClampNeg + 1)), .ref a]) (congrArg (fun z => F0 m 1260 ls [.int (xs z), .int (xs (i.toNatClampNeg + 1)), .ref a]) ejx104) ?_
    refine x_V (As := [.int (xs (i.toNatClampNeg + 1)), .int (xs (i.toNatClampNeg + 2))]) (rest := []) C (a_X9_nights l K G H ((xs (i.toNatClampNeg + 1))) ((xs (i.toNatClampNeg + 2))) hT ga) yo_X9_nights wM_L_129 ⟨⟨by decide, by decide⟩, show _ ≤ 1200000 from Nat.le_trans hc (by decide), show _ ≤ 5502250 from Nat.le_trans hs (by decide)⟩ (x_rv C hT (ci := 9) rfl ga rg_68) rfl hl.1 rfl (Nat.le_of_ble_eq_true rfl) dL_law_1260 hS (AE_new hN hS.1) (fun vH105 H105 locsH105 pH105 zH105 kH105 hSH105 => ?_)
    obtain ⟨x106, hvH105, hTH105⟩ := pH105
    subst hvH105
    have g107 : CG (avw K H105 b) := CG.congr (fun k hk j => av_eff hT kH105 gb (by decide) (CG_eff [83, 84, 109] (by decide) k hk)) cg
    have g108 : TU (avw K H105 b) (svw K H105 b) := TU.congr (fun k hk j => av_eff hT kH105 gb (by decide) (TU_eff [83, 84, 109] (by decide) k hk)) (fun k hk => sv_eff hT kH105 gb (by decide)) tu
    have g109 : WD (avw K H105 b) := WD.congr (fun k hk j => av_eff hT kH105 gb (by decide) (WD_eff [83, 84, 109] (by decide) k hk)) wd
    have g110 : IM (avw K H105 b) := IM.congr (fun k hk j => av_eff hT kH105 gb (by decide) (IM_eff [83, 84, 109] (by decide) k hk)) im
    have m111 := (ew).trans (fR_kept (x_lt hT kH105 ga (by decide))).symm
    have m112 := (eta).trans (fI_kept (x_lt hT kH105 ga (by decide))).symm
    have m113 := (etb).trans (fI_kept (x_lt hT kH105 gb (by decide))).symm
    have m114 := (es1).trans (fI_kept (x_lt hT kH105 gw (by decide))).symm
    have m115 := (ey1).trans (fI_kept (x_lt hT kH105 gb (by decide))).symm
    have m116 := (es4).trans (fI_kept (x_lt hT kH105 gw (by decide))).symm
    have m117 := (ey4).trans (fI_kept (x_lt hT kH105 gb (by decide))).symm
    have m118 := (es5).trans (fI_kept (x_lt hT kH105 gw (by decide))).symm
    have m119 := (ey5).trans (fI_kept (x_lt hT kH105 gb (by decide))).symm
    have m120 := (es10).trans (fI_kept (x_lt hT kH105 gw (by decide))).symm
    have m121 := (ey10).trans (fI_kept (x_lt hT kH105 gb (by decide))).symm
    have m122 := (es13).trans (fI_kept (x_lt hT kH105 gw (by decide))).symm
    have m123 := (ey13).trans (fI_kept (x_lt hT kH105 gb (by decide))).symm
    have m124 := (es16).trans (fI_kept (x_lt hT kH105 gw (by decide))).symm
    have m125 := (ey16).trans (fI_kept (x_lt hT kH105 gb (by decide))).symm
    have m126 := (ebq).trans (fR_kept (x_lt hT kH105 gw (by decide))).symm
    have m127 := (eaq).trans (fR_kept (x_lt hT kH105 gb (by decide))).symm
    have m128 := (ehi).trans (fI_kept (x_lt hT kH105 gb (by decide))).symm
    have m129 := (fV_kept (x_lt hT kH105 ga (by decide))).trans kn
    have m130 := (eiq).trans (fR_kept (x_lt hT kH105 gb (by decide))).symm
    refine W.eq (g2 := F0 m 1263 ls [.int x106]) rfl ?_
    have v131 : ∀ j : Nat, j < 10 → cz101 j = fI H105 (fR H105 bq j) (K.1.2 0 14) := fun j h => (ecz101 j h).trans (by rw [fR_kept (x_lt hT kH105 gbq (by decide))]; exact (fI_kept (x_lt hT kH105 (bar_g hT gbq j h) (by decide))).symm)
    have v132 : ∀ j : Nat, j < 10 → rz102 j = fI H105 aq j := fun j h => (erz102 j h).trans (fI_kept (x_lt hT kH105 gaq (by decide))).symm
    have d133 := DB.kept db (x_lt hT kH105 gbq (by decide))
    refine lv_pop hx hb dL_law_1263 rfl ?_
    refine lv_aload_n hx hb dL_law_1264 rfl (lv_at hl 1 rfl) ?_
    refine lv_aload_n hx hb dL_law_1265 rfl (lv_at hl 3 rfl) ?_
    refine lv_iload_n hx hb dL_law_1266 rfl (lv_at hl 0 rfl) ?_
    refine lv_iconst (v := 1) hx hb dL_law_1267 (by decide) ?_
    refine lv_iadd hx hb dL_law_1268 ?_
    refine lv_topi (fun x134 ex134 => ?_)
    obtain ⟨tx134, ejx134, evx134⟩ := lw_ix (k := 1) ex134 hI hL rfl (by decide)
    clear tx134
    refine va_sld hx hb hX hbl (Nat.not_le.mpr hbl) hSH105 (vp_in_iff.mpr evx134) dL_law_1269 ?_
    refine W.eq (g2 := F0 m 1270 ls [.int (xs (i.toNatClampNeg + 1)), .ref b]) (congrArg (fun z => F0 m 1270 ls [.int (xs z), .ref b]) ejx134) ?_
    refine lv_aload_n hx hb dL_law_1270 rfl (lv_at hl 3 rfl) ?_
    refine lv_iload_n hx hb dL_law_1271 rfl (lv_at hl 0 rfl) ?_
    refine lv_iconst (v := 2) hx hb dL_law_1272 (by decide) ?_
    refine lv_iadd hx hb dL_law_1273 ?_
    refine lv_topi (fun x135 ex135 => ?_)
    obtain ⟨tx135, ejx135, evx135⟩ := lw_ix (k := 2) ex135 hI hL rfl (by decide)
    clear tx135
    refine va_sld hx hb hX hbl (Nat.not_le.mpr hbl) hSH105 (vp_in_iff.mpr evx135) dL_law_1274 ?_
    refine W.eq (g2 := F0 m 1275 ls [.int (xs (i.toNatClampNeg + 2)), .int (xs (i.toNatClampNeg + 1)), .ref b]) (congrArg (fun z => F0 m 1275 ls [.int (xs z), .int (xs (i.toNatClampNeg + 1)), .ref b]) ejx135) ?_
    refine x_V (As := [.int (xs (i.toNatClampNeg + 1)), .int (xs (i.toNatClampNeg + 2))]) (rest := []) C (a_X10_nights l K G H105 ((xs (i.toNatClampNeg + 1))) ((xs (i.toNatClampNeg + 2))) hTH105 gb g107 g108 g109 g110) yo_X10_nights wM_L_132 ⟨⟨by decide, by decide⟩, show _ ≤ 1200000 from Nat.le_trans hc (by decide), show _ ≤ 5502250 from Nat.le_trans hs (by decide)⟩ (x_rv C hTH105 (ci := 10) rfl gb rg_112) rfl hl.1 rfl (Nat.le_of_ble_eq_true rfl) dL_law_1275 hSH105 (AE_new hN hSH105.1) (fun vH136 H136 locsH136 pH136 zH136 kH136 hSH136 => ?_)
    obtain ⟨x137, hvH136, g138, g139, g140, g141, mf142, hTH136⟩ := pH136
    subst hvH136
    have m143 := (m111).trans (fR_kept (x_lt hTH105 kH136 ga (by decide))).symm
    have m144 := (m112).trans (fI_kept (x_lt hTH105 kH136 ga (by decide))).symm
    have m145 := (m114).trans (fI_kept (x_lt hTH105 kH136 gw (by decide))).symm
    have m146 := (m116).trans (fI_kept (x_lt hTH105 kH136 gw (by decide))).symm
    have m147 := (m118).trans (fI_kept (x_lt hTH105 kH136 gw (by decide))).symm
    have m148 := (m120).trans (fI_kept (x_lt hTH105 kH136 gw (by decide))).symm
    have m149 := (m122).trans (fI_kept (x_lt hTH105 kH136 gw (by decide))).symm
    have m150 := (m124).trans (fI_kept (x_lt hTH105 kH136 gw (by decide))).symm
    have m151 := (m126).trans (fR_kept (x_lt hTH105 kH136 gw (by decide))).symm
    have m152 := (fV_kept (x_lt hTH105 kH136 ga (by decide))).trans m129
    have m153 := (m113).trans (MF.i mf142 (k := 18) (by decide) (by decide)).symm
    have m154 := (m115).trans (MF.i mf142 (k := 1) (by decide) (by decide)).symm
    have m155 := (m117).trans (MF.i mf142 (k := 2) (by decide) (by decide)).symm
    have m156 := (m119).trans (MF.i mf142 (k := 3) (by decide) (by decide)).symm
    have m157 := (m121).trans (MF.i mf142 (k := 59) (by decide) (by decide)).symm
    have m158 := (m123).trans (MF.i mf142 (k := 62) (by decide) (by decide)).symm
    have m159 := (m125).trans (MF.i mf142 (k := 65) (by decide) (by decide)).symm
    have m160 := (m127).trans (MF.r mf142 (k := 50) (by decide) (by decide)).symm
    have m161 := (m128).trans (MF.i mf142 (k := 70) (by decide) (by decide)).symm
    have m162 := (m130).trans (MF.r mf142 (k := 73) (by decide) (by decide)).symm
    refine W.eq (g2 := F0 m 1278 ls [.int x137]) rfl ?_
    have v163 : ∀ j : Nat, j < 10 → cz101 j = fI H136 (fR H136 bq j) (K.1.2 0 14) := fun j h => (v131 j h).trans (by rw [fR_kept (x_lt hTH105 kH136 gbq (by decide))]; exact (fI_kept (x_lt hTH105 kH136 (bar_g hTH105 gbq j h) (by decide))).symm)
    have v164 : ∀ j : Nat, j < 10 → rz102 j = fI H136 aq j := fun j h => (v132 j h).trans (fI_kept (x_lt hTH105 kH136 gaq (by decide))).symm
    have d165 := DB.kept d133 (x_lt hTH105 kH136 gbq (by decide))
    refine lv_pop hx hb dL_law_1278 rfl ?_
    refine lv_goto (tgt := 1509) hx hb dL_law_1279 (by decide) ?_
    exact nx G H136 locsH136 _ _ ls ⟨hTH136, hN, ga, gb, g138, g139, g140, g141, ⟨(by rw [← m144, ← m153]; exact rt), (by rw [← m143, ← m145, ← m154]; exact r1), (by rw [← m143, ← m146, ← m155]; exact r4), (by rw [← m143, ← m147, ← m156]; exact r5), (by rw [← m143, ← m148, ← m157]; exact r10), (by rw [← m143, ← m149, ← m158]; exact r13), (by rw [← m143, ← m150, ← m159]; exact r16)⟩, Or.inl ⟨m152, (by rw [← m161]; exact h70)⟩, (by unfold RB; rw [← m143, ← m151, ← m160, ← m154]; exact ⟨d165, fun j h1 h2 => by rw [← v163 j h1, ← v164 j h1]; exact rel j h1 (by omega), fun j h1 h2 => by rw [← v164 j h1]; exact tl j h1 (by omega)⟩), hSH136⟩ hl ⟨hc, hs, fun _ => ⟨hc0, hs0⟩⟩
  · skip
    obtain ⟨hi, ehi⟩ : ∃ z : Int32, z = fI H b (K.1.2 10 70) := ⟨_, rfl⟩
    rw [← ehi] at h70
    obtain ⟨iq, eiq⟩ : ∃ z : Nat, z = fR H b (K.1.2 10 73) := ⟨_, rfl⟩
    have giq := ty_fr (q := iq) (k := 73) (u := 162) eiq hT gb rg_112 rfl
    rw [← eiq] at q1 q4 q5 q10 q13 q16
    obtain ⟨k1, ek1⟩ : ∃ z : Int32, z = fI H kq (K.1.2 8 1) := ⟨_, rfl⟩
    rw [← ek1] at q1
    obtain ⟨i1, ei1⟩ : ∃ z : Int32, z = fI H iq ((0 : Int32).toNatClampNeg) := ⟨_, rfl⟩
    rw [← ei1] at q1
    obtain ⟨k4, ek4⟩ : ∃ z : Int32, z = fI H kq (K.1.2 8 4) := ⟨_, rfl⟩
    rw [← ek4] at q4
    obtain ⟨i4, ei4⟩ : ∃ z : Int32, z = fI H iq ((1 : Int32).toNatClampNeg) := ⟨_, rfl⟩
    rw [← ei4] at q4
    obtain ⟨k5, ek5⟩ : ∃ z : Int32, z = fI H kq (K.1.2 8 5) := ⟨_, rfl⟩
    rw [← ek5] at q5
    obtain ⟨i5, ei5⟩ : ∃ z : Int32, z = fI H iq ((2 : Int32).toNatClampNeg) := ⟨_, rfl⟩
    rw [← ei5] at q5
    obtain ⟨k10, ek10⟩ : ∃ z : Int32, z = fI H kq (K.1.2 8 10) := ⟨_, rfl⟩
    rw [← ek10] at q10
    obtain ⟨i10, ei10⟩ : ∃ z : Int32, z = fI H iq ((3 : Int32).toNatClampNeg) := ⟨_, rfl⟩
    rw [← ei10] at q10
    obtain ⟨k13, ek13⟩ : ∃ z : Int32, z = fI H kq (K.1.2 8 13) := ⟨_, rfl⟩
    rw [← ek13] at q13
    obtain ⟨i13, ei13⟩ : ∃ z : Int32, z = fI H iq ((4 : Int32).toNatClampNeg) := ⟨_, rfl⟩
    rw [← ei13] at q13
    obtain ⟨k16, ek16⟩ : ∃ z : Int32, z = fI H kq (K.1.2 8 16) := ⟨_, rfl⟩
    rw [← ek16] at q16
    obtain ⟨i16, ei16⟩ : ∃ z : Int32, z = fI H iq ((5 : Int32).toNatClampNeg) := ⟨_, rfl⟩
    rw [← ei16] at q16
    obtain ⟨kb, ekb⟩ : ∃ z : Nat, z = fR H kq (K.1.2 8 0) := ⟨_, rfl⟩
    have gkb := ty_fr (q := kb) (k := 0) (u := 59) ekb hT gkq rg_34 rfl
    have bk1 := ty_fi (x := k1) (k := 1) ek1 hT gkq rg_34 rfl
    rw [← ekb] at dbk
    rw [← ekb, ← eiq, ← ek1] at vk
    rw [← eiq, ← ek1] at vkt
    obtain ⟨kz166, ekz166⟩ : ∃ f : Nat → Int32, ∀ j : Nat, j < 10 → f j = fI H (fR H kb j) (K.1.2 0 14) := ⟨_, fun _ _ => rfl⟩
    obtain ⟨iz167, eiz167⟩ : ∃ f : Nat → Int32, ∀ j : Nat, j < 10 → f j = fI H iq (11 + 6 * j) := ⟨_, fun _ _ => rfl⟩
    have vk0 : ∀ j : Nat, j < 10 → (j : Int) < k1.toInt → kz166 j = iz167 j := fun j h1 h2 => by rw [ekz166 j h1, eiz167 j h1]; exact vk j h1 h2
    clear vk
    have vk1 : ∀ j : Nat, j < 10 → k1.toInt ≤ (j : Int) → iz167 j = 0 := fun j h1 h2 => by rw [eiz167 j h1]; exact vkt j h1 h2
    clear vkt
    refine lv_aload_n hx hb dL_law_1249 rfl (lv_at hl 2 rfl) ?_
    refine lv_aload_n hx hb dL_law_1250 rfl (lv_at hl 3 rfl) ?_
    refine lv_iload_n hx hb dL_law_1251 rfl (lv_at hl 0 rfl) ?_
    refine lv_iconst (v := 1) hx hb dL_law_1252 (by decide) ?_
    refine lv_iadd hx hb dL_law_1253 ?_
    refine lv_topi (fun x168 ex168 => ?_)
    obtain ⟨tx168, ejx168, evx168⟩ := lw_ix (k := 1) ex168 hI hL rfl (by decide)
    clear tx168
    refine va_sld hx hb hX hbl (Nat.not_le.mpr hbl) hS (vp_in_iff.mpr evx168) dL_law_1254 ?_
    refine W.eq (g2 := F0 m 1255 ls [.int (xs (i.toNatClampNeg + 1)), .ref a]) (congrArg (fun z => F0 m 1255 ls [.int (xs z), .ref a]) ejx168) ?_
    refine lv_aload_n hx hb dL_law_1255 rfl (lv_at hl 3 rfl) ?_
    refine lv_iload_n hx hb dL_law_1256 rfl (lv_at hl 0 rfl) ?_
    refine lv_iconst (v := 2) hx hb dL_law_1257 (by decide) ?_
    refine lv_iadd hx hb dL_law_1258 ?_
    refine lv_topi (fun x169 ex169 => ?_)
    obtain ⟨tx169, ejx169, evx169⟩ := lw_ix (k := 2) ex169 hI hL rfl (by decide)
    clear tx169
    refine va_sld hx hb hX hbl (Nat.not_le.mpr hbl) hS (vp_in_iff.mpr evx169) dL_law_1259 ?_
    refine W.eq (g2 := F0 m 1260 ls [.int (xs (i.toNatClampNeg + 2)), .int (xs (i.toNatClampNeg + 1)), .ref a]) (congrArg (fun z => F0 m 1260 ls [.int (xs z), .int (xs (i.toNatClampNeg + 1)), .ref a]) ejx169) ?_
    refine x_V (As := [.int (xs (i.toNatClampNeg + 1)), .int (xs (i.toNatClampNeg + 2))]) (rest := []) C (a_X9_nights l K G H ((xs (i.toNatClampNeg + 1))) ((xs (i.toNatClampNeg + 2))) hT ga) yo_X9_nights wM_L_129 ⟨⟨by decide, by decide⟩, show _ ≤ 1200000 from Nat.le_trans hc (by decide), show _ ≤ 5502250 from Nat.le_trans hs (by decide)⟩ (x_rv C hT (ci := 9) rfl ga rg_68) rfl hl.1 rfl (Nat.le_of_ble_eq_true rfl) dL_law_1260 hS (AE_new hN hS.1) (fun vH170 H170 locsH170 pH170 zH170 kH170 hSH170 => ?_)
    obtain ⟨x171, hvH170, hTH170⟩ := pH170
    subst hvH170
    have g172 : CG (avw K H170 b) := CG.congr (fun k hk j => av_eff hT kH170 gb (by decide) (CG_eff [83, 84, 109] (by decide) k hk)) cg
    have g173 : TU (avw K H170 b) (svw K H170 b) := TU.congr (fun k hk j => av_eff hT kH170 gb (by decide) (TU_eff [83, 84, 109] (by decide) k hk)) (fun k hk => sv_eff hT kH170 gb (by decide)) tu
    have g174 : WD (avw K H170 b) := WD.congr (fun k hk j => av_eff hT kH170 gb (by decide) (WD_eff [83, 84, 109] (by decide) k hk)) wd
    have g175 : IM (avw K H170 b) := IM.congr (fun k hk j => av_eff hT kH170 gb (by decide) (IM_eff [83, 84, 109] (by decide) k hk)) im
    have m176 := (ew).trans (fR_kept (x_lt hT kH170 ga (by decide))).symm
    have m177 := (eta).trans (fI_kept (x_lt hT kH170 ga (by decide))).symm
    have m178 := (etb).trans (fI_kept (x_lt hT kH170 gb (by decide))).symm
    have m179 := (es1).trans (fI_kept (x_lt hT kH170 gw (by decide))).symm
    have m180 := (ey1).trans (fI_kept (x_lt hT kH170 gb (by decide))).symm
    have m181 := (es4).trans (fI_kept (x_lt hT kH170 gw (by decide))).symm
    have m182 := (ey4).trans (fI_kept (x_lt hT kH170 gb (by decide))).symm
    have m183 := (es5).trans (fI_kept (x_lt hT kH170 gw (by decide))).symm
    have m184 := (ey5).trans (fI_kept (x_lt hT kH170 gb (by decide))).symm
    have m185 := (es10).trans (fI_kept (x_lt hT kH170 gw (by decide))).symm
    have m186 := (ey10).trans (fI_kept (x_lt hT kH170 gb (by decide))).symm
    have m187 := (es13).trans (fI_kept (x_lt hT kH170 gw (by decide))).symm
    have m188 := (ey13).trans (fI_kept (x_lt hT kH170 gb (by decide))).symm
    have m189 := (es16).trans (fI_kept (x_lt hT kH170 gw (by decide))).symm
    have m190 := (ey16).trans (fI_kept (x_lt hT kH170 gb (by decide))).symm
    have m191 := (ebq).trans (fR_kept (x_lt hT kH170 gw (by decide))).symm
    have m192 := (eaq).trans (fR_kept (x_lt hT kH170 gb (by decide))).symm
    have m193 := (ehi).trans (fI_kept (x_lt hT kH170 gb (by decide))).symm
    have m194 := (fV_kept (x_lt hT kH170 ga (by decide))).trans kn
    have m195 := (eiq).trans (fR_kept (x_lt hT kH170 gb (by decide))).symm
    have m196 := (ek1).trans (fI_kept (x_lt hT kH170 gkq (by decide))).symm
    have m197 := (ei1).trans (fI_kept (x_lt hT kH170 giq (by decide))).symm
    have m198 := (ek4).trans (fI_kept (x_lt hT kH170 gkq (by decide))).symm
    have m199 := (ei4).trans (fI_kept (x_lt hT kH170 giq (by decide))).symm
    have m200 := (ek5).trans (fI_kept (x_lt hT kH170 gkq (by decide))).symm
    have m201 := (ei5).trans (fI_kept (x_lt hT kH170 giq (by decide))).symm
    have m202 := (ek10).trans (fI_kept (x_lt hT kH170 gkq (by decide))).symm
    have m203 := (ei10).trans (fI_kept (x_lt hT kH170 giq (by decide))).symm
    have m204 := (ek13).trans (fI_kept (x_lt hT kH170 gkq (by decide))).symm
    have m205 := (ei13).trans (fI_kept (x_lt hT kH170 giq (by decide))).symm
    have m206 := (ek16).trans (fI_kept (x_lt hT kH170 gkq (by decide))).symm
    have m207 := (ei16).trans (fI_kept (x_lt hT kH170 giq (by decide))).symm
    have m208 := (ekb).trans (fR_kept (x_lt hT kH170 gkq (by decide))).symm
    refine W.eq (g2 := F0 m 1263 ls [.int x171]) rfl ?_
    have v209 : ∀ j : Nat, j < 10 → cz101 j = fI H170 (fR H170 bq j) (K.1.2 0 14) := fun j h => (ecz101 j h).trans (by rw [fR_kept (x_lt hT kH170 gbq (by decide))]; exact (fI_kept (x_lt hT kH170 (bar_g hT gbq j h) (by decide))).symm)
    have v210 : ∀ j : Nat, j < 10 → rz102 j = fI H170 aq j := fun j h => (erz102 j h).trans (fI_kept (x_lt hT kH170 gaq (by decide))).symm
    have v211 : ∀ j : Nat, j < 10 → kz166 j = fI H170 (fR H170 kb j) (K.1.2 0 14) := fun j h => (ekz166 j h).trans (by rw [fR_kept (x_lt hT kH170 gkb (by decide))]; exact (fI_kept (x_lt hT kH170 (bar_h hT gkb j h) (by decide))).symm)
    have d212 := DB.kept dbk (x_lt hT kH170 gkb (by decide))
    have v213 : ∀ j : Nat, j < 10 → iz167 j = fI H170 iq (11 + 6 * j) := fun j h => (eiz167 j h).trans (fI_kept (x_lt hT kH170 giq (by decide))).symm
    have d214 := DB.kept db (x_lt hT kH170 gbq (by decide))
    refine lv_pop hx hb dL_law_1263 rfl ?_
    refine lv_aload_n hx hb dL_law_1264 rfl (lv_at hl 1 rfl) ?_
    refine lv_aload_n hx hb dL_law_1265 rfl (lv_at hl 3 rfl) ?_
    refine lv_iload_n hx hb dL_law_1266 rfl (lv_at hl 0 rfl) ?_
    refine lv_iconst (v := 1) hx hb dL_law_1267 (by decide) ?_
    refine lv_iadd hx hb dL_law_1268 ?_
    refine lv_topi (fun x215 ex215 => ?_)
    obtain ⟨tx215, ejx215, evx215⟩ := lw_ix (k := 1) ex215 hI hL rfl (by decide)
    clear tx215
    refine va_sld hx hb hX hbl (Nat.not_le.mpr hbl) hSH170 (vp_in_iff.mpr evx215) dL_law_1269 ?_
    refine W.eq (g2 := F0 m 1270 ls [.int (xs (i.toNatClampNeg + 1)), .ref b]) (congrArg (fun z => F0 m 1270 ls [.int (xs z), .ref b]) ejx215) ?_
    refine lv_aload_n hx hb dL_law_1270 rfl (lv_at hl 3 rfl) ?_
    refine lv_iload_n hx hb dL_law_1271 rfl (lv_at hl 0 rfl) ?_
    refine lv_iconst (v := 2) hx hb dL_law_1272 (by decide) ?_
    refine lv_iadd hx hb dL_law_1273 ?_
    refine lv_topi (fun x216 ex216 => ?_)
    obtain ⟨tx216, ejx216, evx216⟩ := lw_ix (k := 2) ex216 hI hL rfl (by decide)
    clear tx216
    refine va_sld hx hb hX hbl (Nat.not_le.mpr hbl) hSH170 (vp_in_iff.mpr evx216) dL_law_1274 ?_
    refine W.eq (g2 := F0 m 1275 ls [.int (xs (i.toNatClampNeg + 2)), .int (xs (i.toNatClampNeg + 1)), .ref b]) (congrArg (fun z => F0 m 1275 ls [.int (xs z), .int (xs (i.toNatClampNeg + 1)), .ref b]) ejx216) ?_
    refine x_V (As := [.int (xs (i.toNatClampNeg + 1)), .int (xs (i.toNatClampNeg + 2))]) (rest := []) C (a_X10_nights l K G H170 ((xs (i.toNatClampNeg + 1))) ((xs (i.toNatClampNeg + 2))) hTH170 gb g172 g173 g174 g175) yo_X10_nights wM_L_132 ⟨⟨by decide, by decide⟩, show _ ≤ 1200000 from Nat.le_trans hc (by decide), show _ ≤ 5502250 from Nat.le_trans hs (by decide)⟩ (x_rv C hTH170 (ci := 10) rfl gb rg_112) rfl hl.1 rfl (Nat.le_of_ble_eq_true rfl) dL_law_1275 hSH170 (AE_new hN hSH170.1) (fun vH217 H217 locsH217 pH217 zH217 kH217 hSH217 => ?_)
    obtain ⟨x218, hvH217, g219, g220, g221, g222, mf223, hTH217⟩ := pH217
    subst hvH217
    have m224 := (m176).trans (fR_kept (x_lt hTH170 kH217 ga (by decide))).symm
    have m225 := (m177).trans (fI_kept (x_lt hTH170 kH217 ga (by decide))).symm
    have m226 := (m179).trans (fI_kept (x_lt hTH170 kH217 gw (by decide))).symm
    have m227 := (m181).trans (fI_kept (x_lt hTH170 kH217 gw (by decide))).symm
    have m228 := (m183).trans (fI_kept (x_lt hTH170 kH217 gw (by decide))).symm
    have m229 := (m185).trans (fI_kept (x_lt hTH170 kH217 gw (by decide))).symm
    have m230 := (m187).trans (fI_kept (x_lt hTH170 kH217 gw (by decide))).symm
    have m231 := (m189).trans (fI_kept (x_lt hTH170 kH217 gw (by decide))).symm
    have m232 := (m191).trans (fR_kept (x_lt hTH170 kH217 gw (by decide))).symm
    have m233 := (fV_kept (x_lt hTH170 kH217 ga (by decide))).trans m194
    have m234 := (m196).trans (fI_kept (x_lt hTH170 kH217 gkq (by decide))).symm
    have m235 := (m197).trans (fI_kept (x_lt hTH170 kH217 giq (by decide))).symm
    have m236 := (m198).trans (fI_kept (x_lt hTH170 kH217 gkq (by decide))).symm
    have m237 := (m199).trans (fI_kept (x_lt hTH170 kH217 giq (by decide))).symm
    have m238 := (m200).trans (fI_kept (x_lt hTH170 kH217 gkq (by decide))).symm
    have m239 := (m201).trans (fI_kept (x_lt hTH170 kH217 giq (by decide))).symm
    have m240 := (m202).trans (fI_kept (x_lt hTH170 kH217 gkq (by decide))).symm
    have m241 := (m203).trans (fI_kept (x_lt hTH170 kH217 giq (by decide))).symm
    have m242 := (m204).trans (fI_kept (x_lt hTH170 kH217 gkq (by decide))).symm
    have m243 := (m205).trans (fI_kept (x_lt hTH170 kH217 giq (by decide))).symm
    have m244 := (m206).trans (fI_kept (x_lt hTH170 kH217 gkq (by decide))).symm
    have m245 := (m207).trans (fI_kept (x_lt hTH170 kH217 giq (by decide))).symm
    have m246 := (m208).trans (fR_kept (x_lt hTH170 kH217 gkq (by decide))).symm
    have m247 := (m178).trans (MF.i mf223 (k := 18) (by decide) (by decide)).symm
    have m248 := (m180).trans (MF.i mf223 (k := 1) (by decide) (by decide)).symm
    have m249 := (m182).trans (MF.i mf223 (k := 2) (by decide) (by decide)).symm
    have m250 := (m184).trans (MF.i mf223 (k := 3) (by decide) (by decide)).symm
    have m251 := (m186).trans (MF.i mf223 (k := 59) (by decide) (by decide)).symm
    have m252 := (m188).trans (MF.i mf223 (k := 62) (by decide) (by decide)).symm
    have m253 := (m190).trans (MF.i mf223 (k := 65) (by decide) (by decide)).symm
    have m254 := (m192).trans (MF.r mf223 (k := 50) (by decide) (by decide)).symm
    have m255 := (m193).trans (MF.i mf223 (k := 70) (by decide) (by decide)).symm
    have m256 := (m195).trans (MF.r mf223 (k := 73) (by decide) (by decide)).symm
    refine W.eq (g2 := F0 m 1278 ls [.int x218]) rfl ?_
    have v257 : ∀ j : Nat, j < 10 → cz101 j = fI H217 (fR H217 bq j) (K.1.2 0 14) := fun j h => (v209 j h).trans (by rw [fR_kept (x_lt hTH170 kH217 gbq (by decide))]; exact (fI_kept (x_lt hTH170 kH217 (bar_g hTH170 gbq j h) (by decide))).symm)
    have v258 : ∀ j : Nat, j < 10 → rz102 j = fI H217 aq j := fun j h => (v210 j h).trans (fI_kept (x_lt hTH170 kH217 gaq (by decide))).symm
    have v259 : ∀ j : Nat, j < 10 → kz166 j = fI H217 (fR H217 kb j) (K.1.2 0 14) := fun j h => (v211 j h).trans (by rw [fR_kept (x_lt hTH170 kH217 gkb (by decide))]; exact (fI_kept (x_lt hTH170 kH217 (bar_h hTH170 gkb j h) (by decide))).symm)
    have d260 := DB.kept d212 (x_lt hTH170 kH217 gkb (by decide))
    have v261 : ∀ j : Nat, j < 10 → iz167 j = fI H217 iq (11 + 6 * j) := fun j h => (v213 j h).trans (fI_kept (x_lt hTH170 kH217 giq (by decide))).symm
    have d262 := DB.kept d214 (x_lt hTH170 kH217 gbq (by decide))
    refine lv_pop hx hb dL_law_1278 rfl ?_
    refine lv_goto (tgt := 1509) hx hb dL_law_1279 (by decide) ?_
    exact nx G H217 locsH217 _ _ ls ⟨hTH217, hN, ga, gb, g219, g220, g221, g222, ⟨(by rw [← m225, ← m247]; exact rt), (by rw [← m224, ← m226, ← m248]; exact r1), (by rw [← m224, ← m227, ← m249]; exact r4), (by rw [← m224, ← m228, ← m250]; exact r5), (by rw [← m224, ← m229, ← m251]; exact r10), (by rw [← m224, ← m230, ← m252]; exact r13), (by rw [← m224, ← m231, ← m253]; exact r16)⟩, Or.inr ⟨kq, m233, gkq, (by rw [← m255]; exact h70), (by rw [← m234, ← m256, ← m235]; exact q1), (by rw [← m236, ← m256, ← m237]; exact q4), (by rw [← m238, ← m256, ← m239]; exact q5), (by rw [← m240, ← m256, ← m241]; exact q10), (by rw [← m242, ← m256, ← m243]; exact q13), (by rw [← m244, ← m256, ← m245]; exact q16), (by rw [← m246]; exact d260), (by rw [← m246, ← m256, ← m234]; exact fun j h1 h2 => by rw [← v259 j h1, ← v261 j h1]; exact vk0 j h1 (by omega)), (by rw [← m256, ← m234]; exact fun j h1 h2 => by rw [← v261 j h1]; exact vk1 j h1 (by omega))⟩, (by unfold RB; rw [← m224, ← m232, ← m254, ← m248]; exact ⟨d262, fun j h1 h2 => by rw [← v257 j h1, ← v258 j h1]; exact rel j h1 (by omega), fun j h1 h2 => by rw [← v258 j h1]; exact tl j h1 (by omega)⟩), hSH217⟩ hl ⟨hc, hs, fun h => by have h1 := h.symm.trans m233; cases h1⟩