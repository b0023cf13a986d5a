set_option maxRecDepth 100000 in
set_option maxHeartbeats 8000000 in
theorem lw_c18 {p : Program} {l : Launch} {e : Env} {s : State} {m : MethodId} {below : List Frame} {meth : Method} {c : Code} {K : KE} {b0 L : Nat} {xs : Nat → Int32} {G : Nat → Option Nat} {H : Heap} {locs : List Loc} {a b : Nat} {cells slots : Nat} {ls : Array Slot} {i : Int32} {n : Nat} (D : LC p K s m meth c b0 L xs) (S : SX K s G H locs a b) (hl : lv_has ls 4 [(3, .int i), (2, .ref b), (1, .ref a), (0, .ref b0)]) (hi : 0 ≤ i.toInt ∧ i.toInt + 6 ≤ L) (hn : n ≤ 511) (hB : BD K H a cells slots) (nx : ∀ (G : Nat → Option Nat) (H : Heap) (locs : List Loc) (cells slots : Nat) (ls : Array Slot), SX K s G H locs a b → lv_has ls 4 [(3, .int i), (2, .ref b), (1, .ref a), (0, .ref b0)] → BD K H a cells slots → W p l e room_1 s m #[Value.ref b0] below meth c H locs cells slots (lw_Z below #[Value.ref b0] s) (F0 m 1509 ls [])) : W p l e room_1 s m #[Value.ref b0] below meth c H locs cells slots (lw_Z below #[Value.ref b0] s) (F0 m 882 ls []) := by
  obtain ⟨C, hX, hbl, hL⟩ := id D
  obtain ⟨hx, hb, hml, hown, hts, hKT, hr, hlocks, hnm⟩ := id C
  obtain ⟨hT, hN, ga, gb, cg, tu, wd, im, ⟨rt, r1, r4, r5, r10, r13, r16⟩, hk, htb, hS⟩ := S
  obtain ⟨hc, hs, hB0⟩ := hB
  have n_1 : (1 : Int32).toInt = 1 := rfl
  have n_2 : (2 : Int32).toInt = 2 := rfl
  obtain ⟨w, ew⟩ : ∃ z : Nat, z = fR H a (K.1.2 9 0) := ⟨_, rfl⟩
  have gw := ty_fr (q := w) (k := 0) (u := 0) ew hT ga rg_68 rfl
  rw [← ew] at r1 r4 r5 r10 r13 r16
  obtain ⟨ta, eta⟩ : ∃ z : Int32, z = fI H a (K.1.2 9 3) := ⟨_, rfl⟩
  rw [← eta] at rt
  obtain ⟨tb, etb⟩ : ∃ z : Int32, z = fI H b (K.1.2 10 18) := ⟨_, rfl⟩
  rw [← etb] at rt
  obtain ⟨s1, es1⟩ : ∃ z : Int32, z = fI H w (K.1.2 8 1) := ⟨_, rfl⟩
  rw [← es1] at r1
  obtain ⟨y1, ey1⟩ : ∃ z : Int32, z = fI H b (K.1.2 10 1) := ⟨_, rfl⟩
  rw [← ey1] at r1
  obtain ⟨s4, es4⟩ : ∃ z : Int32, z = fI H w (K.1.2 8 4) := ⟨_, rfl⟩
  rw [← es4] at r4
  obtain ⟨y4, ey4⟩ : ∃ z : Int32, z = fI H b (K.1.2 10 2) := ⟨_, rfl⟩
  rw [← ey4] at r4
  obtain ⟨s5, es5⟩ : ∃ z : Int32, z = fI H w (K.1.2 8 5) := ⟨_, rfl⟩
  rw [← es5] at r5
  obtain ⟨y5, ey5⟩ : ∃ z : Int32, z = fI H b (K.1.2 10 3) := ⟨_, rfl⟩
  rw [← ey5] at r5
  obtain ⟨s10, es10⟩ : ∃ z : Int32, z = fI H w (K.1.2 8 10) := ⟨_, rfl⟩
  rw [← es10] at r10
  obtain ⟨y10, ey10⟩ : ∃ z : Int32, z = fI H b (K.1.2 10 59) := ⟨_, rfl⟩
  rw [← ey10] at r10
  obtain ⟨s13, es13⟩ : ∃ z : Int32, z = fI H w (K.1.2 8 13) := ⟨_, rfl⟩
  rw [← es13] at r13
  obtain ⟨y13, ey13⟩ : ∃ z : Int32, z = fI H b (K.1.2 10 62) := ⟨_, rfl⟩
  rw [← ey13] at r13
  obtain ⟨s16, es16⟩ : ∃ z : Int32, z = fI H w (K.1.2 8 16) := ⟨_, rfl⟩
  rw [← es16] at r16
  obtain ⟨y16, ey16⟩ : ∃ z : Int32, z = fI H b (K.1.2 10 65) := ⟨_, rfl⟩
  rw [← ey16] at r16
  obtain ⟨tq, etq⟩ : ∃ z : Nat, z = fR H a (K.1.2 9 2) := ⟨_, rfl⟩
  have gtq := ty_fr (q := tq) (k := 2) (u := 108) etq hT ga rg_68 rfl
  obtain ⟨uq, euq⟩ : ∃ z : Nat, z = fR H b (K.1.2 10 17) := ⟨_, rfl⟩
  have guq := ty_fr (q := uq) (k := 17) (u := 126) euq hT gb rg_112 rfl
  have htr : TBR (fun j => fI H tq j) (fun j => fI H uq j) tb.toNatClampNeg := by rw [etq, euq, etb]; exact htb
  have ft0 : ∀ j : Nat, fI H tq j = fI H tq j := fun _ => rfl
  have fu0 : ∀ j : Nat, fI H uq j = fI H uq j := fun _ => rfl
  have bta := ty_fi (x := ta) (k := 3) eta hT ga rg_68 rfl
  have cta := i_cl (x := ta) (by omega)
  have btb := ty_fi (x := tb) (k := 18) etb hT gb rg_112 rfl
  have ctb := i_cl (x := tb) (by omega)
  rcases hk with ⟨kn, h70⟩ | ⟨kq, kn, gkq, h70, q1, q4, q5, q10, q13, q16⟩
  · skip
    obtain ⟨hi, ehi⟩ : ∃ z : Int32, z = fI H b (K.1.2 10 70) := ⟨_, rfl⟩
    rw [← ehi] at h70
    obtain ⟨hc0, hs0⟩ := hB0 kn
    refine lv_aload_n hx hb dL_law_882 rfl (lv_at hl 2 rfl) ?_
    refine lv_aload_n hx hb dL_law_883 rfl (lv_at hl 3 rfl) ?_
    refine lv_iload_n hx hb dL_law_884 rfl (lv_at hl 0 rfl) ?_
    refine lv_iconst (v := 1) hx hb dL_law_885 (by decide) ?_
    refine lv_iadd hx hb dL_law_886 ?_
    refine lv_topi (fun x101 ex101 => ?_)
    have tx101 := i_add ex101 (by omega)
    have ejx101 : x101.toNatClampNeg = i.toNatClampNeg + 1 := by have h1 := i_cl (x := x101) (by omega); have h2 := i_cl (x := i) (by omega); omega
    refine va_sld hx hb hX hbl (Nat.not_le.mpr hbl) hS (vp_in_iff.mpr (by omega)) dL_law_887 ?_
    refine W.eq (g2 := F0 m 888 ls [.int (xs (i.toNatClampNeg + 1)), .ref a]) (congrArg (fun z => F0 m 888 ls [.int (xs z), .ref a]) ejx101) ?_
    refine lv_aload_n hx hb dL_law_888 rfl (lv_at hl 3 rfl) ?_
    refine lv_iload_n hx hb dL_law_889 rfl (lv_at hl 0 rfl) ?_
    refine lv_iconst (v := 2) hx hb dL_law_890 (by decide) ?_
    refine lv_iadd hx hb dL_law_891 ?_
    refine lv_topi (fun x102 ex102 => ?_)
    have tx102 := i_add ex102 (by omega)
    have ejx102 : x102.toNatClampNeg = i.toNatClampNeg + 2 := by have h1 := i_cl (x := x102) (by omega); have h2 := i_cl (x := i) (by omega); omega
    refine va_sld hx hb hX hbl (Nat.not_le.mpr hbl) hS (vp_in_iff.mpr (by omega)) dL_law_892 ?_
    refine W.eq (g2 := F0 m 893 ls [.int (xs (i.toNatClampNeg + 2)), .int (xs (i.toNatClampNeg + 1)), .ref a]) (congrArg (fun z => F0 m 893 ls [.int (xs z), .int (xs (i.toNatClampNeg + 1)), .ref a]) ejx102) ?_
    refine x_V (As := [.int (xs (i.toNatClampNeg + 1)), .int (xs (i.toNatClampNeg + 2))]) (rest := []) C (a_X9_fewest l K G H ((xs (i.toNatClampNeg + 1))) ((xs (i.toNatClampNeg + 2))) hT ga) yo_X9_fewest wM_L_92 ⟨⟨by decide, by decide⟩, show _ ≤ 284929 by omega, show _ ≤ 8247460 by omega⟩ (x_rv C hT (ci := 9) rfl ga rg_68) rfl hl.1 rfl (Nat.le_of_ble_eq_true rfl) dL_law_893 hS (AE_new hN hS.1) (fun vH103 H103 locsH103 pH103 zH103 kH103 hSH103 => ?_)
    obtain ⟨x104, hvH103, hTH103⟩ := pH103
    subst hvH103
    have g105 : CG (avw K H103 b) := CG.congr (fun k hk j => av_eff hT kH103 gb (by decide) (CG_eff [89, 91, 92, 93, 94, 95, 96, 97, 90, 85, 86, 83, 84] (by decide) k hk)) cg
    have g106 : TU (avw K H103 b) (svw K H103 b) := TU.congr (fun k hk j => av_eff hT kH103 gb (by decide) (TU_eff [89, 91, 92, 93, 94, 95, 96, 97, 90, 85, 86, 83, 84] (by decide) k hk)) (fun k hk => sv_eff hT kH103 gb (by decide)) tu
    have g107 : WD (avw K H103 b) := WD.congr (fun k hk j => av_eff hT kH103 gb (by decide) (WD_eff [89, 91, 92, 93, 94, 95, 96, 97, 90, 85, 86, 83, 84] (by decide) k hk)) wd
    have g108 : IM (avw K H103 b) := IM.congr (fun k hk j => av_eff hT kH103 gb (by decide) (IM_eff [89, 91, 92, 93, 94, 95, 96, 97, 90, 85, 86, 83, 84] (by decide) k hk)) im
    have f109 : ∀ j : Nat, fI H103 tq j = fI H tq j := fun j => (fI_kept (x_lt hT kH103 gtq (by decide))).trans (ft0 j)
    have f110 : ∀ j : Nat, fI H103 uq j = fI H uq j := fun j => (fI_kept (x_lt hT kH103 guq (by decide))).trans (fu0 j)
    have m111 := (ew).trans (fR_kept (x_lt hT kH103 ga (by decide))).symm
    have m112 := (eta).trans (fI_kept (x_lt hT kH103 ga (by decide))).symm
    have m113 := (etb).trans (fI_kept (x_lt hT kH103 gb (by decide))).symm
    have m114 := (es1).trans (fI_kept (x_lt hT kH103 gw (by decide))).symm
    have m115 := (ey1).trans (fI_kept (x_lt hT kH103 gb (by decide))).symm
    have m116 := (es4).trans (fI_kept (x_lt hT kH103 gw (by decide))).symm
    have m117 := (ey4).trans (fI_kept (x_lt hT kH103 gb (by decide))).symm
    have m118 := (es5).trans (fI_kept (x_lt hT kH103 gw (by decide))).symm
    have m119 := (ey5).trans (fI_kept (x_lt hT kH103 gb (by decide))).symm
    have m120 := (es10).trans (fI_kept (x_lt hT kH103 gw (by decide))).symm
    have m121 := (ey10).trans (fI_kept (x_lt hT kH103 gb (by decide))).symm
    have m122 := (es13).trans (fI_kept (x_lt hT kH103 gw (by decide))).symm
    have m123 := (ey13).trans (fI_kept (x_lt hT kH103 gb (by decide))).symm
    have m124 := (es16).trans (fI_kept (x_lt hT kH103 gw (by decide))).symm
    have m125 := (ey16).trans (fI_kept (x_lt hT kH103 gb (by decide))).symm
    have m126 := (etq).trans (fR_kept (x_lt hT kH103 ga (by decide))).symm
    have m127 := (euq).trans (fR_kept (x_lt hT kH103 gb (by decide))).symm
    have m128 := (ehi).trans (fI_kept (x_lt hT kH103 gb (by decide))).symm
    have m129 := (fV_kept (x_lt hT kH103 ga (by decide))).trans kn
    refine W.eq (g2 := F0 m 896 ls [.int x104]) rfl ?_
    refine lv_pop hx hb dL_law_896 rfl ?_
    refine lv_aload_n hx hb dL_law_897 rfl (lv_at hl 1 rfl) ?_
    refine lv_aload_n hx hb dL_law_898 rfl (lv_at hl 3 rfl) ?_
    refine lv_iload_n hx hb dL_law_899 rfl (lv_at hl 0 rfl) ?_
    refine lv_iconst (v := 1) hx hb dL_law_900 (by decide) ?_
    refine lv_iadd hx hb dL_law_901 ?_
    refine lv_topi (fun x130 ex130 => ?_)
    have tx130 := i_add ex130 (by omega)
    have ejx130 : x130.toNatClampNeg = i.toNatClampNeg + 1 := by have h1 := i_cl (x := x130) (by omega); have h2 := i_cl (x := i) (by omega); omega
    refine va_sld hx hb hX hbl (Nat.not_le.mpr hbl) hSH103 (vp_in_iff.mpr (by omega)) dL_law_902 ?_
    refine W.eq (g2 := F0 m 903 ls [.int (xs (i.toNatClampNeg + 1)), .ref b]) (congrArg (fun z => F0 m 903 ls [.int (xs z), .ref b]) ejx130) ?_
    refine lv_aload_n hx hb dL_law_903 rfl (lv_at hl 3 rfl) ?_
    refine lv_iload_n hx hb dL_law_904 rfl (lv_at hl 0 rfl) ?_
    refine lv_iconst (v := 2) hx hb dL_law_905 (by decide) ?_
    refine lv_iadd hx hb dL_law_906 ?_
    refine lv_topi (fun x131 ex131 => ?_)
    have tx131 := i_add ex131 (by omega)
    have ejx131 : x131.toNatClampNeg = i.toNatClampNeg + 2 := by have h1 := i_cl (x := x131) (by omega); have h2 := i_cl (x := i) (by omega); omega
    refine va_sld hx hb hX hbl (Nat.not_le.mpr hbl) hSH103 (vp_in_iff.mpr (by omega)) dL_law_907 ?_
    refine W.eq (g2 := F0 m 908 ls [.int (xs (i.toNatClampNeg + 2)), .int (xs (i.toNatClampNeg + 1)), .ref b]) (congrArg (fun z => F0 m 908 ls [.int (xs z), .int (xs (i.toNatClampNeg + 1)), .ref b]) ejx131) ?_
    refine x_V (As := [.int (xs (i.toNatClampNeg + 1)), .int (xs (i.toNatClampNeg + 2))]) (rest := []) C (a_X10_fewest l K G H103 ((xs (i.toNatClampNeg + 1))) ((xs (i.toNatClampNeg + 2))) hTH103 gb g105 g106 g107 g108) yo_X10_fewest wM_L_95 ⟨⟨by decide, by decide⟩, show _ ≤ 284929 by omega, show _ ≤ 8247460 by omega⟩ (x_rv C hTH103 (ci := 10) rfl gb rg_112) rfl hl.1 rfl (Nat.le_of_ble_eq_true rfl) dL_law_908 hSH103 (AE_new hN hSH103.1) (fun vH132 H132 locsH132 pH132 zH132 kH132 hSH132 => ?_)
    obtain ⟨x133, hvH132, g134, g135, g136, g137, mf138, hTH132⟩ := pH132
    subst hvH132
    have f139 : ∀ j : Nat, fI H132 tq j = fI H tq j := fun j => (fI_kept (x_lt hTH103 kH132 gtq (by decide))).trans (f109 j)
    have f140 : ∀ j : Nat, fI H132 uq j = fI H uq j := fun j => (fI_kept (x_lt hTH103 kH132 guq (by decide))).trans (f110 j)
    have m141 := (m111).trans (fR_kept (x_lt hTH103 kH132 ga (by decide))).symm
    have m142 := (m112).trans (fI_kept (x_lt hTH103 kH132 ga (by decide))).symm
    have m143 := (m114).trans (fI_kept (x_lt hTH103 kH132 gw (by decide))).symm
    have m144 := (m116).trans (fI_kept (x_lt hTH103 kH132 gw (by decide))).symm
    have m145 := (m118).trans (fI_kept (x_lt hTH103 kH132 gw (by decide))).symm
    have m146 := (m120).trans (fI_kept (x_lt hTH103 kH132 gw (by decide))).symm
    have m147 := (m122).trans (fI_kept (x_lt hTH103 kH132 gw (by decide))).symm
    have m148 := (m124).trans (fI_kept (x_lt hTH103 kH132 gw (by decide))).symm
    have m149 := (m126).trans (fR_kept (x_lt hTH103 kH132 ga (by decide))).symm
    have m150 := (fV_kept (x_lt hTH103 kH132 ga (by decide))).trans m129
    have m151 := (m113).trans (MF.i mf138 (k := 18) (by decide) (by decide)).symm
    have m152 := (m115).trans (MF.i mf138 (k := 1) (by decide) (by decide)).symm
    have m153 := (m117).trans (MF.i mf138 (k := 2) (by decide) (by decide)).symm
    have m154 := (m119).trans (MF.i mf138 (k := 3) (by decide) (by decide)).symm
    have m155 := (m121).trans (MF.i mf138 (k := 59) (by decide) (by decide)).symm
    have m156 := (m123).trans (MF.i mf138 (k := 62) (by decide) (by decide)).symm
    have m157 := (m125).trans (MF.i mf138 (k := 65) (by decide) (by decide)).symm
    have m158 := (m127).trans (MF.r mf138 (k := 17) (by decide) (by decide)).symm
    have m159 := (m128).trans (MF.i mf138 (k := 70) (by decide) (by decide)).symm
    refine W.eq (g2 := F0 m 911 ls [.int x133]) rfl ?_
    refine lv_pop hx hb dL_law_911 rfl ?_
    refine lv_goto (tgt := 1509) hx hb dL_law_912 (by decide) ?_
    exact nx G H132 locsH132 _ _ ls ⟨hTH132, hN, ga, gb, g134, g135, g136, g137, ⟨(by rw [← m142, ← m151]; omega), (by rw [← m141, ← m143, ← m152]; omega), (by rw [← m141, ← m144, ← m153]; omega), (by rw [← m141, ← m145, ← m154]; omega), (by rw [← m141, ← m146, ← m155]; omega), (by rw [← m141, ← m147, ← m156]; omega), (by rw [← m141, ← m148, ← m157]; omega)⟩, Or.inl ⟨m150, (by rw [← m159]; omega)⟩, (by unfold TB; rw [← m149, ← m158, ← m151]; exact TBR.of htr f139 f140 (by omega)), hSH132⟩ hl ⟨by omega, by omega, fun _ => ⟨by omega, by omega⟩⟩
  · skip
    obtain ⟨hi, ehi⟩ : ∃ z : Int32, z = fI H b (K.1.2 10 70) := ⟨_, rfl⟩
    rw [← ehi] at h70
    obtain ⟨iq, eiq⟩ : ∃ z : Nat, z = fR H b (K.1.2 10 73) := ⟨_, rfl⟩
    have giq := ty_fr (q := iq) (k := 73) (u := 162) eiq hT gb rg_112 rfl
    rw [← eiq] at q1 q4 q5 q10 q13 q16
    obtain ⟨k1, ek1⟩ : ∃ z : Int32, z = fI H kq (K.1.2 8 1) := ⟨_, rfl⟩
    rw [← ek1] at q1
    obtain ⟨i1, ei1⟩ : ∃ z : Int32, z = fI H iq ((0 : Int32).toNatClampNeg) := ⟨_, rfl⟩
    rw [← ei1] at q1
    obtain ⟨k4, ek4⟩ : ∃ z : Int32, z = fI H kq (K.1.2 8 4) := ⟨_, rfl⟩
    rw [← ek4] at q4
    obtain ⟨i4, ei4⟩ : ∃ z : Int32, z = fI H iq ((1 : Int32).toNatClampNeg) := ⟨_, rfl⟩
    rw [← ei4] at q4
    obtain ⟨k5, ek5⟩ : ∃ z : Int32, z = fI H kq (K.1.2 8 5) := ⟨_, rfl⟩
    rw [← ek5] at q5
    obtain ⟨i5, ei5⟩ : ∃ z : Int32, z = fI H iq ((2 : Int32).toNatClampNeg) := ⟨_, rfl⟩
    rw [← ei5] at q5
    obtain ⟨k10, ek10⟩ : ∃ z : Int32, z = fI H kq (K.1.2 8 10) := ⟨_, rfl⟩
    rw [← ek10] at q10
    obtain ⟨i10, ei10⟩ : ∃ z : Int32, z = fI H iq ((3 : Int32).toNatClampNeg) := ⟨_, rfl⟩
    rw [← ei10] at q10
    obtain ⟨k13, ek13⟩ : ∃ z : Int32, z = fI H kq (K.1.2 8 13) := ⟨_, rfl⟩
    rw [← ek13] at q13
    obtain ⟨i13, ei13⟩ : ∃ z : Int32, z = fI H iq ((4 : Int32).toNatClampNeg) := ⟨_, rfl⟩
    rw [← ei13] at q13
    obtain ⟨k16, ek16⟩ : ∃ z : Int32, z = fI H kq (K.1.2 8 16) := ⟨_, rfl⟩
    rw [← ek16] at q16
    obtain ⟨i16, ei16⟩ : ∃ z : Int32, z = fI H iq ((5 : Int32).toNatClampNeg) := ⟨_, rfl⟩
    rw [← ei16] at q16
    refine lv_aload_n hx hb dL_law_882 rfl (lv_at hl 2 rfl) ?_
    refine lv_aload_n hx hb dL_law_883 rfl (lv_at hl 3 rfl) ?_
    refine lv_iload_n hx hb dL_law_884 rfl (lv_at hl 0 rfl) ?_
    refine lv_iconst (v := 1) hx hb dL_law_885 (by decide) ?_
    refine lv_iadd hx hb dL_law_886 ?_
    refine lv_topi (fun x160 ex160 => ?_)
    have tx160 := i_add ex160 (by omega)
    have ejx160 : x160.toNatClampNeg = i.toNatClampNeg + 1 := by have h1 := i_cl (x := x160) (by omega); have h2 := i_cl (x := i) (by omega); omega
    refine va_sld hx hb hX hbl (Nat.not_le.mpr hbl) hS (vp_in_iff.mpr (by omega)) dL_law_887 ?_
    refine W.eq (g2 := F0 m 888 ls [.int (xs (i.toNatClampNeg + 1)), .ref a]) (congrArg (fun z => F0 m 888 ls [.int (xs z), .ref a]) ejx160) ?_
    refine lv_aload_n hx hb dL_law_888 rfl (lv_at hl 3 rfl) ?_
    refine lv_iload_n hx hb dL_law_889 rfl (lv_at hl 0 rfl) ?_
    refine lv_iconst (v := 2) hx hb dL_law_890 (by decide) ?_
    refine lv_iadd hx hb dL_law_891 ?_
    refine lv_topi (fun x161 ex161 => ?_)
    have tx161 := i_add ex161 (by omega)
    have ejx161 : x161.toNatClampNeg = i.toNatClampNeg + 2 := by have h1 := i_cl (x := x161) (by omega); have h2 := i_cl (x := i) (by omega); omega
    refine va_sld hx hb hX hbl (Nat.not_le.mpr hbl) hS (vp_in_iff.mpr (by omega)) dL_law_892 ?_
    refine W.eq (g2 := F0 m 893 ls [.int (xs (i.toNatClampNeg + 2)), .int (xs (i.toNatClampNeg + 1)), .ref a]) (congrArg (fun z => F0 m 893 ls [.int (xs z), .int (xs (i.toNatClampNeg + 1)), .ref a]) ejx161) ?_
    refine x_V (As := [.int (xs (i.toNatClampNeg + 1)), .int (xs (i.toNatClampNeg + 2))]) (rest := []) C (a_X9_fewest l K G H ((xs (i.toNatClampNeg + 1))) ((xs (i.toNatClampNeg + 2))) hT ga) yo_X9_fewest wM_L_92 ⟨⟨by decide, by decide⟩, show _ ≤ 284929 by omega, show _ ≤ 8247460 by omega⟩ (x_rv C hT (ci := 9) rfl ga rg_68) rfl hl.1 rfl (Nat.le_of_ble_eq_true rfl) dL_law_893 hS (AE_new hN hS.1) (fun vH162 H162 locsH162 pH162 zH162 kH162 hSH162 => ?_)
    obtain ⟨x163, hvH162, hTH162⟩ := pH162
    subst hvH162
    have g164 : CG (avw K H162 b) := CG.congr (fun k hk j => av_eff hT kH162 gb (by decide) (CG_eff [89, 91, 92, 93, 94, 95, 96, 97, 90, 85, 86, 83, 84] (by decide) k hk)) cg
    have g165 : TU (avw K H162 b) (svw K H162 b) := TU.congr (fun k hk j => av_eff hT kH162 gb (by decide) (TU_eff [89, 91, 92, 93, 94, 95, 96, 97, 90, 85, 86, 83, 84] (by decide) k hk)) (fun k hk => sv_eff hT kH162 gb (by decide)) tu
    have g166 : WD (avw K H162 b) := WD.congr (fun k hk j => av_eff hT kH162 gb (by decide) (WD_eff [89, 91, 92, 93, 94, 95, 96, 97, 90, 85, 86, 83, 84] (by decide) k hk)) wd
    have g167 : IM (avw K H162 b) := IM.congr (fun k hk j => av_eff hT kH162 gb (by decide) (IM_eff [89, 91, 92, 93, 94, 95, 96, 97, 90, 85, 86, 83, 84] (by decide) k hk)) im
    have f168 : ∀ j : Nat, fI H162 tq j = fI H tq j := fun j => (fI_kept (x_lt hT kH162 gtq (by decide))).trans (ft0 j)
    have f169 : ∀ j : Nat, fI H162 uq j = fI H uq j := fun j => (fI_kept (x_lt hT kH162 guq (by decide))).trans (fu0 j)
    have m170 := (ew).trans (fR_kept (x_lt hT kH162 ga (by decide))).symm
    have m171 := (eta).trans (fI_kept (x_lt hT kH162 ga (by decide))).symm
    have m172 := (etb).trans (fI_kept (x_lt hT kH162 gb (by decide))).symm
    have m173 := (es1).trans (fI_kept (x_lt hT kH162 gw (by decide))).symm
    have m174 := (ey1).trans (fI_kept (x_lt hT kH162 gb (by decide))).symm
    have m175 := (es4).trans (fI_kept (x_lt hT kH162 gw (by decide))).symm
    have m176 := (ey4).trans (fI_kept (x_lt hT kH162 gb (by decide))).symm
    have m177 := (es5).trans (fI_kept (x_lt hT kH162 gw (by decide))).symm
    have m178 := (ey5).trans (fI_kept (x_lt hT kH162 gb (by decide))).symm
    have m179 := (es10).trans (fI_kept (x_lt hT kH162 gw (by decide))).symm
    have m180 := (ey10).trans (fI_kept (x_lt hT kH162 gb (by decide))).symm
    have m181 := (es13).trans (fI_kept (x_lt hT kH162 gw (by decide))).symm
    have m182 := (ey13).trans (fI_kept (x_lt hT kH162 gb (by decide))).symm
    have m183 := (es16).trans (fI_kept (x_lt hT kH162 gw (by decide))).symm
    have m184 := (ey16).trans (fI_kept (x_lt hT kH162 gb (by decide))).symm
    have m185 := (etq).trans (fR_kept (x_lt hT kH162 ga (by decide))).symm
    have m186 := (euq).trans (fR_kept (x_lt hT kH162 gb (by decide))).symm
    have m187 := (ehi).trans (fI_kept (x_lt hT kH162 gb (by decide))).symm
    have m188 := (fV_kept (x_lt hT kH162 ga (by decide))).trans kn
    have m189 := (eiq).trans (fR_kept (x_lt hT kH162 gb (by decide))).symm
    have m190 := (ek1).trans (fI_kept (x_lt hT kH162 gkq (by decide))).symm
    have m191 := (ei1).trans (fI_kept (x_lt hT kH162 giq (by decide))).symm
    have m192 := (ek4).trans (fI_kept (x_lt hT kH162 gkq (by decide))).symm
    have m193 := (ei4).trans (fI_kept (x_lt hT kH162 giq (by decide))).symm
    have m194 := (ek5).trans (fI_kept (x_lt hT kH162 gkq (by decide))).symm
    have m195 := (ei5).trans (fI_kept (x_lt hT kH162 giq (by decide))).symm
    have m196 := (ek10).trans (fI_kept (x_lt hT kH162 gkq (by decide))).symm
    have m197 := (ei10).trans (fI_kept (x_lt hT kH162 giq (by decide))).symm
    have m198 := (ek13).trans (fI_kept (x_lt hT kH162 gkq (by decide))).symm
    have m199 := (ei13).trans (fI_kept (x_lt hT kH162 giq (by decide))).symm
    have m200 := (ek16).trans (fI_kept (x_lt hT kH162 gkq (by decide))).symm
    have m201 := (ei16).trans (fI_kept (x_lt hT kH162 giq (by decide))).symm
    refine W.eq (g2 := F0 m 896 ls [.int x163]) rfl ?_
    refine lv_pop hx hb dL_law_896 rfl ?_
    refine lv_aload_n hx hb dL_law_897 rfl (lv_at hl 1 rfl) ?_
    refine lv_aload_n hx hb dL_law_898 rfl (lv_at hl 3 rfl) ?_
    refine lv_iload_n hx hb dL_law_899 rfl (lv_at hl 0 rfl) ?_
    refine lv_iconst (v := 1) hx hb dL_law_900 (by decide) ?_
    refine lv_iadd hx hb dL_law_901 ?_
    refine lv_topi (fun x202 ex202 => ?_)
    have tx202 := i_add ex202 (by omega)
    have ejx202 : x202.toNatClampNeg = i.toNatClampNeg + 1 := by have h1 := i_cl (x := x202) (by omega); have h2 := i_cl (x := i) (by omega); omega
    refine va_sld hx hb hX hbl (Nat.not_le.mpr hbl) hSH162 (vp_in_iff.mpr (by omega)) dL_law_902 ?_
    refine W.eq (g2 := F0 m 903 ls [.int (xs (i.toNatClampNeg + 1)), .ref b]) (congrArg (fun z => F0 m 903 ls [.int (xs z), .ref b]) ejx202) ?_
    refine lv_aload_n hx hb dL_law_903 rfl (lv_at hl 3 rfl) ?_
    refine lv_iload_n hx hb dL_law_904 rfl (lv_at hl 0 rfl) ?_
    refine lv_iconst (v := 2) hx hb dL_law_905 (by decide) ?_
    refine lv_iadd hx hb dL_law_906 ?_
    refine lv_topi (fun x203 ex203 => ?_)
    have tx203 := i_add ex203 (by omega)
    have ejx203 : x203.toNatClampNeg = i.toNatClampNeg + 2 := by have h1 := i_cl (x := x203) (by omega); have h2 := i_cl (x := i) (by omega); omega
    refine va_sld hx hb hX hbl (Nat.not_le.mpr hbl) hSH162 (vp_in_iff.mpr (by omega)) dL_law_907 ?_
    refine W.eq (g2 := F0 m 908 ls [.int (xs (i.toNatClampNeg + 2)), .int (xs (i.toNatClampNeg + 1)), .ref b]) (congrArg (fun z => F0 m 908 ls [.int (xs z), .int (xs (i.toNatClampNeg + 1)), .ref b]) ejx203) ?_
    refine x_V (As := [.int (xs (i.toNatClampNeg + 1)), .int (xs (i.toNatClampNeg + 2))]) (rest := []) C (a_X10_fewest l K G H162 ((xs (i.toNatClampNeg + 1))) ((xs (i.toNatClampNeg + 2))) hTH162 gb g164 g165 g166 g167) yo_X10_fewest wM_L_95 ⟨⟨by decide, by decide⟩, show _ ≤ 284929 by omega, show _ ≤ 8247460 by omega⟩ (x_rv C hTH162 (ci := 10) rfl gb rg_112) rfl hl.1 rfl (Nat.le_of_ble_eq_true rfl) dL_law_908 hSH162 (AE_new hN hSH162.1) (fun vH204 H204 locsH204 pH204 zH204 kH204 hSH204 => ?_)
    obtain ⟨x205, hvH204, g206, g207, g208, g209, mf210, hTH204⟩ := pH204
    subst hvH204
    have f211 : ∀ j : Nat, fI H204 tq j = fI H tq j := fun j => (fI_kept (x_lt hTH162 kH204 gtq (by decide))).trans (f168 j)
    have f212 : ∀ j : Nat, fI H204 uq j = fI H uq j := fun j => (fI_kept (x_lt hTH162 kH204 guq (by decide))).trans (f169 j)
    have m213 := (m170).trans (fR_kept (x_lt hTH162 kH204 ga (by decide))).symm
    have m214 := (m171).trans (fI_kept (x_lt hTH162 kH204 ga (by decide))).symm
    have m215 := (m173).trans (fI_kept (x_lt hTH162 kH204 gw (by decide))).symm
    have m216 := (m175).trans (fI_kept (x_lt hTH162 kH204 gw (by decide))).symm
    have m217 := (m177).trans (fI_kept (x_lt hTH162 kH204 gw (by decide))).symm
    have m218 := (m179).trans (fI_kept (x_lt hTH162 kH204 gw (by decide))).symm
    have m219 := (m181).trans (fI_kept (x_lt hTH162 kH204 gw (by decide))).symm
    have m220 := (m183).trans (fI_kept (x_lt hTH162 kH204 gw (by decide))).symm
    have m221 := (m185).trans (fR_kept (x_lt hTH162 kH204 ga (by decide))).symm
    have m222 := (fV_kept (x_lt hTH162 kH204 ga (by decide))).trans m188
    have m223 := (m190).trans (fI_kept (x_lt hTH162 kH204 gkq (by decide))).symm
    have m224 := (m191).trans (fI_kept (x_lt hTH162 kH204 giq (by decide))).symm
    have m225 := (m192).trans (fI_kept (x_lt hTH162 kH204 gkq (by decide))).symm
    have m226 := (m193).trans (fI_kept (x_lt hTH162 kH204 giq (by decide))).symm
    have m227 := (m194).trans (fI_kept (x_lt hTH162 kH204 gkq (by decide))).symm
    have m228 := (m195).trans (fI_kept (x_lt hTH162 kH204 giq (by decide))).symm
    have m229 := (m196).trans (fI_kept (x_lt hTH162 kH204 gkq (by decide))).symm
    have m230 := (m197).trans (fI_kept (x_lt hTH162 kH204 giq (by decide))).symm
    have m231 := (m198).trans (fI_kept (x_lt hTH162 kH204 gkq (by decide))).symm
    have m232 := (m199).trans (fI_kept (x_lt hTH162 kH204 giq (by decide))).symm
    have m233 := (m200).trans (fI_kept (x_lt hTH162 kH204 gkq (by decide))).symm
    have m234 := (m201).trans (fI_kept (x_lt hTH162 kH204 giq (by decide))).symm
    have m235 := (m172).trans (MF.i mf210 (k := 18) (by decide) (by decide)).symm
    have m236 := (m174).trans (MF.i mf210 (k := 1) (by decide) (by decide)).symm
    have m237 := (m176).trans (MF.i mf210 (k := 2) (by decide) (by decide)).symm
    have m238 := (m178).trans (MF.i mf210 (k := 3) (by decide) (by decide)).symm
    have m239 := (m180).trans (MF.i mf210 (k := 59) (by decide) (by decide)).symm
    have m240 := (m182).trans (MF.i mf210 (k := 62) (by decide) (by decide)).symm
    have m241 := (m184).trans (MF.i mf210 (k := 65) (by decide) (by decide)).symm
    have m242 := (m186).trans (MF.r mf210 (k := 17) (by decide) (by decide)).symm
    have m243 := (m187).trans (MF.i mf210 (k := 70) (by decide) (by decide)).symm
    have m244 := (m189).trans (MF.r mf210 (k := 73) (by decide) (by decide)).symm
    refine W.eq (g2 := F0 m 911 ls [.int x205]) rfl ?_
    refine lv_pop hx hb dL_law_911 rfl ?_
    refine lv_goto (tgt := 1509) hx hb dL_law_912 (by decide) ?_
    exact nx G H204 locsH204 _ _ ls ⟨hTH204, hN, ga, gb, g206, g207, g208, g209, ⟨(by rw [← m214, ← m235]; omega), (by rw [← m213, ← m215, ← m236]; omega), (by rw [← m213, ← m216, ← m237]; omega), (by rw [← m213, ← m217, ← m238]; omega), (by rw [← m213, ← m218, ← m239]; omega), (by rw [← m213, ← m219, ← m240]; omega), (by rw [← m213, ← m220, ← m241]; omega)⟩, Or.inr ⟨kq, m222, gkq, (by rw [← m243]; omega), (by rw [← m223, ← m244, ← m224]; omega), (by rw [← m225, ← m244, ← m226]; omega), (by rw [← m227, ← m244, ← m228]; omega), (by rw [← m229, ← m244, ← m230]; omega), (by rw [← m231, ← m244, ← m232]; omega), (by rw [← m233, ← m244, ← m234]; omega)⟩, (by unfold TB; rw [← m221, ← m242, ← m235]; exact TBR.of htr f211 f212 (by omega)), hSH204⟩ hl ⟨by omega, by omega, fun h => by have h1 := h.symm.trans m222; cases h1⟩
set_option maxRecDepth 100000 in
set_option maxHeartbeats 8000000 in
theorem lw_c19 {p : Program} {l : Launch} {e : Env} {s : State} {m : MethodId} {below : List Frame} {meth : Method} {c : Code} {K : KE} {b0 L : Nat} {xs : Nat → Int32} {G : Nat → Option Nat} {H : Heap} {locs : List Loc} {a b : Nat} {cells slots : Nat} {ls : Array Slot} {i : Int32} {n : Nat} (D : LC p K s m meth c b0 L xs) (S : SX K s G H locs a b) (hl : lv_has ls 4 [(3, .int i), (2, .ref b), (1, .ref a), (0, .ref b0)]) (hi : 0 ≤ i.toInt ∧ i.toInt + 6 ≤ L) (hn : n ≤ 511) (hB : BD K H a cells slots) (nx : ∀ (G : Nat → Option Nat) (H : Heap) (locs : List Loc) (cells slots : Nat) (ls : Array Slot), SX K s G H locs a b → lv_has ls 4 [(3, .int i), (2, .ref b), (1, .ref a), (0, .ref b0)] → BD K H a cells slots → W p l e room_1 s m #[Value.ref b0] below meth c H locs cells slots (lw_Z below #[Value.ref b0] s) (F0 m 1509 ls [])) : W p l e room_1 s m #[Value.ref b0] below meth c H locs cells slots (lw_Z below #[Value.ref b0] s) (F0 m 915 ls []) := by
  obtain ⟨C, hX, hbl, hL⟩ := id D
  obtain ⟨hx, hb, hml, hown, hts, hKT, hr, hlocks, hnm⟩ := id C
  obtain ⟨hT, hN, ga, gb, cg, tu, wd, im, ⟨rt, r1, r4, r5, r10, r13, r16⟩, hk, htb, hS⟩ := S
  obtain ⟨hc, hs, hB0⟩ := hB
  have n_1 : (1 : Int32).toInt = 1 := rfl
  have n_2 : (2 : Int32).toInt = 2 := rfl
  have n_3 : (3 : Int32).toInt = 3 := rfl
  obtain ⟨w, ew⟩ : ∃ z : Nat, z = fR H a (K.1.2 9 0) := ⟨_, rfl⟩
  have gw := ty_fr (q := w) (k := 0) (u := 0) ew hT ga rg_68 rfl
  rw [← ew] at r1 r4 r5 r10 r13 r16
  obtain ⟨ta, eta⟩ : ∃ z : Int32, z = fI H a (K.1.2 9 3) := ⟨_, rfl⟩
  rw [← eta] at rt
  obtain ⟨tb, etb⟩ : ∃ z : Int32, z = fI H b (K.1.2 10 18) := ⟨_, rfl⟩
  rw [← etb] at rt
  obtain ⟨s1, es1⟩ : ∃ z : Int32, z = fI H w (K.1.2 8 1) := ⟨_, rfl⟩
  rw [← es1] at r1
  obtain ⟨y1, ey1⟩ : ∃ z : Int32, z = fI H b (K.1.2 10 1) := ⟨_, rfl⟩
  rw [← ey1] at r1
  obtain ⟨s4, es4⟩ : ∃ z : Int32, z = fI H w (K.1.2 8 4) := ⟨_, rfl⟩
  rw [← es4] at r4
  obtain ⟨y4, ey4⟩ : ∃ z : Int32, z = fI H b (K.1.2 10 2) := ⟨_, rfl⟩
  rw [← ey4] at r4
  obtain ⟨s5, es5⟩ : ∃ z : Int32, z = fI H w (K.1.2 8 5) := ⟨_, rfl⟩
  rw [← es5] at r5
  obtain ⟨y5, ey5⟩ : ∃ z : Int32, z = fI H b (K.1.2 10 3) := ⟨_, rfl⟩
  rw [← ey5] at r5
  obtain ⟨s10, es10⟩ : ∃ z : Int32, z = fI H w (K.1.2 8 10) := ⟨_, rfl⟩
  rw [← es10] at r10
  obtain ⟨y10, ey10⟩ : ∃ z : Int32, z = fI H b (K.1.2 10 59) := ⟨_, rfl⟩
  rw [← ey10] at r10
  obtain ⟨s13, es13⟩ : ∃ z : Int32, z = fI H w (K.1.2 8 13) := ⟨_, rfl⟩
  rw [← es13] at r13
  obtain ⟨y13, ey13⟩ : ∃ z : Int32, z = fI H b (K.1.2 10 62) := ⟨_, rfl⟩
  rw [← ey13] at r13
  obtain ⟨s16, es16⟩ : ∃ z : Int32, z = fI H w (K.1.2 8 16) := ⟨_, rfl⟩
  rw [← es16] at r16
  obtain ⟨y16, ey16⟩ : ∃ z : Int32, z = fI H b (K.1.2 10 65) := ⟨_, rfl⟩
  rw [← ey16] at r16
  obtain ⟨tq, etq⟩ : ∃ z : Nat, z = fR H a (K.1.2 9 2) := ⟨_, rfl⟩
  have gtq := ty_fr (q := tq) (k := 2) (u := 108) etq hT ga rg_68 rfl
  obtain ⟨uq, euq⟩ : ∃ z : Nat, z = fR H b (K.1.2 10 17) := ⟨_, rfl⟩
  have guq := ty_fr (q := uq) (k := 17) (u := 126) euq hT gb rg_112 rfl
  have htr : TBR (fun j => fI H tq j) (fun j => fI H uq j) tb.toNatClampNeg := by rw [etq, euq, etb]; exact htb
  have ft0 : ∀ j : Nat, fI H tq j = fI H tq j := fun _ => rfl
  have fu0 : ∀ j : Nat, fI H uq j = fI H uq j := fun _ => rfl
  have bta := ty_fi (x := ta) (k := 3) eta hT ga rg_68 rfl
  have cta := i_cl (x := ta) (by omega)
  have btb := ty_fi (x := tb) (k := 18) etb hT gb rg_112 rfl
  have ctb := i_cl (x := tb) (by omega)
  rcases hk with ⟨kn, h70⟩ | ⟨kq, kn, gkq, h70, q1, q4, q5, q10, q13, q16⟩
  · skip
    obtain ⟨hi, ehi⟩ : ∃ z : Int32, z = fI H b (K.1.2 10 70) := ⟨_, rfl⟩
    rw [← ehi] at h70
    obtain ⟨hc0, hs0⟩ := hB0 kn
    refine lv_aload_n hx hb dL_law_915 rfl (lv_at hl 2 rfl) ?_
    refine lv_aload_n hx hb dL_law_916 rfl (lv_at hl 3 rfl) ?_
    refine lv_iload_n hx hb dL_law_917 rfl (lv_at hl 0 rfl) ?_
    refine lv_iconst (v := 1) hx hb dL_law_918 (by decide) ?_
    refine lv_iadd hx hb dL_law_919 ?_
    refine lv_topi (fun x101 ex101 => ?_)
    have tx101 := i_add ex101 (by omega)
    have ejx101 : x101.toNatClampNeg = i.toNatClampNeg + 1 := by have h1 := i_cl (x := x101) (by omega); have h2 := i_cl (x := i) (by omega); omega
    refine va_sld hx hb hX hbl (Nat.not_le.mpr hbl) hS (vp_in_iff.mpr (by omega)) dL_law_920 ?_
    refine W.eq (g2 := F0 m 921 ls [.int (xs (i.toNatClampNeg + 1)), .ref a]) (congrArg (fun z => F0 m 921 ls [.int (xs z), .ref a]) ejx101) ?_
    refine lv_aload_n hx hb dL_law_921 rfl (lv_at hl 3 rfl) ?_
    refine lv_iload_n hx hb dL_law_922 rfl (lv_at hl 0 rfl) ?_
    refine lv_iconst (v := 2) hx hb dL_law_923 (by decide) ?_
    refine lv_iadd hx hb dL_law_924 ?_
    refine lv_topi (fun x102 ex102 => ?_)
    have tx102 := i_add ex102 (by omega)
    have ejx102 : x102.toNatClampNeg = i.toNatClampNeg + 2 := by have h1 := i_cl (x := x102) (by omega); have h2 := i_cl (x := i) (by omega); omega
    refine va_sld hx hb hX hbl (Nat.not_le.mpr hbl) hS (vp_in_iff.mpr (by omega)) dL_law_925 ?_
    refine W.eq (g2 := F0 m 926 ls [.int (xs (i.toNatClampNeg + 2)), .int (xs (i.toNatClampNeg + 1)), .ref a]) (congrArg (fun z => F0 m 926 ls [.int (xs z), .int (xs (i.toNatClampNeg + 1)), .ref a]) ejx102) ?_
    refine lv_aload_n hx hb dL_law_926 rfl (lv_at hl 3 rfl) ?_
    refine lv_iload_n hx hb dL_law_927 rfl (lv_at hl 0 rfl) ?_
    refine lv_iconst (v := 3) hx hb dL_law_928 (by decide) ?_
    refine lv_iadd hx hb dL_law_929 ?_
    refine lv_topi (fun x103 ex103 => ?_)
    have tx103 := i_add ex103 (by omega)
    have ejx103 : x103.toNatClampNeg = i.toNatClampNeg + 3 := by have h1 := i_cl (x := x103) (by omega); have h2 := i_cl (x := i) (by omega); omega
    refine va_sld hx hb hX hbl (Nat.not_le.mpr hbl) hS (vp_in_iff.mpr (by omega)) dL_law_930 ?_
    refine W.eq (g2 := F0 m 931 ls [.int (xs (i.toNatClampNeg + 3)), .int (xs (i.toNatClampNeg + 2)), .int (xs (i.toNatClampNeg + 1)), .ref a]) (congrArg (fun z => F0 m 931 ls [.int (xs z), .int (xs (i.toNatClampNeg + 2)), .int (xs (i.toNatClampNeg + 1)), .ref a]) ejx103) ?_
    refine x_V (As := [.int (xs (i.toNatClampNeg + 1)), .int (xs (i.toNatClampNeg + 2)), .int (xs (i.toNatClampNeg + 3))]) (rest := []) C (a_X9_tap l K G H ((xs (i.toNatClampNeg + 1))) ((xs (i.toNatClampNeg + 2))) ((xs (i.toNatClampNeg + 3))) hT ga) yo_X9_tap wM_L_96 ⟨⟨by decide, by decide⟩, show _ ≤ 284929 by omega, show _ ≤ 8247460 by omega⟩ (x_rv C hT (ci := 9) rfl ga rg_68) rfl hl.1 rfl (Nat.le_of_ble_eq_true rfl) dL_law_931 hS (AE_new hN hS.1) (fun vH104 H104 locsH104 pH104 zH104 kH104 hSH104 => ?_)
    obtain ⟨x105, hvH104, hTH104⟩ := pH104
    subst hvH104
    have g106 : CG (avw K H104 b) := CG.congr (fun k hk j => av_eff hT kH104 gb (by decide) (CG_eff [1, 9, 10, 12, 14] (by decide) k hk)) cg
    have g107 : TU (avw K H104 b) (svw K H104 b) := TU.congr (fun k hk j => av_eff hT kH104 gb (by decide) (TU_eff [1, 9, 10, 12, 14] (by decide) k hk)) (fun k hk => sv_eff hT kH104 gb (by decide)) tu
    have g108 : WD (avw K H104 b) := WD.congr (fun k hk j => av_eff hT kH104 gb (by decide) (WD_eff [1, 9, 10, 12, 14] (by decide) k hk)) wd
    have g109 : IM (avw K H104 b) := IM.congr (fun k hk j => av_eff hT kH104 gb (by decide) (IM_eff [1, 9, 10, 12, 14] (by decide) k hk)) im
    have f110 : ∀ j : Nat, fI H104 tq j = fI H tq j := fun j => (fI_kept (x_lt hT kH104 gtq (by decide))).trans (ft0 j)
    have f111 : ∀ j : Nat, fI H104 uq j = fI H uq j := fun j => (fI_kept (x_lt hT kH104 guq (by decide))).trans (fu0 j)
    have m112 := (ew).trans (fR_kept (x_lt hT kH104 ga (by decide))).symm
    have m113 := (eta).trans (fI_kept (x_lt hT kH104 ga (by decide))).symm
    have m114 := (etb).trans (fI_kept (x_lt hT kH104 gb (by decide))).symm
    have m115 := (es1).trans (fI_kept (x_lt hT kH104 gw (by decide))).symm
    have m116 := (ey1).trans (fI_kept (x_lt hT kH104 gb (by decide))).symm
    have m117 := (es4).trans (fI_kept (x_lt hT kH104 gw (by decide))).symm
    have m118 := (ey4).trans (fI_kept (x_lt hT kH104 gb (by decide))).symm
    have m119 := (es5).trans (fI_kept (x_lt hT kH104 gw (by decide))).symm
    have m120 := (ey5).trans (fI_kept (x_lt hT kH104 gb (by decide))).symm
    have m121 := (es10).trans (fI_kept (x_lt hT kH104 gw (by decide))).symm
    have m122 := (ey10).trans (fI_kept (x_lt hT kH104 gb (by decide))).symm
    have m123 := (es13).trans (fI_kept (x_lt hT kH104 gw (by decide))).symm
    have m124 := (ey13).trans (fI_kept (x_lt hT kH104 gb (by decide))).symm
    have m125 := (es16).trans (fI_kept (x_lt hT kH104 gw (by decide))).symm
    have m126 := (ey16).trans (fI_kept (x_lt hT kH104 gb (by decide))).symm
    have m127 := (etq).trans (fR_kept (x_lt hT kH104 ga (by decide))).symm
    have m128 := (euq).trans (fR_kept (x_lt hT kH104 gb (by decide))).symm
    have m129 := (ehi).trans (fI_kept (x_lt hT kH104 gb (by decide))).symm
    have m130 := (fV_kept (x_lt hT kH104 ga (by decide))).trans kn
    refine W.eq (g2 := F0 m 934 ls [.int x105]) rfl ?_
    refine lv_pop hx hb dL_law_934 rfl ?_
    refine lv_aload_n hx hb dL_law_935 rfl (lv_at hl 1 rfl) ?_
    refine lv_aload_n hx hb dL_law_936 rfl (lv_at hl 3 rfl) ?_
    refine lv_iload_n hx hb dL_law_937 rfl (lv_at hl 0 rfl) ?_
    refine lv_iconst (v := 1) hx hb dL_law_938 (by decide) ?_
    refine lv_iadd hx hb dL_law_939 ?_
    refine lv_topi (fun x131 ex131 => ?_)
    have tx131 := i_add ex131 (by omega)
    have ejx131 : x131.toNatClampNeg = i.toNatClampNeg + 1 := by have h1 := i_cl (x := x131) (by omega); have h2 := i_cl (x := i) (by omega); omega
    refine va_sld hx hb hX hbl (Nat.not_le.mpr hbl) hSH104 (vp_in_iff.mpr (by omega)) dL_law_940 ?_
    refine W.eq (g2 := F0 m 941 ls [.int (xs (i.toNatClampNeg + 1)), .ref b]) (congrArg (fun z => F0 m 941 ls [.int (xs z), .ref b]) ejx131) ?_
    refine lv_aload_n hx hb dL_law_941 rfl (lv_at hl 3 rfl) ?_
    refine lv_iload_n hx hb dL_law_942 rfl (lv_at hl 0 rfl) ?_
    refine lv_iconst (v := 2) hx hb dL_law_943 (by decide) ?_
    refine lv_iadd hx hb dL_law_944 ?_
    refine lv_topi (fun x132 ex132 => ?_)
    have tx132 := i_add ex132 (by omega)
    have ejx132 : x132.toNatClampNeg = i.toNatClampNeg + 2 := by have h1 := i_cl (x := x132) (by omega); have h2 := i_cl (x := i) (by omega); omega
    refine va_sld hx hb hX hbl (Nat.not_le.mpr hbl) hSH104 (vp_in_iff.mpr (by omega)) dL_law_945 ?_
    refine W.eq (g2 := F0 m 946 ls [.int (xs (i.toNatClampNeg + 2)), .int (xs (i.toNatClampNeg + 1)), .ref b]) (congrArg (fun z => F0 m 946 ls [.int (xs z), .int (xs (i.toNatClampNeg + 1)), .ref b]) ejx132) ?_
    refine lv_aload_n hx hb dL_law_946 rfl (lv_at hl 3 rfl) ?_
    refine lv_iload_n hx hb dL_law_947 rfl (lv_at hl 0 rfl) ?_
    refine lv_iconst (v := 3) hx hb dL_law_948 (by decide) ?_
    refine lv_iadd hx hb dL_law_949 ?_
    refine lv_topi (fun x133 ex133 => ?_)
    have tx133 := i_add ex133 (by omega)
    have ejx133 : x133.toNatClampNeg = i.toNatClampNeg + 3 := by have h1 := i_cl (x := x133) (by omega); have h2 := i_cl (x := i) (by omega); omega
    refine va_sld hx hb hX hbl (Nat.not_le.mpr hbl) hSH104 (vp_in_iff.mpr (by omega)) dL_law_950 ?_
    refine W.eq (g2 := F0 m 951 ls [.int (xs (i.toNatClampNeg + 3)), .int (xs (i.toNatClampNeg + 2)), .int (xs (i.toNatClampNeg + 1)), .ref b]) (congrArg (fun z => F0 m 951 ls [.int (xs z), .int (xs (i.toNatClampNeg + 2)), .int (xs (i.toNatClampNeg + 1)), .ref b]) ejx133) ?_
    obtain ⟨q134, eq134⟩ : ∃ z : Nat, z = fR H104 b (K.1.2 10 50) := ⟨_, rfl⟩
    have gq134 := ty_fr (q := q134) (k := 50) (u := 146) eq134 hTH104 gb rg_112 rfl
    refine x_V (As := [.int (xs (i.toNatClampNeg + 1)), .int (xs (i.toNatClampNeg + 2)), .int (xs (i.toNatClampNeg + 3))]) (rest := []) C (a_X10_tap l K G H104 ((xs (i.toNatClampNeg + 1))) ((xs (i.toNatClampNeg + 2))) ((xs (i.toNatClampNeg + 3))) hTH104 gb gq134 eq134 g106 g107 g108 g109) yo_X10_tap wM_L_99 ⟨⟨by decide, by decide⟩, show _ ≤ 284929 by omega, show _ ≤ 8247460 by omega⟩ (x_rv C hTH104 (ci := 10) rfl gb rg_112) rfl hl.1 rfl (Nat.le_of_ble_eq_true rfl) dL_law_951 hSH104 (AE_new hN hSH104.1) (fun vH135 H135 locsH135 pH135 zH135 kH135 hSH135 => ?_)
    obtain ⟨x136, hvH135, m137, g138, g139, g140, g141, mf142, hTH135⟩ := pH135
    subst hvH135
    have f143 : ∀ j : Nat, fI H135 tq j = fI H tq j := fun j => (fI_kept (x_lt hTH104 kH135 gtq (by decide))).trans (f110 j)
    have f144 : ∀ j : Nat, fI H135 uq j = fI H uq j := fun j => (fI_kept (x_lt hTH104 kH135 guq (by decide))).trans (f111 j)
    have m145 := (m112).trans (fR_kept (x_lt hTH104 kH135 ga (by decide))).symm
    have m146 := (m113).trans (fI_kept (x_lt hTH104 kH135 ga (by decide))).symm
    have m147 := (m115).trans (fI_kept (x_lt hTH104 kH135 gw (by decide))).symm
    have m148 := (m117).trans (fI_kept (x_lt hTH104 kH135 gw (by decide))).symm
    have m149 := (m119).trans (fI_kept (x_lt hTH104 kH135 gw (by decide))).symm
    have m150 := (m121).trans (fI_kept (x_lt hTH104 kH135 gw (by decide))).symm
    have m151 := (m123).trans (fI_kept (x_lt hTH104 kH135 gw (by decide))).symm
    have m152 := (m125).trans (fI_kept (x_lt hTH104 kH135 gw (by decide))).symm
    have m153 := (m127).trans (fR_kept (x_lt hTH104 kH135 ga (by decide))).symm
    have m154 := (fV_kept (x_lt hTH104 kH135 ga (by decide))).trans m130
    have m155 := (m114).trans (MF.i mf142 (k := 18) (by decide) (by decide)).symm
    have m156 := (m116).trans (MF.i mf142 (k := 1) (by decide) (by decide)).symm
    have m157 := (m118).trans (MF.i mf142 (k := 2) (by decide) (by decide)).symm
    have m158 := (m120).trans (MF.i mf142 (k := 3) (by decide) (by decide)).symm
    have m159 := (m122).trans (MF.i mf142 (k := 59) (by decide) (by decide)).symm
    have m160 := (m124).trans (MF.i mf142 (k := 62) (by decide) (by decide)).symm
    have m161 := (m126).trans (MF.i mf142 (k := 65) (by decide) (by decide)).symm
    have m162 := (m128).trans (MF.r mf142 (k := 17) (by decide) (by decide)).symm
    have m163 := (m129).trans (MF.i mf142 (k := 70) (by decide) (by decide)).symm
    have m164 := (eq134).trans (MF.r mf142 (k := 50) (by decide) (by decide)).symm
    refine W.eq (g2 := F0 m 954 ls [.int x136]) rfl ?_
    refine lv_pop hx hb dL_law_954 rfl ?_
    refine lv_goto (tgt := 1509) hx hb dL_law_955 (by decide) ?_
    exact nx G H135 locsH135 _ _ ls ⟨hTH135, hN, ga, gb, g138, g139, g140, g141, ⟨(by rw [← m146, ← m155]; omega), (by rw [← m145, ← m147, ← m156]; omega), (by rw [← m145, ← m148, ← m157]; omega), (by rw [← m145, ← m149, ← m158]; omega), (by rw [← m145, ← m150, ← m159]; omega), (by rw [← m145, ← m151, ← m160]; omega), (by rw [← m145, ← m152, ← m161]; omega)⟩, Or.inl ⟨m154, (by rw [← m163]; omega)⟩, (by unfold TB; rw [← m153, ← m162, ← m155]; exact TBR.of htr f143 f144 (by omega)), hSH135⟩ hl ⟨by omega, by omega, fun _ => ⟨by omega, by omega⟩⟩
  · skip
    obtain ⟨hi, ehi⟩ : ∃ z : Int32, z = fI H b (K.1.2 10 70) := ⟨_, rfl⟩
    rw [← ehi] at h70
    obtain ⟨iq, eiq⟩ : ∃ z : Nat, z = fR H b (K.1.2 10 73) := ⟨_, rfl⟩
    have giq := ty_fr (q := iq) (k := 73) (u := 162) eiq hT gb rg_112 rfl
    rw [← eiq] at q1 q4 q5 q10 q13 q16
    obtain ⟨k1, ek1⟩ : ∃ z : Int32, z = fI H kq (K.1.2 8 1) := ⟨_, rfl⟩
    rw [← ek1] at q1
    obtain ⟨i1, ei1⟩ : ∃ z : Int32, z = fI H iq ((0 : Int32).toNatClampNeg) := ⟨_, rfl⟩
    rw [← ei1] at q1
    obtain ⟨k4, ek4⟩ : ∃ z : Int32, z = fI H kq (K.1.2 8 4) := ⟨_, rfl⟩
    rw [← ek4] at q4
    obtain ⟨i4, ei4⟩ : ∃ z : Int32, z = fI H iq ((1 : Int32).toNatClampNeg) := ⟨_, rfl⟩
    rw [← ei4] at q4
    obtain ⟨k5, ek5⟩ : ∃ z : Int32, z = fI H kq (K.1.2 8 5) := ⟨_, rfl⟩
    rw [← ek5] at q5
    obtain ⟨i5, ei5⟩ : ∃ z : Int32, z = fI H iq ((2 : Int32).toNatClampNeg) := ⟨_, rfl⟩
    rw [← ei5] at q5
    obtain ⟨k10, ek10⟩ : ∃ z : Int32, z = fI H kq (K.1.2 8 10) := ⟨_, rfl⟩
    rw [← ek10] at q10
    obtain ⟨i10, ei10⟩ : ∃ z : Int32, z = fI H iq ((3 : Int32).toNatClampNeg) := ⟨_, rfl⟩
    rw [← ei10] at q10
    obtain ⟨k13, ek13⟩ : ∃ z : Int32, z = fI H kq (K.1.2 8 13) := ⟨_, rfl⟩
    rw [← ek13] at q13
    obtain ⟨i13, ei13⟩ : ∃ z : Int32, z = fI H iq ((4 : Int32).toNatClampNeg) := ⟨_, rfl⟩
    rw [← ei13] at q13
    obtain ⟨k16, ek16⟩ : ∃ z : Int32, z = fI H kq (K.1.2 8 16) := ⟨_, rfl⟩
    rw [← ek16] at q16
    obtain ⟨i16, ei16⟩ : ∃ z : Int32, z = fI H iq ((5 : Int32).toNatClampNeg) := ⟨_, rfl⟩
    rw [← ei16] at q16
    refine lv_aload_n hx hb dL_law_915 rfl (lv_at hl 2 rfl) ?_
    refine lv_aload_n hx hb dL_law_916 rfl (lv_at hl 3 rfl) ?_
    refine lv_iload_n hx hb dL_law_917 rfl (lv_at hl 0 rfl) ?_
    refine lv_iconst (v := 1) hx hb dL_law_918 (by decide) ?_
    refine lv_iadd hx hb dL_law_919 ?_
    refine lv_topi (fun x165 ex165 => ?_)
    have tx165 := i_add ex165 (by omega)
    have ejx165 : x165.toNatClampNeg = i.toNatClampNeg + 1 := by have h1 := i_cl (x := x165) (by omega); have h2 := i_cl (x := i) (by omega); omega
    refine va_sld hx hb hX hbl (Nat.not_le.mpr hbl) hS (vp_in_iff.mpr (by omega)) dL_law_920 ?_
    refine W.eq (g2 := F0 m 921 ls [.int (xs (i.toNatClampNeg + 1)), .ref a]) (congrArg (fun z => F0 m 921 ls [.int (xs z), .ref a]) ejx165) ?_
    refine lv_aload_n hx hb dL_law_921 rfl (lv_at hl 3 rfl) ?_
    refine lv_iload_n hx hb dL_law_922 rfl (lv_at hl 0 rfl) ?_
    refine lv_iconst (v := 2) hx hb dL_law_923 (by decide) ?_
    refine lv_iadd hx hb dL_law_924 ?_
    refine lv_topi (fun x166 ex166 => ?_)
    have tx166 := i_add ex166 (by omega)
    have ejx166 : x166.toNatClampNeg = i.toNatClampNeg + 2 := by have h1 := i_cl (x := x166) (by omega); have h2 := i_cl (x := i) (by omega); omega
    refine va_sld hx hb hX hbl (Nat.not_le.mpr hbl) hS (vp_in_iff.mpr (by omega)) dL_law_925 ?_
    refine W.eq (g2 := F0 m 926 ls [.int (xs (i.toNatClampNeg + 2)), .int (xs (i.toNatClampNeg + 1)), .ref a]) (congrArg (fun z => F0 m 926 ls [.int (xs z), .int (xs (i.toNatClampNeg + 1)), .ref a]) ejx166) ?_
    refine lv_aload_n hx hb dL_law_926 rfl (lv_at hl 3 rfl) ?_
    refine lv_iload_n hx hb dL_law_927 rfl (lv_at hl 0 rfl) ?_
    refine lv_iconst (v := 3) hx hb dL_law_928 (by decide) ?_
    refine lv_iadd hx hb dL_law_929 ?_
    refine lv_topi (fun x167 ex167 => ?_)
    have tx167 := i_add ex167 (by omega)
    have ejx167 : x167.toNatClampNeg = i.toNatClampNeg + 3 := by have h1 := i_cl (x := x167) (by omega); have h2 := i_cl (x := i) (by omega); omega
    refine va_sld hx hb hX hbl (Nat.not_le.mpr hbl) hS (vp_in_iff.mpr (by omega)) dL_law_930 ?_
    refine W.eq (g2 := F0 m 931 ls [.int (xs (i.toNatClampNeg + 3)), .int (xs (i.toNatClampNeg + 2)), .int (xs (i.toNatClampNeg + 1)), .ref a]) (congrArg (fun z => F0 m 931 ls [.int (xs z), .int (xs (i.toNatClampNeg + 2)), .int (xs (i.toNatClampNeg + 1)), .ref a]) ejx167) ?_
    refine x_V (As := [.int (xs (i.toNatClampNeg + 1)), .int (xs (i.toNatClampNeg + 2)), .int (xs (i.toNatClampNeg + 3))]) (rest := []) C (a_X9_tap l K G H ((xs (i.toNatClampNeg + 1))) ((xs (i.toNatClampNeg + 2))) ((xs (i.toNatClampNeg + 3))) hT ga) yo_X9_tap wM_L_96 ⟨⟨by decide, by decide⟩, show _ ≤ 284929 by omega, show _ ≤ 8247460 by omega⟩ (x_rv C hT (ci := 9) rfl ga rg_68) rfl hl.1 rfl (Nat.le_of_ble_eq_true rfl) dL_law_931 hS (AE_new hN hS.1) (fun vH168 H168 locsH168 pH168 zH168 kH168 hSH168 => ?_)
    obtain ⟨x169, hvH168, hTH168⟩ := pH168
    subst hvH168
    have g170 : CG (avw K H168 b) := CG.congr (fun k hk j => av_eff hT kH168 gb (by decide) (CG_eff [1, 9, 10, 12, 14] (by decide) k hk)) cg
    have g171 : TU (avw K H168 b) (svw K H168 b) := TU.congr (fun k hk j => av_eff hT kH168 gb (by decide) (TU_eff [1, 9, 10, 12, 14] (by decide) k hk)) (fun k hk => sv_eff hT kH168 gb (by decide)) tu
    have g172 : WD (avw K H168 b) := WD.congr (fun k hk j => av_eff hT kH168 gb (by decide) (WD_eff [1, 9, 10, 12, 14] (by decide) k hk)) wd
    have g173 : IM (avw K H168 b) := IM.congr (fun k hk j => av_eff hT kH168 gb (by decide) (IM_eff [1, 9, 10, 12, 14] (by decide) k hk)) im
    have f174 : ∀ j : Nat, fI H168 tq j = fI H tq j := fun j => (fI_kept (x_lt hT kH168 gtq (by decide))).trans (ft0 j)
    have f175 : ∀ j : Nat, fI H168 uq j = fI H uq j := fun j => (fI_kept (x_lt hT kH168 guq (by decide))).trans (fu0 j)
    have m176 := (ew).trans (fR_kept (x_lt hT kH168 ga (by decide))).symm
    have m177 := (eta).trans (fI_kept (x_lt hT kH168 ga (by decide))).symm
    have m178 := (etb).trans (fI_kept (x_lt hT kH168 gb (by decide))).symm
    have m179 := (es1).trans (fI_kept (x_lt hT kH168 gw (by decide))).symm
    have m180 := (ey1).trans (fI_kept (x_lt hT kH168 gb (by decide))).symm
    have m181 := (es4).trans (fI_kept (x_lt hT kH168 gw (by decide))).symm
    have m182 := (ey4).trans (fI_kept (x_lt hT kH168 gb (by decide))).symm
    have m183 := (es5).trans (fI_kept (x_lt hT kH168 gw (by decide))).symm
    have m184 := (ey5).trans (fI_kept (x_lt hT kH168 gb (by decide))).symm
    have m185 := (es10).trans (fI_kept (x_lt hT kH168 gw (by decide))).symm
    have m186 := (ey10).trans (fI_kept (x_lt hT kH168 gb (by decide))).symm
    have m187 := (es13).trans (fI_kept (x_lt hT kH168 gw (by decide))).symm
    have m188 := (ey13).trans (fI_kept (x_lt hT kH168 gb (by decide))).symm
    have m189 := (es16).trans (fI_kept (x_lt hT kH168 gw (by decide))).symm
    have m190 := (ey16).trans (fI_kept (x_lt hT kH168 gb (by decide))).symm
    have m191 := (etq).trans (fR_kept (x_lt hT kH168 ga (by decide))).symm
    have m192 := (euq).trans (fR_kept (x_lt hT kH168 gb (by decide))).symm
    have m193 := (ehi).trans (fI_kept (x_lt hT kH168 gb (by decide))).symm
    have m194 := (fV_kept (x_lt hT kH168 ga (by decide))).trans kn
    have m195 := (eiq).trans (fR_kept (x_lt hT kH168 gb (by decide))).symm
    have m196 := (ek1).trans (fI_kept (x_lt hT kH168 gkq (by decide))).symm
    have m197 := (ei1).trans (fI_kept (x_lt hT kH168 giq (by decide))).symm
    have m198 := (ek4).trans (fI_kept (x_lt hT kH168 gkq (by decide))).symm
    have m199 := (ei4).trans (fI_kept (x_lt hT kH168 giq (by decide))).symm
    have m200 := (ek5).trans (fI_kept (x_lt hT kH168 gkq (by decide))).symm
    have m201 := (ei5).trans (fI_kept (x_lt hT kH168 giq (by decide))).symm
    have m202 := (ek10).trans (fI_kept (x_lt hT kH168 gkq (by decide))).symm
    have m203 := (ei10).trans (fI_kept (x_lt hT kH168 giq (by decide))).symm
    have m204 := (ek13).trans (fI_kept (x_lt hT kH168 gkq (by decide))).symm
    have m205 := (ei13).trans (fI_kept (x_lt hT kH168 giq (by decide))).symm
    have m206 := (ek16).trans (fI_kept (x_lt hT kH168 gkq (by decide))).symm
    have m207 := (ei16).trans (fI_kept (x_lt hT kH168 giq (by decide))).symm
    refine W.eq (g2 := F0 m 934 ls [.int x169]) rfl ?_
    refine lv_pop hx hb dL_law_934 rfl ?_
    refine lv_aload_n hx hb dL_law_935 rfl (lv_at hl 1 rfl) ?_
    refine lv_aload_n hx hb dL_law_936 rfl (lv_at hl 3 rfl) ?_
    refine lv_iload_n hx hb dL_law_937 rfl (lv_at hl 0 rfl) ?_
    refine lv_iconst (v := 1) hx hb dL_law_938 (by decide) ?_
    refine lv_iadd hx hb dL_law_939 ?_
    refine lv_topi (fun x208 ex208 => ?_)
    have tx208 := i_add ex208 (by omega)
    have ejx208 : x208.toNatClampNeg = i.toNatClampNeg + 1 := by have h1 := i_cl (x := x208) (by omega); have h2 := i_cl (x := i) (by omega); omega
    refine va_sld hx hb hX hbl (Nat.not_le.mpr hbl) hSH168 (vp_in_iff.mpr (by omega)) dL_law_940 ?_
    refine W.eq (g2 := F0 m 941 ls [.int (xs (i.toNatClampNeg + 1)), .ref b]) (congrArg (fun z => F0 m 941 ls [.int (xs z), .ref b]) ejx208) ?_
    refine lv_aload_n hx hb dL_law_941 rfl (lv_at hl 3 rfl) ?_
    refine lv_iload_n hx hb dL_law_942 rfl (lv_at hl 0 rfl) ?_
    refine lv_iconst (v := 2) hx hb dL_law_943 (by decide) ?_
    refine lv_iadd hx hb dL_law_944 ?_
    refine lv_topi (fun x209 ex209 => ?_)
    have tx209 := i_add ex209 (by omega)
    have ejx209 : x209.toNatClampNeg = i.toNatClampNeg + 2 := by have h1 := i_cl (x := x209) (by omega); have h2 := i_cl (x := i) (by omega); omega
    refine va_sld hx hb hX hbl (Nat.not_le.mpr hbl) hSH168 (vp_in_iff.mpr (by omega)) dL_law_945 ?_
    refine W.eq (g2 := F0 m 946 ls [.int (xs (i.toNatClampNeg + 2)), .int (xs (i.toNatClampNeg + 1)), .ref b]) (congrArg (fun z => F0 m 946 ls [.int (xs z), .int (xs (i.toNatClampNeg + 1)), .ref b]) ejx209) ?_
    refine lv_aload_n hx hb dL_law_946 rfl (lv_at hl 3 rfl) ?_
    refine lv_iload_n hx hb dL_law_947 rfl (lv_at hl 0 rfl) ?_
    refine lv_iconst (v := 3) hx hb dL_law_948 (by decide) ?_
    refine lv_iadd hx hb dL_law_949 ?_
    refine lv_topi (fun x210 ex210 => ?_)
    have tx210 := i_add ex210 (by omega)
    have ejx210 : x210.toNatClampNeg = i.toNatClampNeg + 3 := by have h1 := i_cl (x := x210) (by omega); have h2 := i_cl (x := i) (by omega); omega
    refine va_sld hx hb hX hbl (Nat.not_le.mpr hbl) hSH168 (vp_in_iff.mpr (by omega)) dL_law_950 ?_
    refine W.eq (g2 := F0 m 951 ls [.int (xs (i.toNatClampNeg + 3)), .int (xs (i.toNatClampNeg + 2)), .int (xs (i.toNatClampNeg + 1)), .ref b]) (congrArg (fun z => F0 m 951 ls [.int (xs z), .int (xs (i.toNatClampNeg + 2)), .int (xs (i.toNatClampNeg + 1)), .ref b]) ejx210) ?_
    obtain ⟨q211, eq211⟩ : ∃ z : Nat, z = fR H168 b (K.1.2 10 50) := ⟨_, rfl⟩
    have gq211 := ty_fr (q := q211) (k := 50) (u := 146) eq211 hTH168 gb rg_112 rfl
    refine x_V (As := [.int (xs (i.toNatClampNeg + 1)), .int (xs (i.toNatClampNeg + 2)), .int (xs (i.toNatClampNeg + 3))]) (rest := []) C (a_X10_tap l K G H168 ((xs (i.toNatClampNeg + 1))) ((xs (i.toNatClampNeg + 2))) ((xs (i.toNatClampNeg + 3))) hTH168 gb gq211 eq211 g170 g171 g172 g173) yo_X10_tap wM_L_99 ⟨⟨by decide, by decide⟩, show _ ≤ 284929 by omega, show _ ≤ 8247460 by omega⟩ (x_rv C hTH168 (ci := 10) rfl gb rg_112) rfl hl.1 rfl (Nat.le_of_ble_eq_true rfl) dL_law_951 hSH168 (AE_new hN hSH168.1) (fun vH212 H212 locsH212 pH212 zH212 kH212 hSH212 => ?_)
    obtain ⟨x213, hvH212, m214, g215, g216, g217, g218, mf219, hTH212⟩ := pH212
    subst hvH212
    have f220 : ∀ j : Nat, fI H212 tq j = fI H tq j := fun j => (fI_kept (x_lt hTH168 kH212 gtq (by decide))).trans (f174 j)
    have f221 : ∀ j : Nat, fI H212 uq j = fI H uq j := fun j => (fI_kept (x_lt hTH168 kH212 guq (by decide))).trans (f175 j)
    have m222 := (m176).trans (fR_kept (x_lt hTH168 kH212 ga (by decide))).symm
    have m223 := (m177).trans (fI_kept (x_lt hTH168 kH212 ga (by decide))).symm
    have m224 := (m179).trans (fI_kept (x_lt hTH168 kH212 gw (by decide))).symm
    have m225 := (m181).trans (fI_kept (x_lt hTH168 kH212 gw (by decide))).symm
    have m226 := (m183).trans (fI_kept (x_lt hTH168 kH212 gw (by decide))).symm
    have m227 := (m185).trans (fI_kept (x_lt hTH168 kH212 gw (by decide))).symm
    have m228 := (m187).trans (fI_kept (x_lt hTH168 kH212 gw (by decide))).symm
    have m229 := (m189).trans (fI_kept (x_lt hTH168 kH212 gw (by decide))).symm
    have m230 := (m191).trans (fR_kept (x_lt hTH168 kH212 ga (by decide))).symm
    have m231 := (fV_kept (x_lt hTH168 kH212 ga (by decide))).trans m194
    have m232 := (m196).trans (fI_kept (x_lt hTH168 kH212 gkq (by decide))).symm
    have m233 := (m197).trans (fI_kept (x_lt hTH168 kH212 giq (by decide))).symm
    have m234 := (m198).trans (fI_kept (x_lt hTH168 kH212 gkq (by decide))).symm
    have m235 := (m199).trans (fI_kept (x_lt hTH168 kH212 giq (by decide))).symm
    have m236 := (m200).trans (fI_kept (x_lt hTH168 kH212 gkq (by decide))).symm
    have m237 := (m201).trans (fI_kept (x_lt hTH168 kH212 giq (by decide))).symm
    have m238 := (m202).trans (fI_kept (x_lt hTH168 kH212 gkq (by decide))).symm
    have m239 := (m203).trans (fI_kept (x_lt hTH168 kH212 giq (by decide))).symm
    have m240 := (m204).trans (fI_kept (x_lt hTH168 kH212 gkq (by decide))).symm
    have m241 := (m205).trans (fI_kept (x_lt hTH168 kH212 giq (by decide))).symm
    have m242 := (m206).trans (fI_kept (x_lt hTH168 kH212 gkq (by decide))).symm
    have m243 := (m207).trans (fI_kept (x_lt hTH168 kH212 giq (by decide))).symm
    have m244 := (m178).trans (MF.i mf219 (k := 18) (by decide) (by decide)).symm
    have m245 := (m180).trans (MF.i mf219 (k := 1) (by decide) (by decide)).symm
    have m246 := (m182).trans (MF.i mf219 (k := 2) (by decide) (by decide)).symm
    have m247 := (m184).trans (MF.i mf219 (k := 3) (by decide) (by decide)).symm
    have m248 := (m186).trans (MF.i mf219 (k := 59) (by decide) (by decide)).symm
    have m249 := (m188).trans (MF.i mf219 (k := 62) (by decide) (by decide)).symm
    have m250 := (m190).trans (MF.i mf219 (k := 65) (by decide) (by decide)).symm
    have m251 := (m192).trans (MF.r mf219 (k := 17) (by decide) (by decide)).symm
    have m252 := (m193).trans (MF.i mf219 (k := 70) (by decide) (by decide)).symm
    have m253 := (m195).trans (MF.r mf219 (k := 73) (by decide) (by decide)).symm
    have m254 := (eq211).trans (MF.r mf219 (k := 50) (by decide) (by decide)).symm
    refine W.eq (g2 := F0 m 954 ls [.int x213]) rfl ?_
    refine lv_pop hx hb dL_law_954 rfl ?_
    refine lv_goto (tgt := 1509) hx hb dL_law_955 (by decide) ?_
    exact nx G H212 locsH212 _ _ ls ⟨hTH212, hN, ga, gb, g215, g216, g217, g218, ⟨(by rw [← m223, ← m244]; omega), (by rw [← m222, ← m224, ← m245]; omega), (by rw [← m222, ← m225, ← m246]; omega), (by rw [← m222, ← m226, ← m247]; omega), (by rw [← m222, ← m227, ← m248]; omega), (by rw [← m222, ← m228, ← m249]; omega), (by rw [← m222, ← m229, ← m250]; omega)⟩, Or.inr ⟨kq, m231, gkq, (by rw [← m252]; omega), (by rw [← m232, ← m253, ← m233]; omega), (by rw [← m234, ← m253, ← m235]; omega), (by rw [← m236, ← m253, ← m237]; omega), (by rw [← m238, ← m253, ← m239]; omega), (by rw [← m240, ← m253, ← m241]; omega), (by rw [← m242, ← m253, ← m243]; omega)⟩, (by unfold TB; rw [← m230, ← m251, ← m244]; exact TBR.of htr f220 f221 (by omega)), hSH212⟩ hl ⟨by omega, by omega, fun h => by have h1 := h.symm.trans m231; cases h1⟩
set_option maxRecDepth 100000 in
set_option maxHeartbeats 8000000 in
theorem lw_c20 {p : Program} {l : Launch} {e : Env} {s : State} {m : MethodId} {below : List Frame} {meth : Method} {c : Code} {K : KE} {b0 L : Nat} {xs : Nat → Int32} {G : Nat → Option Nat} {H : Heap} {locs : List Loc} {a b : Nat} {cells slots : Nat} {ls : Array Slot} {i : Int32} {n : Nat} (D : LC p K s m meth c b0 L xs) (S : SX K s G H locs a b) (hl : lv_has ls 4 [(3, .int i), (2, .ref b), (1, .ref a), (0, .ref b0)]) (hi : 0 ≤ i.toInt ∧ i.toInt + 6 ≤ L) (hn : n ≤ 511) (hB : BD K H a cells slots) (nx : ∀ (G : Nat → Option Nat) (H : Heap) (locs : List Loc) (cells slots : Nat) (ls : Array Slot), SX K s G H locs a b → lv_has ls 4 [(3, .int i), (2, .ref b), (1, .ref a), (0, .ref b0)] → BD K H a cells slots → W p l e room_1 s m #[Value.ref b0] below meth c H locs cells slots (lw_Z below #[Value.ref b0] s) (F0 m 1509 ls [])) : W p l e room_1 s m #[Value.ref b0] below meth c H locs cells slots (lw_Z below #[Value.ref b0] s) (F0 m 958 ls []) := by
  obtain ⟨C, hX, hbl, hL⟩ := id D
  obtain ⟨hx, hb, hml, hown, hts, hKT, hr, hlocks, hnm⟩ := id C
  obtain ⟨hT, hN, ga, gb, cg, tu, wd, im, ⟨rt, r1, r4, r5, r10, r13, r16⟩, hk, htb, hS⟩ := S
  obtain ⟨hc, hs, hB0⟩ := hB
  have n_1 : (1 : Int32).toInt = 1 := rfl
  have n_2 : (2 : Int32).toInt = 2 := rfl
  have n_3 : (3 : Int32).toInt = 3 := rfl
  have n_4 : (4 : Int32).toInt = 4 := rfl
  obtain ⟨w, ew⟩ : ∃ z : Nat, z = fR H a (K.1.2 9 0) := ⟨_, rfl⟩
  have gw := ty_fr (q := w) (k := 0) (u := 0) ew hT ga rg_68 rfl
  rw [← ew] at r1 r4 r5 r10 r13 r16
  obtain ⟨ta, eta⟩ : ∃ z : Int32, z = fI H a (K.1.2 9 3) := ⟨_, rfl⟩
  rw [← eta] at rt
  obtain ⟨tb, etb⟩ : ∃ z : Int32, z = fI H b (K.1.2 10 18) := ⟨_, rfl⟩
  rw [← etb] at rt
  obtain ⟨s1, es1⟩ : ∃ z : Int32, z = fI H w (K.1.2 8 1) := ⟨_, rfl⟩
  rw [← es1] at r1
  obtain ⟨y1, ey1⟩ : ∃ z : Int32, z = fI H b (K.1.2 10 1) := ⟨_, rfl⟩
  rw [← ey1] at r1
  obtain ⟨s4, es4⟩ : ∃ z : Int32, z = fI H w (K.1.2 8 4) := ⟨_, rfl⟩
  rw [← es4] at r4
  obtain ⟨y4, ey4⟩ : ∃ z : Int32, z = fI H b (K.1.2 10 2) := ⟨_, rfl⟩
  rw [← ey4] at r4
  obtain ⟨s5, es5⟩ : ∃ z : Int32, z = fI H w (K.1.2 8 5) := ⟨_, rfl⟩
  rw [← es5] at r5
  obtain ⟨y5, ey5⟩ : ∃ z : Int32, z = fI H b (K.1.2 10 3) := ⟨_, rfl⟩
  rw [← ey5] at r5
  obtain ⟨s10, es10⟩ : ∃ z : Int32, z = fI H w (K.1.2 8 10) := ⟨_, rfl⟩
  rw [← es10] at r10
  obtain ⟨y10, ey10⟩ : ∃ z : Int32, z = fI H b (K.1.2 10 59) := ⟨_, rfl⟩
  rw [← ey10] at r10
  obtain ⟨s13, es13⟩ : ∃ z : Int32, z = fI H w (K.1.2 8 13) := ⟨_, rfl⟩
  rw [← es13] at r13
  obtain ⟨y13, ey13⟩ : ∃ z : Int32, z = fI H b (K.1.2 10 62) := ⟨_, rfl⟩
  rw [← ey13] at r13
  obtain ⟨s16, es16⟩ : ∃ z : Int32, z = fI H w (K.1.2 8 16) := ⟨_, rfl⟩
  rw [← es16] at r16
  obtain ⟨y16, ey16⟩ : ∃ z : Int32, z = fI H b (K.1.2 10 65) := ⟨_, rfl⟩
  rw [← ey16] at r16
  obtain ⟨tq, etq⟩ : ∃ z : Nat, z = fR H a (K.1.2 9 2) := ⟨_, rfl⟩
  have gtq := ty_fr (q := tq) (k := 2) (u := 108) etq hT ga rg_68 rfl
  obtain ⟨uq, euq⟩ : ∃ z : Nat, z = fR H b (K.1.2 10 17) := ⟨_, rfl⟩
  have guq := ty_fr (q := uq) (k := 17) (u := 126) euq hT gb rg_112 rfl
  have htr : TBR (fun j => fI H tq j) (fun j => fI H uq j) tb.toNatClampNeg := by rw [etq, euq, etb]; exact htb
  have ft0 : ∀ j : Nat, fI H tq j = fI H tq j := fun _ => rfl
  have fu0 : ∀ j : Nat, fI H uq j = fI H uq j := fun _ => rfl
  have bta := ty_fi (x := ta) (k := 3) eta hT ga rg_68 rfl
  have cta := i_cl (x := ta) (by omega)
  have btb := ty_fi (x := tb) (k := 18) etb hT gb rg_112 rfl
  have ctb := i_cl (x := tb) (by omega)
  rcases hk with ⟨kn, h70⟩ | ⟨kq, kn, gkq, h70, q1, q4, q5, q10, q13, q16⟩
  · skip
    obtain ⟨hi, ehi⟩ : ∃ z : Int32, z = fI H b (K.1.2 10 70) := ⟨_, rfl⟩
    rw [← ehi] at h70
    obtain ⟨hc0, hs0⟩ := hB0 kn
    refine lv_aload_n hx hb dL_law_958 rfl (lv_at hl 2 rfl) ?_
    refine lv_aload_n hx hb dL_law_959 rfl (lv_at hl 3 rfl) ?_
    refine lv_iload_n hx hb dL_law_960 rfl (lv_at hl 0 rfl) ?_
    refine lv_iconst (v := 1) hx hb dL_law_961 (by decide) ?_
    refine lv_iadd hx hb dL_law_962 ?_
    refine lv_topi (fun x101 ex101 => ?_)
    have tx101 := i_add ex101 (by omega)
    have ejx101 : x101.toNatClampNeg = i.toNatClampNeg + 1 := by have h1 := i_cl (x := x101) (by omega); have h2 := i_cl (x := i) (by omega); omega
    refine va_sld hx hb hX hbl (Nat.not_le.mpr hbl) hS (vp_in_iff.mpr (by omega)) dL_law_963 ?_
    refine W.eq (g2 := F0 m 964 ls [.int (xs (i.toNatClampNeg + 1)), .ref a]) (congrArg (fun z => F0 m 964 ls [.int (xs z), .ref a]) ejx101) ?_
    refine lv_aload_n hx hb dL_law_964 rfl (lv_at hl 3 rfl) ?_
    refine lv_iload_n hx hb dL_law_965 rfl (lv_at hl 0 rfl) ?_
    refine lv_iconst (v := 2) hx hb dL_law_966 (by decide) ?_
    refine lv_iadd hx hb dL_law_967 ?_
    refine lv_topi (fun x102 ex102 => ?_)
    have tx102 := i_add ex102 (by omega)
    have ejx102 : x102.toNatClampNeg = i.toNatClampNeg + 2 := by have h1 := i_cl (x := x102) (by omega); have h2 := i_cl (x := i) (by omega); omega
    refine va_sld hx hb hX hbl (Nat.not_le.mpr hbl) hS (vp_in_iff.mpr (by omega)) dL_law_968 ?_
    refine W.eq (g2 := F0 m 969 ls [.int (xs (i.toNatClampNeg + 2)), .int (xs (i.toNatClampNeg + 1)), .ref a]) (congrArg (fun z => F0 m 969 ls [.int (xs z), .int (xs (i.toNatClampNeg + 1)), .ref a]) ejx102) ?_
    refine lv_aload_n hx hb dL_law_969 rfl (lv_at hl 3 rfl) ?_
    refine lv_iload_n hx hb dL_law_970 rfl (lv_at hl 0 rfl) ?_
    refine lv_iconst (v := 3) hx hb dL_law_971 (by decide) ?_
    refine lv_iadd hx hb dL_law_972 ?_
    refine lv_topi (fun x103 ex103 => ?_)
    have tx103 := i_add ex103 (by omega)
    have ejx103 : x103.toNatClampNeg = i.toNatClampNeg + 3 := by have h1 := i_cl (x := x103) (by omega); have h2 := i_cl (x := i) (by omega); omega
    refine va_sld hx hb hX hbl (Nat.not_le.mpr hbl) hS (vp_in_iff.mpr (by omega)) dL_law_973 ?_
    refine W.eq (g2 := F0 m 974 ls [.int (xs (i.toNatClampNeg + 3)), .int (xs (i.toNatClampNeg + 2)), .int (xs (i.toNatClampNeg + 1)), .ref a]) (congrArg (fun z => F0 m 974 ls [.int (xs z), .int (xs (i.toNatClampNeg + 2)), .int (xs (i.toNatClampNeg + 1)), .ref a]) ejx103) ?_
    refine lv_aload_n hx hb dL_law_974 rfl (lv_at hl 3 rfl) ?_
    refine lv_iload_n hx hb dL_law_975 rfl (lv_at hl 0 rfl) ?_
    refine lv_iconst (v := 4) hx hb dL_law_976 (by decide) ?_
    refine lv_iadd hx hb dL_law_977 ?_
    refine lv_topi (fun x104 ex104 => ?_)
    have tx104 := i_add ex104 (by omega)
    have ejx104 : x104.toNatClampNeg = i.toNatClampNeg + 4 := by have h1 := i_cl (x := x104) (by omega); have h2 := i_cl (x := i) (by omega); omega
    refine va_sld hx hb hX hbl (Nat.not_le.mpr hbl) hS (vp_in_iff.mpr (by omega)) dL_law_978 ?_
    refine W.eq (g2 := F0 m 979 ls [.int (xs (i.toNatClampNeg + 4)), .int (xs (i.toNatClampNeg + 3)), .int (xs (i.toNatClampNeg + 2)), .int (xs (i.toNatClampNeg + 1)), .ref a]) (congrArg (fun z => F0 m 979 ls [.int (xs z), .int (xs (i.toNatClampNeg + 3)), .int (xs (i.toNatClampNeg + 2)), .int (xs (i.toNatClampNeg + 1)), .ref a]) ejx104) ?_
    refine x_V (As := [.int (xs (i.toNatClampNeg + 1)), .int (xs (i.toNatClampNeg + 2)), .int (xs (i.toNatClampNeg + 3)), .int (xs (i.toNatClampNeg + 4))]) (rest := []) C (a_X9_fits l K G H ((xs (i.toNatClampNeg + 1))) ((xs (i.toNatClampNeg + 2))) ((xs (i.toNatClampNeg + 3))) ((xs (i.toNatClampNeg + 4))) hT ga) yo_X9_fits wM_L_100 ⟨⟨by decide, by decide⟩, show _ ≤ 284929 by omega, show _ ≤ 8247460 by omega⟩ (x_rv C hT (ci := 9) rfl ga rg_68) rfl hl.1 rfl (Nat.le_of_ble_eq_true rfl) dL_law_979 hS (AE_new hN hS.1) (fun vH105 H105 locsH105 pH105 zH105 kH105 hSH105 => ?_)
    obtain ⟨x106, hvH105, hTH105⟩ := pH105
    subst hvH105
    have g107 : CG (avw K H105 b) := CG.congr (fun k hk j => av_eff hT kH105 gb (by decide) (CG_eff [98, 101, 102, 103, 87, 88, 101, 99, 100, 83, 84] (by decide) k hk)) cg
    have g108 : TU (avw K H105 b) (svw K H105 b) := TU.congr (fun k hk j => av_eff hT kH105 gb (by decide) (TU_eff [98, 101, 102, 103, 87, 88, 101, 99, 100, 83, 84] (by decide) k hk)) (fun k hk => sv_eff hT kH105 gb (by decide)) tu
    have g109 : WD (avw K H105 b) := WD.congr (fun k hk j => av_eff hT kH105 gb (by decide) (WD_eff [98, 101, 102, 103, 87, 88, 101, 99, 100, 83, 84] (by decide) k hk)) wd
    have g110 : IM (avw K H105 b) := IM.congr (fun k hk j => av_eff hT kH105 gb (by decide) (IM_eff [98, 101, 102, 103, 87, 88, 101, 99, 100, 83, 84] (by decide) k hk)) im
    have f111 : ∀ j : Nat, fI H105 tq j = fI H tq j := fun j => (fI_kept (x_lt hT kH105 gtq (by decide))).trans (ft0 j)
    have f112 : ∀ j : Nat, fI H105 uq j = fI H uq j := fun j => (fI_kept (x_lt hT kH105 guq (by decide))).trans (fu0 j)
    have m113 := (ew).trans (fR_kept (x_lt hT kH105 ga (by decide))).symm
    have m114 := (eta).trans (fI_kept (x_lt hT kH105 ga (by decide))).symm
    have m115 := (etb).trans (fI_kept (x_lt hT kH105 gb (by decide))).symm
    have m116 := (es1).trans (fI_kept (x_lt hT kH105 gw (by decide))).symm
    have m117 := (ey1).trans (fI_kept (x_lt hT kH105 gb (by decide))).symm
    have m118 := (es4).trans (fI_kept (x_lt hT kH105 gw (by decide))).symm
    have m119 := (ey4).trans (fI_kept (x_lt hT kH105 gb (by decide))).symm
    have m120 := (es5).trans (fI_kept (x_lt hT kH105 gw (by decide))).symm
    have m121 := (ey5).trans (fI_kept (x_lt hT kH105 gb (by decide))).symm
    have m122 := (es10).trans (fI_kept (x_lt hT kH105 gw (by decide))).symm
    have m123 := (ey10).trans (fI_kept (x_lt hT kH105 gb (by decide))).symm
    have m124 := (es13).trans (fI_kept (x_lt hT kH105 gw (by decide))).symm
    have m125 := (ey13).trans (fI_kept (x_lt hT kH105 gb (by decide))).symm
    have m126 := (es16).trans (fI_kept (x_lt hT kH105 gw (by decide))).symm
    have m127 := (ey16).trans (fI_kept (x_lt hT kH105 gb (by decide))).symm
    have m128 := (etq).trans (fR_kept (x_lt hT kH105 ga (by decide))).symm
    have m129 := (euq).trans (fR_kept (x_lt hT kH105 gb (by decide))).symm
    have m130 := (ehi).trans (fI_kept (x_lt hT kH105 gb (by decide))).symm
    have m131 := (fV_kept (x_lt hT kH105 ga (by decide))).trans kn
    refine W.eq (g2 := F0 m 982 ls [.int x106]) rfl ?_
    refine lv_pop hx hb dL_law_982 rfl ?_
    refine lv_aload_n hx hb dL_law_983 rfl (lv_at hl 1 rfl) ?_
    refine lv_aload_n hx hb dL_law_984 rfl (lv_at hl 3 rfl) ?_
    refine lv_iload_n hx hb dL_law_985 rfl (lv_at hl 0 rfl) ?_
    refine lv_iconst (v := 1) hx hb dL_law_986 (by decide) ?_
    refine lv_iadd hx hb dL_law_987 ?_
    refine lv_topi (fun x132 ex132 => ?_)
    have tx132 := i_add ex132 (by omega)
    have ejx132 : x132.toNatClampNeg = i.toNatClampNeg + 1 := by have h1 := i_cl (x := x132) (by omega); have h2 := i_cl (x := i) (by omega); omega
    refine va_sld hx hb hX hbl (Nat.not_le.mpr hbl) hSH105 (vp_in_iff.mpr (by omega)) dL_law_988 ?_
    refine W.eq (g2 := F0 m 989 ls [.int (xs (i.toNatClampNeg + 1)), .ref b]) (congrArg (fun z => F0 m 989 ls [.int (xs z), .ref b]) ejx132) ?_
    refine lv_aload_n hx hb dL_law_989 rfl (lv_at hl 3 rfl) ?_
    refine lv_iload_n hx hb dL_law_990 rfl (lv_at hl 0 rfl) ?_
    refine lv_iconst (v := 2) hx hb dL_law_991 (by decide) ?_
    refine lv_iadd hx hb dL_law_992 ?_
    refine lv_topi (fun x133 ex133 => ?_)
    have tx133 := i_add ex133 (by omega)
    have ejx133 : x133.toNatClampNeg = i.toNatClampNeg + 2 := by have h1 := i_cl (x := x133) (by omega); have h2 := i_cl (x := i) (by omega); omega
    refine va_sld hx hb hX hbl (Nat.not_le.mpr hbl) hSH105 (vp_in_iff.mpr (by omega)) dL_law_993 ?_
    refine W.eq (g2 := F0 m 994 ls [.int (xs (i.toNatClampNeg + 2)), .int (xs (i.toNatClampNeg + 1)), .ref b]) (congrArg (fun z => F0 m 994 ls [.int (xs z), .int (xs (i.toNatClampNeg + 1)), .ref b]) ejx133) ?_
    refine lv_aload_n hx hb dL_law_994 rfl (lv_at hl 3 rfl) ?_
    refine lv_iload_n hx hb dL_law_995 rfl (lv_at hl 0 rfl) ?_
    refine lv_iconst (v := 3) hx hb dL_law_996 (by decide) ?_
    refine lv_iadd hx hb dL_law_997 ?_
    refine lv_topi (fun x134 ex134 => ?_)
    have tx134 := i_add ex134 (by omega)
    have ejx134 : x134.toNatClampNeg = i.toNatClampNeg + 3 := by have h1 := i_cl (x := x134) (by omega); have h2 := i_cl (x := i) (by omega); omega
    refine va_sld hx hb hX hbl (Nat.not_le.mpr hbl) hSH105 (vp_in_iff.mpr (by omega)) dL_law_998 ?_
    refine W.eq (g2 := F0 m 999 ls [.int (xs (i.toNatClampNeg + 3)), .int (xs (i.toNatClampNeg + 2)), .int (xs (i.toNatClampNeg + 1)), .ref b]) (congrArg (fun z => F0 m 999 ls [.int (xs z), .int (xs (i.toNatClampNeg + 2)), .int (xs (i.toNatClampNeg + 1)), .ref b]) ejx134) ?_
    refine lv_aload_n hx hb dL_law_999 rfl (lv_at hl 3 rfl) ?_
    refine lv_iload_n hx hb dL_law_1000 rfl (lv_at hl 0 rfl) ?_
    refine lv_iconst (v := 4) hx hb dL_law_1001 (by decide) ?_
    refine lv_iadd hx hb dL_law_1002 ?_
    refine lv_topi (fun x135 ex135 => ?_)
    have tx135 := i_add ex135 (by omega)
    have ejx135 : x135.toNatClampNeg = i.toNatClampNeg + 4 := by have h1 := i_cl (x := x135) (by omega); have h2 := i_cl (x := i) (by omega); omega
    refine va_sld hx hb hX hbl (Nat.not_le.mpr hbl) hSH105 (vp_in_iff.mpr (by omega)) dL_law_1003 ?_
    refine W.eq (g2 := F0 m 1004 ls [.int (xs (i.toNatClampNeg + 4)), .int (xs (i.toNatClampNeg + 3)), .int (xs (i.toNatClampNeg + 2)), .int (xs (i.toNatClampNeg + 1)), .ref b]) (congrArg (fun z => F0 m 1004 ls [.int (xs z), .int (xs (i.toNatClampNeg + 3)), .int (xs (i.toNatClampNeg + 2)), .int (xs (i.toNatClampNeg + 1)), .ref b]) ejx135) ?_
    obtain ⟨q136, eq136⟩ : ∃ z : Nat, z = fR H105 b (K.1.2 10 4) := ⟨_, rfl⟩
    have gq136 := ty_fr (q := q136) (k := 4) (u := 113) eq136 hTH105 gb rg_112 rfl
    refine x_V (As := [.int (xs (i.toNatClampNeg + 1)), .int (xs (i.toNatClampNeg + 2)), .int (xs (i.toNatClampNeg + 3)), .int (xs (i.toNatClampNeg + 4))]) (rest := []) C (a_X10_fits l K G H105 ((xs (i.toNatClampNeg + 1))) ((xs (i.toNatClampNeg + 2))) ((xs (i.toNatClampNeg + 3))) ((xs (i.toNatClampNeg + 4))) hTH105 gb gq136 eq136 g107 g108 g109 g110) yo_X10_fits wM_L_104 ⟨⟨by decide, by decide⟩, show _ ≤ 284929 by omega, show _ ≤ 8247460 by omega⟩ (x_rv C hTH105 (ci := 10) rfl gb rg_112) rfl hl.1 rfl (Nat.le_of_ble_eq_true rfl) dL_law_1004 hSH105 (AE_new hN hSH105.1) (fun vH137 H137 locsH137 pH137 zH137 kH137 hSH137 => ?_)
    obtain ⟨x138, hvH137, m139, g140, g141, g142, g143, mf144, hTH137⟩ := pH137
    subst hvH137
    have f145 : ∀ j : Nat, fI H137 tq j = fI H tq j := fun j => (fI_kept (x_lt hTH105 kH137 gtq (by decide))).trans (f111 j)
    have f146 : ∀ j : Nat, fI H137 uq j = fI H uq j := fun j => (fI_kept (x_lt hTH105 kH137 guq (by decide))).trans (f112 j)
    have m147 := (m113).trans (fR_kept (x_lt hTH105 kH137 ga (by decide))).symm
    have m148 := (m114).trans (fI_kept (x_lt hTH105 kH137 ga (by decide))).symm
    have m149 := (m116).trans (fI_kept (x_lt hTH105 kH137 gw (by decide))).symm
    have m150 := (m118).trans (fI_kept (x_lt hTH105 kH137 gw (by decide))).symm
    have m151 := (m120).trans (fI_kept (x_lt hTH105 kH137 gw (by decide))).symm
    have m152 := (m122).trans (fI_kept (x_lt hTH105 kH137 gw (by decide))).symm
    have m153 := (m124).trans (fI_kept (x_lt hTH105 kH137 gw (by decide))).symm
    have m154 := (m126).trans (fI_kept (x_lt hTH105 kH137 gw (by decide))).symm
    have m155 := (m128).trans (fR_kept (x_lt hTH105 kH137 ga (by decide))).symm
    have m156 := (fV_kept (x_lt hTH105 kH137 ga (by decide))).trans m131
    have m157 := (m115).trans (MF.i mf144 (k := 18) (by decide) (by decide)).symm
    have m158 := (m117).trans (MF.i mf144 (k := 1) (by decide) (by decide)).symm
    have m159 := (m119).trans (MF.i mf144 (k := 2) (by decide) (by decide)).symm
    have m160 := (m121).trans (MF.i mf144 (k := 3) (by decide) (by decide)).symm
    have m161 := (m123).trans (MF.i mf144 (k := 59) (by decide) (by decide)).symm
    have m162 := (m125).trans (MF.i mf144 (k := 62) (by decide) (by decide)).symm
    have m163 := (m127).trans (MF.i mf144 (k := 65) (by decide) (by decide)).symm
    have m164 := (m129).trans (MF.r mf144 (k := 17) (by decide) (by decide)).symm
    have m165 := (m130).trans (MF.i mf144 (k := 70) (by decide) (by decide)).symm
    have m166 := (eq136).trans (MF.r mf144 (k := 4) (by decide) (by decide)).symm
    refine W.eq (g2 := F0 m 1007 ls [.int x138]) rfl ?_
    refine lv_pop hx hb dL_law_1007 rfl ?_
    refine lv_goto (tgt := 1509) hx hb dL_law_1008 (by decide) ?_
    exact nx G H137 locsH137 _ _ ls ⟨hTH137, hN, ga, gb, g140, g141, g142, g143, ⟨(by rw [← m148, ← m157]; omega), (by rw [← m147, ← m149, ← m158]; omega), (by rw [← m147, ← m150, ← m159]; omega), (by rw [← m147, ← m151, ← m160]; omega), (by rw [← m147, ← m152, ← m161]; omega), (by rw [← m147, ← m153, ← m162]; omega), (by rw [← m147, ← m154, ← m163]; omega)⟩, Or.inl ⟨m156, (by rw [← m165]; omega)⟩, (by unfold TB; rw [← m155, ← m164, ← m157]; exact TBR.of htr f145 f146 (by omega)), hSH137⟩ hl ⟨by omega, by omega, fun _ => ⟨by omega, by omega⟩⟩
  · skip
    obtain ⟨hi, ehi⟩ : ∃ z : Int32, z = fI H b (K.1.2 10 70) := ⟨_, rfl⟩
    rw [← ehi] at h70
    obtain ⟨iq, eiq⟩ : ∃ z : Nat, z = fR H b (K.1.2 10 73) := ⟨_, rfl⟩
    have giq := ty_fr (q := iq) (k := 73) (u := 162) eiq hT gb rg_112 rfl
    rw [← eiq] at q1 q4 q5 q10 q13 q16
    obtain ⟨k1, ek1⟩ : ∃ z : Int32, z = fI H kq (K.1.2 8 1) := ⟨_, rfl⟩
    rw [← ek1] at q1
    obtain ⟨i1, ei1⟩ : ∃ z : Int32, z = fI H iq ((0 : Int32).toNatClampNeg) := ⟨_, rfl⟩
    rw [← ei1] at q1
    obtain ⟨k4, ek4⟩ : ∃ z : Int32, z = fI H kq (K.1.2 8 4) := ⟨_, rfl⟩
    rw [← ek4] at q4
    obtain ⟨i4, ei4⟩ : ∃ z : Int32, z = fI H iq ((1 : Int32).toNatClampNeg) := ⟨_, rfl⟩
    rw [← ei4] at q4
    obtain ⟨k5, ek5⟩ : ∃ z : Int32, z = fI H kq (K.1.2 8 5) := ⟨_, rfl⟩
    rw [← ek5] at q5
    obtain ⟨i5, ei5⟩ : ∃ z : Int32, z = fI H iq ((2 : Int32).toNatClampNeg) := ⟨_, rfl⟩
    rw [← ei5] at q5
    obtain ⟨k10, ek10⟩ : ∃ z : Int32, z = fI H kq (K.1.2 8 10) := ⟨_, rfl⟩
    rw [← ek10] at q10
    obtain ⟨i10, ei10⟩ : ∃ z : Int32, z = fI H iq ((3 : Int32).toNatClampNeg) := ⟨_, rfl⟩
    rw [← ei10] at q10
    obtain ⟨k13, ek13⟩ : ∃ z : Int32, z = fI H kq (K.1.2 8 13) := ⟨_, rfl⟩
    rw [← ek13] at q13
    obtain ⟨i13, ei13⟩ : ∃ z : Int32, z = fI H iq ((4 : Int32).toNatClampNeg) := ⟨_, rfl⟩
    rw [← ei13] at q13
    obtain ⟨k16, ek16⟩ : ∃ z : Int32, z = fI H kq (K.1.2 8 16) := ⟨_, rfl⟩
    rw [← ek16] at q16
    obtain ⟨i16, ei16⟩ : ∃ z : Int32, z = fI H iq ((5 : Int32).toNatClampNeg) := ⟨_, rfl⟩
    rw [← ei16] at q16
    refine lv_aload_n hx hb dL_law_958 rfl (lv_at hl 2 rfl) ?_
    refine lv_aload_n hx hb dL_law_959 rfl (lv_at hl 3 rfl) ?_
    refine lv_iload_n hx hb dL_law_960 rfl (lv_at hl 0 rfl) ?_
    refine lv_iconst (v := 1) hx hb dL_law_961 (by decide) ?_
    refine lv_iadd hx hb dL_law_962 ?_
    refine lv_topi (fun x167 ex167 => ?_)
    have tx167 := i_add ex167 (by omega)
    have ejx167 : x167.toNatClampNeg = i.toNatClampNeg + 1 := by have h1 := i_cl (x := x167) (by omega); have h2 := i_cl (x := i) (by omega); omega
    refine va_sld hx hb hX hbl (Nat.not_le.mpr hbl) hS (vp_in_iff.mpr (by omega)) dL_law_963 ?_
    refine W.eq (g2 := F0 m 964 ls [.int (xs (i.toNatClampNeg + 1)), .ref a]) (congrArg (fun z => F0 m 964 ls [.int (xs z), .ref a]) ejx167) ?_
    refine lv_aload_n hx hb dL_law_964 rfl (lv_at hl 3 rfl) ?_
    refine lv_iload_n hx hb dL_law_965 rfl (lv_at hl 0 rfl) ?_
    refine lv_iconst (v := 2) hx hb dL_law_966 (by decide) ?_
    refine lv_iadd hx hb dL_law_967 ?_
    refine lv_topi (fun x168 ex168 => ?_)
    have tx168 := i_add ex168 (by omega)
    have ejx168 : x168.toNatClampNeg = i.toNatClampNeg + 2 := by have h1 := i_cl (x := x168) (by omega); have h2 := i_cl (x := i) (by omega); omega
    refine va_sld hx hb hX hbl (Nat.not_le.mpr hbl) hS (vp_in_iff.mpr (by omega)) dL_law_968 ?_
    refine W.eq (g2 := F0 m 969 ls [.int (xs (i.toNatClampNeg + 2)), .int (xs (i.toNatClampNeg + 1)), .ref a]) (congrArg (fun z => F0 m 969 ls [.int (xs z), .int (xs (i.toNatClampNeg + 1)), .ref a]) ejx168) ?_
    refine lv_aload_n hx hb dL_law_969 rfl (lv_at hl 3 rfl) ?_
    refine lv_iload_n hx hb dL_law_970 rfl (lv_at hl 0 rfl) ?_
    refine lv_iconst (v := 3) hx hb dL_law_971 (by decide) ?_
    refine lv_iadd hx hb dL_law_972 ?_
    refine lv_topi (fun x169 ex169 => ?_)
    have tx169 := i_add ex169 (by omega)
    have ejx169 : x169.toNatClampNeg = i.toNatClampNeg + 3 := by have h1 := i_cl (x := x169) (by omega); have h2 := i_cl (x := i) (by omega); omega
    refine va_sld hx hb hX hbl (Nat.not_le.mpr hbl) hS (vp_in_iff.mpr (by omega)) dL_law_973 ?_
    refine W.eq (g2 := F0 m 974 ls [.int (xs (i.toNatClampNeg + 3)), .int (xs (i.toNatClampNeg + 2)), .int (xs (i.toNatClampNeg + 1)), .ref a]) (congrArg (fun z => F0 m 974 ls [.int (xs z), .int (xs (i.toNatClampNeg + 2)), .int (xs (i.toNatClampNeg + 1)), .ref a]) ejx169) ?_
    refine lv_aload_n hx hb dL_law_974 rfl (lv_at hl 3 rfl) ?_
    refine lv_iload_n hx hb dL_law_975 rfl (lv_at hl 0 rfl) ?_
    refine lv_iconst (v := 4) hx hb dL_law_976 (by decide) ?_
    refine lv_iadd hx hb dL_law_977 ?_
    refine lv_topi (fun x170 ex170 => ?_)
    have tx170 := i_add ex170 (by omega)
    have ejx170 : x170.toNatClampNeg = i.toNatClampNeg + 4 := by have h1 := i_cl (x := x170) (by omega); have h2 := i_cl (x := i) (by omega); omega
    refine va_sld hx hb hX hbl (Nat.not_le.mpr hbl) hS (vp_in_iff.mpr (by omega)) dL_law_978 ?_
    refine W.eq (g2 := F0 m 979 ls [.int (xs (i.toNatClampNeg + 4)), .int (xs (i.toNatClampNeg + 3)), .int (xs (i.toNatClampNeg + 2)), .int (xs (i.toNatClampNeg + 1)), .ref a]) (congrArg (fun z => F0 m 979 ls [.int (xs z), .int (xs (i.toNatClampNeg + 3)), .int (xs (i.toNatClampNeg + 2)), .int (xs (i.toNatClampNeg + 1)), .ref a]) ejx170) ?_
    refine x_V (As := [.int (xs (i.toNatClampNeg + 1)), .int (xs (i.toNatClampNeg + 2)), .int (xs (i.toNatClampNeg + 3)), .int (xs (i.toNatClampNeg + 4))]) (rest := []) C (a_X9_fits l K G H ((xs (i.toNatClampNeg + 1))) ((xs (i.toNatClampNeg + 2))) ((xs (i.toNatClampNeg + 3))) ((xs (i.toNatClampNeg + 4))) hT ga) yo_X9_fits wM_L_100 ⟨⟨by decide, by decide⟩, show _ ≤ 284929 by omega, show _ ≤ 8247460 by omega⟩ (x_rv C hT (ci := 9) rfl ga rg_68) rfl hl.1 rfl (Nat.le_of_ble_eq_true rfl) dL_law_979 hS (AE_new hN hS.1) (fun vH171 H171 locsH171 pH171 zH171 kH171 hSH171 => ?_)
    obtain ⟨x172, hvH171, hTH171⟩ := pH171
    subst hvH171
    have g173 : CG (avw K H171 b) := CG.congr (fun k hk j => av_eff hT kH171 gb (by decide) (CG_eff [98, 101, 102, 103, 87, 88, 101, 99, 100, 83, 84] (by decide) k hk)) cg
    have g174 : TU (avw K H171 b) (svw K H171 b) := TU.congr (fun k hk j => av_eff hT kH171 gb (by decide) (TU_eff [98, 101, 102, 103, 87, 88, 101, 99, 100, 83, 84] (by decide) k hk)) (fun k hk => sv_eff hT kH171 gb (by decide)) tu
    have g175 : WD (avw K H171 b) := WD.congr (fun k hk j => av_eff hT kH171 gb (by decide) (WD_eff [98, 101, 102, 103, 87, 88, 101, 99, 100, 83, 84] (by decide) k hk)) wd
    have g176 : IM (avw K H171 b) := IM.congr (fun k hk j => av_eff hT kH171 gb (by decide) (IM_eff [98, 101, 102, 103, 87, 88, 101, 99, 100, 83, 84] (by decide) k hk)) im
    have f177 : ∀ j : Nat, fI H171 tq j = fI H tq j := fun j => (fI_kept (x_lt hT kH171 gtq (by decide))).trans (ft0 j)
    have f178 : ∀ j : Nat, fI H171 uq j = fI H uq j := fun j => (fI_kept (x_lt hT kH171 guq (by decide))).trans (fu0 j)
    have m179 := (ew).trans (fR_kept (x_lt hT kH171 ga (by decide))).symm
    have m180 := (eta).trans (fI_kept (x_lt hT kH171 ga (by decide))).symm
    have m181 := (etb).trans (fI_kept (x_lt hT kH171 gb (by decide))).symm
    have m182 := (es1).trans (fI_kept (x_lt hT kH171 gw (by decide))).symm
    have m183 := (ey1).trans (fI_kept (x_lt hT kH171 gb (by decide))).symm
    have m184 := (es4).trans (fI_kept (x_lt hT kH171 gw (by decide))).symm
    have m185 := (ey4).trans (fI_kept (x_lt hT kH171 gb (by decide))).symm
    have m186 := (es5).trans (fI_kept (x_lt hT kH171 gw (by decide))).symm
    have m187 := (ey5).trans (fI_kept (x_lt hT kH171 gb (by decide))).symm
    have m188 := (es10).trans (fI_kept (x_lt hT kH171 gw (by decide))).symm
    have m189 := (ey10).trans (fI_kept (x_lt hT kH171 gb (by decide))).symm
    have m190 := (es13).trans (fI_kept (x_lt hT kH171 gw (by decide))).symm
    have m191 := (ey13).trans (fI_kept (x_lt hT kH171 gb (by decide))).symm
    have m192 := (es16).trans (fI_kept (x_lt hT kH171 gw (by decide))).symm
    have m193 := (ey16).trans (fI_kept (x_lt hT kH171 gb (by decide))).symm
    have m194 := (etq).trans (fR_kept (x_lt hT kH171 ga (by decide))).symm
    have m195 := (euq).trans (fR_kept (x_lt hT kH171 gb (by decide))).symm
    have m196 := (ehi).trans (fI_kept (x_lt hT kH171 gb (by decide))).symm
    have m197 := (fV_kept (x_lt hT kH171 ga (by decide))).trans kn
    have m198 := (eiq).trans (fR_kept (x_lt hT kH171 gb (by decide))).symm
    have m199 := (ek1).trans (fI_kept (x_lt hT kH171 gkq (by decide))).symm
    have m200 := (ei1).trans (fI_kept (x_lt hT kH171 giq (by decide))).symm
    have m201 := (ek4).trans (fI_kept (x_lt hT kH171 gkq (by decide))).symm
    have m202 := (ei4).trans (fI_kept (x_lt hT kH171 giq (by decide))).symm
    have m203 := (ek5).trans (fI_kept (x_lt hT kH171 gkq (by decide))).symm
    have m204 := (ei5).trans (fI_kept (x_lt hT kH171 giq (by decide))).symm
    have m205 := (ek10).trans (fI_kept (x_lt hT kH171 gkq (by decide))).symm
    have m206 := (ei10).trans (fI_kept (x_lt hT kH171 giq (by decide))).symm
    have m207 := (ek13).trans (fI_kept (x_lt hT kH171 gkq (by decide))).symm
    have m208 := (ei13).trans (fI_kept (x_lt hT kH171 giq (by decide))).symm
    have m209 := (ek16).trans (fI_kept (x_lt hT kH171 gkq (by decide))).symm
    have m210 := (ei16).trans (fI_kept (x_lt hT kH171 giq (by decide))).symm
    refine W.eq (g2 := F0 m 982 ls [.int x172]) rfl ?_
    refine lv_pop hx hb dL_law_982 rfl ?_
    refine lv_aload_n hx hb dL_law_983 rfl (lv_at hl 1 rfl) ?_
    refine lv_aload_n hx hb dL_law_984 rfl (lv_at hl 3 rfl) ?_
    refine lv_iload_n hx hb dL_law_985 rfl (lv_at hl 0 rfl) ?_
    refine lv_iconst (v := 1) hx hb dL_law_986 (by decide) ?_
    refine lv_iadd hx hb dL_law_987 ?_
    refine lv_topi (fun x211 ex211 => ?_)
    have tx211 := i_add ex211 (by omega)
    have ejx211 : x211.toNatClampNeg = i.toNatClampNeg + 1 := by have h1 := i_cl (x := x211) (by omega); have h2 := i_cl (x := i) (by omega); omega
    refine va_sld hx hb hX hbl (Nat.not_le.mpr hbl) hSH171 (vp_in_iff.mpr (by omega)) dL_law_988 ?_
    refine W.eq (g2 := F0 m 989 ls [.int (xs (i.toNatClampNeg + 1)), .ref b]) (congrArg (fun z => F0 m 989 ls [.int (xs z), .ref b]) ejx211) ?_
    refine lv_aload_n hx hb dL_law_989 rfl (lv_at hl 3 rfl) ?_
    refine lv_iload_n hx hb dL_law_990 rfl (lv_at hl 0 rfl) ?_
    refine lv_iconst (v := 2) hx hb dL_law_991 (by decide) ?_
    refine lv_iadd hx hb dL_law_992 ?_
    refine lv_topi (fun x212 ex212 => ?_)
    have tx212 := i_add ex212 (by omega)
    have ejx212 : x212.toNatClampNeg = i.toNatClampNeg + 2 := by have h1 := i_cl (x := x212) (by omega); have h2 := i_cl (x := i) (by omega); omega
    refine va_sld hx hb hX hbl (Nat.not_le.mpr hbl) hSH171 (vp_in_iff.mpr (by omega)) dL_law_993 ?_
    refine W.eq (g2 := F0 m 994 ls [.int (xs (i.toNatClampNeg + 2)), .int (xs (i.toNatClampNeg + 1)), .ref b]) (congrArg (fun z => F0 m 994 ls [.int (xs z), .int (xs (i.toNatClampNeg + 1)), .ref b]) ejx212) ?_
    refine lv_aload_n hx hb dL_law_994 rfl (lv_at hl 3 rfl) ?_
    refine lv_iload_n hx hb dL_law_995 rfl (lv_at hl 0 rfl) ?_
    refine lv_iconst (v := 3) hx hb dL_law_996 (by decide) ?_
    refine lv_iadd hx hb dL_law_997 ?_
    refine lv_topi (fun x213 ex213 => ?_)
    have tx213 := i_add ex213 (by omega)
    have ejx213 : x213.toNatClampNeg = i.toNatClampNeg + 3 := by have h1 := i_cl (x := x213) (by omega); have h2 := i_cl (x := i) (by omega); omega
    refine va_sld hx hb hX hbl (Nat.not_le.mpr hbl) hSH171 (vp_in_iff.mpr (by omega)) dL_law_998 ?_
    refine W.eq (g2 := F0 m 999 ls [.int (xs (i.toNatClampNeg + 3)), .int (xs (i.toNatClampNeg + 2)), .int (xs (i.toNatClampNeg + 1)), .ref b]) (congrArg (fun z => F0 m 999 ls [.int (xs z), .int (xs (i.toNatClampNeg + 2)), .int (xs (i.toNatClampNeg + 1)), .ref b]) ejx213) ?_
    refine lv_aload_n hx hb dL_law_999 rfl (lv_at hl 3 rfl) ?_
    refine lv_iload_n hx hb dL_law_1000 rfl (lv_at hl 0 rfl) ?_
    refine lv_iconst (v := 4) hx hb dL_law_1001 (by decide) ?_
    refine lv_iadd hx hb dL_law_1002 ?_
    refine lv_topi (fun x214 ex214 => ?_)
    have tx214 := i_add ex214 (by omega)
    have ejx214 : x214.toNatClampNeg = i.toNatClampNeg + 4 := by have h1 := i_cl (x := x214) (by omega); have h2 := i_cl (x := i) (by omega); omega
    refine va_sld hx hb hX hbl (Nat.not_le.mpr hbl) hSH171 (vp_in_iff.mpr (by omega)) dL_law_1003 ?_
    refine W.eq (g2 := F0 m 1004 ls [.int (xs (i.toNatClampNeg + 4)), .int (xs (i.toNatClampNeg + 3)), .int (xs (i.toNatClampNeg + 2)), .int (xs (i.toNatClampNeg + 1)), .ref b]) (congrArg (fun z => F0 m 1004 ls [.int (xs z), .int (xs (i.toNatClampNeg + 3)), .int (xs (i.toNatClampNeg + 2)), .int (xs (i.toNatClampNeg + 1)), .ref b]) ejx214) ?_
    obtain ⟨q215, eq215⟩ : ∃ z : Nat, z = fR H171 b (K.1.2 10 4) := ⟨_, rfl⟩
    have gq215 := ty_fr (q := q215) (k := 4) (u := 113) eq215 hTH171 gb rg_112 rfl
    refine x_V (As := [.int (xs (i.toNatClampNeg + 1)), .int (xs (i.toNatClampNeg + 2)), .int (xs (i.toNatClampNeg + 3)), .int (xs (i.toNatClampNeg + 4))]) (rest := []) C (a_X10_fits l K G H171 ((xs (i.toNatClampNeg + 1))) ((xs (i.toNatClampNeg + 2))) ((xs (i.toNatClampNeg + 3))) ((xs (i.toNatClampNeg + 4))) hTH171 gb gq215 eq215 g173 g174 g175 g176) yo_X10_fits wM_L_104 ⟨⟨by decide, by decide⟩, show _ ≤ 284929 by omega, show _ ≤ 8247460 by omega⟩ (x_rv C hTH171 (ci := 10) rfl gb rg_112) rfl hl.1 rfl (Nat.le_of_ble_eq_true rfl) dL_law_1004 hSH171 (AE_new hN hSH171.1) (fun vH216 H216 locsH216 pH216 zH216 kH216 hSH216 => ?_)
    obtain ⟨x217, hvH216, m218, g219, g220, g221, g222, mf223, hTH216⟩ := pH216
    subst hvH216
    have f224 : ∀ j : Nat, fI H216 tq j = fI H tq j := fun j => (fI_kept (x_lt hTH171 kH216 gtq (by decide))).trans (f177 j)
    have f225 : ∀ j : Nat, fI H216 uq j = fI H uq j := fun j => (fI_kept (x_lt hTH171 kH216 guq (by decide))).trans (f178 j)
    have m226 := (m179).trans (fR_kept (x_lt hTH171 kH216 ga (by decide))).symm
    have m227 := (m180).trans (fI_kept (x_lt hTH171 kH216 ga (by decide))).symm
    have m228 := (m182).trans (fI_kept (x_lt hTH171 kH216 gw (by decide))).symm
    have m229 := (m184).trans (fI_kept (x_lt hTH171 kH216 gw (by decide))).symm
    have m230 := (m186).trans (fI_kept (x_lt hTH171 kH216 gw (by decide))).symm
    have m231 := (m188).trans (fI_kept (x_lt hTH171 kH216 gw (by decide))).symm
    have m232 := (m190).trans (fI_kept (x_lt hTH171 kH216 gw (by decide))).symm
    have m233 := (m192).trans (fI_kept (x_lt hTH171 kH216 gw (by decide))).symm
    have m234 := (m194).trans (fR_kept (x_lt hTH171 kH216 ga (by decide))).symm
    have m235 := (fV_kept (x_lt hTH171 kH216 ga (by decide))).trans m197
    have m236 := (m199).trans (fI_kept (x_lt hTH171 kH216 gkq (by decide))).symm
    have m237 := (m200).trans (fI_kept (x_lt hTH171 kH216 giq (by decide))).symm
    have m238 := (m201).trans (fI_kept (x_lt hTH171 kH216 gkq (by decide))).symm
    have m239 := (m202).trans (fI_kept (x_lt hTH171 kH216 giq (by decide))).symm
    have m240 := (m203).trans (fI_kept (x_lt hTH171 kH216 gkq (by decide))).symm
    have m241 := (m204).trans (fI_kept (x_lt hTH171 kH216 giq (by decide))).symm
    have m242 := (m205).trans (fI_kept (x_lt hTH171 kH216 gkq (by decide))).symm
    have m243 := (m206).trans (fI_kept (x_lt hTH171 kH216 giq (by decide))).symm
    have m244 := (m207).trans (fI_kept (x_lt hTH171 kH216 gkq (by decide))).symm
    have m245 := (m208).trans (fI_kept (x_lt hTH171 kH216 giq (by decide))).symm
    have m246 := (m209).trans (fI_kept (x_lt hTH171 kH216 gkq (by decide))).symm
    have m247 := (m210).trans (fI_kept (x_lt hTH171 kH216 giq (by decide))).symm
    have m248 := (m181).trans (MF.i mf223 (k := 18) (by decide) (by decide)).symm
    have m249 := (m183).trans (MF.i mf223 (k := 1) (by decide) (by decide)).symm
    have m250 := (m185).trans (MF.i mf223 (k := 2) (by decide) (by decide)).symm
    have m251 := (m187).trans (MF.i mf223 (k := 3) (by decide) (by decide)).symm
    have m252 := (m189).trans (MF.i mf223 (k := 59) (by decide) (by decide)).symm
    have m253 := (m191).trans (MF.i mf223 (k := 62) (by decide) (by decide)).symm
    have m254 := (m193).trans (MF.i mf223 (k := 65) (by decide) (by decide)).symm
    have m255 := (m195).trans (MF.r mf223 (k := 17) (by decide) (by decide)).symm
    have m256 := (m196).trans (MF.i mf223 (k := 70) (by decide) (by decide)).symm
    have m257 := (m198).trans (MF.r mf223 (k := 73) (by decide) (by decide)).symm
    have m258 := (eq215).trans (MF.r mf223 (k := 4) (by decide) (by decide)).symm
    refine W.eq (g2 := F0 m 1007 ls [.int x217]) rfl ?_
    refine lv_pop hx hb dL_law_1007 rfl ?_
    refine lv_goto (tgt := 1509) hx hb dL_law_1008 (by decide) ?_
    exact nx G H216 locsH216 _ _ ls ⟨hTH216, hN, ga, gb, g219, g220, g221, g222, ⟨(by rw [← m227, ← m248]; omega), (by rw [← m226, ← m228, ← m249]; omega), (by rw [← m226, ← m229, ← m250]; omega), (by rw [← m226, ← m230, ← m251]; omega), (by rw [← m226, ← m231, ← m252]; omega), (by rw [← m226, ← m232, ← m253]; omega), (by rw [← m226, ← m233, ← m254]; omega)⟩, Or.inr ⟨kq, m235, gkq, (by rw [← m256]; omega), (by rw [← m236, ← m257, ← m237]; omega), (by rw [← m238, ← m257, ← m239]; omega), (by rw [← m240, ← m257, ← m241]; omega), (by rw [← m242, ← m257, ← m243]; omega), (by rw [← m244, ← m257, ← m245]; omega), (by rw [← m246, ← m257, ← m247]; omega)⟩, (by unfold TB; rw [← m234, ← m255, ← m248]; exact TBR.of htr f224 f225 (by omega)), hSH216⟩ hl ⟨by omega, by omega, fun h => by have h1 := h.symm.trans m235; cases h1⟩