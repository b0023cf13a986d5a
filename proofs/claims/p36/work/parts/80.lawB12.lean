set_option maxRecDepth 100000 in
set_option maxHeartbeats 8000000 in
theorem lw_c24 {p : Program} {l : Launch} {e : Env} {s : State} {m : MethodId} {below : List Frame} {meth : Method} {c : Code} {K : KE} {b0 L : Nat} {xs : Nat → Int32} {G : Nat → Option Nat} {H : Heap} {locs : List Loc} {a b : Nat} {cells slots : Nat} {ls : Array Slot} {i : Int32} {n : Nat} (D : LC p K s m meth c b0 L xs) (S : SX K s G H locs a b) (hl : lv_has ls 4 [(3, .int i), (2, .ref b), (1, .ref a), (0, .ref b0)]) (hi : 0 ≤ i.toInt ∧ i.toInt + 6 ≤ L) (hn : n ≤ 511) (hB : BD K H a cells slots) (nx : ∀ (G : Nat → Option Nat) (H : Heap) (locs : List Loc) (cells slots : Nat) (ls : Array Slot), SX K s G H locs a b → lv_has ls 4 [(3, .int i), (2, .ref b), (1, .ref a), (0, .ref b0)] → BD K H a cells slots → W p l e room_1 s m #[Value.ref b0] below meth c H locs cells slots (lw_Z below #[Value.ref b0] s) (F0 m 1509 ls [])) : W p l e room_1 s m #[Value.ref b0] below meth c H locs cells slots (lw_Z below #[Value.ref b0] s) (F0 m 1120 ls []) := by
  have hI := hi
  obtain ⟨C, hX, hbl, hL⟩ := id D
  obtain ⟨hx, hb, hml, hown, hts, hKT, hr, hlocks, hnm⟩ := id C
  obtain ⟨hT, hN, ga, gb, cg, tu, wd, im, ⟨rt, r1, r4, r5, r10, r13, r16⟩, hk, htb, her, hS⟩ := S
  obtain ⟨hc, hs, hB0⟩ := hB
  have n_1 : (1 : Int32).toInt = 1 := rfl
  have n_2 : (2 : Int32).toInt = 2 := rfl
  have n_3 : (3 : Int32).toInt = 3 := rfl
  obtain ⟨w, ew⟩ : ∃ z : Nat, z = fR H a (K.1.2 9 0) := ⟨_, rfl⟩
  have gw := ty_fr (q := w) (k := 0) (u := 0) ew hT ga rg_68 rfl
  rw [← ew] at r1 r4 r5 r10 r13 r16
  obtain ⟨ta, eta⟩ : ∃ z : Int32, z = fI H a (K.1.2 9 3) := ⟨_, rfl⟩
  rw [← eta] at rt
  obtain ⟨tb, etb⟩ : ∃ z : Int32, z = fI H b (K.1.2 10 18) := ⟨_, rfl⟩
  rw [← etb] at rt
  obtain ⟨s1, es1⟩ : ∃ z : Int32, z = fI H w (K.1.2 8 1) := ⟨_, rfl⟩
  rw [← es1] at r1
  obtain ⟨y1, ey1⟩ : ∃ z : Int32, z = fI H b (K.1.2 10 1) := ⟨_, rfl⟩
  rw [← ey1] at r1
  obtain ⟨s4, es4⟩ : ∃ z : Int32, z = fI H w (K.1.2 8 4) := ⟨_, rfl⟩
  rw [← es4] at r4
  obtain ⟨y4, ey4⟩ : ∃ z : Int32, z = fI H b (K.1.2 10 2) := ⟨_, rfl⟩
  rw [← ey4] at r4
  obtain ⟨s5, es5⟩ : ∃ z : Int32, z = fI H w (K.1.2 8 5) := ⟨_, rfl⟩
  rw [← es5] at r5
  obtain ⟨y5, ey5⟩ : ∃ z : Int32, z = fI H b (K.1.2 10 3) := ⟨_, rfl⟩
  rw [← ey5] at r5
  obtain ⟨s10, es10⟩ : ∃ z : Int32, z = fI H w (K.1.2 8 10) := ⟨_, rfl⟩
  rw [← es10] at r10
  obtain ⟨y10, ey10⟩ : ∃ z : Int32, z = fI H b (K.1.2 10 59) := ⟨_, rfl⟩
  rw [← ey10] at r10
  obtain ⟨s13, es13⟩ : ∃ z : Int32, z = fI H w (K.1.2 8 13) := ⟨_, rfl⟩
  rw [← es13] at r13
  obtain ⟨y13, ey13⟩ : ∃ z : Int32, z = fI H b (K.1.2 10 62) := ⟨_, rfl⟩
  rw [← ey13] at r13
  obtain ⟨s16, es16⟩ : ∃ z : Int32, z = fI H w (K.1.2 8 16) := ⟨_, rfl⟩
  rw [← es16] at r16
  obtain ⟨y16, ey16⟩ : ∃ z : Int32, z = fI H b (K.1.2 10 65) := ⟨_, rfl⟩
  rw [← ey16] at r16
  obtain ⟨tq, etq⟩ : ∃ z : Nat, z = fR H a (K.1.2 9 2) := ⟨_, rfl⟩
  have gtq := ty_fr (q := tq) (k := 2) (u := 108) etq hT ga rg_68 rfl
  obtain ⟨uq, euq⟩ : ∃ z : Nat, z = fR H b (K.1.2 10 17) := ⟨_, rfl⟩
  have guq := ty_fr (q := uq) (k := 17) (u := 126) euq hT gb rg_112 rfl
  have htr : TBR (fun j => fI H tq j) (fun j => fI H uq j) tb.toNatClampNeg := by rw [etq, euq, etb]; exact htb
  have ft0 : ∀ j : Nat, fI H tq j = fI H tq j := fun _ => rfl
  have fu0 : ∀ j : Nat, fI H uq j = fI H uq j := fun _ => rfl
  have bta := ty_fi (x := ta) (k := 3) eta hT ga rg_68 rfl
  have cta := i_cl (x := ta) (by omega)
  have btb := ty_fi (x := tb) (k := 18) etb hT gb rg_112 rfl
  have ctb := i_cl (x := tb) (by omega)
  obtain ⟨her0, hsl1, hsl2⟩ := her
  have hsl0 := And.intro hsl1 hsl2
  clear hsl1 hsl2
  rw [← ew] at her0 hsl0
  have re : RE K H w b s1.toInt := RE.cast her0 (by rw [← ey1]; exact r1)
  have hsl : 0 ≤ s5.toInt ∧ s5.toInt ≤ 9999 := by rw [es5]; exact hsl0
  clear her0 hsl0
  have bt_s1 := ty_fi (x := s1) (k := 1) es1 hT gw rg_0 rfl
  have bt_s4 := ty_fi (x := s4) (k := 4) es4 hT gw rg_0 rfl
  have bt_y1 := ty_fi (x := y1) (k := 1) ey1 hT gb rg_112 rfl
  have bt_y4 := ty_fi (x := y4) (k := 2) ey4 hT gb rg_112 rfl
  rcases hk with ⟨kn, h70⟩ | ⟨kq, kn, gkq, h70, q1, q4, q5, q10, q13, q16, rke, ks1, ks2⟩
  · skip
    obtain ⟨hi, ehi⟩ : ∃ z : Int32, z = fI H b (K.1.2 10 70) := ⟨_, rfl⟩
    rw [← ehi] at h70
    obtain ⟨hc0, hs0⟩ := hB0 kn
    obtain ⟨iq, eiq⟩ : ∃ z : Nat, z = fR H b (K.1.2 10 73) := ⟨_, rfl⟩
    have giq := ty_fr (q := iq) (k := 73) (u := 162) eiq hT gb rg_112 rfl
    refine lv_aload_n hx hb dL_law_1120 rfl (lv_at hl 2 rfl) ?_
    refine lv_aload_n hx hb dL_law_1121 rfl (lv_at hl 3 rfl) ?_
    refine lv_iload_n hx hb dL_law_1122 rfl (lv_at hl 0 rfl) ?_
    refine lv_iconst (v := 1) hx hb dL_law_1123 (by decide) ?_
    refine lv_iadd hx hb dL_law_1124 ?_
    refine lv_topi (fun x101 ex101 => ?_)
    obtain ⟨tx101, ejx101, evx101⟩ := lw_ix (k := 1) ex101 hI hL rfl (by decide)
    clear tx101
    refine va_sld hx hb hX hbl (Nat.not_le.mpr hbl) hS (vp_in_iff.mpr evx101) dL_law_1125 ?_
    refine W.eq (g2 := F0 m 1126 ls [.int (xs (i.toNatClampNeg + 1)), .ref a]) (congrArg (fun z => F0 m 1126 ls [.int (xs z), .ref a]) ejx101) ?_
    refine lv_aload_n hx hb dL_law_1126 rfl (lv_at hl 3 rfl) ?_
    refine lv_iload_n hx hb dL_law_1127 rfl (lv_at hl 0 rfl) ?_
    refine lv_iconst (v := 2) hx hb dL_law_1128 (by decide) ?_
    refine lv_iadd hx hb dL_law_1129 ?_
    refine lv_topi (fun x102 ex102 => ?_)
    obtain ⟨tx102, ejx102, evx102⟩ := lw_ix (k := 2) ex102 hI hL rfl (by decide)
    clear tx102
    refine va_sld hx hb hX hbl (Nat.not_le.mpr hbl) hS (vp_in_iff.mpr evx102) dL_law_1130 ?_
    refine W.eq (g2 := F0 m 1131 ls [.int (xs (i.toNatClampNeg + 2)), .int (xs (i.toNatClampNeg + 1)), .ref a]) (congrArg (fun z => F0 m 1131 ls [.int (xs z), .int (xs (i.toNatClampNeg + 1)), .ref a]) ejx102) ?_
    refine lv_aload_n hx hb dL_law_1131 rfl (lv_at hl 3 rfl) ?_
    refine lv_iload_n hx hb dL_law_1132 rfl (lv_at hl 0 rfl) ?_
    refine lv_iconst (v := 3) hx hb dL_law_1133 (by decide) ?_
    refine lv_iadd hx hb dL_law_1134 ?_
    refine lv_topi (fun x103 ex103 => ?_)
    obtain ⟨tx103, ejx103, evx103⟩ := lw_ix (k := 3) ex103 hI hL rfl (by decide)
    clear tx103
    refine va_sld hx hb hX hbl (Nat.not_le.mpr hbl) hS (vp_in_iff.mpr evx103) dL_law_1135 ?_
    refine W.eq (g2 := F0 m 1136 ls [.int (xs (i.toNatClampNeg + 3)), .int (xs (i.toNatClampNeg + 2)), .int (xs (i.toNatClampNeg + 1)), .ref a]) (congrArg (fun z => F0 m 1136 ls [.int (xs z), .int (xs (i.toNatClampNeg + 2)), .int (xs (i.toNatClampNeg + 1)), .ref a]) ejx103) ?_
    refine x_V (As := [.int (xs (i.toNatClampNeg + 1)), .int (xs (i.toNatClampNeg + 2)), .int (xs (i.toNatClampNeg + 3))]) (rest := []) C (a_X9_tube_r l K G H ((xs (i.toNatClampNeg + 1))) ((xs (i.toNatClampNeg + 2))) ((xs (i.toNatClampNeg + 3))) (s1) (s4) (s5) (s10) (s13) (s16) hT ga gw ew es1 es4 es5 es10 es13 es16) yo_X9_tube wM_L_117 ⟨⟨by decide, by decide⟩, show _ ≤ 60000 from Nat.le_trans hc (by decide), show _ ≤ 8922250 from Nat.le_trans hs (by decide)⟩ (x_rv C hT (ci := 9) rfl ga rg_68) rfl hl.1 rfl (Nat.le_of_ble_eq_true rfl) dL_law_1136 hS (AE_new hN hS.1) (fun vH104 H104 locsH104 pH104 zH104 kH104 hSH104 => ?_)
    obtain ⟨x105, hvH104, bx105, hrH104, hTH104⟩ := pH104
    subst hvH104
    have g106 : CG (avw K H104 b) := CG.congr (fun k hk j => av_eff hT kH104 gb (by decide) (CG_eff [15] (by decide) k hk)) cg
    have g107 : TU (avw K H104 b) (svw K H104 b) := TU.congr (fun k hk j => av_eff hT kH104 gb (by decide) (TU_eff [15] (by decide) k hk)) (fun k hk => sv_eff hT kH104 gb (by decide)) tu
    have g108 : WD (avw K H104 b) := WD.congr (fun k hk j => av_eff hT kH104 gb (by decide) (WD_eff [15] (by decide) k hk)) wd
    have g109 : IM (avw K H104 b) := IM.congr (fun k hk j => av_eff hT kH104 gb (by decide) (IM_eff [15] (by decide) k hk)) im
    have f110 : ∀ j : Nat, fI H104 tq j = fI H tq j := fun j => (fI_kept (x_lt hT kH104 gtq (by decide))).trans (ft0 j)
    have f111 : ∀ j : Nat, fI H104 uq j = fI H uq j := fun j => (fI_kept (x_lt hT kH104 guq (by decide))).trans (fu0 j)
    have m112 := (ew).trans (fR_kept (x_lt hT kH104 ga (by decide))).symm
    have m113 := (eta).trans (fI_kept (x_lt hT kH104 ga (by decide))).symm
    have m114 := (etb).trans (fI_kept (x_lt hT kH104 gb (by decide))).symm
    have m115 := (es1).trans (fI_kept (x_lt hT kH104 gw (by decide))).symm
    have m116 := (ey1).trans (fI_kept (x_lt hT kH104 gb (by decide))).symm
    have m117 := (es4).trans (fI_kept (x_lt hT kH104 gw (by decide))).symm
    have m118 := (ey4).trans (fI_kept (x_lt hT kH104 gb (by decide))).symm
    have m119 := (es5).trans (fI_kept (x_lt hT kH104 gw (by decide))).symm
    have m120 := (ey5).trans (fI_kept (x_lt hT kH104 gb (by decide))).symm
    have m121 := (es10).trans (fI_kept (x_lt hT kH104 gw (by decide))).symm
    have m122 := (ey10).trans (fI_kept (x_lt hT kH104 gb (by decide))).symm
    have m123 := (es13).trans (fI_kept (x_lt hT kH104 gw (by decide))).symm
    have m124 := (ey13).trans (fI_kept (x_lt hT kH104 gb (by decide))).symm
    have m125 := (es16).trans (fI_kept (x_lt hT kH104 gw (by decide))).symm
    have m126 := (ey16).trans (fI_kept (x_lt hT kH104 gb (by decide))).symm
    have m127 := (etq).trans (fR_kept (x_lt hT kH104 ga (by decide))).symm
    have m128 := (euq).trans (fR_kept (x_lt hT kH104 gb (by decide))).symm
    have m129 := (ehi).trans (fI_kept (x_lt hT kH104 gb (by decide))).symm
    have m130 := (fV_kept (x_lt hT kH104 ga (by decide))).trans kn
    have m131 := (eiq).trans (fR_kept (x_lt hT kH104 gb (by decide))).symm
    refine W.eq (g2 := F0 m 1139 ls [.int x105]) rfl ?_
    have re132 : RE K H104 w b s1.toInt := RE.cls re hT gw gb (fun q t hq ht => x_lt hT kH104 hq (by first | exact nmr ht (by decide) | exact nmo ht (by decide) | exact nme ht (by decide) | exact nmq ht (by decide) | decide | (intro z; simp only [List.mem_cons, List.not_mem_nil, or_false] at z <;> omega) | omega))
    refine lv_pop hx hb dL_law_1139 rfl ?_
    refine lv_aload_n hx hb dL_law_1140 rfl (lv_at hl 1 rfl) ?_
    refine lv_aload_n hx hb dL_law_1141 rfl (lv_at hl 3 rfl) ?_
    refine lv_iload_n hx hb dL_law_1142 rfl (lv_at hl 0 rfl) ?_
    refine lv_iconst (v := 1) hx hb dL_law_1143 (by decide) ?_
    refine lv_iadd hx hb dL_law_1144 ?_
    refine lv_topi (fun x133 ex133 => ?_)
    obtain ⟨tx133, ejx133, evx133⟩ := lw_ix (k := 1) ex133 hI hL rfl (by decide)
    clear tx133
    refine va_sld hx hb hX hbl (Nat.not_le.mpr hbl) hSH104 (vp_in_iff.mpr evx133) dL_law_1145 ?_
    refine W.eq (g2 := F0 m 1146 ls [.int (xs (i.toNatClampNeg + 1)), .ref b]) (congrArg (fun z => F0 m 1146 ls [.int (xs z), .ref b]) ejx133) ?_
    refine lv_aload_n hx hb dL_law_1146 rfl (lv_at hl 3 rfl) ?_
    refine lv_iload_n hx hb dL_law_1147 rfl (lv_at hl 0 rfl) ?_
    refine lv_iconst (v := 2) hx hb dL_law_1148 (by decide) ?_
    refine lv_iadd hx hb dL_law_1149 ?_
    refine lv_topi (fun x134 ex134 => ?_)
    obtain ⟨tx134, ejx134, evx134⟩ := lw_ix (k := 2) ex134 hI hL rfl (by decide)
    clear tx134
    refine va_sld hx hb hX hbl (Nat.not_le.mpr hbl) hSH104 (vp_in_iff.mpr evx134) dL_law_1150 ?_
    refine W.eq (g2 := F0 m 1151 ls [.int (xs (i.toNatClampNeg + 2)), .int (xs (i.toNatClampNeg + 1)), .ref b]) (congrArg (fun z => F0 m 1151 ls [.int (xs z), .int (xs (i.toNatClampNeg + 1)), .ref b]) ejx134) ?_
    refine lv_aload_n hx hb dL_law_1151 rfl (lv_at hl 3 rfl) ?_
    refine lv_iload_n hx hb dL_law_1152 rfl (lv_at hl 0 rfl) ?_
    refine lv_iconst (v := 3) hx hb dL_law_1153 (by decide) ?_
    refine lv_iadd hx hb dL_law_1154 ?_
    refine lv_topi (fun x135 ex135 => ?_)
    obtain ⟨tx135, ejx135, evx135⟩ := lw_ix (k := 3) ex135 hI hL rfl (by decide)
    clear tx135
    refine va_sld hx hb hX hbl (Nat.not_le.mpr hbl) hSH104 (vp_in_iff.mpr evx135) dL_law_1155 ?_
    refine W.eq (g2 := F0 m 1156 ls [.int (xs (i.toNatClampNeg + 3)), .int (xs (i.toNatClampNeg + 2)), .int (xs (i.toNatClampNeg + 1)), .ref b]) (congrArg (fun z => F0 m 1156 ls [.int (xs z), .int (xs (i.toNatClampNeg + 2)), .int (xs (i.toNatClampNeg + 1)), .ref b]) ejx135) ?_
    refine x_V (As := [.int (xs (i.toNatClampNeg + 1)), .int (xs (i.toNatClampNeg + 2)), .int (xs (i.toNatClampNeg + 3))]) (rest := []) C (a_X10_tube_r l K G H104 ((xs (i.toNatClampNeg + 1))) ((xs (i.toNatClampNeg + 2))) ((xs (i.toNatClampNeg + 3))) (y1) hTH104 gb m116 g106 g107 g108 g109) yo_X10_tube wM_L_120 ⟨⟨by decide, by decide⟩, show _ ≤ 60000 from Nat.le_trans hc (by decide), show _ ≤ 8922250 from Nat.le_trans hs (by decide)⟩ (x_rv C hTH104 (ci := 10) rfl gb rg_112) rfl hl.1 rfl (Nat.le_of_ble_eq_true rfl) dL_law_1156 hSH104 (AE_new hN hSH104.1) (fun vH136 H136 locsH136 pH136 zH136 kH136 hSH136 => ?_)
    obtain ⟨x137, hvH136, bx137, hrH136, g138, g139, g140, g141, mf142, hTH136⟩ := pH136
    subst hvH136
    have f143 : ∀ j : Nat, fI H136 tq j = fI H tq j := fun j => (fI_kept (x_lt hTH104 kH136 gtq (by decide))).trans (f110 j)
    have f144 : ∀ j : Nat, fI H136 uq j = fI H uq j := fun j => (fI_kept (x_lt hTH104 kH136 guq (by decide))).trans (f111 j)
    have m145 := (m112).trans (fR_kept (x_lt hTH104 kH136 ga (by decide))).symm
    have m146 := (m113).trans (fI_kept (x_lt hTH104 kH136 ga (by decide))).symm
    have m147 := (m115).trans (fI_kept (x_lt hTH104 kH136 gw (by decide))).symm
    have m148 := (m117).trans (fI_kept (x_lt hTH104 kH136 gw (by decide))).symm
    have m149 := (m119).trans (fI_kept (x_lt hTH104 kH136 gw (by decide))).symm
    have m150 := (m121).trans (fI_kept (x_lt hTH104 kH136 gw (by decide))).symm
    have m151 := (m123).trans (fI_kept (x_lt hTH104 kH136 gw (by decide))).symm
    have m152 := (m125).trans (fI_kept (x_lt hTH104 kH136 gw (by decide))).symm
    have m153 := (m127).trans (fR_kept (x_lt hTH104 kH136 ga (by decide))).symm
    have m154 := (fV_kept (x_lt hTH104 kH136 ga (by decide))).trans m130
    have m155 := (m114).trans (MF.i mf142 (k := 18) (by decide) (by decide)).symm
    have m156 := (m116).trans (MF.i mf142 (k := 1) (by decide) (by decide)).symm
    have m157 := (m118).trans (MF.i mf142 (k := 2) (by decide) (by decide)).symm
    have m158 := (m120).trans (MF.i mf142 (k := 3) (by decide) (by decide)).symm
    have m159 := (m122).trans (MF.i mf142 (k := 59) (by decide) (by decide)).symm
    have m160 := (m124).trans (MF.i mf142 (k := 62) (by decide) (by decide)).symm
    have m161 := (m126).trans (MF.i mf142 (k := 65) (by decide) (by decide)).symm
    have m162 := (m128).trans (MF.r mf142 (k := 17) (by decide) (by decide)).symm
    have m163 := (m129).trans (MF.i mf142 (k := 70) (by decide) (by decide)).symm
    have m164 := (m131).trans (MF.r mf142 (k := 73) (by decide) (by decide)).symm
    refine W.eq (g2 := F0 m 1159 ls [.int x137]) rfl ?_
    have re165 : RE K H136 w b s1.toInt := RE.ref re132 hTH104 gw gb (fun k hk => MF.r mf142 (by omega) (by intro z; simp only [List.mem_cons, List.not_mem_nil, or_false] at z; omega)) (fun q t hq ht => x_lt hTH104 kH136 hq (by first | exact nmr ht (by decide) | exact nmo ht (by decide) | exact nme ht (by decide) | exact nmq ht (by decide) | decide | (intro z; simp only [List.mem_cons, List.not_mem_nil, or_false] at z <;> omega) | omega))
    refine lv_pop hx hb dL_law_1159 rfl ?_
    refine lv_goto (tgt := 1509) hx hb dL_law_1160 (by decide) ?_
    exact nx G H136 locsH136 _ _ ls ⟨hTH136, hN, ga, gb, g138, g139, g140, g141, ⟨(by rw [← m146, ← m155]; exact rt), (by rw [← m145, ← m147, ← m156]; exact r1), (by rw [← m145, ← m148, ← m157]; exact r4), (by rw [← m145, ← m149, ← m158]; exact r5), (by rw [← m145, ← m150, ← m159]; exact r10), (by rw [← m145, ← m151, ← m160]; exact r13), (by rw [← m145, ← m152, ← m161]; exact r16)⟩, Or.inl ⟨m154, (by rw [← m163]; exact h70)⟩, (by unfold TB; rw [← m153, ← m162, ← m155]; exact TBR.of htr f143 f144 (by omega)), (by unfold RELE; rw [← m145, ← m156, ← m149]; exact ⟨RE.cast re165 (by omega), by omega, by omega⟩), hSH136⟩ hl ⟨hc, hs, fun _ => ⟨hc0, hs0⟩⟩
  · skip
    obtain ⟨hi, ehi⟩ : ∃ z : Int32, z = fI H b (K.1.2 10 70) := ⟨_, rfl⟩
    rw [← ehi] at h70
    obtain ⟨iq, eiq⟩ : ∃ z : Nat, z = fR H b (K.1.2 10 73) := ⟨_, rfl⟩
    have giq := ty_fr (q := iq) (k := 73) (u := 162) eiq hT gb rg_112 rfl
    rw [← eiq] at q1 q4 q5 q10 q13 q16
    obtain ⟨k1, ek1⟩ : ∃ z : Int32, z = fI H kq (K.1.2 8 1) := ⟨_, rfl⟩
    rw [← ek1] at q1
    obtain ⟨i1, ei1⟩ : ∃ z : Int32, z = fI H iq ((0 : Int32).toNatClampNeg) := ⟨_, rfl⟩
    rw [← ei1] at q1
    obtain ⟨k4, ek4⟩ : ∃ z : Int32, z = fI H kq (K.1.2 8 4) := ⟨_, rfl⟩
    rw [← ek4] at q4
    obtain ⟨i4, ei4⟩ : ∃ z : Int32, z = fI H iq ((1 : Int32).toNatClampNeg) := ⟨_, rfl⟩
    rw [← ei4] at q4
    obtain ⟨k5, ek5⟩ : ∃ z : Int32, z = fI H kq (K.1.2 8 5) := ⟨_, rfl⟩
    rw [← ek5] at q5
    obtain ⟨i5, ei5⟩ : ∃ z : Int32, z = fI H iq ((2 : Int32).toNatClampNeg) := ⟨_, rfl⟩
    rw [← ei5] at q5
    obtain ⟨k10, ek10⟩ : ∃ z : Int32, z = fI H kq (K.1.2 8 10) := ⟨_, rfl⟩
    rw [← ek10] at q10
    obtain ⟨i10, ei10⟩ : ∃ z : Int32, z = fI H iq ((3 : Int32).toNatClampNeg) := ⟨_, rfl⟩
    rw [← ei10] at q10
    obtain ⟨k13, ek13⟩ : ∃ z : Int32, z = fI H kq (K.1.2 8 13) := ⟨_, rfl⟩
    rw [← ek13] at q13
    obtain ⟨i13, ei13⟩ : ∃ z : Int32, z = fI H iq ((4 : Int32).toNatClampNeg) := ⟨_, rfl⟩
    rw [← ei13] at q13
    obtain ⟨k16, ek16⟩ : ∃ z : Int32, z = fI H kq (K.1.2 8 16) := ⟨_, rfl⟩
    rw [← ek16] at q16
    obtain ⟨i16, ei16⟩ : ∃ z : Int32, z = fI H iq ((5 : Int32).toNatClampNeg) := ⟨_, rfl⟩
    rw [← ei16] at q16
    rw [← eiq, ← ek1] at rke
    have hsk : 0 ≤ k5.toInt ∧ k5.toInt ≤ 9999 := by rw [ek5]; exact ⟨ks1, ks2⟩
    refine lv_aload_n hx hb dL_law_1120 rfl (lv_at hl 2 rfl) ?_
    refine lv_aload_n hx hb dL_law_1121 rfl (lv_at hl 3 rfl) ?_
    refine lv_iload_n hx hb dL_law_1122 rfl (lv_at hl 0 rfl) ?_
    refine lv_iconst (v := 1) hx hb dL_law_1123 (by decide) ?_
    refine lv_iadd hx hb dL_law_1124 ?_
    refine lv_topi (fun x166 ex166 => ?_)
    obtain ⟨tx166, ejx166, evx166⟩ := lw_ix (k := 1) ex166 hI hL rfl (by decide)
    clear tx166
    refine va_sld hx hb hX hbl (Nat.not_le.mpr hbl) hS (vp_in_iff.mpr evx166) dL_law_1125 ?_
    refine W.eq (g2 := F0 m 1126 ls [.int (xs (i.toNatClampNeg + 1)), .ref a]) (congrArg (fun z => F0 m 1126 ls [.int (xs z), .ref a]) ejx166) ?_
    refine lv_aload_n hx hb dL_law_1126 rfl (lv_at hl 3 rfl) ?_
    refine lv_iload_n hx hb dL_law_1127 rfl (lv_at hl 0 rfl) ?_
    refine lv_iconst (v := 2) hx hb dL_law_1128 (by decide) ?_
    refine lv_iadd hx hb dL_law_1129 ?_
    refine lv_topi (fun x167 ex167 => ?_)
    obtain ⟨tx167, ejx167, evx167⟩ := lw_ix (k := 2) ex167 hI hL rfl (by decide)
    clear tx167
    refine va_sld hx hb hX hbl (Nat.not_le.mpr hbl) hS (vp_in_iff.mpr evx167) dL_law_1130 ?_
    refine W.eq (g2 := F0 m 1131 ls [.int (xs (i.toNatClampNeg + 2)), .int (xs (i.toNatClampNeg + 1)), .ref a]) (congrArg (fun z => F0 m 1131 ls [.int (xs z), .int (xs (i.toNatClampNeg + 1)), .ref a]) ejx167) ?_
    refine lv_aload_n hx hb dL_law_1131 rfl (lv_at hl 3 rfl) ?_
    refine lv_iload_n hx hb dL_law_1132 rfl (lv_at hl 0 rfl) ?_
    refine lv_iconst (v := 3) hx hb dL_law_1133 (by decide) ?_
    refine lv_iadd hx hb dL_law_1134 ?_
    refine lv_topi (fun x168 ex168 => ?_)
    obtain ⟨tx168, ejx168, evx168⟩ := lw_ix (k := 3) ex168 hI hL rfl (by decide)
    clear tx168
    refine va_sld hx hb hX hbl (Nat.not_le.mpr hbl) hS (vp_in_iff.mpr evx168) dL_law_1135 ?_
    refine W.eq (g2 := F0 m 1136 ls [.int (xs (i.toNatClampNeg + 3)), .int (xs (i.toNatClampNeg + 2)), .int (xs (i.toNatClampNeg + 1)), .ref a]) (congrArg (fun z => F0 m 1136 ls [.int (xs z), .int (xs (i.toNatClampNeg + 2)), .int (xs (i.toNatClampNeg + 1)), .ref a]) ejx168) ?_
    refine x_V (As := [.int (xs (i.toNatClampNeg + 1)), .int (xs (i.toNatClampNeg + 2)), .int (xs (i.toNatClampNeg + 3))]) (rest := []) C (a_X9_tube_r l K G H ((xs (i.toNatClampNeg + 1))) ((xs (i.toNatClampNeg + 2))) ((xs (i.toNatClampNeg + 3))) (s1) (s4) (s5) (s10) (s13) (s16) hT ga gw ew es1 es4 es5 es10 es13 es16) yo_X9_tube wM_L_117 ⟨⟨by decide, by decide⟩, show _ ≤ 60000 from Nat.le_trans hc (by decide), show _ ≤ 8922250 from Nat.le_trans hs (by decide)⟩ (x_rv C hT (ci := 9) rfl ga rg_68) rfl hl.1 rfl (Nat.le_of_ble_eq_true rfl) dL_law_1136 hS (AE_new hN hS.1) (fun vH169 H169 locsH169 pH169 zH169 kH169 hSH169 => ?_)
    obtain ⟨x170, hvH169, bx170, hrH169, hTH169⟩ := pH169
    subst hvH169
    have g171 : CG (avw K H169 b) := CG.congr (fun k hk j => av_eff hT kH169 gb (by decide) (CG_eff [15] (by decide) k hk)) cg
    have g172 : TU (avw K H169 b) (svw K H169 b) := TU.congr (fun k hk j => av_eff hT kH169 gb (by decide) (TU_eff [15] (by decide) k hk)) (fun k hk => sv_eff hT kH169 gb (by decide)) tu
    have g173 : WD (avw K H169 b) := WD.congr (fun k hk j => av_eff hT kH169 gb (by decide) (WD_eff [15] (by decide) k hk)) wd
    have g174 : IM (avw K H169 b) := IM.congr (fun k hk j => av_eff hT kH169 gb (by decide) (IM_eff [15] (by decide) k hk)) im
    have f175 : ∀ j : Nat, fI H169 tq j = fI H tq j := fun j => (fI_kept (x_lt hT kH169 gtq (by decide))).trans (ft0 j)
    have f176 : ∀ j : Nat, fI H169 uq j = fI H uq j := fun j => (fI_kept (x_lt hT kH169 guq (by decide))).trans (fu0 j)
    have m177 := (ew).trans (fR_kept (x_lt hT kH169 ga (by decide))).symm
    have m178 := (eta).trans (fI_kept (x_lt hT kH169 ga (by decide))).symm
    have m179 := (etb).trans (fI_kept (x_lt hT kH169 gb (by decide))).symm
    have m180 := (es1).trans (fI_kept (x_lt hT kH169 gw (by decide))).symm
    have m181 := (ey1).trans (fI_kept (x_lt hT kH169 gb (by decide))).symm
    have m182 := (es4).trans (fI_kept (x_lt hT kH169 gw (by decide))).symm
    have m183 := (ey4).trans (fI_kept (x_lt hT kH169 gb (by decide))).symm
    have m184 := (es5).trans (fI_kept (x_lt hT kH169 gw (by decide))).symm
    have m185 := (ey5).trans (fI_kept (x_lt hT kH169 gb (by decide))).symm
    have m186 := (es10).trans (fI_kept (x_lt hT kH169 gw (by decide))).symm
    have m187 := (ey10).trans (fI_kept (x_lt hT kH169 gb (by decide))).symm
    have m188 := (es13).trans (fI_kept (x_lt hT kH169 gw (by decide))).symm
    have m189 := (ey13).trans (fI_kept (x_lt hT kH169 gb (by decide))).symm
    have m190 := (es16).trans (fI_kept (x_lt hT kH169 gw (by decide))).symm
    have m191 := (ey16).trans (fI_kept (x_lt hT kH169 gb (by decide))).symm
    have m192 := (etq).trans (fR_kept (x_lt hT kH169 ga (by decide))).symm
    have m193 := (euq).trans (fR_kept (x_lt hT kH169 gb (by decide))).symm
    have m194 := (ehi).trans (fI_kept (x_lt hT kH169 gb (by decide))).symm
    have m195 := (fV_kept (x_lt hT kH169 ga (by decide))).trans kn
    have m196 := (eiq).trans (fR_kept (x_lt hT kH169 gb (by decide))).symm
    have m197 := (ek1).trans (fI_kept (x_lt hT kH169 gkq (by decide))).symm
    have m198 := (ei1).trans (fI_kept (x_lt hT kH169 giq (by decide))).symm
    have m199 := (ek4).trans (fI_kept (x_lt hT kH169 gkq (by decide))).symm
    have m200 := (ei4).trans (fI_kept (x_lt hT kH169 giq (by decide))).symm
    have m201 := (ek5).trans (fI_kept (x_lt hT kH169 gkq (by decide))).symm
    have m202 := (ei5).trans (fI_kept (x_lt hT kH169 giq (by decide))).symm
    have m203 := (ek10).trans (fI_kept (x_lt hT kH169 gkq (by decide))).symm
    have m204 := (ei10).trans (fI_kept (x_lt hT kH169 giq (by decide))).symm
    have m205 := (ek13).trans (fI_kept (x_lt hT kH169 gkq (by decide))).symm
    have m206 := (ei13).trans (fI_kept (x_lt hT kH169 giq (by decide))).symm
    have m207 := (ek16).trans (fI_kept (x_lt hT kH169 gkq (by decide))).symm
    have m208 := (ei16).trans (fI_kept (x_lt hT kH169 giq (by decide))).symm
    refine W.eq (g2 := F0 m 1139 ls [.int x170]) rfl ?_
    have rk209 : RKI K H169 kq iq k1.toInt := RKI.kept rke hT gkq (x_lt hT kH169 giq (by first | exact nmr ht (by decide) | exact nmo ht (by decide) | exact nme ht (by decide) | exact nmq ht (by decide) | decide | (intro z; simp only [List.mem_cons, List.not_mem_nil, or_false] at z <;> omega) | omega)) (fun q t hq ht => x_lt hT kH169 hq (by first | exact nmr ht (by decide) | exact nmo ht (by decide) | exact nme ht (by decide) | exact nmq ht (by decide) | decide | (intro z; simp only [List.mem_cons, List.not_mem_nil, or_false] at z <;> omega) | omega))
    have re210 : RE K H169 w b s1.toInt := RE.cls re hT gw gb (fun q t hq ht => x_lt hT kH169 hq (by first | exact nmr ht (by decide) | exact nmo ht (by decide) | exact nme ht (by decide) | exact nmq ht (by decide) | decide | (intro z; simp only [List.mem_cons, List.not_mem_nil, or_false] at z <;> omega) | omega))
    refine lv_pop hx hb dL_law_1139 rfl ?_
    refine lv_aload_n hx hb dL_law_1140 rfl (lv_at hl 1 rfl) ?_
    refine lv_aload_n hx hb dL_law_1141 rfl (lv_at hl 3 rfl) ?_
    refine lv_iload_n hx hb dL_law_1142 rfl (lv_at hl 0 rfl) ?_
    refine lv_iconst (v := 1) hx hb dL_law_1143 (by decide) ?_
    refine lv_iadd hx hb dL_law_1144 ?_
    refine lv_topi (fun x211 ex211 => ?_)
    obtain ⟨tx211, ejx211, evx211⟩ := lw_ix (k := 1) ex211 hI hL rfl (by decide)
    clear tx211
    refine va_sld hx hb hX hbl (Nat.not_le.mpr hbl) hSH169 (vp_in_iff.mpr evx211) dL_law_1145 ?_
    refine W.eq (g2 := F0 m 1146 ls [.int (xs (i.toNatClampNeg + 1)), .ref b]) (congrArg (fun z => F0 m 1146 ls [.int (xs z), .ref b]) ejx211) ?_
    refine lv_aload_n hx hb dL_law_1146 rfl (lv_at hl 3 rfl) ?_
    refine lv_iload_n hx hb dL_law_1147 rfl (lv_at hl 0 rfl) ?_
    refine lv_iconst (v := 2) hx hb dL_law_1148 (by decide) ?_
    refine lv_iadd hx hb dL_law_1149 ?_
    refine lv_topi (fun x212 ex212 => ?_)
    obtain ⟨tx212, ejx212, evx212⟩ := lw_ix (k := 2) ex212 hI hL rfl (by decide)
    clear tx212
    refine va_sld hx hb hX hbl (Nat.not_le.mpr hbl) hSH169 (vp_in_iff.mpr evx212) dL_law_1150 ?_
    refine W.eq (g2 := F0 m 1151 ls [.int (xs (i.toNatClampNeg + 2)), .int (xs (i.toNatClampNeg + 1)), .ref b]) (congrArg (fun z => F0 m 1151 ls [.int (xs z), .int (xs (i.toNatClampNeg + 1)), .ref b]) ejx212) ?_
    refine lv_aload_n hx hb dL_law_1151 rfl (lv_at hl 3 rfl) ?_
    refine lv_iload_n hx hb dL_law_1152 rfl (lv_at hl 0 rfl) ?_
    refine lv_iconst (v := 3) hx hb dL_law_1153 (by decide) ?_
    refine lv_iadd hx hb dL_law_1154 ?_
    refine lv_topi (fun x213 ex213 => ?_)
    obtain ⟨tx213, ejx213, evx213⟩ := lw_ix (k := 3) ex213 hI hL rfl (by decide)
    clear tx213
    refine va_sld hx hb hX hbl (Nat.not_le.mpr hbl) hSH169 (vp_in_iff.mpr evx213) dL_law_1155 ?_
    refine W.eq (g2 := F0 m 1156 ls [.int (xs (i.toNatClampNeg + 3)), .int (xs (i.toNatClampNeg + 2)), .int (xs (i.toNatClampNeg + 1)), .ref b]) (congrArg (fun z => F0 m 1156 ls [.int (xs z), .int (xs (i.toNatClampNeg + 2)), .int (xs (i.toNatClampNeg + 1)), .ref b]) ejx213) ?_
    refine x_V (As := [.int (xs (i.toNatClampNeg + 1)), .int (xs (i.toNatClampNeg + 2)), .int (xs (i.toNatClampNeg + 3))]) (rest := []) C (a_X10_tube_r l K G H169 ((xs (i.toNatClampNeg + 1))) ((xs (i.toNatClampNeg + 2))) ((xs (i.toNatClampNeg + 3))) (y1) hTH169 gb m181 g171 g172 g173 g174) yo_X10_tube wM_L_120 ⟨⟨by decide, by decide⟩, show _ ≤ 60000 from Nat.le_trans hc (by decide), show _ ≤ 8922250 from Nat.le_trans hs (by decide)⟩ (x_rv C hTH169 (ci := 10) rfl gb rg_112) rfl hl.1 rfl (Nat.le_of_ble_eq_true rfl) dL_law_1156 hSH169 (AE_new hN hSH169.1) (fun vH214 H214 locsH214 pH214 zH214 kH214 hSH214 => ?_)
    obtain ⟨x215, hvH214, bx215, hrH214, g216, g217, g218, g219, mf220, hTH214⟩ := pH214
    subst hvH214
    have f221 : ∀ j : Nat, fI H214 tq j = fI H tq j := fun j => (fI_kept (x_lt hTH169 kH214 gtq (by decide))).trans (f175 j)
    have f222 : ∀ j : Nat, fI H214 uq j = fI H uq j := fun j => (fI_kept (x_lt hTH169 kH214 guq (by decide))).trans (f176 j)
    have m223 := (m177).trans (fR_kept (x_lt hTH169 kH214 ga (by decide))).symm
    have m224 := (m178).trans (fI_kept (x_lt hTH169 kH214 ga (by decide))).symm
    have m225 := (m180).trans (fI_kept (x_lt hTH169 kH214 gw (by decide))).symm
    have m226 := (m182).trans (fI_kept (x_lt hTH169 kH214 gw (by decide))).symm
    have m227 := (m184).trans (fI_kept (x_lt hTH169 kH214 gw (by decide))).symm
    have m228 := (m186).trans (fI_kept (x_lt hTH169 kH214 gw (by decide))).symm
    have m229 := (m188).trans (fI_kept (x_lt hTH169 kH214 gw (by decide))).symm
    have m230 := (m190).trans (fI_kept (x_lt hTH169 kH214 gw (by decide))).symm
    have m231 := (m192).trans (fR_kept (x_lt hTH169 kH214 ga (by decide))).symm
    have m232 := (fV_kept (x_lt hTH169 kH214 ga (by decide))).trans m195
    have m233 := (m197).trans (fI_kept (x_lt hTH169 kH214 gkq (by decide))).symm
    have m234 := (m198).trans (fI_kept (x_lt hTH169 kH214 giq (by decide))).symm
    have m235 := (m199).trans (fI_kept (x_lt hTH169 kH214 gkq (by decide))).symm
    have m236 := (m200).trans (fI_kept (x_lt hTH169 kH214 giq (by decide))).symm
    have m237 := (m201).trans (fI_kept (x_lt hTH169 kH214 gkq (by decide))).symm
    have m238 := (m202).trans (fI_kept (x_lt hTH169 kH214 giq (by decide))).symm
    have m239 := (m203).trans (fI_kept (x_lt hTH169 kH214 gkq (by decide))).symm
    have m240 := (m204).trans (fI_kept (x_lt hTH169 kH214 giq (by decide))).symm
    have m241 := (m205).trans (fI_kept (x_lt hTH169 kH214 gkq (by decide))).symm
    have m242 := (m206).trans (fI_kept (x_lt hTH169 kH214 giq (by decide))).symm
    have m243 := (m207).trans (fI_kept (x_lt hTH169 kH214 gkq (by decide))).symm
    have m244 := (m208).trans (fI_kept (x_lt hTH169 kH214 giq (by decide))).symm
    have m245 := (m179).trans (MF.i mf220 (k := 18) (by decide) (by decide)).symm
    have m246 := (m181).trans (MF.i mf220 (k := 1) (by decide) (by decide)).symm
    have m247 := (m183).trans (MF.i mf220 (k := 2) (by decide) (by decide)).symm
    have m248 := (m185).trans (MF.i mf220 (k := 3) (by decide) (by decide)).symm
    have m249 := (m187).trans (MF.i mf220 (k := 59) (by decide) (by decide)).symm
    have m250 := (m189).trans (MF.i mf220 (k := 62) (by decide) (by decide)).symm
    have m251 := (m191).trans (MF.i mf220 (k := 65) (by decide) (by decide)).symm
    have m252 := (m193).trans (MF.r mf220 (k := 17) (by decide) (by decide)).symm
    have m253 := (m194).trans (MF.i mf220 (k := 70) (by decide) (by decide)).symm
    have m254 := (m196).trans (MF.r mf220 (k := 73) (by decide) (by decide)).symm
    refine W.eq (g2 := F0 m 1159 ls [.int x215]) rfl ?_
    have rk255 : RKI K H214 kq iq k1.toInt := RKI.kept rk209 hTH169 gkq (x_lt hTH169 kH214 giq (by first | exact nmr ht (by decide) | exact nmo ht (by decide) | exact nme ht (by decide) | exact nmq ht (by decide) | decide | (intro z; simp only [List.mem_cons, List.not_mem_nil, or_false] at z <;> omega) | omega)) (fun q t hq ht => x_lt hTH169 kH214 hq (by first | exact nmr ht (by decide) | exact nmo ht (by decide) | exact nme ht (by decide) | exact nmq ht (by decide) | decide | (intro z; simp only [List.mem_cons, List.not_mem_nil, or_false] at z <;> omega) | omega))
    have re256 : RE K H214 w b s1.toInt := RE.ref re210 hTH169 gw gb (fun k hk => MF.r mf220 (by omega) (by intro z; simp only [List.mem_cons, List.not_mem_nil, or_false] at z; omega)) (fun q t hq ht => x_lt hTH169 kH214 hq (by first | exact nmr ht (by decide) | exact nmo ht (by decide) | exact nme ht (by decide) | exact nmq ht (by decide) | decide | (intro z; simp only [List.mem_cons, List.not_mem_nil, or_false] at z <;> omega) | omega))
    refine lv_pop hx hb dL_law_1159 rfl ?_
    refine lv_goto (tgt := 1509) hx hb dL_law_1160 (by decide) ?_
    exact nx G H214 locsH214 _ _ ls ⟨hTH214, hN, ga, gb, g216, g217, g218, g219, ⟨(by rw [← m224, ← m245]; exact rt), (by rw [← m223, ← m225, ← m246]; exact r1), (by rw [← m223, ← m226, ← m247]; exact r4), (by rw [← m223, ← m227, ← m248]; exact r5), (by rw [← m223, ← m228, ← m249]; exact r10), (by rw [← m223, ← m229, ← m250]; exact r13), (by rw [← m223, ← m230, ← m251]; exact r16)⟩, Or.inr ⟨kq, m232, gkq, (by rw [← m253]; exact h70), (by rw [← m233, ← m254, ← m234]; exact q1), (by rw [← m235, ← m254, ← m236]; exact q4), (by rw [← m237, ← m254, ← m238]; exact q5), (by rw [← m239, ← m254, ← m240]; exact q10), (by rw [← m241, ← m254, ← m242]; exact q13), (by rw [← m243, ← m254, ← m244]; exact q16), (by rw [← m254, ← m233]; exact RKI.cast rk255 (by omega)), (by rw [← m237]; omega), (by rw [← m237]; omega)⟩, (by unfold TB; rw [← m231, ← m252, ← m245]; exact TBR.of htr f221 f222 (by omega)), (by unfold RELE; rw [← m223, ← m246, ← m227]; exact ⟨RE.cast re256 (by omega), by omega, by omega⟩), hSH214⟩ hl ⟨hc, hs, fun h => by have h1 := h.symm.trans m232; cases h1⟩
set_option maxRecDepth 100000 in
set_option maxHeartbeats 8000000 in
theorem lw_c25 {p : Program} {l : Launch} {e : Env} {s : State} {m : MethodId} {below : List Frame} {meth : Method} {c : Code} {K : KE} {b0 L : Nat} {xs : Nat → Int32} {G : Nat → Option Nat} {H : Heap} {locs : List Loc} {a b : Nat} {cells slots : Nat} {ls : Array Slot} {i : Int32} {n : Nat} (D : LC p K s m meth c b0 L xs) (S : SX K s G H locs a b) (hl : lv_has ls 4 [(3, .int i), (2, .ref b), (1, .ref a), (0, .ref b0)]) (hi : 0 ≤ i.toInt ∧ i.toInt + 6 ≤ L) (hn : n ≤ 511) (hB : BD K H a cells slots) (nx : ∀ (G : Nat → Option Nat) (H : Heap) (locs : List Loc) (cells slots : Nat) (ls : Array Slot), SX K s G H locs a b → lv_has ls 4 [(3, .int i), (2, .ref b), (1, .ref a), (0, .ref b0)] → BD K H a cells slots → W p l e room_1 s m #[Value.ref b0] below meth c H locs cells slots (lw_Z below #[Value.ref b0] s) (F0 m 1509 ls [])) : W p l e room_1 s m #[Value.ref b0] below meth c H locs cells slots (lw_Z below #[Value.ref b0] s) (F0 m 1163 ls []) := by
  have hI := hi
  obtain ⟨C, hX, hbl, hL⟩ := id D
  obtain ⟨hx, hb, hml, hown, hts, hKT, hr, hlocks, hnm⟩ := id C
  obtain ⟨hT, hN, ga, gb, cg, tu, wd, im, ⟨rt, r1, r4, r5, r10, r13, r16⟩, hk, htb, her, hS⟩ := S
  obtain ⟨hc, hs, hB0⟩ := hB
  have n_1 : (1 : Int32).toInt = 1 := rfl
  have n_2 : (2 : Int32).toInt = 2 := rfl
  have n_3 : (3 : Int32).toInt = 3 := rfl
  have n_4 : (4 : Int32).toInt = 4 := rfl
  obtain ⟨w, ew⟩ : ∃ z : Nat, z = fR H a (K.1.2 9 0) := ⟨_, rfl⟩
  have gw := ty_fr (q := w) (k := 0) (u := 0) ew hT ga rg_68 rfl
  rw [← ew] at r1 r4 r5 r10 r13 r16
  obtain ⟨ta, eta⟩ : ∃ z : Int32, z = fI H a (K.1.2 9 3) := ⟨_, rfl⟩
  rw [← eta] at rt
  obtain ⟨tb, etb⟩ : ∃ z : Int32, z = fI H b (K.1.2 10 18) := ⟨_, rfl⟩
  rw [← etb] at rt
  obtain ⟨s1, es1⟩ : ∃ z : Int32, z = fI H w (K.1.2 8 1) := ⟨_, rfl⟩
  rw [← es1] at r1
  obtain ⟨y1, ey1⟩ : ∃ z : Int32, z = fI H b (K.1.2 10 1) := ⟨_, rfl⟩
  rw [← ey1] at r1
  obtain ⟨s4, es4⟩ : ∃ z : Int32, z = fI H w (K.1.2 8 4) := ⟨_, rfl⟩
  rw [← es4] at r4
  obtain ⟨y4, ey4⟩ : ∃ z : Int32, z = fI H b (K.1.2 10 2) := ⟨_, rfl⟩
  rw [← ey4] at r4
  obtain ⟨s5, es5⟩ : ∃ z : Int32, z = fI H w (K.1.2 8 5) := ⟨_, rfl⟩
  rw [← es5] at r5
  obtain ⟨y5, ey5⟩ : ∃ z : Int32, z = fI H b (K.1.2 10 3) := ⟨_, rfl⟩
  rw [← ey5] at r5
  obtain ⟨s10, es10⟩ : ∃ z : Int32, z = fI H w (K.1.2 8 10) := ⟨_, rfl⟩
  rw [← es10] at r10
  obtain ⟨y10, ey10⟩ : ∃ z : Int32, z = fI H b (K.1.2 10 59) := ⟨_, rfl⟩
  rw [← ey10] at r10
  obtain ⟨s13, es13⟩ : ∃ z : Int32, z = fI H w (K.1.2 8 13) := ⟨_, rfl⟩
  rw [← es13] at r13
  obtain ⟨y13, ey13⟩ : ∃ z : Int32, z = fI H b (K.1.2 10 62) := ⟨_, rfl⟩
  rw [← ey13] at r13
  obtain ⟨s16, es16⟩ : ∃ z : Int32, z = fI H w (K.1.2 8 16) := ⟨_, rfl⟩
  rw [← es16] at r16
  obtain ⟨y16, ey16⟩ : ∃ z : Int32, z = fI H b (K.1.2 10 65) := ⟨_, rfl⟩
  rw [← ey16] at r16
  obtain ⟨tq, etq⟩ : ∃ z : Nat, z = fR H a (K.1.2 9 2) := ⟨_, rfl⟩
  have gtq := ty_fr (q := tq) (k := 2) (u := 108) etq hT ga rg_68 rfl
  obtain ⟨uq, euq⟩ : ∃ z : Nat, z = fR H b (K.1.2 10 17) := ⟨_, rfl⟩
  have guq := ty_fr (q := uq) (k := 17) (u := 126) euq hT gb rg_112 rfl
  have htr : TBR (fun j => fI H tq j) (fun j => fI H uq j) tb.toNatClampNeg := by rw [etq, euq, etb]; exact htb
  have ft0 : ∀ j : Nat, fI H tq j = fI H tq j := fun _ => rfl
  have fu0 : ∀ j : Nat, fI H uq j = fI H uq j := fun _ => rfl
  have bta := ty_fi (x := ta) (k := 3) eta hT ga rg_68 rfl
  have cta := i_cl (x := ta) (by omega)
  have btb := ty_fi (x := tb) (k := 18) etb hT gb rg_112 rfl
  have ctb := i_cl (x := tb) (by omega)
  obtain ⟨her0, hsl1, hsl2⟩ := her
  have hsl0 := And.intro hsl1 hsl2
  clear hsl1 hsl2
  rw [← ew] at her0 hsl0
  have re : RE K H w b s1.toInt := RE.cast her0 (by rw [← ey1]; exact r1)
  have hsl : 0 ≤ s5.toInt ∧ s5.toInt ≤ 9999 := by rw [es5]; exact hsl0
  clear her0 hsl0
  have bt_s1 := ty_fi (x := s1) (k := 1) es1 hT gw rg_0 rfl
  have bt_s4 := ty_fi (x := s4) (k := 4) es4 hT gw rg_0 rfl
  have bt_y1 := ty_fi (x := y1) (k := 1) ey1 hT gb rg_112 rfl
  have bt_y4 := ty_fi (x := y4) (k := 2) ey4 hT gb rg_112 rfl
  rcases hk with ⟨kn, h70⟩ | ⟨kq, kn, gkq, h70, q1, q4, q5, q10, q13, q16, rke, ks1, ks2⟩
  · skip
    obtain ⟨hi, ehi⟩ : ∃ z : Int32, z = fI H b (K.1.2 10 70) := ⟨_, rfl⟩
    rw [← ehi] at h70
    obtain ⟨hc0, hs0⟩ := hB0 kn
    obtain ⟨iq, eiq⟩ : ∃ z : Nat, z = fR H b (K.1.2 10 73) := ⟨_, rfl⟩
    have giq := ty_fr (q := iq) (k := 73) (u := 162) eiq hT gb rg_112 rfl
    refine lv_aload_n hx hb dL_law_1163 rfl (lv_at hl 2 rfl) ?_
    refine lv_aload_n hx hb dL_law_1164 rfl (lv_at hl 3 rfl) ?_
    refine lv_iload_n hx hb dL_law_1165 rfl (lv_at hl 0 rfl) ?_
    refine lv_iconst (v := 1) hx hb dL_law_1166 (by decide) ?_
    refine lv_iadd hx hb dL_law_1167 ?_
    refine lv_topi (fun x101 ex101 => ?_)
    obtain ⟨tx101, ejx101, evx101⟩ := lw_ix (k := 1) ex101 hI hL rfl (by decide)
    clear tx101
    refine va_sld hx hb hX hbl (Nat.not_le.mpr hbl) hS (vp_in_iff.mpr evx101) dL_law_1168 ?_
    refine W.eq (g2 := F0 m 1169 ls [.int (xs (i.toNatClampNeg + 1)), .ref a]) (congrArg (fun z => F0 m 1169 ls [.int (xs z), .ref a]) ejx101) ?_
    refine lv_aload_n hx hb dL_law_1169 rfl (lv_at hl 3 rfl) ?_
    refine lv_iload_n hx hb dL_law_1170 rfl (lv_at hl 0 rfl) ?_
    refine lv_iconst (v := 2) hx hb dL_law_1171 (by decide) ?_
    refine lv_iadd hx hb dL_law_1172 ?_
    refine lv_topi (fun x102 ex102 => ?_)
    obtain ⟨tx102, ejx102, evx102⟩ := lw_ix (k := 2) ex102 hI hL rfl (by decide)
    clear tx102
    refine va_sld hx hb hX hbl (Nat.not_le.mpr hbl) hS (vp_in_iff.mpr evx102) dL_law_1173 ?_
    refine W.eq (g2 := F0 m 1174 ls [.int (xs (i.toNatClampNeg + 2)), .int (xs (i.toNatClampNeg + 1)), .ref a]) (congrArg (fun z => F0 m 1174 ls [.int (xs z), .int (xs (i.toNatClampNeg + 1)), .ref a]) ejx102) ?_
    refine lv_aload_n hx hb dL_law_1174 rfl (lv_at hl 3 rfl) ?_
    refine lv_iload_n hx hb dL_law_1175 rfl (lv_at hl 0 rfl) ?_
    refine lv_iconst (v := 3) hx hb dL_law_1176 (by decide) ?_
    refine lv_iadd hx hb dL_law_1177 ?_
    refine lv_topi (fun x103 ex103 => ?_)
    obtain ⟨tx103, ejx103, evx103⟩ := lw_ix (k := 3) ex103 hI hL rfl (by decide)
    clear tx103
    refine va_sld hx hb hX hbl (Nat.not_le.mpr hbl) hS (vp_in_iff.mpr evx103) dL_law_1178 ?_
    refine W.eq (g2 := F0 m 1179 ls [.int (xs (i.toNatClampNeg + 3)), .int (xs (i.toNatClampNeg + 2)), .int (xs (i.toNatClampNeg + 1)), .ref a]) (congrArg (fun z => F0 m 1179 ls [.int (xs z), .int (xs (i.toNatClampNeg + 2)), .int (xs (i.toNatClampNeg + 1)), .ref a]) ejx103) ?_
    refine lv_aload_n hx hb dL_law_1179 rfl (lv_at hl 3 rfl) ?_
    refine lv_iload_n hx hb dL_law_1180 rfl (lv_at hl 0 rfl) ?_
    refine lv_iconst (v := 4) hx hb dL_law_1181 (by decide) ?_
    refine lv_iadd hx hb dL_law_1182 ?_
    refine lv_topi (fun x104 ex104 => ?_)
    obtain ⟨tx104, ejx104, evx104⟩ := lw_ix (k := 4) ex104 hI hL rfl (by decide)
    clear tx104
    refine va_sld hx hb hX hbl (Nat.not_le.mpr hbl) hS (vp_in_iff.mpr evx104) dL_law_1183 ?_
    refine W.eq (g2 := F0 m 1184 ls [.int (xs (i.toNatClampNeg + 4)), .int (xs (i.toNatClampNeg + 3)), .int (xs (i.toNatClampNeg + 2)), .int (xs (i.toNatClampNeg + 1)), .ref a]) (congrArg (fun z => F0 m 1184 ls [.int (xs z), .int (xs (i.toNatClampNeg + 3)), .int (xs (i.toNatClampNeg + 2)), .int (xs (i.toNatClampNeg + 1)), .ref a]) ejx104) ?_
    refine x_V (As := [.int (xs (i.toNatClampNeg + 1)), .int (xs (i.toNatClampNeg + 2)), .int (xs (i.toNatClampNeg + 3)), .int (xs (i.toNatClampNeg + 4))]) (rest := []) C (a_X9_in l K G H ((xs (i.toNatClampNeg + 1))) ((xs (i.toNatClampNeg + 2))) ((xs (i.toNatClampNeg + 3))) ((xs (i.toNatClampNeg + 4))) hT ga) yo_X9_in wM_L_121 ⟨⟨by decide, by decide⟩, show _ ≤ 60000 from Nat.le_trans hc (by decide), show _ ≤ 8922250 from Nat.le_trans hs (by decide)⟩ (x_rv C hT (ci := 9) rfl ga rg_68) rfl hl.1 rfl (Nat.le_of_ble_eq_true rfl) dL_law_1184 hS (AE_new hN hS.1) (fun vH105 H105 locsH105 pH105 zH105 kH105 hSH105 => ?_)
    obtain ⟨x106, hvH105, hTH105⟩ := pH105
    subst hvH105
    have g107 : CG (avw K H105 b) := CG.congr (fun k hk j => av_eff hT kH105 gb (by decide) (CG_eff [83, 84] (by decide) k hk)) cg
    have g108 : TU (avw K H105 b) (svw K H105 b) := TU.congr (fun k hk j => av_eff hT kH105 gb (by decide) (TU_eff [83, 84] (by decide) k hk)) (fun k hk => sv_eff hT kH105 gb (by decide)) tu
    have g109 : WD (avw K H105 b) := WD.congr (fun k hk j => av_eff hT kH105 gb (by decide) (WD_eff [83, 84] (by decide) k hk)) wd
    have g110 : IM (avw K H105 b) := IM.congr (fun k hk j => av_eff hT kH105 gb (by decide) (IM_eff [83, 84] (by decide) k hk)) im
    have f111 : ∀ j : Nat, fI H105 tq j = fI H tq j := fun j => (fI_kept (x_lt hT kH105 gtq (by decide))).trans (ft0 j)
    have f112 : ∀ j : Nat, fI H105 uq j = fI H uq j := fun j => (fI_kept (x_lt hT kH105 guq (by decide))).trans (fu0 j)
    have m113 := (ew).trans (fR_kept (x_lt hT kH105 ga (by decide))).symm
    have m114 := (eta).trans (fI_kept (x_lt hT kH105 ga (by decide))).symm
    have m115 := (etb).trans (fI_kept (x_lt hT kH105 gb (by decide))).symm
    have m116 := (es1).trans (fI_kept (x_lt hT kH105 gw (by decide))).symm
    have m117 := (ey1).trans (fI_kept (x_lt hT kH105 gb (by decide))).symm
    have m118 := (es4).trans (fI_kept (x_lt hT kH105 gw (by decide))).symm
    have m119 := (ey4).trans (fI_kept (x_lt hT kH105 gb (by decide))).symm
    have m120 := (es5).trans (fI_kept (x_lt hT kH105 gw (by decide))).symm
    have m121 := (ey5).trans (fI_kept (x_lt hT kH105 gb (by decide))).symm
    have m122 := (es10).trans (fI_kept (x_lt hT kH105 gw (by decide))).symm
    have m123 := (ey10).trans (fI_kept (x_lt hT kH105 gb (by decide))).symm
    have m124 := (es13).trans (fI_kept (x_lt hT kH105 gw (by decide))).symm
    have m125 := (ey13).trans (fI_kept (x_lt hT kH105 gb (by decide))).symm
    have m126 := (es16).trans (fI_kept (x_lt hT kH105 gw (by decide))).symm
    have m127 := (ey16).trans (fI_kept (x_lt hT kH105 gb (by decide))).symm
    have m128 := (etq).trans (fR_kept (x_lt hT kH105 ga (by decide))).symm
    have m129 := (euq).trans (fR_kept (x_lt hT kH105 gb (by decide))).symm
    have m130 := (ehi).trans (fI_kept (x_lt hT kH105 gb (by decide))).symm
    have m131 := (fV_kept (x_lt hT kH105 ga (by decide))).trans kn
    have m132 := (eiq).trans (fR_kept (x_lt hT kH105 gb (by decide))).symm
    refine W.eq (g2 := F0 m 1187 ls [.int x106]) rfl ?_
    have re133 : RE K H105 w b s1.toInt := RE.cls re hT gw gb (fun q t hq ht => x_lt hT kH105 hq (by first | exact nmr ht (by decide) | exact nmo ht (by decide) | exact nme ht (by decide) | exact nmq ht (by decide) | decide | (intro z; simp only [List.mem_cons, List.not_mem_nil, or_false] at z <;> omega) | omega))
    refine lv_pop hx hb dL_law_1187 rfl ?_
    refine lv_aload_n hx hb dL_law_1188 rfl (lv_at hl 1 rfl) ?_
    refine lv_aload_n hx hb dL_law_1189 rfl (lv_at hl 3 rfl) ?_
    refine lv_iload_n hx hb dL_law_1190 rfl (lv_at hl 0 rfl) ?_
    refine lv_iconst (v := 1) hx hb dL_law_1191 (by decide) ?_
    refine lv_iadd hx hb dL_law_1192 ?_
    refine lv_topi (fun x134 ex134 => ?_)
    obtain ⟨tx134, ejx134, evx134⟩ := lw_ix (k := 1) ex134 hI hL rfl (by decide)
    clear tx134
    refine va_sld hx hb hX hbl (Nat.not_le.mpr hbl) hSH105 (vp_in_iff.mpr evx134) dL_law_1193 ?_
    refine W.eq (g2 := F0 m 1194 ls [.int (xs (i.toNatClampNeg + 1)), .ref b]) (congrArg (fun z => F0 m 1194 ls [.int (xs z), .ref b]) ejx134) ?_
    refine lv_aload_n hx hb dL_law_1194 rfl (lv_at hl 3 rfl) ?_
    refine lv_iload_n hx hb dL_law_1195 rfl (lv_at hl 0 rfl) ?_
    refine lv_iconst (v := 2) hx hb dL_law_1196 (by decide) ?_
    refine lv_iadd hx hb dL_law_1197 ?_
    refine lv_topi (fun x135 ex135 => ?_)
    obtain ⟨tx135, ejx135, evx135⟩ := lw_ix (k := 2) ex135 hI hL rfl (by decide)
    clear tx135
    refine va_sld hx hb hX hbl (Nat.not_le.mpr hbl) hSH105 (vp_in_iff.mpr evx135) dL_law_1198 ?_
    refine W.eq (g2 := F0 m 1199 ls [.int (xs (i.toNatClampNeg + 2)), .int (xs (i.toNatClampNeg + 1)), .ref b]) (congrArg (fun z => F0 m 1199 ls [.int (xs z), .int (xs (i.toNatClampNeg + 1)), .ref b]) ejx135) ?_
    refine lv_aload_n hx hb dL_law_1199 rfl (lv_at hl 3 rfl) ?_
    refine lv_iload_n hx hb dL_law_1200 rfl (lv_at hl 0 rfl) ?_
    refine lv_iconst (v := 3) hx hb dL_law_1201 (by decide) ?_
    refine lv_iadd hx hb dL_law_1202 ?_
    refine lv_topi (fun x136 ex136 => ?_)
    obtain ⟨tx136, ejx136, evx136⟩ := lw_ix (k := 3) ex136 hI hL rfl (by decide)
    clear tx136
    refine va_sld hx hb hX hbl (Nat.not_le.mpr hbl) hSH105 (vp_in_iff.mpr evx136) dL_law_1203 ?_
    refine W.eq (g2 := F0 m 1204 ls [.int (xs (i.toNatClampNeg + 3)), .int (xs (i.toNatClampNeg + 2)), .int (xs (i.toNatClampNeg + 1)), .ref b]) (congrArg (fun z => F0 m 1204 ls [.int (xs z), .int (xs (i.toNatClampNeg + 2)), .int (xs (i.toNatClampNeg + 1)), .ref b]) ejx136) ?_
    refine lv_aload_n hx hb dL_law_1204 rfl (lv_at hl 3 rfl) ?_
    refine lv_iload_n hx hb dL_law_1205 rfl (lv_at hl 0 rfl) ?_
    refine lv_iconst (v := 4) hx hb dL_law_1206 (by decide) ?_
    refine lv_iadd hx hb dL_law_1207 ?_
    refine lv_topi (fun x137 ex137 => ?_)
    obtain ⟨tx137, ejx137, evx137⟩ := lw_ix (k := 4) ex137 hI hL rfl (by decide)
    clear tx137
    refine va_sld hx hb hX hbl (Nat.not_le.mpr hbl) hSH105 (vp_in_iff.mpr evx137) dL_law_1208 ?_
    refine W.eq (g2 := F0 m 1209 ls [.int (xs (i.toNatClampNeg + 4)), .int (xs (i.toNatClampNeg + 3)), .int (xs (i.toNatClampNeg + 2)), .int (xs (i.toNatClampNeg + 1)), .ref b]) (congrArg (fun z => F0 m 1209 ls [.int (xs z), .int (xs (i.toNatClampNeg + 3)), .int (xs (i.toNatClampNeg + 2)), .int (xs (i.toNatClampNeg + 1)), .ref b]) ejx137) ?_
    refine x_V (As := [.int (xs (i.toNatClampNeg + 1)), .int (xs (i.toNatClampNeg + 2)), .int (xs (i.toNatClampNeg + 3)), .int (xs (i.toNatClampNeg + 4))]) (rest := []) C (a_X10_in l K G H105 ((xs (i.toNatClampNeg + 1))) ((xs (i.toNatClampNeg + 2))) ((xs (i.toNatClampNeg + 3))) ((xs (i.toNatClampNeg + 4))) (y1) hTH105 gb m117 g107 g108 g109 g110) yo_X10_in wM_L_124 ⟨⟨by decide, by decide⟩, show _ ≤ 60000 from Nat.le_trans hc (by decide), show _ ≤ 8922250 from Nat.le_trans hs (by decide)⟩ (x_rv C hTH105 (ci := 10) rfl gb rg_112) rfl hl.1 rfl (Nat.le_of_ble_eq_true rfl) dL_law_1209 hSH105 (AE_new hN hSH105.1) (fun vH138 H138 locsH138 pH138 zH138 kH138 hSH138 => ?_)
    obtain ⟨x139, hvH138, g140, g141, g142, g143, mf144, hTH138⟩ := pH138
    subst hvH138
    have f145 : ∀ j : Nat, fI H138 tq j = fI H tq j := fun j => (fI_kept (x_lt hTH105 kH138 gtq (by decide))).trans (f111 j)
    have f146 : ∀ j : Nat, fI H138 uq j = fI H uq j := fun j => (fI_kept (x_lt hTH105 kH138 guq (by decide))).trans (f112 j)
    have m147 := (m113).trans (fR_kept (x_lt hTH105 kH138 ga (by decide))).symm
    have m148 := (m114).trans (fI_kept (x_lt hTH105 kH138 ga (by decide))).symm
    have m149 := (m116).trans (fI_kept (x_lt hTH105 kH138 gw (by decide))).symm
    have m150 := (m118).trans (fI_kept (x_lt hTH105 kH138 gw (by decide))).symm
    have m151 := (m120).trans (fI_kept (x_lt hTH105 kH138 gw (by decide))).symm
    have m152 := (m122).trans (fI_kept (x_lt hTH105 kH138 gw (by decide))).symm
    have m153 := (m124).trans (fI_kept (x_lt hTH105 kH138 gw (by decide))).symm
    have m154 := (m126).trans (fI_kept (x_lt hTH105 kH138 gw (by decide))).symm
    have m155 := (m128).trans (fR_kept (x_lt hTH105 kH138 ga (by decide))).symm
    have m156 := (fV_kept (x_lt hTH105 kH138 ga (by decide))).trans m131
    have m157 := (m115).trans (MF.i mf144 (k := 18) (by decide) (by decide)).symm
    have m158 := (m117).trans (MF.i mf144 (k := 1) (by decide) (by decide)).symm
    have m159 := (m119).trans (MF.i mf144 (k := 2) (by decide) (by decide)).symm
    have m160 := (m121).trans (MF.i mf144 (k := 3) (by decide) (by decide)).symm
    have m161 := (m123).trans (MF.i mf144 (k := 59) (by decide) (by decide)).symm
    have m162 := (m125).trans (MF.i mf144 (k := 62) (by decide) (by decide)).symm
    have m163 := (m127).trans (MF.i mf144 (k := 65) (by decide) (by decide)).symm
    have m164 := (m129).trans (MF.r mf144 (k := 17) (by decide) (by decide)).symm
    have m165 := (m130).trans (MF.i mf144 (k := 70) (by decide) (by decide)).symm
    have m166 := (m132).trans (MF.r mf144 (k := 73) (by decide) (by decide)).symm
    refine W.eq (g2 := F0 m 1212 ls [.int x139]) rfl ?_
    have re167 : RE K H138 w b s1.toInt := RE.ref re133 hTH105 gw gb (fun k hk => MF.r mf144 (by omega) (by intro z; simp only [List.mem_cons, List.not_mem_nil, or_false] at z; omega)) (fun q t hq ht => x_lt hTH105 kH138 hq (by first | exact nmr ht (by decide) | exact nmo ht (by decide) | exact nme ht (by decide) | exact nmq ht (by decide) | decide | (intro z; simp only [List.mem_cons, List.not_mem_nil, or_false] at z <;> omega) | omega))
    refine lv_pop hx hb dL_law_1212 rfl ?_
    refine lv_goto (tgt := 1509) hx hb dL_law_1213 (by decide) ?_
    exact nx G H138 locsH138 _ _ ls ⟨hTH138, hN, ga, gb, g140, g141, g142, g143, ⟨(by rw [← m148, ← m157]; exact rt), (by rw [← m147, ← m149, ← m158]; exact r1), (by rw [← m147, ← m150, ← m159]; exact r4), (by rw [← m147, ← m151, ← m160]; exact r5), (by rw [← m147, ← m152, ← m161]; exact r10), (by rw [← m147, ← m153, ← m162]; exact r13), (by rw [← m147, ← m154, ← m163]; exact r16)⟩, Or.inl ⟨m156, (by rw [← m165]; exact h70)⟩, (by unfold TB; rw [← m155, ← m164, ← m157]; exact TBR.of htr f145 f146 (by omega)), (by unfold RELE; rw [← m147, ← m158, ← m151]; exact ⟨RE.cast re167 (by omega), by omega, by omega⟩), hSH138⟩ hl ⟨hc, hs, fun _ => ⟨hc0, hs0⟩⟩
  · skip
    obtain ⟨hi, ehi⟩ : ∃ z : Int32, z = fI H b (K.1.2 10 70) := ⟨_, rfl⟩
    rw [← ehi] at h70
    obtain ⟨iq, eiq⟩ : ∃ z : Nat, z = fR H b (K.1.2 10 73) := ⟨_, rfl⟩
    have giq := ty_fr (q := iq) (k := 73) (u := 162) eiq hT gb rg_112 rfl
    rw [← eiq] at q1 q4 q5 q10 q13 q16
    obtain ⟨k1, ek1⟩ : ∃ z : Int32, z = fI H kq (K.1.2 8 1) := ⟨_, rfl⟩
    rw [← ek1] at q1
    obtain ⟨i1, ei1⟩ : ∃ z : Int32, z = fI H iq ((0 : Int32).toNatClampNeg) := ⟨_, rfl⟩
    rw [← ei1] at q1
    obtain ⟨k4, ek4⟩ : ∃ z : Int32, z = fI H kq (K.1.2 8 4) := ⟨_, rfl⟩
    rw [← ek4] at q4
    obtain ⟨i4, ei4⟩ : ∃ z : Int32, z = fI H iq ((1 : Int32).toNatClampNeg) := ⟨_, rfl⟩
    rw [← ei4] at q4
    obtain ⟨k5, ek5⟩ : ∃ z : Int32, z = fI H kq (K.1.2 8 5) := ⟨_, rfl⟩
    rw [← ek5] at q5
    obtain ⟨i5, ei5⟩ : ∃ z : Int32, z = fI H iq ((2 : Int32).toNatClampNeg) := ⟨_, rfl⟩
    rw [← ei5] at q5
    obtain ⟨k10, ek10⟩ : ∃ z : Int32, z = fI H kq (K.1.2 8 10) := ⟨_, rfl⟩
    rw [← ek10] at q10
    obtain ⟨i10, ei10⟩ : ∃ z : Int32, z = fI H iq ((3 : Int32).toNatClampNeg) := ⟨_, rfl⟩
    rw [← ei10] at q10
    obtain ⟨k13, ek13⟩ : ∃ z : Int32, z = fI H kq (K.1.2 8 13) := ⟨_, rfl⟩
    rw [← ek13] at q13
    obtain ⟨i13, ei13⟩ : ∃ z : Int32, z = fI H iq ((4 : Int32).toNatClampNeg) := ⟨_, rfl⟩
    rw [← ei13] at q13
    obtain ⟨k16, ek16⟩ : ∃ z : Int32, z = fI H kq (K.1.2 8 16) := ⟨_, rfl⟩
    rw [← ek16] at q16
    obtain ⟨i16, ei16⟩ : ∃ z : Int32, z = fI H iq ((5 : Int32).toNatClampNeg) := ⟨_, rfl⟩
    rw [← ei16] at q16
    rw [← eiq, ← ek1] at rke
    have hsk : 0 ≤ k5.toInt ∧ k5.toInt ≤ 9999 := by rw [ek5]; exact ⟨ks1, ks2⟩
    refine lv_aload_n hx hb dL_law_1163 rfl (lv_at hl 2 rfl) ?_
    refine lv_aload_n hx hb dL_law_1164 rfl (lv_at hl 3 rfl) ?_
    refine lv_iload_n hx hb dL_law_1165 rfl (lv_at hl 0 rfl) ?_
    refine lv_iconst (v := 1) hx hb dL_law_1166 (by decide) ?_
    refine lv_iadd hx hb dL_law_1167 ?_
    refine lv_topi (fun x168 ex168 => ?_)
    obtain ⟨tx168, ejx168, evx168⟩ := lw_ix (k := 1) ex168 hI hL rfl (by decide)
    clear tx168
    refine va_sld hx hb hX hbl (Nat.not_le.mpr hbl) hS (vp_in_iff.mpr evx168) dL_law_1168 ?_
    refine W.eq (g2 := F0 m 1169 ls [.int (xs (i.toNatClampNeg + 1)), .ref a]) (congrArg (fun z => F0 m 1169 ls [.int (xs z), .ref a]) ejx168) ?_
    refine lv_aload_n hx hb dL_law_1169 rfl (lv_at hl 3 rfl) ?_
    refine lv_iload_n hx hb dL_law_1170 rfl (lv_at hl 0 rfl) ?_
    refine lv_iconst (v := 2) hx hb dL_law_1171 (by decide) ?_
    refine lv_iadd hx hb dL_law_1172 ?_
    refine lv_topi (fun x169 ex169 => ?_)
    obtain ⟨tx169, ejx169, evx169⟩ := lw_ix (k := 2) ex169 hI hL rfl (by decide)
    clear tx169
    refine va_sld hx hb hX hbl (Nat.not_le.mpr hbl) hS (vp_in_iff.mpr evx169) dL_law_1173 ?_
    refine W.eq (g2 := F0 m 1174 ls [.int (xs (i.toNatClampNeg + 2)), .int (xs (i.toNatClampNeg + 1)), .ref a]) (congrArg (fun z => F0 m 1174 ls [.int (xs z), .int (xs (i.toNatClampNeg + 1)), .ref a]) ejx169) ?_
    refine lv_aload_n hx hb dL_law_1174 rfl (lv_at hl 3 rfl) ?_
    refine lv_iload_n hx hb dL_law_1175 rfl (lv_at hl 0 rfl) ?_
    refine lv_iconst (v := 3) hx hb dL_law_1176 (by decide) ?_
    refine lv_iadd hx hb dL_law_1177 ?_
    refine lv_topi (fun x170 ex170 => ?_)
    obtain ⟨tx170, ejx170, evx170⟩ := lw_ix (k := 3) ex170 hI hL rfl (by decide)
    clear tx170
    refine va_sld hx hb hX hbl (Nat.not_le.mpr hbl) hS (vp_in_iff.mpr evx170) dL_law_1178 ?_
    refine W.eq (g2 := F0 m 1179 ls [.int (xs (i.toNatClampNeg + 3)), .int (xs (i.toNatClampNeg + 2)), .int (xs (i.toNatClampNeg + 1)), .ref a]) (congrArg (fun z => F0 m 1179 ls [.int (xs z), .int (xs (i.toNatClampNeg + 2)), .int (xs (i.toNatClampNeg + 1)), .ref a]) ejx170) ?_
    refine lv_aload_n hx hb dL_law_1179 rfl (lv_at hl 3 rfl) ?_
    refine lv_iload_n hx hb dL_law_1180 rfl (lv_at hl 0 rfl) ?_
    refine lv_iconst (v := 4) hx hb dL_law_1181 (by decide) ?_
    refine lv_iadd hx hb dL_law_1182 ?_
    refine lv_topi (fun x171 ex171 => ?_)
    obtain ⟨tx171, ejx171, evx171⟩ := lw_ix (k := 4) ex171 hI hL rfl (by decide)
    clear tx171
    refine va_sld hx hb hX hbl (Nat.not_le.mpr hbl) hS (vp_in_iff.mpr evx171) dL_law_1183 ?_
    refine W.eq (g2 := F0 m 1184 ls [.int (xs (i.toNatClampNeg + 4)), .int (xs (i.toNatClampNeg + 3)), .int (xs (i.toNatClampNeg + 2)), .int (xs (i.toNatClampNeg + 1)), .ref a]) (congrArg (fun z => F0 m 1184 ls [.int (xs z), .int (xs (i.toNatClampNeg + 3)), .int (xs (i.toNatClampNeg + 2)), .int (xs (i.toNatClampNeg + 1)), .ref a]) ejx171) ?_
    refine x_V (As := [.int (xs (i.toNatClampNeg + 1)), .int (xs (i.toNatClampNeg + 2)), .int (xs (i.toNatClampNeg + 3)), .int (xs (i.toNatClampNeg + 4))]) (rest := []) C (a_X9_in l K G H ((xs (i.toNatClampNeg + 1))) ((xs (i.toNatClampNeg + 2))) ((xs (i.toNatClampNeg + 3))) ((xs (i.toNatClampNeg + 4))) hT ga) yo_X9_in wM_L_121 ⟨⟨by decide, by decide⟩, show _ ≤ 60000 from Nat.le_trans hc (by decide), show _ ≤ 8922250 from Nat.le_trans hs (by decide)⟩ (x_rv C hT (ci := 9) rfl ga rg_68) rfl hl.1 rfl (Nat.le_of_ble_eq_true rfl) dL_law_1184 hS (AE_new hN hS.1) (fun vH172 H172 locsH172 pH172 zH172 kH172 hSH172 => ?_)
    obtain ⟨x173, hvH172, hTH172⟩ := pH172
    subst hvH172
    have g174 : CG (avw K H172 b) := CG.congr (fun k hk j => av_eff hT kH172 gb (by decide) (CG_eff [83, 84] (by decide) k hk)) cg
    have g175 : TU (avw K H172 b) (svw K H172 b) := TU.congr (fun k hk j => av_eff hT kH172 gb (by decide) (TU_eff [83, 84] (by decide) k hk)) (fun k hk => sv_eff hT kH172 gb (by decide)) tu
    have g176 : WD (avw K H172 b) := WD.congr (fun k hk j => av_eff hT kH172 gb (by decide) (WD_eff [83, 84] (by decide) k hk)) wd
    have g177 : IM (avw K H172 b) := IM.congr (fun k hk j => av_eff hT kH172 gb (by decide) (IM_eff [83, 84] (by decide) k hk)) im
    have f178 : ∀ j : Nat, fI H172 tq j = fI H tq j := fun j => (fI_kept (x_lt hT kH172 gtq (by decide))).trans (ft0 j)
    have f179 : ∀ j : Nat, fI H172 uq j = fI H uq j := fun j => (fI_kept (x_lt hT kH172 guq (by decide))).trans (fu0 j)
    have m180 := (ew).trans (fR_kept (x_lt hT kH172 ga (by decide))).symm
    have m181 := (eta).trans (fI_kept (x_lt hT kH172 ga (by decide))).symm
    have m182 := (etb).trans (fI_kept (x_lt hT kH172 gb (by decide))).symm
    have m183 := (es1).trans (fI_kept (x_lt hT kH172 gw (by decide))).symm
    have m184 := (ey1).trans (fI_kept (x_lt hT kH172 gb (by decide))).symm
    have m185 := (es4).trans (fI_kept (x_lt hT kH172 gw (by decide))).symm
    have m186 := (ey4).trans (fI_kept (x_lt hT kH172 gb (by decide))).symm
    have m187 := (es5).trans (fI_kept (x_lt hT kH172 gw (by decide))).symm
    have m188 := (ey5).trans (fI_kept (x_lt hT kH172 gb (by decide))).symm
    have m189 := (es10).trans (fI_kept (x_lt hT kH172 gw (by decide))).symm
    have m190 := (ey10).trans (fI_kept (x_lt hT kH172 gb (by decide))).symm
    have m191 := (es13).trans (fI_kept (x_lt hT kH172 gw (by decide))).symm
    have m192 := (ey13).trans (fI_kept (x_lt hT kH172 gb (by decide))).symm
    have m193 := (es16).trans (fI_kept (x_lt hT kH172 gw (by decide))).symm
    have m194 := (ey16).trans (fI_kept (x_lt hT kH172 gb (by decide))).symm
    have m195 := (etq).trans (fR_kept (x_lt hT kH172 ga (by decide))).symm
    have m196 := (euq).trans (fR_kept (x_lt hT kH172 gb (by decide))).symm
    have m197 := (ehi).trans (fI_kept (x_lt hT kH172 gb (by decide))).symm
    have m198 := (fV_kept (x_lt hT kH172 ga (by decide))).trans kn
    have m199 := (eiq).trans (fR_kept (x_lt hT kH172 gb (by decide))).symm
    have m200 := (ek1).trans (fI_kept (x_lt hT kH172 gkq (by decide))).symm
    have m201 := (ei1).trans (fI_kept (x_lt hT kH172 giq (by decide))).symm
    have m202 := (ek4).trans (fI_kept (x_lt hT kH172 gkq (by decide))).symm
    have m203 := (ei4).trans (fI_kept (x_lt hT kH172 giq (by decide))).symm
    have m204 := (ek5).trans (fI_kept (x_lt hT kH172 gkq (by decide))).symm
    have m205 := (ei5).trans (fI_kept (x_lt hT kH172 giq (by decide))).symm
    have m206 := (ek10).trans (fI_kept (x_lt hT kH172 gkq (by decide))).symm
    have m207 := (ei10).trans (fI_kept (x_lt hT kH172 giq (by decide))).symm
    have m208 := (ek13).trans (fI_kept (x_lt hT kH172 gkq (by decide))).symm
    have m209 := (ei13).trans (fI_kept (x_lt hT kH172 giq (by decide))).symm
    have m210 := (ek16).trans (fI_kept (x_lt hT kH172 gkq (by decide))).symm
    have m211 := (ei16).trans (fI_kept (x_lt hT kH172 giq (by decide))).symm
    refine W.eq (g2 := F0 m 1187 ls [.int x173]) rfl ?_
    have rk212 : RKI K H172 kq iq k1.toInt := RKI.kept rke hT gkq (x_lt hT kH172 giq (by first | exact nmr ht (by decide) | exact nmo ht (by decide) | exact nme ht (by decide) | exact nmq ht (by decide) | decide | (intro z; simp only [List.mem_cons, List.not_mem_nil, or_false] at z <;> omega) | omega)) (fun q t hq ht => x_lt hT kH172 hq (by first | exact nmr ht (by decide) | exact nmo ht (by decide) | exact nme ht (by decide) | exact nmq ht (by decide) | decide | (intro z; simp only [List.mem_cons, List.not_mem_nil, or_false] at z <;> omega) | omega))
    have re213 : RE K H172 w b s1.toInt := RE.cls re hT gw gb (fun q t hq ht => x_lt hT kH172 hq (by first | exact nmr ht (by decide) | exact nmo ht (by decide) | exact nme ht (by decide) | exact nmq ht (by decide) | decide | (intro z; simp only [List.mem_cons, List.not_mem_nil, or_false] at z <;> omega) | omega))
    refine lv_pop hx hb dL_law_1187 rfl ?_
    refine lv_aload_n hx hb dL_law_1188 rfl (lv_at hl 1 rfl) ?_
    refine lv_aload_n hx hb dL_law_1189 rfl (lv_at hl 3 rfl) ?_
    refine lv_iload_n hx hb dL_law_1190 rfl (lv_at hl 0 rfl) ?_
    refine lv_iconst (v := 1) hx hb dL_law_1191 (by decide) ?_
    refine lv_iadd hx hb dL_law_1192 ?_
    refine lv_topi (fun x214 ex214 => ?_)
    obtain ⟨tx214, ejx214, evx214⟩ := lw_ix (k := 1) ex214 hI hL rfl (by decide)
    clear tx214
    refine va_sld hx hb hX hbl (Nat.not_le.mpr hbl) hSH172 (vp_in_iff.mpr evx214) dL_law_1193 ?_
    refine W.eq (g2 := F0 m 1194 ls [.int (xs (i.toNatClampNeg + 1)), .ref b]) (congrArg (fun z => F0 m 1194 ls [.int (xs z), .ref b]) ejx214) ?_
    refine lv_aload_n hx hb dL_law_1194 rfl (lv_at hl 3 rfl) ?_
    refine lv_iload_n hx hb dL_law_1195 rfl (lv_at hl 0 rfl) ?_
    refine lv_iconst (v := 2) hx hb dL_law_1196 (by decide) ?_
    refine lv_iadd hx hb dL_law_1197 ?_
    refine lv_topi (fun x215 ex215 => ?_)
    obtain ⟨tx215, ejx215, evx215⟩ := lw_ix (k := 2) ex215 hI hL rfl (by decide)
    clear tx215
    refine va_sld hx hb hX hbl (Nat.not_le.mpr hbl) hSH172 (vp_in_iff.mpr evx215) dL_law_1198 ?_
    refine W.eq (g2 := F0 m 1199 ls [.int (xs (i.toNatClampNeg + 2)), .int (xs (i.toNatClampNeg + 1)), .ref b]) (congrArg (fun z => F0 m 1199 ls [.int (xs z), .int (xs (i.toNatClampNeg + 1)), .ref b]) ejx215) ?_
    refine lv_aload_n hx hb dL_law_1199 rfl (lv_at hl 3 rfl) ?_
    refine lv_iload_n hx hb dL_law_1200 rfl (lv_at hl 0 rfl) ?_
    refine lv_iconst (v := 3) hx hb dL_law_1201 (by decide) ?_
    refine lv_iadd hx hb dL_law_1202 ?_
    refine lv_topi (fun x216 ex216 => ?_)
    obtain ⟨tx216, ejx216, evx216⟩ := lw_ix (k := 3) ex216 hI hL rfl (by decide)
    clear tx216
    refine va_sld hx hb hX hbl (Nat.not_le.mpr hbl) hSH172 (vp_in_iff.mpr evx216) dL_law_1203 ?_
    refine W.eq (g2 := F0 m 1204 ls [.int (xs (i.toNatClampNeg + 3)), .int (xs (i.toNatClampNeg + 2)), .int (xs (i.toNatClampNeg + 1)), .ref b]) (congrArg (fun z => F0 m 1204 ls [.int (xs z), .int (xs (i.toNatClampNeg + 2)), .int (xs (i.toNatClampNeg + 1)), .ref b]) ejx216) ?_
    refine lv_aload_n hx hb dL_law_1204 rfl (lv_at hl 3 rfl) ?_
    refine lv_iload_n hx hb dL_law_1205 rfl (lv_at hl 0 rfl) ?_
    refine lv_iconst (v := 4) hx hb dL_law_1206 (by decide) ?_
    refine lv_iadd hx hb dL_law_1207 ?_
    refine lv_topi (fun x217 ex217 => ?_)
    obtain ⟨tx217, ejx217, evx217⟩ := lw_ix (k := 4) ex217 hI hL rfl (by decide)
    clear tx217
    refine va_sld hx hb hX hbl (Nat.not_le.mpr hbl) hSH172 (vp_in_iff.mpr evx217) dL_law_1208 ?_
    refine W.eq (g2 := F0 m 1209 ls [.int (xs (i.toNatClampNeg + 4)), .int (xs (i.toNatClampNeg + 3)), .int (xs (i.toNatClampNeg + 2)), .int (xs (i.toNatClampNeg + 1)), .ref b]) (congrArg (fun z => F0 m 1209 ls [.int (xs z), .int (xs (i.toNatClampNeg + 3)), .int (xs (i.toNatClampNeg + 2)), .int (xs (i.toNatClampNeg + 1)), .ref b]) ejx217) ?_
    refine x_V (As := [.int (xs (i.toNatClampNeg + 1)), .int (xs (i.toNatClampNeg + 2)), .int (xs (i.toNatClampNeg + 3)), .int (xs (i.toNatClampNeg + 4))]) (rest := []) C (a_X10_in l K G H172 ((xs (i.toNatClampNeg + 1))) ((xs (i.toNatClampNeg + 2))) ((xs (i.toNatClampNeg + 3))) ((xs (i.toNatClampNeg + 4))) (y1) hTH172 gb m184 g174 g175 g176 g177) yo_X10_in wM_L_124 ⟨⟨by decide, by decide⟩, show _ ≤ 60000 from Nat.le_trans hc (by decide), show _ ≤ 8922250 from Nat.le_trans hs (by decide)⟩ (x_rv C hTH172 (ci := 10) rfl gb rg_112) rfl hl.1 rfl (Nat.le_of_ble_eq_true rfl) dL_law_1209 hSH172 (AE_new hN hSH172.1) (fun vH218 H218 locsH218 pH218 zH218 kH218 hSH218 => ?_)
    obtain ⟨x219, hvH218, g220, g221, g222, g223, mf224, hTH218⟩ := pH218
    subst hvH218
    have f225 : ∀ j : Nat, fI H218 tq j = fI H tq j := fun j => (fI_kept (x_lt hTH172 kH218 gtq (by decide))).trans (f178 j)
    have f226 : ∀ j : Nat, fI H218 uq j = fI H uq j := fun j => (fI_kept (x_lt hTH172 kH218 guq (by decide))).trans (f179 j)
    have m227 := (m180).trans (fR_kept (x_lt hTH172 kH218 ga (by decide))).symm
    have m228 := (m181).trans (fI_kept (x_lt hTH172 kH218 ga (by decide))).symm
    have m229 := (m183).trans (fI_kept (x_lt hTH172 kH218 gw (by decide))).symm
    have m230 := (m185).trans (fI_kept (x_lt hTH172 kH218 gw (by decide))).symm
    have m231 := (m187).trans (fI_kept (x_lt hTH172 kH218 gw (by decide))).symm
    have m232 := (m189).trans (fI_kept (x_lt hTH172 kH218 gw (by decide))).symm
    have m233 := (m191).trans (fI_kept (x_lt hTH172 kH218 gw (by decide))).symm
    have m234 := (m193).trans (fI_kept (x_lt hTH172 kH218 gw (by decide))).symm
    have m235 := (m195).trans (fR_kept (x_lt hTH172 kH218 ga (by decide))).symm
    have m236 := (fV_kept (x_lt hTH172 kH218 ga (by decide))).trans m198
    have m237 := (m200).trans (fI_kept (x_lt hTH172 kH218 gkq (by decide))).symm
    have m238 := (m201).trans (fI_kept (x_lt hTH172 kH218 giq (by decide))).symm
    have m239 := (m202).trans (fI_kept (x_lt hTH172 kH218 gkq (by decide))).symm
    have m240 := (m203).trans (fI_kept (x_lt hTH172 kH218 giq (by decide))).symm
    have m241 := (m204).trans (fI_kept (x_lt hTH172 kH218 gkq (by decide))).symm
    have m242 := (m205).trans (fI_kept (x_lt hTH172 kH218 giq (by decide))).symm
    have m243 := (m206).trans (fI_kept (x_lt hTH172 kH218 gkq (by decide))).symm
    have m244 := (m207).trans (fI_kept (x_lt hTH172 kH218 giq (by decide))).symm
    have m245 := (m208).trans (fI_kept (x_lt hTH172 kH218 gkq (by decide))).symm
    have m246 := (m209).trans (fI_kept (x_lt hTH172 kH218 giq (by decide))).symm
    have m247 := (m210).trans (fI_kept (x_lt hTH172 kH218 gkq (by decide))).symm
    have m248 := (m211).trans (fI_kept (x_lt hTH172 kH218 giq (by decide))).symm
    have m249 := (m182).trans (MF.i mf224 (k := 18) (by decide) (by decide)).symm
    have m250 := (m184).trans (MF.i mf224 (k := 1) (by decide) (by decide)).symm
    have m251 := (m186).trans (MF.i mf224 (k := 2) (by decide) (by decide)).symm
    have m252 := (m188).trans (MF.i mf224 (k := 3) (by decide) (by decide)).symm
    have m253 := (m190).trans (MF.i mf224 (k := 59) (by decide) (by decide)).symm
    have m254 := (m192).trans (MF.i mf224 (k := 62) (by decide) (by decide)).symm
    have m255 := (m194).trans (MF.i mf224 (k := 65) (by decide) (by decide)).symm
    have m256 := (m196).trans (MF.r mf224 (k := 17) (by decide) (by decide)).symm
    have m257 := (m197).trans (MF.i mf224 (k := 70) (by decide) (by decide)).symm
    have m258 := (m199).trans (MF.r mf224 (k := 73) (by decide) (by decide)).symm
    refine W.eq (g2 := F0 m 1212 ls [.int x219]) rfl ?_
    have rk259 : RKI K H218 kq iq k1.toInt := RKI.kept rk212 hTH172 gkq (x_lt hTH172 kH218 giq (by first | exact nmr ht (by decide) | exact nmo ht (by decide) | exact nme ht (by decide) | exact nmq ht (by decide) | decide | (intro z; simp only [List.mem_cons, List.not_mem_nil, or_false] at z <;> omega) | omega)) (fun q t hq ht => x_lt hTH172 kH218 hq (by first | exact nmr ht (by decide) | exact nmo ht (by decide) | exact nme ht (by decide) | exact nmq ht (by decide) | decide | (intro z; simp only [List.mem_cons, List.not_mem_nil, or_false] at z <;> omega) | omega))
    have re260 : RE K H218 w b s1.toInt := RE.ref re213 hTH172 gw gb (fun k hk => MF.r mf224 (by omega) (by intro z; simp only [List.mem_cons, List.not_mem_nil, or_false] at z; omega)) (fun q t hq ht => x_lt hTH172 kH218 hq (by first | exact nmr ht (by decide) | exact nmo ht (by decide) | exact nme ht (by decide) | exact nmq ht (by decide) | decide | (intro z; simp only [List.mem_cons, List.not_mem_nil, or_false] at z <;> omega) | omega))
    refine lv_pop hx hb dL_law_1212 rfl ?_
    refine lv_goto (tgt := 1509) hx hb dL_law_1213 (by decide) ?_
    exact nx G H218 locsH218 _ _ ls ⟨hTH218, hN, ga, gb, g220, g221, g222, g223, ⟨(by rw [← m228, ← m249]; exact rt), (by rw [← m227, ← m229, ← m250]; exact r1), (by rw [← m227, ← m230, ← m251]; exact r4), (by rw [← m227, ← m231, ← m252]; exact r5), (by rw [← m227, ← m232, ← m253]; exact r10), (by rw [← m227, ← m233, ← m254]; exact r13), (by rw [← m227, ← m234, ← m255]; exact r16)⟩, Or.inr ⟨kq, m236, gkq, (by rw [← m257]; exact h70), (by rw [← m237, ← m258, ← m238]; exact q1), (by rw [← m239, ← m258, ← m240]; exact q4), (by rw [← m241, ← m258, ← m242]; exact q5), (by rw [← m243, ← m258, ← m244]; exact q10), (by rw [← m245, ← m258, ← m246]; exact q13), (by rw [← m247, ← m258, ← m248]; exact q16), (by rw [← m258, ← m237]; exact RKI.cast rk259 (by omega)), (by rw [← m241]; omega), (by rw [← m241]; omega)⟩, (by unfold TB; rw [← m235, ← m256, ← m249]; exact TBR.of htr f225 f226 (by omega)), (by unfold RELE; rw [← m227, ← m250, ← m231]; exact ⟨RE.cast re260 (by omega), by omega, by omega⟩), hSH218⟩ hl ⟨hc, hs, fun h => by have h1 := h.symm.trans m236; cases h1⟩