set_option maxRecDepth 100000 in
set_option maxHeartbeats 8000000 in
theorem lw_c24 {p : Program} {l : Launch} {e : Env} {s : State} {m : MethodId} {below : List Frame} {meth : Method} {c : Code} {K : KE} {b0 L : Nat} {xs : Nat → Int32} {G : Nat → Option Nat} {H : Heap} {locs : List Loc} {a b : Nat} {cells slots : Nat} {ls : Array Slot} {i : Int32} {n : Nat} (D : LC p K s m meth c b0 L xs) (S : SX K s G H locs a b) (hl : lv_has ls 4 [(3, .int i), (2, .ref b), (1, .ref a), (0, .ref b0)]) (hi : 0 ≤ i.toInt ∧ i.toInt + 6 ≤ L) (hn : n ≤ 511) (hB : BD K H a cells slots) (nx : ∀ (G : Nat → Option Nat) (H : Heap) (locs : List Loc) (cells slots : Nat) (ls : Array Slot), SX K s G H locs a b → lv_has ls 4 [(3, .int i), (2, .ref b), (1, .ref a), (0, .ref b0)] → BD K H a cells slots → W p l e room_1 s m #[Value.ref b0] below meth c H locs cells slots (lw_Z below #[Value.ref b0] s) (F0 m 1509 ls [])) : W p l e room_1 s m #[Value.ref b0] below meth c H locs cells slots (lw_Z below #[Value.ref b0] s) (F0 m 1120 ls []) := by
  obtain ⟨C, hX, hbl, hL⟩ := id D
  obtain ⟨hx, hb, hml, hown, hts, hKT, hr, hlocks, hnm⟩ := id C
  obtain ⟨hT, hN, ga, gb, cg, tu, wd, im, ⟨rt, r1, r4, r5, r10, r13, r16⟩, hk, htb, hS⟩ := S
  obtain ⟨hc, hs, hB0⟩ := hB
  have n_1 : (1 : Int32).toInt = 1 := rfl
  have n_2 : (2 : Int32).toInt = 2 := rfl
  have n_3 : (3 : Int32).toInt = 3 := rfl
  obtain ⟨w, ew⟩ : ∃ z : Nat, z = fR H a (K.1.2 9 0) := ⟨_, rfl⟩
  have gw := ty_fr (q := w) (k := 0) (u := 0) ew hT ga rg_68 rfl
  rw [← ew] at r1 r4 r5 r10 r13 r16
  obtain ⟨ta, eta⟩ : ∃ z : Int32, z = fI H a (K.1.2 9 3) := ⟨_, rfl⟩
  rw [← eta] at rt
  obtain ⟨tb, etb⟩ : ∃ z : Int32, z = fI H b (K.1.2 10 18) := ⟨_, rfl⟩
  rw [← etb] at rt
  obtain ⟨s1, es1⟩ : ∃ z : Int32, z = fI H w (K.1.2 8 1) := ⟨_, rfl⟩
  rw [← es1] at r1
  obtain ⟨y1, ey1⟩ : ∃ z : Int32, z = fI H b (K.1.2 10 1) := ⟨_, rfl⟩
  rw [← ey1] at r1
  obtain ⟨s4, es4⟩ : ∃ z : Int32, z = fI H w (K.1.2 8 4) := ⟨_, rfl⟩
  rw [← es4] at r4
  obtain ⟨y4, ey4⟩ : ∃ z : Int32, z = fI H b (K.1.2 10 2) := ⟨_, rfl⟩
  rw [← ey4] at r4
  obtain ⟨s5, es5⟩ : ∃ z : Int32, z = fI H w (K.1.2 8 5) := ⟨_, rfl⟩
  rw [← es5] at r5
  obtain ⟨y5, ey5⟩ : ∃ z : Int32, z = fI H b (K.1.2 10 3) := ⟨_, rfl⟩
  rw [← ey5] at r5
  obtain ⟨s10, es10⟩ : ∃ z : Int32, z = fI H w (K.1.2 8 10) := ⟨_, rfl⟩
  rw [← es10] at r10
  obtain ⟨y10, ey10⟩ : ∃ z : Int32, z = fI H b (K.1.2 10 59) := ⟨_, rfl⟩
  rw [← ey10] at r10
  obtain ⟨s13, es13⟩ : ∃ z : Int32, z = fI H w (K.1.2 8 13) := ⟨_, rfl⟩
  rw [← es13] at r13
  obtain ⟨y13, ey13⟩ : ∃ z : Int32, z = fI H b (K.1.2 10 62) := ⟨_, rfl⟩
  rw [← ey13] at r13
  obtain ⟨s16, es16⟩ : ∃ z : Int32, z = fI H w (K.1.2 8 16) := ⟨_, rfl⟩
  rw [← es16] at r16
  obtain ⟨y16, ey16⟩ : ∃ z : Int32, z = fI H b (K.1.2 10 65) := ⟨_, rfl⟩
  rw [← ey16] at r16
  obtain ⟨tq, etq⟩ : ∃ z : Nat, z = fR H a (K.1.2 9 2) := ⟨_, rfl⟩
  have gtq := ty_fr (q := tq) (k := 2) (u := 108) etq hT ga rg_68 rfl
  obtain ⟨uq, euq⟩ : ∃ z : Nat, z = fR H b (K.1.2 10 17) := ⟨_, rfl⟩
  have guq := ty_fr (q := uq) (k := 17) (u := 126) euq hT gb rg_112 rfl
  have htr : TBR (fun j => fI H tq j) (fun j => fI H uq j) tb.toNatClampNeg := by rw [etq, euq, etb]; exact htb
  have ft0 : ∀ j : Nat, fI H tq j = fI H tq j := fun _ => rfl
  have fu0 : ∀ j : Nat, fI H uq j = fI H uq j := fun _ => rfl
  have bta := ty_fi (x := ta) (k := 3) eta hT ga rg_68 rfl
  have cta := i_cl (x := ta) (by omega)
  have btb := ty_fi (x := tb) (k := 18) etb hT gb rg_112 rfl
  have ctb := i_cl (x := tb) (by omega)
  rcases hk with ⟨kn, h70⟩ | ⟨kq, kn, gkq, h70, q1, q4, q5, q10, q13, q16⟩
  · skip
    obtain ⟨hi, ehi⟩ : ∃ z : Int32, z = fI H b (K.1.2 10 70) := ⟨_, rfl⟩
    rw [← ehi] at h70
    obtain ⟨hc0, hs0⟩ := hB0 kn
    refine lv_aload_n hx hb dL_law_1120 rfl (lv_at hl 2 rfl) ?_
    refine lv_aload_n hx hb dL_law_1121 rfl (lv_at hl 3 rfl) ?_
    refine lv_iload_n hx hb dL_law_1122 rfl (lv_at hl 0 rfl) ?_
    refine lv_iconst (v := 1) hx hb dL_law_1123 (by decide) ?_
    refine lv_iadd hx hb dL_law_1124 ?_
    refine lv_topi (fun x101 ex101 => ?_)
    have tx101 := i_add ex101 (by omega)
    have ejx101 : x101.toNatClampNeg = i.toNatClampNeg + 1 := by have h1 := i_cl (x := x101) (by omega); have h2 := i_cl (x := i) (by omega); omega
    refine va_sld hx hb hX hbl (Nat.not_le.mpr hbl) hS (vp_in_iff.mpr (by omega)) dL_law_1125 ?_
    refine W.eq (g2 := F0 m 1126 ls [.int (xs (i.toNatClampNeg + 1)), .ref a]) (congrArg (fun z => F0 m 1126 ls [.int (xs z), .ref a]) ejx101) ?_
    refine lv_aload_n hx hb dL_law_1126 rfl (lv_at hl 3 rfl) ?_
    refine lv_iload_n hx hb dL_law_1127 rfl (lv_at hl 0 rfl) ?_
    refine lv_iconst (v := 2) hx hb dL_law_1128 (by decide) ?_
    refine lv_iadd hx hb dL_law_1129 ?_
    refine lv_topi (fun x102 ex102 => ?_)
    have tx102 := i_add ex102 (by omega)
    have ejx102 : x102.toNatClampNeg = i.toNatClampNeg + 2 := by have h1 := i_cl (x := x102) (by omega); have h2 := i_cl (x := i) (by omega); omega
    refine va_sld hx hb hX hbl (Nat.not_le.mpr hbl) hS (vp_in_iff.mpr (by omega)) dL_law_1130 ?_
    refine W.eq (g2 := F0 m 1131 ls [.int (xs (i.toNatClampNeg + 2)), .int (xs (i.toNatClampNeg + 1)), .ref a]) (congrArg (fun z => F0 m 1131 ls [.int (xs z), .int (xs (i.toNatClampNeg + 1)), .ref a]) ejx102) ?_
    refine lv_aload_n hx hb dL_law_1131 rfl (lv_at hl 3 rfl) ?_
    refine lv_iload_n hx hb dL_law_1132 rfl (lv_at hl 0 rfl) ?_
    refine lv_iconst (v := 3) hx hb dL_law_1133 (by decide) ?_
    refine lv_iadd hx hb dL_law_1134 ?_
    refine lv_topi (fun x103 ex103 => ?_)
    have tx103 := i_add ex103 (by omega)
    have ejx103 : x103.toNatClampNeg = i.toNatClampNeg + 3 := by have h1 := i_cl (x := x103) (by omega); have h2 := i_cl (x := i) (by omega); omega
    refine va_sld hx hb hX hbl (Nat.not_le.mpr hbl) hS (vp_in_iff.mpr (by omega)) dL_law_1135 ?_
    refine W.eq (g2 := F0 m 1136 ls [.int (xs (i.toNatClampNeg + 3)), .int (xs (i.toNatClampNeg + 2)), .int (xs (i.toNatClampNeg + 1)), .ref a]) (congrArg (fun z => F0 m 1136 ls [.int (xs z), .int (xs (i.toNatClampNeg + 2)), .int (xs (i.toNatClampNeg + 1)), .ref a]) ejx103) ?_
    refine x_V (As := [.int (xs (i.toNatClampNeg + 1)), .int (xs (i.toNatClampNeg + 2)), .int (xs (i.toNatClampNeg + 3))]) (rest := []) C (a_X9_tube_r l K G H ((xs (i.toNatClampNeg + 1))) ((xs (i.toNatClampNeg + 2))) ((xs (i.toNatClampNeg + 3))) (s1) (s4) (s5) (s10) (s13) (s16) hT ga gw ew es1 es4 es5 es10 es13 es16) yo_X9_tube wM_L_117 ⟨⟨by decide, by decide⟩, show _ ≤ 284929 by omega, show _ ≤ 8247460 by omega⟩ (x_rv C hT (ci := 9) rfl ga rg_68) rfl hl.1 rfl (Nat.le_of_ble_eq_true rfl) dL_law_1136 hS (AE_new hN hS.1) (fun vH104 H104 locsH104 pH104 zH104 kH104 hSH104 => ?_)
    obtain ⟨x105, hvH104, bx105, hrH104, hTH104⟩ := pH104
    subst hvH104
    have g106 : CG (avw K H104 b) := CG.congr (fun k hk j => av_eff hT kH104 gb (by decide) (CG_eff [15] (by decide) k hk)) cg
    have g107 : TU (avw K H104 b) (svw K H104 b) := TU.congr (fun k hk j => av_eff hT kH104 gb (by decide) (TU_eff [15] (by decide) k hk)) (fun k hk => sv_eff hT kH104 gb (by decide)) tu
    have g108 : WD (avw K H104 b) := WD.congr (fun k hk j => av_eff hT kH104 gb (by decide) (WD_eff [15] (by decide) k hk)) wd
    have g109 : IM (avw K H104 b) := IM.congr (fun k hk j => av_eff hT kH104 gb (by decide) (IM_eff [15] (by decide) k hk)) im
    have f110 : ∀ j : Nat, fI H104 tq j = fI H tq j := fun j => (fI_kept (x_lt hT kH104 gtq (by decide))).trans (ft0 j)
    have f111 : ∀ j : Nat, fI H104 uq j = fI H uq j := fun j => (fI_kept (x_lt hT kH104 guq (by decide))).trans (fu0 j)
    have m112 := (ew).trans (fR_kept (x_lt hT kH104 ga (by decide))).symm
    have m113 := (eta).trans (fI_kept (x_lt hT kH104 ga (by decide))).symm
    have m114 := (etb).trans (fI_kept (x_lt hT kH104 gb (by decide))).symm
    have m115 := (es1).trans (fI_kept (x_lt hT kH104 gw (by decide))).symm
    have m116 := (ey1).trans (fI_kept (x_lt hT kH104 gb (by decide))).symm
    have m117 := (es4).trans (fI_kept (x_lt hT kH104 gw (by decide))).symm
    have m118 := (ey4).trans (fI_kept (x_lt hT kH104 gb (by decide))).symm
    have m119 := (es5).trans (fI_kept (x_lt hT kH104 gw (by decide))).symm
    have m120 := (ey5).trans (fI_kept (x_lt hT kH104 gb (by decide))).symm
    have m121 := (es10).trans (fI_kept (x_lt hT kH104 gw (by decide))).symm
    have m122 := (ey10).trans (fI_kept (x_lt hT kH104 gb (by decide))).symm
    have m123 := (es13).trans (fI_kept (x_lt hT kH104 gw (by decide))).symm
    have m124 := (ey13).trans (fI_kept (x_lt hT kH104 gb (by decide))).symm
    have m125 := (es16).trans (fI_kept (x_lt hT kH104 gw (by decide))).symm
    have m126 := (ey16).trans (fI_kept (x_lt hT kH104 gb (by decide))).symm
    have m127 := (etq).trans (fR_kept (x_lt hT kH104 ga (by decide))).symm
    have m128 := (euq).trans (fR_kept (x_lt hT kH104 gb (by decide))).symm
    have m129 := (ehi).trans (fI_kept (x_lt hT kH104 gb (by decide))).symm
    have m130 := (fV_kept (x_lt hT kH104 ga (by decide))).trans kn
    refine W.eq (g2 := F0 m 1139 ls [.int x105]) rfl ?_
    refine lv_pop hx hb dL_law_1139 rfl ?_
    refine lv_aload_n hx hb dL_law_1140 rfl (lv_at hl 1 rfl) ?_
    refine lv_aload_n hx hb dL_law_1141 rfl (lv_at hl 3 rfl) ?_
    refine lv_iload_n hx hb dL_law_1142 rfl (lv_at hl 0 rfl) ?_
    refine lv_iconst (v := 1) hx hb dL_law_1143 (by decide) ?_
    refine lv_iadd hx hb dL_law_1144 ?_
    refine lv_topi (fun x131 ex131 => ?_)
    have tx131 := i_add ex131 (by omega)
    have ejx131 : x131.toNatClampNeg = i.toNatClampNeg + 1 := by have h1 := i_cl (x := x131) (by omega); have h2 := i_cl (x := i) (by omega); omega
    refine va_sld hx hb hX hbl (Nat.not_le.mpr hbl) hSH104 (vp_in_iff.mpr (by omega)) dL_law_1145 ?_
    refine W.eq (g2 := F0 m 1146 ls [.int (xs (i.toNatClampNeg + 1)), .ref b]) (congrArg (fun z => F0 m 1146 ls [.int (xs z), .ref b]) ejx131) ?_
    refine lv_aload_n hx hb dL_law_1146 rfl (lv_at hl 3 rfl) ?_
    refine lv_iload_n hx hb dL_law_1147 rfl (lv_at hl 0 rfl) ?_
    refine lv_iconst (v := 2) hx hb dL_law_1148 (by decide) ?_
    refine lv_iadd hx hb dL_law_1149 ?_
    refine lv_topi (fun x132 ex132 => ?_)
    have tx132 := i_add ex132 (by omega)
    have ejx132 : x132.toNatClampNeg = i.toNatClampNeg + 2 := by have h1 := i_cl (x := x132) (by omega); have h2 := i_cl (x := i) (by omega); omega
    refine va_sld hx hb hX hbl (Nat.not_le.mpr hbl) hSH104 (vp_in_iff.mpr (by omega)) dL_law_1150 ?_
    refine W.eq (g2 := F0 m 1151 ls [.int (xs (i.toNatClampNeg + 2)), .int (xs (i.toNatClampNeg + 1)), .ref b]) (congrArg (fun z => F0 m 1151 ls [.int (xs z), .int (xs (i.toNatClampNeg + 1)), .ref b]) ejx132) ?_
    refine lv_aload_n hx hb dL_law_1151 rfl (lv_at hl 3 rfl) ?_
    refine lv_iload_n hx hb dL_law_1152 rfl (lv_at hl 0 rfl) ?_
    refine lv_iconst (v := 3) hx hb dL_law_1153 (by decide) ?_
    refine lv_iadd hx hb dL_law_1154 ?_
    refine lv_topi (fun x133 ex133 => ?_)
    have tx133 := i_add ex133 (by omega)
    have ejx133 : x133.toNatClampNeg = i.toNatClampNeg + 3 := by have h1 := i_cl (x := x133) (by omega); have h2 := i_cl (x := i) (by omega); omega
    refine va_sld hx hb hX hbl (Nat.not_le.mpr hbl) hSH104 (vp_in_iff.mpr (by omega)) dL_law_1155 ?_
    refine W.eq (g2 := F0 m 1156 ls [.int (xs (i.toNatClampNeg + 3)), .int (xs (i.toNatClampNeg + 2)), .int (xs (i.toNatClampNeg + 1)), .ref b]) (congrArg (fun z => F0 m 1156 ls [.int (xs z), .int (xs (i.toNatClampNeg + 2)), .int (xs (i.toNatClampNeg + 1)), .ref b]) ejx133) ?_
    refine x_V (As := [.int (xs (i.toNatClampNeg + 1)), .int (xs (i.toNatClampNeg + 2)), .int (xs (i.toNatClampNeg + 3))]) (rest := []) C (a_X10_tube_r l K G H104 ((xs (i.toNatClampNeg + 1))) ((xs (i.toNatClampNeg + 2))) ((xs (i.toNatClampNeg + 3))) (y1) hTH104 gb m116 g106 g107 g108 g109) yo_X10_tube wM_L_120 ⟨⟨by decide, by decide⟩, show _ ≤ 284929 by omega, show _ ≤ 8247460 by omega⟩ (x_rv C hTH104 (ci := 10) rfl gb rg_112) rfl hl.1 rfl (Nat.le_of_ble_eq_true rfl) dL_law_1156 hSH104 (AE_new hN hSH104.1) (fun vH134 H134 locsH134 pH134 zH134 kH134 hSH134 => ?_)
    obtain ⟨x135, hvH134, bx135, hrH134, g136, g137, g138, g139, mf140, hTH134⟩ := pH134
    subst hvH134
    have f141 : ∀ j : Nat, fI H134 tq j = fI H tq j := fun j => (fI_kept (x_lt hTH104 kH134 gtq (by decide))).trans (f110 j)
    have f142 : ∀ j : Nat, fI H134 uq j = fI H uq j := fun j => (fI_kept (x_lt hTH104 kH134 guq (by decide))).trans (f111 j)
    have m143 := (m112).trans (fR_kept (x_lt hTH104 kH134 ga (by decide))).symm
    have m144 := (m113).trans (fI_kept (x_lt hTH104 kH134 ga (by decide))).symm
    have m145 := (m115).trans (fI_kept (x_lt hTH104 kH134 gw (by decide))).symm
    have m146 := (m117).trans (fI_kept (x_lt hTH104 kH134 gw (by decide))).symm
    have m147 := (m119).trans (fI_kept (x_lt hTH104 kH134 gw (by decide))).symm
    have m148 := (m121).trans (fI_kept (x_lt hTH104 kH134 gw (by decide))).symm
    have m149 := (m123).trans (fI_kept (x_lt hTH104 kH134 gw (by decide))).symm
    have m150 := (m125).trans (fI_kept (x_lt hTH104 kH134 gw (by decide))).symm
    have m151 := (m127).trans (fR_kept (x_lt hTH104 kH134 ga (by decide))).symm
    have m152 := (fV_kept (x_lt hTH104 kH134 ga (by decide))).trans m130
    have m153 := (m114).trans (MF.i mf140 (k := 18) (by decide) (by decide)).symm
    have m154 := (m116).trans (MF.i mf140 (k := 1) (by decide) (by decide)).symm
    have m155 := (m118).trans (MF.i mf140 (k := 2) (by decide) (by decide)).symm
    have m156 := (m120).trans (MF.i mf140 (k := 3) (by decide) (by decide)).symm
    have m157 := (m122).trans (MF.i mf140 (k := 59) (by decide) (by decide)).symm
    have m158 := (m124).trans (MF.i mf140 (k := 62) (by decide) (by decide)).symm
    have m159 := (m126).trans (MF.i mf140 (k := 65) (by decide) (by decide)).symm
    have m160 := (m128).trans (MF.r mf140 (k := 17) (by decide) (by decide)).symm
    have m161 := (m129).trans (MF.i mf140 (k := 70) (by decide) (by decide)).symm
    refine W.eq (g2 := F0 m 1159 ls [.int x135]) rfl ?_
    refine lv_pop hx hb dL_law_1159 rfl ?_
    refine lv_goto (tgt := 1509) hx hb dL_law_1160 (by decide) ?_
    exact nx G H134 locsH134 _ _ ls ⟨hTH134, hN, ga, gb, g136, g137, g138, g139, ⟨(by rw [← m144, ← m153]; omega), (by rw [← m143, ← m145, ← m154]; omega), (by rw [← m143, ← m146, ← m155]; omega), (by rw [← m143, ← m147, ← m156]; omega), (by rw [← m143, ← m148, ← m157]; omega), (by rw [← m143, ← m149, ← m158]; omega), (by rw [← m143, ← m150, ← m159]; omega)⟩, Or.inl ⟨m152, (by rw [← m161]; omega)⟩, (by unfold TB; rw [← m151, ← m160, ← m153]; exact TBR.of htr f141 f142 (by omega)), hSH134⟩ hl ⟨by omega, by omega, fun _ => ⟨by omega, by omega⟩⟩
  · skip
    obtain ⟨hi, ehi⟩ : ∃ z : Int32, z = fI H b (K.1.2 10 70) := ⟨_, rfl⟩
    rw [← ehi] at h70
    obtain ⟨iq, eiq⟩ : ∃ z : Nat, z = fR H b (K.1.2 10 73) := ⟨_, rfl⟩
    have giq := ty_fr (q := iq) (k := 73) (u := 162) eiq hT gb rg_112 rfl
    rw [← eiq] at q1 q4 q5 q10 q13 q16
    obtain ⟨k1, ek1⟩ : ∃ z : Int32, z = fI H kq (K.1.2 8 1) := ⟨_, rfl⟩
    rw [← ek1] at q1
    obtain ⟨i1, ei1⟩ : ∃ z : Int32, z = fI H iq ((0 : Int32).toNatClampNeg) := ⟨_, rfl⟩
    rw [← ei1] at q1
    obtain ⟨k4, ek4⟩ : ∃ z : Int32, z = fI H kq (K.1.2 8 4) := ⟨_, rfl⟩
    rw [← ek4] at q4
    obtain ⟨i4, ei4⟩ : ∃ z : Int32, z = fI H iq ((1 : Int32).toNatClampNeg) := ⟨_, rfl⟩
    rw [← ei4] at q4
    obtain ⟨k5, ek5⟩ : ∃ z : Int32, z = fI H kq (K.1.2 8 5) := ⟨_, rfl⟩
    rw [← ek5] at q5
    obtain ⟨i5, ei5⟩ : ∃ z : Int32, z = fI H iq ((2 : Int32).toNatClampNeg) := ⟨_, rfl⟩
    rw [← ei5] at q5
    obtain ⟨k10, ek10⟩ : ∃ z : Int32, z = fI H kq (K.1.2 8 10) := ⟨_, rfl⟩
    rw [← ek10] at q10
    obtain ⟨i10, ei10⟩ : ∃ z : Int32, z = fI H iq ((3 : Int32).toNatClampNeg) := ⟨_, rfl⟩
    rw [← ei10] at q10
    obtain ⟨k13, ek13⟩ : ∃ z : Int32, z = fI H kq (K.1.2 8 13) := ⟨_, rfl⟩
    rw [← ek13] at q13
    obtain ⟨i13, ei13⟩ : ∃ z : Int32, z = fI H iq ((4 : Int32).toNatClampNeg) := ⟨_, rfl⟩
    rw [← ei13] at q13
    obtain ⟨k16, ek16⟩ : ∃ z : Int32, z = fI H kq (K.1.2 8 16) := ⟨_, rfl⟩
    rw [← ek16] at q16
    obtain ⟨i16, ei16⟩ : ∃ z : Int32, z = fI H iq ((5 : Int32).toNatClampNeg) := ⟨_, rfl⟩
    rw [← ei16] at q16
    refine lv_aload_n hx hb dL_law_1120 rfl (lv_at hl 2 rfl) ?_
    refine lv_aload_n hx hb dL_law_1121 rfl (lv_at hl 3 rfl) ?_
    refine lv_iload_n hx hb dL_law_1122 rfl (lv_at hl 0 rfl) ?_
    refine lv_iconst (v := 1) hx hb dL_law_1123 (by decide) ?_
    refine lv_iadd hx hb dL_law_1124 ?_
    refine lv_topi (fun x162 ex162 => ?_)
    have tx162 := i_add ex162 (by omega)
    have ejx162 : x162.toNatClampNeg = i.toNatClampNeg + 1 := by have h1 := i_cl (x := x162) (by omega); have h2 := i_cl (x := i) (by omega); omega
    refine va_sld hx hb hX hbl (Nat.not_le.mpr hbl) hS (vp_in_iff.mpr (by omega)) dL_law_1125 ?_
    refine W.eq (g2 := F0 m 1126 ls [.int (xs (i.toNatClampNeg + 1)), .ref a]) (congrArg (fun z => F0 m 1126 ls [.int (xs z), .ref a]) ejx162) ?_
    refine lv_aload_n hx hb dL_law_1126 rfl (lv_at hl 3 rfl) ?_
    refine lv_iload_n hx hb dL_law_1127 rfl (lv_at hl 0 rfl) ?_
    refine lv_iconst (v := 2) hx hb dL_law_1128 (by decide) ?_
    refine lv_iadd hx hb dL_law_1129 ?_
    refine lv_topi (fun x163 ex163 => ?_)
    have tx163 := i_add ex163 (by omega)
    have ejx163 : x163.toNatClampNeg = i.toNatClampNeg + 2 := by have h1 := i_cl (x := x163) (by omega); have h2 := i_cl (x := i) (by omega); omega
    refine va_sld hx hb hX hbl (Nat.not_le.mpr hbl) hS (vp_in_iff.mpr (by omega)) dL_law_1130 ?_
    refine W.eq (g2 := F0 m 1131 ls [.int (xs (i.toNatClampNeg + 2)), .int (xs (i.toNatClampNeg + 1)), .ref a]) (congrArg (fun z => F0 m 1131 ls [.int (xs z), .int (xs (i.toNatClampNeg + 1)), .ref a]) ejx163) ?_
    refine lv_aload_n hx hb dL_law_1131 rfl (lv_at hl 3 rfl) ?_
    refine lv_iload_n hx hb dL_law_1132 rfl (lv_at hl 0 rfl) ?_
    refine lv_iconst (v := 3) hx hb dL_law_1133 (by decide) ?_
    refine lv_iadd hx hb dL_law_1134 ?_
    refine lv_topi (fun x164 ex164 => ?_)
    have tx164 := i_add ex164 (by omega)
    have ejx164 : x164.toNatClampNeg = i.toNatClampNeg + 3 := by have h1 := i_cl (x := x164) (by omega); have h2 := i_cl (x := i) (by omega); omega
    refine va_sld hx hb hX hbl (Nat.not_le.mpr hbl) hS (vp_in_iff.mpr (by omega)) dL_law_1135 ?_
    refine W.eq (g2 := F0 m 1136 ls [.int (xs (i.toNatClampNeg + 3)), .int (xs (i.toNatClampNeg + 2)), .int (xs (i.toNatClampNeg + 1)), .ref a]) (congrArg (fun z => F0 m 1136 ls [.int (xs z), .int (xs (i.toNatClampNeg + 2)), .int (xs (i.toNatClampNeg + 1)), .ref a]) ejx164) ?_
    refine x_V (As := [.int (xs (i.toNatClampNeg + 1)), .int (xs (i.toNatClampNeg + 2)), .int (xs (i.toNatClampNeg + 3))]) (rest := []) C (a_X9_tube_r l K G H ((xs (i.toNatClampNeg + 1))) ((xs (i.toNatClampNeg + 2))) ((xs (i.toNatClampNeg + 3))) (s1) (s4) (s5) (s10) (s13) (s16) hT ga gw ew es1 es4 es5 es10 es13 es16) yo_X9_tube wM_L_117 ⟨⟨by decide, by decide⟩, show _ ≤ 284929 by omega, show _ ≤ 8247460 by omega⟩ (x_rv C hT (ci := 9) rfl ga rg_68) rfl hl.1 rfl (Nat.le_of_ble_eq_true rfl) dL_law_1136 hS (AE_new hN hS.1) (fun vH165 H165 locsH165 pH165 zH165 kH165 hSH165 => ?_)
    obtain ⟨x166, hvH165, bx166, hrH165, hTH165⟩ := pH165
    subst hvH165
    have g167 : CG (avw K H165 b) := CG.congr (fun k hk j => av_eff hT kH165 gb (by decide) (CG_eff [15] (by decide) k hk)) cg
    have g168 : TU (avw K H165 b) (svw K H165 b) := TU.congr (fun k hk j => av_eff hT kH165 gb (by decide) (TU_eff [15] (by decide) k hk)) (fun k hk => sv_eff hT kH165 gb (by decide)) tu
    have g169 : WD (avw K H165 b) := WD.congr (fun k hk j => av_eff hT kH165 gb (by decide) (WD_eff [15] (by decide) k hk)) wd
    have g170 : IM (avw K H165 b) := IM.congr (fun k hk j => av_eff hT kH165 gb (by decide) (IM_eff [15] (by decide) k hk)) im
    have f171 : ∀ j : Nat, fI H165 tq j = fI H tq j := fun j => (fI_kept (x_lt hT kH165 gtq (by decide))).trans (ft0 j)
    have f172 : ∀ j : Nat, fI H165 uq j = fI H uq j := fun j => (fI_kept (x_lt hT kH165 guq (by decide))).trans (fu0 j)
    have m173 := (ew).trans (fR_kept (x_lt hT kH165 ga (by decide))).symm
    have m174 := (eta).trans (fI_kept (x_lt hT kH165 ga (by decide))).symm
    have m175 := (etb).trans (fI_kept (x_lt hT kH165 gb (by decide))).symm
    have m176 := (es1).trans (fI_kept (x_lt hT kH165 gw (by decide))).symm
    have m177 := (ey1).trans (fI_kept (x_lt hT kH165 gb (by decide))).symm
    have m178 := (es4).trans (fI_kept (x_lt hT kH165 gw (by decide))).symm
    have m179 := (ey4).trans (fI_kept (x_lt hT kH165 gb (by decide))).symm
    have m180 := (es5).trans (fI_kept (x_lt hT kH165 gw (by decide))).symm
    have m181 := (ey5).trans (fI_kept (x_lt hT kH165 gb (by decide))).symm
    have m182 := (es10).trans (fI_kept (x_lt hT kH165 gw (by decide))).symm
    have m183 := (ey10).trans (fI_kept (x_lt hT kH165 gb (by decide))).symm
    have m184 := (es13).trans (fI_kept (x_lt hT kH165 gw (by decide))).symm
    have m185 := (ey13).trans (fI_kept (x_lt hT kH165 gb (by decide))).symm
    have m186 := (es16).trans (fI_kept (x_lt hT kH165 gw (by decide))).symm
    have m187 := (ey16).trans (fI_kept (x_lt hT kH165 gb (by decide))).symm
    have m188 := (etq).trans (fR_kept (x_lt hT kH165 ga (by decide))).symm
    have m189 := (euq).trans (fR_kept (x_lt hT kH165 gb (by decide))).symm
    have m190 := (ehi).trans (fI_kept (x_lt hT kH165 gb (by decide))).symm
    have m191 := (fV_kept (x_lt hT kH165 ga (by decide))).trans kn
    have m192 := (eiq).trans (fR_kept (x_lt hT kH165 gb (by decide))).symm
    have m193 := (ek1).trans (fI_kept (x_lt hT kH165 gkq (by decide))).symm
    have m194 := (ei1).trans (fI_kept (x_lt hT kH165 giq (by decide))).symm
    have m195 := (ek4).trans (fI_kept (x_lt hT kH165 gkq (by decide))).symm
    have m196 := (ei4).trans (fI_kept (x_lt hT kH165 giq (by decide))).symm
    have m197 := (ek5).trans (fI_kept (x_lt hT kH165 gkq (by decide))).symm
    have m198 := (ei5).trans (fI_kept (x_lt hT kH165 giq (by decide))).symm
    have m199 := (ek10).trans (fI_kept (x_lt hT kH165 gkq (by decide))).symm
    have m200 := (ei10).trans (fI_kept (x_lt hT kH165 giq (by decide))).symm
    have m201 := (ek13).trans (fI_kept (x_lt hT kH165 gkq (by decide))).symm
    have m202 := (ei13).trans (fI_kept (x_lt hT kH165 giq (by decide))).symm
    have m203 := (ek16).trans (fI_kept (x_lt hT kH165 gkq (by decide))).symm
    have m204 := (ei16).trans (fI_kept (x_lt hT kH165 giq (by decide))).symm
    refine W.eq (g2 := F0 m 1139 ls [.int x166]) rfl ?_
    refine lv_pop hx hb dL_law_1139 rfl ?_
    refine lv_aload_n hx hb dL_law_1140 rfl (lv_at hl 1 rfl) ?_
    refine lv_aload_n hx hb dL_law_1141 rfl (lv_at hl 3 rfl) ?_
    refine lv_iload_n hx hb dL_law_1142 rfl (lv_at hl 0 rfl) ?_
    refine lv_iconst (v := 1) hx hb dL_law_1143 (by decide) ?_
    refine lv_iadd hx hb dL_law_1144 ?_
    refine lv_topi (fun x205 ex205 => ?_)
    have tx205 := i_add ex205 (by omega)
    have ejx205 : x205.toNatClampNeg = i.toNatClampNeg + 1 := by have h1 := i_cl (x := x205) (by omega); have h2 := i_cl (x := i) (by omega); omega
    refine va_sld hx hb hX hbl (Nat.not_le.mpr hbl) hSH165 (vp_in_iff.mpr (by omega)) dL_law_1145 ?_
    refine W.eq (g2 := F0 m 1146 ls [.int (xs (i.toNatClampNeg + 1)), .ref b]) (congrArg (fun z => F0 m 1146 ls [.int (xs z), .ref b]) ejx205) ?_
    refine lv_aload_n hx hb dL_law_1146 rfl (lv_at hl 3 rfl) ?_
    refine lv_iload_n hx hb dL_law_1147 rfl (lv_at hl 0 rfl) ?_
    refine lv_iconst (v := 2) hx hb dL_law_1148 (by decide) ?_
    refine lv_iadd hx hb dL_law_1149 ?_
    refine lv_topi (fun x206 ex206 => ?_)
    have tx206 := i_add ex206 (by omega)
    have ejx206 : x206.toNatClampNeg = i.toNatClampNeg + 2 := by have h1 := i_cl (x := x206) (by omega); have h2 := i_cl (x := i) (by omega); omega
    refine va_sld hx hb hX hbl (Nat.not_le.mpr hbl) hSH165 (vp_in_iff.mpr (by omega)) dL_law_1150 ?_
    refine W.eq (g2 := F0 m 1151 ls [.int (xs (i.toNatClampNeg + 2)), .int (xs (i.toNatClampNeg + 1)), .ref b]) (congrArg (fun z => F0 m 1151 ls [.int (xs z), .int (xs (i.toNatClampNeg + 1)), .ref b]) ejx206) ?_
    refine lv_aload_n hx hb dL_law_1151 rfl (lv_at hl 3 rfl) ?_
    refine lv_iload_n hx hb dL_law_1152 rfl (lv_at hl 0 rfl) ?_
    refine lv_iconst (v := 3) hx hb dL_law_1153 (by decide) ?_
    refine lv_iadd hx hb dL_law_1154 ?_
    refine lv_topi (fun x207 ex207 => ?_)
    have tx207 := i_add ex207 (by omega)
    have ejx207 : x207.toNatClampNeg = i.toNatClampNeg + 3 := by have h1 := i_cl (x := x207) (by omega); have h2 := i_cl (x := i) (by omega); omega
    refine va_sld hx hb hX hbl (Nat.not_le.mpr hbl) hSH165 (vp_in_iff.mpr (by omega)) dL_law_1155 ?_
    refine W.eq (g2 := F0 m 1156 ls [.int (xs (i.toNatClampNeg + 3)), .int (xs (i.toNatClampNeg + 2)), .int (xs (i.toNatClampNeg + 1)), .ref b]) (congrArg (fun z => F0 m 1156 ls [.int (xs z), .int (xs (i.toNatClampNeg + 2)), .int (xs (i.toNatClampNeg + 1)), .ref b]) ejx207) ?_
    refine x_V (As := [.int (xs (i.toNatClampNeg + 1)), .int (xs (i.toNatClampNeg + 2)), .int (xs (i.toNatClampNeg + 3))]) (rest := []) C (a_X10_tube_r l K G H165 ((xs (i.toNatClampNeg + 1))) ((xs (i.toNatClampNeg + 2))) ((xs (i.toNatClampNeg + 3))) (y1) hTH165 gb m177 g167 g168 g169 g170) yo_X10_tube wM_L_120 ⟨⟨by decide, by decide⟩, show _ ≤ 284929 by omega, show _ ≤ 8247460 by omega⟩ (x_rv C hTH165 (ci := 10) rfl gb rg_112) rfl hl.1 rfl (Nat.le_of_ble_eq_true rfl) dL_law_1156 hSH165 (AE_new hN hSH165.1) (fun vH208 H208 locsH208 pH208 zH208 kH208 hSH208 => ?_)
    obtain ⟨x209, hvH208, bx209, hrH208, g210, g211, g212, g213, mf214, hTH208⟩ := pH208
    subst hvH208
    have f215 : ∀ j : Nat, fI H208 tq j = fI H tq j := fun j => (fI_kept (x_lt hTH165 kH208 gtq (by decide))).trans (f171 j)
    have f216 : ∀ j : Nat, fI H208 uq j = fI H uq j := fun j => (fI_kept (x_lt hTH165 kH208 guq (by decide))).trans (f172 j)
    have m217 := (m173).trans (fR_kept (x_lt hTH165 kH208 ga (by decide))).symm
    have m218 := (m174).trans (fI_kept (x_lt hTH165 kH208 ga (by decide))).symm
    have m219 := (m176).trans (fI_kept (x_lt hTH165 kH208 gw (by decide))).symm
    have m220 := (m178).trans (fI_kept (x_lt hTH165 kH208 gw (by decide))).symm
    have m221 := (m180).trans (fI_kept (x_lt hTH165 kH208 gw (by decide))).symm
    have m222 := (m182).trans (fI_kept (x_lt hTH165 kH208 gw (by decide))).symm
    have m223 := (m184).trans (fI_kept (x_lt hTH165 kH208 gw (by decide))).symm
    have m224 := (m186).trans (fI_kept (x_lt hTH165 kH208 gw (by decide))).symm
    have m225 := (m188).trans (fR_kept (x_lt hTH165 kH208 ga (by decide))).symm
    have m226 := (fV_kept (x_lt hTH165 kH208 ga (by decide))).trans m191
    have m227 := (m193).trans (fI_kept (x_lt hTH165 kH208 gkq (by decide))).symm
    have m228 := (m194).trans (fI_kept (x_lt hTH165 kH208 giq (by decide))).symm
    have m229 := (m195).trans (fI_kept (x_lt hTH165 kH208 gkq (by decide))).symm
    have m230 := (m196).trans (fI_kept (x_lt hTH165 kH208 giq (by decide))).symm
    have m231 := (m197).trans (fI_kept (x_lt hTH165 kH208 gkq (by decide))).symm
    have m232 := (m198).trans (fI_kept (x_lt hTH165 kH208 giq (by decide))).symm
    have m233 := (m199).trans (fI_kept (x_lt hTH165 kH208 gkq (by decide))).symm
    have m234 := (m200).trans (fI_kept (x_lt hTH165 kH208 giq (by decide))).symm
    have m235 := (m201).trans (fI_kept (x_lt hTH165 kH208 gkq (by decide))).symm
    have m236 := (m202).trans (fI_kept (x_lt hTH165 kH208 giq (by decide))).symm
    have m237 := (m203).trans (fI_kept (x_lt hTH165 kH208 gkq (by decide))).symm
    have m238 := (m204).trans (fI_kept (x_lt hTH165 kH208 giq (by decide))).symm
    have m239 := (m175).trans (MF.i mf214 (k := 18) (by decide) (by decide)).symm
    have m240 := (m177).trans (MF.i mf214 (k := 1) (by decide) (by decide)).symm
    have m241 := (m179).trans (MF.i mf214 (k := 2) (by decide) (by decide)).symm
    have m242 := (m181).trans (MF.i mf214 (k := 3) (by decide) (by decide)).symm
    have m243 := (m183).trans (MF.i mf214 (k := 59) (by decide) (by decide)).symm
    have m244 := (m185).trans (MF.i mf214 (k := 62) (by decide) (by decide)).symm
    have m245 := (m187).trans (MF.i mf214 (k := 65) (by decide) (by decide)).symm
    have m246 := (m189).trans (MF.r mf214 (k := 17) (by decide) (by decide)).symm
    have m247 := (m190).trans (MF.i mf214 (k := 70) (by decide) (by decide)).symm
    have m248 := (m192).trans (MF.r mf214 (k := 73) (by decide) (by decide)).symm
    refine W.eq (g2 := F0 m 1159 ls [.int x209]) rfl ?_
    refine lv_pop hx hb dL_law_1159 rfl ?_
    refine lv_goto (tgt := 1509) hx hb dL_law_1160 (by decide) ?_
    exact nx G H208 locsH208 _ _ ls ⟨hTH208, hN, ga, gb, g210, g211, g212, g213, ⟨(by rw [← m218, ← m239]; omega), (by rw [← m217, ← m219, ← m240]; omega), (by rw [← m217, ← m220, ← m241]; omega), (by rw [← m217, ← m221, ← m242]; omega), (by rw [← m217, ← m222, ← m243]; omega), (by rw [← m217, ← m223, ← m244]; omega), (by rw [← m217, ← m224, ← m245]; omega)⟩, Or.inr ⟨kq, m226, gkq, (by rw [← m247]; omega), (by rw [← m227, ← m248, ← m228]; omega), (by rw [← m229, ← m248, ← m230]; omega), (by rw [← m231, ← m248, ← m232]; omega), (by rw [← m233, ← m248, ← m234]; omega), (by rw [← m235, ← m248, ← m236]; omega), (by rw [← m237, ← m248, ← m238]; omega)⟩, (by unfold TB; rw [← m225, ← m246, ← m239]; exact TBR.of htr f215 f216 (by omega)), hSH208⟩ hl ⟨by omega, by omega, fun h => by have h1 := h.symm.trans m226; cases h1⟩
set_option maxRecDepth 100000 in
set_option maxHeartbeats 8000000 in
theorem lw_c25 {p : Program} {l : Launch} {e : Env} {s : State} {m : MethodId} {below : List Frame} {meth : Method} {c : Code} {K : KE} {b0 L : Nat} {xs : Nat → Int32} {G : Nat → Option Nat} {H : Heap} {locs : List Loc} {a b : Nat} {cells slots : Nat} {ls : Array Slot} {i : Int32} {n : Nat} (D : LC p K s m meth c b0 L xs) (S : SX K s G H locs a b) (hl : lv_has ls 4 [(3, .int i), (2, .ref b), (1, .ref a), (0, .ref b0)]) (hi : 0 ≤ i.toInt ∧ i.toInt + 6 ≤ L) (hn : n ≤ 511) (hB : BD K H a cells slots) (nx : ∀ (G : Nat → Option Nat) (H : Heap) (locs : List Loc) (cells slots : Nat) (ls : Array Slot), SX K s G H locs a b → lv_has ls 4 [(3, .int i), (2, .ref b), (1, .ref a), (0, .ref b0)] → BD K H a cells slots → W p l e room_1 s m #[Value.ref b0] below meth c H locs cells slots (lw_Z below #[Value.ref b0] s) (F0 m 1509 ls [])) : W p l e room_1 s m #[Value.ref b0] below meth c H locs cells slots (lw_Z below #[Value.ref b0] s) (F0 m 1163 ls []) := by
  obtain ⟨C, hX, hbl, hL⟩ := id D
  obtain ⟨hx, hb, hml, hown, hts, hKT, hr, hlocks, hnm⟩ := id C
  obtain ⟨hT, hN, ga, gb, cg, tu, wd, im, ⟨rt, r1, r4, r5, r10, r13, r16⟩, hk, htb, hS⟩ := S
  obtain ⟨hc, hs, hB0⟩ := hB
  have n_1 : (1 : Int32).toInt = 1 := rfl
  have n_2 : (2 : Int32).toInt = 2 := rfl
  have n_3 : (3 : Int32).toInt = 3 := rfl
  have n_4 : (4 : Int32).toInt = 4 := rfl
  obtain ⟨w, ew⟩ : ∃ z : Nat, z = fR H a (K.1.2 9 0) := ⟨_, rfl⟩
  have gw := ty_fr (q := w) (k := 0) (u := 0) ew hT ga rg_68 rfl
  rw [← ew] at r1 r4 r5 r10 r13 r16
  obtain ⟨ta, eta⟩ : ∃ z : Int32, z = fI H a (K.1.2 9 3) := ⟨_, rfl⟩
  rw [← eta] at rt
  obtain ⟨tb, etb⟩ : ∃ z : Int32, z = fI H b (K.1.2 10 18) := ⟨_, rfl⟩
  rw [← etb] at rt
  obtain ⟨s1, es1⟩ : ∃ z : Int32, z = fI H w (K.1.2 8 1) := ⟨_, rfl⟩
  rw [← es1] at r1
  obtain ⟨y1, ey1⟩ : ∃ z : Int32, z = fI H b (K.1.2 10 1) := ⟨_, rfl⟩
  rw [← ey1] at r1
  obtain ⟨s4, es4⟩ : ∃ z : Int32, z = fI H w (K.1.2 8 4) := ⟨_, rfl⟩
  rw [← es4] at r4
  obtain ⟨y4, ey4⟩ : ∃ z : Int32, z = fI H b (K.1.2 10 2) := ⟨_, rfl⟩
  rw [← ey4] at r4
  obtain ⟨s5, es5⟩ : ∃ z : Int32, z = fI H w (K.1.2 8 5) := ⟨_, rfl⟩
  rw [← es5] at r5
  obtain ⟨y5, ey5⟩ : ∃ z : Int32, z = fI H b (K.1.2 10 3) := ⟨_, rfl⟩
  rw [← ey5] at r5
  obtain ⟨s10, es10⟩ : ∃ z : Int32, z = fI H w (K.1.2 8 10) := ⟨_, rfl⟩
  rw [← es10] at r10
  obtain ⟨y10, ey10⟩ : ∃ z : Int32, z = fI H b (K.1.2 10 59) := ⟨_, rfl⟩
  rw [← ey10] at r10
  obtain ⟨s13, es13⟩ : ∃ z : Int32, z = fI H w (K.1.2 8 13) := ⟨_, rfl⟩
  rw [← es13] at r13
  obtain ⟨y13, ey13⟩ : ∃ z : Int32, z = fI H b (K.1.2 10 62) := ⟨_, rfl⟩
  rw [← ey13] at r13
  obtain ⟨s16, es16⟩ : ∃ z : Int32, z = fI H w (K.1.2 8 16) := ⟨_, rfl⟩
  rw [← es16] at r16
  obtain ⟨y16, ey16⟩ : ∃ z : Int32, z = fI H b (K.1.2 10 65) := ⟨_, rfl⟩
  rw [← ey16] at r16
  obtain ⟨tq, etq⟩ : ∃ z : Nat, z = fR H a (K.1.2 9 2) := ⟨_, rfl⟩
  have gtq := ty_fr (q := tq) (k := 2) (u := 108) etq hT ga rg_68 rfl
  obtain ⟨uq, euq⟩ : ∃ z : Nat, z = fR H b (K.1.2 10 17) := ⟨_, rfl⟩
  have guq := ty_fr (q := uq) (k := 17) (u := 126) euq hT gb rg_112 rfl
  have htr : TBR (fun j => fI H tq j) (fun j => fI H uq j) tb.toNatClampNeg := by rw [etq, euq, etb]; exact htb
  have ft0 : ∀ j : Nat, fI H tq j = fI H tq j := fun _ => rfl
  have fu0 : ∀ j : Nat, fI H uq j = fI H uq j := fun _ => rfl
  have bta := ty_fi (x := ta) (k := 3) eta hT ga rg_68 rfl
  have cta := i_cl (x := ta) (by omega)
  have btb := ty_fi (x := tb) (k := 18) etb hT gb rg_112 rfl
  have ctb := i_cl (x := tb) (by omega)
  rcases hk with ⟨kn, h70⟩ | ⟨kq, kn, gkq, h70, q1, q4, q5, q10, q13, q16⟩
  · skip
    obtain ⟨hi, ehi⟩ : ∃ z : Int32, z = fI H b (K.1.2 10 70) := ⟨_, rfl⟩
    rw [← ehi] at h70
    obtain ⟨hc0, hs0⟩ := hB0 kn
    refine lv_aload_n hx hb dL_law_1163 rfl (lv_at hl 2 rfl) ?_
    refine lv_aload_n hx hb dL_law_1164 rfl (lv_at hl 3 rfl) ?_
    refine lv_iload_n hx hb dL_law_1165 rfl (lv_at hl 0 rfl) ?_
    refine lv_iconst (v := 1) hx hb dL_law_1166 (by decide) ?_
    refine lv_iadd hx hb dL_law_1167 ?_
    refine lv_topi (fun x101 ex101 => ?_)
    have tx101 := i_add ex101 (by omega)
    have ejx101 : x101.toNatClampNeg = i.toNatClampNeg + 1 := by have h1 := i_cl (x := x101) (by omega); have h2 := i_cl (x := i) (by omega); omega
    refine va_sld hx hb hX hbl (Nat.not_le.mpr hbl) hS (vp_in_iff.mpr (by omega)) dL_law_1168 ?_
    refine W.eq (g2 := F0 m 1169 ls [.int (xs (i.toNatClampNeg + 1)), .ref a]) (congrArg (fun z => F0 m 1169 ls [.int (xs z), .ref a]) ejx101) ?_
    refine lv_aload_n hx hb dL_law_1169 rfl (lv_at hl 3 rfl) ?_
    refine lv_iload_n hx hb dL_law_1170 rfl (lv_at hl 0 rfl) ?_
    refine lv_iconst (v := 2) hx hb dL_law_1171 (by decide) ?_
    refine lv_iadd hx hb dL_law_1172 ?_
    refine lv_topi (fun x102 ex102 => ?_)
    have tx102 := i_add ex102 (by omega)
    have ejx102 : x102.toNatClampNeg = i.toNatClampNeg + 2 := by have h1 := i_cl (x := x102) (by omega); have h2 := i_cl (x := i) (by omega); omega
    refine va_sld hx hb hX hbl (Nat.not_le.mpr hbl) hS (vp_in_iff.mpr (by omega)) dL_law_1173 ?_
    refine W.eq (g2 := F0 m 1174 ls [.int (xs (i.toNatClampNeg + 2)), .int (xs (i.toNatClampNeg + 1)), .ref a]) (congrArg (fun z => F0 m 1174 ls [.int (xs z), .int (xs (i.toNatClampNeg + 1)), .ref a]) ejx102) ?_
    refine lv_aload_n hx hb dL_law_1174 rfl (lv_at hl 3 rfl) ?_
    refine lv_iload_n hx hb dL_law_1175 rfl (lv_at hl 0 rfl) ?_
    refine lv_iconst (v := 3) hx hb dL_law_1176 (by decide) ?_
    refine lv_iadd hx hb dL_law_1177 ?_
    refine lv_topi (fun x103 ex103 => ?_)
    have tx103 := i_add ex103 (by omega)
    have ejx103 : x103.toNatClampNeg = i.toNatClampNeg + 3 := by have h1 := i_cl (x := x103) (by omega); have h2 := i_cl (x := i) (by omega); omega
    refine va_sld hx hb hX hbl (Nat.not_le.mpr hbl) hS (vp_in_iff.mpr (by omega)) dL_law_1178 ?_
    refine W.eq (g2 := F0 m 1179 ls [.int (xs (i.toNatClampNeg + 3)), .int (xs (i.toNatClampNeg + 2)), .int (xs (i.toNatClampNeg + 1)), .ref a]) (congrArg (fun z => F0 m 1179 ls [.int (xs z), .int (xs (i.toNatClampNeg + 2)), .int (xs (i.toNatClampNeg + 1)), .ref a]) ejx103) ?_
    refine lv_aload_n hx hb dL_law_1179 rfl (lv_at hl 3 rfl) ?_
    refine lv_iload_n hx hb dL_law_1180 rfl (lv_at hl 0 rfl) ?_
    refine lv_iconst (v := 4) hx hb dL_law_1181 (by decide) ?_
    refine lv_iadd hx hb dL_law_1182 ?_
    refine lv_topi (fun x104 ex104 => ?_)
    have tx104 := i_add ex104 (by omega)
    have ejx104 : x104.toNatClampNeg = i.toNatClampNeg + 4 := by have h1 := i_cl (x := x104) (by omega); have h2 := i_cl (x := i) (by omega); omega
    refine va_sld hx hb hX hbl (Nat.not_le.mpr hbl) hS (vp_in_iff.mpr (by omega)) dL_law_1183 ?_
    refine W.eq (g2 := F0 m 1184 ls [.int (xs (i.toNatClampNeg + 4)), .int (xs (i.toNatClampNeg + 3)), .int (xs (i.toNatClampNeg + 2)), .int (xs (i.toNatClampNeg + 1)), .ref a]) (congrArg (fun z => F0 m 1184 ls [.int (xs z), .int (xs (i.toNatClampNeg + 3)), .int (xs (i.toNatClampNeg + 2)), .int (xs (i.toNatClampNeg + 1)), .ref a]) ejx104) ?_
    refine x_V (As := [.int (xs (i.toNatClampNeg + 1)), .int (xs (i.toNatClampNeg + 2)), .int (xs (i.toNatClampNeg + 3)), .int (xs (i.toNatClampNeg + 4))]) (rest := []) C (a_X9_in l K G H ((xs (i.toNatClampNeg + 1))) ((xs (i.toNatClampNeg + 2))) ((xs (i.toNatClampNeg + 3))) ((xs (i.toNatClampNeg + 4))) hT ga) yo_X9_in wM_L_121 ⟨⟨by decide, by decide⟩, show _ ≤ 284929 by omega, show _ ≤ 8247460 by omega⟩ (x_rv C hT (ci := 9) rfl ga rg_68) rfl hl.1 rfl (Nat.le_of_ble_eq_true rfl) dL_law_1184 hS (AE_new hN hS.1) (fun vH105 H105 locsH105 pH105 zH105 kH105 hSH105 => ?_)
    obtain ⟨x106, hvH105, hTH105⟩ := pH105
    subst hvH105
    have g107 : CG (avw K H105 b) := CG.congr (fun k hk j => av_eff hT kH105 gb (by decide) (CG_eff [83, 84] (by decide) k hk)) cg
    have g108 : TU (avw K H105 b) (svw K H105 b) := TU.congr (fun k hk j => av_eff hT kH105 gb (by decide) (TU_eff [83, 84] (by decide) k hk)) (fun k hk => sv_eff hT kH105 gb (by decide)) tu
    have g109 : WD (avw K H105 b) := WD.congr (fun k hk j => av_eff hT kH105 gb (by decide) (WD_eff [83, 84] (by decide) k hk)) wd
    have g110 : IM (avw K H105 b) := IM.congr (fun k hk j => av_eff hT kH105 gb (by decide) (IM_eff [83, 84] (by decide) k hk)) im
    have f111 : ∀ j : Nat, fI H105 tq j = fI H tq j := fun j => (fI_kept (x_lt hT kH105 gtq (by decide))).trans (ft0 j)
    have f112 : ∀ j : Nat, fI H105 uq j = fI H uq j := fun j => (fI_kept (x_lt hT kH105 guq (by decide))).trans (fu0 j)
    have m113 := (ew).trans (fR_kept (x_lt hT kH105 ga (by decide))).symm
    have m114 := (eta).trans (fI_kept (x_lt hT kH105 ga (by decide))).symm
    have m115 := (etb).trans (fI_kept (x_lt hT kH105 gb (by decide))).symm
    have m116 := (es1).trans (fI_kept (x_lt hT kH105 gw (by decide))).symm
    have m117 := (ey1).trans (fI_kept (x_lt hT kH105 gb (by decide))).symm
    have m118 := (es4).trans (fI_kept (x_lt hT kH105 gw (by decide))).symm
    have m119 := (ey4).trans (fI_kept (x_lt hT kH105 gb (by decide))).symm
    have m120 := (es5).trans (fI_kept (x_lt hT kH105 gw (by decide))).symm
    have m121 := (ey5).trans (fI_kept (x_lt hT kH105 gb (by decide))).symm
    have m122 := (es10).trans (fI_kept (x_lt hT kH105 gw (by decide))).symm
    have m123 := (ey10).trans (fI_kept (x_lt hT kH105 gb (by decide))).symm
    have m124 := (es13).trans (fI_kept (x_lt hT kH105 gw (by decide))).symm
    have m125 := (ey13).trans (fI_kept (x_lt hT kH105 gb (by decide))).symm
    have m126 := (es16).trans (fI_kept (x_lt hT kH105 gw (by decide))).symm
    have m127 := (ey16).trans (fI_kept (x_lt hT kH105 gb (by decide))).symm
    have m128 := (etq).trans (fR_kept (x_lt hT kH105 ga (by decide))).symm
    have m129 := (euq).trans (fR_kept (x_lt hT kH105 gb (by decide))).symm
    have m130 := (ehi).trans (fI_kept (x_lt hT kH105 gb (by decide))).symm
    have m131 := (fV_kept (x_lt hT kH105 ga (by decide))).trans kn
    refine W.eq (g2 := F0 m 1187 ls [.int x106]) rfl ?_
    refine lv_pop hx hb dL_law_1187 rfl ?_
    refine lv_aload_n hx hb dL_law_1188 rfl (lv_at hl 1 rfl) ?_
    refine lv_aload_n hx hb dL_law_1189 rfl (lv_at hl 3 rfl) ?_
    refine lv_iload_n hx hb dL_law_1190 rfl (lv_at hl 0 rfl) ?_
    refine lv_iconst (v := 1) hx hb dL_law_1191 (by decide) ?_
    refine lv_iadd hx hb dL_law_1192 ?_
    refine lv_topi (fun x132 ex132 => ?_)
    have tx132 := i_add ex132 (by omega)
    have ejx132 : x132.toNatClampNeg = i.toNatClampNeg + 1 := by have h1 := i_cl (x := x132) (by omega); have h2 := i_cl (x := i) (by omega); omega
    refine va_sld hx hb hX hbl (Nat.not_le.mpr hbl) hSH105 (vp_in_iff.mpr (by omega)) dL_law_1193 ?_
    refine W.eq (g2 := F0 m 1194 ls [.int (xs (i.toNatClampNeg + 1)), .ref b]) (congrArg (fun z => F0 m 1194 ls [.int (xs z), .ref b]) ejx132) ?_
    refine lv_aload_n hx hb dL_law_1194 rfl (lv_at hl 3 rfl) ?_
    refine lv_iload_n hx hb dL_law_1195 rfl (lv_at hl 0 rfl) ?_
    refine lv_iconst (v := 2) hx hb dL_law_1196 (by decide) ?_
    refine lv_iadd hx hb dL_law_1197 ?_
    refine lv_topi (fun x133 ex133 => ?_)
    have tx133 := i_add ex133 (by omega)
    have ejx133 : x133.toNatClampNeg = i.toNatClampNeg + 2 := by have h1 := i_cl (x := x133) (by omega); have h2 := i_cl (x := i) (by omega); omega
    refine va_sld hx hb hX hbl (Nat.not_le.mpr hbl) hSH105 (vp_in_iff.mpr (by omega)) dL_law_1198 ?_
    refine W.eq (g2 := F0 m 1199 ls [.int (xs (i.toNatClampNeg + 2)), .int (xs (i.toNatClampNeg + 1)), .ref b]) (congrArg (fun z => F0 m 1199 ls [.int (xs z), .int (xs (i.toNatClampNeg + 1)), .ref b]) ejx133) ?_
    refine lv_aload_n hx hb dL_law_1199 rfl (lv_at hl 3 rfl) ?_
    refine lv_iload_n hx hb dL_law_1200 rfl (lv_at hl 0 rfl) ?_
    refine lv_iconst (v := 3) hx hb dL_law_1201 (by decide) ?_
    refine lv_iadd hx hb dL_law_1202 ?_
    refine lv_topi (fun x134 ex134 => ?_)
    have tx134 := i_add ex134 (by omega)
    have ejx134 : x134.toNatClampNeg = i.toNatClampNeg + 3 := by have h1 := i_cl (x := x134) (by omega); have h2 := i_cl (x := i) (by omega); omega
    refine va_sld hx hb hX hbl (Nat.not_le.mpr hbl) hSH105 (vp_in_iff.mpr (by omega)) dL_law_1203 ?_
    refine W.eq (g2 := F0 m 1204 ls [.int (xs (i.toNatClampNeg + 3)), .int (xs (i.toNatClampNeg + 2)), .int (xs (i.toNatClampNeg + 1)), .ref b]) (congrArg (fun z => F0 m 1204 ls [.int (xs z), .int (xs (i.toNatClampNeg + 2)), .int (xs (i.toNatClampNeg + 1)), .ref b]) ejx134) ?_
    refine lv_aload_n hx hb dL_law_1204 rfl (lv_at hl 3 rfl) ?_
    refine lv_iload_n hx hb dL_law_1205 rfl (lv_at hl 0 rfl) ?_
    refine lv_iconst (v := 4) hx hb dL_law_1206 (by decide) ?_
    refine lv_iadd hx hb dL_law_1207 ?_
    refine lv_topi (fun x135 ex135 => ?_)
    have tx135 := i_add ex135 (by omega)
    have ejx135 : x135.toNatClampNeg = i.toNatClampNeg + 4 := by have h1 := i_cl (x := x135) (by omega); have h2 := i_cl (x := i) (by omega); omega
    refine va_sld hx hb hX hbl (Nat.not_le.mpr hbl) hSH105 (vp_in_iff.mpr (by omega)) dL_law_1208 ?_
    refine W.eq (g2 := F0 m 1209 ls [.int (xs (i.toNatClampNeg + 4)), .int (xs (i.toNatClampNeg + 3)), .int (xs (i.toNatClampNeg + 2)), .int (xs (i.toNatClampNeg + 1)), .ref b]) (congrArg (fun z => F0 m 1209 ls [.int (xs z), .int (xs (i.toNatClampNeg + 3)), .int (xs (i.toNatClampNeg + 2)), .int (xs (i.toNatClampNeg + 1)), .ref b]) ejx135) ?_
    refine x_V (As := [.int (xs (i.toNatClampNeg + 1)), .int (xs (i.toNatClampNeg + 2)), .int (xs (i.toNatClampNeg + 3)), .int (xs (i.toNatClampNeg + 4))]) (rest := []) C (a_X10_in l K G H105 ((xs (i.toNatClampNeg + 1))) ((xs (i.toNatClampNeg + 2))) ((xs (i.toNatClampNeg + 3))) ((xs (i.toNatClampNeg + 4))) (y1) hTH105 gb m117 g107 g108 g109 g110) yo_X10_in wM_L_124 ⟨⟨by decide, by decide⟩, show _ ≤ 284929 by omega, show _ ≤ 8247460 by omega⟩ (x_rv C hTH105 (ci := 10) rfl gb rg_112) rfl hl.1 rfl (Nat.le_of_ble_eq_true rfl) dL_law_1209 hSH105 (AE_new hN hSH105.1) (fun vH136 H136 locsH136 pH136 zH136 kH136 hSH136 => ?_)
    obtain ⟨x137, hvH136, g138, g139, g140, g141, mf142, hTH136⟩ := pH136
    subst hvH136
    have f143 : ∀ j : Nat, fI H136 tq j = fI H tq j := fun j => (fI_kept (x_lt hTH105 kH136 gtq (by decide))).trans (f111 j)
    have f144 : ∀ j : Nat, fI H136 uq j = fI H uq j := fun j => (fI_kept (x_lt hTH105 kH136 guq (by decide))).trans (f112 j)
    have m145 := (m113).trans (fR_kept (x_lt hTH105 kH136 ga (by decide))).symm
    have m146 := (m114).trans (fI_kept (x_lt hTH105 kH136 ga (by decide))).symm
    have m147 := (m116).trans (fI_kept (x_lt hTH105 kH136 gw (by decide))).symm
    have m148 := (m118).trans (fI_kept (x_lt hTH105 kH136 gw (by decide))).symm
    have m149 := (m120).trans (fI_kept (x_lt hTH105 kH136 gw (by decide))).symm
    have m150 := (m122).trans (fI_kept (x_lt hTH105 kH136 gw (by decide))).symm
    have m151 := (m124).trans (fI_kept (x_lt hTH105 kH136 gw (by decide))).symm
    have m152 := (m126).trans (fI_kept (x_lt hTH105 kH136 gw (by decide))).symm
    have m153 := (m128).trans (fR_kept (x_lt hTH105 kH136 ga (by decide))).symm
    have m154 := (fV_kept (x_lt hTH105 kH136 ga (by decide))).trans m131
    have m155 := (m115).trans (MF.i mf142 (k := 18) (by decide) (by decide)).symm
    have m156 := (m117).trans (MF.i mf142 (k := 1) (by decide) (by decide)).symm
    have m157 := (m119).trans (MF.i mf142 (k := 2) (by decide) (by decide)).symm
    have m158 := (m121).trans (MF.i mf142 (k := 3) (by decide) (by decide)).symm
    have m159 := (m123).trans (MF.i mf142 (k := 59) (by decide) (by decide)).symm
    have m160 := (m125).trans (MF.i mf142 (k := 62) (by decide) (by decide)).symm
    have m161 := (m127).trans (MF.i mf142 (k := 65) (by decide) (by decide)).symm
    have m162 := (m129).trans (MF.r mf142 (k := 17) (by decide) (by decide)).symm
    have m163 := (m130).trans (MF.i mf142 (k := 70) (by decide) (by decide)).symm
    refine W.eq (g2 := F0 m 1212 ls [.int x137]) rfl ?_
    refine lv_pop hx hb dL_law_1212 rfl ?_
    refine lv_goto (tgt := 1509) hx hb dL_law_1213 (by decide) ?_
    exact nx G H136 locsH136 _ _ ls ⟨hTH136, hN, ga, gb, g138, g139, g140, g141, ⟨(by rw [← m146, ← m155]; omega), (by rw [← m145, ← m147, ← m156]; omega), (by rw [← m145, ← m148, ← m157]; omega), (by rw [← m145, ← m149, ← m158]; omega), (by rw [← m145, ← m150, ← m159]; omega), (by rw [← m145, ← m151, ← m160]; omega), (by rw [← m145, ← m152, ← m161]; omega)⟩, Or.inl ⟨m154, (by rw [← m163]; omega)⟩, (by unfold TB; rw [← m153, ← m162, ← m155]; exact TBR.of htr f143 f144 (by omega)), hSH136⟩ hl ⟨by omega, by omega, fun _ => ⟨by omega, by omega⟩⟩
  · skip
    obtain ⟨hi, ehi⟩ : ∃ z : Int32, z = fI H b (K.1.2 10 70) := ⟨_, rfl⟩
    rw [← ehi] at h70
    obtain ⟨iq, eiq⟩ : ∃ z : Nat, z = fR H b (K.1.2 10 73) := ⟨_, rfl⟩
    have giq := ty_fr (q := iq) (k := 73) (u := 162) eiq hT gb rg_112 rfl
    rw [← eiq] at q1 q4 q5 q10 q13 q16
    obtain ⟨k1, ek1⟩ : ∃ z : Int32, z = fI H kq (K.1.2 8 1) := ⟨_, rfl⟩
    rw [← ek1] at q1
    obtain ⟨i1, ei1⟩ : ∃ z : Int32, z = fI H iq ((0 : Int32).toNatClampNeg) := ⟨_, rfl⟩
    rw [← ei1] at q1
    obtain ⟨k4, ek4⟩ : ∃ z : Int32, z = fI H kq (K.1.2 8 4) := ⟨_, rfl⟩
    rw [← ek4] at q4
    obtain ⟨i4, ei4⟩ : ∃ z : Int32, z = fI H iq ((1 : Int32).toNatClampNeg) := ⟨_, rfl⟩
    rw [← ei4] at q4
    obtain ⟨k5, ek5⟩ : ∃ z : Int32, z = fI H kq (K.1.2 8 5) := ⟨_, rfl⟩
    rw [← ek5] at q5
    obtain ⟨i5, ei5⟩ : ∃ z : Int32, z = fI H iq ((2 : Int32).toNatClampNeg) := ⟨_, rfl⟩
    rw [← ei5] at q5
    obtain ⟨k10, ek10⟩ : ∃ z : Int32, z = fI H kq (K.1.2 8 10) := ⟨_, rfl⟩
    rw [← ek10] at q10
    obtain ⟨i10, ei10⟩ : ∃ z : Int32, z = fI H iq ((3 : Int32).toNatClampNeg) := ⟨_, rfl⟩
    rw [← ei10] at q10
    obtain ⟨k13, ek13⟩ : ∃ z : Int32, z = fI H kq (K.1.2 8 13) := ⟨_, rfl⟩
    rw [← ek13] at q13
    obtain ⟨i13, ei13⟩ : ∃ z : Int32, z = fI H iq ((4 : Int32).toNatClampNeg) := ⟨_, rfl⟩
    rw [← ei13] at q13
    obtain ⟨k16, ek16⟩ : ∃ z : Int32, z = fI H kq (K.1.2 8 16) := ⟨_, rfl⟩
    rw [← ek16] at q16
    obtain ⟨i16, ei16⟩ : ∃ z : Int32, z = fI H iq ((5 : Int32).toNatClampNeg) := ⟨_, rfl⟩
    rw [← ei16] at q16
    refine lv_aload_n hx hb dL_law_1163 rfl (lv_at hl 2 rfl) ?_
    refine lv_aload_n hx hb dL_law_1164 rfl (lv_at hl 3 rfl) ?_
    refine lv_iload_n hx hb dL_law_1165 rfl (lv_at hl 0 rfl) ?_
    refine lv_iconst (v := 1) hx hb dL_law_1166 (by decide) ?_
    refine lv_iadd hx hb dL_law_1167 ?_
    refine lv_topi (fun x164 ex164 => ?_)
    have tx164 := i_add ex164 (by omega)
    have ejx164 : x164.toNatClampNeg = i.toNatClampNeg + 1 := by have h1 := i_cl (x := x164) (by omega); have h2 := i_cl (x := i) (by omega); omega
    refine va_sld hx hb hX hbl (Nat.not_le.mpr hbl) hS (vp_in_iff.mpr (by omega)) dL_law_1168 ?_
    refine W.eq (g2 := F0 m 1169 ls [.int (xs (i.toNatClampNeg + 1)), .ref a]) (congrArg (fun z => F0 m 1169 ls [.int (xs z), .ref a]) ejx164) ?_
    refine lv_aload_n hx hb dL_law_1169 rfl (lv_at hl 3 rfl) ?_
    refine lv_iload_n hx hb dL_law_1170 rfl (lv_at hl 0 rfl) ?_
    refine lv_iconst (v := 2) hx hb dL_law_1171 (by decide) ?_
    refine lv_iadd hx hb dL_law_1172 ?_
    refine lv_topi (fun x165 ex165 => ?_)
    have tx165 := i_add ex165 (by omega)
    have ejx165 : x165.toNatClampNeg = i.toNatClampNeg + 2 := by have h1 := i_cl (x := x165) (by omega); have h2 := i_cl (x := i) (by omega); omega
    refine va_sld hx hb hX hbl (Nat.not_le.mpr hbl) hS (vp_in_iff.mpr (by omega)) dL_law_1173 ?_
    refine W.eq (g2 := F0 m 1174 ls [.int (xs (i.toNatClampNeg + 2)), .int (xs (i.toNatClampNeg + 1)), .ref a]) (congrArg (fun z => F0 m 1174 ls [.int (xs z), .int (xs (i.toNatClampNeg + 1)), .ref a]) ejx165) ?_
    refine lv_aload_n hx hb dL_law_1174 rfl (lv_at hl 3 rfl) ?_
    refine lv_iload_n hx hb dL_law_1175 rfl (lv_at hl 0 rfl) ?_
    refine lv_iconst (v := 3) hx hb dL_law_1176 (by decide) ?_
    refine lv_iadd hx hb dL_law_1177 ?_
    refine lv_topi (fun x166 ex166 => ?_)
    have tx166 := i_add ex166 (by omega)
    have ejx166 : x166.toNatClampNeg = i.toNatClampNeg + 3 := by have h1 := i_cl (x := x166) (by omega); have h2 := i_cl (x := i) (by omega); omega
    refine va_sld hx hb hX hbl (Nat.not_le.mpr hbl) hS (vp_in_iff.mpr (by omega)) dL_law_1178 ?_
    refine W.eq (g2 := F0 m 1179 ls [.int (xs (i.toNatClampNeg + 3)), .int (xs (i.toNatClampNeg + 2)), .int (xs (i.toNatClampNeg + 1)), .ref a]) (congrArg (fun z => F0 m 1179 ls [.int (xs z), .int (xs (i.toNatClampNeg + 2)), .int (xs (i.toNatClampNeg + 1)), .ref a]) ejx166) ?_
    refine lv_aload_n hx hb dL_law_1179 rfl (lv_at hl 3 rfl) ?_
    refine lv_iload_n hx hb dL_law_1180 rfl (lv_at hl 0 rfl) ?_
    refine lv_iconst (v := 4) hx hb dL_law_1181 (by decide) ?_
    refine lv_iadd hx hb dL_law_1182 ?_
    refine lv_topi (fun x167 ex167 => ?_)
    have tx167 := i_add ex167 (by omega)
    have ejx167 : x167.toNatClampNeg = i.toNatClampNeg + 4 := by have h1 := i_cl (x := x167) (by omega); have h2 := i_cl (x := i) (by omega); omega
    refine va_sld hx hb hX hbl (Nat.not_le.mpr hbl) hS (vp_in_iff.mpr (by omega)) dL_law_1183 ?_
    refine W.eq (g2 := F0 m 1184 ls [.int (xs (i.toNatClampNeg + 4)), .int (xs (i.toNatClampNeg + 3)), .int (xs (i.toNatClampNeg + 2)), .int (xs (i.toNatClampNeg + 1)), .ref a]) (congrArg (fun z => F0 m 1184 ls [.int (xs z), .int (xs (i.toNatClampNeg + 3)), .int (xs (i.toNatClampNeg + 2)), .int (xs (i.toNatClampNeg + 1)), .ref a]) ejx167) ?_
    refine x_V (As := [.int (xs (i.toNatClampNeg + 1)), .int (xs (i.toNatClampNeg + 2)), .int (xs (i.toNatClampNeg + 3)), .int (xs (i.toNatClampNeg + 4))]) (rest := []) C (a_X9_in l K G H ((xs (i.toNatClampNeg + 1))) ((xs (i.toNatClampNeg + 2))) ((xs (i.toNatClampNeg + 3))) ((xs (i.toNatClampNeg + 4))) hT ga) yo_X9_in wM_L_121 ⟨⟨by decide, by decide⟩, show _ ≤ 284929 by omega, show _ ≤ 8247460 by omega⟩ (x_rv C hT (ci := 9) rfl ga rg_68) rfl hl.1 rfl (Nat.le_of_ble_eq_true rfl) dL_law_1184 hS (AE_new hN hS.1) (fun vH168 H168 locsH168 pH168 zH168 kH168 hSH168 => ?_)
    obtain ⟨x169, hvH168, hTH168⟩ := pH168
    subst hvH168
    have g170 : CG (avw K H168 b) := CG.congr (fun k hk j => av_eff hT kH168 gb (by decide) (CG_eff [83, 84] (by decide) k hk)) cg
    have g171 : TU (avw K H168 b) (svw K H168 b) := TU.congr (fun k hk j => av_eff hT kH168 gb (by decide) (TU_eff [83, 84] (by decide) k hk)) (fun k hk => sv_eff hT kH168 gb (by decide)) tu
    have g172 : WD (avw K H168 b) := WD.congr (fun k hk j => av_eff hT kH168 gb (by decide) (WD_eff [83, 84] (by decide) k hk)) wd
    have g173 : IM (avw K H168 b) := IM.congr (fun k hk j => av_eff hT kH168 gb (by decide) (IM_eff [83, 84] (by decide) k hk)) im
    have f174 : ∀ j : Nat, fI H168 tq j = fI H tq j := fun j => (fI_kept (x_lt hT kH168 gtq (by decide))).trans (ft0 j)
    have f175 : ∀ j : Nat, fI H168 uq j = fI H uq j := fun j => (fI_kept (x_lt hT kH168 guq (by decide))).trans (fu0 j)
    have m176 := (ew).trans (fR_kept (x_lt hT kH168 ga (by decide))).symm
    have m177 := (eta).trans (fI_kept (x_lt hT kH168 ga (by decide))).symm
    have m178 := (etb).trans (fI_kept (x_lt hT kH168 gb (by decide))).symm
    have m179 := (es1).trans (fI_kept (x_lt hT kH168 gw (by decide))).symm
    have m180 := (ey1).trans (fI_kept (x_lt hT kH168 gb (by decide))).symm
    have m181 := (es4).trans (fI_kept (x_lt hT kH168 gw (by decide))).symm
    have m182 := (ey4).trans (fI_kept (x_lt hT kH168 gb (by decide))).symm
    have m183 := (es5).trans (fI_kept (x_lt hT kH168 gw (by decide))).symm
    have m184 := (ey5).trans (fI_kept (x_lt hT kH168 gb (by decide))).symm
    have m185 := (es10).trans (fI_kept (x_lt hT kH168 gw (by decide))).symm
    have m186 := (ey10).trans (fI_kept (x_lt hT kH168 gb (by decide))).symm
    have m187 := (es13).trans (fI_kept (x_lt hT kH168 gw (by decide))).symm
    have m188 := (ey13).trans (fI_kept (x_lt hT kH168 gb (by decide))).symm
    have m189 := (es16).trans (fI_kept (x_lt hT kH168 gw (by decide))).symm
    have m190 := (ey16).trans (fI_kept (x_lt hT kH168 gb (by decide))).symm
    have m191 := (etq).trans (fR_kept (x_lt hT kH168 ga (by decide))).symm
    have m192 := (euq).trans (fR_kept (x_lt hT kH168 gb (by decide))).symm
    have m193 := (ehi).trans (fI_kept (x_lt hT kH168 gb (by decide))).symm
    have m194 := (fV_kept (x_lt hT kH168 ga (by decide))).trans kn
    have m195 := (eiq).trans (fR_kept (x_lt hT kH168 gb (by decide))).symm
    have m196 := (ek1).trans (fI_kept (x_lt hT kH168 gkq (by decide))).symm
    have m197 := (ei1).trans (fI_kept (x_lt hT kH168 giq (by decide))).symm
    have m198 := (ek4).trans (fI_kept (x_lt hT kH168 gkq (by decide))).symm
    have m199 := (ei4).trans (fI_kept (x_lt hT kH168 giq (by decide))).symm
    have m200 := (ek5).trans (fI_kept (x_lt hT kH168 gkq (by decide))).symm
    have m201 := (ei5).trans (fI_kept (x_lt hT kH168 giq (by decide))).symm
    have m202 := (ek10).trans (fI_kept (x_lt hT kH168 gkq (by decide))).symm
    have m203 := (ei10).trans (fI_kept (x_lt hT kH168 giq (by decide))).symm
    have m204 := (ek13).trans (fI_kept (x_lt hT kH168 gkq (by decide))).symm
    have m205 := (ei13).trans (fI_kept (x_lt hT kH168 giq (by decide))).symm
    have m206 := (ek16).trans (fI_kept (x_lt hT kH168 gkq (by decide))).symm
    have m207 := (ei16).trans (fI_kept (x_lt hT kH168 giq (by decide))).symm
    refine W.eq (g2 := F0 m 1187 ls [.int x169]) rfl ?_
    refine lv_pop hx hb dL_law_1187 rfl ?_
    refine lv_aload_n hx hb dL_law_1188 rfl (lv_at hl 1 rfl) ?_
    refine lv_aload_n hx hb dL_law_1189 rfl (lv_at hl 3 rfl) ?_
    refine lv_iload_n hx hb dL_law_1190 rfl (lv_at hl 0 rfl) ?_
    refine lv_iconst (v := 1) hx hb dL_law_1191 (by decide) ?_
    refine lv_iadd hx hb dL_law_1192 ?_
    refine lv_topi (fun x208 ex208 => ?_)
    have tx208 := i_add ex208 (by omega)
    have ejx208 : x208.toNatClampNeg = i.toNatClampNeg + 1 := by have h1 := i_cl (x := x208) (by omega); have h2 := i_cl (x := i) (by omega); omega
    refine va_sld hx hb hX hbl (Nat.not_le.mpr hbl) hSH168 (vp_in_iff.mpr (by omega)) dL_law_1193 ?_
    refine W.eq (g2 := F0 m 1194 ls [.int (xs (i.toNatClampNeg + 1)), .ref b]) (congrArg (fun z => F0 m 1194 ls [.int (xs z), .ref b]) ejx208) ?_
    refine lv_aload_n hx hb dL_law_1194 rfl (lv_at hl 3 rfl) ?_
    refine lv_iload_n hx hb dL_law_1195 rfl (lv_at hl 0 rfl) ?_
    refine lv_iconst (v := 2) hx hb dL_law_1196 (by decide) ?_
    refine lv_iadd hx hb dL_law_1197 ?_
    refine lv_topi (fun x209 ex209 => ?_)
    have tx209 := i_add ex209 (by omega)
    have ejx209 : x209.toNatClampNeg = i.toNatClampNeg + 2 := by have h1 := i_cl (x := x209) (by omega); have h2 := i_cl (x := i) (by omega); omega
    refine va_sld hx hb hX hbl (Nat.not_le.mpr hbl) hSH168 (vp_in_iff.mpr (by omega)) dL_law_1198 ?_
    refine W.eq (g2 := F0 m 1199 ls [.int (xs (i.toNatClampNeg + 2)), .int (xs (i.toNatClampNeg + 1)), .ref b]) (congrArg (fun z => F0 m 1199 ls [.int (xs z), .int (xs (i.toNatClampNeg + 1)), .ref b]) ejx209) ?_
    refine lv_aload_n hx hb dL_law_1199 rfl (lv_at hl 3 rfl) ?_
    refine lv_iload_n hx hb dL_law_1200 rfl (lv_at hl 0 rfl) ?_
    refine lv_iconst (v := 3) hx hb dL_law_1201 (by decide) ?_
    refine lv_iadd hx hb dL_law_1202 ?_
    refine lv_topi (fun x210 ex210 => ?_)
    have tx210 := i_add ex210 (by omega)
    have ejx210 : x210.toNatClampNeg = i.toNatClampNeg + 3 := by have h1 := i_cl (x := x210) (by omega); have h2 := i_cl (x := i) (by omega); omega
    refine va_sld hx hb hX hbl (Nat.not_le.mpr hbl) hSH168 (vp_in_iff.mpr (by omega)) dL_law_1203 ?_
    refine W.eq (g2 := F0 m 1204 ls [.int (xs (i.toNatClampNeg + 3)), .int (xs (i.toNatClampNeg + 2)), .int (xs (i.toNatClampNeg + 1)), .ref b]) (congrArg (fun z => F0 m 1204 ls [.int (xs z), .int (xs (i.toNatClampNeg + 2)), .int (xs (i.toNatClampNeg + 1)), .ref b]) ejx210) ?_
    refine lv_aload_n hx hb dL_law_1204 rfl (lv_at hl 3 rfl) ?_
    refine lv_iload_n hx hb dL_law_1205 rfl (lv_at hl 0 rfl) ?_
    refine lv_iconst (v := 4) hx hb dL_law_1206 (by decide) ?_
    refine lv_iadd hx hb dL_law_1207 ?_
    refine lv_topi (fun x211 ex211 => ?_)
    have tx211 := i_add ex211 (by omega)
    have ejx211 : x211.toNatClampNeg = i.toNatClampNeg + 4 := by have h1 := i_cl (x := x211) (by omega); have h2 := i_cl (x := i) (by omega); omega
    refine va_sld hx hb hX hbl (Nat.not_le.mpr hbl) hSH168 (vp_in_iff.mpr (by omega)) dL_law_1208 ?_
    refine W.eq (g2 := F0 m 1209 ls [.int (xs (i.toNatClampNeg + 4)), .int (xs (i.toNatClampNeg + 3)), .int (xs (i.toNatClampNeg + 2)), .int (xs (i.toNatClampNeg + 1)), .ref b]) (congrArg (fun z => F0 m 1209 ls [.int (xs z), .int (xs (i.toNatClampNeg + 3)), .int (xs (i.toNatClampNeg + 2)), .int (xs (i.toNatClampNeg + 1)), .ref b]) ejx211) ?_
    refine x_V (As := [.int (xs (i.toNatClampNeg + 1)), .int (xs (i.toNatClampNeg + 2)), .int (xs (i.toNatClampNeg + 3)), .int (xs (i.toNatClampNeg + 4))]) (rest := []) C (a_X10_in l K G H168 ((xs (i.toNatClampNeg + 1))) ((xs (i.toNatClampNeg + 2))) ((xs (i.toNatClampNeg + 3))) ((xs (i.toNatClampNeg + 4))) (y1) hTH168 gb m180 g170 g171 g172 g173) yo_X10_in wM_L_124 ⟨⟨by decide, by decide⟩, show _ ≤ 284929 by omega, show _ ≤ 8247460 by omega⟩ (x_rv C hTH168 (ci := 10) rfl gb rg_112) rfl hl.1 rfl (Nat.le_of_ble_eq_true rfl) dL_law_1209 hSH168 (AE_new hN hSH168.1) (fun vH212 H212 locsH212 pH212 zH212 kH212 hSH212 => ?_)
    obtain ⟨x213, hvH212, g214, g215, g216, g217, mf218, hTH212⟩ := pH212
    subst hvH212
    have f219 : ∀ j : Nat, fI H212 tq j = fI H tq j := fun j => (fI_kept (x_lt hTH168 kH212 gtq (by decide))).trans (f174 j)
    have f220 : ∀ j : Nat, fI H212 uq j = fI H uq j := fun j => (fI_kept (x_lt hTH168 kH212 guq (by decide))).trans (f175 j)
    have m221 := (m176).trans (fR_kept (x_lt hTH168 kH212 ga (by decide))).symm
    have m222 := (m177).trans (fI_kept (x_lt hTH168 kH212 ga (by decide))).symm
    have m223 := (m179).trans (fI_kept (x_lt hTH168 kH212 gw (by decide))).symm
    have m224 := (m181).trans (fI_kept (x_lt hTH168 kH212 gw (by decide))).symm
    have m225 := (m183).trans (fI_kept (x_lt hTH168 kH212 gw (by decide))).symm
    have m226 := (m185).trans (fI_kept (x_lt hTH168 kH212 gw (by decide))).symm
    have m227 := (m187).trans (fI_kept (x_lt hTH168 kH212 gw (by decide))).symm
    have m228 := (m189).trans (fI_kept (x_lt hTH168 kH212 gw (by decide))).symm
    have m229 := (m191).trans (fR_kept (x_lt hTH168 kH212 ga (by decide))).symm
    have m230 := (fV_kept (x_lt hTH168 kH212 ga (by decide))).trans m194
    have m231 := (m196).trans (fI_kept (x_lt hTH168 kH212 gkq (by decide))).symm
    have m232 := (m197).trans (fI_kept (x_lt hTH168 kH212 giq (by decide))).symm
    have m233 := (m198).trans (fI_kept (x_lt hTH168 kH212 gkq (by decide))).symm
    have m234 := (m199).trans (fI_kept (x_lt hTH168 kH212 giq (by decide))).symm
    have m235 := (m200).trans (fI_kept (x_lt hTH168 kH212 gkq (by decide))).symm
    have m236 := (m201).trans (fI_kept (x_lt hTH168 kH212 giq (by decide))).symm
    have m237 := (m202).trans (fI_kept (x_lt hTH168 kH212 gkq (by decide))).symm
    have m238 := (m203).trans (fI_kept (x_lt hTH168 kH212 giq (by decide))).symm
    have m239 := (m204).trans (fI_kept (x_lt hTH168 kH212 gkq (by decide))).symm
    have m240 := (m205).trans (fI_kept (x_lt hTH168 kH212 giq (by decide))).symm
    have m241 := (m206).trans (fI_kept (x_lt hTH168 kH212 gkq (by decide))).symm
    have m242 := (m207).trans (fI_kept (x_lt hTH168 kH212 giq (by decide))).symm
    have m243 := (m178).trans (MF.i mf218 (k := 18) (by decide) (by decide)).symm
    have m244 := (m180).trans (MF.i mf218 (k := 1) (by decide) (by decide)).symm
    have m245 := (m182).trans (MF.i mf218 (k := 2) (by decide) (by decide)).symm
    have m246 := (m184).trans (MF.i mf218 (k := 3) (by decide) (by decide)).symm
    have m247 := (m186).trans (MF.i mf218 (k := 59) (by decide) (by decide)).symm
    have m248 := (m188).trans (MF.i mf218 (k := 62) (by decide) (by decide)).symm
    have m249 := (m190).trans (MF.i mf218 (k := 65) (by decide) (by decide)).symm
    have m250 := (m192).trans (MF.r mf218 (k := 17) (by decide) (by decide)).symm
    have m251 := (m193).trans (MF.i mf218 (k := 70) (by decide) (by decide)).symm
    have m252 := (m195).trans (MF.r mf218 (k := 73) (by decide) (by decide)).symm
    refine W.eq (g2 := F0 m 1212 ls [.int x213]) rfl ?_
    refine lv_pop hx hb dL_law_1212 rfl ?_
    refine lv_goto (tgt := 1509) hx hb dL_law_1213 (by decide) ?_
    exact nx G H212 locsH212 _ _ ls ⟨hTH212, hN, ga, gb, g214, g215, g216, g217, ⟨(by rw [← m222, ← m243]; omega), (by rw [← m221, ← m223, ← m244]; omega), (by rw [← m221, ← m224, ← m245]; omega), (by rw [← m221, ← m225, ← m246]; omega), (by rw [← m221, ← m226, ← m247]; omega), (by rw [← m221, ← m227, ← m248]; omega), (by rw [← m221, ← m228, ← m249]; omega)⟩, Or.inr ⟨kq, m230, gkq, (by rw [← m251]; omega), (by rw [← m231, ← m252, ← m232]; omega), (by rw [← m233, ← m252, ← m234]; omega), (by rw [← m235, ← m252, ← m236]; omega), (by rw [← m237, ← m252, ← m238]; omega), (by rw [← m239, ← m252, ← m240]; omega), (by rw [← m241, ← m252, ← m242]; omega)⟩, (by unfold TB; rw [← m229, ← m250, ← m243]; exact TBR.of htr f219 f220 (by omega)), hSH212⟩ hl ⟨by omega, by omega, fun h => by have h1 := h.symm.trans m230; cases h1⟩
set_option maxRecDepth 100000 in
set_option maxHeartbeats 8000000 in
theorem lw_c26 {p : Program} {l : Launch} {e : Env} {s : State} {m : MethodId} {below : List Frame} {meth : Method} {c : Code} {K : KE} {b0 L : Nat} {xs : Nat → Int32} {G : Nat → Option Nat} {H : Heap} {locs : List Loc} {a b : Nat} {cells slots : Nat} {ls : Array Slot} {i : Int32} {n : Nat} (D : LC p K s m meth c b0 L xs) (S : SX K s G H locs a b) (hl : lv_has ls 4 [(3, .int i), (2, .ref b), (1, .ref a), (0, .ref b0)]) (hi : 0 ≤ i.toInt ∧ i.toInt + 6 ≤ L) (hn : n ≤ 511) (hB : BD K H a cells slots) (nx : ∀ (G : Nat → Option Nat) (H : Heap) (locs : List Loc) (cells slots : Nat) (ls : Array Slot), SX K s G H locs a b → lv_has ls 4 [(3, .int i), (2, .ref b), (1, .ref a), (0, .ref b0)] → BD K H a cells slots → W p l e room_1 s m #[Value.ref b0] below meth c H locs cells slots (lw_Z below #[Value.ref b0] s) (F0 m 1509 ls [])) : W p l e room_1 s m #[Value.ref b0] below meth c H locs cells slots (lw_Z below #[Value.ref b0] s) (F0 m 1216 ls []) := by
  obtain ⟨C, hX, hbl, hL⟩ := id D
  obtain ⟨hx, hb, hml, hown, hts, hKT, hr, hlocks, hnm⟩ := id C
  obtain ⟨hT, hN, ga, gb, cg, tu, wd, im, ⟨rt, r1, r4, r5, r10, r13, r16⟩, hk, htb, hS⟩ := S
  obtain ⟨hc, hs, hB0⟩ := hB
  have n_1 : (1 : Int32).toInt = 1 := rfl
  have n_2 : (2 : Int32).toInt = 2 := rfl
  obtain ⟨w, ew⟩ : ∃ z : Nat, z = fR H a (K.1.2 9 0) := ⟨_, rfl⟩
  have gw := ty_fr (q := w) (k := 0) (u := 0) ew hT ga rg_68 rfl
  rw [← ew] at r1 r4 r5 r10 r13 r16
  obtain ⟨ta, eta⟩ : ∃ z : Int32, z = fI H a (K.1.2 9 3) := ⟨_, rfl⟩
  rw [← eta] at rt
  obtain ⟨tb, etb⟩ : ∃ z : Int32, z = fI H b (K.1.2 10 18) := ⟨_, rfl⟩
  rw [← etb] at rt
  obtain ⟨s1, es1⟩ : ∃ z : Int32, z = fI H w (K.1.2 8 1) := ⟨_, rfl⟩
  rw [← es1] at r1
  obtain ⟨y1, ey1⟩ : ∃ z : Int32, z = fI H b (K.1.2 10 1) := ⟨_, rfl⟩
  rw [← ey1] at r1
  obtain ⟨s4, es4⟩ : ∃ z : Int32, z = fI H w (K.1.2 8 4) := ⟨_, rfl⟩
  rw [← es4] at r4
  obtain ⟨y4, ey4⟩ : ∃ z : Int32, z = fI H b (K.1.2 10 2) := ⟨_, rfl⟩
  rw [← ey4] at r4
  obtain ⟨s5, es5⟩ : ∃ z : Int32, z = fI H w (K.1.2 8 5) := ⟨_, rfl⟩
  rw [← es5] at r5
  obtain ⟨y5, ey5⟩ : ∃ z : Int32, z = fI H b (K.1.2 10 3) := ⟨_, rfl⟩
  rw [← ey5] at r5
  obtain ⟨s10, es10⟩ : ∃ z : Int32, z = fI H w (K.1.2 8 10) := ⟨_, rfl⟩
  rw [← es10] at r10
  obtain ⟨y10, ey10⟩ : ∃ z : Int32, z = fI H b (K.1.2 10 59) := ⟨_, rfl⟩
  rw [← ey10] at r10
  obtain ⟨s13, es13⟩ : ∃ z : Int32, z = fI H w (K.1.2 8 13) := ⟨_, rfl⟩
  rw [← es13] at r13
  obtain ⟨y13, ey13⟩ : ∃ z : Int32, z = fI H b (K.1.2 10 62) := ⟨_, rfl⟩
  rw [← ey13] at r13
  obtain ⟨s16, es16⟩ : ∃ z : Int32, z = fI H w (K.1.2 8 16) := ⟨_, rfl⟩
  rw [← es16] at r16
  obtain ⟨y16, ey16⟩ : ∃ z : Int32, z = fI H b (K.1.2 10 65) := ⟨_, rfl⟩
  rw [← ey16] at r16
  obtain ⟨tq, etq⟩ : ∃ z : Nat, z = fR H a (K.1.2 9 2) := ⟨_, rfl⟩
  have gtq := ty_fr (q := tq) (k := 2) (u := 108) etq hT ga rg_68 rfl
  obtain ⟨uq, euq⟩ : ∃ z : Nat, z = fR H b (K.1.2 10 17) := ⟨_, rfl⟩
  have guq := ty_fr (q := uq) (k := 17) (u := 126) euq hT gb rg_112 rfl
  have htr : TBR (fun j => fI H tq j) (fun j => fI H uq j) tb.toNatClampNeg := by rw [etq, euq, etb]; exact htb
  have ft0 : ∀ j : Nat, fI H tq j = fI H tq j := fun _ => rfl
  have fu0 : ∀ j : Nat, fI H uq j = fI H uq j := fun _ => rfl
  have bta := ty_fi (x := ta) (k := 3) eta hT ga rg_68 rfl
  have cta := i_cl (x := ta) (by omega)
  have btb := ty_fi (x := tb) (k := 18) etb hT gb rg_112 rfl
  have ctb := i_cl (x := tb) (by omega)
  rcases hk with ⟨kn, h70⟩ | ⟨kq, kn, gkq, h70, q1, q4, q5, q10, q13, q16⟩
  · skip
    obtain ⟨hi, ehi⟩ : ∃ z : Int32, z = fI H b (K.1.2 10 70) := ⟨_, rfl⟩
    rw [← ehi] at h70
    obtain ⟨hc0, hs0⟩ := hB0 kn
    refine lv_aload_n hx hb dL_law_1216 rfl (lv_at hl 2 rfl) ?_
    refine lv_aload_n hx hb dL_law_1217 rfl (lv_at hl 3 rfl) ?_
    refine lv_iload_n hx hb dL_law_1218 rfl (lv_at hl 0 rfl) ?_
    refine lv_iconst (v := 1) hx hb dL_law_1219 (by decide) ?_
    refine lv_iadd hx hb dL_law_1220 ?_
    refine lv_topi (fun x101 ex101 => ?_)
    have tx101 := i_add ex101 (by omega)
    have ejx101 : x101.toNatClampNeg = i.toNatClampNeg + 1 := by have h1 := i_cl (x := x101) (by omega); have h2 := i_cl (x := i) (by omega); omega
    refine va_sld hx hb hX hbl (Nat.not_le.mpr hbl) hS (vp_in_iff.mpr (by omega)) dL_law_1221 ?_
    refine W.eq (g2 := F0 m 1222 ls [.int (xs (i.toNatClampNeg + 1)), .ref a]) (congrArg (fun z => F0 m 1222 ls [.int (xs z), .ref a]) ejx101) ?_
    refine lv_aload_n hx hb dL_law_1222 rfl (lv_at hl 3 rfl) ?_
    refine lv_iload_n hx hb dL_law_1223 rfl (lv_at hl 0 rfl) ?_
    refine lv_iconst (v := 2) hx hb dL_law_1224 (by decide) ?_
    refine lv_iadd hx hb dL_law_1225 ?_
    refine lv_topi (fun x102 ex102 => ?_)
    have tx102 := i_add ex102 (by omega)
    have ejx102 : x102.toNatClampNeg = i.toNatClampNeg + 2 := by have h1 := i_cl (x := x102) (by omega); have h2 := i_cl (x := i) (by omega); omega
    refine va_sld hx hb hX hbl (Nat.not_le.mpr hbl) hS (vp_in_iff.mpr (by omega)) dL_law_1226 ?_
    refine W.eq (g2 := F0 m 1227 ls [.int (xs (i.toNatClampNeg + 2)), .int (xs (i.toNatClampNeg + 1)), .ref a]) (congrArg (fun z => F0 m 1227 ls [.int (xs z), .int (xs (i.toNatClampNeg + 1)), .ref a]) ejx102) ?_
    refine x_V (As := [.int (xs (i.toNatClampNeg + 1)), .int (xs (i.toNatClampNeg + 2))]) (rest := []) C (a_X9_night_r l K G H ((xs (i.toNatClampNeg + 1))) ((xs (i.toNatClampNeg + 2))) (s1) (s4) (s5) (s10) (s13) (s16) hT ga gw ew es1 es4 es5 es10 es13 es16) yo_X9_night wM_L_125 ⟨⟨by decide, by decide⟩, show _ ≤ 284929 by omega, show _ ≤ 8247460 by omega⟩ (x_rv C hT (ci := 9) rfl ga rg_68) rfl hl.1 rfl (Nat.le_of_ble_eq_true rfl) dL_law_1227 hS (AE_new hN hS.1) (fun vH103 H103 locsH103 pH103 zH103 kH103 hSH103 => ?_)
    obtain ⟨x104, x105, x106, x107, x108, x109, x110, hvH103, ex105, ex106, ex107, ex108, ex109, ex110, hrH103, hTH103⟩ := pH103
    subst hvH103
    have g111 : CG (avw K H103 b) := CG.congr (fun k hk j => av_eff hT kH103 gb (by decide) (CG_eff [0, 28, 29] (by decide) k hk)) cg
    have g112 : TU (avw K H103 b) (svw K H103 b) := TU.congr (fun k hk j => av_eff hT kH103 gb (by decide) (TU_eff [0, 28, 29] (by decide) k hk)) (fun k hk => sv_eff hT kH103 gb (by decide)) tu
    have g113 : WD (avw K H103 b) := WD.congr (fun k hk j => av_eff hT kH103 gb (by decide) (WD_eff [0, 28, 29] (by decide) k hk)) wd
    have g114 : IM (avw K H103 b) := IM.congr (fun k hk j => av_eff hT kH103 gb (by decide) (IM_eff [0, 28, 29] (by decide) k hk)) im
    have f115 : ∀ j : Nat, fI H103 tq j = fI H tq j := fun j => (fI_kept (x_lt hT kH103 gtq (by decide))).trans (ft0 j)
    have f116 : ∀ j : Nat, fI H103 uq j = fI H uq j := fun j => (fI_kept (x_lt hT kH103 guq (by decide))).trans (fu0 j)
    have m117 := (ew).trans (fR_kept (x_lt hT kH103 ga (by decide))).symm
    have m118 := (eta).trans (fI_kept (x_lt hT kH103 ga (by decide))).symm
    have m119 := (etb).trans (fI_kept (x_lt hT kH103 gb (by decide))).symm
    have m120 := (ey1).trans (fI_kept (x_lt hT kH103 gb (by decide))).symm
    have m121 := (ey4).trans (fI_kept (x_lt hT kH103 gb (by decide))).symm
    have m122 := (ey5).trans (fI_kept (x_lt hT kH103 gb (by decide))).symm
    have m123 := (ey10).trans (fI_kept (x_lt hT kH103 gb (by decide))).symm
    have m124 := (ey13).trans (fI_kept (x_lt hT kH103 gb (by decide))).symm
    have m125 := (ey16).trans (fI_kept (x_lt hT kH103 gb (by decide))).symm
    have m126 := (etq).trans (fR_kept (x_lt hT kH103 ga (by decide))).symm
    have m127 := (euq).trans (fR_kept (x_lt hT kH103 gb (by decide))).symm
    have m128 := (ehi).trans (fI_kept (x_lt hT kH103 gb (by decide))).symm
    have m129 := (fV_kept (x_lt hT kH103 ga (by decide))).trans kn
    have bx105 := ty_fi (x := x105) (k := 1) ex105 hTH103 gw rg_0 rfl
    have bx106 := ty_fi (x := x106) (k := 4) ex106 hTH103 gw rg_0 rfl
    have bx107 := ty_fi (x := x107) (k := 5) ex107 hTH103 gw rg_0 rfl
    have bx108 := ty_fi (x := x108) (k := 10) ex108 hTH103 gw rg_0 rfl
    have bx109 := ty_fi (x := x109) (k := 13) ex109 hTH103 gw rg_0 rfl
    have bx110 := ty_fi (x := x110) (k := 16) ex110 hTH103 gw rg_0 rfl
    refine W.eq (g2 := F0 m 1230 ls [.int x104]) rfl ?_
    refine lv_pop hx hb dL_law_1230 rfl ?_
    refine lv_aload_n hx hb dL_law_1231 rfl (lv_at hl 1 rfl) ?_
    refine lv_aload_n hx hb dL_law_1232 rfl (lv_at hl 3 rfl) ?_
    refine lv_iload_n hx hb dL_law_1233 rfl (lv_at hl 0 rfl) ?_
    refine lv_iconst (v := 1) hx hb dL_law_1234 (by decide) ?_
    refine lv_iadd hx hb dL_law_1235 ?_
    refine lv_topi (fun x130 ex130 => ?_)
    have tx130 := i_add ex130 (by omega)
    have ejx130 : x130.toNatClampNeg = i.toNatClampNeg + 1 := by have h1 := i_cl (x := x130) (by omega); have h2 := i_cl (x := i) (by omega); omega
    refine va_sld hx hb hX hbl (Nat.not_le.mpr hbl) hSH103 (vp_in_iff.mpr (by omega)) dL_law_1236 ?_
    refine W.eq (g2 := F0 m 1237 ls [.int (xs (i.toNatClampNeg + 1)), .ref b]) (congrArg (fun z => F0 m 1237 ls [.int (xs z), .ref b]) ejx130) ?_
    refine lv_aload_n hx hb dL_law_1237 rfl (lv_at hl 3 rfl) ?_
    refine lv_iload_n hx hb dL_law_1238 rfl (lv_at hl 0 rfl) ?_
    refine lv_iconst (v := 2) hx hb dL_law_1239 (by decide) ?_
    refine lv_iadd hx hb dL_law_1240 ?_
    refine lv_topi (fun x131 ex131 => ?_)
    have tx131 := i_add ex131 (by omega)
    have ejx131 : x131.toNatClampNeg = i.toNatClampNeg + 2 := by have h1 := i_cl (x := x131) (by omega); have h2 := i_cl (x := i) (by omega); omega
    refine va_sld hx hb hX hbl (Nat.not_le.mpr hbl) hSH103 (vp_in_iff.mpr (by omega)) dL_law_1241 ?_
    refine W.eq (g2 := F0 m 1242 ls [.int (xs (i.toNatClampNeg + 2)), .int (xs (i.toNatClampNeg + 1)), .ref b]) (congrArg (fun z => F0 m 1242 ls [.int (xs z), .int (xs (i.toNatClampNeg + 1)), .ref b]) ejx131) ?_
    refine x_V (As := [.int (xs (i.toNatClampNeg + 1)), .int (xs (i.toNatClampNeg + 2))]) (rest := []) C (a_X10_night_r l K G H103 ((xs (i.toNatClampNeg + 1))) ((xs (i.toNatClampNeg + 2))) (y10) hTH103 gb m123 g111 g112 g113 g114) yo_X10_night wM_L_128 ⟨⟨by decide, by decide⟩, show _ ≤ 284929 by omega, show _ ≤ 8247460 by omega⟩ (x_rv C hTH103 (ci := 10) rfl gb rg_112) rfl hl.1 rfl (Nat.le_of_ble_eq_true rfl) dL_law_1242 hSH103 (AE_new hN hSH103.1) (fun vH132 H132 locsH132 pH132 zH132 kH132 hSH132 => ?_)
    obtain ⟨x133, x134, hvH132, ex134, hrH132, g135, g136, g137, g138, mf139, hTH132⟩ := pH132
    subst hvH132
    have f140 : ∀ j : Nat, fI H132 tq j = fI H tq j := fun j => (fI_kept (x_lt hTH103 kH132 gtq (by decide))).trans (f115 j)
    have f141 : ∀ j : Nat, fI H132 uq j = fI H uq j := fun j => (fI_kept (x_lt hTH103 kH132 guq (by decide))).trans (f116 j)
    have m142 := (m117).trans (fR_kept (x_lt hTH103 kH132 ga (by decide))).symm
    have m143 := (m118).trans (fI_kept (x_lt hTH103 kH132 ga (by decide))).symm
    have m144 := (m126).trans (fR_kept (x_lt hTH103 kH132 ga (by decide))).symm
    have m145 := (fV_kept (x_lt hTH103 kH132 ga (by decide))).trans m129
    have m146 := (ex105).trans (fI_kept (x_lt hTH103 kH132 gw (by decide))).symm
    have m147 := (ex106).trans (fI_kept (x_lt hTH103 kH132 gw (by decide))).symm
    have m148 := (ex107).trans (fI_kept (x_lt hTH103 kH132 gw (by decide))).symm
    have m149 := (ex108).trans (fI_kept (x_lt hTH103 kH132 gw (by decide))).symm
    have m150 := (ex109).trans (fI_kept (x_lt hTH103 kH132 gw (by decide))).symm
    have m151 := (ex110).trans (fI_kept (x_lt hTH103 kH132 gw (by decide))).symm
    have m152 := (m119).trans (MF.i mf139 (k := 18) (by decide) (by decide)).symm
    have m153 := (m120).trans (MF.i mf139 (k := 1) (by decide) (by decide)).symm
    have m154 := (m121).trans (MF.i mf139 (k := 2) (by decide) (by decide)).symm
    have m155 := (m122).trans (MF.i mf139 (k := 3) (by decide) (by decide)).symm
    have m156 := (m124).trans (MF.i mf139 (k := 62) (by decide) (by decide)).symm
    have m157 := (m125).trans (MF.i mf139 (k := 65) (by decide) (by decide)).symm
    have m158 := (m127).trans (MF.r mf139 (k := 17) (by decide) (by decide)).symm
    have m159 := (m128).trans (MF.i mf139 (k := 70) (by decide) (by decide)).symm
    have bx134 := ty_fi (x := x134) (k := 59) ex134 hTH132 gb rg_112 rfl
    refine W.eq (g2 := F0 m 1245 ls [.int x133]) rfl ?_
    refine lv_pop hx hb dL_law_1245 rfl ?_
    refine lv_goto (tgt := 1509) hx hb dL_law_1246 (by decide) ?_
    exact nx G H132 locsH132 _ _ ls ⟨hTH132, hN, ga, gb, g135, g136, g137, g138, ⟨(by rw [← m143, ← m152]; omega), (by rw [← m142, ← m146, ← m153]; omega), (by rw [← m142, ← m147, ← m154]; omega), (by rw [← m142, ← m148, ← m155]; omega), (by rw [← m142, ← m149, ← ex134]; omega), (by rw [← m142, ← m150, ← m156]; omega), (by rw [← m142, ← m151, ← m157]; omega)⟩, Or.inl ⟨m145, (by rw [← m159]; omega)⟩, (by unfold TB; rw [← m144, ← m158, ← m152]; exact TBR.of htr f140 f141 (by omega)), hSH132⟩ hl ⟨by omega, by omega, fun _ => ⟨by omega, by omega⟩⟩
  · skip
    obtain ⟨hi, ehi⟩ : ∃ z : Int32, z = fI H b (K.1.2 10 70) := ⟨_, rfl⟩
    rw [← ehi] at h70
    obtain ⟨iq, eiq⟩ : ∃ z : Nat, z = fR H b (K.1.2 10 73) := ⟨_, rfl⟩
    have giq := ty_fr (q := iq) (k := 73) (u := 162) eiq hT gb rg_112 rfl
    rw [← eiq] at q1 q4 q5 q10 q13 q16
    obtain ⟨k1, ek1⟩ : ∃ z : Int32, z = fI H kq (K.1.2 8 1) := ⟨_, rfl⟩
    rw [← ek1] at q1
    obtain ⟨i1, ei1⟩ : ∃ z : Int32, z = fI H iq ((0 : Int32).toNatClampNeg) := ⟨_, rfl⟩
    rw [← ei1] at q1
    obtain ⟨k4, ek4⟩ : ∃ z : Int32, z = fI H kq (K.1.2 8 4) := ⟨_, rfl⟩
    rw [← ek4] at q4
    obtain ⟨i4, ei4⟩ : ∃ z : Int32, z = fI H iq ((1 : Int32).toNatClampNeg) := ⟨_, rfl⟩
    rw [← ei4] at q4
    obtain ⟨k5, ek5⟩ : ∃ z : Int32, z = fI H kq (K.1.2 8 5) := ⟨_, rfl⟩
    rw [← ek5] at q5
    obtain ⟨i5, ei5⟩ : ∃ z : Int32, z = fI H iq ((2 : Int32).toNatClampNeg) := ⟨_, rfl⟩
    rw [← ei5] at q5
    obtain ⟨k10, ek10⟩ : ∃ z : Int32, z = fI H kq (K.1.2 8 10) := ⟨_, rfl⟩
    rw [← ek10] at q10
    obtain ⟨i10, ei10⟩ : ∃ z : Int32, z = fI H iq ((3 : Int32).toNatClampNeg) := ⟨_, rfl⟩
    rw [← ei10] at q10
    obtain ⟨k13, ek13⟩ : ∃ z : Int32, z = fI H kq (K.1.2 8 13) := ⟨_, rfl⟩
    rw [← ek13] at q13
    obtain ⟨i13, ei13⟩ : ∃ z : Int32, z = fI H iq ((4 : Int32).toNatClampNeg) := ⟨_, rfl⟩
    rw [← ei13] at q13
    obtain ⟨k16, ek16⟩ : ∃ z : Int32, z = fI H kq (K.1.2 8 16) := ⟨_, rfl⟩
    rw [← ek16] at q16
    obtain ⟨i16, ei16⟩ : ∃ z : Int32, z = fI H iq ((5 : Int32).toNatClampNeg) := ⟨_, rfl⟩
    rw [← ei16] at q16
    refine lv_aload_n hx hb dL_law_1216 rfl (lv_at hl 2 rfl) ?_
    refine lv_aload_n hx hb dL_law_1217 rfl (lv_at hl 3 rfl) ?_
    refine lv_iload_n hx hb dL_law_1218 rfl (lv_at hl 0 rfl) ?_
    refine lv_iconst (v := 1) hx hb dL_law_1219 (by decide) ?_
    refine lv_iadd hx hb dL_law_1220 ?_
    refine lv_topi (fun x160 ex160 => ?_)
    have tx160 := i_add ex160 (by omega)
    have ejx160 : x160.toNatClampNeg = i.toNatClampNeg + 1 := by have h1 := i_cl (x := x160) (by omega); have h2 := i_cl (x := i) (by omega); omega
    refine va_sld hx hb hX hbl (Nat.not_le.mpr hbl) hS (vp_in_iff.mpr (by omega)) dL_law_1221 ?_
    refine W.eq (g2 := F0 m 1222 ls [.int (xs (i.toNatClampNeg + 1)), .ref a]) (congrArg (fun z => F0 m 1222 ls [.int (xs z), .ref a]) ejx160) ?_
    refine lv_aload_n hx hb dL_law_1222 rfl (lv_at hl 3 rfl) ?_
    refine lv_iload_n hx hb dL_law_1223 rfl (lv_at hl 0 rfl) ?_
    refine lv_iconst (v := 2) hx hb dL_law_1224 (by decide) ?_
    refine lv_iadd hx hb dL_law_1225 ?_
    refine lv_topi (fun x161 ex161 => ?_)
    have tx161 := i_add ex161 (by omega)
    have ejx161 : x161.toNatClampNeg = i.toNatClampNeg + 2 := by have h1 := i_cl (x := x161) (by omega); have h2 := i_cl (x := i) (by omega); omega
    refine va_sld hx hb hX hbl (Nat.not_le.mpr hbl) hS (vp_in_iff.mpr (by omega)) dL_law_1226 ?_
    refine W.eq (g2 := F0 m 1227 ls [.int (xs (i.toNatClampNeg + 2)), .int (xs (i.toNatClampNeg + 1)), .ref a]) (congrArg (fun z => F0 m 1227 ls [.int (xs z), .int (xs (i.toNatClampNeg + 1)), .ref a]) ejx161) ?_
    refine x_V (As := [.int (xs (i.toNatClampNeg + 1)), .int (xs (i.toNatClampNeg + 2))]) (rest := []) C (a_X9_night_r l K G H ((xs (i.toNatClampNeg + 1))) ((xs (i.toNatClampNeg + 2))) (s1) (s4) (s5) (s10) (s13) (s16) hT ga gw ew es1 es4 es5 es10 es13 es16) yo_X9_night wM_L_125 ⟨⟨by decide, by decide⟩, show _ ≤ 284929 by omega, show _ ≤ 8247460 by omega⟩ (x_rv C hT (ci := 9) rfl ga rg_68) rfl hl.1 rfl (Nat.le_of_ble_eq_true rfl) dL_law_1227 hS (AE_new hN hS.1) (fun vH162 H162 locsH162 pH162 zH162 kH162 hSH162 => ?_)
    obtain ⟨x163, x164, x165, x166, x167, x168, x169, hvH162, ex164, ex165, ex166, ex167, ex168, ex169, hrH162, hTH162⟩ := pH162
    subst hvH162
    have g170 : CG (avw K H162 b) := CG.congr (fun k hk j => av_eff hT kH162 gb (by decide) (CG_eff [0, 28, 29] (by decide) k hk)) cg
    have g171 : TU (avw K H162 b) (svw K H162 b) := TU.congr (fun k hk j => av_eff hT kH162 gb (by decide) (TU_eff [0, 28, 29] (by decide) k hk)) (fun k hk => sv_eff hT kH162 gb (by decide)) tu
    have g172 : WD (avw K H162 b) := WD.congr (fun k hk j => av_eff hT kH162 gb (by decide) (WD_eff [0, 28, 29] (by decide) k hk)) wd
    have g173 : IM (avw K H162 b) := IM.congr (fun k hk j => av_eff hT kH162 gb (by decide) (IM_eff [0, 28, 29] (by decide) k hk)) im
    have f174 : ∀ j : Nat, fI H162 tq j = fI H tq j := fun j => (fI_kept (x_lt hT kH162 gtq (by decide))).trans (ft0 j)
    have f175 : ∀ j : Nat, fI H162 uq j = fI H uq j := fun j => (fI_kept (x_lt hT kH162 guq (by decide))).trans (fu0 j)
    have m176 := (ew).trans (fR_kept (x_lt hT kH162 ga (by decide))).symm
    have m177 := (eta).trans (fI_kept (x_lt hT kH162 ga (by decide))).symm
    have m178 := (etb).trans (fI_kept (x_lt hT kH162 gb (by decide))).symm
    have m179 := (ey1).trans (fI_kept (x_lt hT kH162 gb (by decide))).symm
    have m180 := (ey4).trans (fI_kept (x_lt hT kH162 gb (by decide))).symm
    have m181 := (ey5).trans (fI_kept (x_lt hT kH162 gb (by decide))).symm
    have m182 := (ey10).trans (fI_kept (x_lt hT kH162 gb (by decide))).symm
    have m183 := (ey13).trans (fI_kept (x_lt hT kH162 gb (by decide))).symm
    have m184 := (ey16).trans (fI_kept (x_lt hT kH162 gb (by decide))).symm
    have m185 := (etq).trans (fR_kept (x_lt hT kH162 ga (by decide))).symm
    have m186 := (euq).trans (fR_kept (x_lt hT kH162 gb (by decide))).symm
    have m187 := (ehi).trans (fI_kept (x_lt hT kH162 gb (by decide))).symm
    have m188 := (fV_kept (x_lt hT kH162 ga (by decide))).trans kn
    have m189 := (eiq).trans (fR_kept (x_lt hT kH162 gb (by decide))).symm
    have m190 := (ek1).trans (fI_kept (x_lt hT kH162 gkq (by decide))).symm
    have m191 := (ei1).trans (fI_kept (x_lt hT kH162 giq (by decide))).symm
    have m192 := (ek4).trans (fI_kept (x_lt hT kH162 gkq (by decide))).symm
    have m193 := (ei4).trans (fI_kept (x_lt hT kH162 giq (by decide))).symm
    have m194 := (ek5).trans (fI_kept (x_lt hT kH162 gkq (by decide))).symm
    have m195 := (ei5).trans (fI_kept (x_lt hT kH162 giq (by decide))).symm
    have m196 := (ek10).trans (fI_kept (x_lt hT kH162 gkq (by decide))).symm
    have m197 := (ei10).trans (fI_kept (x_lt hT kH162 giq (by decide))).symm
    have m198 := (ek13).trans (fI_kept (x_lt hT kH162 gkq (by decide))).symm
    have m199 := (ei13).trans (fI_kept (x_lt hT kH162 giq (by decide))).symm
    have m200 := (ek16).trans (fI_kept (x_lt hT kH162 gkq (by decide))).symm
    have m201 := (ei16).trans (fI_kept (x_lt hT kH162 giq (by decide))).symm
    have bx164 := ty_fi (x := x164) (k := 1) ex164 hTH162 gw rg_0 rfl
    have bx165 := ty_fi (x := x165) (k := 4) ex165 hTH162 gw rg_0 rfl
    have bx166 := ty_fi (x := x166) (k := 5) ex166 hTH162 gw rg_0 rfl
    have bx167 := ty_fi (x := x167) (k := 10) ex167 hTH162 gw rg_0 rfl
    have bx168 := ty_fi (x := x168) (k := 13) ex168 hTH162 gw rg_0 rfl
    have bx169 := ty_fi (x := x169) (k := 16) ex169 hTH162 gw rg_0 rfl
    refine W.eq (g2 := F0 m 1230 ls [.int x163]) rfl ?_
    refine lv_pop hx hb dL_law_1230 rfl ?_
    refine lv_aload_n hx hb dL_law_1231 rfl (lv_at hl 1 rfl) ?_
    refine lv_aload_n hx hb dL_law_1232 rfl (lv_at hl 3 rfl) ?_
    refine lv_iload_n hx hb dL_law_1233 rfl (lv_at hl 0 rfl) ?_
    refine lv_iconst (v := 1) hx hb dL_law_1234 (by decide) ?_
    refine lv_iadd hx hb dL_law_1235 ?_
    refine lv_topi (fun x202 ex202 => ?_)
    have tx202 := i_add ex202 (by omega)
    have ejx202 : x202.toNatClampNeg = i.toNatClampNeg + 1 := by have h1 := i_cl (x := x202) (by omega); have h2 := i_cl (x := i) (by omega); omega
    refine va_sld hx hb hX hbl (Nat.not_le.mpr hbl) hSH162 (vp_in_iff.mpr (by omega)) dL_law_1236 ?_
    refine W.eq (g2 := F0 m 1237 ls [.int (xs (i.toNatClampNeg + 1)), .ref b]) (congrArg (fun z => F0 m 1237 ls [.int (xs z), .ref b]) ejx202) ?_
    refine lv_aload_n hx hb dL_law_1237 rfl (lv_at hl 3 rfl) ?_
    refine lv_iload_n hx hb dL_law_1238 rfl (lv_at hl 0 rfl) ?_
    refine lv_iconst (v := 2) hx hb dL_law_1239 (by decide) ?_
    refine lv_iadd hx hb dL_law_1240 ?_
    refine lv_topi (fun x203 ex203 => ?_)
    have tx203 := i_add ex203 (by omega)
    have ejx203 : x203.toNatClampNeg = i.toNatClampNeg + 2 := by have h1 := i_cl (x := x203) (by omega); have h2 := i_cl (x := i) (by omega); omega
    refine va_sld hx hb hX hbl (Nat.not_le.mpr hbl) hSH162 (vp_in_iff.mpr (by omega)) dL_law_1241 ?_
    refine W.eq (g2 := F0 m 1242 ls [.int (xs (i.toNatClampNeg + 2)), .int (xs (i.toNatClampNeg + 1)), .ref b]) (congrArg (fun z => F0 m 1242 ls [.int (xs z), .int (xs (i.toNatClampNeg + 1)), .ref b]) ejx203) ?_
    refine x_V (As := [.int (xs (i.toNatClampNeg + 1)), .int (xs (i.toNatClampNeg + 2))]) (rest := []) C (a_X10_night_r l K G H162 ((xs (i.toNatClampNeg + 1))) ((xs (i.toNatClampNeg + 2))) (y10) hTH162 gb m182 g170 g171 g172 g173) yo_X10_night wM_L_128 ⟨⟨by decide, by decide⟩, show _ ≤ 284929 by omega, show _ ≤ 8247460 by omega⟩ (x_rv C hTH162 (ci := 10) rfl gb rg_112) rfl hl.1 rfl (Nat.le_of_ble_eq_true rfl) dL_law_1242 hSH162 (AE_new hN hSH162.1) (fun vH204 H204 locsH204 pH204 zH204 kH204 hSH204 => ?_)
    obtain ⟨x205, x206, hvH204, ex206, hrH204, g207, g208, g209, g210, mf211, hTH204⟩ := pH204
    subst hvH204
    have f212 : ∀ j : Nat, fI H204 tq j = fI H tq j := fun j => (fI_kept (x_lt hTH162 kH204 gtq (by decide))).trans (f174 j)
    have f213 : ∀ j : Nat, fI H204 uq j = fI H uq j := fun j => (fI_kept (x_lt hTH162 kH204 guq (by decide))).trans (f175 j)
    have m214 := (m176).trans (fR_kept (x_lt hTH162 kH204 ga (by decide))).symm
    have m215 := (m177).trans (fI_kept (x_lt hTH162 kH204 ga (by decide))).symm
    have m216 := (m185).trans (fR_kept (x_lt hTH162 kH204 ga (by decide))).symm
    have m217 := (fV_kept (x_lt hTH162 kH204 ga (by decide))).trans m188
    have m218 := (m190).trans (fI_kept (x_lt hTH162 kH204 gkq (by decide))).symm
    have m219 := (m191).trans (fI_kept (x_lt hTH162 kH204 giq (by decide))).symm
    have m220 := (m192).trans (fI_kept (x_lt hTH162 kH204 gkq (by decide))).symm
    have m221 := (m193).trans (fI_kept (x_lt hTH162 kH204 giq (by decide))).symm
    have m222 := (m194).trans (fI_kept (x_lt hTH162 kH204 gkq (by decide))).symm
    have m223 := (m195).trans (fI_kept (x_lt hTH162 kH204 giq (by decide))).symm
    have m224 := (m196).trans (fI_kept (x_lt hTH162 kH204 gkq (by decide))).symm
    have m225 := (m197).trans (fI_kept (x_lt hTH162 kH204 giq (by decide))).symm
    have m226 := (m198).trans (fI_kept (x_lt hTH162 kH204 gkq (by decide))).symm
    have m227 := (m199).trans (fI_kept (x_lt hTH162 kH204 giq (by decide))).symm
    have m228 := (m200).trans (fI_kept (x_lt hTH162 kH204 gkq (by decide))).symm
    have m229 := (m201).trans (fI_kept (x_lt hTH162 kH204 giq (by decide))).symm
    have m230 := (ex164).trans (fI_kept (x_lt hTH162 kH204 gw (by decide))).symm
    have m231 := (ex165).trans (fI_kept (x_lt hTH162 kH204 gw (by decide))).symm
    have m232 := (ex166).trans (fI_kept (x_lt hTH162 kH204 gw (by decide))).symm
    have m233 := (ex167).trans (fI_kept (x_lt hTH162 kH204 gw (by decide))).symm
    have m234 := (ex168).trans (fI_kept (x_lt hTH162 kH204 gw (by decide))).symm
    have m235 := (ex169).trans (fI_kept (x_lt hTH162 kH204 gw (by decide))).symm
    have m236 := (m178).trans (MF.i mf211 (k := 18) (by decide) (by decide)).symm
    have m237 := (m179).trans (MF.i mf211 (k := 1) (by decide) (by decide)).symm
    have m238 := (m180).trans (MF.i mf211 (k := 2) (by decide) (by decide)).symm
    have m239 := (m181).trans (MF.i mf211 (k := 3) (by decide) (by decide)).symm
    have m240 := (m183).trans (MF.i mf211 (k := 62) (by decide) (by decide)).symm
    have m241 := (m184).trans (MF.i mf211 (k := 65) (by decide) (by decide)).symm
    have m242 := (m186).trans (MF.r mf211 (k := 17) (by decide) (by decide)).symm
    have m243 := (m187).trans (MF.i mf211 (k := 70) (by decide) (by decide)).symm
    have m244 := (m189).trans (MF.r mf211 (k := 73) (by decide) (by decide)).symm
    have bx206 := ty_fi (x := x206) (k := 59) ex206 hTH204 gb rg_112 rfl
    refine W.eq (g2 := F0 m 1245 ls [.int x205]) rfl ?_
    refine lv_pop hx hb dL_law_1245 rfl ?_
    refine lv_goto (tgt := 1509) hx hb dL_law_1246 (by decide) ?_
    exact nx G H204 locsH204 _ _ ls ⟨hTH204, hN, ga, gb, g207, g208, g209, g210, ⟨(by rw [← m215, ← m236]; omega), (by rw [← m214, ← m230, ← m237]; omega), (by rw [← m214, ← m231, ← m238]; omega), (by rw [← m214, ← m232, ← m239]; omega), (by rw [← m214, ← m233, ← ex206]; omega), (by rw [← m214, ← m234, ← m240]; omega), (by rw [← m214, ← m235, ← m241]; omega)⟩, Or.inr ⟨kq, m217, gkq, (by rw [← m243]; omega), (by rw [← m218, ← m244, ← m219]; omega), (by rw [← m220, ← m244, ← m221]; omega), (by rw [← m222, ← m244, ← m223]; omega), (by rw [← m224, ← m244, ← m225]; omega), (by rw [← m226, ← m244, ← m227]; omega), (by rw [← m228, ← m244, ← m229]; omega)⟩, (by unfold TB; rw [← m216, ← m242, ← m236]; exact TBR.of htr f212 f213 (by omega)), hSH204⟩ hl ⟨by omega, by omega, fun h => by have h1 := h.symm.trans m217; cases h1⟩