set_option maxRecDepth 100000 in
set_option maxHeartbeats 8000000 in
theorem lw_c27 {p : Program} {l : Launch} {e : Env} {s : State} {m : MethodId} {below : List Frame} {meth : Method} {c : Code} {K : KE} {b0 L : Nat} {xs : Nat → Int32} {G : Nat → Option Nat} {H : Heap} {locs : List Loc} {a b : Nat} {cells slots : Nat} {ls : Array Slot} {i : Int32} {n : Nat} (D : LC p K s m meth c b0 L xs) (S : SX K s G H locs a b) (hl : lv_has ls 4 [(3, .int i), (2, .ref b), (1, .ref a), (0, .ref b0)]) (hi : 0 ≤ i.toInt ∧ i.toInt + 6 ≤ L) (hn : n ≤ 511) (hB : BD K H a cells slots) (nx : ∀ (G : Nat → Option Nat) (H : Heap) (locs : List Loc) (cells slots : Nat) (ls : Array Slot), SX K s G H locs a b → lv_has ls 4 [(3, .int i), (2, .ref b), (1, .ref a), (0, .ref b0)] → BD K H a cells slots → W p l e room_1 s m #[Value.ref b0] below meth c H locs cells slots (lw_Z below #[Value.ref b0] s) (F0 m 1509 ls [])) : W p l e room_1 s m #[Value.ref b0] below meth c H locs cells slots (lw_Z below #[Value.ref b0] s) (F0 m 1249 ls []) := by
  obtain ⟨C, hX, hbl, hL⟩ := id D
  obtain ⟨hx, hb, hml, hown, hts, hKT, hr, hlocks, hnm⟩ := id C
  obtain ⟨hT, hN, ga, gb, cg, tu, wd, im, ⟨rt, r1, r4, r5, r10, r13, r16⟩, hk, htb, hS⟩ := S
  obtain ⟨hc, hs, hB0⟩ := hB
  have n_1 : (1 : Int32).toInt = 1 := rfl
  have n_2 : (2 : Int32).toInt = 2 := rfl
  obtain ⟨w, ew⟩ : ∃ z : Nat, z = fR H a (K.1.2 9 0) := ⟨_, rfl⟩
  have gw := ty_fr (q := w) (k := 0) (u := 0) ew hT ga rg_68 rfl
  rw [← ew] at r1 r4 r5 r10 r13 r16
  obtain ⟨ta, eta⟩ : ∃ z : Int32, z = fI H a (K.1.2 9 3) := ⟨_, rfl⟩
  rw [← eta] at rt
  obtain ⟨tb, etb⟩ : ∃ z : Int32, z = fI H b (K.1.2 10 18) := ⟨_, rfl⟩
  rw [← etb] at rt
  obtain ⟨s1, es1⟩ : ∃ z : Int32, z = fI H w (K.1.2 8 1) := ⟨_, rfl⟩
  rw [← es1] at r1
  obtain ⟨y1, ey1⟩ : ∃ z : Int32, z = fI H b (K.1.2 10 1) := ⟨_, rfl⟩
  rw [← ey1] at r1
  obtain ⟨s4, es4⟩ : ∃ z : Int32, z = fI H w (K.1.2 8 4) := ⟨_, rfl⟩
  rw [← es4] at r4
  obtain ⟨y4, ey4⟩ : ∃ z : Int32, z = fI H b (K.1.2 10 2) := ⟨_, rfl⟩
  rw [← ey4] at r4
  obtain ⟨s5, es5⟩ : ∃ z : Int32, z = fI H w (K.1.2 8 5) := ⟨_, rfl⟩
  rw [← es5] at r5
  obtain ⟨y5, ey5⟩ : ∃ z : Int32, z = fI H b (K.1.2 10 3) := ⟨_, rfl⟩
  rw [← ey5] at r5
  obtain ⟨s10, es10⟩ : ∃ z : Int32, z = fI H w (K.1.2 8 10) := ⟨_, rfl⟩
  rw [← es10] at r10
  obtain ⟨y10, ey10⟩ : ∃ z : Int32, z = fI H b (K.1.2 10 59) := ⟨_, rfl⟩
  rw [← ey10] at r10
  obtain ⟨s13, es13⟩ : ∃ z : Int32, z = fI H w (K.1.2 8 13) := ⟨_, rfl⟩
  rw [← es13] at r13
  obtain ⟨y13, ey13⟩ : ∃ z : Int32, z = fI H b (K.1.2 10 62) := ⟨_, rfl⟩
  rw [← ey13] at r13
  obtain ⟨s16, es16⟩ : ∃ z : Int32, z = fI H w (K.1.2 8 16) := ⟨_, rfl⟩
  rw [← es16] at r16
  obtain ⟨y16, ey16⟩ : ∃ z : Int32, z = fI H b (K.1.2 10 65) := ⟨_, rfl⟩
  rw [← ey16] at r16
  obtain ⟨tq, etq⟩ : ∃ z : Nat, z = fR H a (K.1.2 9 2) := ⟨_, rfl⟩
  have gtq := ty_fr (q := tq) (k := 2) (u := 108) etq hT ga rg_68 rfl
  obtain ⟨uq, euq⟩ : ∃ z : Nat, z = fR H b (K.1.2 10 17) := ⟨_, rfl⟩
  have guq := ty_fr (q := uq) (k := 17) (u := 126) euq hT gb rg_112 rfl
  have htr : TBR (fun j => fI H tq j) (fun j => fI H uq j) tb.toNatClampNeg := by rw [etq, euq, etb]; exact htb
  have ft0 : ∀ j : Nat, fI H tq j = fI H tq j := fun _ => rfl
  have fu0 : ∀ j : Nat, fI H uq j = fI H uq j := fun _ => rfl
  have bta := ty_fi (x := ta) (k := 3) eta hT ga rg_68 rfl
  have cta := i_cl (x := ta) (by omega)
  have btb := ty_fi (x := tb) (k := 18) etb hT gb rg_112 rfl
  have ctb := i_cl (x := tb) (by omega)
  rcases hk with ⟨kn, h70⟩ | ⟨kq, kn, gkq, h70, q1, q4, q5, q10, q13, q16⟩
  · skip
    obtain ⟨hi, ehi⟩ : ∃ z : Int32, z = fI H b (K.1.2 10 70) := ⟨_, rfl⟩
    rw [← ehi] at h70
    obtain ⟨hc0, hs0⟩ := hB0 kn
    refine lv_aload_n hx hb dL_law_1249 rfl (lv_at hl 2 rfl) ?_
    refine lv_aload_n hx hb dL_law_1250 rfl (lv_at hl 3 rfl) ?_
    refine lv_iload_n hx hb dL_law_1251 rfl (lv_at hl 0 rfl) ?_
    refine lv_iconst (v := 1) hx hb dL_law_1252 (by decide) ?_
    refine lv_iadd hx hb dL_law_1253 ?_
    refine lv_topi (fun x101 ex101 => ?_)
    have tx101 := i_add ex101 (by omega)
    have ejx101 : x101.toNatClampNeg = i.toNatClampNeg + 1 := by have h1 := i_cl (x := x101) (by omega); have h2 := i_cl (x := i) (by omega); omega
    refine va_sld hx hb hX hbl (Nat.not_le.mpr hbl) hS (vp_in_iff.mpr (by omega)) dL_law_1254 ?_
    refine W.eq (g2 := F0 m 1255 ls [.int (xs (i.toNatClampNeg + 1)), .ref a]) (congrArg (fun z => F0 m 1255 ls [.int (xs z), .ref a]) ejx101) ?_
    refine lv_aload_n hx hb dL_law_1255 rfl (lv_at hl 3 rfl) ?_
    refine lv_iload_n hx hb dL_law_1256 rfl (lv_at hl 0 rfl) ?_
    refine lv_iconst (v := 2) hx hb dL_law_1257 (by decide) ?_
    refine lv_iadd hx hb dL_law_1258 ?_
    refine lv_topi (fun x102 ex102 => ?_)
    have tx102 := i_add ex102 (by omega)
    have ejx102 : x102.toNatClampNeg = i.toNatClampNeg + 2 := by have h1 := i_cl (x := x102) (by omega); have h2 := i_cl (x := i) (by omega); omega
    refine va_sld hx hb hX hbl (Nat.not_le.mpr hbl) hS (vp_in_iff.mpr (by omega)) dL_law_1259 ?_
    refine W.eq (g2 := F0 m 1260 ls [.int (xs (i.toNatClampNeg + 2)), .int (xs (i.toNatClampNeg + 1)), .ref a]) (congrArg (fun z => F0 m 1260 ls [.int (xs z), .int (xs (i.toNatClampNeg + 1)), .ref a]) ejx102) ?_
    refine x_V (As := [.int (xs (i.toNatClampNeg + 1)), .int (xs (i.toNatClampNeg + 2))]) (rest := []) C (a_X9_nights l K G H ((xs (i.toNatClampNeg + 1))) ((xs (i.toNatClampNeg + 2))) hT ga) yo_X9_nights wM_L_129 ⟨⟨by decide, by decide⟩, show _ ≤ 284929 by omega, show _ ≤ 8247460 by omega⟩ (x_rv C hT (ci := 9) rfl ga rg_68) rfl hl.1 rfl (Nat.le_of_ble_eq_true rfl) dL_law_1260 hS (AE_new hN hS.1) (fun vH103 H103 locsH103 pH103 zH103 kH103 hSH103 => ?_)
    obtain ⟨x104, hvH103, hTH103⟩ := pH103
    subst hvH103
    have g105 : CG (avw K H103 b) := CG.congr (fun k hk j => av_eff hT kH103 gb (by decide) (CG_eff [83, 84, 109] (by decide) k hk)) cg
    have g106 : TU (avw K H103 b) (svw K H103 b) := TU.congr (fun k hk j => av_eff hT kH103 gb (by decide) (TU_eff [83, 84, 109] (by decide) k hk)) (fun k hk => sv_eff hT kH103 gb (by decide)) tu
    have g107 : WD (avw K H103 b) := WD.congr (fun k hk j => av_eff hT kH103 gb (by decide) (WD_eff [83, 84, 109] (by decide) k hk)) wd
    have g108 : IM (avw K H103 b) := IM.congr (fun k hk j => av_eff hT kH103 gb (by decide) (IM_eff [83, 84, 109] (by decide) k hk)) im
    have f109 : ∀ j : Nat, fI H103 tq j = fI H tq j := fun j => (fI_kept (x_lt hT kH103 gtq (by decide))).trans (ft0 j)
    have f110 : ∀ j : Nat, fI H103 uq j = fI H uq j := fun j => (fI_kept (x_lt hT kH103 guq (by decide))).trans (fu0 j)
    have m111 := (ew).trans (fR_kept (x_lt hT kH103 ga (by decide))).symm
    have m112 := (eta).trans (fI_kept (x_lt hT kH103 ga (by decide))).symm
    have m113 := (etb).trans (fI_kept (x_lt hT kH103 gb (by decide))).symm
    have m114 := (es1).trans (fI_kept (x_lt hT kH103 gw (by decide))).symm
    have m115 := (ey1).trans (fI_kept (x_lt hT kH103 gb (by decide))).symm
    have m116 := (es4).trans (fI_kept (x_lt hT kH103 gw (by decide))).symm
    have m117 := (ey4).trans (fI_kept (x_lt hT kH103 gb (by decide))).symm
    have m118 := (es5).trans (fI_kept (x_lt hT kH103 gw (by decide))).symm
    have m119 := (ey5).trans (fI_kept (x_lt hT kH103 gb (by decide))).symm
    have m120 := (es10).trans (fI_kept (x_lt hT kH103 gw (by decide))).symm
    have m121 := (ey10).trans (fI_kept (x_lt hT kH103 gb (by decide))).symm
    have m122 := (es13).trans (fI_kept (x_lt hT kH103 gw (by decide))).symm
    have m123 := (ey13).trans (fI_kept (x_lt hT kH103 gb (by decide))).symm
    have m124 := (es16).trans (fI_kept (x_lt hT kH103 gw (by decide))).symm
    have m125 := (ey16).trans (fI_kept (x_lt hT kH103 gb (by decide))).symm
    have m126 := (etq).trans (fR_kept (x_lt hT kH103 ga (by decide))).symm
    have m127 := (euq).trans (fR_kept (x_lt hT kH103 gb (by decide))).symm
    have m128 := (ehi).trans (fI_kept (x_lt hT kH103 gb (by decide))).symm
    have m129 := (fV_kept (x_lt hT kH103 ga (by decide))).trans kn
    refine W.eq (g2 := F0 m 1263 ls [.int x104]) rfl ?_
    refine lv_pop hx hb dL_law_1263 rfl ?_
    refine lv_aload_n hx hb dL_law_1264 rfl (lv_at hl 1 rfl) ?_
    refine lv_aload_n hx hb dL_law_1265 rfl (lv_at hl 3 rfl) ?_
    refine lv_iload_n hx hb dL_law_1266 rfl (lv_at hl 0 rfl) ?_
    refine lv_iconst (v := 1) hx hb dL_law_1267 (by decide) ?_
    refine lv_iadd hx hb dL_law_1268 ?_
    refine lv_topi (fun x130 ex130 => ?_)
    have tx130 := i_add ex130 (by omega)
    have ejx130 : x130.toNatClampNeg = i.toNatClampNeg + 1 := by have h1 := i_cl (x := x130) (by omega); have h2 := i_cl (x := i) (by omega); omega
    refine va_sld hx hb hX hbl (Nat.not_le.mpr hbl) hSH103 (vp_in_iff.mpr (by omega)) dL_law_1269 ?_
    refine W.eq (g2 := F0 m 1270 ls [.int (xs (i.toNatClampNeg + 1)), .ref b]) (congrArg (fun z => F0 m 1270 ls [.int (xs z), .ref b]) ejx130) ?_
    refine lv_aload_n hx hb dL_law_1270 rfl (lv_at hl 3 rfl) ?_
    refine lv_iload_n hx hb dL_law_1271 rfl (lv_at hl 0 rfl) ?_
    refine lv_iconst (v := 2) hx hb dL_law_1272 (by decide) ?_
    refine lv_iadd hx hb dL_law_1273 ?_
    refine lv_topi (fun x131 ex131 => ?_)
    have tx131 := i_add ex131 (by omega)
    have ejx131 : x131.toNatClampNeg = i.toNatClampNeg + 2 := by have h1 := i_cl (x := x131) (by omega); have h2 := i_cl (x := i) (by omega); omega
    refine va_sld hx hb hX hbl (Nat.not_le.mpr hbl) hSH103 (vp_in_iff.mpr (by omega)) dL_law_1274 ?_
    refine W.eq (g2 := F0 m 1275 ls [.int (xs (i.toNatClampNeg + 2)), .int (xs (i.toNatClampNeg + 1)), .ref b]) (congrArg (fun z => F0 m 1275 ls [.int (xs z), .int (xs (i.toNatClampNeg + 1)), .ref b]) ejx131) ?_
    refine x_V (As := [.int (xs (i.toNatClampNeg + 1)), .int (xs (i.toNatClampNeg + 2))]) (rest := []) C (a_X10_nights l K G H103 ((xs (i.toNatClampNeg + 1))) ((xs (i.toNatClampNeg + 2))) hTH103 gb g105 g106 g107 g108) yo_X10_nights wM_L_132 ⟨⟨by decide, by decide⟩, show _ ≤ 284929 by omega, show _ ≤ 8247460 by omega⟩ (x_rv C hTH103 (ci := 10) rfl gb rg_112) rfl hl.1 rfl (Nat.le_of_ble_eq_true rfl) dL_law_1275 hSH103 (AE_new hN hSH103.1) (fun vH132 H132 locsH132 pH132 zH132 kH132 hSH132 => ?_)
    obtain ⟨x133, hvH132, g134, g135, g136, g137, mf138, hTH132⟩ := pH132
    subst hvH132
    have f139 : ∀ j : Nat, fI H132 tq j = fI H tq j := fun j => (fI_kept (x_lt hTH103 kH132 gtq (by decide))).trans (f109 j)
    have f140 : ∀ j : Nat, fI H132 uq j = fI H uq j := fun j => (fI_kept (x_lt hTH103 kH132 guq (by decide))).trans (f110 j)
    have m141 := (m111).trans (fR_kept (x_lt hTH103 kH132 ga (by decide))).symm
    have m142 := (m112).trans (fI_kept (x_lt hTH103 kH132 ga (by decide))).symm
    have m143 := (m114).trans (fI_kept (x_lt hTH103 kH132 gw (by decide))).symm
    have m144 := (m116).trans (fI_kept (x_lt hTH103 kH132 gw (by decide))).symm
    have m145 := (m118).trans (fI_kept (x_lt hTH103 kH132 gw (by decide))).symm
    have m146 := (m120).trans (fI_kept (x_lt hTH103 kH132 gw (by decide))).symm
    have m147 := (m122).trans (fI_kept (x_lt hTH103 kH132 gw (by decide))).symm
    have m148 := (m124).trans (fI_kept (x_lt hTH103 kH132 gw (by decide))).symm
    have m149 := (m126).trans (fR_kept (x_lt hTH103 kH132 ga (by decide))).symm
    have m150 := (fV_kept (x_lt hTH103 kH132 ga (by decide))).trans m129
    have m151 := (m113).trans (MF.i mf138 (k := 18) (by decide) (by decide)).symm
    have m152 := (m115).trans (MF.i mf138 (k := 1) (by decide) (by decide)).symm
    have m153 := (m117).trans (MF.i mf138 (k := 2) (by decide) (by decide)).symm
    have m154 := (m119).trans (MF.i mf138 (k := 3) (by decide) (by decide)).symm
    have m155 := (m121).trans (MF.i mf138 (k := 59) (by decide) (by decide)).symm
    have m156 := (m123).trans (MF.i mf138 (k := 62) (by decide) (by decide)).symm
    have m157 := (m125).trans (MF.i mf138 (k := 65) (by decide) (by decide)).symm
    have m158 := (m127).trans (MF.r mf138 (k := 17) (by decide) (by decide)).symm
    have m159 := (m128).trans (MF.i mf138 (k := 70) (by decide) (by decide)).symm
    refine W.eq (g2 := F0 m 1278 ls [.int x133]) rfl ?_
    refine lv_pop hx hb dL_law_1278 rfl ?_
    refine lv_goto (tgt := 1509) hx hb dL_law_1279 (by decide) ?_
    exact nx G H132 locsH132 _ _ ls ⟨hTH132, hN, ga, gb, g134, g135, g136, g137, ⟨(by rw [← m142, ← m151]; omega), (by rw [← m141, ← m143, ← m152]; omega), (by rw [← m141, ← m144, ← m153]; omega), (by rw [← m141, ← m145, ← m154]; omega), (by rw [← m141, ← m146, ← m155]; omega), (by rw [← m141, ← m147, ← m156]; omega), (by rw [← m141, ← m148, ← m157]; omega)⟩, Or.inl ⟨m150, (by rw [← m159]; omega)⟩, (by unfold TB; rw [← m149, ← m158, ← m151]; exact TBR.of htr f139 f140 (by omega)), hSH132⟩ hl ⟨by omega, by omega, fun _ => ⟨by omega, by omega⟩⟩
  · skip
    obtain ⟨hi, ehi⟩ : ∃ z : Int32, z = fI H b (K.1.2 10 70) := ⟨_, rfl⟩
    rw [← ehi] at h70
    obtain ⟨iq, eiq⟩ : ∃ z : Nat, z = fR H b (K.1.2 10 73) := ⟨_, rfl⟩
    have giq := ty_fr (q := iq) (k := 73) (u := 162) eiq hT gb rg_112 rfl
    rw [← eiq] at q1 q4 q5 q10 q13 q16
    obtain ⟨k1, ek1⟩ : ∃ z : Int32, z = fI H kq (K.1.2 8 1) := ⟨_, rfl⟩
    rw [← ek1] at q1
    obtain ⟨i1, ei1⟩ : ∃ z : Int32, z = fI H iq ((0 : Int32).toNatClampNeg) := ⟨_, rfl⟩
    rw [← ei1] at q1
    obtain ⟨k4, ek4⟩ : ∃ z : Int32, z = fI H kq (K.1.2 8 4) := ⟨_, rfl⟩
    rw [← ek4] at q4
    obtain ⟨i4, ei4⟩ : ∃ z : Int32, z = fI H iq ((1 : Int32).toNatClampNeg) := ⟨_, rfl⟩
    rw [← ei4] at q4
    obtain ⟨k5, ek5⟩ : ∃ z : Int32, z = fI H kq (K.1.2 8 5) := ⟨_, rfl⟩
    rw [← ek5] at q5
    obtain ⟨i5, ei5⟩ : ∃ z : Int32, z = fI H iq ((2 : Int32).toNatClampNeg) := ⟨_, rfl⟩
    rw [← ei5] at q5
    obtain ⟨k10, ek10⟩ : ∃ z : Int32, z = fI H kq (K.1.2 8 10) := ⟨_, rfl⟩
    rw [← ek10] at q10
    obtain ⟨i10, ei10⟩ : ∃ z : Int32, z = fI H iq ((3 : Int32).toNatClampNeg) := ⟨_, rfl⟩
    rw [← ei10] at q10
    obtain ⟨k13, ek13⟩ : ∃ z : Int32, z = fI H kq (K.1.2 8 13) := ⟨_, rfl⟩
    rw [← ek13] at q13
    obtain ⟨i13, ei13⟩ : ∃ z : Int32, z = fI H iq ((4 : Int32).toNatClampNeg) := ⟨_, rfl⟩
    rw [← ei13] at q13
    obtain ⟨k16, ek16⟩ : ∃ z : Int32, z = fI H kq (K.1.2 8 16) := ⟨_, rfl⟩
    rw [← ek16] at q16
    obtain ⟨i16, ei16⟩ : ∃ z : Int32, z = fI H iq ((5 : Int32).toNatClampNeg) := ⟨_, rfl⟩
    rw [← ei16] at q16
    refine lv_aload_n hx hb dL_law_1249 rfl (lv_at hl 2 rfl) ?_
    refine lv_aload_n hx hb dL_law_1250 rfl (lv_at hl 3 rfl) ?_
    refine lv_iload_n hx hb dL_law_1251 rfl (lv_at hl 0 rfl) ?_
    refine lv_iconst (v := 1) hx hb dL_law_1252 (by decide) ?_
    refine lv_iadd hx hb dL_law_1253 ?_
    refine lv_topi (fun x160 ex160 => ?_)
    have tx160 := i_add ex160 (by omega)
    have ejx160 : x160.toNatClampNeg = i.toNatClampNeg + 1 := by have h1 := i_cl (x := x160) (by omega); have h2 := i_cl (x := i) (by omega); omega
    refine va_sld hx hb hX hbl (Nat.not_le.mpr hbl) hS (vp_in_iff.mpr (by omega)) dL_law_1254 ?_
    refine W.eq (g2 := F0 m 1255 ls [.int (xs (i.toNatClampNeg + 1)), .ref a]) (congrArg (fun z => F0 m 1255 ls [.int (xs z), .ref a]) ejx160) ?_
    refine lv_aload_n hx hb dL_law_1255 rfl (lv_at hl 3 rfl) ?_
    refine lv_iload_n hx hb dL_law_1256 rfl (lv_at hl 0 rfl) ?_
    refine lv_iconst (v := 2) hx hb dL_law_1257 (by decide) ?_
    refine lv_iadd hx hb dL_law_1258 ?_
    refine lv_topi (fun x161 ex161 => ?_)
    have tx161 := i_add ex161 (by omega)
    have ejx161 : x161.toNatClampNeg = i.toNatClampNeg + 2 := by have h1 := i_cl (x := x161) (by omega); have h2 := i_cl (x := i) (by omega); omega
    refine va_sld hx hb hX hbl (Nat.not_le.mpr hbl) hS (vp_in_iff.mpr (by omega)) dL_law_1259 ?_
    refine W.eq (g2 := F0 m 1260 ls [.int (xs (i.toNatClampNeg + 2)), .int (xs (i.toNatClampNeg + 1)), .ref a]) (congrArg (fun z => F0 m 1260 ls [.int (xs z), .int (xs (i.toNatClampNeg + 1)), .ref a]) ejx161) ?_
    refine x_V (As := [.int (xs (i.toNatClampNeg + 1)), .int (xs (i.toNatClampNeg + 2))]) (rest := []) C (a_X9_nights l K G H ((xs (i.toNatClampNeg + 1))) ((xs (i.toNatClampNeg + 2))) hT ga) yo_X9_nights wM_L_129 ⟨⟨by decide, by decide⟩, show _ ≤ 284929 by omega, show _ ≤ 8247460 by omega⟩ (x_rv C hT (ci := 9) rfl ga rg_68) rfl hl.1 rfl (Nat.le_of_ble_eq_true rfl) dL_law_1260 hS (AE_new hN hS.1) (fun vH162 H162 locsH162 pH162 zH162 kH162 hSH162 => ?_)
    obtain ⟨x163, hvH162, hTH162⟩ := pH162
    subst hvH162
    have g164 : CG (avw K H162 b) := CG.congr (fun k hk j => av_eff hT kH162 gb (by decide) (CG_eff [83, 84, 109] (by decide) k hk)) cg
    have g165 : TU (avw K H162 b) (svw K H162 b) := TU.congr (fun k hk j => av_eff hT kH162 gb (by decide) (TU_eff [83, 84, 109] (by decide) k hk)) (fun k hk => sv_eff hT kH162 gb (by decide)) tu
    have g166 : WD (avw K H162 b) := WD.congr (fun k hk j => av_eff hT kH162 gb (by decide) (WD_eff [83, 84, 109] (by decide) k hk)) wd
    have g167 : IM (avw K H162 b) := IM.congr (fun k hk j => av_eff hT kH162 gb (by decide) (IM_eff [83, 84, 109] (by decide) k hk)) im
    have f168 : ∀ j : Nat, fI H162 tq j = fI H tq j := fun j => (fI_kept (x_lt hT kH162 gtq (by decide))).trans (ft0 j)
    have f169 : ∀ j : Nat, fI H162 uq j = fI H uq j := fun j => (fI_kept (x_lt hT kH162 guq (by decide))).trans (fu0 j)
    have m170 := (ew).trans (fR_kept (x_lt hT kH162 ga (by decide))).symm
    have m171 := (eta).trans (fI_kept (x_lt hT kH162 ga (by decide))).symm
    have m172 := (etb).trans (fI_kept (x_lt hT kH162 gb (by decide))).symm
    have m173 := (es1).trans (fI_kept (x_lt hT kH162 gw (by decide))).symm
    have m174 := (ey1).trans (fI_kept (x_lt hT kH162 gb (by decide))).symm
    have m175 := (es4).trans (fI_kept (x_lt hT kH162 gw (by decide))).symm
    have m176 := (ey4).trans (fI_kept (x_lt hT kH162 gb (by decide))).symm
    have m177 := (es5).trans (fI_kept (x_lt hT kH162 gw (by decide))).symm
    have m178 := (ey5).trans (fI_kept (x_lt hT kH162 gb (by decide))).symm
    have m179 := (es10).trans (fI_kept (x_lt hT kH162 gw (by decide))).symm
    have m180 := (ey10).trans (fI_kept (x_lt hT kH162 gb (by decide))).symm
    have m181 := (es13).trans (fI_kept (x_lt hT kH162 gw (by decide))).symm
    have m182 := (ey13).trans (fI_kept (x_lt hT kH162 gb (by decide))).symm
    have m183 := (es16).trans (fI_kept (x_lt hT kH162 gw (by decide))).symm
    have m184 := (ey16).trans (fI_kept (x_lt hT kH162 gb (by decide))).symm
    have m185 := (etq).trans (fR_kept (x_lt hT kH162 ga (by decide))).symm
    have m186 := (euq).trans (fR_kept (x_lt hT kH162 gb (by decide))).symm
    have m187 := (ehi).trans (fI_kept (x_lt hT kH162 gb (by decide))).symm
    have m188 := (fV_kept (x_lt hT kH162 ga (by decide))).trans kn
    have m189 := (eiq).trans (fR_kept (x_lt hT kH162 gb (by decide))).symm
    have m190 := (ek1).trans (fI_kept (x_lt hT kH162 gkq (by decide))).symm
    have m191 := (ei1).trans (fI_kept (x_lt hT kH162 giq (by decide))).symm
    have m192 := (ek4).trans (fI_kept (x_lt hT kH162 gkq (by decide))).symm
    have m193 := (ei4).trans (fI_kept (x_lt hT kH162 giq (by decide))).symm
    have m194 := (ek5).trans (fI_kept (x_lt hT kH162 gkq (by decide))).symm
    have m195 := (ei5).trans (fI_kept (x_lt hT kH162 giq (by decide))).symm
    have m196 := (ek10).trans (fI_kept (x_lt hT kH162 gkq (by decide))).symm
    have m197 := (ei10).trans (fI_kept (x_lt hT kH162 giq (by decide))).symm
    have m198 := (ek13).trans (fI_kept (x_lt hT kH162 gkq (by decide))).symm
    have m199 := (ei13).trans (fI_kept (x_lt hT kH162 giq (by decide))).symm
    have m200 := (ek16).trans (fI_kept (x_lt hT kH162 gkq (by decide))).symm
    have m201 := (ei16).trans (fI_kept (x_lt hT kH162 giq (by decide))).symm
    refine W.eq (g2 := F0 m 1263 ls [.int x163]) rfl ?_
    refine lv_pop hx hb dL_law_1263 rfl ?_
    refine lv_aload_n hx hb dL_law_1264 rfl (lv_at hl 1 rfl) ?_
    refine lv_aload_n hx hb dL_law_1265 rfl (lv_at hl 3 rfl) ?_
    refine lv_iload_n hx hb dL_law_1266 rfl (lv_at hl 0 rfl) ?_
    refine lv_iconst (v := 1) hx hb dL_law_1267 (by decide) ?_
    refine lv_iadd hx hb dL_law_1268 ?_
    refine lv_topi (fun x202 ex202 => ?_)
    have tx202 := i_add ex202 (by omega)
    have ejx202 : x202.toNatClampNeg = i.toNatClampNeg + 1 := by have h1 := i_cl (x := x202) (by omega); have h2 := i_cl (x := i) (by omega); omega
    refine va_sld hx hb hX hbl (Nat.not_le.mpr hbl) hSH162 (vp_in_iff.mpr (by omega)) dL_law_1269 ?_
    refine W.eq (g2 := F0 m 1270 ls [.int (xs (i.toNatClampNeg + 1)), .ref b]) (congrArg (fun z => F0 m 1270 ls [.int (xs z), .ref b]) ejx202) ?_
    refine lv_aload_n hx hb dL_law_1270 rfl (lv_at hl 3 rfl) ?_
    refine lv_iload_n hx hb dL_law_1271 rfl (lv_at hl 0 rfl) ?_
    refine lv_iconst (v := 2) hx hb dL_law_1272 (by decide) ?_
    refine lv_iadd hx hb dL_law_1273 ?_
    refine lv_topi (fun x203 ex203 => ?_)
    have tx203 := i_add ex203 (by omega)
    have ejx203 : x203.toNatClampNeg = i.toNatClampNeg + 2 := by have h1 := i_cl (x := x203) (by omega); have h2 := i_cl (x := i) (by omega); omega
    refine va_sld hx hb hX hbl (Nat.not_le.mpr hbl) hSH162 (vp_in_iff.mpr (by omega)) dL_law_1274 ?_
    refine W.eq (g2 := F0 m 1275 ls [.int (xs (i.toNatClampNeg + 2)), .int (xs (i.toNatClampNeg + 1)), .ref b]) (congrArg (fun z => F0 m 1275 ls [.int (xs z), .int (xs (i.toNatClampNeg + 1)), .ref b]) ejx203) ?_
    refine x_V (As := [.int (xs (i.toNatClampNeg + 1)), .int (xs (i.toNatClampNeg + 2))]) (rest := []) C (a_X10_nights l K G H162 ((xs (i.toNatClampNeg + 1))) ((xs (i.toNatClampNeg + 2))) hTH162 gb g164 g165 g166 g167) yo_X10_nights wM_L_132 ⟨⟨by decide, by decide⟩, show _ ≤ 284929 by omega, show _ ≤ 8247460 by omega⟩ (x_rv C hTH162 (ci := 10) rfl gb rg_112) rfl hl.1 rfl (Nat.le_of_ble_eq_true rfl) dL_law_1275 hSH162 (AE_new hN hSH162.1) (fun vH204 H204 locsH204 pH204 zH204 kH204 hSH204 => ?_)
    obtain ⟨x205, hvH204, g206, g207, g208, g209, mf210, hTH204⟩ := pH204
    subst hvH204
    have f211 : ∀ j : Nat, fI H204 tq j = fI H tq j := fun j => (fI_kept (x_lt hTH162 kH204 gtq (by decide))).trans (f168 j)
    have f212 : ∀ j : Nat, fI H204 uq j = fI H uq j := fun j => (fI_kept (x_lt hTH162 kH204 guq (by decide))).trans (f169 j)
    have m213 := (m170).trans (fR_kept (x_lt hTH162 kH204 ga (by decide))).symm
    have m214 := (m171).trans (fI_kept (x_lt hTH162 kH204 ga (by decide))).symm
    have m215 := (m173).trans (fI_kept (x_lt hTH162 kH204 gw (by decide))).symm
    have m216 := (m175).trans (fI_kept (x_lt hTH162 kH204 gw (by decide))).symm
    have m217 := (m177).trans (fI_kept (x_lt hTH162 kH204 gw (by decide))).symm
    have m218 := (m179).trans (fI_kept (x_lt hTH162 kH204 gw (by decide))).symm
    have m219 := (m181).trans (fI_kept (x_lt hTH162 kH204 gw (by decide))).symm
    have m220 := (m183).trans (fI_kept (x_lt hTH162 kH204 gw (by decide))).symm
    have m221 := (m185).trans (fR_kept (x_lt hTH162 kH204 ga (by decide))).symm
    have m222 := (fV_kept (x_lt hTH162 kH204 ga (by decide))).trans m188
    have m223 := (m190).trans (fI_kept (x_lt hTH162 kH204 gkq (by decide))).symm
    have m224 := (m191).trans (fI_kept (x_lt hTH162 kH204 giq (by decide))).symm
    have m225 := (m192).trans (fI_kept (x_lt hTH162 kH204 gkq (by decide))).symm
    have m226 := (m193).trans (fI_kept (x_lt hTH162 kH204 giq (by decide))).symm
    have m227 := (m194).trans (fI_kept (x_lt hTH162 kH204 gkq (by decide))).symm
    have m228 := (m195).trans (fI_kept (x_lt hTH162 kH204 giq (by decide))).symm
    have m229 := (m196).trans (fI_kept (x_lt hTH162 kH204 gkq (by decide))).symm
    have m230 := (m197).trans (fI_kept (x_lt hTH162 kH204 giq (by decide))).symm
    have m231 := (m198).trans (fI_kept (x_lt hTH162 kH204 gkq (by decide))).symm
    have m232 := (m199).trans (fI_kept (x_lt hTH162 kH204 giq (by decide))).symm
    have m233 := (m200).trans (fI_kept (x_lt hTH162 kH204 gkq (by decide))).symm
    have m234 := (m201).trans (fI_kept (x_lt hTH162 kH204 giq (by decide))).symm
    have m235 := (m172).trans (MF.i mf210 (k := 18) (by decide) (by decide)).symm
    have m236 := (m174).trans (MF.i mf210 (k := 1) (by decide) (by decide)).symm
    have m237 := (m176).trans (MF.i mf210 (k := 2) (by decide) (by decide)).symm
    have m238 := (m178).trans (MF.i mf210 (k := 3) (by decide) (by decide)).symm
    have m239 := (m180).trans (MF.i mf210 (k := 59) (by decide) (by decide)).symm
    have m240 := (m182).trans (MF.i mf210 (k := 62) (by decide) (by decide)).symm
    have m241 := (m184).trans (MF.i mf210 (k := 65) (by decide) (by decide)).symm
    have m242 := (m186).trans (MF.r mf210 (k := 17) (by decide) (by decide)).symm
    have m243 := (m187).trans (MF.i mf210 (k := 70) (by decide) (by decide)).symm
    have m244 := (m189).trans (MF.r mf210 (k := 73) (by decide) (by decide)).symm
    refine W.eq (g2 := F0 m 1278 ls [.int x205]) rfl ?_
    refine lv_pop hx hb dL_law_1278 rfl ?_
    refine lv_goto (tgt := 1509) hx hb dL_law_1279 (by decide) ?_
    exact nx G H204 locsH204 _ _ ls ⟨hTH204, hN, ga, gb, g206, g207, g208, g209, ⟨(by rw [← m214, ← m235]; omega), (by rw [← m213, ← m215, ← m236]; omega), (by rw [← m213, ← m216, ← m237]; omega), (by rw [← m213, ← m217, ← m238]; omega), (by rw [← m213, ← m218, ← m239]; omega), (by rw [← m213, ← m219, ← m240]; omega), (by rw [← m213, ← m220, ← m241]; omega)⟩, Or.inr ⟨kq, m222, gkq, (by rw [← m243]; omega), (by rw [← m223, ← m244, ← m224]; omega), (by rw [← m225, ← m244, ← m226]; omega), (by rw [← m227, ← m244, ← m228]; omega), (by rw [← m229, ← m244, ← m230]; omega), (by rw [← m231, ← m244, ← m232]; omega), (by rw [← m233, ← m244, ← m234]; omega)⟩, (by unfold TB; rw [← m221, ← m242, ← m235]; exact TBR.of htr f211 f212 (by omega)), hSH204⟩ hl ⟨by omega, by omega, fun h => by have h1 := h.symm.trans m222; cases h1⟩
set_option maxRecDepth 100000 in
set_option maxHeartbeats 8000000 in
theorem lw_c28 {p : Program} {l : Launch} {e : Env} {s : State} {m : MethodId} {below : List Frame} {meth : Method} {c : Code} {K : KE} {b0 L : Nat} {xs : Nat → Int32} {G : Nat → Option Nat} {H : Heap} {locs : List Loc} {a b : Nat} {cells slots : Nat} {ls : Array Slot} {i : Int32} {n : Nat} (D : LC p K s m meth c b0 L xs) (S : SX K s G H locs a b) (hl : lv_has ls 4 [(3, .int i), (2, .ref b), (1, .ref a), (0, .ref b0)]) (hi : 0 ≤ i.toInt ∧ i.toInt + 6 ≤ L) (hn : n ≤ 511) (hB : BD K H a cells slots) (nx : ∀ (G : Nat → Option Nat) (H : Heap) (locs : List Loc) (cells slots : Nat) (ls : Array Slot), SX K s G H locs a b → lv_has ls 4 [(3, .int i), (2, .ref b), (1, .ref a), (0, .ref b0)] → BD K H a cells slots → W p l e room_1 s m #[Value.ref b0] below meth c H locs cells slots (lw_Z below #[Value.ref b0] s) (F0 m 1509 ls [])) : W p l e room_1 s m #[Value.ref b0] below meth c H locs cells slots (lw_Z below #[Value.ref b0] s) (F0 m 1282 ls []) := by
  obtain ⟨C, hX, hbl, hL⟩ := id D
  obtain ⟨hx, hb, hml, hown, hts, hKT, hr, hlocks, hnm⟩ := id C
  obtain ⟨hT, hN, ga, gb, cg, tu, wd, im, ⟨rt, r1, r4, r5, r10, r13, r16⟩, hk, htb, hS⟩ := S
  obtain ⟨hc, hs, hB0⟩ := hB
  have n_1 : (1 : Int32).toInt = 1 := rfl
  have n_2 : (2 : Int32).toInt = 2 := rfl
  obtain ⟨w, ew⟩ : ∃ z : Nat, z = fR H a (K.1.2 9 0) := ⟨_, rfl⟩
  have gw := ty_fr (q := w) (k := 0) (u := 0) ew hT ga rg_68 rfl
  rw [← ew] at r1 r4 r5 r10 r13 r16
  obtain ⟨ta, eta⟩ : ∃ z : Int32, z = fI H a (K.1.2 9 3) := ⟨_, rfl⟩
  rw [← eta] at rt
  obtain ⟨tb, etb⟩ : ∃ z : Int32, z = fI H b (K.1.2 10 18) := ⟨_, rfl⟩
  rw [← etb] at rt
  obtain ⟨s1, es1⟩ : ∃ z : Int32, z = fI H w (K.1.2 8 1) := ⟨_, rfl⟩
  rw [← es1] at r1
  obtain ⟨y1, ey1⟩ : ∃ z : Int32, z = fI H b (K.1.2 10 1) := ⟨_, rfl⟩
  rw [← ey1] at r1
  obtain ⟨s4, es4⟩ : ∃ z : Int32, z = fI H w (K.1.2 8 4) := ⟨_, rfl⟩
  rw [← es4] at r4
  obtain ⟨y4, ey4⟩ : ∃ z : Int32, z = fI H b (K.1.2 10 2) := ⟨_, rfl⟩
  rw [← ey4] at r4
  obtain ⟨s5, es5⟩ : ∃ z : Int32, z = fI H w (K.1.2 8 5) := ⟨_, rfl⟩
  rw [← es5] at r5
  obtain ⟨y5, ey5⟩ : ∃ z : Int32, z = fI H b (K.1.2 10 3) := ⟨_, rfl⟩
  rw [← ey5] at r5
  obtain ⟨s10, es10⟩ : ∃ z : Int32, z = fI H w (K.1.2 8 10) := ⟨_, rfl⟩
  rw [← es10] at r10
  obtain ⟨y10, ey10⟩ : ∃ z : Int32, z = fI H b (K.1.2 10 59) := ⟨_, rfl⟩
  rw [← ey10] at r10
  obtain ⟨s13, es13⟩ : ∃ z : Int32, z = fI H w (K.1.2 8 13) := ⟨_, rfl⟩
  rw [← es13] at r13
  obtain ⟨y13, ey13⟩ : ∃ z : Int32, z = fI H b (K.1.2 10 62) := ⟨_, rfl⟩
  rw [← ey13] at r13
  obtain ⟨s16, es16⟩ : ∃ z : Int32, z = fI H w (K.1.2 8 16) := ⟨_, rfl⟩
  rw [← es16] at r16
  obtain ⟨y16, ey16⟩ : ∃ z : Int32, z = fI H b (K.1.2 10 65) := ⟨_, rfl⟩
  rw [← ey16] at r16
  obtain ⟨tq, etq⟩ : ∃ z : Nat, z = fR H a (K.1.2 9 2) := ⟨_, rfl⟩
  have gtq := ty_fr (q := tq) (k := 2) (u := 108) etq hT ga rg_68 rfl
  obtain ⟨uq, euq⟩ : ∃ z : Nat, z = fR H b (K.1.2 10 17) := ⟨_, rfl⟩
  have guq := ty_fr (q := uq) (k := 17) (u := 126) euq hT gb rg_112 rfl
  have htr : TBR (fun j => fI H tq j) (fun j => fI H uq j) tb.toNatClampNeg := by rw [etq, euq, etb]; exact htb
  have ft0 : ∀ j : Nat, fI H tq j = fI H tq j := fun _ => rfl
  have fu0 : ∀ j : Nat, fI H uq j = fI H uq j := fun _ => rfl
  have bta := ty_fi (x := ta) (k := 3) eta hT ga rg_68 rfl
  have cta := i_cl (x := ta) (by omega)
  have btb := ty_fi (x := tb) (k := 18) etb hT gb rg_112 rfl
  have ctb := i_cl (x := tb) (by omega)
  rcases hk with ⟨kn, h70⟩ | ⟨kq, kn, gkq, h70, q1, q4, q5, q10, q13, q16⟩
  · skip
    obtain ⟨hi, ehi⟩ : ∃ z : Int32, z = fI H b (K.1.2 10 70) := ⟨_, rfl⟩
    rw [← ehi] at h70
    obtain ⟨hc0, hs0⟩ := hB0 kn
    refine lv_aload_n hx hb dL_law_1282 rfl (lv_at hl 2 rfl) ?_
    refine lv_aload_n hx hb dL_law_1283 rfl (lv_at hl 3 rfl) ?_
    refine lv_iload_n hx hb dL_law_1284 rfl (lv_at hl 0 rfl) ?_
    refine lv_iconst (v := 1) hx hb dL_law_1285 (by decide) ?_
    refine lv_iadd hx hb dL_law_1286 ?_
    refine lv_topi (fun x101 ex101 => ?_)
    have tx101 := i_add ex101 (by omega)
    have ejx101 : x101.toNatClampNeg = i.toNatClampNeg + 1 := by have h1 := i_cl (x := x101) (by omega); have h2 := i_cl (x := i) (by omega); omega
    refine va_sld hx hb hX hbl (Nat.not_le.mpr hbl) hS (vp_in_iff.mpr (by omega)) dL_law_1287 ?_
    refine W.eq (g2 := F0 m 1288 ls [.int (xs (i.toNatClampNeg + 1)), .ref a]) (congrArg (fun z => F0 m 1288 ls [.int (xs z), .ref a]) ejx101) ?_
    refine lv_aload_n hx hb dL_law_1288 rfl (lv_at hl 3 rfl) ?_
    refine lv_iload_n hx hb dL_law_1289 rfl (lv_at hl 0 rfl) ?_
    refine lv_iconst (v := 2) hx hb dL_law_1290 (by decide) ?_
    refine lv_iadd hx hb dL_law_1291 ?_
    refine lv_topi (fun x102 ex102 => ?_)
    have tx102 := i_add ex102 (by omega)
    have ejx102 : x102.toNatClampNeg = i.toNatClampNeg + 2 := by have h1 := i_cl (x := x102) (by omega); have h2 := i_cl (x := i) (by omega); omega
    refine va_sld hx hb hX hbl (Nat.not_le.mpr hbl) hS (vp_in_iff.mpr (by omega)) dL_law_1292 ?_
    refine W.eq (g2 := F0 m 1293 ls [.int (xs (i.toNatClampNeg + 2)), .int (xs (i.toNatClampNeg + 1)), .ref a]) (congrArg (fun z => F0 m 1293 ls [.int (xs z), .int (xs (i.toNatClampNeg + 1)), .ref a]) ejx102) ?_
    refine x_V (As := [.int (xs (i.toNatClampNeg + 1)), .int (xs (i.toNatClampNeg + 2))]) (rest := []) C (a_X9_note_r l K G H ((xs (i.toNatClampNeg + 1))) ((xs (i.toNatClampNeg + 2))) (s1) (s4) (s5) (s10) (s13) (s16) hT ga gw ew es1 es4 es5 es10 es13 es16) yo_X9_note wM_L_133 ⟨⟨by decide, by decide⟩, show _ ≤ 284929 by omega, show _ ≤ 8247460 by omega⟩ (x_rv C hT (ci := 9) rfl ga rg_68) rfl hl.1 rfl (Nat.le_of_ble_eq_true rfl) dL_law_1293 hS (AE_new hN hS.1) (fun vH103 H103 locsH103 pH103 zH103 kH103 hSH103 => ?_)
    obtain ⟨x104, x105, x106, x107, x108, x109, x110, hvH103, ex105, ex106, ex107, ex108, ex109, ex110, hrH103, hTH103⟩ := pH103
    subst hvH103
    have g111 : CG (avw K H103 b) := CG.congr (fun k hk j => av_eff hT kH103 gb (by decide) (CG_eff [0, 30, 31] (by decide) k hk)) cg
    have g112 : TU (avw K H103 b) (svw K H103 b) := TU.congr (fun k hk j => av_eff hT kH103 gb (by decide) (TU_eff [0, 30, 31] (by decide) k hk)) (fun k hk => sv_eff hT kH103 gb (by decide)) tu
    have g113 : WD (avw K H103 b) := WD.congr (fun k hk j => av_eff hT kH103 gb (by decide) (WD_eff [0, 30, 31] (by decide) k hk)) wd
    have g114 : IM (avw K H103 b) := IM.congr (fun k hk j => av_eff hT kH103 gb (by decide) (IM_eff [0, 30, 31] (by decide) k hk)) im
    have f115 : ∀ j : Nat, fI H103 tq j = fI H tq j := fun j => (fI_kept (x_lt hT kH103 gtq (by decide))).trans (ft0 j)
    have f116 : ∀ j : Nat, fI H103 uq j = fI H uq j := fun j => (fI_kept (x_lt hT kH103 guq (by decide))).trans (fu0 j)
    have m117 := (ew).trans (fR_kept (x_lt hT kH103 ga (by decide))).symm
    have m118 := (eta).trans (fI_kept (x_lt hT kH103 ga (by decide))).symm
    have m119 := (etb).trans (fI_kept (x_lt hT kH103 gb (by decide))).symm
    have m120 := (ey1).trans (fI_kept (x_lt hT kH103 gb (by decide))).symm
    have m121 := (ey4).trans (fI_kept (x_lt hT kH103 gb (by decide))).symm
    have m122 := (ey5).trans (fI_kept (x_lt hT kH103 gb (by decide))).symm
    have m123 := (ey10).trans (fI_kept (x_lt hT kH103 gb (by decide))).symm
    have m124 := (ey13).trans (fI_kept (x_lt hT kH103 gb (by decide))).symm
    have m125 := (ey16).trans (fI_kept (x_lt hT kH103 gb (by decide))).symm
    have m126 := (etq).trans (fR_kept (x_lt hT kH103 ga (by decide))).symm
    have m127 := (euq).trans (fR_kept (x_lt hT kH103 gb (by decide))).symm
    have m128 := (ehi).trans (fI_kept (x_lt hT kH103 gb (by decide))).symm
    have m129 := (fV_kept (x_lt hT kH103 ga (by decide))).trans kn
    have bx105 := ty_fi (x := x105) (k := 1) ex105 hTH103 gw rg_0 rfl
    have bx106 := ty_fi (x := x106) (k := 4) ex106 hTH103 gw rg_0 rfl
    have bx107 := ty_fi (x := x107) (k := 5) ex107 hTH103 gw rg_0 rfl
    have bx108 := ty_fi (x := x108) (k := 10) ex108 hTH103 gw rg_0 rfl
    have bx109 := ty_fi (x := x109) (k := 13) ex109 hTH103 gw rg_0 rfl
    have bx110 := ty_fi (x := x110) (k := 16) ex110 hTH103 gw rg_0 rfl
    refine W.eq (g2 := F0 m 1296 ls [.int x104]) rfl ?_
    refine lv_pop hx hb dL_law_1296 rfl ?_
    refine lv_aload_n hx hb dL_law_1297 rfl (lv_at hl 1 rfl) ?_
    refine lv_aload_n hx hb dL_law_1298 rfl (lv_at hl 3 rfl) ?_
    refine lv_iload_n hx hb dL_law_1299 rfl (lv_at hl 0 rfl) ?_
    refine lv_iconst (v := 1) hx hb dL_law_1300 (by decide) ?_
    refine lv_iadd hx hb dL_law_1301 ?_
    refine lv_topi (fun x130 ex130 => ?_)
    have tx130 := i_add ex130 (by omega)
    have ejx130 : x130.toNatClampNeg = i.toNatClampNeg + 1 := by have h1 := i_cl (x := x130) (by omega); have h2 := i_cl (x := i) (by omega); omega
    refine va_sld hx hb hX hbl (Nat.not_le.mpr hbl) hSH103 (vp_in_iff.mpr (by omega)) dL_law_1302 ?_
    refine W.eq (g2 := F0 m 1303 ls [.int (xs (i.toNatClampNeg + 1)), .ref b]) (congrArg (fun z => F0 m 1303 ls [.int (xs z), .ref b]) ejx130) ?_
    refine lv_aload_n hx hb dL_law_1303 rfl (lv_at hl 3 rfl) ?_
    refine lv_iload_n hx hb dL_law_1304 rfl (lv_at hl 0 rfl) ?_
    refine lv_iconst (v := 2) hx hb dL_law_1305 (by decide) ?_
    refine lv_iadd hx hb dL_law_1306 ?_
    refine lv_topi (fun x131 ex131 => ?_)
    have tx131 := i_add ex131 (by omega)
    have ejx131 : x131.toNatClampNeg = i.toNatClampNeg + 2 := by have h1 := i_cl (x := x131) (by omega); have h2 := i_cl (x := i) (by omega); omega
    refine va_sld hx hb hX hbl (Nat.not_le.mpr hbl) hSH103 (vp_in_iff.mpr (by omega)) dL_law_1307 ?_
    refine W.eq (g2 := F0 m 1308 ls [.int (xs (i.toNatClampNeg + 2)), .int (xs (i.toNatClampNeg + 1)), .ref b]) (congrArg (fun z => F0 m 1308 ls [.int (xs z), .int (xs (i.toNatClampNeg + 1)), .ref b]) ejx131) ?_
    refine x_V (As := [.int (xs (i.toNatClampNeg + 1)), .int (xs (i.toNatClampNeg + 2))]) (rest := []) C (a_X10_note_r l K G H103 ((xs (i.toNatClampNeg + 1))) ((xs (i.toNatClampNeg + 2))) (y13) hTH103 gb m124 g111 g112 g113 g114) yo_X10_note wM_L_136 ⟨⟨by decide, by decide⟩, show _ ≤ 284929 by omega, show _ ≤ 8247460 by omega⟩ (x_rv C hTH103 (ci := 10) rfl gb rg_112) rfl hl.1 rfl (Nat.le_of_ble_eq_true rfl) dL_law_1308 hSH103 (AE_new hN hSH103.1) (fun vH132 H132 locsH132 pH132 zH132 kH132 hSH132 => ?_)
    obtain ⟨x133, x134, hvH132, ex134, hrH132, g135, g136, g137, g138, mf139, hTH132⟩ := pH132
    subst hvH132
    have f140 : ∀ j : Nat, fI H132 tq j = fI H tq j := fun j => (fI_kept (x_lt hTH103 kH132 gtq (by decide))).trans (f115 j)
    have f141 : ∀ j : Nat, fI H132 uq j = fI H uq j := fun j => (fI_kept (x_lt hTH103 kH132 guq (by decide))).trans (f116 j)
    have m142 := (m117).trans (fR_kept (x_lt hTH103 kH132 ga (by decide))).symm
    have m143 := (m118).trans (fI_kept (x_lt hTH103 kH132 ga (by decide))).symm
    have m144 := (m126).trans (fR_kept (x_lt hTH103 kH132 ga (by decide))).symm
    have m145 := (fV_kept (x_lt hTH103 kH132 ga (by decide))).trans m129
    have m146 := (ex105).trans (fI_kept (x_lt hTH103 kH132 gw (by decide))).symm
    have m147 := (ex106).trans (fI_kept (x_lt hTH103 kH132 gw (by decide))).symm
    have m148 := (ex107).trans (fI_kept (x_lt hTH103 kH132 gw (by decide))).symm
    have m149 := (ex108).trans (fI_kept (x_lt hTH103 kH132 gw (by decide))).symm
    have m150 := (ex109).trans (fI_kept (x_lt hTH103 kH132 gw (by decide))).symm
    have m151 := (ex110).trans (fI_kept (x_lt hTH103 kH132 gw (by decide))).symm
    have m152 := (m119).trans (MF.i mf139 (k := 18) (by decide) (by decide)).symm
    have m153 := (m120).trans (MF.i mf139 (k := 1) (by decide) (by decide)).symm
    have m154 := (m121).trans (MF.i mf139 (k := 2) (by decide) (by decide)).symm
    have m155 := (m122).trans (MF.i mf139 (k := 3) (by decide) (by decide)).symm
    have m156 := (m123).trans (MF.i mf139 (k := 59) (by decide) (by decide)).symm
    have m157 := (m125).trans (MF.i mf139 (k := 65) (by decide) (by decide)).symm
    have m158 := (m127).trans (MF.r mf139 (k := 17) (by decide) (by decide)).symm
    have m159 := (m128).trans (MF.i mf139 (k := 70) (by decide) (by decide)).symm
    have bx134 := ty_fi (x := x134) (k := 62) ex134 hTH132 gb rg_112 rfl
    refine W.eq (g2 := F0 m 1311 ls [.int x133]) rfl ?_
    refine lv_pop hx hb dL_law_1311 rfl ?_
    refine lv_goto (tgt := 1509) hx hb dL_law_1312 (by decide) ?_
    exact nx G H132 locsH132 _ _ ls ⟨hTH132, hN, ga, gb, g135, g136, g137, g138, ⟨(by rw [← m143, ← m152]; omega), (by rw [← m142, ← m146, ← m153]; omega), (by rw [← m142, ← m147, ← m154]; omega), (by rw [← m142, ← m148, ← m155]; omega), (by rw [← m142, ← m149, ← m156]; omega), (by rw [← m142, ← m150, ← ex134]; omega), (by rw [← m142, ← m151, ← m157]; omega)⟩, Or.inl ⟨m145, (by rw [← m159]; omega)⟩, (by unfold TB; rw [← m144, ← m158, ← m152]; exact TBR.of htr f140 f141 (by omega)), hSH132⟩ hl ⟨by omega, by omega, fun _ => ⟨by omega, by omega⟩⟩
  · skip
    obtain ⟨hi, ehi⟩ : ∃ z : Int32, z = fI H b (K.1.2 10 70) := ⟨_, rfl⟩
    rw [← ehi] at h70
    obtain ⟨iq, eiq⟩ : ∃ z : Nat, z = fR H b (K.1.2 10 73) := ⟨_, rfl⟩
    have giq := ty_fr (q := iq) (k := 73) (u := 162) eiq hT gb rg_112 rfl
    rw [← eiq] at q1 q4 q5 q10 q13 q16
    obtain ⟨k1, ek1⟩ : ∃ z : Int32, z = fI H kq (K.1.2 8 1) := ⟨_, rfl⟩
    rw [← ek1] at q1
    obtain ⟨i1, ei1⟩ : ∃ z : Int32, z = fI H iq ((0 : Int32).toNatClampNeg) := ⟨_, rfl⟩
    rw [← ei1] at q1
    obtain ⟨k4, ek4⟩ : ∃ z : Int32, z = fI H kq (K.1.2 8 4) := ⟨_, rfl⟩
    rw [← ek4] at q4
    obtain ⟨i4, ei4⟩ : ∃ z : Int32, z = fI H iq ((1 : Int32).toNatClampNeg) := ⟨_, rfl⟩
    rw [← ei4] at q4
    obtain ⟨k5, ek5⟩ : ∃ z : Int32, z = fI H kq (K.1.2 8 5) := ⟨_, rfl⟩
    rw [← ek5] at q5
    obtain ⟨i5, ei5⟩ : ∃ z : Int32, z = fI H iq ((2 : Int32).toNatClampNeg) := ⟨_, rfl⟩
    rw [← ei5] at q5
    obtain ⟨k10, ek10⟩ : ∃ z : Int32, z = fI H kq (K.1.2 8 10) := ⟨_, rfl⟩
    rw [← ek10] at q10
    obtain ⟨i10, ei10⟩ : ∃ z : Int32, z = fI H iq ((3 : Int32).toNatClampNeg) := ⟨_, rfl⟩
    rw [← ei10] at q10
    obtain ⟨k13, ek13⟩ : ∃ z : Int32, z = fI H kq (K.1.2 8 13) := ⟨_, rfl⟩
    rw [← ek13] at q13
    obtain ⟨i13, ei13⟩ : ∃ z : Int32, z = fI H iq ((4 : Int32).toNatClampNeg) := ⟨_, rfl⟩
    rw [← ei13] at q13
    obtain ⟨k16, ek16⟩ : ∃ z : Int32, z = fI H kq (K.1.2 8 16) := ⟨_, rfl⟩
    rw [← ek16] at q16
    obtain ⟨i16, ei16⟩ : ∃ z : Int32, z = fI H iq ((5 : Int32).toNatClampNeg) := ⟨_, rfl⟩
    rw [← ei16] at q16
    refine lv_aload_n hx hb dL_law_1282 rfl (lv_at hl 2 rfl) ?_
    refine lv_aload_n hx hb dL_law_1283 rfl (lv_at hl 3 rfl) ?_
    refine lv_iload_n hx hb dL_law_1284 rfl (lv_at hl 0 rfl) ?_
    refine lv_iconst (v := 1) hx hb dL_law_1285 (by decide) ?_
    refine lv_iadd hx hb dL_law_1286 ?_
    refine lv_topi (fun x160 ex160 => ?_)
    have tx160 := i_add ex160 (by omega)
    have ejx160 : x160.toNatClampNeg = i.toNatClampNeg + 1 := by have h1 := i_cl (x := x160) (by omega); have h2 := i_cl (x := i) (by omega); omega
    refine va_sld hx hb hX hbl (Nat.not_le.mpr hbl) hS (vp_in_iff.mpr (by omega)) dL_law_1287 ?_
    refine W.eq (g2 := F0 m 1288 ls [.int (xs (i.toNatClampNeg + 1)), .ref a]) (congrArg (fun z => F0 m 1288 ls [.int (xs z), .ref a]) ejx160) ?_
    refine lv_aload_n hx hb dL_law_1288 rfl (lv_at hl 3 rfl) ?_
    refine lv_iload_n hx hb dL_law_1289 rfl (lv_at hl 0 rfl) ?_
    refine lv_iconst (v := 2) hx hb dL_law_1290 (by decide) ?_
    refine lv_iadd hx hb dL_law_1291 ?_
    refine lv_topi (fun x161 ex161 => ?_)
    have tx161 := i_add ex161 (by omega)
    have ejx161 : x161.toNatClampNeg = i.toNatClampNeg + 2 := by have h1 := i_cl (x := x161) (by omega); have h2 := i_cl (x := i) (by omega); omega
    refine va_sld hx hb hX hbl (Nat.not_le.mpr hbl) hS (vp_in_iff.mpr (by omega)) dL_law_1292 ?_
    refine W.eq (g2 := F0 m 1293 ls [.int (xs (i.toNatClampNeg + 2)), .int (xs (i.toNatClampNeg + 1)), .ref a]) (congrArg (fun z => F0 m 1293 ls [.int (xs z), .int (xs (i.toNatClampNeg + 1)), .ref a]) ejx161) ?_
    refine x_V (As := [.int (xs (i.toNatClampNeg + 1)), .int (xs (i.toNatClampNeg + 2))]) (rest := []) C (a_X9_note_r l K G H ((xs (i.toNatClampNeg + 1))) ((xs (i.toNatClampNeg + 2))) (s1) (s4) (s5) (s10) (s13) (s16) hT ga gw ew es1 es4 es5 es10 es13 es16) yo_X9_note wM_L_133 ⟨⟨by decide, by decide⟩, show _ ≤ 284929 by omega, show _ ≤ 8247460 by omega⟩ (x_rv C hT (ci := 9) rfl ga rg_68) rfl hl.1 rfl (Nat.le_of_ble_eq_true rfl) dL_law_1293 hS (AE_new hN hS.1) (fun vH162 H162 locsH162 pH162 zH162 kH162 hSH162 => ?_)
    obtain ⟨x163, x164, x165, x166, x167, x168, x169, hvH162, ex164, ex165, ex166, ex167, ex168, ex169, hrH162, hTH162⟩ := pH162
    subst hvH162
    have g170 : CG (avw K H162 b) := CG.congr (fun k hk j => av_eff hT kH162 gb (by decide) (CG_eff [0, 30, 31] (by decide) k hk)) cg
    have g171 : TU (avw K H162 b) (svw K H162 b) := TU.congr (fun k hk j => av_eff hT kH162 gb (by decide) (TU_eff [0, 30, 31] (by decide) k hk)) (fun k hk => sv_eff hT kH162 gb (by decide)) tu
    have g172 : WD (avw K H162 b) := WD.congr (fun k hk j => av_eff hT kH162 gb (by decide) (WD_eff [0, 30, 31] (by decide) k hk)) wd
    have g173 : IM (avw K H162 b) := IM.congr (fun k hk j => av_eff hT kH162 gb (by decide) (IM_eff [0, 30, 31] (by decide) k hk)) im
    have f174 : ∀ j : Nat, fI H162 tq j = fI H tq j := fun j => (fI_kept (x_lt hT kH162 gtq (by decide))).trans (ft0 j)
    have f175 : ∀ j : Nat, fI H162 uq j = fI H uq j := fun j => (fI_kept (x_lt hT kH162 guq (by decide))).trans (fu0 j)
    have m176 := (ew).trans (fR_kept (x_lt hT kH162 ga (by decide))).symm
    have m177 := (eta).trans (fI_kept (x_lt hT kH162 ga (by decide))).symm
    have m178 := (etb).trans (fI_kept (x_lt hT kH162 gb (by decide))).symm
    have m179 := (ey1).trans (fI_kept (x_lt hT kH162 gb (by decide))).symm
    have m180 := (ey4).trans (fI_kept (x_lt hT kH162 gb (by decide))).symm
    have m181 := (ey5).trans (fI_kept (x_lt hT kH162 gb (by decide))).symm
    have m182 := (ey10).trans (fI_kept (x_lt hT kH162 gb (by decide))).symm
    have m183 := (ey13).trans (fI_kept (x_lt hT kH162 gb (by decide))).symm
    have m184 := (ey16).trans (fI_kept (x_lt hT kH162 gb (by decide))).symm
    have m185 := (etq).trans (fR_kept (x_lt hT kH162 ga (by decide))).symm
    have m186 := (euq).trans (fR_kept (x_lt hT kH162 gb (by decide))).symm
    have m187 := (ehi).trans (fI_kept (x_lt hT kH162 gb (by decide))).symm
    have m188 := (fV_kept (x_lt hT kH162 ga (by decide))).trans kn
    have m189 := (eiq).trans (fR_kept (x_lt hT kH162 gb (by decide))).symm
    have m190 := (ek1).trans (fI_kept (x_lt hT kH162 gkq (by decide))).symm
    have m191 := (ei1).trans (fI_kept (x_lt hT kH162 giq (by decide))).symm
    have m192 := (ek4).trans (fI_kept (x_lt hT kH162 gkq (by decide))).symm
    have m193 := (ei4).trans (fI_kept (x_lt hT kH162 giq (by decide))).symm
    have m194 := (ek5).trans (fI_kept (x_lt hT kH162 gkq (by decide))).symm
    have m195 := (ei5).trans (fI_kept (x_lt hT kH162 giq (by decide))).symm
    have m196 := (ek10).trans (fI_kept (x_lt hT kH162 gkq (by decide))).symm
    have m197 := (ei10).trans (fI_kept (x_lt hT kH162 giq (by decide))).symm
    have m198 := (ek13).trans (fI_kept (x_lt hT kH162 gkq (by decide))).symm
    have m199 := (ei13).trans (fI_kept (x_lt hT kH162 giq (by decide))).symm
    have m200 := (ek16).trans (fI_kept (x_lt hT kH162 gkq (by decide))).symm
    have m201 := (ei16).trans (fI_kept (x_lt hT kH162 giq (by decide))).symm
    have bx164 := ty_fi (x := x164) (k := 1) ex164 hTH162 gw rg_0 rfl
    have bx165 := ty_fi (x := x165) (k := 4) ex165 hTH162 gw rg_0 rfl
    have bx166 := ty_fi (x := x166) (k := 5) ex166 hTH162 gw rg_0 rfl
    have bx167 := ty_fi (x := x167) (k := 10) ex167 hTH162 gw rg_0 rfl
    have bx168 := ty_fi (x := x168) (k := 13) ex168 hTH162 gw rg_0 rfl
    have bx169 := ty_fi (x := x169) (k := 16) ex169 hTH162 gw rg_0 rfl
    refine W.eq (g2 := F0 m 1296 ls [.int x163]) rfl ?_
    refine lv_pop hx hb dL_law_1296 rfl ?_
    refine lv_aload_n hx hb dL_law_1297 rfl (lv_at hl 1 rfl) ?_
    refine lv_aload_n hx hb dL_law_1298 rfl (lv_at hl 3 rfl) ?_
    refine lv_iload_n hx hb dL_law_1299 rfl (lv_at hl 0 rfl) ?_
    refine lv_iconst (v := 1) hx hb dL_law_1300 (by decide) ?_
    refine lv_iadd hx hb dL_law_1301 ?_
    refine lv_topi (fun x202 ex202 => ?_)
    have tx202 := i_add ex202 (by omega)
    have ejx202 : x202.toNatClampNeg = i.toNatClampNeg + 1 := by have h1 := i_cl (x := x202) (by omega); have h2 := i_cl (x := i) (by omega); omega
    refine va_sld hx hb hX hbl (Nat.not_le.mpr hbl) hSH162 (vp_in_iff.mpr (by omega)) dL_law_1302 ?_
    refine W.eq (g2 := F0 m 1303 ls [.int (xs (i.toNatClampNeg + 1)), .ref b]) (congrArg (fun z => F0 m 1303 ls [.int (xs z), .ref b]) ejx202) ?_
    refine lv_aload_n hx hb dL_law_1303 rfl (lv_at hl 3 rfl) ?_
    refine lv_iload_n hx hb dL_law_1304 rfl (lv_at hl 0 rfl) ?_
    refine lv_iconst (v := 2) hx hb dL_law_1305 (by decide) ?_
    refine lv_iadd hx hb dL_law_1306 ?_
    refine lv_topi (fun x203 ex203 => ?_)
    have tx203 := i_add ex203 (by omega)
    have ejx203 : x203.toNatClampNeg = i.toNatClampNeg + 2 := by have h1 := i_cl (x := x203) (by omega); have h2 := i_cl (x := i) (by omega); omega
    refine va_sld hx hb hX hbl (Nat.not_le.mpr hbl) hSH162 (vp_in_iff.mpr (by omega)) dL_law_1307 ?_
    refine W.eq (g2 := F0 m 1308 ls [.int (xs (i.toNatClampNeg + 2)), .int (xs (i.toNatClampNeg + 1)), .ref b]) (congrArg (fun z => F0 m 1308 ls [.int (xs z), .int (xs (i.toNatClampNeg + 1)), .ref b]) ejx203) ?_
    refine x_V (As := [.int (xs (i.toNatClampNeg + 1)), .int (xs (i.toNatClampNeg + 2))]) (rest := []) C (a_X10_note_r l K G H162 ((xs (i.toNatClampNeg + 1))) ((xs (i.toNatClampNeg + 2))) (y13) hTH162 gb m183 g170 g171 g172 g173) yo_X10_note wM_L_136 ⟨⟨by decide, by decide⟩, show _ ≤ 284929 by omega, show _ ≤ 8247460 by omega⟩ (x_rv C hTH162 (ci := 10) rfl gb rg_112) rfl hl.1 rfl (Nat.le_of_ble_eq_true rfl) dL_law_1308 hSH162 (AE_new hN hSH162.1) (fun vH204 H204 locsH204 pH204 zH204 kH204 hSH204 => ?_)
    obtain ⟨x205, x206, hvH204, ex206, hrH204, g207, g208, g209, g210, mf211, hTH204⟩ := pH204
    subst hvH204
    have f212 : ∀ j : Nat, fI H204 tq j = fI H tq j := fun j => (fI_kept (x_lt hTH162 kH204 gtq (by decide))).trans (f174 j)
    have f213 : ∀ j : Nat, fI H204 uq j = fI H uq j := fun j => (fI_kept (x_lt hTH162 kH204 guq (by decide))).trans (f175 j)
    have m214 := (m176).trans (fR_kept (x_lt hTH162 kH204 ga (by decide))).symm
    have m215 := (m177).trans (fI_kept (x_lt hTH162 kH204 ga (by decide))).symm
    have m216 := (m185).trans (fR_kept (x_lt hTH162 kH204 ga (by decide))).symm
    have m217 := (fV_kept (x_lt hTH162 kH204 ga (by decide))).trans m188
    have m218 := (m190).trans (fI_kept (x_lt hTH162 kH204 gkq (by decide))).symm
    have m219 := (m191).trans (fI_kept (x_lt hTH162 kH204 giq (by decide))).symm
    have m220 := (m192).trans (fI_kept (x_lt hTH162 kH204 gkq (by decide))).symm
    have m221 := (m193).trans (fI_kept (x_lt hTH162 kH204 giq (by decide))).symm
    have m222 := (m194).trans (fI_kept (x_lt hTH162 kH204 gkq (by decide))).symm
    have m223 := (m195).trans (fI_kept (x_lt hTH162 kH204 giq (by decide))).symm
    have m224 := (m196).trans (fI_kept (x_lt hTH162 kH204 gkq (by decide))).symm
    have m225 := (m197).trans (fI_kept (x_lt hTH162 kH204 giq (by decide))).symm
    have m226 := (m198).trans (fI_kept (x_lt hTH162 kH204 gkq (by decide))).symm
    have m227 := (m199).trans (fI_kept (x_lt hTH162 kH204 giq (by decide))).symm
    have m228 := (m200).trans (fI_kept (x_lt hTH162 kH204 gkq (by decide))).symm
    have m229 := (m201).trans (fI_kept (x_lt hTH162 kH204 giq (by decide))).symm
    have m230 := (ex164).trans (fI_kept (x_lt hTH162 kH204 gw (by decide))).symm
    have m231 := (ex165).trans (fI_kept (x_lt hTH162 kH204 gw (by decide))).symm
    have m232 := (ex166).trans (fI_kept (x_lt hTH162 kH204 gw (by decide))).symm
    have m233 := (ex167).trans (fI_kept (x_lt hTH162 kH204 gw (by decide))).symm
    have m234 := (ex168).trans (fI_kept (x_lt hTH162 kH204 gw (by decide))).symm
    have m235 := (ex169).trans (fI_kept (x_lt hTH162 kH204 gw (by decide))).symm
    have m236 := (m178).trans (MF.i mf211 (k := 18) (by decide) (by decide)).symm
    have m237 := (m179).trans (MF.i mf211 (k := 1) (by decide) (by decide)).symm
    have m238 := (m180).trans (MF.i mf211 (k := 2) (by decide) (by decide)).symm
    have m239 := (m181).trans (MF.i mf211 (k := 3) (by decide) (by decide)).symm
    have m240 := (m182).trans (MF.i mf211 (k := 59) (by decide) (by decide)).symm
    have m241 := (m184).trans (MF.i mf211 (k := 65) (by decide) (by decide)).symm
    have m242 := (m186).trans (MF.r mf211 (k := 17) (by decide) (by decide)).symm
    have m243 := (m187).trans (MF.i mf211 (k := 70) (by decide) (by decide)).symm
    have m244 := (m189).trans (MF.r mf211 (k := 73) (by decide) (by decide)).symm
    have bx206 := ty_fi (x := x206) (k := 62) ex206 hTH204 gb rg_112 rfl
    refine W.eq (g2 := F0 m 1311 ls [.int x205]) rfl ?_
    refine lv_pop hx hb dL_law_1311 rfl ?_
    refine lv_goto (tgt := 1509) hx hb dL_law_1312 (by decide) ?_
    exact nx G H204 locsH204 _ _ ls ⟨hTH204, hN, ga, gb, g207, g208, g209, g210, ⟨(by rw [← m215, ← m236]; omega), (by rw [← m214, ← m230, ← m237]; omega), (by rw [← m214, ← m231, ← m238]; omega), (by rw [← m214, ← m232, ← m239]; omega), (by rw [← m214, ← m233, ← m240]; omega), (by rw [← m214, ← m234, ← ex206]; omega), (by rw [← m214, ← m235, ← m241]; omega)⟩, Or.inr ⟨kq, m217, gkq, (by rw [← m243]; omega), (by rw [← m218, ← m244, ← m219]; omega), (by rw [← m220, ← m244, ← m221]; omega), (by rw [← m222, ← m244, ← m223]; omega), (by rw [← m224, ← m244, ← m225]; omega), (by rw [← m226, ← m244, ← m227]; omega), (by rw [← m228, ← m244, ← m229]; omega)⟩, (by unfold TB; rw [← m216, ← m242, ← m236]; exact TBR.of htr f212 f213 (by omega)), hSH204⟩ hl ⟨by omega, by omega, fun h => by have h1 := h.symm.trans m217; cases h1⟩
set_option maxRecDepth 100000 in
set_option maxHeartbeats 8000000 in
theorem lw_c29 {p : Program} {l : Launch} {e : Env} {s : State} {m : MethodId} {below : List Frame} {meth : Method} {c : Code} {K : KE} {b0 L : Nat} {xs : Nat → Int32} {G : Nat → Option Nat} {H : Heap} {locs : List Loc} {a b : Nat} {cells slots : Nat} {ls : Array Slot} {i : Int32} {n : Nat} (D : LC p K s m meth c b0 L xs) (S : SX K s G H locs a b) (hl : lv_has ls 4 [(3, .int i), (2, .ref b), (1, .ref a), (0, .ref b0)]) (hi : 0 ≤ i.toInt ∧ i.toInt + 6 ≤ L) (hn : n ≤ 511) (hB : BD K H a cells slots) (nx : ∀ (G : Nat → Option Nat) (H : Heap) (locs : List Loc) (cells slots : Nat) (ls : Array Slot), SX K s G H locs a b → lv_has ls 4 [(3, .int i), (2, .ref b), (1, .ref a), (0, .ref b0)] → BD K H a cells slots → W p l e room_1 s m #[Value.ref b0] below meth c H locs cells slots (lw_Z below #[Value.ref b0] s) (F0 m 1509 ls [])) : W p l e room_1 s m #[Value.ref b0] below meth c H locs cells slots (lw_Z below #[Value.ref b0] s) (F0 m 1315 ls []) := by
  obtain ⟨C, hX, hbl, hL⟩ := id D
  obtain ⟨hx, hb, hml, hown, hts, hKT, hr, hlocks, hnm⟩ := id C
  obtain ⟨hT, hN, ga, gb, cg, tu, wd, im, ⟨rt, r1, r4, r5, r10, r13, r16⟩, hk, htb, hS⟩ := S
  obtain ⟨hc, hs, hB0⟩ := hB
  have n_1 : (1 : Int32).toInt = 1 := rfl
  have n_2 : (2 : Int32).toInt = 2 := rfl
  obtain ⟨w, ew⟩ : ∃ z : Nat, z = fR H a (K.1.2 9 0) := ⟨_, rfl⟩
  have gw := ty_fr (q := w) (k := 0) (u := 0) ew hT ga rg_68 rfl
  rw [← ew] at r1 r4 r5 r10 r13 r16
  obtain ⟨ta, eta⟩ : ∃ z : Int32, z = fI H a (K.1.2 9 3) := ⟨_, rfl⟩
  rw [← eta] at rt
  obtain ⟨tb, etb⟩ : ∃ z : Int32, z = fI H b (K.1.2 10 18) := ⟨_, rfl⟩
  rw [← etb] at rt
  obtain ⟨s1, es1⟩ : ∃ z : Int32, z = fI H w (K.1.2 8 1) := ⟨_, rfl⟩
  rw [← es1] at r1
  obtain ⟨y1, ey1⟩ : ∃ z : Int32, z = fI H b (K.1.2 10 1) := ⟨_, rfl⟩
  rw [← ey1] at r1
  obtain ⟨s4, es4⟩ : ∃ z : Int32, z = fI H w (K.1.2 8 4) := ⟨_, rfl⟩
  rw [← es4] at r4
  obtain ⟨y4, ey4⟩ : ∃ z : Int32, z = fI H b (K.1.2 10 2) := ⟨_, rfl⟩
  rw [← ey4] at r4
  obtain ⟨s5, es5⟩ : ∃ z : Int32, z = fI H w (K.1.2 8 5) := ⟨_, rfl⟩
  rw [← es5] at r5
  obtain ⟨y5, ey5⟩ : ∃ z : Int32, z = fI H b (K.1.2 10 3) := ⟨_, rfl⟩
  rw [← ey5] at r5
  obtain ⟨s10, es10⟩ : ∃ z : Int32, z = fI H w (K.1.2 8 10) := ⟨_, rfl⟩
  rw [← es10] at r10
  obtain ⟨y10, ey10⟩ : ∃ z : Int32, z = fI H b (K.1.2 10 59) := ⟨_, rfl⟩
  rw [← ey10] at r10
  obtain ⟨s13, es13⟩ : ∃ z : Int32, z = fI H w (K.1.2 8 13) := ⟨_, rfl⟩
  rw [← es13] at r13
  obtain ⟨y13, ey13⟩ : ∃ z : Int32, z = fI H b (K.1.2 10 62) := ⟨_, rfl⟩
  rw [← ey13] at r13
  obtain ⟨s16, es16⟩ : ∃ z : Int32, z = fI H w (K.1.2 8 16) := ⟨_, rfl⟩
  rw [← es16] at r16
  obtain ⟨y16, ey16⟩ : ∃ z : Int32, z = fI H b (K.1.2 10 65) := ⟨_, rfl⟩
  rw [← ey16] at r16
  obtain ⟨tq, etq⟩ : ∃ z : Nat, z = fR H a (K.1.2 9 2) := ⟨_, rfl⟩
  have gtq := ty_fr (q := tq) (k := 2) (u := 108) etq hT ga rg_68 rfl
  obtain ⟨uq, euq⟩ : ∃ z : Nat, z = fR H b (K.1.2 10 17) := ⟨_, rfl⟩
  have guq := ty_fr (q := uq) (k := 17) (u := 126) euq hT gb rg_112 rfl
  have htr : TBR (fun j => fI H tq j) (fun j => fI H uq j) tb.toNatClampNeg := by rw [etq, euq, etb]; exact htb
  have ft0 : ∀ j : Nat, fI H tq j = fI H tq j := fun _ => rfl
  have fu0 : ∀ j : Nat, fI H uq j = fI H uq j := fun _ => rfl
  have bta := ty_fi (x := ta) (k := 3) eta hT ga rg_68 rfl
  have cta := i_cl (x := ta) (by omega)
  have btb := ty_fi (x := tb) (k := 18) etb hT gb rg_112 rfl
  have ctb := i_cl (x := tb) (by omega)
  rcases hk with ⟨kn, h70⟩ | ⟨kq, kn, gkq, h70, q1, q4, q5, q10, q13, q16⟩
  · skip
    obtain ⟨hi, ehi⟩ : ∃ z : Int32, z = fI H b (K.1.2 10 70) := ⟨_, rfl⟩
    rw [← ehi] at h70
    obtain ⟨hc0, hs0⟩ := hB0 kn
    refine lv_aload_n hx hb dL_law_1315 rfl (lv_at hl 2 rfl) ?_
    refine lv_aload_n hx hb dL_law_1316 rfl (lv_at hl 3 rfl) ?_
    refine lv_iload_n hx hb dL_law_1317 rfl (lv_at hl 0 rfl) ?_
    refine lv_iconst (v := 1) hx hb dL_law_1318 (by decide) ?_
    refine lv_iadd hx hb dL_law_1319 ?_
    refine lv_topi (fun x101 ex101 => ?_)
    have tx101 := i_add ex101 (by omega)
    have ejx101 : x101.toNatClampNeg = i.toNatClampNeg + 1 := by have h1 := i_cl (x := x101) (by omega); have h2 := i_cl (x := i) (by omega); omega
    refine va_sld hx hb hX hbl (Nat.not_le.mpr hbl) hS (vp_in_iff.mpr (by omega)) dL_law_1320 ?_
    refine W.eq (g2 := F0 m 1321 ls [.int (xs (i.toNatClampNeg + 1)), .ref a]) (congrArg (fun z => F0 m 1321 ls [.int (xs z), .ref a]) ejx101) ?_
    refine lv_aload_n hx hb dL_law_1321 rfl (lv_at hl 3 rfl) ?_
    refine lv_iload_n hx hb dL_law_1322 rfl (lv_at hl 0 rfl) ?_
    refine lv_iconst (v := 2) hx hb dL_law_1323 (by decide) ?_
    refine lv_iadd hx hb dL_law_1324 ?_
    refine lv_topi (fun x102 ex102 => ?_)
    have tx102 := i_add ex102 (by omega)
    have ejx102 : x102.toNatClampNeg = i.toNatClampNeg + 2 := by have h1 := i_cl (x := x102) (by omega); have h2 := i_cl (x := i) (by omega); omega
    refine va_sld hx hb hX hbl (Nat.not_le.mpr hbl) hS (vp_in_iff.mpr (by omega)) dL_law_1325 ?_
    refine W.eq (g2 := F0 m 1326 ls [.int (xs (i.toNatClampNeg + 2)), .int (xs (i.toNatClampNeg + 1)), .ref a]) (congrArg (fun z => F0 m 1326 ls [.int (xs z), .int (xs (i.toNatClampNeg + 1)), .ref a]) ejx102) ?_
    refine x_V (As := [.int (xs (i.toNatClampNeg + 1)), .int (xs (i.toNatClampNeg + 2))]) (rest := []) C (a_X9_blank_r l K G H ((xs (i.toNatClampNeg + 1))) ((xs (i.toNatClampNeg + 2))) (s1) (s4) (s5) (s10) (s13) (s16) hT ga gw ew es1 es4 es5 es10 es13 es16) yo_X9_blank wM_L_137 ⟨⟨by decide, by decide⟩, show _ ≤ 284929 by omega, show _ ≤ 8247460 by omega⟩ (x_rv C hT (ci := 9) rfl ga rg_68) rfl hl.1 rfl (Nat.le_of_ble_eq_true rfl) dL_law_1326 hS (AE_new hN hS.1) (fun vH103 H103 locsH103 pH103 zH103 kH103 hSH103 => ?_)
    obtain ⟨x104, x105, x106, x107, x108, x109, x110, hvH103, ex105, ex106, ex107, ex108, ex109, ex110, hrH103, hTH103⟩ := pH103
    subst hvH103
    have g111 : CG (avw K H103 b) := CG.congr (fun k hk j => av_eff hT kH103 gb (by decide) (CG_eff [0, 32, 33] (by decide) k hk)) cg
    have g112 : TU (avw K H103 b) (svw K H103 b) := TU.congr (fun k hk j => av_eff hT kH103 gb (by decide) (TU_eff [0, 32, 33] (by decide) k hk)) (fun k hk => sv_eff hT kH103 gb (by decide)) tu
    have g113 : WD (avw K H103 b) := WD.congr (fun k hk j => av_eff hT kH103 gb (by decide) (WD_eff [0, 32, 33] (by decide) k hk)) wd
    have g114 : IM (avw K H103 b) := IM.congr (fun k hk j => av_eff hT kH103 gb (by decide) (IM_eff [0, 32, 33] (by decide) k hk)) im
    have f115 : ∀ j : Nat, fI H103 tq j = fI H tq j := fun j => (fI_kept (x_lt hT kH103 gtq (by decide))).trans (ft0 j)
    have f116 : ∀ j : Nat, fI H103 uq j = fI H uq j := fun j => (fI_kept (x_lt hT kH103 guq (by decide))).trans (fu0 j)
    have m117 := (ew).trans (fR_kept (x_lt hT kH103 ga (by decide))).symm
    have m118 := (eta).trans (fI_kept (x_lt hT kH103 ga (by decide))).symm
    have m119 := (etb).trans (fI_kept (x_lt hT kH103 gb (by decide))).symm
    have m120 := (ey1).trans (fI_kept (x_lt hT kH103 gb (by decide))).symm
    have m121 := (ey4).trans (fI_kept (x_lt hT kH103 gb (by decide))).symm
    have m122 := (ey5).trans (fI_kept (x_lt hT kH103 gb (by decide))).symm
    have m123 := (ey10).trans (fI_kept (x_lt hT kH103 gb (by decide))).symm
    have m124 := (ey13).trans (fI_kept (x_lt hT kH103 gb (by decide))).symm
    have m125 := (ey16).trans (fI_kept (x_lt hT kH103 gb (by decide))).symm
    have m126 := (etq).trans (fR_kept (x_lt hT kH103 ga (by decide))).symm
    have m127 := (euq).trans (fR_kept (x_lt hT kH103 gb (by decide))).symm
    have m128 := (ehi).trans (fI_kept (x_lt hT kH103 gb (by decide))).symm
    have m129 := (fV_kept (x_lt hT kH103 ga (by decide))).trans kn
    have bx105 := ty_fi (x := x105) (k := 1) ex105 hTH103 gw rg_0 rfl
    have bx106 := ty_fi (x := x106) (k := 4) ex106 hTH103 gw rg_0 rfl
    have bx107 := ty_fi (x := x107) (k := 5) ex107 hTH103 gw rg_0 rfl
    have bx108 := ty_fi (x := x108) (k := 10) ex108 hTH103 gw rg_0 rfl
    have bx109 := ty_fi (x := x109) (k := 13) ex109 hTH103 gw rg_0 rfl
    have bx110 := ty_fi (x := x110) (k := 16) ex110 hTH103 gw rg_0 rfl
    refine W.eq (g2 := F0 m 1329 ls [.int x104]) rfl ?_
    refine lv_pop hx hb dL_law_1329 rfl ?_
    refine lv_aload_n hx hb dL_law_1330 rfl (lv_at hl 1 rfl) ?_
    refine lv_aload_n hx hb dL_law_1331 rfl (lv_at hl 3 rfl) ?_
    refine lv_iload_n hx hb dL_law_1332 rfl (lv_at hl 0 rfl) ?_
    refine lv_iconst (v := 1) hx hb dL_law_1333 (by decide) ?_
    refine lv_iadd hx hb dL_law_1334 ?_
    refine lv_topi (fun x130 ex130 => ?_)
    have tx130 := i_add ex130 (by omega)
    have ejx130 : x130.toNatClampNeg = i.toNatClampNeg + 1 := by have h1 := i_cl (x := x130) (by omega); have h2 := i_cl (x := i) (by omega); omega
    refine va_sld hx hb hX hbl (Nat.not_le.mpr hbl) hSH103 (vp_in_iff.mpr (by omega)) dL_law_1335 ?_
    refine W.eq (g2 := F0 m 1336 ls [.int (xs (i.toNatClampNeg + 1)), .ref b]) (congrArg (fun z => F0 m 1336 ls [.int (xs z), .ref b]) ejx130) ?_
    refine lv_aload_n hx hb dL_law_1336 rfl (lv_at hl 3 rfl) ?_
    refine lv_iload_n hx hb dL_law_1337 rfl (lv_at hl 0 rfl) ?_
    refine lv_iconst (v := 2) hx hb dL_law_1338 (by decide) ?_
    refine lv_iadd hx hb dL_law_1339 ?_
    refine lv_topi (fun x131 ex131 => ?_)
    have tx131 := i_add ex131 (by omega)
    have ejx131 : x131.toNatClampNeg = i.toNatClampNeg + 2 := by have h1 := i_cl (x := x131) (by omega); have h2 := i_cl (x := i) (by omega); omega
    refine va_sld hx hb hX hbl (Nat.not_le.mpr hbl) hSH103 (vp_in_iff.mpr (by omega)) dL_law_1340 ?_
    refine W.eq (g2 := F0 m 1341 ls [.int (xs (i.toNatClampNeg + 2)), .int (xs (i.toNatClampNeg + 1)), .ref b]) (congrArg (fun z => F0 m 1341 ls [.int (xs z), .int (xs (i.toNatClampNeg + 1)), .ref b]) ejx131) ?_
    refine x_V (As := [.int (xs (i.toNatClampNeg + 1)), .int (xs (i.toNatClampNeg + 2))]) (rest := []) C (a_X10_blank_r l K G H103 ((xs (i.toNatClampNeg + 1))) ((xs (i.toNatClampNeg + 2))) (y16) hTH103 gb m125 g111 g112 g113 g114) yo_X10_blank wM_L_140 ⟨⟨by decide, by decide⟩, show _ ≤ 284929 by omega, show _ ≤ 8247460 by omega⟩ (x_rv C hTH103 (ci := 10) rfl gb rg_112) rfl hl.1 rfl (Nat.le_of_ble_eq_true rfl) dL_law_1341 hSH103 (AE_new hN hSH103.1) (fun vH132 H132 locsH132 pH132 zH132 kH132 hSH132 => ?_)
    obtain ⟨x133, x134, hvH132, ex134, hrH132, g135, g136, g137, g138, mf139, hTH132⟩ := pH132
    subst hvH132
    have f140 : ∀ j : Nat, fI H132 tq j = fI H tq j := fun j => (fI_kept (x_lt hTH103 kH132 gtq (by decide))).trans (f115 j)
    have f141 : ∀ j : Nat, fI H132 uq j = fI H uq j := fun j => (fI_kept (x_lt hTH103 kH132 guq (by decide))).trans (f116 j)
    have m142 := (m117).trans (fR_kept (x_lt hTH103 kH132 ga (by decide))).symm
    have m143 := (m118).trans (fI_kept (x_lt hTH103 kH132 ga (by decide))).symm
    have m144 := (m126).trans (fR_kept (x_lt hTH103 kH132 ga (by decide))).symm
    have m145 := (fV_kept (x_lt hTH103 kH132 ga (by decide))).trans m129
    have m146 := (ex105).trans (fI_kept (x_lt hTH103 kH132 gw (by decide))).symm
    have m147 := (ex106).trans (fI_kept (x_lt hTH103 kH132 gw (by decide))).symm
    have m148 := (ex107).trans (fI_kept (x_lt hTH103 kH132 gw (by decide))).symm
    have m149 := (ex108).trans (fI_kept (x_lt hTH103 kH132 gw (by decide))).symm
    have m150 := (ex109).trans (fI_kept (x_lt hTH103 kH132 gw (by decide))).symm
    have m151 := (ex110).trans (fI_kept (x_lt hTH103 kH132 gw (by decide))).symm
    have m152 := (m119).trans (MF.i mf139 (k := 18) (by decide) (by decide)).symm
    have m153 := (m120).trans (MF.i mf139 (k := 1) (by decide) (by decide)).symm
    have m154 := (m121).trans (MF.i mf139 (k := 2) (by decide) (by decide)).symm
    have m155 := (m122).trans (MF.i mf139 (k := 3) (by decide) (by decide)).symm
    have m156 := (m123).trans (MF.i mf139 (k := 59) (by decide) (by decide)).symm
    have m157 := (m124).trans (MF.i mf139 (k := 62) (by decide) (by decide)).symm
    have m158 := (m127).trans (MF.r mf139 (k := 17) (by decide) (by decide)).symm
    have m159 := (m128).trans (MF.i mf139 (k := 70) (by decide) (by decide)).symm
    have bx134 := ty_fi (x := x134) (k := 65) ex134 hTH132 gb rg_112 rfl
    refine W.eq (g2 := F0 m 1344 ls [.int x133]) rfl ?_
    refine lv_pop hx hb dL_law_1344 rfl ?_
    refine lv_goto (tgt := 1509) hx hb dL_law_1345 (by decide) ?_
    exact nx G H132 locsH132 _ _ ls ⟨hTH132, hN, ga, gb, g135, g136, g137, g138, ⟨(by rw [← m143, ← m152]; omega), (by rw [← m142, ← m146, ← m153]; omega), (by rw [← m142, ← m147, ← m154]; omega), (by rw [← m142, ← m148, ← m155]; omega), (by rw [← m142, ← m149, ← m156]; omega), (by rw [← m142, ← m150, ← m157]; omega), (by rw [← m142, ← m151, ← ex134]; omega)⟩, Or.inl ⟨m145, (by rw [← m159]; omega)⟩, (by unfold TB; rw [← m144, ← m158, ← m152]; exact TBR.of htr f140 f141 (by omega)), hSH132⟩ hl ⟨by omega, by omega, fun _ => ⟨by omega, by omega⟩⟩
  · skip
    obtain ⟨hi, ehi⟩ : ∃ z : Int32, z = fI H b (K.1.2 10 70) := ⟨_, rfl⟩
    rw [← ehi] at h70
    obtain ⟨iq, eiq⟩ : ∃ z : Nat, z = fR H b (K.1.2 10 73) := ⟨_, rfl⟩
    have giq := ty_fr (q := iq) (k := 73) (u := 162) eiq hT gb rg_112 rfl
    rw [← eiq] at q1 q4 q5 q10 q13 q16
    obtain ⟨k1, ek1⟩ : ∃ z : Int32, z = fI H kq (K.1.2 8 1) := ⟨_, rfl⟩
    rw [← ek1] at q1
    obtain ⟨i1, ei1⟩ : ∃ z : Int32, z = fI H iq ((0 : Int32).toNatClampNeg) := ⟨_, rfl⟩
    rw [← ei1] at q1
    obtain ⟨k4, ek4⟩ : ∃ z : Int32, z = fI H kq (K.1.2 8 4) := ⟨_, rfl⟩
    rw [← ek4] at q4
    obtain ⟨i4, ei4⟩ : ∃ z : Int32, z = fI H iq ((1 : Int32).toNatClampNeg) := ⟨_, rfl⟩
    rw [← ei4] at q4
    obtain ⟨k5, ek5⟩ : ∃ z : Int32, z = fI H kq (K.1.2 8 5) := ⟨_, rfl⟩
    rw [← ek5] at q5
    obtain ⟨i5, ei5⟩ : ∃ z : Int32, z = fI H iq ((2 : Int32).toNatClampNeg) := ⟨_, rfl⟩
    rw [← ei5] at q5
    obtain ⟨k10, ek10⟩ : ∃ z : Int32, z = fI H kq (K.1.2 8 10) := ⟨_, rfl⟩
    rw [← ek10] at q10
    obtain ⟨i10, ei10⟩ : ∃ z : Int32, z = fI H iq ((3 : Int32).toNatClampNeg) := ⟨_, rfl⟩
    rw [← ei10] at q10
    obtain ⟨k13, ek13⟩ : ∃ z : Int32, z = fI H kq (K.1.2 8 13) := ⟨_, rfl⟩
    rw [← ek13] at q13
    obtain ⟨i13, ei13⟩ : ∃ z : Int32, z = fI H iq ((4 : Int32).toNatClampNeg) := ⟨_, rfl⟩
    rw [← ei13] at q13
    obtain ⟨k16, ek16⟩ : ∃ z : Int32, z = fI H kq (K.1.2 8 16) := ⟨_, rfl⟩
    rw [← ek16] at q16
    obtain ⟨i16, ei16⟩ : ∃ z : Int32, z = fI H iq ((5 : Int32).toNatClampNeg) := ⟨_, rfl⟩
    rw [← ei16] at q16
    refine lv_aload_n hx hb dL_law_1315 rfl (lv_at hl 2 rfl) ?_
    refine lv_aload_n hx hb dL_law_1316 rfl (lv_at hl 3 rfl) ?_
    refine lv_iload_n hx hb dL_law_1317 rfl (lv_at hl 0 rfl) ?_
    refine lv_iconst (v := 1) hx hb dL_law_1318 (by decide) ?_
    refine lv_iadd hx hb dL_law_1319 ?_
    refine lv_topi (fun x160 ex160 => ?_)
    have tx160 := i_add ex160 (by omega)
    have ejx160 : x160.toNatClampNeg = i.toNatClampNeg + 1 := by have h1 := i_cl (x := x160) (by omega); have h2 := i_cl (x := i) (by omega); omega
    refine va_sld hx hb hX hbl (Nat.not_le.mpr hbl) hS (vp_in_iff.mpr (by omega)) dL_law_1320 ?_
    refine W.eq (g2 := F0 m 1321 ls [.int (xs (i.toNatClampNeg + 1)), .ref a]) (congrArg (fun z => F0 m 1321 ls [.int (xs z), .ref a]) ejx160) ?_
    refine lv_aload_n hx hb dL_law_1321 rfl (lv_at hl 3 rfl) ?_
    refine lv_iload_n hx hb dL_law_1322 rfl (lv_at hl 0 rfl) ?_
    refine lv_iconst (v := 2) hx hb dL_law_1323 (by decide) ?_
    refine lv_iadd hx hb dL_law_1324 ?_
    refine lv_topi (fun x161 ex161 => ?_)
    have tx161 := i_add ex161 (by omega)
    have ejx161 : x161.toNatClampNeg = i.toNatClampNeg + 2 := by have h1 := i_cl (x := x161) (by omega); have h2 := i_cl (x := i) (by omega); omega
    refine va_sld hx hb hX hbl (Nat.not_le.mpr hbl) hS (vp_in_iff.mpr (by omega)) dL_law_1325 ?_
    refine W.eq (g2 := F0 m 1326 ls [.int (xs (i.toNatClampNeg + 2)), .int (xs (i.toNatClampNeg + 1)), .ref a]) (congrArg (fun z => F0 m 1326 ls [.int (xs z), .int (xs (i.toNatClampNeg + 1)), .ref a]) ejx161) ?_
    refine x_V (As := [.int (xs (i.toNatClampNeg + 1)), .int (xs (i.toNatClampNeg + 2))]) (rest := []) C (a_X9_blank_r l K G H ((xs (i.toNatClampNeg + 1))) ((xs (i.toNatClampNeg + 2))) (s1) (s4) (s5) (s10) (s13) (s16) hT ga gw ew es1 es4 es5 es10 es13 es16) yo_X9_blank wM_L_137 ⟨⟨by decide, by decide⟩, show _ ≤ 284929 by omega, show _ ≤ 8247460 by omega⟩ (x_rv C hT (ci := 9) rfl ga rg_68) rfl hl.1 rfl (Nat.le_of_ble_eq_true rfl) dL_law_1326 hS (AE_new hN hS.1) (fun vH162 H162 locsH162 pH162 zH162 kH162 hSH162 => ?_)
    obtain ⟨x163, x164, x165, x166, x167, x168, x169, hvH162, ex164, ex165, ex166, ex167, ex168, ex169, hrH162, hTH162⟩ := pH162
    subst hvH162
    have g170 : CG (avw K H162 b) := CG.congr (fun k hk j => av_eff hT kH162 gb (by decide) (CG_eff [0, 32, 33] (by decide) k hk)) cg
    have g171 : TU (avw K H162 b) (svw K H162 b) := TU.congr (fun k hk j => av_eff hT kH162 gb (by decide) (TU_eff [0, 32, 33] (by decide) k hk)) (fun k hk => sv_eff hT kH162 gb (by decide)) tu
    have g172 : WD (avw K H162 b) := WD.congr (fun k hk j => av_eff hT kH162 gb (by decide) (WD_eff [0, 32, 33] (by decide) k hk)) wd
    have g173 : IM (avw K H162 b) := IM.congr (fun k hk j => av_eff hT kH162 gb (by decide) (IM_eff [0, 32, 33] (by decide) k hk)) im
    have f174 : ∀ j : Nat, fI H162 tq j = fI H tq j := fun j => (fI_kept (x_lt hT kH162 gtq (by decide))).trans (ft0 j)
    have f175 : ∀ j : Nat, fI H162 uq j = fI H uq j := fun j => (fI_kept (x_lt hT kH162 guq (by decide))).trans (fu0 j)
    have m176 := (ew).trans (fR_kept (x_lt hT kH162 ga (by decide))).symm
    have m177 := (eta).trans (fI_kept (x_lt hT kH162 ga (by decide))).symm
    have m178 := (etb).trans (fI_kept (x_lt hT kH162 gb (by decide))).symm
    have m179 := (ey1).trans (fI_kept (x_lt hT kH162 gb (by decide))).symm
    have m180 := (ey4).trans (fI_kept (x_lt hT kH162 gb (by decide))).symm
    have m181 := (ey5).trans (fI_kept (x_lt hT kH162 gb (by decide))).symm
    have m182 := (ey10).trans (fI_kept (x_lt hT kH162 gb (by decide))).symm
    have m183 := (ey13).trans (fI_kept (x_lt hT kH162 gb (by decide))).symm
    have m184 := (ey16).trans (fI_kept (x_lt hT kH162 gb (by decide))).symm
    have m185 := (etq).trans (fR_kept (x_lt hT kH162 ga (by decide))).symm
    have m186 := (euq).trans (fR_kept (x_lt hT kH162 gb (by decide))).symm
    have m187 := (ehi).trans (fI_kept (x_lt hT kH162 gb (by decide))).symm
    have m188 := (fV_kept (x_lt hT kH162 ga (by decide))).trans kn
    have m189 := (eiq).trans (fR_kept (x_lt hT kH162 gb (by decide))).symm
    have m190 := (ek1).trans (fI_kept (x_lt hT kH162 gkq (by decide))).symm
    have m191 := (ei1).trans (fI_kept (x_lt hT kH162 giq (by decide))).symm
    have m192 := (ek4).trans (fI_kept (x_lt hT kH162 gkq (by decide))).symm
    have m193 := (ei4).trans (fI_kept (x_lt hT kH162 giq (by decide))).symm
    have m194 := (ek5).trans (fI_kept (x_lt hT kH162 gkq (by decide))).symm
    have m195 := (ei5).trans (fI_kept (x_lt hT kH162 giq (by decide))).symm
    have m196 := (ek10).trans (fI_kept (x_lt hT kH162 gkq (by decide))).symm
    have m197 := (ei10).trans (fI_kept (x_lt hT kH162 giq (by decide))).symm
    have m198 := (ek13).trans (fI_kept (x_lt hT kH162 gkq (by decide))).symm
    have m199 := (ei13).trans (fI_kept (x_lt hT kH162 giq (by decide))).symm
    have m200 := (ek16).trans (fI_kept (x_lt hT kH162 gkq (by decide))).symm
    have m201 := (ei16).trans (fI_kept (x_lt hT kH162 giq (by decide))).symm
    have bx164 := ty_fi (x := x164) (k := 1) ex164 hTH162 gw rg_0 rfl
    have bx165 := ty_fi (x := x165) (k := 4) ex165 hTH162 gw rg_0 rfl
    have bx166 := ty_fi (x := x166) (k := 5) ex166 hTH162 gw rg_0 rfl
    have bx167 := ty_fi (x := x167) (k := 10) ex167 hTH162 gw rg_0 rfl
    have bx168 := ty_fi (x := x168) (k := 13) ex168 hTH162 gw rg_0 rfl
    have bx169 := ty_fi (x := x169) (k := 16) ex169 hTH162 gw rg_0 rfl
    refine W.eq (g2 := F0 m 1329 ls [.int x163]) rfl ?_
    refine lv_pop hx hb dL_law_1329 rfl ?_
    refine lv_aload_n hx hb dL_law_1330 rfl (lv_at hl 1 rfl) ?_
    refine lv_aload_n hx hb dL_law_1331 rfl (lv_at hl 3 rfl) ?_
    refine lv_iload_n hx hb dL_law_1332 rfl (lv_at hl 0 rfl) ?_
    refine lv_iconst (v := 1) hx hb dL_law_1333 (by decide) ?_
    refine lv_iadd hx hb dL_law_1334 ?_
    refine lv_topi (fun x202 ex202 => ?_)
    have tx202 := i_add ex202 (by omega)
    have ejx202 : x202.toNatClampNeg = i.toNatClampNeg + 1 := by have h1 := i_cl (x := x202) (by omega); have h2 := i_cl (x := i) (by omega); omega
    refine va_sld hx hb hX hbl (Nat.not_le.mpr hbl) hSH162 (vp_in_iff.mpr (by omega)) dL_law_1335 ?_
    refine W.eq (g2 := F0 m 1336 ls [.int (xs (i.toNatClampNeg + 1)), .ref b]) (congrArg (fun z => F0 m 1336 ls [.int (xs z), .ref b]) ejx202) ?_
    refine lv_aload_n hx hb dL_law_1336 rfl (lv_at hl 3 rfl) ?_
    refine lv_iload_n hx hb dL_law_1337 rfl (lv_at hl 0 rfl) ?_
    refine lv_iconst (v := 2) hx hb dL_law_1338 (by decide) ?_
    refine lv_iadd hx hb dL_law_1339 ?_
    refine lv_topi (fun x203 ex203 => ?_)
    have tx203 := i_add ex203 (by omega)
    have ejx203 : x203.toNatClampNeg = i.toNatClampNeg + 2 := by have h1 := i_cl (x := x203) (by omega); have h2 := i_cl (x := i) (by omega); omega
    refine va_sld hx hb hX hbl (Nat.not_le.mpr hbl) hSH162 (vp_in_iff.mpr (by omega)) dL_law_1340 ?_
    refine W.eq (g2 := F0 m 1341 ls [.int (xs (i.toNatClampNeg + 2)), .int (xs (i.toNatClampNeg + 1)), .ref b]) (congrArg (fun z => F0 m 1341 ls [.int (xs z), .int (xs (i.toNatClampNeg + 1)), .ref b]) ejx203) ?_
    refine x_V (As := [.int (xs (i.toNatClampNeg + 1)), .int (xs (i.toNatClampNeg + 2))]) (rest := []) C (a_X10_blank_r l K G H162 ((xs (i.toNatClampNeg + 1))) ((xs (i.toNatClampNeg + 2))) (y16) hTH162 gb m184 g170 g171 g172 g173) yo_X10_blank wM_L_140 ⟨⟨by decide, by decide⟩, show _ ≤ 284929 by omega, show _ ≤ 8247460 by omega⟩ (x_rv C hTH162 (ci := 10) rfl gb rg_112) rfl hl.1 rfl (Nat.le_of_ble_eq_true rfl) dL_law_1341 hSH162 (AE_new hN hSH162.1) (fun vH204 H204 locsH204 pH204 zH204 kH204 hSH204 => ?_)
    obtain ⟨x205, x206, hvH204, ex206, hrH204, g207, g208, g209, g210, mf211, hTH204⟩ := pH204
    subst hvH204
    have f212 : ∀ j : Nat, fI H204 tq j = fI H tq j := fun j => (fI_kept (x_lt hTH162 kH204 gtq (by decide))).trans (f174 j)
    have f213 : ∀ j : Nat, fI H204 uq j = fI H uq j := fun j => (fI_kept (x_lt hTH162 kH204 guq (by decide))).trans (f175 j)
    have m214 := (m176).trans (fR_kept (x_lt hTH162 kH204 ga (by decide))).symm
    have m215 := (m177).trans (fI_kept (x_lt hTH162 kH204 ga (by decide))).symm
    have m216 := (m185).trans (fR_kept (x_lt hTH162 kH204 ga (by decide))).symm
    have m217 := (fV_kept (x_lt hTH162 kH204 ga (by decide))).trans m188
    have m218 := (m190).trans (fI_kept (x_lt hTH162 kH204 gkq (by decide))).symm
    have m219 := (m191).trans (fI_kept (x_lt hTH162 kH204 giq (by decide))).symm
    have m220 := (m192).trans (fI_kept (x_lt hTH162 kH204 gkq (by decide))).symm
    have m221 := (m193).trans (fI_kept (x_lt hTH162 kH204 giq (by decide))).symm
    have m222 := (m194).trans (fI_kept (x_lt hTH162 kH204 gkq (by decide))).symm
    have m223 := (m195).trans (fI_kept (x_lt hTH162 kH204 giq (by decide))).symm
    have m224 := (m196).trans (fI_kept (x_lt hTH162 kH204 gkq (by decide))).symm
    have m225 := (m197).trans (fI_kept (x_lt hTH162 kH204 giq (by decide))).symm
    have m226 := (m198).trans (fI_kept (x_lt hTH162 kH204 gkq (by decide))).symm
    have m227 := (m199).trans (fI_kept (x_lt hTH162 kH204 giq (by decide))).symm
    have m228 := (m200).trans (fI_kept (x_lt hTH162 kH204 gkq (by decide))).symm
    have m229 := (m201).trans (fI_kept (x_lt hTH162 kH204 giq (by decide))).symm
    have m230 := (ex164).trans (fI_kept (x_lt hTH162 kH204 gw (by decide))).symm
    have m231 := (ex165).trans (fI_kept (x_lt hTH162 kH204 gw (by decide))).symm
    have m232 := (ex166).trans (fI_kept (x_lt hTH162 kH204 gw (by decide))).symm
    have m233 := (ex167).trans (fI_kept (x_lt hTH162 kH204 gw (by decide))).symm
    have m234 := (ex168).trans (fI_kept (x_lt hTH162 kH204 gw (by decide))).symm
    have m235 := (ex169).trans (fI_kept (x_lt hTH162 kH204 gw (by decide))).symm
    have m236 := (m178).trans (MF.i mf211 (k := 18) (by decide) (by decide)).symm
    have m237 := (m179).trans (MF.i mf211 (k := 1) (by decide) (by decide)).symm
    have m238 := (m180).trans (MF.i mf211 (k := 2) (by decide) (by decide)).symm
    have m239 := (m181).trans (MF.i mf211 (k := 3) (by decide) (by decide)).symm
    have m240 := (m182).trans (MF.i mf211 (k := 59) (by decide) (by decide)).symm
    have m241 := (m183).trans (MF.i mf211 (k := 62) (by decide) (by decide)).symm
    have m242 := (m186).trans (MF.r mf211 (k := 17) (by decide) (by decide)).symm
    have m243 := (m187).trans (MF.i mf211 (k := 70) (by decide) (by decide)).symm
    have m244 := (m189).trans (MF.r mf211 (k := 73) (by decide) (by decide)).symm
    have bx206 := ty_fi (x := x206) (k := 65) ex206 hTH204 gb rg_112 rfl
    refine W.eq (g2 := F0 m 1344 ls [.int x205]) rfl ?_
    refine lv_pop hx hb dL_law_1344 rfl ?_
    refine lv_goto (tgt := 1509) hx hb dL_law_1345 (by decide) ?_
    exact nx G H204 locsH204 _ _ ls ⟨hTH204, hN, ga, gb, g207, g208, g209, g210, ⟨(by rw [← m215, ← m236]; omega), (by rw [← m214, ← m230, ← m237]; omega), (by rw [← m214, ← m231, ← m238]; omega), (by rw [← m214, ← m232, ← m239]; omega), (by rw [← m214, ← m233, ← m240]; omega), (by rw [← m214, ← m234, ← m241]; omega), (by rw [← m214, ← m235, ← ex206]; omega)⟩, Or.inr ⟨kq, m217, gkq, (by rw [← m243]; omega), (by rw [← m218, ← m244, ← m219]; omega), (by rw [← m220, ← m244, ← m221]; omega), (by rw [← m222, ← m244, ← m223]; omega), (by rw [← m224, ← m244, ← m225]; omega), (by rw [← m226, ← m244, ← m227]; omega), (by rw [← m228, ← m244, ← m229]; omega)⟩, (by unfold TB; rw [← m216, ← m242, ← m236]; exact TBR.of htr f212 f213 (by omega)), hSH204⟩ hl ⟨by omega, by omega, fun h => by have h1 := h.symm.trans m217; cases h1⟩