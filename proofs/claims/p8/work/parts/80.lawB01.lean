set_option maxRecDepth 100000 in
set_option maxHeartbeats 8000000 in
theorem lw_c3 {p : Program} {l : Launch} {e : Env} {s : State} {m : MethodId} {below : List Frame} {meth : Method} {c : Code} {K : KE} {b0 L : Nat} {xs : Nat → Int32} {G : Nat → Option Nat} {H : Heap} {locs : List Loc} {a b : Nat} {cells slots : Nat} {ls : Array Slot} {i : Int32} {n : Nat} (D : LC p K s m meth c b0 L xs) (S : SX K s G H locs a b) (hl : lv_has ls 4 [(3, .int i), (2, .ref b), (1, .ref a), (0, .ref b0)]) (hi : 0 ≤ i.toInt ∧ i.toInt + 6 ≤ L) (hn : n ≤ 511) (hB : BD K H a cells slots) (nx : ∀ (G : Nat → Option Nat) (H : Heap) (locs : List Loc) (cells slots : Nat) (ls : Array Slot), SX K s G H locs a b → lv_has ls 4 [(3, .int i), (2, .ref b), (1, .ref a), (0, .ref b0)] → BD K H a cells slots → W p l e room_1 s m #[Value.ref b0] below meth c H locs cells slots (lw_Z below #[Value.ref b0] s) (F0 m 1509 ls [])) : W p l e room_1 s m #[Value.ref b0] below meth c H locs cells slots (lw_Z below #[Value.ref b0] s) (F0 m 317 ls []) := by
  obtain ⟨C, hX, hbl, hL⟩ := id D
  obtain ⟨hx, hb, hml, hown, hts, hKT, hr, hlocks, hnm⟩ := id C
  obtain ⟨hT, hN, ga, gb, cg, tu, wd, im, ⟨rt, r1, r4, r5, r10, r13, r16⟩, hk, htb, hS⟩ := S
  obtain ⟨hc, hs, hB0⟩ := hB
  have n_1 : (1 : Int32).toInt = 1 := rfl
  have n_2 : (2 : Int32).toInt = 2 := rfl
  have n_3 : (3 : Int32).toInt = 3 := rfl
  obtain ⟨w, ew⟩ : ∃ z : Nat, z = fR H a (K.1.2 9 0) := ⟨_, rfl⟩
  have gw := ty_fr (q := w) (k := 0) (u := 0) ew hT ga rg_68 rfl
  rw [← ew] at r1 r4 r5 r10 r13 r16
  obtain ⟨ta, eta⟩ : ∃ z : Int32, z = fI H a (K.1.2 9 3) := ⟨_, rfl⟩
  rw [← eta] at rt
  obtain ⟨tb, etb⟩ : ∃ z : Int32, z = fI H b (K.1.2 10 18) := ⟨_, rfl⟩
  rw [← etb] at rt
  obtain ⟨s1, es1⟩ : ∃ z : Int32, z = fI H w (K.1.2 8 1) := ⟨_, rfl⟩
  rw [← es1] at r1
  obtain ⟨y1, ey1⟩ : ∃ z : Int32, z = fI H b (K.1.2 10 1) := ⟨_, rfl⟩
  rw [← ey1] at r1
  obtain ⟨s4, es4⟩ : ∃ z : Int32, z = fI H w (K.1.2 8 4) := ⟨_, rfl⟩
  rw [← es4] at r4
  obtain ⟨y4, ey4⟩ : ∃ z : Int32, z = fI H b (K.1.2 10 2) := ⟨_, rfl⟩
  rw [← ey4] at r4
  obtain ⟨s5, es5⟩ : ∃ z : Int32, z = fI H w (K.1.2 8 5) := ⟨_, rfl⟩
  rw [← es5] at r5
  obtain ⟨y5, ey5⟩ : ∃ z : Int32, z = fI H b (K.1.2 10 3) := ⟨_, rfl⟩
  rw [← ey5] at r5
  obtain ⟨s10, es10⟩ : ∃ z : Int32, z = fI H w (K.1.2 8 10) := ⟨_, rfl⟩
  rw [← es10] at r10
  obtain ⟨y10, ey10⟩ : ∃ z : Int32, z = fI H b (K.1.2 10 59) := ⟨_, rfl⟩
  rw [← ey10] at r10
  obtain ⟨s13, es13⟩ : ∃ z : Int32, z = fI H w (K.1.2 8 13) := ⟨_, rfl⟩
  rw [← es13] at r13
  obtain ⟨y13, ey13⟩ : ∃ z : Int32, z = fI H b (K.1.2 10 62) := ⟨_, rfl⟩
  rw [← ey13] at r13
  obtain ⟨s16, es16⟩ : ∃ z : Int32, z = fI H w (K.1.2 8 16) := ⟨_, rfl⟩
  rw [← es16] at r16
  obtain ⟨y16, ey16⟩ : ∃ z : Int32, z = fI H b (K.1.2 10 65) := ⟨_, rfl⟩
  rw [← ey16] at r16
  obtain ⟨tq, etq⟩ : ∃ z : Nat, z = fR H a (K.1.2 9 2) := ⟨_, rfl⟩
  have gtq := ty_fr (q := tq) (k := 2) (u := 108) etq hT ga rg_68 rfl
  obtain ⟨uq, euq⟩ : ∃ z : Nat, z = fR H b (K.1.2 10 17) := ⟨_, rfl⟩
  have guq := ty_fr (q := uq) (k := 17) (u := 126) euq hT gb rg_112 rfl
  have htr : TBR (fun j => fI H tq j) (fun j => fI H uq j) tb.toNatClampNeg := by rw [etq, euq, etb]; exact htb
  have ft0 : ∀ j : Nat, fI H tq j = fI H tq j := fun _ => rfl
  have fu0 : ∀ j : Nat, fI H uq j = fI H uq j := fun _ => rfl
  have bta := ty_fi (x := ta) (k := 3) eta hT ga rg_68 rfl
  have cta := i_cl (x := ta) (by omega)
  have btb := ty_fi (x := tb) (k := 18) etb hT gb rg_112 rfl
  have ctb := i_cl (x := tb) (by omega)
  rcases hk with ⟨kn, h70⟩ | ⟨kq, kn, gkq, h70, q1, q4, q5, q10, q13, q16⟩
  · skip
    obtain ⟨hi, ehi⟩ : ∃ z : Int32, z = fI H b (K.1.2 10 70) := ⟨_, rfl⟩
    rw [← ehi] at h70
    obtain ⟨hc0, hs0⟩ := hB0 kn
    refine lv_aload_n hx hb dL_law_317 rfl (lv_at hl 2 rfl) ?_
    refine lv_aload_n hx hb dL_law_318 rfl (lv_at hl 3 rfl) ?_
    refine lv_iload_n hx hb dL_law_319 rfl (lv_at hl 0 rfl) ?_
    refine lv_iconst (v := 1) hx hb dL_law_320 (by decide) ?_
    refine lv_iadd hx hb dL_law_321 ?_
    refine lv_topi (fun x101 ex101 => ?_)
    have tx101 := i_add ex101 (by omega)
    have ejx101 : x101.toNatClampNeg = i.toNatClampNeg + 1 := by have h1 := i_cl (x := x101) (by omega); have h2 := i_cl (x := i) (by omega); omega
    refine va_sld hx hb hX hbl (Nat.not_le.mpr hbl) hS (vp_in_iff.mpr (by omega)) dL_law_322 ?_
    refine W.eq (g2 := F0 m 323 ls [.int (xs (i.toNatClampNeg + 1)), .ref a]) (congrArg (fun z => F0 m 323 ls [.int (xs z), .ref a]) ejx101) ?_
    refine lv_aload_n hx hb dL_law_323 rfl (lv_at hl 3 rfl) ?_
    refine lv_iload_n hx hb dL_law_324 rfl (lv_at hl 0 rfl) ?_
    refine lv_iconst (v := 2) hx hb dL_law_325 (by decide) ?_
    refine lv_iadd hx hb dL_law_326 ?_
    refine lv_topi (fun x102 ex102 => ?_)
    have tx102 := i_add ex102 (by omega)
    have ejx102 : x102.toNatClampNeg = i.toNatClampNeg + 2 := by have h1 := i_cl (x := x102) (by omega); have h2 := i_cl (x := i) (by omega); omega
    refine va_sld hx hb hX hbl (Nat.not_le.mpr hbl) hS (vp_in_iff.mpr (by omega)) dL_law_327 ?_
    refine W.eq (g2 := F0 m 328 ls [.int (xs (i.toNatClampNeg + 2)), .int (xs (i.toNatClampNeg + 1)), .ref a]) (congrArg (fun z => F0 m 328 ls [.int (xs z), .int (xs (i.toNatClampNeg + 1)), .ref a]) ejx102) ?_
    refine lv_aload_n hx hb dL_law_328 rfl (lv_at hl 3 rfl) ?_
    refine lv_iload_n hx hb dL_law_329 rfl (lv_at hl 0 rfl) ?_
    refine lv_iconst (v := 3) hx hb dL_law_330 (by decide) ?_
    refine lv_iadd hx hb dL_law_331 ?_
    refine lv_topi (fun x103 ex103 => ?_)
    have tx103 := i_add ex103 (by omega)
    have ejx103 : x103.toNatClampNeg = i.toNatClampNeg + 3 := by have h1 := i_cl (x := x103) (by omega); have h2 := i_cl (x := i) (by omega); omega
    refine va_sld hx hb hX hbl (Nat.not_le.mpr hbl) hS (vp_in_iff.mpr (by omega)) dL_law_332 ?_
    refine W.eq (g2 := F0 m 333 ls [.int (xs (i.toNatClampNeg + 3)), .int (xs (i.toNatClampNeg + 2)), .int (xs (i.toNatClampNeg + 1)), .ref a]) (congrArg (fun z => F0 m 333 ls [.int (xs z), .int (xs (i.toNatClampNeg + 2)), .int (xs (i.toNatClampNeg + 1)), .ref a]) ejx103) ?_
    refine x_V (As := [.int (xs (i.toNatClampNeg + 1)), .int (xs (i.toNatClampNeg + 2)), .int (xs (i.toNatClampNeg + 3))]) (rest := []) C (a_X9_of l K G H ((xs (i.toNatClampNeg + 1))) ((xs (i.toNatClampNeg + 2))) ((xs (i.toNatClampNeg + 3))) hT ga) yo_X9_of wM_L_28 ⟨⟨by decide, by decide⟩, show _ ≤ 284929 by omega, show _ ≤ 8247460 by omega⟩ (x_rv C hT (ci := 9) rfl ga rg_68) rfl hl.1 rfl (Nat.le_of_ble_eq_true rfl) dL_law_333 hS (AE_new hN hS.1) (fun vH104 H104 locsH104 pH104 zH104 kH104 hSH104 => ?_)
    obtain ⟨x105, hvH104, hTH104⟩ := pH104
    subst hvH104
    have g106 : CG (avw K H104 b) := CG.congr (fun k hk j => av_eff hT kH104 gb (by decide) (CG_eff [] (by decide) k hk)) cg
    have g107 : TU (avw K H104 b) (svw K H104 b) := TU.congr (fun k hk j => av_eff hT kH104 gb (by decide) (TU_eff [] (by decide) k hk)) (fun k hk => sv_eff hT kH104 gb (by decide)) tu
    have g108 : WD (avw K H104 b) := WD.congr (fun k hk j => av_eff hT kH104 gb (by decide) (WD_eff [] (by decide) k hk)) wd
    have g109 : IM (avw K H104 b) := IM.congr (fun k hk j => av_eff hT kH104 gb (by decide) (IM_eff [] (by decide) k hk)) im
    have f110 : ∀ j : Nat, fI H104 tq j = fI H tq j := fun j => (fI_kept (x_lt hT kH104 gtq (by decide))).trans (ft0 j)
    have f111 : ∀ j : Nat, fI H104 uq j = fI H uq j := fun j => (fI_kept (x_lt hT kH104 guq (by decide))).trans (fu0 j)
    have m112 := (ew).trans (fR_kept (x_lt hT kH104 ga (by decide))).symm
    have m113 := (eta).trans (fI_kept (x_lt hT kH104 ga (by decide))).symm
    have m114 := (etb).trans (fI_kept (x_lt hT kH104 gb (by decide))).symm
    have m115 := (es1).trans (fI_kept (x_lt hT kH104 gw (by decide))).symm
    have m116 := (ey1).trans (fI_kept (x_lt hT kH104 gb (by decide))).symm
    have m117 := (es4).trans (fI_kept (x_lt hT kH104 gw (by decide))).symm
    have m118 := (ey4).trans (fI_kept (x_lt hT kH104 gb (by decide))).symm
    have m119 := (es5).trans (fI_kept (x_lt hT kH104 gw (by decide))).symm
    have m120 := (ey5).trans (fI_kept (x_lt hT kH104 gb (by decide))).symm
    have m121 := (es10).trans (fI_kept (x_lt hT kH104 gw (by decide))).symm
    have m122 := (ey10).trans (fI_kept (x_lt hT kH104 gb (by decide))).symm
    have m123 := (es13).trans (fI_kept (x_lt hT kH104 gw (by decide))).symm
    have m124 := (ey13).trans (fI_kept (x_lt hT kH104 gb (by decide))).symm
    have m125 := (es16).trans (fI_kept (x_lt hT kH104 gw (by decide))).symm
    have m126 := (ey16).trans (fI_kept (x_lt hT kH104 gb (by decide))).symm
    have m127 := (etq).trans (fR_kept (x_lt hT kH104 ga (by decide))).symm
    have m128 := (euq).trans (fR_kept (x_lt hT kH104 gb (by decide))).symm
    have m129 := (ehi).trans (fI_kept (x_lt hT kH104 gb (by decide))).symm
    have m130 := (fV_kept (x_lt hT kH104 ga (by decide))).trans kn
    refine W.eq (g2 := F0 m 336 ls [.int x105]) rfl ?_
    refine lv_pop hx hb dL_law_336 rfl ?_
    refine lv_aload_n hx hb dL_law_337 rfl (lv_at hl 1 rfl) ?_
    refine lv_aload_n hx hb dL_law_338 rfl (lv_at hl 3 rfl) ?_
    refine lv_iload_n hx hb dL_law_339 rfl (lv_at hl 0 rfl) ?_
    refine lv_iconst (v := 1) hx hb dL_law_340 (by decide) ?_
    refine lv_iadd hx hb dL_law_341 ?_
    refine lv_topi (fun x131 ex131 => ?_)
    have tx131 := i_add ex131 (by omega)
    have ejx131 : x131.toNatClampNeg = i.toNatClampNeg + 1 := by have h1 := i_cl (x := x131) (by omega); have h2 := i_cl (x := i) (by omega); omega
    refine va_sld hx hb hX hbl (Nat.not_le.mpr hbl) hSH104 (vp_in_iff.mpr (by omega)) dL_law_342 ?_
    refine W.eq (g2 := F0 m 343 ls [.int (xs (i.toNatClampNeg + 1)), .ref b]) (congrArg (fun z => F0 m 343 ls [.int (xs z), .ref b]) ejx131) ?_
    refine lv_aload_n hx hb dL_law_343 rfl (lv_at hl 3 rfl) ?_
    refine lv_iload_n hx hb dL_law_344 rfl (lv_at hl 0 rfl) ?_
    refine lv_iconst (v := 2) hx hb dL_law_345 (by decide) ?_
    refine lv_iadd hx hb dL_law_346 ?_
    refine lv_topi (fun x132 ex132 => ?_)
    have tx132 := i_add ex132 (by omega)
    have ejx132 : x132.toNatClampNeg = i.toNatClampNeg + 2 := by have h1 := i_cl (x := x132) (by omega); have h2 := i_cl (x := i) (by omega); omega
    refine va_sld hx hb hX hbl (Nat.not_le.mpr hbl) hSH104 (vp_in_iff.mpr (by omega)) dL_law_347 ?_
    refine W.eq (g2 := F0 m 348 ls [.int (xs (i.toNatClampNeg + 2)), .int (xs (i.toNatClampNeg + 1)), .ref b]) (congrArg (fun z => F0 m 348 ls [.int (xs z), .int (xs (i.toNatClampNeg + 1)), .ref b]) ejx132) ?_
    refine lv_aload_n hx hb dL_law_348 rfl (lv_at hl 3 rfl) ?_
    refine lv_iload_n hx hb dL_law_349 rfl (lv_at hl 0 rfl) ?_
    refine lv_iconst (v := 3) hx hb dL_law_350 (by decide) ?_
    refine lv_iadd hx hb dL_law_351 ?_
    refine lv_topi (fun x133 ex133 => ?_)
    have tx133 := i_add ex133 (by omega)
    have ejx133 : x133.toNatClampNeg = i.toNatClampNeg + 3 := by have h1 := i_cl (x := x133) (by omega); have h2 := i_cl (x := i) (by omega); omega
    refine va_sld hx hb hX hbl (Nat.not_le.mpr hbl) hSH104 (vp_in_iff.mpr (by omega)) dL_law_352 ?_
    refine W.eq (g2 := F0 m 353 ls [.int (xs (i.toNatClampNeg + 3)), .int (xs (i.toNatClampNeg + 2)), .int (xs (i.toNatClampNeg + 1)), .ref b]) (congrArg (fun z => F0 m 353 ls [.int (xs z), .int (xs (i.toNatClampNeg + 2)), .int (xs (i.toNatClampNeg + 1)), .ref b]) ejx133) ?_
    refine x_V (As := [.int (xs (i.toNatClampNeg + 1)), .int (xs (i.toNatClampNeg + 2)), .int (xs (i.toNatClampNeg + 3))]) (rest := []) C (a_X10_of l K G H104 ((xs (i.toNatClampNeg + 1))) ((xs (i.toNatClampNeg + 2))) ((xs (i.toNatClampNeg + 3))) hTH104 gb g106 g107 g108 g109) yo_X10_of wM_L_32 ⟨⟨by decide, by decide⟩, show _ ≤ 284929 by omega, show _ ≤ 8247460 by omega⟩ (x_rv C hTH104 (ci := 10) rfl gb rg_112) rfl hl.1 rfl (Nat.le_of_ble_eq_true rfl) dL_law_353 hSH104 (AE_new hN hSH104.1) (fun vH134 H134 locsH134 pH134 zH134 kH134 hSH134 => ?_)
    obtain ⟨x135, hvH134, g136, g137, g138, g139, mf140, hTH134⟩ := pH134
    subst hvH134
    have f141 : ∀ j : Nat, fI H134 tq j = fI H tq j := fun j => (fI_kept (x_lt hTH104 kH134 gtq (by decide))).trans (f110 j)
    have f142 : ∀ j : Nat, fI H134 uq j = fI H uq j := fun j => (fI_kept (x_lt hTH104 kH134 guq (by decide))).trans (f111 j)
    have m143 := (m112).trans (fR_kept (x_lt hTH104 kH134 ga (by decide))).symm
    have m144 := (m113).trans (fI_kept (x_lt hTH104 kH134 ga (by decide))).symm
    have m145 := (m115).trans (fI_kept (x_lt hTH104 kH134 gw (by decide))).symm
    have m146 := (m117).trans (fI_kept (x_lt hTH104 kH134 gw (by decide))).symm
    have m147 := (m119).trans (fI_kept (x_lt hTH104 kH134 gw (by decide))).symm
    have m148 := (m121).trans (fI_kept (x_lt hTH104 kH134 gw (by decide))).symm
    have m149 := (m123).trans (fI_kept (x_lt hTH104 kH134 gw (by decide))).symm
    have m150 := (m125).trans (fI_kept (x_lt hTH104 kH134 gw (by decide))).symm
    have m151 := (m127).trans (fR_kept (x_lt hTH104 kH134 ga (by decide))).symm
    have m152 := (fV_kept (x_lt hTH104 kH134 ga (by decide))).trans m130
    have m153 := (m114).trans (MF.i mf140 (k := 18) (by decide) (by decide)).symm
    have m154 := (m116).trans (MF.i mf140 (k := 1) (by decide) (by decide)).symm
    have m155 := (m118).trans (MF.i mf140 (k := 2) (by decide) (by decide)).symm
    have m156 := (m120).trans (MF.i mf140 (k := 3) (by decide) (by decide)).symm
    have m157 := (m122).trans (MF.i mf140 (k := 59) (by decide) (by decide)).symm
    have m158 := (m124).trans (MF.i mf140 (k := 62) (by decide) (by decide)).symm
    have m159 := (m126).trans (MF.i mf140 (k := 65) (by decide) (by decide)).symm
    have m160 := (m128).trans (MF.r mf140 (k := 17) (by decide) (by decide)).symm
    have m161 := (m129).trans (MF.i mf140 (k := 70) (by decide) (by decide)).symm
    refine W.eq (g2 := F0 m 356 ls [.int x135]) rfl ?_
    refine lv_pop hx hb dL_law_356 rfl ?_
    refine lv_goto (tgt := 1509) hx hb dL_law_357 (by decide) ?_
    exact nx G H134 locsH134 _ _ ls ⟨hTH134, hN, ga, gb, g136, g137, g138, g139, ⟨(by rw [← m144, ← m153]; omega), (by rw [← m143, ← m145, ← m154]; omega), (by rw [← m143, ← m146, ← m155]; omega), (by rw [← m143, ← m147, ← m156]; omega), (by rw [← m143, ← m148, ← m157]; omega), (by rw [← m143, ← m149, ← m158]; omega), (by rw [← m143, ← m150, ← m159]; omega)⟩, Or.inl ⟨m152, (by rw [← m161]; omega)⟩, (by unfold TB; rw [← m151, ← m160, ← m153]; exact TBR.of htr f141 f142 (by omega)), hSH134⟩ hl ⟨by omega, by omega, fun _ => ⟨by omega, by omega⟩⟩
  · skip
    obtain ⟨hi, ehi⟩ : ∃ z : Int32, z = fI H b (K.1.2 10 70) := ⟨_, rfl⟩
    rw [← ehi] at h70
    obtain ⟨iq, eiq⟩ : ∃ z : Nat, z = fR H b (K.1.2 10 73) := ⟨_, rfl⟩
    have giq := ty_fr (q := iq) (k := 73) (u := 162) eiq hT gb rg_112 rfl
    rw [← eiq] at q1 q4 q5 q10 q13 q16
    obtain ⟨k1, ek1⟩ : ∃ z : Int32, z = fI H kq (K.1.2 8 1) := ⟨_, rfl⟩
    rw [← ek1] at q1
    obtain ⟨i1, ei1⟩ : ∃ z : Int32, z = fI H iq ((0 : Int32).toNatClampNeg) := ⟨_, rfl⟩
    rw [← ei1] at q1
    obtain ⟨k4, ek4⟩ : ∃ z : Int32, z = fI H kq (K.1.2 8 4) := ⟨_, rfl⟩
    rw [← ek4] at q4
    obtain ⟨i4, ei4⟩ : ∃ z : Int32, z = fI H iq ((1 : Int32).toNatClampNeg) := ⟨_, rfl⟩
    rw [← ei4] at q4
    obtain ⟨k5, ek5⟩ : ∃ z : Int32, z = fI H kq (K.1.2 8 5) := ⟨_, rfl⟩
    rw [← ek5] at q5
    obtain ⟨i5, ei5⟩ : ∃ z : Int32, z = fI H iq ((2 : Int32).toNatClampNeg) := ⟨_, rfl⟩
    rw [← ei5] at q5
    obtain ⟨k10, ek10⟩ : ∃ z : Int32, z = fI H kq (K.1.2 8 10) := ⟨_, rfl⟩
    rw [← ek10] at q10
    obtain ⟨i10, ei10⟩ : ∃ z : Int32, z = fI H iq ((3 : Int32).toNatClampNeg) := ⟨_, rfl⟩
    rw [← ei10] at q10
    obtain ⟨k13, ek13⟩ : ∃ z : Int32, z = fI H kq (K.1.2 8 13) := ⟨_, rfl⟩
    rw [← ek13] at q13
    obtain ⟨i13, ei13⟩ : ∃ z : Int32, z = fI H iq ((4 : Int32).toNatClampNeg) := ⟨_, rfl⟩
    rw [← ei13] at q13
    obtain ⟨k16, ek16⟩ : ∃ z : Int32, z = fI H kq (K.1.2 8 16) := ⟨_, rfl⟩
    rw [← ek16] at q16
    obtain ⟨i16, ei16⟩ : ∃ z : Int32, z = fI H iq ((5 : Int32).toNatClampNeg) := ⟨_, rfl⟩
    rw [← ei16] at q16
    refine lv_aload_n hx hb dL_law_317 rfl (lv_at hl 2 rfl) ?_
    refine lv_aload_n hx hb dL_law_318 rfl (lv_at hl 3 rfl) ?_
    refine lv_iload_n hx hb dL_law_319 rfl (lv_at hl 0 rfl) ?_
    refine lv_iconst (v := 1) hx hb dL_law_320 (by decide) ?_
    refine lv_iadd hx hb dL_law_321 ?_
    refine lv_topi (fun x162 ex162 => ?_)
    have tx162 := i_add ex162 (by omega)
    have ejx162 : x162.toNatClampNeg = i.toNatClampNeg + 1 := by have h1 := i_cl (x := x162) (by omega); have h2 := i_cl (x := i) (by omega); omega
    refine va_sld hx hb hX hbl (Nat.not_le.mpr hbl) hS (vp_in_iff.mpr (by omega)) dL_law_322 ?_
    refine W.eq (g2 := F0 m 323 ls [.int (xs (i.toNatClampNeg + 1)), .ref a]) (congrArg (fun z => F0 m 323 ls [.int (xs z), .ref a]) ejx162) ?_
    refine lv_aload_n hx hb dL_law_323 rfl (lv_at hl 3 rfl) ?_
    refine lv_iload_n hx hb dL_law_324 rfl (lv_at hl 0 rfl) ?_
    refine lv_iconst (v := 2) hx hb dL_law_325 (by decide) ?_
    refine lv_iadd hx hb dL_law_326 ?_
    refine lv_topi (fun x163 ex163 => ?_)
    have tx163 := i_add ex163 (by omega)
    have ejx163 : x163.toNatClampNeg = i.toNatClampNeg + 2 := by have h1 := i_cl (x := x163) (by omega); have h2 := i_cl (x := i) (by omega); omega
    refine va_sld hx hb hX hbl (Nat.not_le.mpr hbl) hS (vp_in_iff.mpr (by omega)) dL_law_327 ?_
    refine W.eq (g2 := F0 m 328 ls [.int (xs (i.toNatClampNeg + 2)), .int (xs (i.toNatClampNeg + 1)), .ref a]) (congrArg (fun z => F0 m 328 ls [.int (xs z), .int (xs (i.toNatClampNeg + 1)), .ref a]) ejx163) ?_
    refine lv_aload_n hx hb dL_law_328 rfl (lv_at hl 3 rfl) ?_
    refine lv_iload_n hx hb dL_law_329 rfl (lv_at hl 0 rfl) ?_
    refine lv_iconst (v := 3) hx hb dL_law_330 (by decide) ?_
    refine lv_iadd hx hb dL_law_331 ?_
    refine lv_topi (fun x164 ex164 => ?_)
    have tx164 := i_add ex164 (by omega)
    have ejx164 : x164.toNatClampNeg = i.toNatClampNeg + 3 := by have h1 := i_cl (x := x164) (by omega); have h2 := i_cl (x := i) (by omega); omega
    refine va_sld hx hb hX hbl (Nat.not_le.mpr hbl) hS (vp_in_iff.mpr (by omega)) dL_law_332 ?_
    refine W.eq (g2 := F0 m 333 ls [.int (xs (i.toNatClampNeg + 3)), .int (xs (i.toNatClampNeg + 2)), .int (xs (i.toNatClampNeg + 1)), .ref a]) (congrArg (fun z => F0 m 333 ls [.int (xs z), .int (xs (i.toNatClampNeg + 2)), .int (xs (i.toNatClampNeg + 1)), .ref a]) ejx164) ?_
    refine x_V (As := [.int (xs (i.toNatClampNeg + 1)), .int (xs (i.toNatClampNeg + 2)), .int (xs (i.toNatClampNeg + 3))]) (rest := []) C (a_X9_of l K G H ((xs (i.toNatClampNeg + 1))) ((xs (i.toNatClampNeg + 2))) ((xs (i.toNatClampNeg + 3))) hT ga) yo_X9_of wM_L_28 ⟨⟨by decide, by decide⟩, show _ ≤ 284929 by omega, show _ ≤ 8247460 by omega⟩ (x_rv C hT (ci := 9) rfl ga rg_68) rfl hl.1 rfl (Nat.le_of_ble_eq_true rfl) dL_law_333 hS (AE_new hN hS.1) (fun vH165 H165 locsH165 pH165 zH165 kH165 hSH165 => ?_)
    obtain ⟨x166, hvH165, hTH165⟩ := pH165
    subst hvH165
    have g167 : CG (avw K H165 b) := CG.congr (fun k hk j => av_eff hT kH165 gb (by decide) (CG_eff [] (by decide) k hk)) cg
    have g168 : TU (avw K H165 b) (svw K H165 b) := TU.congr (fun k hk j => av_eff hT kH165 gb (by decide) (TU_eff [] (by decide) k hk)) (fun k hk => sv_eff hT kH165 gb (by decide)) tu
    have g169 : WD (avw K H165 b) := WD.congr (fun k hk j => av_eff hT kH165 gb (by decide) (WD_eff [] (by decide) k hk)) wd
    have g170 : IM (avw K H165 b) := IM.congr (fun k hk j => av_eff hT kH165 gb (by decide) (IM_eff [] (by decide) k hk)) im
    have f171 : ∀ j : Nat, fI H165 tq j = fI H tq j := fun j => (fI_kept (x_lt hT kH165 gtq (by decide))).trans (ft0 j)
    have f172 : ∀ j : Nat, fI H165 uq j = fI H uq j := fun j => (fI_kept (x_lt hT kH165 guq (by decide))).trans (fu0 j)
    have m173 := (ew).trans (fR_kept (x_lt hT kH165 ga (by decide))).symm
    have m174 := (eta).trans (fI_kept (x_lt hT kH165 ga (by decide))).symm
    have m175 := (etb).trans (fI_kept (x_lt hT kH165 gb (by decide))).symm
    have m176 := (es1).trans (fI_kept (x_lt hT kH165 gw (by decide))).symm
    have m177 := (ey1).trans (fI_kept (x_lt hT kH165 gb (by decide))).symm
    have m178 := (es4).trans (fI_kept (x_lt hT kH165 gw (by decide))).symm
    have m179 := (ey4).trans (fI_kept (x_lt hT kH165 gb (by decide))).symm
    have m180 := (es5).trans (fI_kept (x_lt hT kH165 gw (by decide))).symm
    have m181 := (ey5).trans (fI_kept (x_lt hT kH165 gb (by decide))).symm
    have m182 := (es10).trans (fI_kept (x_lt hT kH165 gw (by decide))).symm
    have m183 := (ey10).trans (fI_kept (x_lt hT kH165 gb (by decide))).symm
    have m184 := (es13).trans (fI_kept (x_lt hT kH165 gw (by decide))).symm
    have m185 := (ey13).trans (fI_kept (x_lt hT kH165 gb (by decide))).symm
    have m186 := (es16).trans (fI_kept (x_lt hT kH165 gw (by decide))).symm
    have m187 := (ey16).trans (fI_kept (x_lt hT kH165 gb (by decide))).symm
    have m188 := (etq).trans (fR_kept (x_lt hT kH165 ga (by decide))).symm
    have m189 := (euq).trans (fR_kept (x_lt hT kH165 gb (by decide))).symm
    have m190 := (ehi).trans (fI_kept (x_lt hT kH165 gb (by decide))).symm
    have m191 := (fV_kept (x_lt hT kH165 ga (by decide))).trans kn
    have m192 := (eiq).trans (fR_kept (x_lt hT kH165 gb (by decide))).symm
    have m193 := (ek1).trans (fI_kept (x_lt hT kH165 gkq (by decide))).symm
    have m194 := (ei1).trans (fI_kept (x_lt hT kH165 giq (by decide))).symm
    have m195 := (ek4).trans (fI_kept (x_lt hT kH165 gkq (by decide))).symm
    have m196 := (ei4).trans (fI_kept (x_lt hT kH165 giq (by decide))).symm
    have m197 := (ek5).trans (fI_kept (x_lt hT kH165 gkq (by decide))).symm
    have m198 := (ei5).trans (fI_kept (x_lt hT kH165 giq (by decide))).symm
    have m199 := (ek10).trans (fI_kept (x_lt hT kH165 gkq (by decide))).symm
    have m200 := (ei10).trans (fI_kept (x_lt hT kH165 giq (by decide))).symm
    have m201 := (ek13).trans (fI_kept (x_lt hT kH165 gkq (by decide))).symm
    have m202 := (ei13).trans (fI_kept (x_lt hT kH165 giq (by decide))).symm
    have m203 := (ek16).trans (fI_kept (x_lt hT kH165 gkq (by decide))).symm
    have m204 := (ei16).trans (fI_kept (x_lt hT kH165 giq (by decide))).symm
    refine W.eq (g2 := F0 m 336 ls [.int x166]) rfl ?_
    refine lv_pop hx hb dL_law_336 rfl ?_
    refine lv_aload_n hx hb dL_law_337 rfl (lv_at hl 1 rfl) ?_
    refine lv_aload_n hx hb dL_law_338 rfl (lv_at hl 3 rfl) ?_
    refine lv_iload_n hx hb dL_law_339 rfl (lv_at hl 0 rfl) ?_
    refine lv_iconst (v := 1) hx hb dL_law_340 (by decide) ?_
    refine lv_iadd hx hb dL_law_341 ?_
    refine lv_topi (fun x205 ex205 => ?_)
    have tx205 := i_add ex205 (by omega)
    have ejx205 : x205.toNatClampNeg = i.toNatClampNeg + 1 := by have h1 := i_cl (x := x205) (by omega); have h2 := i_cl (x := i) (by omega); omega
    refine va_sld hx hb hX hbl (Nat.not_le.mpr hbl) hSH165 (vp_in_iff.mpr (by omega)) dL_law_342 ?_
    refine W.eq (g2 := F0 m 343 ls [.int (xs (i.toNatClampNeg + 1)), .ref b]) (congrArg (fun z => F0 m 343 ls [.int (xs z), .ref b]) ejx205) ?_
    refine lv_aload_n hx hb dL_law_343 rfl (lv_at hl 3 rfl) ?_
    refine lv_iload_n hx hb dL_law_344 rfl (lv_at hl 0 rfl) ?_
    refine lv_iconst (v := 2) hx hb dL_law_345 (by decide) ?_
    refine lv_iadd hx hb dL_law_346 ?_
    refine lv_topi (fun x206 ex206 => ?_)
    have tx206 := i_add ex206 (by omega)
    have ejx206 : x206.toNatClampNeg = i.toNatClampNeg + 2 := by have h1 := i_cl (x := x206) (by omega); have h2 := i_cl (x := i) (by omega); omega
    refine va_sld hx hb hX hbl (Nat.not_le.mpr hbl) hSH165 (vp_in_iff.mpr (by omega)) dL_law_347 ?_
    refine W.eq (g2 := F0 m 348 ls [.int (xs (i.toNatClampNeg + 2)), .int (xs (i.toNatClampNeg + 1)), .ref b]) (congrArg (fun z => F0 m 348 ls [.int (xs z), .int (xs (i.toNatClampNeg + 1)), .ref b]) ejx206) ?_
    refine lv_aload_n hx hb dL_law_348 rfl (lv_at hl 3 rfl) ?_
    refine lv_iload_n hx hb dL_law_349 rfl (lv_at hl 0 rfl) ?_
    refine lv_iconst (v := 3) hx hb dL_law_350 (by decide) ?_
    refine lv_iadd hx hb dL_law_351 ?_
    refine lv_topi (fun x207 ex207 => ?_)
    have tx207 := i_add ex207 (by omega)
    have ejx207 : x207.toNatClampNeg = i.toNatClampNeg + 3 := by have h1 := i_cl (x := x207) (by omega); have h2 := i_cl (x := i) (by omega); omega
    refine va_sld hx hb hX hbl (Nat.not_le.mpr hbl) hSH165 (vp_in_iff.mpr (by omega)) dL_law_352 ?_
    refine W.eq (g2 := F0 m 353 ls [.int (xs (i.toNatClampNeg + 3)), .int (xs (i.toNatClampNeg + 2)), .int (xs (i.toNatClampNeg + 1)), .ref b]) (congrArg (fun z => F0 m 353 ls [.int (xs z), .int (xs (i.toNatClampNeg + 2)), .int (xs (i.toNatClampNeg + 1)), .ref b]) ejx207) ?_
    refine x_V (As := [.int (xs (i.toNatClampNeg + 1)), .int (xs (i.toNatClampNeg + 2)), .int (xs (i.toNatClampNeg + 3))]) (rest := []) C (a_X10_of l K G H165 ((xs (i.toNatClampNeg + 1))) ((xs (i.toNatClampNeg + 2))) ((xs (i.toNatClampNeg + 3))) hTH165 gb g167 g168 g169 g170) yo_X10_of wM_L_32 ⟨⟨by decide, by decide⟩, show _ ≤ 284929 by omega, show _ ≤ 8247460 by omega⟩ (x_rv C hTH165 (ci := 10) rfl gb rg_112) rfl hl.1 rfl (Nat.le_of_ble_eq_true rfl) dL_law_353 hSH165 (AE_new hN hSH165.1) (fun vH208 H208 locsH208 pH208 zH208 kH208 hSH208 => ?_)
    obtain ⟨x209, hvH208, g210, g211, g212, g213, mf214, hTH208⟩ := pH208
    subst hvH208
    have f215 : ∀ j : Nat, fI H208 tq j = fI H tq j := fun j => (fI_kept (x_lt hTH165 kH208 gtq (by decide))).trans (f171 j)
    have f216 : ∀ j : Nat, fI H208 uq j = fI H uq j := fun j => (fI_kept (x_lt hTH165 kH208 guq (by decide))).trans (f172 j)
    have m217 := (m173).trans (fR_kept (x_lt hTH165 kH208 ga (by decide))).symm
    have m218 := (m174).trans (fI_kept (x_lt hTH165 kH208 ga (by decide))).symm
    have m219 := (m176).trans (fI_kept (x_lt hTH165 kH208 gw (by decide))).symm
    have m220 := (m178).trans (fI_kept (x_lt hTH165 kH208 gw (by decide))).symm
    have m221 := (m180).trans (fI_kept (x_lt hTH165 kH208 gw (by decide))).symm
    have m222 := (m182).trans (fI_kept (x_lt hTH165 kH208 gw (by decide))).symm
    have m223 := (m184).trans (fI_kept (x_lt hTH165 kH208 gw (by decide))).symm
    have m224 := (m186).trans (fI_kept (x_lt hTH165 kH208 gw (by decide))).symm
    have m225 := (m188).trans (fR_kept (x_lt hTH165 kH208 ga (by decide))).symm
    have m226 := (fV_kept (x_lt hTH165 kH208 ga (by decide))).trans m191
    have m227 := (m193).trans (fI_kept (x_lt hTH165 kH208 gkq (by decide))).symm
    have m228 := (m194).trans (fI_kept (x_lt hTH165 kH208 giq (by decide))).symm
    have m229 := (m195).trans (fI_kept (x_lt hTH165 kH208 gkq (by decide))).symm
    have m230 := (m196).trans (fI_kept (x_lt hTH165 kH208 giq (by decide))).symm
    have m231 := (m197).trans (fI_kept (x_lt hTH165 kH208 gkq (by decide))).symm
    have m232 := (m198).trans (fI_kept (x_lt hTH165 kH208 giq (by decide))).symm
    have m233 := (m199).trans (fI_kept (x_lt hTH165 kH208 gkq (by decide))).symm
    have m234 := (m200).trans (fI_kept (x_lt hTH165 kH208 giq (by decide))).symm
    have m235 := (m201).trans (fI_kept (x_lt hTH165 kH208 gkq (by decide))).symm
    have m236 := (m202).trans (fI_kept (x_lt hTH165 kH208 giq (by decide))).symm
    have m237 := (m203).trans (fI_kept (x_lt hTH165 kH208 gkq (by decide))).symm
    have m238 := (m204).trans (fI_kept (x_lt hTH165 kH208 giq (by decide))).symm
    have m239 := (m175).trans (MF.i mf214 (k := 18) (by decide) (by decide)).symm
    have m240 := (m177).trans (MF.i mf214 (k := 1) (by decide) (by decide)).symm
    have m241 := (m179).trans (MF.i mf214 (k := 2) (by decide) (by decide)).symm
    have m242 := (m181).trans (MF.i mf214 (k := 3) (by decide) (by decide)).symm
    have m243 := (m183).trans (MF.i mf214 (k := 59) (by decide) (by decide)).symm
    have m244 := (m185).trans (MF.i mf214 (k := 62) (by decide) (by decide)).symm
    have m245 := (m187).trans (MF.i mf214 (k := 65) (by decide) (by decide)).symm
    have m246 := (m189).trans (MF.r mf214 (k := 17) (by decide) (by decide)).symm
    have m247 := (m190).trans (MF.i mf214 (k := 70) (by decide) (by decide)).symm
    have m248 := (m192).trans (MF.r mf214 (k := 73) (by decide) (by decide)).symm
    refine W.eq (g2 := F0 m 356 ls [.int x209]) rfl ?_
    refine lv_pop hx hb dL_law_356 rfl ?_
    refine lv_goto (tgt := 1509) hx hb dL_law_357 (by decide) ?_
    exact nx G H208 locsH208 _ _ ls ⟨hTH208, hN, ga, gb, g210, g211, g212, g213, ⟨(by rw [← m218, ← m239]; omega), (by rw [← m217, ← m219, ← m240]; omega), (by rw [← m217, ← m220, ← m241]; omega), (by rw [← m217, ← m221, ← m242]; omega), (by rw [← m217, ← m222, ← m243]; omega), (by rw [← m217, ← m223, ← m244]; omega), (by rw [← m217, ← m224, ← m245]; omega)⟩, Or.inr ⟨kq, m226, gkq, (by rw [← m247]; omega), (by rw [← m227, ← m248, ← m228]; omega), (by rw [← m229, ← m248, ← m230]; omega), (by rw [← m231, ← m248, ← m232]; omega), (by rw [← m233, ← m248, ← m234]; omega), (by rw [← m235, ← m248, ← m236]; omega), (by rw [← m237, ← m248, ← m238]; omega)⟩, (by unfold TB; rw [← m225, ← m246, ← m239]; exact TBR.of htr f215 f216 (by omega)), hSH208⟩ hl ⟨by omega, by omega, fun h => by have h1 := h.symm.trans m226; cases h1⟩
set_option maxRecDepth 100000 in
set_option maxHeartbeats 8000000 in
theorem lw_c4 {p : Program} {l : Launch} {e : Env} {s : State} {m : MethodId} {below : List Frame} {meth : Method} {c : Code} {K : KE} {b0 L : Nat} {xs : Nat → Int32} {G : Nat → Option Nat} {H : Heap} {locs : List Loc} {a b : Nat} {cells slots : Nat} {ls : Array Slot} {i : Int32} {n : Nat} (D : LC p K s m meth c b0 L xs) (S : SX K s G H locs a b) (hl : lv_has ls 4 [(3, .int i), (2, .ref b), (1, .ref a), (0, .ref b0)]) (hi : 0 ≤ i.toInt ∧ i.toInt + 6 ≤ L) (hn : n ≤ 511) (hB : BD K H a cells slots) (nx : ∀ (G : Nat → Option Nat) (H : Heap) (locs : List Loc) (cells slots : Nat) (ls : Array Slot), SX K s G H locs a b → lv_has ls 4 [(3, .int i), (2, .ref b), (1, .ref a), (0, .ref b0)] → BD K H a cells slots → W p l e room_1 s m #[Value.ref b0] below meth c H locs cells slots (lw_Z below #[Value.ref b0] s) (F0 m 1509 ls [])) : W p l e room_1 s m #[Value.ref b0] below meth c H locs cells slots (lw_Z below #[Value.ref b0] s) (F0 m 360 ls []) := by
  obtain ⟨C, hX, hbl, hL⟩ := id D
  obtain ⟨hx, hb, hml, hown, hts, hKT, hr, hlocks, hnm⟩ := id C
  obtain ⟨hT, hN, ga, gb, cg, tu, wd, im, ⟨rt, r1, r4, r5, r10, r13, r16⟩, hk, htb, hS⟩ := S
  obtain ⟨hc, hs, hB0⟩ := hB
  have n_1 : (1 : Int32).toInt = 1 := rfl
  have n_2 : (2 : Int32).toInt = 2 := rfl
  have n_3 : (3 : Int32).toInt = 3 := rfl
  have n_4 : (4 : Int32).toInt = 4 := rfl
  have n_5 : (5 : Int32).toInt = 5 := rfl
  obtain ⟨w, ew⟩ : ∃ z : Nat, z = fR H a (K.1.2 9 0) := ⟨_, rfl⟩
  have gw := ty_fr (q := w) (k := 0) (u := 0) ew hT ga rg_68 rfl
  rw [← ew] at r1 r4 r5 r10 r13 r16
  obtain ⟨ta, eta⟩ : ∃ z : Int32, z = fI H a (K.1.2 9 3) := ⟨_, rfl⟩
  rw [← eta] at rt
  obtain ⟨tb, etb⟩ : ∃ z : Int32, z = fI H b (K.1.2 10 18) := ⟨_, rfl⟩
  rw [← etb] at rt
  obtain ⟨s1, es1⟩ : ∃ z : Int32, z = fI H w (K.1.2 8 1) := ⟨_, rfl⟩
  rw [← es1] at r1
  obtain ⟨y1, ey1⟩ : ∃ z : Int32, z = fI H b (K.1.2 10 1) := ⟨_, rfl⟩
  rw [← ey1] at r1
  obtain ⟨s4, es4⟩ : ∃ z : Int32, z = fI H w (K.1.2 8 4) := ⟨_, rfl⟩
  rw [← es4] at r4
  obtain ⟨y4, ey4⟩ : ∃ z : Int32, z = fI H b (K.1.2 10 2) := ⟨_, rfl⟩
  rw [← ey4] at r4
  obtain ⟨s5, es5⟩ : ∃ z : Int32, z = fI H w (K.1.2 8 5) := ⟨_, rfl⟩
  rw [← es5] at r5
  obtain ⟨y5, ey5⟩ : ∃ z : Int32, z = fI H b (K.1.2 10 3) := ⟨_, rfl⟩
  rw [← ey5] at r5
  obtain ⟨s10, es10⟩ : ∃ z : Int32, z = fI H w (K.1.2 8 10) := ⟨_, rfl⟩
  rw [← es10] at r10
  obtain ⟨y10, ey10⟩ : ∃ z : Int32, z = fI H b (K.1.2 10 59) := ⟨_, rfl⟩
  rw [← ey10] at r10
  obtain ⟨s13, es13⟩ : ∃ z : Int32, z = fI H w (K.1.2 8 13) := ⟨_, rfl⟩
  rw [← es13] at r13
  obtain ⟨y13, ey13⟩ : ∃ z : Int32, z = fI H b (K.1.2 10 62) := ⟨_, rfl⟩
  rw [← ey13] at r13
  obtain ⟨s16, es16⟩ : ∃ z : Int32, z = fI H w (K.1.2 8 16) := ⟨_, rfl⟩
  rw [← es16] at r16
  obtain ⟨y16, ey16⟩ : ∃ z : Int32, z = fI H b (K.1.2 10 65) := ⟨_, rfl⟩
  rw [← ey16] at r16
  obtain ⟨tq, etq⟩ : ∃ z : Nat, z = fR H a (K.1.2 9 2) := ⟨_, rfl⟩
  have gtq := ty_fr (q := tq) (k := 2) (u := 108) etq hT ga rg_68 rfl
  obtain ⟨uq, euq⟩ : ∃ z : Nat, z = fR H b (K.1.2 10 17) := ⟨_, rfl⟩
  have guq := ty_fr (q := uq) (k := 17) (u := 126) euq hT gb rg_112 rfl
  have htr : TBR (fun j => fI H tq j) (fun j => fI H uq j) tb.toNatClampNeg := by rw [etq, euq, etb]; exact htb
  have ft0 : ∀ j : Nat, fI H tq j = fI H tq j := fun _ => rfl
  have fu0 : ∀ j : Nat, fI H uq j = fI H uq j := fun _ => rfl
  have bta := ty_fi (x := ta) (k := 3) eta hT ga rg_68 rfl
  have cta := i_cl (x := ta) (by omega)
  have btb := ty_fi (x := tb) (k := 18) etb hT gb rg_112 rfl
  have ctb := i_cl (x := tb) (by omega)
  rcases hk with ⟨kn, h70⟩ | ⟨kq, kn, gkq, h70, q1, q4, q5, q10, q13, q16⟩
  · skip
    obtain ⟨hi, ehi⟩ : ∃ z : Int32, z = fI H b (K.1.2 10 70) := ⟨_, rfl⟩
    rw [← ehi] at h70
    obtain ⟨hc0, hs0⟩ := hB0 kn
    refine lv_aload_n hx hb dL_law_360 rfl (lv_at hl 2 rfl) ?_
    refine lv_aload_n hx hb dL_law_361 rfl (lv_at hl 3 rfl) ?_
    refine lv_iload_n hx hb dL_law_362 rfl (lv_at hl 0 rfl) ?_
    refine lv_iconst (v := 1) hx hb dL_law_363 (by decide) ?_
    refine lv_iadd hx hb dL_law_364 ?_
    refine lv_topi (fun x101 ex101 => ?_)
    have tx101 := i_add ex101 (by omega)
    have ejx101 : x101.toNatClampNeg = i.toNatClampNeg + 1 := by have h1 := i_cl (x := x101) (by omega); have h2 := i_cl (x := i) (by omega); omega
    refine va_sld hx hb hX hbl (Nat.not_le.mpr hbl) hS (vp_in_iff.mpr (by omega)) dL_law_365 ?_
    refine W.eq (g2 := F0 m 366 ls [.int (xs (i.toNatClampNeg + 1)), .ref a]) (congrArg (fun z => F0 m 366 ls [.int (xs z), .ref a]) ejx101) ?_
    refine lv_aload_n hx hb dL_law_366 rfl (lv_at hl 3 rfl) ?_
    refine lv_iload_n hx hb dL_law_367 rfl (lv_at hl 0 rfl) ?_
    refine lv_iconst (v := 2) hx hb dL_law_368 (by decide) ?_
    refine lv_iadd hx hb dL_law_369 ?_
    refine lv_topi (fun x102 ex102 => ?_)
    have tx102 := i_add ex102 (by omega)
    have ejx102 : x102.toNatClampNeg = i.toNatClampNeg + 2 := by have h1 := i_cl (x := x102) (by omega); have h2 := i_cl (x := i) (by omega); omega
    refine va_sld hx hb hX hbl (Nat.not_le.mpr hbl) hS (vp_in_iff.mpr (by omega)) dL_law_370 ?_
    refine W.eq (g2 := F0 m 371 ls [.int (xs (i.toNatClampNeg + 2)), .int (xs (i.toNatClampNeg + 1)), .ref a]) (congrArg (fun z => F0 m 371 ls [.int (xs z), .int (xs (i.toNatClampNeg + 1)), .ref a]) ejx102) ?_
    refine lv_aload_n hx hb dL_law_371 rfl (lv_at hl 3 rfl) ?_
    refine lv_iload_n hx hb dL_law_372 rfl (lv_at hl 0 rfl) ?_
    refine lv_iconst (v := 3) hx hb dL_law_373 (by decide) ?_
    refine lv_iadd hx hb dL_law_374 ?_
    refine lv_topi (fun x103 ex103 => ?_)
    have tx103 := i_add ex103 (by omega)
    have ejx103 : x103.toNatClampNeg = i.toNatClampNeg + 3 := by have h1 := i_cl (x := x103) (by omega); have h2 := i_cl (x := i) (by omega); omega
    refine va_sld hx hb hX hbl (Nat.not_le.mpr hbl) hS (vp_in_iff.mpr (by omega)) dL_law_375 ?_
    refine W.eq (g2 := F0 m 376 ls [.int (xs (i.toNatClampNeg + 3)), .int (xs (i.toNatClampNeg + 2)), .int (xs (i.toNatClampNeg + 1)), .ref a]) (congrArg (fun z => F0 m 376 ls [.int (xs z), .int (xs (i.toNatClampNeg + 2)), .int (xs (i.toNatClampNeg + 1)), .ref a]) ejx103) ?_
    refine lv_aload_n hx hb dL_law_376 rfl (lv_at hl 3 rfl) ?_
    refine lv_iload_n hx hb dL_law_377 rfl (lv_at hl 0 rfl) ?_
    refine lv_iconst (v := 4) hx hb dL_law_378 (by decide) ?_
    refine lv_iadd hx hb dL_law_379 ?_
    refine lv_topi (fun x104 ex104 => ?_)
    have tx104 := i_add ex104 (by omega)
    have ejx104 : x104.toNatClampNeg = i.toNatClampNeg + 4 := by have h1 := i_cl (x := x104) (by omega); have h2 := i_cl (x := i) (by omega); omega
    refine va_sld hx hb hX hbl (Nat.not_le.mpr hbl) hS (vp_in_iff.mpr (by omega)) dL_law_380 ?_
    refine W.eq (g2 := F0 m 381 ls [.int (xs (i.toNatClampNeg + 4)), .int (xs (i.toNatClampNeg + 3)), .int (xs (i.toNatClampNeg + 2)), .int (xs (i.toNatClampNeg + 1)), .ref a]) (congrArg (fun z => F0 m 381 ls [.int (xs z), .int (xs (i.toNatClampNeg + 3)), .int (xs (i.toNatClampNeg + 2)), .int (xs (i.toNatClampNeg + 1)), .ref a]) ejx104) ?_
    refine lv_aload_n hx hb dL_law_381 rfl (lv_at hl 3 rfl) ?_
    refine lv_iload_n hx hb dL_law_382 rfl (lv_at hl 0 rfl) ?_
    refine lv_iconst (v := 5) hx hb dL_law_383 (by decide) ?_
    refine lv_iadd hx hb dL_law_384 ?_
    refine lv_topi (fun x105 ex105 => ?_)
    have tx105 := i_add ex105 (by omega)
    have ejx105 : x105.toNatClampNeg = i.toNatClampNeg + 5 := by have h1 := i_cl (x := x105) (by omega); have h2 := i_cl (x := i) (by omega); omega
    refine va_sld hx hb hX hbl (Nat.not_le.mpr hbl) hS (vp_in_iff.mpr (by omega)) dL_law_385 ?_
    refine W.eq (g2 := F0 m 386 ls [.int (xs (i.toNatClampNeg + 5)), .int (xs (i.toNatClampNeg + 4)), .int (xs (i.toNatClampNeg + 3)), .int (xs (i.toNatClampNeg + 2)), .int (xs (i.toNatClampNeg + 1)), .ref a]) (congrArg (fun z => F0 m 386 ls [.int (xs z), .int (xs (i.toNatClampNeg + 4)), .int (xs (i.toNatClampNeg + 3)), .int (xs (i.toNatClampNeg + 2)), .int (xs (i.toNatClampNeg + 1)), .ref a]) ejx105) ?_
    refine x_V (As := [.int (xs (i.toNatClampNeg + 1)), .int (xs (i.toNatClampNeg + 2)), .int (xs (i.toNatClampNeg + 3)), .int (xs (i.toNatClampNeg + 4)), .int (xs (i.toNatClampNeg + 5))]) (rest := []) C (a_X9_feed_b l K G H ((xs (i.toNatClampNeg + 1))) ((xs (i.toNatClampNeg + 2))) ((xs (i.toNatClampNeg + 3))) ((xs (i.toNatClampNeg + 4))) ((xs (i.toNatClampNeg + 5))) (ta) hT ga gw ew gtq etq eta kn) yo_X9_feed wM_L_33 ⟨⟨by decide, by decide⟩, show _ ≤ 284929 by omega, show _ ≤ 8247460 by omega⟩ (x_rv C hT (ci := 9) rfl ga rg_68) rfl hl.1 rfl (Nat.le_of_ble_eq_true rfl) dL_law_386 hS (AE_new hN hS.1) (fun vH106 H106 locsH106 pH106 zH106 kH106 hSH106 => ?_)
    obtain ⟨x107, x108, hvH106, ex108, hrH106, m109, m110, m111, m112, hTH106⟩ := pH106
    subst hvH106
    have g113 : CG (avw K H106 b) := CG.congr (fun k hk j => av_eff hT kH106 gb (by decide) (CG_eff [68, 108] (by decide) k hk)) cg
    have g114 : TU (avw K H106 b) (svw K H106 b) := TU.congr (fun k hk j => av_eff hT kH106 gb (by decide) (TU_eff [68, 108] (by decide) k hk)) (fun k hk => sv_eff hT kH106 gb (by decide)) tu
    have g115 : WD (avw K H106 b) := WD.congr (fun k hk j => av_eff hT kH106 gb (by decide) (WD_eff [68, 108] (by decide) k hk)) wd
    have g116 : IM (avw K H106 b) := IM.congr (fun k hk j => av_eff hT kH106 gb (by decide) (IM_eff [68, 108] (by decide) k hk)) im
    have f117 : ∀ j : Nat, fI H106 uq j = fI H uq j := fun j => (fI_kept (x_lt hT kH106 guq (by decide))).trans (fu0 j)
    have m118 := (etb).trans (fI_kept (x_lt hT kH106 gb (by decide))).symm
    have m119 := (es1).trans (fI_kept (x_lt hT kH106 gw (by decide))).symm
    have m120 := (ey1).trans (fI_kept (x_lt hT kH106 gb (by decide))).symm
    have m121 := (es4).trans (fI_kept (x_lt hT kH106 gw (by decide))).symm
    have m122 := (ey4).trans (fI_kept (x_lt hT kH106 gb (by decide))).symm
    have m123 := (es5).trans (fI_kept (x_lt hT kH106 gw (by decide))).symm
    have m124 := (ey5).trans (fI_kept (x_lt hT kH106 gb (by decide))).symm
    have m125 := (es10).trans (fI_kept (x_lt hT kH106 gw (by decide))).symm
    have m126 := (ey10).trans (fI_kept (x_lt hT kH106 gb (by decide))).symm
    have m127 := (es13).trans (fI_kept (x_lt hT kH106 gw (by decide))).symm
    have m128 := (ey13).trans (fI_kept (x_lt hT kH106 gb (by decide))).symm
    have m129 := (es16).trans (fI_kept (x_lt hT kH106 gw (by decide))).symm
    have m130 := (ey16).trans (fI_kept (x_lt hT kH106 gb (by decide))).symm
    have m131 := (euq).trans (fR_kept (x_lt hT kH106 gb (by decide))).symm
    have m132 := (ehi).trans (fI_kept (x_lt hT kH106 gb (by decide))).symm
    have bx108 := ty_fi (x := x108) (k := 3) ex108 hTH106 ga rg_68 rfl
    refine W.eq (g2 := F0 m 389 ls [.int x107]) rfl ?_
    have f133 : ∀ j : Nat, fI H106 tq j = fdX ((xs (i.toNatClampNeg + 1))) ((xs (i.toNatClampNeg + 2))) ((xs (i.toNatClampNeg + 3))) ((xs (i.toNatClampNeg + 4))) ((xs (i.toNatClampNeg + 5))) ta (fun j => fI H tq j) j := fun j => (m111 j).trans (fdX_c ft0 j)
    refine lv_pop hx hb dL_law_389 rfl ?_
    refine lv_aload_n hx hb dL_law_390 rfl (lv_at hl 1 rfl) ?_
    refine lv_aload_n hx hb dL_law_391 rfl (lv_at hl 3 rfl) ?_
    refine lv_iload_n hx hb dL_law_392 rfl (lv_at hl 0 rfl) ?_
    refine lv_iconst (v := 1) hx hb dL_law_393 (by decide) ?_
    refine lv_iadd hx hb dL_law_394 ?_
    refine lv_topi (fun x134 ex134 => ?_)
    have tx134 := i_add ex134 (by omega)
    have ejx134 : x134.toNatClampNeg = i.toNatClampNeg + 1 := by have h1 := i_cl (x := x134) (by omega); have h2 := i_cl (x := i) (by omega); omega
    refine va_sld hx hb hX hbl (Nat.not_le.mpr hbl) hSH106 (vp_in_iff.mpr (by omega)) dL_law_395 ?_
    refine W.eq (g2 := F0 m 396 ls [.int (xs (i.toNatClampNeg + 1)), .ref b]) (congrArg (fun z => F0 m 396 ls [.int (xs z), .ref b]) ejx134) ?_
    refine lv_aload_n hx hb dL_law_396 rfl (lv_at hl 3 rfl) ?_
    refine lv_iload_n hx hb dL_law_397 rfl (lv_at hl 0 rfl) ?_
    refine lv_iconst (v := 2) hx hb dL_law_398 (by decide) ?_
    refine lv_iadd hx hb dL_law_399 ?_
    refine lv_topi (fun x135 ex135 => ?_)
    have tx135 := i_add ex135 (by omega)
    have ejx135 : x135.toNatClampNeg = i.toNatClampNeg + 2 := by have h1 := i_cl (x := x135) (by omega); have h2 := i_cl (x := i) (by omega); omega
    refine va_sld hx hb hX hbl (Nat.not_le.mpr hbl) hSH106 (vp_in_iff.mpr (by omega)) dL_law_400 ?_
    refine W.eq (g2 := F0 m 401 ls [.int (xs (i.toNatClampNeg + 2)), .int (xs (i.toNatClampNeg + 1)), .ref b]) (congrArg (fun z => F0 m 401 ls [.int (xs z), .int (xs (i.toNatClampNeg + 1)), .ref b]) ejx135) ?_
    refine lv_aload_n hx hb dL_law_401 rfl (lv_at hl 3 rfl) ?_
    refine lv_iload_n hx hb dL_law_402 rfl (lv_at hl 0 rfl) ?_
    refine lv_iconst (v := 3) hx hb dL_law_403 (by decide) ?_
    refine lv_iadd hx hb dL_law_404 ?_
    refine lv_topi (fun x136 ex136 => ?_)
    have tx136 := i_add ex136 (by omega)
    have ejx136 : x136.toNatClampNeg = i.toNatClampNeg + 3 := by have h1 := i_cl (x := x136) (by omega); have h2 := i_cl (x := i) (by omega); omega
    refine va_sld hx hb hX hbl (Nat.not_le.mpr hbl) hSH106 (vp_in_iff.mpr (by omega)) dL_law_405 ?_
    refine W.eq (g2 := F0 m 406 ls [.int (xs (i.toNatClampNeg + 3)), .int (xs (i.toNatClampNeg + 2)), .int (xs (i.toNatClampNeg + 1)), .ref b]) (congrArg (fun z => F0 m 406 ls [.int (xs z), .int (xs (i.toNatClampNeg + 2)), .int (xs (i.toNatClampNeg + 1)), .ref b]) ejx136) ?_
    refine lv_aload_n hx hb dL_law_406 rfl (lv_at hl 3 rfl) ?_
    refine lv_iload_n hx hb dL_law_407 rfl (lv_at hl 0 rfl) ?_
    refine lv_iconst (v := 4) hx hb dL_law_408 (by decide) ?_
    refine lv_iadd hx hb dL_law_409 ?_
    refine lv_topi (fun x137 ex137 => ?_)
    have tx137 := i_add ex137 (by omega)
    have ejx137 : x137.toNatClampNeg = i.toNatClampNeg + 4 := by have h1 := i_cl (x := x137) (by omega); have h2 := i_cl (x := i) (by omega); omega
    refine va_sld hx hb hX hbl (Nat.not_le.mpr hbl) hSH106 (vp_in_iff.mpr (by omega)) dL_law_410 ?_
    refine W.eq (g2 := F0 m 411 ls [.int (xs (i.toNatClampNeg + 4)), .int (xs (i.toNatClampNeg + 3)), .int (xs (i.toNatClampNeg + 2)), .int (xs (i.toNatClampNeg + 1)), .ref b]) (congrArg (fun z => F0 m 411 ls [.int (xs z), .int (xs (i.toNatClampNeg + 3)), .int (xs (i.toNatClampNeg + 2)), .int (xs (i.toNatClampNeg + 1)), .ref b]) ejx137) ?_
    refine lv_aload_n hx hb dL_law_411 rfl (lv_at hl 3 rfl) ?_
    refine lv_iload_n hx hb dL_law_412 rfl (lv_at hl 0 rfl) ?_
    refine lv_iconst (v := 5) hx hb dL_law_413 (by decide) ?_
    refine lv_iadd hx hb dL_law_414 ?_
    refine lv_topi (fun x138 ex138 => ?_)
    have tx138 := i_add ex138 (by omega)
    have ejx138 : x138.toNatClampNeg = i.toNatClampNeg + 5 := by have h1 := i_cl (x := x138) (by omega); have h2 := i_cl (x := i) (by omega); omega
    refine va_sld hx hb hX hbl (Nat.not_le.mpr hbl) hSH106 (vp_in_iff.mpr (by omega)) dL_law_415 ?_
    refine W.eq (g2 := F0 m 416 ls [.int (xs (i.toNatClampNeg + 5)), .int (xs (i.toNatClampNeg + 4)), .int (xs (i.toNatClampNeg + 3)), .int (xs (i.toNatClampNeg + 2)), .int (xs (i.toNatClampNeg + 1)), .ref b]) (congrArg (fun z => F0 m 416 ls [.int (xs z), .int (xs (i.toNatClampNeg + 4)), .int (xs (i.toNatClampNeg + 3)), .int (xs (i.toNatClampNeg + 2)), .int (xs (i.toNatClampNeg + 1)), .ref b]) ejx138) ?_
    refine x_V (As := [.int (xs (i.toNatClampNeg + 1)), .int (xs (i.toNatClampNeg + 2)), .int (xs (i.toNatClampNeg + 3)), .int (xs (i.toNatClampNeg + 4)), .int (xs (i.toNatClampNeg + 5))]) (rest := []) C (a_X10_feed_b l K G H106 ((xs (i.toNatClampNeg + 1))) ((xs (i.toNatClampNeg + 2))) ((xs (i.toNatClampNeg + 3))) ((xs (i.toNatClampNeg + 4))) ((xs (i.toNatClampNeg + 5))) (tb) hTH106 gb guq m131 m118 g113 g114 g115 g116) yo_X10_feed wM_L_37 ⟨⟨by decide, by decide⟩, show _ ≤ 284929 by omega, show _ ≤ 8247460 by omega⟩ (x_rv C hTH106 (ci := 10) rfl gb rg_112) rfl hl.1 rfl (Nat.le_of_ble_eq_true rfl) dL_law_416 hSH106 (AE_new hN hSH106.1) (fun vH139 H139 locsH139 pH139 zH139 kH139 hSH139 => ?_)
    obtain ⟨x140, x141, hvH139, ex141, hrH139, m142, g143, g144, g145, g146, mf147, m148, hTH139⟩ := pH139
    subst hvH139
    have f149 : ∀ j : Nat, fI H139 tq j = fdX ((xs (i.toNatClampNeg + 1))) ((xs (i.toNatClampNeg + 2))) ((xs (i.toNatClampNeg + 3))) ((xs (i.toNatClampNeg + 4))) ((xs (i.toNatClampNeg + 5))) ta (fun j => fI H tq j) j := fun j => (fI_kept (x_lt hTH106 kH139 gtq (by decide))).trans (f133 j)
    have m150 := (m119).trans (fI_kept (x_lt hTH106 kH139 gw (by decide))).symm
    have m151 := (m121).trans (fI_kept (x_lt hTH106 kH139 gw (by decide))).symm
    have m152 := (m123).trans (fI_kept (x_lt hTH106 kH139 gw (by decide))).symm
    have m153 := (m125).trans (fI_kept (x_lt hTH106 kH139 gw (by decide))).symm
    have m154 := (m127).trans (fI_kept (x_lt hTH106 kH139 gw (by decide))).symm
    have m155 := (m129).trans (fI_kept (x_lt hTH106 kH139 gw (by decide))).symm
    have m156 := (m109).trans (fR_kept (x_lt hTH106 kH139 ga (by decide))).symm
    have m157 := (m110).trans (fR_kept (x_lt hTH106 kH139 ga (by decide))).symm
    have m158 := (fV_kept (x_lt hTH106 kH139 ga (by decide))).trans m112
    have m159 := (ex108).trans (fI_kept (x_lt hTH106 kH139 ga (by decide))).symm
    have m160 := (m120).trans (MF.i mf147 (k := 1) (by decide) (by decide)).symm
    have m161 := (m122).trans (MF.i mf147 (k := 2) (by decide) (by decide)).symm
    have m162 := (m124).trans (MF.i mf147 (k := 3) (by decide) (by decide)).symm
    have m163 := (m126).trans (MF.i mf147 (k := 59) (by decide) (by decide)).symm
    have m164 := (m128).trans (MF.i mf147 (k := 62) (by decide) (by decide)).symm
    have m165 := (m130).trans (MF.i mf147 (k := 65) (by decide) (by decide)).symm
    have m166 := (m131).trans (MF.r mf147 (k := 17) (by decide) (by decide)).symm
    have m167 := (m132).trans (MF.i mf147 (k := 70) (by decide) (by decide)).symm
    have bx141 := ty_fi (x := x141) (k := 18) ex141 hTH139 gb rg_112 rfl
    refine W.eq (g2 := F0 m 419 ls [.int x140]) rfl ?_
    have f168 : ∀ j : Nat, fI H139 uq j = fdX ((xs (i.toNatClampNeg + 1))) ((xs (i.toNatClampNeg + 2))) ((xs (i.toNatClampNeg + 3))) ((xs (i.toNatClampNeg + 4))) ((xs (i.toNatClampNeg + 5))) tb (fun j => fI H uq j) j := fun j => (m148 j).trans (fdX_c f117 j)
    refine lv_pop hx hb dL_law_419 rfl ?_
    refine lv_goto (tgt := 1509) hx hb dL_law_420 (by decide) ?_
    have cfin := i_cl (x := x141) (by omega)
    have htf : TBR (fun j => fdX ((xs (i.toNatClampNeg + 1))) ((xs (i.toNatClampNeg + 2))) ((xs (i.toNatClampNeg + 3))) ((xs (i.toNatClampNeg + 4))) ((xs (i.toNatClampNeg + 5))) ta (fun j => fI H tq j) j) (fun j => fdX ((xs (i.toNatClampNeg + 1))) ((xs (i.toNatClampNeg + 2))) ((xs (i.toNatClampNeg + 3))) ((xs (i.toNatClampNeg + 4))) ((xs (i.toNatClampNeg + 5))) tb (fun j => fI H uq j) j) x141.toNatClampNeg := TBR.fx htr (by omega) (by omega)
    exact nx G H139 locsH139 _ _ ls ⟨hTH139, hN, ga, gb, g143, g144, g145, g146, ⟨(by rw [← m159, ← ex141]; omega), (by rw [← m156, ← m150, ← m160]; omega), (by rw [← m156, ← m151, ← m161]; omega), (by rw [← m156, ← m152, ← m162]; omega), (by rw [← m156, ← m153, ← m163]; omega), (by rw [← m156, ← m154, ← m164]; omega), (by rw [← m156, ← m155, ← m165]; omega)⟩, Or.inl ⟨m158, (by rw [← m167]; omega)⟩, (by unfold TB; rw [← m157, ← m142, ← ex141]; exact TBR.of htf f149 f168 (by omega)), hSH139⟩ hl ⟨by omega, by omega, fun _ => ⟨by omega, by omega⟩⟩
  · skip
    obtain ⟨hi, ehi⟩ : ∃ z : Int32, z = fI H b (K.1.2 10 70) := ⟨_, rfl⟩
    rw [← ehi] at h70
    obtain ⟨iq, eiq⟩ : ∃ z : Nat, z = fR H b (K.1.2 10 73) := ⟨_, rfl⟩
    have giq := ty_fr (q := iq) (k := 73) (u := 162) eiq hT gb rg_112 rfl
    rw [← eiq] at q1 q4 q5 q10 q13 q16
    obtain ⟨k1, ek1⟩ : ∃ z : Int32, z = fI H kq (K.1.2 8 1) := ⟨_, rfl⟩
    rw [← ek1] at q1
    obtain ⟨i1, ei1⟩ : ∃ z : Int32, z = fI H iq ((0 : Int32).toNatClampNeg) := ⟨_, rfl⟩
    rw [← ei1] at q1
    obtain ⟨k4, ek4⟩ : ∃ z : Int32, z = fI H kq (K.1.2 8 4) := ⟨_, rfl⟩
    rw [← ek4] at q4
    obtain ⟨i4, ei4⟩ : ∃ z : Int32, z = fI H iq ((1 : Int32).toNatClampNeg) := ⟨_, rfl⟩
    rw [← ei4] at q4
    obtain ⟨k5, ek5⟩ : ∃ z : Int32, z = fI H kq (K.1.2 8 5) := ⟨_, rfl⟩
    rw [← ek5] at q5
    obtain ⟨i5, ei5⟩ : ∃ z : Int32, z = fI H iq ((2 : Int32).toNatClampNeg) := ⟨_, rfl⟩
    rw [← ei5] at q5
    obtain ⟨k10, ek10⟩ : ∃ z : Int32, z = fI H kq (K.1.2 8 10) := ⟨_, rfl⟩
    rw [← ek10] at q10
    obtain ⟨i10, ei10⟩ : ∃ z : Int32, z = fI H iq ((3 : Int32).toNatClampNeg) := ⟨_, rfl⟩
    rw [← ei10] at q10
    obtain ⟨k13, ek13⟩ : ∃ z : Int32, z = fI H kq (K.1.2 8 13) := ⟨_, rfl⟩
    rw [← ek13] at q13
    obtain ⟨i13, ei13⟩ : ∃ z : Int32, z = fI H iq ((4 : Int32).toNatClampNeg) := ⟨_, rfl⟩
    rw [← ei13] at q13
    obtain ⟨k16, ek16⟩ : ∃ z : Int32, z = fI H kq (K.1.2 8 16) := ⟨_, rfl⟩
    rw [← ek16] at q16
    obtain ⟨i16, ei16⟩ : ∃ z : Int32, z = fI H iq ((5 : Int32).toNatClampNeg) := ⟨_, rfl⟩
    rw [← ei16] at q16
    refine lv_aload_n hx hb dL_law_360 rfl (lv_at hl 2 rfl) ?_
    refine lv_aload_n hx hb dL_law_361 rfl (lv_at hl 3 rfl) ?_
    refine lv_iload_n hx hb dL_law_362 rfl (lv_at hl 0 rfl) ?_
    refine lv_iconst (v := 1) hx hb dL_law_363 (by decide) ?_
    refine lv_iadd hx hb dL_law_364 ?_
    refine lv_topi (fun x169 ex169 => ?_)
    have tx169 := i_add ex169 (by omega)
    have ejx169 : x169.toNatClampNeg = i.toNatClampNeg + 1 := by have h1 := i_cl (x := x169) (by omega); have h2 := i_cl (x := i) (by omega); omega
    refine va_sld hx hb hX hbl (Nat.not_le.mpr hbl) hS (vp_in_iff.mpr (by omega)) dL_law_365 ?_
    refine W.eq (g2 := F0 m 366 ls [.int (xs (i.toNatClampNeg + 1)), .ref a]) (congrArg (fun z => F0 m 366 ls [.int (xs z), .ref a]) ejx169) ?_
    refine lv_aload_n hx hb dL_law_366 rfl (lv_at hl 3 rfl) ?_
    refine lv_iload_n hx hb dL_law_367 rfl (lv_at hl 0 rfl) ?_
    refine lv_iconst (v := 2) hx hb dL_law_368 (by decide) ?_
    refine lv_iadd hx hb dL_law_369 ?_
    refine lv_topi (fun x170 ex170 => ?_)
    have tx170 := i_add ex170 (by omega)
    have ejx170 : x170.toNatClampNeg = i.toNatClampNeg + 2 := by have h1 := i_cl (x := x170) (by omega); have h2 := i_cl (x := i) (by omega); omega
    refine va_sld hx hb hX hbl (Nat.not_le.mpr hbl) hS (vp_in_iff.mpr (by omega)) dL_law_370 ?_
    refine W.eq (g2 := F0 m 371 ls [.int (xs (i.toNatClampNeg + 2)), .int (xs (i.toNatClampNeg + 1)), .ref a]) (congrArg (fun z => F0 m 371 ls [.int (xs z), .int (xs (i.toNatClampNeg + 1)), .ref a]) ejx170) ?_
    refine lv_aload_n hx hb dL_law_371 rfl (lv_at hl 3 rfl) ?_
    refine lv_iload_n hx hb dL_law_372 rfl (lv_at hl 0 rfl) ?_
    refine lv_iconst (v := 3) hx hb dL_law_373 (by decide) ?_
    refine lv_iadd hx hb dL_law_374 ?_
    refine lv_topi (fun x171 ex171 => ?_)
    have tx171 := i_add ex171 (by omega)
    have ejx171 : x171.toNatClampNeg = i.toNatClampNeg + 3 := by have h1 := i_cl (x := x171) (by omega); have h2 := i_cl (x := i) (by omega); omega
    refine va_sld hx hb hX hbl (Nat.not_le.mpr hbl) hS (vp_in_iff.mpr (by omega)) dL_law_375 ?_
    refine W.eq (g2 := F0 m 376 ls [.int (xs (i.toNatClampNeg + 3)), .int (xs (i.toNatClampNeg + 2)), .int (xs (i.toNatClampNeg + 1)), .ref a]) (congrArg (fun z => F0 m 376 ls [.int (xs z), .int (xs (i.toNatClampNeg + 2)), .int (xs (i.toNatClampNeg + 1)), .ref a]) ejx171) ?_
    refine lv_aload_n hx hb dL_law_376 rfl (lv_at hl 3 rfl) ?_
    refine lv_iload_n hx hb dL_law_377 rfl (lv_at hl 0 rfl) ?_
    refine lv_iconst (v := 4) hx hb dL_law_378 (by decide) ?_
    refine lv_iadd hx hb dL_law_379 ?_
    refine lv_topi (fun x172 ex172 => ?_)
    have tx172 := i_add ex172 (by omega)
    have ejx172 : x172.toNatClampNeg = i.toNatClampNeg + 4 := by have h1 := i_cl (x := x172) (by omega); have h2 := i_cl (x := i) (by omega); omega
    refine va_sld hx hb hX hbl (Nat.not_le.mpr hbl) hS (vp_in_iff.mpr (by omega)) dL_law_380 ?_
    refine W.eq (g2 := F0 m 381 ls [.int (xs (i.toNatClampNeg + 4)), .int (xs (i.toNatClampNeg + 3)), .int (xs (i.toNatClampNeg + 2)), .int (xs (i.toNatClampNeg + 1)), .ref a]) (congrArg (fun z => F0 m 381 ls [.int (xs z), .int (xs (i.toNatClampNeg + 3)), .int (xs (i.toNatClampNeg + 2)), .int (xs (i.toNatClampNeg + 1)), .ref a]) ejx172) ?_
    refine lv_aload_n hx hb dL_law_381 rfl (lv_at hl 3 rfl) ?_
    refine lv_iload_n hx hb dL_law_382 rfl (lv_at hl 0 rfl) ?_
    refine lv_iconst (v := 5) hx hb dL_law_383 (by decide) ?_
    refine lv_iadd hx hb dL_law_384 ?_
    refine lv_topi (fun x173 ex173 => ?_)
    have tx173 := i_add ex173 (by omega)
    have ejx173 : x173.toNatClampNeg = i.toNatClampNeg + 5 := by have h1 := i_cl (x := x173) (by omega); have h2 := i_cl (x := i) (by omega); omega
    refine va_sld hx hb hX hbl (Nat.not_le.mpr hbl) hS (vp_in_iff.mpr (by omega)) dL_law_385 ?_
    refine W.eq (g2 := F0 m 386 ls [.int (xs (i.toNatClampNeg + 5)), .int (xs (i.toNatClampNeg + 4)), .int (xs (i.toNatClampNeg + 3)), .int (xs (i.toNatClampNeg + 2)), .int (xs (i.toNatClampNeg + 1)), .ref a]) (congrArg (fun z => F0 m 386 ls [.int (xs z), .int (xs (i.toNatClampNeg + 4)), .int (xs (i.toNatClampNeg + 3)), .int (xs (i.toNatClampNeg + 2)), .int (xs (i.toNatClampNeg + 1)), .ref a]) ejx173) ?_
    refine x_V (As := [.int (xs (i.toNatClampNeg + 1)), .int (xs (i.toNatClampNeg + 2)), .int (xs (i.toNatClampNeg + 3)), .int (xs (i.toNatClampNeg + 4)), .int (xs (i.toNatClampNeg + 5))]) (rest := []) C (a_X9_feed_b l K G H ((xs (i.toNatClampNeg + 1))) ((xs (i.toNatClampNeg + 2))) ((xs (i.toNatClampNeg + 3))) ((xs (i.toNatClampNeg + 4))) ((xs (i.toNatClampNeg + 5))) (ta) hT ga gw ew gtq etq eta kn) yo_X9_feed wM_L_33 ⟨⟨by decide, by decide⟩, show _ ≤ 284929 by omega, show _ ≤ 8247460 by omega⟩ (x_rv C hT (ci := 9) rfl ga rg_68) rfl hl.1 rfl (Nat.le_of_ble_eq_true rfl) dL_law_386 hS (AE_new hN hS.1) (fun vH174 H174 locsH174 pH174 zH174 kH174 hSH174 => ?_)
    obtain ⟨x175, x176, hvH174, ex176, hrH174, m177, m178, m179, m180, hTH174⟩ := pH174
    subst hvH174
    have g181 : CG (avw K H174 b) := CG.congr (fun k hk j => av_eff hT kH174 gb (by decide) (CG_eff [68, 108] (by decide) k hk)) cg
    have g182 : TU (avw K H174 b) (svw K H174 b) := TU.congr (fun k hk j => av_eff hT kH174 gb (by decide) (TU_eff [68, 108] (by decide) k hk)) (fun k hk => sv_eff hT kH174 gb (by decide)) tu
    have g183 : WD (avw K H174 b) := WD.congr (fun k hk j => av_eff hT kH174 gb (by decide) (WD_eff [68, 108] (by decide) k hk)) wd
    have g184 : IM (avw K H174 b) := IM.congr (fun k hk j => av_eff hT kH174 gb (by decide) (IM_eff [68, 108] (by decide) k hk)) im
    have f185 : ∀ j : Nat, fI H174 uq j = fI H uq j := fun j => (fI_kept (x_lt hT kH174 guq (by decide))).trans (fu0 j)
    have m186 := (etb).trans (fI_kept (x_lt hT kH174 gb (by decide))).symm
    have m187 := (es1).trans (fI_kept (x_lt hT kH174 gw (by decide))).symm
    have m188 := (ey1).trans (fI_kept (x_lt hT kH174 gb (by decide))).symm
    have m189 := (es4).trans (fI_kept (x_lt hT kH174 gw (by decide))).symm
    have m190 := (ey4).trans (fI_kept (x_lt hT kH174 gb (by decide))).symm
    have m191 := (es5).trans (fI_kept (x_lt hT kH174 gw (by decide))).symm
    have m192 := (ey5).trans (fI_kept (x_lt hT kH174 gb (by decide))).symm
    have m193 := (es10).trans (fI_kept (x_lt hT kH174 gw (by decide))).symm
    have m194 := (ey10).trans (fI_kept (x_lt hT kH174 gb (by decide))).symm
    have m195 := (es13).trans (fI_kept (x_lt hT kH174 gw (by decide))).symm
    have m196 := (ey13).trans (fI_kept (x_lt hT kH174 gb (by decide))).symm
    have m197 := (es16).trans (fI_kept (x_lt hT kH174 gw (by decide))).symm
    have m198 := (ey16).trans (fI_kept (x_lt hT kH174 gb (by decide))).symm
    have m199 := (euq).trans (fR_kept (x_lt hT kH174 gb (by decide))).symm
    have m200 := (ehi).trans (fI_kept (x_lt hT kH174 gb (by decide))).symm
    have m201 := (eiq).trans (fR_kept (x_lt hT kH174 gb (by decide))).symm
    have m202 := (ek1).trans (fI_kept (x_lt hT kH174 gkq (by decide))).symm
    have m203 := (ei1).trans (fI_kept (x_lt hT kH174 giq (by decide))).symm
    have m204 := (ek4).trans (fI_kept (x_lt hT kH174 gkq (by decide))).symm
    have m205 := (ei4).trans (fI_kept (x_lt hT kH174 giq (by decide))).symm
    have m206 := (ek5).trans (fI_kept (x_lt hT kH174 gkq (by decide))).symm
    have m207 := (ei5).trans (fI_kept (x_lt hT kH174 giq (by decide))).symm
    have m208 := (ek10).trans (fI_kept (x_lt hT kH174 gkq (by decide))).symm
    have m209 := (ei10).trans (fI_kept (x_lt hT kH174 giq (by decide))).symm
    have m210 := (ek13).trans (fI_kept (x_lt hT kH174 gkq (by decide))).symm
    have m211 := (ei13).trans (fI_kept (x_lt hT kH174 giq (by decide))).symm
    have m212 := (ek16).trans (fI_kept (x_lt hT kH174 gkq (by decide))).symm
    have m213 := (ei16).trans (fI_kept (x_lt hT kH174 giq (by decide))).symm
    have bx176 := ty_fi (x := x176) (k := 3) ex176 hTH174 ga rg_68 rfl
    refine W.eq (g2 := F0 m 389 ls [.int x175]) rfl ?_
    have f214 : ∀ j : Nat, fI H174 tq j = fdX ((xs (i.toNatClampNeg + 1))) ((xs (i.toNatClampNeg + 2))) ((xs (i.toNatClampNeg + 3))) ((xs (i.toNatClampNeg + 4))) ((xs (i.toNatClampNeg + 5))) ta (fun j => fI H tq j) j := fun j => (m179 j).trans (fdX_c ft0 j)
    refine lv_pop hx hb dL_law_389 rfl ?_
    refine lv_aload_n hx hb dL_law_390 rfl (lv_at hl 1 rfl) ?_
    refine lv_aload_n hx hb dL_law_391 rfl (lv_at hl 3 rfl) ?_
    refine lv_iload_n hx hb dL_law_392 rfl (lv_at hl 0 rfl) ?_
    refine lv_iconst (v := 1) hx hb dL_law_393 (by decide) ?_
    refine lv_iadd hx hb dL_law_394 ?_
    refine lv_topi (fun x215 ex215 => ?_)
    have tx215 := i_add ex215 (by omega)
    have ejx215 : x215.toNatClampNeg = i.toNatClampNeg + 1 := by have h1 := i_cl (x := x215) (by omega); have h2 := i_cl (x := i) (by omega); omega
    refine va_sld hx hb hX hbl (Nat.not_le.mpr hbl) hSH174 (vp_in_iff.mpr (by omega)) dL_law_395 ?_
    refine W.eq (g2 := F0 m 396 ls [.int (xs (i.toNatClampNeg + 1)), .ref b]) (congrArg (fun z => F0 m 396 ls [.int (xs z), .ref b]) ejx215) ?_
    refine lv_aload_n hx hb dL_law_396 rfl (lv_at hl 3 rfl) ?_
    refine lv_iload_n hx hb dL_law_397 rfl (lv_at hl 0 rfl) ?_
    refine lv_iconst (v := 2) hx hb dL_law_398 (by decide) ?_
    refine lv_iadd hx hb dL_law_399 ?_
    refine lv_topi (fun x216 ex216 => ?_)
    have tx216 := i_add ex216 (by omega)
    have ejx216 : x216.toNatClampNeg = i.toNatClampNeg + 2 := by have h1 := i_cl (x := x216) (by omega); have h2 := i_cl (x := i) (by omega); omega
    refine va_sld hx hb hX hbl (Nat.not_le.mpr hbl) hSH174 (vp_in_iff.mpr (by omega)) dL_law_400 ?_
    refine W.eq (g2 := F0 m 401 ls [.int (xs (i.toNatClampNeg + 2)), .int (xs (i.toNatClampNeg + 1)), .ref b]) (congrArg (fun z => F0 m 401 ls [.int (xs z), .int (xs (i.toNatClampNeg + 1)), .ref b]) ejx216) ?_
    refine lv_aload_n hx hb dL_law_401 rfl (lv_at hl 3 rfl) ?_
    refine lv_iload_n hx hb dL_law_402 rfl (lv_at hl 0 rfl) ?_
    refine lv_iconst (v := 3) hx hb dL_law_403 (by decide) ?_
    refine lv_iadd hx hb dL_law_404 ?_
    refine lv_topi (fun x217 ex217 => ?_)
    have tx217 := i_add ex217 (by omega)
    have ejx217 : x217.toNatClampNeg = i.toNatClampNeg + 3 := by have h1 := i_cl (x := x217) (by omega); have h2 := i_cl (x := i) (by omega); omega
    refine va_sld hx hb hX hbl (Nat.not_le.mpr hbl) hSH174 (vp_in_iff.mpr (by omega)) dL_law_405 ?_
    refine W.eq (g2 := F0 m 406 ls [.int (xs (i.toNatClampNeg + 3)), .int (xs (i.toNatClampNeg + 2)), .int (xs (i.toNatClampNeg + 1)), .ref b]) (congrArg (fun z => F0 m 406 ls [.int (xs z), .int (xs (i.toNatClampNeg + 2)), .int (xs (i.toNatClampNeg + 1)), .ref b]) ejx217) ?_
    refine lv_aload_n hx hb dL_law_406 rfl (lv_at hl 3 rfl) ?_
    refine lv_iload_n hx hb dL_law_407 rfl (lv_at hl 0 rfl) ?_
    refine lv_iconst (v := 4) hx hb dL_law_408 (by decide) ?_
    refine lv_iadd hx hb dL_law_409 ?_
    refine lv_topi (fun x218 ex218 => ?_)
    have tx218 := i_add ex218 (by omega)
    have ejx218 : x218.toNatClampNeg = i.toNatClampNeg + 4 := by have h1 := i_cl (x := x218) (by omega); have h2 := i_cl (x := i) (by omega); omega
    refine va_sld hx hb hX hbl (Nat.not_le.mpr hbl) hSH174 (vp_in_iff.mpr (by omega)) dL_law_410 ?_
    refine W.eq (g2 := F0 m 411 ls [.int (xs (i.toNatClampNeg + 4)), .int (xs (i.toNatClampNeg + 3)), .int (xs (i.toNatClampNeg + 2)), .int (xs (i.toNatClampNeg + 1)), .ref b]) (congrArg (fun z => F0 m 411 ls [.int (xs z), .int (xs (i.toNatClampNeg + 3)), .int (xs (i.toNatClampNeg + 2)), .int (xs (i.toNatClampNeg + 1)), .ref b]) ejx218) ?_
    refine lv_aload_n hx hb dL_law_411 rfl (lv_at hl 3 rfl) ?_
    refine lv_iload_n hx hb dL_law_412 rfl (lv_at hl 0 rfl) ?_
    refine lv_iconst (v := 5) hx hb dL_law_413 (by decide) ?_
    refine lv_iadd hx hb dL_law_414 ?_
    refine lv_topi (fun x219 ex219 => ?_)
    have tx219 := i_add ex219 (by omega)
    have ejx219 : x219.toNatClampNeg = i.toNatClampNeg + 5 := by have h1 := i_cl (x := x219) (by omega); have h2 := i_cl (x := i) (by omega); omega
    refine va_sld hx hb hX hbl (Nat.not_le.mpr hbl) hSH174 (vp_in_iff.mpr (by omega)) dL_law_415 ?_
    refine W.eq (g2 := F0 m 416 ls [.int (xs (i.toNatClampNeg + 5)), .int (xs (i.toNatClampNeg + 4)), .int (xs (i.toNatClampNeg + 3)), .int (xs (i.toNatClampNeg + 2)), .int (xs (i.toNatClampNeg + 1)), .ref b]) (congrArg (fun z => F0 m 416 ls [.int (xs z), .int (xs (i.toNatClampNeg + 4)), .int (xs (i.toNatClampNeg + 3)), .int (xs (i.toNatClampNeg + 2)), .int (xs (i.toNatClampNeg + 1)), .ref b]) ejx219) ?_
    refine x_V (As := [.int (xs (i.toNatClampNeg + 1)), .int (xs (i.toNatClampNeg + 2)), .int (xs (i.toNatClampNeg + 3)), .int (xs (i.toNatClampNeg + 4)), .int (xs (i.toNatClampNeg + 5))]) (rest := []) C (a_X10_feed_b l K G H174 ((xs (i.toNatClampNeg + 1))) ((xs (i.toNatClampNeg + 2))) ((xs (i.toNatClampNeg + 3))) ((xs (i.toNatClampNeg + 4))) ((xs (i.toNatClampNeg + 5))) (tb) hTH174 gb guq m199 m186 g181 g182 g183 g184) yo_X10_feed wM_L_37 ⟨⟨by decide, by decide⟩, show _ ≤ 284929 by omega, show _ ≤ 8247460 by omega⟩ (x_rv C hTH174 (ci := 10) rfl gb rg_112) rfl hl.1 rfl (Nat.le_of_ble_eq_true rfl) dL_law_416 hSH174 (AE_new hN hSH174.1) (fun vH220 H220 locsH220 pH220 zH220 kH220 hSH220 => ?_)
    obtain ⟨x221, x222, hvH220, ex222, hrH220, m223, g224, g225, g226, g227, mf228, m229, hTH220⟩ := pH220
    subst hvH220
    have f230 : ∀ j : Nat, fI H220 tq j = fdX ((xs (i.toNatClampNeg + 1))) ((xs (i.toNatClampNeg + 2))) ((xs (i.toNatClampNeg + 3))) ((xs (i.toNatClampNeg + 4))) ((xs (i.toNatClampNeg + 5))) ta (fun j => fI H tq j) j := fun j => (fI_kept (x_lt hTH174 kH220 gtq (by decide))).trans (f214 j)
    have m231 := (m187).trans (fI_kept (x_lt hTH174 kH220 gw (by decide))).symm
    have m232 := (m189).trans (fI_kept (x_lt hTH174 kH220 gw (by decide))).symm
    have m233 := (m191).trans (fI_kept (x_lt hTH174 kH220 gw (by decide))).symm
    have m234 := (m193).trans (fI_kept (x_lt hTH174 kH220 gw (by decide))).symm
    have m235 := (m195).trans (fI_kept (x_lt hTH174 kH220 gw (by decide))).symm
    have m236 := (m197).trans (fI_kept (x_lt hTH174 kH220 gw (by decide))).symm
    have m237 := (m202).trans (fI_kept (x_lt hTH174 kH220 gkq (by decide))).symm
    have m238 := (m203).trans (fI_kept (x_lt hTH174 kH220 giq (by decide))).symm
    have m239 := (m204).trans (fI_kept (x_lt hTH174 kH220 gkq (by decide))).symm
    have m240 := (m205).trans (fI_kept (x_lt hTH174 kH220 giq (by decide))).symm
    have m241 := (m206).trans (fI_kept (x_lt hTH174 kH220 gkq (by decide))).symm
    have m242 := (m207).trans (fI_kept (x_lt hTH174 kH220 giq (by decide))).symm
    have m243 := (m208).trans (fI_kept (x_lt hTH174 kH220 gkq (by decide))).symm
    have m244 := (m209).trans (fI_kept (x_lt hTH174 kH220 giq (by decide))).symm
    have m245 := (m210).trans (fI_kept (x_lt hTH174 kH220 gkq (by decide))).symm
    have m246 := (m211).trans (fI_kept (x_lt hTH174 kH220 giq (by decide))).symm
    have m247 := (m212).trans (fI_kept (x_lt hTH174 kH220 gkq (by decide))).symm
    have m248 := (m213).trans (fI_kept (x_lt hTH174 kH220 giq (by decide))).symm
    have m249 := (m177).trans (fR_kept (x_lt hTH174 kH220 ga (by decide))).symm
    have m250 := (m178).trans (fR_kept (x_lt hTH174 kH220 ga (by decide))).symm
    have m251 := (fV_kept (x_lt hTH174 kH220 ga (by decide))).trans m180
    have m252 := (ex176).trans (fI_kept (x_lt hTH174 kH220 ga (by decide))).symm
    have m253 := (m188).trans (MF.i mf228 (k := 1) (by decide) (by decide)).symm
    have m254 := (m190).trans (MF.i mf228 (k := 2) (by decide) (by decide)).symm
    have m255 := (m192).trans (MF.i mf228 (k := 3) (by decide) (by decide)).symm
    have m256 := (m194).trans (MF.i mf228 (k := 59) (by decide) (by decide)).symm
    have m257 := (m196).trans (MF.i mf228 (k := 62) (by decide) (by decide)).symm
    have m258 := (m198).trans (MF.i mf228 (k := 65) (by decide) (by decide)).symm
    have m259 := (m199).trans (MF.r mf228 (k := 17) (by decide) (by decide)).symm
    have m260 := (m200).trans (MF.i mf228 (k := 70) (by decide) (by decide)).symm
    have m261 := (m201).trans (MF.r mf228 (k := 73) (by decide) (by decide)).symm
    have bx222 := ty_fi (x := x222) (k := 18) ex222 hTH220 gb rg_112 rfl
    refine W.eq (g2 := F0 m 419 ls [.int x221]) rfl ?_
    have f262 : ∀ j : Nat, fI H220 uq j = fdX ((xs (i.toNatClampNeg + 1))) ((xs (i.toNatClampNeg + 2))) ((xs (i.toNatClampNeg + 3))) ((xs (i.toNatClampNeg + 4))) ((xs (i.toNatClampNeg + 5))) tb (fun j => fI H uq j) j := fun j => (m229 j).trans (fdX_c f185 j)
    refine lv_pop hx hb dL_law_419 rfl ?_
    refine lv_goto (tgt := 1509) hx hb dL_law_420 (by decide) ?_
    have cfin := i_cl (x := x222) (by omega)
    have htf : TBR (fun j => fdX ((xs (i.toNatClampNeg + 1))) ((xs (i.toNatClampNeg + 2))) ((xs (i.toNatClampNeg + 3))) ((xs (i.toNatClampNeg + 4))) ((xs (i.toNatClampNeg + 5))) ta (fun j => fI H tq j) j) (fun j => fdX ((xs (i.toNatClampNeg + 1))) ((xs (i.toNatClampNeg + 2))) ((xs (i.toNatClampNeg + 3))) ((xs (i.toNatClampNeg + 4))) ((xs (i.toNatClampNeg + 5))) tb (fun j => fI H uq j) j) x222.toNatClampNeg := TBR.fx htr (by omega) (by omega)
    exact nx G H220 locsH220 _ _ ls ⟨hTH220, hN, ga, gb, g224, g225, g226, g227, ⟨(by rw [← m252, ← ex222]; omega), (by rw [← m249, ← m231, ← m253]; omega), (by rw [← m249, ← m232, ← m254]; omega), (by rw [← m249, ← m233, ← m255]; omega), (by rw [← m249, ← m234, ← m256]; omega), (by rw [← m249, ← m235, ← m257]; omega), (by rw [← m249, ← m236, ← m258]; omega)⟩, Or.inr ⟨kq, m251, gkq, (by rw [← m260]; omega), (by rw [← m237, ← m261, ← m238]; omega), (by rw [← m239, ← m261, ← m240]; omega), (by rw [← m241, ← m261, ← m242]; omega), (by rw [← m243, ← m261, ← m244]; omega), (by rw [← m245, ← m261, ← m246]; omega), (by rw [← m247, ← m261, ← m248]; omega)⟩, (by unfold TB; rw [← m250, ← m223, ← ex222]; exact TBR.of htf f230 f262 (by omega)), hSH220⟩ hl ⟨by omega, by omega, fun h => by have h1 := h.symm.trans m251; cases h1⟩
set_option maxRecDepth 100000 in
set_option maxHeartbeats 8000000 in
theorem lw_c5 {p : Program} {l : Launch} {e : Env} {s : State} {m : MethodId} {below : List Frame} {meth : Method} {c : Code} {K : KE} {b0 L : Nat} {xs : Nat → Int32} {G : Nat → Option Nat} {H : Heap} {locs : List Loc} {a b : Nat} {cells slots : Nat} {ls : Array Slot} {i : Int32} {n : Nat} (D : LC p K s m meth c b0 L xs) (S : SX K s G H locs a b) (hl : lv_has ls 4 [(3, .int i), (2, .ref b), (1, .ref a), (0, .ref b0)]) (hi : 0 ≤ i.toInt ∧ i.toInt + 6 ≤ L) (hn : n ≤ 511) (hB : BD K H a cells slots) (nx : ∀ (G : Nat → Option Nat) (H : Heap) (locs : List Loc) (cells slots : Nat) (ls : Array Slot), SX K s G H locs a b → lv_has ls 4 [(3, .int i), (2, .ref b), (1, .ref a), (0, .ref b0)] → BD K H a cells slots → W p l e room_1 s m #[Value.ref b0] below meth c H locs cells slots (lw_Z below #[Value.ref b0] s) (F0 m 1509 ls [])) : W p l e room_1 s m #[Value.ref b0] below meth c H locs cells slots (lw_Z below #[Value.ref b0] s) (F0 m 423 ls []) := by
  obtain ⟨C, hX, hbl, hL⟩ := id D
  obtain ⟨hx, hb, hml, hown, hts, hKT, hr, hlocks, hnm⟩ := id C
  obtain ⟨hT, hN, ga, gb, cg, tu, wd, im, ⟨rt, r1, r4, r5, r10, r13, r16⟩, hk, htb, hS⟩ := S
  obtain ⟨hc, hs, hB0⟩ := hB
  have n_1 : (1 : Int32).toInt = 1 := rfl
  obtain ⟨w, ew⟩ : ∃ z : Nat, z = fR H a (K.1.2 9 0) := ⟨_, rfl⟩
  have gw := ty_fr (q := w) (k := 0) (u := 0) ew hT ga rg_68 rfl
  rw [← ew] at r1 r4 r5 r10 r13 r16
  obtain ⟨ta, eta⟩ : ∃ z : Int32, z = fI H a (K.1.2 9 3) := ⟨_, rfl⟩
  rw [← eta] at rt
  obtain ⟨tb, etb⟩ : ∃ z : Int32, z = fI H b (K.1.2 10 18) := ⟨_, rfl⟩
  rw [← etb] at rt
  obtain ⟨s1, es1⟩ : ∃ z : Int32, z = fI H w (K.1.2 8 1) := ⟨_, rfl⟩
  rw [← es1] at r1
  obtain ⟨y1, ey1⟩ : ∃ z : Int32, z = fI H b (K.1.2 10 1) := ⟨_, rfl⟩
  rw [← ey1] at r1
  obtain ⟨s4, es4⟩ : ∃ z : Int32, z = fI H w (K.1.2 8 4) := ⟨_, rfl⟩
  rw [← es4] at r4
  obtain ⟨y4, ey4⟩ : ∃ z : Int32, z = fI H b (K.1.2 10 2) := ⟨_, rfl⟩
  rw [← ey4] at r4
  obtain ⟨s5, es5⟩ : ∃ z : Int32, z = fI H w (K.1.2 8 5) := ⟨_, rfl⟩
  rw [← es5] at r5
  obtain ⟨y5, ey5⟩ : ∃ z : Int32, z = fI H b (K.1.2 10 3) := ⟨_, rfl⟩
  rw [← ey5] at r5
  obtain ⟨s10, es10⟩ : ∃ z : Int32, z = fI H w (K.1.2 8 10) := ⟨_, rfl⟩
  rw [← es10] at r10
  obtain ⟨y10, ey10⟩ : ∃ z : Int32, z = fI H b (K.1.2 10 59) := ⟨_, rfl⟩
  rw [← ey10] at r10
  obtain ⟨s13, es13⟩ : ∃ z : Int32, z = fI H w (K.1.2 8 13) := ⟨_, rfl⟩
  rw [← es13] at r13
  obtain ⟨y13, ey13⟩ : ∃ z : Int32, z = fI H b (K.1.2 10 62) := ⟨_, rfl⟩
  rw [← ey13] at r13
  obtain ⟨s16, es16⟩ : ∃ z : Int32, z = fI H w (K.1.2 8 16) := ⟨_, rfl⟩
  rw [← es16] at r16
  obtain ⟨y16, ey16⟩ : ∃ z : Int32, z = fI H b (K.1.2 10 65) := ⟨_, rfl⟩
  rw [← ey16] at r16
  obtain ⟨tq, etq⟩ : ∃ z : Nat, z = fR H a (K.1.2 9 2) := ⟨_, rfl⟩
  have gtq := ty_fr (q := tq) (k := 2) (u := 108) etq hT ga rg_68 rfl
  obtain ⟨uq, euq⟩ : ∃ z : Nat, z = fR H b (K.1.2 10 17) := ⟨_, rfl⟩
  have guq := ty_fr (q := uq) (k := 17) (u := 126) euq hT gb rg_112 rfl
  have htr : TBR (fun j => fI H tq j) (fun j => fI H uq j) tb.toNatClampNeg := by rw [etq, euq, etb]; exact htb
  have ft0 : ∀ j : Nat, fI H tq j = fI H tq j := fun _ => rfl
  have fu0 : ∀ j : Nat, fI H uq j = fI H uq j := fun _ => rfl
  have bta := ty_fi (x := ta) (k := 3) eta hT ga rg_68 rfl
  have cta := i_cl (x := ta) (by omega)
  have btb := ty_fi (x := tb) (k := 18) etb hT gb rg_112 rfl
  have ctb := i_cl (x := tb) (by omega)
  rcases hk with ⟨kn, h70⟩ | ⟨kq, kn, gkq, h70, q1, q4, q5, q10, q13, q16⟩
  · skip
    obtain ⟨hi, ehi⟩ : ∃ z : Int32, z = fI H b (K.1.2 10 70) := ⟨_, rfl⟩
    rw [← ehi] at h70
    obtain ⟨hc0, hs0⟩ := hB0 kn
    refine lv_aload_n hx hb dL_law_423 rfl (lv_at hl 2 rfl) ?_
    refine lv_aload_n hx hb dL_law_424 rfl (lv_at hl 3 rfl) ?_
    refine lv_iload_n hx hb dL_law_425 rfl (lv_at hl 0 rfl) ?_
    refine lv_iconst (v := 1) hx hb dL_law_426 (by decide) ?_
    refine lv_iadd hx hb dL_law_427 ?_
    refine lv_topi (fun x101 ex101 => ?_)
    have tx101 := i_add ex101 (by omega)
    have ejx101 : x101.toNatClampNeg = i.toNatClampNeg + 1 := by have h1 := i_cl (x := x101) (by omega); have h2 := i_cl (x := i) (by omega); omega
    refine va_sld hx hb hX hbl (Nat.not_le.mpr hbl) hS (vp_in_iff.mpr (by omega)) dL_law_428 ?_
    refine W.eq (g2 := F0 m 429 ls [.int (xs (i.toNatClampNeg + 1)), .ref a]) (congrArg (fun z => F0 m 429 ls [.int (xs z), .ref a]) ejx101) ?_
    refine x_V (As := [.int (xs (i.toNatClampNeg + 1))]) (rest := []) C (a_X9_end_r l K G H ((xs (i.toNatClampNeg + 1))) (ta) hT ga gw ew gtq etq eta kn) yo_X9_end wM_L_38 ⟨⟨by decide, by decide⟩, show _ ≤ 284929 by omega, show _ ≤ 8247460 by omega⟩ (x_rv C hT (ci := 9) rfl ga rg_68) rfl hl.1 rfl (Nat.le_of_ble_eq_true rfl) dL_law_429 hS (AE_new hN hS.1) (fun vH102 H102 locsH102 pH102 zH102 kH102 hSH102 => ?_)
    obtain ⟨x103, x104, hvH102, bx103, ex104, hrH102, m105, m106, m107, hTH102⟩ := pH102
    subst hvH102
    have g108 : CG (avw K H102 b) := CG.congr (fun k hk j => av_eff hT kH102 gb (by decide) (CG_eff [68] (by decide) k hk)) cg
    have g109 : TU (avw K H102 b) (svw K H102 b) := TU.congr (fun k hk j => av_eff hT kH102 gb (by decide) (TU_eff [68] (by decide) k hk)) (fun k hk => sv_eff hT kH102 gb (by decide)) tu
    have g110 : WD (avw K H102 b) := WD.congr (fun k hk j => av_eff hT kH102 gb (by decide) (WD_eff [68] (by decide) k hk)) wd
    have g111 : IM (avw K H102 b) := IM.congr (fun k hk j => av_eff hT kH102 gb (by decide) (IM_eff [68] (by decide) k hk)) im
    have f112 : ∀ j : Nat, fI H102 tq j = fI H tq j := fun j => (fI_kept (x_lt hT kH102 gtq (by decide))).trans (ft0 j)
    have f113 : ∀ j : Nat, fI H102 uq j = fI H uq j := fun j => (fI_kept (x_lt hT kH102 guq (by decide))).trans (fu0 j)
    have m114 := (etb).trans (fI_kept (x_lt hT kH102 gb (by decide))).symm
    have m115 := (es1).trans (fI_kept (x_lt hT kH102 gw (by decide))).symm
    have m116 := (ey1).trans (fI_kept (x_lt hT kH102 gb (by decide))).symm
    have m117 := (es4).trans (fI_kept (x_lt hT kH102 gw (by decide))).symm
    have m118 := (ey4).trans (fI_kept (x_lt hT kH102 gb (by decide))).symm
    have m119 := (es5).trans (fI_kept (x_lt hT kH102 gw (by decide))).symm
    have m120 := (ey5).trans (fI_kept (x_lt hT kH102 gb (by decide))).symm
    have m121 := (es10).trans (fI_kept (x_lt hT kH102 gw (by decide))).symm
    have m122 := (ey10).trans (fI_kept (x_lt hT kH102 gb (by decide))).symm
    have m123 := (es13).trans (fI_kept (x_lt hT kH102 gw (by decide))).symm
    have m124 := (ey13).trans (fI_kept (x_lt hT kH102 gb (by decide))).symm
    have m125 := (es16).trans (fI_kept (x_lt hT kH102 gw (by decide))).symm
    have m126 := (ey16).trans (fI_kept (x_lt hT kH102 gb (by decide))).symm
    have m127 := (euq).trans (fR_kept (x_lt hT kH102 gb (by decide))).symm
    have m128 := (ehi).trans (fI_kept (x_lt hT kH102 gb (by decide))).symm
    have bx104 := ty_fi (x := x104) (k := 3) ex104 hTH102 ga rg_68 rfl
    refine W.eq (g2 := F0 m 432 ls [.int x103]) rfl ?_
    refine lv_pop hx hb dL_law_432 rfl ?_
    refine lv_aload_n hx hb dL_law_433 rfl (lv_at hl 1 rfl) ?_
    refine lv_aload_n hx hb dL_law_434 rfl (lv_at hl 3 rfl) ?_
    refine lv_iload_n hx hb dL_law_435 rfl (lv_at hl 0 rfl) ?_
    refine lv_iconst (v := 1) hx hb dL_law_436 (by decide) ?_
    refine lv_iadd hx hb dL_law_437 ?_
    refine lv_topi (fun x129 ex129 => ?_)
    have tx129 := i_add ex129 (by omega)
    have ejx129 : x129.toNatClampNeg = i.toNatClampNeg + 1 := by have h1 := i_cl (x := x129) (by omega); have h2 := i_cl (x := i) (by omega); omega
    refine va_sld hx hb hX hbl (Nat.not_le.mpr hbl) hSH102 (vp_in_iff.mpr (by omega)) dL_law_438 ?_
    refine W.eq (g2 := F0 m 439 ls [.int (xs (i.toNatClampNeg + 1)), .ref b]) (congrArg (fun z => F0 m 439 ls [.int (xs z), .ref b]) ejx129) ?_
    refine x_V (As := [.int (xs (i.toNatClampNeg + 1))]) (rest := []) C (a_X10_end_t l K G H102 ((xs (i.toNatClampNeg + 1))) (tb) hTH102 gb m114 g108 g109 g110 g111) yo_X10_end wM_L_42 ⟨⟨by decide, by decide⟩, show _ ≤ 284929 by omega, show _ ≤ 8247460 by omega⟩ (x_rv C hTH102 (ci := 10) rfl gb rg_112) rfl hl.1 rfl (Nat.le_of_ble_eq_true rfl) dL_law_439 hSH102 (AE_new hN hSH102.1) (fun vH130 H130 locsH130 pH130 zH130 kH130 hSH130 => ?_)
    obtain ⟨x131, x132, hvH130, bx131, ex132, hrH130, g133, g134, g135, g136, mf137, hTH130⟩ := pH130
    subst hvH130
    have f138 : ∀ j : Nat, fI H130 tq j = fI H tq j := fun j => (fI_kept (x_lt hTH102 kH130 gtq (by decide))).trans (f112 j)
    have f139 : ∀ j : Nat, fI H130 uq j = fI H uq j := fun j => (fI_kept (x_lt hTH102 kH130 guq (by decide))).trans (f113 j)
    have m140 := (m115).trans (fI_kept (x_lt hTH102 kH130 gw (by decide))).symm
    have m141 := (m117).trans (fI_kept (x_lt hTH102 kH130 gw (by decide))).symm
    have m142 := (m119).trans (fI_kept (x_lt hTH102 kH130 gw (by decide))).symm
    have m143 := (m121).trans (fI_kept (x_lt hTH102 kH130 gw (by decide))).symm
    have m144 := (m123).trans (fI_kept (x_lt hTH102 kH130 gw (by decide))).symm
    have m145 := (m125).trans (fI_kept (x_lt hTH102 kH130 gw (by decide))).symm
    have m146 := (m105).trans (fR_kept (x_lt hTH102 kH130 ga (by decide))).symm
    have m147 := (m106).trans (fR_kept (x_lt hTH102 kH130 ga (by decide))).symm
    have m148 := (fV_kept (x_lt hTH102 kH130 ga (by decide))).trans m107
    have m149 := (ex104).trans (fI_kept (x_lt hTH102 kH130 ga (by decide))).symm
    have m150 := (m116).trans (MF.i mf137 (k := 1) (by decide) (by decide)).symm
    have m151 := (m118).trans (MF.i mf137 (k := 2) (by decide) (by decide)).symm
    have m152 := (m120).trans (MF.i mf137 (k := 3) (by decide) (by decide)).symm
    have m153 := (m122).trans (MF.i mf137 (k := 59) (by decide) (by decide)).symm
    have m154 := (m124).trans (MF.i mf137 (k := 62) (by decide) (by decide)).symm
    have m155 := (m126).trans (MF.i mf137 (k := 65) (by decide) (by decide)).symm
    have m156 := (m127).trans (MF.r mf137 (k := 17) (by decide) (by decide)).symm
    have m157 := (m128).trans (MF.i mf137 (k := 70) (by decide) (by decide)).symm
    have bx132 := ty_fi (x := x132) (k := 18) ex132 hTH130 gb rg_112 rfl
    refine W.eq (g2 := F0 m 442 ls [.int x131]) rfl ?_
    refine lv_pop hx hb dL_law_442 rfl ?_
    refine lv_goto (tgt := 1509) hx hb dL_law_443 (by decide) ?_
    have cfin := i_cl (x := x132) (by omega)
    exact nx G H130 locsH130 _ _ ls ⟨hTH130, hN, ga, gb, g133, g134, g135, g136, ⟨(by rw [← m149, ← ex132]; omega), (by rw [← m146, ← m140, ← m150]; omega), (by rw [← m146, ← m141, ← m151]; omega), (by rw [← m146, ← m142, ← m152]; omega), (by rw [← m146, ← m143, ← m153]; omega), (by rw [← m146, ← m144, ← m154]; omega), (by rw [← m146, ← m145, ← m155]; omega)⟩, Or.inl ⟨m148, (by rw [← m157]; omega)⟩, (by unfold TB; rw [← m147, ← m156, ← ex132]; exact TBR.of htr f138 f139 (by omega)), hSH130⟩ hl ⟨by omega, by omega, fun _ => ⟨by omega, by omega⟩⟩
  · skip
    obtain ⟨hi, ehi⟩ : ∃ z : Int32, z = fI H b (K.1.2 10 70) := ⟨_, rfl⟩
    rw [← ehi] at h70
    obtain ⟨iq, eiq⟩ : ∃ z : Nat, z = fR H b (K.1.2 10 73) := ⟨_, rfl⟩
    have giq := ty_fr (q := iq) (k := 73) (u := 162) eiq hT gb rg_112 rfl
    rw [← eiq] at q1 q4 q5 q10 q13 q16
    obtain ⟨k1, ek1⟩ : ∃ z : Int32, z = fI H kq (K.1.2 8 1) := ⟨_, rfl⟩
    rw [← ek1] at q1
    obtain ⟨i1, ei1⟩ : ∃ z : Int32, z = fI H iq ((0 : Int32).toNatClampNeg) := ⟨_, rfl⟩
    rw [← ei1] at q1
    obtain ⟨k4, ek4⟩ : ∃ z : Int32, z = fI H kq (K.1.2 8 4) := ⟨_, rfl⟩
    rw [← ek4] at q4
    obtain ⟨i4, ei4⟩ : ∃ z : Int32, z = fI H iq ((1 : Int32).toNatClampNeg) := ⟨_, rfl⟩
    rw [← ei4] at q4
    obtain ⟨k5, ek5⟩ : ∃ z : Int32, z = fI H kq (K.1.2 8 5) := ⟨_, rfl⟩
    rw [← ek5] at q5
    obtain ⟨i5, ei5⟩ : ∃ z : Int32, z = fI H iq ((2 : Int32).toNatClampNeg) := ⟨_, rfl⟩
    rw [← ei5] at q5
    obtain ⟨k10, ek10⟩ : ∃ z : Int32, z = fI H kq (K.1.2 8 10) := ⟨_, rfl⟩
    rw [← ek10] at q10
    obtain ⟨i10, ei10⟩ : ∃ z : Int32, z = fI H iq ((3 : Int32).toNatClampNeg) := ⟨_, rfl⟩
    rw [← ei10] at q10
    obtain ⟨k13, ek13⟩ : ∃ z : Int32, z = fI H kq (K.1.2 8 13) := ⟨_, rfl⟩
    rw [← ek13] at q13
    obtain ⟨i13, ei13⟩ : ∃ z : Int32, z = fI H iq ((4 : Int32).toNatClampNeg) := ⟨_, rfl⟩
    rw [← ei13] at q13
    obtain ⟨k16, ek16⟩ : ∃ z : Int32, z = fI H kq (K.1.2 8 16) := ⟨_, rfl⟩
    rw [← ek16] at q16
    obtain ⟨i16, ei16⟩ : ∃ z : Int32, z = fI H iq ((5 : Int32).toNatClampNeg) := ⟨_, rfl⟩
    rw [← ei16] at q16
    refine lv_aload_n hx hb dL_law_423 rfl (lv_at hl 2 rfl) ?_
    refine lv_aload_n hx hb dL_law_424 rfl (lv_at hl 3 rfl) ?_
    refine lv_iload_n hx hb dL_law_425 rfl (lv_at hl 0 rfl) ?_
    refine lv_iconst (v := 1) hx hb dL_law_426 (by decide) ?_
    refine lv_iadd hx hb dL_law_427 ?_
    refine lv_topi (fun x158 ex158 => ?_)
    have tx158 := i_add ex158 (by omega)
    have ejx158 : x158.toNatClampNeg = i.toNatClampNeg + 1 := by have h1 := i_cl (x := x158) (by omega); have h2 := i_cl (x := i) (by omega); omega
    refine va_sld hx hb hX hbl (Nat.not_le.mpr hbl) hS (vp_in_iff.mpr (by omega)) dL_law_428 ?_
    refine W.eq (g2 := F0 m 429 ls [.int (xs (i.toNatClampNeg + 1)), .ref a]) (congrArg (fun z => F0 m 429 ls [.int (xs z), .ref a]) ejx158) ?_
    refine x_V (As := [.int (xs (i.toNatClampNeg + 1))]) (rest := []) C (a_X9_end_r l K G H ((xs (i.toNatClampNeg + 1))) (ta) hT ga gw ew gtq etq eta kn) yo_X9_end wM_L_38 ⟨⟨by decide, by decide⟩, show _ ≤ 284929 by omega, show _ ≤ 8247460 by omega⟩ (x_rv C hT (ci := 9) rfl ga rg_68) rfl hl.1 rfl (Nat.le_of_ble_eq_true rfl) dL_law_429 hS (AE_new hN hS.1) (fun vH159 H159 locsH159 pH159 zH159 kH159 hSH159 => ?_)
    obtain ⟨x160, x161, hvH159, bx160, ex161, hrH159, m162, m163, m164, hTH159⟩ := pH159
    subst hvH159
    have g165 : CG (avw K H159 b) := CG.congr (fun k hk j => av_eff hT kH159 gb (by decide) (CG_eff [68] (by decide) k hk)) cg
    have g166 : TU (avw K H159 b) (svw K H159 b) := TU.congr (fun k hk j => av_eff hT kH159 gb (by decide) (TU_eff [68] (by decide) k hk)) (fun k hk => sv_eff hT kH159 gb (by decide)) tu
    have g167 : WD (avw K H159 b) := WD.congr (fun k hk j => av_eff hT kH159 gb (by decide) (WD_eff [68] (by decide) k hk)) wd
    have g168 : IM (avw K H159 b) := IM.congr (fun k hk j => av_eff hT kH159 gb (by decide) (IM_eff [68] (by decide) k hk)) im
    have f169 : ∀ j : Nat, fI H159 tq j = fI H tq j := fun j => (fI_kept (x_lt hT kH159 gtq (by decide))).trans (ft0 j)
    have f170 : ∀ j : Nat, fI H159 uq j = fI H uq j := fun j => (fI_kept (x_lt hT kH159 guq (by decide))).trans (fu0 j)
    have m171 := (etb).trans (fI_kept (x_lt hT kH159 gb (by decide))).symm
    have m172 := (es1).trans (fI_kept (x_lt hT kH159 gw (by decide))).symm
    have m173 := (ey1).trans (fI_kept (x_lt hT kH159 gb (by decide))).symm
    have m174 := (es4).trans (fI_kept (x_lt hT kH159 gw (by decide))).symm
    have m175 := (ey4).trans (fI_kept (x_lt hT kH159 gb (by decide))).symm
    have m176 := (es5).trans (fI_kept (x_lt hT kH159 gw (by decide))).symm
    have m177 := (ey5).trans (fI_kept (x_lt hT kH159 gb (by decide))).symm
    have m178 := (es10).trans (fI_kept (x_lt hT kH159 gw (by decide))).symm
    have m179 := (ey10).trans (fI_kept (x_lt hT kH159 gb (by decide))).symm
    have m180 := (es13).trans (fI_kept (x_lt hT kH159 gw (by decide))).symm
    have m181 := (ey13).trans (fI_kept (x_lt hT kH159 gb (by decide))).symm
    have m182 := (es16).trans (fI_kept (x_lt hT kH159 gw (by decide))).symm
    have m183 := (ey16).trans (fI_kept (x_lt hT kH159 gb (by decide))).symm
    have m184 := (euq).trans (fR_kept (x_lt hT kH159 gb (by decide))).symm
    have m185 := (ehi).trans (fI_kept (x_lt hT kH159 gb (by decide))).symm
    have m186 := (eiq).trans (fR_kept (x_lt hT kH159 gb (by decide))).symm
    have m187 := (ek1).trans (fI_kept (x_lt hT kH159 gkq (by decide))).symm
    have m188 := (ei1).trans (fI_kept (x_lt hT kH159 giq (by decide))).symm
    have m189 := (ek4).trans (fI_kept (x_lt hT kH159 gkq (by decide))).symm
    have m190 := (ei4).trans (fI_kept (x_lt hT kH159 giq (by decide))).symm
    have m191 := (ek5).trans (fI_kept (x_lt hT kH159 gkq (by decide))).symm
    have m192 := (ei5).trans (fI_kept (x_lt hT kH159 giq (by decide))).symm
    have m193 := (ek10).trans (fI_kept (x_lt hT kH159 gkq (by decide))).symm
    have m194 := (ei10).trans (fI_kept (x_lt hT kH159 giq (by decide))).symm
    have m195 := (ek13).trans (fI_kept (x_lt hT kH159 gkq (by decide))).symm
    have m196 := (ei13).trans (fI_kept (x_lt hT kH159 giq (by decide))).symm
    have m197 := (ek16).trans (fI_kept (x_lt hT kH159 gkq (by decide))).symm
    have m198 := (ei16).trans (fI_kept (x_lt hT kH159 giq (by decide))).symm
    have bx161 := ty_fi (x := x161) (k := 3) ex161 hTH159 ga rg_68 rfl
    refine W.eq (g2 := F0 m 432 ls [.int x160]) rfl ?_
    refine lv_pop hx hb dL_law_432 rfl ?_
    refine lv_aload_n hx hb dL_law_433 rfl (lv_at hl 1 rfl) ?_
    refine lv_aload_n hx hb dL_law_434 rfl (lv_at hl 3 rfl) ?_
    refine lv_iload_n hx hb dL_law_435 rfl (lv_at hl 0 rfl) ?_
    refine lv_iconst (v := 1) hx hb dL_law_436 (by decide) ?_
    refine lv_iadd hx hb dL_law_437 ?_
    refine lv_topi (fun x199 ex199 => ?_)
    have tx199 := i_add ex199 (by omega)
    have ejx199 : x199.toNatClampNeg = i.toNatClampNeg + 1 := by have h1 := i_cl (x := x199) (by omega); have h2 := i_cl (x := i) (by omega); omega
    refine va_sld hx hb hX hbl (Nat.not_le.mpr hbl) hSH159 (vp_in_iff.mpr (by omega)) dL_law_438 ?_
    refine W.eq (g2 := F0 m 439 ls [.int (xs (i.toNatClampNeg + 1)), .ref b]) (congrArg (fun z => F0 m 439 ls [.int (xs z), .ref b]) ejx199) ?_
    refine x_V (As := [.int (xs (i.toNatClampNeg + 1))]) (rest := []) C (a_X10_end_t l K G H159 ((xs (i.toNatClampNeg + 1))) (tb) hTH159 gb m171 g165 g166 g167 g168) yo_X10_end wM_L_42 ⟨⟨by decide, by decide⟩, show _ ≤ 284929 by omega, show _ ≤ 8247460 by omega⟩ (x_rv C hTH159 (ci := 10) rfl gb rg_112) rfl hl.1 rfl (Nat.le_of_ble_eq_true rfl) dL_law_439 hSH159 (AE_new hN hSH159.1) (fun vH200 H200 locsH200 pH200 zH200 kH200 hSH200 => ?_)
    obtain ⟨x201, x202, hvH200, bx201, ex202, hrH200, g203, g204, g205, g206, mf207, hTH200⟩ := pH200
    subst hvH200
    have f208 : ∀ j : Nat, fI H200 tq j = fI H tq j := fun j => (fI_kept (x_lt hTH159 kH200 gtq (by decide))).trans (f169 j)
    have f209 : ∀ j : Nat, fI H200 uq j = fI H uq j := fun j => (fI_kept (x_lt hTH159 kH200 guq (by decide))).trans (f170 j)
    have m210 := (m172).trans (fI_kept (x_lt hTH159 kH200 gw (by decide))).symm
    have m211 := (m174).trans (fI_kept (x_lt hTH159 kH200 gw (by decide))).symm
    have m212 := (m176).trans (fI_kept (x_lt hTH159 kH200 gw (by decide))).symm
    have m213 := (m178).trans (fI_kept (x_lt hTH159 kH200 gw (by decide))).symm
    have m214 := (m180).trans (fI_kept (x_lt hTH159 kH200 gw (by decide))).symm
    have m215 := (m182).trans (fI_kept (x_lt hTH159 kH200 gw (by decide))).symm
    have m216 := (m187).trans (fI_kept (x_lt hTH159 kH200 gkq (by decide))).symm
    have m217 := (m188).trans (fI_kept (x_lt hTH159 kH200 giq (by decide))).symm
    have m218 := (m189).trans (fI_kept (x_lt hTH159 kH200 gkq (by decide))).symm
    have m219 := (m190).trans (fI_kept (x_lt hTH159 kH200 giq (by decide))).symm
    have m220 := (m191).trans (fI_kept (x_lt hTH159 kH200 gkq (by decide))).symm
    have m221 := (m192).trans (fI_kept (x_lt hTH159 kH200 giq (by decide))).symm
    have m222 := (m193).trans (fI_kept (x_lt hTH159 kH200 gkq (by decide))).symm
    have m223 := (m194).trans (fI_kept (x_lt hTH159 kH200 giq (by decide))).symm
    have m224 := (m195).trans (fI_kept (x_lt hTH159 kH200 gkq (by decide))).symm
    have m225 := (m196).trans (fI_kept (x_lt hTH159 kH200 giq (by decide))).symm
    have m226 := (m197).trans (fI_kept (x_lt hTH159 kH200 gkq (by decide))).symm
    have m227 := (m198).trans (fI_kept (x_lt hTH159 kH200 giq (by decide))).symm
    have m228 := (m162).trans (fR_kept (x_lt hTH159 kH200 ga (by decide))).symm
    have m229 := (m163).trans (fR_kept (x_lt hTH159 kH200 ga (by decide))).symm
    have m230 := (fV_kept (x_lt hTH159 kH200 ga (by decide))).trans m164
    have m231 := (ex161).trans (fI_kept (x_lt hTH159 kH200 ga (by decide))).symm
    have m232 := (m173).trans (MF.i mf207 (k := 1) (by decide) (by decide)).symm
    have m233 := (m175).trans (MF.i mf207 (k := 2) (by decide) (by decide)).symm
    have m234 := (m177).trans (MF.i mf207 (k := 3) (by decide) (by decide)).symm
    have m235 := (m179).trans (MF.i mf207 (k := 59) (by decide) (by decide)).symm
    have m236 := (m181).trans (MF.i mf207 (k := 62) (by decide) (by decide)).symm
    have m237 := (m183).trans (MF.i mf207 (k := 65) (by decide) (by decide)).symm
    have m238 := (m184).trans (MF.r mf207 (k := 17) (by decide) (by decide)).symm
    have m239 := (m185).trans (MF.i mf207 (k := 70) (by decide) (by decide)).symm
    have m240 := (m186).trans (MF.r mf207 (k := 73) (by decide) (by decide)).symm
    have bx202 := ty_fi (x := x202) (k := 18) ex202 hTH200 gb rg_112 rfl
    refine W.eq (g2 := F0 m 442 ls [.int x201]) rfl ?_
    refine lv_pop hx hb dL_law_442 rfl ?_
    refine lv_goto (tgt := 1509) hx hb dL_law_443 (by decide) ?_
    have cfin := i_cl (x := x202) (by omega)
    exact nx G H200 locsH200 _ _ ls ⟨hTH200, hN, ga, gb, g203, g204, g205, g206, ⟨(by rw [← m231, ← ex202]; omega), (by rw [← m228, ← m210, ← m232]; omega), (by rw [← m228, ← m211, ← m233]; omega), (by rw [← m228, ← m212, ← m234]; omega), (by rw [← m228, ← m213, ← m235]; omega), (by rw [← m228, ← m214, ← m236]; omega), (by rw [← m228, ← m215, ← m237]; omega)⟩, Or.inr ⟨kq, m230, gkq, (by rw [← m239]; omega), (by rw [← m216, ← m240, ← m217]; omega), (by rw [← m218, ← m240, ← m219]; omega), (by rw [← m220, ← m240, ← m221]; omega), (by rw [← m222, ← m240, ← m223]; omega), (by rw [← m224, ← m240, ← m225]; omega), (by rw [← m226, ← m240, ← m227]; omega)⟩, (by unfold TB; rw [← m229, ← m238, ← ex202]; exact TBR.of htr f208 f209 (by omega)), hSH200⟩ hl ⟨by omega, by omega, fun h => by have h1 := h.symm.trans m230; cases h1⟩