set_option maxRecDepth 100000 in
set_option maxHeartbeats 8000000 in
theorem lw_c10 {p : Program} {l : Launch} {e : Env} {s : State} {m : MethodId} {below : List Frame} {meth : Method} {c : Code} {K : KE} {b0 L : Nat} {xs : Nat → Int32} {G : Nat → Option Nat} {H : Heap} {locs : List Loc} {a b : Nat} {cells slots : Nat} {ls : Array Slot} {i : Int32} {n : Nat} (D : LC p K s m meth c b0 L xs) (S : SX K s G H locs a b) (hl : lv_has ls 4 [(3, .int i), (2, .ref b), (1, .ref a), (0, .ref b0)]) (hi : 0 ≤ i.toInt ∧ i.toInt + 6 ≤ L) (hn : n ≤ 511) (hB : BD K H a cells slots) (nx : ∀ (G : Nat → Option Nat) (H : Heap) (locs : List Loc) (cells slots : Nat) (ls : Array Slot), SX K s G H locs a b → lv_has ls 4 [(3, .int i), (2, .ref b), (1, .ref a), (0, .ref b0)] → BD K H a cells slots → W p l e room_1 s m #[Value.ref b0] below meth c H locs cells slots (lw_Z below #[Value.ref b0] s) (F0 m 1509 ls [])) : W p l e room_1 s m #[Value.ref b0] below meth c H locs cells slots (lw_Z below #[Value.ref b0] s) (F0 m 588 ls []) := by
  have hI := hi
  obtain ⟨C, hX, hbl, hL⟩ := id D
  obtain ⟨hx, hb, hml, hown, hts, hKT, hr, hlocks, hnm⟩ := id C
  obtain ⟨hT, hN, ga, gb, cg, tu, wd, im, ⟨rt, r1, r4, r5, r10, r13, r16⟩, hk, htb, her, hS⟩ := S
  obtain ⟨hc, hs, hB0⟩ := hB
  have n_1 : (1 : Int32).toInt = 1 := rfl
  have n_2 : (2 : Int32).toInt = 2 := rfl
  obtain ⟨w, ew⟩ : ∃ z : Nat, z = fR H a (K.1.2 9 0) := ⟨_, rfl⟩
  have gw := ty_fr (q := w) (k := 0) (u := 0) ew hT ga rg_68 rfl
  rw [← ew] at r1 r4 r5 r10 r13 r16
  obtain ⟨ta, eta⟩ : ∃ z : Int32, z = fI H a (K.1.2 9 3) := ⟨_, rfl⟩
  rw [← eta] at rt
  obtain ⟨tb, etb⟩ : ∃ z : Int32, z = fI H b (K.1.2 10 18) := ⟨_, rfl⟩
  rw [← etb] at rt
  obtain ⟨s1, es1⟩ : ∃ z : Int32, z = fI H w (K.1.2 8 1) := ⟨_, rfl⟩
  rw [← es1] at r1
  obtain ⟨y1, ey1⟩ : ∃ z : Int32, z = fI H b (K.1.2 10 1) := ⟨_, rfl⟩
  rw [← ey1] at r1
  obtain ⟨s4, es4⟩ : ∃ z : Int32, z = fI H w (K.1.2 8 4) := ⟨_, rfl⟩
  rw [← es4] at r4
  obtain ⟨y4, ey4⟩ : ∃ z : Int32, z = fI H b (K.1.2 10 2) := ⟨_, rfl⟩
  rw [← ey4] at r4
  obtain ⟨s5, es5⟩ : ∃ z : Int32, z = fI H w (K.1.2 8 5) := ⟨_, rfl⟩
  rw [← es5] at r5
  obtain ⟨y5, ey5⟩ : ∃ z : Int32, z = fI H b (K.1.2 10 3) := ⟨_, rfl⟩
  rw [← ey5] at r5
  obtain ⟨s10, es10⟩ : ∃ z : Int32, z = fI H w (K.1.2 8 10) := ⟨_, rfl⟩
  rw [← es10] at r10
  obtain ⟨y10, ey10⟩ : ∃ z : Int32, z = fI H b (K.1.2 10 59) := ⟨_, rfl⟩
  rw [← ey10] at r10
  obtain ⟨s13, es13⟩ : ∃ z : Int32, z = fI H w (K.1.2 8 13) := ⟨_, rfl⟩
  rw [← es13] at r13
  obtain ⟨y13, ey13⟩ : ∃ z : Int32, z = fI H b (K.1.2 10 62) := ⟨_, rfl⟩
  rw [← ey13] at r13
  obtain ⟨s16, es16⟩ : ∃ z : Int32, z = fI H w (K.1.2 8 16) := ⟨_, rfl⟩
  rw [← es16] at r16
  obtain ⟨y16, ey16⟩ : ∃ z : Int32, z = fI H b (K.1.2 10 65) := ⟨_, rfl⟩
  rw [← ey16] at r16
  obtain ⟨tq, etq⟩ : ∃ z : Nat, z = fR H a (K.1.2 9 2) := ⟨_, rfl⟩
  have gtq := ty_fr (q := tq) (k := 2) (u := 108) etq hT ga rg_68 rfl
  obtain ⟨uq, euq⟩ : ∃ z : Nat, z = fR H b (K.1.2 10 17) := ⟨_, rfl⟩
  have guq := ty_fr (q := uq) (k := 17) (u := 126) euq hT gb rg_112 rfl
  have htr : TBR (fun j => fI H tq j) (fun j => fI H uq j) tb.toNatClampNeg := by rw [etq, euq, etb]; exact htb
  have ft0 : ∀ j : Nat, fI H tq j = fI H tq j := fun _ => rfl
  have fu0 : ∀ j : Nat, fI H uq j = fI H uq j := fun _ => rfl
  have bta := ty_fi (x := ta) (k := 3) eta hT ga rg_68 rfl
  have cta := i_cl (x := ta) (by omega)
  have btb := ty_fi (x := tb) (k := 18) etb hT gb rg_112 rfl
  have ctb := i_cl (x := tb) (by omega)
  obtain ⟨her0, hsl1, hsl2⟩ := her
  have hsl0 := And.intro hsl1 hsl2
  clear hsl1 hsl2
  rw [← ew] at her0 hsl0
  have re : RE K H w b s1.toInt := RE.cast her0 (by rw [← ey1]; exact r1)
  have hsl : 0 ≤ s5.toInt ∧ s5.toInt ≤ 9999 := by rw [es5]; exact hsl0
  clear her0 hsl0
  have bt_s1 := ty_fi (x := s1) (k := 1) es1 hT gw rg_0 rfl
  have bt_s4 := ty_fi (x := s4) (k := 4) es4 hT gw rg_0 rfl
  have bt_y1 := ty_fi (x := y1) (k := 1) ey1 hT gb rg_112 rfl
  have bt_y4 := ty_fi (x := y4) (k := 2) ey4 hT gb rg_112 rfl
  rcases hk with ⟨kn, h70⟩ | ⟨kq, kn, gkq, h70, q1, q4, q5, q10, q13, q16, rke, ks1, ks2⟩
  · skip
    obtain ⟨hi, ehi⟩ : ∃ z : Int32, z = fI H b (K.1.2 10 70) := ⟨_, rfl⟩
    rw [← ehi] at h70
    obtain ⟨hc0, hs0⟩ := hB0 kn
    obtain ⟨iq, eiq⟩ : ∃ z : Nat, z = fR H b (K.1.2 10 73) := ⟨_, rfl⟩
    have giq := ty_fr (q := iq) (k := 73) (u := 162) eiq hT gb rg_112 rfl
    refine lv_aload_n hx hb dL_law_588 rfl (lv_at hl 2 rfl) ?_
    refine lv_aload_n hx hb dL_law_589 rfl (lv_at hl 3 rfl) ?_
    refine lv_iload_n hx hb dL_law_590 rfl (lv_at hl 0 rfl) ?_
    refine lv_iconst (v := 1) hx hb dL_law_591 (by decide) ?_
    refine lv_iadd hx hb dL_law_592 ?_
    refine lv_topi (fun x101 ex101 => ?_)
    obtain ⟨tx101, ejx101, evx101⟩ := lw_ix (k := 1) ex101 hI hL rfl (by decide)
    clear tx101
    refine va_sld hx hb hX hbl (Nat.not_le.mpr hbl) hS (vp_in_iff.mpr evx101) dL_law_593 ?_
    refine W.eq (g2 := F0 m 594 ls [.int (xs (i.toNatClampNeg + 1)), .ref a]) (congrArg (fun z => F0 m 594 ls [.int (xs z), .ref a]) ejx101) ?_
    refine lv_aload_n hx hb dL_law_594 rfl (lv_at hl 3 rfl) ?_
    refine lv_iload_n hx hb dL_law_595 rfl (lv_at hl 0 rfl) ?_
    refine lv_iconst (v := 2) hx hb dL_law_596 (by decide) ?_
    refine lv_iadd hx hb dL_law_597 ?_
    refine lv_topi (fun x102 ex102 => ?_)
    obtain ⟨tx102, ejx102, evx102⟩ := lw_ix (k := 2) ex102 hI hL rfl (by decide)
    clear tx102
    refine va_sld hx hb hX hbl (Nat.not_le.mpr hbl) hS (vp_in_iff.mpr evx102) dL_law_598 ?_
    refine W.eq (g2 := F0 m 599 ls [.int (xs (i.toNatClampNeg + 2)), .int (xs (i.toNatClampNeg + 1)), .ref a]) (congrArg (fun z => F0 m 599 ls [.int (xs z), .int (xs (i.toNatClampNeg + 1)), .ref a]) ejx102) ?_
    refine x_V (As := [.int (xs (i.toNatClampNeg + 1)), .int (xs (i.toNatClampNeg + 2))]) (rest := []) C (a_X9_tone l K G H ((xs (i.toNatClampNeg + 1))) ((xs (i.toNatClampNeg + 2))) hT ga) yo_X9_tone wM_L_60 ⟨⟨by decide, by decide⟩, show _ ≤ 60000 from Nat.le_trans hc (by decide), show _ ≤ 8922250 from Nat.le_trans hs (by decide)⟩ (x_rv C hT (ci := 9) rfl ga rg_68) rfl hl.1 rfl (Nat.le_of_ble_eq_true rfl) dL_law_599 hS (AE_new hN hS.1) (fun vH103 H103 locsH103 pH103 zH103 kH103 hSH103 => ?_)
    obtain ⟨x104, hvH103, hTH103⟩ := pH103
    subst hvH103
    have g105 : CG (avw K H103 b) := CG.congr (fun k hk j => av_eff hT kH103 gb (by decide) (CG_eff [83, 84] (by decide) k hk)) cg
    have g106 : TU (avw K H103 b) (svw K H103 b) := TU.congr (fun k hk j => av_eff hT kH103 gb (by decide) (TU_eff [83, 84] (by decide) k hk)) (fun k hk => sv_eff hT kH103 gb (by decide)) tu
    have g107 : WD (avw K H103 b) := WD.congr (fun k hk j => av_eff hT kH103 gb (by decide) (WD_eff [83, 84] (by decide) k hk)) wd
    have g108 : IM (avw K H103 b) := IM.congr (fun k hk j => av_eff hT kH103 gb (by decide) (IM_eff [83, 84] (by decide) k hk)) im
    have f109 : ∀ j : Nat, fI H103 tq j = fI H tq j := fun j => (fI_kept (x_lt hT kH103 gtq (by decide))).trans (ft0 j)
    have f110 : ∀ j : Nat, fI H103 uq j = fI H uq j := fun j => (fI_kept (x_lt hT kH103 guq (by decide))).trans (fu0 j)
    have m111 := (ew).trans (fR_kept (x_lt hT kH103 ga (by decide))).symm
    have m112 := (eta).trans (fI_kept (x_lt hT kH103 ga (by decide))).symm
    have m113 := (etb).trans (fI_kept (x_lt hT kH103 gb (by decide))).symm
    have m114 := (es1).trans (fI_kept (x_lt hT kH103 gw (by decide))).symm
    have m115 := (ey1).trans (fI_kept (x_lt hT kH103 gb (by decide))).symm
    have m116 := (es4).trans (fI_kept (x_lt hT kH103 gw (by decide))).symm
    have m117 := (ey4).trans (fI_kept (x_lt hT kH103 gb (by decide))).symm
    have m118 := (es5).trans (fI_kept (x_lt hT kH103 gw (by decide))).symm
    have m119 := (ey5).trans (fI_kept (x_lt hT kH103 gb (by decide))).symm
    have m120 := (es10).trans (fI_kept (x_lt hT kH103 gw (by decide))).symm
    have m121 := (ey10).trans (fI_kept (x_lt hT kH103 gb (by decide))).symm
    have m122 := (es13).trans (fI_kept (x_lt hT kH103 gw (by decide))).symm
    have m123 := (ey13).trans (fI_kept (x_lt hT kH103 gb (by decide))).symm
    have m124 := (es16).trans (fI_kept (x_lt hT kH103 gw (by decide))).symm
    have m125 := (ey16).trans (fI_kept (x_lt hT kH103 gb (by decide))).symm
    have m126 := (etq).trans (fR_kept (x_lt hT kH103 ga (by decide))).symm
    have m127 := (euq).trans (fR_kept (x_lt hT kH103 gb (by decide))).symm
    have m128 := (ehi).trans (fI_kept (x_lt hT kH103 gb (by decide))).symm
    have m129 := (fV_kept (x_lt hT kH103 ga (by decide))).trans kn
    have m130 := (eiq).trans (fR_kept (x_lt hT kH103 gb (by decide))).symm
    refine W.eq (g2 := F0 m 602 ls [.int x104]) rfl ?_
    have re131 : RE K H103 w b s1.toInt := RE.cls re hT gw gb (fun q t hq ht => x_lt hT kH103 hq (by first | exact nmr ht (by decide) | exact nmo ht (by decide) | exact nme ht (by decide) | exact nmq ht (by decide) | decide | (intro z; simp only [List.mem_cons, List.not_mem_nil, or_false] at z <;> omega) | omega))
    refine lv_pop hx hb dL_law_602 rfl ?_
    refine lv_aload_n hx hb dL_law_603 rfl (lv_at hl 1 rfl) ?_
    refine lv_aload_n hx hb dL_law_604 rfl (lv_at hl 3 rfl) ?_
    refine lv_iload_n hx hb dL_law_605 rfl (lv_at hl 0 rfl) ?_
    refine lv_iconst (v := 1) hx hb dL_law_606 (by decide) ?_
    refine lv_iadd hx hb dL_law_607 ?_
    refine lv_topi (fun x132 ex132 => ?_)
    obtain ⟨tx132, ejx132, evx132⟩ := lw_ix (k := 1) ex132 hI hL rfl (by decide)
    clear tx132
    refine va_sld hx hb hX hbl (Nat.not_le.mpr hbl) hSH103 (vp_in_iff.mpr evx132) dL_law_608 ?_
    refine W.eq (g2 := F0 m 609 ls [.int (xs (i.toNatClampNeg + 1)), .ref b]) (congrArg (fun z => F0 m 609 ls [.int (xs z), .ref b]) ejx132) ?_
    refine lv_aload_n hx hb dL_law_609 rfl (lv_at hl 3 rfl) ?_
    refine lv_iload_n hx hb dL_law_610 rfl (lv_at hl 0 rfl) ?_
    refine lv_iconst (v := 2) hx hb dL_law_611 (by decide) ?_
    refine lv_iadd hx hb dL_law_612 ?_
    refine lv_topi (fun x133 ex133 => ?_)
    obtain ⟨tx133, ejx133, evx133⟩ := lw_ix (k := 2) ex133 hI hL rfl (by decide)
    clear tx133
    refine va_sld hx hb hX hbl (Nat.not_le.mpr hbl) hSH103 (vp_in_iff.mpr evx133) dL_law_613 ?_
    refine W.eq (g2 := F0 m 614 ls [.int (xs (i.toNatClampNeg + 2)), .int (xs (i.toNatClampNeg + 1)), .ref b]) (congrArg (fun z => F0 m 614 ls [.int (xs z), .int (xs (i.toNatClampNeg + 1)), .ref b]) ejx133) ?_
    refine x_V (As := [.int (xs (i.toNatClampNeg + 1)), .int (xs (i.toNatClampNeg + 2))]) (rest := []) C (a_X10_tone l K G H103 ((xs (i.toNatClampNeg + 1))) ((xs (i.toNatClampNeg + 2))) hTH103 gb g105 g106 g107 g108) yo_X10_tone wM_L_63 ⟨⟨by decide, by decide⟩, show _ ≤ 60000 from Nat.le_trans hc (by decide), show _ ≤ 8922250 from Nat.le_trans hs (by decide)⟩ (x_rv C hTH103 (ci := 10) rfl gb rg_112) rfl hl.1 rfl (Nat.le_of_ble_eq_true rfl) dL_law_614 hSH103 (AE_new hN hSH103.1) (fun vH134 H134 locsH134 pH134 zH134 kH134 hSH134 => ?_)
    obtain ⟨x135, hvH134, g136, g137, g138, g139, mf140, hTH134⟩ := pH134
    subst hvH134
    have f141 : ∀ j : Nat, fI H134 tq j = fI H tq j := fun j => (fI_kept (x_lt hTH103 kH134 gtq (by decide))).trans (f109 j)
    have f142 : ∀ j : Nat, fI H134 uq j = fI H uq j := fun j => (fI_kept (x_lt hTH103 kH134 guq (by decide))).trans (f110 j)
    have m143 := (m111).trans (fR_kept (x_lt hTH103 kH134 ga (by decide))).symm
    have m144 := (m112).trans (fI_kept (x_lt hTH103 kH134 ga (by decide))).symm
    have m145 := (m114).trans (fI_kept (x_lt hTH103 kH134 gw (by decide))).symm
    have m146 := (m116).trans (fI_kept (x_lt hTH103 kH134 gw (by decide))).symm
    have m147 := (m118).trans (fI_kept (x_lt hTH103 kH134 gw (by decide))).symm
    have m148 := (m120).trans (fI_kept (x_lt hTH103 kH134 gw (by decide))).symm
    have m149 := (m122).trans (fI_kept (x_lt hTH103 kH134 gw (by decide))).symm
    have m150 := (m124).trans (fI_kept (x_lt hTH103 kH134 gw (by decide))).symm
    have m151 := (m126).trans (fR_kept (x_lt hTH103 kH134 ga (by decide))).symm
    have m152 := (fV_kept (x_lt hTH103 kH134 ga (by decide))).trans m129
    have m153 := (m113).trans (MF.i mf140 (k := 18) (by decide) (by decide)).symm
    have m154 := (m115).trans (MF.i mf140 (k := 1) (by decide) (by decide)).symm
    have m155 := (m117).trans (MF.i mf140 (k := 2) (by decide) (by decide)).symm
    have m156 := (m119).trans (MF.i mf140 (k := 3) (by decide) (by decide)).symm
    have m157 := (m121).trans (MF.i mf140 (k := 59) (by decide) (by decide)).symm
    have m158 := (m123).trans (MF.i mf140 (k := 62) (by decide) (by decide)).symm
    have m159 := (m125).trans (MF.i mf140 (k := 65) (by decide) (by decide)).symm
    have m160 := (m127).trans (MF.r mf140 (k := 17) (by decide) (by decide)).symm
    have m161 := (m128).trans (MF.i mf140 (k := 70) (by decide) (by decide)).symm
    have m162 := (m130).trans (MF.r mf140 (k := 73) (by decide) (by decide)).symm
    refine W.eq (g2 := F0 m 617 ls [.int x135]) rfl ?_
    have re163 : RE K H134 w b s1.toInt := RE.ref re131 hTH103 gw gb (fun k hk => MF.r mf140 (by omega) (by intro z; simp only [List.mem_cons, List.not_mem_nil, or_false] at z; omega)) (fun q t hq ht => x_lt hTH103 kH134 hq (by first | exact nmr ht (by decide) | exact nmo ht (by decide) | exact nme ht (by decide) | exact nmq ht (by decide) | decide | (intro z; simp only [List.mem_cons, List.not_mem_nil, or_false] at z <;> omega) | omega))
    refine lv_pop hx hb dL_law_617 rfl ?_
    refine lv_goto (tgt := 1509) hx hb dL_law_618 (by decide) ?_
    exact nx G H134 locsH134 _ _ ls ⟨hTH134, hN, ga, gb, g136, g137, g138, g139, ⟨(by rw [← m144, ← m153]; exact rt), (by rw [← m143, ← m145, ← m154]; exact r1), (by rw [← m143, ← m146, ← m155]; exact r4), (by rw [← m143, ← m147, ← m156]; exact r5), (by rw [← m143, ← m148, ← m157]; exact r10), (by rw [← m143, ← m149, ← m158]; exact r13), (by rw [← m143, ← m150, ← m159]; exact r16)⟩, Or.inl ⟨m152, (by rw [← m161]; exact h70)⟩, (by unfold TB; rw [← m151, ← m160, ← m153]; exact TBR.of htr f141 f142 (by omega)), (by unfold RELE; rw [← m143, ← m154, ← m147]; exact ⟨RE.cast re163 (by omega), by omega, by omega⟩), hSH134⟩ hl ⟨hc, hs, fun _ => ⟨hc0, hs0⟩⟩
  · skip
    obtain ⟨hi, ehi⟩ : ∃ z : Int32, z = fI H b (K.1.2 10 70) := ⟨_, rfl⟩
    rw [← ehi] at h70
    obtain ⟨iq, eiq⟩ : ∃ z : Nat, z = fR H b (K.1.2 10 73) := ⟨_, rfl⟩
    have giq := ty_fr (q := iq) (k := 73) (u := 162) eiq hT gb rg_112 rfl
    rw [← eiq] at q1 q4 q5 q10 q13 q16
    obtain ⟨k1, ek1⟩ : ∃ z : Int32, z = fI H kq (K.1.2 8 1) := ⟨_, rfl⟩
    rw [← ek1] at q1
    obtain ⟨i1, ei1⟩ : ∃ z : Int32, z = fI H iq ((0 : Int32).toNatClampNeg) := ⟨_, rfl⟩
    rw [← ei1] at q1
    obtain ⟨k4, ek4⟩ : ∃ z : Int32, z = fI H kq (K.1.2 8 4) := ⟨_, rfl⟩
    rw [← ek4] at q4
    obtain ⟨i4, ei4⟩ : ∃ z : Int32, z = fI H iq ((1 : Int32).toNatClampNeg) := ⟨_, rfl⟩
    rw [← ei4] at q4
    obtain ⟨k5, ek5⟩ : ∃ z : Int32, z = fI H kq (K.1.2 8 5) := ⟨_, rfl⟩
    rw [← ek5] at q5
    obtain ⟨i5, ei5⟩ : ∃ z : Int32, z = fI H iq ((2 : Int32).toNatClampNeg) := ⟨_, rfl⟩
    rw [← ei5] at q5
    obtain ⟨k10, ek10⟩ : ∃ z : Int32, z = fI H kq (K.1.2 8 10) := ⟨_, rfl⟩
    rw [← ek10] at q10
    obtain ⟨i10, ei10⟩ : ∃ z : Int32, z = fI H iq ((3 : Int32).toNatClampNeg) := ⟨_, rfl⟩
    rw [← ei10] at q10
    obtain ⟨k13, ek13⟩ : ∃ z : Int32, z = fI H kq (K.1.2 8 13) := ⟨_, rfl⟩
    rw [← ek13] at q13
    obtain ⟨i13, ei13⟩ : ∃ z : Int32, z = fI H iq ((4 : Int32).toNatClampNeg) := ⟨_, rfl⟩
    rw [← ei13] at q13
    obtain ⟨k16, ek16⟩ : ∃ z : Int32, z = fI H kq (K.1.2 8 16) := ⟨_, rfl⟩
    rw [← ek16] at q16
    obtain ⟨i16, ei16⟩ : ∃ z : Int32, z = fI H iq ((5 : Int32).toNatClampNeg) := ⟨_, rfl⟩
    rw [← ei16] at q16
    rw [← eiq, ← ek1] at rke
    have hsk : 0 ≤ k5.toInt ∧ k5.toInt ≤ 9999 := by rw [ek5]; exact ⟨ks1, ks2⟩
    refine lv_aload_n hx hb dL_law_588 rfl (lv_at hl 2 rfl) ?_
    refine lv_aload_n hx hb dL_law_589 rfl (lv_at hl 3 rfl) ?_
    refine lv_iload_n hx hb dL_law_590 rfl (lv_at hl 0 rfl) ?_
    refine lv_iconst (v := 1) hx hb dL_law_591 (by decide) ?_
    refine lv_iadd hx hb dL_law_592 ?_
    refine lv_topi (fun x164 ex164 => ?_)
    obtain ⟨tx164, ejx164, evx164⟩ := lw_ix (k := 1) ex164 hI hL rfl (by decide)
    clear tx164
    refine va_sld hx hb hX hbl (Nat.not_le.mpr hbl) hS (vp_in_iff.mpr evx164) dL_law_593 ?_
    refine W.eq (g2 := F0 m 594 ls [.int (xs (i.toNatClampNeg + 1)), .ref a]) (congrArg (fun z => F0 m 594 ls [.int (xs z), .ref a]) ejx164) ?_
    refine lv_aload_n hx hb dL_law_594 rfl (lv_at hl 3 rfl) ?_
    refine lv_iload_n hx hb dL_law_595 rfl (lv_at hl 0 rfl) ?_
    refine lv_iconst (v := 2) hx hb dL_law_596 (by decide) ?_
    refine lv_iadd hx hb dL_law_597 ?_
    refine lv_topi (fun x165 ex165 => ?_)
    obtain ⟨tx165, ejx165, evx165⟩ := lw_ix (k := 2) ex165 hI hL rfl (by decide)
    clear tx165
    refine va_sld hx hb hX hbl (Nat.not_le.mpr hbl) hS (vp_in_iff.mpr evx165) dL_law_598 ?_
    refine W.eq (g2 := F0 m 599 ls [.int (xs (i.toNatClampNeg + 2)), .int (xs (i.toNatClampNeg + 1)), .ref a]) (congrArg (fun z => F0 m 599 ls [.int (xs z), .int (xs (i.toNatClampNeg + 1)), .ref a]) ejx165) ?_
    refine x_V (As := [.int (xs (i.toNatClampNeg + 1)), .int (xs (i.toNatClampNeg + 2))]) (rest := []) C (a_X9_tone l K G H ((xs (i.toNatClampNeg + 1))) ((xs (i.toNatClampNeg + 2))) hT ga) yo_X9_tone wM_L_60 ⟨⟨by decide, by decide⟩, show _ ≤ 60000 from Nat.le_trans hc (by decide), show _ ≤ 8922250 from Nat.le_trans hs (by decide)⟩ (x_rv C hT (ci := 9) rfl ga rg_68) rfl hl.1 rfl (Nat.le_of_ble_eq_true rfl) dL_law_599 hS (AE_new hN hS.1) (fun vH166 H166 locsH166 pH166 zH166 kH166 hSH166 => ?_)
    obtain ⟨x167, hvH166, hTH166⟩ := pH166
    subst hvH166
    have g168 : CG (avw K H166 b) := CG.congr (fun k hk j => av_eff hT kH166 gb (by decide) (CG_eff [83, 84] (by decide) k hk)) cg
    have g169 : TU (avw K H166 b) (svw K H166 b) := TU.congr (fun k hk j => av_eff hT kH166 gb (by decide) (TU_eff [83, 84] (by decide) k hk)) (fun k hk => sv_eff hT kH166 gb (by decide)) tu
    have g170 : WD (avw K H166 b) := WD.congr (fun k hk j => av_eff hT kH166 gb (by decide) (WD_eff [83, 84] (by decide) k hk)) wd
    have g171 : IM (avw K H166 b) := IM.congr (fun k hk j => av_eff hT kH166 gb (by decide) (IM_eff [83, 84] (by decide) k hk)) im
    have f172 : ∀ j : Nat, fI H166 tq j = fI H tq j := fun j => (fI_kept (x_lt hT kH166 gtq (by decide))).trans (ft0 j)
    have f173 : ∀ j : Nat, fI H166 uq j = fI H uq j := fun j => (fI_kept (x_lt hT kH166 guq (by decide))).trans (fu0 j)
    have m174 := (ew).trans (fR_kept (x_lt hT kH166 ga (by decide))).symm
    have m175 := (eta).trans (fI_kept (x_lt hT kH166 ga (by decide))).symm
    have m176 := (etb).trans (fI_kept (x_lt hT kH166 gb (by decide))).symm
    have m177 := (es1).trans (fI_kept (x_lt hT kH166 gw (by decide))).symm
    have m178 := (ey1).trans (fI_kept (x_lt hT kH166 gb (by decide))).symm
    have m179 := (es4).trans (fI_kept (x_lt hT kH166 gw (by decide))).symm
    have m180 := (ey4).trans (fI_kept (x_lt hT kH166 gb (by decide))).symm
    have m181 := (es5).trans (fI_kept (x_lt hT kH166 gw (by decide))).symm
    have m182 := (ey5).trans (fI_kept (x_lt hT kH166 gb (by decide))).symm
    have m183 := (es10).trans (fI_kept (x_lt hT kH166 gw (by decide))).symm
    have m184 := (ey10).trans (fI_kept (x_lt hT kH166 gb (by decide))).symm
    have m185 := (es13).trans (fI_kept (x_lt hT kH166 gw (by decide))).symm
    have m186 := (ey13).trans (fI_kept (x_lt hT kH166 gb (by decide))).symm
    have m187 := (es16).trans (fI_kept (x_lt hT kH166 gw (by decide))).symm
    have m188 := (ey16).trans (fI_kept (x_lt hT kH166 gb (by decide))).symm
    have m189 := (etq).trans (fR_kept (x_lt hT kH166 ga (by decide))).symm
    have m190 := (euq).trans (fR_kept (x_lt hT kH166 gb (by decide))).symm
    have m191 := (ehi).trans (fI_kept (x_lt hT kH166 gb (by decide))).symm
    have m192 := (fV_kept (x_lt hT kH166 ga (by decide))).trans kn
    have m193 := (eiq).trans (fR_kept (x_lt hT kH166 gb (by decide))).symm
    have m194 := (ek1).trans (fI_kept (x_lt hT kH166 gkq (by decide))).symm
    have m195 := (ei1).trans (fI_kept (x_lt hT kH166 giq (by decide))).symm
    have m196 := (ek4).trans (fI_kept (x_lt hT kH166 gkq (by decide))).symm
    have m197 := (ei4).trans (fI_kept (x_lt hT kH166 giq (by decide))).symm
    have m198 := (ek5).trans (fI_kept (x_lt hT kH166 gkq (by decide))).symm
    have m199 := (ei5).trans (fI_kept (x_lt hT kH166 giq (by decide))).symm
    have m200 := (ek10).trans (fI_kept (x_lt hT kH166 gkq (by decide))).symm
    have m201 := (ei10).trans (fI_kept (x_lt hT kH166 giq (by decide))).symm
    have m202 := (ek13).trans (fI_kept (x_lt hT kH166 gkq (by decide))).symm
    have m203 := (ei13).trans (fI_kept (x_lt hT kH166 giq (by decide))).symm
    have m204 := (ek16).trans (fI_kept (x_lt hT kH166 gkq (by decide))).symm
    have m205 := (ei16).trans (fI_kept (x_lt hT kH166 giq (by decide))).symm
    refine W.eq (g2 := F0 m 602 ls [.int x167]) rfl ?_
    have rk206 : RKI K H166 kq iq k1.toInt := RKI.kept rke hT gkq (x_lt hT kH166 giq (by first | exact nmr ht (by decide) | exact nmo ht (by decide) | exact nme ht (by decide) | exact nmq ht (by decide) | decide | (intro z; simp only [List.mem_cons, List.not_mem_nil, or_false] at z <;> omega) | omega)) (fun q t hq ht => x_lt hT kH166 hq (by first | exact nmr ht (by decide) | exact nmo ht (by decide) | exact nme ht (by decide) | exact nmq ht (by decide) | decide | (intro z; simp only [List.mem_cons, List.not_mem_nil, or_false] at z <;> omega) | omega))
    have re207 : RE K H166 w b s1.toInt := RE.cls re hT gw gb (fun q t hq ht => x_lt hT kH166 hq (by first | exact nmr ht (by decide) | exact nmo ht (by decide) | exact nme ht (by decide) | exact nmq ht (by decide) | decide | (intro z; simp only [List.mem_cons, List.not_mem_nil, or_false] at z <;> omega) | omega))
    refine lv_pop hx hb dL_law_602 rfl ?_
    refine lv_aload_n hx hb dL_law_603 rfl (lv_at hl 1 rfl) ?_
    refine lv_aload_n hx hb dL_law_604 rfl (lv_at hl 3 rfl) ?_
    refine lv_iload_n hx hb dL_law_605 rfl (lv_at hl 0 rfl) ?_
    refine lv_iconst (v := 1) hx hb dL_law_606 (by decide) ?_
    refine lv_iadd hx hb dL_law_607 ?_
    refine lv_topi (fun x208 ex208 => ?_)
    obtain ⟨tx208, ejx208, evx208⟩ := lw_ix (k := 1) ex208 hI hL rfl (by decide)
    clear tx208
    refine va_sld hx hb hX hbl (Nat.not_le.mpr hbl) hSH166 (vp_in_iff.mpr evx208) dL_law_608 ?_
    refine W.eq (g2 := F0 m 609 ls [.int (xs (i.toNatClampNeg + 1)), .ref b]) (congrArg (fun z => F0 m 609 ls [.int (xs z), .ref b]) ejx208) ?_
    refine lv_aload_n hx hb dL_law_609 rfl (lv_at hl 3 rfl) ?_
    refine lv_iload_n hx hb dL_law_610 rfl (lv_at hl 0 rfl) ?_
    refine lv_iconst (v := 2) hx hb dL_law_611 (by decide) ?_
    refine lv_iadd hx hb dL_law_612 ?_
    refine lv_topi (fun x209 ex209 => ?_)
    obtain ⟨tx209, ejx209, evx209⟩ := lw_ix (k := 2) ex209 hI hL rfl (by decide)
    clear tx209
    refine va_sld hx hb hX hbl (Nat.not_le.mpr hbl) hSH166 (vp_in_iff.mpr evx209) dL_law_613 ?_
    refine W.eq (g2 := F0 m 614 ls [.int (xs (i.toNatClampNeg + 2)), .int (xs (i.toNatClampNeg + 1)), .ref b]) (congrArg (fun z => F0 m 614 ls [.int (xs z), .int (xs (i.toNatClampNeg + 1)), .ref b]) ejx209) ?_
    refine x_V (As := [.int (xs (i.toNatClampNeg + 1)), .int (xs (i.toNatClampNeg + 2))]) (rest := []) C (a_X10_tone l K G H166 ((xs (i.toNatClampNeg + 1))) ((xs (i.toNatClampNeg + 2))) hTH166 gb g168 g169 g170 g171) yo_X10_tone wM_L_63 ⟨⟨by decide, by decide⟩, show _ ≤ 60000 from Nat.le_trans hc (by decide), show _ ≤ 8922250 from Nat.le_trans hs (by decide)⟩ (x_rv C hTH166 (ci := 10) rfl gb rg_112) rfl hl.1 rfl (Nat.le_of_ble_eq_true rfl) dL_law_614 hSH166 (AE_new hN hSH166.1) (fun vH210 H210 locsH210 pH210 zH210 kH210 hSH210 => ?_)
    obtain ⟨x211, hvH210, g212, g213, g214, g215, mf216, hTH210⟩ := pH210
    subst hvH210
    have f217 : ∀ j : Nat, fI H210 tq j = fI H tq j := fun j => (fI_kept (x_lt hTH166 kH210 gtq (by decide))).trans (f172 j)
    have f218 : ∀ j : Nat, fI H210 uq j = fI H uq j := fun j => (fI_kept (x_lt hTH166 kH210 guq (by decide))).trans (f173 j)
    have m219 := (m174).trans (fR_kept (x_lt hTH166 kH210 ga (by decide))).symm
    have m220 := (m175).trans (fI_kept (x_lt hTH166 kH210 ga (by decide))).symm
    have m221 := (m177).trans (fI_kept (x_lt hTH166 kH210 gw (by decide))).symm
    have m222 := (m179).trans (fI_kept (x_lt hTH166 kH210 gw (by decide))).symm
    have m223 := (m181).trans (fI_kept (x_lt hTH166 kH210 gw (by decide))).symm
    have m224 := (m183).trans (fI_kept (x_lt hTH166 kH210 gw (by decide))).symm
    have m225 := (m185).trans (fI_kept (x_lt hTH166 kH210 gw (by decide))).symm
    have m226 := (m187).trans (fI_kept (x_lt hTH166 kH210 gw (by decide))).symm
    have m227 := (m189).trans (fR_kept (x_lt hTH166 kH210 ga (by decide))).symm
    have m228 := (fV_kept (x_lt hTH166 kH210 ga (by decide))).trans m192
    have m229 := (m194).trans (fI_kept (x_lt hTH166 kH210 gkq (by decide))).symm
    have m230 := (m195).trans (fI_kept (x_lt hTH166 kH210 giq (by decide))).symm
    have m231 := (m196).trans (fI_kept (x_lt hTH166 kH210 gkq (by decide))).symm
    have m232 := (m197).trans (fI_kept (x_lt hTH166 kH210 giq (by decide))).symm
    have m233 := (m198).trans (fI_kept (x_lt hTH166 kH210 gkq (by decide))).symm
    have m234 := (m199).trans (fI_kept (x_lt hTH166 kH210 giq (by decide))).symm
    have m235 := (m200).trans (fI_kept (x_lt hTH166 kH210 gkq (by decide))).symm
    have m236 := (m201).trans (fI_kept (x_lt hTH166 kH210 giq (by decide))).symm
    have m237 := (m202).trans (fI_kept (x_lt hTH166 kH210 gkq (by decide))).symm
    have m238 := (m203).trans (fI_kept (x_lt hTH166 kH210 giq (by decide))).symm
    have m239 := (m204).trans (fI_kept (x_lt hTH166 kH210 gkq (by decide))).symm
    have m240 := (m205).trans (fI_kept (x_lt hTH166 kH210 giq (by decide))).symm
    have m241 := (m176).trans (MF.i mf216 (k := 18) (by decide) (by decide)).symm
    have m242 := (m178).trans (MF.i mf216 (k := 1) (by decide) (by decide)).symm
    have m243 := (m180).trans (MF.i mf216 (k := 2) (by decide) (by decide)).symm
    have m244 := (m182).trans (MF.i mf216 (k := 3) (by decide) (by decide)).symm
    have m245 := (m184).trans (MF.i mf216 (k := 59) (by decide) (by decide)).symm
    have m246 := (m186).trans (MF.i mf216 (k := 62) (by decide) (by decide)).symm
    have m247 := (m188).trans (MF.i mf216 (k := 65) (by decide) (by decide)).symm
    have m248 := (m190).trans (MF.r mf216 (k := 17) (by decide) (by decide)).symm
    have m249 := (m191).trans (MF.i mf216 (k := 70) (by decide) (by decide)).symm
    have m250 := (m193).trans (MF.r mf216 (k := 73) (by decide) (by decide)).symm
    refine W.eq (g2 := F0 m 617 ls [.int x211]) rfl ?_
    have rk251 : RKI K H210 kq iq k1.toInt := RKI.kept rk206 hTH166 gkq (x_lt hTH166 kH210 giq (by first | exact nmr ht (by decide) | exact nmo ht (by decide) | exact nme ht (by decide) | exact nmq ht (by decide) | decide | (intro z; simp only [List.mem_cons, List.not_mem_nil, or_false] at z <;> omega) | omega)) (fun q t hq ht => x_lt hTH166 kH210 hq (by first | exact nmr ht (by decide) | exact nmo ht (by decide) | exact nme ht (by decide) | exact nmq ht (by decide) | decide | (intro z; simp only [List.mem_cons, List.not_mem_nil, or_false] at z <;> omega) | omega))
    have re252 : RE K H210 w b s1.toInt := RE.ref re207 hTH166 gw gb (fun k hk => MF.r mf216 (by omega) (by intro z; simp only [List.mem_cons, List.not_mem_nil, or_false] at z; omega)) (fun q t hq ht => x_lt hTH166 kH210 hq (by first | exact nmr ht (by decide) | exact nmo ht (by decide) | exact nme ht (by decide) | exact nmq ht (by decide) | decide | (intro z; simp only [List.mem_cons, List.not_mem_nil, or_false] at z <;> omega) | omega))
    refine lv_pop hx hb dL_law_617 rfl ?_
    refine lv_goto (tgt := 1509) hx hb dL_law_618 (by decide) ?_
    exact nx G H210 locsH210 _ _ ls ⟨hTH210, hN, ga, gb, g212, g213, g214, g215, ⟨(by rw [← m220, ← m241]; exact rt), (by rw [← m219, ← m221, ← m242]; exact r1), (by rw [← m219, ← m222, ← m243]; exact r4), (by rw [← m219, ← m223, ← m244]; exact r5), (by rw [← m219, ← m224, ← m245]; exact r10), (by rw [← m219, ← m225, ← m246]; exact r13), (by rw [← m219, ← m226, ← m247]; exact r16)⟩, Or.inr ⟨kq, m228, gkq, (by rw [← m249]; exact h70), (by rw [← m229, ← m250, ← m230]; exact q1), (by rw [← m231, ← m250, ← m232]; exact q4), (by rw [← m233, ← m250, ← m234]; exact q5), (by rw [← m235, ← m250, ← m236]; exact q10), (by rw [← m237, ← m250, ← m238]; exact q13), (by rw [← m239, ← m250, ← m240]; exact q16), (by rw [← m250, ← m229]; exact RKI.cast rk251 (by omega)), (by rw [← m233]; omega), (by rw [← m233]; omega)⟩, (by unfold TB; rw [← m227, ← m248, ← m241]; exact TBR.of htr f217 f218 (by omega)), (by unfold RELE; rw [← m219, ← m242, ← m223]; exact ⟨RE.cast re252 (by omega), by omega, by omega⟩), hSH210⟩ hl ⟨hc, hs, fun h => by have h1 := h.symm.trans m228; cases h1⟩
set_option maxRecDepth 100000 in
set_option maxHeartbeats 8000000 in
theorem lw_c11 {p : Program} {l : Launch} {e : Env} {s : State} {m : MethodId} {below : List Frame} {meth : Method} {c : Code} {K : KE} {b0 L : Nat} {xs : Nat → Int32} {G : Nat → Option Nat} {H : Heap} {locs : List Loc} {a b : Nat} {cells slots : Nat} {ls : Array Slot} {i : Int32} {n : Nat} (D : LC p K s m meth c b0 L xs) (S : SX K s G H locs a b) (hl : lv_has ls 4 [(3, .int i), (2, .ref b), (1, .ref a), (0, .ref b0)]) (hi : 0 ≤ i.toInt ∧ i.toInt + 6 ≤ L) (hn : n ≤ 511) (hB : BD K H a cells slots) (nx : ∀ (G : Nat → Option Nat) (H : Heap) (locs : List Loc) (cells slots : Nat) (ls : Array Slot), SX K s G H locs a b → lv_has ls 4 [(3, .int i), (2, .ref b), (1, .ref a), (0, .ref b0)] → BD K H a cells slots → W p l e room_1 s m #[Value.ref b0] below meth c H locs cells slots (lw_Z below #[Value.ref b0] s) (F0 m 1509 ls [])) : W p l e room_1 s m #[Value.ref b0] below meth c H locs cells slots (lw_Z below #[Value.ref b0] s) (F0 m 621 ls []) := by
  have hI := hi
  obtain ⟨C, hX, hbl, hL⟩ := id D
  obtain ⟨hx, hb, hml, hown, hts, hKT, hr, hlocks, hnm⟩ := id C
  obtain ⟨hT, hN, ga, gb, cg, tu, wd, im, ⟨rt, r1, r4, r5, r10, r13, r16⟩, hk, htb, her, hS⟩ := S
  obtain ⟨hc, hs, hB0⟩ := hB
  have n_1 : (1 : Int32).toInt = 1 := rfl
  have n_2 : (2 : Int32).toInt = 2 := rfl
  have n_3 : (3 : Int32).toInt = 3 := rfl
  obtain ⟨w, ew⟩ : ∃ z : Nat, z = fR H a (K.1.2 9 0) := ⟨_, rfl⟩
  have gw := ty_fr (q := w) (k := 0) (u := 0) ew hT ga rg_68 rfl
  rw [← ew] at r1 r4 r5 r10 r13 r16
  obtain ⟨ta, eta⟩ : ∃ z : Int32, z = fI H a (K.1.2 9 3) := ⟨_, rfl⟩
  rw [← eta] at rt
  obtain ⟨tb, etb⟩ : ∃ z : Int32, z = fI H b (K.1.2 10 18) := ⟨_, rfl⟩
  rw [← etb] at rt
  obtain ⟨s1, es1⟩ : ∃ z : Int32, z = fI H w (K.1.2 8 1) := ⟨_, rfl⟩
  rw [← es1] at r1
  obtain ⟨y1, ey1⟩ : ∃ z : Int32, z = fI H b (K.1.2 10 1) := ⟨_, rfl⟩
  rw [← ey1] at r1
  obtain ⟨s4, es4⟩ : ∃ z : Int32, z = fI H w (K.1.2 8 4) := ⟨_, rfl⟩
  rw [← es4] at r4
  obtain ⟨y4, ey4⟩ : ∃ z : Int32, z = fI H b (K.1.2 10 2) := ⟨_, rfl⟩
  rw [← ey4] at r4
  obtain ⟨s5, es5⟩ : ∃ z : Int32, z = fI H w (K.1.2 8 5) := ⟨_, rfl⟩
  rw [← es5] at r5
  obtain ⟨y5, ey5⟩ : ∃ z : Int32, z = fI H b (K.1.2 10 3) := ⟨_, rfl⟩
  rw [← ey5] at r5
  obtain ⟨s10, es10⟩ : ∃ z : Int32, z = fI H w (K.1.2 8 10) := ⟨_, rfl⟩
  rw [← es10] at r10
  obtain ⟨y10, ey10⟩ : ∃ z : Int32, z = fI H b (K.1.2 10 59) := ⟨_, rfl⟩
  rw [← ey10] at r10
  obtain ⟨s13, es13⟩ : ∃ z : Int32, z = fI H w (K.1.2 8 13) := ⟨_, rfl⟩
  rw [← es13] at r13
  obtain ⟨y13, ey13⟩ : ∃ z : Int32, z = fI H b (K.1.2 10 62) := ⟨_, rfl⟩
  rw [← ey13] at r13
  obtain ⟨s16, es16⟩ : ∃ z : Int32, z = fI H w (K.1.2 8 16) := ⟨_, rfl⟩
  rw [← es16] at r16
  obtain ⟨y16, ey16⟩ : ∃ z : Int32, z = fI H b (K.1.2 10 65) := ⟨_, rfl⟩
  rw [← ey16] at r16
  obtain ⟨tq, etq⟩ : ∃ z : Nat, z = fR H a (K.1.2 9 2) := ⟨_, rfl⟩
  have gtq := ty_fr (q := tq) (k := 2) (u := 108) etq hT ga rg_68 rfl
  obtain ⟨uq, euq⟩ : ∃ z : Nat, z = fR H b (K.1.2 10 17) := ⟨_, rfl⟩
  have guq := ty_fr (q := uq) (k := 17) (u := 126) euq hT gb rg_112 rfl
  have htr : TBR (fun j => fI H tq j) (fun j => fI H uq j) tb.toNatClampNeg := by rw [etq, euq, etb]; exact htb
  have ft0 : ∀ j : Nat, fI H tq j = fI H tq j := fun _ => rfl
  have fu0 : ∀ j : Nat, fI H uq j = fI H uq j := fun _ => rfl
  have bta := ty_fi (x := ta) (k := 3) eta hT ga rg_68 rfl
  have cta := i_cl (x := ta) (by omega)
  have btb := ty_fi (x := tb) (k := 18) etb hT gb rg_112 rfl
  have ctb := i_cl (x := tb) (by omega)
  obtain ⟨her0, hsl1, hsl2⟩ := her
  have hsl0 := And.intro hsl1 hsl2
  clear hsl1 hsl2
  rw [← ew] at her0 hsl0
  have re : RE K H w b s1.toInt := RE.cast her0 (by rw [← ey1]; exact r1)
  have hsl : 0 ≤ s5.toInt ∧ s5.toInt ≤ 9999 := by rw [es5]; exact hsl0
  clear her0 hsl0
  have bt_s1 := ty_fi (x := s1) (k := 1) es1 hT gw rg_0 rfl
  have bt_s4 := ty_fi (x := s4) (k := 4) es4 hT gw rg_0 rfl
  have bt_y1 := ty_fi (x := y1) (k := 1) ey1 hT gb rg_112 rfl
  have bt_y4 := ty_fi (x := y4) (k := 2) ey4 hT gb rg_112 rfl
  rcases hk with ⟨kn, h70⟩ | ⟨kq, kn, gkq, h70, q1, q4, q5, q10, q13, q16, rke, ks1, ks2⟩
  · skip
    obtain ⟨hi, ehi⟩ : ∃ z : Int32, z = fI H b (K.1.2 10 70) := ⟨_, rfl⟩
    rw [← ehi] at h70
    obtain ⟨hc0, hs0⟩ := hB0 kn
    obtain ⟨iq, eiq⟩ : ∃ z : Nat, z = fR H b (K.1.2 10 73) := ⟨_, rfl⟩
    have giq := ty_fr (q := iq) (k := 73) (u := 162) eiq hT gb rg_112 rfl
    refine lv_aload_n hx hb dL_law_621 rfl (lv_at hl 2 rfl) ?_
    refine lv_aload_n hx hb dL_law_622 rfl (lv_at hl 3 rfl) ?_
    refine lv_iload_n hx hb dL_law_623 rfl (lv_at hl 0 rfl) ?_
    refine lv_iconst (v := 1) hx hb dL_law_624 (by decide) ?_
    refine lv_iadd hx hb dL_law_625 ?_
    refine lv_topi (fun x101 ex101 => ?_)
    obtain ⟨tx101, ejx101, evx101⟩ := lw_ix (k := 1) ex101 hI hL rfl (by decide)
    clear tx101
    refine va_sld hx hb hX hbl (Nat.not_le.mpr hbl) hS (vp_in_iff.mpr evx101) dL_law_626 ?_
    refine W.eq (g2 := F0 m 627 ls [.int (xs (i.toNatClampNeg + 1)), .ref a]) (congrArg (fun z => F0 m 627 ls [.int (xs z), .ref a]) ejx101) ?_
    refine lv_aload_n hx hb dL_law_627 rfl (lv_at hl 3 rfl) ?_
    refine lv_iload_n hx hb dL_law_628 rfl (lv_at hl 0 rfl) ?_
    refine lv_iconst (v := 2) hx hb dL_law_629 (by decide) ?_
    refine lv_iadd hx hb dL_law_630 ?_
    refine lv_topi (fun x102 ex102 => ?_)
    obtain ⟨tx102, ejx102, evx102⟩ := lw_ix (k := 2) ex102 hI hL rfl (by decide)
    clear tx102
    refine va_sld hx hb hX hbl (Nat.not_le.mpr hbl) hS (vp_in_iff.mpr evx102) dL_law_631 ?_
    refine W.eq (g2 := F0 m 632 ls [.int (xs (i.toNatClampNeg + 2)), .int (xs (i.toNatClampNeg + 1)), .ref a]) (congrArg (fun z => F0 m 632 ls [.int (xs z), .int (xs (i.toNatClampNeg + 1)), .ref a]) ejx102) ?_
    refine lv_aload_n hx hb dL_law_632 rfl (lv_at hl 3 rfl) ?_
    refine lv_iload_n hx hb dL_law_633 rfl (lv_at hl 0 rfl) ?_
    refine lv_iconst (v := 3) hx hb dL_law_634 (by decide) ?_
    refine lv_iadd hx hb dL_law_635 ?_
    refine lv_topi (fun x103 ex103 => ?_)
    obtain ⟨tx103, ejx103, evx103⟩ := lw_ix (k := 3) ex103 hI hL rfl (by decide)
    clear tx103
    refine va_sld hx hb hX hbl (Nat.not_le.mpr hbl) hS (vp_in_iff.mpr evx103) dL_law_636 ?_
    refine W.eq (g2 := F0 m 637 ls [.int (xs (i.toNatClampNeg + 3)), .int (xs (i.toNatClampNeg + 2)), .int (xs (i.toNatClampNeg + 1)), .ref a]) (congrArg (fun z => F0 m 637 ls [.int (xs z), .int (xs (i.toNatClampNeg + 2)), .int (xs (i.toNatClampNeg + 1)), .ref a]) ejx103) ?_
    have sp104 : (0 ≤ (xs (i.toNatClampNeg + 1)).toInt ∧ (xs (i.toNatClampNeg + 1)).toInt < s1.toInt) ∨ ((xs (i.toNatClampNeg + 1)).toInt < 0 ∨ s1.toInt ≤ (xs (i.toNatClampNeg + 1)).toInt) := by omega
    rcases sp104 with hsp | hsp
    · skip
      have cxe := i_cl (x := (xs (i.toNatClampNeg + 1))) (by omega)
      obtain ⟨bq, ebq⟩ : ∃ z : Nat, z = fR H w (K.1.2 8 0) := ⟨_, rfl⟩
      have gbq := ty_fr (q := bq) (k := 0) (u := 25) ebq hT gw rg_0 rfl
      obtain ⟨bb, ebb⟩ : ∃ z : Nat, z = fR H bq ((xs (i.toNatClampNeg + 1)) : Int32).toNatClampNeg := ⟨_, rfl⟩
      have ebo : ow K H w ((xs (i.toNatClampNeg + 1)) : Int32).toNatClampNeg = bb := by rw [ow_b (by omega), ← ebq, ← ebb]
      have gbb : G bb = some 1 := by rw [← ebo]; exact ow_g hT gw (by omega)
      obtain ⟨rw1, erw1⟩ : ∃ z : Nat, z = fR H bb (K.1.2 0 1) := ⟨_, rfl⟩
      have grw1 := ty_fr (q := rw1) (k := 1) (u := 2) erw1 hT gbb rg_1 rfl
      obtain ⟨rw2, erw2⟩ : ∃ z : Nat, z = fR H bb (K.1.2 0 2) := ⟨_, rfl⟩
      have grw2 := ty_fr (q := rw2) (k := 2) (u := 3) erw2 hT gbb rg_1 rfl
      obtain ⟨rw3, erw3⟩ : ∃ z : Nat, z = fR H bb (K.1.2 0 3) := ⟨_, rfl⟩
      have grw3 := ty_fr (q := rw3) (k := 3) (u := 4) erw3 hT gbb rg_1 rfl
      obtain ⟨rw4, erw4⟩ : ∃ z : Nat, z = fR H bb (K.1.2 0 4) := ⟨_, rfl⟩
      have grw4 := ty_fr (q := rw4) (k := 4) (u := 5) erw4 hT gbb rg_1 rfl
      obtain ⟨rw5, erw5⟩ : ∃ z : Nat, z = fR H bb (K.1.2 0 5) := ⟨_, rfl⟩
      have grw5 := ty_fr (q := rw5) (k := 5) (u := 6) erw5 hT gbb rg_1 rfl
      obtain ⟨rw6, erw6⟩ : ∃ z : Nat, z = fR H bb (K.1.2 0 6) := ⟨_, rfl⟩
      have grw6 := ty_fr (q := rw6) (k := 6) (u := 7) erw6 hT gbb rg_1 rfl
      obtain ⟨rw7, erw7⟩ : ∃ z : Nat, z = fR H bb (K.1.2 0 7) := ⟨_, rfl⟩
      have grw7 := ty_fr (q := rw7) (k := 7) (u := 8) erw7 hT gbb rg_1 rfl
      obtain ⟨bz, ebz⟩ : ∃ z : Int32, z = fI H bb (K.1.2 0 0) := ⟨_, rfl⟩
      have bt_bz := ty_fi (x := bz) (k := 0) ebz hT gbb rg_1 rfl
      obtain ⟨bp, ebp⟩ : ∃ z : Int32, z = fI H bb (K.1.2 0 8) := ⟨_, rfl⟩
      have bt_bp := ty_fi (x := bp) (k := 8) ebp hT gbb rg_1 rfl
      obtain ⟨bl, ebl⟩ : ∃ z : Int32, z = fI H bb (K.1.2 0 9) := ⟨_, rfl⟩
      have bt_bl := ty_fi (x := bl) (k := 9) ebl hT gbb rg_1 rfl
      obtain ⟨hE_, hO_, hG_⟩ := re.2.1.1 ((xs (i.toNatClampNeg + 1)) : Int32).toNatClampNeg (by omega) (by omega)
      have ez_ : vcN K H w ((xs (i.toNatClampNeg + 1)) : Int32).toNatClampNeg = vwC K H bb := by show vwC K H (ow K H w ((xs (i.toNatClampNeg + 1)) : Int32).toNatClampNeg) = _; rw [ebo]
      rw [ez_] at hE_ hO_ hG_
      replace hE_ : EqW (vwC K H bb) (vwR K H b ((xs (i.toNatClampNeg + 1)) : Int32).toNatClampNeg) := hE_
      have hz3_ : 3 ≤ bz.toInt := by have z := hO_.1; rw [vwC_f (Or.inl rfl), ← ebz] at z; exact z
      have cfe := i_cl (x := s4) (by omega)
      obtain ⟨nE, kkE, vvE, hnE, hoE, ⟨htE, hcE, hbE⟩, hrE0⟩ := re.2.2 (s4 : Int32).toNatClampNeg (by omega)
      have lwE : LWT (s4 : Int32).toNatClampNeg = 1 := if_pos (by omega)
      rw [lwE] at hoE htE hrE0
      obtain ⟨lq_, elq_⟩ : ∃ z : Nat, z = fR H w (K.1.2 8 2) := ⟨_, rfl⟩
      have glq_ := ty_fr (q := lq_) (k := 2) (u := 26) elq_ hT gw rg_0 rfl
      obtain ⟨tx_, etx_⟩ : ∃ z : Nat, z = fR H lq_ (s4 : Int32).toNatClampNeg := ⟨_, rfl⟩
      have eow_ : ow K H w (10 + (s4 : Int32).toNatClampNeg) = tx_ := by rw [ow_l (by omega), ← elq_, ← etx_]
      have gtx_ : G tx_ = some 16 := by rw [← eow_]; exact ow_t hT gw (by omega) (by omega)
      rw [eow_] at htE hcE
      have hxE : TXC K H tx_ 1 (txFs kkE vvE 1) (txFw kkE vvE 1) := htE.txc hcE
      obtain ⟨q105, eq105⟩ : ∃ z : Nat, @Eq Ad z (fR H a (K.1.2 9 5)) := ⟨_, rfl⟩
      have gq105 := ty_fr (q := q105) (k := 5) (u := 82) eq105 hT ga rg_68 rfl
      refine x_V (As := [.int (xs (i.toNatClampNeg + 1)), .int (xs (i.toNatClampNeg + 2)), .int (xs (i.toNatClampNeg + 3))]) (rest := []) C (a_X9_shave_v l K G H ((xs (i.toNatClampNeg + 1))) ((xs (i.toNatClampNeg + 2))) ((xs (i.toNatClampNeg + 3))) (bp) (bl) (s1) (s4) (s5) (bz) (txFs kkE vvE 1) (txFw kkE vvE 1) hT ga (by omega) gq105 eq105 gw ew glq_ elq_ gtx_ etx_ gbq ebq gbb ebb grw1 erw1 grw4 erw4 grw5 erw5 grw6 erw6 grw7 erw7 ebp ebl es1 es4 es5 ebz (by omega) (by omega) (hxE) (fun j hj => by have z := hG_.1 j hj; rw [vwC_a (k := 5) (by decide)] at z; rw [erw5]; exact z)) yo_X9_shave wM_L_64 ⟨⟨by decide, by decide⟩, show _ ≤ 60000 from Nat.le_trans hc (by decide), show _ ≤ 8922250 from Nat.le_trans hs (by decide)⟩ (x_rv C hT (ci := 9) rfl ga rg_68) rfl hl.1 rfl (Nat.le_of_ble_eq_true rfl) dL_law_637 hS (AE_new hN hS.1) (fun vH106 H106 locsH106 pH106 zH106 kH106 hSH106 => ?_)
      obtain ⟨x107, x108, x109, hvH106, ex108, ex109, m110, m111, m112, m113, m114, m115, m116, m117, m118, m119, hTH106⟩ := pH106
      subst hvH106
      have g120 : CG (avw K H106 b) := CG.congr (fun k hk j => av_eff hT kH106 gb (by decide) (CG_eff [1, 2, 7, 8, 83, 84] (by decide) k hk)) cg
      have g121 : TU (avw K H106 b) (svw K H106 b) := TU.congr (fun k hk j => av_eff hT kH106 gb (by decide) (TU_eff [1, 2, 7, 8, 83, 84] (by decide) k hk)) (fun k hk => sv_eff hT kH106 gb (by decide)) tu
      have g122 : WD (avw K H106 b) := WD.congr (fun k hk j => av_eff hT kH106 gb (by decide) (WD_eff [1, 2, 7, 8, 83, 84] (by decide) k hk)) wd
      have g123 : IM (avw K H106 b) := IM.congr (fun k hk j => av_eff hT kH106 gb (by decide) (IM_eff [1, 2, 7, 8, 83, 84] (by decide) k hk)) im
      have f124 : ∀ j : Nat, fI H106 tq j = fI H tq j := fun j => (fI_kept (x_lt hT kH106 gtq (by decide))).trans (ft0 j)
      have f125 : ∀ j : Nat, fI H106 uq j = fI H uq j := fun j => (fI_kept (x_lt hT kH106 guq (by decide))).trans (fu0 j)
      have m126 := (ew).trans (fR_kept (x_lt hT kH106 ga (by decide))).symm
      have m127 := (eta).trans (fI_kept (x_lt hT kH106 ga (by decide))).symm
      have m128 := (etb).trans (fI_kept (x_lt hT kH106 gb (by decide))).symm
      have m129 := (es1).trans (fI_kept (x_lt hT kH106 gw (by decide))).symm
      have m130 := (ey1).trans (fI_kept (x_lt hT kH106 gb (by decide))).symm
      have m131 := (es4).trans (fI_kept (x_lt hT kH106 gw (by decide))).symm
      have m132 := (ey4).trans (fI_kept (x_lt hT kH106 gb (by decide))).symm
      have m133 := (es5).trans (fI_kept (x_lt hT kH106 gw (by decide))).symm
      have m134 := (ey5).trans (fI_kept (x_lt hT kH106 gb (by decide))).symm
      have m135 := (es10).trans (fI_kept (x_lt hT kH106 gw (by decide))).symm
      have m136 := (ey10).trans (fI_kept (x_lt hT kH106 gb (by decide))).symm
      have m137 := (es13).trans (fI_kept (x_lt hT kH106 gw (by decide))).symm
      have m138 := (ey13).trans (fI_kept (x_lt hT kH106 gb (by decide))).symm
      have m139 := (es16).trans (fI_kept (x_lt hT kH106 gw (by decide))).symm
      have m140 := (ey16).trans (fI_kept (x_lt hT kH106 gb (by decide))).symm
      have m141 := (etq).trans (fR_kept (x_lt hT kH106 ga (by decide))).symm
      have m142 := (euq).trans (fR_kept (x_lt hT kH106 gb (by decide))).symm
      have m143 := (ehi).trans (fI_kept (x_lt hT kH106 gb (by decide))).symm
      have m144 := (fV_kept (x_lt hT kH106 ga (by decide))).trans kn
      have m145 := (eiq).trans (fR_kept (x_lt hT kH106 gb (by decide))).symm
      have m146 := (ebq).trans (fR_kept (x_lt hT kH106 gw (by decide))).symm
      have m147 := (ebb).trans (fR_kept (x_lt hT kH106 gbq (by decide))).symm
      have m148 := (elq_).trans (fR_kept (x_lt hT kH106 gw (by decide))).symm
      have m149 := (etx_).trans (fR_kept (x_lt hT kH106 glq_ (by decide))).symm
      have m150 := (eq105).trans (fR_kept (x_lt hT kH106 ga (by decide))).symm
      have bx108 := ty_fi (x := x108) (k := 8) ex108 hTH106 gbb rg_1 rfl
      have bx109 := ty_fi (x := x109) (k := 9) ex109 hTH106 gbb rg_1 rfl
      refine W.eq (g2 := F0 m 640 ls [.int x107]) rfl ?_
      have nw_ : NWF K H106 H w := fun k _ => fR_kept (m118 w 0 gw (by decide) (by decide) (G_ne gw gbb (by decide)) (G_ne gw grw1 (by decide)) (G_ne gw grw6 (by decide)) (G_ne gw grw7 (by decide)))
      have rb_ : RFB K H106 H bb := m119
      obtain ⟨brf, bot, bat, btx⟩ := bar_one (H1 := H106) re.1 hT gw (j := ((xs (i.toNatClampNeg + 1)) : Int32).toNatClampNeg) (by omega) ebo nw_ rb_ (fun q t hq ht n1 n2 => m118 q t hq (by omega) (by omega) n1 (by rw [erw1]; exact n2 1 (by decide)) (by rw [erw6]; exact n2 6 (by decide)) (by rw [erw7]; exact n2 7 (by decide)))
      have er1 : ∀ bar, vrN K H106 b bar = vrN K H b bar := vrN.reg hT gb (fun k _ => fR_kept (x_lt hT kH106 gb (by first | exact nmr ht (by decide) | exact nmo ht (by decide) | exact nme ht (by decide) | exact nmq ht (by decide) | decide | (intro z; simp only [List.mem_cons, List.not_mem_nil, or_false] at z <;> omega) | omega))) (fun q t hq ht => x_lt hT kH106 hq (by first | exact nmr ht (by decide) | exact nmo ht (by decide) | exact nme ht (by decide) | exact nmq ht (by decide) | decide | (intro z; simp only [List.mem_cons, List.not_mem_nil, or_false] at z <;> omega) | omega))
      have tr1 : TPK (TRP K H106 b) (TRP K H b) := TRP.reg hT gb (fun k _ _ => fR_kept (x_lt hT kH106 gb (by first | exact nmr ht (by decide) | exact nmo ht (by decide) | exact nme ht (by decide) | exact nmq ht (by decide) | decide | (intro z; simp only [List.mem_cons, List.not_mem_nil, or_false] at z <;> omega) | omega))) (fun q t hq ht => x_lt hT kH106 hq (by first | exact nmr ht (by decide) | exact nmo ht (by decide) | exact nme ht (by decide) | exact nmq ht (by decide) | decide | (intro z; simp only [List.mem_cons, List.not_mem_nil, or_false] at z <;> omega) | omega))
      refine lv_pop hx hb dL_law_640 rfl ?_
      refine lv_aload_n hx hb dL_law_641 rfl (lv_at hl 1 rfl) ?_
      refine lv_aload_n hx hb dL_law_642 rfl (lv_at hl 3 rfl) ?_
      refine lv_iload_n hx hb dL_law_643 rfl (lv_at hl 0 rfl) ?_
      refine lv_iconst (v := 1) hx hb dL_law_644 (by decide) ?_
      refine lv_iadd hx hb dL_law_645 ?_
      refine lv_topi (fun x151 ex151 => ?_)
      obtain ⟨tx151, ejx151, evx151⟩ := lw_ix (k := 1) ex151 hI hL rfl (by decide)
      clear tx151
      refine va_sld hx hb hX hbl (Nat.not_le.mpr hbl) hSH106 (vp_in_iff.mpr evx151) dL_law_646 ?_
      refine W.eq (g2 := F0 m 647 ls [.int (xs (i.toNatClampNeg + 1)), .ref b]) (congrArg (fun z => F0 m 647 ls [.int (xs z), .ref b]) ejx151) ?_
      refine lv_aload_n hx hb dL_law_647 rfl (lv_at hl 3 rfl) ?_
      refine lv_iload_n hx hb dL_law_648 rfl (lv_at hl 0 rfl) ?_
      refine lv_iconst (v := 2) hx hb dL_law_649 (by decide) ?_
      refine lv_iadd hx hb dL_law_650 ?_
      refine lv_topi (fun x152 ex152 => ?_)
      obtain ⟨tx152, ejx152, evx152⟩ := lw_ix (k := 2) ex152 hI hL rfl (by decide)
      clear tx152
      refine va_sld hx hb hX hbl (Nat.not_le.mpr hbl) hSH106 (vp_in_iff.mpr evx152) dL_law_651 ?_
      refine W.eq (g2 := F0 m 652 ls [.int (xs (i.toNatClampNeg + 2)), .int (xs (i.toNatClampNeg + 1)), .ref b]) (congrArg (fun z => F0 m 652 ls [.int (xs z), .int (xs (i.toNatClampNeg + 1)), .ref b]) ejx152) ?_
      refine lv_aload_n hx hb dL_law_652 rfl (lv_at hl 3 rfl) ?_
      refine lv_iload_n hx hb dL_law_653 rfl (lv_at hl 0 rfl) ?_
      refine lv_iconst (v := 3) hx hb dL_law_654 (by decide) ?_
      refine lv_iadd hx hb dL_law_655 ?_
      refine lv_topi (fun x153 ex153 => ?_)
      obtain ⟨tx153, ejx153, evx153⟩ := lw_ix (k := 3) ex153 hI hL rfl (by decide)
      clear tx153
      refine va_sld hx hb hX hbl (Nat.not_le.mpr hbl) hSH106 (vp_in_iff.mpr evx153) dL_law_656 ?_
      refine W.eq (g2 := F0 m 657 ls [.int (xs (i.toNatClampNeg + 3)), .int (xs (i.toNatClampNeg + 2)), .int (xs (i.toNatClampNeg + 1)), .ref b]) (congrArg (fun z => F0 m 657 ls [.int (xs z), .int (xs (i.toNatClampNeg + 2)), .int (xs (i.toNatClampNeg + 1)), .ref b]) ejx153) ?_
      have ev_ : vwR K H106 b ((xs (i.toNatClampNeg + 1)) : Int32).toNatClampNeg = vwR K H b ((xs (i.toNatClampNeg + 1)) : Int32).toNatClampNeg := er1 _
      obtain ⟨q154, eq154⟩ : ∃ z : Nat, @Eq Ad z (fR H106 b (K.1.2 10 24)) := ⟨_, rfl⟩
      have gq154 := ty_fr (q := q154) (k := 24) (u := 128) eq154 hTH106 gb rg_112 rfl
      have cye := i_cl (x := y4) (by omega)
      have hy4_ : (y4 : Int32).toNatClampNeg = (s4 : Int32).toNatClampNeg := by omega
      have hr1_ := tr1 _ kkE vvE 1 nE (by omega) hnE hrE0
      rw [← hy4_] at hr1_
      obtain ⟨hrE, hmE⟩ := hr1_
      have cmE := i_cl (x := fI H106 (fR H106 b (K.1.2 10 24)) (y4 : Int32).toNatClampNeg) (by omega)
      have hyE : TXR K H106 b (y4 : Int32).toNatClampNeg 1 (txRs kkE vvE 1 (y4 : Int32).toNatClampNeg) (txRw kkE vvE 1 (y4 : Int32).toNatClampNeg) := hrE.txr (by omega)
      have ccE := i_cl (x := fI H tx_ (K.1.2 7 0)) (by omega)
      have hTT_ := EqT.of htE hrE (by decide) (by omega) (by omega)
      obtain ⟨q155, eq155⟩ : ∃ z : Nat, @Eq Ad z (fR H106 b (K.1.2 10 5)) := ⟨_, rfl⟩
      have gq155 := ty_fr (q := q155) (k := 5) (u := 114) eq155 hTH106 gb rg_112 rfl
      obtain ⟨q156, eq156⟩ : ∃ z : Nat, @Eq Ad z (fR H106 b (K.1.2 10 11)) := ⟨_, rfl⟩
      have gq156 := ty_fr (q := q156) (k := 11) (u := 120) eq156 hTH106 gb rg_112 rfl
      obtain ⟨q157, eq157⟩ : ∃ z : Nat, @Eq Ad z (fR H106 b (K.1.2 10 12)) := ⟨_, rfl⟩
      have gq157 := ty_fr (q := q157) (k := 12) (u := 121) eq157 hTH106 gb rg_112 rfl
      obtain ⟨q158, eq158⟩ : ∃ z : Nat, @Eq Ad z (fR H106 b (K.1.2 10 10)) := ⟨_, rfl⟩
      have gq158 := ty_fr (q := q158) (k := 10) (u := 119) eq158 hTH106 gb rg_112 rfl
      obtain ⟨q159, eq159⟩ : ∃ z : Nat, @Eq Ad z (fR H106 b (K.1.2 10 13)) := ⟨_, rfl⟩
      have gq159 := ty_fr (q := q159) (k := 13) (u := 122) eq159 hTH106 gb rg_112 rfl
      obtain ⟨q160, eq160⟩ : ∃ z : Nat, @Eq Ad z (fR H106 b (K.1.2 10 9)) := ⟨_, rfl⟩
      have gq160 := ty_fr (q := q160) (k := 9) (u := 118) eq160 hTH106 gb rg_112 rfl
      obtain ⟨q161, eq161⟩ : ∃ z : Nat, @Eq Ad z (fR H106 b (K.1.2 10 4)) := ⟨_, rfl⟩
      have gq161 := ty_fr (q := q161) (k := 4) (u := 113) eq161 hTH106 gb rg_112 rfl
      obtain ⟨q162, eq162⟩ : ∃ z : Nat, @Eq Ad z (fR H106 b (K.1.2 10 8)) := ⟨_, rfl⟩
      have gq162 := ty_fr (q := q162) (k := 8) (u := 117) eq162 hTH106 gb rg_112 rfl
      obtain ⟨x163, ex163⟩ : ∃ z : Int32, z = fI H106 q158 ((xs (i.toNatClampNeg + 1)) : Int32).toNatClampNeg := ⟨_, rfl⟩
      have bx163 := ty_ai (x := x163) ex163 hTH106 gq158 rg_119 (by omega)
      obtain ⟨x164, ex164⟩ : ∃ z : Int32, z = fI H106 q159 ((xs (i.toNatClampNeg + 1)) : Int32).toNatClampNeg := ⟨_, rfl⟩
      have bx164 := ty_ai (x := x164) ex164 hTH106 gq159 rg_122 (by omega)
      obtain ⟨x165, ex165⟩ : ∃ z : Int32, z = fI H106 q161 ((xs (i.toNatClampNeg + 1)) : Int32).toNatClampNeg := ⟨_, rfl⟩
      have bx165 := ty_ai (x := x165) ex165 hTH106 gq161 rg_113 (by omega)
      refine x_V (As := [.int (xs (i.toNatClampNeg + 1)), .int (xs (i.toNatClampNeg + 2)), .int (xs (i.toNatClampNeg + 3))]) (rest := []) C (a_X10_shave_v l K G H106 ((xs (i.toNatClampNeg + 1))) ((xs (i.toNatClampNeg + 2))) ((xs (i.toNatClampNeg + 3))) (x163) (x164) (y1) (x165) (y4) (y5) (txRs kkE vvE 1 (y4 : Int32).toNatClampNeg) (txRw kkE vvE 1 (y4 : Int32).toNatClampNeg) hTH106 gb (by omega) gq155 eq155 gq156 eq156 gq157 eq157 gq158 eq158 gq159 eq159 gq160 eq160 gq161 eq161 gq162 eq162 ex163 ex164 m130 ex165 m132 m134 g120 g121 g122 g123 (by omega) (by omega) (hyE) (fun j hj => by have z := hG_.1 j hj; rw [hE_.a 5 j (by decide) (by show j < 3; exact hj), ← ev_, vwR_a (k := 5) (by decide)] at z; rw [eq160]; exact z)) yo_X10_shave wM_L_67 ⟨⟨by decide, by decide⟩, show _ ≤ 60000 from Nat.le_trans hc (by decide), show _ ≤ 8922250 from Nat.le_trans hs (by decide)⟩ (x_rv C hTH106 (ci := 10) rfl gb rg_112) rfl hl.1 rfl (Nat.le_of_ble_eq_true rfl) dL_law_657 hSH106 (AE_new hN hSH106.1) (fun vH166 H166 locsH166 pH166 zH166 kH166 hSH166 => ?_)
      obtain ⟨x167, x168, x169, hvH166, ex168, ex169, m170, m171, m172, m173, m174, m175, m176, m177, m178, m179, g180, g181, g182, g183, mf184, m185, m186, m187, hTH166⟩ := pH166
      subst hvH166
      have f188 : ∀ j : Nat, fI H166 tq j = fI H tq j := fun j => (fI_kept (x_lt hTH106 kH166 gtq (by decide))).trans (f124 j)
      have f189 : ∀ j : Nat, fI H166 uq j = fI H uq j := fun j => (fI_kept (x_lt hTH106 kH166 guq (by decide))).trans (f125 j)
      have m190 := (m126).trans (fR_kept (x_lt hTH106 kH166 ga (by decide))).symm
      have m191 := (m127).trans (fI_kept (x_lt hTH106 kH166 ga (by decide))).symm
      have m192 := (m129).trans (fI_kept (x_lt hTH106 kH166 gw (by decide))).symm
      have m193 := (m131).trans (fI_kept (x_lt hTH106 kH166 gw (by decide))).symm
      have m194 := (m133).trans (fI_kept (x_lt hTH106 kH166 gw (by decide))).symm
      have m195 := (m135).trans (fI_kept (x_lt hTH106 kH166 gw (by decide))).symm
      have m196 := (m137).trans (fI_kept (x_lt hTH106 kH166 gw (by decide))).symm
      have m197 := (m139).trans (fI_kept (x_lt hTH106 kH166 gw (by decide))).symm
      have m198 := (m141).trans (fR_kept (x_lt hTH106 kH166 ga (by decide))).symm
      have m199 := (fV_kept (x_lt hTH106 kH166 ga (by decide))).trans m144
      have m200 := (m146).trans (fR_kept (x_lt hTH106 kH166 gw (by decide))).symm
      have m201 := (m147).trans (fR_kept (x_lt hTH106 kH166 gbq (by decide))).symm
      have m202 := (m148).trans (fR_kept (x_lt hTH106 kH166 gw (by decide))).symm
      have m203 := (m149).trans (fR_kept (x_lt hTH106 kH166 glq_ (by decide))).symm
      have m204 := (m150).trans (fR_kept (x_lt hTH106 kH166 ga (by decide))).symm
      have m205 := (m110).trans (fR_kept (x_lt hTH106 kH166 gbb (by decide))).symm
      have m206 := (m111).trans (fR_kept (x_lt hTH106 kH166 gbb (by decide))).symm
      have m207 := (m112).trans (fR_kept (x_lt hTH106 kH166 gbb (by decide))).symm
      have m208 := (m113).trans (fR_kept (x_lt hTH106 kH166 gbb (by decide))).symm
      have m209 := (m114).trans (fR_kept (x_lt hTH106 kH166 gbb (by decide))).symm
      have m210 := (m115).trans (fI_kept (x_lt hTH106 kH166 gbb (by decide))).symm
      have m211 := (ex108).trans (fI_kept (x_lt hTH106 kH166 gbb (by decide))).symm
      have m212 := (ex109).trans (fI_kept (x_lt hTH106 kH166 gbb (by decide))).symm
      have m213 := (ex165).trans (fI_kept (x_lt hTH106 kH166 gq161 (by decide))).symm
      have m214 := (m128).trans (MF.i mf184 (k := 18) (by decide) (by decide)).symm
      have m215 := (m130).trans (MF.i mf184 (k := 1) (by decide) (by decide)).symm
      have m216 := (m132).trans (MF.i mf184 (k := 2) (by decide) (by decide)).symm
      have m217 := (m134).trans (MF.i mf184 (k := 3) (by decide) (by decide)).symm
      have m218 := (m136).trans (MF.i mf184 (k := 59) (by decide) (by decide)).symm
      have m219 := (m138).trans (MF.i mf184 (k := 62) (by decide) (by decide)).symm
      have m220 := (m140).trans (MF.i mf184 (k := 65) (by decide) (by decide)).symm
      have m221 := (m142).trans (MF.r mf184 (k := 17) (by decide) (by decide)).symm
      have m222 := (m143).trans (MF.i mf184 (k := 70) (by decide) (by decide)).symm
      have m223 := (m145).trans (MF.r mf184 (k := 73) (by decide) (by decide)).symm
      have m224 := (eq154).trans (MF.r mf184 (k := 24) (by decide) (by decide)).symm
      have m225 := (eq155).trans (MF.r mf184 (k := 5) (by decide) (by decide)).symm
      have m226 := (eq156).trans (MF.r mf184 (k := 11) (by decide) (by decide)).symm
      have m227 := (eq157).trans (MF.r mf184 (k := 12) (by decide) (by decide)).symm
      have m228 := (eq158).trans (MF.r mf184 (k := 10) (by decide) (by decide)).symm
      have m229 := (eq159).trans (MF.r mf184 (k := 13) (by decide) (by decide)).symm
      have m230 := (eq160).trans (MF.r mf184 (k := 9) (by decide) (by decide)).symm
      have m231 := (eq161).trans (MF.r mf184 (k := 4) (by decide) (by decide)).symm
      have m232 := (eq162).trans (MF.r mf184 (k := 8) (by decide) (by decide)).symm
      have bx168 := ty_ai (x := x168) ex168 hTH166 gq158 rg_119 (by omega)
      have bx169 := ty_ai (x := x169) ex169 hTH166 gq159 rg_122 (by omega)
      refine W.eq (g2 := F0 m 660 ls [.int x167]) rfl ?_
      have r12 : RFW K H166 H106 w := RFW.cell hTH106 gw (fun q t hq ht => x_lt hTH106 kH166 hq (by first | exact nmr ht (by decide) | exact nmo ht (by decide) | exact nme ht (by decide) | exact nmq ht (by decide) | decide | (intro z; simp only [List.mem_cons, List.not_mem_nil, or_false] at z <;> omega) | omega))
      have cU := vcN.kept hTH106 gw r12 (fun q t hq ht => x_lt hTH106 kH166 hq (by first | exact nmr ht (by decide) | exact nmo ht (by decide) | exact nme ht (by decide) | exact nmq ht (by decide) | decide | (intro z; simp only [List.mem_cons, List.not_mem_nil, or_false] at z <;> omega) | omega))
      have own2 : OWN K H166 w := (re.1.st brf).st r12
      have tU : TPK (TXP K H166 w) (TXP K H106 w) := TXP.kept hTH106 gw r12 (fun q t hq ht => x_lt hTH106 kH166 hq (by first | exact nmr ht (by decide) | exact nmo ht (by decide) | exact nme ht (by decide) | exact nmq ht (by decide) | decide | (intro z; simp only [List.mem_cons, List.not_mem_nil, or_false] at z <;> omega) | omega))
      have tR : TPK (TRP K H166 b) (TRP K H106 b) := TRP.reg hTH106 gb (fun k h1 h2 => MF.r mf184 (by omega) (by intro z; simp only [List.mem_cons, List.not_mem_nil, or_false] at z; omega)) (fun q t hq ht => x_lt hTH106 kH166 hq (by first | exact nmr ht (by decide) | exact nmo ht (by decide) | exact nme ht (by decide) | exact nmq ht (by decide) | decide | (intro z; simp only [List.mem_cons, List.not_mem_nil, or_false] at z <;> omega) | omega))
      have oq_ := m185
      have oz_ := m186
      rw [ev_, show y5.toInt = s5.toInt by omega] at oq_
      rw [ev_] at oz_
      obtain ⟨hrq_, hC1, hC2, hC3⟩ := shave_both hTT_ hE_ hO_ hG_ m116 oq_ m117 oz_
      have re233 : RE K H166 w b s1.toInt := RE.set (i := ((xs (i.toNatClampNeg + 1)) : Int32).toNatClampNeg) re own2 (by omega) (by rw [cU ((xs (i.toNatClampNeg + 1)) : Int32).toNatClampNeg (by omega), bat]; exact hC1) (by rw [cU ((xs (i.toNatClampNeg + 1)) : Int32).toNatClampNeg (by omega), bat]; exact hC2) (by rw [cU ((xs (i.toNatClampNeg + 1)) : Int32).toNatClampNeg (by omega), bat]; exact hC3) (fun j hj hn => (cU j hj).trans (bot j hj hn)) (fun j hj hn => EqV.tr (m187 j hn) (by rw [show vwR K H106 b j = vwR K H b j from er1 j]; exact EqV.rf)) (fun r kk vv lw n h1 h2 z => tU r kk vv lw n h1 h2 (btx r kk vv lw n h1 h2 z)) (fun r kk vv lw n h1 h2 z => tR r kk vv lw n h1 h2 (tr1 r kk vv lw n h1 h2 z))
      refine lv_pop hx hb dL_law_660 rfl ?_
      refine lv_goto (tgt := 1509) hx hb dL_law_661 (by decide) ?_
      exact nx G H166 locsH166 _ _ ls ⟨hTH166, hN, ga, gb, g180, g181, g182, g183, ⟨(by rw [← m191, ← m214]; exact rt), (by rw [← m190, ← m192, ← m215]; exact r1), (by rw [← m190, ← m193, ← m178]; exact r4), (by rw [← m190, ← m194, ← m179]; exact r5), (by rw [← m190, ← m195, ← m218]; exact r10), (by rw [← m190, ← m196, ← m219]; exact r13), (by rw [← m190, ← m197, ← m220]; exact r16)⟩, Or.inl ⟨m199, (by rw [← m222]; exact h70)⟩, (by unfold TB; rw [← m198, ← m221, ← m214]; exact TBR.of htr f188 f189 (by omega)), (by unfold RELE; rw [← m190, ← m215, ← m194]; exact ⟨RE.cast re233 (by omega), by omega, by omega⟩), hSH166⟩ hl ⟨hc, hs, fun _ => ⟨hc0, hs0⟩⟩
    · skip
      refine x_V (As := [.int (xs (i.toNatClampNeg + 1)), .int (xs (i.toNatClampNeg + 2)), .int (xs (i.toNatClampNeg + 3))]) (rest := []) C (a_X9_shave_n l K G H ((xs (i.toNatClampNeg + 1))) ((xs (i.toNatClampNeg + 2))) ((xs (i.toNatClampNeg + 3))) (s1) hT ga gw ew es1 (by omega)) yo_X9_shave wM_L_64 ⟨⟨by decide, by decide⟩, show _ ≤ 60000 from Nat.le_trans hc (by decide), show _ ≤ 8922250 from Nat.le_trans hs (by decide)⟩ (x_rv C hT (ci := 9) rfl ga rg_68) rfl hl.1 rfl (Nat.le_of_ble_eq_true rfl) dL_law_637 hS (AE_new hN hS.1) (fun vH234 H234 locsH234 pH234 zH234 kH234 hSH234 => ?_)
      obtain ⟨x235, hvH234, bx235, hTH234⟩ := pH234
      subst hvH234
      have g236 : CG (avw K H234 b) := CG.congr (fun k hk j => av_eff hT kH234 gb (by decide) (CG_eff [] (by decide) k hk)) cg
      have g237 : TU (avw K H234 b) (svw K H234 b) := TU.congr (fun k hk j => av_eff hT kH234 gb (by decide) (TU_eff [] (by decide) k hk)) (fun k hk => sv_eff hT kH234 gb (by decide)) tu
      have g238 : WD (avw K H234 b) := WD.congr (fun k hk j => av_eff hT kH234 gb (by decide) (WD_eff [] (by decide) k hk)) wd
      have g239 : IM (avw K H234 b) := IM.congr (fun k hk j => av_eff hT kH234 gb (by decide) (IM_eff [] (by decide) k hk)) im
      have f240 : ∀ j : Nat, fI H234 tq j = fI H tq j := fun j => (fI_kept (x_lt hT kH234 gtq (by decide))).trans (ft0 j)
      have f241 : ∀ j : Nat, fI H234 uq j = fI H uq j := fun j => (fI_kept (x_lt hT kH234 guq (by decide))).trans (fu0 j)
      have m242 := (ew).trans (fR_kept (x_lt hT kH234 ga (by decide))).symm
      have m243 := (eta).trans (fI_kept (x_lt hT kH234 ga (by decide))).symm
      have m244 := (etb).trans (fI_kept (x_lt hT kH234 gb (by decide))).symm
      have m245 := (es1).trans (fI_kept (x_lt hT kH234 gw (by decide))).symm
      have m246 := (ey1).trans (fI_kept (x_lt hT kH234 gb (by decide))).symm
      have m247 := (es4).trans (fI_kept (x_lt hT kH234 gw (by decide))).symm
      have m248 := (ey4).trans (fI_kept (x_lt hT kH234 gb (by decide))).symm
      have m249 := (es5).trans (fI_kept (x_lt hT kH234 gw (by decide))).symm
      have m250 := (ey5).trans (fI_kept (x_lt hT kH234 gb (by decide))).symm
      have m251 := (es10).trans (fI_kept (x_lt hT kH234 gw (by decide))).symm
      have m252 := (ey10).trans (fI_kept (x_lt hT kH234 gb (by decide))).symm
      have m253 := (es13).trans (fI_kept (x_lt hT kH234 gw (by decide))).symm
      have m254 := (ey13).trans (fI_kept (x_lt hT kH234 gb (by decide))).symm
      have m255 := (es16).trans (fI_kept (x_lt hT kH234 gw (by decide))).symm
      have m256 := (ey16).trans (fI_kept (x_lt hT kH234 gb (by decide))).symm
      have m257 := (etq).trans (fR_kept (x_lt hT kH234 ga (by decide))).symm
      have m258 := (euq).trans (fR_kept (x_lt hT kH234 gb (by decide))).symm
      have m259 := (ehi).trans (fI_kept (x_lt hT kH234 gb (by decide))).symm
      have m260 := (fV_kept (x_lt hT kH234 ga (by decide))).trans kn
      have m261 := (eiq).trans (fR_kept (x_lt hT kH234 gb (by decide))).symm
      refine W.eq (g2 := F0 m 640 ls [.int x235]) rfl ?_
      have re262 : RE K H234 w b s1.toInt := RE.cls re hT gw gb (fun q t hq ht => x_lt hT kH234 hq (by first | exact nmr ht (by decide) | exact nmo ht (by decide) | exact nme ht (by decide) | exact nmq ht (by decide) | decide | (intro z; simp only [List.mem_cons, List.not_mem_nil, or_false] at z <;> omega) | omega))
      refine lv_pop hx hb dL_law_640 rfl ?_
      refine lv_aload_n hx hb dL_law_641 rfl (lv_at hl 1 rfl) ?_
      refine lv_aload_n hx hb dL_law_642 rfl (lv_at hl 3 rfl) ?_
      refine lv_iload_n hx hb dL_law_643 rfl (lv_at hl 0 rfl) ?_
      refine lv_iconst (v := 1) hx hb dL_law_644 (by decide) ?_
      refine lv_iadd hx hb dL_law_645 ?_
      refine lv_topi (fun x263 ex263 => ?_)
      obtain ⟨tx263, ejx263, evx263⟩ := lw_ix (k := 1) ex263 hI hL rfl (by decide)
      clear tx263
      refine va_sld hx hb hX hbl (Nat.not_le.mpr hbl) hSH234 (vp_in_iff.mpr evx263) dL_law_646 ?_
      refine W.eq (g2 := F0 m 647 ls [.int (xs (i.toNatClampNeg + 1)), .ref b]) (congrArg (fun z => F0 m 647 ls [.int (xs z), .ref b]) ejx263) ?_
      refine lv_aload_n hx hb dL_law_647 rfl (lv_at hl 3 rfl) ?_
      refine lv_iload_n hx hb dL_law_648 rfl (lv_at hl 0 rfl) ?_
      refine lv_iconst (v := 2) hx hb dL_law_649 (by decide) ?_
      refine lv_iadd hx hb dL_law_650 ?_
      refine lv_topi (fun x264 ex264 => ?_)
      obtain ⟨tx264, ejx264, evx264⟩ := lw_ix (k := 2) ex264 hI hL rfl (by decide)
      clear tx264
      refine va_sld hx hb hX hbl (Nat.not_le.mpr hbl) hSH234 (vp_in_iff.mpr evx264) dL_law_651 ?_
      refine W.eq (g2 := F0 m 652 ls [.int (xs (i.toNatClampNeg + 2)), .int (xs (i.toNatClampNeg + 1)), .ref b]) (congrArg (fun z => F0 m 652 ls [.int (xs z), .int (xs (i.toNatClampNeg + 1)), .ref b]) ejx264) ?_
      refine lv_aload_n hx hb dL_law_652 rfl (lv_at hl 3 rfl) ?_
      refine lv_iload_n hx hb dL_law_653 rfl (lv_at hl 0 rfl) ?_
      refine lv_iconst (v := 3) hx hb dL_law_654 (by decide) ?_
      refine lv_iadd hx hb dL_law_655 ?_
      refine lv_topi (fun x265 ex265 => ?_)
      obtain ⟨tx265, ejx265, evx265⟩ := lw_ix (k := 3) ex265 hI hL rfl (by decide)
      clear tx265
      refine va_sld hx hb hX hbl (Nat.not_le.mpr hbl) hSH234 (vp_in_iff.mpr evx265) dL_law_656 ?_
      refine W.eq (g2 := F0 m 657 ls [.int (xs (i.toNatClampNeg + 3)), .int (xs (i.toNatClampNeg + 2)), .int (xs (i.toNatClampNeg + 1)), .ref b]) (congrArg (fun z => F0 m 657 ls [.int (xs z), .int (xs (i.toNatClampNeg + 2)), .int (xs (i.toNatClampNeg + 1)), .ref b]) ejx265) ?_
      refine x_V (As := [.int (xs (i.toNatClampNeg + 1)), .int (xs (i.toNatClampNeg + 2)), .int (xs (i.toNatClampNeg + 3))]) (rest := []) C (a_X10_shave_n l K G H234 ((xs (i.toNatClampNeg + 1))) ((xs (i.toNatClampNeg + 2))) ((xs (i.toNatClampNeg + 3))) (y1) hTH234 gb m246 g236 g237 g238 g239 (by omega)) yo_X10_shave wM_L_67 ⟨⟨by decide, by decide⟩, show _ ≤ 60000 from Nat.le_trans hc (by decide), show _ ≤ 8922250 from Nat.le_trans hs (by decide)⟩ (x_rv C hTH234 (ci := 10) rfl gb rg_112) rfl hl.1 rfl (Nat.le_of_ble_eq_true rfl) dL_law_657 hSH234 (AE_new hN hSH234.1) (fun vH266 H266 locsH266 pH266 zH266 kH266 hSH266 => ?_)
      obtain ⟨x267, hvH266, bx267, m268, g269, g270, g271, g272, mf273, hTH266⟩ := pH266
      subst hvH266
      have f274 : ∀ j : Nat, fI H266 tq j = fI H tq j := fun j => (fI_kept (x_lt hTH234 kH266 gtq (by decide))).trans (f240 j)
      have f275 : ∀ j : Nat, fI H266 uq j = fI H uq j := fun j => (fI_kept (x_lt hTH234 kH266 guq (by decide))).trans (f241 j)
      have m276 := (m242).trans (fR_kept (x_lt hTH234 kH266 ga (by decide))).symm
      have m277 := (m243).trans (fI_kept (x_lt hTH234 kH266 ga (by decide))).symm
      have m278 := (m245).trans (fI_kept (x_lt hTH234 kH266 gw (by decide))).symm
      have m279 := (m247).trans (fI_kept (x_lt hTH234 kH266 gw (by decide))).symm
      have m280 := (m249).trans (fI_kept (x_lt hTH234 kH266 gw (by decide))).symm
      have m281 := (m251).trans (fI_kept (x_lt hTH234 kH266 gw (by decide))).symm
      have m282 := (m253).trans (fI_kept (x_lt hTH234 kH266 gw (by decide))).symm
      have m283 := (m255).trans (fI_kept (x_lt hTH234 kH266 gw (by decide))).symm
      have m284 := (m257).trans (fR_kept (x_lt hTH234 kH266 ga (by decide))).symm
      have m285 := (fV_kept (x_lt hTH234 kH266 ga (by decide))).trans m260
      have m286 := (m244).trans (MF.i mf273 (k := 18) (by decide) (by decide)).symm
      have m287 := (m246).trans (MF.i mf273 (k := 1) (by decide) (by decide)).symm
      have m288 := (m248).trans (MF.i mf273 (k := 2) (by decide) (by decide)).symm
      have m289 := (m250).trans (MF.i mf273 (k := 3) (by decide) (by decide)).symm
      have m290 := (m252).trans (MF.i mf273 (k := 59) (by decide) (by decide)).symm
      have m291 := (m254).trans (MF.i mf273 (k := 62) (by decide) (by decide)).symm
      have m292 := (m256).trans (MF.i mf273 (k := 65) (by decide) (by decide)).symm
      have m293 := (m258).trans (MF.r mf273 (k := 17) (by decide) (by decide)).symm
      have m294 := (m259).trans (MF.i mf273 (k := 70) (by decide) (by decide)).symm
      have m295 := (m261).trans (MF.r mf273 (k := 73) (by decide) (by decide)).symm
      refine W.eq (g2 := F0 m 660 ls [.int x267]) rfl ?_
      have re296 : RE K H266 w b s1.toInt := RE.ref re262 hTH234 gw gb (fun k hk => MF.r mf273 (by omega) (by intro z; simp only [List.mem_cons, List.not_mem_nil, or_false] at z; omega)) (fun q t hq ht => x_lt hTH234 kH266 hq (by first | exact nmr ht (by decide) | exact nmo ht (by decide) | exact nme ht (by decide) | exact nmq ht (by decide) | decide | (intro z; simp only [List.mem_cons, List.not_mem_nil, or_false] at z <;> omega) | omega))
      refine lv_pop hx hb dL_law_660 rfl ?_
      refine lv_goto (tgt := 1509) hx hb dL_law_661 (by decide) ?_
      exact nx G H266 locsH266 _ _ ls ⟨hTH266, hN, ga, gb, g269, g270, g271, g272, ⟨(by rw [← m277, ← m286]; exact rt), (by rw [← m276, ← m278, ← m268]; exact r1), (by rw [← m276, ← m279, ← m288]; exact r4), (by rw [← m276, ← m280, ← m289]; exact r5), (by rw [← m276, ← m281, ← m290]; exact r10), (by rw [← m276, ← m282, ← m291]; exact r13), (by rw [← m276, ← m283, ← m292]; exact r16)⟩, Or.inl ⟨m285, (by rw [← m294]; exact h70)⟩, (by unfold TB; rw [← m284, ← m293, ← m286]; exact TBR.of htr f274 f275 (by omega)), (by unfold RELE; rw [← m276, ← m268, ← m280]; exact ⟨RE.cast re296 (by omega), by omega, by omega⟩), hSH266⟩ hl ⟨hc, hs, fun _ => ⟨hc0, hs0⟩⟩
  · skip
    obtain ⟨hi, ehi⟩ : ∃ z : Int32, z = fI H b (K.1.2 10 70) := ⟨_, rfl⟩
    rw [← ehi] at h70
    obtain ⟨iq, eiq⟩ : ∃ z : Nat, z = fR H b (K.1.2 10 73) := ⟨_, rfl⟩
    have giq := ty_fr (q := iq) (k := 73) (u := 162) eiq hT gb rg_112 rfl
    rw [← eiq] at q1 q4 q5 q10 q13 q16
    obtain ⟨k1, ek1⟩ : ∃ z : Int32, z = fI H kq (K.1.2 8 1) := ⟨_, rfl⟩
    rw [← ek1] at q1
    obtain ⟨i1, ei1⟩ : ∃ z : Int32, z = fI H iq ((0 : Int32).toNatClampNeg) := ⟨_, rfl⟩
    rw [← ei1] at q1
    obtain ⟨k4, ek4⟩ : ∃ z : Int32, z = fI H kq (K.1.2 8 4) := ⟨_, rfl⟩
    rw [← ek4] at q4
    obtain ⟨i4, ei4⟩ : ∃ z : Int32, z = fI H iq ((1 : Int32).toNatClampNeg) := ⟨_, rfl⟩
    rw [← ei4] at q4
    obtain ⟨k5, ek5⟩ : ∃ z : Int32, z = fI H kq (K.1.2 8 5) := ⟨_, rfl⟩
    rw [← ek5] at q5
    obtain ⟨i5, ei5⟩ : ∃ z : Int32, z = fI H iq ((2 : Int32).toNatClampNeg) := ⟨_, rfl⟩
    rw [← ei5] at q5
    obtain ⟨k10, ek10⟩ : ∃ z : Int32, z = fI H kq (K.1.2 8 10) := ⟨_, rfl⟩
    rw [← ek10] at q10
    obtain ⟨i10, ei10⟩ : ∃ z : Int32, z = fI H iq ((3 : Int32).toNatClampNeg) := ⟨_, rfl⟩
    rw [← ei10] at q10
    obtain ⟨k13, ek13⟩ : ∃ z : Int32, z = fI H kq (K.1.2 8 13) := ⟨_, rfl⟩
    rw [← ek13] at q13
    obtain ⟨i13, ei13⟩ : ∃ z : Int32, z = fI H iq ((4 : Int32).toNatClampNeg) := ⟨_, rfl⟩
    rw [← ei13] at q13
    obtain ⟨k16, ek16⟩ : ∃ z : Int32, z = fI H kq (K.1.2 8 16) := ⟨_, rfl⟩
    rw [← ek16] at q16
    obtain ⟨i16, ei16⟩ : ∃ z : Int32, z = fI H iq ((5 : Int32).toNatClampNeg) := ⟨_, rfl⟩
    rw [← ei16] at q16
    rw [← eiq, ← ek1] at rke
    have hsk : 0 ≤ k5.toInt ∧ k5.toInt ≤ 9999 := by rw [ek5]; exact ⟨ks1, ks2⟩
    refine lv_aload_n hx hb dL_law_621 rfl (lv_at hl 2 rfl) ?_
    refine lv_aload_n hx hb dL_law_622 rfl (lv_at hl 3 rfl) ?_
    refine lv_iload_n hx hb dL_law_623 rfl (lv_at hl 0 rfl) ?_
    refine lv_iconst (v := 1) hx hb dL_law_624 (by decide) ?_
    refine lv_iadd hx hb dL_law_625 ?_
    refine lv_topi (fun x297 ex297 => ?_)
    obtain ⟨tx297, ejx297, evx297⟩ := lw_ix (k := 1) ex297 hI hL rfl (by decide)
    clear tx297
    refine va_sld hx hb hX hbl (Nat.not_le.mpr hbl) hS (vp_in_iff.mpr evx297) dL_law_626 ?_
    refine W.eq (g2 := F0 m 627 ls [.int (xs (i.toNatClampNeg + 1)), .ref a]) (congrArg (fun z => F0 m 627 ls [.int (xs z), .ref a]) ejx297) ?_
    refine lv_aload_n hx hb dL_law_627 rfl (lv_at hl 3 rfl) ?_
    refine lv_iload_n hx hb dL_law_628 rfl (lv_at hl 0 rfl) ?_
    refine lv_iconst (v := 2) hx hb dL_law_629 (by decide) ?_
    refine lv_iadd hx hb dL_law_630 ?_
    refine lv_topi (fun x298 ex298 => ?_)
    obtain ⟨tx298, ejx298, evx298⟩ := lw_ix (k := 2) ex298 hI hL rfl (by decide)
    clear tx298
    refine va_sld hx hb hX hbl (Nat.not_le.mpr hbl) hS (vp_in_iff.mpr evx298) dL_law_631 ?_
    refine W.eq (g2 := F0 m 632 ls [.int (xs (i.toNatClampNeg + 2)), .int (xs (i.toNatClampNeg + 1)), .ref a]) (congrArg (fun z => F0 m 632 ls [.int (xs z), .int (xs (i.toNatClampNeg + 1)), .ref a]) ejx298) ?_
    refine lv_aload_n hx hb dL_law_632 rfl (lv_at hl 3 rfl) ?_
    refine lv_iload_n hx hb dL_law_633 rfl (lv_at hl 0 rfl) ?_
    refine lv_iconst (v := 3) hx hb dL_law_634 (by decide) ?_
    refine lv_iadd hx hb dL_law_635 ?_
    refine lv_topi (fun x299 ex299 => ?_)
    obtain ⟨tx299, ejx299, evx299⟩ := lw_ix (k := 3) ex299 hI hL rfl (by decide)
    clear tx299
    refine va_sld hx hb hX hbl (Nat.not_le.mpr hbl) hS (vp_in_iff.mpr evx299) dL_law_636 ?_
    refine W.eq (g2 := F0 m 637 ls [.int (xs (i.toNatClampNeg + 3)), .int (xs (i.toNatClampNeg + 2)), .int (xs (i.toNatClampNeg + 1)), .ref a]) (congrArg (fun z => F0 m 637 ls [.int (xs z), .int (xs (i.toNatClampNeg + 2)), .int (xs (i.toNatClampNeg + 1)), .ref a]) ejx299) ?_
    have sp300 : (0 ≤ (xs (i.toNatClampNeg + 1)).toInt ∧ (xs (i.toNatClampNeg + 1)).toInt < s1.toInt) ∨ ((xs (i.toNatClampNeg + 1)).toInt < 0 ∨ s1.toInt ≤ (xs (i.toNatClampNeg + 1)).toInt) := by omega
    rcases sp300 with hsp | hsp
    · skip
      have cxe := i_cl (x := (xs (i.toNatClampNeg + 1))) (by omega)
      obtain ⟨bq, ebq⟩ : ∃ z : Nat, z = fR H w (K.1.2 8 0) := ⟨_, rfl⟩
      have gbq := ty_fr (q := bq) (k := 0) (u := 25) ebq hT gw rg_0 rfl
      obtain ⟨bb, ebb⟩ : ∃ z : Nat, z = fR H bq ((xs (i.toNatClampNeg + 1)) : Int32).toNatClampNeg := ⟨_, rfl⟩
      have ebo : ow K H w ((xs (i.toNatClampNeg + 1)) : Int32).toNatClampNeg = bb := by rw [ow_b (by omega), ← ebq, ← ebb]
      have gbb : G bb = some 1 := by rw [← ebo]; exact ow_g hT gw (by omega)
      obtain ⟨rw1, erw1⟩ : ∃ z : Nat, z = fR H bb (K.1.2 0 1) := ⟨_, rfl⟩
      have grw1 := ty_fr (q := rw1) (k := 1) (u := 2) erw1 hT gbb rg_1 rfl
      obtain ⟨rw2, erw2⟩ : ∃ z : Nat, z = fR H bb (K.1.2 0 2) := ⟨_, rfl⟩
      have grw2 := ty_fr (q := rw2) (k := 2) (u := 3) erw2 hT gbb rg_1 rfl
      obtain ⟨rw3, erw3⟩ : ∃ z : Nat, z = fR H bb (K.1.2 0 3) := ⟨_, rfl⟩
      have grw3 := ty_fr (q := rw3) (k := 3) (u := 4) erw3 hT gbb rg_1 rfl
      obtain ⟨rw4, erw4⟩ : ∃ z : Nat, z = fR H bb (K.1.2 0 4) := ⟨_, rfl⟩
      have grw4 := ty_fr (q := rw4) (k := 4) (u := 5) erw4 hT gbb rg_1 rfl
      obtain ⟨rw5, erw5⟩ : ∃ z : Nat, z = fR H bb (K.1.2 0 5) := ⟨_, rfl⟩
      have grw5 := ty_fr (q := rw5) (k := 5) (u := 6) erw5 hT gbb rg_1 rfl
      obtain ⟨rw6, erw6⟩ : ∃ z : Nat, z = fR H bb (K.1.2 0 6) := ⟨_, rfl⟩
      have grw6 := ty_fr (q := rw6) (k := 6) (u := 7) erw6 hT gbb rg_1 rfl
      obtain ⟨rw7, erw7⟩ : ∃ z : Nat, z = fR H bb (K.1.2 0 7) := ⟨_, rfl⟩
      have grw7 := ty_fr (q := rw7) (k := 7) (u := 8) erw7 hT gbb rg_1 rfl
      obtain ⟨bz, ebz⟩ : ∃ z : Int32, z = fI H bb (K.1.2 0 0) := ⟨_, rfl⟩
      have bt_bz := ty_fi (x := bz) (k := 0) ebz hT gbb rg_1 rfl
      obtain ⟨bp, ebp⟩ : ∃ z : Int32, z = fI H bb (K.1.2 0 8) := ⟨_, rfl⟩
      have bt_bp := ty_fi (x := bp) (k := 8) ebp hT gbb rg_1 rfl
      obtain ⟨bl, ebl⟩ : ∃ z : Int32, z = fI H bb (K.1.2 0 9) := ⟨_, rfl⟩
      have bt_bl := ty_fi (x := bl) (k := 9) ebl hT gbb rg_1 rfl
      obtain ⟨hE_, hO_, hG_⟩ := re.2.1.1 ((xs (i.toNatClampNeg + 1)) : Int32).toNatClampNeg (by omega) (by omega)
      have ez_ : vcN K H w ((xs (i.toNatClampNeg + 1)) : Int32).toNatClampNeg = vwC K H bb := by show vwC K H (ow K H w ((xs (i.toNatClampNeg + 1)) : Int32).toNatClampNeg) = _; rw [ebo]
      rw [ez_] at hE_ hO_ hG_
      replace hE_ : EqW (vwC K H bb) (vwR K H b ((xs (i.toNatClampNeg + 1)) : Int32).toNatClampNeg) := hE_
      have hz3_ : 3 ≤ bz.toInt := by have z := hO_.1; rw [vwC_f (Or.inl rfl), ← ebz] at z; exact z
      have cfe := i_cl (x := s4) (by omega)
      obtain ⟨nE, kkE, vvE, hnE, hoE, ⟨htE, hcE, hbE⟩, hrE0⟩ := re.2.2 (s4 : Int32).toNatClampNeg (by omega)
      have lwE : LWT (s4 : Int32).toNatClampNeg = 1 := if_pos (by omega)
      rw [lwE] at hoE htE hrE0
      obtain ⟨lq_, elq_⟩ : ∃ z : Nat, z = fR H w (K.1.2 8 2) := ⟨_, rfl⟩
      have glq_ := ty_fr (q := lq_) (k := 2) (u := 26) elq_ hT gw rg_0 rfl
      obtain ⟨tx_, etx_⟩ : ∃ z : Nat, z = fR H lq_ (s4 : Int32).toNatClampNeg := ⟨_, rfl⟩
      have eow_ : ow K H w (10 + (s4 : Int32).toNatClampNeg) = tx_ := by rw [ow_l (by omega), ← elq_, ← etx_]
      have gtx_ : G tx_ = some 16 := by rw [← eow_]; exact ow_t hT gw (by omega) (by omega)
      rw [eow_] at htE hcE
      have hxE : TXC K H tx_ 1 (txFs kkE vvE 1) (txFw kkE vvE 1) := htE.txc hcE
      obtain ⟨q301, eq301⟩ : ∃ z : Nat, @Eq Ad z (fR H a (K.1.2 9 5)) := ⟨_, rfl⟩
      have gq301 := ty_fr (q := q301) (k := 5) (u := 82) eq301 hT ga rg_68 rfl
      refine x_V (As := [.int (xs (i.toNatClampNeg + 1)), .int (xs (i.toNatClampNeg + 2)), .int (xs (i.toNatClampNeg + 3))]) (rest := []) C (a_X9_shave_v l K G H ((xs (i.toNatClampNeg + 1))) ((xs (i.toNatClampNeg + 2))) ((xs (i.toNatClampNeg + 3))) (bp) (bl) (s1) (s4) (s5) (bz) (txFs kkE vvE 1) (txFw kkE vvE 1) hT ga (by omega) gq301 eq301 gw ew glq_ elq_ gtx_ etx_ gbq ebq gbb ebb grw1 erw1 grw4 erw4 grw5 erw5 grw6 erw6 grw7 erw7 ebp ebl es1 es4 es5 ebz (by omega) (by omega) (hxE) (fun j hj => by have z := hG_.1 j hj; rw [vwC_a (k := 5) (by decide)] at z; rw [erw5]; exact z)) yo_X9_shave wM_L_64 ⟨⟨by decide, by decide⟩, show _ ≤ 60000 from Nat.le_trans hc (by decide), show _ ≤ 8922250 from Nat.le_trans hs (by decide)⟩ (x_rv C hT (ci := 9) rfl ga rg_68) rfl hl.1 rfl (Nat.le_of_ble_eq_true rfl) dL_law_637 hS (AE_new hN hS.1) (fun vH302 H302 locsH302 pH302 zH302 kH302 hSH302 => ?_)
      obtain ⟨x303, x304, x305, hvH302, ex304, ex305, m306, m307, m308, m309, m310, m311, m312, m313, m314, m315, hTH302⟩ := pH302
      subst hvH302
      have g316 : CG (avw K H302 b) := CG.congr (fun k hk j => av_eff hT kH302 gb (by decide) (CG_eff [1, 2, 7, 8, 83, 84] (by decide) k hk)) cg
      have g317 : TU (avw K H302 b) (svw K H302 b) := TU.congr (fun k hk j => av_eff hT kH302 gb (by decide) (TU_eff [1, 2, 7, 8, 83, 84] (by decide) k hk)) (fun k hk => sv_eff hT kH302 gb (by decide)) tu
      have g318 : WD (avw K H302 b) := WD.congr (fun k hk j => av_eff hT kH302 gb (by decide) (WD_eff [1, 2, 7, 8, 83, 84] (by decide) k hk)) wd
      have g319 : IM (avw K H302 b) := IM.congr (fun k hk j => av_eff hT kH302 gb (by decide) (IM_eff [1, 2, 7, 8, 83, 84] (by decide) k hk)) im
      have f320 : ∀ j : Nat, fI H302 tq j = fI H tq j := fun j => (fI_kept (x_lt hT kH302 gtq (by decide))).trans (ft0 j)
      have f321 : ∀ j : Nat, fI H302 uq j = fI H uq j := fun j => (fI_kept (x_lt hT kH302 guq (by decide))).trans (fu0 j)
      have m322 := (ew).trans (fR_kept (x_lt hT kH302 ga (by decide))).symm
      have m323 := (eta).trans (fI_kept (x_lt hT kH302 ga (by decide))).symm
      have m324 := (etb).trans (fI_kept (x_lt hT kH302 gb (by decide))).symm
      have m325 := (es1).trans (fI_kept (x_lt hT kH302 gw (by decide))).symm
      have m326 := (ey1).trans (fI_kept (x_lt hT kH302 gb (by decide))).symm
      have m327 := (es4).trans (fI_kept (x_lt hT kH302 gw (by decide))).symm
      have m328 := (ey4).trans (fI_kept (x_lt hT kH302 gb (by decide))).symm
      have m329 := (es5).trans (fI_kept (x_lt hT kH302 gw (by decide))).symm
      have m330 := (ey5).trans (fI_kept (x_lt hT kH302 gb (by decide))).symm
      have m331 := (es10).trans (fI_kept (x_lt hT kH302 gw (by decide))).symm
      have m332 := (ey10).trans (fI_kept (x_lt hT kH302 gb (by decide))).symm
      have m333 := (es13).trans (fI_kept (x_lt hT kH302 gw (by decide))).symm
      have m334 := (ey13).trans (fI_kept (x_lt hT kH302 gb (by decide))).symm
      have m335 := (es16).trans (fI_kept (x_lt hT kH302 gw (by decide))).symm
      have m336 := (ey16).trans (fI_kept (x_lt hT kH302 gb (by decide))).symm
      have m337 := (etq).trans (fR_kept (x_lt hT kH302 ga (by decide))).symm
      have m338 := (euq).trans (fR_kept (x_lt hT kH302 gb (by decide))).symm
      have m339 := (ehi).trans (fI_kept (x_lt hT kH302 gb (by decide))).symm
      have m340 := (fV_kept (x_lt hT kH302 ga (by decide))).trans kn
      have m341 := (eiq).trans (fR_kept (x_lt hT kH302 gb (by decide))).symm
      have m342 := (ek1).trans (fI_kept (x_lt hT kH302 gkq (by decide))).symm
      have m343 := (ei1).trans (fI_kept (x_lt hT kH302 giq (by decide))).symm
      have m344 := (ek4).trans (fI_kept (x_lt hT kH302 gkq (by decide))).symm
      have m345 := (ei4).trans (fI_kept (x_lt hT kH302 giq (by decide))).symm
      have m346 := (ek5).trans (fI_kept (x_lt hT kH302 gkq (by decide))).symm
      have m347 := (ei5).trans (fI_kept (x_lt hT kH302 giq (by decide))).symm
      have m348 := (ek10).trans (fI_kept (x_lt hT kH302 gkq (by decide))).symm
      have m349 := (ei10).trans (fI_kept (x_lt hT kH302 giq (by decide))).symm
      have m350 := (ek13).trans (fI_kept (x_lt hT kH302 gkq (by decide))).symm
      have m351 := (ei13).trans (fI_kept (x_lt hT kH302 giq (by decide))).symm
      have m352 := (ek16).trans (fI_kept (x_lt hT kH302 gkq (by decide))).symm
      have m353 := (ei16).trans (fI_kept (x_lt hT kH302 giq (by decide))).symm
      have m354 := (ebq).trans (fR_kept (x_lt hT kH302 gw (by decide))).symm
      have m355 := (ebb).trans (fR_kept (x_lt hT kH302 gbq (by decide))).symm
      have m356 := (elq_).trans (fR_kept (x_lt hT kH302 gw (by decide))).symm
      have m357 := (etx_).trans (fR_kept (x_lt hT kH302 glq_ (by decide))).symm
      have m358 := (eq301).trans (fR_kept (x_lt hT kH302 ga (by decide))).symm
      have bx304 := ty_fi (x := x304) (k := 8) ex304 hTH302 gbb rg_1 rfl
      have bx305 := ty_fi (x := x305) (k := 9) ex305 hTH302 gbb rg_1 rfl
      refine W.eq (g2 := F0 m 640 ls [.int x303]) rfl ?_
      have rk359 : RKI K H302 kq iq k1.toInt := RKI.kept rke hT gkq (x_lt hT kH302 giq (by first | exact nmr ht (by decide) | exact nmo ht (by decide) | exact nme ht (by decide) | exact nmq ht (by decide) | decide | (intro z; simp only [List.mem_cons, List.not_mem_nil, or_false] at z <;> omega) | omega)) (fun q t hq ht => x_lt hT kH302 hq (by first | exact nmr ht (by decide) | exact nmo ht (by decide) | exact nme ht (by decide) | exact nmq ht (by decide) | decide | (intro z; simp only [List.mem_cons, List.not_mem_nil, or_false] at z <;> omega) | omega))
      have nw_ : NWF K H302 H w := fun k _ => fR_kept (m314 w 0 gw (by decide) (by decide) (G_ne gw gbb (by decide)) (G_ne gw grw1 (by decide)) (G_ne gw grw6 (by decide)) (G_ne gw grw7 (by decide)))
      have rb_ : RFB K H302 H bb := m315
      obtain ⟨brf, bot, bat, btx⟩ := bar_one (H1 := H302) re.1 hT gw (j := ((xs (i.toNatClampNeg + 1)) : Int32).toNatClampNeg) (by omega) ebo nw_ rb_ (fun q t hq ht n1 n2 => m314 q t hq (by omega) (by omega) n1 (by rw [erw1]; exact n2 1 (by decide)) (by rw [erw6]; exact n2 6 (by decide)) (by rw [erw7]; exact n2 7 (by decide)))
      have er1 : ∀ bar, vrN K H302 b bar = vrN K H b bar := vrN.reg hT gb (fun k _ => fR_kept (x_lt hT kH302 gb (by first | exact nmr ht (by decide) | exact nmo ht (by decide) | exact nme ht (by decide) | exact nmq ht (by decide) | decide | (intro z; simp only [List.mem_cons, List.not_mem_nil, or_false] at z <;> omega) | omega))) (fun q t hq ht => x_lt hT kH302 hq (by first | exact nmr ht (by decide) | exact nmo ht (by decide) | exact nme ht (by decide) | exact nmq ht (by decide) | decide | (intro z; simp only [List.mem_cons, List.not_mem_nil, or_false] at z <;> omega) | omega))
      have tr1 : TPK (TRP K H302 b) (TRP K H b) := TRP.reg hT gb (fun k _ _ => fR_kept (x_lt hT kH302 gb (by first | exact nmr ht (by decide) | exact nmo ht (by decide) | exact nme ht (by decide) | exact nmq ht (by decide) | decide | (intro z; simp only [List.mem_cons, List.not_mem_nil, or_false] at z <;> omega) | omega))) (fun q t hq ht => x_lt hT kH302 hq (by first | exact nmr ht (by decide) | exact nmo ht (by decide) | exact nme ht (by decide) | exact nmq ht (by decide) | decide | (intro z; simp only [List.mem_cons, List.not_mem_nil, or_false] at z <;> omega) | omega))
      refine lv_pop hx hb dL_law_640 rfl ?_
      refine lv_aload_n hx hb dL_law_641 rfl (lv_at hl 1 rfl) ?_
      refine lv_aload_n hx hb dL_law_642 rfl (lv_at hl 3 rfl) ?_
      refine lv_iload_n hx hb dL_law_643 rfl (lv_at hl 0 rfl) ?_
      refine lv_iconst (v := 1) hx hb dL_law_644 (by decide) ?_
      refine lv_iadd hx hb dL_law_645 ?_
      refine lv_topi (fun x360 ex360 => ?_)
      obtain ⟨tx360, ejx360, evx360⟩ := lw_ix (k := 1) ex360 hI hL rfl (by decide)
      clear tx360
      refine va_sld hx hb hX hbl (Nat.not_le.mpr hbl) hSH302 (vp_in_iff.mpr evx360) dL_law_646 ?_
      refine W.eq (g2 := F0 m 647 ls [.int (xs (i.toNatClampNeg + 1)), .ref b]) (congrArg (fun z => F0 m 647 ls [.int (xs z), .ref b]) ejx360) ?_
      refine lv_aload_n hx hb dL_law_647 rfl (lv_at hl 3 rfl) ?_
      refine lv_iload_n hx hb dL_law_648 rfl (lv_at hl 0 rfl) ?_
      refine lv_iconst (v := 2) hx hb dL_law_649 (by decide) ?_
      refine lv_iadd hx hb dL_law_650 ?_
      refine lv_topi (fun x361 ex361 => ?_)
      obtain ⟨tx361, ejx361, evx361⟩ := lw_ix (k := 2) ex361 hI hL rfl (by decide)
      clear tx361
      refine va_sld hx hb hX hbl (Nat.not_le.mpr hbl) hSH302 (vp_in_iff.mpr evx361) dL_law_651 ?_
      refine W.eq (g2 := F0 m 652 ls [.int (xs (i.toNatClampNeg + 2)), .int (xs (i.toNatClampNeg + 1)), .ref b]) (congrArg (fun z => F0 m 652 ls [.int (xs z), .int (xs (i.toNatClampNeg + 1)), .ref b]) ejx361) ?_
      refine lv_aload_n hx hb dL_law_652 rfl (lv_at hl 3 rfl) ?_
      refine lv_iload_n hx hb dL_law_653 rfl (lv_at hl 0 rfl) ?_
      refine lv_iconst (v := 3) hx hb dL_law_654 (by decide) ?_
      refine lv_iadd hx hb dL_law_655 ?_
      refine lv_topi (fun x362 ex362 => ?_)
      obtain ⟨tx362, ejx362, evx362⟩ := lw_ix (k := 3) ex362 hI hL rfl (by decide)
      clear tx362
      refine va_sld hx hb hX hbl (Nat.not_le.mpr hbl) hSH302 (vp_in_iff.mpr evx362) dL_law_656 ?_
      refine W.eq (g2 := F0 m 657 ls [.int (xs (i.toNatClampNeg + 3)), .int (xs (i.toNatClampNeg + 2)), .int (xs (i.toNatClampNeg + 1)), .ref b]) (congrArg (fun z => F0 m 657 ls [.int (xs z), .int (xs (i.toNatClampNeg + 2)), .int (xs (i.toNatClampNeg + 1)), .ref b]) ejx362) ?_
      have ev_ : vwR K H302 b ((xs (i.toNatClampNeg + 1)) : Int32).toNatClampNeg = vwR K H b ((xs (i.toNatClampNeg + 1)) : Int32).toNatClampNeg := er1 _
      obtain ⟨q363, eq363⟩ : ∃ z : Nat, @Eq Ad z (fR H302 b (K.1.2 10 24)) := ⟨_, rfl⟩
      have gq363 := ty_fr (q := q363) (k := 24) (u := 128) eq363 hTH302 gb rg_112 rfl
      have cye := i_cl (x := y4) (by omega)
      have hy4_ : (y4 : Int32).toNatClampNeg = (s4 : Int32).toNatClampNeg := by omega
      have hr1_ := tr1 _ kkE vvE 1 nE (by omega) hnE hrE0
      rw [← hy4_] at hr1_
      obtain ⟨hrE, hmE⟩ := hr1_
      have cmE := i_cl (x := fI H302 (fR H302 b (K.1.2 10 24)) (y4 : Int32).toNatClampNeg) (by omega)
      have hyE : TXR K H302 b (y4 : Int32).toNatClampNeg 1 (txRs kkE vvE 1 (y4 : Int32).toNatClampNeg) (txRw kkE vvE 1 (y4 : Int32).toNatClampNeg) := hrE.txr (by omega)
      have ccE := i_cl (x := fI H tx_ (K.1.2 7 0)) (by omega)
      have hTT_ := EqT.of htE hrE (by decide) (by omega) (by omega)
      obtain ⟨q364, eq364⟩ : ∃ z : Nat, @Eq Ad z (fR H302 b (K.1.2 10 5)) := ⟨_, rfl⟩
      have gq364 := ty_fr (q := q364) (k := 5) (u := 114) eq364 hTH302 gb rg_112 rfl
      obtain ⟨q365, eq365⟩ : ∃ z : Nat, @Eq Ad z (fR H302 b (K.1.2 10 11)) := ⟨_, rfl⟩
      have gq365 := ty_fr (q := q365) (k := 11) (u := 120) eq365 hTH302 gb rg_112 rfl
      obtain ⟨q366, eq366⟩ : ∃ z : Nat, @Eq Ad z (fR H302 b (K.1.2 10 12)) := ⟨_, rfl⟩
      have gq366 := ty_fr (q := q366) (k := 12) (u := 121) eq366 hTH302 gb rg_112 rfl
      obtain ⟨q367, eq367⟩ : ∃ z : Nat, @Eq Ad z (fR H302 b (K.1.2 10 10)) := ⟨_, rfl⟩
      have gq367 := ty_fr (q := q367) (k := 10) (u := 119) eq367 hTH302 gb rg_112 rfl
      obtain ⟨q368, eq368⟩ : ∃ z : Nat, @Eq Ad z (fR H302 b (K.1.2 10 13)) := ⟨_, rfl⟩
      have gq368 := ty_fr (q := q368) (k := 13) (u := 122) eq368 hTH302 gb rg_112 rfl
      obtain ⟨q369, eq369⟩ : ∃ z : Nat, @Eq Ad z (fR H302 b (K.1.2 10 9)) := ⟨_, rfl⟩
      have gq369 := ty_fr (q := q369) (k := 9) (u := 118) eq369 hTH302 gb rg_112 rfl
      obtain ⟨q370, eq370⟩ : ∃ z : Nat, @Eq Ad z (fR H302 b (K.1.2 10 4)) := ⟨_, rfl⟩
      have gq370 := ty_fr (q := q370) (k := 4) (u := 113) eq370 hTH302 gb rg_112 rfl
      obtain ⟨q371, eq371⟩ : ∃ z : Nat, @Eq Ad z (fR H302 b (K.1.2 10 8)) := ⟨_, rfl⟩
      have gq371 := ty_fr (q := q371) (k := 8) (u := 117) eq371 hTH302 gb rg_112 rfl
      obtain ⟨x372, ex372⟩ : ∃ z : Int32, z = fI H302 q367 ((xs (i.toNatClampNeg + 1)) : Int32).toNatClampNeg := ⟨_, rfl⟩
      have bx372 := ty_ai (x := x372) ex372 hTH302 gq367 rg_119 (by omega)
      obtain ⟨x373, ex373⟩ : ∃ z : Int32, z = fI H302 q368 ((xs (i.toNatClampNeg + 1)) : Int32).toNatClampNeg := ⟨_, rfl⟩
      have bx373 := ty_ai (x := x373) ex373 hTH302 gq368 rg_122 (by omega)
      obtain ⟨x374, ex374⟩ : ∃ z : Int32, z = fI H302 q370 ((xs (i.toNatClampNeg + 1)) : Int32).toNatClampNeg := ⟨_, rfl⟩
      have bx374 := ty_ai (x := x374) ex374 hTH302 gq370 rg_113 (by omega)
      refine x_V (As := [.int (xs (i.toNatClampNeg + 1)), .int (xs (i.toNatClampNeg + 2)), .int (xs (i.toNatClampNeg + 3))]) (rest := []) C (a_X10_shave_v l K G H302 ((xs (i.toNatClampNeg + 1))) ((xs (i.toNatClampNeg + 2))) ((xs (i.toNatClampNeg + 3))) (x372) (x373) (y1) (x374) (y4) (y5) (txRs kkE vvE 1 (y4 : Int32).toNatClampNeg) (txRw kkE vvE 1 (y4 : Int32).toNatClampNeg) hTH302 gb (by omega) gq364 eq364 gq365 eq365 gq366 eq366 gq367 eq367 gq368 eq368 gq369 eq369 gq370 eq370 gq371 eq371 ex372 ex373 m326 ex374 m328 m330 g316 g317 g318 g319 (by omega) (by omega) (hyE) (fun j hj => by have z := hG_.1 j hj; rw [hE_.a 5 j (by decide) (by show j < 3; exact hj), ← ev_, vwR_a (k := 5) (by decide)] at z; rw [eq369]; exact z)) yo_X10_shave wM_L_67 ⟨⟨by decide, by decide⟩, show _ ≤ 60000 from Nat.le_trans hc (by decide), show _ ≤ 8922250 from Nat.le_trans hs (by decide)⟩ (x_rv C hTH302 (ci := 10) rfl gb rg_112) rfl hl.1 rfl (Nat.le_of_ble_eq_true rfl) dL_law_657 hSH302 (AE_new hN hSH302.1) (fun vH375 H375 locsH375 pH375 zH375 kH375 hSH375 => ?_)
      obtain ⟨x376, x377, x378, hvH375, ex377, ex378, m379, m380, m381, m382, m383, m384, m385, m386, m387, m388, g389, g390, g391, g392, mf393, m394, m395, m396, hTH375⟩ := pH375
      subst hvH375
      have f397 : ∀ j : Nat, fI H375 tq j = fI H tq j := fun j => (fI_kept (x_lt hTH302 kH375 gtq (by decide))).trans (f320 j)
      have f398 : ∀ j : Nat, fI H375 uq j = fI H uq j := fun j => (fI_kept (x_lt hTH302 kH375 guq (by decide))).trans (f321 j)
      have m399 := (m322).trans (fR_kept (x_lt hTH302 kH375 ga (by decide))).symm
      have m400 := (m323).trans (fI_kept (x_lt hTH302 kH375 ga (by decide))).symm
      have m401 := (m325).trans (fI_kept (x_lt hTH302 kH375 gw (by decide))).symm
      have m402 := (m327).trans (fI_kept (x_lt hTH302 kH375 gw (by decide))).symm
      have m403 := (m329).trans (fI_kept (x_lt hTH302 kH375 gw (by decide))).symm
      have m404 := (m331).trans (fI_kept (x_lt hTH302 kH375 gw (by decide))).symm
      have m405 := (m333).trans (fI_kept (x_lt hTH302 kH375 gw (by decide))).symm
      have m406 := (m335).trans (fI_kept (x_lt hTH302 kH375 gw (by decide))).symm
      have m407 := (m337).trans (fR_kept (x_lt hTH302 kH375 ga (by decide))).symm
      have m408 := (fV_kept (x_lt hTH302 kH375 ga (by decide))).trans m340
      have m409 := (m342).trans (fI_kept (x_lt hTH302 kH375 gkq (by decide))).symm
      have m410 := (m343).trans (fI_kept (x_lt hTH302 kH375 giq (by decide))).symm
      have m411 := (m344).trans (fI_kept (x_lt hTH302 kH375 gkq (by decide))).symm
      have m412 := (m345).trans (fI_kept (x_lt hTH302 kH375 giq (by decide))).symm
      have m413 := (m346).trans (fI_kept (x_lt hTH302 kH375 gkq (by decide))).symm
      have m414 := (m347).trans (fI_kept (x_lt hTH302 kH375 giq (by decide))).symm
      have m415 := (m348).trans (fI_kept (x_lt hTH302 kH375 gkq (by decide))).symm
      have m416 := (m349).trans (fI_kept (x_lt hTH302 kH375 giq (by decide))).symm
      have m417 := (m350).trans (fI_kept (x_lt hTH302 kH375 gkq (by decide))).symm
      have m418 := (m351).trans (fI_kept (x_lt hTH302 kH375 giq (by decide))).symm
      have m419 := (m352).trans (fI_kept (x_lt hTH302 kH375 gkq (by decide))).symm
      have m420 := (m353).trans (fI_kept (x_lt hTH302 kH375 giq (by decide))).symm
      have m421 := (m354).trans (fR_kept (x_lt hTH302 kH375 gw (by decide))).symm
      have m422 := (m355).trans (fR_kept (x_lt hTH302 kH375 gbq (by decide))).symm
      have m423 := (m356).trans (fR_kept (x_lt hTH302 kH375 gw (by decide))).symm
      have m424 := (m357).trans (fR_kept (x_lt hTH302 kH375 glq_ (by decide))).symm
      have m425 := (m358).trans (fR_kept (x_lt hTH302 kH375 ga (by decide))).symm
      have m426 := (m306).trans (fR_kept (x_lt hTH302 kH375 gbb (by decide))).symm
      have m427 := (m307).trans (fR_kept (x_lt hTH302 kH375 gbb (by decide))).symm
      have m428 := (m308).trans (fR_kept (x_lt hTH302 kH375 gbb (by decide))).symm
      have m429 := (m309).trans (fR_kept (x_lt hTH302 kH375 gbb (by decide))).symm
      have m430 := (m310).trans (fR_kept (x_lt hTH302 kH375 gbb (by decide))).symm
      have m431 := (m311).trans (fI_kept (x_lt hTH302 kH375 gbb (by decide))).symm
      have m432 := (ex304).trans (fI_kept (x_lt hTH302 kH375 gbb (by decide))).symm
      have m433 := (ex305).trans (fI_kept (x_lt hTH302 kH375 gbb (by decide))).symm
      have m434 := (ex374).trans (fI_kept (x_lt hTH302 kH375 gq370 (by decide))).symm
      have m435 := (m324).trans (MF.i mf393 (k := 18) (by decide) (by decide)).symm
      have m436 := (m326).trans (MF.i mf393 (k := 1) (by decide) (by decide)).symm
      have m437 := (m328).trans (MF.i mf393 (k := 2) (by decide) (by decide)).symm
      have m438 := (m330).trans (MF.i mf393 (k := 3) (by decide) (by decide)).symm
      have m439 := (m332).trans (MF.i mf393 (k := 59) (by decide) (by decide)).symm
      have m440 := (m334).trans (MF.i mf393 (k := 62) (by decide) (by decide)).symm
      have m441 := (m336).trans (MF.i mf393 (k := 65) (by decide) (by decide)).symm
      have m442 := (m338).trans (MF.r mf393 (k := 17) (by decide) (by decide)).symm
      have m443 := (m339).trans (MF.i mf393 (k := 70) (by decide) (by decide)).symm
      have m444 := (m341).trans (MF.r mf393 (k := 73) (by decide) (by decide)).symm
      have m445 := (eq363).trans (MF.r mf393 (k := 24) (by decide) (by decide)).symm
      have m446 := (eq364).trans (MF.r mf393 (k := 5) (by decide) (by decide)).symm
      have m447 := (eq365).trans (MF.r mf393 (k := 11) (by decide) (by decide)).symm
      have m448 := (eq366).trans (MF.r mf393 (k := 12) (by decide) (by decide)).symm
      have m449 := (eq367).trans (MF.r mf393 (k := 10) (by decide) (by decide)).symm
      have m450 := (eq368).trans (MF.r mf393 (k := 13) (by decide) (by decide)).symm
      have m451 := (eq369).trans (MF.r mf393 (k := 9) (by decide) (by decide)).symm
      have m452 := (eq370).trans (MF.r mf393 (k := 4) (by decide) (by decide)).symm
      have m453 := (eq371).trans (MF.r mf393 (k := 8) (by decide) (by decide)).symm
      have bx377 := ty_ai (x := x377) ex377 hTH375 gq367 rg_119 (by omega)
      have bx378 := ty_ai (x := x378) ex378 hTH375 gq368 rg_122 (by omega)
      refine W.eq (g2 := F0 m 660 ls [.int x376]) rfl ?_
      have rk454 : RKI K H375 kq iq k1.toInt := RKI.kept rk359 hTH302 gkq (x_lt hTH302 kH375 giq (by first | exact nmr ht (by decide) | exact nmo ht (by decide) | exact nme ht (by decide) | exact nmq ht (by decide) | decide | (intro z; simp only [List.mem_cons, List.not_mem_nil, or_false] at z <;> omega) | omega)) (fun q t hq ht => x_lt hTH302 kH375 hq (by first | exact nmr ht (by decide) | exact nmo ht (by decide) | exact nme ht (by decide) | exact nmq ht (by decide) | decide | (intro z; simp only [List.mem_cons, List.not_mem_nil, or_false] at z <;> omega) | omega))
      have r12 : RFW K H375 H302 w := RFW.cell hTH302 gw (fun q t hq ht => x_lt hTH302 kH375 hq (by first | exact nmr ht (by decide) | exact nmo ht (by decide) | exact nme ht (by decide) | exact nmq ht (by decide) | decide | (intro z; simp only [List.mem_cons, List.not_mem_nil, or_false] at z <;> omega) | omega))
      have cU := vcN.kept hTH302 gw r12 (fun q t hq ht => x_lt hTH302 kH375 hq (by first | exact nmr ht (by decide) | exact nmo ht (by decide) | exact nme ht (by decide) | exact nmq ht (by decide) | decide | (intro z; simp only [List.mem_cons, List.not_mem_nil, or_false] at z <;> omega) | omega))
      have own2 : OWN K H375 w := (re.1.st brf).st r12
      have tU : TPK (TXP K H375 w) (TXP K H302 w) := TXP.kept hTH302 gw r12 (fun q t hq ht => x_lt hTH302 kH375 hq (by first | exact nmr ht (by decide) | exact nmo ht (by decide) | exact nme ht (by decide) | exact nmq ht (by decide) | decide | (intro z; simp only [List.mem_cons, List.not_mem_nil, or_false] at z <;> omega) | omega))
      have tR : TPK (TRP K H375 b) (TRP K H302 b) := TRP.reg hTH302 gb (fun k h1 h2 => MF.r mf393 (by omega) (by intro z; simp only [List.mem_cons, List.not_mem_nil, or_false] at z; omega)) (fun q t hq ht => x_lt hTH302 kH375 hq (by first | exact nmr ht (by decide) | exact nmo ht (by decide) | exact nme ht (by decide) | exact nmq ht (by decide) | decide | (intro z; simp only [List.mem_cons, List.not_mem_nil, or_false] at z <;> omega) | omega))
      have oq_ := m394
      have oz_ := m395
      rw [ev_, show y5.toInt = s5.toInt by omega] at oq_
      rw [ev_] at oz_
      obtain ⟨hrq_, hC1, hC2, hC3⟩ := shave_both hTT_ hE_ hO_ hG_ m312 oq_ m313 oz_
      have re455 : RE K H375 w b s1.toInt := RE.set (i := ((xs (i.toNatClampNeg + 1)) : Int32).toNatClampNeg) re own2 (by omega) (by rw [cU ((xs (i.toNatClampNeg + 1)) : Int32).toNatClampNeg (by omega), bat]; exact hC1) (by rw [cU ((xs (i.toNatClampNeg + 1)) : Int32).toNatClampNeg (by omega), bat]; exact hC2) (by rw [cU ((xs (i.toNatClampNeg + 1)) : Int32).toNatClampNeg (by omega), bat]; exact hC3) (fun j hj hn => (cU j hj).trans (bot j hj hn)) (fun j hj hn => EqV.tr (m396 j hn) (by rw [show vwR K H302 b j = vwR K H b j from er1 j]; exact EqV.rf)) (fun r kk vv lw n h1 h2 z => tU r kk vv lw n h1 h2 (btx r kk vv lw n h1 h2 z)) (fun r kk vv lw n h1 h2 z => tR r kk vv lw n h1 h2 (tr1 r kk vv lw n h1 h2 z))
      refine lv_pop hx hb dL_law_660 rfl ?_
      refine lv_goto (tgt := 1509) hx hb dL_law_661 (by decide) ?_
      exact nx G H375 locsH375 _ _ ls ⟨hTH375, hN, ga, gb, g389, g390, g391, g392, ⟨(by rw [← m400, ← m435]; exact rt), (by rw [← m399, ← m401, ← m436]; exact r1), (by rw [← m399, ← m402, ← m387]; exact r4), (by rw [← m399, ← m403, ← m388]; exact r5), (by rw [← m399, ← m404, ← m439]; exact r10), (by rw [← m399, ← m405, ← m440]; exact r13), (by rw [← m399, ← m406, ← m441]; exact r16)⟩, Or.inr ⟨kq, m408, gkq, (by rw [← m443]; exact h70), (by rw [← m409, ← m444, ← m410]; exact q1), (by rw [← m411, ← m444, ← m412]; exact q4), (by rw [← m413, ← m444, ← m414]; exact q5), (by rw [← m415, ← m444, ← m416]; exact q10), (by rw [← m417, ← m444, ← m418]; exact q13), (by rw [← m419, ← m444, ← m420]; exact q16), (by rw [← m444, ← m409]; exact RKI.cast rk454 (by omega)), (by rw [← m413]; omega), (by rw [← m413]; omega)⟩, (by unfold TB; rw [← m407, ← m442, ← m435]; exact TBR.of htr f397 f398 (by omega)), (by unfold RELE; rw [← m399, ← m436, ← m403]; exact ⟨RE.cast re455 (by omega), by omega, by omega⟩), hSH375⟩ hl ⟨hc, hs, fun h => by have h1 := h.symm.trans m408; cases h1⟩
    · skip
      refine x_V (As := [.int (xs (i.toNatClampNeg + 1)), .int (xs (i.toNatClampNeg + 2)), .int (xs (i.toNatClampNeg + 3))]) (rest := []) C (a_X9_shave_n l K G H ((xs (i.toNatClampNeg + 1))) ((xs (i.toNatClampNeg + 2))) ((xs (i.toNatClampNeg + 3))) (s1) hT ga gw ew es1 (by omega)) yo_X9_shave wM_L_64 ⟨⟨by decide, by decide⟩, show _ ≤ 60000 from Nat.le_trans hc (by decide), show _ ≤ 8922250 from Nat.le_trans hs (by decide)⟩ (x_rv C hT (ci := 9) rfl ga rg_68) rfl hl.1 rfl (Nat.le_of_ble_eq_true rfl) dL_law_637 hS (AE_new hN hS.1) (fun vH456 H456 locsH456 pH456 zH456 kH456 hSH456 => ?_)
      obtain ⟨x457, hvH456, bx457, hTH456⟩ := pH456
      subst hvH456
      have g458 : CG (avw K H456 b) := CG.congr (fun k hk j => av_eff hT kH456 gb (by decide) (CG_eff [] (by decide) k hk)) cg
      have g459 : TU (avw K H456 b) (svw K H456 b) := TU.congr (fun k hk j => av_eff hT kH456 gb (by decide) (TU_eff [] (by decide) k hk)) (fun k hk => sv_eff hT kH456 gb (by decide)) tu
      have g460 : WD (avw K H456 b) := WD.congr (fun k hk j => av_eff hT kH456 gb (by decide) (WD_eff [] (by decide) k hk)) wd
      have g461 : IM (avw K H456 b) := IM.congr (fun k hk j => av_eff hT kH456 gb (by decide) (IM_eff [] (by decide) k hk)) im
      have f462 : ∀ j : Nat, fI H456 tq j = fI H tq j := fun j => (fI_kept (x_lt hT kH456 gtq (by decide))).trans (ft0 j)
      have f463 : ∀ j : Nat, fI H456 uq j = fI H uq j := fun j => (fI_kept (x_lt hT kH456 guq (by decide))).trans (fu0 j)
      have m464 := (ew).trans (fR_kept (x_lt hT kH456 ga (by decide))).symm
      have m465 := (eta).trans (fI_kept (x_lt hT kH456 ga (by decide))).symm
      have m466 := (etb).trans (fI_kept (x_lt hT kH456 gb (by decide))).symm
      have m467 := (es1).trans (fI_kept (x_lt hT kH456 gw (by decide))).symm
      have m468 := (ey1).trans (fI_kept (x_lt hT kH456 gb (by decide))).symm
      have m469 := (es4).trans (fI_kept (x_lt hT kH456 gw (by decide))).symm
      have m470 := (ey4).trans (fI_kept (x_lt hT kH456 gb (by decide))).symm
      have m471 := (es5).trans (fI_kept (x_lt hT kH456 gw (by decide))).symm
      have m472 := (ey5).trans (fI_kept (x_lt hT kH456 gb (by decide))).symm
      have m473 := (es10).trans (fI_kept (x_lt hT kH456 gw (by decide))).symm
      have m474 := (ey10).trans (fI_kept (x_lt hT kH456 gb (by decide))).symm
      have m475 := (es13).trans (fI_kept (x_lt hT kH456 gw (by decide))).symm
      have m476 := (ey13).trans (fI_kept (x_lt hT kH456 gb (by decide))).symm
      have m477 := (es16).trans (fI_kept (x_lt hT kH456 gw (by decide))).symm
      have m478 := (ey16).trans (fI_kept (x_lt hT kH456 gb (by decide))).symm
      have m479 := (etq).trans (fR_kept (x_lt hT kH456 ga (by decide))).symm
      have m480 := (euq).trans (fR_kept (x_lt hT kH456 gb (by decide))).symm
      have m481 := (ehi).trans (fI_kept (x_lt hT kH456 gb (by decide))).symm
      have m482 := (fV_kept (x_lt hT kH456 ga (by decide))).trans kn
      have m483 := (eiq).trans (fR_kept (x_lt hT kH456 gb (by decide))).symm
      have m484 := (ek1).trans (fI_kept (x_lt hT kH456 gkq (by decide))).symm
      have m485 := (ei1).trans (fI_kept (x_lt hT kH456 giq (by decide))).symm
      have m486 := (ek4).trans (fI_kept (x_lt hT kH456 gkq (by decide))).symm
      have m487 := (ei4).trans (fI_kept (x_lt hT kH456 giq (by decide))).symm
      have m488 := (ek5).trans (fI_kept (x_lt hT kH456 gkq (by decide))).symm
      have m489 := (ei5).trans (fI_kept (x_lt hT kH456 giq (by decide))).symm
      have m490 := (ek10).trans (fI_kept (x_lt hT kH456 gkq (by decide))).symm
      have m491 := (ei10).trans (fI_kept (x_lt hT kH456 giq (by decide))).symm
      have m492 := (ek13).trans (fI_kept (x_lt hT kH456 gkq (by decide))).symm
      have m493 := (ei13).trans (fI_kept (x_lt hT kH456 giq (by decide))).symm
      have m494 := (ek16).trans (fI_kept (x_lt hT kH456 gkq (by decide))).symm
      have m495 := (ei16).trans (fI_kept (x_lt hT kH456 giq (by decide))).symm
      refine W.eq (g2 := F0 m 640 ls [.int x457]) rfl ?_
      have rk496 : RKI K H456 kq iq k1.toInt := RKI.kept rke hT gkq (x_lt hT kH456 giq (by first | exact nmr ht (by decide) | exact nmo ht (by decide) | exact nme ht (by decide) | exact nmq ht (by decide) | decide | (intro z; simp only [List.mem_cons, List.not_mem_nil, or_false] at z <;> omega) | omega)) (fun q t hq ht => x_lt hT kH456 hq (by first | exact nmr ht (by decide) | exact nmo ht (by decide) | exact nme ht (by decide) | exact nmq ht (by decide) | decide | (intro z; simp only [List.mem_cons, List.not_mem_nil, or_false] at z <;> omega) | omega))
      have re497 : RE K H456 w b s1.toInt := RE.cls re hT gw gb (fun q t hq ht => x_lt hT kH456 hq (by first | exact nmr ht (by decide) | exact nmo ht (by decide) | exact nme ht (by decide) | exact nmq ht (by decide) | decide | (intro z; simp only [List.mem_cons, List.not_mem_nil, or_false] at z <;> omega) | omega))
      refine lv_pop hx hb dL_law_640 rfl ?_
      refine lv_aload_n hx hb dL_law_641 rfl (lv_at hl 1 rfl) ?_
      refine lv_aload_n hx hb dL_law_642 rfl (lv_at hl 3 rfl) ?_
      refine lv_iload_n hx hb dL_law_643 rfl (lv_at hl 0 rfl) ?_
      refine lv_iconst (v := 1) hx hb dL_law_644 (by decide) ?_
      refine lv_iadd hx hb dL_law_645 ?_
      refine lv_topi (fun x498 ex498 => ?_)
      obtain ⟨tx498, ejx498, evx498⟩ := lw_ix (k := 1) ex498 hI hL rfl (by decide)
      clear tx498
      refine va_sld hx hb hX hbl (Nat.not_le.mpr hbl) hSH456 (vp_in_iff.mpr evx498) dL_law_646 ?_
      refine W.eq (g2 := F0 m 647 ls [.int (xs (i.toNatClampNeg + 1)), .ref b]) (congrArg (fun z => F0 m 647 ls [.int (xs z), .ref b]) ejx498) ?_
      refine lv_aload_n hx hb dL_law_647 rfl (lv_at hl 3 rfl) ?_
      refine lv_iload_n hx hb dL_law_648 rfl (lv_at hl 0 rfl) ?_
      refine lv_iconst (v := 2) hx hb dL_law_649 (by decide) ?_
      refine lv_iadd hx hb dL_law_650 ?_
      refine lv_topi (fun x499 ex499 => ?_)
      obtain ⟨tx499, ejx499, evx499⟩ := lw_ix (k := 2) ex499 hI hL rfl (by decide)
      clear tx499
      refine va_sld hx hb hX hbl (Nat.not_le.mpr hbl) hSH456 (vp_in_iff.mpr evx499) dL_law_651 ?_
      refine W.eq (g2 := F0 m 652 ls [.int (xs (i.toNatClampNeg + 2)), .int (xs (i.toNatClampNeg + 1)), .ref b]) (congrArg (fun z => F0 m 652 ls [.int (xs z), .int (xs (i.toNatClampNeg + 1)), .ref b]) ejx499) ?_
      refine lv_aload_n hx hb dL_law_652 rfl (lv_at hl 3 rfl) ?_
      refine lv_iload_n hx hb dL_law_653 rfl (lv_at hl 0 rfl) ?_
      refine lv_iconst (v := 3) hx hb dL_law_654 (by decide) ?_
      refine lv_iadd hx hb dL_law_655 ?_
      refine lv_topi (fun x500 ex500 => ?_)
      obtain ⟨tx500, ejx500, evx500⟩ := lw_ix (k := 3) ex500 hI hL rfl (by decide)
      clear tx500
      refine va_sld hx hb hX hbl (Nat.not_le.mpr hbl) hSH456 (vp_in_iff.mpr evx500) dL_law_656 ?_
      refine W.eq (g2 := F0 m 657 ls [.int (xs (i.toNatClampNeg + 3)), .int (xs (i.toNatClampNeg + 2)), .int (xs (i.toNatClampNeg + 1)), .ref b]) (congrArg (fun z => F0 m 657 ls [.int (xs z), .int (xs (i.toNatClampNeg + 2)), .int (xs (i.toNatClampNeg + 1)), .ref b]) ejx500) ?_
      refine x_V (As := [.int (xs (i.toNatClampNeg + 1)), .int (xs (i.toNatClampNeg + 2)), .int (xs (i.toNatClampNeg + 3))]) (rest := []) C (a_X10_shave_n l K G H456 ((xs (i.toNatClampNeg + 1))) ((xs (i.toNatClampNeg + 2))) ((xs (i.toNatClampNeg + 3))) (y1) hTH456 gb m468 g458 g459 g460 g461 (by omega)) yo_X10_shave wM_L_67 ⟨⟨by decide, by decide⟩, show _ ≤ 60000 from Nat.le_trans hc (by decide), show _ ≤ 8922250 from Nat.le_trans hs (by decide)⟩ (x_rv C hTH456 (ci := 10) rfl gb rg_112) rfl hl.1 rfl (Nat.le_of_ble_eq_true rfl) dL_law_657 hSH456 (AE_new hN hSH456.1) (fun vH501 H501 locsH501 pH501 zH501 kH501 hSH501 => ?_)
      obtain ⟨x502, hvH501, bx502, m503, g504, g505, g506, g507, mf508, hTH501⟩ := pH501
      subst hvH501
      have f509 : ∀ j : Nat, fI H501 tq j = fI H tq j := fun j => (fI_kept (x_lt hTH456 kH501 gtq (by decide))).trans (f462 j)
      have f510 : ∀ j : Nat, fI H501 uq j = fI H uq j := fun j => (fI_kept (x_lt hTH456 kH501 guq (by decide))).trans (f463 j)
      have m511 := (m464).trans (fR_kept (x_lt hTH456 kH501 ga (by decide))).symm
      have m512 := (m465).trans (fI_kept (x_lt hTH456 kH501 ga (by decide))).symm
      have m513 := (m467).trans (fI_kept (x_lt hTH456 kH501 gw (by decide))).symm
      have m514 := (m469).trans (fI_kept (x_lt hTH456 kH501 gw (by decide))).symm
      have m515 := (m471).trans (fI_kept (x_lt hTH456 kH501 gw (by decide))).symm
      have m516 := (m473).trans (fI_kept (x_lt hTH456 kH501 gw (by decide))).symm
      have m517 := (m475).trans (fI_kept (x_lt hTH456 kH501 gw (by decide))).symm
      have m518 := (m477).trans (fI_kept (x_lt hTH456 kH501 gw (by decide))).symm
      have m519 := (m479).trans (fR_kept (x_lt hTH456 kH501 ga (by decide))).symm
      have m520 := (fV_kept (x_lt hTH456 kH501 ga (by decide))).trans m482
      have m521 := (m484).trans (fI_kept (x_lt hTH456 kH501 gkq (by decide))).symm
      have m522 := (m485).trans (fI_kept (x_lt hTH456 kH501 giq (by decide))).symm
      have m523 := (m486).trans (fI_kept (x_lt hTH456 kH501 gkq (by decide))).symm
      have m524 := (m487).trans (fI_kept (x_lt hTH456 kH501 giq (by decide))).symm
      have m525 := (m488).trans (fI_kept (x_lt hTH456 kH501 gkq (by decide))).symm
      have m526 := (m489).trans (fI_kept (x_lt hTH456 kH501 giq (by decide))).symm
      have m527 := (m490).trans (fI_kept (x_lt hTH456 kH501 gkq (by decide))).symm
      have m528 := (m491).trans (fI_kept (x_lt hTH456 kH501 giq (by decide))).symm
      have m529 := (m492).trans (fI_kept (x_lt hTH456 kH501 gkq (by decide))).symm
      have m530 := (m493).trans (fI_kept (x_lt hTH456 kH501 giq (by decide))).symm
      have m531 := (m494).trans (fI_kept (x_lt hTH456 kH501 gkq (by decide))).symm
      have m532 := (m495).trans (fI_kept (x_lt hTH456 kH501 giq (by decide))).symm
      have m533 := (m466).trans (MF.i mf508 (k := 18) (by decide) (by decide)).symm
      have m534 := (m468).trans (MF.i mf508 (k := 1) (by decide) (by decide)).symm
      have m535 := (m470).trans (MF.i mf508 (k := 2) (by decide) (by decide)).symm
      have m536 := (m472).trans (MF.i mf508 (k := 3) (by decide) (by decide)).symm
      have m537 := (m474).trans (MF.i mf508 (k := 59) (by decide) (by decide)).symm
      have m538 := (m476).trans (MF.i mf508 (k := 62) (by decide) (by decide)).symm
      have m539 := (m478).trans (MF.i mf508 (k := 65) (by decide) (by decide)).symm
      have m540 := (m480).trans (MF.r mf508 (k := 17) (by decide) (by decide)).symm
      have m541 := (m481).trans (MF.i mf508 (k := 70) (by decide) (by decide)).symm
      have m542 := (m483).trans (MF.r mf508 (k := 73) (by decide) (by decide)).symm
      refine W.eq (g2 := F0 m 660 ls [.int x502]) rfl ?_
      have rk543 : RKI K H501 kq iq k1.toInt := RKI.kept rk496 hTH456 gkq (x_lt hTH456 kH501 giq (by first | exact nmr ht (by decide) | exact nmo ht (by decide) | exact nme ht (by decide) | exact nmq ht (by decide) | decide | (intro z; simp only [List.mem_cons, List.not_mem_nil, or_false] at z <;> omega) | omega)) (fun q t hq ht => x_lt hTH456 kH501 hq (by first | exact nmr ht (by decide) | exact nmo ht (by decide) | exact nme ht (by decide) | exact nmq ht (by decide) | decide | (intro z; simp only [List.mem_cons, List.not_mem_nil, or_false] at z <;> omega) | omega))
      have re544 : RE K H501 w b s1.toInt := RE.ref re497 hTH456 gw gb (fun k hk => MF.r mf508 (by omega) (by intro z; simp only [List.mem_cons, List.not_mem_nil, or_false] at z; omega)) (fun q t hq ht => x_lt hTH456 kH501 hq (by first | exact nmr ht (by decide) | exact nmo ht (by decide) | exact nme ht (by decide) | exact nmq ht (by decide) | decide | (intro z; simp only [List.mem_cons, List.not_mem_nil, or_false] at z <;> omega) | omega))
      refine lv_pop hx hb dL_law_660 rfl ?_
      refine lv_goto (tgt := 1509) hx hb dL_law_661 (by decide) ?_
      exact nx G H501 locsH501 _ _ ls ⟨hTH501, hN, ga, gb, g504, g505, g506, g507, ⟨(by rw [← m512, ← m533]; exact rt), (by rw [← m511, ← m513, ← m503]; exact r1), (by rw [← m511, ← m514, ← m535]; exact r4), (by rw [← m511, ← m515, ← m536]; exact r5), (by rw [← m511, ← m516, ← m537]; exact r10), (by rw [← m511, ← m517, ← m538]; exact r13), (by rw [← m511, ← m518, ← m539]; exact r16)⟩, Or.inr ⟨kq, m520, gkq, (by rw [← m541]; exact h70), (by rw [← m521, ← m542, ← m522]; exact q1), (by rw [← m523, ← m542, ← m524]; exact q4), (by rw [← m525, ← m542, ← m526]; exact q5), (by rw [← m527, ← m542, ← m528]; exact q10), (by rw [← m529, ← m542, ← m530]; exact q13), (by rw [← m531, ← m542, ← m532]; exact q16), (by rw [← m542, ← m521]; exact RKI.cast rk543 (by omega)), (by rw [← m525]; omega), (by rw [← m525]; omega)⟩, (by unfold TB; rw [← m519, ← m540, ← m533]; exact TBR.of htr f509 f510 (by omega)), (by unfold RELE; rw [← m511, ← m503, ← m515]; exact ⟨RE.cast re544 (by omega), by omega, by omega⟩), hSH501⟩ hl ⟨hc, hs, fun h => by have h1 := h.symm.trans m520; cases h1⟩