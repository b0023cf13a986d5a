set_option maxRecDepth 100000 in
set_option maxHeartbeats 8000000 in
theorem lw_c0 {p : Program} {l : Launch} {e : Env} {s : State} {m : MethodId} {below : List Frame} {meth : Method} {c : Code} {K : KE} {b0 L : Nat} {xs : Nat → Int32} {G : Nat → Option Nat} {H : Heap} {locs : List Loc} {a b : Nat} {cells slots : Nat} {ls : Array Slot} {i : Int32} {n : Nat} (D : LC p K s m meth c b0 L xs) (S : SX K s G H locs a b) (hl : lv_has ls 4 [(3, .int i), (2, .ref b), (1, .ref a), (0, .ref b0)]) (hi : 0 ≤ i.toInt ∧ i.toInt + 6 ≤ L) (hn : n ≤ 511) (hB : BD K H a cells slots) (nx : ∀ (G : Nat → Option Nat) (H : Heap) (locs : List Loc) (cells slots : Nat) (ls : Array Slot), SX K s G H locs a b → lv_has ls 4 [(3, .int i), (2, .ref b), (1, .ref a), (0, .ref b0)] → BD K H a cells slots → W p l e room_1 s m #[Value.ref b0] below meth c H locs cells slots (lw_Z below #[Value.ref b0] s) (F0 m 1509 ls [])) : W p l e room_1 s m #[Value.ref b0] below meth c H locs cells slots (lw_Z below #[Value.ref b0] s) (F0 m 188 ls []) := by
  have hI := hi
  obtain ⟨C, hX, hbl, hL⟩ := id D
  obtain ⟨hx, hb, hml, hown, hts, hKT, hr, hlocks, hnm⟩ := id C
  obtain ⟨hT, hN, ga, gb, cg, tu, wd, im, ⟨rt, r1, r4, r5, r10, r13, r16⟩, hk, htb, her, hS⟩ := S
  obtain ⟨hc, hs, hB0⟩ := hB
  have n_1 : (1 : Int32).toInt = 1 := rfl
  obtain ⟨w, ew⟩ : ∃ z : Nat, z = fR H a (K.1.2 9 0) := ⟨_, rfl⟩
  have gw := ty_fr (q := w) (k := 0) (u := 0) ew hT ga rg_68 rfl
  rw [← ew] at r1 r4 r5 r10 r13 r16
  obtain ⟨ta, eta⟩ : ∃ z : Int32, z = fI H a (K.1.2 9 3) := ⟨_, rfl⟩
  rw [← eta] at rt
  obtain ⟨tb, etb⟩ : ∃ z : Int32, z = fI H b (K.1.2 10 18) := ⟨_, rfl⟩
  rw [← etb] at rt
  obtain ⟨s1, es1⟩ : ∃ z : Int32, z = fI H w (K.1.2 8 1) := ⟨_, rfl⟩
  rw [← es1] at r1
  obtain ⟨y1, ey1⟩ : ∃ z : Int32, z = fI H b (K.1.2 10 1) := ⟨_, rfl⟩
  rw [← ey1] at r1
  obtain ⟨s4, es4⟩ : ∃ z : Int32, z = fI H w (K.1.2 8 4) := ⟨_, rfl⟩
  rw [← es4] at r4
  obtain ⟨y4, ey4⟩ : ∃ z : Int32, z = fI H b (K.1.2 10 2) := ⟨_, rfl⟩
  rw [← ey4] at r4
  obtain ⟨s5, es5⟩ : ∃ z : Int32, z = fI H w (K.1.2 8 5) := ⟨_, rfl⟩
  rw [← es5] at r5
  obtain ⟨y5, ey5⟩ : ∃ z : Int32, z = fI H b (K.1.2 10 3) := ⟨_, rfl⟩
  rw [← ey5] at r5
  obtain ⟨s10, es10⟩ : ∃ z : Int32, z = fI H w (K.1.2 8 10) := ⟨_, rfl⟩
  rw [← es10] at r10
  obtain ⟨y10, ey10⟩ : ∃ z : Int32, z = fI H b (K.1.2 10 59) := ⟨_, rfl⟩
  rw [← ey10] at r10
  obtain ⟨s13, es13⟩ : ∃ z : Int32, z = fI H w (K.1.2 8 13) := ⟨_, rfl⟩
  rw [← es13] at r13
  obtain ⟨y13, ey13⟩ : ∃ z : Int32, z = fI H b (K.1.2 10 62) := ⟨_, rfl⟩
  rw [← ey13] at r13
  obtain ⟨s16, es16⟩ : ∃ z : Int32, z = fI H w (K.1.2 8 16) := ⟨_, rfl⟩
  rw [← es16] at r16
  obtain ⟨y16, ey16⟩ : ∃ z : Int32, z = fI H b (K.1.2 10 65) := ⟨_, rfl⟩
  rw [← ey16] at r16
  obtain ⟨tq, etq⟩ : ∃ z : Nat, z = fR H a (K.1.2 9 2) := ⟨_, rfl⟩
  have gtq := ty_fr (q := tq) (k := 2) (u := 108) etq hT ga rg_68 rfl
  obtain ⟨uq, euq⟩ : ∃ z : Nat, z = fR H b (K.1.2 10 17) := ⟨_, rfl⟩
  have guq := ty_fr (q := uq) (k := 17) (u := 126) euq hT gb rg_112 rfl
  have htr : TBR (fun j => fI H tq j) (fun j => fI H uq j) tb.toNatClampNeg := by rw [etq, euq, etb]; exact htb
  have ft0 : ∀ j : Nat, fI H tq j = fI H tq j := fun _ => rfl
  have fu0 : ∀ j : Nat, fI H uq j = fI H uq j := fun _ => rfl
  have bta := ty_fi (x := ta) (k := 3) eta hT ga rg_68 rfl
  have cta := i_cl (x := ta) (by omega)
  have btb := ty_fi (x := tb) (k := 18) etb hT gb rg_112 rfl
  have ctb := i_cl (x := tb) (by omega)
  obtain ⟨her0, hsl1, hsl2⟩ := her
  have hsl0 := And.intro hsl1 hsl2
  clear hsl1 hsl2
  rw [← ew] at her0 hsl0
  have re : RE K H w b s1.toInt := RE.cast her0 (by rw [← ey1]; exact r1)
  have hsl : 0 ≤ s5.toInt ∧ s5.toInt ≤ 9999 := by rw [es5]; exact hsl0
  clear her0 hsl0
  have bt_s1 := ty_fi (x := s1) (k := 1) es1 hT gw rg_0 rfl
  have bt_s4 := ty_fi (x := s4) (k := 4) es4 hT gw rg_0 rfl
  have bt_y1 := ty_fi (x := y1) (k := 1) ey1 hT gb rg_112 rfl
  have bt_y4 := ty_fi (x := y4) (k := 2) ey4 hT gb rg_112 rfl
  rcases hk with ⟨kn, h70⟩ | ⟨kq, kn, gkq, h70, q1, q4, q5, q10, q13, q16, rke, ks1, ks2⟩
  · skip
    obtain ⟨hi, ehi⟩ : ∃ z : Int32, z = fI H b (K.1.2 10 70) := ⟨_, rfl⟩
    rw [← ehi] at h70
    obtain ⟨hc0, hs0⟩ := hB0 kn
    obtain ⟨iq, eiq⟩ : ∃ z : Nat, z = fR H b (K.1.2 10 73) := ⟨_, rfl⟩
    have giq := ty_fr (q := iq) (k := 73) (u := 162) eiq hT gb rg_112 rfl
    refine lv_aload_n hx hb dL_law_188 rfl (lv_at hl 2 rfl) ?_
    refine lv_aload_n hx hb dL_law_189 rfl (lv_at hl 3 rfl) ?_
    refine lv_iload_n hx hb dL_law_190 rfl (lv_at hl 0 rfl) ?_
    refine lv_iconst (v := 1) hx hb dL_law_191 (by decide) ?_
    refine lv_iadd hx hb dL_law_192 ?_
    refine lv_topi (fun x101 ex101 => ?_)
    obtain ⟨tx101, ejx101, evx101⟩ := lw_ix (k := 1) ex101 hI hL rfl (by decide)
    clear tx101
    refine va_sld hx hb hX hbl (Nat.not_le.mpr hbl) hS (vp_in_iff.mpr evx101) dL_law_193 ?_
    refine W.eq (g2 := F0 m 194 ls [.int (xs (i.toNatClampNeg + 1)), .ref a]) (congrArg (fun z => F0 m 194 ls [.int (xs z), .ref a]) ejx101) ?_
    have sp102 : ((3 ≤ (xs (i.toNatClampNeg + 1)).toInt ∧ (xs (i.toNatClampNeg + 1)).toInt ≤ 16) ∧ s1.toInt ≤ 9) ∨ ((xs (i.toNatClampNeg + 1)).toInt < 3 ∨ 16 < (xs (i.toNatClampNeg + 1)).toInt ∨ 10 ≤ s1.toInt) := by omega
    rcases sp102 with hsp | hsp
    · skip
      have cxe := i_cl (x := s1) (by omega)
      obtain ⟨bq, ebq⟩ : ∃ z : Nat, z = fR H w (K.1.2 8 0) := ⟨_, rfl⟩
      have gbq := ty_fr (q := bq) (k := 0) (u := 25) ebq hT gw rg_0 rfl
      obtain ⟨bb, ebb⟩ : ∃ z : Nat, z = fR H bq (s1 : Int32).toNatClampNeg := ⟨_, rfl⟩
      have ebo : ow K H w (s1 : Int32).toNatClampNeg = bb := by rw [ow_b (by omega), ← ebq, ← ebb]
      have gbb : G bb = some 1 := by rw [← ebo]; exact ow_g hT gw (by omega)
      obtain ⟨rw1, erw1⟩ : ∃ z : Nat, z = fR H bb (K.1.2 0 1) := ⟨_, rfl⟩
      have grw1 := ty_fr (q := rw1) (k := 1) (u := 2) erw1 hT gbb rg_1 rfl
      obtain ⟨rw2, erw2⟩ : ∃ z : Nat, z = fR H bb (K.1.2 0 2) := ⟨_, rfl⟩
      have grw2 := ty_fr (q := rw2) (k := 2) (u := 3) erw2 hT gbb rg_1 rfl
      obtain ⟨rw3, erw3⟩ : ∃ z : Nat, z = fR H bb (K.1.2 0 3) := ⟨_, rfl⟩
      have grw3 := ty_fr (q := rw3) (k := 3) (u := 4) erw3 hT gbb rg_1 rfl
      obtain ⟨rw4, erw4⟩ : ∃ z : Nat, z = fR H bb (K.1.2 0 4) := ⟨_, rfl⟩
      have grw4 := ty_fr (q := rw4) (k := 4) (u := 5) erw4 hT gbb rg_1 rfl
      obtain ⟨rw5, erw5⟩ : ∃ z : Nat, z = fR H bb (K.1.2 0 5) := ⟨_, rfl⟩
      have grw5 := ty_fr (q := rw5) (k := 5) (u := 6) erw5 hT gbb rg_1 rfl
      obtain ⟨rw17, erw17⟩ : ∃ z : Nat, z = fR H bb (K.1.2 0 17) := ⟨_, rfl⟩
      have grw17 := ty_fr (q := rw17) (k := 17) (u := 15) erw17 hT gbb rg_1 rfl
      refine x_V (As := [.int (xs (i.toNatClampNeg + 1))]) (rest := []) C (a_X9_bar_v l K G H ((xs (i.toNatClampNeg + 1))) (s1) (s4) (s5) (s10) (s13) (s16) hT ga (by omega) gw ew gbq ebq gbb ebb grw1 erw1 grw2 erw2 grw3 erw3 grw4 erw4 grw5 erw5 grw17 erw17 es1 es4 es5 es10 es13 es16 (by omega)) yo_X9_bar wM_L_13 ⟨⟨by decide, by decide⟩, show _ ≤ 60000 from Nat.le_trans hc (by decide), show _ ≤ 8922250 from Nat.le_trans hs (by decide)⟩ (x_rv C hT (ci := 9) rfl ga rg_68) rfl hl.1 rfl (Nat.le_of_ble_eq_true rfl) dL_law_194 hS (AE_new hN hS.1) (fun vH103 H103 locsH103 pH103 zH103 kH103 hSH103 => ?_)
      obtain ⟨x104, x105, hvH103, ex105, hrH103, m106, m107, m108, m109, m110, m111, m112, m113, m114, m115, m116, m117, m118, m119, m120, m121, hTH103⟩ := pH103
      subst hvH103
      have g122 : CG (avw K H103 b) := CG.congr (fun k hk j => av_eff hT kH103 gb (by decide) (CG_eff [0, 1, 2, 3, 4, 5, 6, 15] (by decide) k hk)) cg
      have g123 : TU (avw K H103 b) (svw K H103 b) := TU.congr (fun k hk j => av_eff hT kH103 gb (by decide) (TU_eff [0, 1, 2, 3, 4, 5, 6, 15] (by decide) k hk)) (fun k hk => sv_eff hT kH103 gb (by decide)) tu
      have g124 : WD (avw K H103 b) := WD.congr (fun k hk j => av_eff hT kH103 gb (by decide) (WD_eff [0, 1, 2, 3, 4, 5, 6, 15] (by decide) k hk)) wd
      have g125 : IM (avw K H103 b) := IM.congr (fun k hk j => av_eff hT kH103 gb (by decide) (IM_eff [0, 1, 2, 3, 4, 5, 6, 15] (by decide) k hk)) im
      have f126 : ∀ j : Nat, fI H103 tq j = fI H tq j := fun j => (fI_kept (x_lt hT kH103 gtq (by decide))).trans (ft0 j)
      have f127 : ∀ j : Nat, fI H103 uq j = fI H uq j := fun j => (fI_kept (x_lt hT kH103 guq (by decide))).trans (fu0 j)
      have m128 := (ew).trans (fR_kept (x_lt hT kH103 ga (by decide))).symm
      have m129 := (eta).trans (fI_kept (x_lt hT kH103 ga (by decide))).symm
      have m130 := (etb).trans (fI_kept (x_lt hT kH103 gb (by decide))).symm
      have m131 := (ey1).trans (fI_kept (x_lt hT kH103 gb (by decide))).symm
      have m132 := (ey4).trans (fI_kept (x_lt hT kH103 gb (by decide))).symm
      have m133 := (ey5).trans (fI_kept (x_lt hT kH103 gb (by decide))).symm
      have m134 := (ey10).trans (fI_kept (x_lt hT kH103 gb (by decide))).symm
      have m135 := (ey13).trans (fI_kept (x_lt hT kH103 gb (by decide))).symm
      have m136 := (ey16).trans (fI_kept (x_lt hT kH103 gb (by decide))).symm
      have m137 := (etq).trans (fR_kept (x_lt hT kH103 ga (by decide))).symm
      have m138 := (euq).trans (fR_kept (x_lt hT kH103 gb (by decide))).symm
      have m139 := (ehi).trans (fI_kept (x_lt hT kH103 gb (by decide))).symm
      have m140 := (fV_kept (x_lt hT kH103 ga (by decide))).trans kn
      have m141 := (eiq).trans (fR_kept (x_lt hT kH103 gb (by decide))).symm
      have m142 := (ebb).trans (fR_kept (x_lt hT kH103 gbq (by decide))).symm
      have bx105 := ty_fi (x := x105) (k := 1) ex105 hTH103 gw rg_0 rfl
      refine W.eq (g2 := F0 m 197 ls [.int x104]) rfl ?_
      have nw_ : NWF K H103 H w := m121
      have rb_ : RFB K H103 H bb := m120
      obtain ⟨brf, bot, bat, btx⟩ := bar_one (H1 := H103) re.1 hT gw (j := (s1 : Int32).toNatClampNeg) (by omega) ebo nw_ rb_ (fun q t hq ht n1 n2 => m119 q t hq (G_ne hq gw (by omega)) n1 (by rw [erw1]; exact n2 1 (by decide)) (by rw [erw2]; exact n2 2 (by decide)) (by rw [erw3]; exact n2 3 (by decide)) (by rw [erw4]; exact n2 4 (by decide)) (by rw [erw5]; exact n2 5 (by decide)) (by rw [erw17]; exact n2 17 (by decide)))
      have er1 : ∀ bar, vrN K H103 b bar = vrN K H b bar := vrN.reg hT gb (fun k _ => fR_kept (x_lt hT kH103 gb (by first | exact nmr ht (by decide) | exact nmo ht (by decide) | exact nme ht (by decide) | exact nmq ht (by decide) | decide | (intro z; simp only [List.mem_cons, List.not_mem_nil, or_false] at z <;> omega) | omega))) (fun q t hq ht => x_lt hT kH103 hq (by first | exact nmr ht (by decide) | exact nmo ht (by decide) | exact nme ht (by decide) | exact nmq ht (by decide) | decide | (intro z; simp only [List.mem_cons, List.not_mem_nil, or_false] at z <;> omega) | omega))
      have tr1 : TPK (TRP K H103 b) (TRP K H b) := TRP.reg hT gb (fun k _ _ => fR_kept (x_lt hT kH103 gb (by first | exact nmr ht (by decide) | exact nmo ht (by decide) | exact nme ht (by decide) | exact nmq ht (by decide) | decide | (intro z; simp only [List.mem_cons, List.not_mem_nil, or_false] at z <;> omega) | omega))) (fun q t hq ht => x_lt hT kH103 hq (by first | exact nmr ht (by decide) | exact nmo ht (by decide) | exact nme ht (by decide) | exact nmq ht (by decide) | decide | (intro z; simp only [List.mem_cons, List.not_mem_nil, or_false] at z <;> omega) | omega))
      refine lv_pop hx hb dL_law_197 rfl ?_
      refine lv_aload_n hx hb dL_law_198 rfl (lv_at hl 1 rfl) ?_
      refine lv_aload_n hx hb dL_law_199 rfl (lv_at hl 3 rfl) ?_
      refine lv_iload_n hx hb dL_law_200 rfl (lv_at hl 0 rfl) ?_
      refine lv_iconst (v := 1) hx hb dL_law_201 (by decide) ?_
      refine lv_iadd hx hb dL_law_202 ?_
      refine lv_topi (fun x143 ex143 => ?_)
      obtain ⟨tx143, ejx143, evx143⟩ := lw_ix (k := 1) ex143 hI hL rfl (by decide)
      clear tx143
      refine va_sld hx hb hX hbl (Nat.not_le.mpr hbl) hSH103 (vp_in_iff.mpr evx143) dL_law_203 ?_
      refine W.eq (g2 := F0 m 204 ls [.int (xs (i.toNatClampNeg + 1)), .ref b]) (congrArg (fun z => F0 m 204 ls [.int (xs z), .ref b]) ejx143) ?_
      obtain ⟨q144, eq144⟩ : ∃ z : Nat, @Eq Ad z (fR H103 b (K.1.2 10 4)) := ⟨_, rfl⟩
      have gq144 := ty_fr (q := q144) (k := 4) (u := 113) eq144 hTH103 gb rg_112 rfl
      obtain ⟨q145, eq145⟩ : ∃ z : Nat, @Eq Ad z (fR H103 b (K.1.2 10 5)) := ⟨_, rfl⟩
      have gq145 := ty_fr (q := q145) (k := 5) (u := 114) eq145 hTH103 gb rg_112 rfl
      obtain ⟨q146, eq146⟩ : ∃ z : Nat, @Eq Ad z (fR H103 b (K.1.2 10 6)) := ⟨_, rfl⟩
      have gq146 := ty_fr (q := q146) (k := 6) (u := 115) eq146 hTH103 gb rg_112 rfl
      obtain ⟨q147, eq147⟩ : ∃ z : Nat, @Eq Ad z (fR H103 b (K.1.2 10 7)) := ⟨_, rfl⟩
      have gq147 := ty_fr (q := q147) (k := 7) (u := 116) eq147 hTH103 gb rg_112 rfl
      obtain ⟨q148, eq148⟩ : ∃ z : Nat, @Eq Ad z (fR H103 b (K.1.2 10 8)) := ⟨_, rfl⟩
      have gq148 := ty_fr (q := q148) (k := 8) (u := 117) eq148 hTH103 gb rg_112 rfl
      obtain ⟨q149, eq149⟩ : ∃ z : Nat, @Eq Ad z (fR H103 b (K.1.2 10 16)) := ⟨_, rfl⟩
      have gq149 := ty_fr (q := q149) (k := 16) (u := 125) eq149 hTH103 gb rg_112 rfl
      obtain ⟨q150, eq150⟩ : ∃ z : Nat, @Eq Ad z (fR H103 b (K.1.2 10 9)) := ⟨_, rfl⟩
      have gq150 := ty_fr (q := q150) (k := 9) (u := 118) eq150 hTH103 gb rg_112 rfl
      obtain ⟨q151, eq151⟩ : ∃ z : Nat, @Eq Ad z (fR H103 b (K.1.2 10 11)) := ⟨_, rfl⟩
      have gq151 := ty_fr (q := q151) (k := 11) (u := 120) eq151 hTH103 gb rg_112 rfl
      obtain ⟨q152, eq152⟩ : ∃ z : Nat, @Eq Ad z (fR H103 b (K.1.2 10 12)) := ⟨_, rfl⟩
      have gq152 := ty_fr (q := q152) (k := 12) (u := 121) eq152 hTH103 gb rg_112 rfl
      obtain ⟨q153, eq153⟩ : ∃ z : Nat, @Eq Ad z (fR H103 b (K.1.2 10 10)) := ⟨_, rfl⟩
      have gq153 := ty_fr (q := q153) (k := 10) (u := 119) eq153 hTH103 gb rg_112 rfl
      obtain ⟨q154, eq154⟩ : ∃ z : Nat, @Eq Ad z (fR H103 b (K.1.2 10 13)) := ⟨_, rfl⟩
      have gq154 := ty_fr (q := q154) (k := 13) (u := 122) eq154 hTH103 gb rg_112 rfl
      refine x_V (As := [.int (xs (i.toNatClampNeg + 1))]) (rest := []) C (a_X10_bar_v l K G H103 ((xs (i.toNatClampNeg + 1))) (y1) hTH103 gb (by omega) gq144 eq144 gq145 eq145 gq146 eq146 gq147 eq147 gq148 eq148 gq149 eq149 gq150 eq150 gq151 eq151 gq152 eq152 gq153 eq153 gq154 eq154 m131 g122 g123 g124 g125 (by omega) (by have z := re.2.1.2 (y1 : Int32).toNatClampNeg (by omega) (by omega); rw [show vrN K H b (y1 : Int32).toNatClampNeg = vwR K H103 b (y1 : Int32).toNatClampNeg from (er1 _).symm] at z; exact z)) yo_X10_bar wM_L_17 ⟨⟨by decide, by decide⟩, show _ ≤ 60000 from Nat.le_trans hc (by decide), show _ ≤ 8922250 from Nat.le_trans hs (by decide)⟩ (x_rv C hTH103 (ci := 10) rfl gb rg_112) rfl hl.1 rfl (Nat.le_of_ble_eq_true rfl) dL_law_204 hSH103 (AE_new hN hSH103.1) (fun vH155 H155 locsH155 pH155 zH155 kH155 hSH155 => ?_)
      obtain ⟨x156, x157, hvH155, ex157, hrH155, m158, m159, m160, m161, m162, m163, m164, m165, m166, m167, m168, g169, g170, g171, g172, mf173, m174, m175, hTH155⟩ := pH155
      subst hvH155
      have f176 : ∀ j : Nat, fI H155 tq j = fI H tq j := fun j => (fI_kept (x_lt hTH103 kH155 gtq (by decide))).trans (f126 j)
      have f177 : ∀ j : Nat, fI H155 uq j = fI H uq j := fun j => (fI_kept (x_lt hTH103 kH155 guq (by decide))).trans (f127 j)
      have m178 := (m128).trans (fR_kept (x_lt hTH103 kH155 ga (by decide))).symm
      have m179 := (m129).trans (fI_kept (x_lt hTH103 kH155 ga (by decide))).symm
      have m180 := (m137).trans (fR_kept (x_lt hTH103 kH155 ga (by decide))).symm
      have m181 := (fV_kept (x_lt hTH103 kH155 ga (by decide))).trans m140
      have m182 := (m142).trans (fR_kept (x_lt hTH103 kH155 gbq (by decide))).symm
      have m183 := (m106).trans (fR_kept (x_lt hTH103 kH155 gw (by decide))).symm
      have m184 := (m107).trans (fR_kept (x_lt hTH103 kH155 gbb (by decide))).symm
      have m185 := (m108).trans (fR_kept (x_lt hTH103 kH155 gbb (by decide))).symm
      have m186 := (m109).trans (fR_kept (x_lt hTH103 kH155 gbb (by decide))).symm
      have m187 := (m110).trans (fR_kept (x_lt hTH103 kH155 gbb (by decide))).symm
      have m188 := (m111).trans (fR_kept (x_lt hTH103 kH155 gbb (by decide))).symm
      have m189 := (m112).trans (fR_kept (x_lt hTH103 kH155 gbb (by decide))).symm
      have m190 := (m113).trans (fI_kept (x_lt hTH103 kH155 gw (by decide))).symm
      have m191 := (m114).trans (fI_kept (x_lt hTH103 kH155 gw (by decide))).symm
      have m192 := (m115).trans (fI_kept (x_lt hTH103 kH155 gw (by decide))).symm
      have m193 := (m116).trans (fI_kept (x_lt hTH103 kH155 gw (by decide))).symm
      have m194 := (m117).trans (fI_kept (x_lt hTH103 kH155 gw (by decide))).symm
      have m195 := (ex105).trans (fI_kept (x_lt hTH103 kH155 gw (by decide))).symm
      have m196 := (m130).trans (MF.i mf173 (k := 18) (by decide) (by decide)).symm
      have m197 := (m132).trans (MF.i mf173 (k := 2) (by decide) (by decide)).symm
      have m198 := (m133).trans (MF.i mf173 (k := 3) (by decide) (by decide)).symm
      have m199 := (m134).trans (MF.i mf173 (k := 59) (by decide) (by decide)).symm
      have m200 := (m135).trans (MF.i mf173 (k := 62) (by decide) (by decide)).symm
      have m201 := (m136).trans (MF.i mf173 (k := 65) (by decide) (by decide)).symm
      have m202 := (m138).trans (MF.r mf173 (k := 17) (by decide) (by decide)).symm
      have m203 := (m139).trans (MF.i mf173 (k := 70) (by decide) (by decide)).symm
      have m204 := (m141).trans (MF.r mf173 (k := 73) (by decide) (by decide)).symm
      have m205 := (eq144).trans (MF.r mf173 (k := 4) (by decide) (by decide)).symm
      have m206 := (eq145).trans (MF.r mf173 (k := 5) (by decide) (by decide)).symm
      have m207 := (eq146).trans (MF.r mf173 (k := 6) (by decide) (by decide)).symm
      have m208 := (eq147).trans (MF.r mf173 (k := 7) (by decide) (by decide)).symm
      have m209 := (eq148).trans (MF.r mf173 (k := 8) (by decide) (by decide)).symm
      have m210 := (eq149).trans (MF.r mf173 (k := 16) (by decide) (by decide)).symm
      have m211 := (eq150).trans (MF.r mf173 (k := 9) (by decide) (by decide)).symm
      have m212 := (eq151).trans (MF.r mf173 (k := 11) (by decide) (by decide)).symm
      have m213 := (eq152).trans (MF.r mf173 (k := 12) (by decide) (by decide)).symm
      have m214 := (eq153).trans (MF.r mf173 (k := 10) (by decide) (by decide)).symm
      have m215 := (eq154).trans (MF.r mf173 (k := 13) (by decide) (by decide)).symm
      have bx157 := ty_fi (x := x157) (k := 1) ex157 hTH155 gb rg_112 rfl
      refine W.eq (g2 := F0 m 207 ls [.int x156]) rfl ?_
      have r12 : RFW K H155 H103 w := RFW.cell hTH103 gw (fun q t hq ht => x_lt hTH103 kH155 hq (by first | exact nmr ht (by decide) | exact nmo ht (by decide) | exact nme ht (by decide) | exact nmq ht (by decide) | decide | (intro z; simp only [List.mem_cons, List.not_mem_nil, or_false] at z <;> omega) | omega))
      have cU := vcN.kept hTH103 gw r12 (fun q t hq ht => x_lt hTH103 kH155 hq (by first | exact nmr ht (by decide) | exact nmo ht (by decide) | exact nme ht (by decide) | exact nmq ht (by decide) | decide | (intro z; simp only [List.mem_cons, List.not_mem_nil, or_false] at z <;> omega) | omega))
      have own2 : OWN K H155 w := (re.1.st brf).st r12
      have tU : TPK (TXP K H155 w) (TXP K H103 w) := TXP.kept hTH103 gw r12 (fun q t hq ht => x_lt hTH103 kH155 hq (by first | exact nmr ht (by decide) | exact nmo ht (by decide) | exact nme ht (by decide) | exact nmq ht (by decide) | decide | (intro z; simp only [List.mem_cons, List.not_mem_nil, or_false] at z <;> omega) | omega))
      have tR : TPK (TRP K H155 b) (TRP K H103 b) := TRP.reg hTH103 gb (fun k h1 h2 => MF.r mf173 (by omega) (by intro z; simp only [List.mem_cons, List.not_mem_nil, or_false] at z; omega)) (fun q t hq ht => x_lt hTH103 kH155 hq (by first | exact nmr ht (by decide) | exact nmo ht (by decide) | exact nme ht (by decide) | exact nmq ht (by decide) | decide | (intro z; simp only [List.mem_cons, List.not_mem_nil, or_false] at z <;> omega) | omega))
      have nbr_ := m174
      rw [show (y1 : Int32).toNatClampNeg = (s1 : Int32).toNatClampNeg by omega] at nbr_
      have re216 : RE K H155 w b (s1.toInt + 1) := RE.add (i := (s1 : Int32).toNatClampNeg) re own2 (by omega) rfl (s := (xs (i.toNatClampNeg + 1)).toInt) (by omega) (by rw [cU (s1 : Int32).toNatClampNeg (by omega), bat]; exact m118) nbr_ (fun j hj hn => (cU j hj).trans (bot j hj hn)) (fun j hj hn => EqV.tr (m175 j (by omega)) (by rw [show vwR K H103 b j = vwR K H b j from er1 j]; exact EqV.rf)) (fun r kk vv lw n h1 h2 z => tU r kk vv lw n h1 h2 (btx r kk vv lw n h1 h2 z)) (fun r kk vv lw n h1 h2 z => tR r kk vv lw n h1 h2 (tr1 r kk vv lw n h1 h2 z))
      refine lv_pop hx hb dL_law_207 rfl ?_
      refine lv_goto (tgt := 1509) hx hb dL_law_208 (by decide) ?_
      exact nx G H155 locsH155 _ _ ls ⟨hTH155, hN, ga, gb, g169, g170, g171, g172, ⟨(by rw [← m179, ← m196]; exact rt), (by rw [← m178, ← m195, ← ex157]; omega), (by rw [← m178, ← m190, ← m197]; exact r4), (by rw [← m178, ← m191, ← m198]; exact r5), (by rw [← m178, ← m192, ← m199]; exact r10), (by rw [← m178, ← m193, ← m200]; exact r13), (by rw [← m178, ← m194, ← m201]; exact r16)⟩, Or.inl ⟨m181, (by rw [← m203]; exact h70)⟩, (by unfold TB; rw [← m180, ← m202, ← m196]; exact TBR.of htr f176 f177 (by omega)), (by unfold RELE; rw [← m178, ← ex157, ← m191]; exact ⟨RE.cast re216 (by omega), by omega, by omega⟩), hSH155⟩ hl ⟨hc, hs, fun _ => ⟨hc0, hs0⟩⟩
    · skip
      refine x_V (As := [.int (xs (i.toNatClampNeg + 1))]) (rest := []) C (a_X9_bar_n l K G H ((xs (i.toNatClampNeg + 1))) (s1) hT ga gw ew es1 (by omega)) yo_X9_bar wM_L_13 ⟨⟨by decide, by decide⟩, show _ ≤ 60000 from Nat.le_trans hc (by decide), show _ ≤ 8922250 from Nat.le_trans hs (by decide)⟩ (x_rv C hT (ci := 9) rfl ga rg_68) rfl hl.1 rfl (Nat.le_of_ble_eq_true rfl) dL_law_194 hS (AE_new hN hS.1) (fun vH217 H217 locsH217 pH217 zH217 kH217 hSH217 => ?_)
      obtain ⟨x218, hvH217, bx218, hTH217⟩ := pH217
      subst hvH217
      have g219 : CG (avw K H217 b) := CG.congr (fun k hk j => av_eff hT kH217 gb (by decide) (CG_eff [] (by decide) k hk)) cg
      have g220 : TU (avw K H217 b) (svw K H217 b) := TU.congr (fun k hk j => av_eff hT kH217 gb (by decide) (TU_eff [] (by decide) k hk)) (fun k hk => sv_eff hT kH217 gb (by decide)) tu
      have g221 : WD (avw K H217 b) := WD.congr (fun k hk j => av_eff hT kH217 gb (by decide) (WD_eff [] (by decide) k hk)) wd
      have g222 : IM (avw K H217 b) := IM.congr (fun k hk j => av_eff hT kH217 gb (by decide) (IM_eff [] (by decide) k hk)) im
      have f223 : ∀ j : Nat, fI H217 tq j = fI H tq j := fun j => (fI_kept (x_lt hT kH217 gtq (by decide))).trans (ft0 j)
      have f224 : ∀ j : Nat, fI H217 uq j = fI H uq j := fun j => (fI_kept (x_lt hT kH217 guq (by decide))).trans (fu0 j)
      have m225 := (ew).trans (fR_kept (x_lt hT kH217 ga (by decide))).symm
      have m226 := (eta).trans (fI_kept (x_lt hT kH217 ga (by decide))).symm
      have m227 := (etb).trans (fI_kept (x_lt hT kH217 gb (by decide))).symm
      have m228 := (es1).trans (fI_kept (x_lt hT kH217 gw (by decide))).symm
      have m229 := (ey1).trans (fI_kept (x_lt hT kH217 gb (by decide))).symm
      have m230 := (es4).trans (fI_kept (x_lt hT kH217 gw (by decide))).symm
      have m231 := (ey4).trans (fI_kept (x_lt hT kH217 gb (by decide))).symm
      have m232 := (es5).trans (fI_kept (x_lt hT kH217 gw (by decide))).symm
      have m233 := (ey5).trans (fI_kept (x_lt hT kH217 gb (by decide))).symm
      have m234 := (es10).trans (fI_kept (x_lt hT kH217 gw (by decide))).symm
      have m235 := (ey10).trans (fI_kept (x_lt hT kH217 gb (by decide))).symm
      have m236 := (es13).trans (fI_kept (x_lt hT kH217 gw (by decide))).symm
      have m237 := (ey13).trans (fI_kept (x_lt hT kH217 gb (by decide))).symm
      have m238 := (es16).trans (fI_kept (x_lt hT kH217 gw (by decide))).symm
      have m239 := (ey16).trans (fI_kept (x_lt hT kH217 gb (by decide))).symm
      have m240 := (etq).trans (fR_kept (x_lt hT kH217 ga (by decide))).symm
      have m241 := (euq).trans (fR_kept (x_lt hT kH217 gb (by decide))).symm
      have m242 := (ehi).trans (fI_kept (x_lt hT kH217 gb (by decide))).symm
      have m243 := (fV_kept (x_lt hT kH217 ga (by decide))).trans kn
      have m244 := (eiq).trans (fR_kept (x_lt hT kH217 gb (by decide))).symm
      refine W.eq (g2 := F0 m 197 ls [.int x218]) rfl ?_
      have re245 : RE K H217 w b s1.toInt := RE.cls re hT gw gb (fun q t hq ht => x_lt hT kH217 hq (by first | exact nmr ht (by decide) | exact nmo ht (by decide) | exact nme ht (by decide) | exact nmq ht (by decide) | decide | (intro z; simp only [List.mem_cons, List.not_mem_nil, or_false] at z <;> omega) | omega))
      refine lv_pop hx hb dL_law_197 rfl ?_
      refine lv_aload_n hx hb dL_law_198 rfl (lv_at hl 1 rfl) ?_
      refine lv_aload_n hx hb dL_law_199 rfl (lv_at hl 3 rfl) ?_
      refine lv_iload_n hx hb dL_law_200 rfl (lv_at hl 0 rfl) ?_
      refine lv_iconst (v := 1) hx hb dL_law_201 (by decide) ?_
      refine lv_iadd hx hb dL_law_202 ?_
      refine lv_topi (fun x246 ex246 => ?_)
      obtain ⟨tx246, ejx246, evx246⟩ := lw_ix (k := 1) ex246 hI hL rfl (by decide)
      clear tx246
      refine va_sld hx hb hX hbl (Nat.not_le.mpr hbl) hSH217 (vp_in_iff.mpr evx246) dL_law_203 ?_
      refine W.eq (g2 := F0 m 204 ls [.int (xs (i.toNatClampNeg + 1)), .ref b]) (congrArg (fun z => F0 m 204 ls [.int (xs z), .ref b]) ejx246) ?_
      refine x_V (As := [.int (xs (i.toNatClampNeg + 1))]) (rest := []) C (a_X10_bar_n l K G H217 ((xs (i.toNatClampNeg + 1))) (y1) hTH217 gb m229 g219 g220 g221 g222 (by omega)) yo_X10_bar wM_L_17 ⟨⟨by decide, by decide⟩, show _ ≤ 60000 from Nat.le_trans hc (by decide), show _ ≤ 8922250 from Nat.le_trans hs (by decide)⟩ (x_rv C hTH217 (ci := 10) rfl gb rg_112) rfl hl.1 rfl (Nat.le_of_ble_eq_true rfl) dL_law_204 hSH217 (AE_new hN hSH217.1) (fun vH247 H247 locsH247 pH247 zH247 kH247 hSH247 => ?_)
      obtain ⟨x248, hvH247, bx248, m249, g250, g251, g252, g253, mf254, hTH247⟩ := pH247
      subst hvH247
      have f255 : ∀ j : Nat, fI H247 tq j = fI H tq j := fun j => (fI_kept (x_lt hTH217 kH247 gtq (by decide))).trans (f223 j)
      have f256 : ∀ j : Nat, fI H247 uq j = fI H uq j := fun j => (fI_kept (x_lt hTH217 kH247 guq (by decide))).trans (f224 j)
      have m257 := (m225).trans (fR_kept (x_lt hTH217 kH247 ga (by decide))).symm
      have m258 := (m226).trans (fI_kept (x_lt hTH217 kH247 ga (by decide))).symm
      have m259 := (m228).trans (fI_kept (x_lt hTH217 kH247 gw (by decide))).symm
      have m260 := (m230).trans (fI_kept (x_lt hTH217 kH247 gw (by decide))).symm
      have m261 := (m232).trans (fI_kept (x_lt hTH217 kH247 gw (by decide))).symm
      have m262 := (m234).trans (fI_kept (x_lt hTH217 kH247 gw (by decide))).symm
      have m263 := (m236).trans (fI_kept (x_lt hTH217 kH247 gw (by decide))).symm
      have m264 := (m238).trans (fI_kept (x_lt hTH217 kH247 gw (by decide))).symm
      have m265 := (m240).trans (fR_kept (x_lt hTH217 kH247 ga (by decide))).symm
      have m266 := (fV_kept (x_lt hTH217 kH247 ga (by decide))).trans m243
      have m267 := (m227).trans (MF.i mf254 (k := 18) (by decide) (by decide)).symm
      have m268 := (m231).trans (MF.i mf254 (k := 2) (by decide) (by decide)).symm
      have m269 := (m233).trans (MF.i mf254 (k := 3) (by decide) (by decide)).symm
      have m270 := (m235).trans (MF.i mf254 (k := 59) (by decide) (by decide)).symm
      have m271 := (m237).trans (MF.i mf254 (k := 62) (by decide) (by decide)).symm
      have m272 := (m239).trans (MF.i mf254 (k := 65) (by decide) (by decide)).symm
      have m273 := (m241).trans (MF.r mf254 (k := 17) (by decide) (by decide)).symm
      have m274 := (m242).trans (MF.i mf254 (k := 70) (by decide) (by decide)).symm
      have m275 := (m244).trans (MF.r mf254 (k := 73) (by decide) (by decide)).symm
      refine W.eq (g2 := F0 m 207 ls [.int x248]) rfl ?_
      have re276 : RE K H247 w b s1.toInt := RE.ref re245 hTH217 gw gb (fun k hk => MF.r mf254 (by omega) (by intro z; simp only [List.mem_cons, List.not_mem_nil, or_false] at z; omega)) (fun q t hq ht => x_lt hTH217 kH247 hq (by first | exact nmr ht (by decide) | exact nmo ht (by decide) | exact nme ht (by decide) | exact nmq ht (by decide) | decide | (intro z; simp only [List.mem_cons, List.not_mem_nil, or_false] at z <;> omega) | omega))
      refine lv_pop hx hb dL_law_207 rfl ?_
      refine lv_goto (tgt := 1509) hx hb dL_law_208 (by decide) ?_
      exact nx G H247 locsH247 _ _ ls ⟨hTH247, hN, ga, gb, g250, g251, g252, g253, ⟨(by rw [← m258, ← m267]; exact rt), (by rw [← m257, ← m259, ← m249]; exact r1), (by rw [← m257, ← m260, ← m268]; exact r4), (by rw [← m257, ← m261, ← m269]; exact r5), (by rw [← m257, ← m262, ← m270]; exact r10), (by rw [← m257, ← m263, ← m271]; exact r13), (by rw [← m257, ← m264, ← m272]; exact r16)⟩, Or.inl ⟨m266, (by rw [← m274]; exact h70)⟩, (by unfold TB; rw [← m265, ← m273, ← m267]; exact TBR.of htr f255 f256 (by omega)), (by unfold RELE; rw [← m257, ← m249, ← m261]; exact ⟨RE.cast re276 (by omega), by omega, by omega⟩), hSH247⟩ hl ⟨hc, hs, fun _ => ⟨hc0, hs0⟩⟩
  · skip
    obtain ⟨hi, ehi⟩ : ∃ z : Int32, z = fI H b (K.1.2 10 70) := ⟨_, rfl⟩
    rw [← ehi] at h70
    obtain ⟨iq, eiq⟩ : ∃ z : Nat, z = fR H b (K.1.2 10 73) := ⟨_, rfl⟩
    have giq := ty_fr (q := iq) (k := 73) (u := 162) eiq hT gb rg_112 rfl
    rw [← eiq] at q1 q4 q5 q10 q13 q16
    obtain ⟨k1, ek1⟩ : ∃ z : Int32, z = fI H kq (K.1.2 8 1) := ⟨_, rfl⟩
    rw [← ek1] at q1
    obtain ⟨i1, ei1⟩ : ∃ z : Int32, z = fI H iq ((0 : Int32).toNatClampNeg) := ⟨_, rfl⟩
    rw [← ei1] at q1
    obtain ⟨k4, ek4⟩ : ∃ z : Int32, z = fI H kq (K.1.2 8 4) := ⟨_, rfl⟩
    rw [← ek4] at q4
    obtain ⟨i4, ei4⟩ : ∃ z : Int32, z = fI H iq ((1 : Int32).toNatClampNeg) := ⟨_, rfl⟩
    rw [← ei4] at q4
    obtain ⟨k5, ek5⟩ : ∃ z : Int32, z = fI H kq (K.1.2 8 5) := ⟨_, rfl⟩
    rw [← ek5] at q5
    obtain ⟨i5, ei5⟩ : ∃ z : Int32, z = fI H iq ((2 : Int32).toNatClampNeg) := ⟨_, rfl⟩
    rw [← ei5] at q5
    obtain ⟨k10, ek10⟩ : ∃ z : Int32, z = fI H kq (K.1.2 8 10) := ⟨_, rfl⟩
    rw [← ek10] at q10
    obtain ⟨i10, ei10⟩ : ∃ z : Int32, z = fI H iq ((3 : Int32).toNatClampNeg) := ⟨_, rfl⟩
    rw [← ei10] at q10
    obtain ⟨k13, ek13⟩ : ∃ z : Int32, z = fI H kq (K.1.2 8 13) := ⟨_, rfl⟩
    rw [← ek13] at q13
    obtain ⟨i13, ei13⟩ : ∃ z : Int32, z = fI H iq ((4 : Int32).toNatClampNeg) := ⟨_, rfl⟩
    rw [← ei13] at q13
    obtain ⟨k16, ek16⟩ : ∃ z : Int32, z = fI H kq (K.1.2 8 16) := ⟨_, rfl⟩
    rw [← ek16] at q16
    obtain ⟨i16, ei16⟩ : ∃ z : Int32, z = fI H iq ((5 : Int32).toNatClampNeg) := ⟨_, rfl⟩
    rw [← ei16] at q16
    rw [← eiq, ← ek1] at rke
    have hsk : 0 ≤ k5.toInt ∧ k5.toInt ≤ 9999 := by rw [ek5]; exact ⟨ks1, ks2⟩
    refine lv_aload_n hx hb dL_law_188 rfl (lv_at hl 2 rfl) ?_
    refine lv_aload_n hx hb dL_law_189 rfl (lv_at hl 3 rfl) ?_
    refine lv_iload_n hx hb dL_law_190 rfl (lv_at hl 0 rfl) ?_
    refine lv_iconst (v := 1) hx hb dL_law_191 (by decide) ?_
    refine lv_iadd hx hb dL_law_192 ?_
    refine lv_topi (fun x277 ex277 => ?_)
    obtain ⟨tx277, ejx277, evx277⟩ := lw_ix (k := 1) ex277 hI hL rfl (by decide)
    clear tx277
    refine va_sld hx hb hX hbl (Nat.not_le.mpr hbl) hS (vp_in_iff.mpr evx277) dL_law_193 ?_
    refine W.eq (g2 := F0 m 194 ls [.int (xs (i.toNatClampNeg + 1)), .ref a]) (congrArg (fun z => F0 m 194 ls [.int (xs z), .ref a]) ejx277) ?_
    have sp278 : ((3 ≤ (xs (i.toNatClampNeg + 1)).toInt ∧ (xs (i.toNatClampNeg + 1)).toInt ≤ 16) ∧ s1.toInt ≤ 9) ∨ ((xs (i.toNatClampNeg + 1)).toInt < 3 ∨ 16 < (xs (i.toNatClampNeg + 1)).toInt ∨ 10 ≤ s1.toInt) := by omega
    rcases sp278 with hsp | hsp
    · skip
      have cxe := i_cl (x := s1) (by omega)
      obtain ⟨bq, ebq⟩ : ∃ z : Nat, z = fR H w (K.1.2 8 0) := ⟨_, rfl⟩
      have gbq := ty_fr (q := bq) (k := 0) (u := 25) ebq hT gw rg_0 rfl
      obtain ⟨bb, ebb⟩ : ∃ z : Nat, z = fR H bq (s1 : Int32).toNatClampNeg := ⟨_, rfl⟩
      have ebo : ow K H w (s1 : Int32).toNatClampNeg = bb := by rw [ow_b (by omega), ← ebq, ← ebb]
      have gbb : G bb = some 1 := by rw [← ebo]; exact ow_g hT gw (by omega)
      obtain ⟨rw1, erw1⟩ : ∃ z : Nat, z = fR H bb (K.1.2 0 1) := ⟨_, rfl⟩
      have grw1 := ty_fr (q := rw1) (k := 1) (u := 2) erw1 hT gbb rg_1 rfl
      obtain ⟨rw2, erw2⟩ : ∃ z : Nat, z = fR H bb (K.1.2 0 2) := ⟨_, rfl⟩
      have grw2 := ty_fr (q := rw2) (k := 2) (u := 3) erw2 hT gbb rg_1 rfl
      obtain ⟨rw3, erw3⟩ : ∃ z : Nat, z = fR H bb (K.1.2 0 3) := ⟨_, rfl⟩
      have grw3 := ty_fr (q := rw3) (k := 3) (u := 4) erw3 hT gbb rg_1 rfl
      obtain ⟨rw4, erw4⟩ : ∃ z : Nat, z = fR H bb (K.1.2 0 4) := ⟨_, rfl⟩
      have grw4 := ty_fr (q := rw4) (k := 4) (u := 5) erw4 hT gbb rg_1 rfl
      obtain ⟨rw5, erw5⟩ : ∃ z : Nat, z = fR H bb (K.1.2 0 5) := ⟨_, rfl⟩
      have grw5 := ty_fr (q := rw5) (k := 5) (u := 6) erw5 hT gbb rg_1 rfl
      obtain ⟨rw17, erw17⟩ : ∃ z : Nat, z = fR H bb (K.1.2 0 17) := ⟨_, rfl⟩
      have grw17 := ty_fr (q := rw17) (k := 17) (u := 15) erw17 hT gbb rg_1 rfl
      refine x_V (As := [.int (xs (i.toNatClampNeg + 1))]) (rest := []) C (a_X9_bar_v l K G H ((xs (i.toNatClampNeg + 1))) (s1) (s4) (s5) (s10) (s13) (s16) hT ga (by omega) gw ew gbq ebq gbb ebb grw1 erw1 grw2 erw2 grw3 erw3 grw4 erw4 grw5 erw5 grw17 erw17 es1 es4 es5 es10 es13 es16 (by omega)) yo_X9_bar wM_L_13 ⟨⟨by decide, by decide⟩, show _ ≤ 60000 from Nat.le_trans hc (by decide), show _ ≤ 8922250 from Nat.le_trans hs (by decide)⟩ (x_rv C hT (ci := 9) rfl ga rg_68) rfl hl.1 rfl (Nat.le_of_ble_eq_true rfl) dL_law_194 hS (AE_new hN hS.1) (fun vH279 H279 locsH279 pH279 zH279 kH279 hSH279 => ?_)
      obtain ⟨x280, x281, hvH279, ex281, hrH279, m282, m283, m284, m285, m286, m287, m288, m289, m290, m291, m292, m293, m294, m295, m296, m297, hTH279⟩ := pH279
      subst hvH279
      have g298 : CG (avw K H279 b) := CG.congr (fun k hk j => av_eff hT kH279 gb (by decide) (CG_eff [0, 1, 2, 3, 4, 5, 6, 15] (by decide) k hk)) cg
      have g299 : TU (avw K H279 b) (svw K H279 b) := TU.congr (fun k hk j => av_eff hT kH279 gb (by decide) (TU_eff [0, 1, 2, 3, 4, 5, 6, 15] (by decide) k hk)) (fun k hk => sv_eff hT kH279 gb (by decide)) tu
      have g300 : WD (avw K H279 b) := WD.congr (fun k hk j => av_eff hT kH279 gb (by decide) (WD_eff [0, 1, 2, 3, 4, 5, 6, 15] (by decide) k hk)) wd
      have g301 : IM (avw K H279 b) := IM.congr (fun k hk j => av_eff hT kH279 gb (by decide) (IM_eff [0, 1, 2, 3, 4, 5, 6, 15] (by decide) k hk)) im
      have f302 : ∀ j : Nat, fI H279 tq j = fI H tq j := fun j => (fI_kept (x_lt hT kH279 gtq (by decide))).trans (ft0 j)
      have f303 : ∀ j : Nat, fI H279 uq j = fI H uq j := fun j => (fI_kept (x_lt hT kH279 guq (by decide))).trans (fu0 j)
      have m304 := (ew).trans (fR_kept (x_lt hT kH279 ga (by decide))).symm
      have m305 := (eta).trans (fI_kept (x_lt hT kH279 ga (by decide))).symm
      have m306 := (etb).trans (fI_kept (x_lt hT kH279 gb (by decide))).symm
      have m307 := (ey1).trans (fI_kept (x_lt hT kH279 gb (by decide))).symm
      have m308 := (ey4).trans (fI_kept (x_lt hT kH279 gb (by decide))).symm
      have m309 := (ey5).trans (fI_kept (x_lt hT kH279 gb (by decide))).symm
      have m310 := (ey10).trans (fI_kept (x_lt hT kH279 gb (by decide))).symm
      have m311 := (ey13).trans (fI_kept (x_lt hT kH279 gb (by decide))).symm
      have m312 := (ey16).trans (fI_kept (x_lt hT kH279 gb (by decide))).symm
      have m313 := (etq).trans (fR_kept (x_lt hT kH279 ga (by decide))).symm
      have m314 := (euq).trans (fR_kept (x_lt hT kH279 gb (by decide))).symm
      have m315 := (ehi).trans (fI_kept (x_lt hT kH279 gb (by decide))).symm
      have m316 := (fV_kept (x_lt hT kH279 ga (by decide))).trans kn
      have m317 := (eiq).trans (fR_kept (x_lt hT kH279 gb (by decide))).symm
      have m318 := (ek1).trans (fI_kept (x_lt hT kH279 gkq (by decide))).symm
      have m319 := (ei1).trans (fI_kept (x_lt hT kH279 giq (by decide))).symm
      have m320 := (ek4).trans (fI_kept (x_lt hT kH279 gkq (by decide))).symm
      have m321 := (ei4).trans (fI_kept (x_lt hT kH279 giq (by decide))).symm
      have m322 := (ek5).trans (fI_kept (x_lt hT kH279 gkq (by decide))).symm
      have m323 := (ei5).trans (fI_kept (x_lt hT kH279 giq (by decide))).symm
      have m324 := (ek10).trans (fI_kept (x_lt hT kH279 gkq (by decide))).symm
      have m325 := (ei10).trans (fI_kept (x_lt hT kH279 giq (by decide))).symm
      have m326 := (ek13).trans (fI_kept (x_lt hT kH279 gkq (by decide))).symm
      have m327 := (ei13).trans (fI_kept (x_lt hT kH279 giq (by decide))).symm
      have m328 := (ek16).trans (fI_kept (x_lt hT kH279 gkq (by decide))).symm
      have m329 := (ei16).trans (fI_kept (x_lt hT kH279 giq (by decide))).symm
      have m330 := (ebb).trans (fR_kept (x_lt hT kH279 gbq (by decide))).symm
      have bx281 := ty_fi (x := x281) (k := 1) ex281 hTH279 gw rg_0 rfl
      refine W.eq (g2 := F0 m 197 ls [.int x280]) rfl ?_
      have rk331 : RKI K H279 kq iq k1.toInt := RKI.kept rke hT gkq (x_lt hT kH279 giq (by first | exact nmr ht (by decide) | exact nmo ht (by decide) | exact nme ht (by decide) | exact nmq ht (by decide) | decide | (intro z; simp only [List.mem_cons, List.not_mem_nil, or_false] at z <;> omega) | omega)) (fun q t hq ht => x_lt hT kH279 hq (by first | exact nmr ht (by decide) | exact nmo ht (by decide) | exact nme ht (by decide) | exact nmq ht (by decide) | decide | (intro z; simp only [List.mem_cons, List.not_mem_nil, or_false] at z <;> omega) | omega))
      have nw_ : NWF K H279 H w := m297
      have rb_ : RFB K H279 H bb := m296
      obtain ⟨brf, bot, bat, btx⟩ := bar_one (H1 := H279) re.1 hT gw (j := (s1 : Int32).toNatClampNeg) (by omega) ebo nw_ rb_ (fun q t hq ht n1 n2 => m295 q t hq (G_ne hq gw (by omega)) n1 (by rw [erw1]; exact n2 1 (by decide)) (by rw [erw2]; exact n2 2 (by decide)) (by rw [erw3]; exact n2 3 (by decide)) (by rw [erw4]; exact n2 4 (by decide)) (by rw [erw5]; exact n2 5 (by decide)) (by rw [erw17]; exact n2 17 (by decide)))
      have er1 : ∀ bar, vrN K H279 b bar = vrN K H b bar := vrN.reg hT gb (fun k _ => fR_kept (x_lt hT kH279 gb (by first | exact nmr ht (by decide) | exact nmo ht (by decide) | exact nme ht (by decide) | exact nmq ht (by decide) | decide | (intro z; simp only [List.mem_cons, List.not_mem_nil, or_false] at z <;> omega) | omega))) (fun q t hq ht => x_lt hT kH279 hq (by first | exact nmr ht (by decide) | exact nmo ht (by decide) | exact nme ht (by decide) | exact nmq ht (by decide) | decide | (intro z; simp only [List.mem_cons, List.not_mem_nil, or_false] at z <;> omega) | omega))
      have tr1 : TPK (TRP K H279 b) (TRP K H b) := TRP.reg hT gb (fun k _ _ => fR_kept (x_lt hT kH279 gb (by first | exact nmr ht (by decide) | exact nmo ht (by decide) | exact nme ht (by decide) | exact nmq ht (by decide) | decide | (intro z; simp only [List.mem_cons, List.not_mem_nil, or_false] at z <;> omega) | omega))) (fun q t hq ht => x_lt hT kH279 hq (by first | exact nmr ht (by decide) | exact nmo ht (by decide) | exact nme ht (by decide) | exact nmq ht (by decide) | decide | (intro z; simp only [List.mem_cons, List.not_mem_nil, or_false] at z <;> omega) | omega))
      refine lv_pop hx hb dL_law_197 rfl ?_
      refine lv_aload_n hx hb dL_law_198 rfl (lv_at hl 1 rfl) ?_
      refine lv_aload_n hx hb dL_law_199 rfl (lv_at hl 3 rfl) ?_
      refine lv_iload_n hx hb dL_law_200 rfl (lv_at hl 0 rfl) ?_
      refine lv_iconst (v := 1) hx hb dL_law_201 (by decide) ?_
      refine lv_iadd hx hb dL_law_202 ?_
      refine lv_topi (fun x332 ex332 => ?_)
      obtain ⟨tx332, ejx332, evx332⟩ := lw_ix (k := 1) ex332 hI hL rfl (by decide)
      clear tx332
      refine va_sld hx hb hX hbl (Nat.not_le.mpr hbl) hSH279 (vp_in_iff.mpr evx332) dL_law_203 ?_
      refine W.eq (g2 := F0 m 204 ls [.int (xs (i.toNatClampNeg + 1)), .ref b]) (congrArg (fun z => F0 m 204 ls [.int (xs z), .ref b]) ejx332) ?_
      obtain ⟨q333, eq333⟩ : ∃ z : Nat, @Eq Ad z (fR H279 b (K.1.2 10 4)) := ⟨_, rfl⟩
      have gq333 := ty_fr (q := q333) (k := 4) (u := 113) eq333 hTH279 gb rg_112 rfl
      obtain ⟨q334, eq334⟩ : ∃ z : Nat, @Eq Ad z (fR H279 b (K.1.2 10 5)) := ⟨_, rfl⟩
      have gq334 := ty_fr (q := q334) (k := 5) (u := 114) eq334 hTH279 gb rg_112 rfl
      obtain ⟨q335, eq335⟩ : ∃ z : Nat, @Eq Ad z (fR H279 b (K.1.2 10 6)) := ⟨_, rfl⟩
      have gq335 := ty_fr (q := q335) (k := 6) (u := 115) eq335 hTH279 gb rg_112 rfl
      obtain ⟨q336, eq336⟩ : ∃ z : Nat, @Eq Ad z (fR H279 b (K.1.2 10 7)) := ⟨_, rfl⟩
      have gq336 := ty_fr (q := q336) (k := 7) (u := 116) eq336 hTH279 gb rg_112 rfl
      obtain ⟨q337, eq337⟩ : ∃ z : Nat, @Eq Ad z (fR H279 b (K.1.2 10 8)) := ⟨_, rfl⟩
      have gq337 := ty_fr (q := q337) (k := 8) (u := 117) eq337 hTH279 gb rg_112 rfl
      obtain ⟨q338, eq338⟩ : ∃ z : Nat, @Eq Ad z (fR H279 b (K.1.2 10 16)) := ⟨_, rfl⟩
      have gq338 := ty_fr (q := q338) (k := 16) (u := 125) eq338 hTH279 gb rg_112 rfl
      obtain ⟨q339, eq339⟩ : ∃ z : Nat, @Eq Ad z (fR H279 b (K.1.2 10 9)) := ⟨_, rfl⟩
      have gq339 := ty_fr (q := q339) (k := 9) (u := 118) eq339 hTH279 gb rg_112 rfl
      obtain ⟨q340, eq340⟩ : ∃ z : Nat, @Eq Ad z (fR H279 b (K.1.2 10 11)) := ⟨_, rfl⟩
      have gq340 := ty_fr (q := q340) (k := 11) (u := 120) eq340 hTH279 gb rg_112 rfl
      obtain ⟨q341, eq341⟩ : ∃ z : Nat, @Eq Ad z (fR H279 b (K.1.2 10 12)) := ⟨_, rfl⟩
      have gq341 := ty_fr (q := q341) (k := 12) (u := 121) eq341 hTH279 gb rg_112 rfl
      obtain ⟨q342, eq342⟩ : ∃ z : Nat, @Eq Ad z (fR H279 b (K.1.2 10 10)) := ⟨_, rfl⟩
      have gq342 := ty_fr (q := q342) (k := 10) (u := 119) eq342 hTH279 gb rg_112 rfl
      obtain ⟨q343, eq343⟩ : ∃ z : Nat, @Eq Ad z (fR H279 b (K.1.2 10 13)) := ⟨_, rfl⟩
      have gq343 := ty_fr (q := q343) (k := 13) (u := 122) eq343 hTH279 gb rg_112 rfl
      refine x_V (As := [.int (xs (i.toNatClampNeg + 1))]) (rest := []) C (a_X10_bar_v l K G H279 ((xs (i.toNatClampNeg + 1))) (y1) hTH279 gb (by omega) gq333 eq333 gq334 eq334 gq335 eq335 gq336 eq336 gq337 eq337 gq338 eq338 gq339 eq339 gq340 eq340 gq341 eq341 gq342 eq342 gq343 eq343 m307 g298 g299 g300 g301 (by omega) (by have z := re.2.1.2 (y1 : Int32).toNatClampNeg (by omega) (by omega); rw [show vrN K H b (y1 : Int32).toNatClampNeg = vwR K H279 b (y1 : Int32).toNatClampNeg from (er1 _).symm] at z; exact z)) yo_X10_bar wM_L_17 ⟨⟨by decide, by decide⟩, show _ ≤ 60000 from Nat.le_trans hc (by decide), show _ ≤ 8922250 from Nat.le_trans hs (by decide)⟩ (x_rv C hTH279 (ci := 10) rfl gb rg_112) rfl hl.1 rfl (Nat.le_of_ble_eq_true rfl) dL_law_204 hSH279 (AE_new hN hSH279.1) (fun vH344 H344 locsH344 pH344 zH344 kH344 hSH344 => ?_)
      obtain ⟨x345, x346, hvH344, ex346, hrH344, m347, m348, m349, m350, m351, m352, m353, m354, m355, m356, m357, g358, g359, g360, g361, mf362, m363, m364, hTH344⟩ := pH344
      subst hvH344
      have f365 : ∀ j : Nat, fI H344 tq j = fI H tq j := fun j => (fI_kept (x_lt hTH279 kH344 gtq (by decide))).trans (f302 j)
      have f366 : ∀ j : Nat, fI H344 uq j = fI H uq j := fun j => (fI_kept (x_lt hTH279 kH344 guq (by decide))).trans (f303 j)
      have m367 := (m304).trans (fR_kept (x_lt hTH279 kH344 ga (by decide))).symm
      have m368 := (m305).trans (fI_kept (x_lt hTH279 kH344 ga (by decide))).symm
      have m369 := (m313).trans (fR_kept (x_lt hTH279 kH344 ga (by decide))).symm
      have m370 := (fV_kept (x_lt hTH279 kH344 ga (by decide))).trans m316
      have m371 := (m318).trans (fI_kept (x_lt hTH279 kH344 gkq (by decide))).symm
      have m372 := (m319).trans (fI_kept (x_lt hTH279 kH344 giq (by decide))).symm
      have m373 := (m320).trans (fI_kept (x_lt hTH279 kH344 gkq (by decide))).symm
      have m374 := (m321).trans (fI_kept (x_lt hTH279 kH344 giq (by decide))).symm
      have m375 := (m322).trans (fI_kept (x_lt hTH279 kH344 gkq (by decide))).symm
      have m376 := (m323).trans (fI_kept (x_lt hTH279 kH344 giq (by decide))).symm
      have m377 := (m324).trans (fI_kept (x_lt hTH279 kH344 gkq (by decide))).symm
      have m378 := (m325).trans (fI_kept (x_lt hTH279 kH344 giq (by decide))).symm
      have m379 := (m326).trans (fI_kept (x_lt hTH279 kH344 gkq (by decide))).symm
      have m380 := (m327).trans (fI_kept (x_lt hTH279 kH344 giq (by decide))).symm
      have m381 := (m328).trans (fI_kept (x_lt hTH279 kH344 gkq (by decide))).symm
      have m382 := (m329).trans (fI_kept (x_lt hTH279 kH344 giq (by decide))).symm
      have m383 := (m330).trans (fR_kept (x_lt hTH279 kH344 gbq (by decide))).symm
      have m384 := (m282).trans (fR_kept (x_lt hTH279 kH344 gw (by decide))).symm
      have m385 := (m283).trans (fR_kept (x_lt hTH279 kH344 gbb (by decide))).symm
      have m386 := (m284).trans (fR_kept (x_lt hTH279 kH344 gbb (by decide))).symm
      have m387 := (m285).trans (fR_kept (x_lt hTH279 kH344 gbb (by decide))).symm
      have m388 := (m286).trans (fR_kept (x_lt hTH279 kH344 gbb (by decide))).symm
      have m389 := (m287).trans (fR_kept (x_lt hTH279 kH344 gbb (by decide))).symm
      have m390 := (m288).trans (fR_kept (x_lt hTH279 kH344 gbb (by decide))).symm
      have m391 := (m289).trans (fI_kept (x_lt hTH279 kH344 gw (by decide))).symm
      have m392 := (m290).trans (fI_kept (x_lt hTH279 kH344 gw (by decide))).symm
      have m393 := (m291).trans (fI_kept (x_lt hTH279 kH344 gw (by decide))).symm
      have m394 := (m292).trans (fI_kept (x_lt hTH279 kH344 gw (by decide))).symm
      have m395 := (m293).trans (fI_kept (x_lt hTH279 kH344 gw (by decide))).symm
      have m396 := (ex281).trans (fI_kept (x_lt hTH279 kH344 gw (by decide))).symm
      have m397 := (m306).trans (MF.i mf362 (k := 18) (by decide) (by decide)).symm
      have m398 := (m308).trans (MF.i mf362 (k := 2) (by decide) (by decide)).symm
      have m399 := (m309).trans (MF.i mf362 (k := 3) (by decide) (by decide)).symm
      have m400 := (m310).trans (MF.i mf362 (k := 59) (by decide) (by decide)).symm
      have m401 := (m311).trans (MF.i mf362 (k := 62) (by decide) (by decide)).symm
      have m402 := (m312).trans (MF.i mf362 (k := 65) (by decide) (by decide)).symm
      have m403 := (m314).trans (MF.r mf362 (k := 17) (by decide) (by decide)).symm
      have m404 := (m315).trans (MF.i mf362 (k := 70) (by decide) (by decide)).symm
      have m405 := (m317).trans (MF.r mf362 (k := 73) (by decide) (by decide)).symm
      have m406 := (eq333).trans (MF.r mf362 (k := 4) (by decide) (by decide)).symm
      have m407 := (eq334).trans (MF.r mf362 (k := 5) (by decide) (by decide)).symm
      have m408 := (eq335).trans (MF.r mf362 (k := 6) (by decide) (by decide)).symm
      have m409 := (eq336).trans (MF.r mf362 (k := 7) (by decide) (by decide)).symm
      have m410 := (eq337).trans (MF.r mf362 (k := 8) (by decide) (by decide)).symm
      have m411 := (eq338).trans (MF.r mf362 (k := 16) (by decide) (by decide)).symm
      have m412 := (eq339).trans (MF.r mf362 (k := 9) (by decide) (by decide)).symm
      have m413 := (eq340).trans (MF.r mf362 (k := 11) (by decide) (by decide)).symm
      have m414 := (eq341).trans (MF.r mf362 (k := 12) (by decide) (by decide)).symm
      have m415 := (eq342).trans (MF.r mf362 (k := 10) (by decide) (by decide)).symm
      have m416 := (eq343).trans (MF.r mf362 (k := 13) (by decide) (by decide)).symm
      have bx346 := ty_fi (x := x346) (k := 1) ex346 hTH344 gb rg_112 rfl
      refine W.eq (g2 := F0 m 207 ls [.int x345]) rfl ?_
      have rk417 : RKI K H344 kq iq k1.toInt := RKI.kept rk331 hTH279 gkq (x_lt hTH279 kH344 giq (by first | exact nmr ht (by decide) | exact nmo ht (by decide) | exact nme ht (by decide) | exact nmq ht (by decide) | decide | (intro z; simp only [List.mem_cons, List.not_mem_nil, or_false] at z <;> omega) | omega)) (fun q t hq ht => x_lt hTH279 kH344 hq (by first | exact nmr ht (by decide) | exact nmo ht (by decide) | exact nme ht (by decide) | exact nmq ht (by decide) | decide | (intro z; simp only [List.mem_cons, List.not_mem_nil, or_false] at z <;> omega) | omega))
      have r12 : RFW K H344 H279 w := RFW.cell hTH279 gw (fun q t hq ht => x_lt hTH279 kH344 hq (by first | exact nmr ht (by decide) | exact nmo ht (by decide) | exact nme ht (by decide) | exact nmq ht (by decide) | decide | (intro z; simp only [List.mem_cons, List.not_mem_nil, or_false] at z <;> omega) | omega))
      have cU := vcN.kept hTH279 gw r12 (fun q t hq ht => x_lt hTH279 kH344 hq (by first | exact nmr ht (by decide) | exact nmo ht (by decide) | exact nme ht (by decide) | exact nmq ht (by decide) | decide | (intro z; simp only [List.mem_cons, List.not_mem_nil, or_false] at z <;> omega) | omega))
      have own2 : OWN K H344 w := (re.1.st brf).st r12
      have tU : TPK (TXP K H344 w) (TXP K H279 w) := TXP.kept hTH279 gw r12 (fun q t hq ht => x_lt hTH279 kH344 hq (by first | exact nmr ht (by decide) | exact nmo ht (by decide) | exact nme ht (by decide) | exact nmq ht (by decide) | decide | (intro z; simp only [List.mem_cons, List.not_mem_nil, or_false] at z <;> omega) | omega))
      have tR : TPK (TRP K H344 b) (TRP K H279 b) := TRP.reg hTH279 gb (fun k h1 h2 => MF.r mf362 (by omega) (by intro z; simp only [List.mem_cons, List.not_mem_nil, or_false] at z; omega)) (fun q t hq ht => x_lt hTH279 kH344 hq (by first | exact nmr ht (by decide) | exact nmo ht (by decide) | exact nme ht (by decide) | exact nmq ht (by decide) | decide | (intro z; simp only [List.mem_cons, List.not_mem_nil, or_false] at z <;> omega) | omega))
      have nbr_ := m363
      rw [show (y1 : Int32).toNatClampNeg = (s1 : Int32).toNatClampNeg by omega] at nbr_
      have re418 : RE K H344 w b (s1.toInt + 1) := RE.add (i := (s1 : Int32).toNatClampNeg) re own2 (by omega) rfl (s := (xs (i.toNatClampNeg + 1)).toInt) (by omega) (by rw [cU (s1 : Int32).toNatClampNeg (by omega), bat]; exact m294) nbr_ (fun j hj hn => (cU j hj).trans (bot j hj hn)) (fun j hj hn => EqV.tr (m364 j (by omega)) (by rw [show vwR K H279 b j = vwR K H b j from er1 j]; exact EqV.rf)) (fun r kk vv lw n h1 h2 z => tU r kk vv lw n h1 h2 (btx r kk vv lw n h1 h2 z)) (fun r kk vv lw n h1 h2 z => tR r kk vv lw n h1 h2 (tr1 r kk vv lw n h1 h2 z))
      refine lv_pop hx hb dL_law_207 rfl ?_
      refine lv_goto (tgt := 1509) hx hb dL_law_208 (by decide) ?_
      exact nx G H344 locsH344 _ _ ls ⟨hTH344, hN, ga, gb, g358, g359, g360, g361, ⟨(by rw [← m368, ← m397]; exact rt), (by rw [← m367, ← m396, ← ex346]; omega), (by rw [← m367, ← m391, ← m398]; exact r4), (by rw [← m367, ← m392, ← m399]; exact r5), (by rw [← m367, ← m393, ← m400]; exact r10), (by rw [← m367, ← m394, ← m401]; exact r13), (by rw [← m367, ← m395, ← m402]; exact r16)⟩, Or.inr ⟨kq, m370, gkq, (by rw [← m404]; exact h70), (by rw [← m371, ← m405, ← m372]; exact q1), (by rw [← m373, ← m405, ← m374]; exact q4), (by rw [← m375, ← m405, ← m376]; exact q5), (by rw [← m377, ← m405, ← m378]; exact q10), (by rw [← m379, ← m405, ← m380]; exact q13), (by rw [← m381, ← m405, ← m382]; exact q16), (by rw [← m405, ← m371]; exact RKI.cast rk417 (by omega)), (by rw [← m375]; omega), (by rw [← m375]; omega)⟩, (by unfold TB; rw [← m369, ← m403, ← m397]; exact TBR.of htr f365 f366 (by omega)), (by unfold RELE; rw [← m367, ← ex346, ← m392]; exact ⟨RE.cast re418 (by omega), by omega, by omega⟩), hSH344⟩ hl ⟨hc, hs, fun h => by have h1 := h.symm.trans m370; cases h1⟩
    · skip
      refine x_V (As := [.int (xs (i.toNatClampNeg + 1))]) (rest := []) C (a_X9_bar_n l K G H ((xs (i.toNatClampNeg + 1))) (s1) hT ga gw ew es1 (by omega)) yo_X9_bar wM_L_13 ⟨⟨by decide, by decide⟩, show _ ≤ 60000 from Nat.le_trans hc (by decide), show _ ≤ 8922250 from Nat.le_trans hs (by decide)⟩ (x_rv C hT (ci := 9) rfl ga rg_68) rfl hl.1 rfl (Nat.le_of_ble_eq_true rfl) dL_law_194 hS (AE_new hN hS.1) (fun vH419 H419 locsH419 pH419 zH419 kH419 hSH419 => ?_)
      obtain ⟨x420, hvH419, bx420, hTH419⟩ := pH419
      subst hvH419
      have g421 : CG (avw K H419 b) := CG.congr (fun k hk j => av_eff hT kH419 gb (by decide) (CG_eff [] (by decide) k hk)) cg
      have g422 : TU (avw K H419 b) (svw K H419 b) := TU.congr (fun k hk j => av_eff hT kH419 gb (by decide) (TU_eff [] (by decide) k hk)) (fun k hk => sv_eff hT kH419 gb (by decide)) tu
      have g423 : WD (avw K H419 b) := WD.congr (fun k hk j => av_eff hT kH419 gb (by decide) (WD_eff [] (by decide) k hk)) wd
      have g424 : IM (avw K H419 b) := IM.congr (fun k hk j => av_eff hT kH419 gb (by decide) (IM_eff [] (by decide) k hk)) im
      have f425 : ∀ j : Nat, fI H419 tq j = fI H tq j := fun j => (fI_kept (x_lt hT kH419 gtq (by decide))).trans (ft0 j)
      have f426 : ∀ j : Nat, fI H419 uq j = fI H uq j := fun j => (fI_kept (x_lt hT kH419 guq (by decide))).trans (fu0 j)
      have m427 := (ew).trans (fR_kept (x_lt hT kH419 ga (by decide))).symm
      have m428 := (eta).trans (fI_kept (x_lt hT kH419 ga (by decide))).symm
      have m429 := (etb).trans (fI_kept (x_lt hT kH419 gb (by decide))).symm
      have m430 := (es1).trans (fI_kept (x_lt hT kH419 gw (by decide))).symm
      have m431 := (ey1).trans (fI_kept (x_lt hT kH419 gb (by decide))).symm
      have m432 := (es4).trans (fI_kept (x_lt hT kH419 gw (by decide))).symm
      have m433 := (ey4).trans (fI_kept (x_lt hT kH419 gb (by decide))).symm
      have m434 := (es5).trans (fI_kept (x_lt hT kH419 gw (by decide))).symm
      have m435 := (ey5).trans (fI_kept (x_lt hT kH419 gb (by decide))).symm
      have m436 := (es10).trans (fI_kept (x_lt hT kH419 gw (by decide))).symm
      have m437 := (ey10).trans (fI_kept (x_lt hT kH419 gb (by decide))).symm
      have m438 := (es13).trans (fI_kept (x_lt hT kH419 gw (by decide))).symm
      have m439 := (ey13).trans (fI_kept (x_lt hT kH419 gb (by decide))).symm
      have m440 := (es16).trans (fI_kept (x_lt hT kH419 gw (by decide))).symm
      have m441 := (ey16).trans (fI_kept (x_lt hT kH419 gb (by decide))).symm
      have m442 := (etq).trans (fR_kept (x_lt hT kH419 ga (by decide))).symm
      have m443 := (euq).trans (fR_kept (x_lt hT kH419 gb (by decide))).symm
      have m444 := (ehi).trans (fI_kept (x_lt hT kH419 gb (by decide))).symm
      have m445 := (fV_kept (x_lt hT kH419 ga (by decide))).trans kn
      have m446 := (eiq).trans (fR_kept (x_lt hT kH419 gb (by decide))).symm
      have m447 := (ek1).trans (fI_kept (x_lt hT kH419 gkq (by decide))).symm
      have m448 := (ei1).trans (fI_kept (x_lt hT kH419 giq (by decide))).symm
      have m449 := (ek4).trans (fI_kept (x_lt hT kH419 gkq (by decide))).symm
      have m450 := (ei4).trans (fI_kept (x_lt hT kH419 giq (by decide))).symm
      have m451 := (ek5).trans (fI_kept (x_lt hT kH419 gkq (by decide))).symm
      have m452 := (ei5).trans (fI_kept (x_lt hT kH419 giq (by decide))).symm
      have m453 := (ek10).trans (fI_kept (x_lt hT kH419 gkq (by decide))).symm
      have m454 := (ei10).trans (fI_kept (x_lt hT kH419 giq (by decide))).symm
      have m455 := (ek13).trans (fI_kept (x_lt hT kH419 gkq (by decide))).symm
      have m456 := (ei13).trans (fI_kept (x_lt hT kH419 giq (by decide))).symm
      have m457 := (ek16).trans (fI_kept (x_lt hT kH419 gkq (by decide))).symm
      have m458 := (ei16).trans (fI_kept (x_lt hT kH419 giq (by decide))).symm
      refine W.eq (g2 := F0 m 197 ls [.int x420]) rfl ?_
      have rk459 : RKI K H419 kq iq k1.toInt := RKI.kept rke hT gkq (x_lt hT kH419 giq (by first | exact nmr ht (by decide) | exact nmo ht (by decide) | exact nme ht (by decide) | exact nmq ht (by decide) | decide | (intro z; simp only [List.mem_cons, List.not_mem_nil, or_false] at z <;> omega) | omega)) (fun q t hq ht => x_lt hT kH419 hq (by first | exact nmr ht (by decide) | exact nmo ht (by decide) | exact nme ht (by decide) | exact nmq ht (by decide) | decide | (intro z; simp only [List.mem_cons, List.not_mem_nil, or_false] at z <;> omega) | omega))
      have re460 : RE K H419 w b s1.toInt := RE.cls re hT gw gb (fun q t hq ht => x_lt hT kH419 hq (by first | exact nmr ht (by decide) | exact nmo ht (by decide) | exact nme ht (by decide) | exact nmq ht (by decide) | decide | (intro z; simp only [List.mem_cons, List.not_mem_nil, or_false] at z <;> omega) | omega))
      refine lv_pop hx hb dL_law_197 rfl ?_
      refine lv_aload_n hx hb dL_law_198 rfl (lv_at hl 1 rfl) ?_
      refine lv_aload_n hx hb dL_law_199 rfl (lv_at hl 3 rfl) ?_
      refine lv_iload_n hx hb dL_law_200 rfl (lv_at hl 0 rfl) ?_
      refine lv_iconst (v := 1) hx hb dL_law_201 (by decide) ?_
      refine lv_iadd hx hb dL_law_202 ?_
      refine lv_topi (fun x461 ex461 => ?_)
      obtain ⟨tx461, ejx461, evx461⟩ := lw_ix (k := 1) ex461 hI hL rfl (by decide)
      clear tx461
      refine va_sld hx hb hX hbl (Nat.not_le.mpr hbl) hSH419 (vp_in_iff.mpr evx461) dL_law_203 ?_
      refine W.eq (g2 := F0 m 204 ls [.int (xs (i.toNatClampNeg + 1)), .ref b]) (congrArg (fun z => F0 m 204 ls [.int (xs z), .ref b]) ejx461) ?_
      refine x_V (As := [.int (xs (i.toNatClampNeg + 1))]) (rest := []) C (a_X10_bar_n l K G H419 ((xs (i.toNatClampNeg + 1))) (y1) hTH419 gb m431 g421 g422 g423 g424 (by omega)) yo_X10_bar wM_L_17 ⟨⟨by decide, by decide⟩, show _ ≤ 60000 from Nat.le_trans hc (by decide), show _ ≤ 8922250 from Nat.le_trans hs (by decide)⟩ (x_rv C hTH419 (ci := 10) rfl gb rg_112) rfl hl.1 rfl (Nat.le_of_ble_eq_true rfl) dL_law_204 hSH419 (AE_new hN hSH419.1) (fun vH462 H462 locsH462 pH462 zH462 kH462 hSH462 => ?_)
      obtain ⟨x463, hvH462, bx463, m464, g465, g466, g467, g468, mf469, hTH462⟩ := pH462
      subst hvH462
      have f470 : ∀ j : Nat, fI H462 tq j = fI H tq j := fun j => (fI_kept (x_lt hTH419 kH462 gtq (by decide))).trans (f425 j)
      have f471 : ∀ j : Nat, fI H462 uq j = fI H uq j := fun j => (fI_kept (x_lt hTH419 kH462 guq (by decide))).trans (f426 j)
      have m472 := (m427).trans (fR_kept (x_lt hTH419 kH462 ga (by decide))).symm
      have m473 := (m428).trans (fI_kept (x_lt hTH419 kH462 ga (by decide))).symm
      have m474 := (m430).trans (fI_kept (x_lt hTH419 kH462 gw (by decide))).symm
      have m475 := (m432).trans (fI_kept (x_lt hTH419 kH462 gw (by decide))).symm
      have m476 := (m434).trans (fI_kept (x_lt hTH419 kH462 gw (by decide))).symm
      have m477 := (m436).trans (fI_kept (x_lt hTH419 kH462 gw (by decide))).symm
      have m478 := (m438).trans (fI_kept (x_lt hTH419 kH462 gw (by decide))).symm
      have m479 := (m440).trans (fI_kept (x_lt hTH419 kH462 gw (by decide))).symm
      have m480 := (m442).trans (fR_kept (x_lt hTH419 kH462 ga (by decide))).symm
      have m481 := (fV_kept (x_lt hTH419 kH462 ga (by decide))).trans m445
      have m482 := (m447).trans (fI_kept (x_lt hTH419 kH462 gkq (by decide))).symm
      have m483 := (m448).trans (fI_kept (x_lt hTH419 kH462 giq (by decide))).symm
      have m484 := (m449).trans (fI_kept (x_lt hTH419 kH462 gkq (by decide))).symm
      have m485 := (m450).trans (fI_kept (x_lt hTH419 kH462 giq (by decide))).symm
      have m486 := (m451).trans (fI_kept (x_lt hTH419 kH462 gkq (by decide))).symm
      have m487 := (m452).trans (fI_kept (x_lt hTH419 kH462 giq (by decide))).symm
      have m488 := (m453).trans (fI_kept (x_lt hTH419 kH462 gkq (by decide))).symm
      have m489 := (m454).trans (fI_kept (x_lt hTH419 kH462 giq (by decide))).symm
      have m490 := (m455).trans (fI_kept (x_lt hTH419 kH462 gkq (by decide))).symm
      have m491 := (m456).trans (fI_kept (x_lt hTH419 kH462 giq (by decide))).symm
      have m492 := (m457).trans (fI_kept (x_lt hTH419 kH462 gkq (by decide))).symm
      have m493 := (m458).trans (fI_kept (x_lt hTH419 kH462 giq (by decide))).symm
      have m494 := (m429).trans (MF.i mf469 (k := 18) (by decide) (by decide)).symm
      have m495 := (m433).trans (MF.i mf469 (k := 2) (by decide) (by decide)).symm
      have m496 := (m435).trans (MF.i mf469 (k := 3) (by decide) (by decide)).symm
      have m497 := (m437).trans (MF.i mf469 (k := 59) (by decide) (by decide)).symm
      have m498 := (m439).trans (MF.i mf469 (k := 62) (by decide) (by decide)).symm
      have m499 := (m441).trans (MF.i mf469 (k := 65) (by decide) (by decide)).symm
      have m500 := (m443).trans (MF.r mf469 (k := 17) (by decide) (by decide)).symm
      have m501 := (m444).trans (MF.i mf469 (k := 70) (by decide) (by decide)).symm
      have m502 := (m446).trans (MF.r mf469 (k := 73) (by decide) (by decide)).symm
      refine W.eq (g2 := F0 m 207 ls [.int x463]) rfl ?_
      have rk503 : RKI K H462 kq iq k1.toInt := RKI.kept rk459 hTH419 gkq (x_lt hTH419 kH462 giq (by first | exact nmr ht (by decide) | exact nmo ht (by decide) | exact nme ht (by decide) | exact nmq ht (by decide) | decide | (intro z; simp only [List.mem_cons, List.not_mem_nil, or_false] at z <;> omega) | omega)) (fun q t hq ht => x_lt hTH419 kH462 hq (by first | exact nmr ht (by decide) | exact nmo ht (by decide) | exact nme ht (by decide) | exact nmq ht (by decide) | decide | (intro z; simp only [List.mem_cons, List.not_mem_nil, or_false] at z <;> omega) | omega))
      have re504 : RE K H462 w b s1.toInt := RE.ref re460 hTH419 gw gb (fun k hk => MF.r mf469 (by omega) (by intro z; simp only [List.mem_cons, List.not_mem_nil, or_false] at z; omega)) (fun q t hq ht => x_lt hTH419 kH462 hq (by first | exact nmr ht (by decide) | exact nmo ht (by decide) | exact nme ht (by decide) | exact nmq ht (by decide) | decide | (intro z; simp only [List.mem_cons, List.not_mem_nil, or_false] at z <;> omega) | omega))
      refine lv_pop hx hb dL_law_207 rfl ?_
      refine lv_goto (tgt := 1509) hx hb dL_law_208 (by decide) ?_
      exact nx G H462 locsH462 _ _ ls ⟨hTH462, hN, ga, gb, g465, g466, g467, g468, ⟨(by rw [← m473, ← m494]; exact rt), (by rw [← m472, ← m474, ← m464]; exact r1), (by rw [← m472, ← m475, ← m495]; exact r4), (by rw [← m472, ← m476, ← m496]; exact r5), (by rw [← m472, ← m477, ← m497]; exact r10), (by rw [← m472, ← m478, ← m498]; exact r13), (by rw [← m472, ← m479, ← m499]; exact r16)⟩, Or.inr ⟨kq, m481, gkq, (by rw [← m501]; exact h70), (by rw [← m482, ← m502, ← m483]; exact q1), (by rw [← m484, ← m502, ← m485]; exact q4), (by rw [← m486, ← m502, ← m487]; exact q5), (by rw [← m488, ← m502, ← m489]; exact q10), (by rw [← m490, ← m502, ← m491]; exact q13), (by rw [← m492, ← m502, ← m493]; exact q16), (by rw [← m502, ← m482]; exact RKI.cast rk503 (by omega)), (by rw [← m486]; omega), (by rw [← m486]; omega)⟩, (by unfold TB; rw [← m480, ← m500, ← m494]; exact TBR.of htr f470 f471 (by omega)), (by unfold RELE; rw [← m472, ← m464, ← m476]; exact ⟨RE.cast re504 (by omega), by omega, by omega⟩), hSH462⟩ hl ⟨hc, hs, fun h => by have h1 := h.symm.trans m481; cases h1⟩
set_option maxRecDepth 100000 in
set_option maxHeartbeats 8000000 in
theorem lw_c1 {p : Program} {l : Launch} {e : Env} {s : State} {m : MethodId} {below : List Frame} {meth : Method} {c : Code} {K : KE} {b0 L : Nat} {xs : Nat → Int32} {G : Nat → Option Nat} {H : Heap} {locs : List Loc} {a b : Nat} {cells slots : Nat} {ls : Array Slot} {i : Int32} {n : Nat} (D : LC p K s m meth c b0 L xs) (S : SX K s G H locs a b) (hl : lv_has ls 4 [(3, .int i), (2, .ref b), (1, .ref a), (0, .ref b0)]) (hi : 0 ≤ i.toInt ∧ i.toInt + 6 ≤ L) (hn : n ≤ 511) (hB : BD K H a cells slots) (nx : ∀ (G : Nat → Option Nat) (H : Heap) (locs : List Loc) (cells slots : Nat) (ls : Array Slot), SX K s G H locs a b → lv_has ls 4 [(3, .int i), (2, .ref b), (1, .ref a), (0, .ref b0)] → BD K H a cells slots → W p l e room_1 s m #[Value.ref b0] below meth c H locs cells slots (lw_Z below #[Value.ref b0] s) (F0 m 1509 ls [])) : W p l e room_1 s m #[Value.ref b0] below meth c H locs cells slots (lw_Z below #[Value.ref b0] s) (F0 m 211 ls []) := by
  have hI := hi
  obtain ⟨C, hX, hbl, hL⟩ := id D
  obtain ⟨hx, hb, hml, hown, hts, hKT, hr, hlocks, hnm⟩ := id C
  obtain ⟨hT, hN, ga, gb, cg, tu, wd, im, ⟨rt, r1, r4, r5, r10, r13, r16⟩, hk, htb, her, hS⟩ := S
  obtain ⟨hc, hs, hB0⟩ := hB
  have n_1 : (1 : Int32).toInt = 1 := rfl
  have n_2 : (2 : Int32).toInt = 2 := rfl
  have n_3 : (3 : Int32).toInt = 3 := rfl
  have n_4 : (4 : Int32).toInt = 4 := rfl
  have n_5 : (5 : Int32).toInt = 5 := rfl
  obtain ⟨w, ew⟩ : ∃ z : Nat, z = fR H a (K.1.2 9 0) := ⟨_, rfl⟩
  have gw := ty_fr (q := w) (k := 0) (u := 0) ew hT ga rg_68 rfl
  rw [← ew] at r1 r4 r5 r10 r13 r16
  obtain ⟨ta, eta⟩ : ∃ z : Int32, z = fI H a (K.1.2 9 3) := ⟨_, rfl⟩
  rw [← eta] at rt
  obtain ⟨tb, etb⟩ : ∃ z : Int32, z = fI H b (K.1.2 10 18) := ⟨_, rfl⟩
  rw [← etb] at rt
  obtain ⟨s1, es1⟩ : ∃ z : Int32, z = fI H w (K.1.2 8 1) := ⟨_, rfl⟩
  rw [← es1] at r1
  obtain ⟨y1, ey1⟩ : ∃ z : Int32, z = fI H b (K.1.2 10 1) := ⟨_, rfl⟩
  rw [← ey1] at r1
  obtain ⟨s4, es4⟩ : ∃ z : Int32, z = fI H w (K.1.2 8 4) := ⟨_, rfl⟩
  rw [← es4] at r4
  obtain ⟨y4, ey4⟩ : ∃ z : Int32, z = fI H b (K.1.2 10 2) := ⟨_, rfl⟩
  rw [← ey4] at r4
  obtain ⟨s5, es5⟩ : ∃ z : Int32, z = fI H w (K.1.2 8 5) := ⟨_, rfl⟩
  rw [← es5] at r5
  obtain ⟨y5, ey5⟩ : ∃ z : Int32, z = fI H b (K.1.2 10 3) := ⟨_, rfl⟩
  rw [← ey5] at r5
  obtain ⟨s10, es10⟩ : ∃ z : Int32, z = fI H w (K.1.2 8 10) := ⟨_, rfl⟩
  rw [← es10] at r10
  obtain ⟨y10, ey10⟩ : ∃ z : Int32, z = fI H b (K.1.2 10 59) := ⟨_, rfl⟩
  rw [← ey10] at r10
  obtain ⟨s13, es13⟩ : ∃ z : Int32, z = fI H w (K.1.2 8 13) := ⟨_, rfl⟩
  rw [← es13] at r13
  obtain ⟨y13, ey13⟩ : ∃ z : Int32, z = fI H b (K.1.2 10 62) := ⟨_, rfl⟩
  rw [← ey13] at r13
  obtain ⟨s16, es16⟩ : ∃ z : Int32, z = fI H w (K.1.2 8 16) := ⟨_, rfl⟩
  rw [← es16] at r16
  obtain ⟨y16, ey16⟩ : ∃ z : Int32, z = fI H b (K.1.2 10 65) := ⟨_, rfl⟩
  rw [← ey16] at r16
  obtain ⟨tq, etq⟩ : ∃ z : Nat, z = fR H a (K.1.2 9 2) := ⟨_, rfl⟩
  have gtq := ty_fr (q := tq) (k := 2) (u := 108) etq hT ga rg_68 rfl
  obtain ⟨uq, euq⟩ : ∃ z : Nat, z = fR H b (K.1.2 10 17) := ⟨_, rfl⟩
  have guq := ty_fr (q := uq) (k := 17) (u := 126) euq hT gb rg_112 rfl
  have htr : TBR (fun j => fI H tq j) (fun j => fI H uq j) tb.toNatClampNeg := by rw [etq, euq, etb]; exact htb
  have ft0 : ∀ j : Nat, fI H tq j = fI H tq j := fun _ => rfl
  have fu0 : ∀ j : Nat, fI H uq j = fI H uq j := fun _ => rfl
  have bta := ty_fi (x := ta) (k := 3) eta hT ga rg_68 rfl
  have cta := i_cl (x := ta) (by omega)
  have btb := ty_fi (x := tb) (k := 18) etb hT gb rg_112 rfl
  have ctb := i_cl (x := tb) (by omega)
  obtain ⟨her0, hsl1, hsl2⟩ := her
  have hsl0 := And.intro hsl1 hsl2
  clear hsl1 hsl2
  rw [← ew] at her0 hsl0
  have re : RE K H w b s1.toInt := RE.cast her0 (by rw [← ey1]; exact r1)
  have hsl : 0 ≤ s5.toInt ∧ s5.toInt ≤ 9999 := by rw [es5]; exact hsl0
  clear her0 hsl0
  have bt_s1 := ty_fi (x := s1) (k := 1) es1 hT gw rg_0 rfl
  have bt_s4 := ty_fi (x := s4) (k := 4) es4 hT gw rg_0 rfl
  have bt_y1 := ty_fi (x := y1) (k := 1) ey1 hT gb rg_112 rfl
  have bt_y4 := ty_fi (x := y4) (k := 2) ey4 hT gb rg_112 rfl
  rcases hk with ⟨kn, h70⟩ | ⟨kq, kn, gkq, h70, q1, q4, q5, q10, q13, q16, rke, ks1, ks2⟩
  · skip
    obtain ⟨hi, ehi⟩ : ∃ z : Int32, z = fI H b (K.1.2 10 70) := ⟨_, rfl⟩
    rw [← ehi] at h70
    obtain ⟨hc0, hs0⟩ := hB0 kn
    obtain ⟨iq, eiq⟩ : ∃ z : Nat, z = fR H b (K.1.2 10 73) := ⟨_, rfl⟩
    have giq := ty_fr (q := iq) (k := 73) (u := 162) eiq hT gb rg_112 rfl
    refine lv_aload_n hx hb dL_law_211 rfl (lv_at hl 2 rfl) ?_
    refine lv_aload_n hx hb dL_law_212 rfl (lv_at hl 3 rfl) ?_
    refine lv_iload_n hx hb dL_law_213 rfl (lv_at hl 0 rfl) ?_
    refine lv_iconst (v := 1) hx hb dL_law_214 (by decide) ?_
    refine lv_iadd hx hb dL_law_215 ?_
    refine lv_topi (fun x101 ex101 => ?_)
    obtain ⟨tx101, ejx101, evx101⟩ := lw_ix (k := 1) ex101 hI hL rfl (by decide)
    clear tx101
    refine va_sld hx hb hX hbl (Nat.not_le.mpr hbl) hS (vp_in_iff.mpr evx101) dL_law_216 ?_
    refine W.eq (g2 := F0 m 217 ls [.int (xs (i.toNatClampNeg + 1)), .ref a]) (congrArg (fun z => F0 m 217 ls [.int (xs z), .ref a]) ejx101) ?_
    refine lv_aload_n hx hb dL_law_217 rfl (lv_at hl 3 rfl) ?_
    refine lv_iload_n hx hb dL_law_218 rfl (lv_at hl 0 rfl) ?_
    refine lv_iconst (v := 2) hx hb dL_law_219 (by decide) ?_
    refine lv_iadd hx hb dL_law_220 ?_
    refine lv_topi (fun x102 ex102 => ?_)
    obtain ⟨tx102, ejx102, evx102⟩ := lw_ix (k := 2) ex102 hI hL rfl (by decide)
    clear tx102
    refine va_sld hx hb hX hbl (Nat.not_le.mpr hbl) hS (vp_in_iff.mpr evx102) dL_law_221 ?_
    refine W.eq (g2 := F0 m 222 ls [.int (xs (i.toNatClampNeg + 2)), .int (xs (i.toNatClampNeg + 1)), .ref a]) (congrArg (fun z => F0 m 222 ls [.int (xs z), .int (xs (i.toNatClampNeg + 1)), .ref a]) ejx102) ?_
    refine lv_aload_n hx hb dL_law_222 rfl (lv_at hl 3 rfl) ?_
    refine lv_iload_n hx hb dL_law_223 rfl (lv_at hl 0 rfl) ?_
    refine lv_iconst (v := 3) hx hb dL_law_224 (by decide) ?_
    refine lv_iadd hx hb dL_law_225 ?_
    refine lv_topi (fun x103 ex103 => ?_)
    obtain ⟨tx103, ejx103, evx103⟩ := lw_ix (k := 3) ex103 hI hL rfl (by decide)
    clear tx103
    refine va_sld hx hb hX hbl (Nat.not_le.mpr hbl) hS (vp_in_iff.mpr evx103) dL_law_226 ?_
    refine W.eq (g2 := F0 m 227 ls [.int (xs (i.toNatClampNeg + 3)), .int (xs (i.toNatClampNeg + 2)), .int (xs (i.toNatClampNeg + 1)), .ref a]) (congrArg (fun z => F0 m 227 ls [.int (xs z), .int (xs (i.toNatClampNeg + 2)), .int (xs (i.toNatClampNeg + 1)), .ref a]) ejx103) ?_
    refine lv_aload_n hx hb dL_law_227 rfl (lv_at hl 3 rfl) ?_
    refine lv_iload_n hx hb dL_law_228 rfl (lv_at hl 0 rfl) ?_
    refine lv_iconst (v := 4) hx hb dL_law_229 (by decide) ?_
    refine lv_iadd hx hb dL_law_230 ?_
    refine lv_topi (fun x104 ex104 => ?_)
    obtain ⟨tx104, ejx104, evx104⟩ := lw_ix (k := 4) ex104 hI hL rfl (by decide)
    clear tx104
    refine va_sld hx hb hX hbl (Nat.not_le.mpr hbl) hS (vp_in_iff.mpr evx104) dL_law_231 ?_
    refine W.eq (g2 := F0 m 232 ls [.int (xs (i.toNatClampNeg + 4)), .int (xs (i.toNatClampNeg + 3)), .int (xs (i.toNatClampNeg + 2)), .int (xs (i.toNatClampNeg + 1)), .ref a]) (congrArg (fun z => F0 m 232 ls [.int (xs z), .int (xs (i.toNatClampNeg + 3)), .int (xs (i.toNatClampNeg + 2)), .int (xs (i.toNatClampNeg + 1)), .ref a]) ejx104) ?_
    refine lv_aload_n hx hb dL_law_232 rfl (lv_at hl 3 rfl) ?_
    refine lv_iload_n hx hb dL_law_233 rfl (lv_at hl 0 rfl) ?_
    refine lv_iconst (v := 5) hx hb dL_law_234 (by decide) ?_
    refine lv_iadd hx hb dL_law_235 ?_
    refine lv_topi (fun x105 ex105 => ?_)
    obtain ⟨tx105, ejx105, evx105⟩ := lw_ix (k := 5) ex105 hI hL rfl (by decide)
    clear tx105
    refine va_sld hx hb hX hbl (Nat.not_le.mpr hbl) hS (vp_in_iff.mpr evx105) dL_law_236 ?_
    refine W.eq (g2 := F0 m 237 ls [.int (xs (i.toNatClampNeg + 5)), .int (xs (i.toNatClampNeg + 4)), .int (xs (i.toNatClampNeg + 3)), .int (xs (i.toNatClampNeg + 2)), .int (xs (i.toNatClampNeg + 1)), .ref a]) (congrArg (fun z => F0 m 237 ls [.int (xs z), .int (xs (i.toNatClampNeg + 4)), .int (xs (i.toNatClampNeg + 3)), .int (xs (i.toNatClampNeg + 2)), .int (xs (i.toNatClampNeg + 1)), .ref a]) ejx105) ?_
    have sp106 : (0 ≤ (xs (i.toNatClampNeg + 1)).toInt ∧ (xs (i.toNatClampNeg + 1)).toInt < s1.toInt) ∨ ((xs (i.toNatClampNeg + 1)).toInt < 0 ∨ s1.toInt ≤ (xs (i.toNatClampNeg + 1)).toInt) := by omega
    rcases sp106 with hsp | hsp
    · skip
      have cxe := i_cl (x := (xs (i.toNatClampNeg + 1))) (by omega)
      obtain ⟨bq, ebq⟩ : ∃ z : Nat, z = fR H w (K.1.2 8 0) := ⟨_, rfl⟩
      have gbq := ty_fr (q := bq) (k := 0) (u := 25) ebq hT gw rg_0 rfl
      obtain ⟨bb, ebb⟩ : ∃ z : Nat, z = fR H bq ((xs (i.toNatClampNeg + 1)) : Int32).toNatClampNeg := ⟨_, rfl⟩
      have ebo : ow K H w ((xs (i.toNatClampNeg + 1)) : Int32).toNatClampNeg = bb := by rw [ow_b (by omega), ← ebq, ← ebb]
      have gbb : G bb = some 1 := by rw [← ebo]; exact ow_g hT gw (by omega)
      obtain ⟨rw1, erw1⟩ : ∃ z : Nat, z = fR H bb (K.1.2 0 1) := ⟨_, rfl⟩
      have grw1 := ty_fr (q := rw1) (k := 1) (u := 2) erw1 hT gbb rg_1 rfl
      obtain ⟨rw2, erw2⟩ : ∃ z : Nat, z = fR H bb (K.1.2 0 2) := ⟨_, rfl⟩
      have grw2 := ty_fr (q := rw2) (k := 2) (u := 3) erw2 hT gbb rg_1 rfl
      obtain ⟨rw3, erw3⟩ : ∃ z : Nat, z = fR H bb (K.1.2 0 3) := ⟨_, rfl⟩
      have grw3 := ty_fr (q := rw3) (k := 3) (u := 4) erw3 hT gbb rg_1 rfl
      obtain ⟨rw4, erw4⟩ : ∃ z : Nat, z = fR H bb (K.1.2 0 4) := ⟨_, rfl⟩
      have grw4 := ty_fr (q := rw4) (k := 4) (u := 5) erw4 hT gbb rg_1 rfl
      obtain ⟨rw5, erw5⟩ : ∃ z : Nat, z = fR H bb (K.1.2 0 5) := ⟨_, rfl⟩
      have grw5 := ty_fr (q := rw5) (k := 5) (u := 6) erw5 hT gbb rg_1 rfl
      obtain ⟨rw6, erw6⟩ : ∃ z : Nat, z = fR H bb (K.1.2 0 6) := ⟨_, rfl⟩
      have grw6 := ty_fr (q := rw6) (k := 6) (u := 7) erw6 hT gbb rg_1 rfl
      obtain ⟨rw7, erw7⟩ : ∃ z : Nat, z = fR H bb (K.1.2 0 7) := ⟨_, rfl⟩
      have grw7 := ty_fr (q := rw7) (k := 7) (u := 8) erw7 hT gbb rg_1 rfl
      obtain ⟨bz, ebz⟩ : ∃ z : Int32, z = fI H bb (K.1.2 0 0) := ⟨_, rfl⟩
      have bt_bz := ty_fi (x := bz) (k := 0) ebz hT gbb rg_1 rfl
      obtain ⟨bp, ebp⟩ : ∃ z : Int32, z = fI H bb (K.1.2 0 8) := ⟨_, rfl⟩
      have bt_bp := ty_fi (x := bp) (k := 8) ebp hT gbb rg_1 rfl
      obtain ⟨bl, ebl⟩ : ∃ z : Int32, z = fI H bb (K.1.2 0 9) := ⟨_, rfl⟩
      have bt_bl := ty_fi (x := bl) (k := 9) ebl hT gbb rg_1 rfl
      obtain ⟨hE_, hO_, hG_⟩ := re.2.1.1 ((xs (i.toNatClampNeg + 1)) : Int32).toNatClampNeg (by omega) (by omega)
      have ez_ : vcN K H w ((xs (i.toNatClampNeg + 1)) : Int32).toNatClampNeg = vwC K H bb := by show vwC K H (ow K H w ((xs (i.toNatClampNeg + 1)) : Int32).toNatClampNeg) = _; rw [ebo]
      rw [ez_] at hE_ hO_ hG_
      replace hE_ : EqW (vwC K H bb) (vwR K H b ((xs (i.toNatClampNeg + 1)) : Int32).toNatClampNeg) := hE_
      have hz3_ : 3 ≤ bz.toInt := by have z := hO_.1; rw [vwC_f (Or.inl rfl), ← ebz] at z; exact z
      refine x_V (As := [.int (xs (i.toNatClampNeg + 1)), .int (xs (i.toNatClampNeg + 2)), .int (xs (i.toNatClampNeg + 3)), .int (xs (i.toNatClampNeg + 4)), .int (xs (i.toNatClampNeg + 5))]) (rest := []) C (a_X9_slice_v l K G H ((xs (i.toNatClampNeg + 1))) ((xs (i.toNatClampNeg + 2))) ((xs (i.toNatClampNeg + 3))) ((xs (i.toNatClampNeg + 4))) ((xs (i.toNatClampNeg + 5))) (s1) (bz) (bp) hT ga (by omega) gw ew gbq ebq gbb ebb grw1 erw1 grw2 erw2 grw3 erw3 es1 ebz ebp (by omega)) yo_X9_slice wM_L_18 ⟨⟨by decide, by decide⟩, show _ ≤ 60000 from Nat.le_trans hc (by decide), show _ ≤ 8922250 from Nat.le_trans hs (by decide)⟩ (x_rv C hT (ci := 9) rfl ga rg_68) rfl hl.1 rfl (Nat.le_of_ble_eq_true rfl) dL_law_237 hS (AE_new hN hS.1) (fun vH107 H107 locsH107 pH107 zH107 kH107 hSH107 => ?_)
      obtain ⟨x108, hvH107, bx108, m109, m110, hTH107⟩ := pH107
      subst hvH107
      have g111 : CG (avw K H107 b) := CG.congr (fun k hk j => av_eff hT kH107 gb (by decide) (CG_eff [2, 3, 4] (by decide) k hk)) cg
      have g112 : TU (avw K H107 b) (svw K H107 b) := TU.congr (fun k hk j => av_eff hT kH107 gb (by decide) (TU_eff [2, 3, 4] (by decide) k hk)) (fun k hk => sv_eff hT kH107 gb (by decide)) tu
      have g113 : WD (avw K H107 b) := WD.congr (fun k hk j => av_eff hT kH107 gb (by decide) (WD_eff [2, 3, 4] (by decide) k hk)) wd
      have g114 : IM (avw K H107 b) := IM.congr (fun k hk j => av_eff hT kH107 gb (by decide) (IM_eff [2, 3, 4] (by decide) k hk)) im
      have f115 : ∀ j : Nat, fI H107 tq j = fI H tq j := fun j => (fI_kept (x_lt hT kH107 gtq (by decide))).trans (ft0 j)
      have f116 : ∀ j : Nat, fI H107 uq j = fI H uq j := fun j => (fI_kept (x_lt hT kH107 guq (by decide))).trans (fu0 j)
      have m117 := (ew).trans (fR_kept (x_lt hT kH107 ga (by decide))).symm
      have m118 := (eta).trans (fI_kept (x_lt hT kH107 ga (by decide))).symm
      have m119 := (etb).trans (fI_kept (x_lt hT kH107 gb (by decide))).symm
      have m120 := (es1).trans (fI_kept (x_lt hT kH107 gw (by decide))).symm
      have m121 := (ey1).trans (fI_kept (x_lt hT kH107 gb (by decide))).symm
      have m122 := (es4).trans (fI_kept (x_lt hT kH107 gw (by decide))).symm
      have m123 := (ey4).trans (fI_kept (x_lt hT kH107 gb (by decide))).symm
      have m124 := (es5).trans (fI_kept (x_lt hT kH107 gw (by decide))).symm
      have m125 := (ey5).trans (fI_kept (x_lt hT kH107 gb (by decide))).symm
      have m126 := (es10).trans (fI_kept (x_lt hT kH107 gw (by decide))).symm
      have m127 := (ey10).trans (fI_kept (x_lt hT kH107 gb (by decide))).symm
      have m128 := (es13).trans (fI_kept (x_lt hT kH107 gw (by decide))).symm
      have m129 := (ey13).trans (fI_kept (x_lt hT kH107 gb (by decide))).symm
      have m130 := (es16).trans (fI_kept (x_lt hT kH107 gw (by decide))).symm
      have m131 := (ey16).trans (fI_kept (x_lt hT kH107 gb (by decide))).symm
      have m132 := (etq).trans (fR_kept (x_lt hT kH107 ga (by decide))).symm
      have m133 := (euq).trans (fR_kept (x_lt hT kH107 gb (by decide))).symm
      have m134 := (ehi).trans (fI_kept (x_lt hT kH107 gb (by decide))).symm
      have m135 := (fV_kept (x_lt hT kH107 ga (by decide))).trans kn
      have m136 := (eiq).trans (fR_kept (x_lt hT kH107 gb (by decide))).symm
      have m137 := (ebq).trans (fR_kept (x_lt hT kH107 gw (by decide))).symm
      have m138 := (ebb).trans (fR_kept (x_lt hT kH107 gbq (by decide))).symm
      have m139 := (erw1).trans (fR_kept (x_lt hT kH107 gbb (by decide))).symm
      have m140 := (erw2).trans (fR_kept (x_lt hT kH107 gbb (by decide))).symm
      have m141 := (erw3).trans (fR_kept (x_lt hT kH107 gbb (by decide))).symm
      have m142 := (erw4).trans (fR_kept (x_lt hT kH107 gbb (by decide))).symm
      have m143 := (erw5).trans (fR_kept (x_lt hT kH107 gbb (by decide))).symm
      have m144 := (erw6).trans (fR_kept (x_lt hT kH107 gbb (by decide))).symm
      have m145 := (erw7).trans (fR_kept (x_lt hT kH107 gbb (by decide))).symm
      have m146 := (ebz).trans (fI_kept (x_lt hT kH107 gbb (by decide))).symm
      have m147 := (ebp).trans (fI_kept (x_lt hT kH107 gbb (by decide))).symm
      have m148 := (ebl).trans (fI_kept (x_lt hT kH107 gbb (by decide))).symm
      refine W.eq (g2 := F0 m 240 ls [.int x108]) rfl ?_
      have nw_ : NWF K H107 H w := fun k _ => fR_kept (m110 w 0 gw (G_ne gw grw1 (by decide)) (G_ne gw grw2 (by decide)) (G_ne gw grw3 (by decide)))
      have rb_ : RFB K H107 H bb := RFB.cell (m110 bb 1 gbb (G_ne gbb grw1 (by decide)) (G_ne gbb grw2 (by decide)) (G_ne gbb grw3 (by decide)))
      obtain ⟨brf, bot, bat, btx⟩ := bar_one (H1 := H107) re.1 hT gw (j := ((xs (i.toNatClampNeg + 1)) : Int32).toNatClampNeg) (by omega) ebo nw_ rb_ (fun q t hq ht n1 n2 => m110 q t hq (by rw [erw1]; exact n2 1 (by decide)) (by rw [erw2]; exact n2 2 (by decide)) (by rw [erw3]; exact n2 3 (by decide)))
      have er1 : ∀ bar, vrN K H107 b bar = vrN K H b bar := vrN.reg hT gb (fun k _ => fR_kept (x_lt hT kH107 gb (by first | exact nmr ht (by decide) | exact nmo ht (by decide) | exact nme ht (by decide) | exact nmq ht (by decide) | decide | (intro z; simp only [List.mem_cons, List.not_mem_nil, or_false] at z <;> omega) | omega))) (fun q t hq ht => x_lt hT kH107 hq (by first | exact nmr ht (by decide) | exact nmo ht (by decide) | exact nme ht (by decide) | exact nmq ht (by decide) | decide | (intro z; simp only [List.mem_cons, List.not_mem_nil, or_false] at z <;> omega) | omega))
      have tr1 : TPK (TRP K H107 b) (TRP K H b) := TRP.reg hT gb (fun k _ _ => fR_kept (x_lt hT kH107 gb (by first | exact nmr ht (by decide) | exact nmo ht (by decide) | exact nme ht (by decide) | exact nmq ht (by decide) | decide | (intro z; simp only [List.mem_cons, List.not_mem_nil, or_false] at z <;> omega) | omega))) (fun q t hq ht => x_lt hT kH107 hq (by first | exact nmr ht (by decide) | exact nmo ht (by decide) | exact nme ht (by decide) | exact nmq ht (by decide) | decide | (intro z; simp only [List.mem_cons, List.not_mem_nil, or_false] at z <;> omega) | omega))
      refine lv_pop hx hb dL_law_240 rfl ?_
      refine lv_aload_n hx hb dL_law_241 rfl (lv_at hl 1 rfl) ?_
      refine lv_aload_n hx hb dL_law_242 rfl (lv_at hl 3 rfl) ?_
      refine lv_iload_n hx hb dL_law_243 rfl (lv_at hl 0 rfl) ?_
      refine lv_iconst (v := 1) hx hb dL_law_244 (by decide) ?_
      refine lv_iadd hx hb dL_law_245 ?_
      refine lv_topi (fun x149 ex149 => ?_)
      obtain ⟨tx149, ejx149, evx149⟩ := lw_ix (k := 1) ex149 hI hL rfl (by decide)
      clear tx149
      refine va_sld hx hb hX hbl (Nat.not_le.mpr hbl) hSH107 (vp_in_iff.mpr evx149) dL_law_246 ?_
      refine W.eq (g2 := F0 m 247 ls [.int (xs (i.toNatClampNeg + 1)), .ref b]) (congrArg (fun z => F0 m 247 ls [.int (xs z), .ref b]) ejx149) ?_
      refine lv_aload_n hx hb dL_law_247 rfl (lv_at hl 3 rfl) ?_
      refine lv_iload_n hx hb dL_law_248 rfl (lv_at hl 0 rfl) ?_
      refine lv_iconst (v := 2) hx hb dL_law_249 (by decide) ?_
      refine lv_iadd hx hb dL_law_250 ?_
      refine lv_topi (fun x150 ex150 => ?_)
      obtain ⟨tx150, ejx150, evx150⟩ := lw_ix (k := 2) ex150 hI hL rfl (by decide)
      clear tx150
      refine va_sld hx hb hX hbl (Nat.not_le.mpr hbl) hSH107 (vp_in_iff.mpr evx150) dL_law_251 ?_
      refine W.eq (g2 := F0 m 252 ls [.int (xs (i.toNatClampNeg + 2)), .int (xs (i.toNatClampNeg + 1)), .ref b]) (congrArg (fun z => F0 m 252 ls [.int (xs z), .int (xs (i.toNatClampNeg + 1)), .ref b]) ejx150) ?_
      refine lv_aload_n hx hb dL_law_252 rfl (lv_at hl 3 rfl) ?_
      refine lv_iload_n hx hb dL_law_253 rfl (lv_at hl 0 rfl) ?_
      refine lv_iconst (v := 3) hx hb dL_law_254 (by decide) ?_
      refine lv_iadd hx hb dL_law_255 ?_
      refine lv_topi (fun x151 ex151 => ?_)
      obtain ⟨tx151, ejx151, evx151⟩ := lw_ix (k := 3) ex151 hI hL rfl (by decide)
      clear tx151
      refine va_sld hx hb hX hbl (Nat.not_le.mpr hbl) hSH107 (vp_in_iff.mpr evx151) dL_law_256 ?_
      refine W.eq (g2 := F0 m 257 ls [.int (xs (i.toNatClampNeg + 3)), .int (xs (i.toNatClampNeg + 2)), .int (xs (i.toNatClampNeg + 1)), .ref b]) (congrArg (fun z => F0 m 257 ls [.int (xs z), .int (xs (i.toNatClampNeg + 2)), .int (xs (i.toNatClampNeg + 1)), .ref b]) ejx151) ?_
      refine lv_aload_n hx hb dL_law_257 rfl (lv_at hl 3 rfl) ?_
      refine lv_iload_n hx hb dL_law_258 rfl (lv_at hl 0 rfl) ?_
      refine lv_iconst (v := 4) hx hb dL_law_259 (by decide) ?_
      refine lv_iadd hx hb dL_law_260 ?_
      refine lv_topi (fun x152 ex152 => ?_)
      obtain ⟨tx152, ejx152, evx152⟩ := lw_ix (k := 4) ex152 hI hL rfl (by decide)
      clear tx152
      refine va_sld hx hb hX hbl (Nat.not_le.mpr hbl) hSH107 (vp_in_iff.mpr evx152) dL_law_261 ?_
      refine W.eq (g2 := F0 m 262 ls [.int (xs (i.toNatClampNeg + 4)), .int (xs (i.toNatClampNeg + 3)), .int (xs (i.toNatClampNeg + 2)), .int (xs (i.toNatClampNeg + 1)), .ref b]) (congrArg (fun z => F0 m 262 ls [.int (xs z), .int (xs (i.toNatClampNeg + 3)), .int (xs (i.toNatClampNeg + 2)), .int (xs (i.toNatClampNeg + 1)), .ref b]) ejx152) ?_
      refine lv_aload_n hx hb dL_law_262 rfl (lv_at hl 3 rfl) ?_
      refine lv_iload_n hx hb dL_law_263 rfl (lv_at hl 0 rfl) ?_
      refine lv_iconst (v := 5) hx hb dL_law_264 (by decide) ?_
      refine lv_iadd hx hb dL_law_265 ?_
      refine lv_topi (fun x153 ex153 => ?_)
      obtain ⟨tx153, ejx153, evx153⟩ := lw_ix (k := 5) ex153 hI hL rfl (by decide)
      clear tx153
      refine va_sld hx hb hX hbl (Nat.not_le.mpr hbl) hSH107 (vp_in_iff.mpr evx153) dL_law_266 ?_
      refine W.eq (g2 := F0 m 267 ls [.int (xs (i.toNatClampNeg + 5)), .int (xs (i.toNatClampNeg + 4)), .int (xs (i.toNatClampNeg + 3)), .int (xs (i.toNatClampNeg + 2)), .int (xs (i.toNatClampNeg + 1)), .ref b]) (congrArg (fun z => F0 m 267 ls [.int (xs z), .int (xs (i.toNatClampNeg + 4)), .int (xs (i.toNatClampNeg + 3)), .int (xs (i.toNatClampNeg + 2)), .int (xs (i.toNatClampNeg + 1)), .ref b]) ejx153) ?_
      have ev_ : vwR K H107 b ((xs (i.toNatClampNeg + 1)) : Int32).toNatClampNeg = vwR K H b ((xs (i.toNatClampNeg + 1)) : Int32).toNatClampNeg := er1 _
      obtain ⟨q154, eq154⟩ : ∃ z : Nat, @Eq Ad z (fR H107 b (K.1.2 10 4)) := ⟨_, rfl⟩
      have gq154 := ty_fr (q := q154) (k := 4) (u := 113) eq154 hTH107 gb rg_112 rfl
      obtain ⟨q155, eq155⟩ : ∃ z : Nat, @Eq Ad z (fR H107 b (K.1.2 10 10)) := ⟨_, rfl⟩
      have gq155 := ty_fr (q := q155) (k := 10) (u := 119) eq155 hTH107 gb rg_112 rfl
      obtain ⟨q156, eq156⟩ : ∃ z : Nat, @Eq Ad z (fR H107 b (K.1.2 10 5)) := ⟨_, rfl⟩
      have gq156 := ty_fr (q := q156) (k := 5) (u := 114) eq156 hTH107 gb rg_112 rfl
      obtain ⟨q157, eq157⟩ : ∃ z : Nat, @Eq Ad z (fR H107 b (K.1.2 10 6)) := ⟨_, rfl⟩
      have gq157 := ty_fr (q := q157) (k := 6) (u := 115) eq157 hTH107 gb rg_112 rfl
      obtain ⟨q158, eq158⟩ : ∃ z : Nat, @Eq Ad z (fR H107 b (K.1.2 10 7)) := ⟨_, rfl⟩
      have gq158 := ty_fr (q := q158) (k := 7) (u := 116) eq158 hTH107 gb rg_112 rfl
      obtain ⟨x159, ex159⟩ : ∃ z : Int32, z = fI H107 q154 ((xs (i.toNatClampNeg + 1)) : Int32).toNatClampNeg := ⟨_, rfl⟩
      have bx159 := ty_ai (x := x159) ex159 hTH107 gq154 rg_113 (by omega)
      obtain ⟨x160, ex160⟩ : ∃ z : Int32, z = fI H107 q155 ((xs (i.toNatClampNeg + 1)) : Int32).toNatClampNeg := ⟨_, rfl⟩
      have bx160 := ty_ai (x := x160) ex160 hTH107 gq155 rg_119 (by omega)
      refine x_V (As := [.int (xs (i.toNatClampNeg + 1)), .int (xs (i.toNatClampNeg + 2)), .int (xs (i.toNatClampNeg + 3)), .int (xs (i.toNatClampNeg + 4)), .int (xs (i.toNatClampNeg + 5))]) (rest := []) C (a_X10_slice_v l K G H107 ((xs (i.toNatClampNeg + 1))) ((xs (i.toNatClampNeg + 2))) ((xs (i.toNatClampNeg + 3))) ((xs (i.toNatClampNeg + 4))) ((xs (i.toNatClampNeg + 5))) (y1) (x159) (x160) hTH107 gb (by omega) gq154 eq154 gq155 eq155 gq156 eq156 gq157 eq157 gq158 eq158 m121 ex159 ex160 g111 g112 g113 g114 (by omega)) yo_X10_slice wM_L_22 ⟨⟨by decide, by decide⟩, show _ ≤ 60000 from Nat.le_trans hc (by decide), show _ ≤ 8922250 from Nat.le_trans hs (by decide)⟩ (x_rv C hTH107 (ci := 10) rfl gb rg_112) rfl hl.1 rfl (Nat.le_of_ble_eq_true rfl) dL_law_267 hSH107 (AE_new hN hSH107.1) (fun vH161 H161 locsH161 pH161 zH161 kH161 hSH161 => ?_)
      obtain ⟨x162, hvH161, bx162, m163, m164, m165, m166, m167, g168, g169, g170, g171, mf172, m173, m174, hTH161⟩ := pH161
      subst hvH161
      have f175 : ∀ j : Nat, fI H161 tq j = fI H tq j := fun j => (fI_kept (x_lt hTH107 kH161 gtq (by decide))).trans (f115 j)
      have f176 : ∀ j : Nat, fI H161 uq j = fI H uq j := fun j => (fI_kept (x_lt hTH107 kH161 guq (by decide))).trans (f116 j)
      have m177 := (m117).trans (fR_kept (x_lt hTH107 kH161 ga (by decide))).symm
      have m178 := (m118).trans (fI_kept (x_lt hTH107 kH161 ga (by decide))).symm
      have m179 := (m120).trans (fI_kept (x_lt hTH107 kH161 gw (by decide))).symm
      have m180 := (m122).trans (fI_kept (x_lt hTH107 kH161 gw (by decide))).symm
      have m181 := (m124).trans (fI_kept (x_lt hTH107 kH161 gw (by decide))).symm
      have m182 := (m126).trans (fI_kept (x_lt hTH107 kH161 gw (by decide))).symm
      have m183 := (m128).trans (fI_kept (x_lt hTH107 kH161 gw (by decide))).symm
      have m184 := (m130).trans (fI_kept (x_lt hTH107 kH161 gw (by decide))).symm
      have m185 := (m132).trans (fR_kept (x_lt hTH107 kH161 ga (by decide))).symm
      have m186 := (fV_kept (x_lt hTH107 kH161 ga (by decide))).trans m135
      have m187 := (m137).trans (fR_kept (x_lt hTH107 kH161 gw (by decide))).symm
      have m188 := (m138).trans (fR_kept (x_lt hTH107 kH161 gbq (by decide))).symm
      have m189 := (m139).trans (fR_kept (x_lt hTH107 kH161 gbb (by decide))).symm
      have m190 := (m140).trans (fR_kept (x_lt hTH107 kH161 gbb (by decide))).symm
      have m191 := (m141).trans (fR_kept (x_lt hTH107 kH161 gbb (by decide))).symm
      have m192 := (m142).trans (fR_kept (x_lt hTH107 kH161 gbb (by decide))).symm
      have m193 := (m143).trans (fR_kept (x_lt hTH107 kH161 gbb (by decide))).symm
      have m194 := (m144).trans (fR_kept (x_lt hTH107 kH161 gbb (by decide))).symm
      have m195 := (m145).trans (fR_kept (x_lt hTH107 kH161 gbb (by decide))).symm
      have m196 := (m146).trans (fI_kept (x_lt hTH107 kH161 gbb (by decide))).symm
      have m197 := (m147).trans (fI_kept (x_lt hTH107 kH161 gbb (by decide))).symm
      have m198 := (m148).trans (fI_kept (x_lt hTH107 kH161 gbb (by decide))).symm
      have m199 := (ex159).trans (fI_kept (x_lt hTH107 kH161 gq154 (by decide))).symm
      have m200 := (ex160).trans (fI_kept (x_lt hTH107 kH161 gq155 (by decide))).symm
      have m201 := (m119).trans (MF.i mf172 (k := 18) (by decide) (by decide)).symm
      have m202 := (m121).trans (MF.i mf172 (k := 1) (by decide) (by decide)).symm
      have m203 := (m123).trans (MF.i mf172 (k := 2) (by decide) (by decide)).symm
      have m204 := (m125).trans (MF.i mf172 (k := 3) (by decide) (by decide)).symm
      have m205 := (m127).trans (MF.i mf172 (k := 59) (by decide) (by decide)).symm
      have m206 := (m129).trans (MF.i mf172 (k := 62) (by decide) (by decide)).symm
      have m207 := (m131).trans (MF.i mf172 (k := 65) (by decide) (by decide)).symm
      have m208 := (m133).trans (MF.r mf172 (k := 17) (by decide) (by decide)).symm
      have m209 := (m134).trans (MF.i mf172 (k := 70) (by decide) (by decide)).symm
      have m210 := (m136).trans (MF.r mf172 (k := 73) (by decide) (by decide)).symm
      have m211 := (eq154).trans (MF.r mf172 (k := 4) (by decide) (by decide)).symm
      have m212 := (eq155).trans (MF.r mf172 (k := 10) (by decide) (by decide)).symm
      have m213 := (eq156).trans (MF.r mf172 (k := 5) (by decide) (by decide)).symm
      have m214 := (eq157).trans (MF.r mf172 (k := 6) (by decide) (by decide)).symm
      have m215 := (eq158).trans (MF.r mf172 (k := 7) (by decide) (by decide)).symm
      refine W.eq (g2 := F0 m 270 ls [.int x162]) rfl ?_
      have r12 : RFW K H161 H107 w := RFW.cell hTH107 gw (fun q t hq ht => x_lt hTH107 kH161 hq (by first | exact nmr ht (by decide) | exact nmo ht (by decide) | exact nme ht (by decide) | exact nmq ht (by decide) | decide | (intro z; simp only [List.mem_cons, List.not_mem_nil, or_false] at z <;> omega) | omega))
      have cU := vcN.kept hTH107 gw r12 (fun q t hq ht => x_lt hTH107 kH161 hq (by first | exact nmr ht (by decide) | exact nmo ht (by decide) | exact nme ht (by decide) | exact nmq ht (by decide) | decide | (intro z; simp only [List.mem_cons, List.not_mem_nil, or_false] at z <;> omega) | omega))
      have own2 : OWN K H161 w := (re.1.st brf).st r12
      have tU : TPK (TXP K H161 w) (TXP K H107 w) := TXP.kept hTH107 gw r12 (fun q t hq ht => x_lt hTH107 kH161 hq (by first | exact nmr ht (by decide) | exact nmo ht (by decide) | exact nme ht (by decide) | exact nmq ht (by decide) | decide | (intro z; simp only [List.mem_cons, List.not_mem_nil, or_false] at z <;> omega) | omega))
      have tR : TPK (TRP K H161 b) (TRP K H107 b) := TRP.reg hTH107 gb (fun k h1 h2 => MF.r mf172 (by omega) (by intro z; simp only [List.mem_cons, List.not_mem_nil, or_false] at z; omega)) (fun q t hq ht => x_lt hTH107 kH161 hq (by first | exact nmr ht (by decide) | exact nmo ht (by decide) | exact nme ht (by decide) | exact nmq ht (by decide) | decide | (intro z; simp only [List.mem_cons, List.not_mem_nil, or_false] at z <;> omega) | omega))
      have oq_ := m173
      rw [ev_] at oq_
      obtain ⟨hrq_, hC1, hC2, hC3⟩ := slice_both hE_ hO_ hG_ m109 oq_
      have re216 : RE K H161 w b s1.toInt := RE.set (i := ((xs (i.toNatClampNeg + 1)) : Int32).toNatClampNeg) re own2 (by omega) (by rw [cU ((xs (i.toNatClampNeg + 1)) : Int32).toNatClampNeg (by omega), bat]; exact hC1) (by rw [cU ((xs (i.toNatClampNeg + 1)) : Int32).toNatClampNeg (by omega), bat]; exact hC2) (by rw [cU ((xs (i.toNatClampNeg + 1)) : Int32).toNatClampNeg (by omega), bat]; exact hC3) (fun j hj hn => (cU j hj).trans (bot j hj hn)) (fun j hj hn => EqV.tr (m174 j hn) (by rw [show vwR K H107 b j = vwR K H b j from er1 j]; exact EqV.rf)) (fun r kk vv lw n h1 h2 z => tU r kk vv lw n h1 h2 (btx r kk vv lw n h1 h2 z)) (fun r kk vv lw n h1 h2 z => tR r kk vv lw n h1 h2 (tr1 r kk vv lw n h1 h2 z))
      refine lv_pop hx hb dL_law_270 rfl ?_
      refine lv_goto (tgt := 1509) hx hb dL_law_271 (by decide) ?_
      exact nx G H161 locsH161 _ _ ls ⟨hTH161, hN, ga, gb, g168, g169, g170, g171, ⟨(by rw [← m178, ← m201]; exact rt), (by rw [← m177, ← m179, ← m202]; exact r1), (by rw [← m177, ← m180, ← m203]; exact r4), (by rw [← m177, ← m181, ← m204]; exact r5), (by rw [← m177, ← m182, ← m205]; exact r10), (by rw [← m177, ← m183, ← m206]; exact r13), (by rw [← m177, ← m184, ← m207]; exact r16)⟩, Or.inl ⟨m186, (by rw [← m209]; exact h70)⟩, (by unfold TB; rw [← m185, ← m208, ← m201]; exact TBR.of htr f175 f176 (by omega)), (by unfold RELE; rw [← m177, ← m202, ← m181]; exact ⟨RE.cast re216 (by omega), by omega, by omega⟩), hSH161⟩ hl ⟨hc, hs, fun _ => ⟨hc0, hs0⟩⟩
    · skip
      refine x_V (As := [.int (xs (i.toNatClampNeg + 1)), .int (xs (i.toNatClampNeg + 2)), .int (xs (i.toNatClampNeg + 3)), .int (xs (i.toNatClampNeg + 4)), .int (xs (i.toNatClampNeg + 5))]) (rest := []) C (a_X9_slice_n l K G H ((xs (i.toNatClampNeg + 1))) ((xs (i.toNatClampNeg + 2))) ((xs (i.toNatClampNeg + 3))) ((xs (i.toNatClampNeg + 4))) ((xs (i.toNatClampNeg + 5))) (s1) hT ga gw ew es1 (by omega)) yo_X9_slice wM_L_18 ⟨⟨by decide, by decide⟩, show _ ≤ 60000 from Nat.le_trans hc (by decide), show _ ≤ 8922250 from Nat.le_trans hs (by decide)⟩ (x_rv C hT (ci := 9) rfl ga rg_68) rfl hl.1 rfl (Nat.le_of_ble_eq_true rfl) dL_law_237 hS (AE_new hN hS.1) (fun vH217 H217 locsH217 pH217 zH217 kH217 hSH217 => ?_)
      obtain ⟨x218, hvH217, bx218, hTH217⟩ := pH217
      subst hvH217
      have g219 : CG (avw K H217 b) := CG.congr (fun k hk j => av_eff hT kH217 gb (by decide) (CG_eff [] (by decide) k hk)) cg
      have g220 : TU (avw K H217 b) (svw K H217 b) := TU.congr (fun k hk j => av_eff hT kH217 gb (by decide) (TU_eff [] (by decide) k hk)) (fun k hk => sv_eff hT kH217 gb (by decide)) tu
      have g221 : WD (avw K H217 b) := WD.congr (fun k hk j => av_eff hT kH217 gb (by decide) (WD_eff [] (by decide) k hk)) wd
      have g222 : IM (avw K H217 b) := IM.congr (fun k hk j => av_eff hT kH217 gb (by decide) (IM_eff [] (by decide) k hk)) im
      have f223 : ∀ j : Nat, fI H217 tq j = fI H tq j := fun j => (fI_kept (x_lt hT kH217 gtq (by decide))).trans (ft0 j)
      have f224 : ∀ j : Nat, fI H217 uq j = fI H uq j := fun j => (fI_kept (x_lt hT kH217 guq (by decide))).trans (fu0 j)
      have m225 := (ew).trans (fR_kept (x_lt hT kH217 ga (by decide))).symm
      have m226 := (eta).trans (fI_kept (x_lt hT kH217 ga (by decide))).symm
      have m227 := (etb).trans (fI_kept (x_lt hT kH217 gb (by decide))).symm
      have m228 := (es1).trans (fI_kept (x_lt hT kH217 gw (by decide))).symm
      have m229 := (ey1).trans (fI_kept (x_lt hT kH217 gb (by decide))).symm
      have m230 := (es4).trans (fI_kept (x_lt hT kH217 gw (by decide))).symm
      have m231 := (ey4).trans (fI_kept (x_lt hT kH217 gb (by decide))).symm
      have m232 := (es5).trans (fI_kept (x_lt hT kH217 gw (by decide))).symm
      have m233 := (ey5).trans (fI_kept (x_lt hT kH217 gb (by decide))).symm
      have m234 := (es10).trans (fI_kept (x_lt hT kH217 gw (by decide))).symm
      have m235 := (ey10).trans (fI_kept (x_lt hT kH217 gb (by decide))).symm
      have m236 := (es13).trans (fI_kept (x_lt hT kH217 gw (by decide))).symm
      have m237 := (ey13).trans (fI_kept (x_lt hT kH217 gb (by decide))).symm
      have m238 := (es16).trans (fI_kept (x_lt hT kH217 gw (by decide))).symm
      have m239 := (ey16).trans (fI_kept (x_lt hT kH217 gb (by decide))).symm
      have m240 := (etq).trans (fR_kept (x_lt hT kH217 ga (by decide))).symm
      have m241 := (euq).trans (fR_kept (x_lt hT kH217 gb (by decide))).symm
      have m242 := (ehi).trans (fI_kept (x_lt hT kH217 gb (by decide))).symm
      have m243 := (fV_kept (x_lt hT kH217 ga (by decide))).trans kn
      have m244 := (eiq).trans (fR_kept (x_lt hT kH217 gb (by decide))).symm
      refine W.eq (g2 := F0 m 240 ls [.int x218]) rfl ?_
      have re245 : RE K H217 w b s1.toInt := RE.cls re hT gw gb (fun q t hq ht => x_lt hT kH217 hq (by first | exact nmr ht (by decide) | exact nmo ht (by decide) | exact nme ht (by decide) | exact nmq ht (by decide) | decide | (intro z; simp only [List.mem_cons, List.not_mem_nil, or_false] at z <;> omega) | omega))
      refine lv_pop hx hb dL_law_240 rfl ?_
      refine lv_aload_n hx hb dL_law_241 rfl (lv_at hl 1 rfl) ?_
      refine lv_aload_n hx hb dL_law_242 rfl (lv_at hl 3 rfl) ?_
      refine lv_iload_n hx hb dL_law_243 rfl (lv_at hl 0 rfl) ?_
      refine lv_iconst (v := 1) hx hb dL_law_244 (by decide) ?_
      refine lv_iadd hx hb dL_law_245 ?_
      refine lv_topi (fun x246 ex246 => ?_)
      obtain ⟨tx246, ejx246, evx246⟩ := lw_ix (k := 1) ex246 hI hL rfl (by decide)
      clear tx246
      refine va_sld hx hb hX hbl (Nat.not_le.mpr hbl) hSH217 (vp_in_iff.mpr evx246) dL_law_246 ?_
      refine W.eq (g2 := F0 m 247 ls [.int (xs (i.toNatClampNeg + 1)), .ref b]) (congrArg (fun z => F0 m 247 ls [.int (xs z), .ref b]) ejx246) ?_
      refine lv_aload_n hx hb dL_law_247 rfl (lv_at hl 3 rfl) ?_
      refine lv_iload_n hx hb dL_law_248 rfl (lv_at hl 0 rfl) ?_
      refine lv_iconst (v := 2) hx hb dL_law_249 (by decide) ?_
      refine lv_iadd hx hb dL_law_250 ?_
      refine lv_topi (fun x247 ex247 => ?_)
      obtain ⟨tx247, ejx247, evx247⟩ := lw_ix (k := 2) ex247 hI hL rfl (by decide)
      clear tx247
      refine va_sld hx hb hX hbl (Nat.not_le.mpr hbl) hSH217 (vp_in_iff.mpr evx247) dL_law_251 ?_
      refine W.eq (g2 := F0 m 252 ls [.int (xs (i.toNatClampNeg + 2)), .int (xs (i.toNatClampNeg + 1)), .ref b]) (congrArg (fun z => F0 m 252 ls [.int (xs z), .int (xs (i.toNatClampNeg + 1)), .ref b]) ejx247) ?_
      refine lv_aload_n hx hb dL_law_252 rfl (lv_at hl 3 rfl) ?_
      refine lv_iload_n hx hb dL_law_253 rfl (lv_at hl 0 rfl) ?_
      refine lv_iconst (v := 3) hx hb dL_law_254 (by decide) ?_
      refine lv_iadd hx hb dL_law_255 ?_
      refine lv_topi (fun x248 ex248 => ?_)
      obtain ⟨tx248, ejx248, evx248⟩ := lw_ix (k := 3) ex248 hI hL rfl (by decide)
      clear tx248
      refine va_sld hx hb hX hbl (Nat.not_le.mpr hbl) hSH217 (vp_in_iff.mpr evx248) dL_law_256 ?_
      refine W.eq (g2 := F0 m 257 ls [.int (xs (i.toNatClampNeg + 3)), .int (xs (i.toNatClampNeg + 2)), .int (xs (i.toNatClampNeg + 1)), .ref b]) (congrArg (fun z => F0 m 257 ls [.int (xs z), .int (xs (i.toNatClampNeg + 2)), .int (xs (i.toNatClampNeg + 1)), .ref b]) ejx248) ?_
      refine lv_aload_n hx hb dL_law_257 rfl (lv_at hl 3 rfl) ?_
      refine lv_iload_n hx hb dL_law_258 rfl (lv_at hl 0 rfl) ?_
      refine lv_iconst (v := 4) hx hb dL_law_259 (by decide) ?_
      refine lv_iadd hx hb dL_law_260 ?_
      refine lv_topi (fun x249 ex249 => ?_)
      obtain ⟨tx249, ejx249, evx249⟩ := lw_ix (k := 4) ex249 hI hL rfl (by decide)
      clear tx249
      refine va_sld hx hb hX hbl (Nat.not_le.mpr hbl) hSH217 (vp_in_iff.mpr evx249) dL_law_261 ?_
      refine W.eq (g2 := F0 m 262 ls [.int (xs (i.toNatClampNeg + 4)), .int (xs (i.toNatClampNeg + 3)), .int (xs (i.toNatClampNeg + 2)), .int (xs (i.toNatClampNeg + 1)), .ref b]) (congrArg (fun z => F0 m 262 ls [.int (xs z), .int (xs (i.toNatClampNeg + 3)), .int (xs (i.toNatClampNeg + 2)), .int (xs (i.toNatClampNeg + 1)), .ref b]) ejx249) ?_
      refine lv_aload_n hx hb dL_law_262 rfl (lv_at hl 3 rfl) ?_
      refine lv_iload_n hx hb dL_law_263 rfl (lv_at hl 0 rfl) ?_
      refine lv_iconst (v := 5) hx hb dL_law_264 (by decide) ?_
      refine lv_iadd hx hb dL_law_265 ?_
      refine lv_topi (fun x250 ex250 => ?_)
      obtain ⟨tx250, ejx250, evx250⟩ := lw_ix (k := 5) ex250 hI hL rfl (by decide)
      clear tx250
      refine va_sld hx hb hX hbl (Nat.not_le.mpr hbl) hSH217 (vp_in_iff.mpr evx250) dL_law_266 ?_
      refine W.eq (g2 := F0 m 267 ls [.int (xs (i.toNatClampNeg + 5)), .int (xs (i.toNatClampNeg + 4)), .int (xs (i.toNatClampNeg + 3)), .int (xs (i.toNatClampNeg + 2)), .int (xs (i.toNatClampNeg + 1)), .ref b]) (congrArg (fun z => F0 m 267 ls [.int (xs z), .int (xs (i.toNatClampNeg + 4)), .int (xs (i.toNatClampNeg + 3)), .int (xs (i.toNatClampNeg + 2)), .int (xs (i.toNatClampNeg + 1)), .ref b]) ejx250) ?_
      refine x_V (As := [.int (xs (i.toNatClampNeg + 1)), .int (xs (i.toNatClampNeg + 2)), .int (xs (i.toNatClampNeg + 3)), .int (xs (i.toNatClampNeg + 4)), .int (xs (i.toNatClampNeg + 5))]) (rest := []) C (a_X10_slice_n l K G H217 ((xs (i.toNatClampNeg + 1))) ((xs (i.toNatClampNeg + 2))) ((xs (i.toNatClampNeg + 3))) ((xs (i.toNatClampNeg + 4))) ((xs (i.toNatClampNeg + 5))) (y1) hTH217 gb m229 g219 g220 g221 g222 (by omega)) yo_X10_slice wM_L_22 ⟨⟨by decide, by decide⟩, show _ ≤ 60000 from Nat.le_trans hc (by decide), show _ ≤ 8922250 from Nat.le_trans hs (by decide)⟩ (x_rv C hTH217 (ci := 10) rfl gb rg_112) rfl hl.1 rfl (Nat.le_of_ble_eq_true rfl) dL_law_267 hSH217 (AE_new hN hSH217.1) (fun vH251 H251 locsH251 pH251 zH251 kH251 hSH251 => ?_)
      obtain ⟨x252, hvH251, bx252, m253, g254, g255, g256, g257, mf258, hTH251⟩ := pH251
      subst hvH251
      have f259 : ∀ j : Nat, fI H251 tq j = fI H tq j := fun j => (fI_kept (x_lt hTH217 kH251 gtq (by decide))).trans (f223 j)
      have f260 : ∀ j : Nat, fI H251 uq j = fI H uq j := fun j => (fI_kept (x_lt hTH217 kH251 guq (by decide))).trans (f224 j)
      have m261 := (m225).trans (fR_kept (x_lt hTH217 kH251 ga (by decide))).symm
      have m262 := (m226).trans (fI_kept (x_lt hTH217 kH251 ga (by decide))).symm
      have m263 := (m228).trans (fI_kept (x_lt hTH217 kH251 gw (by decide))).symm
      have m264 := (m230).trans (fI_kept (x_lt hTH217 kH251 gw (by decide))).symm
      have m265 := (m232).trans (fI_kept (x_lt hTH217 kH251 gw (by decide))).symm
      have m266 := (m234).trans (fI_kept (x_lt hTH217 kH251 gw (by decide))).symm
      have m267 := (m236).trans (fI_kept (x_lt hTH217 kH251 gw (by decide))).symm
      have m268 := (m238).trans (fI_kept (x_lt hTH217 kH251 gw (by decide))).symm
      have m269 := (m240).trans (fR_kept (x_lt hTH217 kH251 ga (by decide))).symm
      have m270 := (fV_kept (x_lt hTH217 kH251 ga (by decide))).trans m243
      have m271 := (m227).trans (MF.i mf258 (k := 18) (by decide) (by decide)).symm
      have m272 := (m229).trans (MF.i mf258 (k := 1) (by decide) (by decide)).symm
      have m273 := (m231).trans (MF.i mf258 (k := 2) (by decide) (by decide)).symm
      have m274 := (m233).trans (MF.i mf258 (k := 3) (by decide) (by decide)).symm
      have m275 := (m235).trans (MF.i mf258 (k := 59) (by decide) (by decide)).symm
      have m276 := (m237).trans (MF.i mf258 (k := 62) (by decide) (by decide)).symm
      have m277 := (m239).trans (MF.i mf258 (k := 65) (by decide) (by decide)).symm
      have m278 := (m241).trans (MF.r mf258 (k := 17) (by decide) (by decide)).symm
      have m279 := (m242).trans (MF.i mf258 (k := 70) (by decide) (by decide)).symm
      have m280 := (m244).trans (MF.r mf258 (k := 73) (by decide) (by decide)).symm
      refine W.eq (g2 := F0 m 270 ls [.int x252]) rfl ?_
      have re281 : RE K H251 w b s1.toInt := RE.ref re245 hTH217 gw gb (fun k hk => MF.r mf258 (by omega) (by intro z; simp only [List.mem_cons, List.not_mem_nil, or_false] at z; omega)) (fun q t hq ht => x_lt hTH217 kH251 hq (by first | exact nmr ht (by decide) | exact nmo ht (by decide) | exact nme ht (by decide) | exact nmq ht (by decide) | decide | (intro z; simp only [List.mem_cons, List.not_mem_nil, or_false] at z <;> omega) | omega))
      refine lv_pop hx hb dL_law_270 rfl ?_
      refine lv_goto (tgt := 1509) hx hb dL_law_271 (by decide) ?_
      exact nx G H251 locsH251 _ _ ls ⟨hTH251, hN, ga, gb, g254, g255, g256, g257, ⟨(by rw [← m262, ← m271]; exact rt), (by rw [← m261, ← m263, ← m253]; exact r1), (by rw [← m261, ← m264, ← m273]; exact r4), (by rw [← m261, ← m265, ← m274]; exact r5), (by rw [← m261, ← m266, ← m275]; exact r10), (by rw [← m261, ← m267, ← m276]; exact r13), (by rw [← m261, ← m268, ← m277]; exact r16)⟩, Or.inl ⟨m270, (by rw [← m279]; exact h70)⟩, (by unfold TB; rw [← m269, ← m278, ← m271]; exact TBR.of htr f259 f260 (by omega)), (by unfold RELE; rw [← m261, ← m253, ← m265]; exact ⟨RE.cast re281 (by omega), by omega, by omega⟩), hSH251⟩ hl ⟨hc, hs, fun _ => ⟨hc0, hs0⟩⟩
  · skip
    obtain ⟨hi, ehi⟩ : ∃ z : Int32, z = fI H b (K.1.2 10 70) := ⟨_, rfl⟩
    rw [← ehi] at h70
    obtain ⟨iq, eiq⟩ : ∃ z : Nat, z = fR H b (K.1.2 10 73) := ⟨_, rfl⟩
    have giq := ty_fr (q := iq) (k := 73) (u := 162) eiq hT gb rg_112 rfl
    rw [← eiq] at q1 q4 q5 q10 q13 q16
    obtain ⟨k1, ek1⟩ : ∃ z : Int32, z = fI H kq (K.1.2 8 1) := ⟨_, rfl⟩
    rw [← ek1] at q1
    obtain ⟨i1, ei1⟩ : ∃ z : Int32, z = fI H iq ((0 : Int32).toNatClampNeg) := ⟨_, rfl⟩
    rw [← ei1] at q1
    obtain ⟨k4, ek4⟩ : ∃ z : Int32, z = fI H kq (K.1.2 8 4) := ⟨_, rfl⟩
    rw [← ek4] at q4
    obtain ⟨i4, ei4⟩ : ∃ z : Int32, z = fI H iq ((1 : Int32).toNatClampNeg) := ⟨_, rfl⟩
    rw [← ei4] at q4
    obtain ⟨k5, ek5⟩ : ∃ z : Int32, z = fI H kq (K.1.2 8 5) := ⟨_, rfl⟩
    rw [← ek5] at q5
    obtain ⟨i5, ei5⟩ : ∃ z : Int32, z = fI H iq ((2 : Int32).toNatClampNeg) := ⟨_, rfl⟩
    rw [← ei5] at q5
    obtain ⟨k10, ek10⟩ : ∃ z : Int32, z = fI H kq (K.1.2 8 10) := ⟨_, rfl⟩
    rw [← ek10] at q10
    obtain ⟨i10, ei10⟩ : ∃ z : Int32, z = fI H iq ((3 : Int32).toNatClampNeg) := ⟨_, rfl⟩
    rw [← ei10] at q10
    obtain ⟨k13, ek13⟩ : ∃ z : Int32, z = fI H kq (K.1.2 8 13) := ⟨_, rfl⟩
    rw [← ek13] at q13
    obtain ⟨i13, ei13⟩ : ∃ z : Int32, z = fI H iq ((4 : Int32).toNatClampNeg) := ⟨_, rfl⟩
    rw [← ei13] at q13
    obtain ⟨k16, ek16⟩ : ∃ z : Int32, z = fI H kq (K.1.2 8 16) := ⟨_, rfl⟩
    rw [← ek16] at q16
    obtain ⟨i16, ei16⟩ : ∃ z : Int32, z = fI H iq ((5 : Int32).toNatClampNeg) := ⟨_, rfl⟩
    rw [← ei16] at q16
    rw [← eiq, ← ek1] at rke
    have hsk : 0 ≤ k5.toInt ∧ k5.toInt ≤ 9999 := by rw [ek5]; exact ⟨ks1, ks2⟩
    refine lv_aload_n hx hb dL_law_211 rfl (lv_at hl 2 rfl) ?_
    refine lv_aload_n hx hb dL_law_212 rfl (lv_at hl 3 rfl) ?_
    refine lv_iload_n hx hb dL_law_213 rfl (lv_at hl 0 rfl) ?_
    refine lv_iconst (v := 1) hx hb dL_law_214 (by decide) ?_
    refine lv_iadd hx hb dL_law_215 ?_
    refine lv_topi (fun x282 ex282 => ?_)
    obtain ⟨tx282, ejx282, evx282⟩ := lw_ix (k := 1) ex282 hI hL rfl (by decide)
    clear tx282
    refine va_sld hx hb hX hbl (Nat.not_le.mpr hbl) hS (vp_in_iff.mpr evx282) dL_law_216 ?_
    refine W.eq (g2 := F0 m 217 ls [.int (xs (i.toNatClampNeg + 1)), .ref a]) (congrArg (fun z => F0 m 217 ls [.int (xs z), .ref a]) ejx282) ?_
    refine lv_aload_n hx hb dL_law_217 rfl (lv_at hl 3 rfl) ?_
    refine lv_iload_n hx hb dL_law_218 rfl (lv_at hl 0 rfl) ?_
    refine lv_iconst (v := 2) hx hb dL_law_219 (by decide) ?_
    refine lv_iadd hx hb dL_law_220 ?_
    refine lv_topi (fun x283 ex283 => ?_)
    obtain ⟨tx283, ejx283, evx283⟩ := lw_ix (k := 2) ex283 hI hL rfl (by decide)
    clear tx283
    refine va_sld hx hb hX hbl (Nat.not_le.mpr hbl) hS (vp_in_iff.mpr evx283) dL_law_221 ?_
    refine W.eq (g2 := F0 m 222 ls [.int (xs (i.toNatClampNeg + 2)), .int (xs (i.toNatClampNeg + 1)), .ref a]) (congrArg (fun z => F0 m 222 ls [.int (xs z), .int (xs (i.toNatClampNeg + 1)), .ref a]) ejx283) ?_
    refine lv_aload_n hx hb dL_law_222 rfl (lv_at hl 3 rfl) ?_
    refine lv_iload_n hx hb dL_law_223 rfl (lv_at hl 0 rfl) ?_
    refine lv_iconst (v := 3) hx hb dL_law_224 (by decide) ?_
    refine lv_iadd hx hb dL_law_225 ?_
    refine lv_topi (fun x284 ex284 => ?_)
    obtain ⟨tx284, ejx284, evx284⟩ := lw_ix (k := 3) ex284 hI hL rfl (by decide)
    clear tx284
    refine va_sld hx hb hX hbl (Nat.not_le.mpr hbl) hS (vp_in_iff.mpr evx284) dL_law_226 ?_
    refine W.eq (g2 := F0 m 227 ls [.int (xs (i.toNatClampNeg + 3)), .int (xs (i.toNatClampNeg + 2)), .int (xs (i.toNatClampNeg + 1)), .ref a]) (congrArg (fun z => F0 m 227 ls [.int (xs z), .int (xs (i.toNatClampNeg + 2)), .int (xs (i.toNatClampNeg + 1)), .ref a]) ejx284) ?_
    refine lv_aload_n hx hb dL_law_227 rfl (lv_at hl 3 rfl) ?_
    refine lv_iload_n hx hb dL_law_228 rfl (lv_at hl 0 rfl) ?_
    refine lv_iconst (v := 4) hx hb dL_law_229 (by decide) ?_
    refine lv_iadd hx hb dL_law_230 ?_
    refine lv_topi (fun x285 ex285 => ?_)
    obtain ⟨tx285, ejx285, evx285⟩ := lw_ix (k := 4) ex285 hI hL rfl (by decide)
    clear tx285
    refine va_sld hx hb hX hbl (Nat.not_le.mpr hbl) hS (vp_in_iff.mpr evx285) dL_law_231 ?_
    refine W.eq (g2 := F0 m 232 ls [.int (xs (i.toNatClampNeg + 4)), .int (xs (i.toNatClampNeg + 3)), .int (xs (i.toNatClampNeg + 2)), .int (xs (i.toNatClampNeg + 1)), .ref a]) (congrArg (fun z => F0 m 232 ls [.int (xs z), .int (xs (i.toNatClampNeg + 3)), .int (xs (i.toNatClampNeg + 2)), .int (xs (i.toNatClampNeg + 1)), .ref a]) ejx285) ?_
    refine lv_aload_n hx hb dL_law_232 rfl (lv_at hl 3 rfl) ?_
    refine lv_iload_n hx hb dL_law_233 rfl (lv_at hl 0 rfl) ?_
    refine lv_iconst (v := 5) hx hb dL_law_234 (by decide) ?_
    refine lv_iadd hx hb dL_law_235 ?_
    refine lv_topi (fun x286 ex286 => ?_)
    obtain ⟨tx286, ejx286, evx286⟩ := lw_ix (k := 5) ex286 hI hL rfl (by decide)
    clear tx286
    refine va_sld hx hb hX hbl (Nat.not_le.mpr hbl) hS (vp_in_iff.mpr evx286) dL_law_236 ?_
    refine W.eq (g2 := F0 m 237 ls [.int (xs (i.toNatClampNeg + 5)), .int (xs (i.toNatClampNeg + 4)), .int (xs (i.toNatClampNeg + 3)), .int (xs (i.toNatClampNeg + 2)), .int (xs (i.toNatClampNeg + 1)), .ref a]) (congrArg (fun z => F0 m 237 ls [.int (xs z), .int (xs (i.toNatClampNeg + 4)), .int (xs (i.toNatClampNeg + 3)), .int (xs (i.toNatClampNeg + 2)), .int (xs (i.toNatClampNeg + 1)), .ref a]) ejx286) ?_
    have sp287 : (0 ≤ (xs (i.toNatClampNeg + 1)).toInt ∧ (xs (i.toNatClampNeg + 1)).toInt < s1.toInt) ∨ ((xs (i.toNatClampNeg + 1)).toInt < 0 ∨ s1.toInt ≤ (xs (i.toNatClampNeg + 1)).toInt) := by omega
    rcases sp287 with hsp | hsp
    · skip
      have cxe := i_cl (x := (xs (i.toNatClampNeg + 1))) (by omega)
      obtain ⟨bq, ebq⟩ : ∃ z : Nat, z = fR H w (K.1.2 8 0) := ⟨_, rfl⟩
      have gbq := ty_fr (q := bq) (k := 0) (u := 25) ebq hT gw rg_0 rfl
      obtain ⟨bb, ebb⟩ : ∃ z : Nat, z = fR H bq ((xs (i.toNatClampNeg + 1)) : Int32).toNatClampNeg := ⟨_, rfl⟩
      have ebo : ow K H w ((xs (i.toNatClampNeg + 1)) : Int32).toNatClampNeg = bb := by rw [ow_b (by omega), ← ebq, ← ebb]
      have gbb : G bb = some 1 := by rw [← ebo]; exact ow_g hT gw (by omega)
      obtain ⟨rw1, erw1⟩ : ∃ z : Nat, z = fR H bb (K.1.2 0 1) := ⟨_, rfl⟩
      have grw1 := ty_fr (q := rw1) (k := 1) (u := 2) erw1 hT gbb rg_1 rfl
      obtain ⟨rw2, erw2⟩ : ∃ z : Nat, z = fR H bb (K.1.2 0 2) := ⟨_, rfl⟩
      have grw2 := ty_fr (q := rw2) (k := 2) (u := 3) erw2 hT gbb rg_1 rfl
      obtain ⟨rw3, erw3⟩ : ∃ z : Nat, z = fR H bb (K.1.2 0 3) := ⟨_, rfl⟩
      have grw3 := ty_fr (q := rw3) (k := 3) (u := 4) erw3 hT gbb rg_1 rfl
      obtain ⟨rw4, erw4⟩ : ∃ z : Nat, z = fR H bb (K.1.2 0 4) := ⟨_, rfl⟩
      have grw4 := ty_fr (q := rw4) (k := 4) (u := 5) erw4 hT gbb rg_1 rfl
      obtain ⟨rw5, erw5⟩ : ∃ z : Nat, z = fR H bb (K.1.2 0 5) := ⟨_, rfl⟩
      have grw5 := ty_fr (q := rw5) (k := 5) (u := 6) erw5 hT gbb rg_1 rfl
      obtain ⟨rw6, erw6⟩ : ∃ z : Nat, z = fR H bb (K.1.2 0 6) := ⟨_, rfl⟩
      have grw6 := ty_fr (q := rw6) (k := 6) (u := 7) erw6 hT gbb rg_1 rfl
      obtain ⟨rw7, erw7⟩ : ∃ z : Nat, z = fR H bb (K.1.2 0 7) := ⟨_, rfl⟩
      have grw7 := ty_fr (q := rw7) (k := 7) (u := 8) erw7 hT gbb rg_1 rfl
      obtain ⟨bz, ebz⟩ : ∃ z : Int32, z = fI H bb (K.1.2 0 0) := ⟨_, rfl⟩
      have bt_bz := ty_fi (x := bz) (k := 0) ebz hT gbb rg_1 rfl
      obtain ⟨bp, ebp⟩ : ∃ z : Int32, z = fI H bb (K.1.2 0 8) := ⟨_, rfl⟩
      have bt_bp := ty_fi (x := bp) (k := 8) ebp hT gbb rg_1 rfl
      obtain ⟨bl, ebl⟩ : ∃ z : Int32, z = fI H bb (K.1.2 0 9) := ⟨_, rfl⟩
      have bt_bl := ty_fi (x := bl) (k := 9) ebl hT gbb rg_1 rfl
      obtain ⟨hE_, hO_, hG_⟩ := re.2.1.1 ((xs (i.toNatClampNeg + 1)) : Int32).toNatClampNeg (by omega) (by omega)
      have ez_ : vcN K H w ((xs (i.toNatClampNeg + 1)) : Int32).toNatClampNeg = vwC K H bb := by show vwC K H (ow K H w ((xs (i.toNatClampNeg + 1)) : Int32).toNatClampNeg) = _; rw [ebo]
      rw [ez_] at hE_ hO_ hG_
      replace hE_ : EqW (vwC K H bb) (vwR K H b ((xs (i.toNatClampNeg + 1)) : Int32).toNatClampNeg) := hE_
      have hz3_ : 3 ≤ bz.toInt := by have z := hO_.1; rw [vwC_f (Or.inl rfl), ← ebz] at z; exact z
      refine x_V (As := [.int (xs (i.toNatClampNeg + 1)), .int (xs (i.toNatClampNeg + 2)), .int (xs (i.toNatClampNeg + 3)), .int (xs (i.toNatClampNeg + 4)), .int (xs (i.toNatClampNeg + 5))]) (rest := []) C (a_X9_slice_v l K G H ((xs (i.toNatClampNeg + 1))) ((xs (i.toNatClampNeg + 2))) ((xs (i.toNatClampNeg + 3))) ((xs (i.toNatClampNeg + 4))) ((xs (i.toNatClampNeg + 5))) (s1) (bz) (bp) hT ga (by omega) gw ew gbq ebq gbb ebb grw1 erw1 grw2 erw2 grw3 erw3 es1 ebz ebp (by omega)) yo_X9_slice wM_L_18 ⟨⟨by decide, by decide⟩, show _ ≤ 60000 from Nat.le_trans hc (by decide), show _ ≤ 8922250 from Nat.le_trans hs (by decide)⟩ (x_rv C hT (ci := 9) rfl ga rg_68) rfl hl.1 rfl (Nat.le_of_ble_eq_true rfl) dL_law_237 hS (AE_new hN hS.1) (fun vH288 H288 locsH288 pH288 zH288 kH288 hSH288 => ?_)
      obtain ⟨x289, hvH288, bx289, m290, m291, hTH288⟩ := pH288
      subst hvH288
      have g292 : CG (avw K H288 b) := CG.congr (fun k hk j => av_eff hT kH288 gb (by decide) (CG_eff [2, 3, 4] (by decide) k hk)) cg
      have g293 : TU (avw K H288 b) (svw K H288 b) := TU.congr (fun k hk j => av_eff hT kH288 gb (by decide) (TU_eff [2, 3, 4] (by decide) k hk)) (fun k hk => sv_eff hT kH288 gb (by decide)) tu
      have g294 : WD (avw K H288 b) := WD.congr (fun k hk j => av_eff hT kH288 gb (by decide) (WD_eff [2, 3, 4] (by decide) k hk)) wd
      have g295 : IM (avw K H288 b) := IM.congr (fun k hk j => av_eff hT kH288 gb (by decide) (IM_eff [2, 3, 4] (by decide) k hk)) im
      have f296 : ∀ j : Nat, fI H288 tq j = fI H tq j := fun j => (fI_kept (x_lt hT kH288 gtq (by decide))).trans (ft0 j)
      have f297 : ∀ j : Nat, fI H288 uq j = fI H uq j := fun j => (fI_kept (x_lt hT kH288 guq (by decide))).trans (fu0 j)
      have m298 := (ew).trans (fR_kept (x_lt hT kH288 ga (by decide))).symm
      have m299 := (eta).trans (fI_kept (x_lt hT kH288 ga (by decide))).symm
      have m300 := (etb).trans (fI_kept (x_lt hT kH288 gb (by decide))).symm
      have m301 := (es1).trans (fI_kept (x_lt hT kH288 gw (by decide))).symm
      have m302 := (ey1).trans (fI_kept (x_lt hT kH288 gb (by decide))).symm
      have m303 := (es4).trans (fI_kept (x_lt hT kH288 gw (by decide))).symm
      have m304 := (ey4).trans (fI_kept (x_lt hT kH288 gb (by decide))).symm
      have m305 := (es5).trans (fI_kept (x_lt hT kH288 gw (by decide))).symm
      have m306 := (ey5).trans (fI_kept (x_lt hT kH288 gb (by decide))).symm
      have m307 := (es10).trans (fI_kept (x_lt hT kH288 gw (by decide))).symm
      have m308 := (ey10).trans (fI_kept (x_lt hT kH288 gb (by decide))).symm
      have m309 := (es13).trans (fI_kept (x_lt hT kH288 gw (by decide))).symm
      have m310 := (ey13).trans (fI_kept (x_lt hT kH288 gb (by decide))).symm
      have m311 := (es16).trans (fI_kept (x_lt hT kH288 gw (by decide))).symm
      have m312 := (ey16).trans (fI_kept (x_lt hT kH288 gb (by decide))).symm
      have m313 := (etq).trans (fR_kept (x_lt hT kH288 ga (by decide))).symm
      have m314 := (euq).trans (fR_kept (x_lt hT kH288 gb (by decide))).symm
      have m315 := (ehi).trans (fI_kept (x_lt hT kH288 gb (by decide))).symm
      have m316 := (fV_kept (x_lt hT kH288 ga (by decide))).trans kn
      have m317 := (eiq).trans (fR_kept (x_lt hT kH288 gb (by decide))).symm
      have m318 := (ek1).trans (fI_kept (x_lt hT kH288 gkq (by decide))).symm
      have m319 := (ei1).trans (fI_kept (x_lt hT kH288 giq (by decide))).symm
      have m320 := (ek4).trans (fI_kept (x_lt hT kH288 gkq (by decide))).symm
      have m321 := (ei4).trans (fI_kept (x_lt hT kH288 giq (by decide))).symm
      have m322 := (ek5).trans (fI_kept (x_lt hT kH288 gkq (by decide))).symm
      have m323 := (ei5).trans (fI_kept (x_lt hT kH288 giq (by decide))).symm
      have m324 := (ek10).trans (fI_kept (x_lt hT kH288 gkq (by decide))).symm
      have m325 := (ei10).trans (fI_kept (x_lt hT kH288 giq (by decide))).symm
      have m326 := (ek13).trans (fI_kept (x_lt hT kH288 gkq (by decide))).symm
      have m327 := (ei13).trans (fI_kept (x_lt hT kH288 giq (by decide))).symm
      have m328 := (ek16).trans (fI_kept (x_lt hT kH288 gkq (by decide))).symm
      have m329 := (ei16).trans (fI_kept (x_lt hT kH288 giq (by decide))).symm
      have m330 := (ebq).trans (fR_kept (x_lt hT kH288 gw (by decide))).symm
      have m331 := (ebb).trans (fR_kept (x_lt hT kH288 gbq (by decide))).symm
      have m332 := (erw1).trans (fR_kept (x_lt hT kH288 gbb (by decide))).symm
      have m333 := (erw2).trans (fR_kept (x_lt hT kH288 gbb (by decide))).symm
      have m334 := (erw3).trans (fR_kept (x_lt hT kH288 gbb (by decide))).symm
      have m335 := (erw4).trans (fR_kept (x_lt hT kH288 gbb (by decide))).symm
      have m336 := (erw5).trans (fR_kept (x_lt hT kH288 gbb (by decide))).symm
      have m337 := (erw6).trans (fR_kept (x_lt hT kH288 gbb (by decide))).symm
      have m338 := (erw7).trans (fR_kept (x_lt hT kH288 gbb (by decide))).symm
      have m339 := (ebz).trans (fI_kept (x_lt hT kH288 gbb (by decide))).symm
      have m340 := (ebp).trans (fI_kept (x_lt hT kH288 gbb (by decide))).symm
      have m341 := (ebl).trans (fI_kept (x_lt hT kH288 gbb (by decide))).symm
      refine W.eq (g2 := F0 m 240 ls [.int x289]) rfl ?_
      have rk342 : RKI K H288 kq iq k1.toInt := RKI.kept rke hT gkq (x_lt hT kH288 giq (by first | exact nmr ht (by decide) | exact nmo ht (by decide) | exact nme ht (by decide) | exact nmq ht (by decide) | decide | (intro z; simp only [List.mem_cons, List.not_mem_nil, or_false] at z <;> omega) | omega)) (fun q t hq ht => x_lt hT kH288 hq (by first | exact nmr ht (by decide) | exact nmo ht (by decide) | exact nme ht (by decide) | exact nmq ht (by decide) | decide | (intro z; simp only [List.mem_cons, List.not_mem_nil, or_false] at z <;> omega) | omega))
      have nw_ : NWF K H288 H w := fun k _ => fR_kept (m291 w 0 gw (G_ne gw grw1 (by decide)) (G_ne gw grw2 (by decide)) (G_ne gw grw3 (by decide)))
      have rb_ : RFB K H288 H bb := RFB.cell (m291 bb 1 gbb (G_ne gbb grw1 (by decide)) (G_ne gbb grw2 (by decide)) (G_ne gbb grw3 (by decide)))
      obtain ⟨brf, bot, bat, btx⟩ := bar_one (H1 := H288) re.1 hT gw (j := ((xs (i.toNatClampNeg + 1)) : Int32).toNatClampNeg) (by omega) ebo nw_ rb_ (fun q t hq ht n1 n2 => m291 q t hq (by rw [erw1]; exact n2 1 (by decide)) (by rw [erw2]; exact n2 2 (by decide)) (by rw [erw3]; exact n2 3 (by decide)))
      have er1 : ∀ bar, vrN K H288 b bar = vrN K H b bar := vrN.reg hT gb (fun k _ => fR_kept (x_lt hT kH288 gb (by first | exact nmr ht (by decide) | exact nmo ht (by decide) | exact nme ht (by decide) | exact nmq ht (by decide) | decide | (intro z; simp only [List.mem_cons, List.not_mem_nil, or_false] at z <;> omega) | omega))) (fun q t hq ht => x_lt hT kH288 hq (by first | exact nmr ht (by decide) | exact nmo ht (by decide) | exact nme ht (by decide) | exact nmq ht (by decide) | decide | (intro z; simp only [List.mem_cons, List.not_mem_nil, or_false] at z <;> omega) | omega))
      have tr1 : TPK (TRP K H288 b) (TRP K H b) := TRP.reg hT gb (fun k _ _ => fR_kept (x_lt hT kH288 gb (by first | exact nmr ht (by decide) | exact nmo ht (by decide) | exact nme ht (by decide) | exact nmq ht (by decide) | decide | (intro z; simp only [List.mem_cons, List.not_mem_nil, or_false] at z <;> omega) | omega))) (fun q t hq ht => x_lt hT kH288 hq (by first | exact nmr ht (by decide) | exact nmo ht (by decide) | exact nme ht (by decide) | exact nmq ht (by decide) | decide | (intro z; simp only [List.mem_cons, List.not_mem_nil, or_false] at z <;> omega) | omega))
      refine lv_pop hx hb dL_law_240 rfl ?_
      refine lv_aload_n hx hb dL_law_241 rfl (lv_at hl 1 rfl) ?_
      refine lv_aload_n hx hb dL_law_242 rfl (lv_at hl 3 rfl) ?_
      refine lv_iload_n hx hb dL_law_243 rfl (lv_at hl 0 rfl) ?_
      refine lv_iconst (v := 1) hx hb dL_law_244 (by decide) ?_
      refine lv_iadd hx hb dL_law_245 ?_
      refine lv_topi (fun x343 ex343 => ?_)
      obtain ⟨tx343, ejx343, evx343⟩ := lw_ix (k := 1) ex343 hI hL rfl (by decide)
      clear tx343
      refine va_sld hx hb hX hbl (Nat.not_le.mpr hbl) hSH288 (vp_in_iff.mpr evx343) dL_law_246 ?_
      refine W.eq (g2 := F0 m 247 ls [.int (xs (i.toNatClampNeg + 1)), .ref b]) (congrArg (fun z => F0 m 247 ls [.int (xs z), .ref b]) ejx343) ?_
      refine lv_aload_n hx hb dL_law_247 rfl (lv_at hl 3 rfl) ?_
      refine lv_iload_n hx hb dL_law_248 rfl (lv_at hl 0 rfl) ?_
      refine lv_iconst (v := 2) hx hb dL_law_249 (by decide) ?_
      refine lv_iadd hx hb dL_law_250 ?_
      refine lv_topi (fun x344 ex344 => ?_)
      obtain ⟨tx344, ejx344, evx344⟩ := lw_ix (k := 2) ex344 hI hL rfl (by decide)
      clear tx344
      refine va_sld hx hb hX hbl (Nat.not_le.mpr hbl) hSH288 (vp_in_iff.mpr evx344) dL_law_251 ?_
      refine W.eq (g2 := F0 m 252 ls [.int (xs (i.toNatClampNeg + 2)), .int (xs (i.toNatClampNeg + 1)), .ref b]) (congrArg (fun z => F0 m 252 ls [.int (xs z), .int (xs (i.toNatClampNeg + 1)), .ref b]) ejx344) ?_
      refine lv_aload_n hx hb dL_law_252 rfl (lv_at hl 3 rfl) ?_
      refine lv_iload_n hx hb dL_law_253 rfl (lv_at hl 0 rfl) ?_
      refine lv_iconst (v := 3) hx hb dL_law_254 (by decide) ?_
      refine lv_iadd hx hb dL_law_255 ?_
      refine lv_topi (fun x345 ex345 => ?_)
      obtain ⟨tx345, ejx345, evx345⟩ := lw_ix (k := 3) ex345 hI hL rfl (by decide)
      clear tx345
      refine va_sld hx hb hX hbl (Nat.not_le.mpr hbl) hSH288 (vp_in_iff.mpr evx345) dL_law_256 ?_
      refine W.eq (g2 := F0 m 257 ls [.int (xs (i.toNatClampNeg + 3)), .int (xs (i.toNatClampNeg + 2)), .int (xs (i.toNatClampNeg + 1)), .ref b]) (congrArg (fun z => F0 m 257 ls [.int (xs z), .int (xs (i.toNatClampNeg + 2)), .int (xs (i.toNatClampNeg + 1)), .ref b]) ejx345) ?_
      refine lv_aload_n hx hb dL_law_257 rfl (lv_at hl 3 rfl) ?_
      refine lv_iload_n hx hb dL_law_258 rfl (lv_at hl 0 rfl) ?_
      refine lv_iconst (v := 4) hx hb dL_law_259 (by decide) ?_
      refine lv_iadd hx hb dL_law_260 ?_
      refine lv_topi (fun x346 ex346 => ?_)
      obtain ⟨tx346, ejx346, evx346⟩ := lw_ix (k := 4) ex346 hI hL rfl (by decide)
      clear tx346
      refine va_sld hx hb hX hbl (Nat.not_le.mpr hbl) hSH288 (vp_in_iff.mpr evx346) dL_law_261 ?_
      refine W.eq (g2 := F0 m 262 ls [.int (xs (i.toNatClampNeg + 4)), .int (xs (i.toNatClampNeg + 3)), .int (xs (i.toNatClampNeg + 2)), .int (xs (i.toNatClampNeg + 1)), .ref b]) (congrArg (fun z => F0 m 262 ls [.int (xs z), .int (xs (i.toNatClampNeg + 3)), .int (xs (i.toNatClampNeg + 2)), .int (xs (i.toNatClampNeg + 1)), .ref b]) ejx346) ?_
      refine lv_aload_n hx hb dL_law_262 rfl (lv_at hl 3 rfl) ?_
      refine lv_iload_n hx hb dL_law_263 rfl (lv_at hl 0 rfl) ?_
      refine lv_iconst (v := 5) hx hb dL_law_264 (by decide) ?_
      refine lv_iadd hx hb dL_law_265 ?_
      refine lv_topi (fun x347 ex347 => ?_)
      obtain ⟨tx347, ejx347, evx347⟩ := lw_ix (k := 5) ex347 hI hL rfl (by decide)
      clear tx347
      refine va_sld hx hb hX hbl (Nat.not_le.mpr hbl) hSH288 (vp_in_iff.mpr evx347) dL_law_266 ?_
      refine W.eq (g2 := F0 m 267 ls [.int (xs (i.toNatClampNeg + 5)), .int (xs (i.toNatClampNeg + 4)), .int (xs (i.toNatClampNeg + 3)), .int (xs (i.toNatClampNeg + 2)), .int (xs (i.toNatClampNeg + 1)), .ref b]) (congrArg (fun z => F0 m 267 ls [.int (xs z), .int (xs (i.toNatClampNeg + 4)), .int (xs (i.toNatClampNeg + 3)), .int (xs (i.toNatClampNeg + 2)), .int (xs (i.toNatClampNeg + 1)), .ref b]) ejx347) ?_
      have ev_ : vwR K H288 b ((xs (i.toNatClampNeg + 1)) : Int32).toNatClampNeg = vwR K H b ((xs (i.toNatClampNeg + 1)) : Int32).toNatClampNeg := er1 _
      obtain ⟨q348, eq348⟩ : ∃ z : Nat, @Eq Ad z (fR H288 b (K.1.2 10 4)) := ⟨_, rfl⟩
      have gq348 := ty_fr (q := q348) (k := 4) (u := 113) eq348 hTH288 gb rg_112 rfl
      obtain ⟨q349, eq349⟩ : ∃ z : Nat, @Eq Ad z (fR H288 b (K.1.2 10 10)) := ⟨_, rfl⟩
      have gq349 := ty_fr (q := q349) (k := 10) (u := 119) eq349 hTH288 gb rg_112 rfl
      obtain ⟨q350, eq350⟩ : ∃ z : Nat, @Eq Ad z (fR H288 b (K.1.2 10 5)) := ⟨_, rfl⟩
      have gq350 := ty_fr (q := q350) (k := 5) (u := 114) eq350 hTH288 gb rg_112 rfl
      obtain ⟨q351, eq351⟩ : ∃ z : Nat, @Eq Ad z (fR H288 b (K.1.2 10 6)) := ⟨_, rfl⟩
      have gq351 := ty_fr (q := q351) (k := 6) (u := 115) eq351 hTH288 gb rg_112 rfl
      obtain ⟨q352, eq352⟩ : ∃ z : Nat, @Eq Ad z (fR H288 b (K.1.2 10 7)) := ⟨_, rfl⟩
      have gq352 := ty_fr (q := q352) (k := 7) (u := 116) eq352 hTH288 gb rg_112 rfl
      obtain ⟨x353, ex353⟩ : ∃ z : Int32, z = fI H288 q348 ((xs (i.toNatClampNeg + 1)) : Int32).toNatClampNeg := ⟨_, rfl⟩
      have bx353 := ty_ai (x := x353) ex353 hTH288 gq348 rg_113 (by omega)
      obtain ⟨x354, ex354⟩ : ∃ z : Int32, z = fI H288 q349 ((xs (i.toNatClampNeg + 1)) : Int32).toNatClampNeg := ⟨_, rfl⟩
      have bx354 := ty_ai (x := x354) ex354 hTH288 gq349 rg_119 (by omega)
      refine x_V (As := [.int (xs (i.toNatClampNeg + 1)), .int (xs (i.toNatClampNeg + 2)), .int (xs (i.toNatClampNeg + 3)), .int (xs (i.toNatClampNeg + 4)), .int (xs (i.toNatClampNeg + 5))]) (rest := []) C (a_X10_slice_v l K G H288 ((xs (i.toNatClampNeg + 1))) ((xs (i.toNatClampNeg + 2))) ((xs (i.toNatClampNeg + 3))) ((xs (i.toNatClampNeg + 4))) ((xs (i.toNatClampNeg + 5))) (y1) (x353) (x354) hTH288 gb (by omega) gq348 eq348 gq349 eq349 gq350 eq350 gq351 eq351 gq352 eq352 m302 ex353 ex354 g292 g293 g294 g295 (by omega)) yo_X10_slice wM_L_22 ⟨⟨by decide, by decide⟩, show _ ≤ 60000 from Nat.le_trans hc (by decide), show _ ≤ 8922250 from Nat.le_trans hs (by decide)⟩ (x_rv C hTH288 (ci := 10) rfl gb rg_112) rfl hl.1 rfl (Nat.le_of_ble_eq_true rfl) dL_law_267 hSH288 (AE_new hN hSH288.1) (fun vH355 H355 locsH355 pH355 zH355 kH355 hSH355 => ?_)
      obtain ⟨x356, hvH355, bx356, m357, m358, m359, m360, m361, g362, g363, g364, g365, mf366, m367, m368, hTH355⟩ := pH355
      subst hvH355
      have f369 : ∀ j : Nat, fI H355 tq j = fI H tq j := fun j => (fI_kept (x_lt hTH288 kH355 gtq (by decide))).trans (f296 j)
      have f370 : ∀ j : Nat, fI H355 uq j = fI H uq j := fun j => (fI_kept (x_lt hTH288 kH355 guq (by decide))).trans (f297 j)
      have m371 := (m298).trans (fR_kept (x_lt hTH288 kH355 ga (by decide))).symm
      have m372 := (m299).trans (fI_kept (x_lt hTH288 kH355 ga (by decide))).symm
      have m373 := (m301).trans (fI_kept (x_lt hTH288 kH355 gw (by decide))).symm
      have m374 := (m303).trans (fI_kept (x_lt hTH288 kH355 gw (by decide))).symm
      have m375 := (m305).trans (fI_kept (x_lt hTH288 kH355 gw (by decide))).symm
      have m376 := (m307).trans (fI_kept (x_lt hTH288 kH355 gw (by decide))).symm
      have m377 := (m309).trans (fI_kept (x_lt hTH288 kH355 gw (by decide))).symm
      have m378 := (m311).trans (fI_kept (x_lt hTH288 kH355 gw (by decide))).symm
      have m379 := (m313).trans (fR_kept (x_lt hTH288 kH355 ga (by decide))).symm
      have m380 := (fV_kept (x_lt hTH288 kH355 ga (by decide))).trans m316
      have m381 := (m318).trans (fI_kept (x_lt hTH288 kH355 gkq (by decide))).symm
      have m382 := (m319).trans (fI_kept (x_lt hTH288 kH355 giq (by decide))).symm
      have m383 := (m320).trans (fI_kept (x_lt hTH288 kH355 gkq (by decide))).symm
      have m384 := (m321).trans (fI_kept (x_lt hTH288 kH355 giq (by decide))).symm
      have m385 := (m322).trans (fI_kept (x_lt hTH288 kH355 gkq (by decide))).symm
      have m386 := (m323).trans (fI_kept (x_lt hTH288 kH355 giq (by decide))).symm
      have m387 := (m324).trans (fI_kept (x_lt hTH288 kH355 gkq (by decide))).symm
      have m388 := (m325).trans (fI_kept (x_lt hTH288 kH355 giq (by decide))).symm
      have m389 := (m326).trans (fI_kept (x_lt hTH288 kH355 gkq (by decide))).symm
      have m390 := (m327).trans (fI_kept (x_lt hTH288 kH355 giq (by decide))).symm
      have m391 := (m328).trans (fI_kept (x_lt hTH288 kH355 gkq (by decide))).symm
      have m392 := (m329).trans (fI_kept (x_lt hTH288 kH355 giq (by decide))).symm
      have m393 := (m330).trans (fR_kept (x_lt hTH288 kH355 gw (by decide))).symm
      have m394 := (m331).trans (fR_kept (x_lt hTH288 kH355 gbq (by decide))).symm
      have m395 := (m332).trans (fR_kept (x_lt hTH288 kH355 gbb (by decide))).symm
      have m396 := (m333).trans (fR_kept (x_lt hTH288 kH355 gbb (by decide))).symm
      have m397 := (m334).trans (fR_kept (x_lt hTH288 kH355 gbb (by decide))).symm
      have m398 := (m335).trans (fR_kept (x_lt hTH288 kH355 gbb (by decide))).symm
      have m399 := (m336).trans (fR_kept (x_lt hTH288 kH355 gbb (by decide))).symm
      have m400 := (m337).trans (fR_kept (x_lt hTH288 kH355 gbb (by decide))).symm
      have m401 := (m338).trans (fR_kept (x_lt hTH288 kH355 gbb (by decide))).symm
      have m402 := (m339).trans (fI_kept (x_lt hTH288 kH355 gbb (by decide))).symm
      have m403 := (m340).trans (fI_kept (x_lt hTH288 kH355 gbb (by decide))).symm
      have m404 := (m341).trans (fI_kept (x_lt hTH288 kH355 gbb (by decide))).symm
      have m405 := (ex353).trans (fI_kept (x_lt hTH288 kH355 gq348 (by decide))).symm
      have m406 := (ex354).trans (fI_kept (x_lt hTH288 kH355 gq349 (by decide))).symm
      have m407 := (m300).trans (MF.i mf366 (k := 18) (by decide) (by decide)).symm
      have m408 := (m302).trans (MF.i mf366 (k := 1) (by decide) (by decide)).symm
      have m409 := (m304).trans (MF.i mf366 (k := 2) (by decide) (by decide)).symm
      have m410 := (m306).trans (MF.i mf366 (k := 3) (by decide) (by decide)).symm
      have m411 := (m308).trans (MF.i mf366 (k := 59) (by decide) (by decide)).symm
      have m412 := (m310).trans (MF.i mf366 (k := 62) (by decide) (by decide)).symm
      have m413 := (m312).trans (MF.i mf366 (k := 65) (by decide) (by decide)).symm
      have m414 := (m314).trans (MF.r mf366 (k := 17) (by decide) (by decide)).symm
      have m415 := (m315).trans (MF.i mf366 (k := 70) (by decide) (by decide)).symm
      have m416 := (m317).trans (MF.r mf366 (k := 73) (by decide) (by decide)).symm
      have m417 := (eq348).trans (MF.r mf366 (k := 4) (by decide) (by decide)).symm
      have m418 := (eq349).trans (MF.r mf366 (k := 10) (by decide) (by decide)).symm
      have m419 := (eq350).trans (MF.r mf366 (k := 5) (by decide) (by decide)).symm
      have m420 := (eq351).trans (MF.r mf366 (k := 6) (by decide) (by decide)).symm
      have m421 := (eq352).trans (MF.r mf366 (k := 7) (by decide) (by decide)).symm
      refine W.eq (g2 := F0 m 270 ls [.int x356]) rfl ?_
      have rk422 : RKI K H355 kq iq k1.toInt := RKI.kept rk342 hTH288 gkq (x_lt hTH288 kH355 giq (by first | exact nmr ht (by decide) | exact nmo ht (by decide) | exact nme ht (by decide) | exact nmq ht (by decide) | decide | (intro z; simp only [List.mem_cons, List.not_mem_nil, or_false] at z <;> omega) | omega)) (fun q t hq ht => x_lt hTH288 kH355 hq (by first | exact nmr ht (by decide) | exact nmo ht (by decide) | exact nme ht (by decide) | exact nmq ht (by decide) | decide | (intro z; simp only [List.mem_cons, List.not_mem_nil, or_false] at z <;> omega) | omega))
      have r12 : RFW K H355 H288 w := RFW.cell hTH288 gw (fun q t hq ht => x_lt hTH288 kH355 hq (by first | exact nmr ht (by decide) | exact nmo ht (by decide) | exact nme ht (by decide) | exact nmq ht (by decide) | decide | (intro z; simp only [List.mem_cons, List.not_mem_nil, or_false] at z <;> omega) | omega))
      have cU := vcN.kept hTH288 gw r12 (fun q t hq ht => x_lt hTH288 kH355 hq (by first | exact nmr ht (by decide) | exact nmo ht (by decide) | exact nme ht (by decide) | exact nmq ht (by decide) | decide | (intro z; simp only [List.mem_cons, List.not_mem_nil, or_false] at z <;> omega) | omega))
      have own2 : OWN K H355 w := (re.1.st brf).st r12
      have tU : TPK (TXP K H355 w) (TXP K H288 w) := TXP.kept hTH288 gw r12 (fun q t hq ht => x_lt hTH288 kH355 hq (by first | exact nmr ht (by decide) | exact nmo ht (by decide) | exact nme ht (by decide) | exact nmq ht (by decide) | decide | (intro z; simp only [List.mem_cons, List.not_mem_nil, or_false] at z <;> omega) | omega))
      have tR : TPK (TRP K H355 b) (TRP K H288 b) := TRP.reg hTH288 gb (fun k h1 h2 => MF.r mf366 (by omega) (by intro z; simp only [List.mem_cons, List.not_mem_nil, or_false] at z; omega)) (fun q t hq ht => x_lt hTH288 kH355 hq (by first | exact nmr ht (by decide) | exact nmo ht (by decide) | exact nme ht (by decide) | exact nmq ht (by decide) | decide | (intro z; simp only [List.mem_cons, List.not_mem_nil, or_false] at z <;> omega) | omega))
      have oq_ := m367
      rw [ev_] at oq_
      obtain ⟨hrq_, hC1, hC2, hC3⟩ := slice_both hE_ hO_ hG_ m290 oq_
      have re423 : RE K H355 w b s1.toInt := RE.set (i := ((xs (i.toNatClampNeg + 1)) : Int32).toNatClampNeg) re own2 (by omega) (by rw [cU ((xs (i.toNatClampNeg + 1)) : Int32).toNatClampNeg (by omega), bat]; exact hC1) (by rw [cU ((xs (i.toNatClampNeg + 1)) : Int32).toNatClampNeg (by omega), bat]; exact hC2) (by rw [cU ((xs (i.toNatClampNeg + 1)) : Int32).toNatClampNeg (by omega), bat]; exact hC3) (fun j hj hn => (cU j hj).trans (bot j hj hn)) (fun j hj hn => EqV.tr (m368 j hn) (by rw [show vwR K H288 b j = vwR K H b j from er1 j]; exact EqV.rf)) (fun r kk vv lw n h1 h2 z => tU r kk vv lw n h1 h2 (btx r kk vv lw n h1 h2 z)) (fun r kk vv lw n h1 h2 z => tR r kk vv lw n h1 h2 (tr1 r kk vv lw n h1 h2 z))
      refine lv_pop hx hb dL_law_270 rfl ?_
      refine lv_goto (tgt := 1509) hx hb dL_law_271 (by decide) ?_
      exact nx G H355 locsH355 _ _ ls ⟨hTH355, hN, ga, gb, g362, g363, g364, g365, ⟨(by rw [← m372, ← m407]; exact rt), (by rw [← m371, ← m373, ← m408]; exact r1), (by rw [← m371, ← m374, ← m409]; exact r4), (by rw [← m371, ← m375, ← m410]; exact r5), (by rw [← m371, ← m376, ← m411]; exact r10), (by rw [← m371, ← m377, ← m412]; exact r13), (by rw [← m371, ← m378, ← m413]; exact r16)⟩, Or.inr ⟨kq, m380, gkq, (by rw [← m415]; exact h70), (by rw [← m381, ← m416, ← m382]; exact q1), (by rw [← m383, ← m416, ← m384]; exact q4), (by rw [← m385, ← m416, ← m386]; exact q5), (by rw [← m387, ← m416, ← m388]; exact q10), (by rw [← m389, ← m416, ← m390]; exact q13), (by rw [← m391, ← m416, ← m392]; exact q16), (by rw [← m416, ← m381]; exact RKI.cast rk422 (by omega)), (by rw [← m385]; omega), (by rw [← m385]; omega)⟩, (by unfold TB; rw [← m379, ← m414, ← m407]; exact TBR.of htr f369 f370 (by omega)), (by unfold RELE; rw [← m371, ← m408, ← m375]; exact ⟨RE.cast re423 (by omega), by omega, by omega⟩), hSH355⟩ hl ⟨hc, hs, fun h => by have h1 := h.symm.trans m380; cases h1⟩
    · skip
      refine x_V (As := [.int (xs (i.toNatClampNeg + 1)), .int (xs (i.toNatClampNeg + 2)), .int (xs (i.toNatClampNeg + 3)), .int (xs (i.toNatClampNeg + 4)), .int (xs (i.toNatClampNeg + 5))]) (rest := []) C (a_X9_slice_n l K G H ((xs (i.toNatClampNeg + 1))) ((xs (i.toNatClampNeg + 2))) ((xs (i.toNatClampNeg + 3))) ((xs (i.toNatClampNeg + 4))) ((xs (i.toNatClampNeg + 5))) (s1) hT ga gw ew es1 (by omega)) yo_X9_slice wM_L_18 ⟨⟨by decide, by decide⟩, show _ ≤ 60000 from Nat.le_trans hc (by decide), show _ ≤ 8922250 from Nat.le_trans hs (by decide)⟩ (x_rv C hT (ci := 9) rfl ga rg_68) rfl hl.1 rfl (Nat.le_of_ble_eq_true rfl) dL_law_237 hS (AE_new hN hS.1) (fun vH424 H424 locsH424 pH424 zH424 kH424 hSH424 => ?_)
      obtain ⟨x425, hvH424, bx425, hTH424⟩ := pH424
      subst hvH424
      have g426 : CG (avw K H424 b) := CG.congr (fun k hk j => av_eff hT kH424 gb (by decide) (CG_eff [] (by decide) k hk)) cg
      have g427 : TU (avw K H424 b) (svw K H424 b) := TU.congr (fun k hk j => av_eff hT kH424 gb (by decide) (TU_eff [] (by decide) k hk)) (fun k hk => sv_eff hT kH424 gb (by decide)) tu
      have g428 : WD (avw K H424 b) := WD.congr (fun k hk j => av_eff hT kH424 gb (by decide) (WD_eff [] (by decide) k hk)) wd
      have g429 : IM (avw K H424 b) := IM.congr (fun k hk j => av_eff hT kH424 gb (by decide) (IM_eff [] (by decide) k hk)) im
      have f430 : ∀ j : Nat, fI H424 tq j = fI H tq j := fun j => (fI_kept (x_lt hT kH424 gtq (by decide))).trans (ft0 j)
      have f431 : ∀ j : Nat, fI H424 uq j = fI H uq j := fun j => (fI_kept (x_lt hT kH424 guq (by decide))).trans (fu0 j)
      have m432 := (ew).trans (fR_kept (x_lt hT kH424 ga (by decide))).symm
      have m433 := (eta).trans (fI_kept (x_lt hT kH424 ga (by decide))).symm
      have m434 := (etb).trans (fI_kept (x_lt hT kH424 gb (by decide))).symm
      have m435 := (es1).trans (fI_kept (x_lt hT kH424 gw (by decide))).symm
      have m436 := (ey1).trans (fI_kept (x_lt hT kH424 gb (by decide))).symm
      have m437 := (es4).trans (fI_kept (x_lt hT kH424 gw (by decide))).symm
      have m438 := (ey4).trans (fI_kept (x_lt hT kH424 gb (by decide))).symm
      have m439 := (es5).trans (fI_kept (x_lt hT kH424 gw (by decide))).symm
      have m440 := (ey5).trans (fI_kept (x_lt hT kH424 gb (by decide))).symm
      have m441 := (es10).trans (fI_kept (x_lt hT kH424 gw (by decide))).symm
      have m442 := (ey10).trans (fI_kept (x_lt hT kH424 gb (by decide))).symm
      have m443 := (es13).trans (fI_kept (x_lt hT kH424 gw (by decide))).symm
      have m444 := (ey13).trans (fI_kept (x_lt hT kH424 gb (by decide))).symm
      have m445 := (es16).trans (fI_kept (x_lt hT kH424 gw (by decide))).symm
      have m446 := (ey16).trans (fI_kept (x_lt hT kH424 gb (by decide))).symm
      have m447 := (etq).trans (fR_kept (x_lt hT kH424 ga (by decide))).symm
      have m448 := (euq).trans (fR_kept (x_lt hT kH424 gb (by decide))).symm
      have m449 := (ehi).trans (fI_kept (x_lt hT kH424 gb (by decide))).symm
      have m450 := (fV_kept (x_lt hT kH424 ga (by decide))).trans kn
      have m451 := (eiq).trans (fR_kept (x_lt hT kH424 gb (by decide))).symm
      have m452 := (ek1).trans (fI_kept (x_lt hT kH424 gkq (by decide))).symm
      have m453 := (ei1).trans (fI_kept (x_lt hT kH424 giq (by decide))).symm
      have m454 := (ek4).trans (fI_kept (x_lt hT kH424 gkq (by decide))).symm
      have m455 := (ei4).trans (fI_kept (x_lt hT kH424 giq (by decide))).symm
      have m456 := (ek5).trans (fI_kept (x_lt hT kH424 gkq (by decide))).symm
      have m457 := (ei5).trans (fI_kept (x_lt hT kH424 giq (by decide))).symm
      have m458 := (ek10).trans (fI_kept (x_lt hT kH424 gkq (by decide))).symm
      have m459 := (ei10).trans (fI_kept (x_lt hT kH424 giq (by decide))).symm
      have m460 := (ek13).trans (fI_kept (x_lt hT kH424 gkq (by decide))).symm
      have m461 := (ei13).trans (fI_kept (x_lt hT kH424 giq (by decide))).symm
      have m462 := (ek16).trans (fI_kept (x_lt hT kH424 gkq (by decide))).symm
      have m463 := (ei16).trans (fI_kept (x_lt hT kH424 giq (by decide))).symm
      refine W.eq (g2 := F0 m 240 ls [.int x425]) rfl ?_
      have rk464 : RKI K H424 kq iq k1.toInt := RKI.kept rke hT gkq (x_lt hT kH424 giq (by first | exact nmr ht (by decide) | exact nmo ht (by decide) | exact nme ht (by decide) | exact nmq ht (by decide) | decide | (intro z; simp only [List.mem_cons, List.not_mem_nil, or_false] at z <;> omega) | omega)) (fun q t hq ht => x_lt hT kH424 hq (by first | exact nmr ht (by decide) | exact nmo ht (by decide) | exact nme ht (by decide) | exact nmq ht (by decide) | decide | (intro z; simp only [List.mem_cons, List.not_mem_nil, or_false] at z <;> omega) | omega))
      have re465 : RE K H424 w b s1.toInt := RE.cls re hT gw gb (fun q t hq ht => x_lt hT kH424 hq (by first | exact nmr ht (by decide) | exact nmo ht (by decide) | exact nme ht (by decide) | exact nmq ht (by decide) | decide | (intro z; simp only [List.mem_cons, List.not_mem_nil, or_false] at z <;> omega) | omega))
      refine lv_pop hx hb dL_law_240 rfl ?_
      refine lv_aload_n hx hb dL_law_241 rfl (lv_at hl 1 rfl) ?_
      refine lv_aload_n hx hb dL_law_242 rfl (lv_at hl 3 rfl) ?_
      refine lv_iload_n hx hb dL_law_243 rfl (lv_at hl 0 rfl) ?_
      refine lv_iconst (v := 1) hx hb dL_law_244 (by decide) ?_
      refine lv_iadd hx hb dL_law_245 ?_
      refine lv_topi (fun x466 ex466 => ?_)
      obtain ⟨tx466, ejx466, evx466⟩ := lw_ix (k := 1) ex466 hI hL rfl (by decide)
      clear tx466
      refine va_sld hx hb hX hbl (Nat.not_le.mpr hbl) hSH424 (vp_in_iff.mpr evx466) dL_law_246 ?_
      refine W.eq (g2 := F0 m 247 ls [.int (xs (i.toNatClampNeg + 1)), .ref b]) (congrArg (fun z => F0 m 247 ls [.int (xs z), .ref b]) ejx466) ?_
      refine lv_aload_n hx hb dL_law_247 rfl (lv_at hl 3 rfl) ?_
      refine lv_iload_n hx hb dL_law_248 rfl (lv_at hl 0 rfl) ?_
      refine lv_iconst (v := 2) hx hb dL_law_249 (by decide) ?_
      refine lv_iadd hx hb dL_law_250 ?_
      refine lv_topi (fun x467 ex467 => ?_)
      obtain ⟨tx467, ejx467, evx467⟩ := lw_ix (k := 2) ex467 hI hL rfl (by decide)
      clear tx467
      refine va_sld hx hb hX hbl (Nat.not_le.mpr hbl) hSH424 (vp_in_iff.mpr evx467) dL_law_251 ?_
      refine W.eq (g2 := F0 m 252 ls [.int (xs (i.toNatClampNeg + 2)), .int (xs (i.toNatClampNeg + 1)), .ref b]) (congrArg (fun z => F0 m 252 ls [.int (xs z), .int (xs (i.toNatClampNeg + 1)), .ref b]) ejx467) ?_
      refine lv_aload_n hx hb dL_law_252 rfl (lv_at hl 3 rfl) ?_
      refine lv_iload_n hx hb dL_law_253 rfl (lv_at hl 0 rfl) ?_
      refine lv_iconst (v := 3) hx hb dL_law_254 (by decide) ?_
      refine lv_iadd hx hb dL_law_255 ?_
      refine lv_topi (fun x468 ex468 => ?_)
      obtain ⟨tx468, ejx468, evx468⟩ := lw_ix (k := 3) ex468 hI hL rfl (by decide)
      clear tx468
      refine va_sld hx hb hX hbl (Nat.not_le.mpr hbl) hSH424 (vp_in_iff.mpr evx468) dL_law_256 ?_
      refine W.eq (g2 := F0 m 257 ls [.int (xs (i.toNatClampNeg + 3)), .int (xs (i.toNatClampNeg + 2)), .int (xs (i.toNatClampNeg + 1)), .ref b]) (congrArg (fun z => F0 m 257 ls [.int (xs z), .int (xs (i.toNatClampNeg + 2)), .int (xs (i.toNatClampNeg + 1)), .ref b]) ejx468) ?_
      refine lv_aload_n hx hb dL_law_257 rfl (lv_at hl 3 rfl) ?_
      refine lv_iload_n hx hb dL_law_258 rfl (lv_at hl 0 rfl) ?_
      refine lv_iconst (v := 4) hx hb dL_law_259 (by decide) ?_
      refine lv_iadd hx hb dL_law_260 ?_
      refine lv_topi (fun x469 ex469 => ?_)
      obtain ⟨tx469, ejx469, evx469⟩ := lw_ix (k := 4) ex469 hI hL rfl (by decide)
      clear tx469
      refine va_sld hx hb hX hbl (Nat.not_le.mpr hbl) hSH424 (vp_in_iff.mpr evx469) dL_law_261 ?_
      refine W.eq (g2 := F0 m 262 ls [.int (xs (i.toNatClampNeg + 4)), .int (xs (i.toNatClampNeg + 3)), .int (xs (i.toNatClampNeg + 2)), .int (xs (i.toNatClampNeg + 1)), .ref b]) (congrArg (fun z => F0 m 262 ls [.int (xs z), .int (xs (i.toNatClampNeg + 3)), .int (xs (i.toNatClampNeg + 2)), .int (xs (i.toNatClampNeg + 1)), .ref b]) ejx469) ?_
      refine lv_aload_n hx hb dL_law_262 rfl (lv_at hl 3 rfl) ?_
      refine lv_iload_n hx hb dL_law_263 rfl (lv_at hl 0 rfl) ?_
      refine lv_iconst (v := 5) hx hb dL_law_264 (by decide) ?_
      refine lv_iadd hx hb dL_law_265 ?_
      refine lv_topi (fun x470 ex470 => ?_)
      obtain ⟨tx470, ejx470, evx470⟩ := lw_ix (k := 5) ex470 hI hL rfl (by decide)
      clear tx470
      refine va_sld hx hb hX hbl (Nat.not_le.mpr hbl) hSH424 (vp_in_iff.mpr evx470) dL_law_266 ?_
      refine W.eq (g2 := F0 m 267 ls [.int (xs (i.toNatClampNeg + 5)), .int (xs (i.toNatClampNeg + 4)), .int (xs (i.toNatClampNeg + 3)), .int (xs (i.toNatClampNeg + 2)), .int (xs (i.toNatClampNeg + 1)), .ref b]) (congrArg (fun z => F0 m 267 ls [.int (xs z), .int (xs (i.toNatClampNeg + 4)), .int (xs (i.toNatClampNeg + 3)), .int (xs (i.toNatClampNeg + 2)), .int (xs (i.toNatClampNeg + 1)), .ref b]) ejx470) ?_
      refine x_V (As := [.int (xs (i.toNatClampNeg + 1)), .int (xs (i.toNatClampNeg + 2)), .int (xs (i.toNatClampNeg + 3)), .int (xs (i.toNatClampNeg + 4)), .int (xs (i.toNatClampNeg + 5))]) (rest := []) C (a_X10_slice_n l K G H424 ((xs (i.toNatClampNeg + 1))) ((xs (i.toNatClampNeg + 2))) ((xs (i.toNatClampNeg + 3))) ((xs (i.toNatClampNeg + 4))) ((xs (i.toNatClampNeg + 5))) (y1) hTH424 gb m436 g426 g427 g428 g429 (by omega)) yo_X10_slice wM_L_22 ⟨⟨by decide, by decide⟩, show _ ≤ 60000 from Nat.le_trans hc (by decide), show _ ≤ 8922250 from Nat.le_trans hs (by decide)⟩ (x_rv C hTH424 (ci := 10) rfl gb rg_112) rfl hl.1 rfl (Nat.le_of_ble_eq_true rfl) dL_law_267 hSH424 (AE_new hN hSH424.1) (fun vH471 H471 locsH471 pH471 zH471 kH471 hSH471 => ?_)
      obtain ⟨x472, hvH471, bx472, m473, g474, g475, g476, g477, mf478, hTH471⟩ := pH471
      subst hvH471
      have f479 : ∀ j : Nat, fI H471 tq j = fI H tq j := fun j => (fI_kept (x_lt hTH424 kH471 gtq (by decide))).trans (f430 j)
      have f480 : ∀ j : Nat, fI H471 uq j = fI H uq j := fun j => (fI_kept (x_lt hTH424 kH471 guq (by decide))).trans (f431 j)
      have m481 := (m432).trans (fR_kept (x_lt hTH424 kH471 ga (by decide))).symm
      have m482 := (m433).trans (fI_kept (x_lt hTH424 kH471 ga (by decide))).symm
      have m483 := (m435).trans (fI_kept (x_lt hTH424 kH471 gw (by decide))).symm
      have m484 := (m437).trans (fI_kept (x_lt hTH424 kH471 gw (by decide))).symm
      have m485 := (m439).trans (fI_kept (x_lt hTH424 kH471 gw (by decide))).symm
      have m486 := (m441).trans (fI_kept (x_lt hTH424 kH471 gw (by decide))).symm
      have m487 := (m443).trans (fI_kept (x_lt hTH424 kH471 gw (by decide))).symm
      have m488 := (m445).trans (fI_kept (x_lt hTH424 kH471 gw (by decide))).symm
      have m489 := (m447).trans (fR_kept (x_lt hTH424 kH471 ga (by decide))).symm
      have m490 := (fV_kept (x_lt hTH424 kH471 ga (by decide))).trans m450
      have m491 := (m452).trans (fI_kept (x_lt hTH424 kH471 gkq (by decide))).symm
      have m492 := (m453).trans (fI_kept (x_lt hTH424 kH471 giq (by decide))).symm
      have m493 := (m454).trans (fI_kept (x_lt hTH424 kH471 gkq (by decide))).symm
      have m494 := (m455).trans (fI_kept (x_lt hTH424 kH471 giq (by decide))).symm
      have m495 := (m456).trans (fI_kept (x_lt hTH424 kH471 gkq (by decide))).symm
      have m496 := (m457).trans (fI_kept (x_lt hTH424 kH471 giq (by decide))).symm
      have m497 := (m458).trans (fI_kept (x_lt hTH424 kH471 gkq (by decide))).symm
      have m498 := (m459).trans (fI_kept (x_lt hTH424 kH471 giq (by decide))).symm
      have m499 := (m460).trans (fI_kept (x_lt hTH424 kH471 gkq (by decide))).symm
      have m500 := (m461).trans (fI_kept (x_lt hTH424 kH471 giq (by decide))).symm
      have m501 := (m462).trans (fI_kept (x_lt hTH424 kH471 gkq (by decide))).symm
      have m502 := (m463).trans (fI_kept (x_lt hTH424 kH471 giq (by decide))).symm
      have m503 := (m434).trans (MF.i mf478 (k := 18) (by decide) (by decide)).symm
      have m504 := (m436).trans (MF.i mf478 (k := 1) (by decide) (by decide)).symm
      have m505 := (m438).trans (MF.i mf478 (k := 2) (by decide) (by decide)).symm
      have m506 := (m440).trans (MF.i mf478 (k := 3) (by decide) (by decide)).symm
      have m507 := (m442).trans (MF.i mf478 (k := 59) (by decide) (by decide)).symm
      have m508 := (m444).trans (MF.i mf478 (k := 62) (by decide) (by decide)).symm
      have m509 := (m446).trans (MF.i mf478 (k := 65) (by decide) (by decide)).symm
      have m510 := (m448).trans (MF.r mf478 (k := 17) (by decide) (by decide)).symm
      have m511 := (m449).trans (MF.i mf478 (k := 70) (by decide) (by decide)).symm
      have m512 := (m451).trans (MF.r mf478 (k := 73) (by decide) (by decide)).symm
      refine W.eq (g2 := F0 m 270 ls [.int x472]) rfl ?_
      have rk513 : RKI K H471 kq iq k1.toInt := RKI.kept rk464 hTH424 gkq (x_lt hTH424 kH471 giq (by first | exact nmr ht (by decide) | exact nmo ht (by decide) | exact nme ht (by decide) | exact nmq ht (by decide) | decide | (intro z; simp only [List.mem_cons, List.not_mem_nil, or_false] at z <;> omega) | omega)) (fun q t hq ht => x_lt hTH424 kH471 hq (by first | exact nmr ht (by decide) | exact nmo ht (by decide) | exact nme ht (by decide) | exact nmq ht (by decide) | decide | (intro z; simp only [List.mem_cons, List.not_mem_nil, or_false] at z <;> omega) | omega))
      have re514 : RE K H471 w b s1.toInt := RE.ref re465 hTH424 gw gb (fun k hk => MF.r mf478 (by omega) (by intro z; simp only [List.mem_cons, List.not_mem_nil, or_false] at z; omega)) (fun q t hq ht => x_lt hTH424 kH471 hq (by first | exact nmr ht (by decide) | exact nmo ht (by decide) | exact nme ht (by decide) | exact nmq ht (by decide) | decide | (intro z; simp only [List.mem_cons, List.not_mem_nil, or_false] at z <;> omega) | omega))
      refine lv_pop hx hb dL_law_270 rfl ?_
      refine lv_goto (tgt := 1509) hx hb dL_law_271 (by decide) ?_
      exact nx G H471 locsH471 _ _ ls ⟨hTH471, hN, ga, gb, g474, g475, g476, g477, ⟨(by rw [← m482, ← m503]; exact rt), (by rw [← m481, ← m483, ← m473]; exact r1), (by rw [← m481, ← m484, ← m505]; exact r4), (by rw [← m481, ← m485, ← m506]; exact r5), (by rw [← m481, ← m486, ← m507]; exact r10), (by rw [← m481, ← m487, ← m508]; exact r13), (by rw [← m481, ← m488, ← m509]; exact r16)⟩, Or.inr ⟨kq, m490, gkq, (by rw [← m511]; exact h70), (by rw [← m491, ← m512, ← m492]; exact q1), (by rw [← m493, ← m512, ← m494]; exact q4), (by rw [← m495, ← m512, ← m496]; exact q5), (by rw [← m497, ← m512, ← m498]; exact q10), (by rw [← m499, ← m512, ← m500]; exact q13), (by rw [← m501, ← m512, ← m502]; exact q16), (by rw [← m512, ← m491]; exact RKI.cast rk513 (by omega)), (by rw [← m495]; omega), (by rw [← m495]; omega)⟩, (by unfold TB; rw [← m489, ← m510, ← m503]; exact TBR.of htr f479 f480 (by omega)), (by unfold RELE; rw [← m481, ← m473, ← m485]; exact ⟨RE.cast re514 (by omega), by omega, by omega⟩), hSH471⟩ hl ⟨hc, hs, fun h => by have h1 := h.symm.trans m490; cases h1⟩