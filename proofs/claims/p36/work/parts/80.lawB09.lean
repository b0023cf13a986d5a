set_option maxRecDepth 100000 in
set_option maxHeartbeats 8000000 in
theorem lw_c18 {p : Program} {l : Launch} {e : Env} {s : State} {m : MethodId} {below : List Frame} {meth : Method} {c : Code} {K : KE} {b0 L : Nat} {xs : Nat → Int32} {G : Nat → Option Nat} {H : Heap} {locs : List Loc} {a b : Nat} {cells slots : Nat} {ls : Array Slot} {i : Int32} {n : Nat} (D : LC p K s m meth c b0 L xs) (S : SX K s G H locs a b) (hl : lv_has ls 4 [(3, .int i), (2, .ref b), (1, .ref a), (0, .ref b0)]) (hi : 0 ≤ i.toInt ∧ i.toInt + 6 ≤ L) (hn : n ≤ 511) (hB : BD K H a cells slots) (nx : ∀ (G : Nat → Option Nat) (H : Heap) (locs : List Loc) (cells slots : Nat) (ls : Array Slot), SX K s G H locs a b → lv_has ls 4 [(3, .int i), (2, .ref b), (1, .ref a), (0, .ref b0)] → BD K H a cells slots → W p l e room_1 s m #[Value.ref b0] below meth c H locs cells slots (lw_Z below #[Value.ref b0] s) (F0 m 1509 ls [])) : W p l e room_1 s m #[Value.ref b0] below meth c H locs cells slots (lw_Z below #[Value.ref b0] s) (F0 m 882 ls []) := by
  have hI := hi
  obtain ⟨C, hX, hbl, hL⟩ := id D
  obtain ⟨hx, hb, hml, hown, hts, hKT, hr, hlocks, hnm⟩ := id C
  obtain ⟨hT, hN, ga, gb, cg, tu, wd, im, ⟨rt, r1, r4, r5, r10, r13, r16⟩, hk, htb, her, hS⟩ := S
  obtain ⟨hc, hs, hB0⟩ := hB
  have n_1 : (1 : Int32).toInt = 1 := rfl
  have n_2 : (2 : Int32).toInt = 2 := rfl
  obtain ⟨w, ew⟩ : ∃ z : Nat, z = fR H a (K.1.2 9 0) := ⟨_, rfl⟩
  have gw := ty_fr (q := w) (k := 0) (u := 0) ew hT ga rg_68 rfl
  rw [← ew] at r1 r4 r5 r10 r13 r16
  obtain ⟨ta, eta⟩ : ∃ z : Int32, z = fI H a (K.1.2 9 3) := ⟨_, rfl⟩
  rw [← eta] at rt
  obtain ⟨tb, etb⟩ : ∃ z : Int32, z = fI H b (K.1.2 10 18) := ⟨_, rfl⟩
  rw [← etb] at rt
  obtain ⟨s1, es1⟩ : ∃ z : Int32, z = fI H w (K.1.2 8 1) := ⟨_, rfl⟩
  rw [← es1] at r1
  obtain ⟨y1, ey1⟩ : ∃ z : Int32, z = fI H b (K.1.2 10 1) := ⟨_, rfl⟩
  rw [← ey1] at r1
  obtain ⟨s4, es4⟩ : ∃ z : Int32, z = fI H w (K.1.2 8 4) := ⟨_, rfl⟩
  rw [← es4] at r4
  obtain ⟨y4, ey4⟩ : ∃ z : Int32, z = fI H b (K.1.2 10 2) := ⟨_, rfl⟩
  rw [← ey4] at r4
  obtain ⟨s5, es5⟩ : ∃ z : Int32, z = fI H w (K.1.2 8 5) := ⟨_, rfl⟩
  rw [← es5] at r5
  obtain ⟨y5, ey5⟩ : ∃ z : Int32, z = fI H b (K.1.2 10 3) := ⟨_, rfl⟩
  rw [← ey5] at r5
  obtain ⟨s10, es10⟩ : ∃ z : Int32, z = fI H w (K.1.2 8 10) := ⟨_, rfl⟩
  rw [← es10] at r10
  obtain ⟨y10, ey10⟩ : ∃ z : Int32, z = fI H b (K.1.2 10 59) := ⟨_, rfl⟩
  rw [← ey10] at r10
  obtain ⟨s13, es13⟩ : ∃ z : Int32, z = fI H w (K.1.2 8 13) := ⟨_, rfl⟩
  rw [← es13] at r13
  obtain ⟨y13, ey13⟩ : ∃ z : Int32, z = fI H b (K.1.2 10 62) := ⟨_, rfl⟩
  rw [← ey13] at r13
  obtain ⟨s16, es16⟩ : ∃ z : Int32, z = fI H w (K.1.2 8 16) := ⟨_, rfl⟩
  rw [← es16] at r16
  obtain ⟨y16, ey16⟩ : ∃ z : Int32, z = fI H b (K.1.2 10 65) := ⟨_, rfl⟩
  rw [← ey16] at r16
  obtain ⟨tq, etq⟩ : ∃ z : Nat, z = fR H a (K.1.2 9 2) := ⟨_, rfl⟩
  have gtq := ty_fr (q := tq) (k := 2) (u := 108) etq hT ga rg_68 rfl
  obtain ⟨uq, euq⟩ : ∃ z : Nat, z = fR H b (K.1.2 10 17) := ⟨_, rfl⟩
  have guq := ty_fr (q := uq) (k := 17) (u := 126) euq hT gb rg_112 rfl
  have htr : TBR (fun j => fI H tq j) (fun j => fI H uq j) tb.toNatClampNeg := by rw [etq, euq, etb]; exact htb
  have ft0 : ∀ j : Nat, fI H tq j = fI H tq j := fun _ => rfl
  have fu0 : ∀ j : Nat, fI H uq j = fI H uq j := fun _ => rfl
  have bta := ty_fi (x := ta) (k := 3) eta hT ga rg_68 rfl
  have cta := i_cl (x := ta) (by omega)
  have btb := ty_fi (x := tb) (k := 18) etb hT gb rg_112 rfl
  have ctb := i_cl (x := tb) (by omega)
  obtain ⟨her0, hsl1, hsl2⟩ := her
  have hsl0 := And.intro hsl1 hsl2
  clear hsl1 hsl2
  rw [← ew] at her0 hsl0
  have re : RE K H w b s1.toInt := RE.cast her0 (by rw [← ey1]; exact r1)
  have hsl : 0 ≤ s5.toInt ∧ s5.toInt ≤ 9999 := by rw [es5]; exact hsl0
  clear her0 hsl0
  have bt_s1 := ty_fi (x := s1) (k := 1) es1 hT gw rg_0 rfl
  have bt_s4 := ty_fi (x := s4) (k := 4) es4 hT gw rg_0 rfl
  have bt_y1 := ty_fi (x := y1) (k := 1) ey1 hT gb rg_112 rfl
  have bt_y4 := ty_fi (x := y4) (k := 2) ey4 hT gb rg_112 rfl
  rcases hk with ⟨kn, h70⟩ | ⟨kq, kn, gkq, h70, q1, q4, q5, q10, q13, q16, rke, ks1, ks2⟩
  · skip
    obtain ⟨hi, ehi⟩ : ∃ z : Int32, z = fI H b (K.1.2 10 70) := ⟨_, rfl⟩
    rw [← ehi] at h70
    obtain ⟨hc0, hs0⟩ := hB0 kn
    obtain ⟨iq, eiq⟩ : ∃ z : Nat, z = fR H b (K.1.2 10 73) := ⟨_, rfl⟩
    have giq := ty_fr (q := iq) (k := 73) (u := 162) eiq hT gb rg_112 rfl
    refine lv_aload_n hx hb dL_law_882 rfl (lv_at hl 2 rfl) ?_
    refine lv_aload_n hx hb dL_law_883 rfl (lv_at hl 3 rfl) ?_
    refine lv_iload_n hx hb dL_law_884 rfl (lv_at hl 0 rfl) ?_
    refine lv_iconst (v := 1) hx hb dL_law_885 (by decide) ?_
    refine lv_iadd hx hb dL_law_886 ?_
    refine lv_topi (fun x101 ex101 => ?_)
    obtain ⟨tx101, ejx101, evx101⟩ := lw_ix (k := 1) ex101 hI hL rfl (by decide)
    clear tx101
    refine va_sld hx hb hX hbl (Nat.not_le.mpr hbl) hS (vp_in_iff.mpr evx101) dL_law_887 ?_
    refine W.eq (g2 := F0 m 888 ls [.int (xs (i.toNatClampNeg + 1)), .ref a]) (congrArg (fun z => F0 m 888 ls [.int (xs z), .ref a]) ejx101) ?_
    refine lv_aload_n hx hb dL_law_888 rfl (lv_at hl 3 rfl) ?_
    refine lv_iload_n hx hb dL_law_889 rfl (lv_at hl 0 rfl) ?_
    refine lv_iconst (v := 2) hx hb dL_law_890 (by decide) ?_
    refine lv_iadd hx hb dL_law_891 ?_
    refine lv_topi (fun x102 ex102 => ?_)
    obtain ⟨tx102, ejx102, evx102⟩ := lw_ix (k := 2) ex102 hI hL rfl (by decide)
    clear tx102
    refine va_sld hx hb hX hbl (Nat.not_le.mpr hbl) hS (vp_in_iff.mpr evx102) dL_law_892 ?_
    refine W.eq (g2 := F0 m 893 ls [.int (xs (i.toNatClampNeg + 2)), .int (xs (i.toNatClampNeg + 1)), .ref a]) (congrArg (fun z => F0 m 893 ls [.int (xs z), .int (xs (i.toNatClampNeg + 1)), .ref a]) ejx102) ?_
    refine x_V (As := [.int (xs (i.toNatClampNeg + 1)), .int (xs (i.toNatClampNeg + 2))]) (rest := []) C (a_X9_fewest l K G H ((xs (i.toNatClampNeg + 1))) ((xs (i.toNatClampNeg + 2))) hT ga) yo_X9_fewest wM_L_92 ⟨⟨by decide, by decide⟩, show _ ≤ 60000 from Nat.le_trans hc (by decide), show _ ≤ 8922250 from Nat.le_trans hs (by decide)⟩ (x_rv C hT (ci := 9) rfl ga rg_68) rfl hl.1 rfl (Nat.le_of_ble_eq_true rfl) dL_law_893 hS (AE_new hN hS.1) (fun vH103 H103 locsH103 pH103 zH103 kH103 hSH103 => ?_)
    obtain ⟨x104, hvH103, hTH103⟩ := pH103
    subst hvH103
    have g105 : CG (avw K H103 b) := CG.congr (fun k hk j => av_eff hT kH103 gb (by decide) (CG_eff [89, 91, 92, 93, 94, 95, 96, 97, 90, 85, 86, 83, 84] (by decide) k hk)) cg
    have g106 : TU (avw K H103 b) (svw K H103 b) := TU.congr (fun k hk j => av_eff hT kH103 gb (by decide) (TU_eff [89, 91, 92, 93, 94, 95, 96, 97, 90, 85, 86, 83, 84] (by decide) k hk)) (fun k hk => sv_eff hT kH103 gb (by decide)) tu
    have g107 : WD (avw K H103 b) := WD.congr (fun k hk j => av_eff hT kH103 gb (by decide) (WD_eff [89, 91, 92, 93, 94, 95, 96, 97, 90, 85, 86, 83, 84] (by decide) k hk)) wd
    have g108 : IM (avw K H103 b) := IM.congr (fun k hk j => av_eff hT kH103 gb (by decide) (IM_eff [89, 91, 92, 93, 94, 95, 96, 97, 90, 85, 86, 83, 84] (by decide) k hk)) im
    have f109 : ∀ j : Nat, fI H103 tq j = fI H tq j := fun j => (fI_kept (x_lt hT kH103 gtq (by decide))).trans (ft0 j)
    have f110 : ∀ j : Nat, fI H103 uq j = fI H uq j := fun j => (fI_kept (x_lt hT kH103 guq (by decide))).trans (fu0 j)
    have m111 := (ew).trans (fR_kept (x_lt hT kH103 ga (by decide))).symm
    have m112 := (eta).trans (fI_kept (x_lt hT kH103 ga (by decide))).symm
    have m113 := (etb).trans (fI_kept (x_lt hT kH103 gb (by decide))).symm
    have m114 := (es1).trans (fI_kept (x_lt hT kH103 gw (by decide))).symm
    have m115 := (ey1).trans (fI_kept (x_lt hT kH103 gb (by decide))).symm
    have m116 := (es4).trans (fI_kept (x_lt hT kH103 gw (by decide))).symm
    have m117 := (ey4).trans (fI_kept (x_lt hT kH103 gb (by decide))).symm
    have m118 := (es5).trans (fI_kept (x_lt hT kH103 gw (by decide))).symm
    have m119 := (ey5).trans (fI_kept (x_lt hT kH103 gb (by decide))).symm
    have m120 := (es10).trans (fI_kept (x_lt hT kH103 gw (by decide))).symm
    have m121 := (ey10).trans (fI_kept (x_lt hT kH103 gb (by decide))).symm
    have m122 := (es13).trans (fI_kept (x_lt hT kH103 gw (by decide))).symm
    have m123 := (ey13).trans (fI_kept (x_lt hT kH103 gb (by decide))).symm
    have m124 := (es16).trans (fI_kept (x_lt hT kH103 gw (by decide))).symm
    have m125 := (ey16).trans (fI_kept (x_lt hT kH103 gb (by decide))).symm
    have m126 := (etq).trans (fR_kept (x_lt hT kH103 ga (by decide))).symm
    have m127 := (euq).trans (fR_kept (x_lt hT kH103 gb (by decide))).symm
    have m128 := (ehi).trans (fI_kept (x_lt hT kH103 gb (by decide))).symm
    have m129 := (fV_kept (x_lt hT kH103 ga (by decide))).trans kn
    have m130 := (eiq).trans (fR_kept (x_lt hT kH103 gb (by decide))).symm
    refine W.eq (g2 := F0 m 896 ls [.int x104]) rfl ?_
    have re131 : RE K H103 w b s1.toInt := RE.cls re hT gw gb (fun q t hq ht => x_lt hT kH103 hq (by first | exact nmr ht (by decide) | exact nmo ht (by decide) | exact nme ht (by decide) | exact nmq ht (by decide) | decide | (intro z; simp only [List.mem_cons, List.not_mem_nil, or_false] at z <;> omega) | omega))
    refine lv_pop hx hb dL_law_896 rfl ?_
    refine lv_aload_n hx hb dL_law_897 rfl (lv_at hl 1 rfl) ?_
    refine lv_aload_n hx hb dL_law_898 rfl (lv_at hl 3 rfl) ?_
    refine lv_iload_n hx hb dL_law_899 rfl (lv_at hl 0 rfl) ?_
    refine lv_iconst (v := 1) hx hb dL_law_900 (by decide) ?_
    refine lv_iadd hx hb dL_law_901 ?_
    refine lv_topi (fun x132 ex132 => ?_)
    obtain ⟨tx132, ejx132, evx132⟩ := lw_ix (k := 1) ex132 hI hL rfl (by decide)
    clear tx132
    refine va_sld hx hb hX hbl (Nat.not_le.mpr hbl) hSH103 (vp_in_iff.mpr evx132) dL_law_902 ?_
    refine W.eq (g2 := F0 m 903 ls [.int (xs (i.toNatClampNeg + 1)), .ref b]) (congrArg (fun z => F0 m 903 ls [.int (xs z), .ref b]) ejx132) ?_
    refine lv_aload_n hx hb dL_law_903 rfl (lv_at hl 3 rfl) ?_
    refine lv_iload_n hx hb dL_law_904 rfl (lv_at hl 0 rfl) ?_
    refine lv_iconst (v := 2) hx hb dL_law_905 (by decide) ?_
    refine lv_iadd hx hb dL_law_906 ?_
    refine lv_topi (fun x133 ex133 => ?_)
    obtain ⟨tx133, ejx133, evx133⟩ := lw_ix (k := 2) ex133 hI hL rfl (by decide)
    clear tx133
    refine va_sld hx hb hX hbl (Nat.not_le.mpr hbl) hSH103 (vp_in_iff.mpr evx133) dL_law_907 ?_
    refine W.eq (g2 := F0 m 908 ls [.int (xs (i.toNatClampNeg + 2)), .int (xs (i.toNatClampNeg + 1)), .ref b]) (congrArg (fun z => F0 m 908 ls [.int (xs z), .int (xs (i.toNatClampNeg + 1)), .ref b]) ejx133) ?_
    obtain ⟨q134, eq134⟩ : ∃ z : Nat, @Eq Ad z (fR H103 b (K.1.2 10 5)) := ⟨_, rfl⟩
    have gq134 := ty_fr (q := q134) (k := 5) (u := 114) eq134 hTH103 gb rg_112 rfl
    refine x_V (As := [.int (xs (i.toNatClampNeg + 1)), .int (xs (i.toNatClampNeg + 2))]) (rest := []) C (a_X10_fewest_k l K G H103 ((xs (i.toNatClampNeg + 1))) ((xs (i.toNatClampNeg + 2))) hTH103 gb gq134 eq134 g105 g106 g107 g108) yo_X10_fewest wM_L_95 ⟨⟨by decide, by decide⟩, show _ ≤ 60000 from Nat.le_trans hc (by decide), show _ ≤ 8922250 from Nat.le_trans hs (by decide)⟩ (x_rv C hTH103 (ci := 10) rfl gb rg_112) rfl hl.1 rfl (Nat.le_of_ble_eq_true rfl) dL_law_908 hSH103 (AE_new hN hSH103.1) (fun vH135 H135 locsH135 pH135 zH135 kH135 hSH135 => ?_)
    obtain ⟨x136, hvH135, m137, g138, g139, g140, g141, mf142, m143, hTH135⟩ := pH135
    subst hvH135
    have f144 : ∀ j : Nat, fI H135 tq j = fI H tq j := fun j => (fI_kept (x_lt hTH103 kH135 gtq (by decide))).trans (f109 j)
    have f145 : ∀ j : Nat, fI H135 uq j = fI H uq j := fun j => (fI_kept (x_lt hTH103 kH135 guq (by decide))).trans (f110 j)
    have m146 := (m111).trans (fR_kept (x_lt hTH103 kH135 ga (by decide))).symm
    have m147 := (m112).trans (fI_kept (x_lt hTH103 kH135 ga (by decide))).symm
    have m148 := (m114).trans (fI_kept (x_lt hTH103 kH135 gw (by decide))).symm
    have m149 := (m116).trans (fI_kept (x_lt hTH103 kH135 gw (by decide))).symm
    have m150 := (m118).trans (fI_kept (x_lt hTH103 kH135 gw (by decide))).symm
    have m151 := (m120).trans (fI_kept (x_lt hTH103 kH135 gw (by decide))).symm
    have m152 := (m122).trans (fI_kept (x_lt hTH103 kH135 gw (by decide))).symm
    have m153 := (m124).trans (fI_kept (x_lt hTH103 kH135 gw (by decide))).symm
    have m154 := (m126).trans (fR_kept (x_lt hTH103 kH135 ga (by decide))).symm
    have m155 := (fV_kept (x_lt hTH103 kH135 ga (by decide))).trans m129
    have m156 := (m113).trans (MF.i mf142 (k := 18) (by decide) (by decide)).symm
    have m157 := (m115).trans (MF.i mf142 (k := 1) (by decide) (by decide)).symm
    have m158 := (m117).trans (MF.i mf142 (k := 2) (by decide) (by decide)).symm
    have m159 := (m119).trans (MF.i mf142 (k := 3) (by decide) (by decide)).symm
    have m160 := (m121).trans (MF.i mf142 (k := 59) (by decide) (by decide)).symm
    have m161 := (m123).trans (MF.i mf142 (k := 62) (by decide) (by decide)).symm
    have m162 := (m125).trans (MF.i mf142 (k := 65) (by decide) (by decide)).symm
    have m163 := (m127).trans (MF.r mf142 (k := 17) (by decide) (by decide)).symm
    have m164 := (m128).trans (MF.i mf142 (k := 70) (by decide) (by decide)).symm
    have m165 := (m130).trans (MF.r mf142 (k := 73) (by decide) (by decide)).symm
    have m166 := (eq134).trans (MF.r mf142 (k := 5) (by decide) (by decide)).symm
    refine W.eq (g2 := F0 m 911 ls [.int x136]) rfl ?_
    have re167 : RE K H135 w b s1.toInt := RE.rows re131 hTH103 gw gb (fun k hk => MF.r mf142 (by omega) (by intro z; simp only [List.mem_cons, List.not_mem_nil, or_false] at z; omega)) (fun q t hq ht => x_lt hTH103 kH135 hq (by first | exact nmr ht (by decide) | exact nmo ht (by decide) | exact nme ht (by decide) | exact nmq ht (by decide) | decide | (intro z; simp only [List.mem_cons, List.not_mem_nil, or_false] at z <;> omega) | omega)) (fun j => by rw [← eq134]; exact m143 j) (fun j => fI_kept (x_lt hTH103 kH135 (show G (fR H103 b (K.1.2 10 6)) = some 115 from gR hTH103 gb 2 (by decide)) (by decide))) (fun j => fI_kept (x_lt hTH103 kH135 (show G (fR H103 b (K.1.2 10 8)) = some 117 from gR hTH103 gb 4 (by decide)) (by decide)))
    refine lv_pop hx hb dL_law_911 rfl ?_
    refine lv_goto (tgt := 1509) hx hb dL_law_912 (by decide) ?_
    exact nx G H135 locsH135 _ _ ls ⟨hTH135, hN, ga, gb, g138, g139, g140, g141, ⟨(by rw [← m147, ← m156]; exact rt), (by rw [← m146, ← m148, ← m157]; exact r1), (by rw [← m146, ← m149, ← m158]; exact r4), (by rw [← m146, ← m150, ← m159]; exact r5), (by rw [← m146, ← m151, ← m160]; exact r10), (by rw [← m146, ← m152, ← m161]; exact r13), (by rw [← m146, ← m153, ← m162]; exact r16)⟩, Or.inl ⟨m155, (by rw [← m164]; exact h70)⟩, (by unfold TB; rw [← m154, ← m163, ← m156]; exact TBR.of htr f144 f145 (by omega)), (by unfold RELE; rw [← m146, ← m157, ← m150]; exact ⟨RE.cast re167 (by omega), by omega, by omega⟩), hSH135⟩ hl ⟨hc, hs, fun _ => ⟨hc0, hs0⟩⟩
  · skip
    obtain ⟨hi, ehi⟩ : ∃ z : Int32, z = fI H b (K.1.2 10 70) := ⟨_, rfl⟩
    rw [← ehi] at h70
    obtain ⟨iq, eiq⟩ : ∃ z : Nat, z = fR H b (K.1.2 10 73) := ⟨_, rfl⟩
    have giq := ty_fr (q := iq) (k := 73) (u := 162) eiq hT gb rg_112 rfl
    rw [← eiq] at q1 q4 q5 q10 q13 q16
    obtain ⟨k1, ek1⟩ : ∃ z : Int32, z = fI H kq (K.1.2 8 1) := ⟨_, rfl⟩
    rw [← ek1] at q1
    obtain ⟨i1, ei1⟩ : ∃ z : Int32, z = fI H iq ((0 : Int32).toNatClampNeg) := ⟨_, rfl⟩
    rw [← ei1] at q1
    obtain ⟨k4, ek4⟩ : ∃ z : Int32, z = fI H kq (K.1.2 8 4) := ⟨_, rfl⟩
    rw [← ek4] at q4
    obtain ⟨i4, ei4⟩ : ∃ z : Int32, z = fI H iq ((1 : Int32).toNatClampNeg) := ⟨_, rfl⟩
    rw [← ei4] at q4
    obtain ⟨k5, ek5⟩ : ∃ z : Int32, z = fI H kq (K.1.2 8 5) := ⟨_, rfl⟩
    rw [← ek5] at q5
    obtain ⟨i5, ei5⟩ : ∃ z : Int32, z = fI H iq ((2 : Int32).toNatClampNeg) := ⟨_, rfl⟩
    rw [← ei5] at q5
    obtain ⟨k10, ek10⟩ : ∃ z : Int32, z = fI H kq (K.1.2 8 10) := ⟨_, rfl⟩
    rw [← ek10] at q10
    obtain ⟨i10, ei10⟩ : ∃ z : Int32, z = fI H iq ((3 : Int32).toNatClampNeg) := ⟨_, rfl⟩
    rw [← ei10] at q10
    obtain ⟨k13, ek13⟩ : ∃ z : Int32, z = fI H kq (K.1.2 8 13) := ⟨_, rfl⟩
    rw [← ek13] at q13
    obtain ⟨i13, ei13⟩ : ∃ z : Int32, z = fI H iq ((4 : Int32).toNatClampNeg) := ⟨_, rfl⟩
    rw [← ei13] at q13
    obtain ⟨k16, ek16⟩ : ∃ z : Int32, z = fI H kq (K.1.2 8 16) := ⟨_, rfl⟩
    rw [← ek16] at q16
    obtain ⟨i16, ei16⟩ : ∃ z : Int32, z = fI H iq ((5 : Int32).toNatClampNeg) := ⟨_, rfl⟩
    rw [← ei16] at q16
    rw [← eiq, ← ek1] at rke
    have hsk : 0 ≤ k5.toInt ∧ k5.toInt ≤ 9999 := by rw [ek5]; exact ⟨ks1, ks2⟩
    refine lv_aload_n hx hb dL_law_882 rfl (lv_at hl 2 rfl) ?_
    refine lv_aload_n hx hb dL_law_883 rfl (lv_at hl 3 rfl) ?_
    refine lv_iload_n hx hb dL_law_884 rfl (lv_at hl 0 rfl) ?_
    refine lv_iconst (v := 1) hx hb dL_law_885 (by decide) ?_
    refine lv_iadd hx hb dL_law_886 ?_
    refine lv_topi (fun x168 ex168 => ?_)
    obtain ⟨tx168, ejx168, evx168⟩ := lw_ix (k := 1) ex168 hI hL rfl (by decide)
    clear tx168
    refine va_sld hx hb hX hbl (Nat.not_le.mpr hbl) hS (vp_in_iff.mpr evx168) dL_law_887 ?_
    refine W.eq (g2 := F0 m 888 ls [.int (xs (i.toNatClampNeg + 1)), .ref a]) (congrArg (fun z => F0 m 888 ls [.int (xs z), .ref a]) ejx168) ?_
    refine lv_aload_n hx hb dL_law_888 rfl (lv_at hl 3 rfl) ?_
    refine lv_iload_n hx hb dL_law_889 rfl (lv_at hl 0 rfl) ?_
    refine lv_iconst (v := 2) hx hb dL_law_890 (by decide) ?_
    refine lv_iadd hx hb dL_law_891 ?_
    refine lv_topi (fun x169 ex169 => ?_)
    obtain ⟨tx169, ejx169, evx169⟩ := lw_ix (k := 2) ex169 hI hL rfl (by decide)
    clear tx169
    refine va_sld hx hb hX hbl (Nat.not_le.mpr hbl) hS (vp_in_iff.mpr evx169) dL_law_892 ?_
    refine W.eq (g2 := F0 m 893 ls [.int (xs (i.toNatClampNeg + 2)), .int (xs (i.toNatClampNeg + 1)), .ref a]) (congrArg (fun z => F0 m 893 ls [.int (xs z), .int (xs (i.toNatClampNeg + 1)), .ref a]) ejx169) ?_
    refine x_V (As := [.int (xs (i.toNatClampNeg + 1)), .int (xs (i.toNatClampNeg + 2))]) (rest := []) C (a_X9_fewest l K G H ((xs (i.toNatClampNeg + 1))) ((xs (i.toNatClampNeg + 2))) hT ga) yo_X9_fewest wM_L_92 ⟨⟨by decide, by decide⟩, show _ ≤ 60000 from Nat.le_trans hc (by decide), show _ ≤ 8922250 from Nat.le_trans hs (by decide)⟩ (x_rv C hT (ci := 9) rfl ga rg_68) rfl hl.1 rfl (Nat.le_of_ble_eq_true rfl) dL_law_893 hS (AE_new hN hS.1) (fun vH170 H170 locsH170 pH170 zH170 kH170 hSH170 => ?_)
    obtain ⟨x171, hvH170, hTH170⟩ := pH170
    subst hvH170
    have g172 : CG (avw K H170 b) := CG.congr (fun k hk j => av_eff hT kH170 gb (by decide) (CG_eff [89, 91, 92, 93, 94, 95, 96, 97, 90, 85, 86, 83, 84] (by decide) k hk)) cg
    have g173 : TU (avw K H170 b) (svw K H170 b) := TU.congr (fun k hk j => av_eff hT kH170 gb (by decide) (TU_eff [89, 91, 92, 93, 94, 95, 96, 97, 90, 85, 86, 83, 84] (by decide) k hk)) (fun k hk => sv_eff hT kH170 gb (by decide)) tu
    have g174 : WD (avw K H170 b) := WD.congr (fun k hk j => av_eff hT kH170 gb (by decide) (WD_eff [89, 91, 92, 93, 94, 95, 96, 97, 90, 85, 86, 83, 84] (by decide) k hk)) wd
    have g175 : IM (avw K H170 b) := IM.congr (fun k hk j => av_eff hT kH170 gb (by decide) (IM_eff [89, 91, 92, 93, 94, 95, 96, 97, 90, 85, 86, 83, 84] (by decide) k hk)) im
    have f176 : ∀ j : Nat, fI H170 tq j = fI H tq j := fun j => (fI_kept (x_lt hT kH170 gtq (by decide))).trans (ft0 j)
    have f177 : ∀ j : Nat, fI H170 uq j = fI H uq j := fun j => (fI_kept (x_lt hT kH170 guq (by decide))).trans (fu0 j)
    have m178 := (ew).trans (fR_kept (x_lt hT kH170 ga (by decide))).symm
    have m179 := (eta).trans (fI_kept (x_lt hT kH170 ga (by decide))).symm
    have m180 := (etb).trans (fI_kept (x_lt hT kH170 gb (by decide))).symm
    have m181 := (es1).trans (fI_kept (x_lt hT kH170 gw (by decide))).symm
    have m182 := (ey1).trans (fI_kept (x_lt hT kH170 gb (by decide))).symm
    have m183 := (es4).trans (fI_kept (x_lt hT kH170 gw (by decide))).symm
    have m184 := (ey4).trans (fI_kept (x_lt hT kH170 gb (by decide))).symm
    have m185 := (es5).trans (fI_kept (x_lt hT kH170 gw (by decide))).symm
    have m186 := (ey5).trans (fI_kept (x_lt hT kH170 gb (by decide))).symm
    have m187 := (es10).trans (fI_kept (x_lt hT kH170 gw (by decide))).symm
    have m188 := (ey10).trans (fI_kept (x_lt hT kH170 gb (by decide))).symm
    have m189 := (es13).trans (fI_kept (x_lt hT kH170 gw (by decide))).symm
    have m190 := (ey13).trans (fI_kept (x_lt hT kH170 gb (by decide))).symm
    have m191 := (es16).trans (fI_kept (x_lt hT kH170 gw (by decide))).symm
    have m192 := (ey16).trans (fI_kept (x_lt hT kH170 gb (by decide))).symm
    have m193 := (etq).trans (fR_kept (x_lt hT kH170 ga (by decide))).symm
    have m194 := (euq).trans (fR_kept (x_lt hT kH170 gb (by decide))).symm
    have m195 := (ehi).trans (fI_kept (x_lt hT kH170 gb (by decide))).symm
    have m196 := (fV_kept (x_lt hT kH170 ga (by decide))).trans kn
    have m197 := (eiq).trans (fR_kept (x_lt hT kH170 gb (by decide))).symm
    have m198 := (ek1).trans (fI_kept (x_lt hT kH170 gkq (by decide))).symm
    have m199 := (ei1).trans (fI_kept (x_lt hT kH170 giq (by decide))).symm
    have m200 := (ek4).trans (fI_kept (x_lt hT kH170 gkq (by decide))).symm
    have m201 := (ei4).trans (fI_kept (x_lt hT kH170 giq (by decide))).symm
    have m202 := (ek5).trans (fI_kept (x_lt hT kH170 gkq (by decide))).symm
    have m203 := (ei5).trans (fI_kept (x_lt hT kH170 giq (by decide))).symm
    have m204 := (ek10).trans (fI_kept (x_lt hT kH170 gkq (by decide))).symm
    have m205 := (ei10).trans (fI_kept (x_lt hT kH170 giq (by decide))).symm
    have m206 := (ek13).trans (fI_kept (x_lt hT kH170 gkq (by decide))).symm
    have m207 := (ei13).trans (fI_kept (x_lt hT kH170 giq (by decide))).symm
    have m208 := (ek16).trans (fI_kept (x_lt hT kH170 gkq (by decide))).symm
    have m209 := (ei16).trans (fI_kept (x_lt hT kH170 giq (by decide))).symm
    refine W.eq (g2 := F0 m 896 ls [.int x171]) rfl ?_
    have rk210 : RKI K H170 kq iq k1.toInt := RKI.kept rke hT gkq (x_lt hT kH170 giq (by first | exact nmr ht (by decide) | exact nmo ht (by decide) | exact nme ht (by decide) | exact nmq ht (by decide) | decide | (intro z; simp only [List.mem_cons, List.not_mem_nil, or_false] at z <;> omega) | omega)) (fun q t hq ht => x_lt hT kH170 hq (by first | exact nmr ht (by decide) | exact nmo ht (by decide) | exact nme ht (by decide) | exact nmq ht (by decide) | decide | (intro z; simp only [List.mem_cons, List.not_mem_nil, or_false] at z <;> omega) | omega))
    have re211 : RE K H170 w b s1.toInt := RE.cls re hT gw gb (fun q t hq ht => x_lt hT kH170 hq (by first | exact nmr ht (by decide) | exact nmo ht (by decide) | exact nme ht (by decide) | exact nmq ht (by decide) | decide | (intro z; simp only [List.mem_cons, List.not_mem_nil, or_false] at z <;> omega) | omega))
    refine lv_pop hx hb dL_law_896 rfl ?_
    refine lv_aload_n hx hb dL_law_897 rfl (lv_at hl 1 rfl) ?_
    refine lv_aload_n hx hb dL_law_898 rfl (lv_at hl 3 rfl) ?_
    refine lv_iload_n hx hb dL_law_899 rfl (lv_at hl 0 rfl) ?_
    refine lv_iconst (v := 1) hx hb dL_law_900 (by decide) ?_
    refine lv_iadd hx hb dL_law_901 ?_
    refine lv_topi (fun x212 ex212 => ?_)
    obtain ⟨tx212, ejx212, evx212⟩ := lw_ix (k := 1) ex212 hI hL rfl (by decide)
    clear tx212
    refine va_sld hx hb hX hbl (Nat.not_le.mpr hbl) hSH170 (vp_in_iff.mpr evx212) dL_law_902 ?_
    refine W.eq (g2 := F0 m 903 ls [.int (xs (i.toNatClampNeg + 1)), .ref b]) (congrArg (fun z => F0 m 903 ls [.int (xs z), .ref b]) ejx212) ?_
    refine lv_aload_n hx hb dL_law_903 rfl (lv_at hl 3 rfl) ?_
    refine lv_iload_n hx hb dL_law_904 rfl (lv_at hl 0 rfl) ?_
    refine lv_iconst (v := 2) hx hb dL_law_905 (by decide) ?_
    refine lv_iadd hx hb dL_law_906 ?_
    refine lv_topi (fun x213 ex213 => ?_)
    obtain ⟨tx213, ejx213, evx213⟩ := lw_ix (k := 2) ex213 hI hL rfl (by decide)
    clear tx213
    refine va_sld hx hb hX hbl (Nat.not_le.mpr hbl) hSH170 (vp_in_iff.mpr evx213) dL_law_907 ?_
    refine W.eq (g2 := F0 m 908 ls [.int (xs (i.toNatClampNeg + 2)), .int (xs (i.toNatClampNeg + 1)), .ref b]) (congrArg (fun z => F0 m 908 ls [.int (xs z), .int (xs (i.toNatClampNeg + 1)), .ref b]) ejx213) ?_
    obtain ⟨q214, eq214⟩ : ∃ z : Nat, @Eq Ad z (fR H170 b (K.1.2 10 5)) := ⟨_, rfl⟩
    have gq214 := ty_fr (q := q214) (k := 5) (u := 114) eq214 hTH170 gb rg_112 rfl
    refine x_V (As := [.int (xs (i.toNatClampNeg + 1)), .int (xs (i.toNatClampNeg + 2))]) (rest := []) C (a_X10_fewest_k l K G H170 ((xs (i.toNatClampNeg + 1))) ((xs (i.toNatClampNeg + 2))) hTH170 gb gq214 eq214 g172 g173 g174 g175) yo_X10_fewest wM_L_95 ⟨⟨by decide, by decide⟩, show _ ≤ 60000 from Nat.le_trans hc (by decide), show _ ≤ 8922250 from Nat.le_trans hs (by decide)⟩ (x_rv C hTH170 (ci := 10) rfl gb rg_112) rfl hl.1 rfl (Nat.le_of_ble_eq_true rfl) dL_law_908 hSH170 (AE_new hN hSH170.1) (fun vH215 H215 locsH215 pH215 zH215 kH215 hSH215 => ?_)
    obtain ⟨x216, hvH215, m217, g218, g219, g220, g221, mf222, m223, hTH215⟩ := pH215
    subst hvH215
    have f224 : ∀ j : Nat, fI H215 tq j = fI H tq j := fun j => (fI_kept (x_lt hTH170 kH215 gtq (by decide))).trans (f176 j)
    have f225 : ∀ j : Nat, fI H215 uq j = fI H uq j := fun j => (fI_kept (x_lt hTH170 kH215 guq (by decide))).trans (f177 j)
    have m226 := (m178).trans (fR_kept (x_lt hTH170 kH215 ga (by decide))).symm
    have m227 := (m179).trans (fI_kept (x_lt hTH170 kH215 ga (by decide))).symm
    have m228 := (m181).trans (fI_kept (x_lt hTH170 kH215 gw (by decide))).symm
    have m229 := (m183).trans (fI_kept (x_lt hTH170 kH215 gw (by decide))).symm
    have m230 := (m185).trans (fI_kept (x_lt hTH170 kH215 gw (by decide))).symm
    have m231 := (m187).trans (fI_kept (x_lt hTH170 kH215 gw (by decide))).symm
    have m232 := (m189).trans (fI_kept (x_lt hTH170 kH215 gw (by decide))).symm
    have m233 := (m191).trans (fI_kept (x_lt hTH170 kH215 gw (by decide))).symm
    have m234 := (m193).trans (fR_kept (x_lt hTH170 kH215 ga (by decide))).symm
    have m235 := (fV_kept (x_lt hTH170 kH215 ga (by decide))).trans m196
    have m236 := (m198).trans (fI_kept (x_lt hTH170 kH215 gkq (by decide))).symm
    have m237 := (m199).trans (fI_kept (x_lt hTH170 kH215 giq (by decide))).symm
    have m238 := (m200).trans (fI_kept (x_lt hTH170 kH215 gkq (by decide))).symm
    have m239 := (m201).trans (fI_kept (x_lt hTH170 kH215 giq (by decide))).symm
    have m240 := (m202).trans (fI_kept (x_lt hTH170 kH215 gkq (by decide))).symm
    have m241 := (m203).trans (fI_kept (x_lt hTH170 kH215 giq (by decide))).symm
    have m242 := (m204).trans (fI_kept (x_lt hTH170 kH215 gkq (by decide))).symm
    have m243 := (m205).trans (fI_kept (x_lt hTH170 kH215 giq (by decide))).symm
    have m244 := (m206).trans (fI_kept (x_lt hTH170 kH215 gkq (by decide))).symm
    have m245 := (m207).trans (fI_kept (x_lt hTH170 kH215 giq (by decide))).symm
    have m246 := (m208).trans (fI_kept (x_lt hTH170 kH215 gkq (by decide))).symm
    have m247 := (m209).trans (fI_kept (x_lt hTH170 kH215 giq (by decide))).symm
    have m248 := (m180).trans (MF.i mf222 (k := 18) (by decide) (by decide)).symm
    have m249 := (m182).trans (MF.i mf222 (k := 1) (by decide) (by decide)).symm
    have m250 := (m184).trans (MF.i mf222 (k := 2) (by decide) (by decide)).symm
    have m251 := (m186).trans (MF.i mf222 (k := 3) (by decide) (by decide)).symm
    have m252 := (m188).trans (MF.i mf222 (k := 59) (by decide) (by decide)).symm
    have m253 := (m190).trans (MF.i mf222 (k := 62) (by decide) (by decide)).symm
    have m254 := (m192).trans (MF.i mf222 (k := 65) (by decide) (by decide)).symm
    have m255 := (m194).trans (MF.r mf222 (k := 17) (by decide) (by decide)).symm
    have m256 := (m195).trans (MF.i mf222 (k := 70) (by decide) (by decide)).symm
    have m257 := (m197).trans (MF.r mf222 (k := 73) (by decide) (by decide)).symm
    have m258 := (eq214).trans (MF.r mf222 (k := 5) (by decide) (by decide)).symm
    refine W.eq (g2 := F0 m 911 ls [.int x216]) rfl ?_
    have rk259 : RKI K H215 kq iq k1.toInt := RKI.kept rk210 hTH170 gkq (x_lt hTH170 kH215 giq (by first | exact nmr ht (by decide) | exact nmo ht (by decide) | exact nme ht (by decide) | exact nmq ht (by decide) | decide | (intro z; simp only [List.mem_cons, List.not_mem_nil, or_false] at z <;> omega) | omega)) (fun q t hq ht => x_lt hTH170 kH215 hq (by first | exact nmr ht (by decide) | exact nmo ht (by decide) | exact nme ht (by decide) | exact nmq ht (by decide) | decide | (intro z; simp only [List.mem_cons, List.not_mem_nil, or_false] at z <;> omega) | omega))
    have re260 : RE K H215 w b s1.toInt := RE.rows re211 hTH170 gw gb (fun k hk => MF.r mf222 (by omega) (by intro z; simp only [List.mem_cons, List.not_mem_nil, or_false] at z; omega)) (fun q t hq ht => x_lt hTH170 kH215 hq (by first | exact nmr ht (by decide) | exact nmo ht (by decide) | exact nme ht (by decide) | exact nmq ht (by decide) | decide | (intro z; simp only [List.mem_cons, List.not_mem_nil, or_false] at z <;> omega) | omega)) (fun j => by rw [← eq214]; exact m223 j) (fun j => fI_kept (x_lt hTH170 kH215 (show G (fR H170 b (K.1.2 10 6)) = some 115 from gR hTH170 gb 2 (by decide)) (by decide))) (fun j => fI_kept (x_lt hTH170 kH215 (show G (fR H170 b (K.1.2 10 8)) = some 117 from gR hTH170 gb 4 (by decide)) (by decide)))
    refine lv_pop hx hb dL_law_911 rfl ?_
    refine lv_goto (tgt := 1509) hx hb dL_law_912 (by decide) ?_
    exact nx G H215 locsH215 _ _ ls ⟨hTH215, hN, ga, gb, g218, g219, g220, g221, ⟨(by rw [← m227, ← m248]; exact rt), (by rw [← m226, ← m228, ← m249]; exact r1), (by rw [← m226, ← m229, ← m250]; exact r4), (by rw [← m226, ← m230, ← m251]; exact r5), (by rw [← m226, ← m231, ← m252]; exact r10), (by rw [← m226, ← m232, ← m253]; exact r13), (by rw [← m226, ← m233, ← m254]; exact r16)⟩, Or.inr ⟨kq, m235, gkq, (by rw [← m256]; exact h70), (by rw [← m236, ← m257, ← m237]; exact q1), (by rw [← m238, ← m257, ← m239]; exact q4), (by rw [← m240, ← m257, ← m241]; exact q5), (by rw [← m242, ← m257, ← m243]; exact q10), (by rw [← m244, ← m257, ← m245]; exact q13), (by rw [← m246, ← m257, ← m247]; exact q16), (by rw [← m257, ← m236]; exact RKI.cast rk259 (by omega)), (by rw [← m240]; omega), (by rw [← m240]; omega)⟩, (by unfold TB; rw [← m234, ← m255, ← m248]; exact TBR.of htr f224 f225 (by omega)), (by unfold RELE; rw [← m226, ← m249, ← m230]; exact ⟨RE.cast re260 (by omega), by omega, by omega⟩), hSH215⟩ hl ⟨hc, hs, fun h => by have h1 := h.symm.trans m235; cases h1⟩
set_option maxRecDepth 100000 in
set_option maxHeartbeats 8000000 in
theorem lw_c19 {p : Program} {l : Launch} {e : Env} {s : State} {m : MethodId} {below : List Frame} {meth : Method} {c : Code} {K : KE} {b0 L : Nat} {xs : Nat → Int32} {G : Nat → Option Nat} {H : Heap} {locs : List Loc} {a b : Nat} {cells slots : Nat} {ls : Array Slot} {i : Int32} {n : Nat} (D : LC p K s m meth c b0 L xs) (S : SX K s G H locs a b) (hl : lv_has ls 4 [(3, .int i), (2, .ref b), (1, .ref a), (0, .ref b0)]) (hi : 0 ≤ i.toInt ∧ i.toInt + 6 ≤ L) (hn : n ≤ 511) (hB : BD K H a cells slots) (nx : ∀ (G : Nat → Option Nat) (H : Heap) (locs : List Loc) (cells slots : Nat) (ls : Array Slot), SX K s G H locs a b → lv_has ls 4 [(3, .int i), (2, .ref b), (1, .ref a), (0, .ref b0)] → BD K H a cells slots → W p l e room_1 s m #[Value.ref b0] below meth c H locs cells slots (lw_Z below #[Value.ref b0] s) (F0 m 1509 ls [])) : W p l e room_1 s m #[Value.ref b0] below meth c H locs cells slots (lw_Z below #[Value.ref b0] s) (F0 m 915 ls []) := by
  have hI := hi
  obtain ⟨C, hX, hbl, hL⟩ := id D
  obtain ⟨hx, hb, hml, hown, hts, hKT, hr, hlocks, hnm⟩ := id C
  obtain ⟨hT, hN, ga, gb, cg, tu, wd, im, ⟨rt, r1, r4, r5, r10, r13, r16⟩, hk, htb, her, hS⟩ := S
  obtain ⟨hc, hs, hB0⟩ := hB
  have n_1 : (1 : Int32).toInt = 1 := rfl
  have n_2 : (2 : Int32).toInt = 2 := rfl
  have n_3 : (3 : Int32).toInt = 3 := rfl
  obtain ⟨w, ew⟩ : ∃ z : Nat, z = fR H a (K.1.2 9 0) := ⟨_, rfl⟩
  have gw := ty_fr (q := w) (k := 0) (u := 0) ew hT ga rg_68 rfl
  rw [← ew] at r1 r4 r5 r10 r13 r16
  obtain ⟨ta, eta⟩ : ∃ z : Int32, z = fI H a (K.1.2 9 3) := ⟨_, rfl⟩
  rw [← eta] at rt
  obtain ⟨tb, etb⟩ : ∃ z : Int32, z = fI H b (K.1.2 10 18) := ⟨_, rfl⟩
  rw [← etb] at rt
  obtain ⟨s1, es1⟩ : ∃ z : Int32, z = fI H w (K.1.2 8 1) := ⟨_, rfl⟩
  rw [← es1] at r1
  obtain ⟨y1, ey1⟩ : ∃ z : Int32, z = fI H b (K.1.2 10 1) := ⟨_, rfl⟩
  rw [← ey1] at r1
  obtain ⟨s4, es4⟩ : ∃ z : Int32, z = fI H w (K.1.2 8 4) := ⟨_, rfl⟩
  rw [← es4] at r4
  obtain ⟨y4, ey4⟩ : ∃ z : Int32, z = fI H b (K.1.2 10 2) := ⟨_, rfl⟩
  rw [← ey4] at r4
  obtain ⟨s5, es5⟩ : ∃ z : Int32, z = fI H w (K.1.2 8 5) := ⟨_, rfl⟩
  rw [← es5] at r5
  obtain ⟨y5, ey5⟩ : ∃ z : Int32, z = fI H b (K.1.2 10 3) := ⟨_, rfl⟩
  rw [← ey5] at r5
  obtain ⟨s10, es10⟩ : ∃ z : Int32, z = fI H w (K.1.2 8 10) := ⟨_, rfl⟩
  rw [← es10] at r10
  obtain ⟨y10, ey10⟩ : ∃ z : Int32, z = fI H b (K.1.2 10 59) := ⟨_, rfl⟩
  rw [← ey10] at r10
  obtain ⟨s13, es13⟩ : ∃ z : Int32, z = fI H w (K.1.2 8 13) := ⟨_, rfl⟩
  rw [← es13] at r13
  obtain ⟨y13, ey13⟩ : ∃ z : Int32, z = fI H b (K.1.2 10 62) := ⟨_, rfl⟩
  rw [← ey13] at r13
  obtain ⟨s16, es16⟩ : ∃ z : Int32, z = fI H w (K.1.2 8 16) := ⟨_, rfl⟩
  rw [← es16] at r16
  obtain ⟨y16, ey16⟩ : ∃ z : Int32, z = fI H b (K.1.2 10 65) := ⟨_, rfl⟩
  rw [← ey16] at r16
  obtain ⟨tq, etq⟩ : ∃ z : Nat, z = fR H a (K.1.2 9 2) := ⟨_, rfl⟩
  have gtq := ty_fr (q := tq) (k := 2) (u := 108) etq hT ga rg_68 rfl
  obtain ⟨uq, euq⟩ : ∃ z : Nat, z = fR H b (K.1.2 10 17) := ⟨_, rfl⟩
  have guq := ty_fr (q := uq) (k := 17) (u := 126) euq hT gb rg_112 rfl
  have htr : TBR (fun j => fI H tq j) (fun j => fI H uq j) tb.toNatClampNeg := by rw [etq, euq, etb]; exact htb
  have ft0 : ∀ j : Nat, fI H tq j = fI H tq j := fun _ => rfl
  have fu0 : ∀ j : Nat, fI H uq j = fI H uq j := fun _ => rfl
  have bta := ty_fi (x := ta) (k := 3) eta hT ga rg_68 rfl
  have cta := i_cl (x := ta) (by omega)
  have btb := ty_fi (x := tb) (k := 18) etb hT gb rg_112 rfl
  have ctb := i_cl (x := tb) (by omega)
  obtain ⟨her0, hsl1, hsl2⟩ := her
  have hsl0 := And.intro hsl1 hsl2
  clear hsl1 hsl2
  rw [← ew] at her0 hsl0
  have re : RE K H w b s1.toInt := RE.cast her0 (by rw [← ey1]; exact r1)
  have hsl : 0 ≤ s5.toInt ∧ s5.toInt ≤ 9999 := by rw [es5]; exact hsl0
  clear her0 hsl0
  have bt_s1 := ty_fi (x := s1) (k := 1) es1 hT gw rg_0 rfl
  have bt_s4 := ty_fi (x := s4) (k := 4) es4 hT gw rg_0 rfl
  have bt_y1 := ty_fi (x := y1) (k := 1) ey1 hT gb rg_112 rfl
  have bt_y4 := ty_fi (x := y4) (k := 2) ey4 hT gb rg_112 rfl
  rcases hk with ⟨kn, h70⟩ | ⟨kq, kn, gkq, h70, q1, q4, q5, q10, q13, q16, rke, ks1, ks2⟩
  · skip
    obtain ⟨hi, ehi⟩ : ∃ z : Int32, z = fI H b (K.1.2 10 70) := ⟨_, rfl⟩
    rw [← ehi] at h70
    obtain ⟨hc0, hs0⟩ := hB0 kn
    obtain ⟨iq, eiq⟩ : ∃ z : Nat, z = fR H b (K.1.2 10 73) := ⟨_, rfl⟩
    have giq := ty_fr (q := iq) (k := 73) (u := 162) eiq hT gb rg_112 rfl
    refine lv_aload_n hx hb dL_law_915 rfl (lv_at hl 2 rfl) ?_
    refine lv_aload_n hx hb dL_law_916 rfl (lv_at hl 3 rfl) ?_
    refine lv_iload_n hx hb dL_law_917 rfl (lv_at hl 0 rfl) ?_
    refine lv_iconst (v := 1) hx hb dL_law_918 (by decide) ?_
    refine lv_iadd hx hb dL_law_919 ?_
    refine lv_topi (fun x101 ex101 => ?_)
    obtain ⟨tx101, ejx101, evx101⟩ := lw_ix (k := 1) ex101 hI hL rfl (by decide)
    clear tx101
    refine va_sld hx hb hX hbl (Nat.not_le.mpr hbl) hS (vp_in_iff.mpr evx101) dL_law_920 ?_
    refine W.eq (g2 := F0 m 921 ls [.int (xs (i.toNatClampNeg + 1)), .ref a]) (congrArg (fun z => F0 m 921 ls [.int (xs z), .ref a]) ejx101) ?_
    refine lv_aload_n hx hb dL_law_921 rfl (lv_at hl 3 rfl) ?_
    refine lv_iload_n hx hb dL_law_922 rfl (lv_at hl 0 rfl) ?_
    refine lv_iconst (v := 2) hx hb dL_law_923 (by decide) ?_
    refine lv_iadd hx hb dL_law_924 ?_
    refine lv_topi (fun x102 ex102 => ?_)
    obtain ⟨tx102, ejx102, evx102⟩ := lw_ix (k := 2) ex102 hI hL rfl (by decide)
    clear tx102
    refine va_sld hx hb hX hbl (Nat.not_le.mpr hbl) hS (vp_in_iff.mpr evx102) dL_law_925 ?_
    refine W.eq (g2 := F0 m 926 ls [.int (xs (i.toNatClampNeg + 2)), .int (xs (i.toNatClampNeg + 1)), .ref a]) (congrArg (fun z => F0 m 926 ls [.int (xs z), .int (xs (i.toNatClampNeg + 1)), .ref a]) ejx102) ?_
    refine lv_aload_n hx hb dL_law_926 rfl (lv_at hl 3 rfl) ?_
    refine lv_iload_n hx hb dL_law_927 rfl (lv_at hl 0 rfl) ?_
    refine lv_iconst (v := 3) hx hb dL_law_928 (by decide) ?_
    refine lv_iadd hx hb dL_law_929 ?_
    refine lv_topi (fun x103 ex103 => ?_)
    obtain ⟨tx103, ejx103, evx103⟩ := lw_ix (k := 3) ex103 hI hL rfl (by decide)
    clear tx103
    refine va_sld hx hb hX hbl (Nat.not_le.mpr hbl) hS (vp_in_iff.mpr evx103) dL_law_930 ?_
    refine W.eq (g2 := F0 m 931 ls [.int (xs (i.toNatClampNeg + 3)), .int (xs (i.toNatClampNeg + 2)), .int (xs (i.toNatClampNeg + 1)), .ref a]) (congrArg (fun z => F0 m 931 ls [.int (xs z), .int (xs (i.toNatClampNeg + 2)), .int (xs (i.toNatClampNeg + 1)), .ref a]) ejx103) ?_
    refine x_V (As := [.int (xs (i.toNatClampNeg + 1)), .int (xs (i.toNatClampNeg + 2)), .int (xs (i.toNatClampNeg + 3))]) (rest := []) C (a_X9_tap_n l K G H ((xs (i.toNatClampNeg + 1))) ((xs (i.toNatClampNeg + 2))) ((xs (i.toNatClampNeg + 3))) hT ga) yo_X9_tap wM_L_96 ⟨⟨by decide, by decide⟩, show _ ≤ 60000 from Nat.le_trans hc (by decide), show _ ≤ 8922250 from Nat.le_trans hs (by decide)⟩ (x_rv C hT (ci := 9) rfl ga rg_68) rfl hl.1 rfl (Nat.le_of_ble_eq_true rfl) dL_law_931 hS (AE_new hN hS.1) (fun vH104 H104 locsH104 pH104 zH104 kH104 hSH104 => ?_)
    obtain ⟨x105, hvH104, m106, hTH104⟩ := pH104
    subst hvH104
    have g107 : CG (avw K H104 b) := CG.congr (fun k hk j => av_eff hT kH104 gb (by decide) (CG_eff [1, 9, 10, 12, 14] (by decide) k hk)) cg
    have g108 : TU (avw K H104 b) (svw K H104 b) := TU.congr (fun k hk j => av_eff hT kH104 gb (by decide) (TU_eff [1, 9, 10, 12, 14] (by decide) k hk)) (fun k hk => sv_eff hT kH104 gb (by decide)) tu
    have g109 : WD (avw K H104 b) := WD.congr (fun k hk j => av_eff hT kH104 gb (by decide) (WD_eff [1, 9, 10, 12, 14] (by decide) k hk)) wd
    have g110 : IM (avw K H104 b) := IM.congr (fun k hk j => av_eff hT kH104 gb (by decide) (IM_eff [1, 9, 10, 12, 14] (by decide) k hk)) im
    have f111 : ∀ j : Nat, fI H104 tq j = fI H tq j := fun j => (fI_kept (x_lt hT kH104 gtq (by decide))).trans (ft0 j)
    have f112 : ∀ j : Nat, fI H104 uq j = fI H uq j := fun j => (fI_kept (x_lt hT kH104 guq (by decide))).trans (fu0 j)
    have m113 := (ew).trans (fR_kept (x_lt hT kH104 ga (by decide))).symm
    have m114 := (eta).trans (fI_kept (x_lt hT kH104 ga (by decide))).symm
    have m115 := (etb).trans (fI_kept (x_lt hT kH104 gb (by decide))).symm
    have m116 := (es1).trans (fI_kept (x_lt hT kH104 gw (by decide))).symm
    have m117 := (ey1).trans (fI_kept (x_lt hT kH104 gb (by decide))).symm
    have m118 := (es4).trans (fI_kept (x_lt hT kH104 gw (by decide))).symm
    have m119 := (ey4).trans (fI_kept (x_lt hT kH104 gb (by decide))).symm
    have m120 := (es5).trans (fI_kept (x_lt hT kH104 gw (by decide))).symm
    have m121 := (ey5).trans (fI_kept (x_lt hT kH104 gb (by decide))).symm
    have m122 := (es10).trans (fI_kept (x_lt hT kH104 gw (by decide))).symm
    have m123 := (ey10).trans (fI_kept (x_lt hT kH104 gb (by decide))).symm
    have m124 := (es13).trans (fI_kept (x_lt hT kH104 gw (by decide))).symm
    have m125 := (ey13).trans (fI_kept (x_lt hT kH104 gb (by decide))).symm
    have m126 := (es16).trans (fI_kept (x_lt hT kH104 gw (by decide))).symm
    have m127 := (ey16).trans (fI_kept (x_lt hT kH104 gb (by decide))).symm
    have m128 := (etq).trans (fR_kept (x_lt hT kH104 ga (by decide))).symm
    have m129 := (euq).trans (fR_kept (x_lt hT kH104 gb (by decide))).symm
    have m130 := (ehi).trans (fI_kept (x_lt hT kH104 gb (by decide))).symm
    have m131 := (fV_kept (x_lt hT kH104 ga (by decide))).trans kn
    have m132 := (eiq).trans (fR_kept (x_lt hT kH104 gb (by decide))).symm
    refine W.eq (g2 := F0 m 934 ls [.int x105]) rfl ?_
    have re133 : RE K H104 w b s1.toInt := RE.nbf re hT gw gb m106 (fun q t hq ht => x_lt hT kH104 hq (by first | exact nmr ht (by decide) | exact nmo ht (by decide) | exact nme ht (by decide) | exact nmq ht (by decide) | decide | (intro z; simp only [List.mem_cons, List.not_mem_nil, or_false] at z <;> omega) | omega))
    refine lv_pop hx hb dL_law_934 rfl ?_
    refine lv_aload_n hx hb dL_law_935 rfl (lv_at hl 1 rfl) ?_
    refine lv_aload_n hx hb dL_law_936 rfl (lv_at hl 3 rfl) ?_
    refine lv_iload_n hx hb dL_law_937 rfl (lv_at hl 0 rfl) ?_
    refine lv_iconst (v := 1) hx hb dL_law_938 (by decide) ?_
    refine lv_iadd hx hb dL_law_939 ?_
    refine lv_topi (fun x134 ex134 => ?_)
    obtain ⟨tx134, ejx134, evx134⟩ := lw_ix (k := 1) ex134 hI hL rfl (by decide)
    clear tx134
    refine va_sld hx hb hX hbl (Nat.not_le.mpr hbl) hSH104 (vp_in_iff.mpr evx134) dL_law_940 ?_
    refine W.eq (g2 := F0 m 941 ls [.int (xs (i.toNatClampNeg + 1)), .ref b]) (congrArg (fun z => F0 m 941 ls [.int (xs z), .ref b]) ejx134) ?_
    refine lv_aload_n hx hb dL_law_941 rfl (lv_at hl 3 rfl) ?_
    refine lv_iload_n hx hb dL_law_942 rfl (lv_at hl 0 rfl) ?_
    refine lv_iconst (v := 2) hx hb dL_law_943 (by decide) ?_
    refine lv_iadd hx hb dL_law_944 ?_
    refine lv_topi (fun x135 ex135 => ?_)
    obtain ⟨tx135, ejx135, evx135⟩ := lw_ix (k := 2) ex135 hI hL rfl (by decide)
    clear tx135
    refine va_sld hx hb hX hbl (Nat.not_le.mpr hbl) hSH104 (vp_in_iff.mpr evx135) dL_law_945 ?_
    refine W.eq (g2 := F0 m 946 ls [.int (xs (i.toNatClampNeg + 2)), .int (xs (i.toNatClampNeg + 1)), .ref b]) (congrArg (fun z => F0 m 946 ls [.int (xs z), .int (xs (i.toNatClampNeg + 1)), .ref b]) ejx135) ?_
    refine lv_aload_n hx hb dL_law_946 rfl (lv_at hl 3 rfl) ?_
    refine lv_iload_n hx hb dL_law_947 rfl (lv_at hl 0 rfl) ?_
    refine lv_iconst (v := 3) hx hb dL_law_948 (by decide) ?_
    refine lv_iadd hx hb dL_law_949 ?_
    refine lv_topi (fun x136 ex136 => ?_)
    obtain ⟨tx136, ejx136, evx136⟩ := lw_ix (k := 3) ex136 hI hL rfl (by decide)
    clear tx136
    refine va_sld hx hb hX hbl (Nat.not_le.mpr hbl) hSH104 (vp_in_iff.mpr evx136) dL_law_950 ?_
    refine W.eq (g2 := F0 m 951 ls [.int (xs (i.toNatClampNeg + 3)), .int (xs (i.toNatClampNeg + 2)), .int (xs (i.toNatClampNeg + 1)), .ref b]) (congrArg (fun z => F0 m 951 ls [.int (xs z), .int (xs (i.toNatClampNeg + 2)), .int (xs (i.toNatClampNeg + 1)), .ref b]) ejx136) ?_
    obtain ⟨q137, eq137⟩ : ∃ z : Nat, @Eq Ad z (fR H104 b (K.1.2 10 50)) := ⟨_, rfl⟩
    have gq137 := ty_fr (q := q137) (k := 50) (u := 146) eq137 hTH104 gb rg_112 rfl
    refine x_V (As := [.int (xs (i.toNatClampNeg + 1)), .int (xs (i.toNatClampNeg + 2)), .int (xs (i.toNatClampNeg + 3))]) (rest := []) C (a_X10_tap l K G H104 ((xs (i.toNatClampNeg + 1))) ((xs (i.toNatClampNeg + 2))) ((xs (i.toNatClampNeg + 3))) hTH104 gb gq137 eq137 g107 g108 g109 g110) yo_X10_tap wM_L_99 ⟨⟨by decide, by decide⟩, show _ ≤ 60000 from Nat.le_trans hc (by decide), show _ ≤ 8922250 from Nat.le_trans hs (by decide)⟩ (x_rv C hTH104 (ci := 10) rfl gb rg_112) rfl hl.1 rfl (Nat.le_of_ble_eq_true rfl) dL_law_951 hSH104 (AE_new hN hSH104.1) (fun vH138 H138 locsH138 pH138 zH138 kH138 hSH138 => ?_)
    obtain ⟨x139, hvH138, m140, g141, g142, g143, g144, mf145, hTH138⟩ := pH138
    subst hvH138
    have f146 : ∀ j : Nat, fI H138 tq j = fI H tq j := fun j => (fI_kept (x_lt hTH104 kH138 gtq (by decide))).trans (f111 j)
    have f147 : ∀ j : Nat, fI H138 uq j = fI H uq j := fun j => (fI_kept (x_lt hTH104 kH138 guq (by decide))).trans (f112 j)
    have m148 := (m113).trans (fR_kept (x_lt hTH104 kH138 ga (by decide))).symm
    have m149 := (m114).trans (fI_kept (x_lt hTH104 kH138 ga (by decide))).symm
    have m150 := (m116).trans (fI_kept (x_lt hTH104 kH138 gw (by decide))).symm
    have m151 := (m118).trans (fI_kept (x_lt hTH104 kH138 gw (by decide))).symm
    have m152 := (m120).trans (fI_kept (x_lt hTH104 kH138 gw (by decide))).symm
    have m153 := (m122).trans (fI_kept (x_lt hTH104 kH138 gw (by decide))).symm
    have m154 := (m124).trans (fI_kept (x_lt hTH104 kH138 gw (by decide))).symm
    have m155 := (m126).trans (fI_kept (x_lt hTH104 kH138 gw (by decide))).symm
    have m156 := (m128).trans (fR_kept (x_lt hTH104 kH138 ga (by decide))).symm
    have m157 := (fV_kept (x_lt hTH104 kH138 ga (by decide))).trans m131
    have m158 := (m115).trans (MF.i mf145 (k := 18) (by decide) (by decide)).symm
    have m159 := (m117).trans (MF.i mf145 (k := 1) (by decide) (by decide)).symm
    have m160 := (m119).trans (MF.i mf145 (k := 2) (by decide) (by decide)).symm
    have m161 := (m121).trans (MF.i mf145 (k := 3) (by decide) (by decide)).symm
    have m162 := (m123).trans (MF.i mf145 (k := 59) (by decide) (by decide)).symm
    have m163 := (m125).trans (MF.i mf145 (k := 62) (by decide) (by decide)).symm
    have m164 := (m127).trans (MF.i mf145 (k := 65) (by decide) (by decide)).symm
    have m165 := (m129).trans (MF.r mf145 (k := 17) (by decide) (by decide)).symm
    have m166 := (m130).trans (MF.i mf145 (k := 70) (by decide) (by decide)).symm
    have m167 := (m132).trans (MF.r mf145 (k := 73) (by decide) (by decide)).symm
    have m168 := (eq137).trans (MF.r mf145 (k := 50) (by decide) (by decide)).symm
    refine W.eq (g2 := F0 m 954 ls [.int x139]) rfl ?_
    have re169 : RE K H138 w b s1.toInt := RE.ref re133 hTH104 gw gb (fun k hk => MF.r mf145 (by omega) (by intro z; simp only [List.mem_cons, List.not_mem_nil, or_false] at z; omega)) (fun q t hq ht => x_lt hTH104 kH138 hq (by first | exact nmr ht (by decide) | exact nmo ht (by decide) | exact nme ht (by decide) | exact nmq ht (by decide) | decide | (intro z; simp only [List.mem_cons, List.not_mem_nil, or_false] at z <;> omega) | omega))
    refine lv_pop hx hb dL_law_954 rfl ?_
    refine lv_goto (tgt := 1509) hx hb dL_law_955 (by decide) ?_
    exact nx G H138 locsH138 _ _ ls ⟨hTH138, hN, ga, gb, g141, g142, g143, g144, ⟨(by rw [← m149, ← m158]; exact rt), (by rw [← m148, ← m150, ← m159]; exact r1), (by rw [← m148, ← m151, ← m160]; exact r4), (by rw [← m148, ← m152, ← m161]; exact r5), (by rw [← m148, ← m153, ← m162]; exact r10), (by rw [← m148, ← m154, ← m163]; exact r13), (by rw [← m148, ← m155, ← m164]; exact r16)⟩, Or.inl ⟨m157, (by rw [← m166]; exact h70)⟩, (by unfold TB; rw [← m156, ← m165, ← m158]; exact TBR.of htr f146 f147 (by omega)), (by unfold RELE; rw [← m148, ← m159, ← m152]; exact ⟨RE.cast re169 (by omega), by omega, by omega⟩), hSH138⟩ hl ⟨hc, hs, fun _ => ⟨hc0, hs0⟩⟩
  · skip
    obtain ⟨hi, ehi⟩ : ∃ z : Int32, z = fI H b (K.1.2 10 70) := ⟨_, rfl⟩
    rw [← ehi] at h70
    obtain ⟨iq, eiq⟩ : ∃ z : Nat, z = fR H b (K.1.2 10 73) := ⟨_, rfl⟩
    have giq := ty_fr (q := iq) (k := 73) (u := 162) eiq hT gb rg_112 rfl
    rw [← eiq] at q1 q4 q5 q10 q13 q16
    obtain ⟨k1, ek1⟩ : ∃ z : Int32, z = fI H kq (K.1.2 8 1) := ⟨_, rfl⟩
    rw [← ek1] at q1
    obtain ⟨i1, ei1⟩ : ∃ z : Int32, z = fI H iq ((0 : Int32).toNatClampNeg) := ⟨_, rfl⟩
    rw [← ei1] at q1
    obtain ⟨k4, ek4⟩ : ∃ z : Int32, z = fI H kq (K.1.2 8 4) := ⟨_, rfl⟩
    rw [← ek4] at q4
    obtain ⟨i4, ei4⟩ : ∃ z : Int32, z = fI H iq ((1 : Int32).toNatClampNeg) := ⟨_, rfl⟩
    rw [← ei4] at q4
    obtain ⟨k5, ek5⟩ : ∃ z : Int32, z = fI H kq (K.1.2 8 5) := ⟨_, rfl⟩
    rw [← ek5] at q5
    obtain ⟨i5, ei5⟩ : ∃ z : Int32, z = fI H iq ((2 : Int32).toNatClampNeg) := ⟨_, rfl⟩
    rw [← ei5] at q5
    obtain ⟨k10, ek10⟩ : ∃ z : Int32, z = fI H kq (K.1.2 8 10) := ⟨_, rfl⟩
    rw [← ek10] at q10
    obtain ⟨i10, ei10⟩ : ∃ z : Int32, z = fI H iq ((3 : Int32).toNatClampNeg) := ⟨_, rfl⟩
    rw [← ei10] at q10
    obtain ⟨k13, ek13⟩ : ∃ z : Int32, z = fI H kq (K.1.2 8 13) := ⟨_, rfl⟩
    rw [← ek13] at q13
    obtain ⟨i13, ei13⟩ : ∃ z : Int32, z = fI H iq ((4 : Int32).toNatClampNeg) := ⟨_, rfl⟩
    rw [← ei13] at q13
    obtain ⟨k16, ek16⟩ : ∃ z : Int32, z = fI H kq (K.1.2 8 16) := ⟨_, rfl⟩
    rw [← ek16] at q16
    obtain ⟨i16, ei16⟩ : ∃ z : Int32, z = fI H iq ((5 : Int32).toNatClampNeg) := ⟨_, rfl⟩
    rw [← ei16] at q16
    rw [← eiq, ← ek1] at rke
    have hsk : 0 ≤ k5.toInt ∧ k5.toInt ≤ 9999 := by rw [ek5]; exact ⟨ks1, ks2⟩
    refine lv_aload_n hx hb dL_law_915 rfl (lv_at hl 2 rfl) ?_
    refine lv_aload_n hx hb dL_law_916 rfl (lv_at hl 3 rfl) ?_
    refine lv_iload_n hx hb dL_law_917 rfl (lv_at hl 0 rfl) ?_
    refine lv_iconst (v := 1) hx hb dL_law_918 (by decide) ?_
    refine lv_iadd hx hb dL_law_919 ?_
    refine lv_topi (fun x170 ex170 => ?_)
    obtain ⟨tx170, ejx170, evx170⟩ := lw_ix (k := 1) ex170 hI hL rfl (by decide)
    clear tx170
    refine va_sld hx hb hX hbl (Nat.not_le.mpr hbl) hS (vp_in_iff.mpr evx170) dL_law_920 ?_
    refine W.eq (g2 := F0 m 921 ls [.int (xs (i.toNatClampNeg + 1)), .ref a]) (congrArg (fun z => F0 m 921 ls [.int (xs z), .ref a]) ejx170) ?_
    refine lv_aload_n hx hb dL_law_921 rfl (lv_at hl 3 rfl) ?_
    refine lv_iload_n hx hb dL_law_922 rfl (lv_at hl 0 rfl) ?_
    refine lv_iconst (v := 2) hx hb dL_law_923 (by decide) ?_
    refine lv_iadd hx hb dL_law_924 ?_
    refine lv_topi (fun x171 ex171 => ?_)
    obtain ⟨tx171, ejx171, evx171⟩ := lw_ix (k := 2) ex171 hI hL rfl (by decide)
    clear tx171
    refine va_sld hx hb hX hbl (Nat.not_le.mpr hbl) hS (vp_in_iff.mpr evx171) dL_law_925 ?_
    refine W.eq (g2 := F0 m 926 ls [.int (xs (i.toNatClampNeg + 2)), .int (xs (i.toNatClampNeg + 1)), .ref a]) (congrArg (fun z => F0 m 926 ls [.int (xs z), .int (xs (i.toNatClampNeg + 1)), .ref a]) ejx171) ?_
    refine lv_aload_n hx hb dL_law_926 rfl (lv_at hl 3 rfl) ?_
    refine lv_iload_n hx hb dL_law_927 rfl (lv_at hl 0 rfl) ?_
    refine lv_iconst (v := 3) hx hb dL_law_928 (by decide) ?_
    refine lv_iadd hx hb dL_law_929 ?_
    refine lv_topi (fun x172 ex172 => ?_)
    obtain ⟨tx172, ejx172, evx172⟩ := lw_ix (k := 3) ex172 hI hL rfl (by decide)
    clear tx172
    refine va_sld hx hb hX hbl (Nat.not_le.mpr hbl) hS (vp_in_iff.mpr evx172) dL_law_930 ?_
    refine W.eq (g2 := F0 m 931 ls [.int (xs (i.toNatClampNeg + 3)), .int (xs (i.toNatClampNeg + 2)), .int (xs (i.toNatClampNeg + 1)), .ref a]) (congrArg (fun z => F0 m 931 ls [.int (xs z), .int (xs (i.toNatClampNeg + 2)), .int (xs (i.toNatClampNeg + 1)), .ref a]) ejx172) ?_
    refine x_V (As := [.int (xs (i.toNatClampNeg + 1)), .int (xs (i.toNatClampNeg + 2)), .int (xs (i.toNatClampNeg + 3))]) (rest := []) C (a_X9_tap_n l K G H ((xs (i.toNatClampNeg + 1))) ((xs (i.toNatClampNeg + 2))) ((xs (i.toNatClampNeg + 3))) hT ga) yo_X9_tap wM_L_96 ⟨⟨by decide, by decide⟩, show _ ≤ 60000 from Nat.le_trans hc (by decide), show _ ≤ 8922250 from Nat.le_trans hs (by decide)⟩ (x_rv C hT (ci := 9) rfl ga rg_68) rfl hl.1 rfl (Nat.le_of_ble_eq_true rfl) dL_law_931 hS (AE_new hN hS.1) (fun vH173 H173 locsH173 pH173 zH173 kH173 hSH173 => ?_)
    obtain ⟨x174, hvH173, m175, hTH173⟩ := pH173
    subst hvH173
    have g176 : CG (avw K H173 b) := CG.congr (fun k hk j => av_eff hT kH173 gb (by decide) (CG_eff [1, 9, 10, 12, 14] (by decide) k hk)) cg
    have g177 : TU (avw K H173 b) (svw K H173 b) := TU.congr (fun k hk j => av_eff hT kH173 gb (by decide) (TU_eff [1, 9, 10, 12, 14] (by decide) k hk)) (fun k hk => sv_eff hT kH173 gb (by decide)) tu
    have g178 : WD (avw K H173 b) := WD.congr (fun k hk j => av_eff hT kH173 gb (by decide) (WD_eff [1, 9, 10, 12, 14] (by decide) k hk)) wd
    have g179 : IM (avw K H173 b) := IM.congr (fun k hk j => av_eff hT kH173 gb (by decide) (IM_eff [1, 9, 10, 12, 14] (by decide) k hk)) im
    have f180 : ∀ j : Nat, fI H173 tq j = fI H tq j := fun j => (fI_kept (x_lt hT kH173 gtq (by decide))).trans (ft0 j)
    have f181 : ∀ j : Nat, fI H173 uq j = fI H uq j := fun j => (fI_kept (x_lt hT kH173 guq (by decide))).trans (fu0 j)
    have m182 := (ew).trans (fR_kept (x_lt hT kH173 ga (by decide))).symm
    have m183 := (eta).trans (fI_kept (x_lt hT kH173 ga (by decide))).symm
    have m184 := (etb).trans (fI_kept (x_lt hT kH173 gb (by decide))).symm
    have m185 := (es1).trans (fI_kept (x_lt hT kH173 gw (by decide))).symm
    have m186 := (ey1).trans (fI_kept (x_lt hT kH173 gb (by decide))).symm
    have m187 := (es4).trans (fI_kept (x_lt hT kH173 gw (by decide))).symm
    have m188 := (ey4).trans (fI_kept (x_lt hT kH173 gb (by decide))).symm
    have m189 := (es5).trans (fI_kept (x_lt hT kH173 gw (by decide))).symm
    have m190 := (ey5).trans (fI_kept (x_lt hT kH173 gb (by decide))).symm
    have m191 := (es10).trans (fI_kept (x_lt hT kH173 gw (by decide))).symm
    have m192 := (ey10).trans (fI_kept (x_lt hT kH173 gb (by decide))).symm
    have m193 := (es13).trans (fI_kept (x_lt hT kH173 gw (by decide))).symm
    have m194 := (ey13).trans (fI_kept (x_lt hT kH173 gb (by decide))).symm
    have m195 := (es16).trans (fI_kept (x_lt hT kH173 gw (by decide))).symm
    have m196 := (ey16).trans (fI_kept (x_lt hT kH173 gb (by decide))).symm
    have m197 := (etq).trans (fR_kept (x_lt hT kH173 ga (by decide))).symm
    have m198 := (euq).trans (fR_kept (x_lt hT kH173 gb (by decide))).symm
    have m199 := (ehi).trans (fI_kept (x_lt hT kH173 gb (by decide))).symm
    have m200 := (fV_kept (x_lt hT kH173 ga (by decide))).trans kn
    have m201 := (eiq).trans (fR_kept (x_lt hT kH173 gb (by decide))).symm
    have m202 := (ek1).trans (fI_kept (x_lt hT kH173 gkq (by decide))).symm
    have m203 := (ei1).trans (fI_kept (x_lt hT kH173 giq (by decide))).symm
    have m204 := (ek4).trans (fI_kept (x_lt hT kH173 gkq (by decide))).symm
    have m205 := (ei4).trans (fI_kept (x_lt hT kH173 giq (by decide))).symm
    have m206 := (ek5).trans (fI_kept (x_lt hT kH173 gkq (by decide))).symm
    have m207 := (ei5).trans (fI_kept (x_lt hT kH173 giq (by decide))).symm
    have m208 := (ek10).trans (fI_kept (x_lt hT kH173 gkq (by decide))).symm
    have m209 := (ei10).trans (fI_kept (x_lt hT kH173 giq (by decide))).symm
    have m210 := (ek13).trans (fI_kept (x_lt hT kH173 gkq (by decide))).symm
    have m211 := (ei13).trans (fI_kept (x_lt hT kH173 giq (by decide))).symm
    have m212 := (ek16).trans (fI_kept (x_lt hT kH173 gkq (by decide))).symm
    have m213 := (ei16).trans (fI_kept (x_lt hT kH173 giq (by decide))).symm
    refine W.eq (g2 := F0 m 934 ls [.int x174]) rfl ?_
    have rk214 : RKI K H173 kq iq k1.toInt := RKI.kept rke hT gkq (x_lt hT kH173 giq (by first | exact nmr ht (by decide) | exact nmo ht (by decide) | exact nme ht (by decide) | exact nmq ht (by decide) | decide | (intro z; simp only [List.mem_cons, List.not_mem_nil, or_false] at z <;> omega) | omega)) (fun q t hq ht => x_lt hT kH173 hq (by first | exact nmr ht (by decide) | exact nmo ht (by decide) | exact nme ht (by decide) | exact nmq ht (by decide) | decide | (intro z; simp only [List.mem_cons, List.not_mem_nil, or_false] at z <;> omega) | omega))
    have re215 : RE K H173 w b s1.toInt := RE.nbf re hT gw gb m175 (fun q t hq ht => x_lt hT kH173 hq (by first | exact nmr ht (by decide) | exact nmo ht (by decide) | exact nme ht (by decide) | exact nmq ht (by decide) | decide | (intro z; simp only [List.mem_cons, List.not_mem_nil, or_false] at z <;> omega) | omega))
    refine lv_pop hx hb dL_law_934 rfl ?_
    refine lv_aload_n hx hb dL_law_935 rfl (lv_at hl 1 rfl) ?_
    refine lv_aload_n hx hb dL_law_936 rfl (lv_at hl 3 rfl) ?_
    refine lv_iload_n hx hb dL_law_937 rfl (lv_at hl 0 rfl) ?_
    refine lv_iconst (v := 1) hx hb dL_law_938 (by decide) ?_
    refine lv_iadd hx hb dL_law_939 ?_
    refine lv_topi (fun x216 ex216 => ?_)
    obtain ⟨tx216, ejx216, evx216⟩ := lw_ix (k := 1) ex216 hI hL rfl (by decide)
    clear tx216
    refine va_sld hx hb hX hbl (Nat.not_le.mpr hbl) hSH173 (vp_in_iff.mpr evx216) dL_law_940 ?_
    refine W.eq (g2 := F0 m 941 ls [.int (xs (i.toNatClampNeg + 1)), .ref b]) (congrArg (fun z => F0 m 941 ls [.int (xs z), .ref b]) ejx216) ?_
    refine lv_aload_n hx hb dL_law_941 rfl (lv_at hl 3 rfl) ?_
    refine lv_iload_n hx hb dL_law_942 rfl (lv_at hl 0 rfl) ?_
    refine lv_iconst (v := 2) hx hb dL_law_943 (by decide) ?_
    refine lv_iadd hx hb dL_law_944 ?_
    refine lv_topi (fun x217 ex217 => ?_)
    obtain ⟨tx217, ejx217, evx217⟩ := lw_ix (k := 2) ex217 hI hL rfl (by decide)
    clear tx217
    refine va_sld hx hb hX hbl (Nat.not_le.mpr hbl) hSH173 (vp_in_iff.mpr evx217) dL_law_945 ?_
    refine W.eq (g2 := F0 m 946 ls [.int (xs (i.toNatClampNeg + 2)), .int (xs (i.toNatClampNeg + 1)), .ref b]) (congrArg (fun z => F0 m 946 ls [.int (xs z), .int (xs (i.toNatClampNeg + 1)), .ref b]) ejx217) ?_
    refine lv_aload_n hx hb dL_law_946 rfl (lv_at hl 3 rfl) ?_
    refine lv_iload_n hx hb dL_law_947 rfl (lv_at hl 0 rfl) ?_
    refine lv_iconst (v := 3) hx hb dL_law_948 (by decide) ?_
    refine lv_iadd hx hb dL_law_949 ?_
    refine lv_topi (fun x218 ex218 => ?_)
    obtain ⟨tx218, ejx218, evx218⟩ := lw_ix (k := 3) ex218 hI hL rfl (by decide)
    clear tx218
    refine va_sld hx hb hX hbl (Nat.not_le.mpr hbl) hSH173 (vp_in_iff.mpr evx218) dL_law_950 ?_
    refine W.eq (g2 := F0 m 951 ls [.int (xs (i.toNatClampNeg + 3)), .int (xs (i.toNatClampNeg + 2)), .int (xs (i.toNatClampNeg + 1)), .ref b]) (congrArg (fun z => F0 m 951 ls [.int (xs z), .int (xs (i.toNatClampNeg + 2)), .int (xs (i.toNatClampNeg + 1)), .ref b]) ejx218) ?_
    obtain ⟨q219, eq219⟩ : ∃ z : Nat, @Eq Ad z (fR H173 b (K.1.2 10 50)) := ⟨_, rfl⟩
    have gq219 := ty_fr (q := q219) (k := 50) (u := 146) eq219 hTH173 gb rg_112 rfl
    refine x_V (As := [.int (xs (i.toNatClampNeg + 1)), .int (xs (i.toNatClampNeg + 2)), .int (xs (i.toNatClampNeg + 3))]) (rest := []) C (a_X10_tap l K G H173 ((xs (i.toNatClampNeg + 1))) ((xs (i.toNatClampNeg + 2))) ((xs (i.toNatClampNeg + 3))) hTH173 gb gq219 eq219 g176 g177 g178 g179) yo_X10_tap wM_L_99 ⟨⟨by decide, by decide⟩, show _ ≤ 60000 from Nat.le_trans hc (by decide), show _ ≤ 8922250 from Nat.le_trans hs (by decide)⟩ (x_rv C hTH173 (ci := 10) rfl gb rg_112) rfl hl.1 rfl (Nat.le_of_ble_eq_true rfl) dL_law_951 hSH173 (AE_new hN hSH173.1) (fun vH220 H220 locsH220 pH220 zH220 kH220 hSH220 => ?_)
    obtain ⟨x221, hvH220, m222, g223, g224, g225, g226, mf227, hTH220⟩ := pH220
    subst hvH220
    have f228 : ∀ j : Nat, fI H220 tq j = fI H tq j := fun j => (fI_kept (x_lt hTH173 kH220 gtq (by decide))).trans (f180 j)
    have f229 : ∀ j : Nat, fI H220 uq j = fI H uq j := fun j => (fI_kept (x_lt hTH173 kH220 guq (by decide))).trans (f181 j)
    have m230 := (m182).trans (fR_kept (x_lt hTH173 kH220 ga (by decide))).symm
    have m231 := (m183).trans (fI_kept (x_lt hTH173 kH220 ga (by decide))).symm
    have m232 := (m185).trans (fI_kept (x_lt hTH173 kH220 gw (by decide))).symm
    have m233 := (m187).trans (fI_kept (x_lt hTH173 kH220 gw (by decide))).symm
    have m234 := (m189).trans (fI_kept (x_lt hTH173 kH220 gw (by decide))).symm
    have m235 := (m191).trans (fI_kept (x_lt hTH173 kH220 gw (by decide))).symm
    have m236 := (m193).trans (fI_kept (x_lt hTH173 kH220 gw (by decide))).symm
    have m237 := (m195).trans (fI_kept (x_lt hTH173 kH220 gw (by decide))).symm
    have m238 := (m197).trans (fR_kept (x_lt hTH173 kH220 ga (by decide))).symm
    have m239 := (fV_kept (x_lt hTH173 kH220 ga (by decide))).trans m200
    have m240 := (m202).trans (fI_kept (x_lt hTH173 kH220 gkq (by decide))).symm
    have m241 := (m203).trans (fI_kept (x_lt hTH173 kH220 giq (by decide))).symm
    have m242 := (m204).trans (fI_kept (x_lt hTH173 kH220 gkq (by decide))).symm
    have m243 := (m205).trans (fI_kept (x_lt hTH173 kH220 giq (by decide))).symm
    have m244 := (m206).trans (fI_kept (x_lt hTH173 kH220 gkq (by decide))).symm
    have m245 := (m207).trans (fI_kept (x_lt hTH173 kH220 giq (by decide))).symm
    have m246 := (m208).trans (fI_kept (x_lt hTH173 kH220 gkq (by decide))).symm
    have m247 := (m209).trans (fI_kept (x_lt hTH173 kH220 giq (by decide))).symm
    have m248 := (m210).trans (fI_kept (x_lt hTH173 kH220 gkq (by decide))).symm
    have m249 := (m211).trans (fI_kept (x_lt hTH173 kH220 giq (by decide))).symm
    have m250 := (m212).trans (fI_kept (x_lt hTH173 kH220 gkq (by decide))).symm
    have m251 := (m213).trans (fI_kept (x_lt hTH173 kH220 giq (by decide))).symm
    have m252 := (m184).trans (MF.i mf227 (k := 18) (by decide) (by decide)).symm
    have m253 := (m186).trans (MF.i mf227 (k := 1) (by decide) (by decide)).symm
    have m254 := (m188).trans (MF.i mf227 (k := 2) (by decide) (by decide)).symm
    have m255 := (m190).trans (MF.i mf227 (k := 3) (by decide) (by decide)).symm
    have m256 := (m192).trans (MF.i mf227 (k := 59) (by decide) (by decide)).symm
    have m257 := (m194).trans (MF.i mf227 (k := 62) (by decide) (by decide)).symm
    have m258 := (m196).trans (MF.i mf227 (k := 65) (by decide) (by decide)).symm
    have m259 := (m198).trans (MF.r mf227 (k := 17) (by decide) (by decide)).symm
    have m260 := (m199).trans (MF.i mf227 (k := 70) (by decide) (by decide)).symm
    have m261 := (m201).trans (MF.r mf227 (k := 73) (by decide) (by decide)).symm
    have m262 := (eq219).trans (MF.r mf227 (k := 50) (by decide) (by decide)).symm
    refine W.eq (g2 := F0 m 954 ls [.int x221]) rfl ?_
    have rk263 : RKI K H220 kq iq k1.toInt := RKI.kept rk214 hTH173 gkq (x_lt hTH173 kH220 giq (by first | exact nmr ht (by decide) | exact nmo ht (by decide) | exact nme ht (by decide) | exact nmq ht (by decide) | decide | (intro z; simp only [List.mem_cons, List.not_mem_nil, or_false] at z <;> omega) | omega)) (fun q t hq ht => x_lt hTH173 kH220 hq (by first | exact nmr ht (by decide) | exact nmo ht (by decide) | exact nme ht (by decide) | exact nmq ht (by decide) | decide | (intro z; simp only [List.mem_cons, List.not_mem_nil, or_false] at z <;> omega) | omega))
    have re264 : RE K H220 w b s1.toInt := RE.ref re215 hTH173 gw gb (fun k hk => MF.r mf227 (by omega) (by intro z; simp only [List.mem_cons, List.not_mem_nil, or_false] at z; omega)) (fun q t hq ht => x_lt hTH173 kH220 hq (by first | exact nmr ht (by decide) | exact nmo ht (by decide) | exact nme ht (by decide) | exact nmq ht (by decide) | decide | (intro z; simp only [List.mem_cons, List.not_mem_nil, or_false] at z <;> omega) | omega))
    refine lv_pop hx hb dL_law_954 rfl ?_
    refine lv_goto (tgt := 1509) hx hb dL_law_955 (by decide) ?_
    exact nx G H220 locsH220 _ _ ls ⟨hTH220, hN, ga, gb, g223, g224, g225, g226, ⟨(by rw [← m231, ← m252]; exact rt), (by rw [← m230, ← m232, ← m253]; exact r1), (by rw [← m230, ← m233, ← m254]; exact r4), (by rw [← m230, ← m234, ← m255]; exact r5), (by rw [← m230, ← m235, ← m256]; exact r10), (by rw [← m230, ← m236, ← m257]; exact r13), (by rw [← m230, ← m237, ← m258]; exact r16)⟩, Or.inr ⟨kq, m239, gkq, (by rw [← m260]; exact h70), (by rw [← m240, ← m261, ← m241]; exact q1), (by rw [← m242, ← m261, ← m243]; exact q4), (by rw [← m244, ← m261, ← m245]; exact q5), (by rw [← m246, ← m261, ← m247]; exact q10), (by rw [← m248, ← m261, ← m249]; exact q13), (by rw [← m250, ← m261, ← m251]; exact q16), (by rw [← m261, ← m240]; exact RKI.cast rk263 (by omega)), (by rw [← m244]; omega), (by rw [← m244]; omega)⟩, (by unfold TB; rw [← m238, ← m259, ← m252]; exact TBR.of htr f228 f229 (by omega)), (by unfold RELE; rw [← m230, ← m253, ← m234]; exact ⟨RE.cast re264 (by omega), by omega, by omega⟩), hSH220⟩ hl ⟨hc, hs, fun h => by have h1 := h.symm.trans m239; cases h1⟩