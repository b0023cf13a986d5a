set_option maxRecDepth 100000 in
set_option maxHeartbeats 8000000 in
theorem lw_c16 {p : Program} {l : Launch} {e : Env} {s : State} {m : MethodId} {below : List Frame} {meth : Method} {c : Code} {K : KE} {b0 L : Nat} {xs : Nat → Int32} {G : Nat → Option Nat} {H : Heap} {locs : List Loc} {a b : Nat} {cells slots : Nat} {ls : Array Slot} {i : Int32} {n : Nat} (D : LC p K s m meth c b0 L xs) (S : SX K s G H locs a b) (hl : lv_has ls 4 [(3, .int i), (2, .ref b), (1, .ref a), (0, .ref b0)]) (hi : 0 ≤ i.toInt ∧ i.toInt + 6 ≤ L) (hn : n ≤ 511) (hB : BD K H a cells slots) (nx : ∀ (G : Nat → Option Nat) (H : Heap) (locs : List Loc) (cells slots : Nat) (ls : Array Slot), SX K s G H locs a b → lv_has ls 4 [(3, .int i), (2, .ref b), (1, .ref a), (0, .ref b0)] → BD K H a cells slots → W p l e room_1 s m #[Value.ref b0] below meth c H locs cells slots (lw_Z below #[Value.ref b0] s) (F0 m 1509 ls [])) : W p l e room_1 s m #[Value.ref b0] below meth c H locs cells slots (lw_Z below #[Value.ref b0] s) (F0 m 806 ls []) := by
  have hI := hi
  obtain ⟨C, hX, hbl, hL⟩ := id D
  obtain ⟨hx, hb, hml, hown, hts, hKT, hr, hlocks, hnm⟩ := id C
  obtain ⟨hT, hN, ga, gb, cg, tu, wd, im, ⟨rt, r1, r4, r5, r10, r13, r16⟩, hk, htb, her, hS⟩ := S
  obtain ⟨hc, hs, hB0⟩ := hB
  have n_1 : (1 : Int32).toInt = 1 := rfl
  have n_2 : (2 : Int32).toInt = 2 := rfl
  have n_3 : (3 : Int32).toInt = 3 := rfl
  obtain ⟨w, ew⟩ : ∃ z : Nat, z = fR H a (K.1.2 9 0) := ⟨_, rfl⟩
  have gw := ty_fr (q := w) (k := 0) (u := 0) ew hT ga rg_68 rfl
  rw [← ew] at r1 r4 r5 r10 r13 r16
  obtain ⟨ta, eta⟩ : ∃ z : Int32, z = fI H a (K.1.2 9 3) := ⟨_, rfl⟩
  rw [← eta] at rt
  obtain ⟨tb, etb⟩ : ∃ z : Int32, z = fI H b (K.1.2 10 18) := ⟨_, rfl⟩
  rw [← etb] at rt
  obtain ⟨s1, es1⟩ : ∃ z : Int32, z = fI H w (K.1.2 8 1) := ⟨_, rfl⟩
  rw [← es1] at r1
  obtain ⟨y1, ey1⟩ : ∃ z : Int32, z = fI H b (K.1.2 10 1) := ⟨_, rfl⟩
  rw [← ey1] at r1
  obtain ⟨s4, es4⟩ : ∃ z : Int32, z = fI H w (K.1.2 8 4) := ⟨_, rfl⟩
  rw [← es4] at r4
  obtain ⟨y4, ey4⟩ : ∃ z : Int32, z = fI H b (K.1.2 10 2) := ⟨_, rfl⟩
  rw [← ey4] at r4
  obtain ⟨s5, es5⟩ : ∃ z : Int32, z = fI H w (K.1.2 8 5) := ⟨_, rfl⟩
  rw [← es5] at r5
  obtain ⟨y5, ey5⟩ : ∃ z : Int32, z = fI H b (K.1.2 10 3) := ⟨_, rfl⟩
  rw [← ey5] at r5
  obtain ⟨s10, es10⟩ : ∃ z : Int32, z = fI H w (K.1.2 8 10) := ⟨_, rfl⟩
  rw [← es10] at r10
  obtain ⟨y10, ey10⟩ : ∃ z : Int32, z = fI H b (K.1.2 10 59) := ⟨_, rfl⟩
  rw [← ey10] at r10
  obtain ⟨s13, es13⟩ : ∃ z : Int32, z = fI H w (K.1.2 8 13) := ⟨_, rfl⟩
  rw [← es13] at r13
  obtain ⟨y13, ey13⟩ : ∃ z : Int32, z = fI H b (K.1.2 10 62) := ⟨_, rfl⟩
  rw [← ey13] at r13
  obtain ⟨s16, es16⟩ : ∃ z : Int32, z = fI H w (K.1.2 8 16) := ⟨_, rfl⟩
  rw [← es16] at r16
  obtain ⟨y16, ey16⟩ : ∃ z : Int32, z = fI H b (K.1.2 10 65) := ⟨_, rfl⟩
  rw [← ey16] at r16
  obtain ⟨tq, etq⟩ : ∃ z : Nat, z = fR H a (K.1.2 9 2) := ⟨_, rfl⟩
  have gtq := ty_fr (q := tq) (k := 2) (u := 108) etq hT ga rg_68 rfl
  obtain ⟨uq, euq⟩ : ∃ z : Nat, z = fR H b (K.1.2 10 17) := ⟨_, rfl⟩
  have guq := ty_fr (q := uq) (k := 17) (u := 126) euq hT gb rg_112 rfl
  have htr : TBR (fun j => fI H tq j) (fun j => fI H uq j) tb.toNatClampNeg := by rw [etq, euq, etb]; exact htb
  have ft0 : ∀ j : Nat, fI H tq j = fI H tq j := fun _ => rfl
  have fu0 : ∀ j : Nat, fI H uq j = fI H uq j := fun _ => rfl
  have bta := ty_fi (x := ta) (k := 3) eta hT ga rg_68 rfl
  have cta := i_cl (x := ta) (by omega)
  have btb := ty_fi (x := tb) (k := 18) etb hT gb rg_112 rfl
  have ctb := i_cl (x := tb) (by omega)
  obtain ⟨her0, hsl1, hsl2⟩ := her
  have hsl0 := And.intro hsl1 hsl2
  clear hsl1 hsl2
  rw [← ew] at her0 hsl0
  have re : RE K H w b s1.toInt := RE.cast her0 (by rw [← ey1]; exact r1)
  have hsl : 0 ≤ s5.toInt ∧ s5.toInt ≤ 9999 := by rw [es5]; exact hsl0
  clear her0 hsl0
  have bt_s1 := ty_fi (x := s1) (k := 1) es1 hT gw rg_0 rfl
  have bt_s4 := ty_fi (x := s4) (k := 4) es4 hT gw rg_0 rfl
  have bt_y1 := ty_fi (x := y1) (k := 1) ey1 hT gb rg_112 rfl
  have bt_y4 := ty_fi (x := y4) (k := 2) ey4 hT gb rg_112 rfl
  rcases hk with ⟨kn, h70⟩ | ⟨kq, kn, gkq, h70, q1, q4, q5, q10, q13, q16, rke, ks1, ks2⟩
  · skip
    obtain ⟨hi, ehi⟩ : ∃ z : Int32, z = fI H b (K.1.2 10 70) := ⟨_, rfl⟩
    rw [← ehi] at h70
    obtain ⟨hc0, hs0⟩ := hB0 kn
    obtain ⟨iq, eiq⟩ : ∃ z : Nat, z = fR H b (K.1.2 10 73) := ⟨_, rfl⟩
    have giq := ty_fr (q := iq) (k := 73) (u := 162) eiq hT gb rg_112 rfl
    refine lv_aload_n hx hb dL_law_806 rfl (lv_at hl 2 rfl) ?_
    refine lv_aload_n hx hb dL_law_807 rfl (lv_at hl 3 rfl) ?_
    refine lv_iload_n hx hb dL_law_808 rfl (lv_at hl 0 rfl) ?_
    refine lv_iconst (v := 1) hx hb dL_law_809 (by decide) ?_
    refine lv_iadd hx hb dL_law_810 ?_
    refine lv_topi (fun x101 ex101 => ?_)
    obtain ⟨tx101, ejx101, evx101⟩ := lw_ix (k := 1) ex101 hI hL rfl (by decide)
    clear tx101
    refine va_sld hx hb hX hbl (Nat.not_le.mpr hbl) hS (vp_in_iff.mpr evx101) dL_law_811 ?_
    refine W.eq (g2 := F0 m 812 ls [.int (xs (i.toNatClampNeg + 1)), .ref a]) (congrArg (fun z => F0 m 812 ls [.int (xs z), .ref a]) ejx101) ?_
    refine lv_aload_n hx hb dL_law_812 rfl (lv_at hl 3 rfl) ?_
    refine lv_iload_n hx hb dL_law_813 rfl (lv_at hl 0 rfl) ?_
    refine lv_iconst (v := 2) hx hb dL_law_814 (by decide) ?_
    refine lv_iadd hx hb dL_law_815 ?_
    refine lv_topi (fun x102 ex102 => ?_)
    obtain ⟨tx102, ejx102, evx102⟩ := lw_ix (k := 2) ex102 hI hL rfl (by decide)
    clear tx102
    refine va_sld hx hb hX hbl (Nat.not_le.mpr hbl) hS (vp_in_iff.mpr evx102) dL_law_816 ?_
    refine W.eq (g2 := F0 m 817 ls [.int (xs (i.toNatClampNeg + 2)), .int (xs (i.toNatClampNeg + 1)), .ref a]) (congrArg (fun z => F0 m 817 ls [.int (xs z), .int (xs (i.toNatClampNeg + 1)), .ref a]) ejx102) ?_
    refine lv_aload_n hx hb dL_law_817 rfl (lv_at hl 3 rfl) ?_
    refine lv_iload_n hx hb dL_law_818 rfl (lv_at hl 0 rfl) ?_
    refine lv_iconst (v := 3) hx hb dL_law_819 (by decide) ?_
    refine lv_iadd hx hb dL_law_820 ?_
    refine lv_topi (fun x103 ex103 => ?_)
    obtain ⟨tx103, ejx103, evx103⟩ := lw_ix (k := 3) ex103 hI hL rfl (by decide)
    clear tx103
    refine va_sld hx hb hX hbl (Nat.not_le.mpr hbl) hS (vp_in_iff.mpr evx103) dL_law_821 ?_
    refine W.eq (g2 := F0 m 822 ls [.int (xs (i.toNatClampNeg + 3)), .int (xs (i.toNatClampNeg + 2)), .int (xs (i.toNatClampNeg + 1)), .ref a]) (congrArg (fun z => F0 m 822 ls [.int (xs z), .int (xs (i.toNatClampNeg + 2)), .int (xs (i.toNatClampNeg + 1)), .ref a]) ejx103) ?_
    refine x_V (As := [.int (xs (i.toNatClampNeg + 1)), .int (xs (i.toNatClampNeg + 2)), .int (xs (i.toNatClampNeg + 3))]) (rest := []) C (a_X9_takes l K G H ((xs (i.toNatClampNeg + 1))) ((xs (i.toNatClampNeg + 2))) ((xs (i.toNatClampNeg + 3))) hT ga) yo_X9_takes wM_L_84 ⟨⟨by decide, by decide⟩, show _ ≤ 60000 from Nat.le_trans hc (by decide), show _ ≤ 8922250 from Nat.le_trans hs (by decide)⟩ (x_rv C hT (ci := 9) rfl ga rg_68) rfl hl.1 rfl (Nat.le_of_ble_eq_true rfl) dL_law_822 hS (AE_new hN hS.1) (fun vH104 H104 locsH104 pH104 zH104 kH104 hSH104 => ?_)
    obtain ⟨x105, hvH104, hTH104⟩ := pH104
    subst hvH104
    have g106 : CG (avw K H104 b) := CG.congr (fun k hk j => av_eff hT kH104 gb (by decide) (CG_eff [111, 83, 84] (by decide) k hk)) cg
    have g107 : TU (avw K H104 b) (svw K H104 b) := TU.congr (fun k hk j => av_eff hT kH104 gb (by decide) (TU_eff [111, 83, 84] (by decide) k hk)) (fun k hk => sv_eff hT kH104 gb (by decide)) tu
    have g108 : WD (avw K H104 b) := WD.congr (fun k hk j => av_eff hT kH104 gb (by decide) (WD_eff [111, 83, 84] (by decide) k hk)) wd
    have g109 : IM (avw K H104 b) := IM.congr (fun k hk j => av_eff hT kH104 gb (by decide) (IM_eff [111, 83, 84] (by decide) k hk)) im
    have f110 : ∀ j : Nat, fI H104 tq j = fI H tq j := fun j => (fI_kept (x_lt hT kH104 gtq (by decide))).trans (ft0 j)
    have f111 : ∀ j : Nat, fI H104 uq j = fI H uq j := fun j => (fI_kept (x_lt hT kH104 guq (by decide))).trans (fu0 j)
    have m112 := (ew).trans (fR_kept (x_lt hT kH104 ga (by decide))).symm
    have m113 := (eta).trans (fI_kept (x_lt hT kH104 ga (by decide))).symm
    have m114 := (etb).trans (fI_kept (x_lt hT kH104 gb (by decide))).symm
    have m115 := (es1).trans (fI_kept (x_lt hT kH104 gw (by decide))).symm
    have m116 := (ey1).trans (fI_kept (x_lt hT kH104 gb (by decide))).symm
    have m117 := (es4).trans (fI_kept (x_lt hT kH104 gw (by decide))).symm
    have m118 := (ey4).trans (fI_kept (x_lt hT kH104 gb (by decide))).symm
    have m119 := (es5).trans (fI_kept (x_lt hT kH104 gw (by decide))).symm
    have m120 := (ey5).trans (fI_kept (x_lt hT kH104 gb (by decide))).symm
    have m121 := (es10).trans (fI_kept (x_lt hT kH104 gw (by decide))).symm
    have m122 := (ey10).trans (fI_kept (x_lt hT kH104 gb (by decide))).symm
    have m123 := (es13).trans (fI_kept (x_lt hT kH104 gw (by decide))).symm
    have m124 := (ey13).trans (fI_kept (x_lt hT kH104 gb (by decide))).symm
    have m125 := (es16).trans (fI_kept (x_lt hT kH104 gw (by decide))).symm
    have m126 := (ey16).trans (fI_kept (x_lt hT kH104 gb (by decide))).symm
    have m127 := (etq).trans (fR_kept (x_lt hT kH104 ga (by decide))).symm
    have m128 := (euq).trans (fR_kept (x_lt hT kH104 gb (by decide))).symm
    have m129 := (ehi).trans (fI_kept (x_lt hT kH104 gb (by decide))).symm
    have m130 := (fV_kept (x_lt hT kH104 ga (by decide))).trans kn
    have m131 := (eiq).trans (fR_kept (x_lt hT kH104 gb (by decide))).symm
    refine W.eq (g2 := F0 m 825 ls [.int x105]) rfl ?_
    have re132 : RE K H104 w b s1.toInt := RE.cls re hT gw gb (fun q t hq ht => x_lt hT kH104 hq (by first | exact nmr ht (by decide) | exact nmo ht (by decide) | exact nme ht (by decide) | exact nmq ht (by decide) | decide | (intro z; simp only [List.mem_cons, List.not_mem_nil, or_false] at z <;> omega) | omega))
    refine lv_pop hx hb dL_law_825 rfl ?_
    refine lv_aload_n hx hb dL_law_826 rfl (lv_at hl 1 rfl) ?_
    refine lv_aload_n hx hb dL_law_827 rfl (lv_at hl 3 rfl) ?_
    refine lv_iload_n hx hb dL_law_828 rfl (lv_at hl 0 rfl) ?_
    refine lv_iconst (v := 1) hx hb dL_law_829 (by decide) ?_
    refine lv_iadd hx hb dL_law_830 ?_
    refine lv_topi (fun x133 ex133 => ?_)
    obtain ⟨tx133, ejx133, evx133⟩ := lw_ix (k := 1) ex133 hI hL rfl (by decide)
    clear tx133
    refine va_sld hx hb hX hbl (Nat.not_le.mpr hbl) hSH104 (vp_in_iff.mpr evx133) dL_law_831 ?_
    refine W.eq (g2 := F0 m 832 ls [.int (xs (i.toNatClampNeg + 1)), .ref b]) (congrArg (fun z => F0 m 832 ls [.int (xs z), .ref b]) ejx133) ?_
    refine lv_aload_n hx hb dL_law_832 rfl (lv_at hl 3 rfl) ?_
    refine lv_iload_n hx hb dL_law_833 rfl (lv_at hl 0 rfl) ?_
    refine lv_iconst (v := 2) hx hb dL_law_834 (by decide) ?_
    refine lv_iadd hx hb dL_law_835 ?_
    refine lv_topi (fun x134 ex134 => ?_)
    obtain ⟨tx134, ejx134, evx134⟩ := lw_ix (k := 2) ex134 hI hL rfl (by decide)
    clear tx134
    refine va_sld hx hb hX hbl (Nat.not_le.mpr hbl) hSH104 (vp_in_iff.mpr evx134) dL_law_836 ?_
    refine W.eq (g2 := F0 m 837 ls [.int (xs (i.toNatClampNeg + 2)), .int (xs (i.toNatClampNeg + 1)), .ref b]) (congrArg (fun z => F0 m 837 ls [.int (xs z), .int (xs (i.toNatClampNeg + 1)), .ref b]) ejx134) ?_
    refine lv_aload_n hx hb dL_law_837 rfl (lv_at hl 3 rfl) ?_
    refine lv_iload_n hx hb dL_law_838 rfl (lv_at hl 0 rfl) ?_
    refine lv_iconst (v := 3) hx hb dL_law_839 (by decide) ?_
    refine lv_iadd hx hb dL_law_840 ?_
    refine lv_topi (fun x135 ex135 => ?_)
    obtain ⟨tx135, ejx135, evx135⟩ := lw_ix (k := 3) ex135 hI hL rfl (by decide)
    clear tx135
    refine va_sld hx hb hX hbl (Nat.not_le.mpr hbl) hSH104 (vp_in_iff.mpr evx135) dL_law_841 ?_
    refine W.eq (g2 := F0 m 842 ls [.int (xs (i.toNatClampNeg + 3)), .int (xs (i.toNatClampNeg + 2)), .int (xs (i.toNatClampNeg + 1)), .ref b]) (congrArg (fun z => F0 m 842 ls [.int (xs z), .int (xs (i.toNatClampNeg + 2)), .int (xs (i.toNatClampNeg + 1)), .ref b]) ejx135) ?_
    obtain ⟨q136, eq136⟩ : ∃ z : Nat, @Eq Ad z (fR H104 b (K.1.2 10 5)) := ⟨_, rfl⟩
    have gq136 := ty_fr (q := q136) (k := 5) (u := 114) eq136 hTH104 gb rg_112 rfl
    refine x_V (As := [.int (xs (i.toNatClampNeg + 1)), .int (xs (i.toNatClampNeg + 2)), .int (xs (i.toNatClampNeg + 3))]) (rest := []) C (a_X10_takes_k l K G H104 ((xs (i.toNatClampNeg + 1))) ((xs (i.toNatClampNeg + 2))) ((xs (i.toNatClampNeg + 3))) hTH104 gb gq136 eq136 g106 g107 g108 g109) yo_X10_takes wM_L_87 ⟨⟨by decide, by decide⟩, show _ ≤ 60000 from Nat.le_trans hc (by decide), show _ ≤ 8922250 from Nat.le_trans hs (by decide)⟩ (x_rv C hTH104 (ci := 10) rfl gb rg_112) rfl hl.1 rfl (Nat.le_of_ble_eq_true rfl) dL_law_842 hSH104 (AE_new hN hSH104.1) (fun vH137 H137 locsH137 pH137 zH137 kH137 hSH137 => ?_)
    obtain ⟨x138, hvH137, m139, g140, g141, g142, g143, mf144, m145, hTH137⟩ := pH137
    subst hvH137
    have f146 : ∀ j : Nat, fI H137 tq j = fI H tq j := fun j => (fI_kept (x_lt hTH104 kH137 gtq (by decide))).trans (f110 j)
    have f147 : ∀ j : Nat, fI H137 uq j = fI H uq j := fun j => (fI_kept (x_lt hTH104 kH137 guq (by decide))).trans (f111 j)
    have m148 := (m112).trans (fR_kept (x_lt hTH104 kH137 ga (by decide))).symm
    have m149 := (m113).trans (fI_kept (x_lt hTH104 kH137 ga (by decide))).symm
    have m150 := (m115).trans (fI_kept (x_lt hTH104 kH137 gw (by decide))).symm
    have m151 := (m117).trans (fI_kept (x_lt hTH104 kH137 gw (by decide))).symm
    have m152 := (m119).trans (fI_kept (x_lt hTH104 kH137 gw (by decide))).symm
    have m153 := (m121).trans (fI_kept (x_lt hTH104 kH137 gw (by decide))).symm
    have m154 := (m123).trans (fI_kept (x_lt hTH104 kH137 gw (by decide))).symm
    have m155 := (m125).trans (fI_kept (x_lt hTH104 kH137 gw (by decide))).symm
    have m156 := (m127).trans (fR_kept (x_lt hTH104 kH137 ga (by decide))).symm
    have m157 := (fV_kept (x_lt hTH104 kH137 ga (by decide))).trans m130
    have m158 := (m114).trans (MF.i mf144 (k := 18) (by decide) (by decide)).symm
    have m159 := (m116).trans (MF.i mf144 (k := 1) (by decide) (by decide)).symm
    have m160 := (m118).trans (MF.i mf144 (k := 2) (by decide) (by decide)).symm
    have m161 := (m120).trans (MF.i mf144 (k := 3) (by decide) (by decide)).symm
    have m162 := (m122).trans (MF.i mf144 (k := 59) (by decide) (by decide)).symm
    have m163 := (m124).trans (MF.i mf144 (k := 62) (by decide) (by decide)).symm
    have m164 := (m126).trans (MF.i mf144 (k := 65) (by decide) (by decide)).symm
    have m165 := (m128).trans (MF.r mf144 (k := 17) (by decide) (by decide)).symm
    have m166 := (m129).trans (MF.i mf144 (k := 70) (by decide) (by decide)).symm
    have m167 := (m131).trans (MF.r mf144 (k := 73) (by decide) (by decide)).symm
    have m168 := (eq136).trans (MF.r mf144 (k := 5) (by decide) (by decide)).symm
    refine W.eq (g2 := F0 m 845 ls [.int x138]) rfl ?_
    have re169 : RE K H137 w b s1.toInt := RE.rows re132 hTH104 gw gb (fun k hk => MF.r mf144 (by omega) (by intro z; simp only [List.mem_cons, List.not_mem_nil, or_false] at z; omega)) (fun q t hq ht => x_lt hTH104 kH137 hq (by first | exact nmr ht (by decide) | exact nmo ht (by decide) | exact nme ht (by decide) | exact nmq ht (by decide) | decide | (intro z; simp only [List.mem_cons, List.not_mem_nil, or_false] at z <;> omega) | omega)) (fun j => by rw [← eq136]; exact m145 j) (fun j => fI_kept (x_lt hTH104 kH137 (show G (fR H104 b (K.1.2 10 6)) = some 115 from gR hTH104 gb 2 (by decide)) (by decide))) (fun j => fI_kept (x_lt hTH104 kH137 (show G (fR H104 b (K.1.2 10 8)) = some 117 from gR hTH104 gb 4 (by decide)) (by decide)))
    refine lv_pop hx hb dL_law_845 rfl ?_
    refine lv_goto (tgt := 1509) hx hb dL_law_846 (by decide) ?_
    exact nx G H137 locsH137 _ _ ls ⟨hTH137, hN, ga, gb, g140, g141, g142, g143, ⟨(by rw [← m149, ← m158]; exact rt), (by rw [← m148, ← m150, ← m159]; exact r1), (by rw [← m148, ← m151, ← m160]; exact r4), (by rw [← m148, ← m152, ← m161]; exact r5), (by rw [← m148, ← m153, ← m162]; exact r10), (by rw [← m148, ← m154, ← m163]; exact r13), (by rw [← m148, ← m155, ← m164]; exact r16)⟩, Or.inl ⟨m157, (by rw [← m166]; exact h70)⟩, (by unfold TB; rw [← m156, ← m165, ← m158]; exact TBR.of htr f146 f147 (by omega)), (by unfold RELE; rw [← m148, ← m159, ← m152]; exact ⟨RE.cast re169 (by omega), by omega, by omega⟩), hSH137⟩ hl ⟨hc, hs, fun _ => ⟨hc0, hs0⟩⟩
  · skip
    obtain ⟨hi, ehi⟩ : ∃ z : Int32, z = fI H b (K.1.2 10 70) := ⟨_, rfl⟩
    rw [← ehi] at h70
    obtain ⟨iq, eiq⟩ : ∃ z : Nat, z = fR H b (K.1.2 10 73) := ⟨_, rfl⟩
    have giq := ty_fr (q := iq) (k := 73) (u := 162) eiq hT gb rg_112 rfl
    rw [← eiq] at q1 q4 q5 q10 q13 q16
    obtain ⟨k1, ek1⟩ : ∃ z : Int32, z = fI H kq (K.1.2 8 1) := ⟨_, rfl⟩
    rw [← ek1] at q1
    obtain ⟨i1, ei1⟩ : ∃ z : Int32, z = fI H iq ((0 : Int32).toNatClampNeg) := ⟨_, rfl⟩
    rw [← ei1] at q1
    obtain ⟨k4, ek4⟩ : ∃ z : Int32, z = fI H kq (K.1.2 8 4) := ⟨_, rfl⟩
    rw [← ek4] at q4
    obtain ⟨i4, ei4⟩ : ∃ z : Int32, z = fI H iq ((1 : Int32).toNatClampNeg) := ⟨_, rfl⟩
    rw [← ei4] at q4
    obtain ⟨k5, ek5⟩ : ∃ z : Int32, z = fI H kq (K.1.2 8 5) := ⟨_, rfl⟩
    rw [← ek5] at q5
    obtain ⟨i5, ei5⟩ : ∃ z : Int32, z = fI H iq ((2 : Int32).toNatClampNeg) := ⟨_, rfl⟩
    rw [← ei5] at q5
    obtain ⟨k10, ek10⟩ : ∃ z : Int32, z = fI H kq (K.1.2 8 10) := ⟨_, rfl⟩
    rw [← ek10] at q10
    obtain ⟨i10, ei10⟩ : ∃ z : Int32, z = fI H iq ((3 : Int32).toNatClampNeg) := ⟨_, rfl⟩
    rw [← ei10] at q10
    obtain ⟨k13, ek13⟩ : ∃ z : Int32, z = fI H kq (K.1.2 8 13) := ⟨_, rfl⟩
    rw [← ek13] at q13
    obtain ⟨i13, ei13⟩ : ∃ z : Int32, z = fI H iq ((4 : Int32).toNatClampNeg) := ⟨_, rfl⟩
    rw [← ei13] at q13
    obtain ⟨k16, ek16⟩ : ∃ z : Int32, z = fI H kq (K.1.2 8 16) := ⟨_, rfl⟩
    rw [← ek16] at q16
    obtain ⟨i16, ei16⟩ : ∃ z : Int32, z = fI H iq ((5 : Int32).toNatClampNeg) := ⟨_, rfl⟩
    rw [← ei16] at q16
    rw [← eiq, ← ek1] at rke
    have hsk : 0 ≤ k5.toInt ∧ k5.toInt ≤ 9999 := by rw [ek5]; exact ⟨ks1, ks2⟩
    refine lv_aload_n hx hb dL_law_806 rfl (lv_at hl 2 rfl) ?_
    refine lv_aload_n hx hb dL_law_807 rfl (lv_at hl 3 rfl) ?_
    refine lv_iload_n hx hb dL_law_808 rfl (lv_at hl 0 rfl) ?_
    refine lv_iconst (v := 1) hx hb dL_law_809 (by decide) ?_
    refine lv_iadd hx hb dL_law_810 ?_
    refine lv_topi (fun x170 ex170 => ?_)
    obtain ⟨tx170, ejx170, evx170⟩ := lw_ix (k := 1) ex170 hI hL rfl (by decide)
    clear tx170
    refine va_sld hx hb hX hbl (Nat.not_le.mpr hbl) hS (vp_in_iff.mpr evx170) dL_law_811 ?_
    refine W.eq (g2 := F0 m 812 ls [.int (xs (i.toNatClampNeg + 1)), .ref a]) (congrArg (fun z => F0 m 812 ls [.int (xs z), .ref a]) ejx170) ?_
    refine lv_aload_n hx hb dL_law_812 rfl (lv_at hl 3 rfl) ?_
    refine lv_iload_n hx hb dL_law_813 rfl (lv_at hl 0 rfl) ?_
    refine lv_iconst (v := 2) hx hb dL_law_814 (by decide) ?_
    refine lv_iadd hx hb dL_law_815 ?_
    refine lv_topi (fun x171 ex171 => ?_)
    obtain ⟨tx171, ejx171, evx171⟩ := lw_ix (k := 2) ex171 hI hL rfl (by decide)
    clear tx171
    refine va_sld hx hb hX hbl (Nat.not_le.mpr hbl) hS (vp_in_iff.mpr evx171) dL_law_816 ?_
    refine W.eq (g2 := F0 m 817 ls [.int (xs (i.toNatClampNeg + 2)), .int (xs (i.toNatClampNeg + 1)), .ref a]) (congrArg (fun z => F0 m 817 ls [.int (xs z), .int (xs (i.toNatClampNeg + 1)), .ref a]) ejx171) ?_
    refine lv_aload_n hx hb dL_law_817 rfl (lv_at hl 3 rfl) ?_
    refine lv_iload_n hx hb dL_law_818 rfl (lv_at hl 0 rfl) ?_
    refine lv_iconst (v := 3) hx hb dL_law_819 (by decide) ?_
    refine lv_iadd hx hb dL_law_820 ?_
    refine lv_topi (fun x172 ex172 => ?_)
    obtain ⟨tx172, ejx172, evx172⟩ := lw_ix (k := 3) ex172 hI hL rfl (by decide)
    clear tx172
    refine va_sld hx hb hX hbl (Nat.not_le.mpr hbl) hS (vp_in_iff.mpr evx172) dL_law_821 ?_
    refine W.eq (g2 := F0 m 822 ls [.int (xs (i.toNatClampNeg + 3)), .int (xs (i.toNatClampNeg + 2)), .int (xs (i.toNatClampNeg + 1)), .ref a]) (congrArg (fun z => F0 m 822 ls [.int (xs z), .int (xs (i.toNatClampNeg + 2)), .int (xs (i.toNatClampNeg + 1)), .ref a]) ejx172) ?_
    refine x_V (As := [.int (xs (i.toNatClampNeg + 1)), .int (xs (i.toNatClampNeg + 2)), .int (xs (i.toNatClampNeg + 3))]) (rest := []) C (a_X9_takes l K G H ((xs (i.toNatClampNeg + 1))) ((xs (i.toNatClampNeg + 2))) ((xs (i.toNatClampNeg + 3))) hT ga) yo_X9_takes wM_L_84 ⟨⟨by decide, by decide⟩, show _ ≤ 60000 from Nat.le_trans hc (by decide), show _ ≤ 8922250 from Nat.le_trans hs (by decide)⟩ (x_rv C hT (ci := 9) rfl ga rg_68) rfl hl.1 rfl (Nat.le_of_ble_eq_true rfl) dL_law_822 hS (AE_new hN hS.1) (fun vH173 H173 locsH173 pH173 zH173 kH173 hSH173 => ?_)
    obtain ⟨x174, hvH173, hTH173⟩ := pH173
    subst hvH173
    have g175 : CG (avw K H173 b) := CG.congr (fun k hk j => av_eff hT kH173 gb (by decide) (CG_eff [111, 83, 84] (by decide) k hk)) cg
    have g176 : TU (avw K H173 b) (svw K H173 b) := TU.congr (fun k hk j => av_eff hT kH173 gb (by decide) (TU_eff [111, 83, 84] (by decide) k hk)) (fun k hk => sv_eff hT kH173 gb (by decide)) tu
    have g177 : WD (avw K H173 b) := WD.congr (fun k hk j => av_eff hT kH173 gb (by decide) (WD_eff [111, 83, 84] (by decide) k hk)) wd
    have g178 : IM (avw K H173 b) := IM.congr (fun k hk j => av_eff hT kH173 gb (by decide) (IM_eff [111, 83, 84] (by decide) k hk)) im
    have f179 : ∀ j : Nat, fI H173 tq j = fI H tq j := fun j => (fI_kept (x_lt hT kH173 gtq (by decide))).trans (ft0 j)
    have f180 : ∀ j : Nat, fI H173 uq j = fI H uq j := fun j => (fI_kept (x_lt hT kH173 guq (by decide))).trans (fu0 j)
    have m181 := (ew).trans (fR_kept (x_lt hT kH173 ga (by decide))).symm
    have m182 := (eta).trans (fI_kept (x_lt hT kH173 ga (by decide))).symm
    have m183 := (etb).trans (fI_kept (x_lt hT kH173 gb (by decide))).symm
    have m184 := (es1).trans (fI_kept (x_lt hT kH173 gw (by decide))).symm
    have m185 := (ey1).trans (fI_kept (x_lt hT kH173 gb (by decide))).symm
    have m186 := (es4).trans (fI_kept (x_lt hT kH173 gw (by decide))).symm
    have m187 := (ey4).trans (fI_kept (x_lt hT kH173 gb (by decide))).symm
    have m188 := (es5).trans (fI_kept (x_lt hT kH173 gw (by decide))).symm
    have m189 := (ey5).trans (fI_kept (x_lt hT kH173 gb (by decide))).symm
    have m190 := (es10).trans (fI_kept (x_lt hT kH173 gw (by decide))).symm
    have m191 := (ey10).trans (fI_kept (x_lt hT kH173 gb (by decide))).symm
    have m192 := (es13).trans (fI_kept (x_lt hT kH173 gw (by decide))).symm
    have m193 := (ey13).trans (fI_kept (x_lt hT kH173 gb (by decide))).symm
    have m194 := (es16).trans (fI_kept (x_lt hT kH173 gw (by decide))).symm
    have m195 := (ey16).trans (fI_kept (x_lt hT kH173 gb (by decide))).symm
    have m196 := (etq).trans (fR_kept (x_lt hT kH173 ga (by decide))).symm
    have m197 := (euq).trans (fR_kept (x_lt hT kH173 gb (by decide))).symm
    have m198 := (ehi).trans (fI_kept (x_lt hT kH173 gb (by decide))).symm
    have m199 := (fV_kept (x_lt hT kH173 ga (by decide))).trans kn
    have m200 := (eiq).trans (fR_kept (x_lt hT kH173 gb (by decide))).symm
    have m201 := (ek1).trans (fI_kept (x_lt hT kH173 gkq (by decide))).symm
    have m202 := (ei1).trans (fI_kept (x_lt hT kH173 giq (by decide))).symm
    have m203 := (ek4).trans (fI_kept (x_lt hT kH173 gkq (by decide))).symm
    have m204 := (ei4).trans (fI_kept (x_lt hT kH173 giq (by decide))).symm
    have m205 := (ek5).trans (fI_kept (x_lt hT kH173 gkq (by decide))).symm
    have m206 := (ei5).trans (fI_kept (x_lt hT kH173 giq (by decide))).symm
    have m207 := (ek10).trans (fI_kept (x_lt hT kH173 gkq (by decide))).symm
    have m208 := (ei10).trans (fI_kept (x_lt hT kH173 giq (by decide))).symm
    have m209 := (ek13).trans (fI_kept (x_lt hT kH173 gkq (by decide))).symm
    have m210 := (ei13).trans (fI_kept (x_lt hT kH173 giq (by decide))).symm
    have m211 := (ek16).trans (fI_kept (x_lt hT kH173 gkq (by decide))).symm
    have m212 := (ei16).trans (fI_kept (x_lt hT kH173 giq (by decide))).symm
    refine W.eq (g2 := F0 m 825 ls [.int x174]) rfl ?_
    have rk213 : RKI K H173 kq iq k1.toInt := RKI.kept rke hT gkq (x_lt hT kH173 giq (by first | exact nmr ht (by decide) | exact nmo ht (by decide) | exact nme ht (by decide) | exact nmq ht (by decide) | decide | (intro z; simp only [List.mem_cons, List.not_mem_nil, or_false] at z <;> omega) | omega)) (fun q t hq ht => x_lt hT kH173 hq (by first | exact nmr ht (by decide) | exact nmo ht (by decide) | exact nme ht (by decide) | exact nmq ht (by decide) | decide | (intro z; simp only [List.mem_cons, List.not_mem_nil, or_false] at z <;> omega) | omega))
    have re214 : RE K H173 w b s1.toInt := RE.cls re hT gw gb (fun q t hq ht => x_lt hT kH173 hq (by first | exact nmr ht (by decide) | exact nmo ht (by decide) | exact nme ht (by decide) | exact nmq ht (by decide) | decide | (intro z; simp only [List.mem_cons, List.not_mem_nil, or_false] at z <;> omega) | omega))
    refine lv_pop hx hb dL_law_825 rfl ?_
    refine lv_aload_n hx hb dL_law_826 rfl (lv_at hl 1 rfl) ?_
    refine lv_aload_n hx hb dL_law_827 rfl (lv_at hl 3 rfl) ?_
    refine lv_iload_n hx hb dL_law_828 rfl (lv_at hl 0 rfl) ?_
    refine lv_iconst (v := 1) hx hb dL_law_829 (by decide) ?_
    refine lv_iadd hx hb dL_law_830 ?_
    refine lv_topi (fun x215 ex215 => ?_)
    obtain ⟨tx215, ejx215, evx215⟩ := lw_ix (k := 1) ex215 hI hL rfl (by decide)
    clear tx215
    refine va_sld hx hb hX hbl (Nat.not_le.mpr hbl) hSH173 (vp_in_iff.mpr evx215) dL_law_831 ?_
    refine W.eq (g2 := F0 m 832 ls [.int (xs (i.toNatClampNeg + 1)), .ref b]) (congrArg (fun z => F0 m 832 ls [.int (xs z), .ref b]) ejx215) ?_
    refine lv_aload_n hx hb dL_law_832 rfl (lv_at hl 3 rfl) ?_
    refine lv_iload_n hx hb dL_law_833 rfl (lv_at hl 0 rfl) ?_
    refine lv_iconst (v := 2) hx hb dL_law_834 (by decide) ?_
    refine lv_iadd hx hb dL_law_835 ?_
    refine lv_topi (fun x216 ex216 => ?_)
    obtain ⟨tx216, ejx216, evx216⟩ := lw_ix (k := 2) ex216 hI hL rfl (by decide)
    clear tx216
    refine va_sld hx hb hX hbl (Nat.not_le.mpr hbl) hSH173 (vp_in_iff.mpr evx216) dL_law_836 ?_
    refine W.eq (g2 := F0 m 837 ls [.int (xs (i.toNatClampNeg + 2)), .int (xs (i.toNatClampNeg + 1)), .ref b]) (congrArg (fun z => F0 m 837 ls [.int (xs z), .int (xs (i.toNatClampNeg + 1)), .ref b]) ejx216) ?_
    refine lv_aload_n hx hb dL_law_837 rfl (lv_at hl 3 rfl) ?_
    refine lv_iload_n hx hb dL_law_838 rfl (lv_at hl 0 rfl) ?_
    refine lv_iconst (v := 3) hx hb dL_law_839 (by decide) ?_
    refine lv_iadd hx hb dL_law_840 ?_
    refine lv_topi (fun x217 ex217 => ?_)
    obtain ⟨tx217, ejx217, evx217⟩ := lw_ix (k := 3) ex217 hI hL rfl (by decide)
    clear tx217
    refine va_sld hx hb hX hbl (Nat.not_le.mpr hbl) hSH173 (vp_in_iff.mpr evx217) dL_law_841 ?_
    refine W.eq (g2 := F0 m 842 ls [.int (xs (i.toNatClampNeg + 3)), .int (xs (i.toNatClampNeg + 2)), .int (xs (i.toNatClampNeg + 1)), .ref b]) (congrArg (fun z => F0 m 842 ls [.int (xs z), .int (xs (i.toNatClampNeg + 2)), .int (xs (i.toNatClampNeg + 1)), .ref b]) ejx217) ?_
    obtain ⟨q218, eq218⟩ : ∃ z : Nat, @Eq Ad z (fR H173 b (K.1.2 10 5)) := ⟨_, rfl⟩
    have gq218 := ty_fr (q := q218) (k := 5) (u := 114) eq218 hTH173 gb rg_112 rfl
    refine x_V (As := [.int (xs (i.toNatClampNeg + 1)), .int (xs (i.toNatClampNeg + 2)), .int (xs (i.toNatClampNeg + 3))]) (rest := []) C (a_X10_takes_k l K G H173 ((xs (i.toNatClampNeg + 1))) ((xs (i.toNatClampNeg + 2))) ((xs (i.toNatClampNeg + 3))) hTH173 gb gq218 eq218 g175 g176 g177 g178) yo_X10_takes wM_L_87 ⟨⟨by decide, by decide⟩, show _ ≤ 60000 from Nat.le_trans hc (by decide), show _ ≤ 8922250 from Nat.le_trans hs (by decide)⟩ (x_rv C hTH173 (ci := 10) rfl gb rg_112) rfl hl.1 rfl (Nat.le_of_ble_eq_true rfl) dL_law_842 hSH173 (AE_new hN hSH173.1) (fun vH219 H219 locsH219 pH219 zH219 kH219 hSH219 => ?_)
    obtain ⟨x220, hvH219, m221, g222, g223, g224, g225, mf226, m227, hTH219⟩ := pH219
    subst hvH219
    have f228 : ∀ j : Nat, fI H219 tq j = fI H tq j := fun j => (fI_kept (x_lt hTH173 kH219 gtq (by decide))).trans (f179 j)
    have f229 : ∀ j : Nat, fI H219 uq j = fI H uq j := fun j => (fI_kept (x_lt hTH173 kH219 guq (by decide))).trans (f180 j)
    have m230 := (m181).trans (fR_kept (x_lt hTH173 kH219 ga (by decide))).symm
    have m231 := (m182).trans (fI_kept (x_lt hTH173 kH219 ga (by decide))).symm
    have m232 := (m184).trans (fI_kept (x_lt hTH173 kH219 gw (by decide))).symm
    have m233 := (m186).trans (fI_kept (x_lt hTH173 kH219 gw (by decide))).symm
    have m234 := (m188).trans (fI_kept (x_lt hTH173 kH219 gw (by decide))).symm
    have m235 := (m190).trans (fI_kept (x_lt hTH173 kH219 gw (by decide))).symm
    have m236 := (m192).trans (fI_kept (x_lt hTH173 kH219 gw (by decide))).symm
    have m237 := (m194).trans (fI_kept (x_lt hTH173 kH219 gw (by decide))).symm
    have m238 := (m196).trans (fR_kept (x_lt hTH173 kH219 ga (by decide))).symm
    have m239 := (fV_kept (x_lt hTH173 kH219 ga (by decide))).trans m199
    have m240 := (m201).trans (fI_kept (x_lt hTH173 kH219 gkq (by decide))).symm
    have m241 := (m202).trans (fI_kept (x_lt hTH173 kH219 giq (by decide))).symm
    have m242 := (m203).trans (fI_kept (x_lt hTH173 kH219 gkq (by decide))).symm
    have m243 := (m204).trans (fI_kept (x_lt hTH173 kH219 giq (by decide))).symm
    have m244 := (m205).trans (fI_kept (x_lt hTH173 kH219 gkq (by decide))).symm
    have m245 := (m206).trans (fI_kept (x_lt hTH173 kH219 giq (by decide))).symm
    have m246 := (m207).trans (fI_kept (x_lt hTH173 kH219 gkq (by decide))).symm
    have m247 := (m208).trans (fI_kept (x_lt hTH173 kH219 giq (by decide))).symm
    have m248 := (m209).trans (fI_kept (x_lt hTH173 kH219 gkq (by decide))).symm
    have m249 := (m210).trans (fI_kept (x_lt hTH173 kH219 giq (by decide))).symm
    have m250 := (m211).trans (fI_kept (x_lt hTH173 kH219 gkq (by decide))).symm
    have m251 := (m212).trans (fI_kept (x_lt hTH173 kH219 giq (by decide))).symm
    have m252 := (m183).trans (MF.i mf226 (k := 18) (by decide) (by decide)).symm
    have m253 := (m185).trans (MF.i mf226 (k := 1) (by decide) (by decide)).symm
    have m254 := (m187).trans (MF.i mf226 (k := 2) (by decide) (by decide)).symm
    have m255 := (m189).trans (MF.i mf226 (k := 3) (by decide) (by decide)).symm
    have m256 := (m191).trans (MF.i mf226 (k := 59) (by decide) (by decide)).symm
    have m257 := (m193).trans (MF.i mf226 (k := 62) (by decide) (by decide)).symm
    have m258 := (m195).trans (MF.i mf226 (k := 65) (by decide) (by decide)).symm
    have m259 := (m197).trans (MF.r mf226 (k := 17) (by decide) (by decide)).symm
    have m260 := (m198).trans (MF.i mf226 (k := 70) (by decide) (by decide)).symm
    have m261 := (m200).trans (MF.r mf226 (k := 73) (by decide) (by decide)).symm
    have m262 := (eq218).trans (MF.r mf226 (k := 5) (by decide) (by decide)).symm
    refine W.eq (g2 := F0 m 845 ls [.int x220]) rfl ?_
    have rk263 : RKI K H219 kq iq k1.toInt := RKI.kept rk213 hTH173 gkq (x_lt hTH173 kH219 giq (by first | exact nmr ht (by decide) | exact nmo ht (by decide) | exact nme ht (by decide) | exact nmq ht (by decide) | decide | (intro z; simp only [List.mem_cons, List.not_mem_nil, or_false] at z <;> omega) | omega)) (fun q t hq ht => x_lt hTH173 kH219 hq (by first | exact nmr ht (by decide) | exact nmo ht (by decide) | exact nme ht (by decide) | exact nmq ht (by decide) | decide | (intro z; simp only [List.mem_cons, List.not_mem_nil, or_false] at z <;> omega) | omega))
    have re264 : RE K H219 w b s1.toInt := RE.rows re214 hTH173 gw gb (fun k hk => MF.r mf226 (by omega) (by intro z; simp only [List.mem_cons, List.not_mem_nil, or_false] at z; omega)) (fun q t hq ht => x_lt hTH173 kH219 hq (by first | exact nmr ht (by decide) | exact nmo ht (by decide) | exact nme ht (by decide) | exact nmq ht (by decide) | decide | (intro z; simp only [List.mem_cons, List.not_mem_nil, or_false] at z <;> omega) | omega)) (fun j => by rw [← eq218]; exact m227 j) (fun j => fI_kept (x_lt hTH173 kH219 (show G (fR H173 b (K.1.2 10 6)) = some 115 from gR hTH173 gb 2 (by decide)) (by decide))) (fun j => fI_kept (x_lt hTH173 kH219 (show G (fR H173 b (K.1.2 10 8)) = some 117 from gR hTH173 gb 4 (by decide)) (by decide)))
    refine lv_pop hx hb dL_law_845 rfl ?_
    refine lv_goto (tgt := 1509) hx hb dL_law_846 (by decide) ?_
    exact nx G H219 locsH219 _ _ ls ⟨hTH219, hN, ga, gb, g222, g223, g224, g225, ⟨(by rw [← m231, ← m252]; exact rt), (by rw [← m230, ← m232, ← m253]; exact r1), (by rw [← m230, ← m233, ← m254]; exact r4), (by rw [← m230, ← m234, ← m255]; exact r5), (by rw [← m230, ← m235, ← m256]; exact r10), (by rw [← m230, ← m236, ← m257]; exact r13), (by rw [← m230, ← m237, ← m258]; exact r16)⟩, Or.inr ⟨kq, m239, gkq, (by rw [← m260]; exact h70), (by rw [← m240, ← m261, ← m241]; exact q1), (by rw [← m242, ← m261, ← m243]; exact q4), (by rw [← m244, ← m261, ← m245]; exact q5), (by rw [← m246, ← m261, ← m247]; exact q10), (by rw [← m248, ← m261, ← m249]; exact q13), (by rw [← m250, ← m261, ← m251]; exact q16), (by rw [← m261, ← m240]; exact RKI.cast rk263 (by omega)), (by rw [← m244]; omega), (by rw [← m244]; omega)⟩, (by unfold TB; rw [← m238, ← m259, ← m252]; exact TBR.of htr f228 f229 (by omega)), (by unfold RELE; rw [← m230, ← m253, ← m234]; exact ⟨RE.cast re264 (by omega), by omega, by omega⟩), hSH219⟩ hl ⟨hc, hs, fun h => by have h1 := h.symm.trans m239; cases h1⟩
set_option maxRecDepth 100000 in
set_option maxHeartbeats 8000000 in
theorem lw_c17 {p : Program} {l : Launch} {e : Env} {s : State} {m : MethodId} {below : List Frame} {meth : Method} {c : Code} {K : KE} {b0 L : Nat} {xs : Nat → Int32} {G : Nat → Option Nat} {H : Heap} {locs : List Loc} {a b : Nat} {cells slots : Nat} {ls : Array Slot} {i : Int32} {n : Nat} (D : LC p K s m meth c b0 L xs) (S : SX K s G H locs a b) (hl : lv_has ls 4 [(3, .int i), (2, .ref b), (1, .ref a), (0, .ref b0)]) (hi : 0 ≤ i.toInt ∧ i.toInt + 6 ≤ L) (hn : n ≤ 511) (hB : BD K H a cells slots) (nx : ∀ (G : Nat → Option Nat) (H : Heap) (locs : List Loc) (cells slots : Nat) (ls : Array Slot), SX K s G H locs a b → lv_has ls 4 [(3, .int i), (2, .ref b), (1, .ref a), (0, .ref b0)] → BD K H a cells slots → W p l e room_1 s m #[Value.ref b0] below meth c H locs cells slots (lw_Z below #[Value.ref b0] s) (F0 m 1509 ls [])) : W p l e room_1 s m #[Value.ref b0] below meth c H locs cells slots (lw_Z below #[Value.ref b0] s) (F0 m 849 ls []) := by
  have hI := hi
  obtain ⟨C, hX, hbl, hL⟩ := id D
  obtain ⟨hx, hb, hml, hown, hts, hKT, hr, hlocks, hnm⟩ := id C
  obtain ⟨hT, hN, ga, gb, cg, tu, wd, im, ⟨rt, r1, r4, r5, r10, r13, r16⟩, hk, htb, her, hS⟩ := S
  obtain ⟨hc, hs, hB0⟩ := hB
  have n_1 : (1 : Int32).toInt = 1 := rfl
  have n_2 : (2 : Int32).toInt = 2 := rfl
  obtain ⟨w, ew⟩ : ∃ z : Nat, z = fR H a (K.1.2 9 0) := ⟨_, rfl⟩
  have gw := ty_fr (q := w) (k := 0) (u := 0) ew hT ga rg_68 rfl
  rw [← ew] at r1 r4 r5 r10 r13 r16
  obtain ⟨ta, eta⟩ : ∃ z : Int32, z = fI H a (K.1.2 9 3) := ⟨_, rfl⟩
  rw [← eta] at rt
  obtain ⟨tb, etb⟩ : ∃ z : Int32, z = fI H b (K.1.2 10 18) := ⟨_, rfl⟩
  rw [← etb] at rt
  obtain ⟨s1, es1⟩ : ∃ z : Int32, z = fI H w (K.1.2 8 1) := ⟨_, rfl⟩
  rw [← es1] at r1
  obtain ⟨y1, ey1⟩ : ∃ z : Int32, z = fI H b (K.1.2 10 1) := ⟨_, rfl⟩
  rw [← ey1] at r1
  obtain ⟨s4, es4⟩ : ∃ z : Int32, z = fI H w (K.1.2 8 4) := ⟨_, rfl⟩
  rw [← es4] at r4
  obtain ⟨y4, ey4⟩ : ∃ z : Int32, z = fI H b (K.1.2 10 2) := ⟨_, rfl⟩
  rw [← ey4] at r4
  obtain ⟨s5, es5⟩ : ∃ z : Int32, z = fI H w (K.1.2 8 5) := ⟨_, rfl⟩
  rw [← es5] at r5
  obtain ⟨y5, ey5⟩ : ∃ z : Int32, z = fI H b (K.1.2 10 3) := ⟨_, rfl⟩
  rw [← ey5] at r5
  obtain ⟨s10, es10⟩ : ∃ z : Int32, z = fI H w (K.1.2 8 10) := ⟨_, rfl⟩
  rw [← es10] at r10
  obtain ⟨y10, ey10⟩ : ∃ z : Int32, z = fI H b (K.1.2 10 59) := ⟨_, rfl⟩
  rw [← ey10] at r10
  obtain ⟨s13, es13⟩ : ∃ z : Int32, z = fI H w (K.1.2 8 13) := ⟨_, rfl⟩
  rw [← es13] at r13
  obtain ⟨y13, ey13⟩ : ∃ z : Int32, z = fI H b (K.1.2 10 62) := ⟨_, rfl⟩
  rw [← ey13] at r13
  obtain ⟨s16, es16⟩ : ∃ z : Int32, z = fI H w (K.1.2 8 16) := ⟨_, rfl⟩
  rw [← es16] at r16
  obtain ⟨y16, ey16⟩ : ∃ z : Int32, z = fI H b (K.1.2 10 65) := ⟨_, rfl⟩
  rw [← ey16] at r16
  obtain ⟨tq, etq⟩ : ∃ z : Nat, z = fR H a (K.1.2 9 2) := ⟨_, rfl⟩
  have gtq := ty_fr (q := tq) (k := 2) (u := 108) etq hT ga rg_68 rfl
  obtain ⟨uq, euq⟩ : ∃ z : Nat, z = fR H b (K.1.2 10 17) := ⟨_, rfl⟩
  have guq := ty_fr (q := uq) (k := 17) (u := 126) euq hT gb rg_112 rfl
  have htr : TBR (fun j => fI H tq j) (fun j => fI H uq j) tb.toNatClampNeg := by rw [etq, euq, etb]; exact htb
  have ft0 : ∀ j : Nat, fI H tq j = fI H tq j := fun _ => rfl
  have fu0 : ∀ j : Nat, fI H uq j = fI H uq j := fun _ => rfl
  have bta := ty_fi (x := ta) (k := 3) eta hT ga rg_68 rfl
  have cta := i_cl (x := ta) (by omega)
  have btb := ty_fi (x := tb) (k := 18) etb hT gb rg_112 rfl
  have ctb := i_cl (x := tb) (by omega)
  obtain ⟨her0, hsl1, hsl2⟩ := her
  have hsl0 := And.intro hsl1 hsl2
  clear hsl1 hsl2
  rw [← ew] at her0 hsl0
  have re : RE K H w b s1.toInt := RE.cast her0 (by rw [← ey1]; exact r1)
  have hsl : 0 ≤ s5.toInt ∧ s5.toInt ≤ 9999 := by rw [es5]; exact hsl0
  clear her0 hsl0
  have bt_s1 := ty_fi (x := s1) (k := 1) es1 hT gw rg_0 rfl
  have bt_s4 := ty_fi (x := s4) (k := 4) es4 hT gw rg_0 rfl
  have bt_y1 := ty_fi (x := y1) (k := 1) ey1 hT gb rg_112 rfl
  have bt_y4 := ty_fi (x := y4) (k := 2) ey4 hT gb rg_112 rfl
  rcases hk with ⟨kn, h70⟩ | ⟨kq, kn, gkq, h70, q1, q4, q5, q10, q13, q16, rke, ks1, ks2⟩
  · skip
    obtain ⟨hi, ehi⟩ : ∃ z : Int32, z = fI H b (K.1.2 10 70) := ⟨_, rfl⟩
    rw [← ehi] at h70
    obtain ⟨hc0, hs0⟩ := hB0 kn
    obtain ⟨iq, eiq⟩ : ∃ z : Nat, z = fR H b (K.1.2 10 73) := ⟨_, rfl⟩
    have giq := ty_fr (q := iq) (k := 73) (u := 162) eiq hT gb rg_112 rfl
    refine lv_aload_n hx hb dL_law_849 rfl (lv_at hl 2 rfl) ?_
    refine lv_aload_n hx hb dL_law_850 rfl (lv_at hl 3 rfl) ?_
    refine lv_iload_n hx hb dL_law_851 rfl (lv_at hl 0 rfl) ?_
    refine lv_iconst (v := 1) hx hb dL_law_852 (by decide) ?_
    refine lv_iadd hx hb dL_law_853 ?_
    refine lv_topi (fun x101 ex101 => ?_)
    obtain ⟨tx101, ejx101, evx101⟩ := lw_ix (k := 1) ex101 hI hL rfl (by decide)
    clear tx101
    refine va_sld hx hb hX hbl (Nat.not_le.mpr hbl) hS (vp_in_iff.mpr evx101) dL_law_854 ?_
    refine W.eq (g2 := F0 m 855 ls [.int (xs (i.toNatClampNeg + 1)), .ref a]) (congrArg (fun z => F0 m 855 ls [.int (xs z), .ref a]) ejx101) ?_
    refine lv_aload_n hx hb dL_law_855 rfl (lv_at hl 3 rfl) ?_
    refine lv_iload_n hx hb dL_law_856 rfl (lv_at hl 0 rfl) ?_
    refine lv_iconst (v := 2) hx hb dL_law_857 (by decide) ?_
    refine lv_iadd hx hb dL_law_858 ?_
    refine lv_topi (fun x102 ex102 => ?_)
    obtain ⟨tx102, ejx102, evx102⟩ := lw_ix (k := 2) ex102 hI hL rfl (by decide)
    clear tx102
    refine va_sld hx hb hX hbl (Nat.not_le.mpr hbl) hS (vp_in_iff.mpr evx102) dL_law_859 ?_
    refine W.eq (g2 := F0 m 860 ls [.int (xs (i.toNatClampNeg + 2)), .int (xs (i.toNatClampNeg + 1)), .ref a]) (congrArg (fun z => F0 m 860 ls [.int (xs z), .int (xs (i.toNatClampNeg + 1)), .ref a]) ejx102) ?_
    have sp103 : ((0 ≤ (xs (i.toNatClampNeg + 1)).toInt ∧ (xs (i.toNatClampNeg + 1)).toInt ≤ 3) ∧ 0 ≤ (xs (i.toNatClampNeg + 2)).toInt ∧ (xs (i.toNatClampNeg + 2)).toInt < s1.toInt) ∨ ((xs (i.toNatClampNeg + 2)).toInt < 0 ∨ s1.toInt ≤ (xs (i.toNatClampNeg + 2)).toInt) ∨ ((xs (i.toNatClampNeg + 1)).toInt < 0 ∨ 3 < (xs (i.toNatClampNeg + 1)).toInt) := by omega
    rcases sp103 with hsp | hsp | hsp
    · skip
      have cxe := i_cl (x := (xs (i.toNatClampNeg + 2))) (by omega)
      obtain ⟨bq, ebq⟩ : ∃ z : Nat, z = fR H w (K.1.2 8 0) := ⟨_, rfl⟩
      have gbq := ty_fr (q := bq) (k := 0) (u := 25) ebq hT gw rg_0 rfl
      obtain ⟨bb, ebb⟩ : ∃ z : Nat, z = fR H bq ((xs (i.toNatClampNeg + 2)) : Int32).toNatClampNeg := ⟨_, rfl⟩
      have ebo : ow K H w ((xs (i.toNatClampNeg + 2)) : Int32).toNatClampNeg = bb := by rw [ow_b (by omega), ← ebq, ← ebb]
      have gbb : G bb = some 1 := by rw [← ebo]; exact ow_g hT gw (by omega)
      obtain ⟨rw1, erw1⟩ : ∃ z : Nat, z = fR H bb (K.1.2 0 1) := ⟨_, rfl⟩
      have grw1 := ty_fr (q := rw1) (k := 1) (u := 2) erw1 hT gbb rg_1 rfl
      obtain ⟨rw2, erw2⟩ : ∃ z : Nat, z = fR H bb (K.1.2 0 2) := ⟨_, rfl⟩
      have grw2 := ty_fr (q := rw2) (k := 2) (u := 3) erw2 hT gbb rg_1 rfl
      obtain ⟨rw3, erw3⟩ : ∃ z : Nat, z = fR H bb (K.1.2 0 3) := ⟨_, rfl⟩
      have grw3 := ty_fr (q := rw3) (k := 3) (u := 4) erw3 hT gbb rg_1 rfl
      obtain ⟨rw4, erw4⟩ : ∃ z : Nat, z = fR H bb (K.1.2 0 4) := ⟨_, rfl⟩
      have grw4 := ty_fr (q := rw4) (k := 4) (u := 5) erw4 hT gbb rg_1 rfl
      obtain ⟨rw5, erw5⟩ : ∃ z : Nat, z = fR H bb (K.1.2 0 5) := ⟨_, rfl⟩
      have grw5 := ty_fr (q := rw5) (k := 5) (u := 6) erw5 hT gbb rg_1 rfl
      obtain ⟨rw6, erw6⟩ : ∃ z : Nat, z = fR H bb (K.1.2 0 6) := ⟨_, rfl⟩
      have grw6 := ty_fr (q := rw6) (k := 6) (u := 7) erw6 hT gbb rg_1 rfl
      obtain ⟨rw7, erw7⟩ : ∃ z : Nat, z = fR H bb (K.1.2 0 7) := ⟨_, rfl⟩
      have grw7 := ty_fr (q := rw7) (k := 7) (u := 8) erw7 hT gbb rg_1 rfl
      obtain ⟨bz, ebz⟩ : ∃ z : Int32, z = fI H bb (K.1.2 0 0) := ⟨_, rfl⟩
      have bt_bz := ty_fi (x := bz) (k := 0) ebz hT gbb rg_1 rfl
      obtain ⟨bp, ebp⟩ : ∃ z : Int32, z = fI H bb (K.1.2 0 8) := ⟨_, rfl⟩
      have bt_bp := ty_fi (x := bp) (k := 8) ebp hT gbb rg_1 rfl
      obtain ⟨bl, ebl⟩ : ∃ z : Int32, z = fI H bb (K.1.2 0 9) := ⟨_, rfl⟩
      have bt_bl := ty_fi (x := bl) (k := 9) ebl hT gbb rg_1 rfl
      obtain ⟨hE_, hO_, hG_⟩ := re.2.1.1 ((xs (i.toNatClampNeg + 2)) : Int32).toNatClampNeg (by omega) (by omega)
      have ez_ : vcN K H w ((xs (i.toNatClampNeg + 2)) : Int32).toNatClampNeg = vwC K H bb := by show vwC K H (ow K H w ((xs (i.toNatClampNeg + 2)) : Int32).toNatClampNeg) = _; rw [ebo]
      rw [ez_] at hE_ hO_ hG_
      replace hE_ : EqW (vwC K H bb) (vwR K H b ((xs (i.toNatClampNeg + 2)) : Int32).toNatClampNeg) := hE_
      have hz3_ : 3 ≤ bz.toInt := by have z := hO_.1; rw [vwC_f (Or.inl rfl), ← ebz] at z; exact z
      have cfe := i_cl (x := s4) (by omega)
      obtain ⟨nE, kkE, vvE, hnE, hoE, ⟨htE, hcE, hbE⟩, hrE0⟩ := re.2.2 (s4 : Int32).toNatClampNeg (by omega)
      have lwE : LWT (s4 : Int32).toNatClampNeg = 1 := if_pos (by omega)
      rw [lwE] at hoE htE hrE0
      obtain ⟨lq_, elq_⟩ : ∃ z : Nat, z = fR H w (K.1.2 8 2) := ⟨_, rfl⟩
      have glq_ := ty_fr (q := lq_) (k := 2) (u := 26) elq_ hT gw rg_0 rfl
      obtain ⟨tx_, etx_⟩ : ∃ z : Nat, z = fR H lq_ (s4 : Int32).toNatClampNeg := ⟨_, rfl⟩
      have eow_ : ow K H w (10 + (s4 : Int32).toNatClampNeg) = tx_ := by rw [ow_l (by omega), ← elq_, ← etx_]
      have gtx_ : G tx_ = some 16 := by rw [← eow_]; exact ow_t hT gw (by omega) (by omega)
      rw [eow_] at htE hcE
      have hxE : TXC K H tx_ 1 (txFs kkE vvE 1) (txFw kkE vvE 1) := htE.txc hcE
      have cje := i_cl (x := (xs (i.toNatClampNeg + 1))) (by omega)
      obtain ⟨nJ, kkJ, vvJ, hnJ, hoJ, ⟨htJ, hcJ, hbJ⟩, hrJ0⟩ := re.2.2 (2 + ((xs (i.toNatClampNeg + 1)) : Int32).toNatClampNeg) (by omega)
      have lwJ : LWT (2 + ((xs (i.toNatClampNeg + 1)) : Int32).toNatClampNeg) = 0 := if_neg (by omega)
      rw [lwJ] at hoJ htJ hrJ0
      obtain ⟨jq_, ejq_⟩ : ∃ z : Nat, z = fR H w (K.1.2 8 3) := ⟨_, rfl⟩
      have gjq_ := ty_fr (q := jq_) (k := 3) (u := 27) ejq_ hT gw rg_0 rfl
      obtain ⟨jx_, ejx_⟩ : ∃ z : Nat, z = fR H jq_ ((xs (i.toNatClampNeg + 1)) : Int32).toNatClampNeg := ⟨_, rfl⟩
      have ejo_ : ow K H w (10 + (2 + ((xs (i.toNatClampNeg + 1)) : Int32).toNatClampNeg)) = jx_ := by rw [show 10 + (2 + ((xs (i.toNatClampNeg + 1)) : Int32).toNatClampNeg) = 12 + ((xs (i.toNatClampNeg + 1)) : Int32).toNatClampNeg by omega, ow_j, ← ejq_, ← ejx_]
      have gjx_ : G jx_ = some 16 := by rw [← ejo_]; exact ow_t hT gw (by omega) (by omega)
      rw [ejo_] at htJ hcJ
      have hxJ : TXC K H jx_ 0 (txFs kkJ vvJ 0) (txFw kkJ vvJ 0) := htJ.txc hcJ
      obtain ⟨jr1, ejr1⟩ : ∃ z : Nat, z = fR H jx_ (K.1.2 7 1) := ⟨_, rfl⟩
      have gjr1 := ty_fr (q := jr1) (k := 1) (u := 17) ejr1 hT gjx_ rg_16 rfl
      obtain ⟨jr2, ejr2⟩ : ∃ z : Nat, z = fR H jx_ (K.1.2 7 2) := ⟨_, rfl⟩
      have gjr2 := ty_fr (q := jr2) (k := 2) (u := 18) ejr2 hT gjx_ rg_16 rfl
      obtain ⟨jr3, ejr3⟩ : ∃ z : Nat, z = fR H jx_ (K.1.2 7 3) := ⟨_, rfl⟩
      have gjr3 := ty_fr (q := jr3) (k := 3) (u := 19) ejr3 hT gjx_ rg_16 rfl
      obtain ⟨jr4, ejr4⟩ : ∃ z : Nat, z = fR H jx_ (K.1.2 7 4) := ⟨_, rfl⟩
      have gjr4 := ty_fr (q := jr4) (k := 4) (u := 20) ejr4 hT gjx_ rg_16 rfl
      obtain ⟨jr5, ejr5⟩ : ∃ z : Nat, z = fR H jx_ (K.1.2 7 5) := ⟨_, rfl⟩
      have gjr5 := ty_fr (q := jr5) (k := 5) (u := 21) ejr5 hT gjx_ rg_16 rfl
      obtain ⟨jr6, ejr6⟩ : ∃ z : Nat, z = fR H jx_ (K.1.2 7 6) := ⟨_, rfl⟩
      have gjr6 := ty_fr (q := jr6) (k := 6) (u := 22) ejr6 hT gjx_ rg_16 rfl
      obtain ⟨jr7, ejr7⟩ : ∃ z : Nat, z = fR H jx_ (K.1.2 7 7) := ⟨_, rfl⟩
      have gjr7 := ty_fr (q := jr7) (k := 7) (u := 23) ejr7 hT gjx_ rg_16 rfl
      obtain ⟨jr8, ejr8⟩ : ∃ z : Nat, z = fR H jx_ (K.1.2 7 8) := ⟨_, rfl⟩
      have gjr8 := ty_fr (q := jr8) (k := 8) (u := 24) ejr8 hT gjx_ rg_16 rfl
      obtain ⟨li_, eli_⟩ : ∃ z : Int32, z = fI H jx_ (K.1.2 7 0) := ⟨_, rfl⟩
      have hcJ2 : li_.toInt = (nJ : Int) := by rw [eli_]; exact hcJ
      have cli_ := i_cl (x := li_) (by omega)
      obtain ⟨q104, eq104⟩ : ∃ z : Nat, @Eq Ad z (fR H a (K.1.2 9 5)) := ⟨_, rfl⟩
      have gq104 := ty_fr (q := q104) (k := 5) (u := 82) eq104 hT ga rg_68 rfl
      obtain ⟨q105, eq105⟩ : ∃ z : Nat, @Eq Ad z (fR H q104 (K.1.2 6 0)) := ⟨_, rfl⟩
      have gq105 := ty_fr (q := q105) (k := 0) (u := 83) eq105 hT gq104 rg_82 rfl
      refine x_V (As := [.int (xs (i.toNatClampNeg + 1)), .int (xs (i.toNatClampNeg + 2))]) (rest := []) C (a_X9_job_v l K G H ((xs (i.toNatClampNeg + 1))) ((xs (i.toNatClampNeg + 2))) (bp) (bl) (s4) (s5) (s1) (bz) (li_) (txFs kkE vvE 1) (txFw kkE vvE 1) (txFs kkJ vvJ 0) (txFw kkJ vvJ 0) hT ga (by omega) (by omega) gq104 eq104 gw ew glq_ elq_ gtx_ etx_ gbq ebq gjq_ ejq_ gjx_ ejx_ gbb ebb grw1 erw1 grw4 erw4 grw5 erw5 grw6 erw6 grw7 erw7 gjr1 ejr1 gjr2 ejr2 gjr3 ejr3 gjr4 ejr4 gjr6 ejr6 gjr7 ejr7 gjr8 ejr8 gq105 eq105 ebp ebl es4 es5 es1 ebz eli_ (by omega) (by omega) (by omega) (hxE) (fun j hj => by have z := hG_.1 j hj; rw [vwC_a (k := 5) (by decide)] at z; rw [erw5]; exact z) (hxJ) (by rw [ejr1, ejr2, ejr3, ejr4]; exact htJ.rng hoJ hcJ2)) yo_X9_job wM_L_88 ⟨⟨by decide, by decide⟩, show _ ≤ 60000 from Nat.le_trans hc (by decide), show _ ≤ 8922250 from Nat.le_trans hs (by decide)⟩ (x_rv C hT (ci := 9) rfl ga rg_68) rfl hl.1 rfl (Nat.le_of_ble_eq_true rfl) dL_law_860 hS (AE_new hN hS.1) (fun vH106 H106 locsH106 pH106 zH106 kH106 hSH106 => ?_)
      obtain ⟨x107, x108, x109, hvH106, ex108, ex109, m110, m111, m112, m113, m114, m115, m116, m117, m118, m119, hTH106⟩ := pH106
      subst hvH106
      have g120 : CG (avw K H106 b) := CG.congr (fun k hk j => av_eff hT kH106 gb (by decide) (CG_eff [1, 2, 7, 8, 83, 84, 5] (by decide) k hk)) cg
      have g121 : TU (avw K H106 b) (svw K H106 b) := TU.congr (fun k hk j => av_eff hT kH106 gb (by decide) (TU_eff [1, 2, 7, 8, 83, 84, 5] (by decide) k hk)) (fun k hk => sv_eff hT kH106 gb (by decide)) tu
      have g122 : WD (avw K H106 b) := WD.congr (fun k hk j => av_eff hT kH106 gb (by decide) (WD_eff [1, 2, 7, 8, 83, 84, 5] (by decide) k hk)) wd
      have g123 : IM (avw K H106 b) := IM.congr (fun k hk j => av_eff hT kH106 gb (by decide) (IM_eff [1, 2, 7, 8, 83, 84, 5] (by decide) k hk)) im
      have f124 : ∀ j : Nat, fI H106 tq j = fI H tq j := fun j => (fI_kept (x_lt hT kH106 gtq (by decide))).trans (ft0 j)
      have f125 : ∀ j : Nat, fI H106 uq j = fI H uq j := fun j => (fI_kept (x_lt hT kH106 guq (by decide))).trans (fu0 j)
      have m126 := (ew).trans (fR_kept (x_lt hT kH106 ga (by decide))).symm
      have m127 := (eta).trans (fI_kept (x_lt hT kH106 ga (by decide))).symm
      have m128 := (etb).trans (fI_kept (x_lt hT kH106 gb (by decide))).symm
      have m129 := (es1).trans (fI_kept (x_lt hT kH106 gw (by decide))).symm
      have m130 := (ey1).trans (fI_kept (x_lt hT kH106 gb (by decide))).symm
      have m131 := (es4).trans (fI_kept (x_lt hT kH106 gw (by decide))).symm
      have m132 := (ey4).trans (fI_kept (x_lt hT kH106 gb (by decide))).symm
      have m133 := (es5).trans (fI_kept (x_lt hT kH106 gw (by decide))).symm
      have m134 := (ey5).trans (fI_kept (x_lt hT kH106 gb (by decide))).symm
      have m135 := (es10).trans (fI_kept (x_lt hT kH106 gw (by decide))).symm
      have m136 := (ey10).trans (fI_kept (x_lt hT kH106 gb (by decide))).symm
      have m137 := (es13).trans (fI_kept (x_lt hT kH106 gw (by decide))).symm
      have m138 := (ey13).trans (fI_kept (x_lt hT kH106 gb (by decide))).symm
      have m139 := (es16).trans (fI_kept (x_lt hT kH106 gw (by decide))).symm
      have m140 := (ey16).trans (fI_kept (x_lt hT kH106 gb (by decide))).symm
      have m141 := (etq).trans (fR_kept (x_lt hT kH106 ga (by decide))).symm
      have m142 := (euq).trans (fR_kept (x_lt hT kH106 gb (by decide))).symm
      have m143 := (ehi).trans (fI_kept (x_lt hT kH106 gb (by decide))).symm
      have m144 := (fV_kept (x_lt hT kH106 ga (by decide))).trans kn
      have m145 := (eiq).trans (fR_kept (x_lt hT kH106 gb (by decide))).symm
      have m146 := (ebq).trans (fR_kept (x_lt hT kH106 gw (by decide))).symm
      have m147 := (ebb).trans (fR_kept (x_lt hT kH106 gbq (by decide))).symm
      have m148 := (elq_).trans (fR_kept (x_lt hT kH106 gw (by decide))).symm
      have m149 := (etx_).trans (fR_kept (x_lt hT kH106 glq_ (by decide))).symm
      have m150 := (ejq_).trans (fR_kept (x_lt hT kH106 gw (by decide))).symm
      have m151 := (ejx_).trans (fR_kept (x_lt hT kH106 gjq_ (by decide))).symm
      have m152 := (ejr1).trans (fR_kept (x_lt hT kH106 gjx_ (by decide))).symm
      have m153 := (ejr2).trans (fR_kept (x_lt hT kH106 gjx_ (by decide))).symm
      have m154 := (ejr3).trans (fR_kept (x_lt hT kH106 gjx_ (by decide))).symm
      have m155 := (ejr4).trans (fR_kept (x_lt hT kH106 gjx_ (by decide))).symm
      have m156 := (ejr5).trans (fR_kept (x_lt hT kH106 gjx_ (by decide))).symm
      have m157 := (ejr6).trans (fR_kept (x_lt hT kH106 gjx_ (by decide))).symm
      have m158 := (ejr7).trans (fR_kept (x_lt hT kH106 gjx_ (by decide))).symm
      have m159 := (ejr8).trans (fR_kept (x_lt hT kH106 gjx_ (by decide))).symm
      have m160 := (eli_).trans (fI_kept (x_lt hT kH106 gjx_ (by decide))).symm
      have m161 := (eq104).trans (fR_kept (x_lt hT kH106 ga (by decide))).symm
      have m162 := (eq105).trans (fR_kept (x_lt hT kH106 gq104 (by decide))).symm
      have bx108 := ty_fi (x := x108) (k := 8) ex108 hTH106 gbb rg_1 rfl
      have bx109 := ty_fi (x := x109) (k := 9) ex109 hTH106 gbb rg_1 rfl
      refine W.eq (g2 := F0 m 863 ls [.int x107]) rfl ?_
      have nw_ : NWF K H106 H w := fun k _ => fR_kept (m118 w 0 gw (by decide) (by decide) (G_ne gw gbb (by decide)) (G_ne gw grw1 (by decide)) (G_ne gw grw4 (by decide)) (G_ne gw grw6 (by decide)) (G_ne gw grw7 (by decide)))
      have rb_ : RFB K H106 H bb := m119
      obtain ⟨brf, bot, bat, btx⟩ := bar_one (H1 := H106) re.1 hT gw (j := ((xs (i.toNatClampNeg + 2)) : Int32).toNatClampNeg) (by omega) ebo nw_ rb_ (fun q t hq ht n1 n2 => m118 q t hq (by omega) (by omega) n1 (by rw [erw1]; exact n2 1 (by decide)) (by rw [erw4]; exact n2 4 (by decide)) (by rw [erw6]; exact n2 6 (by decide)) (by rw [erw7]; exact n2 7 (by decide)))
      have er1 : ∀ bar, vrN K H106 b bar = vrN K H b bar := vrN.reg hT gb (fun k _ => fR_kept (x_lt hT kH106 gb (by first | exact nmr ht (by decide) | exact nmo ht (by decide) | exact nme ht (by decide) | exact nmq ht (by decide) | decide | (intro z; simp only [List.mem_cons, List.not_mem_nil, or_false] at z <;> omega) | omega))) (fun q t hq ht => x_lt hT kH106 hq (by first | exact nmr ht (by decide) | exact nmo ht (by decide) | exact nme ht (by decide) | exact nmq ht (by decide) | decide | (intro z; simp only [List.mem_cons, List.not_mem_nil, or_false] at z <;> omega) | omega))
      have tr1 : TPK (TRP K H106 b) (TRP K H b) := TRP.reg hT gb (fun k _ _ => fR_kept (x_lt hT kH106 gb (by first | exact nmr ht (by decide) | exact nmo ht (by decide) | exact nme ht (by decide) | exact nmq ht (by decide) | decide | (intro z; simp only [List.mem_cons, List.not_mem_nil, or_false] at z <;> omega) | omega))) (fun q t hq ht => x_lt hT kH106 hq (by first | exact nmr ht (by decide) | exact nmo ht (by decide) | exact nme ht (by decide) | exact nmq ht (by decide) | decide | (intro z; simp only [List.mem_cons, List.not_mem_nil, or_false] at z <;> omega) | omega))
      refine lv_pop hx hb dL_law_863 rfl ?_
      refine lv_aload_n hx hb dL_law_864 rfl (lv_at hl 1 rfl) ?_
      refine lv_aload_n hx hb dL_law_865 rfl (lv_at hl 3 rfl) ?_
      refine lv_iload_n hx hb dL_law_866 rfl (lv_at hl 0 rfl) ?_
      refine lv_iconst (v := 1) hx hb dL_law_867 (by decide) ?_
      refine lv_iadd hx hb dL_law_868 ?_
      refine lv_topi (fun x163 ex163 => ?_)
      obtain ⟨tx163, ejx163, evx163⟩ := lw_ix (k := 1) ex163 hI hL rfl (by decide)
      clear tx163
      refine va_sld hx hb hX hbl (Nat.not_le.mpr hbl) hSH106 (vp_in_iff.mpr evx163) dL_law_869 ?_
      refine W.eq (g2 := F0 m 870 ls [.int (xs (i.toNatClampNeg + 1)), .ref b]) (congrArg (fun z => F0 m 870 ls [.int (xs z), .ref b]) ejx163) ?_
      refine lv_aload_n hx hb dL_law_870 rfl (lv_at hl 3 rfl) ?_
      refine lv_iload_n hx hb dL_law_871 rfl (lv_at hl 0 rfl) ?_
      refine lv_iconst (v := 2) hx hb dL_law_872 (by decide) ?_
      refine lv_iadd hx hb dL_law_873 ?_
      refine lv_topi (fun x164 ex164 => ?_)
      obtain ⟨tx164, ejx164, evx164⟩ := lw_ix (k := 2) ex164 hI hL rfl (by decide)
      clear tx164
      refine va_sld hx hb hX hbl (Nat.not_le.mpr hbl) hSH106 (vp_in_iff.mpr evx164) dL_law_874 ?_
      refine W.eq (g2 := F0 m 875 ls [.int (xs (i.toNatClampNeg + 2)), .int (xs (i.toNatClampNeg + 1)), .ref b]) (congrArg (fun z => F0 m 875 ls [.int (xs z), .int (xs (i.toNatClampNeg + 1)), .ref b]) ejx164) ?_
      have ev_ : vwR K H106 b ((xs (i.toNatClampNeg + 2)) : Int32).toNatClampNeg = vwR K H b ((xs (i.toNatClampNeg + 2)) : Int32).toNatClampNeg := er1 _
      obtain ⟨q165, eq165⟩ : ∃ z : Nat, @Eq Ad z (fR H106 b (K.1.2 10 24)) := ⟨_, rfl⟩
      have gq165 := ty_fr (q := q165) (k := 24) (u := 128) eq165 hTH106 gb rg_112 rfl
      have cye := i_cl (x := y4) (by omega)
      have hy4_ : (y4 : Int32).toNatClampNeg = (s4 : Int32).toNatClampNeg := by omega
      have hr1_ := tr1 _ kkE vvE 1 nE (by omega) hnE hrE0
      rw [← hy4_] at hr1_
      obtain ⟨hrE, hmE⟩ := hr1_
      have cmE := i_cl (x := fI H106 (fR H106 b (K.1.2 10 24)) (y4 : Int32).toNatClampNeg) (by omega)
      have hyE : TXR K H106 b (y4 : Int32).toNatClampNeg 1 (txRs kkE vvE 1 (y4 : Int32).toNatClampNeg) (txRw kkE vvE 1 (y4 : Int32).toNatClampNeg) := hrE.txr (by omega)
      have ccE := i_cl (x := fI H tx_ (K.1.2 7 0)) (by omega)
      have hTT_ := EqT.of htE hrE (by decide) (by omega) (by omega)
      obtain ⟨hrJ, hmJ0⟩ := tr1 _ kkJ vvJ 0 nJ (by omega) hnJ hrJ0
      have hmJ1 : (fI H106 q165 (2 + ((xs (i.toNatClampNeg + 1)) : Int32).toNatClampNeg)).toInt = (nJ : Int) := by rw [eq165]; exact hmJ0
      have cmJ := i_cl (x := fI H106 q165 (2 + ((xs (i.toNatClampNeg + 1)) : Int32).toNatClampNeg)) (by omega)
      have hmJ_ : (fI H106 q165 (2 + ((xs (i.toNatClampNeg + 1)) : Int32).toNatClampNeg)).toNatClampNeg = nJ := by omega
      have hyJ : TXR K H106 b (2 + ((xs (i.toNatClampNeg + 1)) : Int32).toNatClampNeg) 0 (txRs kkJ vvJ 0 (2 + ((xs (i.toNatClampNeg + 1)) : Int32).toNatClampNeg)) (txRw kkJ vvJ 0 (2 + ((xs (i.toNatClampNeg + 1)) : Int32).toNatClampNeg)) := hrJ.txr (by rw [← eq165]; exact hmJ_)
      obtain ⟨q166, eq166⟩ : ∃ z : Nat, @Eq Ad z (fR H106 b (K.1.2 10 5)) := ⟨_, rfl⟩
      have gq166 := ty_fr (q := q166) (k := 5) (u := 114) eq166 hTH106 gb rg_112 rfl
      obtain ⟨q167, eq167⟩ : ∃ z : Nat, @Eq Ad z (fR H106 b (K.1.2 10 11)) := ⟨_, rfl⟩
      have gq167 := ty_fr (q := q167) (k := 11) (u := 120) eq167 hTH106 gb rg_112 rfl
      obtain ⟨q168, eq168⟩ : ∃ z : Nat, @Eq Ad z (fR H106 b (K.1.2 10 12)) := ⟨_, rfl⟩
      have gq168 := ty_fr (q := q168) (k := 12) (u := 121) eq168 hTH106 gb rg_112 rfl
      obtain ⟨q169, eq169⟩ : ∃ z : Nat, @Eq Ad z (fR H106 b (K.1.2 10 10)) := ⟨_, rfl⟩
      have gq169 := ty_fr (q := q169) (k := 10) (u := 119) eq169 hTH106 gb rg_112 rfl
      obtain ⟨q170, eq170⟩ : ∃ z : Nat, @Eq Ad z (fR H106 b (K.1.2 10 13)) := ⟨_, rfl⟩
      have gq170 := ty_fr (q := q170) (k := 13) (u := 122) eq170 hTH106 gb rg_112 rfl
      obtain ⟨q171, eq171⟩ : ∃ z : Nat, @Eq Ad z (fR H106 b (K.1.2 10 9)) := ⟨_, rfl⟩
      have gq171 := ty_fr (q := q171) (k := 9) (u := 118) eq171 hTH106 gb rg_112 rfl
      obtain ⟨q172, eq172⟩ : ∃ z : Nat, @Eq Ad z (fR H106 b (K.1.2 10 4)) := ⟨_, rfl⟩
      have gq172 := ty_fr (q := q172) (k := 4) (u := 113) eq172 hTH106 gb rg_112 rfl
      obtain ⟨q173, eq173⟩ : ∃ z : Nat, @Eq Ad z (fR H106 b (K.1.2 10 8)) := ⟨_, rfl⟩
      have gq173 := ty_fr (q := q173) (k := 8) (u := 117) eq173 hTH106 gb rg_112 rfl
      obtain ⟨q174, eq174⟩ : ∃ z : Nat, @Eq Ad z (fR H106 b (K.1.2 10 25)) := ⟨_, rfl⟩
      have gq174 := ty_fr (q := q174) (k := 25) (u := 129) eq174 hTH106 gb rg_112 rfl
      obtain ⟨q175, eq175⟩ : ∃ z : Nat, @Eq Ad z (fR H106 b (K.1.2 10 26)) := ⟨_, rfl⟩
      have gq175 := ty_fr (q := q175) (k := 26) (u := 130) eq175 hTH106 gb rg_112 rfl
      obtain ⟨q176, eq176⟩ : ∃ z : Nat, @Eq Ad z (fR H106 b (K.1.2 10 27)) := ⟨_, rfl⟩
      have gq176 := ty_fr (q := q176) (k := 27) (u := 131) eq176 hTH106 gb rg_112 rfl
      obtain ⟨q177, eq177⟩ : ∃ z : Nat, @Eq Ad z (fR H106 b (K.1.2 10 28)) := ⟨_, rfl⟩
      have gq177 := ty_fr (q := q177) (k := 28) (u := 132) eq177 hTH106 gb rg_112 rfl
      obtain ⟨q178, eq178⟩ : ∃ z : Nat, @Eq Ad z (fR H106 b (K.1.2 10 32)) := ⟨_, rfl⟩
      have gq178 := ty_fr (q := q178) (k := 32) (u := 136) eq178 hTH106 gb rg_112 rfl
      obtain ⟨q179, eq179⟩ : ∃ z : Nat, @Eq Ad z (fR H106 b (K.1.2 10 33)) := ⟨_, rfl⟩
      have gq179 := ty_fr (q := q179) (k := 33) (u := 137) eq179 hTH106 gb rg_112 rfl
      obtain ⟨q180, eq180⟩ : ∃ z : Nat, @Eq Ad z (fR H106 b (K.1.2 10 44)) := ⟨_, rfl⟩
      have gq180 := ty_fr (q := q180) (k := 44) (u := 140) eq180 hTH106 gb rg_112 rfl
      obtain ⟨q181, eq181⟩ : ∃ z : Nat, @Eq Ad z (fR H106 b (K.1.2 10 43)) := ⟨_, rfl⟩
      have gq181 := ty_fr (q := q181) (k := 43) (u := 139) eq181 hTH106 gb rg_112 rfl
      obtain ⟨q182, eq182⟩ : ∃ z : Nat, @Eq Ad z (fR H106 b (K.1.2 10 30)) := ⟨_, rfl⟩
      have gq182 := ty_fr (q := q182) (k := 30) (u := 134) eq182 hTH106 gb rg_112 rfl
      obtain ⟨q183, eq183⟩ : ∃ z : Nat, @Eq Ad z (fR H106 b (K.1.2 10 31)) := ⟨_, rfl⟩
      have gq183 := ty_fr (q := q183) (k := 31) (u := 135) eq183 hTH106 gb rg_112 rfl
      obtain ⟨x184, ex184⟩ : ∃ z : Int32, z = fI H106 q169 ((xs (i.toNatClampNeg + 2)) : Int32).toNatClampNeg := ⟨_, rfl⟩
      have bx184 := ty_ai (x := x184) ex184 hTH106 gq169 rg_119 (by omega)
      obtain ⟨x185, ex185⟩ : ∃ z : Int32, z = fI H106 q170 ((xs (i.toNatClampNeg + 2)) : Int32).toNatClampNeg := ⟨_, rfl⟩
      have bx185 := ty_ai (x := x185) ex185 hTH106 gq170 rg_122 (by omega)
      obtain ⟨x186, ex186⟩ : ∃ z : Int32, z = fI H106 q172 ((xs (i.toNatClampNeg + 2)) : Int32).toNatClampNeg := ⟨_, rfl⟩
      have bx186 := ty_ai (x := x186) ex186 hTH106 gq172 rg_113 (by omega)
      refine x_V (As := [.int (xs (i.toNatClampNeg + 1)), .int (xs (i.toNatClampNeg + 2))]) (rest := []) C (a_X10_job_v l K G H106 ((xs (i.toNatClampNeg + 1))) ((xs (i.toNatClampNeg + 2))) (x184) (x185) (x186) (y1) (y4) (y5) (txRs kkE vvE 1 (y4 : Int32).toNatClampNeg) (txRw kkE vvE 1 (y4 : Int32).toNatClampNeg) (txRs kkJ vvJ 0 (2 + ((xs (i.toNatClampNeg + 1)) : Int32).toNatClampNeg)) (txRw kkJ vvJ 0 (2 + ((xs (i.toNatClampNeg + 1)) : Int32).toNatClampNeg)) (fI H106 q165 (2 + ((xs (i.toNatClampNeg + 1)) : Int32).toNatClampNeg)) hTH106 gb (by omega) (by omega) gq166 eq166 gq167 eq167 gq168 eq168 gq169 eq169 gq170 eq170 gq171 eq171 gq172 eq172 gq173 eq173 gq174 eq174 gq175 eq175 gq176 eq176 gq177 eq177 gq165 eq165 gq178 eq178 gq179 eq179 gq180 eq180 gq181 eq181 gq182 eq182 gq183 eq183 ex184 ex185 ex186 m130 m132 m134 g120 g121 g122 g123 (by omega) (by omega) (hyE) (fun j hj => by have z := hG_.1 j hj; rw [hE_.a 5 j (by decide) (by show j < 3; exact hj), ← ev_, vwR_a (k := 5) (by decide)] at z; rw [eq171]; exact z) (hyJ) (rfl) (by rw [eq174, eq175, eq176, eq177]; intro l h1 h2; exact hrJ.rng hoJ l h1 (by omega))) yo_X10_job wM_L_91 ⟨⟨by decide, by decide⟩, show _ ≤ 60000 from Nat.le_trans hc (by decide), show _ ≤ 8922250 from Nat.le_trans hs (by decide)⟩ (x_rv C hTH106 (ci := 10) rfl gb rg_112) rfl hl.1 rfl (Nat.le_of_ble_eq_true rfl) dL_law_875 hSH106 (AE_new hN hSH106.1) (fun vH187 H187 locsH187 pH187 zH187 kH187 hSH187 => ?_)
      obtain ⟨x188, x189, x190, hvH187, ex189, ex190, m191, m192, m193, m194, m195, m196, m197, m198, m199, m200, m201, m202, m203, m204, m205, m206, m207, m208, m209, m210, m211, m212, g213, g214, g215, g216, mf217, m218, m219, m220, hTH187⟩ := pH187
      subst hvH187
      have f221 : ∀ j : Nat, fI H187 tq j = fI H tq j := fun j => (fI_kept (x_lt hTH106 kH187 gtq (by decide))).trans (f124 j)
      have f222 : ∀ j : Nat, fI H187 uq j = fI H uq j := fun j => (fI_kept (x_lt hTH106 kH187 guq (by decide))).trans (f125 j)
      have m223 := (m126).trans (fR_kept (x_lt hTH106 kH187 ga (by decide))).symm
      have m224 := (m127).trans (fI_kept (x_lt hTH106 kH187 ga (by decide))).symm
      have m225 := (m129).trans (fI_kept (x_lt hTH106 kH187 gw (by decide))).symm
      have m226 := (m131).trans (fI_kept (x_lt hTH106 kH187 gw (by decide))).symm
      have m227 := (m133).trans (fI_kept (x_lt hTH106 kH187 gw (by decide))).symm
      have m228 := (m135).trans (fI_kept (x_lt hTH106 kH187 gw (by decide))).symm
      have m229 := (m137).trans (fI_kept (x_lt hTH106 kH187 gw (by decide))).symm
      have m230 := (m139).trans (fI_kept (x_lt hTH106 kH187 gw (by decide))).symm
      have m231 := (m141).trans (fR_kept (x_lt hTH106 kH187 ga (by decide))).symm
      have m232 := (fV_kept (x_lt hTH106 kH187 ga (by decide))).trans m144
      have m233 := (m146).trans (fR_kept (x_lt hTH106 kH187 gw (by decide))).symm
      have m234 := (m147).trans (fR_kept (x_lt hTH106 kH187 gbq (by decide))).symm
      have m235 := (m148).trans (fR_kept (x_lt hTH106 kH187 gw (by decide))).symm
      have m236 := (m149).trans (fR_kept (x_lt hTH106 kH187 glq_ (by decide))).symm
      have m237 := (m150).trans (fR_kept (x_lt hTH106 kH187 gw (by decide))).symm
      have m238 := (m151).trans (fR_kept (x_lt hTH106 kH187 gjq_ (by decide))).symm
      have m239 := (m152).trans (fR_kept (x_lt hTH106 kH187 gjx_ (by decide))).symm
      have m240 := (m153).trans (fR_kept (x_lt hTH106 kH187 gjx_ (by decide))).symm
      have m241 := (m154).trans (fR_kept (x_lt hTH106 kH187 gjx_ (by decide))).symm
      have m242 := (m155).trans (fR_kept (x_lt hTH106 kH187 gjx_ (by decide))).symm
      have m243 := (m156).trans (fR_kept (x_lt hTH106 kH187 gjx_ (by decide))).symm
      have m244 := (m157).trans (fR_kept (x_lt hTH106 kH187 gjx_ (by decide))).symm
      have m245 := (m158).trans (fR_kept (x_lt hTH106 kH187 gjx_ (by decide))).symm
      have m246 := (m159).trans (fR_kept (x_lt hTH106 kH187 gjx_ (by decide))).symm
      have m247 := (m160).trans (fI_kept (x_lt hTH106 kH187 gjx_ (by decide))).symm
      have m248 := (m161).trans (fR_kept (x_lt hTH106 kH187 ga (by decide))).symm
      have m249 := (m162).trans (fR_kept (x_lt hTH106 kH187 gq104 (by decide))).symm
      have m250 := (m110).trans (fR_kept (x_lt hTH106 kH187 gbb (by decide))).symm
      have m251 := (m111).trans (fR_kept (x_lt hTH106 kH187 gbb (by decide))).symm
      have m252 := (m112).trans (fR_kept (x_lt hTH106 kH187 gbb (by decide))).symm
      have m253 := (m113).trans (fR_kept (x_lt hTH106 kH187 gbb (by decide))).symm
      have m254 := (m114).trans (fR_kept (x_lt hTH106 kH187 gbb (by decide))).symm
      have m255 := (m115).trans (fI_kept (x_lt hTH106 kH187 gbb (by decide))).symm
      have m256 := (ex108).trans (fI_kept (x_lt hTH106 kH187 gbb (by decide))).symm
      have m257 := (ex109).trans (fI_kept (x_lt hTH106 kH187 gbb (by decide))).symm
      have m258 := (ex186).trans (fI_kept (x_lt hTH106 kH187 gq172 (by decide))).symm
      have m259 := (m128).trans (MF.i mf217 (k := 18) (by decide) (by decide)).symm
      have m260 := (m130).trans (MF.i mf217 (k := 1) (by decide) (by decide)).symm
      have m261 := (m132).trans (MF.i mf217 (k := 2) (by decide) (by decide)).symm
      have m262 := (m134).trans (MF.i mf217 (k := 3) (by decide) (by decide)).symm
      have m263 := (m136).trans (MF.i mf217 (k := 59) (by decide) (by decide)).symm
      have m264 := (m138).trans (MF.i mf217 (k := 62) (by decide) (by decide)).symm
      have m265 := (m140).trans (MF.i mf217 (k := 65) (by decide) (by decide)).symm
      have m266 := (m142).trans (MF.r mf217 (k := 17) (by decide) (by decide)).symm
      have m267 := (m143).trans (MF.i mf217 (k := 70) (by decide) (by decide)).symm
      have m268 := (m145).trans (MF.r mf217 (k := 73) (by decide) (by decide)).symm
      have m269 := (eq165).trans (MF.r mf217 (k := 24) (by decide) (by decide)).symm
      have m270 := (eq166).trans (MF.r mf217 (k := 5) (by decide) (by decide)).symm
      have m271 := (eq167).trans (MF.r mf217 (k := 11) (by decide) (by decide)).symm
      have m272 := (eq168).trans (MF.r mf217 (k := 12) (by decide) (by decide)).symm
      have m273 := (eq169).trans (MF.r mf217 (k := 10) (by decide) (by decide)).symm
      have m274 := (eq170).trans (MF.r mf217 (k := 13) (by decide) (by decide)).symm
      have m275 := (eq171).trans (MF.r mf217 (k := 9) (by decide) (by decide)).symm
      have m276 := (eq172).trans (MF.r mf217 (k := 4) (by decide) (by decide)).symm
      have m277 := (eq173).trans (MF.r mf217 (k := 8) (by decide) (by decide)).symm
      have m278 := (eq174).trans (MF.r mf217 (k := 25) (by decide) (by decide)).symm
      have m279 := (eq175).trans (MF.r mf217 (k := 26) (by decide) (by decide)).symm
      have m280 := (eq176).trans (MF.r mf217 (k := 27) (by decide) (by decide)).symm
      have m281 := (eq177).trans (MF.r mf217 (k := 28) (by decide) (by decide)).symm
      have m282 := (eq178).trans (MF.r mf217 (k := 32) (by decide) (by decide)).symm
      have m283 := (eq179).trans (MF.r mf217 (k := 33) (by decide) (by decide)).symm
      have m284 := (eq180).trans (MF.r mf217 (k := 44) (by decide) (by decide)).symm
      have m285 := (eq181).trans (MF.r mf217 (k := 43) (by decide) (by decide)).symm
      have m286 := (eq182).trans (MF.r mf217 (k := 30) (by decide) (by decide)).symm
      have m287 := (eq183).trans (MF.r mf217 (k := 31) (by decide) (by decide)).symm
      have bx189 := ty_ai (x := x189) ex189 hTH187 gq169 rg_119 (by omega)
      have bx190 := ty_ai (x := x190) ex190 hTH187 gq170 rg_122 (by omega)
      refine W.eq (g2 := F0 m 878 ls [.int x188]) rfl ?_
      have r12 : RFW K H187 H106 w := RFW.cell hTH106 gw (fun q t hq ht => x_lt hTH106 kH187 hq (by first | exact nmr ht (by decide) | exact nmo ht (by decide) | exact nme ht (by decide) | exact nmq ht (by decide) | decide | (intro z; simp only [List.mem_cons, List.not_mem_nil, or_false] at z <;> omega) | omega))
      have cU := vcN.kept hTH106 gw r12 (fun q t hq ht => x_lt hTH106 kH187 hq (by first | exact nmr ht (by decide) | exact nmo ht (by decide) | exact nme ht (by decide) | exact nmq ht (by decide) | decide | (intro z; simp only [List.mem_cons, List.not_mem_nil, or_false] at z <;> omega) | omega))
      have own2 : OWN K H187 w := (re.1.st brf).st r12
      have tU : TPK (TXP K H187 w) (TXP K H106 w) := TXP.kept hTH106 gw r12 (fun q t hq ht => x_lt hTH106 kH187 hq (by first | exact nmr ht (by decide) | exact nmo ht (by decide) | exact nme ht (by decide) | exact nmq ht (by decide) | decide | (intro z; simp only [List.mem_cons, List.not_mem_nil, or_false] at z <;> omega) | omega))
      have tR : TPK (TRP K H187 b) (TRP K H106 b) := TRP.reg hTH106 gb (fun k h1 h2 => MF.r mf217 (by omega) (by intro z; simp only [List.mem_cons, List.not_mem_nil, or_false] at z; omega)) (fun q t hq ht => x_lt hTH106 kH187 hq (by first | exact nmr ht (by decide) | exact nmo ht (by decide) | exact nme ht (by decide) | exact nmq ht (by decide) | decide | (intro z; simp only [List.mem_cons, List.not_mem_nil, or_false] at z <;> omega) | omega))
      have hCHB_ : CHB (vwC K H106 bb) (vwR K H187 b ((xs (i.toNatClampNeg + 2)) : Int32).toNatClampNeg) := by rw [m116, m218, ev_, show y5.toInt = s5.toInt by omega, ejr1, ejr2, ejr3, ejr4, ejr6, ejr7, eq174, eq175, eq176, eq177, eq182, eq183, show li_.toNatClampNeg = nJ by omega, hmJ_]; exact CHB.jo hO_ hG_ (job_congr htJ hrJ hoJ hTT_ hE_ hO_)
      obtain ⟨hC1, hC2, hC3⟩ := hCHB_
      have hrq_ : x107.toInt = x188.toInt := by rw [m117, m219, ev_, hC1.a 8 0 (by decide) (by decide), hE_.a 8 0 (by decide) (by decide)]
      have re288 : RE K H187 w b s1.toInt := RE.set (i := ((xs (i.toNatClampNeg + 2)) : Int32).toNatClampNeg) re own2 (by omega) (by rw [cU ((xs (i.toNatClampNeg + 2)) : Int32).toNatClampNeg (by omega), bat]; exact hC1) (by rw [cU ((xs (i.toNatClampNeg + 2)) : Int32).toNatClampNeg (by omega), bat]; exact hC2) (by rw [cU ((xs (i.toNatClampNeg + 2)) : Int32).toNatClampNeg (by omega), bat]; exact hC3) (fun j hj hn => (cU j hj).trans (bot j hj hn)) (fun j hj hn => EqV.tr (m220 j hn) (by rw [show vwR K H106 b j = vwR K H b j from er1 j]; exact EqV.rf)) (fun r kk vv lw n h1 h2 z => tU r kk vv lw n h1 h2 (btx r kk vv lw n h1 h2 z)) (fun r kk vv lw n h1 h2 z => tR r kk vv lw n h1 h2 (tr1 r kk vv lw n h1 h2 z))
      refine lv_pop hx hb dL_law_878 rfl ?_
      refine lv_goto (tgt := 1509) hx hb dL_law_879 (by decide) ?_
      exact nx G H187 locsH187 _ _ ls ⟨hTH187, hN, ga, gb, g213, g214, g215, g216, ⟨(by rw [← m224, ← m259]; exact rt), (by rw [← m223, ← m225, ← m210]; exact r1), (by rw [← m223, ← m226, ← m211]; exact r4), (by rw [← m223, ← m227, ← m212]; exact r5), (by rw [← m223, ← m228, ← m263]; exact r10), (by rw [← m223, ← m229, ← m264]; exact r13), (by rw [← m223, ← m230, ← m265]; exact r16)⟩, Or.inl ⟨m232, (by rw [← m267]; exact h70)⟩, (by unfold TB; rw [← m231, ← m266, ← m259]; exact TBR.of htr f221 f222 (by omega)), (by unfold RELE; rw [← m223, ← m210, ← m227]; exact ⟨RE.cast re288 (by omega), by omega, by omega⟩), hSH187⟩ hl ⟨hc, hs, fun _ => ⟨hc0, hs0⟩⟩
    · skip
      refine x_V (As := [.int (xs (i.toNatClampNeg + 1)), .int (xs (i.toNatClampNeg + 2))]) (rest := []) C (a_X9_job_n l K G H ((xs (i.toNatClampNeg + 1))) ((xs (i.toNatClampNeg + 2))) (s1) hT ga gw ew es1 (by omega)) yo_X9_job wM_L_88 ⟨⟨by decide, by decide⟩, show _ ≤ 60000 from Nat.le_trans hc (by decide), show _ ≤ 8922250 from Nat.le_trans hs (by decide)⟩ (x_rv C hT (ci := 9) rfl ga rg_68) rfl hl.1 rfl (Nat.le_of_ble_eq_true rfl) dL_law_860 hS (AE_new hN hS.1) (fun vH289 H289 locsH289 pH289 zH289 kH289 hSH289 => ?_)
      obtain ⟨x290, hvH289, bx290, hTH289⟩ := pH289
      subst hvH289
      have g291 : CG (avw K H289 b) := CG.congr (fun k hk j => av_eff hT kH289 gb (by decide) (CG_eff [] (by decide) k hk)) cg
      have g292 : TU (avw K H289 b) (svw K H289 b) := TU.congr (fun k hk j => av_eff hT kH289 gb (by decide) (TU_eff [] (by decide) k hk)) (fun k hk => sv_eff hT kH289 gb (by decide)) tu
      have g293 : WD (avw K H289 b) := WD.congr (fun k hk j => av_eff hT kH289 gb (by decide) (WD_eff [] (by decide) k hk)) wd
      have g294 : IM (avw K H289 b) := IM.congr (fun k hk j => av_eff hT kH289 gb (by decide) (IM_eff [] (by decide) k hk)) im
      have f295 : ∀ j : Nat, fI H289 tq j = fI H tq j := fun j => (fI_kept (x_lt hT kH289 gtq (by decide))).trans (ft0 j)
      have f296 : ∀ j : Nat, fI H289 uq j = fI H uq j := fun j => (fI_kept (x_lt hT kH289 guq (by decide))).trans (fu0 j)
      have m297 := (ew).trans (fR_kept (x_lt hT kH289 ga (by decide))).symm
      have m298 := (eta).trans (fI_kept (x_lt hT kH289 ga (by decide))).symm
      have m299 := (etb).trans (fI_kept (x_lt hT kH289 gb (by decide))).symm
      have m300 := (es1).trans (fI_kept (x_lt hT kH289 gw (by decide))).symm
      have m301 := (ey1).trans (fI_kept (x_lt hT kH289 gb (by decide))).symm
      have m302 := (es4).trans (fI_kept (x_lt hT kH289 gw (by decide))).symm
      have m303 := (ey4).trans (fI_kept (x_lt hT kH289 gb (by decide))).symm
      have m304 := (es5).trans (fI_kept (x_lt hT kH289 gw (by decide))).symm
      have m305 := (ey5).trans (fI_kept (x_lt hT kH289 gb (by decide))).symm
      have m306 := (es10).trans (fI_kept (x_lt hT kH289 gw (by decide))).symm
      have m307 := (ey10).trans (fI_kept (x_lt hT kH289 gb (by decide))).symm
      have m308 := (es13).trans (fI_kept (x_lt hT kH289 gw (by decide))).symm
      have m309 := (ey13).trans (fI_kept (x_lt hT kH289 gb (by decide))).symm
      have m310 := (es16).trans (fI_kept (x_lt hT kH289 gw (by decide))).symm
      have m311 := (ey16).trans (fI_kept (x_lt hT kH289 gb (by decide))).symm
      have m312 := (etq).trans (fR_kept (x_lt hT kH289 ga (by decide))).symm
      have m313 := (euq).trans (fR_kept (x_lt hT kH289 gb (by decide))).symm
      have m314 := (ehi).trans (fI_kept (x_lt hT kH289 gb (by decide))).symm
      have m315 := (fV_kept (x_lt hT kH289 ga (by decide))).trans kn
      have m316 := (eiq).trans (fR_kept (x_lt hT kH289 gb (by decide))).symm
      refine W.eq (g2 := F0 m 863 ls [.int x290]) rfl ?_
      have re317 : RE K H289 w b s1.toInt := RE.cls re hT gw gb (fun q t hq ht => x_lt hT kH289 hq (by first | exact nmr ht (by decide) | exact nmo ht (by decide) | exact nme ht (by decide) | exact nmq ht (by decide) | decide | (intro z; simp only [List.mem_cons, List.not_mem_nil, or_false] at z <;> omega) | omega))
      refine lv_pop hx hb dL_law_863 rfl ?_
      refine lv_aload_n hx hb dL_law_864 rfl (lv_at hl 1 rfl) ?_
      refine lv_aload_n hx hb dL_law_865 rfl (lv_at hl 3 rfl) ?_
      refine lv_iload_n hx hb dL_law_866 rfl (lv_at hl 0 rfl) ?_
      refine lv_iconst (v := 1) hx hb dL_law_867 (by decide) ?_
      refine lv_iadd hx hb dL_law_868 ?_
      refine lv_topi (fun x318 ex318 => ?_)
      obtain ⟨tx318, ejx318, evx318⟩ := lw_ix (k := 1) ex318 hI hL rfl (by decide)
      clear tx318
      refine va_sld hx hb hX hbl (Nat.not_le.mpr hbl) hSH289 (vp_in_iff.mpr evx318) dL_law_869 ?_
      refine W.eq (g2 := F0 m 870 ls [.int (xs (i.toNatClampNeg + 1)), .ref b]) (congrArg (fun z => F0 m 870 ls [.int (xs z), .ref b]) ejx318) ?_
      refine lv_aload_n hx hb dL_law_870 rfl (lv_at hl 3 rfl) ?_
      refine lv_iload_n hx hb dL_law_871 rfl (lv_at hl 0 rfl) ?_
      refine lv_iconst (v := 2) hx hb dL_law_872 (by decide) ?_
      refine lv_iadd hx hb dL_law_873 ?_
      refine lv_topi (fun x319 ex319 => ?_)
      obtain ⟨tx319, ejx319, evx319⟩ := lw_ix (k := 2) ex319 hI hL rfl (by decide)
      clear tx319
      refine va_sld hx hb hX hbl (Nat.not_le.mpr hbl) hSH289 (vp_in_iff.mpr evx319) dL_law_874 ?_
      refine W.eq (g2 := F0 m 875 ls [.int (xs (i.toNatClampNeg + 2)), .int (xs (i.toNatClampNeg + 1)), .ref b]) (congrArg (fun z => F0 m 875 ls [.int (xs z), .int (xs (i.toNatClampNeg + 1)), .ref b]) ejx319) ?_
      refine x_V (As := [.int (xs (i.toNatClampNeg + 1)), .int (xs (i.toNatClampNeg + 2))]) (rest := []) C (a_X10_job_n l K G H289 ((xs (i.toNatClampNeg + 1))) ((xs (i.toNatClampNeg + 2))) (y1) hTH289 gb m301 g291 g292 g293 g294 (by omega)) yo_X10_job wM_L_91 ⟨⟨by decide, by decide⟩, show _ ≤ 60000 from Nat.le_trans hc (by decide), show _ ≤ 8922250 from Nat.le_trans hs (by decide)⟩ (x_rv C hTH289 (ci := 10) rfl gb rg_112) rfl hl.1 rfl (Nat.le_of_ble_eq_true rfl) dL_law_875 hSH289 (AE_new hN hSH289.1) (fun vH320 H320 locsH320 pH320 zH320 kH320 hSH320 => ?_)
      obtain ⟨x321, hvH320, bx321, m322, g323, g324, g325, g326, mf327, hTH320⟩ := pH320
      subst hvH320
      have f328 : ∀ j : Nat, fI H320 tq j = fI H tq j := fun j => (fI_kept (x_lt hTH289 kH320 gtq (by decide))).trans (f295 j)
      have f329 : ∀ j : Nat, fI H320 uq j = fI H uq j := fun j => (fI_kept (x_lt hTH289 kH320 guq (by decide))).trans (f296 j)
      have m330 := (m297).trans (fR_kept (x_lt hTH289 kH320 ga (by decide))).symm
      have m331 := (m298).trans (fI_kept (x_lt hTH289 kH320 ga (by decide))).symm
      have m332 := (m300).trans (fI_kept (x_lt hTH289 kH320 gw (by decide))).symm
      have m333 := (m302).trans (fI_kept (x_lt hTH289 kH320 gw (by decide))).symm
      have m334 := (m304).trans (fI_kept (x_lt hTH289 kH320 gw (by decide))).symm
      have m335 := (m306).trans (fI_kept (x_lt hTH289 kH320 gw (by decide))).symm
      have m336 := (m308).trans (fI_kept (x_lt hTH289 kH320 gw (by decide))).symm
      have m337 := (m310).trans (fI_kept (x_lt hTH289 kH320 gw (by decide))).symm
      have m338 := (m312).trans (fR_kept (x_lt hTH289 kH320 ga (by decide))).symm
      have m339 := (fV_kept (x_lt hTH289 kH320 ga (by decide))).trans m315
      have m340 := (m299).trans (MF.i mf327 (k := 18) (by decide) (by decide)).symm
      have m341 := (m301).trans (MF.i mf327 (k := 1) (by decide) (by decide)).symm
      have m342 := (m303).trans (MF.i mf327 (k := 2) (by decide) (by decide)).symm
      have m343 := (m305).trans (MF.i mf327 (k := 3) (by decide) (by decide)).symm
      have m344 := (m307).trans (MF.i mf327 (k := 59) (by decide) (by decide)).symm
      have m345 := (m309).trans (MF.i mf327 (k := 62) (by decide) (by decide)).symm
      have m346 := (m311).trans (MF.i mf327 (k := 65) (by decide) (by decide)).symm
      have m347 := (m313).trans (MF.r mf327 (k := 17) (by decide) (by decide)).symm
      have m348 := (m314).trans (MF.i mf327 (k := 70) (by decide) (by decide)).symm
      have m349 := (m316).trans (MF.r mf327 (k := 73) (by decide) (by decide)).symm
      refine W.eq (g2 := F0 m 878 ls [.int x321]) rfl ?_
      have re350 : RE K H320 w b s1.toInt := RE.ref re317 hTH289 gw gb (fun k hk => MF.r mf327 (by omega) (by intro z; simp only [List.mem_cons, List.not_mem_nil, or_false] at z; omega)) (fun q t hq ht => x_lt hTH289 kH320 hq (by first | exact nmr ht (by decide) | exact nmo ht (by decide) | exact nme ht (by decide) | exact nmq ht (by decide) | decide | (intro z; simp only [List.mem_cons, List.not_mem_nil, or_false] at z <;> omega) | omega))
      refine lv_pop hx hb dL_law_878 rfl ?_
      refine lv_goto (tgt := 1509) hx hb dL_law_879 (by decide) ?_
      exact nx G H320 locsH320 _ _ ls ⟨hTH320, hN, ga, gb, g323, g324, g325, g326, ⟨(by rw [← m331, ← m340]; exact rt), (by rw [← m330, ← m332, ← m322]; exact r1), (by rw [← m330, ← m333, ← m342]; exact r4), (by rw [← m330, ← m334, ← m343]; exact r5), (by rw [← m330, ← m335, ← m344]; exact r10), (by rw [← m330, ← m336, ← m345]; exact r13), (by rw [← m330, ← m337, ← m346]; exact r16)⟩, Or.inl ⟨m339, (by rw [← m348]; exact h70)⟩, (by unfold TB; rw [← m338, ← m347, ← m340]; exact TBR.of htr f328 f329 (by omega)), (by unfold RELE; rw [← m330, ← m322, ← m334]; exact ⟨RE.cast re350 (by omega), by omega, by omega⟩), hSH320⟩ hl ⟨hc, hs, fun _ => ⟨hc0, hs0⟩⟩
    · skip
      refine x_V (As := [.int (xs (i.toNatClampNeg + 1)), .int (xs (i.toNatClampNeg + 2))]) (rest := []) C (a_X9_job_k l K G H ((xs (i.toNatClampNeg + 1))) ((xs (i.toNatClampNeg + 2))) hT ga (by omega)) yo_X9_job wM_L_88 ⟨⟨by decide, by decide⟩, show _ ≤ 60000 from Nat.le_trans hc (by decide), show _ ≤ 8922250 from Nat.le_trans hs (by decide)⟩ (x_rv C hT (ci := 9) rfl ga rg_68) rfl hl.1 rfl (Nat.le_of_ble_eq_true rfl) dL_law_860 hS (AE_new hN hS.1) (fun vH351 H351 locsH351 pH351 zH351 kH351 hSH351 => ?_)
      obtain ⟨x352, hvH351, bx352, hTH351⟩ := pH351
      subst hvH351
      have g353 : CG (avw K H351 b) := CG.congr (fun k hk j => av_eff hT kH351 gb (by decide) (CG_eff [] (by decide) k hk)) cg
      have g354 : TU (avw K H351 b) (svw K H351 b) := TU.congr (fun k hk j => av_eff hT kH351 gb (by decide) (TU_eff [] (by decide) k hk)) (fun k hk => sv_eff hT kH351 gb (by decide)) tu
      have g355 : WD (avw K H351 b) := WD.congr (fun k hk j => av_eff hT kH351 gb (by decide) (WD_eff [] (by decide) k hk)) wd
      have g356 : IM (avw K H351 b) := IM.congr (fun k hk j => av_eff hT kH351 gb (by decide) (IM_eff [] (by decide) k hk)) im
      have f357 : ∀ j : Nat, fI H351 tq j = fI H tq j := fun j => (fI_kept (x_lt hT kH351 gtq (by decide))).trans (ft0 j)
      have f358 : ∀ j : Nat, fI H351 uq j = fI H uq j := fun j => (fI_kept (x_lt hT kH351 guq (by decide))).trans (fu0 j)
      have m359 := (ew).trans (fR_kept (x_lt hT kH351 ga (by decide))).symm
      have m360 := (eta).trans (fI_kept (x_lt hT kH351 ga (by decide))).symm
      have m361 := (etb).trans (fI_kept (x_lt hT kH351 gb (by decide))).symm
      have m362 := (es1).trans (fI_kept (x_lt hT kH351 gw (by decide))).symm
      have m363 := (ey1).trans (fI_kept (x_lt hT kH351 gb (by decide))).symm
      have m364 := (es4).trans (fI_kept (x_lt hT kH351 gw (by decide))).symm
      have m365 := (ey4).trans (fI_kept (x_lt hT kH351 gb (by decide))).symm
      have m366 := (es5).trans (fI_kept (x_lt hT kH351 gw (by decide))).symm
      have m367 := (ey5).trans (fI_kept (x_lt hT kH351 gb (by decide))).symm
      have m368 := (es10).trans (fI_kept (x_lt hT kH351 gw (by decide))).symm
      have m369 := (ey10).trans (fI_kept (x_lt hT kH351 gb (by decide))).symm
      have m370 := (es13).trans (fI_kept (x_lt hT kH351 gw (by decide))).symm
      have m371 := (ey13).trans (fI_kept (x_lt hT kH351 gb (by decide))).symm
      have m372 := (es16).trans (fI_kept (x_lt hT kH351 gw (by decide))).symm
      have m373 := (ey16).trans (fI_kept (x_lt hT kH351 gb (by decide))).symm
      have m374 := (etq).trans (fR_kept (x_lt hT kH351 ga (by decide))).symm
      have m375 := (euq).trans (fR_kept (x_lt hT kH351 gb (by decide))).symm
      have m376 := (ehi).trans (fI_kept (x_lt hT kH351 gb (by decide))).symm
      have m377 := (fV_kept (x_lt hT kH351 ga (by decide))).trans kn
      have m378 := (eiq).trans (fR_kept (x_lt hT kH351 gb (by decide))).symm
      refine W.eq (g2 := F0 m 863 ls [.int x352]) rfl ?_
      have re379 : RE K H351 w b s1.toInt := RE.cls re hT gw gb (fun q t hq ht => x_lt hT kH351 hq (by first | exact nmr ht (by decide) | exact nmo ht (by decide) | exact nme ht (by decide) | exact nmq ht (by decide) | decide | (intro z; simp only [List.mem_cons, List.not_mem_nil, or_false] at z <;> omega) | omega))
      refine lv_pop hx hb dL_law_863 rfl ?_
      refine lv_aload_n hx hb dL_law_864 rfl (lv_at hl 1 rfl) ?_
      refine lv_aload_n hx hb dL_law_865 rfl (lv_at hl 3 rfl) ?_
      refine lv_iload_n hx hb dL_law_866 rfl (lv_at hl 0 rfl) ?_
      refine lv_iconst (v := 1) hx hb dL_law_867 (by decide) ?_
      refine lv_iadd hx hb dL_law_868 ?_
      refine lv_topi (fun x380 ex380 => ?_)
      obtain ⟨tx380, ejx380, evx380⟩ := lw_ix (k := 1) ex380 hI hL rfl (by decide)
      clear tx380
      refine va_sld hx hb hX hbl (Nat.not_le.mpr hbl) hSH351 (vp_in_iff.mpr evx380) dL_law_869 ?_
      refine W.eq (g2 := F0 m 870 ls [.int (xs (i.toNatClampNeg + 1)), .ref b]) (congrArg (fun z => F0 m 870 ls [.int (xs z), .ref b]) ejx380) ?_
      refine lv_aload_n hx hb dL_law_870 rfl (lv_at hl 3 rfl) ?_
      refine lv_iload_n hx hb dL_law_871 rfl (lv_at hl 0 rfl) ?_
      refine lv_iconst (v := 2) hx hb dL_law_872 (by decide) ?_
      refine lv_iadd hx hb dL_law_873 ?_
      refine lv_topi (fun x381 ex381 => ?_)
      obtain ⟨tx381, ejx381, evx381⟩ := lw_ix (k := 2) ex381 hI hL rfl (by decide)
      clear tx381
      refine va_sld hx hb hX hbl (Nat.not_le.mpr hbl) hSH351 (vp_in_iff.mpr evx381) dL_law_874 ?_
      refine W.eq (g2 := F0 m 875 ls [.int (xs (i.toNatClampNeg + 2)), .int (xs (i.toNatClampNeg + 1)), .ref b]) (congrArg (fun z => F0 m 875 ls [.int (xs z), .int (xs (i.toNatClampNeg + 1)), .ref b]) ejx381) ?_
      refine x_V (As := [.int (xs (i.toNatClampNeg + 1)), .int (xs (i.toNatClampNeg + 2))]) (rest := []) C (a_X10_job_k l K G H351 ((xs (i.toNatClampNeg + 1))) ((xs (i.toNatClampNeg + 2))) hTH351 gb g353 g354 g355 g356 (by omega)) yo_X10_job wM_L_91 ⟨⟨by decide, by decide⟩, show _ ≤ 60000 from Nat.le_trans hc (by decide), show _ ≤ 8922250 from Nat.le_trans hs (by decide)⟩ (x_rv C hTH351 (ci := 10) rfl gb rg_112) rfl hl.1 rfl (Nat.le_of_ble_eq_true rfl) dL_law_875 hSH351 (AE_new hN hSH351.1) (fun vH382 H382 locsH382 pH382 zH382 kH382 hSH382 => ?_)
      obtain ⟨x383, hvH382, bx383, g384, g385, g386, g387, mf388, hTH382⟩ := pH382
      subst hvH382
      have f389 : ∀ j : Nat, fI H382 tq j = fI H tq j := fun j => (fI_kept (x_lt hTH351 kH382 gtq (by decide))).trans (f357 j)
      have f390 : ∀ j : Nat, fI H382 uq j = fI H uq j := fun j => (fI_kept (x_lt hTH351 kH382 guq (by decide))).trans (f358 j)
      have m391 := (m359).trans (fR_kept (x_lt hTH351 kH382 ga (by decide))).symm
      have m392 := (m360).trans (fI_kept (x_lt hTH351 kH382 ga (by decide))).symm
      have m393 := (m362).trans (fI_kept (x_lt hTH351 kH382 gw (by decide))).symm
      have m394 := (m364).trans (fI_kept (x_lt hTH351 kH382 gw (by decide))).symm
      have m395 := (m366).trans (fI_kept (x_lt hTH351 kH382 gw (by decide))).symm
      have m396 := (m368).trans (fI_kept (x_lt hTH351 kH382 gw (by decide))).symm
      have m397 := (m370).trans (fI_kept (x_lt hTH351 kH382 gw (by decide))).symm
      have m398 := (m372).trans (fI_kept (x_lt hTH351 kH382 gw (by decide))).symm
      have m399 := (m374).trans (fR_kept (x_lt hTH351 kH382 ga (by decide))).symm
      have m400 := (fV_kept (x_lt hTH351 kH382 ga (by decide))).trans m377
      have m401 := (m361).trans (MF.i mf388 (k := 18) (by decide) (by decide)).symm
      have m402 := (m363).trans (MF.i mf388 (k := 1) (by decide) (by decide)).symm
      have m403 := (m365).trans (MF.i mf388 (k := 2) (by decide) (by decide)).symm
      have m404 := (m367).trans (MF.i mf388 (k := 3) (by decide) (by decide)).symm
      have m405 := (m369).trans (MF.i mf388 (k := 59) (by decide) (by decide)).symm
      have m406 := (m371).trans (MF.i mf388 (k := 62) (by decide) (by decide)).symm
      have m407 := (m373).trans (MF.i mf388 (k := 65) (by decide) (by decide)).symm
      have m408 := (m375).trans (MF.r mf388 (k := 17) (by decide) (by decide)).symm
      have m409 := (m376).trans (MF.i mf388 (k := 70) (by decide) (by decide)).symm
      have m410 := (m378).trans (MF.r mf388 (k := 73) (by decide) (by decide)).symm
      refine W.eq (g2 := F0 m 878 ls [.int x383]) rfl ?_
      have re411 : RE K H382 w b s1.toInt := RE.ref re379 hTH351 gw gb (fun k hk => MF.r mf388 (by omega) (by intro z; simp only [List.mem_cons, List.not_mem_nil, or_false] at z; omega)) (fun q t hq ht => x_lt hTH351 kH382 hq (by first | exact nmr ht (by decide) | exact nmo ht (by decide) | exact nme ht (by decide) | exact nmq ht (by decide) | decide | (intro z; simp only [List.mem_cons, List.not_mem_nil, or_false] at z <;> omega) | omega))
      refine lv_pop hx hb dL_law_878 rfl ?_
      refine lv_goto (tgt := 1509) hx hb dL_law_879 (by decide) ?_
      exact nx G H382 locsH382 _ _ ls ⟨hTH382, hN, ga, gb, g384, g385, g386, g387, ⟨(by rw [← m392, ← m401]; exact rt), (by rw [← m391, ← m393, ← m402]; exact r1), (by rw [← m391, ← m394, ← m403]; exact r4), (by rw [← m391, ← m395, ← m404]; exact r5), (by rw [← m391, ← m396, ← m405]; exact r10), (by rw [← m391, ← m397, ← m406]; exact r13), (by rw [← m391, ← m398, ← m407]; exact r16)⟩, Or.inl ⟨m400, (by rw [← m409]; exact h70)⟩, (by unfold TB; rw [← m399, ← m408, ← m401]; exact TBR.of htr f389 f390 (by omega)), (by unfold RELE; rw [← m391, ← m402, ← m395]; exact ⟨RE.cast re411 (by omega), by omega, by omega⟩), hSH382⟩ hl ⟨hc, hs, fun _ => ⟨hc0, hs0⟩⟩
  · skip
    obtain ⟨hi, ehi⟩ : ∃ z : Int32, z = fI H b (K.1.2 10 70) := ⟨_, rfl⟩
    rw [← ehi] at h70
    obtain ⟨iq, eiq⟩ : ∃ z : Nat, z = fR H b (K.1.2 10 73) := ⟨_, rfl⟩
    have giq := ty_fr (q := iq) (k := 73) (u := 162) eiq hT gb rg_112 rfl
    rw [← eiq] at q1 q4 q5 q10 q13 q16
    obtain ⟨k1, ek1⟩ : ∃ z : Int32, z = fI H kq (K.1.2 8 1) := ⟨_, rfl⟩
    rw [← ek1] at q1
    obtain ⟨i1, ei1⟩ : ∃ z : Int32, z = fI H iq ((0 : Int32).toNatClampNeg) := ⟨_, rfl⟩
    rw [← ei1] at q1
    obtain ⟨k4, ek4⟩ : ∃ z : Int32, z = fI H kq (K.1.2 8 4) := ⟨_, rfl⟩
    rw [← ek4] at q4
    obtain ⟨i4, ei4⟩ : ∃ z : Int32, z = fI H iq ((1 : Int32).toNatClampNeg) := ⟨_, rfl⟩
    rw [← ei4] at q4
    obtain ⟨k5, ek5⟩ : ∃ z : Int32, z = fI H kq (K.1.2 8 5) := ⟨_, rfl⟩
    rw [← ek5] at q5
    obtain ⟨i5, ei5⟩ : ∃ z : Int32, z = fI H iq ((2 : Int32).toNatClampNeg) := ⟨_, rfl⟩
    rw [← ei5] at q5
    obtain ⟨k10, ek10⟩ : ∃ z : Int32, z = fI H kq (K.1.2 8 10) := ⟨_, rfl⟩
    rw [← ek10] at q10
    obtain ⟨i10, ei10⟩ : ∃ z : Int32, z = fI H iq ((3 : Int32).toNatClampNeg) := ⟨_, rfl⟩
    rw [← ei10] at q10
    obtain ⟨k13, ek13⟩ : ∃ z : Int32, z = fI H kq (K.1.2 8 13) := ⟨_, rfl⟩
    rw [← ek13] at q13
    obtain ⟨i13, ei13⟩ : ∃ z : Int32, z = fI H iq ((4 : Int32).toNatClampNeg) := ⟨_, rfl⟩
    rw [← ei13] at q13
    obtain ⟨k16, ek16⟩ : ∃ z : Int32, z = fI H kq (K.1.2 8 16) := ⟨_, rfl⟩
    rw [← ek16] at q16
    obtain ⟨i16, ei16⟩ : ∃ z : Int32, z = fI H iq ((5 : Int32).toNatClampNeg) := ⟨_, rfl⟩
    rw [← ei16] at q16
    rw [← eiq, ← ek1] at rke
    have hsk : 0 ≤ k5.toInt ∧ k5.toInt ≤ 9999 := by rw [ek5]; exact ⟨ks1, ks2⟩
    refine lv_aload_n hx hb dL_law_849 rfl (lv_at hl 2 rfl) ?_
    refine lv_aload_n hx hb dL_law_850 rfl (lv_at hl 3 rfl) ?_
    refine lv_iload_n hx hb dL_law_851 rfl (lv_at hl 0 rfl) ?_
    refine lv_iconst (v := 1) hx hb dL_law_852 (by decide) ?_
    refine lv_iadd hx hb dL_law_853 ?_
    refine lv_topi (fun x412 ex412 => ?_)
    obtain ⟨tx412, ejx412, evx412⟩ := lw_ix (k := 1) ex412 hI hL rfl (by decide)
    clear tx412
    refine va_sld hx hb hX hbl (Nat.not_le.mpr hbl) hS (vp_in_iff.mpr evx412) dL_law_854 ?_
    refine W.eq (g2 := F0 m 855 ls [.int (xs (i.toNatClampNeg + 1)), .ref a]) (congrArg (fun z => F0 m 855 ls [.int (xs z), .ref a]) ejx412) ?_
    refine lv_aload_n hx hb dL_law_855 rfl (lv_at hl 3 rfl) ?_
    refine lv_iload_n hx hb dL_law_856 rfl (lv_at hl 0 rfl) ?_
    refine lv_iconst (v := 2) hx hb dL_law_857 (by decide) ?_
    refine lv_iadd hx hb dL_law_858 ?_
    refine lv_topi (fun x413 ex413 => ?_)
    obtain ⟨tx413, ejx413, evx413⟩ := lw_ix (k := 2) ex413 hI hL rfl (by decide)
    clear tx413
    refine va_sld hx hb hX hbl (Nat.not_le.mpr hbl) hS (vp_in_iff.mpr evx413) dL_law_859 ?_
    refine W.eq (g2 := F0 m 860 ls [.int (xs (i.toNatClampNeg + 2)), .int (xs (i.toNatClampNeg + 1)), .ref a]) (congrArg (fun z => F0 m 860 ls [.int (xs z), .int (xs (i.toNatClampNeg + 1)), .ref a]) ejx413) ?_
    have sp414 : ((0 ≤ (xs (i.toNatClampNeg + 1)).toInt ∧ (xs (i.toNatClampNeg + 1)).toInt ≤ 3) ∧ 0 ≤ (xs (i.toNatClampNeg + 2)).toInt ∧ (xs (i.toNatClampNeg + 2)).toInt < s1.toInt) ∨ ((xs (i.toNatClampNeg + 2)).toInt < 0 ∨ s1.toInt ≤ (xs (i.toNatClampNeg + 2)).toInt) ∨ ((xs (i.toNatClampNeg + 1)).toInt < 0 ∨ 3 < (xs (i.toNatClampNeg + 1)).toInt) := by omega
    rcases sp414 with hsp | hsp | hsp
    · skip
      have cxe := i_cl (x := (xs (i.toNatClampNeg + 2))) (by omega)
      obtain ⟨bq, ebq⟩ : ∃ z : Nat, z = fR H w (K.1.2 8 0) := ⟨_, rfl⟩
      have gbq := ty_fr (q := bq) (k := 0) (u := 25) ebq hT gw rg_0 rfl
      obtain ⟨bb, ebb⟩ : ∃ z : Nat, z = fR H bq ((xs (i.toNatClampNeg + 2)) : Int32).toNatClampNeg := ⟨_, rfl⟩
      have ebo : ow K H w ((xs (i.toNatClampNeg + 2)) : Int32).toNatClampNeg = bb := by rw [ow_b (by omega), ← ebq, ← ebb]
      have gbb : G bb = some 1 := by rw [← ebo]; exact ow_g hT gw (by omega)
      obtain ⟨rw1, erw1⟩ : ∃ z : Nat, z = fR H bb (K.1.2 0 1) := ⟨_, rfl⟩
      have grw1 := ty_fr (q := rw1) (k := 1) (u := 2) erw1 hT gbb rg_1 rfl
      obtain ⟨rw2, erw2⟩ : ∃ z : Nat, z = fR H bb (K.1.2 0 2) := ⟨_, rfl⟩
      have grw2 := ty_fr (q := rw2) (k := 2) (u := 3) erw2 hT gbb rg_1 rfl
      obtain ⟨rw3, erw3⟩ : ∃ z : Nat, z = fR H bb (K.1.2 0 3) := ⟨_, rfl⟩
      have grw3 := ty_fr (q := rw3) (k := 3) (u := 4) erw3 hT gbb rg_1 rfl
      obtain ⟨rw4, erw4⟩ : ∃ z : Nat, z = fR H bb (K.1.2 0 4) := ⟨_, rfl⟩
      have grw4 := ty_fr (q := rw4) (k := 4) (u := 5) erw4 hT gbb rg_1 rfl
      obtain ⟨rw5, erw5⟩ : ∃ z : Nat, z = fR H bb (K.1.2 0 5) := ⟨_, rfl⟩
      have grw5 := ty_fr (q := rw5) (k := 5) (u := 6) erw5 hT gbb rg_1 rfl
      obtain ⟨rw6, erw6⟩ : ∃ z : Nat, z = fR H bb (K.1.2 0 6) := ⟨_, rfl⟩
      have grw6 := ty_fr (q := rw6) (k := 6) (u := 7) erw6 hT gbb rg_1 rfl
      obtain ⟨rw7, erw7⟩ : ∃ z : Nat, z = fR H bb (K.1.2 0 7) := ⟨_, rfl⟩
      have grw7 := ty_fr (q := rw7) (k := 7) (u := 8) erw7 hT gbb rg_1 rfl
      obtain ⟨bz, ebz⟩ : ∃ z : Int32, z = fI H bb (K.1.2 0 0) := ⟨_, rfl⟩
      have bt_bz := ty_fi (x := bz) (k := 0) ebz hT gbb rg_1 rfl
      obtain ⟨bp, ebp⟩ : ∃ z : Int32, z = fI H bb (K.1.2 0 8) := ⟨_, rfl⟩
      have bt_bp := ty_fi (x := bp) (k := 8) ebp hT gbb rg_1 rfl
      obtain ⟨bl, ebl⟩ : ∃ z : Int32, z = fI H bb (K.1.2 0 9) := ⟨_, rfl⟩
      have bt_bl := ty_fi (x := bl) (k := 9) ebl hT gbb rg_1 rfl
      obtain ⟨hE_, hO_, hG_⟩ := re.2.1.1 ((xs (i.toNatClampNeg + 2)) : Int32).toNatClampNeg (by omega) (by omega)
      have ez_ : vcN K H w ((xs (i.toNatClampNeg + 2)) : Int32).toNatClampNeg = vwC K H bb := by show vwC K H (ow K H w ((xs (i.toNatClampNeg + 2)) : Int32).toNatClampNeg) = _; rw [ebo]
      rw [ez_] at hE_ hO_ hG_
      replace hE_ : EqW (vwC K H bb) (vwR K H b ((xs (i.toNatClampNeg + 2)) : Int32).toNatClampNeg) := hE_
      have hz3_ : 3 ≤ bz.toInt := by have z := hO_.1; rw [vwC_f (Or.inl rfl), ← ebz] at z; exact z
      have cfe := i_cl (x := s4) (by omega)
      obtain ⟨nE, kkE, vvE, hnE, hoE, ⟨htE, hcE, hbE⟩, hrE0⟩ := re.2.2 (s4 : Int32).toNatClampNeg (by omega)
      have lwE : LWT (s4 : Int32).toNatClampNeg = 1 := if_pos (by omega)
      rw [lwE] at hoE htE hrE0
      obtain ⟨lq_, elq_⟩ : ∃ z : Nat, z = fR H w (K.1.2 8 2) := ⟨_, rfl⟩
      have glq_ := ty_fr (q := lq_) (k := 2) (u := 26) elq_ hT gw rg_0 rfl
      obtain ⟨tx_, etx_⟩ : ∃ z : Nat, z = fR H lq_ (s4 : Int32).toNatClampNeg := ⟨_, rfl⟩
      have eow_ : ow K H w (10 + (s4 : Int32).toNatClampNeg) = tx_ := by rw [ow_l (by omega), ← elq_, ← etx_]
      have gtx_ : G tx_ = some 16 := by rw [← eow_]; exact ow_t hT gw (by omega) (by omega)
      rw [eow_] at htE hcE
      have hxE : TXC K H tx_ 1 (txFs kkE vvE 1) (txFw kkE vvE 1) := htE.txc hcE
      have cje := i_cl (x := (xs (i.toNatClampNeg + 1))) (by omega)
      obtain ⟨nJ, kkJ, vvJ, hnJ, hoJ, ⟨htJ, hcJ, hbJ⟩, hrJ0⟩ := re.2.2 (2 + ((xs (i.toNatClampNeg + 1)) : Int32).toNatClampNeg) (by omega)
      have lwJ : LWT (2 + ((xs (i.toNatClampNeg + 1)) : Int32).toNatClampNeg) = 0 := if_neg (by omega)
      rw [lwJ] at hoJ htJ hrJ0
      obtain ⟨jq_, ejq_⟩ : ∃ z : Nat, z = fR H w (K.1.2 8 3) := ⟨_, rfl⟩
      have gjq_ := ty_fr (q := jq_) (k := 3) (u := 27) ejq_ hT gw rg_0 rfl
      obtain ⟨jx_, ejx_⟩ : ∃ z : Nat, z = fR H jq_ ((xs (i.toNatClampNeg + 1)) : Int32).toNatClampNeg := ⟨_, rfl⟩
      have ejo_ : ow K H w (10 + (2 + ((xs (i.toNatClampNeg + 1)) : Int32).toNatClampNeg)) = jx_ := by rw [show 10 + (2 + ((xs (i.toNatClampNeg + 1)) : Int32).toNatClampNeg) = 12 + ((xs (i.toNatClampNeg + 1)) : Int32).toNatClampNeg by omega, ow_j, ← ejq_, ← ejx_]
      have gjx_ : G jx_ = some 16 := by rw [← ejo_]; exact ow_t hT gw (by omega) (by omega)
      rw [ejo_] at htJ hcJ
      have hxJ : TXC K H jx_ 0 (txFs kkJ vvJ 0) (txFw kkJ vvJ 0) := htJ.txc hcJ
      obtain ⟨jr1, ejr1⟩ : ∃ z : Nat, z = fR H jx_ (K.1.2 7 1) := ⟨_, rfl⟩
      have gjr1 := ty_fr (q := jr1) (k := 1) (u := 17) ejr1 hT gjx_ rg_16 rfl
      obtain ⟨jr2, ejr2⟩ : ∃ z : Nat, z = fR H jx_ (K.1.2 7 2) := ⟨_, rfl⟩
      have gjr2 := ty_fr (q := jr2) (k := 2) (u := 18) ejr2 hT gjx_ rg_16 rfl
      obtain ⟨jr3, ejr3⟩ : ∃ z : Nat, z = fR H jx_ (K.1.2 7 3) := ⟨_, rfl⟩
      have gjr3 := ty_fr (q := jr3) (k := 3) (u := 19) ejr3 hT gjx_ rg_16 rfl
      obtain ⟨jr4, ejr4⟩ : ∃ z : Nat, z = fR H jx_ (K.1.2 7 4) := ⟨_, rfl⟩
      have gjr4 := ty_fr (q := jr4) (k := 4) (u := 20) ejr4 hT gjx_ rg_16 rfl
      obtain ⟨jr5, ejr5⟩ : ∃ z : Nat, z = fR H jx_ (K.1.2 7 5) := ⟨_, rfl⟩
      have gjr5 := ty_fr (q := jr5) (k := 5) (u := 21) ejr5 hT gjx_ rg_16 rfl
      obtain ⟨jr6, ejr6⟩ : ∃ z : Nat, z = fR H jx_ (K.1.2 7 6) := ⟨_, rfl⟩
      have gjr6 := ty_fr (q := jr6) (k := 6) (u := 22) ejr6 hT gjx_ rg_16 rfl
      obtain ⟨jr7, ejr7⟩ : ∃ z : Nat, z = fR H jx_ (K.1.2 7 7) := ⟨_, rfl⟩
      have gjr7 := ty_fr (q := jr7) (k := 7) (u := 23) ejr7 hT gjx_ rg_16 rfl
      obtain ⟨jr8, ejr8⟩ : ∃ z : Nat, z = fR H jx_ (K.1.2 7 8) := ⟨_, rfl⟩
      have gjr8 := ty_fr (q := jr8) (k := 8) (u := 24) ejr8 hT gjx_ rg_16 rfl
      obtain ⟨li_, eli_⟩ : ∃ z : Int32, z = fI H jx_ (K.1.2 7 0) := ⟨_, rfl⟩
      have hcJ2 : li_.toInt = (nJ : Int) := by rw [eli_]; exact hcJ
      have cli_ := i_cl (x := li_) (by omega)
      obtain ⟨q415, eq415⟩ : ∃ z : Nat, @Eq Ad z (fR H a (K.1.2 9 5)) := ⟨_, rfl⟩
      have gq415 := ty_fr (q := q415) (k := 5) (u := 82) eq415 hT ga rg_68 rfl
      obtain ⟨q416, eq416⟩ : ∃ z : Nat, @Eq Ad z (fR H q415 (K.1.2 6 0)) := ⟨_, rfl⟩
      have gq416 := ty_fr (q := q416) (k := 0) (u := 83) eq416 hT gq415 rg_82 rfl
      refine x_V (As := [.int (xs (i.toNatClampNeg + 1)), .int (xs (i.toNatClampNeg + 2))]) (rest := []) C (a_X9_job_v l K G H ((xs (i.toNatClampNeg + 1))) ((xs (i.toNatClampNeg + 2))) (bp) (bl) (s4) (s5) (s1) (bz) (li_) (txFs kkE vvE 1) (txFw kkE vvE 1) (txFs kkJ vvJ 0) (txFw kkJ vvJ 0) hT ga (by omega) (by omega) gq415 eq415 gw ew glq_ elq_ gtx_ etx_ gbq ebq gjq_ ejq_ gjx_ ejx_ gbb ebb grw1 erw1 grw4 erw4 grw5 erw5 grw6 erw6 grw7 erw7 gjr1 ejr1 gjr2 ejr2 gjr3 ejr3 gjr4 ejr4 gjr6 ejr6 gjr7 ejr7 gjr8 ejr8 gq416 eq416 ebp ebl es4 es5 es1 ebz eli_ (by omega) (by omega) (by omega) (hxE) (fun j hj => by have z := hG_.1 j hj; rw [vwC_a (k := 5) (by decide)] at z; rw [erw5]; exact z) (hxJ) (by rw [ejr1, ejr2, ejr3, ejr4]; exact htJ.rng hoJ hcJ2)) yo_X9_job wM_L_88 ⟨⟨by decide, by decide⟩, show _ ≤ 60000 from Nat.le_trans hc (by decide), show _ ≤ 8922250 from Nat.le_trans hs (by decide)⟩ (x_rv C hT (ci := 9) rfl ga rg_68) rfl hl.1 rfl (Nat.le_of_ble_eq_true rfl) dL_law_860 hS (AE_new hN hS.1) (fun vH417 H417 locsH417 pH417 zH417 kH417 hSH417 => ?_)
      obtain ⟨x418, x419, x420, hvH417, ex419, ex420, m421, m422, m423, m424, m425, m426, m427, m428, m429, m430, hTH417⟩ := pH417
      subst hvH417
      have g431 : CG (avw K H417 b) := CG.congr (fun k hk j => av_eff hT kH417 gb (by decide) (CG_eff [1, 2, 7, 8, 83, 84, 5] (by decide) k hk)) cg
      have g432 : TU (avw K H417 b) (svw K H417 b) := TU.congr (fun k hk j => av_eff hT kH417 gb (by decide) (TU_eff [1, 2, 7, 8, 83, 84, 5] (by decide) k hk)) (fun k hk => sv_eff hT kH417 gb (by decide)) tu
      have g433 : WD (avw K H417 b) := WD.congr (fun k hk j => av_eff hT kH417 gb (by decide) (WD_eff [1, 2, 7, 8, 83, 84, 5] (by decide) k hk)) wd
      have g434 : IM (avw K H417 b) := IM.congr (fun k hk j => av_eff hT kH417 gb (by decide) (IM_eff [1, 2, 7, 8, 83, 84, 5] (by decide) k hk)) im
      have f435 : ∀ j : Nat, fI H417 tq j = fI H tq j := fun j => (fI_kept (x_lt hT kH417 gtq (by decide))).trans (ft0 j)
      have f436 : ∀ j : Nat, fI H417 uq j = fI H uq j := fun j => (fI_kept (x_lt hT kH417 guq (by decide))).trans (fu0 j)
      have m437 := (ew).trans (fR_kept (x_lt hT kH417 ga (by decide))).symm
      have m438 := (eta).trans (fI_kept (x_lt hT kH417 ga (by decide))).symm
      have m439 := (etb).trans (fI_kept (x_lt hT kH417 gb (by decide))).symm
      have m440 := (es1).trans (fI_kept (x_lt hT kH417 gw (by decide))).symm
      have m441 := (ey1).trans (fI_kept (x_lt hT kH417 gb (by decide))).symm
      have m442 := (es4).trans (fI_kept (x_lt hT kH417 gw (by decide))).symm
      have m443 := (ey4).trans (fI_kept (x_lt hT kH417 gb (by decide))).symm
      have m444 := (es5).trans (fI_kept (x_lt hT kH417 gw (by decide))).symm
      have m445 := (ey5).trans (fI_kept (x_lt hT kH417 gb (by decide))).symm
      have m446 := (es10).trans (fI_kept (x_lt hT kH417 gw (by decide))).symm
      have m447 := (ey10).trans (fI_kept (x_lt hT kH417 gb (by decide))).symm
      have m448 := (es13).trans (fI_kept (x_lt hT kH417 gw (by decide))).symm
      have m449 := (ey13).trans (fI_kept (x_lt hT kH417 gb (by decide))).symm
      have m450 := (es16).trans (fI_kept (x_lt hT kH417 gw (by decide))).symm
      have m451 := (ey16).trans (fI_kept (x_lt hT kH417 gb (by decide))).symm
      have m452 := (etq).trans (fR_kept (x_lt hT kH417 ga (by decide))).symm
      have m453 := (euq).trans (fR_kept (x_lt hT kH417 gb (by decide))).symm
      have m454 := (ehi).trans (fI_kept (x_lt hT kH417 gb (by decide))).symm
      have m455 := (fV_kept (x_lt hT kH417 ga (by decide))).trans kn
      have m456 := (eiq).trans (fR_kept (x_lt hT kH417 gb (by decide))).symm
      have m457 := (ek1).trans (fI_kept (x_lt hT kH417 gkq (by decide))).symm
      have m458 := (ei1).trans (fI_kept (x_lt hT kH417 giq (by decide))).symm
      have m459 := (ek4).trans (fI_kept (x_lt hT kH417 gkq (by decide))).symm
      have m460 := (ei4).trans (fI_kept (x_lt hT kH417 giq (by decide))).symm
      have m461 := (ek5).trans (fI_kept (x_lt hT kH417 gkq (by decide))).symm
      have m462 := (ei5).trans (fI_kept (x_lt hT kH417 giq (by decide))).symm
      have m463 := (ek10).trans (fI_kept (x_lt hT kH417 gkq (by decide))).symm
      have m464 := (ei10).trans (fI_kept (x_lt hT kH417 giq (by decide))).symm
      have m465 := (ek13).trans (fI_kept (x_lt hT kH417 gkq (by decide))).symm
      have m466 := (ei13).trans (fI_kept (x_lt hT kH417 giq (by decide))).symm
      have m467 := (ek16).trans (fI_kept (x_lt hT kH417 gkq (by decide))).symm
      have m468 := (ei16).trans (fI_kept (x_lt hT kH417 giq (by decide))).symm
      have m469 := (ebq).trans (fR_kept (x_lt hT kH417 gw (by decide))).symm
      have m470 := (ebb).trans (fR_kept (x_lt hT kH417 gbq (by decide))).symm
      have m471 := (elq_).trans (fR_kept (x_lt hT kH417 gw (by decide))).symm
      have m472 := (etx_).trans (fR_kept (x_lt hT kH417 glq_ (by decide))).symm
      have m473 := (ejq_).trans (fR_kept (x_lt hT kH417 gw (by decide))).symm
      have m474 := (ejx_).trans (fR_kept (x_lt hT kH417 gjq_ (by decide))).symm
      have m475 := (ejr1).trans (fR_kept (x_lt hT kH417 gjx_ (by decide))).symm
      have m476 := (ejr2).trans (fR_kept (x_lt hT kH417 gjx_ (by decide))).symm
      have m477 := (ejr3).trans (fR_kept (x_lt hT kH417 gjx_ (by decide))).symm
      have m478 := (ejr4).trans (fR_kept (x_lt hT kH417 gjx_ (by decide))).symm
      have m479 := (ejr5).trans (fR_kept (x_lt hT kH417 gjx_ (by decide))).symm
      have m480 := (ejr6).trans (fR_kept (x_lt hT kH417 gjx_ (by decide))).symm
      have m481 := (ejr7).trans (fR_kept (x_lt hT kH417 gjx_ (by decide))).symm
      have m482 := (ejr8).trans (fR_kept (x_lt hT kH417 gjx_ (by decide))).symm
      have m483 := (eli_).trans (fI_kept (x_lt hT kH417 gjx_ (by decide))).symm
      have m484 := (eq415).trans (fR_kept (x_lt hT kH417 ga (by decide))).symm
      have m485 := (eq416).trans (fR_kept (x_lt hT kH417 gq415 (by decide))).symm
      have bx419 := ty_fi (x := x419) (k := 8) ex419 hTH417 gbb rg_1 rfl
      have bx420 := ty_fi (x := x420) (k := 9) ex420 hTH417 gbb rg_1 rfl
      refine W.eq (g2 := F0 m 863 ls [.int x418]) rfl ?_
      have rk486 : RKI K H417 kq iq k1.toInt := RKI.kept rke hT gkq (x_lt hT kH417 giq (by first | exact nmr ht (by decide) | exact nmo ht (by decide) | exact nme ht (by decide) | exact nmq ht (by decide) | decide | (intro z; simp only [List.mem_cons, List.not_mem_nil, or_false] at z <;> omega) | omega)) (fun q t hq ht => x_lt hT kH417 hq (by first | exact nmr ht (by decide) | exact nmo ht (by decide) | exact nme ht (by decide) | exact nmq ht (by decide) | decide | (intro z; simp only [List.mem_cons, List.not_mem_nil, or_false] at z <;> omega) | omega))
      have nw_ : NWF K H417 H w := fun k _ => fR_kept (m429 w 0 gw (by decide) (by decide) (G_ne gw gbb (by decide)) (G_ne gw grw1 (by decide)) (G_ne gw grw4 (by decide)) (G_ne gw grw6 (by decide)) (G_ne gw grw7 (by decide)))
      have rb_ : RFB K H417 H bb := m430
      obtain ⟨brf, bot, bat, btx⟩ := bar_one (H1 := H417) re.1 hT gw (j := ((xs (i.toNatClampNeg + 2)) : Int32).toNatClampNeg) (by omega) ebo nw_ rb_ (fun q t hq ht n1 n2 => m429 q t hq (by omega) (by omega) n1 (by rw [erw1]; exact n2 1 (by decide)) (by rw [erw4]; exact n2 4 (by decide)) (by rw [erw6]; exact n2 6 (by decide)) (by rw [erw7]; exact n2 7 (by decide)))
      have er1 : ∀ bar, vrN K H417 b bar = vrN K H b bar := vrN.reg hT gb (fun k _ => fR_kept (x_lt hT kH417 gb (by first | exact nmr ht (by decide) | exact nmo ht (by decide) | exact nme ht (by decide) | exact nmq ht (by decide) | decide | (intro z; simp only [List.mem_cons, List.not_mem_nil, or_false] at z <;> omega) | omega))) (fun q t hq ht => x_lt hT kH417 hq (by first | exact nmr ht (by decide) | exact nmo ht (by decide) | exact nme ht (by decide) | exact nmq ht (by decide) | decide | (intro z; simp only [List.mem_cons, List.not_mem_nil, or_false] at z <;> omega) | omega))
      have tr1 : TPK (TRP K H417 b) (TRP K H b) := TRP.reg hT gb (fun k _ _ => fR_kept (x_lt hT kH417 gb (by first | exact nmr ht (by decide) | exact nmo ht (by decide) | exact nme ht (by decide) | exact nmq ht (by decide) | decide | (intro z; simp only [List.mem_cons, List.not_mem_nil, or_false] at z <;> omega) | omega))) (fun q t hq ht => x_lt hT kH417 hq (by first | exact nmr ht (by decide) | exact nmo ht (by decide) | exact nme ht (by decide) | exact nmq ht (by decide) | decide | (intro z; simp only [List.mem_cons, List.not_mem_nil, or_false] at z <;> omega) | omega))
      refine lv_pop hx hb dL_law_863 rfl ?_
      refine lv_aload_n hx hb dL_law_864 rfl (lv_at hl 1 rfl) ?_
      refine lv_aload_n hx hb dL_law_865 rfl (lv_at hl 3 rfl) ?_
      refine lv_iload_n hx hb dL_law_866 rfl (lv_at hl 0 rfl) ?_
      refine lv_iconst (v := 1) hx hb dL_law_867 (by decide) ?_
      refine lv_iadd hx hb dL_law_868 ?_
      refine lv_topi (fun x487 ex487 => ?_)
      obtain ⟨tx487, ejx487, evx487⟩ := lw_ix (k := 1) ex487 hI hL rfl (by decide)
      clear tx487
      refine va_sld hx hb hX hbl (Nat.not_le.mpr hbl) hSH417 (vp_in_iff.mpr evx487) dL_law_869 ?_
      refine W.eq (g2 := F0 m 870 ls [.int (xs (i.toNatClampNeg + 1)), .ref b]) (congrArg (fun z => F0 m 870 ls [.int (xs z), .ref b]) ejx487) ?_
      refine lv_aload_n hx hb dL_law_870 rfl (lv_at hl 3 rfl) ?_
      refine lv_iload_n hx hb dL_law_871 rfl (lv_at hl 0 rfl) ?_
      refine lv_iconst (v := 2) hx hb dL_law_872 (by decide) ?_
      refine lv_iadd hx hb dL_law_873 ?_
      refine lv_topi (fun x488 ex488 => ?_)
      obtain ⟨tx488, ejx488, evx488⟩ := lw_ix (k := 2) ex488 hI hL rfl (by decide)
      clear tx488
      refine va_sld hx hb hX hbl (Nat.not_le.mpr hbl) hSH417 (vp_in_iff.mpr evx488) dL_law_874 ?_
      refine W.eq (g2 := F0 m 875 ls [.int (xs (i.toNatClampNeg + 2)), .int (xs (i.toNatClampNeg + 1)), .ref b]) (congrArg (fun z => F0 m 875 ls [.int (xs z), .int (xs (i.toNatClampNeg + 1)), .ref b]) ejx488) ?_
      have ev_ : vwR K H417 b ((xs (i.toNatClampNeg + 2)) : Int32).toNatClampNeg = vwR K H b ((xs (i.toNatClampNeg + 2)) : Int32).toNatClampNeg := er1 _
      obtain ⟨q489, eq489⟩ : ∃ z : Nat, @Eq Ad z (fR H417 b (K.1.2 10 24)) := ⟨_, rfl⟩
      have gq489 := ty_fr (q := q489) (k := 24) (u := 128) eq489 hTH417 gb rg_112 rfl
      have cye := i_cl (x := y4) (by omega)
      have hy4_ : (y4 : Int32).toNatClampNeg = (s4 : Int32).toNatClampNeg := by omega
      have hr1_ := tr1 _ kkE vvE 1 nE (by omega) hnE hrE0
      rw [← hy4_] at hr1_
      obtain ⟨hrE, hmE⟩ := hr1_
      have cmE := i_cl (x := fI H417 (fR H417 b (K.1.2 10 24)) (y4 : Int32).toNatClampNeg) (by omega)
      have hyE : TXR K H417 b (y4 : Int32).toNatClampNeg 1 (txRs kkE vvE 1 (y4 : Int32).toNatClampNeg) (txRw kkE vvE 1 (y4 : Int32).toNatClampNeg) := hrE.txr (by omega)
      have ccE := i_cl (x := fI H tx_ (K.1.2 7 0)) (by omega)
      have hTT_ := EqT.of htE hrE (by decide) (by omega) (by omega)
      obtain ⟨hrJ, hmJ0⟩ := tr1 _ kkJ vvJ 0 nJ (by omega) hnJ hrJ0
      have hmJ1 : (fI H417 q489 (2 + ((xs (i.toNatClampNeg + 1)) : Int32).toNatClampNeg)).toInt = (nJ : Int) := by rw [eq489]; exact hmJ0
      have cmJ := i_cl (x := fI H417 q489 (2 + ((xs (i.toNatClampNeg + 1)) : Int32).toNatClampNeg)) (by omega)
      have hmJ_ : (fI H417 q489 (2 + ((xs (i.toNatClampNeg + 1)) : Int32).toNatClampNeg)).toNatClampNeg = nJ := by omega
      have hyJ : TXR K H417 b (2 + ((xs (i.toNatClampNeg + 1)) : Int32).toNatClampNeg) 0 (txRs kkJ vvJ 0 (2 + ((xs (i.toNatClampNeg + 1)) : Int32).toNatClampNeg)) (txRw kkJ vvJ 0 (2 + ((xs (i.toNatClampNeg + 1)) : Int32).toNatClampNeg)) := hrJ.txr (by rw [← eq489]; exact hmJ_)
      obtain ⟨q490, eq490⟩ : ∃ z : Nat, @Eq Ad z (fR H417 b (K.1.2 10 5)) := ⟨_, rfl⟩
      have gq490 := ty_fr (q := q490) (k := 5) (u := 114) eq490 hTH417 gb rg_112 rfl
      obtain ⟨q491, eq491⟩ : ∃ z : Nat, @Eq Ad z (fR H417 b (K.1.2 10 11)) := ⟨_, rfl⟩
      have gq491 := ty_fr (q := q491) (k := 11) (u := 120) eq491 hTH417 gb rg_112 rfl
      obtain ⟨q492, eq492⟩ : ∃ z : Nat, @Eq Ad z (fR H417 b (K.1.2 10 12)) := ⟨_, rfl⟩
      have gq492 := ty_fr (q := q492) (k := 12) (u := 121) eq492 hTH417 gb rg_112 rfl
      obtain ⟨q493, eq493⟩ : ∃ z : Nat, @Eq Ad z (fR H417 b (K.1.2 10 10)) := ⟨_, rfl⟩
      have gq493 := ty_fr (q := q493) (k := 10) (u := 119) eq493 hTH417 gb rg_112 rfl
      obtain ⟨q494, eq494⟩ : ∃ z : Nat, @Eq Ad z (fR H417 b (K.1.2 10 13)) := ⟨_, rfl⟩
      have gq494 := ty_fr (q := q494) (k := 13) (u := 122) eq494 hTH417 gb rg_112 rfl
      obtain ⟨q495, eq495⟩ : ∃ z : Nat, @Eq Ad z (fR H417 b (K.1.2 10 9)) := ⟨_, rfl⟩
      have gq495 := ty_fr (q := q495) (k := 9) (u := 118) eq495 hTH417 gb rg_112 rfl
      obtain ⟨q496, eq496⟩ : ∃ z : Nat, @Eq Ad z (fR H417 b (K.1.2 10 4)) := ⟨_, rfl⟩
      have gq496 := ty_fr (q := q496) (k := 4) (u := 113) eq496 hTH417 gb rg_112 rfl
      obtain ⟨q497, eq497⟩ : ∃ z : Nat, @Eq Ad z (fR H417 b (K.1.2 10 8)) := ⟨_, rfl⟩
      have gq497 := ty_fr (q := q497) (k := 8) (u := 117) eq497 hTH417 gb rg_112 rfl
      obtain ⟨q498, eq498⟩ : ∃ z : Nat, @Eq Ad z (fR H417 b (K.1.2 10 25)) := ⟨_, rfl⟩
      have gq498 := ty_fr (q := q498) (k := 25) (u := 129) eq498 hTH417 gb rg_112 rfl
      obtain ⟨q499, eq499⟩ : ∃ z : Nat, @Eq Ad z (fR H417 b (K.1.2 10 26)) := ⟨_, rfl⟩
      have gq499 := ty_fr (q := q499) (k := 26) (u := 130) eq499 hTH417 gb rg_112 rfl
      obtain ⟨q500, eq500⟩ : ∃ z : Nat, @Eq Ad z (fR H417 b (K.1.2 10 27)) := ⟨_, rfl⟩
      have gq500 := ty_fr (q := q500) (k := 27) (u := 131) eq500 hTH417 gb rg_112 rfl
      obtain ⟨q501, eq501⟩ : ∃ z : Nat, @Eq Ad z (fR H417 b (K.1.2 10 28)) := ⟨_, rfl⟩
      have gq501 := ty_fr (q := q501) (k := 28) (u := 132) eq501 hTH417 gb rg_112 rfl
      obtain ⟨q502, eq502⟩ : ∃ z : Nat, @Eq Ad z (fR H417 b (K.1.2 10 32)) := ⟨_, rfl⟩
      have gq502 := ty_fr (q := q502) (k := 32) (u := 136) eq502 hTH417 gb rg_112 rfl
      obtain ⟨q503, eq503⟩ : ∃ z : Nat, @Eq Ad z (fR H417 b (K.1.2 10 33)) := ⟨_, rfl⟩
      have gq503 := ty_fr (q := q503) (k := 33) (u := 137) eq503 hTH417 gb rg_112 rfl
      obtain ⟨q504, eq504⟩ : ∃ z : Nat, @Eq Ad z (fR H417 b (K.1.2 10 44)) := ⟨_, rfl⟩
      have gq504 := ty_fr (q := q504) (k := 44) (u := 140) eq504 hTH417 gb rg_112 rfl
      obtain ⟨q505, eq505⟩ : ∃ z : Nat, @Eq Ad z (fR H417 b (K.1.2 10 43)) := ⟨_, rfl⟩
      have gq505 := ty_fr (q := q505) (k := 43) (u := 139) eq505 hTH417 gb rg_112 rfl
      obtain ⟨q506, eq506⟩ : ∃ z : Nat, @Eq Ad z (fR H417 b (K.1.2 10 30)) := ⟨_, rfl⟩
      have gq506 := ty_fr (q := q506) (k := 30) (u := 134) eq506 hTH417 gb rg_112 rfl
      obtain ⟨q507, eq507⟩ : ∃ z : Nat, @Eq Ad z (fR H417 b (K.1.2 10 31)) := ⟨_, rfl⟩
      have gq507 := ty_fr (q := q507) (k := 31) (u := 135) eq507 hTH417 gb rg_112 rfl
      obtain ⟨x508, ex508⟩ : ∃ z : Int32, z = fI H417 q493 ((xs (i.toNatClampNeg + 2)) : Int32).toNatClampNeg := ⟨_, rfl⟩
      have bx508 := ty_ai (x := x508) ex508 hTH417 gq493 rg_119 (by omega)
      obtain ⟨x509, ex509⟩ : ∃ z : Int32, z = fI H417 q494 ((xs (i.toNatClampNeg + 2)) : Int32).toNatClampNeg := ⟨_, rfl⟩
      have bx509 := ty_ai (x := x509) ex509 hTH417 gq494 rg_122 (by omega)
      obtain ⟨x510, ex510⟩ : ∃ z : Int32, z = fI H417 q496 ((xs (i.toNatClampNeg + 2)) : Int32).toNatClampNeg := ⟨_, rfl⟩
      have bx510 := ty_ai (x := x510) ex510 hTH417 gq496 rg_113 (by omega)
      refine x_V (As := [.int (xs (i.toNatClampNeg + 1)), .int (xs (i.toNatClampNeg + 2))]) (rest := []) C (a_X10_job_v l K G H417 ((xs (i.toNatClampNeg + 1))) ((xs (i.toNatClampNeg + 2))) (x508) (x509) (x510) (y1) (y4) (y5) (txRs kkE vvE 1 (y4 : Int32).toNatClampNeg) (txRw kkE vvE 1 (y4 : Int32).toNatClampNeg) (txRs kkJ vvJ 0 (2 + ((xs (i.toNatClampNeg + 1)) : Int32).toNatClampNeg)) (txRw kkJ vvJ 0 (2 + ((xs (i.toNatClampNeg + 1)) : Int32).toNatClampNeg)) (fI H417 q489 (2 + ((xs (i.toNatClampNeg + 1)) : Int32).toNatClampNeg)) hTH417 gb (by omega) (by omega) gq490 eq490 gq491 eq491 gq492 eq492 gq493 eq493 gq494 eq494 gq495 eq495 gq496 eq496 gq497 eq497 gq498 eq498 gq499 eq499 gq500 eq500 gq501 eq501 gq489 eq489 gq502 eq502 gq503 eq503 gq504 eq504 gq505 eq505 gq506 eq506 gq507 eq507 ex508 ex509 ex510 m441 m443 m445 g431 g432 g433 g434 (by omega) (by omega) (hyE) (fun j hj => by have z := hG_.1 j hj; rw [hE_.a 5 j (by decide) (by show j < 3; exact hj), ← ev_, vwR_a (k := 5) (by decide)] at z; rw [eq495]; exact z) (hyJ) (rfl) (by rw [eq498, eq499, eq500, eq501]; intro l h1 h2; exact hrJ.rng hoJ l h1 (by omega))) yo_X10_job wM_L_91 ⟨⟨by decide, by decide⟩, show _ ≤ 60000 from Nat.le_trans hc (by decide), show _ ≤ 8922250 from Nat.le_trans hs (by decide)⟩ (x_rv C hTH417 (ci := 10) rfl gb rg_112) rfl hl.1 rfl (Nat.le_of_ble_eq_true rfl) dL_law_875 hSH417 (AE_new hN hSH417.1) (fun vH511 H511 locsH511 pH511 zH511 kH511 hSH511 => ?_)
      obtain ⟨x512, x513, x514, hvH511, ex513, ex514, m515, m516, m517, m518, m519, m520, m521, m522, m523, m524, m525, m526, m527, m528, m529, m530, m531, m532, m533, m534, m535, m536, g537, g538, g539, g540, mf541, m542, m543, m544, hTH511⟩ := pH511
      subst hvH511
      have f545 : ∀ j : Nat, fI H511 tq j = fI H tq j := fun j => (fI_kept (x_lt hTH417 kH511 gtq (by decide))).trans (f435 j)
      have f546 : ∀ j : Nat, fI H511 uq j = fI H uq j := fun j => (fI_kept (x_lt hTH417 kH511 guq (by decide))).trans (f436 j)
      have m547 := (m437).trans (fR_kept (x_lt hTH417 kH511 ga (by decide))).symm
      have m548 := (m438).trans (fI_kept (x_lt hTH417 kH511 ga (by decide))).symm
      have m549 := (m440).trans (fI_kept (x_lt hTH417 kH511 gw (by decide))).symm
      have m550 := (m442).trans (fI_kept (x_lt hTH417 kH511 gw (by decide))).symm
      have m551 := (m444).trans (fI_kept (x_lt hTH417 kH511 gw (by decide))).symm
      have m552 := (m446).trans (fI_kept (x_lt hTH417 kH511 gw (by decide))).symm
      have m553 := (m448).trans (fI_kept (x_lt hTH417 kH511 gw (by decide))).symm
      have m554 := (m450).trans (fI_kept (x_lt hTH417 kH511 gw (by decide))).symm
      have m555 := (m452).trans (fR_kept (x_lt hTH417 kH511 ga (by decide))).symm
      have m556 := (fV_kept (x_lt hTH417 kH511 ga (by decide))).trans m455
      have m557 := (m457).trans (fI_kept (x_lt hTH417 kH511 gkq (by decide))).symm
      have m558 := (m458).trans (fI_kept (x_lt hTH417 kH511 giq (by decide))).symm
      have m559 := (m459).trans (fI_kept (x_lt hTH417 kH511 gkq (by decide))).symm
      have m560 := (m460).trans (fI_kept (x_lt hTH417 kH511 giq (by decide))).symm
      have m561 := (m461).trans (fI_kept (x_lt hTH417 kH511 gkq (by decide))).symm
      have m562 := (m462).trans (fI_kept (x_lt hTH417 kH511 giq (by decide))).symm
      have m563 := (m463).trans (fI_kept (x_lt hTH417 kH511 gkq (by decide))).symm
      have m564 := (m464).trans (fI_kept (x_lt hTH417 kH511 giq (by decide))).symm
      have m565 := (m465).trans (fI_kept (x_lt hTH417 kH511 gkq (by decide))).symm
      have m566 := (m466).trans (fI_kept (x_lt hTH417 kH511 giq (by decide))).symm
      have m567 := (m467).trans (fI_kept (x_lt hTH417 kH511 gkq (by decide))).symm
      have m568 := (m468).trans (fI_kept (x_lt hTH417 kH511 giq (by decide))).symm
      have m569 := (m469).trans (fR_kept (x_lt hTH417 kH511 gw (by decide))).symm
      have m570 := (m470).trans (fR_kept (x_lt hTH417 kH511 gbq (by decide))).symm
      have m571 := (m471).trans (fR_kept (x_lt hTH417 kH511 gw (by decide))).symm
      have m572 := (m472).trans (fR_kept (x_lt hTH417 kH511 glq_ (by decide))).symm
      have m573 := (m473).trans (fR_kept (x_lt hTH417 kH511 gw (by decide))).symm
      have m574 := (m474).trans (fR_kept (x_lt hTH417 kH511 gjq_ (by decide))).symm
      have m575 := (m475).trans (fR_kept (x_lt hTH417 kH511 gjx_ (by decide))).symm
      have m576 := (m476).trans (fR_kept (x_lt hTH417 kH511 gjx_ (by decide))).symm
      have m577 := (m477).trans (fR_kept (x_lt hTH417 kH511 gjx_ (by decide))).symm
      have m578 := (m478).trans (fR_kept (x_lt hTH417 kH511 gjx_ (by decide))).symm
      have m579 := (m479).trans (fR_kept (x_lt hTH417 kH511 gjx_ (by decide))).symm
      have m580 := (m480).trans (fR_kept (x_lt hTH417 kH511 gjx_ (by decide))).symm
      have m581 := (m481).trans (fR_kept (x_lt hTH417 kH511 gjx_ (by decide))).symm
      have m582 := (m482).trans (fR_kept (x_lt hTH417 kH511 gjx_ (by decide))).symm
      have m583 := (m483).trans (fI_kept (x_lt hTH417 kH511 gjx_ (by decide))).symm
      have m584 := (m484).trans (fR_kept (x_lt hTH417 kH511 ga (by decide))).symm
      have m585 := (m485).trans (fR_kept (x_lt hTH417 kH511 gq415 (by decide))).symm
      have m586 := (m421).trans (fR_kept (x_lt hTH417 kH511 gbb (by decide))).symm
      have m587 := (m422).trans (fR_kept (x_lt hTH417 kH511 gbb (by decide))).symm
      have m588 := (m423).trans (fR_kept (x_lt hTH417 kH511 gbb (by decide))).symm
      have m589 := (m424).trans (fR_kept (x_lt hTH417 kH511 gbb (by decide))).symm
      have m590 := (m425).trans (fR_kept (x_lt hTH417 kH511 gbb (by decide))).symm
      have m591 := (m426).trans (fI_kept (x_lt hTH417 kH511 gbb (by decide))).symm
      have m592 := (ex419).trans (fI_kept (x_lt hTH417 kH511 gbb (by decide))).symm
      have m593 := (ex420).trans (fI_kept (x_lt hTH417 kH511 gbb (by decide))).symm
      have m594 := (ex510).trans (fI_kept (x_lt hTH417 kH511 gq496 (by decide))).symm
      have m595 := (m439).trans (MF.i mf541 (k := 18) (by decide) (by decide)).symm
      have m596 := (m441).trans (MF.i mf541 (k := 1) (by decide) (by decide)).symm
      have m597 := (m443).trans (MF.i mf541 (k := 2) (by decide) (by decide)).symm
      have m598 := (m445).trans (MF.i mf541 (k := 3) (by decide) (by decide)).symm
      have m599 := (m447).trans (MF.i mf541 (k := 59) (by decide) (by decide)).symm
      have m600 := (m449).trans (MF.i mf541 (k := 62) (by decide) (by decide)).symm
      have m601 := (m451).trans (MF.i mf541 (k := 65) (by decide) (by decide)).symm
      have m602 := (m453).trans (MF.r mf541 (k := 17) (by decide) (by decide)).symm
      have m603 := (m454).trans (MF.i mf541 (k := 70) (by decide) (by decide)).symm
      have m604 := (m456).trans (MF.r mf541 (k := 73) (by decide) (by decide)).symm
      have m605 := (eq489).trans (MF.r mf541 (k := 24) (by decide) (by decide)).symm
      have m606 := (eq490).trans (MF.r mf541 (k := 5) (by decide) (by decide)).symm
      have m607 := (eq491).trans (MF.r mf541 (k := 11) (by decide) (by decide)).symm
      have m608 := (eq492).trans (MF.r mf541 (k := 12) (by decide) (by decide)).symm
      have m609 := (eq493).trans (MF.r mf541 (k := 10) (by decide) (by decide)).symm
      have m610 := (eq494).trans (MF.r mf541 (k := 13) (by decide) (by decide)).symm
      have m611 := (eq495).trans (MF.r mf541 (k := 9) (by decide) (by decide)).symm
      have m612 := (eq496).trans (MF.r mf541 (k := 4) (by decide) (by decide)).symm
      have m613 := (eq497).trans (MF.r mf541 (k := 8) (by decide) (by decide)).symm
      have m614 := (eq498).trans (MF.r mf541 (k := 25) (by decide) (by decide)).symm
      have m615 := (eq499).trans (MF.r mf541 (k := 26) (by decide) (by decide)).symm
      have m616 := (eq500).trans (MF.r mf541 (k := 27) (by decide) (by decide)).symm
      have m617 := (eq501).trans (MF.r mf541 (k := 28) (by decide) (by decide)).symm
      have m618 := (eq502).trans (MF.r mf541 (k := 32) (by decide) (by decide)).symm
      have m619 := (eq503).trans (MF.r mf541 (k := 33) (by decide) (by decide)).symm
      have m620 := (eq504).trans (MF.r mf541 (k := 44) (by decide) (by decide)).symm
      have m621 := (eq505).trans (MF.r mf541 (k := 43) (by decide) (by decide)).symm
      have m622 := (eq506).trans (MF.r mf541 (k := 30) (by decide) (by decide)).symm
      have m623 := (eq507).trans (MF.r mf541 (k := 31) (by decide) (by decide)).symm
      have bx513 := ty_ai (x := x513) ex513 hTH511 gq493 rg_119 (by omega)
      have bx514 := ty_ai (x := x514) ex514 hTH511 gq494 rg_122 (by omega)
      refine W.eq (g2 := F0 m 878 ls [.int x512]) rfl ?_
      have rk624 : RKI K H511 kq iq k1.toInt := RKI.kept rk486 hTH417 gkq (x_lt hTH417 kH511 giq (by first | exact nmr ht (by decide) | exact nmo ht (by decide) | exact nme ht (by decide) | exact nmq ht (by decide) | decide | (intro z; simp only [List.mem_cons, List.not_mem_nil, or_false] at z <;> omega) | omega)) (fun q t hq ht => x_lt hTH417 kH511 hq (by first | exact nmr ht (by decide) | exact nmo ht (by decide) | exact nme ht (by decide) | exact nmq ht (by decide) | decide | (intro z; simp only [List.mem_cons, List.not_mem_nil, or_false] at z <;> omega) | omega))
      have r12 : RFW K H511 H417 w := RFW.cell hTH417 gw (fun q t hq ht => x_lt hTH417 kH511 hq (by first | exact nmr ht (by decide) | exact nmo ht (by decide) | exact nme ht (by decide) | exact nmq ht (by decide) | decide | (intro z; simp only [List.mem_cons, List.not_mem_nil, or_false] at z <;> omega) | omega))
      have cU := vcN.kept hTH417 gw r12 (fun q t hq ht => x_lt hTH417 kH511 hq (by first | exact nmr ht (by decide) | exact nmo ht (by decide) | exact nme ht (by decide) | exact nmq ht (by decide) | decide | (intro z; simp only [List.mem_cons, List.not_mem_nil, or_false] at z <;> omega) | omega))
      have own2 : OWN K H511 w := (re.1.st brf).st r12
      have tU : TPK (TXP K H511 w) (TXP K H417 w) := TXP.kept hTH417 gw r12 (fun q t hq ht => x_lt hTH417 kH511 hq (by first | exact nmr ht (by decide) | exact nmo ht (by decide) | exact nme ht (by decide) | exact nmq ht (by decide) | decide | (intro z; simp only [List.mem_cons, List.not_mem_nil, or_false] at z <;> omega) | omega))
      have tR : TPK (TRP K H511 b) (TRP K H417 b) := TRP.reg hTH417 gb (fun k h1 h2 => MF.r mf541 (by omega) (by intro z; simp only [List.mem_cons, List.not_mem_nil, or_false] at z; omega)) (fun q t hq ht => x_lt hTH417 kH511 hq (by first | exact nmr ht (by decide) | exact nmo ht (by decide) | exact nme ht (by decide) | exact nmq ht (by decide) | decide | (intro z; simp only [List.mem_cons, List.not_mem_nil, or_false] at z <;> omega) | omega))
      have hCHB_ : CHB (vwC K H417 bb) (vwR K H511 b ((xs (i.toNatClampNeg + 2)) : Int32).toNatClampNeg) := by rw [m427, m542, ev_, show y5.toInt = s5.toInt by omega, ejr1, ejr2, ejr3, ejr4, ejr6, ejr7, eq498, eq499, eq500, eq501, eq506, eq507, show li_.toNatClampNeg = nJ by omega, hmJ_]; exact CHB.jo hO_ hG_ (job_congr htJ hrJ hoJ hTT_ hE_ hO_)
      obtain ⟨hC1, hC2, hC3⟩ := hCHB_
      have hrq_ : x418.toInt = x512.toInt := by rw [m428, m543, ev_, hC1.a 8 0 (by decide) (by decide), hE_.a 8 0 (by decide) (by decide)]
      have re625 : RE K H511 w b s1.toInt := RE.set (i := ((xs (i.toNatClampNeg + 2)) : Int32).toNatClampNeg) re own2 (by omega) (by rw [cU ((xs (i.toNatClampNeg + 2)) : Int32).toNatClampNeg (by omega), bat]; exact hC1) (by rw [cU ((xs (i.toNatClampNeg + 2)) : Int32).toNatClampNeg (by omega), bat]; exact hC2) (by rw [cU ((xs (i.toNatClampNeg + 2)) : Int32).toNatClampNeg (by omega), bat]; exact hC3) (fun j hj hn => (cU j hj).trans (bot j hj hn)) (fun j hj hn => EqV.tr (m544 j hn) (by rw [show vwR K H417 b j = vwR K H b j from er1 j]; exact EqV.rf)) (fun r kk vv lw n h1 h2 z => tU r kk vv lw n h1 h2 (btx r kk vv lw n h1 h2 z)) (fun r kk vv lw n h1 h2 z => tR r kk vv lw n h1 h2 (tr1 r kk vv lw n h1 h2 z))
      refine lv_pop hx hb dL_law_878 rfl ?_
      refine lv_goto (tgt := 1509) hx hb dL_law_879 (by decide) ?_
      exact nx G H511 locsH511 _ _ ls ⟨hTH511, hN, ga, gb, g537, g538, g539, g540, ⟨(by rw [← m548, ← m595]; exact rt), (by rw [← m547, ← m549, ← m534]; exact r1), (by rw [← m547, ← m550, ← m535]; exact r4), (by rw [← m547, ← m551, ← m536]; exact r5), (by rw [← m547, ← m552, ← m599]; exact r10), (by rw [← m547, ← m553, ← m600]; exact r13), (by rw [← m547, ← m554, ← m601]; exact r16)⟩, Or.inr ⟨kq, m556, gkq, (by rw [← m603]; exact h70), (by rw [← m557, ← m604, ← m558]; exact q1), (by rw [← m559, ← m604, ← m560]; exact q4), (by rw [← m561, ← m604, ← m562]; exact q5), (by rw [← m563, ← m604, ← m564]; exact q10), (by rw [← m565, ← m604, ← m566]; exact q13), (by rw [← m567, ← m604, ← m568]; exact q16), (by rw [← m604, ← m557]; exact RKI.cast rk624 (by omega)), (by rw [← m561]; omega), (by rw [← m561]; omega)⟩, (by unfold TB; rw [← m555, ← m602, ← m595]; exact TBR.of htr f545 f546 (by omega)), (by unfold RELE; rw [← m547, ← m534, ← m551]; exact ⟨RE.cast re625 (by omega), by omega, by omega⟩), hSH511⟩ hl ⟨hc, hs, fun h => by have h1 := h.symm.trans m556; cases h1⟩
    · skip
      refine x_V (As := [.int (xs (i.toNatClampNeg + 1)), .int (xs (i.toNatClampNeg + 2))]) (rest := []) C (a_X9_job_n l K G H ((xs (i.toNatClampNeg + 1))) ((xs (i.toNatClampNeg + 2))) (s1) hT ga gw ew es1 (by omega)) yo_X9_job wM_L_88 ⟨⟨by decide, by decide⟩, show _ ≤ 60000 from Nat.le_trans hc (by decide), show _ ≤ 8922250 from Nat.le_trans hs (by decide)⟩ (x_rv C hT (ci := 9) rfl ga rg_68) rfl hl.1 rfl (Nat.le_of_ble_eq_true rfl) dL_law_860 hS (AE_new hN hS.1) (fun vH626 H626 locsH626 pH626 zH626 kH626 hSH626 => ?_)
      obtain ⟨x627, hvH626, bx627, hTH626⟩ := pH626
      subst hvH626
      have g628 : CG (avw K H626 b) := CG.congr (fun k hk j => av_eff hT kH626 gb (by decide) (CG_eff [] (by decide) k hk)) cg
      have g629 : TU (avw K H626 b) (svw K H626 b) := TU.congr (fun k hk j => av_eff hT kH626 gb (by decide) (TU_eff [] (by decide) k hk)) (fun k hk => sv_eff hT kH626 gb (by decide)) tu
      have g630 : WD (avw K H626 b) := WD.congr (fun k hk j => av_eff hT kH626 gb (by decide) (WD_eff [] (by decide) k hk)) wd
      have g631 : IM (avw K H626 b) := IM.congr (fun k hk j => av_eff hT kH626 gb (by decide) (IM_eff [] (by decide) k hk)) im
      have f632 : ∀ j : Nat, fI H626 tq j = fI H tq j := fun j => (fI_kept (x_lt hT kH626 gtq (by decide))).trans (ft0 j)
      have f633 : ∀ j : Nat, fI H626 uq j = fI H uq j := fun j => (fI_kept (x_lt hT kH626 guq (by decide))).trans (fu0 j)
      have m634 := (ew).trans (fR_kept (x_lt hT kH626 ga (by decide))).symm
      have m635 := (eta).trans (fI_kept (x_lt hT kH626 ga (by decide))).symm
      have m636 := (etb).trans (fI_kept (x_lt hT kH626 gb (by decide))).symm
      have m637 := (es1).trans (fI_kept (x_lt hT kH626 gw (by decide))).symm
      have m638 := (ey1).trans (fI_kept (x_lt hT kH626 gb (by decide))).symm
      have m639 := (es4).trans (fI_kept (x_lt hT kH626 gw (by decide))).symm
      have m640 := (ey4).trans (fI_kept (x_lt hT kH626 gb (by decide))).symm
      have m641 := (es5).trans (fI_kept (x_lt hT kH626 gw (by decide))).symm
      have m642 := (ey5).trans (fI_kept (x_lt hT kH626 gb (by decide))).symm
      have m643 := (es10).trans (fI_kept (x_lt hT kH626 gw (by decide))).symm
      have m644 := (ey10).trans (fI_kept (x_lt hT kH626 gb (by decide))).symm
      have m645 := (es13).trans (fI_kept (x_lt hT kH626 gw (by decide))).symm
      have m646 := (ey13).trans (fI_kept (x_lt hT kH626 gb (by decide))).symm
      have m647 := (es16).trans (fI_kept (x_lt hT kH626 gw (by decide))).symm
      have m648 := (ey16).trans (fI_kept (x_lt hT kH626 gb (by decide))).symm
      have m649 := (etq).trans (fR_kept (x_lt hT kH626 ga (by decide))).symm
      have m650 := (euq).trans (fR_kept (x_lt hT kH626 gb (by decide))).symm
      have m651 := (ehi).trans (fI_kept (x_lt hT kH626 gb (by decide))).symm
      have m652 := (fV_kept (x_lt hT kH626 ga (by decide))).trans kn
      have m653 := (eiq).trans (fR_kept (x_lt hT kH626 gb (by decide))).symm
      have m654 := (ek1).trans (fI_kept (x_lt hT kH626 gkq (by decide))).symm
      have m655 := (ei1).trans (fI_kept (x_lt hT kH626 giq (by decide))).symm
      have m656 := (ek4).trans (fI_kept (x_lt hT kH626 gkq (by decide))).symm
      have m657 := (ei4).trans (fI_kept (x_lt hT kH626 giq (by decide))).symm
      have m658 := (ek5).trans (fI_kept (x_lt hT kH626 gkq (by decide))).symm
      have m659 := (ei5).trans (fI_kept (x_lt hT kH626 giq (by decide))).symm
      have m660 := (ek10).trans (fI_kept (x_lt hT kH626 gkq (by decide))).symm
      have m661 := (ei10).trans (fI_kept (x_lt hT kH626 giq (by decide))).symm
      have m662 := (ek13).trans (fI_kept (x_lt hT kH626 gkq (by decide))).symm
      have m663 := (ei13).trans (fI_kept (x_lt hT kH626 giq (by decide))).symm
      have m664 := (ek16).trans (fI_kept (x_lt hT kH626 gkq (by decide))).symm
      have m665 := (ei16).trans (fI_kept (x_lt hT kH626 giq (by decide))).symm
      refine W.eq (g2 := F0 m 863 ls [.int x627]) rfl ?_
      have rk666 : RKI K H626 kq iq k1.toInt := RKI.kept rke hT gkq (x_lt hT kH626 giq (by first | exact nmr ht (by decide) | exact nmo ht (by decide) | exact nme ht (by decide) | exact nmq ht (by decide) | decide | (intro z; simp only [List.mem_cons, List.not_mem_nil, or_false] at z <;> omega) | omega)) (fun q t hq ht => x_lt hT kH626 hq (by first | exact nmr ht (by decide) | exact nmo ht (by decide) | exact nme ht (by decide) | exact nmq ht (by decide) | decide | (intro z; simp only [List.mem_cons, List.not_mem_nil, or_false] at z <;> omega) | omega))
      have re667 : RE K H626 w b s1.toInt := RE.cls re hT gw gb (fun q t hq ht => x_lt hT kH626 hq (by first | exact nmr ht (by decide) | exact nmo ht (by decide) | exact nme ht (by decide) | exact nmq ht (by decide) | decide | (intro z; simp only [List.mem_cons, List.not_mem_nil, or_false] at z <;> omega) | omega))
      refine lv_pop hx hb dL_law_863 rfl ?_
      refine lv_aload_n hx hb dL_law_864 rfl (lv_at hl 1 rfl) ?_
      refine lv_aload_n hx hb dL_law_865 rfl (lv_at hl 3 rfl) ?_
      refine lv_iload_n hx hb dL_law_866 rfl (lv_at hl 0 rfl) ?_
      refine lv_iconst (v := 1) hx hb dL_law_867 (by decide) ?_
      refine lv_iadd hx hb dL_law_868 ?_
      refine lv_topi (fun x668 ex668 => ?_)
      obtain ⟨tx668, ejx668, evx668⟩ := lw_ix (k := 1) ex668 hI hL rfl (by decide)
      clear tx668
      refine va_sld hx hb hX hbl (Nat.not_le.mpr hbl) hSH626 (vp_in_iff.mpr evx668) dL_law_869 ?_
      refine W.eq (g2 := F0 m 870 ls [.int (xs (i.toNatClampNeg + 1)), .ref b]) (congrArg (fun z => F0 m 870 ls [.int (xs z), .ref b]) ejx668) ?_
      refine lv_aload_n hx hb dL_law_870 rfl (lv_at hl 3 rfl) ?_
      refine lv_iload_n hx hb dL_law_871 rfl (lv_at hl 0 rfl) ?_
      refine lv_iconst (v := 2) hx hb dL_law_872 (by decide) ?_
      refine lv_iadd hx hb dL_law_873 ?_
      refine lv_topi (fun x669 ex669 => ?_)
      obtain ⟨tx669, ejx669, evx669⟩ := lw_ix (k := 2) ex669 hI hL rfl (by decide)
      clear tx669
      refine va_sld hx hb hX hbl (Nat.not_le.mpr hbl) hSH626 (vp_in_iff.mpr evx669) dL_law_874 ?_
      refine W.eq (g2 := F0 m 875 ls [.int (xs (i.toNatClampNeg + 2)), .int (xs (i.toNatClampNeg + 1)), .ref b]) (congrArg (fun z => F0 m 875 ls [.int (xs z), .int (xs (i.toNatClampNeg + 1)), .ref b]) ejx669) ?_
      refine x_V (As := [.int (xs (i.toNatClampNeg + 1)), .int (xs (i.toNatClampNeg + 2))]) (rest := []) C (a_X10_job_n l K G H626 ((xs (i.toNatClampNeg + 1))) ((xs (i.toNatClampNeg + 2))) (y1) hTH626 gb m638 g628 g629 g630 g631 (by omega)) yo_X10_job wM_L_91 ⟨⟨by decide, by decide⟩, show _ ≤ 60000 from Nat.le_trans hc (by decide), show _ ≤ 8922250 from Nat.le_trans hs (by decide)⟩ (x_rv C hTH626 (ci := 10) rfl gb rg_112) rfl hl.1 rfl (Nat.le_of_ble_eq_true rfl) dL_law_875 hSH626 (AE_new hN hSH626.1) (fun vH670 H670 locsH670 pH670 zH670 kH670 hSH670 => ?_)
      obtain ⟨x671, hvH670, bx671, m672, g673, g674, g675, g676, mf677, hTH670⟩ := pH670
      subst hvH670
      have f678 : ∀ j : Nat, fI H670 tq j = fI H tq j := fun j => (fI_kept (x_lt hTH626 kH670 gtq (by decide))).trans (f632 j)
      have f679 : ∀ j : Nat, fI H670 uq j = fI H uq j := fun j => (fI_kept (x_lt hTH626 kH670 guq (by decide))).trans (f633 j)
      have m680 := (m634).trans (fR_kept (x_lt hTH626 kH670 ga (by decide))).symm
      have m681 := (m635).trans (fI_kept (x_lt hTH626 kH670 ga (by decide))).symm
      have m682 := (m637).trans (fI_kept (x_lt hTH626 kH670 gw (by decide))).symm
      have m683 := (m639).trans (fI_kept (x_lt hTH626 kH670 gw (by decide))).symm
      have m684 := (m641).trans (fI_kept (x_lt hTH626 kH670 gw (by decide))).symm
      have m685 := (m643).trans (fI_kept (x_lt hTH626 kH670 gw (by decide))).symm
      have m686 := (m645).trans (fI_kept (x_lt hTH626 kH670 gw (by decide))).symm
      have m687 := (m647).trans (fI_kept (x_lt hTH626 kH670 gw (by decide))).symm
      have m688 := (m649).trans (fR_kept (x_lt hTH626 kH670 ga (by decide))).symm
      have m689 := (fV_kept (x_lt hTH626 kH670 ga (by decide))).trans m652
      have m690 := (m654).trans (fI_kept (x_lt hTH626 kH670 gkq (by decide))).symm
      have m691 := (m655).trans (fI_kept (x_lt hTH626 kH670 giq (by decide))).symm
      have m692 := (m656).trans (fI_kept (x_lt hTH626 kH670 gkq (by decide))).symm
      have m693 := (m657).trans (fI_kept (x_lt hTH626 kH670 giq (by decide))).symm
      have m694 := (m658).trans (fI_kept (x_lt hTH626 kH670 gkq (by decide))).symm
      have m695 := (m659).trans (fI_kept (x_lt hTH626 kH670 giq (by decide))).symm
      have m696 := (m660).trans (fI_kept (x_lt hTH626 kH670 gkq (by decide))).symm
      have m697 := (m661).trans (fI_kept (x_lt hTH626 kH670 giq (by decide))).symm
      have m698 := (m662).trans (fI_kept (x_lt hTH626 kH670 gkq (by decide))).symm
      have m699 := (m663).trans (fI_kept (x_lt hTH626 kH670 giq (by decide))).symm
      have m700 := (m664).trans (fI_kept (x_lt hTH626 kH670 gkq (by decide))).symm
      have m701 := (m665).trans (fI_kept (x_lt hTH626 kH670 giq (by decide))).symm
      have m702 := (m636).trans (MF.i mf677 (k := 18) (by decide) (by decide)).symm
      have m703 := (m638).trans (MF.i mf677 (k := 1) (by decide) (by decide)).symm
      have m704 := (m640).trans (MF.i mf677 (k := 2) (by decide) (by decide)).symm
      have m705 := (m642).trans (MF.i mf677 (k := 3) (by decide) (by decide)).symm
      have m706 := (m644).trans (MF.i mf677 (k := 59) (by decide) (by decide)).symm
      have m707 := (m646).trans (MF.i mf677 (k := 62) (by decide) (by decide)).symm
      have m708 := (m648).trans (MF.i mf677 (k := 65) (by decide) (by decide)).symm
      have m709 := (m650).trans (MF.r mf677 (k := 17) (by decide) (by decide)).symm
      have m710 := (m651).trans (MF.i mf677 (k := 70) (by decide) (by decide)).symm
      have m711 := (m653).trans (MF.r mf677 (k := 73) (by decide) (by decide)).symm
      refine W.eq (g2 := F0 m 878 ls [.int x671]) rfl ?_
      have rk712 : RKI K H670 kq iq k1.toInt := RKI.kept rk666 hTH626 gkq (x_lt hTH626 kH670 giq (by first | exact nmr ht (by decide) | exact nmo ht (by decide) | exact nme ht (by decide) | exact nmq ht (by decide) | decide | (intro z; simp only [List.mem_cons, List.not_mem_nil, or_false] at z <;> omega) | omega)) (fun q t hq ht => x_lt hTH626 kH670 hq (by first | exact nmr ht (by decide) | exact nmo ht (by decide) | exact nme ht (by decide) | exact nmq ht (by decide) | decide | (intro z; simp only [List.mem_cons, List.not_mem_nil, or_false] at z <;> omega) | omega))
      have re713 : RE K H670 w b s1.toInt := RE.ref re667 hTH626 gw gb (fun k hk => MF.r mf677 (by omega) (by intro z; simp only [List.mem_cons, List.not_mem_nil, or_false] at z; omega)) (fun q t hq ht => x_lt hTH626 kH670 hq (by first | exact nmr ht (by decide) | exact nmo ht (by decide) | exact nme ht (by decide) | exact nmq ht (by decide) | decide | (intro z; simp only [List.mem_cons, List.not_mem_nil, or_false] at z <;> omega) | omega))
      refine lv_pop hx hb dL_law_878 rfl ?_
      refine lv_goto (tgt := 1509) hx hb dL_law_879 (by decide) ?_
      exact nx G H670 locsH670 _ _ ls ⟨hTH670, hN, ga, gb, g673, g674, g675, g676, ⟨(by rw [← m681, ← m702]; exact rt), (by rw [← m680, ← m682, ← m672]; exact r1), (by rw [← m680, ← m683, ← m704]; exact r4), (by rw [← m680, ← m684, ← m705]; exact r5), (by rw [← m680, ← m685, ← m706]; exact r10), (by rw [← m680, ← m686, ← m707]; exact r13), (by rw [← m680, ← m687, ← m708]; exact r16)⟩, Or.inr ⟨kq, m689, gkq, (by rw [← m710]; exact h70), (by rw [← m690, ← m711, ← m691]; exact q1), (by rw [← m692, ← m711, ← m693]; exact q4), (by rw [← m694, ← m711, ← m695]; exact q5), (by rw [← m696, ← m711, ← m697]; exact q10), (by rw [← m698, ← m711, ← m699]; exact q13), (by rw [← m700, ← m711, ← m701]; exact q16), (by rw [← m711, ← m690]; exact RKI.cast rk712 (by omega)), (by rw [← m694]; omega), (by rw [← m694]; omega)⟩, (by unfold TB; rw [← m688, ← m709, ← m702]; exact TBR.of htr f678 f679 (by omega)), (by unfold RELE; rw [← m680, ← m672, ← m684]; exact ⟨RE.cast re713 (by omega), by omega, by omega⟩), hSH670⟩ hl ⟨hc, hs, fun h => by have h1 := h.symm.trans m689; cases h1⟩
    · skip
      refine x_V (As := [.int (xs (i.toNatClampNeg + 1)), .int (xs (i.toNatClampNeg + 2))]) (rest := []) C (a_X9_job_k l K G H ((xs (i.toNatClampNeg + 1))) ((xs (i.toNatClampNeg + 2))) hT ga (by omega)) yo_X9_job wM_L_88 ⟨⟨by decide, by decide⟩, show _ ≤ 60000 from Nat.le_trans hc (by decide), show _ ≤ 8922250 from Nat.le_trans hs (by decide)⟩ (x_rv C hT (ci := 9) rfl ga rg_68) rfl hl.1 rfl (Nat.le_of_ble_eq_true rfl) dL_law_860 hS (AE_new hN hS.1) (fun vH714 H714 locsH714 pH714 zH714 kH714 hSH714 => ?_)
      obtain ⟨x715, hvH714, bx715, hTH714⟩ := pH714
      subst hvH714
      have g716 : CG (avw K H714 b) := CG.congr (fun k hk j => av_eff hT kH714 gb (by decide) (CG_eff [] (by decide) k hk)) cg
      have g717 : TU (avw K H714 b) (svw K H714 b) := TU.congr (fun k hk j => av_eff hT kH714 gb (by decide) (TU_eff [] (by decide) k hk)) (fun k hk => sv_eff hT kH714 gb (by decide)) tu
      have g718 : WD (avw K H714 b) := WD.congr (fun k hk j => av_eff hT kH714 gb (by decide) (WD_eff [] (by decide) k hk)) wd
      have g719 : IM (avw K H714 b) := IM.congr (fun k hk j => av_eff hT kH714 gb (by decide) (IM_eff [] (by decide) k hk)) im
      have f720 : ∀ j : Nat, fI H714 tq j = fI H tq j := fun j => (fI_kept (x_lt hT kH714 gtq (by decide))).trans (ft0 j)
      have f721 : ∀ j : Nat, fI H714 uq j = fI H uq j := fun j => (fI_kept (x_lt hT kH714 guq (by decide))).trans (fu0 j)
      have m722 := (ew).trans (fR_kept (x_lt hT kH714 ga (by decide))).symm
      have m723 := (eta).trans (fI_kept (x_lt hT kH714 ga (by decide))).symm
      have m724 := (etb).trans (fI_kept (x_lt hT kH714 gb (by decide))).symm
      have m725 := (es1).trans (fI_kept (x_lt hT kH714 gw (by decide))).symm
      have m726 := (ey1).trans (fI_kept (x_lt hT kH714 gb (by decide))).symm
      have m727 := (es4).trans (fI_kept (x_lt hT kH714 gw (by decide))).symm
      have m728 := (ey4).trans (fI_kept (x_lt hT kH714 gb (by decide))).symm
      have m729 := (es5).trans (fI_kept (x_lt hT kH714 gw (by decide))).symm
      have m730 := (ey5).trans (fI_kept (x_lt hT kH714 gb (by decide))).symm
      have m731 := (es10).trans (fI_kept (x_lt hT kH714 gw (by decide))).symm
      have m732 := (ey10).trans (fI_kept (x_lt hT kH714 gb (by decide))).symm
      have m733 := (es13).trans (fI_kept (x_lt hT kH714 gw (by decide))).symm
      have m734 := (ey13).trans (fI_kept (x_lt hT kH714 gb (by decide))).symm
      have m735 := (es16).trans (fI_kept (x_lt hT kH714 gw (by decide))).symm
      have m736 := (ey16).trans (fI_kept (x_lt hT kH714 gb (by decide))).symm
      have m737 := (etq).trans (fR_kept (x_lt hT kH714 ga (by decide))).symm
      have m738 := (euq).trans (fR_kept (x_lt hT kH714 gb (by decide))).symm
      have m739 := (ehi).trans (fI_kept (x_lt hT kH714 gb (by decide))).symm
      have m740 := (fV_kept (x_lt hT kH714 ga (by decide))).trans kn
      have m741 := (eiq).trans (fR_kept (x_lt hT kH714 gb (by decide))).symm
      have m742 := (ek1).trans (fI_kept (x_lt hT kH714 gkq (by decide))).symm
      have m743 := (ei1).trans (fI_kept (x_lt hT kH714 giq (by decide))).symm
      have m744 := (ek4).trans (fI_kept (x_lt hT kH714 gkq (by decide))).symm
      have m745 := (ei4).trans (fI_kept (x_lt hT kH714 giq (by decide))).symm
      have m746 := (ek5).trans (fI_kept (x_lt hT kH714 gkq (by decide))).symm
      have m747 := (ei5).trans (fI_kept (x_lt hT kH714 giq (by decide))).symm
      have m748 := (ek10).trans (fI_kept (x_lt hT kH714 gkq (by decide))).symm
      have m749 := (ei10).trans (fI_kept (x_lt hT kH714 giq (by decide))).symm
      have m750 := (ek13).trans (fI_kept (x_lt hT kH714 gkq (by decide))).symm
      have m751 := (ei13).trans (fI_kept (x_lt hT kH714 giq (by decide))).symm
      have m752 := (ek16).trans (fI_kept (x_lt hT kH714 gkq (by decide))).symm
      have m753 := (ei16).trans (fI_kept (x_lt hT kH714 giq (by decide))).symm
      refine W.eq (g2 := F0 m 863 ls [.int x715]) rfl ?_
      have rk754 : RKI K H714 kq iq k1.toInt := RKI.kept rke hT gkq (x_lt hT kH714 giq (by first | exact nmr ht (by decide) | exact nmo ht (by decide) | exact nme ht (by decide) | exact nmq ht (by decide) | decide | (intro z; simp only [List.mem_cons, List.not_mem_nil, or_false] at z <;> omega) | omega)) (fun q t hq ht => x_lt hT kH714 hq (by first | exact nmr ht (by decide) | exact nmo ht (by decide) | exact nme ht (by decide) | exact nmq ht (by decide) | decide | (intro z; simp only [List.mem_cons, List.not_mem_nil, or_false] at z <;> omega) | omega))
      have re755 : RE K H714 w b s1.toInt := RE.cls re hT gw gb (fun q t hq ht => x_lt hT kH714 hq (by first | exact nmr ht (by decide) | exact nmo ht (by decide) | exact nme ht (by decide) | exact nmq ht (by decide) | decide | (intro z; simp only [List.mem_cons, List.not_mem_nil, or_false] at z <;> omega) | omega))
      refine lv_pop hx hb dL_law_863 rfl ?_
      refine lv_aload_n hx hb dL_law_864 rfl (lv_at hl 1 rfl) ?_
      refine lv_aload_n hx hb dL_law_865 rfl (lv_at hl 3 rfl) ?_
      refine lv_iload_n hx hb dL_law_866 rfl (lv_at hl 0 rfl) ?_
      refine lv_iconst (v := 1) hx hb dL_law_867 (by decide) ?_
      refine lv_iadd hx hb dL_law_868 ?_
      refine lv_topi (fun x756 ex756 => ?_)
      obtain ⟨tx756, ejx756, evx756⟩ := lw_ix (k := 1) ex756 hI hL rfl (by decide)
      clear tx756
      refine va_sld hx hb hX hbl (Nat.not_le.mpr hbl) hSH714 (vp_in_iff.mpr evx756) dL_law_869 ?_
      refine W.eq (g2 := F0 m 870 ls [.int (xs (i.toNatClampNeg + 1)), .ref b]) (congrArg (fun z => F0 m 870 ls [.int (xs z), .ref b]) ejx756) ?_
      refine lv_aload_n hx hb dL_law_870 rfl (lv_at hl 3 rfl) ?_
      refine lv_iload_n hx hb dL_law_871 rfl (lv_at hl 0 rfl) ?_
      refine lv_iconst (v := 2) hx hb dL_law_872 (by decide) ?_
      refine lv_iadd hx hb dL_law_873 ?_
      refine lv_topi (fun x757 ex757 => ?_)
      obtain ⟨tx757, ejx757, evx757⟩ := lw_ix (k := 2) ex757 hI hL rfl (by decide)
      clear tx757
      refine va_sld hx hb hX hbl (Nat.not_le.mpr hbl) hSH714 (vp_in_iff.mpr evx757) dL_law_874 ?_
      refine W.eq (g2 := F0 m 875 ls [.int (xs (i.toNatClampNeg + 2)), .int (xs (i.toNatClampNeg + 1)), .ref b]) (congrArg (fun z => F0 m 875 ls [.int (xs z), .int (xs (i.toNatClampNeg + 1)), .ref b]) ejx757) ?_
      refine x_V (As := [.int (xs (i.toNatClampNeg + 1)), .int (xs (i.toNatClampNeg + 2))]) (rest := []) C (a_X10_job_k l K G H714 ((xs (i.toNatClampNeg + 1))) ((xs (i.toNatClampNeg + 2))) hTH714 gb g716 g717 g718 g719 (by omega)) yo_X10_job wM_L_91 ⟨⟨by decide, by decide⟩, show _ ≤ 60000 from Nat.le_trans hc (by decide), show _ ≤ 8922250 from Nat.le_trans hs (by decide)⟩ (x_rv C hTH714 (ci := 10) rfl gb rg_112) rfl hl.1 rfl (Nat.le_of_ble_eq_true rfl) dL_law_875 hSH714 (AE_new hN hSH714.1) (fun vH758 H758 locsH758 pH758 zH758 kH758 hSH758 => ?_)
      obtain ⟨x759, hvH758, bx759, g760, g761, g762, g763, mf764, hTH758⟩ := pH758
      subst hvH758
      have f765 : ∀ j : Nat, fI H758 tq j = fI H tq j := fun j => (fI_kept (x_lt hTH714 kH758 gtq (by decide))).trans (f720 j)
      have f766 : ∀ j : Nat, fI H758 uq j = fI H uq j := fun j => (fI_kept (x_lt hTH714 kH758 guq (by decide))).trans (f721 j)
      have m767 := (m722).trans (fR_kept (x_lt hTH714 kH758 ga (by decide))).symm
      have m768 := (m723).trans (fI_kept (x_lt hTH714 kH758 ga (by decide))).symm
      have m769 := (m725).trans (fI_kept (x_lt hTH714 kH758 gw (by decide))).symm
      have m770 := (m727).trans (fI_kept (x_lt hTH714 kH758 gw (by decide))).symm
      have m771 := (m729).trans (fI_kept (x_lt hTH714 kH758 gw (by decide))).symm
      have m772 := (m731).trans (fI_kept (x_lt hTH714 kH758 gw (by decide))).symm
      have m773 := (m733).trans (fI_kept (x_lt hTH714 kH758 gw (by decide))).symm
      have m774 := (m735).trans (fI_kept (x_lt hTH714 kH758 gw (by decide))).symm
      have m775 := (m737).trans (fR_kept (x_lt hTH714 kH758 ga (by decide))).symm
      have m776 := (fV_kept (x_lt hTH714 kH758 ga (by decide))).trans m740
      have m777 := (m742).trans (fI_kept (x_lt hTH714 kH758 gkq (by decide))).symm
      have m778 := (m743).trans (fI_kept (x_lt hTH714 kH758 giq (by decide))).symm
      have m779 := (m744).trans (fI_kept (x_lt hTH714 kH758 gkq (by decide))).symm
      have m780 := (m745).trans (fI_kept (x_lt hTH714 kH758 giq (by decide))).symm
      have m781 := (m746).trans (fI_kept (x_lt hTH714 kH758 gkq (by decide))).symm
      have m782 := (m747).trans (fI_kept (x_lt hTH714 kH758 giq (by decide))).symm
      have m783 := (m748).trans (fI_kept (x_lt hTH714 kH758 gkq (by decide))).symm
      have m784 := (m749).trans (fI_kept (x_lt hTH714 kH758 giq (by decide))).symm
      have m785 := (m750).trans (fI_kept (x_lt hTH714 kH758 gkq (by decide))).symm
      have m786 := (m751).trans (fI_kept (x_lt hTH714 kH758 giq (by decide))).symm
      have m787 := (m752).trans (fI_kept (x_lt hTH714 kH758 gkq (by decide))).symm
      have m788 := (m753).trans (fI_kept (x_lt hTH714 kH758 giq (by decide))).symm
      have m789 := (m724).trans (MF.i mf764 (k := 18) (by decide) (by decide)).symm
      have m790 := (m726).trans (MF.i mf764 (k := 1) (by decide) (by decide)).symm
      have m791 := (m728).trans (MF.i mf764 (k := 2) (by decide) (by decide)).symm
      have m792 := (m730).trans (MF.i mf764 (k := 3) (by decide) (by decide)).symm
      have m793 := (m732).trans (MF.i mf764 (k := 59) (by decide) (by decide)).symm
      have m794 := (m734).trans (MF.i mf764 (k := 62) (by decide) (by decide)).symm
      have m795 := (m736).trans (MF.i mf764 (k := 65) (by decide) (by decide)).symm
      have m796 := (m738).trans (MF.r mf764 (k := 17) (by decide) (by decide)).symm
      have m797 := (m739).trans (MF.i mf764 (k := 70) (by decide) (by decide)).symm
      have m798 := (m741).trans (MF.r mf764 (k := 73) (by decide) (by decide)).symm
      refine W.eq (g2 := F0 m 878 ls [.int x759]) rfl ?_
      have rk799 : RKI K H758 kq iq k1.toInt := RKI.kept rk754 hTH714 gkq (x_lt hTH714 kH758 giq (by first | exact nmr ht (by decide) | exact nmo ht (by decide) | exact nme ht (by decide) | exact nmq ht (by decide) | decide | (intro z; simp only [List.mem_cons, List.not_mem_nil, or_false] at z <;> omega) | omega)) (fun q t hq ht => x_lt hTH714 kH758 hq (by first | exact nmr ht (by decide) | exact nmo ht (by decide) | exact nme ht (by decide) | exact nmq ht (by decide) | decide | (intro z; simp only [List.mem_cons, List.not_mem_nil, or_false] at z <;> omega) | omega))
      have re800 : RE K H758 w b s1.toInt := RE.ref re755 hTH714 gw gb (fun k hk => MF.r mf764 (by omega) (by intro z; simp only [List.mem_cons, List.not_mem_nil, or_false] at z; omega)) (fun q t hq ht => x_lt hTH714 kH758 hq (by first | exact nmr ht (by decide) | exact nmo ht (by decide) | exact nme ht (by decide) | exact nmq ht (by decide) | decide | (intro z; simp only [List.mem_cons, List.not_mem_nil, or_false] at z <;> omega) | omega))
      refine lv_pop hx hb dL_law_878 rfl ?_
      refine lv_goto (tgt := 1509) hx hb dL_law_879 (by decide) ?_
      exact nx G H758 locsH758 _ _ ls ⟨hTH758, hN, ga, gb, g760, g761, g762, g763, ⟨(by rw [← m768, ← m789]; exact rt), (by rw [← m767, ← m769, ← m790]; exact r1), (by rw [← m767, ← m770, ← m791]; exact r4), (by rw [← m767, ← m771, ← m792]; exact r5), (by rw [← m767, ← m772, ← m793]; exact r10), (by rw [← m767, ← m773, ← m794]; exact r13), (by rw [← m767, ← m774, ← m795]; exact r16)⟩, Or.inr ⟨kq, m776, gkq, (by rw [← m797]; exact h70), (by rw [← m777, ← m798, ← m778]; exact q1), (by rw [← m779, ← m798, ← m780]; exact q4), (by rw [← m781, ← m798, ← m782]; exact q5), (by rw [← m783, ← m798, ← m784]; exact q10), (by rw [← m785, ← m798, ← m786]; exact q13), (by rw [← m787, ← m798, ← m788]; exact q16), (by rw [← m798, ← m777]; exact RKI.cast rk799 (by omega)), (by rw [← m781]; omega), (by rw [← m781]; omega)⟩, (by unfold TB; rw [← m775, ← m796, ← m789]; exact TBR.of htr f765 f766 (by omega)), (by unfold RELE; rw [← m767, ← m790, ← m771]; exact ⟨RE.cast re800 (by omega), by omega, by omega⟩), hSH758⟩ hl ⟨hc, hs, fun h => by have h1 := h.symm.trans m776; cases h1⟩