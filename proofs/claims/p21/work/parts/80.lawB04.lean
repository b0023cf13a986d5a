set_option maxRecDepth 100000 in
set_option maxHeartbeats 8000000 in
theorem lw_c16 {p : Program} {l : Launch} {e : Env} {s : State} {m : MethodId} {below : List Frame} {meth : Method} {c : Code} {K : KE} {b0 L : Nat} {xs : Nat → Int32} {G : Nat → Option Nat} {H : Heap} {locs : List Loc} {a b : Nat} {cells slots : Nat} {ls : Array Slot} {i : Int32} {n : Nat} (D : LC p K s m meth c b0 L xs) (S : SX K s G H locs a b) (hl : lv_has ls 4 [(3, .int i), (2, .ref b), (1, .ref a), (0, .ref b0)]) (hi : 0 ≤ i.toInt ∧ i.toInt + 6 ≤ L) (hn : n ≤ 511) (hB : BD K H a cells slots) (nx : ∀ (G : Nat → Option Nat) (H : Heap) (locs : List Loc) (cells slots : Nat) (ls : Array Slot), SX K s G H locs a b → lv_has ls 4 [(3, .int i), (2, .ref b), (1, .ref a), (0, .ref b0)] → BD K H a cells slots → W p l e room_1 s m #[Value.ref b0] below meth c H locs cells slots (lw_Z below #[Value.ref b0] s) (F0 m 1509 ls [])) : W p l e room_1 s m #[Value.ref b0] below meth c H locs cells slots (lw_Z below #[Value.ref b0] s) (F0 m 806 ls []) := by
  have hI := hi
  obtain ⟨C, hX, hbl, hL⟩ := id D
  obtain ⟨hx, hb, hml, hown, hts, hKT, hr, hlocks, hnm⟩ := id C
  obtain ⟨hT, hN, ga, gb, cg, tu, wd, im, ⟨rt, r1, r4, r5, r10, r13, r16⟩, hk, hrb, hS⟩ := S
  obtain ⟨hc, hs, hB0⟩ := hB
  have n_m1 : ((-1) : Int32).toInt = -1 := rfl
  have n_0 : (0 : Int32).toInt = 0 := rfl
  have n_1 : (1 : Int32).toInt = 1 := rfl
  have n_2 : (2 : Int32).toInt = 2 := rfl
  have n_3 : (3 : Int32).toInt = 3 := rfl
  obtain ⟨w, ew⟩ : ∃ z : Nat, z = fR H a (K.1.2 9 0) := ⟨_, rfl⟩
  have gw := ty_fr (q := w) (k := 0) (u := 0) ew hT ga rg_68 rfl
  rw [← ew] at r1 r4 r5 r10 r13 r16
  obtain ⟨ta, eta⟩ : ∃ z : Int32, z = fI H a (K.1.2 9 3) := ⟨_, rfl⟩
  rw [← eta] at rt
  obtain ⟨tb, etb⟩ : ∃ z : Int32, z = fI H b (K.1.2 10 18) := ⟨_, rfl⟩
  rw [← etb] at rt
  obtain ⟨s1, es1⟩ : ∃ z : Int32, z = fI H w (K.1.2 8 1) := ⟨_, rfl⟩
  rw [← es1] at r1
  obtain ⟨y1, ey1⟩ : ∃ z : Int32, z = fI H b (K.1.2 10 1) := ⟨_, rfl⟩
  rw [← ey1] at r1
  obtain ⟨s4, es4⟩ : ∃ z : Int32, z = fI H w (K.1.2 8 4) := ⟨_, rfl⟩
  rw [← es4] at r4
  obtain ⟨y4, ey4⟩ : ∃ z : Int32, z = fI H b (K.1.2 10 2) := ⟨_, rfl⟩
  rw [← ey4] at r4
  obtain ⟨s5, es5⟩ : ∃ z : Int32, z = fI H w (K.1.2 8 5) := ⟨_, rfl⟩
  rw [← es5] at r5
  obtain ⟨y5, ey5⟩ : ∃ z : Int32, z = fI H b (K.1.2 10 3) := ⟨_, rfl⟩
  rw [← ey5] at r5
  obtain ⟨s10, es10⟩ : ∃ z : Int32, z = fI H w (K.1.2 8 10) := ⟨_, rfl⟩
  rw [← es10] at r10
  obtain ⟨y10, ey10⟩ : ∃ z : Int32, z = fI H b (K.1.2 10 59) := ⟨_, rfl⟩
  rw [← ey10] at r10
  obtain ⟨s13, es13⟩ : ∃ z : Int32, z = fI H w (K.1.2 8 13) := ⟨_, rfl⟩
  rw [← es13] at r13
  obtain ⟨y13, ey13⟩ : ∃ z : Int32, z = fI H b (K.1.2 10 62) := ⟨_, rfl⟩
  rw [← ey13] at r13
  obtain ⟨s16, es16⟩ : ∃ z : Int32, z = fI H w (K.1.2 8 16) := ⟨_, rfl⟩
  rw [← es16] at r16
  obtain ⟨y16, ey16⟩ : ∃ z : Int32, z = fI H b (K.1.2 10 65) := ⟨_, rfl⟩
  rw [← ey16] at r16
  obtain ⟨bq, ebq⟩ : ∃ z : Nat, z = fR H w (K.1.2 8 0) := ⟨_, rfl⟩
  have gbq := ty_fr (q := bq) (k := 0) (u := 25) ebq hT gw rg_0 rfl
  obtain ⟨aq, eaq⟩ : ∃ z : Nat, z = fR H b (K.1.2 10 50) := ⟨_, rfl⟩
  have gaq := ty_fr (q := aq) (k := 50) (u := 146) eaq hT gb rg_112 rfl
  have bs1 := ty_fi (x := s1) (k := 1) es1 hT gw rg_0 rfl
  have by1 := ty_fi (x := y1) (k := 1) ey1 hT gb rg_112 rfl
  obtain ⟨db, vr, vt⟩ := hrb
  rw [← ew, ← ebq] at db
  rw [← ew, ← ebq, ← eaq, ← ey1] at vr
  rw [← eaq, ← ey1] at vt
  obtain ⟨cz101, ecz101⟩ : ∃ f : Nat → Int32, ∀ j : Nat, j < 10 → f j = fI H (fR H bq j) (K.1.2 0 14) := ⟨_, fun _ _ => rfl⟩
  obtain ⟨rz102, erz102⟩ : ∃ f : Nat → Int32, ∀ j : Nat, j < 10 → f j = fI H aq j := ⟨_, fun _ _ => rfl⟩
  have rel : ∀ j : Nat, j < 10 → (j : Int) < y1.toInt → cz101 j = rz102 j := fun j h1 h2 => by rw [ecz101 j h1, erz102 j h1]; exact vr j h1 h2
  clear vr
  have tl : ∀ j : Nat, j < 10 → y1.toInt ≤ (j : Int) → rz102 j = 0 := fun j h1 h2 => by rw [erz102 j h1]; exact vt j h1 h2
  clear vt
  rcases hk with ⟨kn, h70⟩ | ⟨kq, kn, gkq, h70, q1, q4, q5, q10, q13, q16, dbk, vk, vkt⟩
  · skip
    obtain ⟨hi, ehi⟩ : ∃ z : Int32, z = fI H b (K.1.2 10 70) := ⟨_, rfl⟩
    rw [← ehi] at h70
    obtain ⟨hc0, hs0⟩ := hB0 kn
    obtain ⟨iq, eiq⟩ : ∃ z : Nat, z = fR H b (K.1.2 10 73) := ⟨_, rfl⟩
    have giq := ty_fr (q := iq) (k := 73) (u := 162) eiq hT gb rg_112 rfl
    refine lv_aload_n hx hb dL_law_806 rfl (lv_at hl 2 rfl) ?_
    refine lv_aload_n hx hb dL_law_807 rfl (lv_at hl 3 rfl) ?_
    refine lv_iload_n hx hb dL_law_808 rfl (lv_at hl 0 rfl) ?_
    refine lv_iconst (v := 1) hx hb dL_law_809 (by decide) ?_
    refine lv_iadd hx hb dL_law_810 ?_
    refine lv_topi (fun x103 ex103 => ?_)
    obtain ⟨tx103, ejx103, evx103⟩ := lw_ix (k := 1) ex103 hI hL rfl (by decide)
    clear tx103
    refine va_sld hx hb hX hbl (Nat.not_le.mpr hbl) hS (vp_in_iff.mpr evx103) dL_law_811 ?_
    refine W.eq (g2 := F0 m 812 ls [.int (xs (i.toNatClampNeg + 1)), .ref a]) (congrArg (fun z => F0 m 812 ls [.int (xs z), .ref a]) ejx103) ?_
    refine lv_aload_n hx hb dL_law_812 rfl (lv_at hl 3 rfl) ?_
    refine lv_iload_n hx hb dL_law_813 rfl (lv_at hl 0 rfl) ?_
    refine lv_iconst (v := 2) hx hb dL_law_814 (by decide) ?_
    refine lv_iadd hx hb dL_law_815 ?_
    refine lv_topi (fun x104 ex104 => ?_)
    obtain ⟨tx104, ejx104, evx104⟩ := lw_ix (k := 2) ex104 hI hL rfl (by decide)
    clear tx104
    refine va_sld hx hb hX hbl (Nat.not_le.mpr hbl) hS (vp_in_iff.mpr evx104) dL_law_816 ?_
    refine W.eq (g2 := F0 m 817 ls [.int (xs (i.toNatClampNeg + 2)), .int (xs (i.toNatClampNeg + 1)), .ref a]) (congrArg (fun z => F0 m 817 ls [.int (xs z), .int (xs (i.toNatClampNeg + 1)), .ref a]) ejx104) ?_
    refine lv_aload_n hx hb dL_law_817 rfl (lv_at hl 3 rfl) ?_
    refine lv_iload_n hx hb dL_law_818 rfl (lv_at hl 0 rfl) ?_
    refine lv_iconst (v := 3) hx hb dL_law_819 (by decide) ?_
    refine lv_iadd hx hb dL_law_820 ?_
    refine lv_topi (fun x105 ex105 => ?_)
    obtain ⟨tx105, ejx105, evx105⟩ := lw_ix (k := 3) ex105 hI hL rfl (by decide)
    clear tx105
    refine va_sld hx hb hX hbl (Nat.not_le.mpr hbl) hS (vp_in_iff.mpr evx105) dL_law_821 ?_
    refine W.eq (g2 := F0 m 822 ls [.int (xs (i.toNatClampNeg + 3)), .int (xs (i.toNatClampNeg + 2)), .int (xs (i.toNatClampNeg + 1)), .ref a]) (congrArg (fun z => F0 m 822 ls [.int (xs z), .int (xs (i.toNatClampNeg + 2)), .int (xs (i.toNatClampNeg + 1)), .ref a]) ejx105) ?_
    refine x_V (As := [.int (xs (i.toNatClampNeg + 1)), .int (xs (i.toNatClampNeg + 2)), .int (xs (i.toNatClampNeg + 3))]) (rest := []) C (a_X9_takes l K G H ((xs (i.toNatClampNeg + 1))) ((xs (i.toNatClampNeg + 2))) ((xs (i.toNatClampNeg + 3))) hT ga) yo_X9_takes wM_L_84 ⟨⟨by decide, by decide⟩, show _ ≤ 1200000 from Nat.le_trans hc (by decide), show _ ≤ 5502250 from Nat.le_trans hs (by decide)⟩ (x_rv C hT (ci := 9) rfl ga rg_68) rfl hl.1 rfl (Nat.le_of_ble_eq_true rfl) dL_law_822 hS (AE_new hN hS.1) (fun vH106 H106 locsH106 pH106 zH106 kH106 hSH106 => ?_)
    obtain ⟨x107, hvH106, hTH106⟩ := pH106
    subst hvH106
    have g108 : CG (avw K H106 b) := CG.congr (fun k hk j => av_eff hT kH106 gb (by decide) (CG_eff [111, 83, 84] (by decide) k hk)) cg
    have g109 : TU (avw K H106 b) (svw K H106 b) := TU.congr (fun k hk j => av_eff hT kH106 gb (by decide) (TU_eff [111, 83, 84] (by decide) k hk)) (fun k hk => sv_eff hT kH106 gb (by decide)) tu
    have g110 : WD (avw K H106 b) := WD.congr (fun k hk j => av_eff hT kH106 gb (by decide) (WD_eff [111, 83, 84] (by decide) k hk)) wd
    have g111 : IM (avw K H106 b) := IM.congr (fun k hk j => av_eff hT kH106 gb (by decide) (IM_eff [111, 83, 84] (by decide) k hk)) im
    have m112 := (ew).trans (fR_kept (x_lt hT kH106 ga (by decide))).symm
    have m113 := (eta).trans (fI_kept (x_lt hT kH106 ga (by decide))).symm
    have m114 := (etb).trans (fI_kept (x_lt hT kH106 gb (by decide))).symm
    have m115 := (es1).trans (fI_kept (x_lt hT kH106 gw (by decide))).symm
    have m116 := (ey1).trans (fI_kept (x_lt hT kH106 gb (by decide))).symm
    have m117 := (es4).trans (fI_kept (x_lt hT kH106 gw (by decide))).symm
    have m118 := (ey4).trans (fI_kept (x_lt hT kH106 gb (by decide))).symm
    have m119 := (es5).trans (fI_kept (x_lt hT kH106 gw (by decide))).symm
    have m120 := (ey5).trans (fI_kept (x_lt hT kH106 gb (by decide))).symm
    have m121 := (es10).trans (fI_kept (x_lt hT kH106 gw (by decide))).symm
    have m122 := (ey10).trans (fI_kept (x_lt hT kH106 gb (by decide))).symm
    have m123 := (es13).trans (fI_kept (x_lt hT kH106 gw (by decide))).symm
    have m124 := (ey13).trans (fI_kept (x_lt hT kH106 gb (by decide))).symm
    have m125 := (es16).trans (fI_kept (x_lt hT kH106 gw (by decide))).symm
    have m126 := (ey16).trans (fI_kept (x_lt hT kH106 gb (by decide))).symm
    have m127 := (ebq).trans (fR_kept (x_lt hT kH106 gw (by decide))).symm
    have m128 := (eaq).trans (fR_kept (x_lt hT kH106 gb (by decide))).symm
    have m129 := (ehi).trans (fI_kept (x_lt hT kH106 gb (by decide))).symm
    have m130 := (fV_kept (x_lt hT kH106 ga (by decide))).trans kn
    have m131 := (eiq).trans (fR_kept (x_lt hT kH106 gb (by decide))).symm
    refine W.eq (g2 := F0 m 825 ls [.int x107]) rfl ?_
    have v132 : ∀ j : Nat, j < 10 → cz101 j = fI H106 (fR H106 bq j) (K.1.2 0 14) := fun j h => (ecz101 j h).trans (by rw [fR_kept (x_lt hT kH106 gbq (by decide))]; exact (fI_kept (x_lt hT kH106 (bar_g hT gbq j h) (by decide))).symm)
    have v133 : ∀ j : Nat, j < 10 → rz102 j = fI H106 aq j := fun j h => (erz102 j h).trans (fI_kept (x_lt hT kH106 gaq (by decide))).symm
    have d134 := DB.kept db (x_lt hT kH106 gbq (by decide))
    refine lv_pop hx hb dL_law_825 rfl ?_
    refine lv_aload_n hx hb dL_law_826 rfl (lv_at hl 1 rfl) ?_
    refine lv_aload_n hx hb dL_law_827 rfl (lv_at hl 3 rfl) ?_
    refine lv_iload_n hx hb dL_law_828 rfl (lv_at hl 0 rfl) ?_
    refine lv_iconst (v := 1) hx hb dL_law_829 (by decide) ?_
    refine lv_iadd hx hb dL_law_830 ?_
    refine lv_topi (fun x135 ex135 => ?_)
    obtain ⟨tx135, ejx135, evx135⟩ := lw_ix (k := 1) ex135 hI hL rfl (by decide)
    clear tx135
    refine va_sld hx hb hX hbl (Nat.not_le.mpr hbl) hSH106 (vp_in_iff.mpr evx135) dL_law_831 ?_
    refine W.eq (g2 := F0 m 832 ls [.int (xs (i.toNatClampNeg + 1)), .ref b]) (congrArg (fun z => F0 m 832 ls [.int (xs z), .ref b]) ejx135) ?_
    refine lv_aload_n hx hb dL_law_832 rfl (lv_at hl 3 rfl) ?_
    refine lv_iload_n hx hb dL_law_833 rfl (lv_at hl 0 rfl) ?_
    refine lv_iconst (v := 2) hx hb dL_law_834 (by decide) ?_
    refine lv_iadd hx hb dL_law_835 ?_
    refine lv_topi (fun x136 ex136 => ?_)
    obtain ⟨tx136, ejx136, evx136⟩ := lw_ix (k := 2) ex136 hI hL rfl (by decide)
    clear tx136
    refine va_sld hx hb hX hbl (Nat.not_le.mpr hbl) hSH106 (vp_in_iff.mpr evx136) dL_law_836 ?_
    refine W.eq (g2 := F0 m 837 ls [.int (xs (i.toNatClampNeg + 2)), .int (xs (i.toNatClampNeg + 1)), .ref b]) (congrArg (fun z => F0 m 837 ls [.int (xs z), .int (xs (i.toNatClampNeg + 1)), .ref b]) ejx136) ?_
    refine lv_aload_n hx hb dL_law_837 rfl (lv_at hl 3 rfl) ?_
    refine lv_iload_n hx hb dL_law_838 rfl (lv_at hl 0 rfl) ?_
    refine lv_iconst (v := 3) hx hb dL_law_839 (by decide) ?_
    refine lv_iadd hx hb dL_law_840 ?_
    refine lv_topi (fun x137 ex137 => ?_)
    obtain ⟨tx137, ejx137, evx137⟩ := lw_ix (k := 3) ex137 hI hL rfl (by decide)
    clear tx137
    refine va_sld hx hb hX hbl (Nat.not_le.mpr hbl) hSH106 (vp_in_iff.mpr evx137) dL_law_841 ?_
    refine W.eq (g2 := F0 m 842 ls [.int (xs (i.toNatClampNeg + 3)), .int (xs (i.toNatClampNeg + 2)), .int (xs (i.toNatClampNeg + 1)), .ref b]) (congrArg (fun z => F0 m 842 ls [.int (xs z), .int (xs (i.toNatClampNeg + 2)), .int (xs (i.toNatClampNeg + 1)), .ref b]) ejx137) ?_
    refine x_V (As := [.int (xs (i.toNatClampNeg + 1)), .int (xs (i.toNatClampNeg + 2)), .int (xs (i.toNatClampNeg + 3))]) (rest := []) C (a_X10_takes l K G H106 ((xs (i.toNatClampNeg + 1))) ((xs (i.toNatClampNeg + 2))) ((xs (i.toNatClampNeg + 3))) hTH106 gb g108 g109 g110 g111) yo_X10_takes wM_L_87 ⟨⟨by decide, by decide⟩, show _ ≤ 1200000 from Nat.le_trans hc (by decide), show _ ≤ 5502250 from Nat.le_trans hs (by decide)⟩ (x_rv C hTH106 (ci := 10) rfl gb rg_112) rfl hl.1 rfl (Nat.le_of_ble_eq_true rfl) dL_law_842 hSH106 (AE_new hN hSH106.1) (fun vH138 H138 locsH138 pH138 zH138 kH138 hSH138 => ?_)
    obtain ⟨x139, hvH138, g140, g141, g142, g143, mf144, hTH138⟩ := pH138
    subst hvH138
    have m145 := (m112).trans (fR_kept (x_lt hTH106 kH138 ga (by decide))).symm
    have m146 := (m113).trans (fI_kept (x_lt hTH106 kH138 ga (by decide))).symm
    have m147 := (m115).trans (fI_kept (x_lt hTH106 kH138 gw (by decide))).symm
    have m148 := (m117).trans (fI_kept (x_lt hTH106 kH138 gw (by decide))).symm
    have m149 := (m119).trans (fI_kept (x_lt hTH106 kH138 gw (by decide))).symm
    have m150 := (m121).trans (fI_kept (x_lt hTH106 kH138 gw (by decide))).symm
    have m151 := (m123).trans (fI_kept (x_lt hTH106 kH138 gw (by decide))).symm
    have m152 := (m125).trans (fI_kept (x_lt hTH106 kH138 gw (by decide))).symm
    have m153 := (m127).trans (fR_kept (x_lt hTH106 kH138 gw (by decide))).symm
    have m154 := (fV_kept (x_lt hTH106 kH138 ga (by decide))).trans m130
    have m155 := (m114).trans (MF.i mf144 (k := 18) (by decide) (by decide)).symm
    have m156 := (m116).trans (MF.i mf144 (k := 1) (by decide) (by decide)).symm
    have m157 := (m118).trans (MF.i mf144 (k := 2) (by decide) (by decide)).symm
    have m158 := (m120).trans (MF.i mf144 (k := 3) (by decide) (by decide)).symm
    have m159 := (m122).trans (MF.i mf144 (k := 59) (by decide) (by decide)).symm
    have m160 := (m124).trans (MF.i mf144 (k := 62) (by decide) (by decide)).symm
    have m161 := (m126).trans (MF.i mf144 (k := 65) (by decide) (by decide)).symm
    have m162 := (m128).trans (MF.r mf144 (k := 50) (by decide) (by decide)).symm
    have m163 := (m129).trans (MF.i mf144 (k := 70) (by decide) (by decide)).symm
    have m164 := (m131).trans (MF.r mf144 (k := 73) (by decide) (by decide)).symm
    refine W.eq (g2 := F0 m 845 ls [.int x139]) rfl ?_
    have v165 : ∀ j : Nat, j < 10 → cz101 j = fI H138 (fR H138 bq j) (K.1.2 0 14) := fun j h => (v132 j h).trans (by rw [fR_kept (x_lt hTH106 kH138 gbq (by decide))]; exact (fI_kept (x_lt hTH106 kH138 (bar_g hTH106 gbq j h) (by decide))).symm)
    have v166 : ∀ j : Nat, j < 10 → rz102 j = fI H138 aq j := fun j h => (v133 j h).trans (fI_kept (x_lt hTH106 kH138 gaq (by decide))).symm
    have d167 := DB.kept d134 (x_lt hTH106 kH138 gbq (by decide))
    refine lv_pop hx hb dL_law_845 rfl ?_
    refine lv_goto (tgt := 1509) hx hb dL_law_846 (by decide) ?_
    exact nx G H138 locsH138 _ _ ls ⟨hTH138, hN, ga, gb, g140, g141, g142, g143, ⟨(by rw [← m146, ← m155]; exact rt), (by rw [← m145, ← m147, ← m156]; exact r1), (by rw [← m145, ← m148, ← m157]; exact r4), (by rw [← m145, ← m149, ← m158]; exact r5), (by rw [← m145, ← m150, ← m159]; exact r10), (by rw [← m145, ← m151, ← m160]; exact r13), (by rw [← m145, ← m152, ← m161]; exact r16)⟩, Or.inl ⟨m154, (by rw [← m163]; exact h70)⟩, (by unfold RB; rw [← m145, ← m153, ← m162, ← m156]; exact ⟨d167, fun j h1 h2 => by rw [← v165 j h1, ← v166 j h1]; exact rel j h1 (by omega), fun j h1 h2 => by rw [← v166 j h1]; exact tl j h1 (by omega)⟩), hSH138⟩ hl ⟨hc, hs, fun _ => ⟨hc0, hs0⟩⟩
  · skip
    obtain ⟨hi, ehi⟩ : ∃ z : Int32, z = fI H b (K.1.2 10 70) := ⟨_, rfl⟩
    rw [← ehi] at h70
    obtain ⟨iq, eiq⟩ : ∃ z : Nat, z = fR H b (K.1.2 10 73) := ⟨_, rfl⟩
    have giq := ty_fr (q := iq) (k := 73) (u := 162) eiq hT gb rg_112 rfl
    rw [← eiq] at q1 q4 q5 q10 q13 q16
    obtain ⟨k1, ek1⟩ : ∃ z : Int32, z = fI H kq (K.1.2 8 1) := ⟨_, rfl⟩
    rw [← ek1] at q1
    obtain ⟨i1, ei1⟩ : ∃ z : Int32, z = fI H iq ((0 : Int32).toNatClampNeg) := ⟨_, rfl⟩
    rw [← ei1] at q1
    obtain ⟨k4, ek4⟩ : ∃ z : Int32, z = fI H kq (K.1.2 8 4) := ⟨_, rfl⟩
    rw [← ek4] at q4
    obtain ⟨i4, ei4⟩ : ∃ z : Int32, z = fI H iq ((1 : Int32).toNatClampNeg) := ⟨_, rfl⟩
    rw [← ei4] at q4
    obtain ⟨k5, ek5⟩ : ∃ z : Int32, z = fI H kq (K.1.2 8 5) := ⟨_, rfl⟩
    rw [← ek5] at q5
    obtain ⟨i5, ei5⟩ : ∃ z : Int32, z = fI H iq ((2 : Int32).toNatClampNeg) := ⟨_, rfl⟩
    rw [← ei5] at q5
    obtain ⟨k10, ek10⟩ : ∃ z : Int32, z = fI H kq (K.1.2 8 10) := ⟨_, rfl⟩
    rw [← ek10] at q10
    obtain ⟨i10, ei10⟩ : ∃ z : Int32, z = fI H iq ((3 : Int32).toNatClampNeg) := ⟨_, rfl⟩
    rw [← ei10] at q10
    obtain ⟨k13, ek13⟩ : ∃ z : Int32, z = fI H kq (K.1.2 8 13) := ⟨_, rfl⟩
    rw [← ek13] at q13
    obtain ⟨i13, ei13⟩ : ∃ z : Int32, z = fI H iq ((4 : Int32).toNatClampNeg) := ⟨_, rfl⟩
    rw [← ei13] at q13
    obtain ⟨k16, ek16⟩ : ∃ z : Int32, z = fI H kq (K.1.2 8 16) := ⟨_, rfl⟩
    rw [← ek16] at q16
    obtain ⟨i16, ei16⟩ : ∃ z : Int32, z = fI H iq ((5 : Int32).toNatClampNeg) := ⟨_, rfl⟩
    rw [← ei16] at q16
    obtain ⟨kb, ekb⟩ : ∃ z : Nat, z = fR H kq (K.1.2 8 0) := ⟨_, rfl⟩
    have gkb := ty_fr (q := kb) (k := 0) (u := 59) ekb hT gkq rg_34 rfl
    have bk1 := ty_fi (x := k1) (k := 1) ek1 hT gkq rg_34 rfl
    rw [← ekb] at dbk
    rw [← ekb, ← eiq, ← ek1] at vk
    rw [← eiq, ← ek1] at vkt
    obtain ⟨kz168, ekz168⟩ : ∃ f : Nat → Int32, ∀ j : Nat, j < 10 → f j = fI H (fR H kb j) (K.1.2 0 14) := ⟨_, fun _ _ => rfl⟩
    obtain ⟨iz169, eiz169⟩ : ∃ f : Nat → Int32, ∀ j : Nat, j < 10 → f j = fI H iq (11 + 6 * j) := ⟨_, fun _ _ => rfl⟩
    have vk0 : ∀ j : Nat, j < 10 → (j : Int) < k1.toInt → kz168 j = iz169 j := fun j h1 h2 => by rw [ekz168 j h1, eiz169 j h1]; exact vk j h1 h2
    clear vk
    have vk1 : ∀ j : Nat, j < 10 → k1.toInt ≤ (j : Int) → iz169 j = 0 := fun j h1 h2 => by rw [eiz169 j h1]; exact vkt j h1 h2
    clear vkt
    refine lv_aload_n hx hb dL_law_806 rfl (lv_at hl 2 rfl) ?_
    refine lv_aload_n hx hb dL_law_807 rfl (lv_at hl 3 rfl) ?_
    refine lv_iload_n hx hb dL_law_808 rfl (lv_at hl 0 rfl) ?_
    refine lv_iconst (v := 1) hx hb dL_law_809 (by decide) ?_
    refine lv_iadd hx hb dL_law_810 ?_
    refine lv_topi (fun x170 ex170 => ?_)
    obtain ⟨tx170, ejx170, evx170⟩ := lw_ix (k := 1) ex170 hI hL rfl (by decide)
    clear tx170
    refine va_sld hx hb hX hbl (Nat.not_le.mpr hbl) hS (vp_in_iff.mpr evx170) dL_law_811 ?_
    refine W.eq (g2 := F0 m 812 ls [.int (xs (i.toNatClampNeg + 1)), .ref a]) (congrArg (fun z => F0 m 812 ls [.int (xs z), .ref a]) ejx170) ?_
    refine lv_aload_n hx hb dL_law_812 rfl (lv_at hl 3 rfl) ?_
    refine lv_iload_n hx hb dL_law_813 rfl (lv_at hl 0 rfl) ?_
    refine lv_iconst (v := 2) hx hb dL_law_814 (by decide) ?_
    refine lv_iadd hx hb dL_law_815 ?_
    refine lv_topi (fun x171 ex171 => ?_)
    obtain ⟨tx171, ejx171, evx171⟩ := lw_ix (k := 2) ex171 hI hL rfl (by decide)
    clear tx171
    refine va_sld hx hb hX hbl (Nat.not_le.mpr hbl) hS (vp_in_iff.mpr evx171) dL_law_816 ?_
    refine W.eq (g2 := F0 m 817 ls [.int (xs (i.toNatClampNeg + 2)), .int (xs (i.toNatClampNeg + 1)), .ref a]) (congrArg (fun z => F0 m 817 ls [.int (xs z), .int (xs (i.toNatClampNeg + 1)), .ref a]) ejx171) ?_
    refine lv_aload_n hx hb dL_law_817 rfl (lv_at hl 3 rfl) ?_
    refine lv_iload_n hx hb dL_law_818 rfl (lv_at hl 0 rfl) ?_
    refine lv_iconst (v := 3) hx hb dL_law_819 (by decide) ?_
    refine lv_iadd hx hb dL_law_820 ?_
    refine lv_topi (fun x172 ex172 => ?_)
    obtain ⟨tx172, ejx172, evx172⟩ := lw_ix (k := 3) ex172 hI hL rfl (by decide)
    clear tx172
    refine va_sld hx hb hX hbl (Nat.not_le.mpr hbl) hS (vp_in_iff.mpr evx172) dL_law_821 ?_
    refine W.eq (g2 := F0 m 822 ls [.int (xs (i.toNatClampNeg + 3)), .int (xs (i.toNatClampNeg + 2)), .int (xs (i.toNatClampNeg + 1)), .ref a]) (congrArg (fun z => F0 m 822 ls [.int (xs z), .int (xs (i.toNatClampNeg + 2)), .int (xs (i.toNatClampNeg + 1)), .ref a]) ejx172) ?_
    refine x_V (As := [.int (xs (i.toNatClampNeg + 1)), .int (xs (i.toNatClampNeg + 2)), .int (xs (i.toNatClampNeg + 3))]) (rest := []) C (a_X9_takes l K G H ((xs (i.toNatClampNeg + 1))) ((xs (i.toNatClampNeg + 2))) ((xs (i.toNatClampNeg + 3))) hT ga) yo_X9_takes wM_L_84 ⟨⟨by decide, by decide⟩, show _ ≤ 1200000 from Nat.le_trans hc (by decide), show _ ≤ 5502250 from Nat.le_trans hs (by decide)⟩ (x_rv C hT (ci := 9) rfl ga rg_68) rfl hl.1 rfl (Nat.le_of_ble_eq_true rfl) dL_law_822 hS (AE_new hN hS.1) (fun vH173 H173 locsH173 pH173 zH173 kH173 hSH173 => ?_)
    obtain ⟨x174, hvH173, hTH173⟩ := pH173
    subst hvH173
    have g175 : CG (avw K H173 b) := CG.congr (fun k hk j => av_eff hT kH173 gb (by decide) (CG_eff [111, 83, 84] (by decide) k hk)) cg
    have g176 : TU (avw K H173 b) (svw K H173 b) := TU.congr (fun k hk j => av_eff hT kH173 gb (by decide) (TU_eff [111, 83, 84] (by decide) k hk)) (fun k hk => sv_eff hT kH173 gb (by decide)) tu
    have g177 : WD (avw K H173 b) := WD.congr (fun k hk j => av_eff hT kH173 gb (by decide) (WD_eff [111, 83, 84] (by decide) k hk)) wd
    have g178 : IM (avw K H173 b) := IM.congr (fun k hk j => av_eff hT kH173 gb (by decide) (IM_eff [111, 83, 84] (by decide) k hk)) im
    have m179 := (ew).trans (fR_kept (x_lt hT kH173 ga (by decide))).symm
    have m180 := (eta).trans (fI_kept (x_lt hT kH173 ga (by decide))).symm
    have m181 := (etb).trans (fI_kept (x_lt hT kH173 gb (by decide))).symm
    have m182 := (es1).trans (fI_kept (x_lt hT kH173 gw (by decide))).symm
    have m183 := (ey1).trans (fI_kept (x_lt hT kH173 gb (by decide))).symm
    have m184 := (es4).trans (fI_kept (x_lt hT kH173 gw (by decide))).symm
    have m185 := (ey4).trans (fI_kept (x_lt hT kH173 gb (by decide))).symm
    have m186 := (es5).trans (fI_kept (x_lt hT kH173 gw (by decide))).symm
    have m187 := (ey5).trans (fI_kept (x_lt hT kH173 gb (by decide))).symm
    have m188 := (es10).trans (fI_kept (x_lt hT kH173 gw (by decide))).symm
    have m189 := (ey10).trans (fI_kept (x_lt hT kH173 gb (by decide))).symm
    have m190 := (es13).trans (fI_kept (x_lt hT kH173 gw (by decide))).symm
    have m191 := (ey13).trans (fI_kept (x_lt hT kH173 gb (by decide))).symm
    have m192 := (es16).trans (fI_kept (x_lt hT kH173 gw (by decide))).symm
    have m193 := (ey16).trans (fI_kept (x_lt hT kH173 gb (by decide))).symm
    have m194 := (ebq).trans (fR_kept (x_lt hT kH173 gw (by decide))).symm
    have m195 := (eaq).trans (fR_kept (x_lt hT kH173 gb (by decide))).symm
    have m196 := (ehi).trans (fI_kept (x_lt hT kH173 gb (by decide))).symm
    have m197 := (fV_kept (x_lt hT kH173 ga (by decide))).trans kn
    have m198 := (eiq).trans (fR_kept (x_lt hT kH173 gb (by decide))).symm
    have m199 := (ek1).trans (fI_kept (x_lt hT kH173 gkq (by decide))).symm
    have m200 := (ei1).trans (fI_kept (x_lt hT kH173 giq (by decide))).symm
    have m201 := (ek4).trans (fI_kept (x_lt hT kH173 gkq (by decide))).symm
    have m202 := (ei4).trans (fI_kept (x_lt hT kH173 giq (by decide))).symm
    have m203 := (ek5).trans (fI_kept (x_lt hT kH173 gkq (by decide))).symm
    have m204 := (ei5).trans (fI_kept (x_lt hT kH173 giq (by decide))).symm
    have m205 := (ek10).trans (fI_kept (x_lt hT kH173 gkq (by decide))).symm
    have m206 := (ei10).trans (fI_kept (x_lt hT kH173 giq (by decide))).symm
    have m207 := (ek13).trans (fI_kept (x_lt hT kH173 gkq (by decide))).symm
    have m208 := (ei13).trans (fI_kept (x_lt hT kH173 giq (by decide))).symm
    have m209 := (ek16).trans (fI_kept (x_lt hT kH173 gkq (by decide))).symm
    have m210 := (ei16).trans (fI_kept (x_lt hT kH173 giq (by decide))).symm
    have m211 := (ekb).trans (fR_kept (x_lt hT kH173 gkq (by decide))).symm
    refine W.eq (g2 := F0 m 825 ls [.int x174]) rfl ?_
    have v212 : ∀ j : Nat, j < 10 → cz101 j = fI H173 (fR H173 bq j) (K.1.2 0 14) := fun j h => (ecz101 j h).trans (by rw [fR_kept (x_lt hT kH173 gbq (by decide))]; exact (fI_kept (x_lt hT kH173 (bar_g hT gbq j h) (by decide))).symm)
    have v213 : ∀ j : Nat, j < 10 → rz102 j = fI H173 aq j := fun j h => (erz102 j h).trans (fI_kept (x_lt hT kH173 gaq (by decide))).symm
    have v214 : ∀ j : Nat, j < 10 → kz168 j = fI H173 (fR H173 kb j) (K.1.2 0 14) := fun j h => (ekz168 j h).trans (by rw [fR_kept (x_lt hT kH173 gkb (by decide))]; exact (fI_kept (x_lt hT kH173 (bar_h hT gkb j h) (by decide))).symm)
    have d215 := DB.kept dbk (x_lt hT kH173 gkb (by decide))
    have v216 : ∀ j : Nat, j < 10 → iz169 j = fI H173 iq (11 + 6 * j) := fun j h => (eiz169 j h).trans (fI_kept (x_lt hT kH173 giq (by decide))).symm
    have d217 := DB.kept db (x_lt hT kH173 gbq (by decide))
    refine lv_pop hx hb dL_law_825 rfl ?_
    refine lv_aload_n hx hb dL_law_826 rfl (lv_at hl 1 rfl) ?_
    refine lv_aload_n hx hb dL_law_827 rfl (lv_at hl 3 rfl) ?_
    refine lv_iload_n hx hb dL_law_828 rfl (lv_at hl 0 rfl) ?_
    refine lv_iconst (v := 1) hx hb dL_law_829 (by decide) ?_
    refine lv_iadd hx hb dL_law_830 ?_
    refine lv_topi (fun x218 ex218 => ?_)
    obtain ⟨tx218, ejx218, evx218⟩ := lw_ix (k := 1) ex218 hI hL rfl (by decide)
    clear tx218
    refine va_sld hx hb hX hbl (Nat.not_le.mpr hbl) hSH173 (vp_in_iff.mpr evx218) dL_law_831 ?_
    refine W.eq (g2 := F0 m 832 ls [.int (xs (i.toNatClampNeg + 1)), .ref b]) (congrArg (fun z => F0 m 832 ls [.int (xs z), .ref b]) ejx218) ?_
    refine lv_aload_n hx hb dL_law_832 rfl (lv_at hl 3 rfl) ?_
    refine lv_iload_n hx hb dL_law_833 rfl (lv_at hl 0 rfl) ?_
    refine lv_iconst (v := 2) hx hb dL_law_834 (by decide) ?_
    refine lv_iadd hx hb dL_law_835 ?_
    refine lv_topi (fun x219 ex219 => ?_)
    obtain ⟨tx219, ejx219, evx219⟩ := lw_ix (k := 2) ex219 hI hL rfl (by decide)
    clear tx219
    refine va_sld hx hb hX hbl (Nat.not_le.mpr hbl) hSH173 (vp_in_iff.mpr evx219) dL_law_836 ?_
    refine W.eq (g2 := F0 m 837 ls [.int (xs (i.toNatClampNeg + 2)), .int (xs (i.toNatClampNeg + 1)), .ref b]) (congrArg (fun z => F0 m 837 ls [.int (xs z), .int (xs (i.toNatClampNeg + 1)), .ref b]) ejx219) ?_
    refine lv_aload_n hx hb dL_law_837 rfl (lv_at hl 3 rfl) ?_
    refine lv_iload_n hx hb dL_law_838 rfl (lv_at hl 0 rfl) ?_
    refine lv_iconst (v := 3) hx hb dL_law_839 (by decide) ?_
    refine lv_iadd hx hb dL_law_840 ?_
    refine lv_topi (fun x220 ex220 => ?_)
    obtain ⟨tx220, ejx220, evx220⟩ := lw_ix (k := 3) ex220 hI hL rfl (by decide)
    clear tx220
    refine va_sld hx hb hX hbl (Nat.not_le.mpr hbl) hSH173 (vp_in_iff.mpr evx220) dL_law_841 ?_
    refine W.eq (g2 := F0 m 842 ls [.int (xs (i.toNatClampNeg + 3)), .int (xs (i.toNatClampNeg + 2)), .int (xs (i.toNatClampNeg + 1)), .ref b]) (congrArg (fun z => F0 m 842 ls [.int (xs z), .int (xs (i.toNatClampNeg + 2)), .int (xs (i.toNatClampNeg + 1)), .ref b]) ejx220) ?_
    refine x_V (As := [.int (xs (i.toNatClampNeg + 1)), .int (xs (i.toNatClampNeg + 2)), .int (xs (i.toNatClampNeg + 3))]) (rest := []) C (a_X10_takes l K G H173 ((xs (i.toNatClampNeg + 1))) ((xs (i.toNatClampNeg + 2))) ((xs (i.toNatClampNeg + 3))) hTH173 gb g175 g176 g177 g178) yo_X10_takes wM_L_87 ⟨⟨by decide, by decide⟩, show _ ≤ 1200000 from Nat.le_trans hc (by decide), show _ ≤ 5502250 from Nat.le_trans hs (by decide)⟩ (x_rv C hTH173 (ci := 10) rfl gb rg_112) rfl hl.1 rfl (Nat.le_of_ble_eq_true rfl) dL_law_842 hSH173 (AE_new hN hSH173.1) (fun vH221 H221 locsH221 pH221 zH221 kH221 hSH221 => ?_)
    obtain ⟨x222, hvH221, g223, g224, g225, g226, mf227, hTH221⟩ := pH221
    subst hvH221
    have m228 := (m179).trans (fR_kept (x_lt hTH173 kH221 ga (by decide))).symm
    have m229 := (m180).trans (fI_kept (x_lt hTH173 kH221 ga (by decide))).symm
    have m230 := (m182).trans (fI_kept (x_lt hTH173 kH221 gw (by decide))).symm
    have m231 := (m184).trans (fI_kept (x_lt hTH173 kH221 gw (by decide))).symm
    have m232 := (m186).trans (fI_kept (x_lt hTH173 kH221 gw (by decide))).symm
    have m233 := (m188).trans (fI_kept (x_lt hTH173 kH221 gw (by decide))).symm
    have m234 := (m190).trans (fI_kept (x_lt hTH173 kH221 gw (by decide))).symm
    have m235 := (m192).trans (fI_kept (x_lt hTH173 kH221 gw (by decide))).symm
    have m236 := (m194).trans (fR_kept (x_lt hTH173 kH221 gw (by decide))).symm
    have m237 := (fV_kept (x_lt hTH173 kH221 ga (by decide))).trans m197
    have m238 := (m199).trans (fI_kept (x_lt hTH173 kH221 gkq (by decide))).symm
    have m239 := (m200).trans (fI_kept (x_lt hTH173 kH221 giq (by decide))).symm
    have m240 := (m201).trans (fI_kept (x_lt hTH173 kH221 gkq (by decide))).symm
    have m241 := (m202).trans (fI_kept (x_lt hTH173 kH221 giq (by decide))).symm
    have m242 := (m203).trans (fI_kept (x_lt hTH173 kH221 gkq (by decide))).symm
    have m243 := (m204).trans (fI_kept (x_lt hTH173 kH221 giq (by decide))).symm
    have m244 := (m205).trans (fI_kept (x_lt hTH173 kH221 gkq (by decide))).symm
    have m245 := (m206).trans (fI_kept (x_lt hTH173 kH221 giq (by decide))).symm
    have m246 := (m207).trans (fI_kept (x_lt hTH173 kH221 gkq (by decide))).symm
    have m247 := (m208).trans (fI_kept (x_lt hTH173 kH221 giq (by decide))).symm
    have m248 := (m209).trans (fI_kept (x_lt hTH173 kH221 gkq (by decide))).symm
    have m249 := (m210).trans (fI_kept (x_lt hTH173 kH221 giq (by decide))).symm
    have m250 := (m211).trans (fR_kept (x_lt hTH173 kH221 gkq (by decide))).symm
    have m251 := (m181).trans (MF.i mf227 (k := 18) (by decide) (by decide)).symm
    have m252 := (m183).trans (MF.i mf227 (k := 1) (by decide) (by decide)).symm
    have m253 := (m185).trans (MF.i mf227 (k := 2) (by decide) (by decide)).symm
    have m254 := (m187).trans (MF.i mf227 (k := 3) (by decide) (by decide)).symm
    have m255 := (m189).trans (MF.i mf227 (k := 59) (by decide) (by decide)).symm
    have m256 := (m191).trans (MF.i mf227 (k := 62) (by decide) (by decide)).symm
    have m257 := (m193).trans (MF.i mf227 (k := 65) (by decide) (by decide)).symm
    have m258 := (m195).trans (MF.r mf227 (k := 50) (by decide) (by decide)).symm
    have m259 := (m196).trans (MF.i mf227 (k := 70) (by decide) (by decide)).symm
    have m260 := (m198).trans (MF.r mf227 (k := 73) (by decide) (by decide)).symm
    refine W.eq (g2 := F0 m 845 ls [.int x222]) rfl ?_
    have v261 : ∀ j : Nat, j < 10 → cz101 j = fI H221 (fR H221 bq j) (K.1.2 0 14) := fun j h => (v212 j h).trans (by rw [fR_kept (x_lt hTH173 kH221 gbq (by decide))]; exact (fI_kept (x_lt hTH173 kH221 (bar_g hTH173 gbq j h) (by decide))).symm)
    have v262 : ∀ j : Nat, j < 10 → rz102 j = fI H221 aq j := fun j h => (v213 j h).trans (fI_kept (x_lt hTH173 kH221 gaq (by decide))).symm
    have v263 : ∀ j : Nat, j < 10 → kz168 j = fI H221 (fR H221 kb j) (K.1.2 0 14) := fun j h => (v214 j h).trans (by rw [fR_kept (x_lt hTH173 kH221 gkb (by decide))]; exact (fI_kept (x_lt hTH173 kH221 (bar_h hTH173 gkb j h) (by decide))).symm)
    have d264 := DB.kept d215 (x_lt hTH173 kH221 gkb (by decide))
    have v265 : ∀ j : Nat, j < 10 → iz169 j = fI H221 iq (11 + 6 * j) := fun j h => (v216 j h).trans (fI_kept (x_lt hTH173 kH221 giq (by decide))).symm
    have d266 := DB.kept d217 (x_lt hTH173 kH221 gbq (by decide))
    refine lv_pop hx hb dL_law_845 rfl ?_
    refine lv_goto (tgt := 1509) hx hb dL_law_846 (by decide) ?_
    exact nx G H221 locsH221 _ _ ls ⟨hTH221, hN, ga, gb, g223, g224, g225, g226, ⟨(by rw [← m229, ← m251]; exact rt), (by rw [← m228, ← m230, ← m252]; exact r1), (by rw [← m228, ← m231, ← m253]; exact r4), (by rw [← m228, ← m232, ← m254]; exact r5), (by rw [← m228, ← m233, ← m255]; exact r10), (by rw [← m228, ← m234, ← m256]; exact r13), (by rw [← m228, ← m235, ← m257]; exact r16)⟩, Or.inr ⟨kq, m237, gkq, (by rw [← m259]; exact h70), (by rw [← m238, ← m260, ← m239]; exact q1), (by rw [← m240, ← m260, ← m241]; exact q4), (by rw [← m242, ← m260, ← m243]; exact q5), (by rw [← m244, ← m260, ← m245]; exact q10), (by rw [← m246, ← m260, ← m247]; exact q13), (by rw [← m248, ← m260, ← m249]; exact q16), (by rw [← m250]; exact d264), (by rw [← m250, ← m260, ← m238]; exact fun j h1 h2 => by rw [← v263 j h1, ← v265 j h1]; exact vk0 j h1 (by omega)), (by rw [← m260, ← m238]; exact fun j h1 h2 => by rw [← v265 j h1]; exact vk1 j h1 (by omega))⟩, (by unfold RB; rw [← m228, ← m236, ← m258, ← m252]; exact ⟨d266, fun j h1 h2 => by rw [← v261 j h1, ← v262 j h1]; exact rel j h1 (by omega), fun j h1 h2 => by rw [← v262 j h1]; exact tl j h1 (by omega)⟩), hSH221⟩ hl ⟨hc, hs, fun h => by have h1 := h.symm.trans m237; cases h1⟩
set_option maxRecDepth 100000 in
set_option maxHeartbeats 8000000 in
theorem lw_c17 {p : Program} {l : Launch} {e : Env} {s : State} {m : MethodId} {below : List Frame} {meth : Method} {c : Code} {K : KE} {b0 L : Nat} {xs : Nat → Int32} {G : Nat → Option Nat} {H : Heap} {locs : List Loc} {a b : Nat} {cells slots : Nat} {ls : Array Slot} {i : Int32} {n : Nat} (D : LC p K s m meth c b0 L xs) (S : SX K s G H locs a b) (hl : lv_has ls 4 [(3, .int i), (2, .ref b), (1, .ref a), (0, .ref b0)]) (hi : 0 ≤ i.toInt ∧ i.toInt + 6 ≤ L) (hn : n ≤ 511) (hB : BD K H a cells slots) (nx : ∀ (G : Nat → Option Nat) (H : Heap) (locs : List Loc) (cells slots : Nat) (ls : Array Slot), SX K s G H locs a b → lv_has ls 4 [(3, .int i), (2, .ref b), (1, .ref a), (0, .ref b0)] → BD K H a cells slots → W p l e room_1 s m #[Value.ref b0] below meth c H locs cells slots (lw_Z below #[Value.ref b0] s) (F0 m 1509 ls [])) : W p l e room_1 s m #[Value.ref b0] below meth c H locs cells slots (lw_Z below #[Value.ref b0] s) (F0 m 849 ls []) := by
  have hI := hi
  obtain ⟨C, hX, hbl, hL⟩ := id D
  obtain ⟨hx, hb, hml, hown, hts, hKT, hr, hlocks, hnm⟩ := id C
  obtain ⟨hT, hN, ga, gb, cg, tu, wd, im, ⟨rt, r1, r4, r5, r10, r13, r16⟩, hk, hrb, hS⟩ := S
  obtain ⟨hc, hs, hB0⟩ := hB
  have n_m1 : ((-1) : Int32).toInt = -1 := rfl
  have n_0 : (0 : Int32).toInt = 0 := rfl
  have n_1 : (1 : Int32).toInt = 1 := rfl
  have n_2 : (2 : Int32).toInt = 2 := rfl
  obtain ⟨w, ew⟩ : ∃ z : Nat, z = fR H a (K.1.2 9 0) := ⟨_, rfl⟩
  have gw := ty_fr (q := w) (k := 0) (u := 0) ew hT ga rg_68 rfl
  rw [← ew] at r1 r4 r5 r10 r13 r16
  obtain ⟨ta, eta⟩ : ∃ z : Int32, z = fI H a (K.1.2 9 3) := ⟨_, rfl⟩
  rw [← eta] at rt
  obtain ⟨tb, etb⟩ : ∃ z : Int32, z = fI H b (K.1.2 10 18) := ⟨_, rfl⟩
  rw [← etb] at rt
  obtain ⟨s1, es1⟩ : ∃ z : Int32, z = fI H w (K.1.2 8 1) := ⟨_, rfl⟩
  rw [← es1] at r1
  obtain ⟨y1, ey1⟩ : ∃ z : Int32, z = fI H b (K.1.2 10 1) := ⟨_, rfl⟩
  rw [← ey1] at r1
  obtain ⟨s4, es4⟩ : ∃ z : Int32, z = fI H w (K.1.2 8 4) := ⟨_, rfl⟩
  rw [← es4] at r4
  obtain ⟨y4, ey4⟩ : ∃ z : Int32, z = fI H b (K.1.2 10 2) := ⟨_, rfl⟩
  rw [← ey4] at r4
  obtain ⟨s5, es5⟩ : ∃ z : Int32, z = fI H w (K.1.2 8 5) := ⟨_, rfl⟩
  rw [← es5] at r5
  obtain ⟨y5, ey5⟩ : ∃ z : Int32, z = fI H b (K.1.2 10 3) := ⟨_, rfl⟩
  rw [← ey5] at r5
  obtain ⟨s10, es10⟩ : ∃ z : Int32, z = fI H w (K.1.2 8 10) := ⟨_, rfl⟩
  rw [← es10] at r10
  obtain ⟨y10, ey10⟩ : ∃ z : Int32, z = fI H b (K.1.2 10 59) := ⟨_, rfl⟩
  rw [← ey10] at r10
  obtain ⟨s13, es13⟩ : ∃ z : Int32, z = fI H w (K.1.2 8 13) := ⟨_, rfl⟩
  rw [← es13] at r13
  obtain ⟨y13, ey13⟩ : ∃ z : Int32, z = fI H b (K.1.2 10 62) := ⟨_, rfl⟩
  rw [← ey13] at r13
  obtain ⟨s16, es16⟩ : ∃ z : Int32, z = fI H w (K.1.2 8 16) := ⟨_, rfl⟩
  rw [← es16] at r16
  obtain ⟨y16, ey16⟩ : ∃ z : Int32, z = fI H b (K.1.2 10 65) := ⟨_, rfl⟩
  rw [← ey16] at r16
  obtain ⟨bq, ebq⟩ : ∃ z : Nat, z = fR H w (K.1.2 8 0) := ⟨_, rfl⟩
  have gbq := ty_fr (q := bq) (k := 0) (u := 25) ebq hT gw rg_0 rfl
  obtain ⟨aq, eaq⟩ : ∃ z : Nat, z = fR H b (K.1.2 10 50) := ⟨_, rfl⟩
  have gaq := ty_fr (q := aq) (k := 50) (u := 146) eaq hT gb rg_112 rfl
  have bs1 := ty_fi (x := s1) (k := 1) es1 hT gw rg_0 rfl
  have by1 := ty_fi (x := y1) (k := 1) ey1 hT gb rg_112 rfl
  obtain ⟨db, vr, vt⟩ := hrb
  rw [← ew, ← ebq] at db
  rw [← ew, ← ebq, ← eaq, ← ey1] at vr
  rw [← eaq, ← ey1] at vt
  obtain ⟨cz101, ecz101⟩ : ∃ f : Nat → Int32, ∀ j : Nat, j < 10 → f j = fI H (fR H bq j) (K.1.2 0 14) := ⟨_, fun _ _ => rfl⟩
  obtain ⟨rz102, erz102⟩ : ∃ f : Nat → Int32, ∀ j : Nat, j < 10 → f j = fI H aq j := ⟨_, fun _ _ => rfl⟩
  have rel : ∀ j : Nat, j < 10 → (j : Int) < y1.toInt → cz101 j = rz102 j := fun j h1 h2 => by rw [ecz101 j h1, erz102 j h1]; exact vr j h1 h2
  clear vr
  have tl : ∀ j : Nat, j < 10 → y1.toInt ≤ (j : Int) → rz102 j = 0 := fun j h1 h2 => by rw [erz102 j h1]; exact vt j h1 h2
  clear vt
  rcases hk with ⟨kn, h70⟩ | ⟨kq, kn, gkq, h70, q1, q4, q5, q10, q13, q16, dbk, vk, vkt⟩
  · skip
    obtain ⟨hi, ehi⟩ : ∃ z : Int32, z = fI H b (K.1.2 10 70) := ⟨_, rfl⟩
    rw [← ehi] at h70
    obtain ⟨hc0, hs0⟩ := hB0 kn
    obtain ⟨iq, eiq⟩ : ∃ z : Nat, z = fR H b (K.1.2 10 73) := ⟨_, rfl⟩
    have giq := ty_fr (q := iq) (k := 73) (u := 162) eiq hT gb rg_112 rfl
    refine lv_aload_n hx hb dL_law_849 rfl (lv_at hl 2 rfl) ?_
    refine lv_aload_n hx hb dL_law_850 rfl (lv_at hl 3 rfl) ?_
    refine lv_iload_n hx hb dL_law_851 rfl (lv_at hl 0 rfl) ?_
    refine lv_iconst (v := 1) hx hb dL_law_852 (by decide) ?_
    refine lv_iadd hx hb dL_law_853 ?_
    refine lv_topi (fun x103 ex103 => ?_)
    obtain ⟨tx103, ejx103, evx103⟩ := lw_ix (k := 1) ex103 hI hL rfl (by decide)
    clear tx103
    refine va_sld hx hb hX hbl (Nat.not_le.mpr hbl) hS (vp_in_iff.mpr evx103) dL_law_854 ?_
    refine W.eq (g2 := F0 m 855 ls [.int (xs (i.toNatClampNeg + 1)), .ref a]) (congrArg (fun z => F0 m 855 ls [.int (xs z), .ref a]) ejx103) ?_
    refine lv_aload_n hx hb dL_law_855 rfl (lv_at hl 3 rfl) ?_
    refine lv_iload_n hx hb dL_law_856 rfl (lv_at hl 0 rfl) ?_
    refine lv_iconst (v := 2) hx hb dL_law_857 (by decide) ?_
    refine lv_iadd hx hb dL_law_858 ?_
    refine lv_topi (fun x104 ex104 => ?_)
    obtain ⟨tx104, ejx104, evx104⟩ := lw_ix (k := 2) ex104 hI hL rfl (by decide)
    clear tx104
    refine va_sld hx hb hX hbl (Nat.not_le.mpr hbl) hS (vp_in_iff.mpr evx104) dL_law_859 ?_
    refine W.eq (g2 := F0 m 860 ls [.int (xs (i.toNatClampNeg + 2)), .int (xs (i.toNatClampNeg + 1)), .ref a]) (congrArg (fun z => F0 m 860 ls [.int (xs z), .int (xs (i.toNatClampNeg + 1)), .ref a]) ejx104) ?_
    refine x_V (As := [.int (xs (i.toNatClampNeg + 1)), .int (xs (i.toNatClampNeg + 2))]) (rest := []) C (a_X9_job_q l K G H ((xs (i.toNatClampNeg + 1))) ((xs (i.toNatClampNeg + 2))) hT ga) yo_X9_job wM_L_88 ⟨⟨by decide, by decide⟩, show _ ≤ 1200000 from Nat.le_trans hc (by decide), show _ ≤ 5502250 from Nat.le_trans hs (by decide)⟩ (x_rv C hT (ci := 9) rfl ga rg_68) rfl hl.1 rfl (Nat.le_of_ble_eq_true rfl) dL_law_860 hS (AE_new hN hS.1) (fun vH105 H105 locsH105 pH105 zH105 kH105 hSH105 => ?_)
    obtain ⟨x106, hvH105, m107, hTH105⟩ := pH105
    subst hvH105
    have g108 : CG (avw K H105 b) := CG.congr (fun k hk j => av_eff hT kH105 gb (by decide) (CG_eff [1, 2, 7, 8, 83, 84, 5] (by decide) k hk)) cg
    have g109 : TU (avw K H105 b) (svw K H105 b) := TU.congr (fun k hk j => av_eff hT kH105 gb (by decide) (TU_eff [1, 2, 7, 8, 83, 84, 5] (by decide) k hk)) (fun k hk => sv_eff hT kH105 gb (by decide)) tu
    have g110 : WD (avw K H105 b) := WD.congr (fun k hk j => av_eff hT kH105 gb (by decide) (WD_eff [1, 2, 7, 8, 83, 84, 5] (by decide) k hk)) wd
    have g111 : IM (avw K H105 b) := IM.congr (fun k hk j => av_eff hT kH105 gb (by decide) (IM_eff [1, 2, 7, 8, 83, 84, 5] (by decide) k hk)) im
    have m112 := (ew).trans (fR_kept (x_lt hT kH105 ga (by decide))).symm
    have m113 := (eta).trans (fI_kept (x_lt hT kH105 ga (by decide))).symm
    have m114 := (etb).trans (fI_kept (x_lt hT kH105 gb (by decide))).symm
    have m115 := (es1).trans (fI_kept (x_lt hT kH105 gw (by decide))).symm
    have m116 := (ey1).trans (fI_kept (x_lt hT kH105 gb (by decide))).symm
    have m117 := (es4).trans (fI_kept (x_lt hT kH105 gw (by decide))).symm
    have m118 := (ey4).trans (fI_kept (x_lt hT kH105 gb (by decide))).symm
    have m119 := (es5).trans (fI_kept (x_lt hT kH105 gw (by decide))).symm
    have m120 := (ey5).trans (fI_kept (x_lt hT kH105 gb (by decide))).symm
    have m121 := (es10).trans (fI_kept (x_lt hT kH105 gw (by decide))).symm
    have m122 := (ey10).trans (fI_kept (x_lt hT kH105 gb (by decide))).symm
    have m123 := (es13).trans (fI_kept (x_lt hT kH105 gw (by decide))).symm
    have m124 := (ey13).trans (fI_kept (x_lt hT kH105 gb (by decide))).symm
    have m125 := (es16).trans (fI_kept (x_lt hT kH105 gw (by decide))).symm
    have m126 := (ey16).trans (fI_kept (x_lt hT kH105 gb (by decide))).symm
    have m127 := (ebq).trans (fR_kept (x_lt hT kH105 gw (by decide))).symm
    have m128 := (eaq).trans (fR_kept (x_lt hT kH105 gb (by decide))).symm
    have m129 := (ehi).trans (fI_kept (x_lt hT kH105 gb (by decide))).symm
    have m130 := (fV_kept (x_lt hT kH105 ga (by decide))).trans kn
    have m131 := (eiq).trans (fR_kept (x_lt hT kH105 gb (by decide))).symm
    refine W.eq (g2 := F0 m 863 ls [.int x106]) rfl ?_
    have v132 : ∀ j : Nat, j < 10 → cz101 j = fI H105 (fR H105 bq j) (K.1.2 0 14) := fun j h => (ecz101 j h).trans (by rw [fR_kept (x_lt hT kH105 gbq (by decide))]; exact (m107 _ (bar_g hT gbq j h)).symm)
    have v133 : ∀ j : Nat, j < 10 → rz102 j = fI H105 aq j := fun j h => (erz102 j h).trans (fI_kept (x_lt hT kH105 gaq (by decide))).symm
    have d134 := DB.kept db (x_lt hT kH105 gbq (by decide))
    refine lv_pop hx hb dL_law_863 rfl ?_
    refine lv_aload_n hx hb dL_law_864 rfl (lv_at hl 1 rfl) ?_
    refine lv_aload_n hx hb dL_law_865 rfl (lv_at hl 3 rfl) ?_
    refine lv_iload_n hx hb dL_law_866 rfl (lv_at hl 0 rfl) ?_
    refine lv_iconst (v := 1) hx hb dL_law_867 (by decide) ?_
    refine lv_iadd hx hb dL_law_868 ?_
    refine lv_topi (fun x135 ex135 => ?_)
    obtain ⟨tx135, ejx135, evx135⟩ := lw_ix (k := 1) ex135 hI hL rfl (by decide)
    clear tx135
    refine va_sld hx hb hX hbl (Nat.not_le.mpr hbl) hSH105 (vp_in_iff.mpr evx135) dL_law_869 ?_
    refine W.eq (g2 := F0 m 870 ls [.int (xs (i.toNatClampNeg + 1)), .ref b]) (congrArg (fun z => F0 m 870 ls [.int (xs z), .ref b]) ejx135) ?_
    refine lv_aload_n hx hb dL_law_870 rfl (lv_at hl 3 rfl) ?_
    refine lv_iload_n hx hb dL_law_871 rfl (lv_at hl 0 rfl) ?_
    refine lv_iconst (v := 2) hx hb dL_law_872 (by decide) ?_
    refine lv_iadd hx hb dL_law_873 ?_
    refine lv_topi (fun x136 ex136 => ?_)
    obtain ⟨tx136, ejx136, evx136⟩ := lw_ix (k := 2) ex136 hI hL rfl (by decide)
    clear tx136
    refine va_sld hx hb hX hbl (Nat.not_le.mpr hbl) hSH105 (vp_in_iff.mpr evx136) dL_law_874 ?_
    refine W.eq (g2 := F0 m 875 ls [.int (xs (i.toNatClampNeg + 2)), .int (xs (i.toNatClampNeg + 1)), .ref b]) (congrArg (fun z => F0 m 875 ls [.int (xs z), .int (xs (i.toNatClampNeg + 1)), .ref b]) ejx136) ?_
    refine x_V (As := [.int (xs (i.toNatClampNeg + 1)), .int (xs (i.toNatClampNeg + 2))]) (rest := []) C (a_X10_job l K G H105 ((xs (i.toNatClampNeg + 1))) ((xs (i.toNatClampNeg + 2))) hTH105 gb g108 g109 g110 g111) yo_X10_job wM_L_91 ⟨⟨by decide, by decide⟩, show _ ≤ 1200000 from Nat.le_trans hc (by decide), show _ ≤ 5502250 from Nat.le_trans hs (by decide)⟩ (x_rv C hTH105 (ci := 10) rfl gb rg_112) rfl hl.1 rfl (Nat.le_of_ble_eq_true rfl) dL_law_875 hSH105 (AE_new hN hSH105.1) (fun vH137 H137 locsH137 pH137 zH137 kH137 hSH137 => ?_)
    obtain ⟨x138, hvH137, g139, g140, g141, g142, mf143, hTH137⟩ := pH137
    subst hvH137
    have m144 := (m112).trans (fR_kept (x_lt hTH105 kH137 ga (by decide))).symm
    have m145 := (m113).trans (fI_kept (x_lt hTH105 kH137 ga (by decide))).symm
    have m146 := (m115).trans (fI_kept (x_lt hTH105 kH137 gw (by decide))).symm
    have m147 := (m117).trans (fI_kept (x_lt hTH105 kH137 gw (by decide))).symm
    have m148 := (m119).trans (fI_kept (x_lt hTH105 kH137 gw (by decide))).symm
    have m149 := (m121).trans (fI_kept (x_lt hTH105 kH137 gw (by decide))).symm
    have m150 := (m123).trans (fI_kept (x_lt hTH105 kH137 gw (by decide))).symm
    have m151 := (m125).trans (fI_kept (x_lt hTH105 kH137 gw (by decide))).symm
    have m152 := (m127).trans (fR_kept (x_lt hTH105 kH137 gw (by decide))).symm
    have m153 := (fV_kept (x_lt hTH105 kH137 ga (by decide))).trans m130
    have m154 := (m114).trans (MF.i mf143 (k := 18) (by decide) (by decide)).symm
    have m155 := (m116).trans (MF.i mf143 (k := 1) (by decide) (by decide)).symm
    have m156 := (m118).trans (MF.i mf143 (k := 2) (by decide) (by decide)).symm
    have m157 := (m120).trans (MF.i mf143 (k := 3) (by decide) (by decide)).symm
    have m158 := (m122).trans (MF.i mf143 (k := 59) (by decide) (by decide)).symm
    have m159 := (m124).trans (MF.i mf143 (k := 62) (by decide) (by decide)).symm
    have m160 := (m126).trans (MF.i mf143 (k := 65) (by decide) (by decide)).symm
    have m161 := (m128).trans (MF.r mf143 (k := 50) (by decide) (by decide)).symm
    have m162 := (m129).trans (MF.i mf143 (k := 70) (by decide) (by decide)).symm
    have m163 := (m131).trans (MF.r mf143 (k := 73) (by decide) (by decide)).symm
    refine W.eq (g2 := F0 m 878 ls [.int x138]) rfl ?_
    have v164 : ∀ j : Nat, j < 10 → cz101 j = fI H137 (fR H137 bq j) (K.1.2 0 14) := fun j h => (v132 j h).trans (by rw [fR_kept (x_lt hTH105 kH137 gbq (by decide))]; exact (fI_kept (x_lt hTH105 kH137 (bar_g hTH105 gbq j h) (by decide))).symm)
    have v165 : ∀ j : Nat, j < 10 → rz102 j = fI H137 aq j := fun j h => (v133 j h).trans (fI_kept (x_lt hTH105 kH137 gaq (by decide))).symm
    have d166 := DB.kept d134 (x_lt hTH105 kH137 gbq (by decide))
    refine lv_pop hx hb dL_law_878 rfl ?_
    refine lv_goto (tgt := 1509) hx hb dL_law_879 (by decide) ?_
    exact nx G H137 locsH137 _ _ ls ⟨hTH137, hN, ga, gb, g139, g140, g141, g142, ⟨(by rw [← m145, ← m154]; exact rt), (by rw [← m144, ← m146, ← m155]; exact r1), (by rw [← m144, ← m147, ← m156]; exact r4), (by rw [← m144, ← m148, ← m157]; exact r5), (by rw [← m144, ← m149, ← m158]; exact r10), (by rw [← m144, ← m150, ← m159]; exact r13), (by rw [← m144, ← m151, ← m160]; exact r16)⟩, Or.inl ⟨m153, (by rw [← m162]; exact h70)⟩, (by unfold RB; rw [← m144, ← m152, ← m161, ← m155]; exact ⟨d166, fun j h1 h2 => by rw [← v164 j h1, ← v165 j h1]; exact rel j h1 (by omega), fun j h1 h2 => by rw [← v165 j h1]; exact tl j h1 (by omega)⟩), hSH137⟩ hl ⟨hc, hs, fun _ => ⟨hc0, hs0⟩⟩
  · skip
    obtain ⟨hi, ehi⟩ : ∃ z : Int32, z = fI H b (K.1.2 10 70) := ⟨_, rfl⟩
    rw [← ehi] at h70
    obtain ⟨iq, eiq⟩ : ∃ z : Nat, z = fR H b (K.1.2 10 73) := ⟨_, rfl⟩
    have giq := ty_fr (q := iq) (k := 73) (u := 162) eiq hT gb rg_112 rfl
    rw [← eiq] at q1 q4 q5 q10 q13 q16
    obtain ⟨k1, ek1⟩ : ∃ z : Int32, z = fI H kq (K.1.2 8 1) := ⟨_, rfl⟩
    rw [← ek1] at q1
    obtain ⟨i1, ei1⟩ : ∃ z : Int32, z = fI H iq ((0 : Int32).toNatClampNeg) := ⟨_, rfl⟩
    rw [← ei1] at q1
    obtain ⟨k4, ek4⟩ : ∃ z : Int32, z = fI H kq (K.1.2 8 4) := ⟨_, rfl⟩
    rw [← ek4] at q4
    obtain ⟨i4, ei4⟩ : ∃ z : Int32, z = fI H iq ((1 : Int32).toNatClampNeg) := ⟨_, rfl⟩
    rw [← ei4] at q4
    obtain ⟨k5, ek5⟩ : ∃ z : Int32, z = fI H kq (K.1.2 8 5) := ⟨_, rfl⟩
    rw [← ek5] at q5
    obtain ⟨i5, ei5⟩ : ∃ z : Int32, z = fI H iq ((2 : Int32).toNatClampNeg) := ⟨_, rfl⟩
    rw [← ei5] at q5
    obtain ⟨k10, ek10⟩ : ∃ z : Int32, z = fI H kq (K.1.2 8 10) := ⟨_, rfl⟩
    rw [← ek10] at q10
    obtain ⟨i10, ei10⟩ : ∃ z : Int32, z = fI H iq ((3 : Int32).toNatClampNeg) := ⟨_, rfl⟩
    rw [← ei10] at q10
    obtain ⟨k13, ek13⟩ : ∃ z : Int32, z = fI H kq (K.1.2 8 13) := ⟨_, rfl⟩
    rw [← ek13] at q13
    obtain ⟨i13, ei13⟩ : ∃ z : Int32, z = fI H iq ((4 : Int32).toNatClampNeg) := ⟨_, rfl⟩
    rw [← ei13] at q13
    obtain ⟨k16, ek16⟩ : ∃ z : Int32, z = fI H kq (K.1.2 8 16) := ⟨_, rfl⟩
    rw [← ek16] at q16
    obtain ⟨i16, ei16⟩ : ∃ z : Int32, z = fI H iq ((5 : Int32).toNatClampNeg) := ⟨_, rfl⟩
    rw [← ei16] at q16
    obtain ⟨kb, ekb⟩ : ∃ z : Nat, z = fR H kq (K.1.2 8 0) := ⟨_, rfl⟩
    have gkb := ty_fr (q := kb) (k := 0) (u := 59) ekb hT gkq rg_34 rfl
    have bk1 := ty_fi (x := k1) (k := 1) ek1 hT gkq rg_34 rfl
    rw [← ekb] at dbk
    rw [← ekb, ← eiq, ← ek1] at vk
    rw [← eiq, ← ek1] at vkt
    obtain ⟨kz167, ekz167⟩ : ∃ f : Nat → Int32, ∀ j : Nat, j < 10 → f j = fI H (fR H kb j) (K.1.2 0 14) := ⟨_, fun _ _ => rfl⟩
    obtain ⟨iz168, eiz168⟩ : ∃ f : Nat → Int32, ∀ j : Nat, j < 10 → f j = fI H iq (11 + 6 * j) := ⟨_, fun _ _ => rfl⟩
    have vk0 : ∀ j : Nat, j < 10 → (j : Int) < k1.toInt → kz167 j = iz168 j := fun j h1 h2 => by rw [ekz167 j h1, eiz168 j h1]; exact vk j h1 h2
    clear vk
    have vk1 : ∀ j : Nat, j < 10 → k1.toInt ≤ (j : Int) → iz168 j = 0 := fun j h1 h2 => by rw [eiz168 j h1]; exact vkt j h1 h2
    clear vkt
    refine lv_aload_n hx hb dL_law_849 rfl (lv_at hl 2 rfl) ?_
    refine lv_aload_n hx hb dL_law_850 rfl (lv_at hl 3 rfl) ?_
    refine lv_iload_n hx hb dL_law_851 rfl (lv_at hl 0 rfl) ?_
    refine lv_iconst (v := 1) hx hb dL_law_852 (by decide) ?_
    refine lv_iadd hx hb dL_law_853 ?_
    refine lv_topi (fun x169 ex169 => ?_)
    obtain ⟨tx169, ejx169, evx169⟩ := lw_ix (k := 1) ex169 hI hL rfl (by decide)
    clear tx169
    refine va_sld hx hb hX hbl (Nat.not_le.mpr hbl) hS (vp_in_iff.mpr evx169) dL_law_854 ?_
    refine W.eq (g2 := F0 m 855 ls [.int (xs (i.toNatClampNeg + 1)), .ref a]) (congrArg (fun z => F0 m 855 ls [.int (xs z), .ref a]) ejx169) ?_
    refine lv_aload_n hx hb dL_law_855 rfl (lv_at hl 3 rfl) ?_
    refine lv_iload_n hx hb dL_law_856 rfl (lv_at hl 0 rfl) ?_
    refine lv_iconst (v := 2) hx hb dL_law_857 (by decide) ?_
    refine lv_iadd hx hb dL_law_858 ?_
    refine lv_topi (fun x170 ex170 => ?_)
    obtain ⟨tx170, ejx170, evx170⟩ := lw_ix (k := 2) ex170 hI hL rfl (by decide)
    clear tx170
    refine va_sld hx hb hX hbl (Nat.not_le.mpr hbl) hS (vp_in_iff.mpr evx170) dL_law_859 ?_
    refine W.eq (g2 := F0 m 860 ls [.int (xs (i.toNatClampNeg + 2)), .int (xs (i.toNatClampNeg + 1)), .ref a]) (congrArg (fun z => F0 m 860 ls [.int (xs z), .int (xs (i.toNatClampNeg + 1)), .ref a]) ejx170) ?_
    refine x_V (As := [.int (xs (i.toNatClampNeg + 1)), .int (xs (i.toNatClampNeg + 2))]) (rest := []) C (a_X9_job_q l K G H ((xs (i.toNatClampNeg + 1))) ((xs (i.toNatClampNeg + 2))) hT ga) yo_X9_job wM_L_88 ⟨⟨by decide, by decide⟩, show _ ≤ 1200000 from Nat.le_trans hc (by decide), show _ ≤ 5502250 from Nat.le_trans hs (by decide)⟩ (x_rv C hT (ci := 9) rfl ga rg_68) rfl hl.1 rfl (Nat.le_of_ble_eq_true rfl) dL_law_860 hS (AE_new hN hS.1) (fun vH171 H171 locsH171 pH171 zH171 kH171 hSH171 => ?_)
    obtain ⟨x172, hvH171, m173, hTH171⟩ := pH171
    subst hvH171
    have g174 : CG (avw K H171 b) := CG.congr (fun k hk j => av_eff hT kH171 gb (by decide) (CG_eff [1, 2, 7, 8, 83, 84, 5] (by decide) k hk)) cg
    have g175 : TU (avw K H171 b) (svw K H171 b) := TU.congr (fun k hk j => av_eff hT kH171 gb (by decide) (TU_eff [1, 2, 7, 8, 83, 84, 5] (by decide) k hk)) (fun k hk => sv_eff hT kH171 gb (by decide)) tu
    have g176 : WD (avw K H171 b) := WD.congr (fun k hk j => av_eff hT kH171 gb (by decide) (WD_eff [1, 2, 7, 8, 83, 84, 5] (by decide) k hk)) wd
    have g177 : IM (avw K H171 b) := IM.congr (fun k hk j => av_eff hT kH171 gb (by decide) (IM_eff [1, 2, 7, 8, 83, 84, 5] (by decide) k hk)) im
    have m178 := (ew).trans (fR_kept (x_lt hT kH171 ga (by decide))).symm
    have m179 := (eta).trans (fI_kept (x_lt hT kH171 ga (by decide))).symm
    have m180 := (etb).trans (fI_kept (x_lt hT kH171 gb (by decide))).symm
    have m181 := (es1).trans (fI_kept (x_lt hT kH171 gw (by decide))).symm
    have m182 := (ey1).trans (fI_kept (x_lt hT kH171 gb (by decide))).symm
    have m183 := (es4).trans (fI_kept (x_lt hT kH171 gw (by decide))).symm
    have m184 := (ey4).trans (fI_kept (x_lt hT kH171 gb (by decide))).symm
    have m185 := (es5).trans (fI_kept (x_lt hT kH171 gw (by decide))).symm
    have m186 := (ey5).trans (fI_kept (x_lt hT kH171 gb (by decide))).symm
    have m187 := (es10).trans (fI_kept (x_lt hT kH171 gw (by decide))).symm
    have m188 := (ey10).trans (fI_kept (x_lt hT kH171 gb (by decide))).symm
    have m189 := (es13).trans (fI_kept (x_lt hT kH171 gw (by decide))).symm
    have m190 := (ey13).trans (fI_kept (x_lt hT kH171 gb (by decide))).symm
    have m191 := (es16).trans (fI_kept (x_lt hT kH171 gw (by decide))).symm
    have m192 := (ey16).trans (fI_kept (x_lt hT kH171 gb (by decide))).symm
    have m193 := (ebq).trans (fR_kept (x_lt hT kH171 gw (by decide))).symm
    have m194 := (eaq).trans (fR_kept (x_lt hT kH171 gb (by decide))).symm
    have m195 := (ehi).trans (fI_kept (x_lt hT kH171 gb (by decide))).symm
    have m196 := (fV_kept (x_lt hT kH171 ga (by decide))).trans kn
    have m197 := (eiq).trans (fR_kept (x_lt hT kH171 gb (by decide))).symm
    have m198 := (ek1).trans (fI_kept (x_lt hT kH171 gkq (by decide))).symm
    have m199 := (ei1).trans (fI_kept (x_lt hT kH171 giq (by decide))).symm
    have m200 := (ek4).trans (fI_kept (x_lt hT kH171 gkq (by decide))).symm
    have m201 := (ei4).trans (fI_kept (x_lt hT kH171 giq (by decide))).symm
    have m202 := (ek5).trans (fI_kept (x_lt hT kH171 gkq (by decide))).symm
    have m203 := (ei5).trans (fI_kept (x_lt hT kH171 giq (by decide))).symm
    have m204 := (ek10).trans (fI_kept (x_lt hT kH171 gkq (by decide))).symm
    have m205 := (ei10).trans (fI_kept (x_lt hT kH171 giq (by decide))).symm
    have m206 := (ek13).trans (fI_kept (x_lt hT kH171 gkq (by decide))).symm
    have m207 := (ei13).trans (fI_kept (x_lt hT kH171 giq (by decide))).symm
    have m208 := (ek16).trans (fI_kept (x_lt hT kH171 gkq (by decide))).symm
    have m209 := (ei16).trans (fI_kept (x_lt hT kH171 giq (by decide))).symm
    have m210 := (ekb).trans (fR_kept (x_lt hT kH171 gkq (by decide))).symm
    refine W.eq (g2 := F0 m 863 ls [.int x172]) rfl ?_
    have v211 : ∀ j : Nat, j < 10 → cz101 j = fI H171 (fR H171 bq j) (K.1.2 0 14) := fun j h => (ecz101 j h).trans (by rw [fR_kept (x_lt hT kH171 gbq (by decide))]; exact (m173 _ (bar_g hT gbq j h)).symm)
    have v212 : ∀ j : Nat, j < 10 → rz102 j = fI H171 aq j := fun j h => (erz102 j h).trans (fI_kept (x_lt hT kH171 gaq (by decide))).symm
    have v213 : ∀ j : Nat, j < 10 → kz167 j = fI H171 (fR H171 kb j) (K.1.2 0 14) := fun j h => (ekz167 j h).trans (by rw [fR_kept (x_lt hT kH171 gkb (by decide))]; exact (fI_kept (x_lt hT kH171 (bar_h hT gkb j h) (by decide))).symm)
    have d214 := DB.kept dbk (x_lt hT kH171 gkb (by decide))
    have v215 : ∀ j : Nat, j < 10 → iz168 j = fI H171 iq (11 + 6 * j) := fun j h => (eiz168 j h).trans (fI_kept (x_lt hT kH171 giq (by decide))).symm
    have d216 := DB.kept db (x_lt hT kH171 gbq (by decide))
    refine lv_pop hx hb dL_law_863 rfl ?_
    refine lv_aload_n hx hb dL_law_864 rfl (lv_at hl 1 rfl) ?_
    refine lv_aload_n hx hb dL_law_865 rfl (lv_at hl 3 rfl) ?_
    refine lv_iload_n hx hb dL_law_866 rfl (lv_at hl 0 rfl) ?_
    refine lv_iconst (v := 1) hx hb dL_law_867 (by decide) ?_
    refine lv_iadd hx hb dL_law_868 ?_
    refine lv_topi (fun x217 ex217 => ?_)
    obtain ⟨tx217, ejx217, evx217⟩ := lw_ix (k := 1) ex217 hI hL rfl (by decide)
    clear tx217
    refine va_sld hx hb hX hbl (Nat.not_le.mpr hbl) hSH171 (vp_in_iff.mpr evx217) dL_law_869 ?_
    refine W.eq (g2 := F0 m 870 ls [.int (xs (i.toNatClampNeg + 1)), .ref b]) (congrArg (fun z => F0 m 870 ls [.int (xs z), .ref b]) ejx217) ?_
    refine lv_aload_n hx hb dL_law_870 rfl (lv_at hl 3 rfl) ?_
    refine lv_iload_n hx hb dL_law_871 rfl (lv_at hl 0 rfl) ?_
    refine lv_iconst (v := 2) hx hb dL_law_872 (by decide) ?_
    refine lv_iadd hx hb dL_law_873 ?_
    refine lv_topi (fun x218 ex218 => ?_)
    obtain ⟨tx218, ejx218, evx218⟩ := lw_ix (k := 2) ex218 hI hL rfl (by decide)
    clear tx218
    refine va_sld hx hb hX hbl (Nat.not_le.mpr hbl) hSH171 (vp_in_iff.mpr evx218) dL_law_874 ?_
    refine W.eq (g2 := F0 m 875 ls [.int (xs (i.toNatClampNeg + 2)), .int (xs (i.toNatClampNeg + 1)), .ref b]) (congrArg (fun z => F0 m 875 ls [.int (xs z), .int (xs (i.toNatClampNeg + 1)), .ref b]) ejx218) ?_
    refine x_V (As := [.int (xs (i.toNatClampNeg + 1)), .int (xs (i.toNatClampNeg + 2))]) (rest := []) C (a_X10_job l K G H171 ((xs (i.toNatClampNeg + 1))) ((xs (i.toNatClampNeg + 2))) hTH171 gb g174 g175 g176 g177) yo_X10_job wM_L_91 ⟨⟨by decide, by decide⟩, show _ ≤ 1200000 from Nat.le_trans hc (by decide), show _ ≤ 5502250 from Nat.le_trans hs (by decide)⟩ (x_rv C hTH171 (ci := 10) rfl gb rg_112) rfl hl.1 rfl (Nat.le_of_ble_eq_true rfl) dL_law_875 hSH171 (AE_new hN hSH171.1) (fun vH219 H219 locsH219 pH219 zH219 kH219 hSH219 => ?_)
    obtain ⟨x220, hvH219, g221, g222, g223, g224, mf225, hTH219⟩ := pH219
    subst hvH219
    have m226 := (m178).trans (fR_kept (x_lt hTH171 kH219 ga (by decide))).symm
    have m227 := (m179).trans (fI_kept (x_lt hTH171 kH219 ga (by decide))).symm
    have m228 := (m181).trans (fI_kept (x_lt hTH171 kH219 gw (by decide))).symm
    have m229 := (m183).trans (fI_kept (x_lt hTH171 kH219 gw (by decide))).symm
    have m230 := (m185).trans (fI_kept (x_lt hTH171 kH219 gw (by decide))).symm
    have m231 := (m187).trans (fI_kept (x_lt hTH171 kH219 gw (by decide))).symm
    have m232 := (m189).trans (fI_kept (x_lt hTH171 kH219 gw (by decide))).symm
    have m233 := (m191).trans (fI_kept (x_lt hTH171 kH219 gw (by decide))).symm
    have m234 := (m193).trans (fR_kept (x_lt hTH171 kH219 gw (by decide))).symm
    have m235 := (fV_kept (x_lt hTH171 kH219 ga (by decide))).trans m196
    have m236 := (m198).trans (fI_kept (x_lt hTH171 kH219 gkq (by decide))).symm
    have m237 := (m199).trans (fI_kept (x_lt hTH171 kH219 giq (by decide))).symm
    have m238 := (m200).trans (fI_kept (x_lt hTH171 kH219 gkq (by decide))).symm
    have m239 := (m201).trans (fI_kept (x_lt hTH171 kH219 giq (by decide))).symm
    have m240 := (m202).trans (fI_kept (x_lt hTH171 kH219 gkq (by decide))).symm
    have m241 := (m203).trans (fI_kept (x_lt hTH171 kH219 giq (by decide))).symm
    have m242 := (m204).trans (fI_kept (x_lt hTH171 kH219 gkq (by decide))).symm
    have m243 := (m205).trans (fI_kept (x_lt hTH171 kH219 giq (by decide))).symm
    have m244 := (m206).trans (fI_kept (x_lt hTH171 kH219 gkq (by decide))).symm
    have m245 := (m207).trans (fI_kept (x_lt hTH171 kH219 giq (by decide))).symm
    have m246 := (m208).trans (fI_kept (x_lt hTH171 kH219 gkq (by decide))).symm
    have m247 := (m209).trans (fI_kept (x_lt hTH171 kH219 giq (by decide))).symm
    have m248 := (m210).trans (fR_kept (x_lt hTH171 kH219 gkq (by decide))).symm
    have m249 := (m180).trans (MF.i mf225 (k := 18) (by decide) (by decide)).symm
    have m250 := (m182).trans (MF.i mf225 (k := 1) (by decide) (by decide)).symm
    have m251 := (m184).trans (MF.i mf225 (k := 2) (by decide) (by decide)).symm
    have m252 := (m186).trans (MF.i mf225 (k := 3) (by decide) (by decide)).symm
    have m253 := (m188).trans (MF.i mf225 (k := 59) (by decide) (by decide)).symm
    have m254 := (m190).trans (MF.i mf225 (k := 62) (by decide) (by decide)).symm
    have m255 := (m192).trans (MF.i mf225 (k := 65) (by decide) (by decide)).symm
    have m256 := (m194).trans (MF.r mf225 (k := 50) (by decide) (by decide)).symm
    have m257 := (m195).trans (MF.i mf225 (k := 70) (by decide) (by decide)).symm
    have m258 := (m197).trans (MF.r mf225 (k := 73) (by decide) (by decide)).symm
    refine W.eq (g2 := F0 m 878 ls [.int x220]) rfl ?_
    have v259 : ∀ j : Nat, j < 10 → cz101 j = fI H219 (fR H219 bq j) (K.1.2 0 14) := fun j h => (v211 j h).trans (by rw [fR_kept (x_lt hTH171 kH219 gbq (by decide))]; exact (fI_kept (x_lt hTH171 kH219 (bar_g hTH171 gbq j h) (by decide))).symm)
    have v260 : ∀ j : Nat, j < 10 → rz102 j = fI H219 aq j := fun j h => (v212 j h).trans (fI_kept (x_lt hTH171 kH219 gaq (by decide))).symm
    have v261 : ∀ j : Nat, j < 10 → kz167 j = fI H219 (fR H219 kb j) (K.1.2 0 14) := fun j h => (v213 j h).trans (by rw [fR_kept (x_lt hTH171 kH219 gkb (by decide))]; exact (fI_kept (x_lt hTH171 kH219 (bar_h hTH171 gkb j h) (by decide))).symm)
    have d262 := DB.kept d214 (x_lt hTH171 kH219 gkb (by decide))
    have v263 : ∀ j : Nat, j < 10 → iz168 j = fI H219 iq (11 + 6 * j) := fun j h => (v215 j h).trans (fI_kept (x_lt hTH171 kH219 giq (by decide))).symm
    have d264 := DB.kept d216 (x_lt hTH171 kH219 gbq (by decide))
    refine lv_pop hx hb dL_law_878 rfl ?_
    refine lv_goto (tgt := 1509) hx hb dL_law_879 (by decide) ?_
    exact nx G H219 locsH219 _ _ ls ⟨hTH219, hN, ga, gb, g221, g222, g223, g224, ⟨(by rw [← m227, ← m249]; exact rt), (by rw [← m226, ← m228, ← m250]; exact r1), (by rw [← m226, ← m229, ← m251]; exact r4), (by rw [← m226, ← m230, ← m252]; exact r5), (by rw [← m226, ← m231, ← m253]; exact r10), (by rw [← m226, ← m232, ← m254]; exact r13), (by rw [← m226, ← m233, ← m255]; exact r16)⟩, Or.inr ⟨kq, m235, gkq, (by rw [← m257]; exact h70), (by rw [← m236, ← m258, ← m237]; exact q1), (by rw [← m238, ← m258, ← m239]; exact q4), (by rw [← m240, ← m258, ← m241]; exact q5), (by rw [← m242, ← m258, ← m243]; exact q10), (by rw [← m244, ← m258, ← m245]; exact q13), (by rw [← m246, ← m258, ← m247]; exact q16), (by rw [← m248]; exact d262), (by rw [← m248, ← m258, ← m236]; exact fun j h1 h2 => by rw [← v261 j h1, ← v263 j h1]; exact vk0 j h1 (by omega)), (by rw [← m258, ← m236]; exact fun j h1 h2 => by rw [← v263 j h1]; exact vk1 j h1 (by omega))⟩, (by unfold RB; rw [← m226, ← m234, ← m256, ← m250]; exact ⟨d264, fun j h1 h2 => by rw [← v259 j h1, ← v260 j h1]; exact rel j h1 (by omega), fun j h1 h2 => by rw [← v260 j h1]; exact tl j h1 (by omega)⟩), hSH219⟩ hl ⟨hc, hs, fun h => by have h1 := h.symm.trans m235; cases h1⟩
set_option maxRecDepth 100000 in
set_option maxHeartbeats 8000000 in
theorem lw_c18 {p : Program} {l : Launch} {e : Env} {s : State} {m : MethodId} {below : List Frame} {meth : Method} {c : Code} {K : KE} {b0 L : Nat} {xs : Nat → Int32} {G : Nat → Option Nat} {H : Heap} {locs : List Loc} {a b : Nat} {cells slots : Nat} {ls : Array Slot} {i : Int32} {n : Nat} (D : LC p K s m meth c b0 L xs) (S : SX K s G H locs a b) (hl : lv_has ls 4 [(3, .int i), (2, .ref b), (1, .ref a), (0, .ref b0)]) (hi : 0 ≤ i.toInt ∧ i.toInt + 6 ≤ L) (hn : n ≤ 511) (hB : BD K H a cells slots) (nx : ∀ (G : Nat → Option Nat) (H : Heap) (locs : List Loc) (cells slots : Nat) (ls : Array Slot), SX K s G H locs a b → lv_has ls 4 [(3, .int i), (2, .ref b), (1, .ref a), (0, .ref b0)] → BD K H a cells slots → W p l e room_1 s m #[Value.ref b0] below meth c H locs cells slots (lw_Z below #[Value.ref b0] s) (F0 m 1509 ls [])) : W p l e room_1 s m #[Value.ref b0] below meth c H locs cells slots (lw_Z below #[Value.ref b0] s) (F0 m 882 ls []) := by
  have hI := hi
  obtain ⟨C, hX, hbl, hL⟩ := id D
  obtain ⟨hx, hb, hml, hown, hts, hKT, hr, hlocks, hnm⟩ := id C
  obtain ⟨hT, hN, ga, gb, cg, tu, wd, im, ⟨rt, r1, r4, r5, r10, r13, r16⟩, hk, hrb, hS⟩ := S
  obtain ⟨hc, hs, hB0⟩ := hB
  have n_m1 : ((-1) : Int32).toInt = -1 := rfl
  have n_0 : (0 : Int32).toInt = 0 := rfl
  have n_1 : (1 : Int32).toInt = 1 := rfl
  have n_2 : (2 : Int32).toInt = 2 := rfl
  obtain ⟨w, ew⟩ : ∃ z : Nat, z = fR H a (K.1.2 9 0) := ⟨_, rfl⟩
  have gw := ty_fr (q := w) (k := 0) (u := 0) ew hT ga rg_68 rfl
  rw [← ew] at r1 r4 r5 r10 r13 r16
  obtain ⟨ta, eta⟩ : ∃ z : Int32, z = fI H a (K.1.2 9 3) := ⟨_, rfl⟩
  rw [← eta] at rt
  obtain ⟨tb, etb⟩ : ∃ z : Int32, z = fI H b (K.1.2 10 18) := ⟨_, rfl⟩
  rw [← etb] at rt
  obtain ⟨s1, es1⟩ : ∃ z : Int32, z = fI H w (K.1.2 8 1) := ⟨_, rfl⟩
  rw [← es1] at r1
  obtain ⟨y1, ey1⟩ : ∃ z : Int32, z = fI H b (K.1.2 10 1) := ⟨_, rfl⟩
  rw [← ey1] at r1
  obtain ⟨s4, es4⟩ : ∃ z : Int32, z = fI H w (K.1.2 8 4) := ⟨_, rfl⟩
  rw [← es4] at r4
  obtain ⟨y4, ey4⟩ : ∃ z : Int32, z = fI H b (K.1.2 10 2) := ⟨_, rfl⟩
  rw [← ey4] at r4
  obtain ⟨s5, es5⟩ : ∃ z : Int32, z = fI H w (K.1.2 8 5) := ⟨_, rfl⟩
  rw [← es5] at r5
  obtain ⟨y5, ey5⟩ : ∃ z : Int32, z = fI H b (K.1.2 10 3) := ⟨_, rfl⟩
  rw [← ey5] at r5
  obtain ⟨s10, es10⟩ : ∃ z : Int32, z = fI H w (K.1.2 8 10) := ⟨_, rfl⟩
  rw [← es10] at r10
  obtain ⟨y10, ey10⟩ : ∃ z : Int32, z = fI H b (K.1.2 10 59) := ⟨_, rfl⟩
  rw [← ey10] at r10
  obtain ⟨s13, es13⟩ : ∃ z : Int32, z = fI H w (K.1.2 8 13) := ⟨_, rfl⟩
  rw [← es13] at r13
  obtain ⟨y13, ey13⟩ : ∃ z : Int32, z = fI H b (K.1.2 10 62) := ⟨_, rfl⟩
  rw [← ey13] at r13
  obtain ⟨s16, es16⟩ : ∃ z : Int32, z = fI H w (K.1.2 8 16) := ⟨_, rfl⟩
  rw [← es16] at r16
  obtain ⟨y16, ey16⟩ : ∃ z : Int32, z = fI H b (K.1.2 10 65) := ⟨_, rfl⟩
  rw [← ey16] at r16
  obtain ⟨bq, ebq⟩ : ∃ z : Nat, z = fR H w (K.1.2 8 0) := ⟨_, rfl⟩
  have gbq := ty_fr (q := bq) (k := 0) (u := 25) ebq hT gw rg_0 rfl
  obtain ⟨aq, eaq⟩ : ∃ z : Nat, z = fR H b (K.1.2 10 50) := ⟨_, rfl⟩
  have gaq := ty_fr (q := aq) (k := 50) (u := 146) eaq hT gb rg_112 rfl
  have bs1 := ty_fi (x := s1) (k := 1) es1 hT gw rg_0 rfl
  have by1 := ty_fi (x := y1) (k := 1) ey1 hT gb rg_112 rfl
  obtain ⟨db, vr, vt⟩ := hrb
  rw [← ew, ← ebq] at db
  rw [← ew, ← ebq, ← eaq, ← ey1] at vr
  rw [← eaq, ← ey1] at vt
  obtain ⟨cz101, ecz101⟩ : ∃ f : Nat → Int32, ∀ j : Nat, j < 10 → f j = fI H (fR H bq j) (K.1.2 0 14) := ⟨_, fun _ _ => rfl⟩
  obtain ⟨rz102, erz102⟩ : ∃ f : Nat → Int32, ∀ j : Nat, j < 10 → f j = fI H aq j := ⟨_, fun _ _ => rfl⟩
  have rel : ∀ j : Nat, j < 10 → (j : Int) < y1.toInt → cz101 j = rz102 j := fun j h1 h2 => by rw [ecz101 j h1, erz102 j h1]; exact vr j h1 h2
  clear vr
  have tl : ∀ j : Nat, j < 10 → y1.toInt ≤ (j : Int) → rz102 j = 0 := fun j h1 h2 => by rw [erz102 j h1]; exact vt j h1 h2
  clear vt
  rcases hk with ⟨kn, h70⟩ | ⟨kq, kn, gkq, h70, q1, q4, q5, q10, q13, q16, dbk, vk, vkt⟩
  · skip
    obtain ⟨hi, ehi⟩ : ∃ z : Int32, z = fI H b (K.1.2 10 70) := ⟨_, rfl⟩
    rw [← ehi] at h70
    obtain ⟨hc0, hs0⟩ := hB0 kn
    obtain ⟨iq, eiq⟩ : ∃ z : Nat, z = fR H b (K.1.2 10 73) := ⟨_, rfl⟩
    have giq := ty_fr (q := iq) (k := 73) (u := 162) eiq hT gb rg_112 rfl
    refine lv_aload_n hx hb dL_law_882 rfl (lv_at hl 2 rfl) ?_
    refine lv_aload_n hx hb dL_law_883 rfl (lv_at hl 3 rfl) ?_
    refine lv_iload_n hx hb dL_law_884 rfl (lv_at hl 0 rfl) ?_
    refine lv_iconst (v := 1) hx hb dL_law_885 (by decide) ?_
    refine lv_iadd hx hb dL_law_886 ?_
    refine lv_topi (fun x103 ex103 => ?_)
    obtain ⟨tx103, ejx103, evx103⟩ := lw_ix (k := 1) ex103 hI hL rfl (by decide)
    clear tx103
    refine va_sld hx hb hX hbl (Nat.not_le.mpr hbl) hS (vp_in_iff.mpr evx103) dL_law_887 ?_
    refine W.eq (g2 := F0 m 888 ls [.int (xs (i.toNatClampNeg + 1)), .ref a]) (congrArg (fun z => F0 m 888 ls [.int (xs z), .ref a]) ejx103) ?_
    refine lv_aload_n hx hb dL_law_888 rfl (lv_at hl 3 rfl) ?_
    refine lv_iload_n hx hb dL_law_889 rfl (lv_at hl 0 rfl) ?_
    refine lv_iconst (v := 2) hx hb dL_law_890 (by decide) ?_
    refine lv_iadd hx hb dL_law_891 ?_
    refine lv_topi (fun x104 ex104 => ?_)
    obtain ⟨tx104, ejx104, evx104⟩ := lw_ix (k := 2) ex104 hI hL rfl (by decide)
    clear tx104
    refine va_sld hx hb hX hbl (Nat.not_le.mpr hbl) hS (vp_in_iff.mpr evx104) dL_law_892 ?_
    refine W.eq (g2 := F0 m 893 ls [.int (xs (i.toNatClampNeg + 2)), .int (xs (i.toNatClampNeg + 1)), .ref a]) (congrArg (fun z => F0 m 893 ls [.int (xs z), .int (xs (i.toNatClampNeg + 1)), .ref a]) ejx104) ?_
    refine x_V (As := [.int (xs (i.toNatClampNeg + 1)), .int (xs (i.toNatClampNeg + 2))]) (rest := []) C (a_X9_fewest l K G H ((xs (i.toNatClampNeg + 1))) ((xs (i.toNatClampNeg + 2))) hT ga) yo_X9_fewest wM_L_92 ⟨⟨by decide, by decide⟩, show _ ≤ 1200000 from Nat.le_trans hc (by decide), show _ ≤ 5502250 from Nat.le_trans hs (by decide)⟩ (x_rv C hT (ci := 9) rfl ga rg_68) rfl hl.1 rfl (Nat.le_of_ble_eq_true rfl) dL_law_893 hS (AE_new hN hS.1) (fun vH105 H105 locsH105 pH105 zH105 kH105 hSH105 => ?_)
    obtain ⟨x106, hvH105, hTH105⟩ := pH105
    subst hvH105
    have g107 : CG (avw K H105 b) := CG.congr (fun k hk j => av_eff hT kH105 gb (by decide) (CG_eff [89, 91, 92, 93, 94, 95, 96, 97, 90, 85, 86, 83, 84] (by decide) k hk)) cg
    have g108 : TU (avw K H105 b) (svw K H105 b) := TU.congr (fun k hk j => av_eff hT kH105 gb (by decide) (TU_eff [89, 91, 92, 93, 94, 95, 96, 97, 90, 85, 86, 83, 84] (by decide) k hk)) (fun k hk => sv_eff hT kH105 gb (by decide)) tu
    have g109 : WD (avw K H105 b) := WD.congr (fun k hk j => av_eff hT kH105 gb (by decide) (WD_eff [89, 91, 92, 93, 94, 95, 96, 97, 90, 85, 86, 83, 84] (by decide) k hk)) wd
    have g110 : IM (avw K H105 b) := IM.congr (fun k hk j => av_eff hT kH105 gb (by decide) (IM_eff [89, 91, 92, 93, 94, 95, 96, 97, 90, 85, 86, 83, 84] (by decide) k hk)) im
    have m111 := (ew).trans (fR_kept (x_lt hT kH105 ga (by decide))).symm
    have m112 := (eta).trans (fI_kept (x_lt hT kH105 ga (by decide))).symm
    have m113 := (etb).trans (fI_kept (x_lt hT kH105 gb (by decide))).symm
    have m114 := (es1).trans (fI_kept (x_lt hT kH105 gw (by decide))).symm
    have m115 := (ey1).trans (fI_kept (x_lt hT kH105 gb (by decide))).symm
    have m116 := (es4).trans (fI_kept (x_lt hT kH105 gw (by decide))).symm
    have m117 := (ey4).trans (fI_kept (x_lt hT kH105 gb (by decide))).symm
    have m118 := (es5).trans (fI_kept (x_lt hT kH105 gw (by decide))).symm
    have m119 := (ey5).trans (fI_kept (x_lt hT kH105 gb (by decide))).symm
    have m120 := (es10).trans (fI_kept (x_lt hT kH105 gw (by decide))).symm
    have m121 := (ey10).trans (fI_kept (x_lt hT kH105 gb (by decide))).symm
    have m122 := (es13).trans (fI_kept (x_lt hT kH105 gw (by decide))).symm
    have m123 := (ey13).trans (fI_kept (x_lt hT kH105 gb (by decide))).symm
    have m124 := (es16).trans (fI_kept (x_lt hT kH105 gw (by decide))).symm
    have m125 := (ey16).trans (fI_kept (x_lt hT kH105 gb (by decide))).symm
    have m126 := (ebq).trans (fR_kept (x_lt hT kH105 gw (by decide))).symm
    have m127 := (eaq).trans (fR_kept (x_lt hT kH105 gb (by decide))).symm
    have m128 := (ehi).trans (fI_kept (x_lt hT kH105 gb (by decide))).symm
    have m129 := (fV_kept (x_lt hT kH105 ga (by decide))).trans kn
    have m130 := (eiq).trans (fR_kept (x_lt hT kH105 gb (by decide))).symm
    refine W.eq (g2 := F0 m 896 ls [.int x106]) rfl ?_
    have v131 : ∀ j : Nat, j < 10 → cz101 j = fI H105 (fR H105 bq j) (K.1.2 0 14) := fun j h => (ecz101 j h).trans (by rw [fR_kept (x_lt hT kH105 gbq (by decide))]; exact (fI_kept (x_lt hT kH105 (bar_g hT gbq j h) (by decide))).symm)
    have v132 : ∀ j : Nat, j < 10 → rz102 j = fI H105 aq j := fun j h => (erz102 j h).trans (fI_kept (x_lt hT kH105 gaq (by decide))).symm
    have d133 := DB.kept db (x_lt hT kH105 gbq (by decide))
    refine lv_pop hx hb dL_law_896 rfl ?_
    refine lv_aload_n hx hb dL_law_897 rfl (lv_at hl 1 rfl) ?_
    refine lv_aload_n hx hb dL_law_898 rfl (lv_at hl 3 rfl) ?_
    refine lv_iload_n hx hb dL_law_899 rfl (lv_at hl 0 rfl) ?_
    refine lv_iconst (v := 1) hx hb dL_law_900 (by decide) ?_
    refine lv_iadd hx hb dL_law_901 ?_
    refine lv_topi (fun x134 ex134 => ?_)
    obtain ⟨tx134, ejx134, evx134⟩ := lw_ix (k := 1) ex134 hI hL rfl (by decide)
    clear tx134
    refine va_sld hx hb hX hbl (Nat.not_le.mpr hbl) hSH105 (vp_in_iff.mpr evx134) dL_law_902 ?_
    refine W.eq (g2 := F0 m 903 ls [.int (xs (i.toNatClampNeg + 1)), .ref b]) (congrArg (fun z => F0 m 903 ls [.int (xs z), .ref b]) ejx134) ?_
    refine lv_aload_n hx hb dL_law_903 rfl (lv_at hl 3 rfl) ?_
    refine lv_iload_n hx hb dL_law_904 rfl (lv_at hl 0 rfl) ?_
    refine lv_iconst (v := 2) hx hb dL_law_905 (by decide) ?_
    refine lv_iadd hx hb dL_law_906 ?_
    refine lv_topi (fun x135 ex135 => ?_)
    obtain ⟨tx135, ejx135, evx135⟩ := lw_ix (k := 2) ex135 hI hL rfl (by decide)
    clear tx135
    refine va_sld hx hb hX hbl (Nat.not_le.mpr hbl) hSH105 (vp_in_iff.mpr evx135) dL_law_907 ?_
    refine W.eq (g2 := F0 m 908 ls [.int (xs (i.toNatClampNeg + 2)), .int (xs (i.toNatClampNeg + 1)), .ref b]) (congrArg (fun z => F0 m 908 ls [.int (xs z), .int (xs (i.toNatClampNeg + 1)), .ref b]) ejx135) ?_
    refine x_V (As := [.int (xs (i.toNatClampNeg + 1)), .int (xs (i.toNatClampNeg + 2))]) (rest := []) C (a_X10_fewest l K G H105 ((xs (i.toNatClampNeg + 1))) ((xs (i.toNatClampNeg + 2))) hTH105 gb g107 g108 g109 g110) yo_X10_fewest wM_L_95 ⟨⟨by decide, by decide⟩, show _ ≤ 1200000 from Nat.le_trans hc (by decide), show _ ≤ 5502250 from Nat.le_trans hs (by decide)⟩ (x_rv C hTH105 (ci := 10) rfl gb rg_112) rfl hl.1 rfl (Nat.le_of_ble_eq_true rfl) dL_law_908 hSH105 (AE_new hN hSH105.1) (fun vH136 H136 locsH136 pH136 zH136 kH136 hSH136 => ?_)
    obtain ⟨x137, hvH136, g138, g139, g140, g141, mf142, hTH136⟩ := pH136
    subst hvH136
    have m143 := (m111).trans (fR_kept (x_lt hTH105 kH136 ga (by decide))).symm
    have m144 := (m112).trans (fI_kept (x_lt hTH105 kH136 ga (by decide))).symm
    have m145 := (m114).trans (fI_kept (x_lt hTH105 kH136 gw (by decide))).symm
    have m146 := (m116).trans (fI_kept (x_lt hTH105 kH136 gw (by decide))).symm
    have m147 := (m118).trans (fI_kept (x_lt hTH105 kH136 gw (by decide))).symm
    have m148 := (m120).trans (fI_kept (x_lt hTH105 kH136 gw (by decide))).symm
    have m149 := (m122).trans (fI_kept (x_lt hTH105 kH136 gw (by decide))).symm
    have m150 := (m124).trans (fI_kept (x_lt hTH105 kH136 gw (by decide))).symm
    have m151 := (m126).trans (fR_kept (x_lt hTH105 kH136 gw (by decide))).symm
    have m152 := (fV_kept (x_lt hTH105 kH136 ga (by decide))).trans m129
    have m153 := (m113).trans (MF.i mf142 (k := 18) (by decide) (by decide)).symm
    have m154 := (m115).trans (MF.i mf142 (k := 1) (by decide) (by decide)).symm
    have m155 := (m117).trans (MF.i mf142 (k := 2) (by decide) (by decide)).symm
    have m156 := (m119).trans (MF.i mf142 (k := 3) (by decide) (by decide)).symm
    have m157 := (m121).trans (MF.i mf142 (k := 59) (by decide) (by decide)).symm
    have m158 := (m123).trans (MF.i mf142 (k := 62) (by decide) (by decide)).symm
    have m159 := (m125).trans (MF.i mf142 (k := 65) (by decide) (by decide)).symm
    have m160 := (m127).trans (MF.r mf142 (k := 50) (by decide) (by decide)).symm
    have m161 := (m128).trans (MF.i mf142 (k := 70) (by decide) (by decide)).symm
    have m162 := (m130).trans (MF.r mf142 (k := 73) (by decide) (by decide)).symm
    refine W.eq (g2 := F0 m 911 ls [.int x137]) rfl ?_
    have v163 : ∀ j : Nat, j < 10 → cz101 j = fI H136 (fR H136 bq j) (K.1.2 0 14) := fun j h => (v131 j h).trans (by rw [fR_kept (x_lt hTH105 kH136 gbq (by decide))]; exact (fI_kept (x_lt hTH105 kH136 (bar_g hTH105 gbq j h) (by decide))).symm)
    have v164 : ∀ j : Nat, j < 10 → rz102 j = fI H136 aq j := fun j h => (v132 j h).trans (fI_kept (x_lt hTH105 kH136 gaq (by decide))).symm
    have d165 := DB.kept d133 (x_lt hTH105 kH136 gbq (by decide))
    refine lv_pop hx hb dL_law_911 rfl ?_
    refine lv_goto (tgt := 1509) hx hb dL_law_912 (by decide) ?_
    exact nx G H136 locsH136 _ _ ls ⟨hTH136, hN, ga, gb, g138, g139, g140, g141, ⟨(by rw [← m144, ← m153]; exact rt), (by rw [← m143, ← m145, ← m154]; exact r1), (by rw [← m143, ← m146, ← m155]; exact r4), (by rw [← m143, ← m147, ← m156]; exact r5), (by rw [← m143, ← m148, ← m157]; exact r10), (by rw [← m143, ← m149, ← m158]; exact r13), (by rw [← m143, ← m150, ← m159]; exact r16)⟩, Or.inl ⟨m152, (by rw [← m161]; exact h70)⟩, (by unfold RB; rw [← m143, ← m151, ← m160, ← m154]; exact ⟨d165, fun j h1 h2 => by rw [← v163 j h1, ← v164 j h1]; exact rel j h1 (by omega), fun j h1 h2 => by rw [← v164 j h1]; exact tl j h1 (by omega)⟩), hSH136⟩ hl ⟨hc, hs, fun _ => ⟨hc0, hs0⟩⟩
  · skip
    obtain ⟨hi, ehi⟩ : ∃ z : Int32, z = fI H b (K.1.2 10 70) := ⟨_, rfl⟩
    rw [← ehi] at h70
    obtain ⟨iq, eiq⟩ : ∃ z : Nat, z = fR H b (K.1.2 10 73) := ⟨_, rfl⟩
    have giq := ty_fr (q := iq) (k := 73) (u := 162) eiq hT gb rg_112 rfl
    rw [← eiq] at q1 q4 q5 q10 q13 q16
    obtain ⟨k1, ek1⟩ : ∃ z : Int32, z = fI H kq (K.1.2 8 1) := ⟨_, rfl⟩
    rw [← ek1] at q1
    obtain ⟨i1, ei1⟩ : ∃ z : Int32, z = fI H iq ((0 : Int32).toNatClampNeg) := ⟨_, rfl⟩
    rw [← ei1] at q1
    obtain ⟨k4, ek4⟩ : ∃ z : Int32, z = fI H kq (K.1.2 8 4) := ⟨_, rfl⟩
    rw [← ek4] at q4
    obtain ⟨i4, ei4⟩ : ∃ z : Int32, z = fI H iq ((1 : Int32).toNatClampNeg) := ⟨_, rfl⟩
    rw [← ei4] at q4
    obtain ⟨k5, ek5⟩ : ∃ z : Int32, z = fI H kq (K.1.2 8 5) := ⟨_, rfl⟩
    rw [← ek5] at q5
    obtain ⟨i5, ei5⟩ : ∃ z : Int32, z = fI H iq ((2 : Int32).toNatClampNeg) := ⟨_, rfl⟩
    rw [← ei5] at q5
    obtain ⟨k10, ek10⟩ : ∃ z : Int32, z = fI H kq (K.1.2 8 10) := ⟨_, rfl⟩
    rw [← ek10] at q10
    obtain ⟨i10, ei10⟩ : ∃ z : Int32, z = fI H iq ((3 : Int32).toNatClampNeg) := ⟨_, rfl⟩
    rw [← ei10] at q10
    obtain ⟨k13, ek13⟩ : ∃ z : Int32, z = fI H kq (K.1.2 8 13) := ⟨_, rfl⟩
    rw [← ek13] at q13
    obtain ⟨i13, ei13⟩ : ∃ z : Int32, z = fI H iq ((4 : Int32).toNatClampNeg) := ⟨_, rfl⟩
    rw [← ei13] at q13
    obtain ⟨k16, ek16⟩ : ∃ z : Int32, z = fI H kq (K.1.2 8 16) := ⟨_, rfl⟩
    rw [← ek16] at q16
    obtain ⟨i16, ei16⟩ : ∃ z : Int32, z = fI H iq ((5 : Int32).toNatClampNeg) := ⟨_, rfl⟩
    rw [← ei16] at q16
    obtain ⟨kb, ekb⟩ : ∃ z : Nat, z = fR H kq (K.1.2 8 0) := ⟨_, rfl⟩
    have gkb := ty_fr (q := kb) (k := 0) (u := 59) ekb hT gkq rg_34 rfl
    have bk1 := ty_fi (x := k1) (k := 1) ek1 hT gkq rg_34 rfl
    rw [← ekb] at dbk
    rw [← ekb, ← eiq, ← ek1] at vk
    rw [← eiq, ← ek1] at vkt
    obtain ⟨kz166, ekz166⟩ : ∃ f : Nat → Int32, ∀ j : Nat, j < 10 → f j = fI H (fR H kb j) (K.1.2 0 14) := ⟨_, fun _ _ => rfl⟩
    obtain ⟨iz167, eiz167⟩ : ∃ f : Nat → Int32, ∀ j : Nat, j < 10 → f j = fI H iq (11 + 6 * j) := ⟨_, fun _ _ => rfl⟩
    have vk0 : ∀ j : Nat, j < 10 → (j : Int) < k1.toInt → kz166 j = iz167 j := fun j h1 h2 => by rw [ekz166 j h1, eiz167 j h1]; exact vk j h1 h2
    clear vk
    have vk1 : ∀ j : Nat, j < 10 → k1.toInt ≤ (j : Int) → iz167 j = 0 := fun j h1 h2 => by rw [eiz167 j h1]; exact vkt j h1 h2
    clear vkt
    refine lv_aload_n hx hb dL_law_882 rfl (lv_at hl 2 rfl) ?_
    refine lv_aload_n hx hb dL_law_883 rfl (lv_at hl 3 rfl) ?_
    refine lv_iload_n hx hb dL_law_884 rfl (lv_at hl 0 rfl) ?_
    refine lv_iconst (v := 1) hx hb dL_law_885 (by decide) ?_
    refine lv_iadd hx hb dL_law_886 ?_
    refine lv_topi (fun x168 ex168 => ?_)
    obtain ⟨tx168, ejx168, evx168⟩ := lw_ix (k := 1) ex168 hI hL rfl (by decide)
    clear tx168
    refine va_sld hx hb hX hbl (Nat.not_le.mpr hbl) hS (vp_in_iff.mpr evx168) dL_law_887 ?_
    refine W.eq (g2 := F0 m 888 ls [.int (xs (i.toNatClampNeg + 1)), .ref a]) (congrArg (fun z => F0 m 888 ls [.int (xs z), .ref a]) ejx168) ?_
    refine lv_aload_n hx hb dL_law_888 rfl (lv_at hl 3 rfl) ?_
    refine lv_iload_n hx hb dL_law_889 rfl (lv_at hl 0 rfl) ?_
    refine lv_iconst (v := 2) hx hb dL_law_890 (by decide) ?_
    refine lv_iadd hx hb dL_law_891 ?_
    refine lv_topi (fun x169 ex169 => ?_)
    obtain ⟨tx169, ejx169, evx169⟩ := lw_ix (k := 2) ex169 hI hL rfl (by decide)
    clear tx169
    refine va_sld hx hb hX hbl (Nat.not_le.mpr hbl) hS (vp_in_iff.mpr evx169) dL_law_892 ?_
    refine W.eq (g2 := F0 m 893 ls [.int (xs (i.toNatClampNeg + 2)), .int (xs (i.toNatClampNeg + 1)), .ref a]) (congrArg (fun z => F0 m 893 ls [.int (xs z), .int (xs (i.toNatClampNeg + 1)), .ref a]) ejx169) ?_
    refine x_V (As := [.int (xs (i.toNatClampNeg + 1)), .int (xs (i.toNatClampNeg + 2))]) (rest := []) C (a_X9_fewest l K G H ((xs (i.toNatClampNeg + 1))) ((xs (i.toNatClampNeg + 2))) hT ga) yo_X9_fewest wM_L_92 ⟨⟨by decide, by decide⟩, show _ ≤ 1200000 from Nat.le_trans hc (by decide), show _ ≤ 5502250 from Nat.le_trans hs (by decide)⟩ (x_rv C hT (ci := 9) rfl ga rg_68) rfl hl.1 rfl (Nat.le_of_ble_eq_true rfl) dL_law_893 hS (AE_new hN hS.1) (fun vH170 H170 locsH170 pH170 zH170 kH170 hSH170 => ?_)
    obtain ⟨x171, hvH170, hTH170⟩ := pH170
    subst hvH170
    have g172 : CG (avw K H170 b) := CG.congr (fun k hk j => av_eff hT kH170 gb (by decide) (CG_eff [89, 91, 92, 93, 94, 95, 96, 97, 90, 85, 86, 83, 84] (by decide) k hk)) cg
    have g173 : TU (avw K H170 b) (svw K H170 b) := TU.congr (fun k hk j => av_eff hT kH170 gb (by decide) (TU_eff [89, 91, 92, 93, 94, 95, 96, 97, 90, 85, 86, 83, 84] (by decide) k hk)) (fun k hk => sv_eff hT kH170 gb (by decide)) tu
    have g174 : WD (avw K H170 b) := WD.congr (fun k hk j => av_eff hT kH170 gb (by decide) (WD_eff [89, 91, 92, 93, 94, 95, 96, 97, 90, 85, 86, 83, 84] (by decide) k hk)) wd
    have g175 : IM (avw K H170 b) := IM.congr (fun k hk j => av_eff hT kH170 gb (by decide) (IM_eff [89, 91, 92, 93, 94, 95, 96, 97, 90, 85, 86, 83, 84] (by decide) k hk)) im
    have m176 := (ew).trans (fR_kept (x_lt hT kH170 ga (by decide))).symm
    have m177 := (eta).trans (fI_kept (x_lt hT kH170 ga (by decide))).symm
    have m178 := (etb).trans (fI_kept (x_lt hT kH170 gb (by decide))).symm
    have m179 := (es1).trans (fI_kept (x_lt hT kH170 gw (by decide))).symm
    have m180 := (ey1).trans (fI_kept (x_lt hT kH170 gb (by decide))).symm
    have m181 := (es4).trans (fI_kept (x_lt hT kH170 gw (by decide))).symm
    have m182 := (ey4).trans (fI_kept (x_lt hT kH170 gb (by decide))).symm
    have m183 := (es5).trans (fI_kept (x_lt hT kH170 gw (by decide))).symm
    have m184 := (ey5).trans (fI_kept (x_lt hT kH170 gb (by decide))).symm
    have m185 := (es10).trans (fI_kept (x_lt hT kH170 gw (by decide))).symm
    have m186 := (ey10).trans (fI_kept (x_lt hT kH170 gb (by decide))).symm
    have m187 := (es13).trans (fI_kept (x_lt hT kH170 gw (by decide))).symm
    have m188 := (ey13).trans (fI_kept (x_lt hT kH170 gb (by decide))).symm
    have m189 := (es16).trans (fI_kept (x_lt hT kH170 gw (by decide))).symm
    have m190 := (ey16).trans (fI_kept (x_lt hT kH170 gb (by decide))).symm
    have m191 := (ebq).trans (fR_kept (x_lt hT kH170 gw (by decide))).symm
    have m192 := (eaq).trans (fR_kept (x_lt hT kH170 gb (by decide))).symm
    have m193 := (ehi).trans (fI_kept (x_lt hT kH170 gb (by decide))).symm
    have m194 := (fV_kept (x_lt hT kH170 ga (by decide))).trans kn
    have m195 := (eiq).trans (fR_kept (x_lt hT kH170 gb (by decide))).symm
    have m196 := (ek1).trans (fI_kept (x_lt hT kH170 gkq (by decide))).symm
    have m197 := (ei1).trans (fI_kept (x_lt hT kH170 giq (by decide))).symm
    have m198 := (ek4).trans (fI_kept (x_lt hT kH170 gkq (by decide))).symm
    have m199 := (ei4).trans (fI_kept (x_lt hT kH170 giq (by decide))).symm
    have m200 := (ek5).trans (fI_kept (x_lt hT kH170 gkq (by decide))).symm
    have m201 := (ei5).trans (fI_kept (x_lt hT kH170 giq (by decide))).symm
    have m202 := (ek10).trans (fI_kept (x_lt hT kH170 gkq (by decide))).symm
    have m203 := (ei10).trans (fI_kept (x_lt hT kH170 giq (by decide))).symm
    have m204 := (ek13).trans (fI_kept (x_lt hT kH170 gkq (by decide))).symm
    have m205 := (ei13).trans (fI_kept (x_lt hT kH170 giq (by decide))).symm
    have m206 := (ek16).trans (fI_kept (x_lt hT kH170 gkq (by decide))).symm
    have m207 := (ei16).trans (fI_kept (x_lt hT kH170 giq (by decide))).symm
    have m208 := (ekb).trans (fR_kept (x_lt hT kH170 gkq (by decide))).symm
    refine W.eq (g2 := F0 m 896 ls [.int x171]) rfl ?_
    have v209 : ∀ j : Nat, j < 10 → cz101 j = fI H170 (fR H170 bq j) (K.1.2 0 14) := fun j h => (ecz101 j h).trans (by rw [fR_kept (x_lt hT kH170 gbq (by decide))]; exact (fI_kept (x_lt hT kH170 (bar_g hT gbq j h) (by decide))).symm)
    have v210 : ∀ j : Nat, j < 10 → rz102 j = fI H170 aq j := fun j h => (erz102 j h).trans (fI_kept (x_lt hT kH170 gaq (by decide))).symm
    have v211 : ∀ j : Nat, j < 10 → kz166 j = fI H170 (fR H170 kb j) (K.1.2 0 14) := fun j h => (ekz166 j h).trans (by rw [fR_kept (x_lt hT kH170 gkb (by decide))]; exact (fI_kept (x_lt hT kH170 (bar_h hT gkb j h) (by decide))).symm)
    have d212 := DB.kept dbk (x_lt hT kH170 gkb (by decide))
    have v213 : ∀ j : Nat, j < 10 → iz167 j = fI H170 iq (11 + 6 * j) := fun j h => (eiz167 j h).trans (fI_kept (x_lt hT kH170 giq (by decide))).symm
    have d214 := DB.kept db (x_lt hT kH170 gbq (by decide))
    refine lv_pop hx hb dL_law_896 rfl ?_
    refine lv_aload_n hx hb dL_law_897 rfl (lv_at hl 1 rfl) ?_
    refine lv_aload_n hx hb dL_law_898 rfl (lv_at hl 3 rfl) ?_
    refine lv_iload_n hx hb dL_law_899 rfl (lv_at hl 0 rfl) ?_
    refine lv_iconst (v := 1) hx hb dL_law_900 (by decide) ?_
    refine lv_iadd hx hb dL_law_901 ?_
    refine lv_topi (fun x215 ex215 => ?_)
    obtain ⟨tx215, ejx215, evx215⟩ := lw_ix (k := 1) ex215 hI hL rfl (by decide)
    clear tx215
    refine va_sld hx hb hX hbl (Nat.not_le.mpr hbl) hSH170 (vp_in_iff.mpr evx215) dL_law_902 ?_
    refine W.eq (g2 := F0 m 903 ls [.int (xs (i.toNatClampNeg + 1)), .ref b]) (congrArg (fun z => F0 m 903 ls [.int (xs z), .ref b]) ejx215) ?_
    refine lv_aload_n hx hb dL_law_903 rfl (lv_at hl 3 rfl) ?_
    refine lv_iload_n hx hb dL_law_904 rfl (lv_at hl 0 rfl) ?_
    refine lv_iconst (v := 2) hx hb dL_law_905 (by decide) ?_
    refine lv_iadd hx hb dL_law_906 ?_
    refine lv_topi (fun x216 ex216 => ?_)
    obtain ⟨tx216, ejx216, evx216⟩ := lw_ix (k := 2) ex216 hI hL rfl (by decide)
    clear tx216
    refine va_sld hx hb hX hbl (Nat.not_le.mpr hbl) hSH170 (vp_in_iff.mpr evx216) dL_law_907 ?_
    refine W.eq (g2 := F0 m 908 ls [.int (xs (i.toNatClampNeg + 2)), .int (xs (i.toNatClampNeg + 1)), .ref b]) (congrArg (fun z => F0 m 908 ls [.int (xs z), .int (xs (i.toNatClampNeg + 1)), .ref b]) ejx216) ?_
    refine x_V (As := [.int (xs (i.toNatClampNeg + 1)), .int (xs (i.toNatClampNeg + 2))]) (rest := []) C (a_X10_fewest l K G H170 ((xs (i.toNatClampNeg + 1))) ((xs (i.toNatClampNeg + 2))) hTH170 gb g172 g173 g174 g175) yo_X10_fewest wM_L_95 ⟨⟨by decide, by decide⟩, show _ ≤ 1200000 from Nat.le_trans hc (by decide), show _ ≤ 5502250 from Nat.le_trans hs (by decide)⟩ (x_rv C hTH170 (ci := 10) rfl gb rg_112) rfl hl.1 rfl (Nat.le_of_ble_eq_true rfl) dL_law_908 hSH170 (AE_new hN hSH170.1) (fun vH217 H217 locsH217 pH217 zH217 kH217 hSH217 => ?_)
    obtain ⟨x218, hvH217, g219, g220, g221, g222, mf223, hTH217⟩ := pH217
    subst hvH217
    have m224 := (m176).trans (fR_kept (x_lt hTH170 kH217 ga (by decide))).symm
    have m225 := (m177).trans (fI_kept (x_lt hTH170 kH217 ga (by decide))).symm
    have m226 := (m179).trans (fI_kept (x_lt hTH170 kH217 gw (by decide))).symm
    have m227 := (m181).trans (fI_kept (x_lt hTH170 kH217 gw (by decide))).symm
    have m228 := (m183).trans (fI_kept (x_lt hTH170 kH217 gw (by decide))).symm
    have m229 := (m185).trans (fI_kept (x_lt hTH170 kH217 gw (by decide))).symm
    have m230 := (m187).trans (fI_kept (x_lt hTH170 kH217 gw (by decide))).symm
    have m231 := (m189).trans (fI_kept (x_lt hTH170 kH217 gw (by decide))).symm
    have m232 := (m191).trans (fR_kept (x_lt hTH170 kH217 gw (by decide))).symm
    have m233 := (fV_kept (x_lt hTH170 kH217 ga (by decide))).trans m194
    have m234 := (m196).trans (fI_kept (x_lt hTH170 kH217 gkq (by decide))).symm
    have m235 := (m197).trans (fI_kept (x_lt hTH170 kH217 giq (by decide))).symm
    have m236 := (m198).trans (fI_kept (x_lt hTH170 kH217 gkq (by decide))).symm
    have m237 := (m199).trans (fI_kept (x_lt hTH170 kH217 giq (by decide))).symm
    have m238 := (m200).trans (fI_kept (x_lt hTH170 kH217 gkq (by decide))).symm
    have m239 := (m201).trans (fI_kept (x_lt hTH170 kH217 giq (by decide))).symm
    have m240 := (m202).trans (fI_kept (x_lt hTH170 kH217 gkq (by decide))).symm
    have m241 := (m203).trans (fI_kept (x_lt hTH170 kH217 giq (by decide))).symm
    have m242 := (m204).trans (fI_kept (x_lt hTH170 kH217 gkq (by decide))).symm
    have m243 := (m205).trans (fI_kept (x_lt hTH170 kH217 giq (by decide))).symm
    have m244 := (m206).trans (fI_kept (x_lt hTH170 kH217 gkq (by decide))).symm
    have m245 := (m207).trans (fI_kept (x_lt hTH170 kH217 giq (by decide))).symm
    have m246 := (m208).trans (fR_kept (x_lt hTH170 kH217 gkq (by decide))).symm
    have m247 := (m178).trans (MF.i mf223 (k := 18) (by decide) (by decide)).symm
    have m248 := (m180).trans (MF.i mf223 (k := 1) (by decide) (by decide)).symm
    have m249 := (m182).trans (MF.i mf223 (k := 2) (by decide) (by decide)).symm
    have m250 := (m184).trans (MF.i mf223 (k := 3) (by decide) (by decide)).symm
    have m251 := (m186).trans (MF.i mf223 (k := 59) (by decide) (by decide)).symm
    have m252 := (m188).trans (MF.i mf223 (k := 62) (by decide) (by decide)).symm
    have m253 := (m190).trans (MF.i mf223 (k := 65) (by decide) (by decide)).symm
    have m254 := (m192).trans (MF.r mf223 (k := 50) (by decide) (by decide)).symm
    have m255 := (m193).trans (MF.i mf223 (k := 70) (by decide) (by decide)).symm
    have m256 := (m195).trans (MF.r mf223 (k := 73) (by decide) (by decide)).symm
    refine W.eq (g2 := F0 m 911 ls [.int x218]) rfl ?_
    have v257 : ∀ j : Nat, j < 10 → cz101 j = fI H217 (fR H217 bq j) (K.1.2 0 14) := fun j h => (v209 j h).trans (by rw [fR_kept (x_lt hTH170 kH217 gbq (by decide))]; exact (fI_kept (x_lt hTH170 kH217 (bar_g hTH170 gbq j h) (by decide))).symm)
    have v258 : ∀ j : Nat, j < 10 → rz102 j = fI H217 aq j := fun j h => (v210 j h).trans (fI_kept (x_lt hTH170 kH217 gaq (by decide))).symm
    have v259 : ∀ j : Nat, j < 10 → kz166 j = fI H217 (fR H217 kb j) (K.1.2 0 14) := fun j h => (v211 j h).trans (by rw [fR_kept (x_lt hTH170 kH217 gkb (by decide))]; exact (fI_kept (x_lt hTH170 kH217 (bar_h hTH170 gkb j h) (by decide))).symm)
    have d260 := DB.kept d212 (x_lt hTH170 kH217 gkb (by decide))
    have v261 : ∀ j : Nat, j < 10 → iz167 j = fI H217 iq (11 + 6 * j) := fun j h => (v213 j h).trans (fI_kept (x_lt hTH170 kH217 giq (by decide))).symm
    have d262 := DB.kept d214 (x_lt hTH170 kH217 gbq (by decide))
    refine lv_pop hx hb dL_law_911 rfl ?_
    refine lv_goto (tgt := 1509) hx hb dL_law_912 (by decide) ?_
    exact nx G H217 locsH217 _ _ ls ⟨hTH217, hN, ga, gb, g219, g220, g221, g222, ⟨(by rw [← m225, ← m247]; exact rt), (by rw [← m224, ← m226, ← m248]; exact r1), (by rw [← m224, ← m227, ← m249]; exact r4), (by rw [← m224, ← m228, ← m250]; exact r5), (by rw [← m224, ← m229, ← m251]; exact r10), (by rw [← m224, ← m230, ← m252]; exact r13), (by rw [← m224, ← m231, ← m253]; exact r16)⟩, Or.inr ⟨kq, m233, gkq, (by rw [← m255]; exact h70), (by rw [← m234, ← m256, ← m235]; exact q1), (by rw [← m236, ← m256, ← m237]; exact q4), (by rw [← m238, ← m256, ← m239]; exact q5), (by rw [← m240, ← m256, ← m241]; exact q10), (by rw [← m242, ← m256, ← m243]; exact q13), (by rw [← m244, ← m256, ← m245]; exact q16), (by rw [← m246]; exact d260), (by rw [← m246, ← m256, ← m234]; exact fun j h1 h2 => by rw [← v259 j h1, ← v261 j h1]; exact vk0 j h1 (by omega)), (by rw [← m256, ← m234]; exact fun j h1 h2 => by rw [← v261 j h1]; exact vk1 j h1 (by omega))⟩, (by unfold RB; rw [← m224, ← m232, ← m254, ← m248]; exact ⟨d262, fun j h1 h2 => by rw [← v257 j h1, ← v258 j h1]; exact rel j h1 (by omega), fun j h1 h2 => by rw [← v258 j h1]; exact tl j h1 (by omega)⟩), hSH217⟩ hl ⟨hc, hs, fun h => by have h1 := h.symm.trans m233; cases h1⟩
set_option maxRecDepth 100000 in
set_option maxHeartbeats 8000000 in
theorem lw_c19 {p : Program} {l : Launch} {e : Env} {s : State} {m : MethodId} {below : List Frame} {meth : Method} {c : Code} {K : KE} {b0 L : Nat} {xs : Nat → Int32} {G : Nat → Option Nat} {H : Heap} {locs : List Loc} {a b : Nat} {cells slots : Nat} {ls : Array Slot} {i : Int32} {n : Nat} (D : LC p K s m meth c b0 L xs) (S : SX K s G H locs a b) (hl : lv_has ls 4 [(3, .int i), (2, .ref b), (1, .ref a), (0, .ref b0)]) (hi : 0 ≤ i.toInt ∧ i.toInt + 6 ≤ L) (hn : n ≤ 511) (hB : BD K H a cells slots) (nx : ∀ (G : Nat → Option Nat) (H : Heap) (locs : List Loc) (cells slots : Nat) (ls : Array Slot), SX K s G H locs a b → lv_has ls 4 [(3, .int i), (2, .ref b), (1, .ref a), (0, .ref b0)] → BD K H a cells slots → W p l e room_1 s m #[Value.ref b0] below meth c H locs cells slots (lw_Z below #[Value.ref b0] s) (F0 m 1509 ls [])) : W p l e room_1 s m #[Value.ref b0] below meth c H locs cells slots (lw_Z below #[Value.ref b0] s) (F0 m 915 ls []) := by
  have hI := hi
  obtain ⟨C, hX, hbl, hL⟩ := id D
  obtain ⟨hx, hb, hml, hown, hts, hKT, hr, hlocks, hnm⟩ := id C
  obtain ⟨hT, hN, ga, gb, cg, tu, wd, im, ⟨rt, r1, r4, r5, r10, r13, r16⟩, hk, hrb, hS⟩ := S
  obtain ⟨hc, hs, hB0⟩ := hB
  have n_m1 : ((-1) : Int32).toInt = -1 := rfl
  have n_0 : (0 : Int32).toInt = 0 := rfl
  have n_1 : (1 : Int32).toInt = 1 := rfl
  have n_2 : (2 : Int32).toInt = 2 := rfl
  have n_3 : (3 : Int32).toInt = 3 := rfl
  obtain ⟨w, ew⟩ : ∃ z : Nat, z = fR H a (K.1.2 9 0) := ⟨_, rfl⟩
  have gw := ty_fr (q := w) (k := 0) (u := 0) ew hT ga rg_68 rfl
  rw [← ew] at r1 r4 r5 r10 r13 r16
  obtain ⟨ta, eta⟩ : ∃ z : Int32, z = fI H a (K.1.2 9 3) := ⟨_, rfl⟩
  rw [← eta] at rt
  obtain ⟨tb, etb⟩ : ∃ z : Int32, z = fI H b (K.1.2 10 18) := ⟨_, rfl⟩
  rw [← etb] at rt
  obtain ⟨s1, es1⟩ : ∃ z : Int32, z = fI H w (K.1.2 8 1) := ⟨_, rfl⟩
  rw [← es1] at r1
  obtain ⟨y1, ey1⟩ : ∃ z : Int32, z = fI H b (K.1.2 10 1) := ⟨_, rfl⟩
  rw [← ey1] at r1
  obtain ⟨s4, es4⟩ : ∃ z : Int32, z = fI H w (K.1.2 8 4) := ⟨_, rfl⟩
  rw [← es4] at r4
  obtain ⟨y4, ey4⟩ : ∃ z : Int32, z = fI H b (K.1.2 10 2) := ⟨_, rfl⟩
  rw [← ey4] at r4
  obtain ⟨s5, es5⟩ : ∃ z : Int32, z = fI H w (K.1.2 8 5) := ⟨_, rfl⟩
  rw [← es5] at r5
  obtain ⟨y5, ey5⟩ : ∃ z : Int32, z = fI H b (K.1.2 10 3) := ⟨_, rfl⟩
  rw [← ey5] at r5
  obtain ⟨s10, es10⟩ : ∃ z : Int32, z = fI H w (K.1.2 8 10) := ⟨_, rfl⟩
  rw [← es10] at r10
  obtain ⟨y10, ey10⟩ : ∃ z : Int32, z = fI H b (K.1.2 10 59) := ⟨_, rfl⟩
  rw [← ey10] at r10
  obtain ⟨s13, es13⟩ : ∃ z : Int32, z = fI H w (K.1.2 8 13) := ⟨_, rfl⟩
  rw [← es13] at r13
  obtain ⟨y13, ey13⟩ : ∃ z : Int32, z = fI H b (K.1.2 10 62) := ⟨_, rfl⟩
  rw [← ey13] at r13
  obtain ⟨s16, es16⟩ : ∃ z : Int32, z = fI H w (K.1.2 8 16) := ⟨_, rfl⟩
  rw [← es16] at r16
  obtain ⟨y16, ey16⟩ : ∃ z : Int32, z = fI H b (K.1.2 10 65) := ⟨_, rfl⟩
  rw [← ey16] at r16
  obtain ⟨bq, ebq⟩ : ∃ z : Nat, z = fR H w (K.1.2 8 0) := ⟨_, rfl⟩
  have gbq := ty_fr (q := bq) (k := 0) (u := 25) ebq hT gw rg_0 rfl
  obtain ⟨aq, eaq⟩ : ∃ z : Nat, z = fR H b (K.1.2 10 50) := ⟨_, rfl⟩
  have gaq := ty_fr (q := aq) (k := 50) (u := 146) eaq hT gb rg_112 rfl
  have bs1 := ty_fi (x := s1) (k := 1) es1 hT gw rg_0 rfl
  have by1 := ty_fi (x := y1) (k := 1) ey1 hT gb rg_112 rfl
  obtain ⟨db, vr, vt⟩ := hrb
  rw [← ew, ← ebq] at db
  rw [← ew, ← ebq, ← eaq, ← ey1] at vr
  rw [← eaq, ← ey1] at vt
  obtain ⟨cz101, ecz101⟩ : ∃ f : Nat → Int32, ∀ j : Nat, j < 10 → f j = fI H (fR H bq j) (K.1.2 0 14) := ⟨_, fun _ _ => rfl⟩
  obtain ⟨rz102, erz102⟩ : ∃ f : Nat → Int32, ∀ j : Nat, j < 10 → f j = fI H aq j := ⟨_, fun _ _ => rfl⟩
  have rel : ∀ j : Nat, j < 10 → (j : Int) < y1.toInt → cz101 j = rz102 j := fun j h1 h2 => by rw [ecz101 j h1, erz102 j h1]; exact vr j h1 h2
  clear vr
  have tl : ∀ j : Nat, j < 10 → y1.toInt ≤ (j : Int) → rz102 j = 0 := fun j h1 h2 => by rw [erz102 j h1]; exact vt j h1 h2
  clear vt
  rcases hk with ⟨kn, h70⟩ | ⟨kq, kn, gkq, h70, q1, q4, q5, q10, q13, q16, dbk, vk, vkt⟩
  · skip
    obtain ⟨hi, ehi⟩ : ∃ z : Int32, z = fI H b (K.1.2 10 70) := ⟨_, rfl⟩
    rw [← ehi] at h70
    obtain ⟨hc0, hs0⟩ := hB0 kn
    obtain ⟨iq, eiq⟩ : ∃ z : Nat, z = fR H b (K.1.2 10 73) := ⟨_, rfl⟩
    have giq := ty_fr (q := iq) (k := 73) (u := 162) eiq hT gb rg_112 rfl
    refine lv_aload_n hx hb dL_law_915 rfl (lv_at hl 2 rfl) ?_
    refine lv_aload_n hx hb dL_law_916 rfl (lv_at hl 3 rfl) ?_
    refine lv_iload_n hx hb dL_law_917 rfl (lv_at hl 0 rfl) ?_
    refine lv_iconst (v := 1) hx hb dL_law_918 (by decide) ?_
    refine lv_iadd hx hb dL_law_919 ?_
    refine lv_topi (fun x103 ex103 => ?_)
    obtain ⟨tx103, ejx103, evx103⟩ := lw_ix (k := 1) ex103 hI hL rfl (by decide)
    clear tx103
    refine va_sld hx hb hX hbl (Nat.not_le.mpr hbl) hS (vp_in_iff.mpr evx103) dL_law_920 ?_
    refine W.eq (g2 := F0 m 921 ls [.int (xs (i.toNatClampNeg + 1)), .ref a]) (congrArg (fun z => F0 m 921 ls [.int (xs z), .ref a]) ejx103) ?_
    refine lv_aload_n hx hb dL_law_921 rfl (lv_at hl 3 rfl) ?_
    refine lv_iload_n hx hb dL_law_922 rfl (lv_at hl 0 rfl) ?_
    refine lv_iconst (v := 2) hx hb dL_law_923 (by decide) ?_
    refine lv_iadd hx hb dL_law_924 ?_
    refine lv_topi (fun x104 ex104 => ?_)
    obtain ⟨tx104, ejx104, evx104⟩ := lw_ix (k := 2) ex104 hI hL rfl (by decide)
    clear tx104
    refine va_sld hx hb hX hbl (Nat.not_le.mpr hbl) hS (vp_in_iff.mpr evx104) dL_law_925 ?_
    refine W.eq (g2 := F0 m 926 ls [.int (xs (i.toNatClampNeg + 2)), .int (xs (i.toNatClampNeg + 1)), .ref a]) (congrArg (fun z => F0 m 926 ls [.int (xs z), .int (xs (i.toNatClampNeg + 1)), .ref a]) ejx104) ?_
    refine lv_aload_n hx hb dL_law_926 rfl (lv_at hl 3 rfl) ?_
    refine lv_iload_n hx hb dL_law_927 rfl (lv_at hl 0 rfl) ?_
    refine lv_iconst (v := 3) hx hb dL_law_928 (by decide) ?_
    refine lv_iadd hx hb dL_law_929 ?_
    refine lv_topi (fun x105 ex105 => ?_)
    obtain ⟨tx105, ejx105, evx105⟩ := lw_ix (k := 3) ex105 hI hL rfl (by decide)
    clear tx105
    refine va_sld hx hb hX hbl (Nat.not_le.mpr hbl) hS (vp_in_iff.mpr evx105) dL_law_930 ?_
    refine W.eq (g2 := F0 m 931 ls [.int (xs (i.toNatClampNeg + 3)), .int (xs (i.toNatClampNeg + 2)), .int (xs (i.toNatClampNeg + 1)), .ref a]) (congrArg (fun z => F0 m 931 ls [.int (xs z), .int (xs (i.toNatClampNeg + 2)), .int (xs (i.toNatClampNeg + 1)), .ref a]) ejx105) ?_
    obtain ⟨z106, ez106⟩ : ∃ t : Int32, t = fI H (fR H bq ((xs (i.toNatClampNeg + 1))).toNatClampNeg) (K.1.2 0 14) := ⟨_, rfl⟩
    refine x_V (As := [.int (xs (i.toNatClampNeg + 1)), .int (xs (i.toNatClampNeg + 2)), .int (xs (i.toNatClampNeg + 3))]) (rest := []) C (a_X9_tap_b l K G H ((xs (i.toNatClampNeg + 1))) ((xs (i.toNatClampNeg + 2))) ((xs (i.toNatClampNeg + 3))) (z106) (s1) hT ga gw ew gbq ebq es1 (ez106) (db)) yo_X9_tap wM_L_96 ⟨⟨by decide, by decide⟩, show _ ≤ 1200000 from Nat.le_trans hc (by decide), show _ ≤ 5502250 from Nat.le_trans hs (by decide)⟩ (x_rv C hT (ci := 9) rfl ga rg_68) rfl hl.1 rfl (Nat.le_of_ble_eq_true rfl) dL_law_931 hS (AE_new hN hS.1) (fun vH107 H107 locsH107 pH107 zH107 kH107 hSH107 => ?_)
    obtain ⟨x108, hvH107, hrH107, m109, m110, m111, hTH107⟩ := pH107
    subst hvH107
    have g112 : CG (avw K H107 b) := CG.congr (fun k hk j => av_eff hT kH107 gb (by decide) (CG_eff [1, 9, 10, 12, 14] (by decide) k hk)) cg
    have g113 : TU (avw K H107 b) (svw K H107 b) := TU.congr (fun k hk j => av_eff hT kH107 gb (by decide) (TU_eff [1, 9, 10, 12, 14] (by decide) k hk)) (fun k hk => sv_eff hT kH107 gb (by decide)) tu
    have g114 : WD (avw K H107 b) := WD.congr (fun k hk j => av_eff hT kH107 gb (by decide) (WD_eff [1, 9, 10, 12, 14] (by decide) k hk)) wd
    have g115 : IM (avw K H107 b) := IM.congr (fun k hk j => av_eff hT kH107 gb (by decide) (IM_eff [1, 9, 10, 12, 14] (by decide) k hk)) im
    have m116 := (ew).trans (fR_kept (x_lt hT kH107 ga (by decide))).symm
    have m117 := (eta).trans (fI_kept (x_lt hT kH107 ga (by decide))).symm
    have m118 := (etb).trans (fI_kept (x_lt hT kH107 gb (by decide))).symm
    have m119 := (es1).trans (fI_kept (x_lt hT kH107 gw (by decide))).symm
    have m120 := (ey1).trans (fI_kept (x_lt hT kH107 gb (by decide))).symm
    have m121 := (es4).trans (fI_kept (x_lt hT kH107 gw (by decide))).symm
    have m122 := (ey4).trans (fI_kept (x_lt hT kH107 gb (by decide))).symm
    have m123 := (es5).trans (fI_kept (x_lt hT kH107 gw (by decide))).symm
    have m124 := (ey5).trans (fI_kept (x_lt hT kH107 gb (by decide))).symm
    have m125 := (es10).trans (fI_kept (x_lt hT kH107 gw (by decide))).symm
    have m126 := (ey10).trans (fI_kept (x_lt hT kH107 gb (by decide))).symm
    have m127 := (es13).trans (fI_kept (x_lt hT kH107 gw (by decide))).symm
    have m128 := (ey13).trans (fI_kept (x_lt hT kH107 gb (by decide))).symm
    have m129 := (es16).trans (fI_kept (x_lt hT kH107 gw (by decide))).symm
    have m130 := (ey16).trans (fI_kept (x_lt hT kH107 gb (by decide))).symm
    have m131 := (ebq).trans (fR_kept (x_lt hT kH107 gw (by decide))).symm
    have m132 := (eaq).trans (fR_kept (x_lt hT kH107 gb (by decide))).symm
    have m133 := (ehi).trans (fI_kept (x_lt hT kH107 gb (by decide))).symm
    have m134 := (fV_kept (x_lt hT kH107 ga (by decide))).trans kn
    have m135 := (eiq).trans (fR_kept (x_lt hT kH107 gb (by decide))).symm
    refine W.eq (g2 := F0 m 934 ls [.int x108]) rfl ?_
    obtain ⟨cz136, ecz136⟩ : ∃ f : Nat → Int32, ∀ j : Nat, j < 10 → f j = fI H107 (fR H107 bq j) (K.1.2 0 14) := ⟨_, fun _ _ => rfl⟩
    have uc : ∀ j : Nat, j < 10 → (j : Int) ≠ ((xs (i.toNatClampNeg + 1))).toInt → cz136 j = cz101 j := fun j h hn => by rw [ecz136 j h, fR_kept (x_lt hT kH107 gbq (by decide)), ecz101 j h]; exact m109 j h hn
    replace m110 := HD.mk m110
    replace m111 := HD.mk m111
    have v137 : ∀ j : Nat, j < 10 → rz102 j = fI H107 aq j := fun j h => (erz102 j h).trans (fI_kept (x_lt hT kH107 gaq (by decide))).symm
    have d138 := DB.kept db (x_lt hT kH107 gbq (by decide))
    refine lv_aload_n hx hb dL_law_934 rfl (lv_at hl 1 rfl) ?_
    refine lv_aload_n hx hb dL_law_935 rfl (lv_at hl 3 rfl) ?_
    refine lv_iload_n hx hb dL_law_936 rfl (lv_at hl 0 rfl) ?_
    refine lv_iconst (v := 1) hx hb dL_law_937 (by decide) ?_
    refine lv_iadd hx hb dL_law_938 ?_
    refine lv_topi (fun x139 ex139 => ?_)
    obtain ⟨tx139, ejx139, evx139⟩ := lw_ix (k := 1) ex139 hI hL rfl (by decide)
    clear tx139
    refine va_sld hx hb hX hbl (Nat.not_le.mpr hbl) hSH107 (vp_in_iff.mpr evx139) dL_law_939 ?_
    refine W.eq (g2 := F0 m 940 ls [.int (xs (i.toNatClampNeg + 1)), .ref b, .int x108]) (congrArg (fun z => F0 m 940 ls [.int (xs z), .ref b, .int x108]) ejx139) ?_
    refine lv_aload_n hx hb dL_law_940 rfl (lv_at hl 3 rfl) ?_
    refine lv_iload_n hx hb dL_law_941 rfl (lv_at hl 0 rfl) ?_
    refine lv_iconst (v := 2) hx hb dL_law_942 (by decide) ?_
    refine lv_iadd hx hb dL_law_943 ?_
    refine lv_topi (fun x140 ex140 => ?_)
    obtain ⟨tx140, ejx140, evx140⟩ := lw_ix (k := 2) ex140 hI hL rfl (by decide)
    clear tx140
    refine va_sld hx hb hX hbl (Nat.not_le.mpr hbl) hSH107 (vp_in_iff.mpr evx140) dL_law_944 ?_
    refine W.eq (g2 := F0 m 945 ls [.int (xs (i.toNatClampNeg + 2)), .int (xs (i.toNatClampNeg + 1)), .ref b, .int x108]) (congrArg (fun z => F0 m 945 ls [.int (xs z), .int (xs (i.toNatClampNeg + 1)), .ref b, .int x108]) ejx140) ?_
    refine lv_aload_n hx hb dL_law_945 rfl (lv_at hl 3 rfl) ?_
    refine lv_iload_n hx hb dL_law_946 rfl (lv_at hl 0 rfl) ?_
    refine lv_iconst (v := 3) hx hb dL_law_947 (by decide) ?_
    refine lv_iadd hx hb dL_law_948 ?_
    refine lv_topi (fun x141 ex141 => ?_)
    obtain ⟨tx141, ejx141, evx141⟩ := lw_ix (k := 3) ex141 hI hL rfl (by decide)
    clear tx141
    refine va_sld hx hb hX hbl (Nat.not_le.mpr hbl) hSH107 (vp_in_iff.mpr evx141) dL_law_949 ?_
    refine W.eq (g2 := F0 m 950 ls [.int (xs (i.toNatClampNeg + 3)), .int (xs (i.toNatClampNeg + 2)), .int (xs (i.toNatClampNeg + 1)), .ref b, .int x108]) (congrArg (fun z => F0 m 950 ls [.int (xs z), .int (xs (i.toNatClampNeg + 2)), .int (xs (i.toNatClampNeg + 1)), .ref b, .int x108]) ejx141) ?_
    obtain ⟨x142, ex142⟩ : ∃ z : Int32, z = fI H107 aq ((xs (i.toNatClampNeg + 1)) : Int32).toNatClampNeg := ⟨_, rfl⟩
    have hzz : 0 ≤ ((xs (i.toNatClampNeg + 1))).toInt ∧ ((xs (i.toNatClampNeg + 1))).toInt < y1.toInt → z106.toInt = x142.toInt := fun h => by have hc := i_cl (x := (xs (i.toNatClampNeg + 1))) h.1; have h10 : ((xs (i.toNatClampNeg + 1))).toNatClampNeg < 10 := (by omega); rw [ez106, ← ecz101 _ h10, ex142, ← v137 _ h10, rel _ h10 (by omega)]
    refine x_V (As := [.int (xs (i.toNatClampNeg + 1)), .int (xs (i.toNatClampNeg + 2)), .int (xs (i.toNatClampNeg + 3))]) (rest := [.int x108]) C (a_X10_tap_b l K G H107 ((xs (i.toNatClampNeg + 1))) ((xs (i.toNatClampNeg + 2))) ((xs (i.toNatClampNeg + 3))) (x142) (y1) hTH107 gb gaq m132 ex142 m120 g112 g113 g114 g115) yo_X10_tap wM_L_99 ⟨⟨by decide, by decide⟩, show _ ≤ 1200000 from Nat.le_trans hc (by decide), show _ ≤ 5502250 from Nat.le_trans hs (by decide)⟩ (x_rv C hTH107 (ci := 10) rfl gb rg_112) rfl hl.1 rfl (Nat.le_of_ble_eq_true rfl) dL_law_950 hSH107 (AE_new hN hSH107.1) (fun vH143 H143 locsH143 pH143 zH143 kH143 hSH143 => ?_)
    obtain ⟨x144, x145, hvH143, ex145, hrH143, m146, g147, g148, g149, g150, mf151, m152, hTH143⟩ := pH143
    subst hvH143
    have m153 := (m116).trans (fR_kept (x_lt hTH107 kH143 ga (by decide))).symm
    have m154 := (m117).trans (fI_kept (x_lt hTH107 kH143 ga (by decide))).symm
    have m155 := (m119).trans (fI_kept (x_lt hTH107 kH143 gw (by decide))).symm
    have m156 := (m121).trans (fI_kept (x_lt hTH107 kH143 gw (by decide))).symm
    have m157 := (m123).trans (fI_kept (x_lt hTH107 kH143 gw (by decide))).symm
    have m158 := (m125).trans (fI_kept (x_lt hTH107 kH143 gw (by decide))).symm
    have m159 := (m127).trans (fI_kept (x_lt hTH107 kH143 gw (by decide))).symm
    have m160 := (m129).trans (fI_kept (x_lt hTH107 kH143 gw (by decide))).symm
    have m161 := (m131).trans (fR_kept (x_lt hTH107 kH143 gw (by decide))).symm
    have m162 := (fV_kept (x_lt hTH107 kH143 ga (by decide))).trans m134
    have m163 := (m118).trans (MF.i mf151 (k := 18) (by decide) (by decide)).symm
    have m164 := (m120).trans (MF.i mf151 (k := 1) (by decide) (by decide)).symm
    have m165 := (m122).trans (MF.i mf151 (k := 2) (by decide) (by decide)).symm
    have m166 := (m124).trans (MF.i mf151 (k := 3) (by decide) (by decide)).symm
    have m167 := (m126).trans (MF.i mf151 (k := 59) (by decide) (by decide)).symm
    have m168 := (m128).trans (MF.i mf151 (k := 62) (by decide) (by decide)).symm
    have m169 := (m130).trans (MF.i mf151 (k := 65) (by decide) (by decide)).symm
    have m170 := (m132).trans (MF.r mf151 (k := 50) (by decide) (by decide)).symm
    have m171 := (m133).trans (MF.i mf151 (k := 70) (by decide) (by decide)).symm
    have m172 := (m135).trans (MF.r mf151 (k := 73) (by decide) (by decide)).symm
    refine W.eq (g2 := F0 m 953 ls [.int x144, .int x108]) rfl ?_
    have v173 : ∀ j : Nat, j < 10 → cz136 j = fI H143 (fR H143 bq j) (K.1.2 0 14) := fun j h => (ecz136 j h).trans (by rw [fR_kept (x_lt hTH107 kH143 gbq (by decide))]; exact (fI_kept (x_lt hTH107 kH143 (bar_g hTH107 gbq j h) (by decide))).symm)
    obtain ⟨rz174, erz174⟩ : ∃ f : Nat → Int32, ∀ j : Nat, j < 10 → f j = fI H143 aq j := ⟨_, fun _ _ => rfl⟩
    have ur : ∀ j : Nat, j < 10 → 0 ≤ ((xs (i.toNatClampNeg + 1))).toInt → (j : Int) ≠ ((xs (i.toNatClampNeg + 1))).toInt → rz174 j = rz102 j := fun j h h0 hn => by rw [erz174 j h, v137 j h]; exact m152 j (by have hc := i_cl (x := ((xs (i.toNatClampNeg + 1)))) h0; omega)
    have ux0 : HD (((xs (i.toNatClampNeg + 1))).toInt < 0 → ∀ j : Nat, j < 10 → rz174 j = rz102 j) := by
      refine HD.mk ?_
      intro hx j h
      by_cases hj : j = ((xs (i.toNatClampNeg + 1))).toNatClampNeg
      · have e3 : (rz174 j).toInt = x145.toInt := by rw [erz174 j h, hj, ← ex145]
        have e5 : (rz102 j).toInt = x142.toInt := by rw [v137 j h, hj, ← ex142]
        exact Int32.toInt_inj.mp (by omega)
      · rw [erz174 j h, v137 j h]
        exact m152 j hj
    have d175 := DB.kept d138 (x_lt hTH107 kH143 gbq (by decide))
    refine lv_icmp_eq (tgt := 1509) hx hb dL_law_953 (by decide) (fun ce => ?_) (fun ce => ?_)
    · skip
      have rel2 : ∀ j : Nat, j < 10 → (j : Int) < y1.toInt → cz136 j = rz174 j := by
        intro j h1 h2
        by_cases hj : (j : Int) = ((xs (i.toNatClampNeg + 1))).toInt
        · have c1 := i_cl (x := ((xs (i.toNatClampNeg + 1)))) (by omega)
          have ud : 0 ≤ ((xs (i.toNatClampNeg + 1))).toInt ∧ ((xs (i.toNatClampNeg + 1))).toInt < s1.toInt ∧ 0 ≤ ((xs (i.toNatClampNeg + 2))).toInt ∧ ((xs (i.toNatClampNeg + 2))).toInt ≤ 2 ∧ 0 ≤ ((xs (i.toNatClampNeg + 3))).toInt ∧ ((xs (i.toNatClampNeg + 3))).toInt ≤ 9999999 ∧ z106.toInt ≤ 11 → (cz136 ((xs (i.toNatClampNeg + 1))).toNatClampNeg).toInt = z106.toInt + 1 := fun h => by have hc := i_cl (x := ((xs (i.toNatClampNeg + 1)))) (by omega); obtain ⟨t, e1, e2⟩ := HD.get m110 h; rw [ecz136 _ (by omega), fR_kept (x_lt hT kH107 gbq (by decide)), ← e1]; exact e2
          have ue : ¬ (0 ≤ ((xs (i.toNatClampNeg + 1))).toInt ∧ ((xs (i.toNatClampNeg + 1))).toInt < s1.toInt ∧ 0 ≤ ((xs (i.toNatClampNeg + 2))).toInt ∧ ((xs (i.toNatClampNeg + 2))).toInt ≤ 2 ∧ 0 ≤ ((xs (i.toNatClampNeg + 3))).toInt ∧ ((xs (i.toNatClampNeg + 3))).toInt ≤ 9999999 ∧ z106.toInt ≤ 11) → ∀ j : Nat, j < 10 → cz136 j = cz101 j := fun h j hj => by rw [ecz136 j hj, fR_kept (x_lt hT kH107 gbq (by decide)), ecz101 j hj]; exact HD.get m111 h j hj
          have ut : 0 ≤ ((xs (i.toNatClampNeg + 1))).toInt → ((xs (i.toNatClampNeg + 1))).toInt ≤ 9 → (rz174 ((xs (i.toNatClampNeg + 1))).toNatClampNeg).toInt = x145.toInt := fun h0 h9 => by have hc := i_cl (x := ((xs (i.toNatClampNeg + 1)))) h0; rw [erz174 _ (by omega), ex145]
          have e3 := ut (by omega) (by omega)
          clear ut
          have ej : j = ((xs (i.toNatClampNeg + 1))).toNatClampNeg := by omega
          have e4 : ¬ (0 ≤ ((xs (i.toNatClampNeg + 1))).toInt ∧ ((xs (i.toNatClampNeg + 1))).toInt < s1.toInt ∧ 0 ≤ ((xs (i.toNatClampNeg + 2))).toInt ∧ ((xs (i.toNatClampNeg + 2))).toInt ≤ 2 ∧ 0 ≤ ((xs (i.toNatClampNeg + 3))).toInt ∧ ((xs (i.toNatClampNeg + 3))).toInt ≤ 9999999 ∧ z106.toInt ≤ 11) → (cz136 ((xs (i.toNatClampNeg + 1))).toNatClampNeg).toInt = z106.toInt := fun h => by rw [ue h _ (by omega), ez106, ← ecz101 _ (by omega)]
          clear ue
          rw [ej]
          exact Int32.toInt_inj.mp (by omega)
        · rw [uc j h1 hj]
          by_cases h0 : 0 ≤ ((xs (i.toNatClampNeg + 1))).toInt
          · rw [ur j h1 h0 hj]
            exact rel j h1 (by omega)
          · exact (rel j h1 (by omega)).trans (HD.get ux0 (by omega) j h1).symm
      have tl2 : ∀ j : Nat, j < 10 → y1.toInt ≤ (j : Int) → rz174 j = 0 := by
        intro j h1 h2
        by_cases h0 : 0 ≤ ((xs (i.toNatClampNeg + 1))).toInt
        · by_cases hj : (j : Int) = ((xs (i.toNatClampNeg + 1))).toInt
          · have c1 := i_cl (x := ((xs (i.toNatClampNeg + 1)))) h0
            have ut : 0 ≤ ((xs (i.toNatClampNeg + 1))).toInt → ((xs (i.toNatClampNeg + 1))).toInt ≤ 9 → (rz174 ((xs (i.toNatClampNeg + 1))).toNatClampNeg).toInt = x145.toInt := fun h0 h9 => by have hc := i_cl (x := ((xs (i.toNatClampNeg + 1)))) h0; rw [erz174 _ (by omega), ex145]
            have e3 := ut h0 (by omega)
            clear ut
            have ej : j = ((xs (i.toNatClampNeg + 1))).toNatClampNeg := by omega
            have e5 := congrArg Int32.toInt ((ex142).trans (v137 _ (by omega)).symm)
            have e6 := congrArg Int32.toInt (tl _ h1 (by omega))
            rw [ej] at e6 ⊢
            exact Int32.toInt_inj.mp (by omega)
          · rw [ur j h1 h0 hj]
            exact tl j h1 (by omega)
        · rw [HD.get ux0 (by omega) j h1]
          exact tl j h1 (by omega)
      exact nx G H143 locsH143 _ _ ls ⟨hTH143, hN, ga, gb, g147, g148, g149, g150, ⟨(by rw [← m154, ← m163]; exact rt), (by rw [← m153, ← m155, ← m164]; exact r1), (by rw [← m153, ← m156, ← m165]; exact r4), (by rw [← m153, ← m157, ← m166]; exact r5), (by rw [← m153, ← m158, ← m167]; exact r10), (by rw [← m153, ← m159, ← m168]; exact r13), (by rw [← m153, ← m160, ← m169]; exact r16)⟩, Or.inl ⟨m162, (by rw [← m171]; exact h70)⟩, (by unfold RB; rw [← m153, ← m161, ← m146, ← m164]; exact ⟨d175, fun j h1 h2 => by rw [← v173 j h1, ← erz174 j h1]; exact rel2 j h1 (by omega), fun j h1 h2 => by rw [← erz174 j h1]; exact tl2 j h1 (by omega)⟩), hSH143⟩ hl ⟨hc, hs, fun _ => ⟨hc0, hs0⟩⟩
    · exfalso
      have := i_ne ce
      omega
  · skip
    obtain ⟨hi, ehi⟩ : ∃ z : Int32, z = fI H b (K.1.2 10 70) := ⟨_, rfl⟩
    rw [← ehi] at h70
    obtain ⟨iq, eiq⟩ : ∃ z : Nat, z = fR H b (K.1.2 10 73) := ⟨_, rfl⟩
    have giq := ty_fr (q := iq) (k := 73) (u := 162) eiq hT gb rg_112 rfl
    rw [← eiq] at q1 q4 q5 q10 q13 q16
    obtain ⟨k1, ek1⟩ : ∃ z : Int32, z = fI H kq (K.1.2 8 1) := ⟨_, rfl⟩
    rw [← ek1] at q1
    obtain ⟨i1, ei1⟩ : ∃ z : Int32, z = fI H iq ((0 : Int32).toNatClampNeg) := ⟨_, rfl⟩
    rw [← ei1] at q1
    obtain ⟨k4, ek4⟩ : ∃ z : Int32, z = fI H kq (K.1.2 8 4) := ⟨_, rfl⟩
    rw [← ek4] at q4
    obtain ⟨i4, ei4⟩ : ∃ z : Int32, z = fI H iq ((1 : Int32).toNatClampNeg) := ⟨_, rfl⟩
    rw [← ei4] at q4
    obtain ⟨k5, ek5⟩ : ∃ z : Int32, z = fI H kq (K.1.2 8 5) := ⟨_, rfl⟩
    rw [← ek5] at q5
    obtain ⟨i5, ei5⟩ : ∃ z : Int32, z = fI H iq ((2 : Int32).toNatClampNeg) := ⟨_, rfl⟩
    rw [← ei5] at q5
    obtain ⟨k10, ek10⟩ : ∃ z : Int32, z = fI H kq (K.1.2 8 10) := ⟨_, rfl⟩
    rw [← ek10] at q10
    obtain ⟨i10, ei10⟩ : ∃ z : Int32, z = fI H iq ((3 : Int32).toNatClampNeg) := ⟨_, rfl⟩
    rw [← ei10] at q10
    obtain ⟨k13, ek13⟩ : ∃ z : Int32, z = fI H kq (K.1.2 8 13) := ⟨_, rfl⟩
    rw [← ek13] at q13
    obtain ⟨i13, ei13⟩ : ∃ z : Int32, z = fI H iq ((4 : Int32).toNatClampNeg) := ⟨_, rfl⟩
    rw [← ei13] at q13
    obtain ⟨k16, ek16⟩ : ∃ z : Int32, z = fI H kq (K.1.2 8 16) := ⟨_, rfl⟩
    rw [← ek16] at q16
    obtain ⟨i16, ei16⟩ : ∃ z : Int32, z = fI H iq ((5 : Int32).toNatClampNeg) := ⟨_, rfl⟩
    rw [← ei16] at q16
    obtain ⟨kb, ekb⟩ : ∃ z : Nat, z = fR H kq (K.1.2 8 0) := ⟨_, rfl⟩
    have gkb := ty_fr (q := kb) (k := 0) (u := 59) ekb hT gkq rg_34 rfl
    have bk1 := ty_fi (x := k1) (k := 1) ek1 hT gkq rg_34 rfl
    rw [← ekb] at dbk
    rw [← ekb, ← eiq, ← ek1] at vk
    rw [← eiq, ← ek1] at vkt
    obtain ⟨kz176, ekz176⟩ : ∃ f : Nat → Int32, ∀ j : Nat, j < 10 → f j = fI H (fR H kb j) (K.1.2 0 14) := ⟨_, fun _ _ => rfl⟩
    obtain ⟨iz177, eiz177⟩ : ∃ f : Nat → Int32, ∀ j : Nat, j < 10 → f j = fI H iq (11 + 6 * j) := ⟨_, fun _ _ => rfl⟩
    have vk0 : ∀ j : Nat, j < 10 → (j : Int) < k1.toInt → kz176 j = iz177 j := fun j h1 h2 => by rw [ekz176 j h1, eiz177 j h1]; exact vk j h1 h2
    clear vk
    have vk1 : ∀ j : Nat, j < 10 → k1.toInt ≤ (j : Int) → iz177 j = 0 := fun j h1 h2 => by rw [eiz177 j h1]; exact vkt j h1 h2
    clear vkt
    refine lv_aload_n hx hb dL_law_915 rfl (lv_at hl 2 rfl) ?_
    refine lv_aload_n hx hb dL_law_916 rfl (lv_at hl 3 rfl) ?_
    refine lv_iload_n hx hb dL_law_917 rfl (lv_at hl 0 rfl) ?_
    refine lv_iconst (v := 1) hx hb dL_law_918 (by decide) ?_
    refine lv_iadd hx hb dL_law_919 ?_
    refine lv_topi (fun x178 ex178 => ?_)
    obtain ⟨tx178, ejx178, evx178⟩ := lw_ix (k := 1) ex178 hI hL rfl (by decide)
    clear tx178
    refine va_sld hx hb hX hbl (Nat.not_le.mpr hbl) hS (vp_in_iff.mpr evx178) dL_law_920 ?_
    refine W.eq (g2 := F0 m 921 ls [.int (xs (i.toNatClampNeg + 1)), .ref a]) (congrArg (fun z => F0 m 921 ls [.int (xs z), .ref a]) ejx178) ?_
    refine lv_aload_n hx hb dL_law_921 rfl (lv_at hl 3 rfl) ?_
    refine lv_iload_n hx hb dL_law_922 rfl (lv_at hl 0 rfl) ?_
    refine lv_iconst (v := 2) hx hb dL_law_923 (by decide) ?_
    refine lv_iadd hx hb dL_law_924 ?_
    refine lv_topi (fun x179 ex179 => ?_)
    obtain ⟨tx179, ejx179, evx179⟩ := lw_ix (k := 2) ex179 hI hL rfl (by decide)
    clear tx179
    refine va_sld hx hb hX hbl (Nat.not_le.mpr hbl) hS (vp_in_iff.mpr evx179) dL_law_925 ?_
    refine W.eq (g2 := F0 m 926 ls [.int (xs (i.toNatClampNeg + 2)), .int (xs (i.toNatClampNeg + 1)), .ref a]) (congrArg (fun z => F0 m 926 ls [.int (xs z), .int (xs (i.toNatClampNeg + 1)), .ref a]) ejx179) ?_
    refine lv_aload_n hx hb dL_law_926 rfl (lv_at hl 3 rfl) ?_
    refine lv_iload_n hx hb dL_law_927 rfl (lv_at hl 0 rfl) ?_
    refine lv_iconst (v := 3) hx hb dL_law_928 (by decide) ?_
    refine lv_iadd hx hb dL_law_929 ?_
    refine lv_topi (fun x180 ex180 => ?_)
    obtain ⟨tx180, ejx180, evx180⟩ := lw_ix (k := 3) ex180 hI hL rfl (by decide)
    clear tx180
    refine va_sld hx hb hX hbl (Nat.not_le.mpr hbl) hS (vp_in_iff.mpr evx180) dL_law_930 ?_
    refine W.eq (g2 := F0 m 931 ls [.int (xs (i.toNatClampNeg + 3)), .int (xs (i.toNatClampNeg + 2)), .int (xs (i.toNatClampNeg + 1)), .ref a]) (congrArg (fun z => F0 m 931 ls [.int (xs z), .int (xs (i.toNatClampNeg + 2)), .int (xs (i.toNatClampNeg + 1)), .ref a]) ejx180) ?_
    obtain ⟨z181, ez181⟩ : ∃ t : Int32, t = fI H (fR H bq ((xs (i.toNatClampNeg + 1))).toNatClampNeg) (K.1.2 0 14) := ⟨_, rfl⟩
    refine x_V (As := [.int (xs (i.toNatClampNeg + 1)), .int (xs (i.toNatClampNeg + 2)), .int (xs (i.toNatClampNeg + 3))]) (rest := []) C (a_X9_tap_b l K G H ((xs (i.toNatClampNeg + 1))) ((xs (i.toNatClampNeg + 2))) ((xs (i.toNatClampNeg + 3))) (z181) (s1) hT ga gw ew gbq ebq es1 (ez181) (db)) yo_X9_tap wM_L_96 ⟨⟨by decide, by decide⟩, show _ ≤ 1200000 from Nat.le_trans hc (by decide), show _ ≤ 5502250 from Nat.le_trans hs (by decide)⟩ (x_rv C hT (ci := 9) rfl ga rg_68) rfl hl.1 rfl (Nat.le_of_ble_eq_true rfl) dL_law_931 hS (AE_new hN hS.1) (fun vH182 H182 locsH182 pH182 zH182 kH182 hSH182 => ?_)
    obtain ⟨x183, hvH182, hrH182, m184, m185, m186, hTH182⟩ := pH182
    subst hvH182
    have g187 : CG (avw K H182 b) := CG.congr (fun k hk j => av_eff hT kH182 gb (by decide) (CG_eff [1, 9, 10, 12, 14] (by decide) k hk)) cg
    have g188 : TU (avw K H182 b) (svw K H182 b) := TU.congr (fun k hk j => av_eff hT kH182 gb (by decide) (TU_eff [1, 9, 10, 12, 14] (by decide) k hk)) (fun k hk => sv_eff hT kH182 gb (by decide)) tu
    have g189 : WD (avw K H182 b) := WD.congr (fun k hk j => av_eff hT kH182 gb (by decide) (WD_eff [1, 9, 10, 12, 14] (by decide) k hk)) wd
    have g190 : IM (avw K H182 b) := IM.congr (fun k hk j => av_eff hT kH182 gb (by decide) (IM_eff [1, 9, 10, 12, 14] (by decide) k hk)) im
    have m191 := (ew).trans (fR_kept (x_lt hT kH182 ga (by decide))).symm
    have m192 := (eta).trans (fI_kept (x_lt hT kH182 ga (by decide))).symm
    have m193 := (etb).trans (fI_kept (x_lt hT kH182 gb (by decide))).symm
    have m194 := (es1).trans (fI_kept (x_lt hT kH182 gw (by decide))).symm
    have m195 := (ey1).trans (fI_kept (x_lt hT kH182 gb (by decide))).symm
    have m196 := (es4).trans (fI_kept (x_lt hT kH182 gw (by decide))).symm
    have m197 := (ey4).trans (fI_kept (x_lt hT kH182 gb (by decide))).symm
    have m198 := (es5).trans (fI_kept (x_lt hT kH182 gw (by decide))).symm
    have m199 := (ey5).trans (fI_kept (x_lt hT kH182 gb (by decide))).symm
    have m200 := (es10).trans (fI_kept (x_lt hT kH182 gw (by decide))).symm
    have m201 := (ey10).trans (fI_kept (x_lt hT kH182 gb (by decide))).symm
    have m202 := (es13).trans (fI_kept (x_lt hT kH182 gw (by decide))).symm
    have m203 := (ey13).trans (fI_kept (x_lt hT kH182 gb (by decide))).symm
    have m204 := (es16).trans (fI_kept (x_lt hT kH182 gw (by decide))).symm
    have m205 := (ey16).trans (fI_kept (x_lt hT kH182 gb (by decide))).symm
    have m206 := (ebq).trans (fR_kept (x_lt hT kH182 gw (by decide))).symm
    have m207 := (eaq).trans (fR_kept (x_lt hT kH182 gb (by decide))).symm
    have m208 := (ehi).trans (fI_kept (x_lt hT kH182 gb (by decide))).symm
    have m209 := (fV_kept (x_lt hT kH182 ga (by decide))).trans kn
    have m210 := (eiq).trans (fR_kept (x_lt hT kH182 gb (by decide))).symm
    have m211 := (ek1).trans (fI_kept (x_lt hT kH182 gkq (by decide))).symm
    have m212 := (ei1).trans (fI_kept (x_lt hT kH182 giq (by decide))).symm
    have m213 := (ek4).trans (fI_kept (x_lt hT kH182 gkq (by decide))).symm
    have m214 := (ei4).trans (fI_kept (x_lt hT kH182 giq (by decide))).symm
    have m215 := (ek5).trans (fI_kept (x_lt hT kH182 gkq (by decide))).symm
    have m216 := (ei5).trans (fI_kept (x_lt hT kH182 giq (by decide))).symm
    have m217 := (ek10).trans (fI_kept (x_lt hT kH182 gkq (by decide))).symm
    have m218 := (ei10).trans (fI_kept (x_lt hT kH182 giq (by decide))).symm
    have m219 := (ek13).trans (fI_kept (x_lt hT kH182 gkq (by decide))).symm
    have m220 := (ei13).trans (fI_kept (x_lt hT kH182 giq (by decide))).symm
    have m221 := (ek16).trans (fI_kept (x_lt hT kH182 gkq (by decide))).symm
    have m222 := (ei16).trans (fI_kept (x_lt hT kH182 giq (by decide))).symm
    have m223 := (ekb).trans (fR_kept (x_lt hT kH182 gkq (by decide))).symm
    refine W.eq (g2 := F0 m 934 ls [.int x183]) rfl ?_
    obtain ⟨cz224, ecz224⟩ : ∃ f : Nat → Int32, ∀ j : Nat, j < 10 → f j = fI H182 (fR H182 bq j) (K.1.2 0 14) := ⟨_, fun _ _ => rfl⟩
    have uc : ∀ j : Nat, j < 10 → (j : Int) ≠ ((xs (i.toNatClampNeg + 1))).toInt → cz224 j = cz101 j := fun j h hn => by rw [ecz224 j h, fR_kept (x_lt hT kH182 gbq (by decide)), ecz101 j h]; exact m184 j h hn
    replace m185 := HD.mk m185
    replace m186 := HD.mk m186
    have v225 : ∀ j : Nat, j < 10 → rz102 j = fI H182 aq j := fun j h => (erz102 j h).trans (fI_kept (x_lt hT kH182 gaq (by decide))).symm
    have v226 : ∀ j : Nat, j < 10 → kz176 j = fI H182 (fR H182 kb j) (K.1.2 0 14) := fun j h => (ekz176 j h).trans (by rw [fR_kept (x_lt hT kH182 gkb (by decide))]; exact (fI_kept (x_lt hT kH182 (bar_h hT gkb j h) (by decide))).symm)
    have d227 := DB.kept dbk (x_lt hT kH182 gkb (by decide))
    have v228 : ∀ j : Nat, j < 10 → iz177 j = fI H182 iq (11 + 6 * j) := fun j h => (eiz177 j h).trans (fI_kept (x_lt hT kH182 giq (by decide))).symm
    have d229 := DB.kept db (x_lt hT kH182 gbq (by decide))
    refine lv_aload_n hx hb dL_law_934 rfl (lv_at hl 1 rfl) ?_
    refine lv_aload_n hx hb dL_law_935 rfl (lv_at hl 3 rfl) ?_
    refine lv_iload_n hx hb dL_law_936 rfl (lv_at hl 0 rfl) ?_
    refine lv_iconst (v := 1) hx hb dL_law_937 (by decide) ?_
    refine lv_iadd hx hb dL_law_938 ?_
    refine lv_topi (fun x230 ex230 => ?_)
    obtain ⟨tx230, ejx230, evx230⟩ := lw_ix (k := 1) ex230 hI hL rfl (by decide)
    clear tx230
    refine va_sld hx hb hX hbl (Nat.not_le.mpr hbl) hSH182 (vp_in_iff.mpr evx230) dL_law_939 ?_
    refine W.eq (g2 := F0 m 940 ls [.int (xs (i.toNatClampNeg + 1)), .ref b, .int x183]) (congrArg (fun z => F0 m 940 ls [.int (xs z), .ref b, .int x183]) ejx230) ?_
    refine lv_aload_n hx hb dL_law_940 rfl (lv_at hl 3 rfl) ?_
    refine lv_iload_n hx hb dL_law_941 rfl (lv_at hl 0 rfl) ?_
    refine lv_iconst (v := 2) hx hb dL_law_942 (by decide) ?_
    refine lv_iadd hx hb dL_law_943 ?_
    refine lv_topi (fun x231 ex231 => ?_)
    obtain ⟨tx231, ejx231, evx231⟩ := lw_ix (k := 2) ex231 hI hL rfl (by decide)
    clear tx231
    refine va_sld hx hb hX hbl (Nat.not_le.mpr hbl) hSH182 (vp_in_iff.mpr evx231) dL_law_944 ?_
    refine W.eq (g2 := F0 m 945 ls [.int (xs (i.toNatClampNeg + 2)), .int (xs (i.toNatClampNeg + 1)), .ref b, .int x183]) (congrArg (fun z => F0 m 945 ls [.int (xs z), .int (xs (i.toNatClampNeg + 1)), .ref b, .int x183]) ejx231) ?_
    refine lv_aload_n hx hb dL_law_945 rfl (lv_at hl 3 rfl) ?_
    refine lv_iload_n hx hb dL_law_946 rfl (lv_at hl 0 rfl) ?_
    refine lv_iconst (v := 3) hx hb dL_law_947 (by decide) ?_
    refine lv_iadd hx hb dL_law_948 ?_
    refine lv_topi (fun x232 ex232 => ?_)
    obtain ⟨tx232, ejx232, evx232⟩ := lw_ix (k := 3) ex232 hI hL rfl (by decide)
    clear tx232
    refine va_sld hx hb hX hbl (Nat.not_le.mpr hbl) hSH182 (vp_in_iff.mpr evx232) dL_law_949 ?_
    refine W.eq (g2 := F0 m 950 ls [.int (xs (i.toNatClampNeg + 3)), .int (xs (i.toNatClampNeg + 2)), .int (xs (i.toNatClampNeg + 1)), .ref b, .int x183]) (congrArg (fun z => F0 m 950 ls [.int (xs z), .int (xs (i.toNatClampNeg + 2)), .int (xs (i.toNatClampNeg + 1)), .ref b, .int x183]) ejx232) ?_
    obtain ⟨x233, ex233⟩ : ∃ z : Int32, z = fI H182 aq ((xs (i.toNatClampNeg + 1)) : Int32).toNatClampNeg := ⟨_, rfl⟩
    have hzz : 0 ≤ ((xs (i.toNatClampNeg + 1))).toInt ∧ ((xs (i.toNatClampNeg + 1))).toInt < y1.toInt → z181.toInt = x233.toInt := fun h => by have hc := i_cl (x := (xs (i.toNatClampNeg + 1))) h.1; have h10 : ((xs (i.toNatClampNeg + 1))).toNatClampNeg < 10 := (by omega); rw [ez181, ← ecz101 _ h10, ex233, ← v225 _ h10, rel _ h10 (by omega)]
    refine x_V (As := [.int (xs (i.toNatClampNeg + 1)), .int (xs (i.toNatClampNeg + 2)), .int (xs (i.toNatClampNeg + 3))]) (rest := [.int x183]) C (a_X10_tap_b l K G H182 ((xs (i.toNatClampNeg + 1))) ((xs (i.toNatClampNeg + 2))) ((xs (i.toNatClampNeg + 3))) (x233) (y1) hTH182 gb gaq m207 ex233 m195 g187 g188 g189 g190) yo_X10_tap wM_L_99 ⟨⟨by decide, by decide⟩, show _ ≤ 1200000 from Nat.le_trans hc (by decide), show _ ≤ 5502250 from Nat.le_trans hs (by decide)⟩ (x_rv C hTH182 (ci := 10) rfl gb rg_112) rfl hl.1 rfl (Nat.le_of_ble_eq_true rfl) dL_law_950 hSH182 (AE_new hN hSH182.1) (fun vH234 H234 locsH234 pH234 zH234 kH234 hSH234 => ?_)
    obtain ⟨x235, x236, hvH234, ex236, hrH234, m237, g238, g239, g240, g241, mf242, m243, hTH234⟩ := pH234
    subst hvH234
    have m244 := (m191).trans (fR_kept (x_lt hTH182 kH234 ga (by decide))).symm
    have m245 := (m192).trans (fI_kept (x_lt hTH182 kH234 ga (by decide))).symm
    have m246 := (m194).trans (fI_kept (x_lt hTH182 kH234 gw (by decide))).symm
    have m247 := (m196).trans (fI_kept (x_lt hTH182 kH234 gw (by decide))).symm
    have m248 := (m198).trans (fI_kept (x_lt hTH182 kH234 gw (by decide))).symm
    have m249 := (m200).trans (fI_kept (x_lt hTH182 kH234 gw (by decide))).symm
    have m250 := (m202).trans (fI_kept (x_lt hTH182 kH234 gw (by decide))).symm
    have m251 := (m204).trans (fI_kept (x_lt hTH182 kH234 gw (by decide))).symm
    have m252 := (m206).trans (fR_kept (x_lt hTH182 kH234 gw (by decide))).symm
    have m253 := (fV_kept (x_lt hTH182 kH234 ga (by decide))).trans m209
    have m254 := (m211).trans (fI_kept (x_lt hTH182 kH234 gkq (by decide))).symm
    have m255 := (m212).trans (fI_kept (x_lt hTH182 kH234 giq (by decide))).symm
    have m256 := (m213).trans (fI_kept (x_lt hTH182 kH234 gkq (by decide))).symm
    have m257 := (m214).trans (fI_kept (x_lt hTH182 kH234 giq (by decide))).symm
    have m258 := (m215).trans (fI_kept (x_lt hTH182 kH234 gkq (by decide))).symm
    have m259 := (m216).trans (fI_kept (x_lt hTH182 kH234 giq (by decide))).symm
    have m260 := (m217).trans (fI_kept (x_lt hTH182 kH234 gkq (by decide))).symm
    have m261 := (m218).trans (fI_kept (x_lt hTH182 kH234 giq (by decide))).symm
    have m262 := (m219).trans (fI_kept (x_lt hTH182 kH234 gkq (by decide))).symm
    have m263 := (m220).trans (fI_kept (x_lt hTH182 kH234 giq (by decide))).symm
    have m264 := (m221).trans (fI_kept (x_lt hTH182 kH234 gkq (by decide))).symm
    have m265 := (m222).trans (fI_kept (x_lt hTH182 kH234 giq (by decide))).symm
    have m266 := (m223).trans (fR_kept (x_lt hTH182 kH234 gkq (by decide))).symm
    have m267 := (m193).trans (MF.i mf242 (k := 18) (by decide) (by decide)).symm
    have m268 := (m195).trans (MF.i mf242 (k := 1) (by decide) (by decide)).symm
    have m269 := (m197).trans (MF.i mf242 (k := 2) (by decide) (by decide)).symm
    have m270 := (m199).trans (MF.i mf242 (k := 3) (by decide) (by decide)).symm
    have m271 := (m201).trans (MF.i mf242 (k := 59) (by decide) (by decide)).symm
    have m272 := (m203).trans (MF.i mf242 (k := 62) (by decide) (by decide)).symm
    have m273 := (m205).trans (MF.i mf242 (k := 65) (by decide) (by decide)).symm
    have m274 := (m207).trans (MF.r mf242 (k := 50) (by decide) (by decide)).symm
    have m275 := (m208).trans (MF.i mf242 (k := 70) (by decide) (by decide)).symm
    have m276 := (m210).trans (MF.r mf242 (k := 73) (by decide) (by decide)).symm
    refine W.eq (g2 := F0 m 953 ls [.int x235, .int x183]) rfl ?_
    have v277 : ∀ j : Nat, j < 10 → cz224 j = fI H234 (fR H234 bq j) (K.1.2 0 14) := fun j h => (ecz224 j h).trans (by rw [fR_kept (x_lt hTH182 kH234 gbq (by decide))]; exact (fI_kept (x_lt hTH182 kH234 (bar_g hTH182 gbq j h) (by decide))).symm)
    obtain ⟨rz278, erz278⟩ : ∃ f : Nat → Int32, ∀ j : Nat, j < 10 → f j = fI H234 aq j := ⟨_, fun _ _ => rfl⟩
    have ur : ∀ j : Nat, j < 10 → 0 ≤ ((xs (i.toNatClampNeg + 1))).toInt → (j : Int) ≠ ((xs (i.toNatClampNeg + 1))).toInt → rz278 j = rz102 j := fun j h h0 hn => by rw [erz278 j h, v225 j h]; exact m243 j (by have hc := i_cl (x := ((xs (i.toNatClampNeg + 1)))) h0; omega)
    have ux0 : HD (((xs (i.toNatClampNeg + 1))).toInt < 0 → ∀ j : Nat, j < 10 → rz278 j = rz102 j) := by
      refine HD.mk ?_
      intro hx j h
      by_cases hj : j = ((xs (i.toNatClampNeg + 1))).toNatClampNeg
      · have e3 : (rz278 j).toInt = x236.toInt := by rw [erz278 j h, hj, ← ex236]
        have e5 : (rz102 j).toInt = x233.toInt := by rw [v225 j h, hj, ← ex233]
        exact Int32.toInt_inj.mp (by omega)
      · rw [erz278 j h, v225 j h]
        exact m243 j hj
    have v279 : ∀ j : Nat, j < 10 → kz176 j = fI H234 (fR H234 kb j) (K.1.2 0 14) := fun j h => (v226 j h).trans (by rw [fR_kept (x_lt hTH182 kH234 gkb (by decide))]; exact (fI_kept (x_lt hTH182 kH234 (bar_h hTH182 gkb j h) (by decide))).symm)
    have d280 := DB.kept d227 (x_lt hTH182 kH234 gkb (by decide))
    have v281 : ∀ j : Nat, j < 10 → iz177 j = fI H234 iq (11 + 6 * j) := fun j h => (v228 j h).trans (fI_kept (x_lt hTH182 kH234 giq (by decide))).symm
    have d282 := DB.kept d229 (x_lt hTH182 kH234 gbq (by decide))
    refine lv_icmp_eq (tgt := 1509) hx hb dL_law_953 (by decide) (fun ce => ?_) (fun ce => ?_)
    · skip
      have rel2 : ∀ j : Nat, j < 10 → (j : Int) < y1.toInt → cz224 j = rz278 j := by
        intro j h1 h2
        by_cases hj : (j : Int) = ((xs (i.toNatClampNeg + 1))).toInt
        · have c1 := i_cl (x := ((xs (i.toNatClampNeg + 1)))) (by omega)
          have ud : 0 ≤ ((xs (i.toNatClampNeg + 1))).toInt ∧ ((xs (i.toNatClampNeg + 1))).toInt < s1.toInt ∧ 0 ≤ ((xs (i.toNatClampNeg + 2))).toInt ∧ ((xs (i.toNatClampNeg + 2))).toInt ≤ 2 ∧ 0 ≤ ((xs (i.toNatClampNeg + 3))).toInt ∧ ((xs (i.toNatClampNeg + 3))).toInt ≤ 9999999 ∧ z181.toInt ≤ 11 → (cz224 ((xs (i.toNatClampNeg + 1))).toNatClampNeg).toInt = z181.toInt + 1 := fun h => by have hc := i_cl (x := ((xs (i.toNatClampNeg + 1)))) (by omega); obtain ⟨t, e1, e2⟩ := HD.get m185 h; rw [ecz224 _ (by omega), fR_kept (x_lt hT kH182 gbq (by decide)), ← e1]; exact e2
          have ue : ¬ (0 ≤ ((xs (i.toNatClampNeg + 1))).toInt ∧ ((xs (i.toNatClampNeg + 1))).toInt < s1.toInt ∧ 0 ≤ ((xs (i.toNatClampNeg + 2))).toInt ∧ ((xs (i.toNatClampNeg + 2))).toInt ≤ 2 ∧ 0 ≤ ((xs (i.toNatClampNeg + 3))).toInt ∧ ((xs (i.toNatClampNeg + 3))).toInt ≤ 9999999 ∧ z181.toInt ≤ 11) → ∀ j : Nat, j < 10 → cz224 j = cz101 j := fun h j hj => by rw [ecz224 j hj, fR_kept (x_lt hT kH182 gbq (by decide)), ecz101 j hj]; exact HD.get m186 h j hj
          have ut : 0 ≤ ((xs (i.toNatClampNeg + 1))).toInt → ((xs (i.toNatClampNeg + 1))).toInt ≤ 9 → (rz278 ((xs (i.toNatClampNeg + 1))).toNatClampNeg).toInt = x236.toInt := fun h0 h9 => by have hc := i_cl (x := ((xs (i.toNatClampNeg + 1)))) h0; rw [erz278 _ (by omega), ex236]
          have e3 := ut (by omega) (by omega)
          clear ut
          have ej : j = ((xs (i.toNatClampNeg + 1))).toNatClampNeg := by omega
          have e4 : ¬ (0 ≤ ((xs (i.toNatClampNeg + 1))).toInt ∧ ((xs (i.toNatClampNeg + 1))).toInt < s1.toInt ∧ 0 ≤ ((xs (i.toNatClampNeg + 2))).toInt ∧ ((xs (i.toNatClampNeg + 2))).toInt ≤ 2 ∧ 0 ≤ ((xs (i.toNatClampNeg + 3))).toInt ∧ ((xs (i.toNatClampNeg + 3))).toInt ≤ 9999999 ∧ z181.toInt ≤ 11) → (cz224 ((xs (i.toNatClampNeg + 1))).toNatClampNeg).toInt = z181.toInt := fun h => by rw [ue h _ (by omega), ez181, ← ecz101 _ (by omega)]
          clear ue
          rw [ej]
          exact Int32.toInt_inj.mp (by omega)
        · rw [uc j h1 hj]
          by_cases h0 : 0 ≤ ((xs (i.toNatClampNeg + 1))).toInt
          · rw [ur j h1 h0 hj]
            exact rel j h1 (by omega)
          · exact (rel j h1 (by omega)).trans (HD.get ux0 (by omega) j h1).symm
      have tl2 : ∀ j : Nat, j < 10 → y1.toInt ≤ (j : Int) → rz278 j = 0 := by
        intro j h1 h2
        by_cases h0 : 0 ≤ ((xs (i.toNatClampNeg + 1))).toInt
        · by_cases hj : (j : Int) = ((xs (i.toNatClampNeg + 1))).toInt
          · have c1 := i_cl (x := ((xs (i.toNatClampNeg + 1)))) h0
            have ut : 0 ≤ ((xs (i.toNatClampNeg + 1))).toInt → ((xs (i.toNatClampNeg + 1))).toInt ≤ 9 → (rz278 ((xs (i.toNatClampNeg + 1))).toNatClampNeg).toInt = x236.toInt := fun h0 h9 => by have hc := i_cl (x := ((xs (i.toNatClampNeg + 1)))) h0; rw [erz278 _ (by omega), ex236]
            have e3 := ut h0 (by omega)
            clear ut
            have ej : j = ((xs (i.toNatClampNeg + 1))).toNatClampNeg := by omega
            have e5 := congrArg Int32.toInt ((ex233).trans (v225 _ (by omega)).symm)
            have e6 := congrArg Int32.toInt (tl _ h1 (by omega))
            rw [ej] at e6 ⊢
            exact Int32.toInt_inj.mp (by omega)
          · rw [ur j h1 h0 hj]
            exact tl j h1 (by omega)
        · rw [HD.get ux0 (by omega) j h1]
          exact tl j h1 (by omega)
      exact nx G H234 locsH234 _ _ ls ⟨hTH234, hN, ga, gb, g238, g239, g240, g241, ⟨(by rw [← m245, ← m267]; exact rt), (by rw [← m244, ← m246, ← m268]; exact r1), (by rw [← m244, ← m247, ← m269]; exact r4), (by rw [← m244, ← m248, ← m270]; exact r5), (by rw [← m244, ← m249, ← m271]; exact r10), (by rw [← m244, ← m250, ← m272]; exact r13), (by rw [← m244, ← m251, ← m273]; exact r16)⟩, Or.inr ⟨kq, m253, gkq, (by rw [← m275]; exact h70), (by rw [← m254, ← m276, ← m255]; exact q1), (by rw [← m256, ← m276, ← m257]; exact q4), (by rw [← m258, ← m276, ← m259]; exact q5), (by rw [← m260, ← m276, ← m261]; exact q10), (by rw [← m262, ← m276, ← m263]; exact q13), (by rw [← m264, ← m276, ← m265]; exact q16), (by rw [← m266]; exact d280), (by rw [← m266, ← m276, ← m254]; exact fun j h1 h2 => by rw [← v279 j h1, ← v281 j h1]; exact vk0 j h1 (by omega)), (by rw [← m276, ← m254]; exact fun j h1 h2 => by rw [← v281 j h1]; exact vk1 j h1 (by omega))⟩, (by unfold RB; rw [← m244, ← m252, ← m237, ← m268]; exact ⟨d282, fun j h1 h2 => by rw [← v277 j h1, ← erz278 j h1]; exact rel2 j h1 (by omega), fun j h1 h2 => by rw [← erz278 j h1]; exact tl2 j h1 (by omega)⟩), hSH234⟩ hl ⟨hc, hs, fun h => by have h1 := h.symm.trans m253; cases h1⟩
    · exfalso
      have := i_ne ce
      omega