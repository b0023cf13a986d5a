set_option maxRecDepth 100000 in
set_option maxHeartbeats 8000000 in
theorem lw_c20 {p : Program} {l : Launch} {e : Env} {s : State} {m : MethodId} {below : List Frame} {meth : Method} {c : Code} {K : KE} {b0 L : Nat} {xs : Nat → Int32} {G : Nat → Option Nat} {H : Heap} {locs : List Loc} {a b : Nat} {cells slots : Nat} {ls : Array Slot} {i : Int32} {n : Nat} (D : LC p K s m meth c b0 L xs) (S : SX K s G H locs a b) (hl : lv_has ls 4 [(3, .int i), (2, .ref b), (1, .ref a), (0, .ref b0)]) (hi : 0 ≤ i.toInt ∧ i.toInt + 6 ≤ L) (hn : n ≤ 511) (hB : BD K H a cells slots) (nx : ∀ (G : Nat → Option Nat) (H : Heap) (locs : List Loc) (cells slots : Nat) (ls : Array Slot), SX K s G H locs a b → lv_has ls 4 [(3, .int i), (2, .ref b), (1, .ref a), (0, .ref b0)] → BD K H a cells slots → W p l e room_1 s m #[Value.ref b0] below meth c H locs cells slots (lw_Z below #[Value.ref b0] s) (F0 m 1509 ls [])) : W p l e room_1 s m #[Value.ref b0] below meth c H locs cells slots (lw_Z below #[Value.ref b0] s) (F0 m 958 ls []) := by
  have hI := hi
  obtain ⟨C, hX, hbl, hL⟩ := id D
  obtain ⟨hx, hb, hml, hown, hts, hKT, hr, hlocks, hnm⟩ := id C
  obtain ⟨hT, hN, ga, gb, cg, tu, wd, im, ⟨rt, r1, r4, r5, r10, r13, r16⟩, hk, hrb, hS⟩ := S
  obtain ⟨hc, hs, hB0⟩ := hB
  have n_m1 : ((-1) : Int32).toInt = -1 := rfl
  have n_0 : (0 : Int32).toInt = 0 := rfl
  have n_1 : (1 : Int32).toInt = 1 := rfl
  have n_2 : (2 : Int32).toInt = 2 := rfl
  have n_3 : (3 : Int32).toInt = 3 := rfl
  have n_4 : (4 : Int32).toInt = 4 := rfl
  obtain ⟨w, ew⟩ : ∃ z : Nat, z = fR H a (K.1.2 9 0) := ⟨_, rfl⟩
  have gw := ty_fr (q := w) (k := 0) (u := 0) ew hT ga rg_68 rfl
  rw [← ew] at r1 r4 r5 r10 r13 r16
  obtain ⟨ta, eta⟩ : ∃ z : Int32, z = fI H a (K.1.2 9 3) := ⟨_, rfl⟩
  rw [← eta] at rt
  obtain ⟨tb, etb⟩ : ∃ z : Int32, z = fI H b (K.1.2 10 18) := ⟨_, rfl⟩
  rw [← etb] at rt
  obtain ⟨s1, es1⟩ : ∃ z : Int32, z = fI H w (K.1.2 8 1) := ⟨_, rfl⟩
  rw [← es1] at r1
  obtain ⟨y1, ey1⟩ : ∃ z : Int32, z = fI H b (K.1.2 10 1) := ⟨_, rfl⟩
  rw [← ey1] at r1
  obtain ⟨s4, es4⟩ : ∃ z : Int32, z = fI H w (K.1.2 8 4) := ⟨_, rfl⟩
  rw [← es4] at r4
  obtain ⟨y4, ey4⟩ : ∃ z : Int32, z = fI H b (K.1.2 10 2) := ⟨_, rfl⟩
  rw [← ey4] at r4
  obtain ⟨s5, es5⟩ : ∃ z : Int32, z = fI H w (K.1.2 8 5) := ⟨_, rfl⟩
  rw [← es5] at r5
  obtain ⟨y5, ey5⟩ : ∃ z : Int32, z = fI H b (K.1.2 10 3) := ⟨_, rfl⟩
  rw [← ey5] at r5
  obtain ⟨s10, es10⟩ : ∃ z : Int32, z = fI H w (K.1.2 8 10) := ⟨_, rfl⟩
  rw [← es10] at r10
  obtain ⟨y10, ey10⟩ : ∃ z : Int32, z = fI H b (K.1.2 10 59) := ⟨_, rfl⟩
  rw [← ey10] at r10
  obtain ⟨s13, es13⟩ : ∃ z : Int32, z = fI H w (K.1.2 8 13) := ⟨_, rfl⟩
  rw [← es13] at r13
  obtain ⟨y13, ey13⟩ : ∃ z : Int32, z = fI H b (K.1.2 10 62) := ⟨_, rfl⟩
  rw [← ey13] at r13
  obtain ⟨s16, es16⟩ : ∃ z : Int32, z = fI H w (K.1.2 8 16) := ⟨_, rfl⟩
  rw [← es16] at r16
  obtain ⟨y16, ey16⟩ : ∃ z : Int32, z = fI H b (K.1.2 10 65) := ⟨_, rfl⟩
  rw [← ey16] at r16
  obtain ⟨bq, ebq⟩ : ∃ z : Nat, z = fR H w (K.1.2 8 0) := ⟨_, rfl⟩
  have gbq := ty_fr (q := bq) (k := 0) (u := 25) ebq hT gw rg_0 rfl
  obtain ⟨aq, eaq⟩ : ∃ z : Nat, z = fR H b (K.1.2 10 50) := ⟨_, rfl⟩
  have gaq := ty_fr (q := aq) (k := 50) (u := 146) eaq hT gb rg_112 rfl
  have bs1 := ty_fi (x := s1) (k := 1) es1 hT gw rg_0 rfl
  have by1 := ty_fi (x := y1) (k := 1) ey1 hT gb rg_112 rfl
  obtain ⟨db, vr, vt⟩ := hrb
  rw [← ew, ← ebq] at db
  rw [← ew, ← ebq, ← eaq, ← ey1] at vr
  rw [← eaq, ← ey1] at vt
  obtain ⟨cz101, ecz101⟩ : ∃ f : Nat → Int32, ∀ j : Nat, j < 10 → f j = fI H (fR H bq j) (K.1.2 0 14) := ⟨_, fun _ _ => rfl⟩
  obtain ⟨rz102, erz102⟩ : ∃ f : Nat → Int32, ∀ j : Nat, j < 10 → f j = fI H aq j := ⟨_, fun _ _ => rfl⟩
  have rel : ∀ j : Nat, j < 10 → (j : Int) < y1.toInt → cz101 j = rz102 j := fun j h1 h2 => by rw [ecz101 j h1, erz102 j h1]; exact vr j h1 h2
  clear vr
  have tl : ∀ j : Nat, j < 10 → y1.toInt ≤ (j : Int) → rz102 j = 0 := fun j h1 h2 => by rw [erz102 j h1]; exact vt j h1 h2
  clear vt
  rcases hk with ⟨kn, h70⟩ | ⟨kq, kn, gkq, h70, q1, q4, q5, q10, q13, q16, dbk, vk, vkt⟩
  · skip
    obtain ⟨hi, ehi⟩ : ∃ z : Int32, z = fI H b (K.1.2 10 70) := ⟨_, rfl⟩
    rw [← ehi] at h70
    obtain ⟨hc0, hs0⟩ := hB0 kn
    obtain ⟨iq, eiq⟩ : ∃ z : Nat, z = fR H b (K.1.2 10 73) := ⟨_, rfl⟩
    have giq := ty_fr (q := iq) (k := 73) (u := 162) eiq hT gb rg_112 rfl
    refine lv_aload_n hx hb dL_law_958 rfl (lv_at hl 2 rfl) ?_
    refine lv_aload_n hx hb dL_law_959 rfl (lv_at hl 3 rfl) ?_
    refine lv_iload_n hx hb dL_law_960 rfl (lv_at hl 0 rfl) ?_
    refine lv_iconst (v := 1) hx hb dL_law_961 (by decide) ?_
    refine lv_iadd hx hb dL_law_962 ?_
    refine lv_topi (fun x103 ex103 => ?_)
    obtain ⟨tx103, ejx103, evx103⟩ := lw_ix (k := 1) ex103 hI hL rfl (by decide)
    clear tx103
    refine va_sld hx hb hX hbl (Nat.not_le.mpr hbl) hS (vp_in_iff.mpr evx103) dL_law_963 ?_
    refine W.eq (g2 := F0 m 964 ls [.int (xs (i.toNatClampNeg + 1)), .ref a]) (congrArg (fun z => F0 m 964 ls [.int (xs z), .ref a]) ejx103) ?_
    refine lv_aload_n hx hb dL_law_964 rfl (lv_at hl 3 rfl) ?_
    refine lv_iload_n hx hb dL_law_965 rfl (lv_at hl 0 rfl) ?_
    refine lv_iconst (v := 2) hx hb dL_law_966 (by decide) ?_
    refine lv_iadd hx hb dL_law_967 ?_
    refine lv_topi (fun x104 ex104 => ?_)
    obtain ⟨tx104, ejx104, evx104⟩ := lw_ix (k := 2) ex104 hI hL rfl (by decide)
    clear tx104
    refine va_sld hx hb hX hbl (Nat.not_le.mpr hbl) hS (vp_in_iff.mpr evx104) dL_law_968 ?_
    refine W.eq (g2 := F0 m 969 ls [.int (xs (i.toNatClampNeg + 2)), .int (xs (i.toNatClampNeg + 1)), .ref a]) (congrArg (fun z => F0 m 969 ls [.int (xs z), .int (xs (i.toNatClampNeg + 1)), .ref a]) ejx104) ?_
    refine lv_aload_n hx hb dL_law_969 rfl (lv_at hl 3 rfl) ?_
    refine lv_iload_n hx hb dL_law_970 rfl (lv_at hl 0 rfl) ?_
    refine lv_iconst (v := 3) hx hb dL_law_971 (by decide) ?_
    refine lv_iadd hx hb dL_law_972 ?_
    refine lv_topi (fun x105 ex105 => ?_)
    obtain ⟨tx105, ejx105, evx105⟩ := lw_ix (k := 3) ex105 hI hL rfl (by decide)
    clear tx105
    refine va_sld hx hb hX hbl (Nat.not_le.mpr hbl) hS (vp_in_iff.mpr evx105) dL_law_973 ?_
    refine W.eq (g2 := F0 m 974 ls [.int (xs (i.toNatClampNeg + 3)), .int (xs (i.toNatClampNeg + 2)), .int (xs (i.toNatClampNeg + 1)), .ref a]) (congrArg (fun z => F0 m 974 ls [.int (xs z), .int (xs (i.toNatClampNeg + 2)), .int (xs (i.toNatClampNeg + 1)), .ref a]) ejx105) ?_
    refine lv_aload_n hx hb dL_law_974 rfl (lv_at hl 3 rfl) ?_
    refine lv_iload_n hx hb dL_law_975 rfl (lv_at hl 0 rfl) ?_
    refine lv_iconst (v := 4) hx hb dL_law_976 (by decide) ?_
    refine lv_iadd hx hb dL_law_977 ?_
    refine lv_topi (fun x106 ex106 => ?_)
    obtain ⟨tx106, ejx106, evx106⟩ := lw_ix (k := 4) ex106 hI hL rfl (by decide)
    clear tx106
    refine va_sld hx hb hX hbl (Nat.not_le.mpr hbl) hS (vp_in_iff.mpr evx106) dL_law_978 ?_
    refine W.eq (g2 := F0 m 979 ls [.int (xs (i.toNatClampNeg + 4)), .int (xs (i.toNatClampNeg + 3)), .int (xs (i.toNatClampNeg + 2)), .int (xs (i.toNatClampNeg + 1)), .ref a]) (congrArg (fun z => F0 m 979 ls [.int (xs z), .int (xs (i.toNatClampNeg + 3)), .int (xs (i.toNatClampNeg + 2)), .int (xs (i.toNatClampNeg + 1)), .ref a]) ejx106) ?_
    refine x_V (As := [.int (xs (i.toNatClampNeg + 1)), .int (xs (i.toNatClampNeg + 2)), .int (xs (i.toNatClampNeg + 3)), .int (xs (i.toNatClampNeg + 4))]) (rest := []) C (a_X9_fits l K G H ((xs (i.toNatClampNeg + 1))) ((xs (i.toNatClampNeg + 2))) ((xs (i.toNatClampNeg + 3))) ((xs (i.toNatClampNeg + 4))) hT ga) yo_X9_fits wM_L_100 ⟨⟨by decide, by decide⟩, show _ ≤ 1200000 from Nat.le_trans hc (by decide), show _ ≤ 5502250 from Nat.le_trans hs (by decide)⟩ (x_rv C hT (ci := 9) rfl ga rg_68) rfl hl.1 rfl (Nat.le_of_ble_eq_true rfl) dL_law_979 hS (AE_new hN hS.1) (fun vH107 H107 locsH107 pH107 zH107 kH107 hSH107 => ?_)
    obtain ⟨x108, hvH107, hTH107⟩ := pH107
    subst hvH107
    have g109 : CG (avw K H107 b) := CG.congr (fun k hk j => av_eff hT kH107 gb (by decide) (CG_eff [98, 101, 102, 103, 87, 88, 101, 99, 100, 83, 84] (by decide) k hk)) cg
    have g110 : TU (avw K H107 b) (svw K H107 b) := TU.congr (fun k hk j => av_eff hT kH107 gb (by decide) (TU_eff [98, 101, 102, 103, 87, 88, 101, 99, 100, 83, 84] (by decide) k hk)) (fun k hk => sv_eff hT kH107 gb (by decide)) tu
    have g111 : WD (avw K H107 b) := WD.congr (fun k hk j => av_eff hT kH107 gb (by decide) (WD_eff [98, 101, 102, 103, 87, 88, 101, 99, 100, 83, 84] (by decide) k hk)) wd
    have g112 : IM (avw K H107 b) := IM.congr (fun k hk j => av_eff hT kH107 gb (by decide) (IM_eff [98, 101, 102, 103, 87, 88, 101, 99, 100, 83, 84] (by decide) k hk)) im
    have m113 := (ew).trans (fR_kept (x_lt hT kH107 ga (by decide))).symm
    have m114 := (eta).trans (fI_kept (x_lt hT kH107 ga (by decide))).symm
    have m115 := (etb).trans (fI_kept (x_lt hT kH107 gb (by decide))).symm
    have m116 := (es1).trans (fI_kept (x_lt hT kH107 gw (by decide))).symm
    have m117 := (ey1).trans (fI_kept (x_lt hT kH107 gb (by decide))).symm
    have m118 := (es4).trans (fI_kept (x_lt hT kH107 gw (by decide))).symm
    have m119 := (ey4).trans (fI_kept (x_lt hT kH107 gb (by decide))).symm
    have m120 := (es5).trans (fI_kept (x_lt hT kH107 gw (by decide))).symm
    have m121 := (ey5).trans (fI_kept (x_lt hT kH107 gb (by decide))).symm
    have m122 := (es10).trans (fI_kept (x_lt hT kH107 gw (by decide))).symm
    have m123 := (ey10).trans (fI_kept (x_lt hT kH107 gb (by decide))).symm
    have m124 := (es13).trans (fI_kept (x_lt hT kH107 gw (by decide))).symm
    have m125 := (ey13).trans (fI_kept (x_lt hT kH107 gb (by decide))).symm
    have m126 := (es16).trans (fI_kept (x_lt hT kH107 gw (by decide))).symm
    have m127 := (ey16).trans (fI_kept (x_lt hT kH107 gb (by decide))).symm
    have m128 := (ebq).trans (fR_kept (x_lt hT kH107 gw (by decide))).symm
    have m129 := (eaq).trans (fR_kept (x_lt hT kH107 gb (by decide))).symm
    have m130 := (ehi).trans (fI_kept (x_lt hT kH107 gb (by decide))).symm
    have m131 := (fV_kept (x_lt hT kH107 ga (by decide))).trans kn
    have m132 := (eiq).trans (fR_kept (x_lt hT kH107 gb (by decide))).symm
    refine W.eq (g2 := F0 m 982 ls [.int x108]) rfl ?_
    have v133 : ∀ j : Nat, j < 10 → cz101 j = fI H107 (fR H107 bq j) (K.1.2 0 14) := fun j h => (ecz101 j h).trans (by rw [fR_kept (x_lt hT kH107 gbq (by decide))]; exact (fI_kept (x_lt hT kH107 (bar_g hT gbq j h) (by decide))).symm)
    have v134 : ∀ j : Nat, j < 10 → rz102 j = fI H107 aq j := fun j h => (erz102 j h).trans (fI_kept (x_lt hT kH107 gaq (by decide))).symm
    have d135 := DB.kept db (x_lt hT kH107 gbq (by decide))
    refine lv_pop hx hb dL_law_982 rfl ?_
    refine lv_aload_n hx hb dL_law_983 rfl (lv_at hl 1 rfl) ?_
    refine lv_aload_n hx hb dL_law_984 rfl (lv_at hl 3 rfl) ?_
    refine lv_iload_n hx hb dL_law_985 rfl (lv_at hl 0 rfl) ?_
    refine lv_iconst (v := 1) hx hb dL_law_986 (by decide) ?_
    refine lv_iadd hx hb dL_law_987 ?_
    refine lv_topi (fun x136 ex136 => ?_)
    obtain ⟨tx136, ejx136, evx136⟩ := lw_ix (k := 1) ex136 hI hL rfl (by decide)
    clear tx136
    refine va_sld hx hb hX hbl (Nat.not_le.mpr hbl) hSH107 (vp_in_iff.mpr evx136) dL_law_988 ?_
    refine W.eq (g2 := F0 m 989 ls [.int (xs (i.toNatClampNeg + 1)), .ref b]) (congrArg (fun z => F0 m 989 ls [.int (xs z), .ref b]) ejx136) ?_
    refine lv_aload_n hx hb dL_law_989 rfl (lv_at hl 3 rfl) ?_
    refine lv_iload_n hx hb dL_law_990 rfl (lv_at hl 0 rfl) ?_
    refine lv_iconst (v := 2) hx hb dL_law_991 (by decide) ?_
    refine lv_iadd hx hb dL_law_992 ?_
    refine lv_topi (fun x137 ex137 => ?_)
    obtain ⟨tx137, ejx137, evx137⟩ := lw_ix (k := 2) ex137 hI hL rfl (by decide)
    clear tx137
    refine va_sld hx hb hX hbl (Nat.not_le.mpr hbl) hSH107 (vp_in_iff.mpr evx137) dL_law_993 ?_
    refine W.eq (g2 := F0 m 994 ls [.int (xs (i.toNatClampNeg + 2)), .int (xs (i.toNatClampNeg + 1)), .ref b]) (congrArg (fun z => F0 m 994 ls [.int (xs z), .int (xs (i.toNatClampNeg + 1)), .ref b]) ejx137) ?_
    refine lv_aload_n hx hb dL_law_994 rfl (lv_at hl 3 rfl) ?_
    refine lv_iload_n hx hb dL_law_995 rfl (lv_at hl 0 rfl) ?_
    refine lv_iconst (v := 3) hx hb dL_law_996 (by decide) ?_
    refine lv_iadd hx hb dL_law_997 ?_
    refine lv_topi (fun x138 ex138 => ?_)
    obtain ⟨tx138, ejx138, evx138⟩ := lw_ix (k := 3) ex138 hI hL rfl (by decide)
    clear tx138
    refine va_sld hx hb hX hbl (Nat.not_le.mpr hbl) hSH107 (vp_in_iff.mpr evx138) dL_law_998 ?_
    refine W.eq (g2 := F0 m 999 ls [.int (xs (i.toNatClampNeg + 3)), .int (xs (i.toNatClampNeg + 2)), .int (xs (i.toNatClampNeg + 1)), .ref b]) (congrArg (fun z => F0 m 999 ls [.int (xs z), .int (xs (i.toNatClampNeg + 2)), .int (xs (i.toNatClampNeg + 1)), .ref b]) ejx138) ?_
    refine lv_aload_n hx hb dL_law_999 rfl (lv_at hl 3 rfl) ?_
    refine lv_iload_n hx hb dL_law_1000 rfl (lv_at hl 0 rfl) ?_
    refine lv_iconst (v := 4) hx hb dL_law_1001 (by decide) ?_
    refine lv_iadd hx hb dL_law_1002 ?_
    refine lv_topi (fun x139 ex139 => ?_)
    obtain ⟨tx139, ejx139, evx139⟩ := lw_ix (k := 4) ex139 hI hL rfl (by decide)
    clear tx139
    refine va_sld hx hb hX hbl (Nat.not_le.mpr hbl) hSH107 (vp_in_iff.mpr evx139) dL_law_1003 ?_
    refine W.eq (g2 := F0 m 1004 ls [.int (xs (i.toNatClampNeg + 4)), .int (xs (i.toNatClampNeg + 3)), .int (xs (i.toNatClampNeg + 2)), .int (xs (i.toNatClampNeg + 1)), .ref b]) (congrArg (fun z => F0 m 1004 ls [.int (xs z), .int (xs (i.toNatClampNeg + 3)), .int (xs (i.toNatClampNeg + 2)), .int (xs (i.toNatClampNeg + 1)), .ref b]) ejx139) ?_
    obtain ⟨q140, eq140⟩ : ∃ z : Nat, z = fR H107 b (K.1.2 10 4) := ⟨_, rfl⟩
    have gq140 := ty_fr (q := q140) (k := 4) (u := 113) eq140 hTH107 gb rg_112 rfl
    refine x_V (As := [.int (xs (i.toNatClampNeg + 1)), .int (xs (i.toNatClampNeg + 2)), .int (xs (i.toNatClampNeg + 3)), .int (xs (i.toNatClampNeg + 4))]) (rest := []) C (a_X10_fits l K G H107 ((xs (i.toNatClampNeg + 1))) ((xs (i.toNatClampNeg + 2))) ((xs (i.toNatClampNeg + 3))) ((xs (i.toNatClampNeg + 4))) hTH107 gb gq140 eq140 g109 g110 g111 g112) yo_X10_fits wM_L_104 ⟨⟨by decide, by decide⟩, show _ ≤ 1200000 from Nat.le_trans hc (by decide), show _ ≤ 5502250 from Nat.le_trans hs (by decide)⟩ (x_rv C hTH107 (ci := 10) rfl gb rg_112) rfl hl.1 rfl (Nat.le_of_ble_eq_true rfl) dL_law_1004 hSH107 (AE_new hN hSH107.1) (fun vH141 H141 locsH141 pH141 zH141 kH141 hSH141 => ?_)
    obtain ⟨x142, hvH141, m143, g144, g145, g146, g147, mf148, hTH141⟩ := pH141
    subst hvH141
    have m149 := (m113).trans (fR_kept (x_lt hTH107 kH141 ga (by decide))).symm
    have m150 := (m114).trans (fI_kept (x_lt hTH107 kH141 ga (by decide))).symm
    have m151 := (m116).trans (fI_kept (x_lt hTH107 kH141 gw (by decide))).symm
    have m152 := (m118).trans (fI_kept (x_lt hTH107 kH141 gw (by decide))).symm
    have m153 := (m120).trans (fI_kept (x_lt hTH107 kH141 gw (by decide))).symm
    have m154 := (m122).trans (fI_kept (x_lt hTH107 kH141 gw (by decide))).symm
    have m155 := (m124).trans (fI_kept (x_lt hTH107 kH141 gw (by decide))).symm
    have m156 := (m126).trans (fI_kept (x_lt hTH107 kH141 gw (by decide))).symm
    have m157 := (m128).trans (fR_kept (x_lt hTH107 kH141 gw (by decide))).symm
    have m158 := (fV_kept (x_lt hTH107 kH141 ga (by decide))).trans m131
    have m159 := (m115).trans (MF.i mf148 (k := 18) (by decide) (by decide)).symm
    have m160 := (m117).trans (MF.i mf148 (k := 1) (by decide) (by decide)).symm
    have m161 := (m119).trans (MF.i mf148 (k := 2) (by decide) (by decide)).symm
    have m162 := (m121).trans (MF.i mf148 (k := 3) (by decide) (by decide)).symm
    have m163 := (m123).trans (MF.i mf148 (k := 59) (by decide) (by decide)).symm
    have m164 := (m125).trans (MF.i mf148 (k := 62) (by decide) (by decide)).symm
    have m165 := (m127).trans (MF.i mf148 (k := 65) (by decide) (by decide)).symm
    have m166 := (m129).trans (MF.r mf148 (k := 50) (by decide) (by decide)).symm
    have m167 := (m130).trans (MF.i mf148 (k := 70) (by decide) (by decide)).symm
    have m168 := (m132).trans (MF.r mf148 (k := 73) (by decide) (by decide)).symm
    have m169 := (eq140).trans (MF.r mf148 (k := 4) (by decide) (by decide)).symm
    refine W.eq (g2 := F0 m 1007 ls [.int x142]) rfl ?_
    have v170 : ∀ j : Nat, j < 10 → cz101 j = fI H141 (fR H141 bq j) (K.1.2 0 14) := fun j h => (v133 j h).trans (by rw [fR_kept (x_lt hTH107 kH141 gbq (by decide))]; exact (fI_kept (x_lt hTH107 kH141 (bar_g hTH107 gbq j h) (by decide))).symm)
    have v171 : ∀ j : Nat, j < 10 → rz102 j = fI H141 aq j := fun j h => (v134 j h).trans (fI_kept (x_lt hTH107 kH141 gaq (by decide))).symm
    have d172 := DB.kept d135 (x_lt hTH107 kH141 gbq (by decide))
    refine lv_pop hx hb dL_law_1007 rfl ?_
    refine lv_goto (tgt := 1509) hx hb dL_law_1008 (by decide) ?_
    exact nx G H141 locsH141 _ _ ls ⟨hTH141, hN, ga, gb, g144, g145, g146, g147, ⟨(by rw [← m150, ← m159]; exact rt), (by rw [← m149, ← m151, ← m160]; exact r1), (by rw [← m149, ← m152, ← m161]; exact r4), (by rw [← m149, ← m153, ← m162]; exact r5), (by rw [← m149, ← m154, ← m163]; exact r10), (by rw [← m149, ← m155, ← m164]; exact r13), (by rw [← m149, ← m156, ← m165]; exact r16)⟩, Or.inl ⟨m158, (by rw [← m167]; exact h70)⟩, (by unfold RB; rw [← m149, ← m157, ← m166, ← m160]; exact ⟨d172, fun j h1 h2 => by rw [← v170 j h1, ← v171 j h1]; exact rel j h1 (by omega), fun j h1 h2 => by rw [← v171 j h1]; exact tl j h1 (by omega)⟩), hSH141⟩ hl ⟨hc, hs, fun _ => ⟨hc0, hs0⟩⟩
  · skip
    obtain ⟨hi, ehi⟩ : ∃ z : Int32, z = fI H b (K.1.2 10 70) := ⟨_, rfl⟩
    rw [← ehi] at h70
    obtain ⟨iq, eiq⟩ : ∃ z : Nat, z = fR H b (K.1.2 10 73) := ⟨_, rfl⟩
    have giq := ty_fr (q := iq) (k := 73) (u := 162) eiq hT gb rg_112 rfl
    rw [← eiq] at q1 q4 q5 q10 q13 q16
    obtain ⟨k1, ek1⟩ : ∃ z : Int32, z = fI H kq (K.1.2 8 1) := ⟨_, rfl⟩
    rw [← ek1] at q1
    obtain ⟨i1, ei1⟩ : ∃ z : Int32, z = fI H iq ((0 : Int32).toNatClampNeg) := ⟨_, rfl⟩
    rw [← ei1] at q1
    obtain ⟨k4, ek4⟩ : ∃ z : Int32, z = fI H kq (K.1.2 8 4) := ⟨_, rfl⟩
    rw [← ek4] at q4
    obtain ⟨i4, ei4⟩ : ∃ z : Int32, z = fI H iq ((1 : Int32).toNatClampNeg) := ⟨_, rfl⟩
    rw [← ei4] at q4
    obtain ⟨k5, ek5⟩ : ∃ z : Int32, z = fI H kq (K.1.2 8 5) := ⟨_, rfl⟩
    rw [← ek5] at q5
    obtain ⟨i5, ei5⟩ : ∃ z : Int32, z = fI H iq ((2 : Int32).toNatClampNeg) := ⟨_, rfl⟩
    rw [← ei5] at q5
    obtain ⟨k10, ek10⟩ : ∃ z : Int32, z = fI H kq (K.1.2 8 10) := ⟨_, rfl⟩
    rw [← ek10] at q10
    obtain ⟨i10, ei10⟩ : ∃ z : Int32, z = fI H iq ((3 : Int32).toNatClampNeg) := ⟨_, rfl⟩
    rw [← ei10] at q10
    obtain ⟨k13, ek13⟩ : ∃ z : Int32, z = fI H kq (K.1.2 8 13) := ⟨_, rfl⟩
    rw [← ek13] at q13
    obtain ⟨i13, ei13⟩ : ∃ z : Int32, z = fI H iq ((4 : Int32).toNatClampNeg) := ⟨_, rfl⟩
    rw [← ei13] at q13
    obtain ⟨k16, ek16⟩ : ∃ z : Int32, z = fI H kq (K.1.2 8 16) := ⟨_, rfl⟩
    rw [← ek16] at q16
    obtain ⟨i16, ei16⟩ : ∃ z : Int32, z = fI H iq ((5 : Int32).toNatClampNeg) := ⟨_, rfl⟩
    rw [← ei16] at q16
    obtain ⟨kb, ekb⟩ : ∃ z : Nat, z = fR H kq (K.1.2 8 0) := ⟨_, rfl⟩
    have gkb := ty_fr (q := kb) (k := 0) (u := 59) ekb hT gkq rg_34 rfl
    have bk1 := ty_fi (x := k1) (k := 1) ek1 hT gkq rg_34 rfl
    rw [← ekb] at dbk
    rw [← ekb, ← eiq, ← ek1] at vk
    rw [← eiq, ← ek1] at vkt
    obtain ⟨kz173, ekz173⟩ : ∃ f : Nat → Int32, ∀ j : Nat, j < 10 → f j = fI H (fR H kb j) (K.1.2 0 14) := ⟨_, fun _ _ => rfl⟩
    obtain ⟨iz174, eiz174⟩ : ∃ f : Nat → Int32, ∀ j : Nat, j < 10 → f j = fI H iq (11 + 6 * j) := ⟨_, fun _ _ => rfl⟩
    have vk0 : ∀ j : Nat, j < 10 → (j : Int) < k1.toInt → kz173 j = iz174 j := fun j h1 h2 => by rw [ekz173 j h1, eiz174 j h1]; exact vk j h1 h2
    clear vk
    have vk1 : ∀ j : Nat, j < 10 → k1.toInt ≤ (j : Int) → iz174 j = 0 := fun j h1 h2 => by rw [eiz174 j h1]; exact vkt j h1 h2
    clear vkt
    refine lv_aload_n hx hb dL_law_958 rfl (lv_at hl 2 rfl) ?_
    refine lv_aload_n hx hb dL_law_959 rfl (lv_at hl 3 rfl) ?_
    refine lv_iload_n hx hb dL_law_960 rfl (lv_at hl 0 rfl) ?_
    refine lv_iconst (v := 1) hx hb dL_law_961 (by decide) ?_
    refine lv_iadd hx hb dL_law_962 ?_
    refine lv_topi (fun x175 ex175 => ?_)
    obtain ⟨tx175, ejx175, evx175⟩ := lw_ix (k := 1) ex175 hI hL rfl (by decide)
    clear tx175
    refine va_sld hx hb hX hbl (Nat.not_le.mpr hbl) hS (vp_in_iff.mpr evx175) dL_law_963 ?_
    refine W.eq (g2 := F0 m 964 ls [.int (xs (i.toNatClampNeg + 1)), .ref a]) (congrArg (fun z => F0 m 964 ls [.int (xs z), .ref a]) ejx175) ?_
    refine lv_aload_n hx hb dL_law_964 rfl (lv_at hl 3 rfl) ?_
    refine lv_iload_n hx hb dL_law_965 rfl (lv_at hl 0 rfl) ?_
    refine lv_iconst (v := 2) hx hb dL_law_966 (by decide) ?_
    refine lv_iadd hx hb dL_law_967 ?_
    refine lv_topi (fun x176 ex176 => ?_)
    obtain ⟨tx176, ejx176, evx176⟩ := lw_ix (k := 2) ex176 hI hL rfl (by decide)
    clear tx176
    refine va_sld hx hb hX hbl (Nat.not_le.mpr hbl) hS (vp_in_iff.mpr evx176) dL_law_968 ?_
    refine W.eq (g2 := F0 m 969 ls [.int (xs (i.toNatClampNeg + 2)), .int (xs (i.toNatClampNeg + 1)), .ref a]) (congrArg (fun z => F0 m 969 ls [.int (xs z), .int (xs (i.toNatClampNeg + 1)), .ref a]) ejx176) ?_
    refine lv_aload_n hx hb dL_law_969 rfl (lv_at hl 3 rfl) ?_
    refine lv_iload_n hx hb dL_law_970 rfl (lv_at hl 0 rfl) ?_
    refine lv_iconst (v := 3) hx hb dL_law_971 (by decide) ?_
    refine lv_iadd hx hb dL_law_972 ?_
    refine lv_topi (fun x177 ex177 => ?_)
    obtain ⟨tx177, ejx177, evx177⟩ := lw_ix (k := 3) ex177 hI hL rfl (by decide)
    clear tx177
    refine va_sld hx hb hX hbl (Nat.not_le.mpr hbl) hS (vp_in_iff.mpr evx177) dL_law_973 ?_
    refine W.eq (g2 := F0 m 974 ls [.int (xs (i.toNatClampNeg + 3)), .int (xs (i.toNatClampNeg + 2)), .int (xs (i.toNatClampNeg + 1)), .ref a]) (congrArg (fun z => F0 m 974 ls [.int (xs z), .int (xs (i.toNatClampNeg + 2)), .int (xs (i.toNatClampNeg + 1)), .ref a]) ejx177) ?_
    refine lv_aload_n hx hb dL_law_974 rfl (lv_at hl 3 rfl) ?_
    refine lv_iload_n hx hb dL_law_975 rfl (lv_at hl 0 rfl) ?_
    refine lv_iconst (v := 4) hx hb dL_law_976 (by decide) ?_
    refine lv_iadd hx hb dL_law_977 ?_
    refine lv_topi (fun x178 ex178 => ?_)
    obtain ⟨tx178, ejx178, evx178⟩ := lw_ix (k := 4) ex178 hI hL rfl (by decide)
    clear tx178
    refine va_sld hx hb hX hbl (Nat.not_le.mpr hbl) hS (vp_in_iff.mpr evx178) dL_law_978 ?_
    refine W.eq (g2 := F0 m 979 ls [.int (xs (i.toNatClampNeg + 4)), .int (xs (i.toNatClampNeg + 3)), .int (xs (i.toNatClampNeg + 2)), .int (xs (i.toNatClampNeg + 1)), .ref a]) (congrArg (fun z => F0 m 979 ls [.int (xs z), .int (xs (i.toNatClampNeg + 3)), .int (xs (i.toNatClampNeg + 2)), .int (xs (i.toNatClampNeg + 1)), .ref a]) ejx178) ?_
    refine x_V (As := [.int (xs (i.toNatClampNeg + 1)), .int (xs (i.toNatClampNeg + 2)), .int (xs (i.toNatClampNeg + 3)), .int (xs (i.toNatClampNeg + 4))]) (rest := []) C (a_X9_fits l K G H ((xs (i.toNatClampNeg + 1))) ((xs (i.toNatClampNeg + 2))) ((xs (i.toNatClampNeg + 3))) ((xs (i.toNatClampNeg + 4))) hT ga) yo_X9_fits wM_L_100 ⟨⟨by decide, by decide⟩, show _ ≤ 1200000 from Nat.le_trans hc (by decide), show _ ≤ 5502250 from Nat.le_trans hs (by decide)⟩ (x_rv C hT (ci := 9) rfl ga rg_68) rfl hl.1 rfl (Nat.le_of_ble_eq_true rfl) dL_law_979 hS (AE_new hN hS.1) (fun vH179 H179 locsH179 pH179 zH179 kH179 hSH179 => ?_)
    obtain ⟨x180, hvH179, hTH179⟩ := pH179
    subst hvH179
    have g181 : CG (avw K H179 b) := CG.congr (fun k hk j => av_eff hT kH179 gb (by decide) (CG_eff [98, 101, 102, 103, 87, 88, 101, 99, 100, 83, 84] (by decide) k hk)) cg
    have g182 : TU (avw K H179 b) (svw K H179 b) := TU.congr (fun k hk j => av_eff hT kH179 gb (by decide) (TU_eff [98, 101, 102, 103, 87, 88, 101, 99, 100, 83, 84] (by decide) k hk)) (fun k hk => sv_eff hT kH179 gb (by decide)) tu
    have g183 : WD (avw K H179 b) := WD.congr (fun k hk j => av_eff hT kH179 gb (by decide) (WD_eff [98, 101, 102, 103, 87, 88, 101, 99, 100, 83, 84] (by decide) k hk)) wd
    have g184 : IM (avw K H179 b) := IM.congr (fun k hk j => av_eff hT kH179 gb (by decide) (IM_eff [98, 101, 102, 103, 87, 88, 101, 99, 100, 83, 84] (by decide) k hk)) im
    have m185 := (ew).trans (fR_kept (x_lt hT kH179 ga (by decide))).symm
    have m186 := (eta).trans (fI_kept (x_lt hT kH179 ga (by decide))).symm
    have m187 := (etb).trans (fI_kept (x_lt hT kH179 gb (by decide))).symm
    have m188 := (es1).trans (fI_kept (x_lt hT kH179 gw (by decide))).symm
    have m189 := (ey1).trans (fI_kept (x_lt hT kH179 gb (by decide))).symm
    have m190 := (es4).trans (fI_kept (x_lt hT kH179 gw (by decide))).symm
    have m191 := (ey4).trans (fI_kept (x_lt hT kH179 gb (by decide))).symm
    have m192 := (es5).trans (fI_kept (x_lt hT kH179 gw (by decide))).symm
    have m193 := (ey5).trans (fI_kept (x_lt hT kH179 gb (by decide))).symm
    have m194 := (es10).trans (fI_kept (x_lt hT kH179 gw (by decide))).symm
    have m195 := (ey10).trans (fI_kept (x_lt hT kH179 gb (by decide))).symm
    have m196 := (es13).trans (fI_kept (x_lt hT kH179 gw (by decide))).symm
    have m197 := (ey13).trans (fI_kept (x_lt hT kH179 gb (by decide))).symm
    have m198 := (es16).trans (fI_kept (x_lt hT kH179 gw (by decide))).symm
    have m199 := (ey16).trans (fI_kept (x_lt hT kH179 gb (by decide))).symm
    have m200 := (ebq).trans (fR_kept (x_lt hT kH179 gw (by decide))).symm
    have m201 := (eaq).trans (fR_kept (x_lt hT kH179 gb (by decide))).symm
    have m202 := (ehi).trans (fI_kept (x_lt hT kH179 gb (by decide))).symm
    have m203 := (fV_kept (x_lt hT kH179 ga (by decide))).trans kn
    have m204 := (eiq).trans (fR_kept (x_lt hT kH179 gb (by decide))).symm
    have m205 := (ek1).trans (fI_kept (x_lt hT kH179 gkq (by decide))).symm
    have m206 := (ei1).trans (fI_kept (x_lt hT kH179 giq (by decide))).symm
    have m207 := (ek4).trans (fI_kept (x_lt hT kH179 gkq (by decide))).symm
    have m208 := (ei4).trans (fI_kept (x_lt hT kH179 giq (by decide))).symm
    have m209 := (ek5).trans (fI_kept (x_lt hT kH179 gkq (by decide))).symm
    have m210 := (ei5).trans (fI_kept (x_lt hT kH179 giq (by decide))).symm
    have m211 := (ek10).trans (fI_kept (x_lt hT kH179 gkq (by decide))).symm
    have m212 := (ei10).trans (fI_kept (x_lt hT kH179 giq (by decide))).symm
    have m213 := (ek13).trans (fI_kept (x_lt hT kH179 gkq (by decide))).symm
    have m214 := (ei13).trans (fI_kept (x_lt hT kH179 giq (by decide))).symm
    have m215 := (ek16).trans (fI_kept (x_lt hT kH179 gkq (by decide))).symm
    have m216 := (ei16).trans (fI_kept (x_lt hT kH179 giq (by decide))).symm
    have m217 := (ekb).trans (fR_kept (x_lt hT kH179 gkq (by decide))).symm
    refine W.eq (g2 := F0 m 982 ls [.int x180]) rfl ?_
    have v218 : ∀ j : Nat, j < 10 → cz101 j = fI H179 (fR H179 bq j) (K.1.2 0 14) := fun j h => (ecz101 j h).trans (by rw [fR_kept (x_lt hT kH179 gbq (by decide))]; exact (fI_kept (x_lt hT kH179 (bar_g hT gbq j h) (by decide))).symm)
    have v219 : ∀ j : Nat, j < 10 → rz102 j = fI H179 aq j := fun j h => (erz102 j h).trans (fI_kept (x_lt hT kH179 gaq (by decide))).symm
    have v220 : ∀ j : Nat, j < 10 → kz173 j = fI H179 (fR H179 kb j) (K.1.2 0 14) := fun j h => (ekz173 j h).trans (by rw [fR_kept (x_lt hT kH179 gkb (by decide))]; exact (fI_kept (x_lt hT kH179 (bar_h hT gkb j h) (by decide))).symm)
    have d221 := DB.kept dbk (x_lt hT kH179 gkb (by decide))
    have v222 : ∀ j : Nat, j < 10 → iz174 j = fI H179 iq (11 + 6 * j) := fun j h => (eiz174 j h).trans (fI_kept (x_lt hT kH179 giq (by decide))).symm
    have d223 := DB.kept db (x_lt hT kH179 gbq (by decide))
    refine lv_pop hx hb dL_law_982 rfl ?_
    refine lv_aload_n hx hb dL_law_983 rfl (lv_at hl 1 rfl) ?_
    refine lv_aload_n hx hb dL_law_984 rfl (lv_at hl 3 rfl) ?_
    refine lv_iload_n hx hb dL_law_985 rfl (lv_at hl 0 rfl) ?_
    refine lv_iconst (v := 1) hx hb dL_law_986 (by decide) ?_
    refine lv_iadd hx hb dL_law_987 ?_
    refine lv_topi (fun x224 ex224 => ?_)
    obtain ⟨tx224, ejx224, evx224⟩ := lw_ix (k := 1) ex224 hI hL rfl (by decide)
    clear tx224
    refine va_sld hx hb hX hbl (Nat.not_le.mpr hbl) hSH179 (vp_in_iff.mpr evx224) dL_law_988 ?_
    refine W.eq (g2 := F0 m 989 ls [.int (xs (i.toNatClampNeg + 1)), .ref b]) (congrArg (fun z => F0 m 989 ls [.int (xs z), .ref b]) ejx224) ?_
    refine lv_aload_n hx hb dL_law_989 rfl (lv_at hl 3 rfl) ?_
    refine lv_iload_n hx hb dL_law_990 rfl (lv_at hl 0 rfl) ?_
    refine lv_iconst (v := 2) hx hb dL_law_991 (by decide) ?_
    refine lv_iadd hx hb dL_law_992 ?_
    refine lv_topi (fun x225 ex225 => ?_)
    obtain ⟨tx225, ejx225, evx225⟩ := lw_ix (k := 2) ex225 hI hL rfl (by decide)
    clear tx225
    refine va_sld hx hb hX hbl (Nat.not_le.mpr hbl) hSH179 (vp_in_iff.mpr evx225) dL_law_993 ?_
    refine W.eq (g2 := F0 m 994 ls [.int (xs (i.toNatClampNeg + 2)), .int (xs (i.toNatClampNeg + 1)), .ref b]) (congrArg (fun z => F0 m 994 ls [.int (xs z), .int (xs (i.toNatClampNeg + 1)), .ref b]) ejx225) ?_
    refine lv_aload_n hx hb dL_law_994 rfl (lv_at hl 3 rfl) ?_
    refine lv_iload_n hx hb dL_law_995 rfl (lv_at hl 0 rfl) ?_
    refine lv_iconst (v := 3) hx hb dL_law_996 (by decide) ?_
    refine lv_iadd hx hb dL_law_997 ?_
    refine lv_topi (fun x226 ex226 => ?_)
    obtain ⟨tx226, ejx226, evx226⟩ := lw_ix (k := 3) ex226 hI hL rfl (by decide)
    clear tx226
    refine va_sld hx hb hX hbl (Nat.not_le.mpr hbl) hSH179 (vp_in_iff.mpr evx226) dL_law_998 ?_
    refine W.eq (g2 := F0 m 999 ls [.int (xs (i.toNatClampNeg + 3)), .int (xs (i.toNatClampNeg + 2)), .int (xs (i.toNatClampNeg + 1)), .ref b]) (congrArg (fun z => F0 m 999 ls [.int (xs z), .int (xs (i.toNatClampNeg + 2)), .int (xs (i.toNatClampNeg + 1)), .ref b]) ejx226) ?_
    refine lv_aload_n hx hb dL_law_999 rfl (lv_at hl 3 rfl) ?_
    refine lv_iload_n hx hb dL_law_1000 rfl (lv_at hl 0 rfl) ?_
    refine lv_iconst (v := 4) hx hb dL_law_1001 (by decide) ?_
    refine lv_iadd hx hb dL_law_1002 ?_
    refine lv_topi (fun x227 ex227 => ?_)
    obtain ⟨tx227, ejx227, evx227⟩ := lw_ix (k := 4) ex227 hI hL rfl (by decide)
    clear tx227
    refine va_sld hx hb hX hbl (Nat.not_le.mpr hbl) hSH179 (vp_in_iff.mpr evx227) dL_law_1003 ?_
    refine W.eq (g2 := F0 m 1004 ls [.int (xs (i.toNatClampNeg + 4)), .int (xs (i.toNatClampNeg + 3)), .int (xs (i.toNatClampNeg + 2)), .int (xs (i.toNatClampNeg + 1)), .ref b]) (congrArg (fun z => F0 m 1004 ls [.int (xs z), .int (xs (i.toNatClampNeg + 3)), .int (xs (i.toNatClampNeg + 2)), .int (xs (i.toNatClampNeg + 1)), .ref b]) ejx227) ?_
    obtain ⟨q228, eq228⟩ : ∃ z : Nat, z = fR H179 b (K.1.2 10 4) := ⟨_, rfl⟩
    have gq228 := ty_fr (q := q228) (k := 4) (u := 113) eq228 hTH179 gb rg_112 rfl
    refine x_V (As := [.int (xs (i.toNatClampNeg + 1)), .int (xs (i.toNatClampNeg + 2)), .int (xs (i.toNatClampNeg + 3)), .int (xs (i.toNatClampNeg + 4))]) (rest := []) C (a_X10_fits l K G H179 ((xs (i.toNatClampNeg + 1))) ((xs (i.toNatClampNeg + 2))) ((xs (i.toNatClampNeg + 3))) ((xs (i.toNatClampNeg + 4))) hTH179 gb gq228 eq228 g181 g182 g183 g184) yo_X10_fits wM_L_104 ⟨⟨by decide, by decide⟩, show _ ≤ 1200000 from Nat.le_trans hc (by decide), show _ ≤ 5502250 from Nat.le_trans hs (by decide)⟩ (x_rv C hTH179 (ci := 10) rfl gb rg_112) rfl hl.1 rfl (Nat.le_of_ble_eq_true rfl) dL_law_1004 hSH179 (AE_new hN hSH179.1) (fun vH229 H229 locsH229 pH229 zH229 kH229 hSH229 => ?_)
    obtain ⟨x230, hvH229, m231, g232, g233, g234, g235, mf236, hTH229⟩ := pH229
    subst hvH229
    have m237 := (m185).trans (fR_kept (x_lt hTH179 kH229 ga (by decide))).symm
    have m238 := (m186).trans (fI_kept (x_lt hTH179 kH229 ga (by decide))).symm
    have m239 := (m188).trans (fI_kept (x_lt hTH179 kH229 gw (by decide))).symm
    have m240 := (m190).trans (fI_kept (x_lt hTH179 kH229 gw (by decide))).symm
    have m241 := (m192).trans (fI_kept (x_lt hTH179 kH229 gw (by decide))).symm
    have m242 := (m194).trans (fI_kept (x_lt hTH179 kH229 gw (by decide))).symm
    have m243 := (m196).trans (fI_kept (x_lt hTH179 kH229 gw (by decide))).symm
    have m244 := (m198).trans (fI_kept (x_lt hTH179 kH229 gw (by decide))).symm
    have m245 := (m200).trans (fR_kept (x_lt hTH179 kH229 gw (by decide))).symm
    have m246 := (fV_kept (x_lt hTH179 kH229 ga (by decide))).trans m203
    have m247 := (m205).trans (fI_kept (x_lt hTH179 kH229 gkq (by decide))).symm
    have m248 := (m206).trans (fI_kept (x_lt hTH179 kH229 giq (by decide))).symm
    have m249 := (m207).trans (fI_kept (x_lt hTH179 kH229 gkq (by decide))).symm
    have m250 := (m208).trans (fI_kept (x_lt hTH179 kH229 giq (by decide))).symm
    have m251 := (m209).trans (fI_kept (x_lt hTH179 kH229 gkq (by decide))).symm
    have m252 := (m210).trans (fI_kept (x_lt hTH179 kH229 giq (by decide))).symm
    have m253 := (m211).trans (fI_kept (x_lt hTH179 kH229 gkq (by decide))).symm
    have m254 := (m212).trans (fI_kept (x_lt hTH179 kH229 giq (by decide))).symm
    have m255 := (m213).trans (fI_kept (x_lt hTH179 kH229 gkq (by decide))).symm
    have m256 := (m214).trans (fI_kept (x_lt hTH179 kH229 giq (by decide))).symm
    have m257 := (m215).trans (fI_kept (x_lt hTH179 kH229 gkq (by decide))).symm
    have m258 := (m216).trans (fI_kept (x_lt hTH179 kH229 giq (by decide))).symm
    have m259 := (m217).trans (fR_kept (x_lt hTH179 kH229 gkq (by decide))).symm
    have m260 := (m187).trans (MF.i mf236 (k := 18) (by decide) (by decide)).symm
    have m261 := (m189).trans (MF.i mf236 (k := 1) (by decide) (by decide)).symm
    have m262 := (m191).trans (MF.i mf236 (k := 2) (by decide) (by decide)).symm
    have m263 := (m193).trans (MF.i mf236 (k := 3) (by decide) (by decide)).symm
    have m264 := (m195).trans (MF.i mf236 (k := 59) (by decide) (by decide)).symm
    have m265 := (m197).trans (MF.i mf236 (k := 62) (by decide) (by decide)).symm
    have m266 := (m199).trans (MF.i mf236 (k := 65) (by decide) (by decide)).symm
    have m267 := (m201).trans (MF.r mf236 (k := 50) (by decide) (by decide)).symm
    have m268 := (m202).trans (MF.i mf236 (k := 70) (by decide) (by decide)).symm
    have m269 := (m204).trans (MF.r mf236 (k := 73) (by decide) (by decide)).symm
    have m270 := (eq228).trans (MF.r mf236 (k := 4) (by decide) (by decide)).symm
    refine W.eq (g2 := F0 m 1007 ls [.int x230]) rfl ?_
    have v271 : ∀ j : Nat, j < 10 → cz101 j = fI H229 (fR H229 bq j) (K.1.2 0 14) := fun j h => (v218 j h).trans (by rw [fR_kept (x_lt hTH179 kH229 gbq (by decide))]; exact (fI_kept (x_lt hTH179 kH229 (bar_g hTH179 gbq j h) (by decide))).symm)
    have v272 : ∀ j : Nat, j < 10 → rz102 j = fI H229 aq j := fun j h => (v219 j h).trans (fI_kept (x_lt hTH179 kH229 gaq (by decide))).symm
    have v273 : ∀ j : Nat, j < 10 → kz173 j = fI H229 (fR H229 kb j) (K.1.2 0 14) := fun j h => (v220 j h).trans (by rw [fR_kept (x_lt hTH179 kH229 gkb (by decide))]; exact (fI_kept (x_lt hTH179 kH229 (bar_h hTH179 gkb j h) (by decide))).symm)
    have d274 := DB.kept d221 (x_lt hTH179 kH229 gkb (by decide))
    have v275 : ∀ j : Nat, j < 10 → iz174 j = fI H229 iq (11 + 6 * j) := fun j h => (v222 j h).trans (fI_kept (x_lt hTH179 kH229 giq (by decide))).symm
    have d276 := DB.kept d223 (x_lt hTH179 kH229 gbq (by decide))
    refine lv_pop hx hb dL_law_1007 rfl ?_
    refine lv_goto (tgt := 1509) hx hb dL_law_1008 (by decide) ?_
    exact nx G H229 locsH229 _ _ ls ⟨hTH229, hN, ga, gb, g232, g233, g234, g235, ⟨(by rw [← m238, ← m260]; exact rt), (by rw [← m237, ← m239, ← m261]; exact r1), (by rw [← m237, ← m240, ← m262]; exact r4), (by rw [← m237, ← m241, ← m263]; exact r5), (by rw [← m237, ← m242, ← m264]; exact r10), (by rw [← m237, ← m243, ← m265]; exact r13), (by rw [← m237, ← m244, ← m266]; exact r16)⟩, Or.inr ⟨kq, m246, gkq, (by rw [← m268]; exact h70), (by rw [← m247, ← m269, ← m248]; exact q1), (by rw [← m249, ← m269, ← m250]; exact q4), (by rw [← m251, ← m269, ← m252]; exact q5), (by rw [← m253, ← m269, ← m254]; exact q10), (by rw [← m255, ← m269, ← m256]; exact q13), (by rw [← m257, ← m269, ← m258]; exact q16), (by rw [← m259]; exact d274), (by rw [← m259, ← m269, ← m247]; exact fun j h1 h2 => by rw [← v273 j h1, ← v275 j h1]; exact vk0 j h1 (by omega)), (by rw [← m269, ← m247]; exact fun j h1 h2 => by rw [← v275 j h1]; exact vk1 j h1 (by omega))⟩, (by unfold RB; rw [← m237, ← m245, ← m267, ← m261]; exact ⟨d276, fun j h1 h2 => by rw [← v271 j h1, ← v272 j h1]; exact rel j h1 (by omega), fun j h1 h2 => by rw [← v272 j h1]; exact tl j h1 (by omega)⟩), hSH229⟩ hl ⟨hc, hs, fun h => by have h1 := h.symm.trans m246; cases h1⟩
set_option maxRecDepth 100000 in
set_option maxHeartbeats 8000000 in
theorem lw_c21 {p : Program} {l : Launch} {e : Env} {s : State} {m : MethodId} {below : List Frame} {meth : Method} {c : Code} {K : KE} {b0 L : Nat} {xs : Nat → Int32} {G : Nat → Option Nat} {H : Heap} {locs : List Loc} {a b : Nat} {cells slots : Nat} {ls : Array Slot} {i : Int32} {n : Nat} (D : LC p K s m meth c b0 L xs) (S : SX K s G H locs a b) (hl : lv_has ls 4 [(3, .int i), (2, .ref b), (1, .ref a), (0, .ref b0)]) (hi : 0 ≤ i.toInt ∧ i.toInt + 6 ≤ L) (hn : n ≤ 511) (hB : BD K H a cells slots) (nx : ∀ (G : Nat → Option Nat) (H : Heap) (locs : List Loc) (cells slots : Nat) (ls : Array Slot), SX K s G H locs a b → lv_has ls 4 [(3, .int i), (2, .ref b), (1, .ref a), (0, .ref b0)] → BD K H a cells slots → W p l e room_1 s m #[Value.ref b0] below meth c H locs cells slots (lw_Z below #[Value.ref b0] s) (F0 m 1509 ls [])) : W p l e room_1 s m #[Value.ref b0] below meth c H locs cells slots (lw_Z below #[Value.ref b0] s) (F0 m 1011 ls []) := by
  have hI := hi
  obtain ⟨C, hX, hbl, hL⟩ := id D
  obtain ⟨hx, hb, hml, hown, hts, hKT, hr, hlocks, hnm⟩ := id C
  obtain ⟨hT, hN, ga, gb, cg, tu, wd, im, ⟨rt, r1, r4, r5, r10, r13, r16⟩, hk, hrb, hS⟩ := S
  obtain ⟨hc, hs, hB0⟩ := hB
  have n_m1 : ((-1) : Int32).toInt = -1 := rfl
  have n_0 : (0 : Int32).toInt = 0 := rfl
  have n_1 : (1 : Int32).toInt = 1 := rfl
  obtain ⟨w, ew⟩ : ∃ z : Nat, z = fR H a (K.1.2 9 0) := ⟨_, rfl⟩
  have gw := ty_fr (q := w) (k := 0) (u := 0) ew hT ga rg_68 rfl
  rw [← ew] at r1 r4 r5 r10 r13 r16
  obtain ⟨ta, eta⟩ : ∃ z : Int32, z = fI H a (K.1.2 9 3) := ⟨_, rfl⟩
  rw [← eta] at rt
  obtain ⟨tb, etb⟩ : ∃ z : Int32, z = fI H b (K.1.2 10 18) := ⟨_, rfl⟩
  rw [← etb] at rt
  obtain ⟨s1, es1⟩ : ∃ z : Int32, z = fI H w (K.1.2 8 1) := ⟨_, rfl⟩
  rw [← es1] at r1
  obtain ⟨y1, ey1⟩ : ∃ z : Int32, z = fI H b (K.1.2 10 1) := ⟨_, rfl⟩
  rw [← ey1] at r1
  obtain ⟨s4, es4⟩ : ∃ z : Int32, z = fI H w (K.1.2 8 4) := ⟨_, rfl⟩
  rw [← es4] at r4
  obtain ⟨y4, ey4⟩ : ∃ z : Int32, z = fI H b (K.1.2 10 2) := ⟨_, rfl⟩
  rw [← ey4] at r4
  obtain ⟨s5, es5⟩ : ∃ z : Int32, z = fI H w (K.1.2 8 5) := ⟨_, rfl⟩
  rw [← es5] at r5
  obtain ⟨y5, ey5⟩ : ∃ z : Int32, z = fI H b (K.1.2 10 3) := ⟨_, rfl⟩
  rw [← ey5] at r5
  obtain ⟨s10, es10⟩ : ∃ z : Int32, z = fI H w (K.1.2 8 10) := ⟨_, rfl⟩
  rw [← es10] at r10
  obtain ⟨y10, ey10⟩ : ∃ z : Int32, z = fI H b (K.1.2 10 59) := ⟨_, rfl⟩
  rw [← ey10] at r10
  obtain ⟨s13, es13⟩ : ∃ z : Int32, z = fI H w (K.1.2 8 13) := ⟨_, rfl⟩
  rw [← es13] at r13
  obtain ⟨y13, ey13⟩ : ∃ z : Int32, z = fI H b (K.1.2 10 62) := ⟨_, rfl⟩
  rw [← ey13] at r13
  obtain ⟨s16, es16⟩ : ∃ z : Int32, z = fI H w (K.1.2 8 16) := ⟨_, rfl⟩
  rw [← es16] at r16
  obtain ⟨y16, ey16⟩ : ∃ z : Int32, z = fI H b (K.1.2 10 65) := ⟨_, rfl⟩
  rw [← ey16] at r16
  obtain ⟨bq, ebq⟩ : ∃ z : Nat, z = fR H w (K.1.2 8 0) := ⟨_, rfl⟩
  have gbq := ty_fr (q := bq) (k := 0) (u := 25) ebq hT gw rg_0 rfl
  obtain ⟨aq, eaq⟩ : ∃ z : Nat, z = fR H b (K.1.2 10 50) := ⟨_, rfl⟩
  have gaq := ty_fr (q := aq) (k := 50) (u := 146) eaq hT gb rg_112 rfl
  have bs1 := ty_fi (x := s1) (k := 1) es1 hT gw rg_0 rfl
  have by1 := ty_fi (x := y1) (k := 1) ey1 hT gb rg_112 rfl
  obtain ⟨db, vr, vt⟩ := hrb
  rw [← ew, ← ebq] at db
  rw [← ew, ← ebq, ← eaq, ← ey1] at vr
  rw [← eaq, ← ey1] at vt
  obtain ⟨cz101, ecz101⟩ : ∃ f : Nat → Int32, ∀ j : Nat, j < 10 → f j = fI H (fR H bq j) (K.1.2 0 14) := ⟨_, fun _ _ => rfl⟩
  obtain ⟨rz102, erz102⟩ : ∃ f : Nat → Int32, ∀ j : Nat, j < 10 → f j = fI H aq j := ⟨_, fun _ _ => rfl⟩
  have rel : ∀ j : Nat, j < 10 → (j : Int) < y1.toInt → cz101 j = rz102 j := fun j h1 h2 => by rw [ecz101 j h1, erz102 j h1]; exact vr j h1 h2
  clear vr
  have tl : ∀ j : Nat, j < 10 → y1.toInt ≤ (j : Int) → rz102 j = 0 := fun j h1 h2 => by rw [erz102 j h1]; exact vt j h1 h2
  clear vt
  rcases hk with ⟨kn, h70⟩ | ⟨kq, kn, gkq, h70, q1, q4, q5, q10, q13, q16, dbk, vk, vkt⟩
  · skip
    obtain ⟨hi, ehi⟩ : ∃ z : Int32, z = fI H b (K.1.2 10 70) := ⟨_, rfl⟩
    rw [← ehi] at h70
    obtain ⟨hc0, hs0⟩ := hB0 kn
    obtain ⟨iq, eiq⟩ : ∃ z : Nat, z = fR H b (K.1.2 10 73) := ⟨_, rfl⟩
    have giq := ty_fr (q := iq) (k := 73) (u := 162) eiq hT gb rg_112 rfl
    refine lv_aload_n hx hb dL_law_1011 rfl (lv_at hl 2 rfl) ?_
    refine lv_aload_n hx hb dL_law_1012 rfl (lv_at hl 3 rfl) ?_
    refine lv_iload_n hx hb dL_law_1013 rfl (lv_at hl 0 rfl) ?_
    refine lv_iconst (v := 1) hx hb dL_law_1014 (by decide) ?_
    refine lv_iadd hx hb dL_law_1015 ?_
    refine lv_topi (fun x103 ex103 => ?_)
    obtain ⟨tx103, ejx103, evx103⟩ := lw_ix (k := 1) ex103 hI hL rfl (by decide)
    clear tx103
    refine va_sld hx hb hX hbl (Nat.not_le.mpr hbl) hS (vp_in_iff.mpr evx103) dL_law_1016 ?_
    refine W.eq (g2 := F0 m 1017 ls [.int (xs (i.toNatClampNeg + 1)), .ref a]) (congrArg (fun z => F0 m 1017 ls [.int (xs z), .ref a]) ejx103) ?_
    refine x_V (As := [.int (xs (i.toNatClampNeg + 1))]) (rest := []) C (a_X9_off l K G H ((xs (i.toNatClampNeg + 1))) hT ga) yo_X9_off wM_L_105 ⟨⟨by decide, by decide⟩, show _ ≤ 1200000 from Nat.le_trans hc (by decide), show _ ≤ 5502250 from Nat.le_trans hs (by decide)⟩ (x_rv C hT (ci := 9) rfl ga rg_68) rfl hl.1 rfl (Nat.le_of_ble_eq_true rfl) dL_law_1017 hS (AE_new hN hS.1) (fun vH104 H104 locsH104 pH104 zH104 kH104 hSH104 => ?_)
    obtain ⟨x105, hvH104, hTH104⟩ := pH104
    subst hvH104
    have g106 : CG (avw K H104 b) := CG.congr (fun k hk j => av_eff hT kH104 gb (by decide) (CG_eff [83, 84] (by decide) k hk)) cg
    have g107 : TU (avw K H104 b) (svw K H104 b) := TU.congr (fun k hk j => av_eff hT kH104 gb (by decide) (TU_eff [83, 84] (by decide) k hk)) (fun k hk => sv_eff hT kH104 gb (by decide)) tu
    have g108 : WD (avw K H104 b) := WD.congr (fun k hk j => av_eff hT kH104 gb (by decide) (WD_eff [83, 84] (by decide) k hk)) wd
    have g109 : IM (avw K H104 b) := IM.congr (fun k hk j => av_eff hT kH104 gb (by decide) (IM_eff [83, 84] (by decide) k hk)) im
    have m110 := (ew).trans (fR_kept (x_lt hT kH104 ga (by decide))).symm
    have m111 := (eta).trans (fI_kept (x_lt hT kH104 ga (by decide))).symm
    have m112 := (etb).trans (fI_kept (x_lt hT kH104 gb (by decide))).symm
    have m113 := (es1).trans (fI_kept (x_lt hT kH104 gw (by decide))).symm
    have m114 := (ey1).trans (fI_kept (x_lt hT kH104 gb (by decide))).symm
    have m115 := (es4).trans (fI_kept (x_lt hT kH104 gw (by decide))).symm
    have m116 := (ey4).trans (fI_kept (x_lt hT kH104 gb (by decide))).symm
    have m117 := (es5).trans (fI_kept (x_lt hT kH104 gw (by decide))).symm
    have m118 := (ey5).trans (fI_kept (x_lt hT kH104 gb (by decide))).symm
    have m119 := (es10).trans (fI_kept (x_lt hT kH104 gw (by decide))).symm
    have m120 := (ey10).trans (fI_kept (x_lt hT kH104 gb (by decide))).symm
    have m121 := (es13).trans (fI_kept (x_lt hT kH104 gw (by decide))).symm
    have m122 := (ey13).trans (fI_kept (x_lt hT kH104 gb (by decide))).symm
    have m123 := (es16).trans (fI_kept (x_lt hT kH104 gw (by decide))).symm
    have m124 := (ey16).trans (fI_kept (x_lt hT kH104 gb (by decide))).symm
    have m125 := (ebq).trans (fR_kept (x_lt hT kH104 gw (by decide))).symm
    have m126 := (eaq).trans (fR_kept (x_lt hT kH104 gb (by decide))).symm
    have m127 := (ehi).trans (fI_kept (x_lt hT kH104 gb (by decide))).symm
    have m128 := (fV_kept (x_lt hT kH104 ga (by decide))).trans kn
    have m129 := (eiq).trans (fR_kept (x_lt hT kH104 gb (by decide))).symm
    refine W.eq (g2 := F0 m 1020 ls [.int x105]) rfl ?_
    have v130 : ∀ j : Nat, j < 10 → cz101 j = fI H104 (fR H104 bq j) (K.1.2 0 14) := fun j h => (ecz101 j h).trans (by rw [fR_kept (x_lt hT kH104 gbq (by decide))]; exact (fI_kept (x_lt hT kH104 (bar_g hT gbq j h) (by decide))).symm)
    have v131 : ∀ j : Nat, j < 10 → rz102 j = fI H104 aq j := fun j h => (erz102 j h).trans (fI_kept (x_lt hT kH104 gaq (by decide))).symm
    have d132 := DB.kept db (x_lt hT kH104 gbq (by decide))
    refine lv_pop hx hb dL_law_1020 rfl ?_
    refine lv_aload_n hx hb dL_law_1021 rfl (lv_at hl 1 rfl) ?_
    refine lv_aload_n hx hb dL_law_1022 rfl (lv_at hl 3 rfl) ?_
    refine lv_iload_n hx hb dL_law_1023 rfl (lv_at hl 0 rfl) ?_
    refine lv_iconst (v := 1) hx hb dL_law_1024 (by decide) ?_
    refine lv_iadd hx hb dL_law_1025 ?_
    refine lv_topi (fun x133 ex133 => ?_)
    obtain ⟨tx133, ejx133, evx133⟩ := lw_ix (k := 1) ex133 hI hL rfl (by decide)
    clear tx133
    refine va_sld hx hb hX hbl (Nat.not_le.mpr hbl) hSH104 (vp_in_iff.mpr evx133) dL_law_1026 ?_
    refine W.eq (g2 := F0 m 1027 ls [.int (xs (i.toNatClampNeg + 1)), .ref b]) (congrArg (fun z => F0 m 1027 ls [.int (xs z), .ref b]) ejx133) ?_
    refine x_V (As := [.int (xs (i.toNatClampNeg + 1))]) (rest := []) C (a_X10_off l K G H104 ((xs (i.toNatClampNeg + 1))) hTH104 gb g106 g107 g108 g109) yo_X10_off wM_L_108 ⟨⟨by decide, by decide⟩, show _ ≤ 1200000 from Nat.le_trans hc (by decide), show _ ≤ 5502250 from Nat.le_trans hs (by decide)⟩ (x_rv C hTH104 (ci := 10) rfl gb rg_112) rfl hl.1 rfl (Nat.le_of_ble_eq_true rfl) dL_law_1027 hSH104 (AE_new hN hSH104.1) (fun vH134 H134 locsH134 pH134 zH134 kH134 hSH134 => ?_)
    obtain ⟨x135, hvH134, g136, g137, g138, g139, mf140, hTH134⟩ := pH134
    subst hvH134
    have m141 := (m110).trans (fR_kept (x_lt hTH104 kH134 ga (by decide))).symm
    have m142 := (m111).trans (fI_kept (x_lt hTH104 kH134 ga (by decide))).symm
    have m143 := (m113).trans (fI_kept (x_lt hTH104 kH134 gw (by decide))).symm
    have m144 := (m115).trans (fI_kept (x_lt hTH104 kH134 gw (by decide))).symm
    have m145 := (m117).trans (fI_kept (x_lt hTH104 kH134 gw (by decide))).symm
    have m146 := (m119).trans (fI_kept (x_lt hTH104 kH134 gw (by decide))).symm
    have m147 := (m121).trans (fI_kept (x_lt hTH104 kH134 gw (by decide))).symm
    have m148 := (m123).trans (fI_kept (x_lt hTH104 kH134 gw (by decide))).symm
    have m149 := (m125).trans (fR_kept (x_lt hTH104 kH134 gw (by decide))).symm
    have m150 := (fV_kept (x_lt hTH104 kH134 ga (by decide))).trans m128
    have m151 := (m112).trans (MF.i mf140 (k := 18) (by decide) (by decide)).symm
    have m152 := (m114).trans (MF.i mf140 (k := 1) (by decide) (by decide)).symm
    have m153 := (m116).trans (MF.i mf140 (k := 2) (by decide) (by decide)).symm
    have m154 := (m118).trans (MF.i mf140 (k := 3) (by decide) (by decide)).symm
    have m155 := (m120).trans (MF.i mf140 (k := 59) (by decide) (by decide)).symm
    have m156 := (m122).trans (MF.i mf140 (k := 62) (by decide) (by decide)).symm
    have m157 := (m124).trans (MF.i mf140 (k := 65) (by decide) (by decide)).symm
    have m158 := (m126).trans (MF.r mf140 (k := 50) (by decide) (by decide)).symm
    have m159 := (m127).trans (MF.i mf140 (k := 70) (by decide) (by decide)).symm
    have m160 := (m129).trans (MF.r mf140 (k := 73) (by decide) (by decide)).symm
    refine W.eq (g2 := F0 m 1030 ls [.int x135]) rfl ?_
    have v161 : ∀ j : Nat, j < 10 → cz101 j = fI H134 (fR H134 bq j) (K.1.2 0 14) := fun j h => (v130 j h).trans (by rw [fR_kept (x_lt hTH104 kH134 gbq (by decide))]; exact (fI_kept (x_lt hTH104 kH134 (bar_g hTH104 gbq j h) (by decide))).symm)
    have v162 : ∀ j : Nat, j < 10 → rz102 j = fI H134 aq j := fun j h => (v131 j h).trans (fI_kept (x_lt hTH104 kH134 gaq (by decide))).symm
    have d163 := DB.kept d132 (x_lt hTH104 kH134 gbq (by decide))
    refine lv_pop hx hb dL_law_1030 rfl ?_
    refine lv_goto (tgt := 1509) hx hb dL_law_1031 (by decide) ?_
    exact nx G H134 locsH134 _ _ ls ⟨hTH134, hN, ga, gb, g136, g137, g138, g139, ⟨(by rw [← m142, ← m151]; exact rt), (by rw [← m141, ← m143, ← m152]; exact r1), (by rw [← m141, ← m144, ← m153]; exact r4), (by rw [← m141, ← m145, ← m154]; exact r5), (by rw [← m141, ← m146, ← m155]; exact r10), (by rw [← m141, ← m147, ← m156]; exact r13), (by rw [← m141, ← m148, ← m157]; exact r16)⟩, Or.inl ⟨m150, (by rw [← m159]; exact h70)⟩, (by unfold RB; rw [← m141, ← m149, ← m158, ← m152]; exact ⟨d163, fun j h1 h2 => by rw [← v161 j h1, ← v162 j h1]; exact rel j h1 (by omega), fun j h1 h2 => by rw [← v162 j h1]; exact tl j h1 (by omega)⟩), hSH134⟩ hl ⟨hc, hs, fun _ => ⟨hc0, hs0⟩⟩
  · skip
    obtain ⟨hi, ehi⟩ : ∃ z : Int32, z = fI H b (K.1.2 10 70) := ⟨_, rfl⟩
    rw [← ehi] at h70
    obtain ⟨iq, eiq⟩ : ∃ z : Nat, z = fR H b (K.1.2 10 73) := ⟨_, rfl⟩
    have giq := ty_fr (q := iq) (k := 73) (u := 162) eiq hT gb rg_112 rfl
    rw [← eiq] at q1 q4 q5 q10 q13 q16
    obtain ⟨k1, ek1⟩ : ∃ z : Int32, z = fI H kq (K.1.2 8 1) := ⟨_, rfl⟩
    rw [← ek1] at q1
    obtain ⟨i1, ei1⟩ : ∃ z : Int32, z = fI H iq ((0 : Int32).toNatClampNeg) := ⟨_, rfl⟩
    rw [← ei1] at q1
    obtain ⟨k4, ek4⟩ : ∃ z : Int32, z = fI H kq (K.1.2 8 4) := ⟨_, rfl⟩
    rw [← ek4] at q4
    obtain ⟨i4, ei4⟩ : ∃ z : Int32, z = fI H iq ((1 : Int32).toNatClampNeg) := ⟨_, rfl⟩
    rw [← ei4] at q4
    obtain ⟨k5, ek5⟩ : ∃ z : Int32, z = fI H kq (K.1.2 8 5) := ⟨_, rfl⟩
    rw [← ek5] at q5
    obtain ⟨i5, ei5⟩ : ∃ z : Int32, z = fI H iq ((2 : Int32).toNatClampNeg) := ⟨_, rfl⟩
    rw [← ei5] at q5
    obtain ⟨k10, ek10⟩ : ∃ z : Int32, z = fI H kq (K.1.2 8 10) := ⟨_, rfl⟩
    rw [← ek10] at q10
    obtain ⟨i10, ei10⟩ : ∃ z : Int32, z = fI H iq ((3 : Int32).toNatClampNeg) := ⟨_, rfl⟩
    rw [← ei10] at q10
    obtain ⟨k13, ek13⟩ : ∃ z : Int32, z = fI H kq (K.1.2 8 13) := ⟨_, rfl⟩
    rw [← ek13] at q13
    obtain ⟨i13, ei13⟩ : ∃ z : Int32, z = fI H iq ((4 : Int32).toNatClampNeg) := ⟨_, rfl⟩
    rw [← ei13] at q13
    obtain ⟨k16, ek16⟩ : ∃ z : Int32, z = fI H kq (K.1.2 8 16) := ⟨_, rfl⟩
    rw [← ek16] at q16
    obtain ⟨i16, ei16⟩ : ∃ z : Int32, z = fI H iq ((5 : Int32).toNatClampNeg) := ⟨_, rfl⟩
    rw [← ei16] at q16
    obtain ⟨kb, ekb⟩ : ∃ z : Nat, z = fR H kq (K.1.2 8 0) := ⟨_, rfl⟩
    have gkb := ty_fr (q := kb) (k := 0) (u := 59) ekb hT gkq rg_34 rfl
    have bk1 := ty_fi (x := k1) (k := 1) ek1 hT gkq rg_34 rfl
    rw [← ekb] at dbk
    rw [← ekb, ← eiq, ← ek1] at vk
    rw [← eiq, ← ek1] at vkt
    obtain ⟨kz164, ekz164⟩ : ∃ f : Nat → Int32, ∀ j : Nat, j < 10 → f j = fI H (fR H kb j) (K.1.2 0 14) := ⟨_, fun _ _ => rfl⟩
    obtain ⟨iz165, eiz165⟩ : ∃ f : Nat → Int32, ∀ j : Nat, j < 10 → f j = fI H iq (11 + 6 * j) := ⟨_, fun _ _ => rfl⟩
    have vk0 : ∀ j : Nat, j < 10 → (j : Int) < k1.toInt → kz164 j = iz165 j := fun j h1 h2 => by rw [ekz164 j h1, eiz165 j h1]; exact vk j h1 h2
    clear vk
    have vk1 : ∀ j : Nat, j < 10 → k1.toInt ≤ (j : Int) → iz165 j = 0 := fun j h1 h2 => by rw [eiz165 j h1]; exact vkt j h1 h2
    clear vkt
    refine lv_aload_n hx hb dL_law_1011 rfl (lv_at hl 2 rfl) ?_
    refine lv_aload_n hx hb dL_law_1012 rfl (lv_at hl 3 rfl) ?_
    refine lv_iload_n hx hb dL_law_1013 rfl (lv_at hl 0 rfl) ?_
    refine lv_iconst (v := 1) hx hb dL_law_1014 (by decide) ?_
    refine lv_iadd hx hb dL_law_1015 ?_
    refine lv_topi (fun x166 ex166 => ?_)
    obtain ⟨tx166, ejx166, evx166⟩ := lw_ix (k := 1) ex166 hI hL rfl (by decide)
    clear tx166
    refine va_sld hx hb hX hbl (Nat.not_le.mpr hbl) hS (vp_in_iff.mpr evx166) dL_law_1016 ?_
    refine W.eq (g2 := F0 m 1017 ls [.int (xs (i.toNatClampNeg + 1)), .ref a]) (congrArg (fun z => F0 m 1017 ls [.int (xs z), .ref a]) ejx166) ?_
    refine x_V (As := [.int (xs (i.toNatClampNeg + 1))]) (rest := []) C (a_X9_off l K G H ((xs (i.toNatClampNeg + 1))) hT ga) yo_X9_off wM_L_105 ⟨⟨by decide, by decide⟩, show _ ≤ 1200000 from Nat.le_trans hc (by decide), show _ ≤ 5502250 from Nat.le_trans hs (by decide)⟩ (x_rv C hT (ci := 9) rfl ga rg_68) rfl hl.1 rfl (Nat.le_of_ble_eq_true rfl) dL_law_1017 hS (AE_new hN hS.1) (fun vH167 H167 locsH167 pH167 zH167 kH167 hSH167 => ?_)
    obtain ⟨x168, hvH167, hTH167⟩ := pH167
    subst hvH167
    have g169 : CG (avw K H167 b) := CG.congr (fun k hk j => av_eff hT kH167 gb (by decide) (CG_eff [83, 84] (by decide) k hk)) cg
    have g170 : TU (avw K H167 b) (svw K H167 b) := TU.congr (fun k hk j => av_eff hT kH167 gb (by decide) (TU_eff [83, 84] (by decide) k hk)) (fun k hk => sv_eff hT kH167 gb (by decide)) tu
    have g171 : WD (avw K H167 b) := WD.congr (fun k hk j => av_eff hT kH167 gb (by decide) (WD_eff [83, 84] (by decide) k hk)) wd
    have g172 : IM (avw K H167 b) := IM.congr (fun k hk j => av_eff hT kH167 gb (by decide) (IM_eff [83, 84] (by decide) k hk)) im
    have m173 := (ew).trans (fR_kept (x_lt hT kH167 ga (by decide))).symm
    have m174 := (eta).trans (fI_kept (x_lt hT kH167 ga (by decide))).symm
    have m175 := (etb).trans (fI_kept (x_lt hT kH167 gb (by decide))).symm
    have m176 := (es1).trans (fI_kept (x_lt hT kH167 gw (by decide))).symm
    have m177 := (ey1).trans (fI_kept (x_lt hT kH167 gb (by decide))).symm
    have m178 := (es4).trans (fI_kept (x_lt hT kH167 gw (by decide))).symm
    have m179 := (ey4).trans (fI_kept (x_lt hT kH167 gb (by decide))).symm
    have m180 := (es5).trans (fI_kept (x_lt hT kH167 gw (by decide))).symm
    have m181 := (ey5).trans (fI_kept (x_lt hT kH167 gb (by decide))).symm
    have m182 := (es10).trans (fI_kept (x_lt hT kH167 gw (by decide))).symm
    have m183 := (ey10).trans (fI_kept (x_lt hT kH167 gb (by decide))).symm
    have m184 := (es13).trans (fI_kept (x_lt hT kH167 gw (by decide))).symm
    have m185 := (ey13).trans (fI_kept (x_lt hT kH167 gb (by decide))).symm
    have m186 := (es16).trans (fI_kept (x_lt hT kH167 gw (by decide))).symm
    have m187 := (ey16).trans (fI_kept (x_lt hT kH167 gb (by decide))).symm
    have m188 := (ebq).trans (fR_kept (x_lt hT kH167 gw (by decide))).symm
    have m189 := (eaq).trans (fR_kept (x_lt hT kH167 gb (by decide))).symm
    have m190 := (ehi).trans (fI_kept (x_lt hT kH167 gb (by decide))).symm
    have m191 := (fV_kept (x_lt hT kH167 ga (by decide))).trans kn
    have m192 := (eiq).trans (fR_kept (x_lt hT kH167 gb (by decide))).symm
    have m193 := (ek1).trans (fI_kept (x_lt hT kH167 gkq (by decide))).symm
    have m194 := (ei1).trans (fI_kept (x_lt hT kH167 giq (by decide))).symm
    have m195 := (ek4).trans (fI_kept (x_lt hT kH167 gkq (by decide))).symm
    have m196 := (ei4).trans (fI_kept (x_lt hT kH167 giq (by decide))).symm
    have m197 := (ek5).trans (fI_kept (x_lt hT kH167 gkq (by decide))).symm
    have m198 := (ei5).trans (fI_kept (x_lt hT kH167 giq (by decide))).symm
    have m199 := (ek10).trans (fI_kept (x_lt hT kH167 gkq (by decide))).symm
    have m200 := (ei10).trans (fI_kept (x_lt hT kH167 giq (by decide))).symm
    have m201 := (ek13).trans (fI_kept (x_lt hT kH167 gkq (by decide))).symm
    have m202 := (ei13).trans (fI_kept (x_lt hT kH167 giq (by decide))).symm
    have m203 := (ek16).trans (fI_kept (x_lt hT kH167 gkq (by decide))).symm
    have m204 := (ei16).trans (fI_kept (x_lt hT kH167 giq (by decide))).symm
    have m205 := (ekb).trans (fR_kept (x_lt hT kH167 gkq (by decide))).symm
    refine W.eq (g2 := F0 m 1020 ls [.int x168]) rfl ?_
    have v206 : ∀ j : Nat, j < 10 → cz101 j = fI H167 (fR H167 bq j) (K.1.2 0 14) := fun j h => (ecz101 j h).trans (by rw [fR_kept (x_lt hT kH167 gbq (by decide))]; exact (fI_kept (x_lt hT kH167 (bar_g hT gbq j h) (by decide))).symm)
    have v207 : ∀ j : Nat, j < 10 → rz102 j = fI H167 aq j := fun j h => (erz102 j h).trans (fI_kept (x_lt hT kH167 gaq (by decide))).symm
    have v208 : ∀ j : Nat, j < 10 → kz164 j = fI H167 (fR H167 kb j) (K.1.2 0 14) := fun j h => (ekz164 j h).trans (by rw [fR_kept (x_lt hT kH167 gkb (by decide))]; exact (fI_kept (x_lt hT kH167 (bar_h hT gkb j h) (by decide))).symm)
    have d209 := DB.kept dbk (x_lt hT kH167 gkb (by decide))
    have v210 : ∀ j : Nat, j < 10 → iz165 j = fI H167 iq (11 + 6 * j) := fun j h => (eiz165 j h).trans (fI_kept (x_lt hT kH167 giq (by decide))).symm
    have d211 := DB.kept db (x_lt hT kH167 gbq (by decide))
    refine lv_pop hx hb dL_law_1020 rfl ?_
    refine lv_aload_n hx hb dL_law_1021 rfl (lv_at hl 1 rfl) ?_
    refine lv_aload_n hx hb dL_law_1022 rfl (lv_at hl 3 rfl) ?_
    refine lv_iload_n hx hb dL_law_1023 rfl (lv_at hl 0 rfl) ?_
    refine lv_iconst (v := 1) hx hb dL_law_1024 (by decide) ?_
    refine lv_iadd hx hb dL_law_1025 ?_
    refine lv_topi (fun x212 ex212 => ?_)
    obtain ⟨tx212, ejx212, evx212⟩ := lw_ix (k := 1) ex212 hI hL rfl (by decide)
    clear tx212
    refine va_sld hx hb hX hbl (Nat.not_le.mpr hbl) hSH167 (vp_in_iff.mpr evx212) dL_law_1026 ?_
    refine W.eq (g2 := F0 m 1027 ls [.int (xs (i.toNatClampNeg + 1)), .ref b]) (congrArg (fun z => F0 m 1027 ls [.int (xs z), .ref b]) ejx212) ?_
    refine x_V (As := [.int (xs (i.toNatClampNeg + 1))]) (rest := []) C (a_X10_off l K G H167 ((xs (i.toNatClampNeg + 1))) hTH167 gb g169 g170 g171 g172) yo_X10_off wM_L_108 ⟨⟨by decide, by decide⟩, show _ ≤ 1200000 from Nat.le_trans hc (by decide), show _ ≤ 5502250 from Nat.le_trans hs (by decide)⟩ (x_rv C hTH167 (ci := 10) rfl gb rg_112) rfl hl.1 rfl (Nat.le_of_ble_eq_true rfl) dL_law_1027 hSH167 (AE_new hN hSH167.1) (fun vH213 H213 locsH213 pH213 zH213 kH213 hSH213 => ?_)
    obtain ⟨x214, hvH213, g215, g216, g217, g218, mf219, hTH213⟩ := pH213
    subst hvH213
    have m220 := (m173).trans (fR_kept (x_lt hTH167 kH213 ga (by decide))).symm
    have m221 := (m174).trans (fI_kept (x_lt hTH167 kH213 ga (by decide))).symm
    have m222 := (m176).trans (fI_kept (x_lt hTH167 kH213 gw (by decide))).symm
    have m223 := (m178).trans (fI_kept (x_lt hTH167 kH213 gw (by decide))).symm
    have m224 := (m180).trans (fI_kept (x_lt hTH167 kH213 gw (by decide))).symm
    have m225 := (m182).trans (fI_kept (x_lt hTH167 kH213 gw (by decide))).symm
    have m226 := (m184).trans (fI_kept (x_lt hTH167 kH213 gw (by decide))).symm
    have m227 := (m186).trans (fI_kept (x_lt hTH167 kH213 gw (by decide))).symm
    have m228 := (m188).trans (fR_kept (x_lt hTH167 kH213 gw (by decide))).symm
    have m229 := (fV_kept (x_lt hTH167 kH213 ga (by decide))).trans m191
    have m230 := (m193).trans (fI_kept (x_lt hTH167 kH213 gkq (by decide))).symm
    have m231 := (m194).trans (fI_kept (x_lt hTH167 kH213 giq (by decide))).symm
    have m232 := (m195).trans (fI_kept (x_lt hTH167 kH213 gkq (by decide))).symm
    have m233 := (m196).trans (fI_kept (x_lt hTH167 kH213 giq (by decide))).symm
    have m234 := (m197).trans (fI_kept (x_lt hTH167 kH213 gkq (by decide))).symm
    have m235 := (m198).trans (fI_kept (x_lt hTH167 kH213 giq (by decide))).symm
    have m236 := (m199).trans (fI_kept (x_lt hTH167 kH213 gkq (by decide))).symm
    have m237 := (m200).trans (fI_kept (x_lt hTH167 kH213 giq (by decide))).symm
    have m238 := (m201).trans (fI_kept (x_lt hTH167 kH213 gkq (by decide))).symm
    have m239 := (m202).trans (fI_kept (x_lt hTH167 kH213 giq (by decide))).symm
    have m240 := (m203).trans (fI_kept (x_lt hTH167 kH213 gkq (by decide))).symm
    have m241 := (m204).trans (fI_kept (x_lt hTH167 kH213 giq (by decide))).symm
    have m242 := (m205).trans (fR_kept (x_lt hTH167 kH213 gkq (by decide))).symm
    have m243 := (m175).trans (MF.i mf219 (k := 18) (by decide) (by decide)).symm
    have m244 := (m177).trans (MF.i mf219 (k := 1) (by decide) (by decide)).symm
    have m245 := (m179).trans (MF.i mf219 (k := 2) (by decide) (by decide)).symm
    have m246 := (m181).trans (MF.i mf219 (k := 3) (by decide) (by decide)).symm
    have m247 := (m183).trans (MF.i mf219 (k := 59) (by decide) (by decide)).symm
    have m248 := (m185).trans (MF.i mf219 (k := 62) (by decide) (by decide)).symm
    have m249 := (m187).trans (MF.i mf219 (k := 65) (by decide) (by decide)).symm
    have m250 := (m189).trans (MF.r mf219 (k := 50) (by decide) (by decide)).symm
    have m251 := (m190).trans (MF.i mf219 (k := 70) (by decide) (by decide)).symm
    have m252 := (m192).trans (MF.r mf219 (k := 73) (by decide) (by decide)).symm
    refine W.eq (g2 := F0 m 1030 ls [.int x214]) rfl ?_
    have v253 : ∀ j : Nat, j < 10 → cz101 j = fI H213 (fR H213 bq j) (K.1.2 0 14) := fun j h => (v206 j h).trans (by rw [fR_kept (x_lt hTH167 kH213 gbq (by decide))]; exact (fI_kept (x_lt hTH167 kH213 (bar_g hTH167 gbq j h) (by decide))).symm)
    have v254 : ∀ j : Nat, j < 10 → rz102 j = fI H213 aq j := fun j h => (v207 j h).trans (fI_kept (x_lt hTH167 kH213 gaq (by decide))).symm
    have v255 : ∀ j : Nat, j < 10 → kz164 j = fI H213 (fR H213 kb j) (K.1.2 0 14) := fun j h => (v208 j h).trans (by rw [fR_kept (x_lt hTH167 kH213 gkb (by decide))]; exact (fI_kept (x_lt hTH167 kH213 (bar_h hTH167 gkb j h) (by decide))).symm)
    have d256 := DB.kept d209 (x_lt hTH167 kH213 gkb (by decide))
    have v257 : ∀ j : Nat, j < 10 → iz165 j = fI H213 iq (11 + 6 * j) := fun j h => (v210 j h).trans (fI_kept (x_lt hTH167 kH213 giq (by decide))).symm
    have d258 := DB.kept d211 (x_lt hTH167 kH213 gbq (by decide))
    refine lv_pop hx hb dL_law_1030 rfl ?_
    refine lv_goto (tgt := 1509) hx hb dL_law_1031 (by decide) ?_
    exact nx G H213 locsH213 _ _ ls ⟨hTH213, hN, ga, gb, g215, g216, g217, g218, ⟨(by rw [← m221, ← m243]; exact rt), (by rw [← m220, ← m222, ← m244]; exact r1), (by rw [← m220, ← m223, ← m245]; exact r4), (by rw [← m220, ← m224, ← m246]; exact r5), (by rw [← m220, ← m225, ← m247]; exact r10), (by rw [← m220, ← m226, ← m248]; exact r13), (by rw [← m220, ← m227, ← m249]; exact r16)⟩, Or.inr ⟨kq, m229, gkq, (by rw [← m251]; exact h70), (by rw [← m230, ← m252, ← m231]; exact q1), (by rw [← m232, ← m252, ← m233]; exact q4), (by rw [← m234, ← m252, ← m235]; exact q5), (by rw [← m236, ← m252, ← m237]; exact q10), (by rw [← m238, ← m252, ← m239]; exact q13), (by rw [← m240, ← m252, ← m241]; exact q16), (by rw [← m242]; exact d256), (by rw [← m242, ← m252, ← m230]; exact fun j h1 h2 => by rw [← v255 j h1, ← v257 j h1]; exact vk0 j h1 (by omega)), (by rw [← m252, ← m230]; exact fun j h1 h2 => by rw [← v257 j h1]; exact vk1 j h1 (by omega))⟩, (by unfold RB; rw [← m220, ← m228, ← m250, ← m244]; exact ⟨d258, fun j h1 h2 => by rw [← v253 j h1, ← v254 j h1]; exact rel j h1 (by omega), fun j h1 h2 => by rw [← v254 j h1]; exact tl j h1 (by omega)⟩), hSH213⟩ hl ⟨hc, hs, fun h => by have h1 := h.symm.trans m229; cases h1⟩
set_option maxRecDepth 100000 in
set_option maxHeartbeats 8000000 in
theorem lw_c22 {p : Program} {l : Launch} {e : Env} {s : State} {m : MethodId} {below : List Frame} {meth : Method} {c : Code} {K : KE} {b0 L : Nat} {xs : Nat → Int32} {G : Nat → Option Nat} {H : Heap} {locs : List Loc} {a b : Nat} {cells slots : Nat} {ls : Array Slot} {i : Int32} {n : Nat} (D : LC p K s m meth c b0 L xs) (S : SX K s G H locs a b) (hl : lv_has ls 4 [(3, .int i), (2, .ref b), (1, .ref a), (0, .ref b0)]) (hi : 0 ≤ i.toInt ∧ i.toInt + 6 ≤ L) (hn : n ≤ 511) (hB : BD K H a cells slots) (nx : ∀ (G : Nat → Option Nat) (H : Heap) (locs : List Loc) (cells slots : Nat) (ls : Array Slot), SX K s G H locs a b → lv_has ls 4 [(3, .int i), (2, .ref b), (1, .ref a), (0, .ref b0)] → BD K H a cells slots → W p l e room_1 s m #[Value.ref b0] below meth c H locs cells slots (lw_Z below #[Value.ref b0] s) (F0 m 1509 ls [])) : W p l e room_1 s m #[Value.ref b0] below meth c H locs cells slots (lw_Z below #[Value.ref b0] s) (F0 m 1034 ls []) := by
  have hI := hi
  obtain ⟨C, hX, hbl, hL⟩ := id D
  obtain ⟨hx, hb, hml, hown, hts, hKT, hr, hlocks, hnm⟩ := id C
  obtain ⟨hT, hN, ga, gb, cg, tu, wd, im, ⟨rt, r1, r4, r5, r10, r13, r16⟩, hk, hrb, hS⟩ := S
  obtain ⟨hc, hs, hB0⟩ := hB
  have n_m1 : ((-1) : Int32).toInt = -1 := rfl
  have n_0 : (0 : Int32).toInt = 0 := rfl
  have n_1 : (1 : Int32).toInt = 1 := rfl
  have n_2 : (2 : Int32).toInt = 2 := rfl
  have n_3 : (3 : Int32).toInt = 3 := rfl
  obtain ⟨w, ew⟩ : ∃ z : Nat, z = fR H a (K.1.2 9 0) := ⟨_, rfl⟩
  have gw := ty_fr (q := w) (k := 0) (u := 0) ew hT ga rg_68 rfl
  rw [← ew] at r1 r4 r5 r10 r13 r16
  obtain ⟨ta, eta⟩ : ∃ z : Int32, z = fI H a (K.1.2 9 3) := ⟨_, rfl⟩
  rw [← eta] at rt
  obtain ⟨tb, etb⟩ : ∃ z : Int32, z = fI H b (K.1.2 10 18) := ⟨_, rfl⟩
  rw [← etb] at rt
  obtain ⟨s1, es1⟩ : ∃ z : Int32, z = fI H w (K.1.2 8 1) := ⟨_, rfl⟩
  rw [← es1] at r1
  obtain ⟨y1, ey1⟩ : ∃ z : Int32, z = fI H b (K.1.2 10 1) := ⟨_, rfl⟩
  rw [← ey1] at r1
  obtain ⟨s4, es4⟩ : ∃ z : Int32, z = fI H w (K.1.2 8 4) := ⟨_, rfl⟩
  rw [← es4] at r4
  obtain ⟨y4, ey4⟩ : ∃ z : Int32, z = fI H b (K.1.2 10 2) := ⟨_, rfl⟩
  rw [← ey4] at r4
  obtain ⟨s5, es5⟩ : ∃ z : Int32, z = fI H w (K.1.2 8 5) := ⟨_, rfl⟩
  rw [← es5] at r5
  obtain ⟨y5, ey5⟩ : ∃ z : Int32, z = fI H b (K.1.2 10 3) := ⟨_, rfl⟩
  rw [← ey5] at r5
  obtain ⟨s10, es10⟩ : ∃ z : Int32, z = fI H w (K.1.2 8 10) := ⟨_, rfl⟩
  rw [← es10] at r10
  obtain ⟨y10, ey10⟩ : ∃ z : Int32, z = fI H b (K.1.2 10 59) := ⟨_, rfl⟩
  rw [← ey10] at r10
  obtain ⟨s13, es13⟩ : ∃ z : Int32, z = fI H w (K.1.2 8 13) := ⟨_, rfl⟩
  rw [← es13] at r13
  obtain ⟨y13, ey13⟩ : ∃ z : Int32, z = fI H b (K.1.2 10 62) := ⟨_, rfl⟩
  rw [← ey13] at r13
  obtain ⟨s16, es16⟩ : ∃ z : Int32, z = fI H w (K.1.2 8 16) := ⟨_, rfl⟩
  rw [← es16] at r16
  obtain ⟨y16, ey16⟩ : ∃ z : Int32, z = fI H b (K.1.2 10 65) := ⟨_, rfl⟩
  rw [← ey16] at r16
  obtain ⟨bq, ebq⟩ : ∃ z : Nat, z = fR H w (K.1.2 8 0) := ⟨_, rfl⟩
  have gbq := ty_fr (q := bq) (k := 0) (u := 25) ebq hT gw rg_0 rfl
  obtain ⟨aq, eaq⟩ : ∃ z : Nat, z = fR H b (K.1.2 10 50) := ⟨_, rfl⟩
  have gaq := ty_fr (q := aq) (k := 50) (u := 146) eaq hT gb rg_112 rfl
  have bs1 := ty_fi (x := s1) (k := 1) es1 hT gw rg_0 rfl
  have by1 := ty_fi (x := y1) (k := 1) ey1 hT gb rg_112 rfl
  obtain ⟨db, vr, vt⟩ := hrb
  rw [← ew, ← ebq] at db
  rw [← ew, ← ebq, ← eaq, ← ey1] at vr
  rw [← eaq, ← ey1] at vt
  obtain ⟨cz101, ecz101⟩ : ∃ f : Nat → Int32, ∀ j : Nat, j < 10 → f j = fI H (fR H bq j) (K.1.2 0 14) := ⟨_, fun _ _ => rfl⟩
  obtain ⟨rz102, erz102⟩ : ∃ f : Nat → Int32, ∀ j : Nat, j < 10 → f j = fI H aq j := ⟨_, fun _ _ => rfl⟩
  have rel : ∀ j : Nat, j < 10 → (j : Int) < y1.toInt → cz101 j = rz102 j := fun j h1 h2 => by rw [ecz101 j h1, erz102 j h1]; exact vr j h1 h2
  clear vr
  have tl : ∀ j : Nat, j < 10 → y1.toInt ≤ (j : Int) → rz102 j = 0 := fun j h1 h2 => by rw [erz102 j h1]; exact vt j h1 h2
  clear vt
  rcases hk with ⟨kn, h70⟩ | ⟨kq, kn, gkq, h70, q1, q4, q5, q10, q13, q16, dbk, vk, vkt⟩
  · skip
    obtain ⟨hi, ehi⟩ : ∃ z : Int32, z = fI H b (K.1.2 10 70) := ⟨_, rfl⟩
    rw [← ehi] at h70
    obtain ⟨hc0, hs0⟩ := hB0 kn
    obtain ⟨iq, eiq⟩ : ∃ z : Nat, z = fR H b (K.1.2 10 73) := ⟨_, rfl⟩
    have giq := ty_fr (q := iq) (k := 73) (u := 162) eiq hT gb rg_112 rfl
    refine lv_aload_n hx hb dL_law_1034 rfl (lv_at hl 2 rfl) ?_
    refine lv_aload_n hx hb dL_law_1035 rfl (lv_at hl 3 rfl) ?_
    refine lv_iload_n hx hb dL_law_1036 rfl (lv_at hl 0 rfl) ?_
    refine lv_iconst (v := 1) hx hb dL_law_1037 (by decide) ?_
    refine lv_iadd hx hb dL_law_1038 ?_
    refine lv_topi (fun x103 ex103 => ?_)
    obtain ⟨tx103, ejx103, evx103⟩ := lw_ix (k := 1) ex103 hI hL rfl (by decide)
    clear tx103
    refine va_sld hx hb hX hbl (Nat.not_le.mpr hbl) hS (vp_in_iff.mpr evx103) dL_law_1039 ?_
    refine W.eq (g2 := F0 m 1040 ls [.int (xs (i.toNatClampNeg + 1)), .ref a]) (congrArg (fun z => F0 m 1040 ls [.int (xs z), .ref a]) ejx103) ?_
    refine lv_aload_n hx hb dL_law_1040 rfl (lv_at hl 3 rfl) ?_
    refine lv_iload_n hx hb dL_law_1041 rfl (lv_at hl 0 rfl) ?_
    refine lv_iconst (v := 2) hx hb dL_law_1042 (by decide) ?_
    refine lv_iadd hx hb dL_law_1043 ?_
    refine lv_topi (fun x104 ex104 => ?_)
    obtain ⟨tx104, ejx104, evx104⟩ := lw_ix (k := 2) ex104 hI hL rfl (by decide)
    clear tx104
    refine va_sld hx hb hX hbl (Nat.not_le.mpr hbl) hS (vp_in_iff.mpr evx104) dL_law_1044 ?_
    refine W.eq (g2 := F0 m 1045 ls [.int (xs (i.toNatClampNeg + 2)), .int (xs (i.toNatClampNeg + 1)), .ref a]) (congrArg (fun z => F0 m 1045 ls [.int (xs z), .int (xs (i.toNatClampNeg + 1)), .ref a]) ejx104) ?_
    refine lv_aload_n hx hb dL_law_1045 rfl (lv_at hl 3 rfl) ?_
    refine lv_iload_n hx hb dL_law_1046 rfl (lv_at hl 0 rfl) ?_
    refine lv_iconst (v := 3) hx hb dL_law_1047 (by decide) ?_
    refine lv_iadd hx hb dL_law_1048 ?_
    refine lv_topi (fun x105 ex105 => ?_)
    obtain ⟨tx105, ejx105, evx105⟩ := lw_ix (k := 3) ex105 hI hL rfl (by decide)
    clear tx105
    refine va_sld hx hb hX hbl (Nat.not_le.mpr hbl) hS (vp_in_iff.mpr evx105) dL_law_1049 ?_
    refine W.eq (g2 := F0 m 1050 ls [.int (xs (i.toNatClampNeg + 3)), .int (xs (i.toNatClampNeg + 2)), .int (xs (i.toNatClampNeg + 1)), .ref a]) (congrArg (fun z => F0 m 1050 ls [.int (xs z), .int (xs (i.toNatClampNeg + 2)), .int (xs (i.toNatClampNeg + 1)), .ref a]) ejx105) ?_
    refine x_V (As := [.int (xs (i.toNatClampNeg + 1)), .int (xs (i.toNatClampNeg + 2)), .int (xs (i.toNatClampNeg + 3))]) (rest := []) C (a_X9_still l K G H ((xs (i.toNatClampNeg + 1))) ((xs (i.toNatClampNeg + 2))) ((xs (i.toNatClampNeg + 3))) hT ga) yo_X9_still wM_L_109 ⟨⟨by decide, by decide⟩, show _ ≤ 1200000 from Nat.le_trans hc (by decide), show _ ≤ 5502250 from Nat.le_trans hs (by decide)⟩ (x_rv C hT (ci := 9) rfl ga rg_68) rfl hl.1 rfl (Nat.le_of_ble_eq_true rfl) dL_law_1050 hS (AE_new hN hS.1) (fun vH106 H106 locsH106 pH106 zH106 kH106 hSH106 => ?_)
    obtain ⟨x107, hvH106, hTH106⟩ := pH106
    subst hvH106
    have g108 : CG (avw K H106 b) := CG.congr (fun k hk j => av_eff hT kH106 gb (by decide) (CG_eff [83, 84, 110] (by decide) k hk)) cg
    have g109 : TU (avw K H106 b) (svw K H106 b) := TU.congr (fun k hk j => av_eff hT kH106 gb (by decide) (TU_eff [83, 84, 110] (by decide) k hk)) (fun k hk => sv_eff hT kH106 gb (by decide)) tu
    have g110 : WD (avw K H106 b) := WD.congr (fun k hk j => av_eff hT kH106 gb (by decide) (WD_eff [83, 84, 110] (by decide) k hk)) wd
    have g111 : IM (avw K H106 b) := IM.congr (fun k hk j => av_eff hT kH106 gb (by decide) (IM_eff [83, 84, 110] (by decide) k hk)) im
    have m112 := (ew).trans (fR_kept (x_lt hT kH106 ga (by decide))).symm
    have m113 := (eta).trans (fI_kept (x_lt hT kH106 ga (by decide))).symm
    have m114 := (etb).trans (fI_kept (x_lt hT kH106 gb (by decide))).symm
    have m115 := (es1).trans (fI_kept (x_lt hT kH106 gw (by decide))).symm
    have m116 := (ey1).trans (fI_kept (x_lt hT kH106 gb (by decide))).symm
    have m117 := (es4).trans (fI_kept (x_lt hT kH106 gw (by decide))).symm
    have m118 := (ey4).trans (fI_kept (x_lt hT kH106 gb (by decide))).symm
    have m119 := (es5).trans (fI_kept (x_lt hT kH106 gw (by decide))).symm
    have m120 := (ey5).trans (fI_kept (x_lt hT kH106 gb (by decide))).symm
    have m121 := (es10).trans (fI_kept (x_lt hT kH106 gw (by decide))).symm
    have m122 := (ey10).trans (fI_kept (x_lt hT kH106 gb (by decide))).symm
    have m123 := (es13).trans (fI_kept (x_lt hT kH106 gw (by decide))).symm
    have m124 := (ey13).trans (fI_kept (x_lt hT kH106 gb (by decide))).symm
    have m125 := (es16).trans (fI_kept (x_lt hT kH106 gw (by decide))).symm
    have m126 := (ey16).trans (fI_kept (x_lt hT kH106 gb (by decide))).symm
    have m127 := (ebq).trans (fR_kept (x_lt hT kH106 gw (by decide))).symm
    have m128 := (eaq).trans (fR_kept (x_lt hT kH106 gb (by decide))).symm
    have m129 := (ehi).trans (fI_kept (x_lt hT kH106 gb (by decide))).symm
    have m130 := (fV_kept (x_lt hT kH106 ga (by decide))).trans kn
    have m131 := (eiq).trans (fR_kept (x_lt hT kH106 gb (by decide))).symm
    refine W.eq (g2 := F0 m 1053 ls [.int x107]) rfl ?_
    have v132 : ∀ j : Nat, j < 10 → cz101 j = fI H106 (fR H106 bq j) (K.1.2 0 14) := fun j h => (ecz101 j h).trans (by rw [fR_kept (x_lt hT kH106 gbq (by decide))]; exact (fI_kept (x_lt hT kH106 (bar_g hT gbq j h) (by decide))).symm)
    have v133 : ∀ j : Nat, j < 10 → rz102 j = fI H106 aq j := fun j h => (erz102 j h).trans (fI_kept (x_lt hT kH106 gaq (by decide))).symm
    have d134 := DB.kept db (x_lt hT kH106 gbq (by decide))
    refine lv_pop hx hb dL_law_1053 rfl ?_
    refine lv_aload_n hx hb dL_law_1054 rfl (lv_at hl 1 rfl) ?_
    refine lv_aload_n hx hb dL_law_1055 rfl (lv_at hl 3 rfl) ?_
    refine lv_iload_n hx hb dL_law_1056 rfl (lv_at hl 0 rfl) ?_
    refine lv_iconst (v := 1) hx hb dL_law_1057 (by decide) ?_
    refine lv_iadd hx hb dL_law_1058 ?_
    refine lv_topi (fun x135 ex135 => ?_)
    obtain ⟨tx135, ejx135, evx135⟩ := lw_ix (k := 1) ex135 hI hL rfl (by decide)
    clear tx135
    refine va_sld hx hb hX hbl (Nat.not_le.mpr hbl) hSH106 (vp_in_iff.mpr evx135) dL_law_1059 ?_
    refine W.eq (g2 := F0 m 1060 ls [.int (xs (i.toNatClampNeg + 1)), .ref b]) (congrArg (fun z => F0 m 1060 ls [.int (xs z), .ref b]) ejx135) ?_
    refine lv_aload_n hx hb dL_law_1060 rfl (lv_at hl 3 rfl) ?_
    refine lv_iload_n hx hb dL_law_1061 rfl (lv_at hl 0 rfl) ?_
    refine lv_iconst (v := 2) hx hb dL_law_1062 (by decide) ?_
    refine lv_iadd hx hb dL_law_1063 ?_
    refine lv_topi (fun x136 ex136 => ?_)
    obtain ⟨tx136, ejx136, evx136⟩ := lw_ix (k := 2) ex136 hI hL rfl (by decide)
    clear tx136
    refine va_sld hx hb hX hbl (Nat.not_le.mpr hbl) hSH106 (vp_in_iff.mpr evx136) dL_law_1064 ?_
    refine W.eq (g2 := F0 m 1065 ls [.int (xs (i.toNatClampNeg + 2)), .int (xs (i.toNatClampNeg + 1)), .ref b]) (congrArg (fun z => F0 m 1065 ls [.int (xs z), .int (xs (i.toNatClampNeg + 1)), .ref b]) ejx136) ?_
    refine lv_aload_n hx hb dL_law_1065 rfl (lv_at hl 3 rfl) ?_
    refine lv_iload_n hx hb dL_law_1066 rfl (lv_at hl 0 rfl) ?_
    refine lv_iconst (v := 3) hx hb dL_law_1067 (by decide) ?_
    refine lv_iadd hx hb dL_law_1068 ?_
    refine lv_topi (fun x137 ex137 => ?_)
    obtain ⟨tx137, ejx137, evx137⟩ := lw_ix (k := 3) ex137 hI hL rfl (by decide)
    clear tx137
    refine va_sld hx hb hX hbl (Nat.not_le.mpr hbl) hSH106 (vp_in_iff.mpr evx137) dL_law_1069 ?_
    refine W.eq (g2 := F0 m 1070 ls [.int (xs (i.toNatClampNeg + 3)), .int (xs (i.toNatClampNeg + 2)), .int (xs (i.toNatClampNeg + 1)), .ref b]) (congrArg (fun z => F0 m 1070 ls [.int (xs z), .int (xs (i.toNatClampNeg + 2)), .int (xs (i.toNatClampNeg + 1)), .ref b]) ejx137) ?_
    refine x_V (As := [.int (xs (i.toNatClampNeg + 1)), .int (xs (i.toNatClampNeg + 2)), .int (xs (i.toNatClampNeg + 3))]) (rest := []) C (a_X10_still l K G H106 ((xs (i.toNatClampNeg + 1))) ((xs (i.toNatClampNeg + 2))) ((xs (i.toNatClampNeg + 3))) hTH106 gb g108 g109 g110 g111) yo_X10_still wM_L_112 ⟨⟨by decide, by decide⟩, show _ ≤ 1200000 from Nat.le_trans hc (by decide), show _ ≤ 5502250 from Nat.le_trans hs (by decide)⟩ (x_rv C hTH106 (ci := 10) rfl gb rg_112) rfl hl.1 rfl (Nat.le_of_ble_eq_true rfl) dL_law_1070 hSH106 (AE_new hN hSH106.1) (fun vH138 H138 locsH138 pH138 zH138 kH138 hSH138 => ?_)
    obtain ⟨x139, hvH138, g140, g141, g142, g143, mf144, hTH138⟩ := pH138
    subst hvH138
    have m145 := (m112).trans (fR_kept (x_lt hTH106 kH138 ga (by decide))).symm
    have m146 := (m113).trans (fI_kept (x_lt hTH106 kH138 ga (by decide))).symm
    have m147 := (m115).trans (fI_kept (x_lt hTH106 kH138 gw (by decide))).symm
    have m148 := (m117).trans (fI_kept (x_lt hTH106 kH138 gw (by decide))).symm
    have m149 := (m119).trans (fI_kept (x_lt hTH106 kH138 gw (by decide))).symm
    have m150 := (m121).trans (fI_kept (x_lt hTH106 kH138 gw (by decide))).symm
    have m151 := (m123).trans (fI_kept (x_lt hTH106 kH138 gw (by decide))).symm
    have m152 := (m125).trans (fI_kept (x_lt hTH106 kH138 gw (by decide))).symm
    have m153 := (m127).trans (fR_kept (x_lt hTH106 kH138 gw (by decide))).symm
    have m154 := (fV_kept (x_lt hTH106 kH138 ga (by decide))).trans m130
    have m155 := (m114).trans (MF.i mf144 (k := 18) (by decide) (by decide)).symm
    have m156 := (m116).trans (MF.i mf144 (k := 1) (by decide) (by decide)).symm
    have m157 := (m118).trans (MF.i mf144 (k := 2) (by decide) (by decide)).symm
    have m158 := (m120).trans (MF.i mf144 (k := 3) (by decide) (by decide)).symm
    have m159 := (m122).trans (MF.i mf144 (k := 59) (by decide) (by decide)).symm
    have m160 := (m124).trans (MF.i mf144 (k := 62) (by decide) (by decide)).symm
    have m161 := (m126).trans (MF.i mf144 (k := 65) (by decide) (by decide)).symm
    have m162 := (m128).trans (MF.r mf144 (k := 50) (by decide) (by decide)).symm
    have m163 := (m129).trans (MF.i mf144 (k := 70) (by decide) (by decide)).symm
    have m164 := (m131).trans (MF.r mf144 (k := 73) (by decide) (by decide)).symm
    refine W.eq (g2 := F0 m 1073 ls [.int x139]) rfl ?_
    have v165 : ∀ j : Nat, j < 10 → cz101 j = fI H138 (fR H138 bq j) (K.1.2 0 14) := fun j h => (v132 j h).trans (by rw [fR_kept (x_lt hTH106 kH138 gbq (by decide))]; exact (fI_kept (x_lt hTH106 kH138 (bar_g hTH106 gbq j h) (by decide))).symm)
    have v166 : ∀ j : Nat, j < 10 → rz102 j = fI H138 aq j := fun j h => (v133 j h).trans (fI_kept (x_lt hTH106 kH138 gaq (by decide))).symm
    have d167 := DB.kept d134 (x_lt hTH106 kH138 gbq (by decide))
    refine lv_pop hx hb dL_law_1073 rfl ?_
    refine lv_goto (tgt := 1509) hx hb dL_law_1074 (by decide) ?_
    exact nx G H138 locsH138 _ _ ls ⟨hTH138, hN, ga, gb, g140, g141, g142, g143, ⟨(by rw [← m146, ← m155]; exact rt), (by rw [← m145, ← m147, ← m156]; exact r1), (by rw [← m145, ← m148, ← m157]; exact r4), (by rw [← m145, ← m149, ← m158]; exact r5), (by rw [← m145, ← m150, ← m159]; exact r10), (by rw [← m145, ← m151, ← m160]; exact r13), (by rw [← m145, ← m152, ← m161]; exact r16)⟩, Or.inl ⟨m154, (by rw [← m163]; exact h70)⟩, (by unfold RB; rw [← m145, ← m153, ← m162, ← m156]; exact ⟨d167, fun j h1 h2 => by rw [← v165 j h1, ← v166 j h1]; exact rel j h1 (by omega), fun j h1 h2 => by rw [← v166 j h1]; exact tl j h1 (by omega)⟩), hSH138⟩ hl ⟨hc, hs, fun _ => ⟨hc0, hs0⟩⟩
  · skip
    obtain ⟨hi, ehi⟩ : ∃ z : Int32, z = fI H b (K.1.2 10 70) := ⟨_, rfl⟩
    rw [← ehi] at h70
    obtain ⟨iq, eiq⟩ : ∃ z : Nat, z = fR H b (K.1.2 10 73) := ⟨_, rfl⟩
    have giq := ty_fr (q := iq) (k := 73) (u := 162) eiq hT gb rg_112 rfl
    rw [← eiq] at q1 q4 q5 q10 q13 q16
    obtain ⟨k1, ek1⟩ : ∃ z : Int32, z = fI H kq (K.1.2 8 1) := ⟨_, rfl⟩
    rw [← ek1] at q1
    obtain ⟨i1, ei1⟩ : ∃ z : Int32, z = fI H iq ((0 : Int32).toNatClampNeg) := ⟨_, rfl⟩
    rw [← ei1] at q1
    obtain ⟨k4, ek4⟩ : ∃ z : Int32, z = fI H kq (K.1.2 8 4) := ⟨_, rfl⟩
    rw [← ek4] at q4
    obtain ⟨i4, ei4⟩ : ∃ z : Int32, z = fI H iq ((1 : Int32).toNatClampNeg) := ⟨_, rfl⟩
    rw [← ei4] at q4
    obtain ⟨k5, ek5⟩ : ∃ z : Int32, z = fI H kq (K.1.2 8 5) := ⟨_, rfl⟩
    rw [← ek5] at q5
    obtain ⟨i5, ei5⟩ : ∃ z : Int32, z = fI H iq ((2 : Int32).toNatClampNeg) := ⟨_, rfl⟩
    rw [← ei5] at q5
    obtain ⟨k10, ek10⟩ : ∃ z : Int32, z = fI H kq (K.1.2 8 10) := ⟨_, rfl⟩
    rw [← ek10] at q10
    obtain ⟨i10, ei10⟩ : ∃ z : Int32, z = fI H iq ((3 : Int32).toNatClampNeg) := ⟨_, rfl⟩
    rw [← ei10] at q10
    obtain ⟨k13, ek13⟩ : ∃ z : Int32, z = fI H kq (K.1.2 8 13) := ⟨_, rfl⟩
    rw [← ek13] at q13
    obtain ⟨i13, ei13⟩ : ∃ z : Int32, z = fI H iq ((4 : Int32).toNatClampNeg) := ⟨_, rfl⟩
    rw [← ei13] at q13
    obtain ⟨k16, ek16⟩ : ∃ z : Int32, z = fI H kq (K.1.2 8 16) := ⟨_, rfl⟩
    rw [← ek16] at q16
    obtain ⟨i16, ei16⟩ : ∃ z : Int32, z = fI H iq ((5 : Int32).toNatClampNeg) := ⟨_, rfl⟩
    rw [← ei16] at q16
    obtain ⟨kb, ekb⟩ : ∃ z : Nat, z = fR H kq (K.1.2 8 0) := ⟨_, rfl⟩
    have gkb := ty_fr (q := kb) (k := 0) (u := 59) ekb hT gkq rg_34 rfl
    have bk1 := ty_fi (x := k1) (k := 1) ek1 hT gkq rg_34 rfl
    rw [← ekb] at dbk
    rw [← ekb, ← eiq, ← ek1] at vk
    rw [← eiq, ← ek1] at vkt
    obtain ⟨kz168, ekz168⟩ : ∃ f : Nat → Int32, ∀ j : Nat, j < 10 → f j = fI H (fR H kb j) (K.1.2 0 14) := ⟨_, fun _ _ => rfl⟩
    obtain ⟨iz169, eiz169⟩ : ∃ f : Nat → Int32, ∀ j : Nat, j < 10 → f j = fI H iq (11 + 6 * j) := ⟨_, fun _ _ => rfl⟩
    have vk0 : ∀ j : Nat, j < 10 → (j : Int) < k1.toInt → kz168 j = iz169 j := fun j h1 h2 => by rw [ekz168 j h1, eiz169 j h1]; exact vk j h1 h2
    clear vk
    have vk1 : ∀ j : Nat, j < 10 → k1.toInt ≤ (j : Int) → iz169 j = 0 := fun j h1 h2 => by rw [eiz169 j h1]; exact vkt j h1 h2
    clear vkt
    refine lv_aload_n hx hb dL_law_1034 rfl (lv_at hl 2 rfl) ?_
    refine lv_aload_n hx hb dL_law_1035 rfl (lv_at hl 3 rfl) ?_
    refine lv_iload_n hx hb dL_law_1036 rfl (lv_at hl 0 rfl) ?_
    refine lv_iconst (v := 1) hx hb dL_law_1037 (by decide) ?_
    refine lv_iadd hx hb dL_law_1038 ?_
    refine lv_topi (fun x170 ex170 => ?_)
    obtain ⟨tx170, ejx170, evx170⟩ := lw_ix (k := 1) ex170 hI hL rfl (by decide)
    clear tx170
    refine va_sld hx hb hX hbl (Nat.not_le.mpr hbl) hS (vp_in_iff.mpr evx170) dL_law_1039 ?_
    refine W.eq (g2 := F0 m 1040 ls [.int (xs (i.toNatClampNeg + 1)), .ref a]) (congrArg (fun z => F0 m 1040 ls [.int (xs z), .ref a]) ejx170) ?_
    refine lv_aload_n hx hb dL_law_1040 rfl (lv_at hl 3 rfl) ?_
    refine lv_iload_n hx hb dL_law_1041 rfl (lv_at hl 0 rfl) ?_
    refine lv_iconst (v := 2) hx hb dL_law_1042 (by decide) ?_
    refine lv_iadd hx hb dL_law_1043 ?_
    refine lv_topi (fun x171 ex171 => ?_)
    obtain ⟨tx171, ejx171, evx171⟩ := lw_ix (k := 2) ex171 hI hL rfl (by decide)
    clear tx171
    refine va_sld hx hb hX hbl (Nat.not_le.mpr hbl) hS (vp_in_iff.mpr evx171) dL_law_1044 ?_
    refine W.eq (g2 := F0 m 1045 ls [.int (xs (i.toNatClampNeg + 2)), .int (xs (i.toNatClampNeg + 1)), .ref a]) (congrArg (fun z => F0 m 1045 ls [.int (xs z), .int (xs (i.toNatClampNeg + 1)), .ref a]) ejx171) ?_
    refine lv_aload_n hx hb dL_law_1045 rfl (lv_at hl 3 rfl) ?_
    refine lv_iload_n hx hb dL_law_1046 rfl (lv_at hl 0 rfl) ?_
    refine lv_iconst (v := 3) hx hb dL_law_1047 (by decide) ?_
    refine lv_iadd hx hb dL_law_1048 ?_
    refine lv_topi (fun x172 ex172 => ?_)
    obtain ⟨tx172, ejx172, evx172⟩ := lw_ix (k := 3) ex172 hI hL rfl (by decide)
    clear tx172
    refine va_sld hx hb hX hbl (Nat.not_le.mpr hbl) hS (vp_in_iff.mpr evx172) dL_law_1049 ?_
    refine W.eq (g2 := F0 m 1050 ls [.int (xs (i.toNatClampNeg + 3)), .int (xs (i.toNatClampNeg + 2)), .int (xs (i.toNatClampNeg + 1)), .ref a]) (congrArg (fun z => F0 m 1050 ls [.int (xs z), .int (xs (i.toNatClampNeg + 2)), .int (xs (i.toNatClampNeg + 1)), .ref a]) ejx172) ?_
    refine x_V (As := [.int (xs (i.toNatClampNeg + 1)), .int (xs (i.toNatClampNeg + 2)), .int (xs (i.toNatClampNeg + 3))]) (rest := []) C (a_X9_still l K G H ((xs (i.toNatClampNeg + 1))) ((xs (i.toNatClampNeg + 2))) ((xs (i.toNatClampNeg + 3))) hT ga) yo_X9_still wM_L_109 ⟨⟨by decide, by decide⟩, show _ ≤ 1200000 from Nat.le_trans hc (by decide), show _ ≤ 5502250 from Nat.le_trans hs (by decide)⟩ (x_rv C hT (ci := 9) rfl ga rg_68) rfl hl.1 rfl (Nat.le_of_ble_eq_true rfl) dL_law_1050 hS (AE_new hN hS.1) (fun vH173 H173 locsH173 pH173 zH173 kH173 hSH173 => ?_)
    obtain ⟨x174, hvH173, hTH173⟩ := pH173
    subst hvH173
    have g175 : CG (avw K H173 b) := CG.congr (fun k hk j => av_eff hT kH173 gb (by decide) (CG_eff [83, 84, 110] (by decide) k hk)) cg
    have g176 : TU (avw K H173 b) (svw K H173 b) := TU.congr (fun k hk j => av_eff hT kH173 gb (by decide) (TU_eff [83, 84, 110] (by decide) k hk)) (fun k hk => sv_eff hT kH173 gb (by decide)) tu
    have g177 : WD (avw K H173 b) := WD.congr (fun k hk j => av_eff hT kH173 gb (by decide) (WD_eff [83, 84, 110] (by decide) k hk)) wd
    have g178 : IM (avw K H173 b) := IM.congr (fun k hk j => av_eff hT kH173 gb (by decide) (IM_eff [83, 84, 110] (by decide) k hk)) im
    have m179 := (ew).trans (fR_kept (x_lt hT kH173 ga (by decide))).symm
    have m180 := (eta).trans (fI_kept (x_lt hT kH173 ga (by decide))).symm
    have m181 := (etb).trans (fI_kept (x_lt hT kH173 gb (by decide))).symm
    have m182 := (es1).trans (fI_kept (x_lt hT kH173 gw (by decide))).symm
    have m183 := (ey1).trans (fI_kept (x_lt hT kH173 gb (by decide))).symm
    have m184 := (es4).trans (fI_kept (x_lt hT kH173 gw (by decide))).symm
    have m185 := (ey4).trans (fI_kept (x_lt hT kH173 gb (by decide))).symm
    have m186 := (es5).trans (fI_kept (x_lt hT kH173 gw (by decide))).symm
    have m187 := (ey5).trans (fI_kept (x_lt hT kH173 gb (by decide))).symm
    have m188 := (es10).trans (fI_kept (x_lt hT kH173 gw (by decide))).symm
    have m189 := (ey10).trans (fI_kept (x_lt hT kH173 gb (by decide))).symm
    have m190 := (es13).trans (fI_kept (x_lt hT kH173 gw (by decide))).symm
    have m191 := (ey13).trans (fI_kept (x_lt hT kH173 gb (by decide))).symm
    have m192 := (es16).trans (fI_kept (x_lt hT kH173 gw (by decide))).symm
    have m193 := (ey16).trans (fI_kept (x_lt hT kH173 gb (by decide))).symm
    have m194 := (ebq).trans (fR_kept (x_lt hT kH173 gw (by decide))).symm
    have m195 := (eaq).trans (fR_kept (x_lt hT kH173 gb (by decide))).symm
    have m196 := (ehi).trans (fI_kept (x_lt hT kH173 gb (by decide))).symm
    have m197 := (fV_kept (x_lt hT kH173 ga (by decide))).trans kn
    have m198 := (eiq).trans (fR_kept (x_lt hT kH173 gb (by decide))).symm
    have m199 := (ek1).trans (fI_kept (x_lt hT kH173 gkq (by decide))).symm
    have m200 := (ei1).trans (fI_kept (x_lt hT kH173 giq (by decide))).symm
    have m201 := (ek4).trans (fI_kept (x_lt hT kH173 gkq (by decide))).symm
    have m202 := (ei4).trans (fI_kept (x_lt hT kH173 giq (by decide))).symm
    have m203 := (ek5).trans (fI_kept (x_lt hT kH173 gkq (by decide))).symm
    have m204 := (ei5).trans (fI_kept (x_lt hT kH173 giq (by decide))).symm
    have m205 := (ek10).trans (fI_kept (x_lt hT kH173 gkq (by decide))).symm
    have m206 := (ei10).trans (fI_kept (x_lt hT kH173 giq (by decide))).symm
    have m207 := (ek13).trans (fI_kept (x_lt hT kH173 gkq (by decide))).symm
    have m208 := (ei13).trans (fI_kept (x_lt hT kH173 giq (by decide))).symm
    have m209 := (ek16).trans (fI_kept (x_lt hT kH173 gkq (by decide))).symm
    have m210 := (ei16).trans (fI_kept (x_lt hT kH173 giq (by decide))).symm
    have m211 := (ekb).trans (fR_kept (x_lt hT kH173 gkq (by decide))).symm
    refine W.eq (g2 := F0 m 1053 ls [.int x174]) rfl ?_
    have v212 : ∀ j : Nat, j < 10 → cz101 j = fI H173 (fR H173 bq j) (K.1.2 0 14) := fun j h => (ecz101 j h).trans (by rw [fR_kept (x_lt hT kH173 gbq (by decide))]; exact (fI_kept (x_lt hT kH173 (bar_g hT gbq j h) (by decide))).symm)
    have v213 : ∀ j : Nat, j < 10 → rz102 j = fI H173 aq j := fun j h => (erz102 j h).trans (fI_kept (x_lt hT kH173 gaq (by decide))).symm
    have v214 : ∀ j : Nat, j < 10 → kz168 j = fI H173 (fR H173 kb j) (K.1.2 0 14) := fun j h => (ekz168 j h).trans (by rw [fR_kept (x_lt hT kH173 gkb (by decide))]; exact (fI_kept (x_lt hT kH173 (bar_h hT gkb j h) (by decide))).symm)
    have d215 := DB.kept dbk (x_lt hT kH173 gkb (by decide))
    have v216 : ∀ j : Nat, j < 10 → iz169 j = fI H173 iq (11 + 6 * j) := fun j h => (eiz169 j h).trans (fI_kept (x_lt hT kH173 giq (by decide))).symm
    have d217 := DB.kept db (x_lt hT kH173 gbq (by decide))
    refine lv_pop hx hb dL_law_1053 rfl ?_
    refine lv_aload_n hx hb dL_law_1054 rfl (lv_at hl 1 rfl) ?_
    refine lv_aload_n hx hb dL_law_1055 rfl (lv_at hl 3 rfl) ?_
    refine lv_iload_n hx hb dL_law_1056 rfl (lv_at hl 0 rfl) ?_
    refine lv_iconst (v := 1) hx hb dL_law_1057 (by decide) ?_
    refine lv_iadd hx hb dL_law_1058 ?_
    refine lv_topi (fun x218 ex218 => ?_)
    obtain ⟨tx218, ejx218, evx218⟩ := lw_ix (k := 1) ex218 hI hL rfl (by decide)
    clear tx218
    refine va_sld hx hb hX hbl (Nat.not_le.mpr hbl) hSH173 (vp_in_iff.mpr evx218) dL_law_1059 ?_
    refine W.eq (g2 := F0 m 1060 ls [.int (xs (i.toNatClampNeg + 1)), .ref b]) (congrArg (fun z => F0 m 1060 ls [.int (xs z), .ref b]) ejx218) ?_
    refine lv_aload_n hx hb dL_law_1060 rfl (lv_at hl 3 rfl) ?_
    refine lv_iload_n hx hb dL_law_1061 rfl (lv_at hl 0 rfl) ?_
    refine lv_iconst (v := 2) hx hb dL_law_1062 (by decide) ?_
    refine lv_iadd hx hb dL_law_1063 ?_
    refine lv_topi (fun x219 ex219 => ?_)
    obtain ⟨tx219, ejx219, evx219⟩ := lw_ix (k := 2) ex219 hI hL rfl (by decide)
    clear tx219
    refine va_sld hx hb hX hbl (Nat.not_le.mpr hbl) hSH173 (vp_in_iff.mpr evx219) dL_law_1064 ?_
    refine W.eq (g2 := F0 m 1065 ls [.int (xs (i.toNatClampNeg + 2)), .int (xs (i.toNatClampNeg + 1)), .ref b]) (congrArg (fun z => F0 m 1065 ls [.int (xs z), .int (xs (i.toNatClampNeg + 1)), .ref b]) ejx219) ?_
    refine lv_aload_n hx hb dL_law_1065 rfl (lv_at hl 3 rfl) ?_
    refine lv_iload_n hx hb dL_law_1066 rfl (lv_at hl 0 rfl) ?_
    refine lv_iconst (v := 3) hx hb dL_law_1067 (by decide) ?_
    refine lv_iadd hx hb dL_law_1068 ?_
    refine lv_topi (fun x220 ex220 => ?_)
    obtain ⟨tx220, ejx220, evx220⟩ := lw_ix (k := 3) ex220 hI hL rfl (by decide)
    clear tx220
    refine va_sld hx hb hX hbl (Nat.not_le.mpr hbl) hSH173 (vp_in_iff.mpr evx220) dL_law_1069 ?_
    refine W.eq (g2 := F0 m 1070 ls [.int (xs (i.toNatClampNeg + 3)), .int (xs (i.toNatClampNeg + 2)), .int (xs (i.toNatClampNeg + 1)), .ref b]) (congrArg (fun z => F0 m 1070 ls [.int (xs z), .int (xs (i.toNatClampNeg + 2)), .int (xs (i.toNatClampNeg + 1)), .ref b]) ejx220) ?_
    refine x_V (As := [.int (xs (i.toNatClampNeg + 1)), .int (xs (i.toNatClampNeg + 2)), .int (xs (i.toNatClampNeg + 3))]) (rest := []) C (a_X10_still l K G H173 ((xs (i.toNatClampNeg + 1))) ((xs (i.toNatClampNeg + 2))) ((xs (i.toNatClampNeg + 3))) hTH173 gb g175 g176 g177 g178) yo_X10_still wM_L_112 ⟨⟨by decide, by decide⟩, show _ ≤ 1200000 from Nat.le_trans hc (by decide), show _ ≤ 5502250 from Nat.le_trans hs (by decide)⟩ (x_rv C hTH173 (ci := 10) rfl gb rg_112) rfl hl.1 rfl (Nat.le_of_ble_eq_true rfl) dL_law_1070 hSH173 (AE_new hN hSH173.1) (fun vH221 H221 locsH221 pH221 zH221 kH221 hSH221 => ?_)
    obtain ⟨x222, hvH221, g223, g224, g225, g226, mf227, hTH221⟩ := pH221
    subst hvH221
    have m228 := (m179).trans (fR_kept (x_lt hTH173 kH221 ga (by decide))).symm
    have m229 := (m180).trans (fI_kept (x_lt hTH173 kH221 ga (by decide))).symm
    have m230 := (m182).trans (fI_kept (x_lt hTH173 kH221 gw (by decide))).symm
    have m231 := (m184).trans (fI_kept (x_lt hTH173 kH221 gw (by decide))).symm
    have m232 := (m186).trans (fI_kept (x_lt hTH173 kH221 gw (by decide))).symm
    have m233 := (m188).trans (fI_kept (x_lt hTH173 kH221 gw (by decide))).symm
    have m234 := (m190).trans (fI_kept (x_lt hTH173 kH221 gw (by decide))).symm
    have m235 := (m192).trans (fI_kept (x_lt hTH173 kH221 gw (by decide))).symm
    have m236 := (m194).trans (fR_kept (x_lt hTH173 kH221 gw (by decide))).symm
    have m237 := (fV_kept (x_lt hTH173 kH221 ga (by decide))).trans m197
    have m238 := (m199).trans (fI_kept (x_lt hTH173 kH221 gkq (by decide))).symm
    have m239 := (m200).trans (fI_kept (x_lt hTH173 kH221 giq (by decide))).symm
    have m240 := (m201).trans (fI_kept (x_lt hTH173 kH221 gkq (by decide))).symm
    have m241 := (m202).trans (fI_kept (x_lt hTH173 kH221 giq (by decide))).symm
    have m242 := (m203).trans (fI_kept (x_lt hTH173 kH221 gkq (by decide))).symm
    have m243 := (m204).trans (fI_kept (x_lt hTH173 kH221 giq (by decide))).symm
    have m244 := (m205).trans (fI_kept (x_lt hTH173 kH221 gkq (by decide))).symm
    have m245 := (m206).trans (fI_kept (x_lt hTH173 kH221 giq (by decide))).symm
    have m246 := (m207).trans (fI_kept (x_lt hTH173 kH221 gkq (by decide))).symm
    have m247 := (m208).trans (fI_kept (x_lt hTH173 kH221 giq (by decide))).symm
    have m248 := (m209).trans (fI_kept (x_lt hTH173 kH221 gkq (by decide))).symm
    have m249 := (m210).trans (fI_kept (x_lt hTH173 kH221 giq (by decide))).symm
    have m250 := (m211).trans (fR_kept (x_lt hTH173 kH221 gkq (by decide))).symm
    have m251 := (m181).trans (MF.i mf227 (k := 18) (by decide) (by decide)).symm
    have m252 := (m183).trans (MF.i mf227 (k := 1) (by decide) (by decide)).symm
    have m253 := (m185).trans (MF.i mf227 (k := 2) (by decide) (by decide)).symm
    have m254 := (m187).trans (MF.i mf227 (k := 3) (by decide) (by decide)).symm
    have m255 := (m189).trans (MF.i mf227 (k := 59) (by decide) (by decide)).symm
    have m256 := (m191).trans (MF.i mf227 (k := 62) (by decide) (by decide)).symm
    have m257 := (m193).trans (MF.i mf227 (k := 65) (by decide) (by decide)).symm
    have m258 := (m195).trans (MF.r mf227 (k := 50) (by decide) (by decide)).symm
    have m259 := (m196).trans (MF.i mf227 (k := 70) (by decide) (by decide)).symm
    have m260 := (m198).trans (MF.r mf227 (k := 73) (by decide) (by decide)).symm
    refine W.eq (g2 := F0 m 1073 ls [.int x222]) rfl ?_
    have v261 : ∀ j : Nat, j < 10 → cz101 j = fI H221 (fR H221 bq j) (K.1.2 0 14) := fun j h => (v212 j h).trans (by rw [fR_kept (x_lt hTH173 kH221 gbq (by decide))]; exact (fI_kept (x_lt hTH173 kH221 (bar_g hTH173 gbq j h) (by decide))).symm)
    have v262 : ∀ j : Nat, j < 10 → rz102 j = fI H221 aq j := fun j h => (v213 j h).trans (fI_kept (x_lt hTH173 kH221 gaq (by decide))).symm
    have v263 : ∀ j : Nat, j < 10 → kz168 j = fI H221 (fR H221 kb j) (K.1.2 0 14) := fun j h => (v214 j h).trans (by rw [fR_kept (x_lt hTH173 kH221 gkb (by decide))]; exact (fI_kept (x_lt hTH173 kH221 (bar_h hTH173 gkb j h) (by decide))).symm)
    have d264 := DB.kept d215 (x_lt hTH173 kH221 gkb (by decide))
    have v265 : ∀ j : Nat, j < 10 → iz169 j = fI H221 iq (11 + 6 * j) := fun j h => (v216 j h).trans (fI_kept (x_lt hTH173 kH221 giq (by decide))).symm
    have d266 := DB.kept d217 (x_lt hTH173 kH221 gbq (by decide))
    refine lv_pop hx hb dL_law_1073 rfl ?_
    refine lv_goto (tgt := 1509) hx hb dL_law_1074 (by decide) ?_
    exact nx G H221 locsH221 _ _ ls ⟨hTH221, hN, ga, gb, g223, g224, g225, g226, ⟨(by rw [← m229, ← m251]; exact rt), (by rw [← m228, ← m230, ← m252]; exact r1), (by rw [← m228, ← m231, ← m253]; exact r4), (by rw [← m228, ← m232, ← m254]; exact r5), (by rw [← m228, ← m233, ← m255]; exact r10), (by rw [← m228, ← m234, ← m256]; exact r13), (by rw [← m228, ← m235, ← m257]; exact r16)⟩, Or.inr ⟨kq, m237, gkq, (by rw [← m259]; exact h70), (by rw [← m238, ← m260, ← m239]; exact q1), (by rw [← m240, ← m260, ← m241]; exact q4), (by rw [← m242, ← m260, ← m243]; exact q5), (by rw [← m244, ← m260, ← m245]; exact q10), (by rw [← m246, ← m260, ← m247]; exact q13), (by rw [← m248, ← m260, ← m249]; exact q16), (by rw [← m250]; exact d264), (by rw [← m250, ← m260, ← m238]; exact fun j h1 h2 => by rw [← v263 j h1, ← v265 j h1]; exact vk0 j h1 (by omega)), (by rw [← m260, ← m238]; exact fun j h1 h2 => by rw [← v265 j h1]; exact vk1 j h1 (by omega))⟩, (by unfold RB; rw [← m228, ← m236, ← m258, ← m252]; exact ⟨d266, fun j h1 h2 => by rw [← v261 j h1, ← v262 j h1]; exact rel j h1 (by omega), fun j h1 h2 => by rw [← v262 j h1]; exact tl j h1 (by omega)⟩), hSH221⟩ hl ⟨hc, hs, fun h => by have h1 := h.symm.trans m237; cases h1⟩
set_option maxRecDepth 100000 in
set_option maxHeartbeats 8000000 in
theorem lw_c23 {p : Program} {l : Launch} {e : Env} {s : State} {m : MethodId} {below : List Frame} {meth : Method} {c : Code} {K : KE} {b0 L : Nat} {xs : Nat → Int32} {G : Nat → Option Nat} {H : Heap} {locs : List Loc} {a b : Nat} {cells slots : Nat} {ls : Array Slot} {i : Int32} {n : Nat} (D : LC p K s m meth c b0 L xs) (S : SX K s G H locs a b) (hl : lv_has ls 4 [(3, .int i), (2, .ref b), (1, .ref a), (0, .ref b0)]) (hi : 0 ≤ i.toInt ∧ i.toInt + 6 ≤ L) (hn : n ≤ 511) (hB : BD K H a cells slots) (nx : ∀ (G : Nat → Option Nat) (H : Heap) (locs : List Loc) (cells slots : Nat) (ls : Array Slot), SX K s G H locs a b → lv_has ls 4 [(3, .int i), (2, .ref b), (1, .ref a), (0, .ref b0)] → BD K H a cells slots → W p l e room_1 s m #[Value.ref b0] below meth c H locs cells slots (lw_Z below #[Value.ref b0] s) (F0 m 1509 ls [])) : W p l e room_1 s m #[Value.ref b0] below meth c H locs cells slots (lw_Z below #[Value.ref b0] s) (F0 m 1077 ls []) := by
  have hI := hi
  obtain ⟨C, hX, hbl, hL⟩ := id D
  obtain ⟨hx, hb, hml, hown, hts, hKT, hr, hlocks, hnm⟩ := id C
  obtain ⟨hT, hN, ga, gb, cg, tu, wd, im, ⟨rt, r1, r4, r5, r10, r13, r16⟩, hk, hrb, hS⟩ := S
  obtain ⟨hc, hs, hB0⟩ := hB
  have n_m1 : ((-1) : Int32).toInt = -1 := rfl
  have n_0 : (0 : Int32).toInt = 0 := rfl
  have n_1 : (1 : Int32).toInt = 1 := rfl
  have n_2 : (2 : Int32).toInt = 2 := rfl
  have n_3 : (3 : Int32).toInt = 3 := rfl
  obtain ⟨w, ew⟩ : ∃ z : Nat, z = fR H a (K.1.2 9 0) := ⟨_, rfl⟩
  have gw := ty_fr (q := w) (k := 0) (u := 0) ew hT ga rg_68 rfl
  rw [← ew] at r1 r4 r5 r10 r13 r16
  obtain ⟨ta, eta⟩ : ∃ z : Int32, z = fI H a (K.1.2 9 3) := ⟨_, rfl⟩
  rw [← eta] at rt
  obtain ⟨tb, etb⟩ : ∃ z : Int32, z = fI H b (K.1.2 10 18) := ⟨_, rfl⟩
  rw [← etb] at rt
  obtain ⟨s1, es1⟩ : ∃ z : Int32, z = fI H w (K.1.2 8 1) := ⟨_, rfl⟩
  rw [← es1] at r1
  obtain ⟨y1, ey1⟩ : ∃ z : Int32, z = fI H b (K.1.2 10 1) := ⟨_, rfl⟩
  rw [← ey1] at r1
  obtain ⟨s4, es4⟩ : ∃ z : Int32, z = fI H w (K.1.2 8 4) := ⟨_, rfl⟩
  rw [← es4] at r4
  obtain ⟨y4, ey4⟩ : ∃ z : Int32, z = fI H b (K.1.2 10 2) := ⟨_, rfl⟩
  rw [← ey4] at r4
  obtain ⟨s5, es5⟩ : ∃ z : Int32, z = fI H w (K.1.2 8 5) := ⟨_, rfl⟩
  rw [← es5] at r5
  obtain ⟨y5, ey5⟩ : ∃ z : Int32, z = fI H b (K.1.2 10 3) := ⟨_, rfl⟩
  rw [← ey5] at r5
  obtain ⟨s10, es10⟩ : ∃ z : Int32, z = fI H w (K.1.2 8 10) := ⟨_, rfl⟩
  rw [← es10] at r10
  obtain ⟨y10, ey10⟩ : ∃ z : Int32, z = fI H b (K.1.2 10 59) := ⟨_, rfl⟩
  rw [← ey10] at r10
  obtain ⟨s13, es13⟩ : ∃ z : Int32, z = fI H w (K.1.2 8 13) := ⟨_, rfl⟩
  rw [← es13] at r13
  obtain ⟨y13, ey13⟩ : ∃ z : Int32, z = fI H b (K.1.2 10 62) := ⟨_, rfl⟩
  rw [← ey13] at r13
  obtain ⟨s16, es16⟩ : ∃ z : Int32, z = fI H w (K.1.2 8 16) := ⟨_, rfl⟩
  rw [← es16] at r16
  obtain ⟨y16, ey16⟩ : ∃ z : Int32, z = fI H b (K.1.2 10 65) := ⟨_, rfl⟩
  rw [← ey16] at r16
  obtain ⟨bq, ebq⟩ : ∃ z : Nat, z = fR H w (K.1.2 8 0) := ⟨_, rfl⟩
  have gbq := ty_fr (q := bq) (k := 0) (u := 25) ebq hT gw rg_0 rfl
  obtain ⟨aq, eaq⟩ : ∃ z : Nat, z = fR H b (K.1.2 10 50) := ⟨_, rfl⟩
  have gaq := ty_fr (q := aq) (k := 50) (u := 146) eaq hT gb rg_112 rfl
  have bs1 := ty_fi (x := s1) (k := 1) es1 hT gw rg_0 rfl
  have by1 := ty_fi (x := y1) (k := 1) ey1 hT gb rg_112 rfl
  obtain ⟨db, vr, vt⟩ := hrb
  rw [← ew, ← ebq] at db
  rw [← ew, ← ebq, ← eaq, ← ey1] at vr
  rw [← eaq, ← ey1] at vt
  obtain ⟨cz101, ecz101⟩ : ∃ f : Nat → Int32, ∀ j : Nat, j < 10 → f j = fI H (fR H bq j) (K.1.2 0 14) := ⟨_, fun _ _ => rfl⟩
  obtain ⟨rz102, erz102⟩ : ∃ f : Nat → Int32, ∀ j : Nat, j < 10 → f j = fI H aq j := ⟨_, fun _ _ => rfl⟩
  have rel : ∀ j : Nat, j < 10 → (j : Int) < y1.toInt → cz101 j = rz102 j := fun j h1 h2 => by rw [ecz101 j h1, erz102 j h1]; exact vr j h1 h2
  clear vr
  have tl : ∀ j : Nat, j < 10 → y1.toInt ≤ (j : Int) → rz102 j = 0 := fun j h1 h2 => by rw [erz102 j h1]; exact vt j h1 h2
  clear vt
  rcases hk with ⟨kn, h70⟩ | ⟨kq, kn, gkq, h70, q1, q4, q5, q10, q13, q16, dbk, vk, vkt⟩
  · skip
    obtain ⟨hi, ehi⟩ : ∃ z : Int32, z = fI H b (K.1.2 10 70) := ⟨_, rfl⟩
    rw [← ehi] at h70
    obtain ⟨hc0, hs0⟩ := hB0 kn
    obtain ⟨iq, eiq⟩ : ∃ z : Nat, z = fR H b (K.1.2 10 73) := ⟨_, rfl⟩
    have giq := ty_fr (q := iq) (k := 73) (u := 162) eiq hT gb rg_112 rfl
    refine lv_aload_n hx hb dL_law_1077 rfl (lv_at hl 2 rfl) ?_
    refine lv_aload_n hx hb dL_law_1078 rfl (lv_at hl 3 rfl) ?_
    refine lv_iload_n hx hb dL_law_1079 rfl (lv_at hl 0 rfl) ?_
    refine lv_iconst (v := 1) hx hb dL_law_1080 (by decide) ?_
    refine lv_iadd hx hb dL_law_1081 ?_
    refine lv_topi (fun x103 ex103 => ?_)
    obtain ⟨tx103, ejx103, evx103⟩ := lw_ix (k := 1) ex103 hI hL rfl (by decide)
    clear tx103
    refine va_sld hx hb hX hbl (Nat.not_le.mpr hbl) hS (vp_in_iff.mpr evx103) dL_law_1082 ?_
    refine W.eq (g2 := F0 m 1083 ls [.int (xs (i.toNatClampNeg + 1)), .ref a]) (congrArg (fun z => F0 m 1083 ls [.int (xs z), .ref a]) ejx103) ?_
    refine lv_aload_n hx hb dL_law_1083 rfl (lv_at hl 3 rfl) ?_
    refine lv_iload_n hx hb dL_law_1084 rfl (lv_at hl 0 rfl) ?_
    refine lv_iconst (v := 2) hx hb dL_law_1085 (by decide) ?_
    refine lv_iadd hx hb dL_law_1086 ?_
    refine lv_topi (fun x104 ex104 => ?_)
    obtain ⟨tx104, ejx104, evx104⟩ := lw_ix (k := 2) ex104 hI hL rfl (by decide)
    clear tx104
    refine va_sld hx hb hX hbl (Nat.not_le.mpr hbl) hS (vp_in_iff.mpr evx104) dL_law_1087 ?_
    refine W.eq (g2 := F0 m 1088 ls [.int (xs (i.toNatClampNeg + 2)), .int (xs (i.toNatClampNeg + 1)), .ref a]) (congrArg (fun z => F0 m 1088 ls [.int (xs z), .int (xs (i.toNatClampNeg + 1)), .ref a]) ejx104) ?_
    refine lv_aload_n hx hb dL_law_1088 rfl (lv_at hl 3 rfl) ?_
    refine lv_iload_n hx hb dL_law_1089 rfl (lv_at hl 0 rfl) ?_
    refine lv_iconst (v := 3) hx hb dL_law_1090 (by decide) ?_
    refine lv_iadd hx hb dL_law_1091 ?_
    refine lv_topi (fun x105 ex105 => ?_)
    obtain ⟨tx105, ejx105, evx105⟩ := lw_ix (k := 3) ex105 hI hL rfl (by decide)
    clear tx105
    refine va_sld hx hb hX hbl (Nat.not_le.mpr hbl) hS (vp_in_iff.mpr evx105) dL_law_1092 ?_
    refine W.eq (g2 := F0 m 1093 ls [.int (xs (i.toNatClampNeg + 3)), .int (xs (i.toNatClampNeg + 2)), .int (xs (i.toNatClampNeg + 1)), .ref a]) (congrArg (fun z => F0 m 1093 ls [.int (xs z), .int (xs (i.toNatClampNeg + 2)), .int (xs (i.toNatClampNeg + 1)), .ref a]) ejx105) ?_
    refine x_V (As := [.int (xs (i.toNatClampNeg + 1)), .int (xs (i.toNatClampNeg + 2)), .int (xs (i.toNatClampNeg + 3))]) (rest := []) C (a_X9_holes_q l K G H ((xs (i.toNatClampNeg + 1))) ((xs (i.toNatClampNeg + 2))) ((xs (i.toNatClampNeg + 3))) hT ga) yo_X9_holes wM_L_113 ⟨⟨by decide, by decide⟩, show _ ≤ 1200000 from Nat.le_trans hc (by decide), show _ ≤ 5502250 from Nat.le_trans hs (by decide)⟩ (x_rv C hT (ci := 9) rfl ga rg_68) rfl hl.1 rfl (Nat.le_of_ble_eq_true rfl) dL_law_1093 hS (AE_new hN hS.1) (fun vH106 H106 locsH106 pH106 zH106 kH106 hSH106 => ?_)
    obtain ⟨x107, hvH106, bx107, m108, hTH106⟩ := pH106
    subst hvH106
    have g109 : CG (avw K H106 b) := CG.congr (fun k hk j => av_eff hT kH106 gb (by decide) (CG_eff [1] (by decide) k hk)) cg
    have g110 : TU (avw K H106 b) (svw K H106 b) := TU.congr (fun k hk j => av_eff hT kH106 gb (by decide) (TU_eff [1] (by decide) k hk)) (fun k hk => sv_eff hT kH106 gb (by decide)) tu
    have g111 : WD (avw K H106 b) := WD.congr (fun k hk j => av_eff hT kH106 gb (by decide) (WD_eff [1] (by decide) k hk)) wd
    have g112 : IM (avw K H106 b) := IM.congr (fun k hk j => av_eff hT kH106 gb (by decide) (IM_eff [1] (by decide) k hk)) im
    have m113 := (ew).trans (fR_kept (x_lt hT kH106 ga (by decide))).symm
    have m114 := (eta).trans (fI_kept (x_lt hT kH106 ga (by decide))).symm
    have m115 := (etb).trans (fI_kept (x_lt hT kH106 gb (by decide))).symm
    have m116 := (es1).trans (fI_kept (x_lt hT kH106 gw (by decide))).symm
    have m117 := (ey1).trans (fI_kept (x_lt hT kH106 gb (by decide))).symm
    have m118 := (es4).trans (fI_kept (x_lt hT kH106 gw (by decide))).symm
    have m119 := (ey4).trans (fI_kept (x_lt hT kH106 gb (by decide))).symm
    have m120 := (es5).trans (fI_kept (x_lt hT kH106 gw (by decide))).symm
    have m121 := (ey5).trans (fI_kept (x_lt hT kH106 gb (by decide))).symm
    have m122 := (es10).trans (fI_kept (x_lt hT kH106 gw (by decide))).symm
    have m123 := (ey10).trans (fI_kept (x_lt hT kH106 gb (by decide))).symm
    have m124 := (es13).trans (fI_kept (x_lt hT kH106 gw (by decide))).symm
    have m125 := (ey13).trans (fI_kept (x_lt hT kH106 gb (by decide))).symm
    have m126 := (es16).trans (fI_kept (x_lt hT kH106 gw (by decide))).symm
    have m127 := (ey16).trans (fI_kept (x_lt hT kH106 gb (by decide))).symm
    have m128 := (ebq).trans (fR_kept (x_lt hT kH106 gw (by decide))).symm
    have m129 := (eaq).trans (fR_kept (x_lt hT kH106 gb (by decide))).symm
    have m130 := (ehi).trans (fI_kept (x_lt hT kH106 gb (by decide))).symm
    have m131 := (fV_kept (x_lt hT kH106 ga (by decide))).trans kn
    have m132 := (eiq).trans (fR_kept (x_lt hT kH106 gb (by decide))).symm
    refine W.eq (g2 := F0 m 1096 ls [.int x107]) rfl ?_
    have v133 : ∀ j : Nat, j < 10 → cz101 j = fI H106 (fR H106 bq j) (K.1.2 0 14) := fun j h => (ecz101 j h).trans (by rw [fR_kept (x_lt hT kH106 gbq (by decide))]; exact (m108 _ (bar_g hT gbq j h)).symm)
    have v134 : ∀ j : Nat, j < 10 → rz102 j = fI H106 aq j := fun j h => (erz102 j h).trans (fI_kept (x_lt hT kH106 gaq (by decide))).symm
    have d135 := DB.kept db (x_lt hT kH106 gbq (by decide))
    refine lv_pop hx hb dL_law_1096 rfl ?_
    refine lv_aload_n hx hb dL_law_1097 rfl (lv_at hl 1 rfl) ?_
    refine lv_aload_n hx hb dL_law_1098 rfl (lv_at hl 3 rfl) ?_
    refine lv_iload_n hx hb dL_law_1099 rfl (lv_at hl 0 rfl) ?_
    refine lv_iconst (v := 1) hx hb dL_law_1100 (by decide) ?_
    refine lv_iadd hx hb dL_law_1101 ?_
    refine lv_topi (fun x136 ex136 => ?_)
    obtain ⟨tx136, ejx136, evx136⟩ := lw_ix (k := 1) ex136 hI hL rfl (by decide)
    clear tx136
    refine va_sld hx hb hX hbl (Nat.not_le.mpr hbl) hSH106 (vp_in_iff.mpr evx136) dL_law_1102 ?_
    refine W.eq (g2 := F0 m 1103 ls [.int (xs (i.toNatClampNeg + 1)), .ref b]) (congrArg (fun z => F0 m 1103 ls [.int (xs z), .ref b]) ejx136) ?_
    refine lv_aload_n hx hb dL_law_1103 rfl (lv_at hl 3 rfl) ?_
    refine lv_iload_n hx hb dL_law_1104 rfl (lv_at hl 0 rfl) ?_
    refine lv_iconst (v := 2) hx hb dL_law_1105 (by decide) ?_
    refine lv_iadd hx hb dL_law_1106 ?_
    refine lv_topi (fun x137 ex137 => ?_)
    obtain ⟨tx137, ejx137, evx137⟩ := lw_ix (k := 2) ex137 hI hL rfl (by decide)
    clear tx137
    refine va_sld hx hb hX hbl (Nat.not_le.mpr hbl) hSH106 (vp_in_iff.mpr evx137) dL_law_1107 ?_
    refine W.eq (g2 := F0 m 1108 ls [.int (xs (i.toNatClampNeg + 2)), .int (xs (i.toNatClampNeg + 1)), .ref b]) (congrArg (fun z => F0 m 1108 ls [.int (xs z), .int (xs (i.toNatClampNeg + 1)), .ref b]) ejx137) ?_
    refine lv_aload_n hx hb dL_law_1108 rfl (lv_at hl 3 rfl) ?_
    refine lv_iload_n hx hb dL_law_1109 rfl (lv_at hl 0 rfl) ?_
    refine lv_iconst (v := 3) hx hb dL_law_1110 (by decide) ?_
    refine lv_iadd hx hb dL_law_1111 ?_
    refine lv_topi (fun x138 ex138 => ?_)
    obtain ⟨tx138, ejx138, evx138⟩ := lw_ix (k := 3) ex138 hI hL rfl (by decide)
    clear tx138
    refine va_sld hx hb hX hbl (Nat.not_le.mpr hbl) hSH106 (vp_in_iff.mpr evx138) dL_law_1112 ?_
    refine W.eq (g2 := F0 m 1113 ls [.int (xs (i.toNatClampNeg + 3)), .int (xs (i.toNatClampNeg + 2)), .int (xs (i.toNatClampNeg + 1)), .ref b]) (congrArg (fun z => F0 m 1113 ls [.int (xs z), .int (xs (i.toNatClampNeg + 2)), .int (xs (i.toNatClampNeg + 1)), .ref b]) ejx138) ?_
    refine x_V (As := [.int (xs (i.toNatClampNeg + 1)), .int (xs (i.toNatClampNeg + 2)), .int (xs (i.toNatClampNeg + 3))]) (rest := []) C (a_X10_holes l K G H106 ((xs (i.toNatClampNeg + 1))) ((xs (i.toNatClampNeg + 2))) ((xs (i.toNatClampNeg + 3))) hTH106 gb g109 g110 g111 g112) yo_X10_holes wM_L_116 ⟨⟨by decide, by decide⟩, show _ ≤ 1200000 from Nat.le_trans hc (by decide), show _ ≤ 5502250 from Nat.le_trans hs (by decide)⟩ (x_rv C hTH106 (ci := 10) rfl gb rg_112) rfl hl.1 rfl (Nat.le_of_ble_eq_true rfl) dL_law_1113 hSH106 (AE_new hN hSH106.1) (fun vH139 H139 locsH139 pH139 zH139 kH139 hSH139 => ?_)
    obtain ⟨x140, hvH139, bx140, g141, g142, g143, g144, mf145, hTH139⟩ := pH139
    subst hvH139
    have m146 := (m113).trans (fR_kept (x_lt hTH106 kH139 ga (by decide))).symm
    have m147 := (m114).trans (fI_kept (x_lt hTH106 kH139 ga (by decide))).symm
    have m148 := (m116).trans (fI_kept (x_lt hTH106 kH139 gw (by decide))).symm
    have m149 := (m118).trans (fI_kept (x_lt hTH106 kH139 gw (by decide))).symm
    have m150 := (m120).trans (fI_kept (x_lt hTH106 kH139 gw (by decide))).symm
    have m151 := (m122).trans (fI_kept (x_lt hTH106 kH139 gw (by decide))).symm
    have m152 := (m124).trans (fI_kept (x_lt hTH106 kH139 gw (by decide))).symm
    have m153 := (m126).trans (fI_kept (x_lt hTH106 kH139 gw (by decide))).symm
    have m154 := (m128).trans (fR_kept (x_lt hTH106 kH139 gw (by decide))).symm
    have m155 := (fV_kept (x_lt hTH106 kH139 ga (by decide))).trans m131
    have m156 := (m115).trans (MF.i mf145 (k := 18) (by decide) (by decide)).symm
    have m157 := (m117).trans (MF.i mf145 (k := 1) (by decide) (by decide)).symm
    have m158 := (m119).trans (MF.i mf145 (k := 2) (by decide) (by decide)).symm
    have m159 := (m121).trans (MF.i mf145 (k := 3) (by decide) (by decide)).symm
    have m160 := (m123).trans (MF.i mf145 (k := 59) (by decide) (by decide)).symm
    have m161 := (m125).trans (MF.i mf145 (k := 62) (by decide) (by decide)).symm
    have m162 := (m127).trans (MF.i mf145 (k := 65) (by decide) (by decide)).symm
    have m163 := (m129).trans (MF.r mf145 (k := 50) (by decide) (by decide)).symm
    have m164 := (m130).trans (MF.i mf145 (k := 70) (by decide) (by decide)).symm
    have m165 := (m132).trans (MF.r mf145 (k := 73) (by decide) (by decide)).symm
    refine W.eq (g2 := F0 m 1116 ls [.int x140]) rfl ?_
    have v166 : ∀ j : Nat, j < 10 → cz101 j = fI H139 (fR H139 bq j) (K.1.2 0 14) := fun j h => (v133 j h).trans (by rw [fR_kept (x_lt hTH106 kH139 gbq (by decide))]; exact (fI_kept (x_lt hTH106 kH139 (bar_g hTH106 gbq j h) (by decide))).symm)
    have v167 : ∀ j : Nat, j < 10 → rz102 j = fI H139 aq j := fun j h => (v134 j h).trans (fI_kept (x_lt hTH106 kH139 gaq (by decide))).symm
    have d168 := DB.kept d135 (x_lt hTH106 kH139 gbq (by decide))
    refine lv_pop hx hb dL_law_1116 rfl ?_
    refine lv_goto (tgt := 1509) hx hb dL_law_1117 (by decide) ?_
    exact nx G H139 locsH139 _ _ ls ⟨hTH139, hN, ga, gb, g141, g142, g143, g144, ⟨(by rw [← m147, ← m156]; exact rt), (by rw [← m146, ← m148, ← m157]; exact r1), (by rw [← m146, ← m149, ← m158]; exact r4), (by rw [← m146, ← m150, ← m159]; exact r5), (by rw [← m146, ← m151, ← m160]; exact r10), (by rw [← m146, ← m152, ← m161]; exact r13), (by rw [← m146, ← m153, ← m162]; exact r16)⟩, Or.inl ⟨m155, (by rw [← m164]; exact h70)⟩, (by unfold RB; rw [← m146, ← m154, ← m163, ← m157]; exact ⟨d168, fun j h1 h2 => by rw [← v166 j h1, ← v167 j h1]; exact rel j h1 (by omega), fun j h1 h2 => by rw [← v167 j h1]; exact tl j h1 (by omega)⟩), hSH139⟩ hl ⟨hc, hs, fun _ => ⟨hc0, hs0⟩⟩
  · skip
    obtain ⟨hi, ehi⟩ : ∃ z : Int32, z = fI H b (K.1.2 10 70) := ⟨_, rfl⟩
    rw [← ehi] at h70
    obtain ⟨iq, eiq⟩ : ∃ z : Nat, z = fR H b (K.1.2 10 73) := ⟨_, rfl⟩
    have giq := ty_fr (q := iq) (k := 73) (u := 162) eiq hT gb rg_112 rfl
    rw [← eiq] at q1 q4 q5 q10 q13 q16
    obtain ⟨k1, ek1⟩ : ∃ z : Int32, z = fI H kq (K.1.2 8 1) := ⟨_, rfl⟩
    rw [← ek1] at q1
    obtain ⟨i1, ei1⟩ : ∃ z : Int32, z = fI H iq ((0 : Int32).toNatClampNeg) := ⟨_, rfl⟩
    rw [← ei1] at q1
    obtain ⟨k4, ek4⟩ : ∃ z : Int32, z = fI H kq (K.1.2 8 4) := ⟨_, rfl⟩
    rw [← ek4] at q4
    obtain ⟨i4, ei4⟩ : ∃ z : Int32, z = fI H iq ((1 : Int32).toNatClampNeg) := ⟨_, rfl⟩
    rw [← ei4] at q4
    obtain ⟨k5, ek5⟩ : ∃ z : Int32, z = fI H kq (K.1.2 8 5) := ⟨_, rfl⟩
    rw [← ek5] at q5
    obtain ⟨i5, ei5⟩ : ∃ z : Int32, z = fI H iq ((2 : Int32).toNatClampNeg) := ⟨_, rfl⟩
    rw [← ei5] at q5
    obtain ⟨k10, ek10⟩ : ∃ z : Int32, z = fI H kq (K.1.2 8 10) := ⟨_, rfl⟩
    rw [← ek10] at q10
    obtain ⟨i10, ei10⟩ : ∃ z : Int32, z = fI H iq ((3 : Int32).toNatClampNeg) := ⟨_, rfl⟩
    rw [← ei10] at q10
    obtain ⟨k13, ek13⟩ : ∃ z : Int32, z = fI H kq (K.1.2 8 13) := ⟨_, rfl⟩
    rw [← ek13] at q13
    obtain ⟨i13, ei13⟩ : ∃ z : Int32, z = fI H iq ((4 : Int32).toNatClampNeg) := ⟨_, rfl⟩
    rw [← ei13] at q13
    obtain ⟨k16, ek16⟩ : ∃ z : Int32, z = fI H kq (K.1.2 8 16) := ⟨_, rfl⟩
    rw [← ek16] at q16
    obtain ⟨i16, ei16⟩ : ∃ z : Int32, z = fI H iq ((5 : Int32).toNatClampNeg) := ⟨_, rfl⟩
    rw [← ei16] at q16
    obtain ⟨kb, ekb⟩ : ∃ z : Nat, z = fR H kq (K.1.2 8 0) := ⟨_, rfl⟩
    have gkb := ty_fr (q := kb) (k := 0) (u := 59) ekb hT gkq rg_34 rfl
    have bk1 := ty_fi (x := k1) (k := 1) ek1 hT gkq rg_34 rfl
    rw [← ekb] at dbk
    rw [← ekb, ← eiq, ← ek1] at vk
    rw [← eiq, ← ek1] at vkt
    obtain ⟨kz169, ekz169⟩ : ∃ f : Nat → Int32, ∀ j : Nat, j < 10 → f j = fI H (fR H kb j) (K.1.2 0 14) := ⟨_, fun _ _ => rfl⟩
    obtain ⟨iz170, eiz170⟩ : ∃ f : Nat → Int32, ∀ j : Nat, j < 10 → f j = fI H iq (11 + 6 * j) := ⟨_, fun _ _ => rfl⟩
    have vk0 : ∀ j : Nat, j < 10 → (j : Int) < k1.toInt → kz169 j = iz170 j := fun j h1 h2 => by rw [ekz169 j h1, eiz170 j h1]; exact vk j h1 h2
    clear vk
    have vk1 : ∀ j : Nat, j < 10 → k1.toInt ≤ (j : Int) → iz170 j = 0 := fun j h1 h2 => by rw [eiz170 j h1]; exact vkt j h1 h2
    clear vkt
    refine lv_aload_n hx hb dL_law_1077 rfl (lv_at hl 2 rfl) ?_
    refine lv_aload_n hx hb dL_law_1078 rfl (lv_at hl 3 rfl) ?_
    refine lv_iload_n hx hb dL_law_1079 rfl (lv_at hl 0 rfl) ?_
    refine lv_iconst (v := 1) hx hb dL_law_1080 (by decide) ?_
    refine lv_iadd hx hb dL_law_1081 ?_
    refine lv_topi (fun x171 ex171 => ?_)
    obtain ⟨tx171, ejx171, evx171⟩ := lw_ix (k := 1) ex171 hI hL rfl (by decide)
    clear tx171
    refine va_sld hx hb hX hbl (Nat.not_le.mpr hbl) hS (vp_in_iff.mpr evx171) dL_law_1082 ?_
    refine W.eq (g2 := F0 m 1083 ls [.int (xs (i.toNatClampNeg + 1)), .ref a]) (congrArg (fun z => F0 m 1083 ls [.int (xs z), .ref a]) ejx171) ?_
    refine lv_aload_n hx hb dL_law_1083 rfl (lv_at hl 3 rfl) ?_
    refine lv_iload_n hx hb dL_law_1084 rfl (lv_at hl 0 rfl) ?_
    refine lv_iconst (v := 2) hx hb dL_law_1085 (by decide) ?_
    refine lv_iadd hx hb dL_law_1086 ?_
    refine lv_topi (fun x172 ex172 => ?_)
    obtain ⟨tx172, ejx172, evx172⟩ := lw_ix (k := 2) ex172 hI hL rfl (by decide)
    clear tx172
    refine va_sld hx hb hX hbl (Nat.not_le.mpr hbl) hS (vp_in_iff.mpr evx172) dL_law_1087 ?_
    refine W.eq (g2 := F0 m 1088 ls [.int (xs (i.toNatClampNeg + 2)), .int (xs (i.toNatClampNeg + 1)), .ref a]) (congrArg (fun z => F0 m 1088 ls [.int (xs z), .int (xs (i.toNatClampNeg + 1)), .ref a]) ejx172) ?_
    refine lv_aload_n hx hb dL_law_1088 rfl (lv_at hl 3 rfl) ?_
    refine lv_iload_n hx hb dL_law_1089 rfl (lv_at hl 0 rfl) ?_
    refine lv_iconst (v := 3) hx hb dL_law_1090 (by decide) ?_
    refine lv_iadd hx hb dL_law_1091 ?_
    refine lv_topi (fun x173 ex173 => ?_)
    obtain ⟨tx173, ejx173, evx173⟩ := lw_ix (k := 3) ex173 hI hL rfl (by decide)
    clear tx173
    refine va_sld hx hb hX hbl (Nat.not_le.mpr hbl) hS (vp_in_iff.mpr evx173) dL_law_1092 ?_
    refine W.eq (g2 := F0 m 1093 ls [.int (xs (i.toNatClampNeg + 3)), .int (xs (i.toNatClampNeg + 2)), .int (xs (i.toNatClampNeg + 1)), .ref a]) (congrArg (fun z => F0 m 1093 ls [.int (xs z), .int (xs (i.toNatClampNeg + 2)), .int (xs (i.toNatClampNeg + 1)), .ref a]) ejx173) ?_
    refine x_V (As := [.int (xs (i.toNatClampNeg + 1)), .int (xs (i.toNatClampNeg + 2)), .int (xs (i.toNatClampNeg + 3))]) (rest := []) C (a_X9_holes_q l K G H ((xs (i.toNatClampNeg + 1))) ((xs (i.toNatClampNeg + 2))) ((xs (i.toNatClampNeg + 3))) hT ga) yo_X9_holes wM_L_113 ⟨⟨by decide, by decide⟩, show _ ≤ 1200000 from Nat.le_trans hc (by decide), show _ ≤ 5502250 from Nat.le_trans hs (by decide)⟩ (x_rv C hT (ci := 9) rfl ga rg_68) rfl hl.1 rfl (Nat.le_of_ble_eq_true rfl) dL_law_1093 hS (AE_new hN hS.1) (fun vH174 H174 locsH174 pH174 zH174 kH174 hSH174 => ?_)
    obtain ⟨x175, hvH174, bx175, m176, hTH174⟩ := pH174
    subst hvH174
    have g177 : CG (avw K H174 b) := CG.congr (fun k hk j => av_eff hT kH174 gb (by decide) (CG_eff [1] (by decide) k hk)) cg
    have g178 : TU (avw K H174 b) (svw K H174 b) := TU.congr (fun k hk j => av_eff hT kH174 gb (by decide) (TU_eff [1] (by decide) k hk)) (fun k hk => sv_eff hT kH174 gb (by decide)) tu
    have g179 : WD (avw K H174 b) := WD.congr (fun k hk j => av_eff hT kH174 gb (by decide) (WD_eff [1] (by decide) k hk)) wd
    have g180 : IM (avw K H174 b) := IM.congr (fun k hk j => av_eff hT kH174 gb (by decide) (IM_eff [1] (by decide) k hk)) im
    have m181 := (ew).trans (fR_kept (x_lt hT kH174 ga (by decide))).symm
    have m182 := (eta).trans (fI_kept (x_lt hT kH174 ga (by decide))).symm
    have m183 := (etb).trans (fI_kept (x_lt hT kH174 gb (by decide))).symm
    have m184 := (es1).trans (fI_kept (x_lt hT kH174 gw (by decide))).symm
    have m185 := (ey1).trans (fI_kept (x_lt hT kH174 gb (by decide))).symm
    have m186 := (es4).trans (fI_kept (x_lt hT kH174 gw (by decide))).symm
    have m187 := (ey4).trans (fI_kept (x_lt hT kH174 gb (by decide))).symm
    have m188 := (es5).trans (fI_kept (x_lt hT kH174 gw (by decide))).symm
    have m189 := (ey5).trans (fI_kept (x_lt hT kH174 gb (by decide))).symm
    have m190 := (es10).trans (fI_kept (x_lt hT kH174 gw (by decide))).symm
    have m191 := (ey10).trans (fI_kept (x_lt hT kH174 gb (by decide))).symm
    have m192 := (es13).trans (fI_kept (x_lt hT kH174 gw (by decide))).symm
    have m193 := (ey13).trans (fI_kept (x_lt hT kH174 gb (by decide))).symm
    have m194 := (es16).trans (fI_kept (x_lt hT kH174 gw (by decide))).symm
    have m195 := (ey16).trans (fI_kept (x_lt hT kH174 gb (by decide))).symm
    have m196 := (ebq).trans (fR_kept (x_lt hT kH174 gw (by decide))).symm
    have m197 := (eaq).trans (fR_kept (x_lt hT kH174 gb (by decide))).symm
    have m198 := (ehi).trans (fI_kept (x_lt hT kH174 gb (by decide))).symm
    have m199 := (fV_kept (x_lt hT kH174 ga (by decide))).trans kn
    have m200 := (eiq).trans (fR_kept (x_lt hT kH174 gb (by decide))).symm
    have m201 := (ek1).trans (fI_kept (x_lt hT kH174 gkq (by decide))).symm
    have m202 := (ei1).trans (fI_kept (x_lt hT kH174 giq (by decide))).symm
    have m203 := (ek4).trans (fI_kept (x_lt hT kH174 gkq (by decide))).symm
    have m204 := (ei4).trans (fI_kept (x_lt hT kH174 giq (by decide))).symm
    have m205 := (ek5).trans (fI_kept (x_lt hT kH174 gkq (by decide))).symm
    have m206 := (ei5).trans (fI_kept (x_lt hT kH174 giq (by decide))).symm
    have m207 := (ek10).trans (fI_kept (x_lt hT kH174 gkq (by decide))).symm
    have m208 := (ei10).trans (fI_kept (x_lt hT kH174 giq (by decide))).symm
    have m209 := (ek13).trans (fI_kept (x_lt hT kH174 gkq (by decide))).symm
    have m210 := (ei13).trans (fI_kept (x_lt hT kH174 giq (by decide))).symm
    have m211 := (ek16).trans (fI_kept (x_lt hT kH174 gkq (by decide))).symm
    have m212 := (ei16).trans (fI_kept (x_lt hT kH174 giq (by decide))).symm
    have m213 := (ekb).trans (fR_kept (x_lt hT kH174 gkq (by decide))).symm
    refine W.eq (g2 := F0 m 1096 ls [.int x175]) rfl ?_
    have v214 : ∀ j : Nat, j < 10 → cz101 j = fI H174 (fR H174 bq j) (K.1.2 0 14) := fun j h => (ecz101 j h).trans (by rw [fR_kept (x_lt hT kH174 gbq (by decide))]; exact (m176 _ (bar_g hT gbq j h)).symm)
    have v215 : ∀ j : Nat, j < 10 → rz102 j = fI H174 aq j := fun j h => (erz102 j h).trans (fI_kept (x_lt hT kH174 gaq (by decide))).symm
    have v216 : ∀ j : Nat, j < 10 → kz169 j = fI H174 (fR H174 kb j) (K.1.2 0 14) := fun j h => (ekz169 j h).trans (by rw [fR_kept (x_lt hT kH174 gkb (by decide))]; exact (fI_kept (x_lt hT kH174 (bar_h hT gkb j h) (by decide))).symm)
    have d217 := DB.kept dbk (x_lt hT kH174 gkb (by decide))
    have v218 : ∀ j : Nat, j < 10 → iz170 j = fI H174 iq (11 + 6 * j) := fun j h => (eiz170 j h).trans (fI_kept (x_lt hT kH174 giq (by decide))).symm
    have d219 := DB.kept db (x_lt hT kH174 gbq (by decide))
    refine lv_pop hx hb dL_law_1096 rfl ?_
    refine lv_aload_n hx hb dL_law_1097 rfl (lv_at hl 1 rfl) ?_
    refine lv_aload_n hx hb dL_law_1098 rfl (lv_at hl 3 rfl) ?_
    refine lv_iload_n hx hb dL_law_1099 rfl (lv_at hl 0 rfl) ?_
    refine lv_iconst (v := 1) hx hb dL_law_1100 (by decide) ?_
    refine lv_iadd hx hb dL_law_1101 ?_
    refine lv_topi (fun x220 ex220 => ?_)
    obtain ⟨tx220, ejx220, evx220⟩ := lw_ix (k := 1) ex220 hI hL rfl (by decide)
    clear tx220
    refine va_sld hx hb hX hbl (Nat.not_le.mpr hbl) hSH174 (vp_in_iff.mpr evx220) dL_law_1102 ?_
    refine W.eq (g2 := F0 m 1103 ls [.int (xs (i.toNatClampNeg + 1)), .ref b]) (congrArg (fun z => F0 m 1103 ls [.int (xs z), .ref b]) ejx220) ?_
    refine lv_aload_n hx hb dL_law_1103 rfl (lv_at hl 3 rfl) ?_
    refine lv_iload_n hx hb dL_law_1104 rfl (lv_at hl 0 rfl) ?_
    refine lv_iconst (v := 2) hx hb dL_law_1105 (by decide) ?_
    refine lv_iadd hx hb dL_law_1106 ?_
    refine lv_topi (fun x221 ex221 => ?_)
    obtain ⟨tx221, ejx221, evx221⟩ := lw_ix (k := 2) ex221 hI hL rfl (by decide)
    clear tx221
    refine va_sld hx hb hX hbl (Nat.not_le.mpr hbl) hSH174 (vp_in_iff.mpr evx221) dL_law_1107 ?_
    refine W.eq (g2 := F0 m 1108 ls [.int (xs (i.toNatClampNeg + 2)), .int (xs (i.toNatClampNeg + 1)), .ref b]) (congrArg (fun z => F0 m 1108 ls [.int (xs z), .int (xs (i.toNatClampNeg + 1)), .ref b]) ejx221) ?_
    refine lv_aload_n hx hb dL_law_1108 rfl (lv_at hl 3 rfl) ?_
    refine lv_iload_n hx hb dL_law_1109 rfl (lv_at hl 0 rfl) ?_
    refine lv_iconst (v := 3) hx hb dL_law_1110 (by decide) ?_
    refine lv_iadd hx hb dL_law_1111 ?_
    refine lv_topi (fun x222 ex222 => ?_)
    obtain ⟨tx222, ejx222, evx222⟩ := lw_ix (k := 3) ex222 hI hL rfl (by decide)
    clear tx222
    refine va_sld hx hb hX hbl (Nat.not_le.mpr hbl) hSH174 (vp_in_iff.mpr evx222) dL_law_1112 ?_
    refine W.eq (g2 := F0 m 1113 ls [.int (xs (i.toNatClampNeg + 3)), .int (xs (i.toNatClampNeg + 2)), .int (xs (i.toNatClampNeg + 1)), .ref b]) (congrArg (fun z => F0 m 1113 ls [.int (xs z), .int (xs (i.toNatClampNeg + 2)), .int (xs (i.toNatClampNeg + 1)), .ref b]) ejx222) ?_
    refine x_V (As := [.int (xs (i.toNatClampNeg + 1)), .int (xs (i.toNatClampNeg + 2)), .int (xs (i.toNatClampNeg + 3))]) (rest := []) C (a_X10_holes l K G H174 ((xs (i.toNatClampNeg + 1))) ((xs (i.toNatClampNeg + 2))) ((xs (i.toNatClampNeg + 3))) hTH174 gb g177 g178 g179 g180) yo_X10_holes wM_L_116 ⟨⟨by decide, by decide⟩, show _ ≤ 1200000 from Nat.le_trans hc (by decide), show _ ≤ 5502250 from Nat.le_trans hs (by decide)⟩ (x_rv C hTH174 (ci := 10) rfl gb rg_112) rfl hl.1 rfl (Nat.le_of_ble_eq_true rfl) dL_law_1113 hSH174 (AE_new hN hSH174.1) (fun vH223 H223 locsH223 pH223 zH223 kH223 hSH223 => ?_)
    obtain ⟨x224, hvH223, bx224, g225, g226, g227, g228, mf229, hTH223⟩ := pH223
    subst hvH223
    have m230 := (m181).trans (fR_kept (x_lt hTH174 kH223 ga (by decide))).symm
    have m231 := (m182).trans (fI_kept (x_lt hTH174 kH223 ga (by decide))).symm
    have m232 := (m184).trans (fI_kept (x_lt hTH174 kH223 gw (by decide))).symm
    have m233 := (m186).trans (fI_kept (x_lt hTH174 kH223 gw (by decide))).symm
    have m234 := (m188).trans (fI_kept (x_lt hTH174 kH223 gw (by decide))).symm
    have m235 := (m190).trans (fI_kept (x_lt hTH174 kH223 gw (by decide))).symm
    have m236 := (m192).trans (fI_kept (x_lt hTH174 kH223 gw (by decide))).symm
    have m237 := (m194).trans (fI_kept (x_lt hTH174 kH223 gw (by decide))).symm
    have m238 := (m196).trans (fR_kept (x_lt hTH174 kH223 gw (by decide))).symm
    have m239 := (fV_kept (x_lt hTH174 kH223 ga (by decide))).trans m199
    have m240 := (m201).trans (fI_kept (x_lt hTH174 kH223 gkq (by decide))).symm
    have m241 := (m202).trans (fI_kept (x_lt hTH174 kH223 giq (by decide))).symm
    have m242 := (m203).trans (fI_kept (x_lt hTH174 kH223 gkq (by decide))).symm
    have m243 := (m204).trans (fI_kept (x_lt hTH174 kH223 giq (by decide))).symm
    have m244 := (m205).trans (fI_kept (x_lt hTH174 kH223 gkq (by decide))).symm
    have m245 := (m206).trans (fI_kept (x_lt hTH174 kH223 giq (by decide))).symm
    have m246 := (m207).trans (fI_kept (x_lt hTH174 kH223 gkq (by decide))).symm
    have m247 := (m208).trans (fI_kept (x_lt hTH174 kH223 giq (by decide))).symm
    have m248 := (m209).trans (fI_kept (x_lt hTH174 kH223 gkq (by decide))).symm
    have m249 := (m210).trans (fI_kept (x_lt hTH174 kH223 giq (by decide))).symm
    have m250 := (m211).trans (fI_kept (x_lt hTH174 kH223 gkq (by decide))).symm
    have m251 := (m212).trans (fI_kept (x_lt hTH174 kH223 giq (by decide))).symm
    have m252 := (m213).trans (fR_kept (x_lt hTH174 kH223 gkq (by decide))).symm
    have m253 := (m183).trans (MF.i mf229 (k := 18) (by decide) (by decide)).symm
    have m254 := (m185).trans (MF.i mf229 (k := 1) (by decide) (by decide)).symm
    have m255 := (m187).trans (MF.i mf229 (k := 2) (by decide) (by decide)).symm
    have m256 := (m189).trans (MF.i mf229 (k := 3) (by decide) (by decide)).symm
    have m257 := (m191).trans (MF.i mf229 (k := 59) (by decide) (by decide)).symm
    have m258 := (m193).trans (MF.i mf229 (k := 62) (by decide) (by decide)).symm
    have m259 := (m195).trans (MF.i mf229 (k := 65) (by decide) (by decide)).symm
    have m260 := (m197).trans (MF.r mf229 (k := 50) (by decide) (by decide)).symm
    have m261 := (m198).trans (MF.i mf229 (k := 70) (by decide) (by decide)).symm
    have m262 := (m200).trans (MF.r mf229 (k := 73) (by decide) (by decide)).symm
    refine W.eq (g2 := F0 m 1116 ls [.int x224]) rfl ?_
    have v263 : ∀ j : Nat, j < 10 → cz101 j = fI H223 (fR H223 bq j) (K.1.2 0 14) := fun j h => (v214 j h).trans (by rw [fR_kept (x_lt hTH174 kH223 gbq (by decide))]; exact (fI_kept (x_lt hTH174 kH223 (bar_g hTH174 gbq j h) (by decide))).symm)
    have v264 : ∀ j : Nat, j < 10 → rz102 j = fI H223 aq j := fun j h => (v215 j h).trans (fI_kept (x_lt hTH174 kH223 gaq (by decide))).symm
    have v265 : ∀ j : Nat, j < 10 → kz169 j = fI H223 (fR H223 kb j) (K.1.2 0 14) := fun j h => (v216 j h).trans (by rw [fR_kept (x_lt hTH174 kH223 gkb (by decide))]; exact (fI_kept (x_lt hTH174 kH223 (bar_h hTH174 gkb j h) (by decide))).symm)
    have d266 := DB.kept d217 (x_lt hTH174 kH223 gkb (by decide))
    have v267 : ∀ j : Nat, j < 10 → iz170 j = fI H223 iq (11 + 6 * j) := fun j h => (v218 j h).trans (fI_kept (x_lt hTH174 kH223 giq (by decide))).symm
    have d268 := DB.kept d219 (x_lt hTH174 kH223 gbq (by decide))
    refine lv_pop hx hb dL_law_1116 rfl ?_
    refine lv_goto (tgt := 1509) hx hb dL_law_1117 (by decide) ?_
    exact nx G H223 locsH223 _ _ ls ⟨hTH223, hN, ga, gb, g225, g226, g227, g228, ⟨(by rw [← m231, ← m253]; exact rt), (by rw [← m230, ← m232, ← m254]; exact r1), (by rw [← m230, ← m233, ← m255]; exact r4), (by rw [← m230, ← m234, ← m256]; exact r5), (by rw [← m230, ← m235, ← m257]; exact r10), (by rw [← m230, ← m236, ← m258]; exact r13), (by rw [← m230, ← m237, ← m259]; exact r16)⟩, Or.inr ⟨kq, m239, gkq, (by rw [← m261]; exact h70), (by rw [← m240, ← m262, ← m241]; exact q1), (by rw [← m242, ← m262, ← m243]; exact q4), (by rw [← m244, ← m262, ← m245]; exact q5), (by rw [← m246, ← m262, ← m247]; exact q10), (by rw [← m248, ← m262, ← m249]; exact q13), (by rw [← m250, ← m262, ← m251]; exact q16), (by rw [← m252]; exact d266), (by rw [← m252, ← m262, ← m240]; exact fun j h1 h2 => by rw [← v265 j h1, ← v267 j h1]; exact vk0 j h1 (by omega)), (by rw [← m262, ← m240]; exact fun j h1 h2 => by rw [← v267 j h1]; exact vk1 j h1 (by omega))⟩, (by unfold RB; rw [← m230, ← m238, ← m260, ← m254]; exact ⟨d268, fun j h1 h2 => by rw [← v263 j h1, ← v264 j h1]; exact rel j h1 (by omega), fun j h1 h2 => by rw [← v264 j h1]; exact tl j h1 (by omega)⟩), hSH223⟩ hl ⟨hc, hs, fun h => by have h1 := h.symm.trans m239; cases h1⟩