set_option maxRecDepth 100000 in
set_option maxHeartbeats 8000000 in
theorem lw_c20 {p : Program} {l : Launch} {e : Env} {s : State} {m : MethodId} {below : List Frame} {meth : Method} {c : Code} {K : KE} {b0 L : Nat} {xs : Nat → Int32} {G : Nat → Option Nat} {H : Heap} {locs : List Loc} {a b : Nat} {cells slots : Nat} {ls : Array Slot} {i : Int32} {n : Nat} (D : LC p K s m meth c b0 L xs) (S : SX K s G H locs a b) (hl : lv_has ls 4 [(3, .int i), (2, .ref b), (1, .ref a), (0, .ref b0)]) (hi : 0 ≤ i.toInt ∧ i.toInt + 6 ≤ L) (hn : n ≤ 511) (hB : BD K H a cells slots) (nx : ∀ (G : Nat → Option Nat) (H : Heap) (locs : List Loc) (cells slots : Nat) (ls : Array Slot), SX K s G H locs a b → lv_has ls 4 [(3, .int i), (2, .ref b), (1, .ref a), (0, .ref b0)] → BD K H a cells slots → W p l e room_1 s m #[Value.ref b0] below meth c H locs cells slots (lw_Z below #[Value.ref b0] s) (F0 m 1509 ls [])) : W p l e room_1 s m #[Value.ref b0] below meth c H locs cells slots (lw_Z below #[Value.ref b0] s) (F0 m 958 ls []) := by
  have hI := hi
  obtain ⟨C, hX, hbl, hL⟩ := id D
  obtain ⟨hx, hb, hml, hown, hts, hKT, hr, hlocks, hnm⟩ := id C
  obtain ⟨hT, hN, ga, gb, cg, tu, wd, im, ⟨rt, r1, r4, r5, r10, r13, r16⟩, hk, htb, her, hS⟩ := S
  obtain ⟨hc, hs, hB0⟩ := hB
  have n_1 : (1 : Int32).toInt = 1 := rfl
  have n_2 : (2 : Int32).toInt = 2 := rfl
  have n_3 : (3 : Int32).toInt = 3 := rfl
  have n_4 : (4 : Int32).toInt = 4 := rfl
  obtain ⟨w, ew⟩ : ∃ z : Nat, z = fR H a (K.1.2 9 0) := ⟨_, rfl⟩
  have gw := ty_fr (q := w) (k := 0) (u := 0) ew hT ga rg_68 rfl
  rw [← ew] at r1 r4 r5 r10 r13 r16
  obtain ⟨ta, eta⟩ : ∃ z : Int32, z = fI H a (K.1.2 9 3) := ⟨_, rfl⟩
  rw [← eta] at rt
  obtain ⟨tb, etb⟩ : ∃ z : Int32, z = fI H b (K.1.2 10 18) := ⟨_, rfl⟩
  rw [← etb] at rt
  obtain ⟨s1, es1⟩ : ∃ z : Int32, z = fI H w (K.1.2 8 1) := ⟨_, rfl⟩
  rw [← es1] at r1
  obtain ⟨y1, ey1⟩ : ∃ z : Int32, z = fI H b (K.1.2 10 1) := ⟨_, rfl⟩
  rw [← ey1] at r1
  obtain ⟨s4, es4⟩ : ∃ z : Int32, z = fI H w (K.1.2 8 4) := ⟨_, rfl⟩
  rw [← es4] at r4
  obtain ⟨y4, ey4⟩ : ∃ z : Int32, z = fI H b (K.1.2 10 2) := ⟨_, rfl⟩
  rw [← ey4] at r4
  obtain ⟨s5, es5⟩ : ∃ z : Int32, z = fI H w (K.1.2 8 5) := ⟨_, rfl⟩
  rw [← es5] at r5
  obtain ⟨y5, ey5⟩ : ∃ z : Int32, z = fI H b (K.1.2 10 3) := ⟨_, rfl⟩
  rw [← ey5] at r5
  obtain ⟨s10, es10⟩ : ∃ z : Int32, z = fI H w (K.1.2 8 10) := ⟨_, rfl⟩
  rw [← es10] at r10
  obtain ⟨y10, ey10⟩ : ∃ z : Int32, z = fI H b (K.1.2 10 59) := ⟨_, rfl⟩
  rw [← ey10] at r10
  obtain ⟨s13, es13⟩ : ∃ z : Int32, z = fI H w (K.1.2 8 13) := ⟨_, rfl⟩
  rw [← es13] at r13
  obtain ⟨y13, ey13⟩ : ∃ z : Int32, z = fI H b (K.1.2 10 62) := ⟨_, rfl⟩
  rw [← ey13] at r13
  obtain ⟨s16, es16⟩ : ∃ z : Int32, z = fI H w (K.1.2 8 16) := ⟨_, rfl⟩
  rw [← es16] at r16
  obtain ⟨y16, ey16⟩ : ∃ z : Int32, z = fI H b (K.1.2 10 65) := ⟨_, rfl⟩
  rw [← ey16] at r16
  obtain ⟨tq, etq⟩ : ∃ z : Nat, z = fR H a (K.1.2 9 2) := ⟨_, rfl⟩
  have gtq := ty_fr (q := tq) (k := 2) (u := 108) etq hT ga rg_68 rfl
  obtain ⟨uq, euq⟩ : ∃ z : Nat, z = fR H b (K.1.2 10 17) := ⟨_, rfl⟩
  have guq := ty_fr (q := uq) (k := 17) (u := 126) euq hT gb rg_112 rfl
  have htr : TBR (fun j => fI H tq j) (fun j => fI H uq j) tb.toNatClampNeg := by rw [etq, euq, etb]; exact htb
  have ft0 : ∀ j : Nat, fI H tq j = fI H tq j := fun _ => rfl
  have fu0 : ∀ j : Nat, fI H uq j = fI H uq j := fun _ => rfl
  have bta := ty_fi (x := ta) (k := 3) eta hT ga rg_68 rfl
  have cta := i_cl (x := ta) (by omega)
  have btb := ty_fi (x := tb) (k := 18) etb hT gb rg_112 rfl
  have ctb := i_cl (x := tb) (by omega)
  obtain ⟨her0, hsl1, hsl2⟩ := her
  have hsl0 := And.intro hsl1 hsl2
  clear hsl1 hsl2
  rw [← ew] at her0 hsl0
  have re : RE K H w b s1.toInt := RE.cast her0 (by rw [← ey1]; exact r1)
  have hsl : 0 ≤ s5.toInt ∧ s5.toInt ≤ 9999 := by rw [es5]; exact hsl0
  clear her0 hsl0
  have bt_s1 := ty_fi (x := s1) (k := 1) es1 hT gw rg_0 rfl
  have bt_s4 := ty_fi (x := s4) (k := 4) es4 hT gw rg_0 rfl
  have bt_y1 := ty_fi (x := y1) (k := 1) ey1 hT gb rg_112 rfl
  have bt_y4 := ty_fi (x := y4) (k := 2) ey4 hT gb rg_112 rfl
  rcases hk with ⟨kn, h70⟩ | ⟨kq, kn, gkq, h70, q1, q4, q5, q10, q13, q16, rke, ks1, ks2⟩
  · skip
    obtain ⟨hi, ehi⟩ : ∃ z : Int32, z = fI H b (K.1.2 10 70) := ⟨_, rfl⟩
    rw [← ehi] at h70
    obtain ⟨hc0, hs0⟩ := hB0 kn
    obtain ⟨iq, eiq⟩ : ∃ z : Nat, z = fR H b (K.1.2 10 73) := ⟨_, rfl⟩
    have giq := ty_fr (q := iq) (k := 73) (u := 162) eiq hT gb rg_112 rfl
    refine lv_aload_n hx hb dL_law_958 rfl (lv_at hl 2 rfl) ?_
    refine lv_aload_n hx hb dL_law_959 rfl (lv_at hl 3 rfl) ?_
    refine lv_iload_n hx hb dL_law_960 rfl (lv_at hl 0 rfl) ?_
    refine lv_iconst (v := 1) hx hb dL_law_961 (by decide) ?_
    refine lv_iadd hx hb dL_law_962 ?_
    refine lv_topi (fun x101 ex101 => ?_)
    obtain ⟨tx101, ejx101, evx101⟩ := lw_ix (k := 1) ex101 hI hL rfl (by decide)
    clear tx101
    refine va_sld hx hb hX hbl (Nat.not_le.mpr hbl) hS (vp_in_iff.mpr evx101) dL_law_963 ?_
    refine W.eq (g2 := F0 m 964 ls [.int (xs (i.toNatClampNeg + 1)), .ref a]) (congrArg (fun z => F0 m 964 ls [.int (xs z), .ref a]) ejx101) ?_
    refine lv_aload_n hx hb dL_law_964 rfl (lv_at hl 3 rfl) ?_
    refine lv_iload_n hx hb dL_law_965 rfl (lv_at hl 0 rfl) ?_
    refine lv_iconst (v := 2) hx hb dL_law_966 (by decide) ?_
    refine lv_iadd hx hb dL_law_967 ?_
    refine lv_topi (fun x102 ex102 => ?_)
    obtain ⟨tx102, ejx102, evx102⟩ := lw_ix (k := 2) ex102 hI hL rfl (by decide)
    clear tx102
    refine va_sld hx hb hX hbl (Nat.not_le.mpr hbl) hS (vp_in_iff.mpr evx102) dL_law_968 ?_
    refine W.eq (g2 := F0 m 969 ls [.int (xs (i.toNatClampNeg + 2)), .int (xs (i.toNatClampNeg + 1)), .ref a]) (congrArg (fun z => F0 m 969 ls [.int (xs z), .int (xs (i.toNatClampNeg + 1)), .ref a]) ejx102) ?_
    refine lv_aload_n hx hb dL_law_969 rfl (lv_at hl 3 rfl) ?_
    refine lv_iload_n hx hb dL_law_970 rfl (lv_at hl 0 rfl) ?_
    refine lv_iconst (v := 3) hx hb dL_law_971 (by decide) ?_
    refine lv_iadd hx hb dL_law_972 ?_
    refine lv_topi (fun x103 ex103 => ?_)
    obtain ⟨tx103, ejx103, evx103⟩ := lw_ix (k := 3) ex103 hI hL rfl (by decide)
    clear tx103
    refine va_sld hx hb hX hbl (Nat.not_le.mpr hbl) hS (vp_in_iff.mpr evx103) dL_law_973 ?_
    refine W.eq (g2 := F0 m 974 ls [.int (xs (i.toNatClampNeg + 3)), .int (xs (i.toNatClampNeg + 2)), .int (xs (i.toNatClampNeg + 1)), .ref a]) (congrArg (fun z => F0 m 974 ls [.int (xs z), .int (xs (i.toNatClampNeg + 2)), .int (xs (i.toNatClampNeg + 1)), .ref a]) ejx103) ?_
    refine lv_aload_n hx hb dL_law_974 rfl (lv_at hl 3 rfl) ?_
    refine lv_iload_n hx hb dL_law_975 rfl (lv_at hl 0 rfl) ?_
    refine lv_iconst (v := 4) hx hb dL_law_976 (by decide) ?_
    refine lv_iadd hx hb dL_law_977 ?_
    refine lv_topi (fun x104 ex104 => ?_)
    obtain ⟨tx104, ejx104, evx104⟩ := lw_ix (k := 4) ex104 hI hL rfl (by decide)
    clear tx104
    refine va_sld hx hb hX hbl (Nat.not_le.mpr hbl) hS (vp_in_iff.mpr evx104) dL_law_978 ?_
    refine W.eq (g2 := F0 m 979 ls [.int (xs (i.toNatClampNeg + 4)), .int (xs (i.toNatClampNeg + 3)), .int (xs (i.toNatClampNeg + 2)), .int (xs (i.toNatClampNeg + 1)), .ref a]) (congrArg (fun z => F0 m 979 ls [.int (xs z), .int (xs (i.toNatClampNeg + 3)), .int (xs (i.toNatClampNeg + 2)), .int (xs (i.toNatClampNeg + 1)), .ref a]) ejx104) ?_
    refine x_V (As := [.int (xs (i.toNatClampNeg + 1)), .int (xs (i.toNatClampNeg + 2)), .int (xs (i.toNatClampNeg + 3)), .int (xs (i.toNatClampNeg + 4))]) (rest := []) C (a_X9_fits l K G H ((xs (i.toNatClampNeg + 1))) ((xs (i.toNatClampNeg + 2))) ((xs (i.toNatClampNeg + 3))) ((xs (i.toNatClampNeg + 4))) hT ga) yo_X9_fits wM_L_100 ⟨⟨by decide, by decide⟩, show _ ≤ 60000 from Nat.le_trans hc (by decide), show _ ≤ 8922250 from Nat.le_trans hs (by decide)⟩ (x_rv C hT (ci := 9) rfl ga rg_68) rfl hl.1 rfl (Nat.le_of_ble_eq_true rfl) dL_law_979 hS (AE_new hN hS.1) (fun vH105 H105 locsH105 pH105 zH105 kH105 hSH105 => ?_)
    obtain ⟨x106, hvH105, hTH105⟩ := pH105
    subst hvH105
    have g107 : CG (avw K H105 b) := CG.congr (fun k hk j => av_eff hT kH105 gb (by decide) (CG_eff [98, 101, 102, 103, 87, 88, 101, 99, 100, 83, 84] (by decide) k hk)) cg
    have g108 : TU (avw K H105 b) (svw K H105 b) := TU.congr (fun k hk j => av_eff hT kH105 gb (by decide) (TU_eff [98, 101, 102, 103, 87, 88, 101, 99, 100, 83, 84] (by decide) k hk)) (fun k hk => sv_eff hT kH105 gb (by decide)) tu
    have g109 : WD (avw K H105 b) := WD.congr (fun k hk j => av_eff hT kH105 gb (by decide) (WD_eff [98, 101, 102, 103, 87, 88, 101, 99, 100, 83, 84] (by decide) k hk)) wd
    have g110 : IM (avw K H105 b) := IM.congr (fun k hk j => av_eff hT kH105 gb (by decide) (IM_eff [98, 101, 102, 103, 87, 88, 101, 99, 100, 83, 84] (by decide) k hk)) im
    have f111 : ∀ j : Nat, fI H105 tq j = fI H tq j := fun j => (fI_kept (x_lt hT kH105 gtq (by decide))).trans (ft0 j)
    have f112 : ∀ j : Nat, fI H105 uq j = fI H uq j := fun j => (fI_kept (x_lt hT kH105 guq (by decide))).trans (fu0 j)
    have m113 := (ew).trans (fR_kept (x_lt hT kH105 ga (by decide))).symm
    have m114 := (eta).trans (fI_kept (x_lt hT kH105 ga (by decide))).symm
    have m115 := (etb).trans (fI_kept (x_lt hT kH105 gb (by decide))).symm
    have m116 := (es1).trans (fI_kept (x_lt hT kH105 gw (by decide))).symm
    have m117 := (ey1).trans (fI_kept (x_lt hT kH105 gb (by decide))).symm
    have m118 := (es4).trans (fI_kept (x_lt hT kH105 gw (by decide))).symm
    have m119 := (ey4).trans (fI_kept (x_lt hT kH105 gb (by decide))).symm
    have m120 := (es5).trans (fI_kept (x_lt hT kH105 gw (by decide))).symm
    have m121 := (ey5).trans (fI_kept (x_lt hT kH105 gb (by decide))).symm
    have m122 := (es10).trans (fI_kept (x_lt hT kH105 gw (by decide))).symm
    have m123 := (ey10).trans (fI_kept (x_lt hT kH105 gb (by decide))).symm
    have m124 := (es13).trans (fI_kept (x_lt hT kH105 gw (by decide))).symm
    have m125 := (ey13).trans (fI_kept (x_lt hT kH105 gb (by decide))).symm
    have m126 := (es16).trans (fI_kept (x_lt hT kH105 gw (by decide))).symm
    have m127 := (ey16).trans (fI_kept (x_lt hT kH105 gb (by decide))).symm
    have m128 := (etq).trans (fR_kept (x_lt hT kH105 ga (by decide))).symm
    have m129 := (euq).trans (fR_kept (x_lt hT kH105 gb (by decide))).symm
    have m130 := (ehi).trans (fI_kept (x_lt hT kH105 gb (by decide))).symm
    have m131 := (fV_kept (x_lt hT kH105 ga (by decide))).trans kn
    have m132 := (eiq).trans (fR_kept (x_lt hT kH105 gb (by decide))).symm
    refine W.eq (g2 := F0 m 982 ls [.int x106]) rfl ?_
    have re133 : RE K H105 w b s1.toInt := RE.cls re hT gw gb (fun q t hq ht => x_lt hT kH105 hq (by first | exact nmr ht (by decide) | exact nmo ht (by decide) | exact nme ht (by decide) | exact nmq ht (by decide) | decide | (intro z; simp only [List.mem_cons, List.not_mem_nil, or_false] at z <;> omega) | omega))
    refine lv_pop hx hb dL_law_982 rfl ?_
    refine lv_aload_n hx hb dL_law_983 rfl (lv_at hl 1 rfl) ?_
    refine lv_aload_n hx hb dL_law_984 rfl (lv_at hl 3 rfl) ?_
    refine lv_iload_n hx hb dL_law_985 rfl (lv_at hl 0 rfl) ?_
    refine lv_iconst (v := 1) hx hb dL_law_986 (by decide) ?_
    refine lv_iadd hx hb dL_law_987 ?_
    refine lv_topi (fun x134 ex134 => ?_)
    obtain ⟨tx134, ejx134, evx134⟩ := lw_ix (k := 1) ex134 hI hL rfl (by decide)
    clear tx134
    refine va_sld hx hb hX hbl (Nat.not_le.mpr hbl) hSH105 (vp_in_iff.mpr evx134) dL_law_988 ?_
    refine W.eq (g2 := F0 m 989 ls [.int (xs (i.toNatClampNeg + 1)), .ref b]) (congrArg (fun z => F0 m 989 ls [.int (xs z), .ref b]) ejx134) ?_
    refine lv_aload_n hx hb dL_law_989 rfl (lv_at hl 3 rfl) ?_
    refine lv_iload_n hx hb dL_law_990 rfl (lv_at hl 0 rfl) ?_
    refine lv_iconst (v := 2) hx hb dL_law_991 (by decide) ?_
    refine lv_iadd hx hb dL_law_992 ?_
    refine lv_topi (fun x135 ex135 => ?_)
    obtain ⟨tx135, ejx135, evx135⟩ := lw_ix (k := 2) ex135 hI hL rfl (by decide)
    clear tx135
    refine va_sld hx hb hX hbl (Nat.not_le.mpr hbl) hSH105 (vp_in_iff.mpr evx135) dL_law_993 ?_
    refine W.eq (g2 := F0 m 994 ls [.int (xs (i.toNatClampNeg + 2)), .int (xs (i.toNatClampNeg + 1)), .ref b]) (congrArg (fun z => F0 m 994 ls [.int (xs z), .int (xs (i.toNatClampNeg + 1)), .ref b]) ejx135) ?_
    refine lv_aload_n hx hb dL_law_994 rfl (lv_at hl 3 rfl) ?_
    refine lv_iload_n hx hb dL_law_995 rfl (lv_at hl 0 rfl) ?_
    refine lv_iconst (v := 3) hx hb dL_law_996 (by decide) ?_
    refine lv_iadd hx hb dL_law_997 ?_
    refine lv_topi (fun x136 ex136 => ?_)
    obtain ⟨tx136, ejx136, evx136⟩ := lw_ix (k := 3) ex136 hI hL rfl (by decide)
    clear tx136
    refine va_sld hx hb hX hbl (Nat.not_le.mpr hbl) hSH105 (vp_in_iff.mpr evx136) dL_law_998 ?_
    refine W.eq (g2 := F0 m 999 ls [.int (xs (i.toNatClampNeg + 3)), .int (xs (i.toNatClampNeg + 2)), .int (xs (i.toNatClampNeg + 1)), .ref b]) (congrArg (fun z => F0 m 999 ls [.int (xs z), .int (xs (i.toNatClampNeg + 2)), .int (xs (i.toNatClampNeg + 1)), .ref b]) ejx136) ?_
    refine lv_aload_n hx hb dL_law_999 rfl (lv_at hl 3 rfl) ?_
    refine lv_iload_n hx hb dL_law_1000 rfl (lv_at hl 0 rfl) ?_
    refine lv_iconst (v := 4) hx hb dL_law_1001 (by decide) ?_
    refine lv_iadd hx hb dL_law_1002 ?_
    refine lv_topi (fun x137 ex137 => ?_)
    obtain ⟨tx137, ejx137, evx137⟩ := lw_ix (k := 4) ex137 hI hL rfl (by decide)
    clear tx137
    refine va_sld hx hb hX hbl (Nat.not_le.mpr hbl) hSH105 (vp_in_iff.mpr evx137) dL_law_1003 ?_
    refine W.eq (g2 := F0 m 1004 ls [.int (xs (i.toNatClampNeg + 4)), .int (xs (i.toNatClampNeg + 3)), .int (xs (i.toNatClampNeg + 2)), .int (xs (i.toNatClampNeg + 1)), .ref b]) (congrArg (fun z => F0 m 1004 ls [.int (xs z), .int (xs (i.toNatClampNeg + 3)), .int (xs (i.toNatClampNeg + 2)), .int (xs (i.toNatClampNeg + 1)), .ref b]) ejx137) ?_
    obtain ⟨q138, eq138⟩ : ∃ z : Nat, @Eq Ad z (fR H105 b (K.1.2 10 4)) := ⟨_, rfl⟩
    have gq138 := ty_fr (q := q138) (k := 4) (u := 113) eq138 hTH105 gb rg_112 rfl
    obtain ⟨q139, eq139⟩ : ∃ z : Nat, @Eq Ad z (fR H105 b (K.1.2 10 5)) := ⟨_, rfl⟩
    have gq139 := ty_fr (q := q139) (k := 5) (u := 114) eq139 hTH105 gb rg_112 rfl
    obtain ⟨q140, eq140⟩ : ∃ z : Nat, @Eq Ad z (fR H105 b (K.1.2 10 6)) := ⟨_, rfl⟩
    have gq140 := ty_fr (q := q140) (k := 6) (u := 115) eq140 hTH105 gb rg_112 rfl
    obtain ⟨q141, eq141⟩ : ∃ z : Nat, @Eq Ad z (fR H105 b (K.1.2 10 55)) := ⟨_, rfl⟩
    have gq141 := ty_fr (q := q141) (k := 55) (u := 151) eq141 hTH105 gb rg_112 rfl
    refine x_V (As := [.int (xs (i.toNatClampNeg + 1)), .int (xs (i.toNatClampNeg + 2)), .int (xs (i.toNatClampNeg + 3)), .int (xs (i.toNatClampNeg + 4))]) (rest := []) C (a_X10_fits_k l K G H105 ((xs (i.toNatClampNeg + 1))) ((xs (i.toNatClampNeg + 2))) ((xs (i.toNatClampNeg + 3))) ((xs (i.toNatClampNeg + 4))) hTH105 gb gq138 eq138 gq139 eq139 gq140 eq140 gq141 eq141 g107 g108 g109 g110) yo_X10_fits wM_L_104 ⟨⟨by decide, by decide⟩, show _ ≤ 60000 from Nat.le_trans hc (by decide), show _ ≤ 8922250 from Nat.le_trans hs (by decide)⟩ (x_rv C hTH105 (ci := 10) rfl gb rg_112) rfl hl.1 rfl (Nat.le_of_ble_eq_true rfl) dL_law_1004 hSH105 (AE_new hN hSH105.1) (fun vH142 H142 locsH142 pH142 zH142 kH142 hSH142 => ?_)
    obtain ⟨x143, hvH142, m144, m145, m146, m147, g148, g149, g150, g151, mf152, m153, m154, hTH142⟩ := pH142
    subst hvH142
    have f155 : ∀ j : Nat, fI H142 tq j = fI H tq j := fun j => (fI_kept (x_lt hTH105 kH142 gtq (by decide))).trans (f111 j)
    have f156 : ∀ j : Nat, fI H142 uq j = fI H uq j := fun j => (fI_kept (x_lt hTH105 kH142 guq (by decide))).trans (f112 j)
    have m157 := (m113).trans (fR_kept (x_lt hTH105 kH142 ga (by decide))).symm
    have m158 := (m114).trans (fI_kept (x_lt hTH105 kH142 ga (by decide))).symm
    have m159 := (m116).trans (fI_kept (x_lt hTH105 kH142 gw (by decide))).symm
    have m160 := (m118).trans (fI_kept (x_lt hTH105 kH142 gw (by decide))).symm
    have m161 := (m120).trans (fI_kept (x_lt hTH105 kH142 gw (by decide))).symm
    have m162 := (m122).trans (fI_kept (x_lt hTH105 kH142 gw (by decide))).symm
    have m163 := (m124).trans (fI_kept (x_lt hTH105 kH142 gw (by decide))).symm
    have m164 := (m126).trans (fI_kept (x_lt hTH105 kH142 gw (by decide))).symm
    have m165 := (m128).trans (fR_kept (x_lt hTH105 kH142 ga (by decide))).symm
    have m166 := (fV_kept (x_lt hTH105 kH142 ga (by decide))).trans m131
    have m167 := (m115).trans (MF.i mf152 (k := 18) (by decide) (by decide)).symm
    have m168 := (m117).trans (MF.i mf152 (k := 1) (by decide) (by decide)).symm
    have m169 := (m119).trans (MF.i mf152 (k := 2) (by decide) (by decide)).symm
    have m170 := (m121).trans (MF.i mf152 (k := 3) (by decide) (by decide)).symm
    have m171 := (m123).trans (MF.i mf152 (k := 59) (by decide) (by decide)).symm
    have m172 := (m125).trans (MF.i mf152 (k := 62) (by decide) (by decide)).symm
    have m173 := (m127).trans (MF.i mf152 (k := 65) (by decide) (by decide)).symm
    have m174 := (m129).trans (MF.r mf152 (k := 17) (by decide) (by decide)).symm
    have m175 := (m130).trans (MF.i mf152 (k := 70) (by decide) (by decide)).symm
    have m176 := (m132).trans (MF.r mf152 (k := 73) (by decide) (by decide)).symm
    have m177 := (eq138).trans (MF.r mf152 (k := 4) (by decide) (by decide)).symm
    have m178 := (eq139).trans (MF.r mf152 (k := 5) (by decide) (by decide)).symm
    have m179 := (eq140).trans (MF.r mf152 (k := 6) (by decide) (by decide)).symm
    have m180 := (eq141).trans (MF.r mf152 (k := 55) (by decide) (by decide)).symm
    refine W.eq (g2 := F0 m 1007 ls [.int x143]) rfl ?_
    have re181 : RE K H142 w b s1.toInt := RE.rows re133 hTH105 gw gb (fun k hk => MF.r mf152 (by omega) (by intro z; simp only [List.mem_cons, List.not_mem_nil, or_false] at z; omega)) (fun q t hq ht => x_lt hTH105 kH142 hq (by first | exact nmr ht (by decide) | exact nmo ht (by decide) | exact nme ht (by decide) | exact nmq ht (by decide) | decide | (intro z; simp only [List.mem_cons, List.not_mem_nil, or_false] at z <;> omega) | omega)) (fun j => by rw [← eq139]; exact m153 j) (fun j => by rw [← eq140]; exact m154 j) (fun j => fI_kept (x_lt hTH105 kH142 (show G (fR H105 b (K.1.2 10 8)) = some 117 from gR hTH105 gb 4 (by decide)) (by decide)))
    refine lv_pop hx hb dL_law_1007 rfl ?_
    refine lv_goto (tgt := 1509) hx hb dL_law_1008 (by decide) ?_
    exact nx G H142 locsH142 _ _ ls ⟨hTH142, hN, ga, gb, g148, g149, g150, g151, ⟨(by rw [← m158, ← m167]; exact rt), (by rw [← m157, ← m159, ← m168]; exact r1), (by rw [← m157, ← m160, ← m169]; exact r4), (by rw [← m157, ← m161, ← m170]; exact r5), (by rw [← m157, ← m162, ← m171]; exact r10), (by rw [← m157, ← m163, ← m172]; exact r13), (by rw [← m157, ← m164, ← m173]; exact r16)⟩, Or.inl ⟨m166, (by rw [← m175]; exact h70)⟩, (by unfold TB; rw [← m165, ← m174, ← m167]; exact TBR.of htr f155 f156 (by omega)), (by unfold RELE; rw [← m157, ← m168, ← m161]; exact ⟨RE.cast re181 (by omega), by omega, by omega⟩), hSH142⟩ hl ⟨hc, hs, fun _ => ⟨hc0, hs0⟩⟩
  · skip
    obtain ⟨hi, ehi⟩ : ∃ z : Int32, z = fI H b (K.1.2 10 70) := ⟨_, rfl⟩
    rw [← ehi] at h70
    obtain ⟨iq, eiq⟩ : ∃ z : Nat, z = fR H b (K.1.2 10 73) := ⟨_, rfl⟩
    have giq := ty_fr (q := iq) (k := 73) (u := 162) eiq hT gb rg_112 rfl
    rw [← eiq] at q1 q4 q5 q10 q13 q16
    obtain ⟨k1, ek1⟩ : ∃ z : Int32, z = fI H kq (K.1.2 8 1) := ⟨_, rfl⟩
    rw [← ek1] at q1
    obtain ⟨i1, ei1⟩ : ∃ z : Int32, z = fI H iq ((0 : Int32).toNatClampNeg) := ⟨_, rfl⟩
    rw [← ei1] at q1
    obtain ⟨k4, ek4⟩ : ∃ z : Int32, z = fI H kq (K.1.2 8 4) := ⟨_, rfl⟩
    rw [← ek4] at q4
    obtain ⟨i4, ei4⟩ : ∃ z : Int32, z = fI H iq ((1 : Int32).toNatClampNeg) := ⟨_, rfl⟩
    rw [← ei4] at q4
    obtain ⟨k5, ek5⟩ : ∃ z : Int32, z = fI H kq (K.1.2 8 5) := ⟨_, rfl⟩
    rw [← ek5] at q5
    obtain ⟨i5, ei5⟩ : ∃ z : Int32, z = fI H iq ((2 : Int32).toNatClampNeg) := ⟨_, rfl⟩
    rw [← ei5] at q5
    obtain ⟨k10, ek10⟩ : ∃ z : Int32, z = fI H kq (K.1.2 8 10) := ⟨_, rfl⟩
    rw [← ek10] at q10
    obtain ⟨i10, ei10⟩ : ∃ z : Int32, z = fI H iq ((3 : Int32).toNatClampNeg) := ⟨_, rfl⟩
    rw [← ei10] at q10
    obtain ⟨k13, ek13⟩ : ∃ z : Int32, z = fI H kq (K.1.2 8 13) := ⟨_, rfl⟩
    rw [← ek13] at q13
    obtain ⟨i13, ei13⟩ : ∃ z : Int32, z = fI H iq ((4 : Int32).toNatClampNeg) := ⟨_, rfl⟩
    rw [← ei13] at q13
    obtain ⟨k16, ek16⟩ : ∃ z : Int32, z = fI H kq (K.1.2 8 16) := ⟨_, rfl⟩
    rw [← ek16] at q16
    obtain ⟨i16, ei16⟩ : ∃ z : Int32, z = fI H iq ((5 : Int32).toNatClampNeg) := ⟨_, rfl⟩
    rw [← ei16] at q16
    rw [← eiq, ← ek1] at rke
    have hsk : 0 ≤ k5.toInt ∧ k5.toInt ≤ 9999 := by rw [ek5]; exact ⟨ks1, ks2⟩
    refine lv_aload_n hx hb dL_law_958 rfl (lv_at hl 2 rfl) ?_
    refine lv_aload_n hx hb dL_law_959 rfl (lv_at hl 3 rfl) ?_
    refine lv_iload_n hx hb dL_law_960 rfl (lv_at hl 0 rfl) ?_
    refine lv_iconst (v := 1) hx hb dL_law_961 (by decide) ?_
    refine lv_iadd hx hb dL_law_962 ?_
    refine lv_topi (fun x182 ex182 => ?_)
    obtain ⟨tx182, ejx182, evx182⟩ := lw_ix (k := 1) ex182 hI hL rfl (by decide)
    clear tx182
    refine va_sld hx hb hX hbl (Nat.not_le.mpr hbl) hS (vp_in_iff.mpr evx182) dL_law_963 ?_
    refine W.eq (g2 := F0 m 964 ls [.int (xs (i.toNatClampNeg + 1)), .ref a]) (congrArg (fun z => F0 m 964 ls [.int (xs z), .ref a]) ejx182) ?_
    refine lv_aload_n hx hb dL_law_964 rfl (lv_at hl 3 rfl) ?_
    refine lv_iload_n hx hb dL_law_965 rfl (lv_at hl 0 rfl) ?_
    refine lv_iconst (v := 2) hx hb dL_law_966 (by decide) ?_
    refine lv_iadd hx hb dL_law_967 ?_
    refine lv_topi (fun x183 ex183 => ?_)
    obtain ⟨tx183, ejx183, evx183⟩ := lw_ix (k := 2) ex183 hI hL rfl (by decide)
    clear tx183
    refine va_sld hx hb hX hbl (Nat.not_le.mpr hbl) hS (vp_in_iff.mpr evx183) dL_law_968 ?_
    refine W.eq (g2 := F0 m 969 ls [.int (xs (i.toNatClampNeg + 2)), .int (xs (i.toNatClampNeg + 1)), .ref a]) (congrArg (fun z => F0 m 969 ls [.int (xs z), .int (xs (i.toNatClampNeg + 1)), .ref a]) ejx183) ?_
    refine lv_aload_n hx hb dL_law_969 rfl (lv_at hl 3 rfl) ?_
    refine lv_iload_n hx hb dL_law_970 rfl (lv_at hl 0 rfl) ?_
    refine lv_iconst (v := 3) hx hb dL_law_971 (by decide) ?_
    refine lv_iadd hx hb dL_law_972 ?_
    refine lv_topi (fun x184 ex184 => ?_)
    obtain ⟨tx184, ejx184, evx184⟩ := lw_ix (k := 3) ex184 hI hL rfl (by decide)
    clear tx184
    refine va_sld hx hb hX hbl (Nat.not_le.mpr hbl) hS (vp_in_iff.mpr evx184) dL_law_973 ?_
    refine W.eq (g2 := F0 m 974 ls [.int (xs (i.toNatClampNeg + 3)), .int (xs (i.toNatClampNeg + 2)), .int (xs (i.toNatClampNeg + 1)), .ref a]) (congrArg (fun z => F0 m 974 ls [.int (xs z), .int (xs (i.toNatClampNeg + 2)), .int (xs (i.toNatClampNeg + 1)), .ref a]) ejx184) ?_
    refine lv_aload_n hx hb dL_law_974 rfl (lv_at hl 3 rfl) ?_
    refine lv_iload_n hx hb dL_law_975 rfl (lv_at hl 0 rfl) ?_
    refine lv_iconst (v := 4) hx hb dL_law_976 (by decide) ?_
    refine lv_iadd hx hb dL_law_977 ?_
    refine lv_topi (fun x185 ex185 => ?_)
    obtain ⟨tx185, ejx185, evx185⟩ := lw_ix (k := 4) ex185 hI hL rfl (by decide)
    clear tx185
    refine va_sld hx hb hX hbl (Nat.not_le.mpr hbl) hS (vp_in_iff.mpr evx185) dL_law_978 ?_
    refine W.eq (g2 := F0 m 979 ls [.int (xs (i.toNatClampNeg + 4)), .int (xs (i.toNatClampNeg + 3)), .int (xs (i.toNatClampNeg + 2)), .int (xs (i.toNatClampNeg + 1)), .ref a]) (congrArg (fun z => F0 m 979 ls [.int (xs z), .int (xs (i.toNatClampNeg + 3)), .int (xs (i.toNatClampNeg + 2)), .int (xs (i.toNatClampNeg + 1)), .ref a]) ejx185) ?_
    refine x_V (As := [.int (xs (i.toNatClampNeg + 1)), .int (xs (i.toNatClampNeg + 2)), .int (xs (i.toNatClampNeg + 3)), .int (xs (i.toNatClampNeg + 4))]) (rest := []) C (a_X9_fits l K G H ((xs (i.toNatClampNeg + 1))) ((xs (i.toNatClampNeg + 2))) ((xs (i.toNatClampNeg + 3))) ((xs (i.toNatClampNeg + 4))) hT ga) yo_X9_fits wM_L_100 ⟨⟨by decide, by decide⟩, show _ ≤ 60000 from Nat.le_trans hc (by decide), show _ ≤ 8922250 from Nat.le_trans hs (by decide)⟩ (x_rv C hT (ci := 9) rfl ga rg_68) rfl hl.1 rfl (Nat.le_of_ble_eq_true rfl) dL_law_979 hS (AE_new hN hS.1) (fun vH186 H186 locsH186 pH186 zH186 kH186 hSH186 => ?_)
    obtain ⟨x187, hvH186, hTH186⟩ := pH186
    subst hvH186
    have g188 : CG (avw K H186 b) := CG.congr (fun k hk j => av_eff hT kH186 gb (by decide) (CG_eff [98, 101, 102, 103, 87, 88, 101, 99, 100, 83, 84] (by decide) k hk)) cg
    have g189 : TU (avw K H186 b) (svw K H186 b) := TU.congr (fun k hk j => av_eff hT kH186 gb (by decide) (TU_eff [98, 101, 102, 103, 87, 88, 101, 99, 100, 83, 84] (by decide) k hk)) (fun k hk => sv_eff hT kH186 gb (by decide)) tu
    have g190 : WD (avw K H186 b) := WD.congr (fun k hk j => av_eff hT kH186 gb (by decide) (WD_eff [98, 101, 102, 103, 87, 88, 101, 99, 100, 83, 84] (by decide) k hk)) wd
    have g191 : IM (avw K H186 b) := IM.congr (fun k hk j => av_eff hT kH186 gb (by decide) (IM_eff [98, 101, 102, 103, 87, 88, 101, 99, 100, 83, 84] (by decide) k hk)) im
    have f192 : ∀ j : Nat, fI H186 tq j = fI H tq j := fun j => (fI_kept (x_lt hT kH186 gtq (by decide))).trans (ft0 j)
    have f193 : ∀ j : Nat, fI H186 uq j = fI H uq j := fun j => (fI_kept (x_lt hT kH186 guq (by decide))).trans (fu0 j)
    have m194 := (ew).trans (fR_kept (x_lt hT kH186 ga (by decide))).symm
    have m195 := (eta).trans (fI_kept (x_lt hT kH186 ga (by decide))).symm
    have m196 := (etb).trans (fI_kept (x_lt hT kH186 gb (by decide))).symm
    have m197 := (es1).trans (fI_kept (x_lt hT kH186 gw (by decide))).symm
    have m198 := (ey1).trans (fI_kept (x_lt hT kH186 gb (by decide))).symm
    have m199 := (es4).trans (fI_kept (x_lt hT kH186 gw (by decide))).symm
    have m200 := (ey4).trans (fI_kept (x_lt hT kH186 gb (by decide))).symm
    have m201 := (es5).trans (fI_kept (x_lt hT kH186 gw (by decide))).symm
    have m202 := (ey5).trans (fI_kept (x_lt hT kH186 gb (by decide))).symm
    have m203 := (es10).trans (fI_kept (x_lt hT kH186 gw (by decide))).symm
    have m204 := (ey10).trans (fI_kept (x_lt hT kH186 gb (by decide))).symm
    have m205 := (es13).trans (fI_kept (x_lt hT kH186 gw (by decide))).symm
    have m206 := (ey13).trans (fI_kept (x_lt hT kH186 gb (by decide))).symm
    have m207 := (es16).trans (fI_kept (x_lt hT kH186 gw (by decide))).symm
    have m208 := (ey16).trans (fI_kept (x_lt hT kH186 gb (by decide))).symm
    have m209 := (etq).trans (fR_kept (x_lt hT kH186 ga (by decide))).symm
    have m210 := (euq).trans (fR_kept (x_lt hT kH186 gb (by decide))).symm
    have m211 := (ehi).trans (fI_kept (x_lt hT kH186 gb (by decide))).symm
    have m212 := (fV_kept (x_lt hT kH186 ga (by decide))).trans kn
    have m213 := (eiq).trans (fR_kept (x_lt hT kH186 gb (by decide))).symm
    have m214 := (ek1).trans (fI_kept (x_lt hT kH186 gkq (by decide))).symm
    have m215 := (ei1).trans (fI_kept (x_lt hT kH186 giq (by decide))).symm
    have m216 := (ek4).trans (fI_kept (x_lt hT kH186 gkq (by decide))).symm
    have m217 := (ei4).trans (fI_kept (x_lt hT kH186 giq (by decide))).symm
    have m218 := (ek5).trans (fI_kept (x_lt hT kH186 gkq (by decide))).symm
    have m219 := (ei5).trans (fI_kept (x_lt hT kH186 giq (by decide))).symm
    have m220 := (ek10).trans (fI_kept (x_lt hT kH186 gkq (by decide))).symm
    have m221 := (ei10).trans (fI_kept (x_lt hT kH186 giq (by decide))).symm
    have m222 := (ek13).trans (fI_kept (x_lt hT kH186 gkq (by decide))).symm
    have m223 := (ei13).trans (fI_kept (x_lt hT kH186 giq (by decide))).symm
    have m224 := (ek16).trans (fI_kept (x_lt hT kH186 gkq (by decide))).symm
    have m225 := (ei16).trans (fI_kept (x_lt hT kH186 giq (by decide))).symm
    refine W.eq (g2 := F0 m 982 ls [.int x187]) rfl ?_
    have rk226 : RKI K H186 kq iq k1.toInt := RKI.kept rke hT gkq (x_lt hT kH186 giq (by first | exact nmr ht (by decide) | exact nmo ht (by decide) | exact nme ht (by decide) | exact nmq ht (by decide) | decide | (intro z; simp only [List.mem_cons, List.not_mem_nil, or_false] at z <;> omega) | omega)) (fun q t hq ht => x_lt hT kH186 hq (by first | exact nmr ht (by decide) | exact nmo ht (by decide) | exact nme ht (by decide) | exact nmq ht (by decide) | decide | (intro z; simp only [List.mem_cons, List.not_mem_nil, or_false] at z <;> omega) | omega))
    have re227 : RE K H186 w b s1.toInt := RE.cls re hT gw gb (fun q t hq ht => x_lt hT kH186 hq (by first | exact nmr ht (by decide) | exact nmo ht (by decide) | exact nme ht (by decide) | exact nmq ht (by decide) | decide | (intro z; simp only [List.mem_cons, List.not_mem_nil, or_false] at z <;> omega) | omega))
    refine lv_pop hx hb dL_law_982 rfl ?_
    refine lv_aload_n hx hb dL_law_983 rfl (lv_at hl 1 rfl) ?_
    refine lv_aload_n hx hb dL_law_984 rfl (lv_at hl 3 rfl) ?_
    refine lv_iload_n hx hb dL_law_985 rfl (lv_at hl 0 rfl) ?_
    refine lv_iconst (v := 1) hx hb dL_law_986 (by decide) ?_
    refine lv_iadd hx hb dL_law_987 ?_
    refine lv_topi (fun x228 ex228 => ?_)
    obtain ⟨tx228, ejx228, evx228⟩ := lw_ix (k := 1) ex228 hI hL rfl (by decide)
    clear tx228
    refine va_sld hx hb hX hbl (Nat.not_le.mpr hbl) hSH186 (vp_in_iff.mpr evx228) dL_law_988 ?_
    refine W.eq (g2 := F0 m 989 ls [.int (xs (i.toNatClampNeg + 1)), .ref b]) (congrArg (fun z => F0 m 989 ls [.int (xs z), .ref b]) ejx228) ?_
    refine lv_aload_n hx hb dL_law_989 rfl (lv_at hl 3 rfl) ?_
    refine lv_iload_n hx hb dL_law_990 rfl (lv_at hl 0 rfl) ?_
    refine lv_iconst (v := 2) hx hb dL_law_991 (by decide) ?_
    refine lv_iadd hx hb dL_law_992 ?_
    refine lv_topi (fun x229 ex229 => ?_)
    obtain ⟨tx229, ejx229, evx229⟩ := lw_ix (k := 2) ex229 hI hL rfl (by decide)
    clear tx229
    refine va_sld hx hb hX hbl (Nat.not_le.mpr hbl) hSH186 (vp_in_iff.mpr evx229) dL_law_993 ?_
    refine W.eq (g2 := F0 m 994 ls [.int (xs (i.toNatClampNeg + 2)), .int (xs (i.toNatClampNeg + 1)), .ref b]) (congrArg (fun z => F0 m 994 ls [.int (xs z), .int (xs (i.toNatClampNeg + 1)), .ref b]) ejx229) ?_
    refine lv_aload_n hx hb dL_law_994 rfl (lv_at hl 3 rfl) ?_
    refine lv_iload_n hx hb dL_law_995 rfl (lv_at hl 0 rfl) ?_
    refine lv_iconst (v := 3) hx hb dL_law_996 (by decide) ?_
    refine lv_iadd hx hb dL_law_997 ?_
    refine lv_topi (fun x230 ex230 => ?_)
    obtain ⟨tx230, ejx230, evx230⟩ := lw_ix (k := 3) ex230 hI hL rfl (by decide)
    clear tx230
    refine va_sld hx hb hX hbl (Nat.not_le.mpr hbl) hSH186 (vp_in_iff.mpr evx230) dL_law_998 ?_
    refine W.eq (g2 := F0 m 999 ls [.int (xs (i.toNatClampNeg + 3)), .int (xs (i.toNatClampNeg + 2)), .int (xs (i.toNatClampNeg + 1)), .ref b]) (congrArg (fun z => F0 m 999 ls [.int (xs z), .int (xs (i.toNatClampNeg + 2)), .int (xs (i.toNatClampNeg + 1)), .ref b]) ejx230) ?_
    refine lv_aload_n hx hb dL_law_999 rfl (lv_at hl 3 rfl) ?_
    refine lv_iload_n hx hb dL_law_1000 rfl (lv_at hl 0 rfl) ?_
    refine lv_iconst (v := 4) hx hb dL_law_1001 (by decide) ?_
    refine lv_iadd hx hb dL_law_1002 ?_
    refine lv_topi (fun x231 ex231 => ?_)
    obtain ⟨tx231, ejx231, evx231⟩ := lw_ix (k := 4) ex231 hI hL rfl (by decide)
    clear tx231
    refine va_sld hx hb hX hbl (Nat.not_le.mpr hbl) hSH186 (vp_in_iff.mpr evx231) dL_law_1003 ?_
    refine W.eq (g2 := F0 m 1004 ls [.int (xs (i.toNatClampNeg + 4)), .int (xs (i.toNatClampNeg + 3)), .int (xs (i.toNatClampNeg + 2)), .int (xs (i.toNatClampNeg + 1)), .ref b]) (congrArg (fun z => F0 m 1004 ls [.int (xs z), .int (xs (i.toNatClampNeg + 3)), .int (xs (i.toNatClampNeg + 2)), .int (xs (i.toNatClampNeg + 1)), .ref b]) ejx231) ?_
    obtain ⟨q232, eq232⟩ : ∃ z : Nat, @Eq Ad z (fR H186 b (K.1.2 10 4)) := ⟨_, rfl⟩
    have gq232 := ty_fr (q := q232) (k := 4) (u := 113) eq232 hTH186 gb rg_112 rfl
    obtain ⟨q233, eq233⟩ : ∃ z : Nat, @Eq Ad z (fR H186 b (K.1.2 10 5)) := ⟨_, rfl⟩
    have gq233 := ty_fr (q := q233) (k := 5) (u := 114) eq233 hTH186 gb rg_112 rfl
    obtain ⟨q234, eq234⟩ : ∃ z : Nat, @Eq Ad z (fR H186 b (K.1.2 10 6)) := ⟨_, rfl⟩
    have gq234 := ty_fr (q := q234) (k := 6) (u := 115) eq234 hTH186 gb rg_112 rfl
    obtain ⟨q235, eq235⟩ : ∃ z : Nat, @Eq Ad z (fR H186 b (K.1.2 10 55)) := ⟨_, rfl⟩
    have gq235 := ty_fr (q := q235) (k := 55) (u := 151) eq235 hTH186 gb rg_112 rfl
    refine x_V (As := [.int (xs (i.toNatClampNeg + 1)), .int (xs (i.toNatClampNeg + 2)), .int (xs (i.toNatClampNeg + 3)), .int (xs (i.toNatClampNeg + 4))]) (rest := []) C (a_X10_fits_k l K G H186 ((xs (i.toNatClampNeg + 1))) ((xs (i.toNatClampNeg + 2))) ((xs (i.toNatClampNeg + 3))) ((xs (i.toNatClampNeg + 4))) hTH186 gb gq232 eq232 gq233 eq233 gq234 eq234 gq235 eq235 g188 g189 g190 g191) yo_X10_fits wM_L_104 ⟨⟨by decide, by decide⟩, show _ ≤ 60000 from Nat.le_trans hc (by decide), show _ ≤ 8922250 from Nat.le_trans hs (by decide)⟩ (x_rv C hTH186 (ci := 10) rfl gb rg_112) rfl hl.1 rfl (Nat.le_of_ble_eq_true rfl) dL_law_1004 hSH186 (AE_new hN hSH186.1) (fun vH236 H236 locsH236 pH236 zH236 kH236 hSH236 => ?_)
    obtain ⟨x237, hvH236, m238, m239, m240, m241, g242, g243, g244, g245, mf246, m247, m248, hTH236⟩ := pH236
    subst hvH236
    have f249 : ∀ j : Nat, fI H236 tq j = fI H tq j := fun j => (fI_kept (x_lt hTH186 kH236 gtq (by decide))).trans (f192 j)
    have f250 : ∀ j : Nat, fI H236 uq j = fI H uq j := fun j => (fI_kept (x_lt hTH186 kH236 guq (by decide))).trans (f193 j)
    have m251 := (m194).trans (fR_kept (x_lt hTH186 kH236 ga (by decide))).symm
    have m252 := (m195).trans (fI_kept (x_lt hTH186 kH236 ga (by decide))).symm
    have m253 := (m197).trans (fI_kept (x_lt hTH186 kH236 gw (by decide))).symm
    have m254 := (m199).trans (fI_kept (x_lt hTH186 kH236 gw (by decide))).symm
    have m255 := (m201).trans (fI_kept (x_lt hTH186 kH236 gw (by decide))).symm
    have m256 := (m203).trans (fI_kept (x_lt hTH186 kH236 gw (by decide))).symm
    have m257 := (m205).trans (fI_kept (x_lt hTH186 kH236 gw (by decide))).symm
    have m258 := (m207).trans (fI_kept (x_lt hTH186 kH236 gw (by decide))).symm
    have m259 := (m209).trans (fR_kept (x_lt hTH186 kH236 ga (by decide))).symm
    have m260 := (fV_kept (x_lt hTH186 kH236 ga (by decide))).trans m212
    have m261 := (m214).trans (fI_kept (x_lt hTH186 kH236 gkq (by decide))).symm
    have m262 := (m215).trans (fI_kept (x_lt hTH186 kH236 giq (by decide))).symm
    have m263 := (m216).trans (fI_kept (x_lt hTH186 kH236 gkq (by decide))).symm
    have m264 := (m217).trans (fI_kept (x_lt hTH186 kH236 giq (by decide))).symm
    have m265 := (m218).trans (fI_kept (x_lt hTH186 kH236 gkq (by decide))).symm
    have m266 := (m219).trans (fI_kept (x_lt hTH186 kH236 giq (by decide))).symm
    have m267 := (m220).trans (fI_kept (x_lt hTH186 kH236 gkq (by decide))).symm
    have m268 := (m221).trans (fI_kept (x_lt hTH186 kH236 giq (by decide))).symm
    have m269 := (m222).trans (fI_kept (x_lt hTH186 kH236 gkq (by decide))).symm
    have m270 := (m223).trans (fI_kept (x_lt hTH186 kH236 giq (by decide))).symm
    have m271 := (m224).trans (fI_kept (x_lt hTH186 kH236 gkq (by decide))).symm
    have m272 := (m225).trans (fI_kept (x_lt hTH186 kH236 giq (by decide))).symm
    have m273 := (m196).trans (MF.i mf246 (k := 18) (by decide) (by decide)).symm
    have m274 := (m198).trans (MF.i mf246 (k := 1) (by decide) (by decide)).symm
    have m275 := (m200).trans (MF.i mf246 (k := 2) (by decide) (by decide)).symm
    have m276 := (m202).trans (MF.i mf246 (k := 3) (by decide) (by decide)).symm
    have m277 := (m204).trans (MF.i mf246 (k := 59) (by decide) (by decide)).symm
    have m278 := (m206).trans (MF.i mf246 (k := 62) (by decide) (by decide)).symm
    have m279 := (m208).trans (MF.i mf246 (k := 65) (by decide) (by decide)).symm
    have m280 := (m210).trans (MF.r mf246 (k := 17) (by decide) (by decide)).symm
    have m281 := (m211).trans (MF.i mf246 (k := 70) (by decide) (by decide)).symm
    have m282 := (m213).trans (MF.r mf246 (k := 73) (by decide) (by decide)).symm
    have m283 := (eq232).trans (MF.r mf246 (k := 4) (by decide) (by decide)).symm
    have m284 := (eq233).trans (MF.r mf246 (k := 5) (by decide) (by decide)).symm
    have m285 := (eq234).trans (MF.r mf246 (k := 6) (by decide) (by decide)).symm
    have m286 := (eq235).trans (MF.r mf246 (k := 55) (by decide) (by decide)).symm
    refine W.eq (g2 := F0 m 1007 ls [.int x237]) rfl ?_
    have rk287 : RKI K H236 kq iq k1.toInt := RKI.kept rk226 hTH186 gkq (x_lt hTH186 kH236 giq (by first | exact nmr ht (by decide) | exact nmo ht (by decide) | exact nme ht (by decide) | exact nmq ht (by decide) | decide | (intro z; simp only [List.mem_cons, List.not_mem_nil, or_false] at z <;> omega) | omega)) (fun q t hq ht => x_lt hTH186 kH236 hq (by first | exact nmr ht (by decide) | exact nmo ht (by decide) | exact nme ht (by decide) | exact nmq ht (by decide) | decide | (intro z; simp only [List.mem_cons, List.not_mem_nil, or_false] at z <;> omega) | omega))
    have re288 : RE K H236 w b s1.toInt := RE.rows re227 hTH186 gw gb (fun k hk => MF.r mf246 (by omega) (by intro z; simp only [List.mem_cons, List.not_mem_nil, or_false] at z; omega)) (fun q t hq ht => x_lt hTH186 kH236 hq (by first | exact nmr ht (by decide) | exact nmo ht (by decide) | exact nme ht (by decide) | exact nmq ht (by decide) | decide | (intro z; simp only [List.mem_cons, List.not_mem_nil, or_false] at z <;> omega) | omega)) (fun j => by rw [← eq233]; exact m247 j) (fun j => by rw [← eq234]; exact m248 j) (fun j => fI_kept (x_lt hTH186 kH236 (show G (fR H186 b (K.1.2 10 8)) = some 117 from gR hTH186 gb 4 (by decide)) (by decide)))
    refine lv_pop hx hb dL_law_1007 rfl ?_
    refine lv_goto (tgt := 1509) hx hb dL_law_1008 (by decide) ?_
    exact nx G H236 locsH236 _ _ ls ⟨hTH236, hN, ga, gb, g242, g243, g244, g245, ⟨(by rw [← m252, ← m273]; exact rt), (by rw [← m251, ← m253, ← m274]; exact r1), (by rw [← m251, ← m254, ← m275]; exact r4), (by rw [← m251, ← m255, ← m276]; exact r5), (by rw [← m251, ← m256, ← m277]; exact r10), (by rw [← m251, ← m257, ← m278]; exact r13), (by rw [← m251, ← m258, ← m279]; exact r16)⟩, Or.inr ⟨kq, m260, gkq, (by rw [← m281]; exact h70), (by rw [← m261, ← m282, ← m262]; exact q1), (by rw [← m263, ← m282, ← m264]; exact q4), (by rw [← m265, ← m282, ← m266]; exact q5), (by rw [← m267, ← m282, ← m268]; exact q10), (by rw [← m269, ← m282, ← m270]; exact q13), (by rw [← m271, ← m282, ← m272]; exact q16), (by rw [← m282, ← m261]; exact RKI.cast rk287 (by omega)), (by rw [← m265]; omega), (by rw [← m265]; omega)⟩, (by unfold TB; rw [← m259, ← m280, ← m273]; exact TBR.of htr f249 f250 (by omega)), (by unfold RELE; rw [← m251, ← m274, ← m255]; exact ⟨RE.cast re288 (by omega), by omega, by omega⟩), hSH236⟩ hl ⟨hc, hs, fun h => by have h1 := h.symm.trans m260; cases h1⟩
set_option maxRecDepth 100000 in
set_option maxHeartbeats 8000000 in
theorem lw_c21 {p : Program} {l : Launch} {e : Env} {s : State} {m : MethodId} {below : List Frame} {meth : Method} {c : Code} {K : KE} {b0 L : Nat} {xs : Nat → Int32} {G : Nat → Option Nat} {H : Heap} {locs : List Loc} {a b : Nat} {cells slots : Nat} {ls : Array Slot} {i : Int32} {n : Nat} (D : LC p K s m meth c b0 L xs) (S : SX K s G H locs a b) (hl : lv_has ls 4 [(3, .int i), (2, .ref b), (1, .ref a), (0, .ref b0)]) (hi : 0 ≤ i.toInt ∧ i.toInt + 6 ≤ L) (hn : n ≤ 511) (hB : BD K H a cells slots) (nx : ∀ (G : Nat → Option Nat) (H : Heap) (locs : List Loc) (cells slots : Nat) (ls : Array Slot), SX K s G H locs a b → lv_has ls 4 [(3, .int i), (2, .ref b), (1, .ref a), (0, .ref b0)] → BD K H a cells slots → W p l e room_1 s m #[Value.ref b0] below meth c H locs cells slots (lw_Z below #[Value.ref b0] s) (F0 m 1509 ls [])) : W p l e room_1 s m #[Value.ref b0] below meth c H locs cells slots (lw_Z below #[Value.ref b0] s) (F0 m 1011 ls []) := by
  have hI := hi
  obtain ⟨C, hX, hbl, hL⟩ := id D
  obtain ⟨hx, hb, hml, hown, hts, hKT, hr, hlocks, hnm⟩ := id C
  obtain ⟨hT, hN, ga, gb, cg, tu, wd, im, ⟨rt, r1, r4, r5, r10, r13, r16⟩, hk, htb, her, hS⟩ := S
  obtain ⟨hc, hs, hB0⟩ := hB
  have n_1 : (1 : Int32).toInt = 1 := rfl
  obtain ⟨w, ew⟩ : ∃ z : Nat, z = fR H a (K.1.2 9 0) := ⟨_, rfl⟩
  have gw := ty_fr (q := w) (k := 0) (u := 0) ew hT ga rg_68 rfl
  rw [← ew] at r1 r4 r5 r10 r13 r16
  obtain ⟨ta, eta⟩ : ∃ z : Int32, z = fI H a (K.1.2 9 3) := ⟨_, rfl⟩
  rw [← eta] at rt
  obtain ⟨tb, etb⟩ : ∃ z : Int32, z = fI H b (K.1.2 10 18) := ⟨_, rfl⟩
  rw [← etb] at rt
  obtain ⟨s1, es1⟩ : ∃ z : Int32, z = fI H w (K.1.2 8 1) := ⟨_, rfl⟩
  rw [← es1] at r1
  obtain ⟨y1, ey1⟩ : ∃ z : Int32, z = fI H b (K.1.2 10 1) := ⟨_, rfl⟩
  rw [← ey1] at r1
  obtain ⟨s4, es4⟩ : ∃ z : Int32, z = fI H w (K.1.2 8 4) := ⟨_, rfl⟩
  rw [← es4] at r4
  obtain ⟨y4, ey4⟩ : ∃ z : Int32, z = fI H b (K.1.2 10 2) := ⟨_, rfl⟩
  rw [← ey4] at r4
  obtain ⟨s5, es5⟩ : ∃ z : Int32, z = fI H w (K.1.2 8 5) := ⟨_, rfl⟩
  rw [← es5] at r5
  obtain ⟨y5, ey5⟩ : ∃ z : Int32, z = fI H b (K.1.2 10 3) := ⟨_, rfl⟩
  rw [← ey5] at r5
  obtain ⟨s10, es10⟩ : ∃ z : Int32, z = fI H w (K.1.2 8 10) := ⟨_, rfl⟩
  rw [← es10] at r10
  obtain ⟨y10, ey10⟩ : ∃ z : Int32, z = fI H b (K.1.2 10 59) := ⟨_, rfl⟩
  rw [← ey10] at r10
  obtain ⟨s13, es13⟩ : ∃ z : Int32, z = fI H w (K.1.2 8 13) := ⟨_, rfl⟩
  rw [← es13] at r13
  obtain ⟨y13, ey13⟩ : ∃ z : Int32, z = fI H b (K.1.2 10 62) := ⟨_, rfl⟩
  rw [← ey13] at r13
  obtain ⟨s16, es16⟩ : ∃ z : Int32, z = fI H w (K.1.2 8 16) := ⟨_, rfl⟩
  rw [← es16] at r16
  obtain ⟨y16, ey16⟩ : ∃ z : Int32, z = fI H b (K.1.2 10 65) := ⟨_, rfl⟩
  rw [← ey16] at r16
  obtain ⟨tq, etq⟩ : ∃ z : Nat, z = fR H a (K.1.2 9 2) := ⟨_, rfl⟩
  have gtq := ty_fr (q := tq) (k := 2) (u := 108) etq hT ga rg_68 rfl
  obtain ⟨uq, euq⟩ : ∃ z : Nat, z = fR H b (K.1.2 10 17) := ⟨_, rfl⟩
  have guq := ty_fr (q := uq) (k := 17) (u := 126) euq hT gb rg_112 rfl
  have htr : TBR (fun j => fI H tq j) (fun j => fI H uq j) tb.toNatClampNeg := by rw [etq, euq, etb]; exact htb
  have ft0 : ∀ j : Nat, fI H tq j = fI H tq j := fun _ => rfl
  have fu0 : ∀ j : Nat, fI H uq j = fI H uq j := fun _ => rfl
  have bta := ty_fi (x := ta) (k := 3) eta hT ga rg_68 rfl
  have cta := i_cl (x := ta) (by omega)
  have btb := ty_fi (x := tb) (k := 18) etb hT gb rg_112 rfl
  have ctb := i_cl (x := tb) (by omega)
  obtain ⟨her0, hsl1, hsl2⟩ := her
  have hsl0 := And.intro hsl1 hsl2
  clear hsl1 hsl2
  rw [← ew] at her0 hsl0
  have re : RE K H w b s1.toInt := RE.cast her0 (by rw [← ey1]; exact r1)
  have hsl : 0 ≤ s5.toInt ∧ s5.toInt ≤ 9999 := by rw [es5]; exact hsl0
  clear her0 hsl0
  have bt_s1 := ty_fi (x := s1) (k := 1) es1 hT gw rg_0 rfl
  have bt_s4 := ty_fi (x := s4) (k := 4) es4 hT gw rg_0 rfl
  have bt_y1 := ty_fi (x := y1) (k := 1) ey1 hT gb rg_112 rfl
  have bt_y4 := ty_fi (x := y4) (k := 2) ey4 hT gb rg_112 rfl
  rcases hk with ⟨kn, h70⟩ | ⟨kq, kn, gkq, h70, q1, q4, q5, q10, q13, q16, rke, ks1, ks2⟩
  · skip
    obtain ⟨hi, ehi⟩ : ∃ z : Int32, z = fI H b (K.1.2 10 70) := ⟨_, rfl⟩
    rw [← ehi] at h70
    obtain ⟨hc0, hs0⟩ := hB0 kn
    obtain ⟨iq, eiq⟩ : ∃ z : Nat, z = fR H b (K.1.2 10 73) := ⟨_, rfl⟩
    have giq := ty_fr (q := iq) (k := 73) (u := 162) eiq hT gb rg_112 rfl
    refine lv_aload_n hx hb dL_law_1011 rfl (lv_at hl 2 rfl) ?_
    refine lv_aload_n hx hb dL_law_1012 rfl (lv_at hl 3 rfl) ?_
    refine lv_iload_n hx hb dL_law_1013 rfl (lv_at hl 0 rfl) ?_
    refine lv_iconst (v := 1) hx hb dL_law_1014 (by decide) ?_
    refine lv_iadd hx hb dL_law_1015 ?_
    refine lv_topi (fun x101 ex101 => ?_)
    obtain ⟨tx101, ejx101, evx101⟩ := lw_ix (k := 1) ex101 hI hL rfl (by decide)
    clear tx101
    refine va_sld hx hb hX hbl (Nat.not_le.mpr hbl) hS (vp_in_iff.mpr evx101) dL_law_1016 ?_
    refine W.eq (g2 := F0 m 1017 ls [.int (xs (i.toNatClampNeg + 1)), .ref a]) (congrArg (fun z => F0 m 1017 ls [.int (xs z), .ref a]) ejx101) ?_
    refine x_V (As := [.int (xs (i.toNatClampNeg + 1))]) (rest := []) C (a_X9_off l K G H ((xs (i.toNatClampNeg + 1))) hT ga) yo_X9_off wM_L_105 ⟨⟨by decide, by decide⟩, show _ ≤ 60000 from Nat.le_trans hc (by decide), show _ ≤ 8922250 from Nat.le_trans hs (by decide)⟩ (x_rv C hT (ci := 9) rfl ga rg_68) rfl hl.1 rfl (Nat.le_of_ble_eq_true rfl) dL_law_1017 hS (AE_new hN hS.1) (fun vH102 H102 locsH102 pH102 zH102 kH102 hSH102 => ?_)
    obtain ⟨x103, hvH102, hTH102⟩ := pH102
    subst hvH102
    have g104 : CG (avw K H102 b) := CG.congr (fun k hk j => av_eff hT kH102 gb (by decide) (CG_eff [83, 84] (by decide) k hk)) cg
    have g105 : TU (avw K H102 b) (svw K H102 b) := TU.congr (fun k hk j => av_eff hT kH102 gb (by decide) (TU_eff [83, 84] (by decide) k hk)) (fun k hk => sv_eff hT kH102 gb (by decide)) tu
    have g106 : WD (avw K H102 b) := WD.congr (fun k hk j => av_eff hT kH102 gb (by decide) (WD_eff [83, 84] (by decide) k hk)) wd
    have g107 : IM (avw K H102 b) := IM.congr (fun k hk j => av_eff hT kH102 gb (by decide) (IM_eff [83, 84] (by decide) k hk)) im
    have f108 : ∀ j : Nat, fI H102 tq j = fI H tq j := fun j => (fI_kept (x_lt hT kH102 gtq (by decide))).trans (ft0 j)
    have f109 : ∀ j : Nat, fI H102 uq j = fI H uq j := fun j => (fI_kept (x_lt hT kH102 guq (by decide))).trans (fu0 j)
    have m110 := (ew).trans (fR_kept (x_lt hT kH102 ga (by decide))).symm
    have m111 := (eta).trans (fI_kept (x_lt hT kH102 ga (by decide))).symm
    have m112 := (etb).trans (fI_kept (x_lt hT kH102 gb (by decide))).symm
    have m113 := (es1).trans (fI_kept (x_lt hT kH102 gw (by decide))).symm
    have m114 := (ey1).trans (fI_kept (x_lt hT kH102 gb (by decide))).symm
    have m115 := (es4).trans (fI_kept (x_lt hT kH102 gw (by decide))).symm
    have m116 := (ey4).trans (fI_kept (x_lt hT kH102 gb (by decide))).symm
    have m117 := (es5).trans (fI_kept (x_lt hT kH102 gw (by decide))).symm
    have m118 := (ey5).trans (fI_kept (x_lt hT kH102 gb (by decide))).symm
    have m119 := (es10).trans (fI_kept (x_lt hT kH102 gw (by decide))).symm
    have m120 := (ey10).trans (fI_kept (x_lt hT kH102 gb (by decide))).symm
    have m121 := (es13).trans (fI_kept (x_lt hT kH102 gw (by decide))).symm
    have m122 := (ey13).trans (fI_kept (x_lt hT kH102 gb (by decide))).symm
    have m123 := (es16).trans (fI_kept (x_lt hT kH102 gw (by decide))).symm
    have m124 := (ey16).trans (fI_kept (x_lt hT kH102 gb (by decide))).symm
    have m125 := (etq).trans (fR_kept (x_lt hT kH102 ga (by decide))).symm
    have m126 := (euq).trans (fR_kept (x_lt hT kH102 gb (by decide))).symm
    have m127 := (ehi).trans (fI_kept (x_lt hT kH102 gb (by decide))).symm
    have m128 := (fV_kept (x_lt hT kH102 ga (by decide))).trans kn
    have m129 := (eiq).trans (fR_kept (x_lt hT kH102 gb (by decide))).symm
    refine W.eq (g2 := F0 m 1020 ls [.int x103]) rfl ?_
    have re130 : RE K H102 w b s1.toInt := RE.cls re hT gw gb (fun q t hq ht => x_lt hT kH102 hq (by first | exact nmr ht (by decide) | exact nmo ht (by decide) | exact nme ht (by decide) | exact nmq ht (by decide) | decide | (intro z; simp only [List.mem_cons, List.not_mem_nil, or_false] at z <;> omega) | omega))
    refine lv_pop hx hb dL_law_1020 rfl ?_
    refine lv_aload_n hx hb dL_law_1021 rfl (lv_at hl 1 rfl) ?_
    refine lv_aload_n hx hb dL_law_1022 rfl (lv_at hl 3 rfl) ?_
    refine lv_iload_n hx hb dL_law_1023 rfl (lv_at hl 0 rfl) ?_
    refine lv_iconst (v := 1) hx hb dL_law_1024 (by decide) ?_
    refine lv_iadd hx hb dL_law_1025 ?_
    refine lv_topi (fun x131 ex131 => ?_)
    obtain ⟨tx131, ejx131, evx131⟩ := lw_ix (k := 1) ex131 hI hL rfl (by decide)
    clear tx131
    refine va_sld hx hb hX hbl (Nat.not_le.mpr hbl) hSH102 (vp_in_iff.mpr evx131) dL_law_1026 ?_
    refine W.eq (g2 := F0 m 1027 ls [.int (xs (i.toNatClampNeg + 1)), .ref b]) (congrArg (fun z => F0 m 1027 ls [.int (xs z), .ref b]) ejx131) ?_
    refine x_V (As := [.int (xs (i.toNatClampNeg + 1))]) (rest := []) C (a_X10_off l K G H102 ((xs (i.toNatClampNeg + 1))) hTH102 gb g104 g105 g106 g107) yo_X10_off wM_L_108 ⟨⟨by decide, by decide⟩, show _ ≤ 60000 from Nat.le_trans hc (by decide), show _ ≤ 8922250 from Nat.le_trans hs (by decide)⟩ (x_rv C hTH102 (ci := 10) rfl gb rg_112) rfl hl.1 rfl (Nat.le_of_ble_eq_true rfl) dL_law_1027 hSH102 (AE_new hN hSH102.1) (fun vH132 H132 locsH132 pH132 zH132 kH132 hSH132 => ?_)
    obtain ⟨x133, hvH132, g134, g135, g136, g137, mf138, hTH132⟩ := pH132
    subst hvH132
    have f139 : ∀ j : Nat, fI H132 tq j = fI H tq j := fun j => (fI_kept (x_lt hTH102 kH132 gtq (by decide))).trans (f108 j)
    have f140 : ∀ j : Nat, fI H132 uq j = fI H uq j := fun j => (fI_kept (x_lt hTH102 kH132 guq (by decide))).trans (f109 j)
    have m141 := (m110).trans (fR_kept (x_lt hTH102 kH132 ga (by decide))).symm
    have m142 := (m111).trans (fI_kept (x_lt hTH102 kH132 ga (by decide))).symm
    have m143 := (m113).trans (fI_kept (x_lt hTH102 kH132 gw (by decide))).symm
    have m144 := (m115).trans (fI_kept (x_lt hTH102 kH132 gw (by decide))).symm
    have m145 := (m117).trans (fI_kept (x_lt hTH102 kH132 gw (by decide))).symm
    have m146 := (m119).trans (fI_kept (x_lt hTH102 kH132 gw (by decide))).symm
    have m147 := (m121).trans (fI_kept (x_lt hTH102 kH132 gw (by decide))).symm
    have m148 := (m123).trans (fI_kept (x_lt hTH102 kH132 gw (by decide))).symm
    have m149 := (m125).trans (fR_kept (x_lt hTH102 kH132 ga (by decide))).symm
    have m150 := (fV_kept (x_lt hTH102 kH132 ga (by decide))).trans m128
    have m151 := (m112).trans (MF.i mf138 (k := 18) (by decide) (by decide)).symm
    have m152 := (m114).trans (MF.i mf138 (k := 1) (by decide) (by decide)).symm
    have m153 := (m116).trans (MF.i mf138 (k := 2) (by decide) (by decide)).symm
    have m154 := (m118).trans (MF.i mf138 (k := 3) (by decide) (by decide)).symm
    have m155 := (m120).trans (MF.i mf138 (k := 59) (by decide) (by decide)).symm
    have m156 := (m122).trans (MF.i mf138 (k := 62) (by decide) (by decide)).symm
    have m157 := (m124).trans (MF.i mf138 (k := 65) (by decide) (by decide)).symm
    have m158 := (m126).trans (MF.r mf138 (k := 17) (by decide) (by decide)).symm
    have m159 := (m127).trans (MF.i mf138 (k := 70) (by decide) (by decide)).symm
    have m160 := (m129).trans (MF.r mf138 (k := 73) (by decide) (by decide)).symm
    refine W.eq (g2 := F0 m 1030 ls [.int x133]) rfl ?_
    have re161 : RE K H132 w b s1.toInt := RE.ref re130 hTH102 gw gb (fun k hk => MF.r mf138 (by omega) (by intro z; simp only [List.mem_cons, List.not_mem_nil, or_false] at z; omega)) (fun q t hq ht => x_lt hTH102 kH132 hq (by first | exact nmr ht (by decide) | exact nmo ht (by decide) | exact nme ht (by decide) | exact nmq ht (by decide) | decide | (intro z; simp only [List.mem_cons, List.not_mem_nil, or_false] at z <;> omega) | omega))
    refine lv_pop hx hb dL_law_1030 rfl ?_
    refine lv_goto (tgt := 1509) hx hb dL_law_1031 (by decide) ?_
    exact nx G H132 locsH132 _ _ ls ⟨hTH132, hN, ga, gb, g134, g135, g136, g137, ⟨(by rw [← m142, ← m151]; exact rt), (by rw [← m141, ← m143, ← m152]; exact r1), (by rw [← m141, ← m144, ← m153]; exact r4), (by rw [← m141, ← m145, ← m154]; exact r5), (by rw [← m141, ← m146, ← m155]; exact r10), (by rw [← m141, ← m147, ← m156]; exact r13), (by rw [← m141, ← m148, ← m157]; exact r16)⟩, Or.inl ⟨m150, (by rw [← m159]; exact h70)⟩, (by unfold TB; rw [← m149, ← m158, ← m151]; exact TBR.of htr f139 f140 (by omega)), (by unfold RELE; rw [← m141, ← m152, ← m145]; exact ⟨RE.cast re161 (by omega), by omega, by omega⟩), hSH132⟩ hl ⟨hc, hs, fun _ => ⟨hc0, hs0⟩⟩
  · skip
    obtain ⟨hi, ehi⟩ : ∃ z : Int32, z = fI H b (K.1.2 10 70) := ⟨_, rfl⟩
    rw [← ehi] at h70
    obtain ⟨iq, eiq⟩ : ∃ z : Nat, z = fR H b (K.1.2 10 73) := ⟨_, rfl⟩
    have giq := ty_fr (q := iq) (k := 73) (u := 162) eiq hT gb rg_112 rfl
    rw [← eiq] at q1 q4 q5 q10 q13 q16
    obtain ⟨k1, ek1⟩ : ∃ z : Int32, z = fI H kq (K.1.2 8 1) := ⟨_, rfl⟩
    rw [← ek1] at q1
    obtain ⟨i1, ei1⟩ : ∃ z : Int32, z = fI H iq ((0 : Int32).toNatClampNeg) := ⟨_, rfl⟩
    rw [← ei1] at q1
    obtain ⟨k4, ek4⟩ : ∃ z : Int32, z = fI H kq (K.1.2 8 4) := ⟨_, rfl⟩
    rw [← ek4] at q4
    obtain ⟨i4, ei4⟩ : ∃ z : Int32, z = fI H iq ((1 : Int32).toNatClampNeg) := ⟨_, rfl⟩
    rw [← ei4] at q4
    obtain ⟨k5, ek5⟩ : ∃ z : Int32, z = fI H kq (K.1.2 8 5) := ⟨_, rfl⟩
    rw [← ek5] at q5
    obtain ⟨i5, ei5⟩ : ∃ z : Int32, z = fI H iq ((2 : Int32).toNatClampNeg) := ⟨_, rfl⟩
    rw [← ei5] at q5
    obtain ⟨k10, ek10⟩ : ∃ z : Int32, z = fI H kq (K.1.2 8 10) := ⟨_, rfl⟩
    rw [← ek10] at q10
    obtain ⟨i10, ei10⟩ : ∃ z : Int32, z = fI H iq ((3 : Int32).toNatClampNeg) := ⟨_, rfl⟩
    rw [← ei10] at q10
    obtain ⟨k13, ek13⟩ : ∃ z : Int32, z = fI H kq (K.1.2 8 13) := ⟨_, rfl⟩
    rw [← ek13] at q13
    obtain ⟨i13, ei13⟩ : ∃ z : Int32, z = fI H iq ((4 : Int32).toNatClampNeg) := ⟨_, rfl⟩
    rw [← ei13] at q13
    obtain ⟨k16, ek16⟩ : ∃ z : Int32, z = fI H kq (K.1.2 8 16) := ⟨_, rfl⟩
    rw [← ek16] at q16
    obtain ⟨i16, ei16⟩ : ∃ z : Int32, z = fI H iq ((5 : Int32).toNatClampNeg) := ⟨_, rfl⟩
    rw [← ei16] at q16
    rw [← eiq, ← ek1] at rke
    have hsk : 0 ≤ k5.toInt ∧ k5.toInt ≤ 9999 := by rw [ek5]; exact ⟨ks1, ks2⟩
    refine lv_aload_n hx hb dL_law_1011 rfl (lv_at hl 2 rfl) ?_
    refine lv_aload_n hx hb dL_law_1012 rfl (lv_at hl 3 rfl) ?_
    refine lv_iload_n hx hb dL_law_1013 rfl (lv_at hl 0 rfl) ?_
    refine lv_iconst (v := 1) hx hb dL_law_1014 (by decide) ?_
    refine lv_iadd hx hb dL_law_1015 ?_
    refine lv_topi (fun x162 ex162 => ?_)
    obtain ⟨tx162, ejx162, evx162⟩ := lw_ix (k := 1) ex162 hI hL rfl (by decide)
    clear tx162
    refine va_sld hx hb hX hbl (Nat.not_le.mpr hbl) hS (vp_in_iff.mpr evx162) dL_law_1016 ?_
    refine W.eq (g2 := F0 m 1017 ls [.int (xs (i.toNatClampNeg + 1)), .ref a]) (congrArg (fun z => F0 m 1017 ls [.int (xs z), .ref a]) ejx162) ?_
    refine x_V (As := [.int (xs (i.toNatClampNeg + 1))]) (rest := []) C (a_X9_off l K G H ((xs (i.toNatClampNeg + 1))) hT ga) yo_X9_off wM_L_105 ⟨⟨by decide, by decide⟩, show _ ≤ 60000 from Nat.le_trans hc (by decide), show _ ≤ 8922250 from Nat.le_trans hs (by decide)⟩ (x_rv C hT (ci := 9) rfl ga rg_68) rfl hl.1 rfl (Nat.le_of_ble_eq_true rfl) dL_law_1017 hS (AE_new hN hS.1) (fun vH163 H163 locsH163 pH163 zH163 kH163 hSH163 => ?_)
    obtain ⟨x164, hvH163, hTH163⟩ := pH163
    subst hvH163
    have g165 : CG (avw K H163 b) := CG.congr (fun k hk j => av_eff hT kH163 gb (by decide) (CG_eff [83, 84] (by decide) k hk)) cg
    have g166 : TU (avw K H163 b) (svw K H163 b) := TU.congr (fun k hk j => av_eff hT kH163 gb (by decide) (TU_eff [83, 84] (by decide) k hk)) (fun k hk => sv_eff hT kH163 gb (by decide)) tu
    have g167 : WD (avw K H163 b) := WD.congr (fun k hk j => av_eff hT kH163 gb (by decide) (WD_eff [83, 84] (by decide) k hk)) wd
    have g168 : IM (avw K H163 b) := IM.congr (fun k hk j => av_eff hT kH163 gb (by decide) (IM_eff [83, 84] (by decide) k hk)) im
    have f169 : ∀ j : Nat, fI H163 tq j = fI H tq j := fun j => (fI_kept (x_lt hT kH163 gtq (by decide))).trans (ft0 j)
    have f170 : ∀ j : Nat, fI H163 uq j = fI H uq j := fun j => (fI_kept (x_lt hT kH163 guq (by decide))).trans (fu0 j)
    have m171 := (ew).trans (fR_kept (x_lt hT kH163 ga (by decide))).symm
    have m172 := (eta).trans (fI_kept (x_lt hT kH163 ga (by decide))).symm
    have m173 := (etb).trans (fI_kept (x_lt hT kH163 gb (by decide))).symm
    have m174 := (es1).trans (fI_kept (x_lt hT kH163 gw (by decide))).symm
    have m175 := (ey1).trans (fI_kept (x_lt hT kH163 gb (by decide))).symm
    have m176 := (es4).trans (fI_kept (x_lt hT kH163 gw (by decide))).symm
    have m177 := (ey4).trans (fI_kept (x_lt hT kH163 gb (by decide))).symm
    have m178 := (es5).trans (fI_kept (x_lt hT kH163 gw (by decide))).symm
    have m179 := (ey5).trans (fI_kept (x_lt hT kH163 gb (by decide))).symm
    have m180 := (es10).trans (fI_kept (x_lt hT kH163 gw (by decide))).symm
    have m181 := (ey10).trans (fI_kept (x_lt hT kH163 gb (by decide))).symm
    have m182 := (es13).trans (fI_kept (x_lt hT kH163 gw (by decide))).symm
    have m183 := (ey13).trans (fI_kept (x_lt hT kH163 gb (by decide))).symm
    have m184 := (es16).trans (fI_kept (x_lt hT kH163 gw (by decide))).symm
    have m185 := (ey16).trans (fI_kept (x_lt hT kH163 gb (by decide))).symm
    have m186 := (etq).trans (fR_kept (x_lt hT kH163 ga (by decide))).symm
    have m187 := (euq).trans (fR_kept (x_lt hT kH163 gb (by decide))).symm
    have m188 := (ehi).trans (fI_kept (x_lt hT kH163 gb (by decide))).symm
    have m189 := (fV_kept (x_lt hT kH163 ga (by decide))).trans kn
    have m190 := (eiq).trans (fR_kept (x_lt hT kH163 gb (by decide))).symm
    have m191 := (ek1).trans (fI_kept (x_lt hT kH163 gkq (by decide))).symm
    have m192 := (ei1).trans (fI_kept (x_lt hT kH163 giq (by decide))).symm
    have m193 := (ek4).trans (fI_kept (x_lt hT kH163 gkq (by decide))).symm
    have m194 := (ei4).trans (fI_kept (x_lt hT kH163 giq (by decide))).symm
    have m195 := (ek5).trans (fI_kept (x_lt hT kH163 gkq (by decide))).symm
    have m196 := (ei5).trans (fI_kept (x_lt hT kH163 giq (by decide))).symm
    have m197 := (ek10).trans (fI_kept (x_lt hT kH163 gkq (by decide))).symm
    have m198 := (ei10).trans (fI_kept (x_lt hT kH163 giq (by decide))).symm
    have m199 := (ek13).trans (fI_kept (x_lt hT kH163 gkq (by decide))).symm
    have m200 := (ei13).trans (fI_kept (x_lt hT kH163 giq (by decide))).symm
    have m201 := (ek16).trans (fI_kept (x_lt hT kH163 gkq (by decide))).symm
    have m202 := (ei16).trans (fI_kept (x_lt hT kH163 giq (by decide))).symm
    refine W.eq (g2 := F0 m 1020 ls [.int x164]) rfl ?_
    have rk203 : RKI K H163 kq iq k1.toInt := RKI.kept rke hT gkq (x_lt hT kH163 giq (by first | exact nmr ht (by decide) | exact nmo ht (by decide) | exact nme ht (by decide) | exact nmq ht (by decide) | decide | (intro z; simp only [List.mem_cons, List.not_mem_nil, or_false] at z <;> omega) | omega)) (fun q t hq ht => x_lt hT kH163 hq (by first | exact nmr ht (by decide) | exact nmo ht (by decide) | exact nme ht (by decide) | exact nmq ht (by decide) | decide | (intro z; simp only [List.mem_cons, List.not_mem_nil, or_false] at z <;> omega) | omega))
    have re204 : RE K H163 w b s1.toInt := RE.cls re hT gw gb (fun q t hq ht => x_lt hT kH163 hq (by first | exact nmr ht (by decide) | exact nmo ht (by decide) | exact nme ht (by decide) | exact nmq ht (by decide) | decide | (intro z; simp only [List.mem_cons, List.not_mem_nil, or_false] at z <;> omega) | omega))
    refine lv_pop hx hb dL_law_1020 rfl ?_
    refine lv_aload_n hx hb dL_law_1021 rfl (lv_at hl 1 rfl) ?_
    refine lv_aload_n hx hb dL_law_1022 rfl (lv_at hl 3 rfl) ?_
    refine lv_iload_n hx hb dL_law_1023 rfl (lv_at hl 0 rfl) ?_
    refine lv_iconst (v := 1) hx hb dL_law_1024 (by decide) ?_
    refine lv_iadd hx hb dL_law_1025 ?_
    refine lv_topi (fun x205 ex205 => ?_)
    obtain ⟨tx205, ejx205, evx205⟩ := lw_ix (k := 1) ex205 hI hL rfl (by decide)
    clear tx205
    refine va_sld hx hb hX hbl (Nat.not_le.mpr hbl) hSH163 (vp_in_iff.mpr evx205) dL_law_1026 ?_
    refine W.eq (g2 := F0 m 1027 ls [.int (xs (i.toNatClampNeg + 1)), .ref b]) (congrArg (fun z => F0 m 1027 ls [.int (xs z), .ref b]) ejx205) ?_
    refine x_V (As := [.int (xs (i.toNatClampNeg + 1))]) (rest := []) C (a_X10_off l K G H163 ((xs (i.toNatClampNeg + 1))) hTH163 gb g165 g166 g167 g168) yo_X10_off wM_L_108 ⟨⟨by decide, by decide⟩, show _ ≤ 60000 from Nat.le_trans hc (by decide), show _ ≤ 8922250 from Nat.le_trans hs (by decide)⟩ (x_rv C hTH163 (ci := 10) rfl gb rg_112) rfl hl.1 rfl (Nat.le_of_ble_eq_true rfl) dL_law_1027 hSH163 (AE_new hN hSH163.1) (fun vH206 H206 locsH206 pH206 zH206 kH206 hSH206 => ?_)
    obtain ⟨x207, hvH206, g208, g209, g210, g211, mf212, hTH206⟩ := pH206
    subst hvH206
    have f213 : ∀ j : Nat, fI H206 tq j = fI H tq j := fun j => (fI_kept (x_lt hTH163 kH206 gtq (by decide))).trans (f169 j)
    have f214 : ∀ j : Nat, fI H206 uq j = fI H uq j := fun j => (fI_kept (x_lt hTH163 kH206 guq (by decide))).trans (f170 j)
    have m215 := (m171).trans (fR_kept (x_lt hTH163 kH206 ga (by decide))).symm
    have m216 := (m172).trans (fI_kept (x_lt hTH163 kH206 ga (by decide))).symm
    have m217 := (m174).trans (fI_kept (x_lt hTH163 kH206 gw (by decide))).symm
    have m218 := (m176).trans (fI_kept (x_lt hTH163 kH206 gw (by decide))).symm
    have m219 := (m178).trans (fI_kept (x_lt hTH163 kH206 gw (by decide))).symm
    have m220 := (m180).trans (fI_kept (x_lt hTH163 kH206 gw (by decide))).symm
    have m221 := (m182).trans (fI_kept (x_lt hTH163 kH206 gw (by decide))).symm
    have m222 := (m184).trans (fI_kept (x_lt hTH163 kH206 gw (by decide))).symm
    have m223 := (m186).trans (fR_kept (x_lt hTH163 kH206 ga (by decide))).symm
    have m224 := (fV_kept (x_lt hTH163 kH206 ga (by decide))).trans m189
    have m225 := (m191).trans (fI_kept (x_lt hTH163 kH206 gkq (by decide))).symm
    have m226 := (m192).trans (fI_kept (x_lt hTH163 kH206 giq (by decide))).symm
    have m227 := (m193).trans (fI_kept (x_lt hTH163 kH206 gkq (by decide))).symm
    have m228 := (m194).trans (fI_kept (x_lt hTH163 kH206 giq (by decide))).symm
    have m229 := (m195).trans (fI_kept (x_lt hTH163 kH206 gkq (by decide))).symm
    have m230 := (m196).trans (fI_kept (x_lt hTH163 kH206 giq (by decide))).symm
    have m231 := (m197).trans (fI_kept (x_lt hTH163 kH206 gkq (by decide))).symm
    have m232 := (m198).trans (fI_kept (x_lt hTH163 kH206 giq (by decide))).symm
    have m233 := (m199).trans (fI_kept (x_lt hTH163 kH206 gkq (by decide))).symm
    have m234 := (m200).trans (fI_kept (x_lt hTH163 kH206 giq (by decide))).symm
    have m235 := (m201).trans (fI_kept (x_lt hTH163 kH206 gkq (by decide))).symm
    have m236 := (m202).trans (fI_kept (x_lt hTH163 kH206 giq (by decide))).symm
    have m237 := (m173).trans (MF.i mf212 (k := 18) (by decide) (by decide)).symm
    have m238 := (m175).trans (MF.i mf212 (k := 1) (by decide) (by decide)).symm
    have m239 := (m177).trans (MF.i mf212 (k := 2) (by decide) (by decide)).symm
    have m240 := (m179).trans (MF.i mf212 (k := 3) (by decide) (by decide)).symm
    have m241 := (m181).trans (MF.i mf212 (k := 59) (by decide) (by decide)).symm
    have m242 := (m183).trans (MF.i mf212 (k := 62) (by decide) (by decide)).symm
    have m243 := (m185).trans (MF.i mf212 (k := 65) (by decide) (by decide)).symm
    have m244 := (m187).trans (MF.r mf212 (k := 17) (by decide) (by decide)).symm
    have m245 := (m188).trans (MF.i mf212 (k := 70) (by decide) (by decide)).symm
    have m246 := (m190).trans (MF.r mf212 (k := 73) (by decide) (by decide)).symm
    refine W.eq (g2 := F0 m 1030 ls [.int x207]) rfl ?_
    have rk247 : RKI K H206 kq iq k1.toInt := RKI.kept rk203 hTH163 gkq (x_lt hTH163 kH206 giq (by first | exact nmr ht (by decide) | exact nmo ht (by decide) | exact nme ht (by decide) | exact nmq ht (by decide) | decide | (intro z; simp only [List.mem_cons, List.not_mem_nil, or_false] at z <;> omega) | omega)) (fun q t hq ht => x_lt hTH163 kH206 hq (by first | exact nmr ht (by decide) | exact nmo ht (by decide) | exact nme ht (by decide) | exact nmq ht (by decide) | decide | (intro z; simp only [List.mem_cons, List.not_mem_nil, or_false] at z <;> omega) | omega))
    have re248 : RE K H206 w b s1.toInt := RE.ref re204 hTH163 gw gb (fun k hk => MF.r mf212 (by omega) (by intro z; simp only [List.mem_cons, List.not_mem_nil, or_false] at z; omega)) (fun q t hq ht => x_lt hTH163 kH206 hq (by first | exact nmr ht (by decide) | exact nmo ht (by decide) | exact nme ht (by decide) | exact nmq ht (by decide) | decide | (intro z; simp only [List.mem_cons, List.not_mem_nil, or_false] at z <;> omega) | omega))
    refine lv_pop hx hb dL_law_1030 rfl ?_
    refine lv_goto (tgt := 1509) hx hb dL_law_1031 (by decide) ?_
    exact nx G H206 locsH206 _ _ ls ⟨hTH206, hN, ga, gb, g208, g209, g210, g211, ⟨(by rw [← m216, ← m237]; exact rt), (by rw [← m215, ← m217, ← m238]; exact r1), (by rw [← m215, ← m218, ← m239]; exact r4), (by rw [← m215, ← m219, ← m240]; exact r5), (by rw [← m215, ← m220, ← m241]; exact r10), (by rw [← m215, ← m221, ← m242]; exact r13), (by rw [← m215, ← m222, ← m243]; exact r16)⟩, Or.inr ⟨kq, m224, gkq, (by rw [← m245]; exact h70), (by rw [← m225, ← m246, ← m226]; exact q1), (by rw [← m227, ← m246, ← m228]; exact q4), (by rw [← m229, ← m246, ← m230]; exact q5), (by rw [← m231, ← m246, ← m232]; exact q10), (by rw [← m233, ← m246, ← m234]; exact q13), (by rw [← m235, ← m246, ← m236]; exact q16), (by rw [← m246, ← m225]; exact RKI.cast rk247 (by omega)), (by rw [← m229]; omega), (by rw [← m229]; omega)⟩, (by unfold TB; rw [← m223, ← m244, ← m237]; exact TBR.of htr f213 f214 (by omega)), (by unfold RELE; rw [← m215, ← m238, ← m219]; exact ⟨RE.cast re248 (by omega), by omega, by omega⟩), hSH206⟩ hl ⟨hc, hs, fun h => by have h1 := h.symm.trans m224; cases h1⟩