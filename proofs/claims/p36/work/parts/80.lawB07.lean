set_option maxRecDepth 100000 in
set_option maxHeartbeats 8000000 in
theorem lw_c14 {p : Program} {l : Launch} {e : Env} {s : State} {m : MethodId} {below : List Frame} {meth : Method} {c : Code} {K : KE} {b0 L : Nat} {xs : Nat → Int32} {G : Nat → Option Nat} {H : Heap} {locs : List Loc} {a b : Nat} {cells slots : Nat} {ls : Array Slot} {i : Int32} {n : Nat} (D : LC p K s m meth c b0 L xs) (S : SX K s G H locs a b) (hl : lv_has ls 4 [(3, .int i), (2, .ref b), (1, .ref a), (0, .ref b0)]) (hi : 0 ≤ i.toInt ∧ i.toInt + 6 ≤ L) (hn : n ≤ 511) (hB : BD K H a cells slots) (nx : ∀ (G : Nat → Option Nat) (H : Heap) (locs : List Loc) (cells slots : Nat) (ls : Array Slot), SX K s G H locs a b → lv_has ls 4 [(3, .int i), (2, .ref b), (1, .ref a), (0, .ref b0)] → BD K H a cells slots → W p l e room_1 s m #[Value.ref b0] below meth c H locs cells slots (lw_Z below #[Value.ref b0] s) (F0 m 1509 ls [])) : W p l e room_1 s m #[Value.ref b0] below meth c H locs cells slots (lw_Z below #[Value.ref b0] s) (F0 m 750 ls []) := by
  have hI := hi
  obtain ⟨C, hX, hbl, hL⟩ := id D
  obtain ⟨hx, hb, hml, hown, hts, hKT, hr, hlocks, hnm⟩ := id C
  obtain ⟨hT, hN, ga, gb, cg, tu, wd, im, ⟨rt, r1, r4, r5, r10, r13, r16⟩, hk, htb, her, hS⟩ := S
  obtain ⟨hc, hs, hB0⟩ := hB
  have n_1 : (1 : Int32).toInt = 1 := rfl
  obtain ⟨w, ew⟩ : ∃ z : Nat, z = fR H a (K.1.2 9 0) := ⟨_, rfl⟩
  have gw := ty_fr (q := w) (k := 0) (u := 0) ew hT ga rg_68 rfl
  rw [← ew] at r1 r4 r5 r10 r13 r16
  obtain ⟨ta, eta⟩ : ∃ z : Int32, z = fI H a (K.1.2 9 3) := ⟨_, rfl⟩
  rw [← eta] at rt
  obtain ⟨tb, etb⟩ : ∃ z : Int32, z = fI H b (K.1.2 10 18) := ⟨_, rfl⟩
  rw [← etb] at rt
  obtain ⟨s1, es1⟩ : ∃ z : Int32, z = fI H w (K.1.2 8 1) := ⟨_, rfl⟩
  rw [← es1] at r1
  obtain ⟨y1, ey1⟩ : ∃ z : Int32, z = fI H b (K.1.2 10 1) := ⟨_, rfl⟩
  rw [← ey1] at r1
  obtain ⟨s4, es4⟩ : ∃ z : Int32, z = fI H w (K.1.2 8 4) := ⟨_, rfl⟩
  rw [← es4] at r4
  obtain ⟨y4, ey4⟩ : ∃ z : Int32, z = fI H b (K.1.2 10 2) := ⟨_, rfl⟩
  rw [← ey4] at r4
  obtain ⟨s5, es5⟩ : ∃ z : Int32, z = fI H w (K.1.2 8 5) := ⟨_, rfl⟩
  rw [← es5] at r5
  obtain ⟨y5, ey5⟩ : ∃ z : Int32, z = fI H b (K.1.2 10 3) := ⟨_, rfl⟩
  rw [← ey5] at r5
  obtain ⟨s10, es10⟩ : ∃ z : Int32, z = fI H w (K.1.2 8 10) := ⟨_, rfl⟩
  rw [← es10] at r10
  obtain ⟨y10, ey10⟩ : ∃ z : Int32, z = fI H b (K.1.2 10 59) := ⟨_, rfl⟩
  rw [← ey10] at r10
  obtain ⟨s13, es13⟩ : ∃ z : Int32, z = fI H w (K.1.2 8 13) := ⟨_, rfl⟩
  rw [← es13] at r13
  obtain ⟨y13, ey13⟩ : ∃ z : Int32, z = fI H b (K.1.2 10 62) := ⟨_, rfl⟩
  rw [← ey13] at r13
  obtain ⟨s16, es16⟩ : ∃ z : Int32, z = fI H w (K.1.2 8 16) := ⟨_, rfl⟩
  rw [← es16] at r16
  obtain ⟨y16, ey16⟩ : ∃ z : Int32, z = fI H b (K.1.2 10 65) := ⟨_, rfl⟩
  rw [← ey16] at r16
  obtain ⟨tq, etq⟩ : ∃ z : Nat, z = fR H a (K.1.2 9 2) := ⟨_, rfl⟩
  have gtq := ty_fr (q := tq) (k := 2) (u := 108) etq hT ga rg_68 rfl
  obtain ⟨uq, euq⟩ : ∃ z : Nat, z = fR H b (K.1.2 10 17) := ⟨_, rfl⟩
  have guq := ty_fr (q := uq) (k := 17) (u := 126) euq hT gb rg_112 rfl
  have htr : TBR (fun j => fI H tq j) (fun j => fI H uq j) tb.toNatClampNeg := by rw [etq, euq, etb]; exact htb
  have ft0 : ∀ j : Nat, fI H tq j = fI H tq j := fun _ => rfl
  have fu0 : ∀ j : Nat, fI H uq j = fI H uq j := fun _ => rfl
  have bta := ty_fi (x := ta) (k := 3) eta hT ga rg_68 rfl
  have cta := i_cl (x := ta) (by omega)
  have btb := ty_fi (x := tb) (k := 18) etb hT gb rg_112 rfl
  have ctb := i_cl (x := tb) (by omega)
  obtain ⟨her0, hsl1, hsl2⟩ := her
  have hsl0 := And.intro hsl1 hsl2
  clear hsl1 hsl2
  rw [← ew] at her0 hsl0
  have re : RE K H w b s1.toInt := RE.cast her0 (by rw [← ey1]; exact r1)
  have hsl : 0 ≤ s5.toInt ∧ s5.toInt ≤ 9999 := by rw [es5]; exact hsl0
  clear her0 hsl0
  have bt_s1 := ty_fi (x := s1) (k := 1) es1 hT gw rg_0 rfl
  have bt_s4 := ty_fi (x := s4) (k := 4) es4 hT gw rg_0 rfl
  have bt_y1 := ty_fi (x := y1) (k := 1) ey1 hT gb rg_112 rfl
  have bt_y4 := ty_fi (x := y4) (k := 2) ey4 hT gb rg_112 rfl
  rcases hk with ⟨kn, h70⟩ | ⟨kq, kn, gkq, h70, q1, q4, q5, q10, q13, q16, rke, ks1, ks2⟩
  · skip
    obtain ⟨hi, ehi⟩ : ∃ z : Int32, z = fI H b (K.1.2 10 70) := ⟨_, rfl⟩
    rw [← ehi] at h70
    obtain ⟨hc0, hs0⟩ := hB0 kn
    obtain ⟨iq, eiq⟩ : ∃ z : Nat, z = fR H b (K.1.2 10 73) := ⟨_, rfl⟩
    have giq := ty_fr (q := iq) (k := 73) (u := 162) eiq hT gb rg_112 rfl
    refine lv_aload_n hx hb dL_law_750 rfl (lv_at hl 2 rfl) ?_
    refine lv_aload_n hx hb dL_law_751 rfl (lv_at hl 3 rfl) ?_
    refine lv_iload_n hx hb dL_law_752 rfl (lv_at hl 0 rfl) ?_
    refine lv_iconst (v := 1) hx hb dL_law_753 (by decide) ?_
    refine lv_iadd hx hb dL_law_754 ?_
    refine lv_topi (fun x101 ex101 => ?_)
    obtain ⟨tx101, ejx101, evx101⟩ := lw_ix (k := 1) ex101 hI hL rfl (by decide)
    clear tx101
    refine va_sld hx hb hX hbl (Nat.not_le.mpr hbl) hS (vp_in_iff.mpr evx101) dL_law_755 ?_
    refine W.eq (g2 := F0 m 756 ls [.int (xs (i.toNatClampNeg + 1)), .ref a]) (congrArg (fun z => F0 m 756 ls [.int (xs z), .ref a]) ejx101) ?_
    refine x_V (As := [.int (xs (i.toNatClampNeg + 1))]) (rest := []) C (a_X9_slack_w l K G H ((xs (i.toNatClampNeg + 1))) (s1) (s4) (s5) (s10) (s13) (s16) hT ga gw ew es1 es4 es5 es10 es13 es16) yo_X9_slack wM_L_76 ⟨⟨by decide, by decide⟩, show _ ≤ 60000 from Nat.le_trans hc (by decide), show _ ≤ 8922250 from Nat.le_trans hs (by decide)⟩ (x_rv C hT (ci := 9) rfl ga rg_68) rfl hl.1 rfl (Nat.le_of_ble_eq_true rfl) dL_law_756 hS (AE_new hN hS.1) (fun vH102 H102 locsH102 pH102 zH102 kH102 hSH102 => ?_)
    obtain ⟨x103, x104, x105, x106, x107, x108, x109, hvH102, ex104, ex105, ex106, ex107, ex108, ex109, hrH102, m110, hTH102⟩ := pH102
    subst hvH102
    have g111 : CG (avw K H102 b) := CG.congr (fun k hk j => av_eff hT kH102 gb (by decide) (CG_eff [0] (by decide) k hk)) cg
    have g112 : TU (avw K H102 b) (svw K H102 b) := TU.congr (fun k hk j => av_eff hT kH102 gb (by decide) (TU_eff [0] (by decide) k hk)) (fun k hk => sv_eff hT kH102 gb (by decide)) tu
    have g113 : WD (avw K H102 b) := WD.congr (fun k hk j => av_eff hT kH102 gb (by decide) (WD_eff [0] (by decide) k hk)) wd
    have g114 : IM (avw K H102 b) := IM.congr (fun k hk j => av_eff hT kH102 gb (by decide) (IM_eff [0] (by decide) k hk)) im
    have f115 : ∀ j : Nat, fI H102 tq j = fI H tq j := fun j => (fI_kept (x_lt hT kH102 gtq (by decide))).trans (ft0 j)
    have f116 : ∀ j : Nat, fI H102 uq j = fI H uq j := fun j => (fI_kept (x_lt hT kH102 guq (by decide))).trans (fu0 j)
    have m117 := (ew).trans (fR_kept (x_lt hT kH102 ga (by decide))).symm
    have m118 := (eta).trans (fI_kept (x_lt hT kH102 ga (by decide))).symm
    have m119 := (etb).trans (fI_kept (x_lt hT kH102 gb (by decide))).symm
    have m120 := (ey1).trans (fI_kept (x_lt hT kH102 gb (by decide))).symm
    have m121 := (ey4).trans (fI_kept (x_lt hT kH102 gb (by decide))).symm
    have m122 := (ey5).trans (fI_kept (x_lt hT kH102 gb (by decide))).symm
    have m123 := (ey10).trans (fI_kept (x_lt hT kH102 gb (by decide))).symm
    have m124 := (ey13).trans (fI_kept (x_lt hT kH102 gb (by decide))).symm
    have m125 := (ey16).trans (fI_kept (x_lt hT kH102 gb (by decide))).symm
    have m126 := (etq).trans (fR_kept (x_lt hT kH102 ga (by decide))).symm
    have m127 := (euq).trans (fR_kept (x_lt hT kH102 gb (by decide))).symm
    have m128 := (ehi).trans (fI_kept (x_lt hT kH102 gb (by decide))).symm
    have m129 := (fV_kept (x_lt hT kH102 ga (by decide))).trans kn
    have m130 := (eiq).trans (fR_kept (x_lt hT kH102 gb (by decide))).symm
    have bx104 := ty_fi (x := x104) (k := 1) ex104 hTH102 gw rg_0 rfl
    have bx105 := ty_fi (x := x105) (k := 4) ex105 hTH102 gw rg_0 rfl
    have bx106 := ty_fi (x := x106) (k := 5) ex106 hTH102 gw rg_0 rfl
    have bx107 := ty_fi (x := x107) (k := 10) ex107 hTH102 gw rg_0 rfl
    have bx108 := ty_fi (x := x108) (k := 13) ex108 hTH102 gw rg_0 rfl
    have bx109 := ty_fi (x := x109) (k := 16) ex109 hTH102 gw rg_0 rfl
    refine W.eq (g2 := F0 m 759 ls [.int x103]) rfl ?_
    have re131 : RE K H102 w b s1.toInt := RE.now re hT gw gb m110 (fun q t hq ht => x_lt hT kH102 hq (by first | exact nmr ht (by decide) | exact nmo ht (by decide) | exact nme ht (by decide) | exact nmq ht (by decide) | decide | (intro z; simp only [List.mem_cons, List.not_mem_nil, or_false] at z <;> omega) | omega))
    refine lv_pop hx hb dL_law_759 rfl ?_
    refine lv_aload_n hx hb dL_law_760 rfl (lv_at hl 1 rfl) ?_
    refine lv_aload_n hx hb dL_law_761 rfl (lv_at hl 3 rfl) ?_
    refine lv_iload_n hx hb dL_law_762 rfl (lv_at hl 0 rfl) ?_
    refine lv_iconst (v := 1) hx hb dL_law_763 (by decide) ?_
    refine lv_iadd hx hb dL_law_764 ?_
    refine lv_topi (fun x132 ex132 => ?_)
    obtain ⟨tx132, ejx132, evx132⟩ := lw_ix (k := 1) ex132 hI hL rfl (by decide)
    clear tx132
    refine va_sld hx hb hX hbl (Nat.not_le.mpr hbl) hSH102 (vp_in_iff.mpr evx132) dL_law_765 ?_
    refine W.eq (g2 := F0 m 766 ls [.int (xs (i.toNatClampNeg + 1)), .ref b]) (congrArg (fun z => F0 m 766 ls [.int (xs z), .ref b]) ejx132) ?_
    refine x_V (As := [.int (xs (i.toNatClampNeg + 1))]) (rest := []) C (a_X10_slack_r l K G H102 ((xs (i.toNatClampNeg + 1))) (y5) hTH102 gb m122 g111 g112 g113 g114) yo_X10_slack wM_L_79 ⟨⟨by decide, by decide⟩, show _ ≤ 60000 from Nat.le_trans hc (by decide), show _ ≤ 8922250 from Nat.le_trans hs (by decide)⟩ (x_rv C hTH102 (ci := 10) rfl gb rg_112) rfl hl.1 rfl (Nat.le_of_ble_eq_true rfl) dL_law_766 hSH102 (AE_new hN hSH102.1) (fun vH133 H133 locsH133 pH133 zH133 kH133 hSH133 => ?_)
    obtain ⟨x134, x135, hvH133, ex135, hrH133, g136, g137, g138, g139, mf140, hTH133⟩ := pH133
    subst hvH133
    have f141 : ∀ j : Nat, fI H133 tq j = fI H tq j := fun j => (fI_kept (x_lt hTH102 kH133 gtq (by decide))).trans (f115 j)
    have f142 : ∀ j : Nat, fI H133 uq j = fI H uq j := fun j => (fI_kept (x_lt hTH102 kH133 guq (by decide))).trans (f116 j)
    have m143 := (m117).trans (fR_kept (x_lt hTH102 kH133 ga (by decide))).symm
    have m144 := (m118).trans (fI_kept (x_lt hTH102 kH133 ga (by decide))).symm
    have m145 := (m126).trans (fR_kept (x_lt hTH102 kH133 ga (by decide))).symm
    have m146 := (fV_kept (x_lt hTH102 kH133 ga (by decide))).trans m129
    have m147 := (ex104).trans (fI_kept (x_lt hTH102 kH133 gw (by decide))).symm
    have m148 := (ex105).trans (fI_kept (x_lt hTH102 kH133 gw (by decide))).symm
    have m149 := (ex106).trans (fI_kept (x_lt hTH102 kH133 gw (by decide))).symm
    have m150 := (ex107).trans (fI_kept (x_lt hTH102 kH133 gw (by decide))).symm
    have m151 := (ex108).trans (fI_kept (x_lt hTH102 kH133 gw (by decide))).symm
    have m152 := (ex109).trans (fI_kept (x_lt hTH102 kH133 gw (by decide))).symm
    have m153 := (m119).trans (MF.i mf140 (k := 18) (by decide) (by decide)).symm
    have m154 := (m120).trans (MF.i mf140 (k := 1) (by decide) (by decide)).symm
    have m155 := (m121).trans (MF.i mf140 (k := 2) (by decide) (by decide)).symm
    have m156 := (m123).trans (MF.i mf140 (k := 59) (by decide) (by decide)).symm
    have m157 := (m124).trans (MF.i mf140 (k := 62) (by decide) (by decide)).symm
    have m158 := (m125).trans (MF.i mf140 (k := 65) (by decide) (by decide)).symm
    have m159 := (m127).trans (MF.r mf140 (k := 17) (by decide) (by decide)).symm
    have m160 := (m128).trans (MF.i mf140 (k := 70) (by decide) (by decide)).symm
    have m161 := (m130).trans (MF.r mf140 (k := 73) (by decide) (by decide)).symm
    have bx135 := ty_fi (x := x135) (k := 3) ex135 hTH133 gb rg_112 rfl
    refine W.eq (g2 := F0 m 769 ls [.int x134]) rfl ?_
    have re162 : RE K H133 w b s1.toInt := RE.ref re131 hTH102 gw gb (fun k hk => MF.r mf140 (by omega) (by intro z; simp only [List.mem_cons, List.not_mem_nil, or_false] at z; omega)) (fun q t hq ht => x_lt hTH102 kH133 hq (by first | exact nmr ht (by decide) | exact nmo ht (by decide) | exact nme ht (by decide) | exact nmq ht (by decide) | decide | (intro z; simp only [List.mem_cons, List.not_mem_nil, or_false] at z <;> omega) | omega))
    refine lv_pop hx hb dL_law_769 rfl ?_
    refine lv_goto (tgt := 1509) hx hb dL_law_770 (by decide) ?_
    exact nx G H133 locsH133 _ _ ls ⟨hTH133, hN, ga, gb, g136, g137, g138, g139, ⟨(by rw [← m144, ← m153]; exact rt), (by rw [← m143, ← m147, ← m154]; omega), (by rw [← m143, ← m148, ← m155]; omega), (by rw [← m143, ← m149, ← ex135]; omega), (by rw [← m143, ← m150, ← m156]; omega), (by rw [← m143, ← m151, ← m157]; omega), (by rw [← m143, ← m152, ← m158]; omega)⟩, Or.inl ⟨m146, (by rw [← m160]; exact h70)⟩, (by unfold TB; rw [← m145, ← m159, ← m153]; exact TBR.of htr f141 f142 (by omega)), (by unfold RELE; rw [← m143, ← m154, ← m149]; exact ⟨RE.cast re162 (by omega), by omega, by omega⟩), hSH133⟩ hl ⟨hc, hs, fun _ => ⟨hc0, hs0⟩⟩
  · skip
    obtain ⟨hi, ehi⟩ : ∃ z : Int32, z = fI H b (K.1.2 10 70) := ⟨_, rfl⟩
    rw [← ehi] at h70
    obtain ⟨iq, eiq⟩ : ∃ z : Nat, z = fR H b (K.1.2 10 73) := ⟨_, rfl⟩
    have giq := ty_fr (q := iq) (k := 73) (u := 162) eiq hT gb rg_112 rfl
    rw [← eiq] at q1 q4 q5 q10 q13 q16
    obtain ⟨k1, ek1⟩ : ∃ z : Int32, z = fI H kq (K.1.2 8 1) := ⟨_, rfl⟩
    rw [← ek1] at q1
    obtain ⟨i1, ei1⟩ : ∃ z : Int32, z = fI H iq ((0 : Int32).toNatClampNeg) := ⟨_, rfl⟩
    rw [← ei1] at q1
    obtain ⟨k4, ek4⟩ : ∃ z : Int32, z = fI H kq (K.1.2 8 4) := ⟨_, rfl⟩
    rw [← ek4] at q4
    obtain ⟨i4, ei4⟩ : ∃ z : Int32, z = fI H iq ((1 : Int32).toNatClampNeg) := ⟨_, rfl⟩
    rw [← ei4] at q4
    obtain ⟨k5, ek5⟩ : ∃ z : Int32, z = fI H kq (K.1.2 8 5) := ⟨_, rfl⟩
    rw [← ek5] at q5
    obtain ⟨i5, ei5⟩ : ∃ z : Int32, z = fI H iq ((2 : Int32).toNatClampNeg) := ⟨_, rfl⟩
    rw [← ei5] at q5
    obtain ⟨k10, ek10⟩ : ∃ z : Int32, z = fI H kq (K.1.2 8 10) := ⟨_, rfl⟩
    rw [← ek10] at q10
    obtain ⟨i10, ei10⟩ : ∃ z : Int32, z = fI H iq ((3 : Int32).toNatClampNeg) := ⟨_, rfl⟩
    rw [← ei10] at q10
    obtain ⟨k13, ek13⟩ : ∃ z : Int32, z = fI H kq (K.1.2 8 13) := ⟨_, rfl⟩
    rw [← ek13] at q13
    obtain ⟨i13, ei13⟩ : ∃ z : Int32, z = fI H iq ((4 : Int32).toNatClampNeg) := ⟨_, rfl⟩
    rw [← ei13] at q13
    obtain ⟨k16, ek16⟩ : ∃ z : Int32, z = fI H kq (K.1.2 8 16) := ⟨_, rfl⟩
    rw [← ek16] at q16
    obtain ⟨i16, ei16⟩ : ∃ z : Int32, z = fI H iq ((5 : Int32).toNatClampNeg) := ⟨_, rfl⟩
    rw [← ei16] at q16
    rw [← eiq, ← ek1] at rke
    have hsk : 0 ≤ k5.toInt ∧ k5.toInt ≤ 9999 := by rw [ek5]; exact ⟨ks1, ks2⟩
    refine lv_aload_n hx hb dL_law_750 rfl (lv_at hl 2 rfl) ?_
    refine lv_aload_n hx hb dL_law_751 rfl (lv_at hl 3 rfl) ?_
    refine lv_iload_n hx hb dL_law_752 rfl (lv_at hl 0 rfl) ?_
    refine lv_iconst (v := 1) hx hb dL_law_753 (by decide) ?_
    refine lv_iadd hx hb dL_law_754 ?_
    refine lv_topi (fun x163 ex163 => ?_)
    obtain ⟨tx163, ejx163, evx163⟩ := lw_ix (k := 1) ex163 hI hL rfl (by decide)
    clear tx163
    refine va_sld hx hb hX hbl (Nat.not_le.mpr hbl) hS (vp_in_iff.mpr evx163) dL_law_755 ?_
    refine W.eq (g2 := F0 m 756 ls [.int (xs (i.toNatClampNeg + 1)), .ref a]) (congrArg (fun z => F0 m 756 ls [.int (xs z), .ref a]) ejx163) ?_
    refine x_V (As := [.int (xs (i.toNatClampNeg + 1))]) (rest := []) C (a_X9_slack_w l K G H ((xs (i.toNatClampNeg + 1))) (s1) (s4) (s5) (s10) (s13) (s16) hT ga gw ew es1 es4 es5 es10 es13 es16) yo_X9_slack wM_L_76 ⟨⟨by decide, by decide⟩, show _ ≤ 60000 from Nat.le_trans hc (by decide), show _ ≤ 8922250 from Nat.le_trans hs (by decide)⟩ (x_rv C hT (ci := 9) rfl ga rg_68) rfl hl.1 rfl (Nat.le_of_ble_eq_true rfl) dL_law_756 hS (AE_new hN hS.1) (fun vH164 H164 locsH164 pH164 zH164 kH164 hSH164 => ?_)
    obtain ⟨x165, x166, x167, x168, x169, x170, x171, hvH164, ex166, ex167, ex168, ex169, ex170, ex171, hrH164, m172, hTH164⟩ := pH164
    subst hvH164
    have g173 : CG (avw K H164 b) := CG.congr (fun k hk j => av_eff hT kH164 gb (by decide) (CG_eff [0] (by decide) k hk)) cg
    have g174 : TU (avw K H164 b) (svw K H164 b) := TU.congr (fun k hk j => av_eff hT kH164 gb (by decide) (TU_eff [0] (by decide) k hk)) (fun k hk => sv_eff hT kH164 gb (by decide)) tu
    have g175 : WD (avw K H164 b) := WD.congr (fun k hk j => av_eff hT kH164 gb (by decide) (WD_eff [0] (by decide) k hk)) wd
    have g176 : IM (avw K H164 b) := IM.congr (fun k hk j => av_eff hT kH164 gb (by decide) (IM_eff [0] (by decide) k hk)) im
    have f177 : ∀ j : Nat, fI H164 tq j = fI H tq j := fun j => (fI_kept (x_lt hT kH164 gtq (by decide))).trans (ft0 j)
    have f178 : ∀ j : Nat, fI H164 uq j = fI H uq j := fun j => (fI_kept (x_lt hT kH164 guq (by decide))).trans (fu0 j)
    have m179 := (ew).trans (fR_kept (x_lt hT kH164 ga (by decide))).symm
    have m180 := (eta).trans (fI_kept (x_lt hT kH164 ga (by decide))).symm
    have m181 := (etb).trans (fI_kept (x_lt hT kH164 gb (by decide))).symm
    have m182 := (ey1).trans (fI_kept (x_lt hT kH164 gb (by decide))).symm
    have m183 := (ey4).trans (fI_kept (x_lt hT kH164 gb (by decide))).symm
    have m184 := (ey5).trans (fI_kept (x_lt hT kH164 gb (by decide))).symm
    have m185 := (ey10).trans (fI_kept (x_lt hT kH164 gb (by decide))).symm
    have m186 := (ey13).trans (fI_kept (x_lt hT kH164 gb (by decide))).symm
    have m187 := (ey16).trans (fI_kept (x_lt hT kH164 gb (by decide))).symm
    have m188 := (etq).trans (fR_kept (x_lt hT kH164 ga (by decide))).symm
    have m189 := (euq).trans (fR_kept (x_lt hT kH164 gb (by decide))).symm
    have m190 := (ehi).trans (fI_kept (x_lt hT kH164 gb (by decide))).symm
    have m191 := (fV_kept (x_lt hT kH164 ga (by decide))).trans kn
    have m192 := (eiq).trans (fR_kept (x_lt hT kH164 gb (by decide))).symm
    have m193 := (ek1).trans (fI_kept (x_lt hT kH164 gkq (by decide))).symm
    have m194 := (ei1).trans (fI_kept (x_lt hT kH164 giq (by decide))).symm
    have m195 := (ek4).trans (fI_kept (x_lt hT kH164 gkq (by decide))).symm
    have m196 := (ei4).trans (fI_kept (x_lt hT kH164 giq (by decide))).symm
    have m197 := (ek5).trans (fI_kept (x_lt hT kH164 gkq (by decide))).symm
    have m198 := (ei5).trans (fI_kept (x_lt hT kH164 giq (by decide))).symm
    have m199 := (ek10).trans (fI_kept (x_lt hT kH164 gkq (by decide))).symm
    have m200 := (ei10).trans (fI_kept (x_lt hT kH164 giq (by decide))).symm
    have m201 := (ek13).trans (fI_kept (x_lt hT kH164 gkq (by decide))).symm
    have m202 := (ei13).trans (fI_kept (x_lt hT kH164 giq (by decide))).symm
    have m203 := (ek16).trans (fI_kept (x_lt hT kH164 gkq (by decide))).symm
    have m204 := (ei16).trans (fI_kept (x_lt hT kH164 giq (by decide))).symm
    have bx166 := ty_fi (x := x166) (k := 1) ex166 hTH164 gw rg_0 rfl
    have bx167 := ty_fi (x := x167) (k := 4) ex167 hTH164 gw rg_0 rfl
    have bx168 := ty_fi (x := x168) (k := 5) ex168 hTH164 gw rg_0 rfl
    have bx169 := ty_fi (x := x169) (k := 10) ex169 hTH164 gw rg_0 rfl
    have bx170 := ty_fi (x := x170) (k := 13) ex170 hTH164 gw rg_0 rfl
    have bx171 := ty_fi (x := x171) (k := 16) ex171 hTH164 gw rg_0 rfl
    refine W.eq (g2 := F0 m 759 ls [.int x165]) rfl ?_
    have rk205 : RKI K H164 kq iq k1.toInt := RKI.kept rke hT gkq (x_lt hT kH164 giq (by first | exact nmr ht (by decide) | exact nmo ht (by decide) | exact nme ht (by decide) | exact nmq ht (by decide) | decide | (intro z; simp only [List.mem_cons, List.not_mem_nil, or_false] at z <;> omega) | omega)) (fun q t hq ht => x_lt hT kH164 hq (by first | exact nmr ht (by decide) | exact nmo ht (by decide) | exact nme ht (by decide) | exact nmq ht (by decide) | decide | (intro z; simp only [List.mem_cons, List.not_mem_nil, or_false] at z <;> omega) | omega))
    have re206 : RE K H164 w b s1.toInt := RE.now re hT gw gb m172 (fun q t hq ht => x_lt hT kH164 hq (by first | exact nmr ht (by decide) | exact nmo ht (by decide) | exact nme ht (by decide) | exact nmq ht (by decide) | decide | (intro z; simp only [List.mem_cons, List.not_mem_nil, or_false] at z <;> omega) | omega))
    refine lv_pop hx hb dL_law_759 rfl ?_
    refine lv_aload_n hx hb dL_law_760 rfl (lv_at hl 1 rfl) ?_
    refine lv_aload_n hx hb dL_law_761 rfl (lv_at hl 3 rfl) ?_
    refine lv_iload_n hx hb dL_law_762 rfl (lv_at hl 0 rfl) ?_
    refine lv_iconst (v := 1) hx hb dL_law_763 (by decide) ?_
    refine lv_iadd hx hb dL_law_764 ?_
    refine lv_topi (fun x207 ex207 => ?_)
    obtain ⟨tx207, ejx207, evx207⟩ := lw_ix (k := 1) ex207 hI hL rfl (by decide)
    clear tx207
    refine va_sld hx hb hX hbl (Nat.not_le.mpr hbl) hSH164 (vp_in_iff.mpr evx207) dL_law_765 ?_
    refine W.eq (g2 := F0 m 766 ls [.int (xs (i.toNatClampNeg + 1)), .ref b]) (congrArg (fun z => F0 m 766 ls [.int (xs z), .ref b]) ejx207) ?_
    refine x_V (As := [.int (xs (i.toNatClampNeg + 1))]) (rest := []) C (a_X10_slack_r l K G H164 ((xs (i.toNatClampNeg + 1))) (y5) hTH164 gb m184 g173 g174 g175 g176) yo_X10_slack wM_L_79 ⟨⟨by decide, by decide⟩, show _ ≤ 60000 from Nat.le_trans hc (by decide), show _ ≤ 8922250 from Nat.le_trans hs (by decide)⟩ (x_rv C hTH164 (ci := 10) rfl gb rg_112) rfl hl.1 rfl (Nat.le_of_ble_eq_true rfl) dL_law_766 hSH164 (AE_new hN hSH164.1) (fun vH208 H208 locsH208 pH208 zH208 kH208 hSH208 => ?_)
    obtain ⟨x209, x210, hvH208, ex210, hrH208, g211, g212, g213, g214, mf215, hTH208⟩ := pH208
    subst hvH208
    have f216 : ∀ j : Nat, fI H208 tq j = fI H tq j := fun j => (fI_kept (x_lt hTH164 kH208 gtq (by decide))).trans (f177 j)
    have f217 : ∀ j : Nat, fI H208 uq j = fI H uq j := fun j => (fI_kept (x_lt hTH164 kH208 guq (by decide))).trans (f178 j)
    have m218 := (m179).trans (fR_kept (x_lt hTH164 kH208 ga (by decide))).symm
    have m219 := (m180).trans (fI_kept (x_lt hTH164 kH208 ga (by decide))).symm
    have m220 := (m188).trans (fR_kept (x_lt hTH164 kH208 ga (by decide))).symm
    have m221 := (fV_kept (x_lt hTH164 kH208 ga (by decide))).trans m191
    have m222 := (m193).trans (fI_kept (x_lt hTH164 kH208 gkq (by decide))).symm
    have m223 := (m194).trans (fI_kept (x_lt hTH164 kH208 giq (by decide))).symm
    have m224 := (m195).trans (fI_kept (x_lt hTH164 kH208 gkq (by decide))).symm
    have m225 := (m196).trans (fI_kept (x_lt hTH164 kH208 giq (by decide))).symm
    have m226 := (m197).trans (fI_kept (x_lt hTH164 kH208 gkq (by decide))).symm
    have m227 := (m198).trans (fI_kept (x_lt hTH164 kH208 giq (by decide))).symm
    have m228 := (m199).trans (fI_kept (x_lt hTH164 kH208 gkq (by decide))).symm
    have m229 := (m200).trans (fI_kept (x_lt hTH164 kH208 giq (by decide))).symm
    have m230 := (m201).trans (fI_kept (x_lt hTH164 kH208 gkq (by decide))).symm
    have m231 := (m202).trans (fI_kept (x_lt hTH164 kH208 giq (by decide))).symm
    have m232 := (m203).trans (fI_kept (x_lt hTH164 kH208 gkq (by decide))).symm
    have m233 := (m204).trans (fI_kept (x_lt hTH164 kH208 giq (by decide))).symm
    have m234 := (ex166).trans (fI_kept (x_lt hTH164 kH208 gw (by decide))).symm
    have m235 := (ex167).trans (fI_kept (x_lt hTH164 kH208 gw (by decide))).symm
    have m236 := (ex168).trans (fI_kept (x_lt hTH164 kH208 gw (by decide))).symm
    have m237 := (ex169).trans (fI_kept (x_lt hTH164 kH208 gw (by decide))).symm
    have m238 := (ex170).trans (fI_kept (x_lt hTH164 kH208 gw (by decide))).symm
    have m239 := (ex171).trans (fI_kept (x_lt hTH164 kH208 gw (by decide))).symm
    have m240 := (m181).trans (MF.i mf215 (k := 18) (by decide) (by decide)).symm
    have m241 := (m182).trans (MF.i mf215 (k := 1) (by decide) (by decide)).symm
    have m242 := (m183).trans (MF.i mf215 (k := 2) (by decide) (by decide)).symm
    have m243 := (m185).trans (MF.i mf215 (k := 59) (by decide) (by decide)).symm
    have m244 := (m186).trans (MF.i mf215 (k := 62) (by decide) (by decide)).symm
    have m245 := (m187).trans (MF.i mf215 (k := 65) (by decide) (by decide)).symm
    have m246 := (m189).trans (MF.r mf215 (k := 17) (by decide) (by decide)).symm
    have m247 := (m190).trans (MF.i mf215 (k := 70) (by decide) (by decide)).symm
    have m248 := (m192).trans (MF.r mf215 (k := 73) (by decide) (by decide)).symm
    have bx210 := ty_fi (x := x210) (k := 3) ex210 hTH208 gb rg_112 rfl
    refine W.eq (g2 := F0 m 769 ls [.int x209]) rfl ?_
    have rk249 : RKI K H208 kq iq k1.toInt := RKI.kept rk205 hTH164 gkq (x_lt hTH164 kH208 giq (by first | exact nmr ht (by decide) | exact nmo ht (by decide) | exact nme ht (by decide) | exact nmq ht (by decide) | decide | (intro z; simp only [List.mem_cons, List.not_mem_nil, or_false] at z <;> omega) | omega)) (fun q t hq ht => x_lt hTH164 kH208 hq (by first | exact nmr ht (by decide) | exact nmo ht (by decide) | exact nme ht (by decide) | exact nmq ht (by decide) | decide | (intro z; simp only [List.mem_cons, List.not_mem_nil, or_false] at z <;> omega) | omega))
    have re250 : RE K H208 w b s1.toInt := RE.ref re206 hTH164 gw gb (fun k hk => MF.r mf215 (by omega) (by intro z; simp only [List.mem_cons, List.not_mem_nil, or_false] at z; omega)) (fun q t hq ht => x_lt hTH164 kH208 hq (by first | exact nmr ht (by decide) | exact nmo ht (by decide) | exact nme ht (by decide) | exact nmq ht (by decide) | decide | (intro z; simp only [List.mem_cons, List.not_mem_nil, or_false] at z <;> omega) | omega))
    refine lv_pop hx hb dL_law_769 rfl ?_
    refine lv_goto (tgt := 1509) hx hb dL_law_770 (by decide) ?_
    exact nx G H208 locsH208 _ _ ls ⟨hTH208, hN, ga, gb, g211, g212, g213, g214, ⟨(by rw [← m219, ← m240]; exact rt), (by rw [← m218, ← m234, ← m241]; omega), (by rw [← m218, ← m235, ← m242]; omega), (by rw [← m218, ← m236, ← ex210]; omega), (by rw [← m218, ← m237, ← m243]; omega), (by rw [← m218, ← m238, ← m244]; omega), (by rw [← m218, ← m239, ← m245]; omega)⟩, Or.inr ⟨kq, m221, gkq, (by rw [← m247]; exact h70), (by rw [← m222, ← m248, ← m223]; exact q1), (by rw [← m224, ← m248, ← m225]; exact q4), (by rw [← m226, ← m248, ← m227]; exact q5), (by rw [← m228, ← m248, ← m229]; exact q10), (by rw [← m230, ← m248, ← m231]; exact q13), (by rw [← m232, ← m248, ← m233]; exact q16), (by rw [← m248, ← m222]; exact RKI.cast rk249 (by omega)), (by rw [← m226]; omega), (by rw [← m226]; omega)⟩, (by unfold TB; rw [← m220, ← m246, ← m240]; exact TBR.of htr f216 f217 (by omega)), (by unfold RELE; rw [← m218, ← m241, ← m236]; exact ⟨RE.cast re250 (by omega), by omega, by omega⟩), hSH208⟩ hl ⟨hc, hs, fun h => by have h1 := h.symm.trans m221; cases h1⟩
set_option maxRecDepth 100000 in
set_option maxHeartbeats 8000000 in
theorem lw_c15 {p : Program} {l : Launch} {e : Env} {s : State} {m : MethodId} {below : List Frame} {meth : Method} {c : Code} {K : KE} {b0 L : Nat} {xs : Nat → Int32} {G : Nat → Option Nat} {H : Heap} {locs : List Loc} {a b : Nat} {cells slots : Nat} {ls : Array Slot} {i : Int32} {n : Nat} (D : LC p K s m meth c b0 L xs) (S : SX K s G H locs a b) (hl : lv_has ls 4 [(3, .int i), (2, .ref b), (1, .ref a), (0, .ref b0)]) (hi : 0 ≤ i.toInt ∧ i.toInt + 6 ≤ L) (hn : n ≤ 511) (hB : BD K H a cells slots) (nx : ∀ (G : Nat → Option Nat) (H : Heap) (locs : List Loc) (cells slots : Nat) (ls : Array Slot), SX K s G H locs a b → lv_has ls 4 [(3, .int i), (2, .ref b), (1, .ref a), (0, .ref b0)] → BD K H a cells slots → W p l e room_1 s m #[Value.ref b0] below meth c H locs cells slots (lw_Z below #[Value.ref b0] s) (F0 m 1509 ls [])) : W p l e room_1 s m #[Value.ref b0] below meth c H locs cells slots (lw_Z below #[Value.ref b0] s) (F0 m 773 ls []) := by
  have hI := hi
  obtain ⟨C, hX, hbl, hL⟩ := id D
  obtain ⟨hx, hb, hml, hown, hts, hKT, hr, hlocks, hnm⟩ := id C
  obtain ⟨hT, hN, ga, gb, cg, tu, wd, im, ⟨rt, r1, r4, r5, r10, r13, r16⟩, hk, htb, her, hS⟩ := S
  obtain ⟨hc, hs, hB0⟩ := hB
  have n_1 : (1 : Int32).toInt = 1 := rfl
  have n_2 : (2 : Int32).toInt = 2 := rfl
  obtain ⟨w, ew⟩ : ∃ z : Nat, z = fR H a (K.1.2 9 0) := ⟨_, rfl⟩
  have gw := ty_fr (q := w) (k := 0) (u := 0) ew hT ga rg_68 rfl
  rw [← ew] at r1 r4 r5 r10 r13 r16
  obtain ⟨ta, eta⟩ : ∃ z : Int32, z = fI H a (K.1.2 9 3) := ⟨_, rfl⟩
  rw [← eta] at rt
  obtain ⟨tb, etb⟩ : ∃ z : Int32, z = fI H b (K.1.2 10 18) := ⟨_, rfl⟩
  rw [← etb] at rt
  obtain ⟨s1, es1⟩ : ∃ z : Int32, z = fI H w (K.1.2 8 1) := ⟨_, rfl⟩
  rw [← es1] at r1
  obtain ⟨y1, ey1⟩ : ∃ z : Int32, z = fI H b (K.1.2 10 1) := ⟨_, rfl⟩
  rw [← ey1] at r1
  obtain ⟨s4, es4⟩ : ∃ z : Int32, z = fI H w (K.1.2 8 4) := ⟨_, rfl⟩
  rw [← es4] at r4
  obtain ⟨y4, ey4⟩ : ∃ z : Int32, z = fI H b (K.1.2 10 2) := ⟨_, rfl⟩
  rw [← ey4] at r4
  obtain ⟨s5, es5⟩ : ∃ z : Int32, z = fI H w (K.1.2 8 5) := ⟨_, rfl⟩
  rw [← es5] at r5
  obtain ⟨y5, ey5⟩ : ∃ z : Int32, z = fI H b (K.1.2 10 3) := ⟨_, rfl⟩
  rw [← ey5] at r5
  obtain ⟨s10, es10⟩ : ∃ z : Int32, z = fI H w (K.1.2 8 10) := ⟨_, rfl⟩
  rw [← es10] at r10
  obtain ⟨y10, ey10⟩ : ∃ z : Int32, z = fI H b (K.1.2 10 59) := ⟨_, rfl⟩
  rw [← ey10] at r10
  obtain ⟨s13, es13⟩ : ∃ z : Int32, z = fI H w (K.1.2 8 13) := ⟨_, rfl⟩
  rw [← es13] at r13
  obtain ⟨y13, ey13⟩ : ∃ z : Int32, z = fI H b (K.1.2 10 62) := ⟨_, rfl⟩
  rw [← ey13] at r13
  obtain ⟨s16, es16⟩ : ∃ z : Int32, z = fI H w (K.1.2 8 16) := ⟨_, rfl⟩
  rw [← es16] at r16
  obtain ⟨y16, ey16⟩ : ∃ z : Int32, z = fI H b (K.1.2 10 65) := ⟨_, rfl⟩
  rw [← ey16] at r16
  obtain ⟨tq, etq⟩ : ∃ z : Nat, z = fR H a (K.1.2 9 2) := ⟨_, rfl⟩
  have gtq := ty_fr (q := tq) (k := 2) (u := 108) etq hT ga rg_68 rfl
  obtain ⟨uq, euq⟩ : ∃ z : Nat, z = fR H b (K.1.2 10 17) := ⟨_, rfl⟩
  have guq := ty_fr (q := uq) (k := 17) (u := 126) euq hT gb rg_112 rfl
  have htr : TBR (fun j => fI H tq j) (fun j => fI H uq j) tb.toNatClampNeg := by rw [etq, euq, etb]; exact htb
  have ft0 : ∀ j : Nat, fI H tq j = fI H tq j := fun _ => rfl
  have fu0 : ∀ j : Nat, fI H uq j = fI H uq j := fun _ => rfl
  have bta := ty_fi (x := ta) (k := 3) eta hT ga rg_68 rfl
  have cta := i_cl (x := ta) (by omega)
  have btb := ty_fi (x := tb) (k := 18) etb hT gb rg_112 rfl
  have ctb := i_cl (x := tb) (by omega)
  obtain ⟨her0, hsl1, hsl2⟩ := her
  have hsl0 := And.intro hsl1 hsl2
  clear hsl1 hsl2
  rw [← ew] at her0 hsl0
  have re : RE K H w b s1.toInt := RE.cast her0 (by rw [← ey1]; exact r1)
  have hsl : 0 ≤ s5.toInt ∧ s5.toInt ≤ 9999 := by rw [es5]; exact hsl0
  clear her0 hsl0
  have bt_s1 := ty_fi (x := s1) (k := 1) es1 hT gw rg_0 rfl
  have bt_s4 := ty_fi (x := s4) (k := 4) es4 hT gw rg_0 rfl
  have bt_y1 := ty_fi (x := y1) (k := 1) ey1 hT gb rg_112 rfl
  have bt_y4 := ty_fi (x := y4) (k := 2) ey4 hT gb rg_112 rfl
  rcases hk with ⟨kn, h70⟩ | ⟨kq, kn, gkq, h70, q1, q4, q5, q10, q13, q16, rke, ks1, ks2⟩
  · skip
    obtain ⟨hi, ehi⟩ : ∃ z : Int32, z = fI H b (K.1.2 10 70) := ⟨_, rfl⟩
    rw [← ehi] at h70
    obtain ⟨hc0, hs0⟩ := hB0 kn
    obtain ⟨iq, eiq⟩ : ∃ z : Nat, z = fR H b (K.1.2 10 73) := ⟨_, rfl⟩
    have giq := ty_fr (q := iq) (k := 73) (u := 162) eiq hT gb rg_112 rfl
    refine lv_aload_n hx hb dL_law_773 rfl (lv_at hl 2 rfl) ?_
    refine lv_aload_n hx hb dL_law_774 rfl (lv_at hl 3 rfl) ?_
    refine lv_iload_n hx hb dL_law_775 rfl (lv_at hl 0 rfl) ?_
    refine lv_iconst (v := 1) hx hb dL_law_776 (by decide) ?_
    refine lv_iadd hx hb dL_law_777 ?_
    refine lv_topi (fun x101 ex101 => ?_)
    obtain ⟨tx101, ejx101, evx101⟩ := lw_ix (k := 1) ex101 hI hL rfl (by decide)
    clear tx101
    refine va_sld hx hb hX hbl (Nat.not_le.mpr hbl) hS (vp_in_iff.mpr evx101) dL_law_778 ?_
    refine W.eq (g2 := F0 m 779 ls [.int (xs (i.toNatClampNeg + 1)), .ref a]) (congrArg (fun z => F0 m 779 ls [.int (xs z), .ref a]) ejx101) ?_
    refine lv_aload_n hx hb dL_law_779 rfl (lv_at hl 3 rfl) ?_
    refine lv_iload_n hx hb dL_law_780 rfl (lv_at hl 0 rfl) ?_
    refine lv_iconst (v := 2) hx hb dL_law_781 (by decide) ?_
    refine lv_iadd hx hb dL_law_782 ?_
    refine lv_topi (fun x102 ex102 => ?_)
    obtain ⟨tx102, ejx102, evx102⟩ := lw_ix (k := 2) ex102 hI hL rfl (by decide)
    clear tx102
    refine va_sld hx hb hX hbl (Nat.not_le.mpr hbl) hS (vp_in_iff.mpr evx102) dL_law_783 ?_
    refine W.eq (g2 := F0 m 784 ls [.int (xs (i.toNatClampNeg + 2)), .int (xs (i.toNatClampNeg + 1)), .ref a]) (congrArg (fun z => F0 m 784 ls [.int (xs z), .int (xs (i.toNatClampNeg + 1)), .ref a]) ejx102) ?_
    refine x_V (As := [.int (xs (i.toNatClampNeg + 1)), .int (xs (i.toNatClampNeg + 2))]) (rest := []) C (a_X9_state l K G H ((xs (i.toNatClampNeg + 1))) ((xs (i.toNatClampNeg + 2))) hT ga) yo_X9_state wM_L_80 ⟨⟨by decide, by decide⟩, show _ ≤ 60000 from Nat.le_trans hc (by decide), show _ ≤ 8922250 from Nat.le_trans hs (by decide)⟩ (x_rv C hT (ci := 9) rfl ga rg_68) rfl hl.1 rfl (Nat.le_of_ble_eq_true rfl) dL_law_784 hS (AE_new hN hS.1) (fun vH103 H103 locsH103 pH103 zH103 kH103 hSH103 => ?_)
    obtain ⟨x104, hvH103, hTH103⟩ := pH103
    subst hvH103
    have g105 : CG (avw K H103 b) := CG.congr (fun k hk j => av_eff hT kH103 gb (by decide) (CG_eff [83, 84, 110] (by decide) k hk)) cg
    have g106 : TU (avw K H103 b) (svw K H103 b) := TU.congr (fun k hk j => av_eff hT kH103 gb (by decide) (TU_eff [83, 84, 110] (by decide) k hk)) (fun k hk => sv_eff hT kH103 gb (by decide)) tu
    have g107 : WD (avw K H103 b) := WD.congr (fun k hk j => av_eff hT kH103 gb (by decide) (WD_eff [83, 84, 110] (by decide) k hk)) wd
    have g108 : IM (avw K H103 b) := IM.congr (fun k hk j => av_eff hT kH103 gb (by decide) (IM_eff [83, 84, 110] (by decide) k hk)) im
    have f109 : ∀ j : Nat, fI H103 tq j = fI H tq j := fun j => (fI_kept (x_lt hT kH103 gtq (by decide))).trans (ft0 j)
    have f110 : ∀ j : Nat, fI H103 uq j = fI H uq j := fun j => (fI_kept (x_lt hT kH103 guq (by decide))).trans (fu0 j)
    have m111 := (ew).trans (fR_kept (x_lt hT kH103 ga (by decide))).symm
    have m112 := (eta).trans (fI_kept (x_lt hT kH103 ga (by decide))).symm
    have m113 := (etb).trans (fI_kept (x_lt hT kH103 gb (by decide))).symm
    have m114 := (es1).trans (fI_kept (x_lt hT kH103 gw (by decide))).symm
    have m115 := (ey1).trans (fI_kept (x_lt hT kH103 gb (by decide))).symm
    have m116 := (es4).trans (fI_kept (x_lt hT kH103 gw (by decide))).symm
    have m117 := (ey4).trans (fI_kept (x_lt hT kH103 gb (by decide))).symm
    have m118 := (es5).trans (fI_kept (x_lt hT kH103 gw (by decide))).symm
    have m119 := (ey5).trans (fI_kept (x_lt hT kH103 gb (by decide))).symm
    have m120 := (es10).trans (fI_kept (x_lt hT kH103 gw (by decide))).symm
    have m121 := (ey10).trans (fI_kept (x_lt hT kH103 gb (by decide))).symm
    have m122 := (es13).trans (fI_kept (x_lt hT kH103 gw (by decide))).symm
    have m123 := (ey13).trans (fI_kept (x_lt hT kH103 gb (by decide))).symm
    have m124 := (es16).trans (fI_kept (x_lt hT kH103 gw (by decide))).symm
    have m125 := (ey16).trans (fI_kept (x_lt hT kH103 gb (by decide))).symm
    have m126 := (etq).trans (fR_kept (x_lt hT kH103 ga (by decide))).symm
    have m127 := (euq).trans (fR_kept (x_lt hT kH103 gb (by decide))).symm
    have m128 := (ehi).trans (fI_kept (x_lt hT kH103 gb (by decide))).symm
    have m129 := (fV_kept (x_lt hT kH103 ga (by decide))).trans kn
    have m130 := (eiq).trans (fR_kept (x_lt hT kH103 gb (by decide))).symm
    refine W.eq (g2 := F0 m 787 ls [.int x104]) rfl ?_
    have re131 : RE K H103 w b s1.toInt := RE.cls re hT gw gb (fun q t hq ht => x_lt hT kH103 hq (by first | exact nmr ht (by decide) | exact nmo ht (by decide) | exact nme ht (by decide) | exact nmq ht (by decide) | decide | (intro z; simp only [List.mem_cons, List.not_mem_nil, or_false] at z <;> omega) | omega))
    refine lv_pop hx hb dL_law_787 rfl ?_
    refine lv_aload_n hx hb dL_law_788 rfl (lv_at hl 1 rfl) ?_
    refine lv_aload_n hx hb dL_law_789 rfl (lv_at hl 3 rfl) ?_
    refine lv_iload_n hx hb dL_law_790 rfl (lv_at hl 0 rfl) ?_
    refine lv_iconst (v := 1) hx hb dL_law_791 (by decide) ?_
    refine lv_iadd hx hb dL_law_792 ?_
    refine lv_topi (fun x132 ex132 => ?_)
    obtain ⟨tx132, ejx132, evx132⟩ := lw_ix (k := 1) ex132 hI hL rfl (by decide)
    clear tx132
    refine va_sld hx hb hX hbl (Nat.not_le.mpr hbl) hSH103 (vp_in_iff.mpr evx132) dL_law_793 ?_
    refine W.eq (g2 := F0 m 794 ls [.int (xs (i.toNatClampNeg + 1)), .ref b]) (congrArg (fun z => F0 m 794 ls [.int (xs z), .ref b]) ejx132) ?_
    refine lv_aload_n hx hb dL_law_794 rfl (lv_at hl 3 rfl) ?_
    refine lv_iload_n hx hb dL_law_795 rfl (lv_at hl 0 rfl) ?_
    refine lv_iconst (v := 2) hx hb dL_law_796 (by decide) ?_
    refine lv_iadd hx hb dL_law_797 ?_
    refine lv_topi (fun x133 ex133 => ?_)
    obtain ⟨tx133, ejx133, evx133⟩ := lw_ix (k := 2) ex133 hI hL rfl (by decide)
    clear tx133
    refine va_sld hx hb hX hbl (Nat.not_le.mpr hbl) hSH103 (vp_in_iff.mpr evx133) dL_law_798 ?_
    refine W.eq (g2 := F0 m 799 ls [.int (xs (i.toNatClampNeg + 2)), .int (xs (i.toNatClampNeg + 1)), .ref b]) (congrArg (fun z => F0 m 799 ls [.int (xs z), .int (xs (i.toNatClampNeg + 1)), .ref b]) ejx133) ?_
    refine x_V (As := [.int (xs (i.toNatClampNeg + 1)), .int (xs (i.toNatClampNeg + 2))]) (rest := []) C (a_X10_state l K G H103 ((xs (i.toNatClampNeg + 1))) ((xs (i.toNatClampNeg + 2))) hTH103 gb g105 g106 g107 g108) yo_X10_state wM_L_83 ⟨⟨by decide, by decide⟩, show _ ≤ 60000 from Nat.le_trans hc (by decide), show _ ≤ 8922250 from Nat.le_trans hs (by decide)⟩ (x_rv C hTH103 (ci := 10) rfl gb rg_112) rfl hl.1 rfl (Nat.le_of_ble_eq_true rfl) dL_law_799 hSH103 (AE_new hN hSH103.1) (fun vH134 H134 locsH134 pH134 zH134 kH134 hSH134 => ?_)
    obtain ⟨x135, hvH134, g136, g137, g138, g139, mf140, hTH134⟩ := pH134
    subst hvH134
    have f141 : ∀ j : Nat, fI H134 tq j = fI H tq j := fun j => (fI_kept (x_lt hTH103 kH134 gtq (by decide))).trans (f109 j)
    have f142 : ∀ j : Nat, fI H134 uq j = fI H uq j := fun j => (fI_kept (x_lt hTH103 kH134 guq (by decide))).trans (f110 j)
    have m143 := (m111).trans (fR_kept (x_lt hTH103 kH134 ga (by decide))).symm
    have m144 := (m112).trans (fI_kept (x_lt hTH103 kH134 ga (by decide))).symm
    have m145 := (m114).trans (fI_kept (x_lt hTH103 kH134 gw (by decide))).symm
    have m146 := (m116).trans (fI_kept (x_lt hTH103 kH134 gw (by decide))).symm
    have m147 := (m118).trans (fI_kept (x_lt hTH103 kH134 gw (by decide))).symm
    have m148 := (m120).trans (fI_kept (x_lt hTH103 kH134 gw (by decide))).symm
    have m149 := (m122).trans (fI_kept (x_lt hTH103 kH134 gw (by decide))).symm
    have m150 := (m124).trans (fI_kept (x_lt hTH103 kH134 gw (by decide))).symm
    have m151 := (m126).trans (fR_kept (x_lt hTH103 kH134 ga (by decide))).symm
    have m152 := (fV_kept (x_lt hTH103 kH134 ga (by decide))).trans m129
    have m153 := (m113).trans (MF.i mf140 (k := 18) (by decide) (by decide)).symm
    have m154 := (m115).trans (MF.i mf140 (k := 1) (by decide) (by decide)).symm
    have m155 := (m117).trans (MF.i mf140 (k := 2) (by decide) (by decide)).symm
    have m156 := (m119).trans (MF.i mf140 (k := 3) (by decide) (by decide)).symm
    have m157 := (m121).trans (MF.i mf140 (k := 59) (by decide) (by decide)).symm
    have m158 := (m123).trans (MF.i mf140 (k := 62) (by decide) (by decide)).symm
    have m159 := (m125).trans (MF.i mf140 (k := 65) (by decide) (by decide)).symm
    have m160 := (m127).trans (MF.r mf140 (k := 17) (by decide) (by decide)).symm
    have m161 := (m128).trans (MF.i mf140 (k := 70) (by decide) (by decide)).symm
    have m162 := (m130).trans (MF.r mf140 (k := 73) (by decide) (by decide)).symm
    refine W.eq (g2 := F0 m 802 ls [.int x135]) rfl ?_
    have re163 : RE K H134 w b s1.toInt := RE.ref re131 hTH103 gw gb (fun k hk => MF.r mf140 (by omega) (by intro z; simp only [List.mem_cons, List.not_mem_nil, or_false] at z; omega)) (fun q t hq ht => x_lt hTH103 kH134 hq (by first | exact nmr ht (by decide) | exact nmo ht (by decide) | exact nme ht (by decide) | exact nmq ht (by decide) | decide | (intro z; simp only [List.mem_cons, List.not_mem_nil, or_false] at z <;> omega) | omega))
    refine lv_pop hx hb dL_law_802 rfl ?_
    refine lv_goto (tgt := 1509) hx hb dL_law_803 (by decide) ?_
    exact nx G H134 locsH134 _ _ ls ⟨hTH134, hN, ga, gb, g136, g137, g138, g139, ⟨(by rw [← m144, ← m153]; exact rt), (by rw [← m143, ← m145, ← m154]; exact r1), (by rw [← m143, ← m146, ← m155]; exact r4), (by rw [← m143, ← m147, ← m156]; exact r5), (by rw [← m143, ← m148, ← m157]; exact r10), (by rw [← m143, ← m149, ← m158]; exact r13), (by rw [← m143, ← m150, ← m159]; exact r16)⟩, Or.inl ⟨m152, (by rw [← m161]; exact h70)⟩, (by unfold TB; rw [← m151, ← m160, ← m153]; exact TBR.of htr f141 f142 (by omega)), (by unfold RELE; rw [← m143, ← m154, ← m147]; exact ⟨RE.cast re163 (by omega), by omega, by omega⟩), hSH134⟩ hl ⟨hc, hs, fun _ => ⟨hc0, hs0⟩⟩
  · skip
    obtain ⟨hi, ehi⟩ : ∃ z : Int32, z = fI H b (K.1.2 10 70) := ⟨_, rfl⟩
    rw [← ehi] at h70
    obtain ⟨iq, eiq⟩ : ∃ z : Nat, z = fR H b (K.1.2 10 73) := ⟨_, rfl⟩
    have giq := ty_fr (q := iq) (k := 73) (u := 162) eiq hT gb rg_112 rfl
    rw [← eiq] at q1 q4 q5 q10 q13 q16
    obtain ⟨k1, ek1⟩ : ∃ z : Int32, z = fI H kq (K.1.2 8 1) := ⟨_, rfl⟩
    rw [← ek1] at q1
    obtain ⟨i1, ei1⟩ : ∃ z : Int32, z = fI H iq ((0 : Int32).toNatClampNeg) := ⟨_, rfl⟩
    rw [← ei1] at q1
    obtain ⟨k4, ek4⟩ : ∃ z : Int32, z = fI H kq (K.1.2 8 4) := ⟨_, rfl⟩
    rw [← ek4] at q4
    obtain ⟨i4, ei4⟩ : ∃ z : Int32, z = fI H iq ((1 : Int32).toNatClampNeg) := ⟨_, rfl⟩
    rw [← ei4] at q4
    obtain ⟨k5, ek5⟩ : ∃ z : Int32, z = fI H kq (K.1.2 8 5) := ⟨_, rfl⟩
    rw [← ek5] at q5
    obtain ⟨i5, ei5⟩ : ∃ z : Int32, z = fI H iq ((2 : Int32).toNatClampNeg) := ⟨_, rfl⟩
    rw [← ei5] at q5
    obtain ⟨k10, ek10⟩ : ∃ z : Int32, z = fI H kq (K.1.2 8 10) := ⟨_, rfl⟩
    rw [← ek10] at q10
    obtain ⟨i10, ei10⟩ : ∃ z : Int32, z = fI H iq ((3 : Int32).toNatClampNeg) := ⟨_, rfl⟩
    rw [← ei10] at q10
    obtain ⟨k13, ek13⟩ : ∃ z : Int32, z = fI H kq (K.1.2 8 13) := ⟨_, rfl⟩
    rw [← ek13] at q13
    obtain ⟨i13, ei13⟩ : ∃ z : Int32, z = fI H iq ((4 : Int32).toNatClampNeg) := ⟨_, rfl⟩
    rw [← ei13] at q13
    obtain ⟨k16, ek16⟩ : ∃ z : Int32, z = fI H kq (K.1.2 8 16) := ⟨_, rfl⟩
    rw [← ek16] at q16
    obtain ⟨i16, ei16⟩ : ∃ z : Int32, z = fI H iq ((5 : Int32).toNatClampNeg) := ⟨_, rfl⟩
    rw [← ei16] at q16
    rw [← eiq, ← ek1] at rke
    have hsk : 0 ≤ k5.toInt ∧ k5.toInt ≤ 9999 := by rw [ek5]; exact ⟨ks1, ks2⟩
    refine lv_aload_n hx hb dL_law_773 rfl (lv_at hl 2 rfl) ?_
    refine lv_aload_n hx hb dL_law_774 rfl (lv_at hl 3 rfl) ?_
    refine lv_iload_n hx hb dL_law_775 rfl (lv_at hl 0 rfl) ?_
    refine lv_iconst (v := 1) hx hb dL_law_776 (by decide) ?_
    refine lv_iadd hx hb dL_law_777 ?_
    refine lv_topi (fun x164 ex164 => ?_)
    obtain ⟨tx164, ejx164, evx164⟩ := lw_ix (k := 1) ex164 hI hL rfl (by decide)
    clear tx164
    refine va_sld hx hb hX hbl (Nat.not_le.mpr hbl) hS (vp_in_iff.mpr evx164) dL_law_778 ?_
    refine W.eq (g2 := F0 m 779 ls [.int (xs (i.toNatClampNeg + 1)), .ref a]) (congrArg (fun z => F0 m 779 ls [.int (xs z), .ref a]) ejx164) ?_
    refine lv_aload_n hx hb dL_law_779 rfl (lv_at hl 3 rfl) ?_
    refine lv_iload_n hx hb dL_law_780 rfl (lv_at hl 0 rfl) ?_
    refine lv_iconst (v := 2) hx hb dL_law_781 (by decide) ?_
    refine lv_iadd hx hb dL_law_782 ?_
    refine lv_topi (fun x165 ex165 => ?_)
    obtain ⟨tx165, ejx165, evx165⟩ := lw_ix (k := 2) ex165 hI hL rfl (by decide)
    clear tx165
    refine va_sld hx hb hX hbl (Nat.not_le.mpr hbl) hS (vp_in_iff.mpr evx165) dL_law_783 ?_
    refine W.eq (g2 := F0 m 784 ls [.int (xs (i.toNatClampNeg + 2)), .int (xs (i.toNatClampNeg + 1)), .ref a]) (congrArg (fun z => F0 m 784 ls [.int (xs z), .int (xs (i.toNatClampNeg + 1)), .ref a]) ejx165) ?_
    refine x_V (As := [.int (xs (i.toNatClampNeg + 1)), .int (xs (i.toNatClampNeg + 2))]) (rest := []) C (a_X9_state l K G H ((xs (i.toNatClampNeg + 1))) ((xs (i.toNatClampNeg + 2))) hT ga) yo_X9_state wM_L_80 ⟨⟨by decide, by decide⟩, show _ ≤ 60000 from Nat.le_trans hc (by decide), show _ ≤ 8922250 from Nat.le_trans hs (by decide)⟩ (x_rv C hT (ci := 9) rfl ga rg_68) rfl hl.1 rfl (Nat.le_of_ble_eq_true rfl) dL_law_784 hS (AE_new hN hS.1) (fun vH166 H166 locsH166 pH166 zH166 kH166 hSH166 => ?_)
    obtain ⟨x167, hvH166, hTH166⟩ := pH166
    subst hvH166
    have g168 : CG (avw K H166 b) := CG.congr (fun k hk j => av_eff hT kH166 gb (by decide) (CG_eff [83, 84, 110] (by decide) k hk)) cg
    have g169 : TU (avw K H166 b) (svw K H166 b) := TU.congr (fun k hk j => av_eff hT kH166 gb (by decide) (TU_eff [83, 84, 110] (by decide) k hk)) (fun k hk => sv_eff hT kH166 gb (by decide)) tu
    have g170 : WD (avw K H166 b) := WD.congr (fun k hk j => av_eff hT kH166 gb (by decide) (WD_eff [83, 84, 110] (by decide) k hk)) wd
    have g171 : IM (avw K H166 b) := IM.congr (fun k hk j => av_eff hT kH166 gb (by decide) (IM_eff [83, 84, 110] (by decide) k hk)) im
    have f172 : ∀ j : Nat, fI H166 tq j = fI H tq j := fun j => (fI_kept (x_lt hT kH166 gtq (by decide))).trans (ft0 j)
    have f173 : ∀ j : Nat, fI H166 uq j = fI H uq j := fun j => (fI_kept (x_lt hT kH166 guq (by decide))).trans (fu0 j)
    have m174 := (ew).trans (fR_kept (x_lt hT kH166 ga (by decide))).symm
    have m175 := (eta).trans (fI_kept (x_lt hT kH166 ga (by decide))).symm
    have m176 := (etb).trans (fI_kept (x_lt hT kH166 gb (by decide))).symm
    have m177 := (es1).trans (fI_kept (x_lt hT kH166 gw (by decide))).symm
    have m178 := (ey1).trans (fI_kept (x_lt hT kH166 gb (by decide))).symm
    have m179 := (es4).trans (fI_kept (x_lt hT kH166 gw (by decide))).symm
    have m180 := (ey4).trans (fI_kept (x_lt hT kH166 gb (by decide))).symm
    have m181 := (es5).trans (fI_kept (x_lt hT kH166 gw (by decide))).symm
    have m182 := (ey5).trans (fI_kept (x_lt hT kH166 gb (by decide))).symm
    have m183 := (es10).trans (fI_kept (x_lt hT kH166 gw (by decide))).symm
    have m184 := (ey10).trans (fI_kept (x_lt hT kH166 gb (by decide))).symm
    have m185 := (es13).trans (fI_kept (x_lt hT kH166 gw (by decide))).symm
    have m186 := (ey13).trans (fI_kept (x_lt hT kH166 gb (by decide))).symm
    have m187 := (es16).trans (fI_kept (x_lt hT kH166 gw (by decide))).symm
    have m188 := (ey16).trans (fI_kept (x_lt hT kH166 gb (by decide))).symm
    have m189 := (etq).trans (fR_kept (x_lt hT kH166 ga (by decide))).symm
    have m190 := (euq).trans (fR_kept (x_lt hT kH166 gb (by decide))).symm
    have m191 := (ehi).trans (fI_kept (x_lt hT kH166 gb (by decide))).symm
    have m192 := (fV_kept (x_lt hT kH166 ga (by decide))).trans kn
    have m193 := (eiq).trans (fR_kept (x_lt hT kH166 gb (by decide))).symm
    have m194 := (ek1).trans (fI_kept (x_lt hT kH166 gkq (by decide))).symm
    have m195 := (ei1).trans (fI_kept (x_lt hT kH166 giq (by decide))).symm
    have m196 := (ek4).trans (fI_kept (x_lt hT kH166 gkq (by decide))).symm
    have m197 := (ei4).trans (fI_kept (x_lt hT kH166 giq (by decide))).symm
    have m198 := (ek5).trans (fI_kept (x_lt hT kH166 gkq (by decide))).symm
    have m199 := (ei5).trans (fI_kept (x_lt hT kH166 giq (by decide))).symm
    have m200 := (ek10).trans (fI_kept (x_lt hT kH166 gkq (by decide))).symm
    have m201 := (ei10).trans (fI_kept (x_lt hT kH166 giq (by decide))).symm
    have m202 := (ek13).trans (fI_kept (x_lt hT kH166 gkq (by decide))).symm
    have m203 := (ei13).trans (fI_kept (x_lt hT kH166 giq (by decide))).symm
    have m204 := (ek16).trans (fI_kept (x_lt hT kH166 gkq (by decide))).symm
    have m205 := (ei16).trans (fI_kept (x_lt hT kH166 giq (by decide))).symm
    refine W.eq (g2 := F0 m 787 ls [.int x167]) rfl ?_
    have rk206 : RKI K H166 kq iq k1.toInt := RKI.kept rke hT gkq (x_lt hT kH166 giq (by first | exact nmr ht (by decide) | exact nmo ht (by decide) | exact nme ht (by decide) | exact nmq ht (by decide) | decide | (intro z; simp only [List.mem_cons, List.not_mem_nil, or_false] at z <;> omega) | omega)) (fun q t hq ht => x_lt hT kH166 hq (by first | exact nmr ht (by decide) | exact nmo ht (by decide) | exact nme ht (by decide) | exact nmq ht (by decide) | decide | (intro z; simp only [List.mem_cons, List.not_mem_nil, or_false] at z <;> omega) | omega))
    have re207 : RE K H166 w b s1.toInt := RE.cls re hT gw gb (fun q t hq ht => x_lt hT kH166 hq (by first | exact nmr ht (by decide) | exact nmo ht (by decide) | exact nme ht (by decide) | exact nmq ht (by decide) | decide | (intro z; simp only [List.mem_cons, List.not_mem_nil, or_false] at z <;> omega) | omega))
    refine lv_pop hx hb dL_law_787 rfl ?_
    refine lv_aload_n hx hb dL_law_788 rfl (lv_at hl 1 rfl) ?_
    refine lv_aload_n hx hb dL_law_789 rfl (lv_at hl 3 rfl) ?_
    refine lv_iload_n hx hb dL_law_790 rfl (lv_at hl 0 rfl) ?_
    refine lv_iconst (v := 1) hx hb dL_law_791 (by decide) ?_
    refine lv_iadd hx hb dL_law_792 ?_
    refine lv_topi (fun x208 ex208 => ?_)
    obtain ⟨tx208, ejx208, evx208⟩ := lw_ix (k := 1) ex208 hI hL rfl (by decide)
    clear tx208
    refine va_sld hx hb hX hbl (Nat.not_le.mpr hbl) hSH166 (vp_in_iff.mpr evx208) dL_law_793 ?_
    refine W.eq (g2 := F0 m 794 ls [.int (xs (i.toNatClampNeg + 1)), .ref b]) (congrArg (fun z => F0 m 794 ls [.int (xs z), .ref b]) ejx208) ?_
    refine lv_aload_n hx hb dL_law_794 rfl (lv_at hl 3 rfl) ?_
    refine lv_iload_n hx hb dL_law_795 rfl (lv_at hl 0 rfl) ?_
    refine lv_iconst (v := 2) hx hb dL_law_796 (by decide) ?_
    refine lv_iadd hx hb dL_law_797 ?_
    refine lv_topi (fun x209 ex209 => ?_)
    obtain ⟨tx209, ejx209, evx209⟩ := lw_ix (k := 2) ex209 hI hL rfl (by decide)
    clear tx209
    refine va_sld hx hb hX hbl (Nat.not_le.mpr hbl) hSH166 (vp_in_iff.mpr evx209) dL_law_798 ?_
    refine W.eq (g2 := F0 m 799 ls [.int (xs (i.toNatClampNeg + 2)), .int (xs (i.toNatClampNeg + 1)), .ref b]) (congrArg (fun z => F0 m 799 ls [.int (xs z), .int (xs (i.toNatClampNeg + 1)), .ref b]) ejx209) ?_
    refine x_V (As := [.int (xs (i.toNatClampNeg + 1)), .int (xs (i.toNatClampNeg + 2))]) (rest := []) C (a_X10_state l K G H166 ((xs (i.toNatClampNeg + 1))) ((xs (i.toNatClampNeg + 2))) hTH166 gb g168 g169 g170 g171) yo_X10_state wM_L_83 ⟨⟨by decide, by decide⟩, show _ ≤ 60000 from Nat.le_trans hc (by decide), show _ ≤ 8922250 from Nat.le_trans hs (by decide)⟩ (x_rv C hTH166 (ci := 10) rfl gb rg_112) rfl hl.1 rfl (Nat.le_of_ble_eq_true rfl) dL_law_799 hSH166 (AE_new hN hSH166.1) (fun vH210 H210 locsH210 pH210 zH210 kH210 hSH210 => ?_)
    obtain ⟨x211, hvH210, g212, g213, g214, g215, mf216, hTH210⟩ := pH210
    subst hvH210
    have f217 : ∀ j : Nat, fI H210 tq j = fI H tq j := fun j => (fI_kept (x_lt hTH166 kH210 gtq (by decide))).trans (f172 j)
    have f218 : ∀ j : Nat, fI H210 uq j = fI H uq j := fun j => (fI_kept (x_lt hTH166 kH210 guq (by decide))).trans (f173 j)
    have m219 := (m174).trans (fR_kept (x_lt hTH166 kH210 ga (by decide))).symm
    have m220 := (m175).trans (fI_kept (x_lt hTH166 kH210 ga (by decide))).symm
    have m221 := (m177).trans (fI_kept (x_lt hTH166 kH210 gw (by decide))).symm
    have m222 := (m179).trans (fI_kept (x_lt hTH166 kH210 gw (by decide))).symm
    have m223 := (m181).trans (fI_kept (x_lt hTH166 kH210 gw (by decide))).symm
    have m224 := (m183).trans (fI_kept (x_lt hTH166 kH210 gw (by decide))).symm
    have m225 := (m185).trans (fI_kept (x_lt hTH166 kH210 gw (by decide))).symm
    have m226 := (m187).trans (fI_kept (x_lt hTH166 kH210 gw (by decide))).symm
    have m227 := (m189).trans (fR_kept (x_lt hTH166 kH210 ga (by decide))).symm
    have m228 := (fV_kept (x_lt hTH166 kH210 ga (by decide))).trans m192
    have m229 := (m194).trans (fI_kept (x_lt hTH166 kH210 gkq (by decide))).symm
    have m230 := (m195).trans (fI_kept (x_lt hTH166 kH210 giq (by decide))).symm
    have m231 := (m196).trans (fI_kept (x_lt hTH166 kH210 gkq (by decide))).symm
    have m232 := (m197).trans (fI_kept (x_lt hTH166 kH210 giq (by decide))).symm
    have m233 := (m198).trans (fI_kept (x_lt hTH166 kH210 gkq (by decide))).symm
    have m234 := (m199).trans (fI_kept (x_lt hTH166 kH210 giq (by decide))).symm
    have m235 := (m200).trans (fI_kept (x_lt hTH166 kH210 gkq (by decide))).symm
    have m236 := (m201).trans (fI_kept (x_lt hTH166 kH210 giq (by decide))).symm
    have m237 := (m202).trans (fI_kept (x_lt hTH166 kH210 gkq (by decide))).symm
    have m238 := (m203).trans (fI_kept (x_lt hTH166 kH210 giq (by decide))).symm
    have m239 := (m204).trans (fI_kept (x_lt hTH166 kH210 gkq (by decide))).symm
    have m240 := (m205).trans (fI_kept (x_lt hTH166 kH210 giq (by decide))).symm
    have m241 := (m176).trans (MF.i mf216 (k := 18) (by decide) (by decide)).symm
    have m242 := (m178).trans (MF.i mf216 (k := 1) (by decide) (by decide)).symm
    have m243 := (m180).trans (MF.i mf216 (k := 2) (by decide) (by decide)).symm
    have m244 := (m182).trans (MF.i mf216 (k := 3) (by decide) (by decide)).symm
    have m245 := (m184).trans (MF.i mf216 (k := 59) (by decide) (by decide)).symm
    have m246 := (m186).trans (MF.i mf216 (k := 62) (by decide) (by decide)).symm
    have m247 := (m188).trans (MF.i mf216 (k := 65) (by decide) (by decide)).symm
    have m248 := (m190).trans (MF.r mf216 (k := 17) (by decide) (by decide)).symm
    have m249 := (m191).trans (MF.i mf216 (k := 70) (by decide) (by decide)).symm
    have m250 := (m193).trans (MF.r mf216 (k := 73) (by decide) (by decide)).symm
    refine W.eq (g2 := F0 m 802 ls [.int x211]) rfl ?_
    have rk251 : RKI K H210 kq iq k1.toInt := RKI.kept rk206 hTH166 gkq (x_lt hTH166 kH210 giq (by first | exact nmr ht (by decide) | exact nmo ht (by decide) | exact nme ht (by decide) | exact nmq ht (by decide) | decide | (intro z; simp only [List.mem_cons, List.not_mem_nil, or_false] at z <;> omega) | omega)) (fun q t hq ht => x_lt hTH166 kH210 hq (by first | exact nmr ht (by decide) | exact nmo ht (by decide) | exact nme ht (by decide) | exact nmq ht (by decide) | decide | (intro z; simp only [List.mem_cons, List.not_mem_nil, or_false] at z <;> omega) | omega))
    have re252 : RE K H210 w b s1.toInt := RE.ref re207 hTH166 gw gb (fun k hk => MF.r mf216 (by omega) (by intro z; simp only [List.mem_cons, List.not_mem_nil, or_false] at z; omega)) (fun q t hq ht => x_lt hTH166 kH210 hq (by first | exact nmr ht (by decide) | exact nmo ht (by decide) | exact nme ht (by decide) | exact nmq ht (by decide) | decide | (intro z; simp only [List.mem_cons, List.not_mem_nil, or_false] at z <;> omega) | omega))
    refine lv_pop hx hb dL_law_802 rfl ?_
    refine lv_goto (tgt := 1509) hx hb dL_law_803 (by decide) ?_
    exact nx G H210 locsH210 _ _ ls ⟨hTH210, hN, ga, gb, g212, g213, g214, g215, ⟨(by rw [← m220, ← m241]; exact rt), (by rw [← m219, ← m221, ← m242]; exact r1), (by rw [← m219, ← m222, ← m243]; exact r4), (by rw [← m219, ← m223, ← m244]; exact r5), (by rw [← m219, ← m224, ← m245]; exact r10), (by rw [← m219, ← m225, ← m246]; exact r13), (by rw [← m219, ← m226, ← m247]; exact r16)⟩, Or.inr ⟨kq, m228, gkq, (by rw [← m249]; exact h70), (by rw [← m229, ← m250, ← m230]; exact q1), (by rw [← m231, ← m250, ← m232]; exact q4), (by rw [← m233, ← m250, ← m234]; exact q5), (by rw [← m235, ← m250, ← m236]; exact q10), (by rw [← m237, ← m250, ← m238]; exact q13), (by rw [← m239, ← m250, ← m240]; exact q16), (by rw [← m250, ← m229]; exact RKI.cast rk251 (by omega)), (by rw [← m233]; omega), (by rw [← m233]; omega)⟩, (by unfold TB; rw [← m227, ← m248, ← m241]; exact TBR.of htr f217 f218 (by omega)), (by unfold RELE; rw [← m219, ← m242, ← m223]; exact ⟨RE.cast re252 (by omega), by omega, by omega⟩), hSH210⟩ hl ⟨hc, hs, fun h => by have h1 := h.symm.trans m228; cases h1⟩