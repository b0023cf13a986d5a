set_option maxRecDepth 100000 in
set_option maxHeartbeats 8000000 in
theorem lw_c8 {p : Program} {l : Launch} {e : Env} {s : State} {m : MethodId} {below : List Frame} {meth : Method} {c : Code} {K : KE} {b0 L : Nat} {xs : Nat → Int32} {G : Nat → Option Nat} {H : Heap} {locs : List Loc} {a b : Nat} {cells slots : Nat} {ls : Array Slot} {i : Int32} {n : Nat} (D : LC p K s m meth c b0 L xs) (S : SX K s G H locs a b) (hl : lv_has ls 4 [(3, .int i), (2, .ref b), (1, .ref a), (0, .ref b0)]) (hi : 0 ≤ i.toInt ∧ i.toInt + 6 ≤ L) (hn : n ≤ 511) (hB : BD K H a cells slots) (nx : ∀ (G : Nat → Option Nat) (H : Heap) (locs : List Loc) (cells slots : Nat) (ls : Array Slot), SX K s G H locs a b → lv_has ls 4 [(3, .int i), (2, .ref b), (1, .ref a), (0, .ref b0)] → BD K H a cells slots → W p l e room_1 s m #[Value.ref b0] below meth c H locs cells slots (lw_Z below #[Value.ref b0] s) (F0 m 1509 ls [])) : W p l e room_1 s m #[Value.ref b0] below meth c H locs cells slots (lw_Z below #[Value.ref b0] s) (F0 m 502 ls []) := by
  have hI := hi
  obtain ⟨C, hX, hbl, hL⟩ := id D
  obtain ⟨hx, hb, hml, hown, hts, hKT, hr, hlocks, hnm⟩ := id C
  obtain ⟨hT, hN, ga, gb, cg, tu, wd, im, ⟨rt, r1, r4, r5, r10, r13, r16⟩, hk, htb, her, hS⟩ := S
  obtain ⟨hc, hs, hB0⟩ := hB
  have n_1 : (1 : Int32).toInt = 1 := rfl
  obtain ⟨w, ew⟩ : ∃ z : Nat, z = fR H a (K.1.2 9 0) := ⟨_, rfl⟩
  have gw := ty_fr (q := w) (k := 0) (u := 0) ew hT ga rg_68 rfl
  rw [← ew] at r1 r4 r5 r10 r13 r16
  obtain ⟨ta, eta⟩ : ∃ z : Int32, z = fI H a (K.1.2 9 3) := ⟨_, rfl⟩
  rw [← eta] at rt
  obtain ⟨tb, etb⟩ : ∃ z : Int32, z = fI H b (K.1.2 10 18) := ⟨_, rfl⟩
  rw [← etb] at rt
  obtain ⟨s1, es1⟩ : ∃ z : Int32, z = fI H w (K.1.2 8 1) := ⟨_, rfl⟩
  rw [← es1] at r1
  obtain ⟨y1, ey1⟩ : ∃ z : Int32, z = fI H b (K.1.2 10 1) := ⟨_, rfl⟩
  rw [← ey1] at r1
  obtain ⟨s4, es4⟩ : ∃ z : Int32, z = fI H w (K.1.2 8 4) := ⟨_, rfl⟩
  rw [← es4] at r4
  obtain ⟨y4, ey4⟩ : ∃ z : Int32, z = fI H b (K.1.2 10 2) := ⟨_, rfl⟩
  rw [← ey4] at r4
  obtain ⟨s5, es5⟩ : ∃ z : Int32, z = fI H w (K.1.2 8 5) := ⟨_, rfl⟩
  rw [← es5] at r5
  obtain ⟨y5, ey5⟩ : ∃ z : Int32, z = fI H b (K.1.2 10 3) := ⟨_, rfl⟩
  rw [← ey5] at r5
  obtain ⟨s10, es10⟩ : ∃ z : Int32, z = fI H w (K.1.2 8 10) := ⟨_, rfl⟩
  rw [← es10] at r10
  obtain ⟨y10, ey10⟩ : ∃ z : Int32, z = fI H b (K.1.2 10 59) := ⟨_, rfl⟩
  rw [← ey10] at r10
  obtain ⟨s13, es13⟩ : ∃ z : Int32, z = fI H w (K.1.2 8 13) := ⟨_, rfl⟩
  rw [← es13] at r13
  obtain ⟨y13, ey13⟩ : ∃ z : Int32, z = fI H b (K.1.2 10 62) := ⟨_, rfl⟩
  rw [← ey13] at r13
  obtain ⟨s16, es16⟩ : ∃ z : Int32, z = fI H w (K.1.2 8 16) := ⟨_, rfl⟩
  rw [← es16] at r16
  obtain ⟨y16, ey16⟩ : ∃ z : Int32, z = fI H b (K.1.2 10 65) := ⟨_, rfl⟩
  rw [← ey16] at r16
  obtain ⟨tq, etq⟩ : ∃ z : Nat, z = fR H a (K.1.2 9 2) := ⟨_, rfl⟩
  have gtq := ty_fr (q := tq) (k := 2) (u := 108) etq hT ga rg_68 rfl
  obtain ⟨uq, euq⟩ : ∃ z : Nat, z = fR H b (K.1.2 10 17) := ⟨_, rfl⟩
  have guq := ty_fr (q := uq) (k := 17) (u := 126) euq hT gb rg_112 rfl
  have htr : TBR (fun j => fI H tq j) (fun j => fI H uq j) tb.toNatClampNeg := by rw [etq, euq, etb]; exact htb
  have ft0 : ∀ j : Nat, fI H tq j = fI H tq j := fun _ => rfl
  have fu0 : ∀ j : Nat, fI H uq j = fI H uq j := fun _ => rfl
  have bta := ty_fi (x := ta) (k := 3) eta hT ga rg_68 rfl
  have cta := i_cl (x := ta) (by omega)
  have btb := ty_fi (x := tb) (k := 18) etb hT gb rg_112 rfl
  have ctb := i_cl (x := tb) (by omega)
  obtain ⟨her0, hsl1, hsl2⟩ := her
  have hsl0 := And.intro hsl1 hsl2
  clear hsl1 hsl2
  rw [← ew] at her0 hsl0
  have re : RE K H w b s1.toInt := RE.cast her0 (by rw [← ey1]; exact r1)
  have hsl : 0 ≤ s5.toInt ∧ s5.toInt ≤ 9999 := by rw [es5]; exact hsl0
  clear her0 hsl0
  have bt_s1 := ty_fi (x := s1) (k := 1) es1 hT gw rg_0 rfl
  have bt_s4 := ty_fi (x := s4) (k := 4) es4 hT gw rg_0 rfl
  have bt_y1 := ty_fi (x := y1) (k := 1) ey1 hT gb rg_112 rfl
  have bt_y4 := ty_fi (x := y4) (k := 2) ey4 hT gb rg_112 rfl
  rcases hk with ⟨kn, h70⟩ | ⟨kq, kn, gkq, h70, q1, q4, q5, q10, q13, q16, rke, ks1, ks2⟩
  · skip
    obtain ⟨hi, ehi⟩ : ∃ z : Int32, z = fI H b (K.1.2 10 70) := ⟨_, rfl⟩
    rw [← ehi] at h70
    obtain ⟨hc0, hs0⟩ := hB0 kn
    obtain ⟨iq, eiq⟩ : ∃ z : Nat, z = fR H b (K.1.2 10 73) := ⟨_, rfl⟩
    have giq := ty_fr (q := iq) (k := 73) (u := 162) eiq hT gb rg_112 rfl
    refine lv_aload_n hx hb dL_law_502 rfl (lv_at hl 2 rfl) ?_
    refine lv_aload_n hx hb dL_law_503 rfl (lv_at hl 3 rfl) ?_
    refine lv_iload_n hx hb dL_law_504 rfl (lv_at hl 0 rfl) ?_
    refine lv_iconst (v := 1) hx hb dL_law_505 (by decide) ?_
    refine lv_iadd hx hb dL_law_506 ?_
    refine lv_topi (fun x101 ex101 => ?_)
    obtain ⟨tx101, ejx101, evx101⟩ := lw_ix (k := 1) ex101 hI hL rfl (by decide)
    clear tx101
    refine va_sld hx hb hX hbl (Nat.not_le.mpr hbl) hS (vp_in_iff.mpr evx101) dL_law_507 ?_
    refine W.eq (g2 := F0 m 508 ls [.int (xs (i.toNatClampNeg + 1)), .ref a]) (congrArg (fun z => F0 m 508 ls [.int (xs z), .ref a]) ejx101) ?_
    refine x_V (As := [.int (xs (i.toNatClampNeg + 1))]) (rest := []) C (a_X9_force_w l K G H ((xs (i.toNatClampNeg + 1))) (s1) (s4) (s5) (s10) (s13) (s16) hT ga gw ew es1 es4 es5 es10 es13 es16) yo_X9_force wM_L_52 ⟨⟨by decide, by decide⟩, show _ ≤ 60000 from Nat.le_trans hc (by decide), show _ ≤ 8922250 from Nat.le_trans hs (by decide)⟩ (x_rv C hT (ci := 9) rfl ga rg_68) rfl hl.1 rfl (Nat.le_of_ble_eq_true rfl) dL_law_508 hS (AE_new hN hS.1) (fun vH102 H102 locsH102 pH102 zH102 kH102 hSH102 => ?_)
    obtain ⟨x103, x104, x105, x106, x107, x108, x109, hvH102, ex104, ex105, ex106, ex107, ex108, ex109, hrH102, m110, hTH102⟩ := pH102
    subst hvH102
    have g111 : CG (avw K H102 b) := CG.congr (fun k hk j => av_eff hT kH102 gb (by decide) (CG_eff [0] (by decide) k hk)) cg
    have g112 : TU (avw K H102 b) (svw K H102 b) := TU.congr (fun k hk j => av_eff hT kH102 gb (by decide) (TU_eff [0] (by decide) k hk)) (fun k hk => sv_eff hT kH102 gb (by decide)) tu
    have g113 : WD (avw K H102 b) := WD.congr (fun k hk j => av_eff hT kH102 gb (by decide) (WD_eff [0] (by decide) k hk)) wd
    have g114 : IM (avw K H102 b) := IM.congr (fun k hk j => av_eff hT kH102 gb (by decide) (IM_eff [0] (by decide) k hk)) im
    have f115 : ∀ j : Nat, fI H102 tq j = fI H tq j := fun j => (fI_kept (x_lt hT kH102 gtq (by decide))).trans (ft0 j)
    have f116 : ∀ j : Nat, fI H102 uq j = fI H uq j := fun j => (fI_kept (x_lt hT kH102 guq (by decide))).trans (fu0 j)
    have m117 := (ew).trans (fR_kept (x_lt hT kH102 ga (by decide))).symm
    have m118 := (eta).trans (fI_kept (x_lt hT kH102 ga (by decide))).symm
    have m119 := (etb).trans (fI_kept (x_lt hT kH102 gb (by decide))).symm
    have m120 := (ey1).trans (fI_kept (x_lt hT kH102 gb (by decide))).symm
    have m121 := (ey4).trans (fI_kept (x_lt hT kH102 gb (by decide))).symm
    have m122 := (ey5).trans (fI_kept (x_lt hT kH102 gb (by decide))).symm
    have m123 := (ey10).trans (fI_kept (x_lt hT kH102 gb (by decide))).symm
    have m124 := (ey13).trans (fI_kept (x_lt hT kH102 gb (by decide))).symm
    have m125 := (ey16).trans (fI_kept (x_lt hT kH102 gb (by decide))).symm
    have m126 := (etq).trans (fR_kept (x_lt hT kH102 ga (by decide))).symm
    have m127 := (euq).trans (fR_kept (x_lt hT kH102 gb (by decide))).symm
    have m128 := (ehi).trans (fI_kept (x_lt hT kH102 gb (by decide))).symm
    have m129 := (fV_kept (x_lt hT kH102 ga (by decide))).trans kn
    have m130 := (eiq).trans (fR_kept (x_lt hT kH102 gb (by decide))).symm
    have bx104 := ty_fi (x := x104) (k := 1) ex104 hTH102 gw rg_0 rfl
    have bx105 := ty_fi (x := x105) (k := 4) ex105 hTH102 gw rg_0 rfl
    have bx106 := ty_fi (x := x106) (k := 5) ex106 hTH102 gw rg_0 rfl
    have bx107 := ty_fi (x := x107) (k := 10) ex107 hTH102 gw rg_0 rfl
    have bx108 := ty_fi (x := x108) (k := 13) ex108 hTH102 gw rg_0 rfl
    have bx109 := ty_fi (x := x109) (k := 16) ex109 hTH102 gw rg_0 rfl
    refine W.eq (g2 := F0 m 511 ls [.int x103]) rfl ?_
    have re131 : RE K H102 w b s1.toInt := RE.now re hT gw gb m110 (fun q t hq ht => x_lt hT kH102 hq (by first | exact nmr ht (by decide) | exact nmo ht (by decide) | exact nme ht (by decide) | exact nmq ht (by decide) | decide | (intro z; simp only [List.mem_cons, List.not_mem_nil, or_false] at z <;> omega) | omega))
    refine lv_pop hx hb dL_law_511 rfl ?_
    refine lv_aload_n hx hb dL_law_512 rfl (lv_at hl 1 rfl) ?_
    refine lv_aload_n hx hb dL_law_513 rfl (lv_at hl 3 rfl) ?_
    refine lv_iload_n hx hb dL_law_514 rfl (lv_at hl 0 rfl) ?_
    refine lv_iconst (v := 1) hx hb dL_law_515 (by decide) ?_
    refine lv_iadd hx hb dL_law_516 ?_
    refine lv_topi (fun x132 ex132 => ?_)
    obtain ⟨tx132, ejx132, evx132⟩ := lw_ix (k := 1) ex132 hI hL rfl (by decide)
    clear tx132
    refine va_sld hx hb hX hbl (Nat.not_le.mpr hbl) hSH102 (vp_in_iff.mpr evx132) dL_law_517 ?_
    refine W.eq (g2 := F0 m 518 ls [.int (xs (i.toNatClampNeg + 1)), .ref b]) (congrArg (fun z => F0 m 518 ls [.int (xs z), .ref b]) ejx132) ?_
    refine x_V (As := [.int (xs (i.toNatClampNeg + 1))]) (rest := []) C (a_X10_force_r l K G H102 ((xs (i.toNatClampNeg + 1))) (y4) hTH102 gb m121 g111 g112 g113 g114) yo_X10_force wM_L_55 ⟨⟨by decide, by decide⟩, show _ ≤ 60000 from Nat.le_trans hc (by decide), show _ ≤ 8922250 from Nat.le_trans hs (by decide)⟩ (x_rv C hTH102 (ci := 10) rfl gb rg_112) rfl hl.1 rfl (Nat.le_of_ble_eq_true rfl) dL_law_518 hSH102 (AE_new hN hSH102.1) (fun vH133 H133 locsH133 pH133 zH133 kH133 hSH133 => ?_)
    obtain ⟨x134, x135, hvH133, ex135, hrH133, g136, g137, g138, g139, mf140, hTH133⟩ := pH133
    subst hvH133
    have f141 : ∀ j : Nat, fI H133 tq j = fI H tq j := fun j => (fI_kept (x_lt hTH102 kH133 gtq (by decide))).trans (f115 j)
    have f142 : ∀ j : Nat, fI H133 uq j = fI H uq j := fun j => (fI_kept (x_lt hTH102 kH133 guq (by decide))).trans (f116 j)
    have m143 := (m117).trans (fR_kept (x_lt hTH102 kH133 ga (by decide))).symm
    have m144 := (m118).trans (fI_kept (x_lt hTH102 kH133 ga (by decide))).symm
    have m145 := (m126).trans (fR_kept (x_lt hTH102 kH133 ga (by decide))).symm
    have m146 := (fV_kept (x_lt hTH102 kH133 ga (by decide))).trans m129
    have m147 := (ex104).trans (fI_kept (x_lt hTH102 kH133 gw (by decide))).symm
    have m148 := (ex105).trans (fI_kept (x_lt hTH102 kH133 gw (by decide))).symm
    have m149 := (ex106).trans (fI_kept (x_lt hTH102 kH133 gw (by decide))).symm
    have m150 := (ex107).trans (fI_kept (x_lt hTH102 kH133 gw (by decide))).symm
    have m151 := (ex108).trans (fI_kept (x_lt hTH102 kH133 gw (by decide))).symm
    have m152 := (ex109).trans (fI_kept (x_lt hTH102 kH133 gw (by decide))).symm
    have m153 := (m119).trans (MF.i mf140 (k := 18) (by decide) (by decide)).symm
    have m154 := (m120).trans (MF.i mf140 (k := 1) (by decide) (by decide)).symm
    have m155 := (m122).trans (MF.i mf140 (k := 3) (by decide) (by decide)).symm
    have m156 := (m123).trans (MF.i mf140 (k := 59) (by decide) (by decide)).symm
    have m157 := (m124).trans (MF.i mf140 (k := 62) (by decide) (by decide)).symm
    have m158 := (m125).trans (MF.i mf140 (k := 65) (by decide) (by decide)).symm
    have m159 := (m127).trans (MF.r mf140 (k := 17) (by decide) (by decide)).symm
    have m160 := (m128).trans (MF.i mf140 (k := 70) (by decide) (by decide)).symm
    have m161 := (m130).trans (MF.r mf140 (k := 73) (by decide) (by decide)).symm
    have bx135 := ty_fi (x := x135) (k := 2) ex135 hTH133 gb rg_112 rfl
    refine W.eq (g2 := F0 m 521 ls [.int x134]) rfl ?_
    have re162 : RE K H133 w b s1.toInt := RE.ref re131 hTH102 gw gb (fun k hk => MF.r mf140 (by omega) (by intro z; simp only [List.mem_cons, List.not_mem_nil, or_false] at z; omega)) (fun q t hq ht => x_lt hTH102 kH133 hq (by first | exact nmr ht (by decide) | exact nmo ht (by decide) | exact nme ht (by decide) | exact nmq ht (by decide) | decide | (intro z; simp only [List.mem_cons, List.not_mem_nil, or_false] at z <;> omega) | omega))
    refine lv_pop hx hb dL_law_521 rfl ?_
    refine lv_goto (tgt := 1509) hx hb dL_law_522 (by decide) ?_
    exact nx G H133 locsH133 _ _ ls ⟨hTH133, hN, ga, gb, g136, g137, g138, g139, ⟨(by rw [← m144, ← m153]; exact rt), (by rw [← m143, ← m147, ← m154]; omega), (by rw [← m143, ← m148, ← ex135]; omega), (by rw [← m143, ← m149, ← m155]; omega), (by rw [← m143, ← m150, ← m156]; omega), (by rw [← m143, ← m151, ← m157]; omega), (by rw [← m143, ← m152, ← m158]; omega)⟩, Or.inl ⟨m146, (by rw [← m160]; exact h70)⟩, (by unfold TB; rw [← m145, ← m159, ← m153]; exact TBR.of htr f141 f142 (by omega)), (by unfold RELE; rw [← m143, ← m154, ← m149]; exact ⟨RE.cast re162 (by omega), by omega, by omega⟩), hSH133⟩ hl ⟨hc, hs, fun _ => ⟨hc0, hs0⟩⟩
  · skip
    obtain ⟨hi, ehi⟩ : ∃ z : Int32, z = fI H b (K.1.2 10 70) := ⟨_, rfl⟩
    rw [← ehi] at h70
    obtain ⟨iq, eiq⟩ : ∃ z : Nat, z = fR H b (K.1.2 10 73) := ⟨_, rfl⟩
    have giq := ty_fr (q := iq) (k := 73) (u := 162) eiq hT gb rg_112 rfl
    rw [← eiq] at q1 q4 q5 q10 q13 q16
    obtain ⟨k1, ek1⟩ : ∃ z : Int32, z = fI H kq (K.1.2 8 1) := ⟨_, rfl⟩
    rw [← ek1] at q1
    obtain ⟨i1, ei1⟩ : ∃ z : Int32, z = fI H iq ((0 : Int32).toNatClampNeg) := ⟨_, rfl⟩
    rw [← ei1] at q1
    obtain ⟨k4, ek4⟩ : ∃ z : Int32, z = fI H kq (K.1.2 8 4) := ⟨_, rfl⟩
    rw [← ek4] at q4
    obtain ⟨i4, ei4⟩ : ∃ z : Int32, z = fI H iq ((1 : Int32).toNatClampNeg) := ⟨_, rfl⟩
    rw [← ei4] at q4
    obtain ⟨k5, ek5⟩ : ∃ z : Int32, z = fI H kq (K.1.2 8 5) := ⟨_, rfl⟩
    rw [← ek5] at q5
    obtain ⟨i5, ei5⟩ : ∃ z : Int32, z = fI H iq ((2 : Int32).toNatClampNeg) := ⟨_, rfl⟩
    rw [← ei5] at q5
    obtain ⟨k10, ek10⟩ : ∃ z : Int32, z = fI H kq (K.1.2 8 10) := ⟨_, rfl⟩
    rw [← ek10] at q10
    obtain ⟨i10, ei10⟩ : ∃ z : Int32, z = fI H iq ((3 : Int32).toNatClampNeg) := ⟨_, rfl⟩
    rw [← ei10] at q10
    obtain ⟨k13, ek13⟩ : ∃ z : Int32, z = fI H kq (K.1.2 8 13) := ⟨_, rfl⟩
    rw [← ek13] at q13
    obtain ⟨i13, ei13⟩ : ∃ z : Int32, z = fI H iq ((4 : Int32).toNatClampNeg) := ⟨_, rfl⟩
    rw [← ei13] at q13
    obtain ⟨k16, ek16⟩ : ∃ z : Int32, z = fI H kq (K.1.2 8 16) := ⟨_, rfl⟩
    rw [← ek16] at q16
    obtain ⟨i16, ei16⟩ : ∃ z : Int32, z = fI H iq ((5 : Int32).toNatClampNeg) := ⟨_, rfl⟩
    rw [← ei16] at q16
    rw [← eiq, ← ek1] at rke
    have hsk : 0 ≤ k5.toInt ∧ k5.toInt ≤ 9999 := by rw [ek5]; exact ⟨ks1, ks2⟩
    refine lv_aload_n hx hb dL_law_502 rfl (lv_at hl 2 rfl) ?_
    refine lv_aload_n hx hb dL_law_503 rfl (lv_at hl 3 rfl) ?_
    refine lv_iload_n hx hb dL_law_504 rfl (lv_at hl 0 rfl) ?_
    refine lv_iconst (v := 1) hx hb dL_law_505 (by decide) ?_
    refine lv_iadd hx hb dL_law_506 ?_
    refine lv_topi (fun x163 ex163 => ?_)
    obtain ⟨tx163, ejx163, evx163⟩ := lw_ix (k := 1) ex163 hI hL rfl (by decide)
    clear tx163
    refine va_sld hx hb hX hbl (Nat.not_le.mpr hbl) hS (vp_in_iff.mpr evx163) dL_law_507 ?_
    refine W.eq (g2 := F0 m 508 ls [.int (xs (i.toNatClampNeg + 1)), .ref a]) (congrArg (fun z => F0 m 508 ls [.int (xs z), .ref a]) ejx163) ?_
    refine x_V (As := [.int (xs (i.toNatClampNeg + 1))]) (rest := []) C (a_X9_force_w l K G H ((xs (i.toNatClampNeg + 1))) (s1) (s4) (s5) (s10) (s13) (s16) hT ga gw ew es1 es4 es5 es10 es13 es16) yo_X9_force wM_L_52 ⟨⟨by decide, by decide⟩, show _ ≤ 60000 from Nat.le_trans hc (by decide), show _ ≤ 8922250 from Nat.le_trans hs (by decide)⟩ (x_rv C hT (ci := 9) rfl ga rg_68) rfl hl.1 rfl (Nat.le_of_ble_eq_true rfl) dL_law_508 hS (AE_new hN hS.1) (fun vH164 H164 locsH164 pH164 zH164 kH164 hSH164 => ?_)
    obtain ⟨x165, x166, x167, x168, x169, x170, x171, hvH164, ex166, ex167, ex168, ex169, ex170, ex171, hrH164, m172, hTH164⟩ := pH164
    subst hvH164
    have g173 : CG (avw K H164 b) := CG.congr (fun k hk j => av_eff hT kH164 gb (by decide) (CG_eff [0] (by decide) k hk)) cg
    have g174 : TU (avw K H164 b) (svw K H164 b) := TU.congr (fun k hk j => av_eff hT kH164 gb (by decide) (TU_eff [0] (by decide) k hk)) (fun k hk => sv_eff hT kH164 gb (by decide)) tu
    have g175 : WD (avw K H164 b) := WD.congr (fun k hk j => av_eff hT kH164 gb (by decide) (WD_eff [0] (by decide) k hk)) wd
    have g176 : IM (avw K H164 b) := IM.congr (fun k hk j => av_eff hT kH164 gb (by decide) (IM_eff [0] (by decide) k hk)) im
    have f177 : ∀ j : Nat, fI H164 tq j = fI H tq j := fun j => (fI_kept (x_lt hT kH164 gtq (by decide))).trans (ft0 j)
    have f178 : ∀ j : Nat, fI H164 uq j = fI H uq j := fun j => (fI_kept (x_lt hT kH164 guq (by decide))).trans (fu0 j)
    have m179 := (ew).trans (fR_kept (x_lt hT kH164 ga (by decide))).symm
    have m180 := (eta).trans (fI_kept (x_lt hT kH164 ga (by decide))).symm
    have m181 := (etb).trans (fI_kept (x_lt hT kH164 gb (by decide))).symm
    have m182 := (ey1).trans (fI_kept (x_lt hT kH164 gb (by decide))).symm
    have m183 := (ey4).trans (fI_kept (x_lt hT kH164 gb (by decide))).symm
    have m184 := (ey5).trans (fI_kept (x_lt hT kH164 gb (by decide))).symm
    have m185 := (ey10).trans (fI_kept (x_lt hT kH164 gb (by decide))).symm
    have m186 := (ey13).trans (fI_kept (x_lt hT kH164 gb (by decide))).symm
    have m187 := (ey16).trans (fI_kept (x_lt hT kH164 gb (by decide))).symm
    have m188 := (etq).trans (fR_kept (x_lt hT kH164 ga (by decide))).symm
    have m189 := (euq).trans (fR_kept (x_lt hT kH164 gb (by decide))).symm
    have m190 := (ehi).trans (fI_kept (x_lt hT kH164 gb (by decide))).symm
    have m191 := (fV_kept (x_lt hT kH164 ga (by decide))).trans kn
    have m192 := (eiq).trans (fR_kept (x_lt hT kH164 gb (by decide))).symm
    have m193 := (ek1).trans (fI_kept (x_lt hT kH164 gkq (by decide))).symm
    have m194 := (ei1).trans (fI_kept (x_lt hT kH164 giq (by decide))).symm
    have m195 := (ek4).trans (fI_kept (x_lt hT kH164 gkq (by decide))).symm
    have m196 := (ei4).trans (fI_kept (x_lt hT kH164 giq (by decide))).symm
    have m197 := (ek5).trans (fI_kept (x_lt hT kH164 gkq (by decide))).symm
    have m198 := (ei5).trans (fI_kept (x_lt hT kH164 giq (by decide))).symm
    have m199 := (ek10).trans (fI_kept (x_lt hT kH164 gkq (by decide))).symm
    have m200 := (ei10).trans (fI_kept (x_lt hT kH164 giq (by decide))).symm
    have m201 := (ek13).trans (fI_kept (x_lt hT kH164 gkq (by decide))).symm
    have m202 := (ei13).trans (fI_kept (x_lt hT kH164 giq (by decide))).symm
    have m203 := (ek16).trans (fI_kept (x_lt hT kH164 gkq (by decide))).symm
    have m204 := (ei16).trans (fI_kept (x_lt hT kH164 giq (by decide))).symm
    have bx166 := ty_fi (x := x166) (k := 1) ex166 hTH164 gw rg_0 rfl
    have bx167 := ty_fi (x := x167) (k := 4) ex167 hTH164 gw rg_0 rfl
    have bx168 := ty_fi (x := x168) (k := 5) ex168 hTH164 gw rg_0 rfl
    have bx169 := ty_fi (x := x169) (k := 10) ex169 hTH164 gw rg_0 rfl
    have bx170 := ty_fi (x := x170) (k := 13) ex170 hTH164 gw rg_0 rfl
    have bx171 := ty_fi (x := x171) (k := 16) ex171 hTH164 gw rg_0 rfl
    refine W.eq (g2 := F0 m 511 ls [.int x165]) rfl ?_
    have rk205 : RKI K H164 kq iq k1.toInt := RKI.kept rke hT gkq (x_lt hT kH164 giq (by first | exact nmr ht (by decide) | exact nmo ht (by decide) | exact nme ht (by decide) | exact nmq ht (by decide) | decide | (intro z; simp only [List.mem_cons, List.not_mem_nil, or_false] at z <;> omega) | omega)) (fun q t hq ht => x_lt hT kH164 hq (by first | exact nmr ht (by decide) | exact nmo ht (by decide) | exact nme ht (by decide) | exact nmq ht (by decide) | decide | (intro z; simp only [List.mem_cons, List.not_mem_nil, or_false] at z <;> omega) | omega))
    have re206 : RE K H164 w b s1.toInt := RE.now re hT gw gb m172 (fun q t hq ht => x_lt hT kH164 hq (by first | exact nmr ht (by decide) | exact nmo ht (by decide) | exact nme ht (by decide) | exact nmq ht (by decide) | decide | (intro z; simp only [List.mem_cons, List.not_mem_nil, or_false] at z <;> omega) | omega))
    refine lv_pop hx hb dL_law_511 rfl ?_
    refine lv_aload_n hx hb dL_law_512 rfl (lv_at hl 1 rfl) ?_
    refine lv_aload_n hx hb dL_law_513 rfl (lv_at hl 3 rfl) ?_
    refine lv_iload_n hx hb dL_law_514 rfl (lv_at hl 0 rfl) ?_
    refine lv_iconst (v := 1) hx hb dL_law_515 (by decide) ?_
    refine lv_iadd hx hb dL_law_516 ?_
    refine lv_topi (fun x207 ex207 => ?_)
    obtain ⟨tx207, ejx207, evx207⟩ := lw_ix (k := 1) ex207 hI hL rfl (by decide)
    clear tx207
    refine va_sld hx hb hX hbl (Nat.not_le.mpr hbl) hSH164 (vp_in_iff.mpr evx207) dL_law_517 ?_
    refine W.eq (g2 := F0 m 518 ls [.int (xs (i.toNatClampNeg + 1)), .ref b]) (congrArg (fun z => F0 m 518 ls [.int (xs z), .ref b]) ejx207) ?_
    refine x_V (As := [.int (xs (i.toNatClampNeg + 1))]) (rest := []) C (a_X10_force_r l K G H164 ((xs (i.toNatClampNeg + 1))) (y4) hTH164 gb m183 g173 g174 g175 g176) yo_X10_force wM_L_55 ⟨⟨by decide, by decide⟩, show _ ≤ 60000 from Nat.le_trans hc (by decide), show _ ≤ 8922250 from Nat.le_trans hs (by decide)⟩ (x_rv C hTH164 (ci := 10) rfl gb rg_112) rfl hl.1 rfl (Nat.le_of_ble_eq_true rfl) dL_law_518 hSH164 (AE_new hN hSH164.1) (fun vH208 H208 locsH208 pH208 zH208 kH208 hSH208 => ?_)
    obtain ⟨x209, x210, hvH208, ex210, hrH208, g211, g212, g213, g214, mf215, hTH208⟩ := pH208
    subst hvH208
    have f216 : ∀ j : Nat, fI H208 tq j = fI H tq j := fun j => (fI_kept (x_lt hTH164 kH208 gtq (by decide))).trans (f177 j)
    have f217 : ∀ j : Nat, fI H208 uq j = fI H uq j := fun j => (fI_kept (x_lt hTH164 kH208 guq (by decide))).trans (f178 j)
    have m218 := (m179).trans (fR_kept (x_lt hTH164 kH208 ga (by decide))).symm
    have m219 := (m180).trans (fI_kept (x_lt hTH164 kH208 ga (by decide))).symm
    have m220 := (m188).trans (fR_kept (x_lt hTH164 kH208 ga (by decide))).symm
    have m221 := (fV_kept (x_lt hTH164 kH208 ga (by decide))).trans m191
    have m222 := (m193).trans (fI_kept (x_lt hTH164 kH208 gkq (by decide))).symm
    have m223 := (m194).trans (fI_kept (x_lt hTH164 kH208 giq (by decide))).symm
    have m224 := (m195).trans (fI_kept (x_lt hTH164 kH208 gkq (by decide))).symm
    have m225 := (m196).trans (fI_kept (x_lt hTH164 kH208 giq (by decide))).symm
    have m226 := (m197).trans (fI_kept (x_lt hTH164 kH208 gkq (by decide))).symm
    have m227 := (m198).trans (fI_kept (x_lt hTH164 kH208 giq (by decide))).symm
    have m228 := (m199).trans (fI_kept (x_lt hTH164 kH208 gkq (by decide))).symm
    have m229 := (m200).trans (fI_kept (x_lt hTH164 kH208 giq (by decide))).symm
    have m230 := (m201).trans (fI_kept (x_lt hTH164 kH208 gkq (by decide))).symm
    have m231 := (m202).trans (fI_kept (x_lt hTH164 kH208 giq (by decide))).symm
    have m232 := (m203).trans (fI_kept (x_lt hTH164 kH208 gkq (by decide))).symm
    have m233 := (m204).trans (fI_kept (x_lt hTH164 kH208 giq (by decide))).symm
    have m234 := (ex166).trans (fI_kept (x_lt hTH164 kH208 gw (by decide))).symm
    have m235 := (ex167).trans (fI_kept (x_lt hTH164 kH208 gw (by decide))).symm
    have m236 := (ex168).trans (fI_kept (x_lt hTH164 kH208 gw (by decide))).symm
    have m237 := (ex169).trans (fI_kept (x_lt hTH164 kH208 gw (by decide))).symm
    have m238 := (ex170).trans (fI_kept (x_lt hTH164 kH208 gw (by decide))).symm
    have m239 := (ex171).trans (fI_kept (x_lt hTH164 kH208 gw (by decide))).symm
    have m240 := (m181).trans (MF.i mf215 (k := 18) (by decide) (by decide)).symm
    have m241 := (m182).trans (MF.i mf215 (k := 1) (by decide) (by decide)).symm
    have m242 := (m184).trans (MF.i mf215 (k := 3) (by decide) (by decide)).symm
    have m243 := (m185).trans (MF.i mf215 (k := 59) (by decide) (by decide)).symm
    have m244 := (m186).trans (MF.i mf215 (k := 62) (by decide) (by decide)).symm
    have m245 := (m187).trans (MF.i mf215 (k := 65) (by decide) (by decide)).symm
    have m246 := (m189).trans (MF.r mf215 (k := 17) (by decide) (by decide)).symm
    have m247 := (m190).trans (MF.i mf215 (k := 70) (by decide) (by decide)).symm
    have m248 := (m192).trans (MF.r mf215 (k := 73) (by decide) (by decide)).symm
    have bx210 := ty_fi (x := x210) (k := 2) ex210 hTH208 gb rg_112 rfl
    refine W.eq (g2 := F0 m 521 ls [.int x209]) rfl ?_
    have rk249 : RKI K H208 kq iq k1.toInt := RKI.kept rk205 hTH164 gkq (x_lt hTH164 kH208 giq (by first | exact nmr ht (by decide) | exact nmo ht (by decide) | exact nme ht (by decide) | exact nmq ht (by decide) | decide | (intro z; simp only [List.mem_cons, List.not_mem_nil, or_false] at z <;> omega) | omega)) (fun q t hq ht => x_lt hTH164 kH208 hq (by first | exact nmr ht (by decide) | exact nmo ht (by decide) | exact nme ht (by decide) | exact nmq ht (by decide) | decide | (intro z; simp only [List.mem_cons, List.not_mem_nil, or_false] at z <;> omega) | omega))
    have re250 : RE K H208 w b s1.toInt := RE.ref re206 hTH164 gw gb (fun k hk => MF.r mf215 (by omega) (by intro z; simp only [List.mem_cons, List.not_mem_nil, or_false] at z; omega)) (fun q t hq ht => x_lt hTH164 kH208 hq (by first | exact nmr ht (by decide) | exact nmo ht (by decide) | exact nme ht (by decide) | exact nmq ht (by decide) | decide | (intro z; simp only [List.mem_cons, List.not_mem_nil, or_false] at z <;> omega) | omega))
    refine lv_pop hx hb dL_law_521 rfl ?_
    refine lv_goto (tgt := 1509) hx hb dL_law_522 (by decide) ?_
    exact nx G H208 locsH208 _ _ ls ⟨hTH208, hN, ga, gb, g211, g212, g213, g214, ⟨(by rw [← m219, ← m240]; exact rt), (by rw [← m218, ← m234, ← m241]; omega), (by rw [← m218, ← m235, ← ex210]; omega), (by rw [← m218, ← m236, ← m242]; omega), (by rw [← m218, ← m237, ← m243]; omega), (by rw [← m218, ← m238, ← m244]; omega), (by rw [← m218, ← m239, ← m245]; omega)⟩, Or.inr ⟨kq, m221, gkq, (by rw [← m247]; exact h70), (by rw [← m222, ← m248, ← m223]; exact q1), (by rw [← m224, ← m248, ← m225]; exact q4), (by rw [← m226, ← m248, ← m227]; exact q5), (by rw [← m228, ← m248, ← m229]; exact q10), (by rw [← m230, ← m248, ← m231]; exact q13), (by rw [← m232, ← m248, ← m233]; exact q16), (by rw [← m248, ← m222]; exact RKI.cast rk249 (by omega)), (by rw [← m226]; omega), (by rw [← m226]; omega)⟩, (by unfold TB; rw [← m220, ← m246, ← m240]; exact TBR.of htr f216 f217 (by omega)), (by unfold RELE; rw [← m218, ← m241, ← m236]; exact ⟨RE.cast re250 (by omega), by omega, by omega⟩), hSH208⟩ hl ⟨hc, hs, fun h => by have h1 := h.symm.trans m221; cases h1⟩
set_option maxRecDepth 100000 in
set_option maxHeartbeats 8000000 in
theorem lw_c9 {p : Program} {l : Launch} {e : Env} {s : State} {m : MethodId} {below : List Frame} {meth : Method} {c : Code} {K : KE} {b0 L : Nat} {xs : Nat → Int32} {G : Nat → Option Nat} {H : Heap} {locs : List Loc} {a b : Nat} {cells slots : Nat} {ls : Array Slot} {i : Int32} {n : Nat} (D : LC p K s m meth c b0 L xs) (S : SX K s G H locs a b) (hl : lv_has ls 4 [(3, .int i), (2, .ref b), (1, .ref a), (0, .ref b0)]) (hi : 0 ≤ i.toInt ∧ i.toInt + 6 ≤ L) (hn : n ≤ 511) (hB : BD K H a cells slots) (nx : ∀ (G : Nat → Option Nat) (H : Heap) (locs : List Loc) (cells slots : Nat) (ls : Array Slot), SX K s G H locs a b → lv_has ls 4 [(3, .int i), (2, .ref b), (1, .ref a), (0, .ref b0)] → BD K H a cells slots → W p l e room_1 s m #[Value.ref b0] below meth c H locs cells slots (lw_Z below #[Value.ref b0] s) (F0 m 1509 ls [])) : W p l e room_1 s m #[Value.ref b0] below meth c H locs cells slots (lw_Z below #[Value.ref b0] s) (F0 m 525 ls []) := by
  have hI := hi
  obtain ⟨C, hX, hbl, hL⟩ := id D
  obtain ⟨hx, hb, hml, hown, hts, hKT, hr, hlocks, hnm⟩ := id C
  obtain ⟨hT, hN, ga, gb, cg, tu, wd, im, ⟨rt, r1, r4, r5, r10, r13, r16⟩, hk, htb, her, hS⟩ := S
  obtain ⟨hc, hs, hB0⟩ := hB
  have n_1 : (1 : Int32).toInt = 1 := rfl
  have n_2 : (2 : Int32).toInt = 2 := rfl
  have n_3 : (3 : Int32).toInt = 3 := rfl
  have n_4 : (4 : Int32).toInt = 4 := rfl
  have n_5 : (5 : Int32).toInt = 5 := rfl
  obtain ⟨w, ew⟩ : ∃ z : Nat, z = fR H a (K.1.2 9 0) := ⟨_, rfl⟩
  have gw := ty_fr (q := w) (k := 0) (u := 0) ew hT ga rg_68 rfl
  rw [← ew] at r1 r4 r5 r10 r13 r16
  obtain ⟨ta, eta⟩ : ∃ z : Int32, z = fI H a (K.1.2 9 3) := ⟨_, rfl⟩
  rw [← eta] at rt
  obtain ⟨tb, etb⟩ : ∃ z : Int32, z = fI H b (K.1.2 10 18) := ⟨_, rfl⟩
  rw [← etb] at rt
  obtain ⟨s1, es1⟩ : ∃ z : Int32, z = fI H w (K.1.2 8 1) := ⟨_, rfl⟩
  rw [← es1] at r1
  obtain ⟨y1, ey1⟩ : ∃ z : Int32, z = fI H b (K.1.2 10 1) := ⟨_, rfl⟩
  rw [← ey1] at r1
  obtain ⟨s4, es4⟩ : ∃ z : Int32, z = fI H w (K.1.2 8 4) := ⟨_, rfl⟩
  rw [← es4] at r4
  obtain ⟨y4, ey4⟩ : ∃ z : Int32, z = fI H b (K.1.2 10 2) := ⟨_, rfl⟩
  rw [← ey4] at r4
  obtain ⟨s5, es5⟩ : ∃ z : Int32, z = fI H w (K.1.2 8 5) := ⟨_, rfl⟩
  rw [← es5] at r5
  obtain ⟨y5, ey5⟩ : ∃ z : Int32, z = fI H b (K.1.2 10 3) := ⟨_, rfl⟩
  rw [← ey5] at r5
  obtain ⟨s10, es10⟩ : ∃ z : Int32, z = fI H w (K.1.2 8 10) := ⟨_, rfl⟩
  rw [← es10] at r10
  obtain ⟨y10, ey10⟩ : ∃ z : Int32, z = fI H b (K.1.2 10 59) := ⟨_, rfl⟩
  rw [← ey10] at r10
  obtain ⟨s13, es13⟩ : ∃ z : Int32, z = fI H w (K.1.2 8 13) := ⟨_, rfl⟩
  rw [← es13] at r13
  obtain ⟨y13, ey13⟩ : ∃ z : Int32, z = fI H b (K.1.2 10 62) := ⟨_, rfl⟩
  rw [← ey13] at r13
  obtain ⟨s16, es16⟩ : ∃ z : Int32, z = fI H w (K.1.2 8 16) := ⟨_, rfl⟩
  rw [← es16] at r16
  obtain ⟨y16, ey16⟩ : ∃ z : Int32, z = fI H b (K.1.2 10 65) := ⟨_, rfl⟩
  rw [← ey16] at r16
  obtain ⟨tq, etq⟩ : ∃ z : Nat, z = fR H a (K.1.2 9 2) := ⟨_, rfl⟩
  have gtq := ty_fr (q := tq) (k := 2) (u := 108) etq hT ga rg_68 rfl
  obtain ⟨uq, euq⟩ : ∃ z : Nat, z = fR H b (K.1.2 10 17) := ⟨_, rfl⟩
  have guq := ty_fr (q := uq) (k := 17) (u := 126) euq hT gb rg_112 rfl
  have htr : TBR (fun j => fI H tq j) (fun j => fI H uq j) tb.toNatClampNeg := by rw [etq, euq, etb]; exact htb
  have ft0 : ∀ j : Nat, fI H tq j = fI H tq j := fun _ => rfl
  have fu0 : ∀ j : Nat, fI H uq j = fI H uq j := fun _ => rfl
  have bta := ty_fi (x := ta) (k := 3) eta hT ga rg_68 rfl
  have cta := i_cl (x := ta) (by omega)
  have btb := ty_fi (x := tb) (k := 18) etb hT gb rg_112 rfl
  have ctb := i_cl (x := tb) (by omega)
  obtain ⟨her0, hsl1, hsl2⟩ := her
  have hsl0 := And.intro hsl1 hsl2
  clear hsl1 hsl2
  rw [← ew] at her0 hsl0
  have re : RE K H w b s1.toInt := RE.cast her0 (by rw [← ey1]; exact r1)
  have hsl : 0 ≤ s5.toInt ∧ s5.toInt ≤ 9999 := by rw [es5]; exact hsl0
  clear her0 hsl0
  have bt_s1 := ty_fi (x := s1) (k := 1) es1 hT gw rg_0 rfl
  have bt_s4 := ty_fi (x := s4) (k := 4) es4 hT gw rg_0 rfl
  have bt_y1 := ty_fi (x := y1) (k := 1) ey1 hT gb rg_112 rfl
  have bt_y4 := ty_fi (x := y4) (k := 2) ey4 hT gb rg_112 rfl
  rcases hk with ⟨kn, h70⟩ | ⟨kq, kn, gkq, h70, q1, q4, q5, q10, q13, q16, rke, ks1, ks2⟩
  · skip
    obtain ⟨hi, ehi⟩ : ∃ z : Int32, z = fI H b (K.1.2 10 70) := ⟨_, rfl⟩
    rw [← ehi] at h70
    obtain ⟨hc0, hs0⟩ := hB0 kn
    obtain ⟨iq, eiq⟩ : ∃ z : Nat, z = fR H b (K.1.2 10 73) := ⟨_, rfl⟩
    have giq := ty_fr (q := iq) (k := 73) (u := 162) eiq hT gb rg_112 rfl
    refine lv_aload_n hx hb dL_law_525 rfl (lv_at hl 2 rfl) ?_
    refine lv_aload_n hx hb dL_law_526 rfl (lv_at hl 3 rfl) ?_
    refine lv_iload_n hx hb dL_law_527 rfl (lv_at hl 0 rfl) ?_
    refine lv_iconst (v := 1) hx hb dL_law_528 (by decide) ?_
    refine lv_iadd hx hb dL_law_529 ?_
    refine lv_topi (fun x101 ex101 => ?_)
    obtain ⟨tx101, ejx101, evx101⟩ := lw_ix (k := 1) ex101 hI hL rfl (by decide)
    clear tx101
    refine va_sld hx hb hX hbl (Nat.not_le.mpr hbl) hS (vp_in_iff.mpr evx101) dL_law_530 ?_
    refine W.eq (g2 := F0 m 531 ls [.int (xs (i.toNatClampNeg + 1)), .ref a]) (congrArg (fun z => F0 m 531 ls [.int (xs z), .ref a]) ejx101) ?_
    refine lv_aload_n hx hb dL_law_531 rfl (lv_at hl 3 rfl) ?_
    refine lv_iload_n hx hb dL_law_532 rfl (lv_at hl 0 rfl) ?_
    refine lv_iconst (v := 2) hx hb dL_law_533 (by decide) ?_
    refine lv_iadd hx hb dL_law_534 ?_
    refine lv_topi (fun x102 ex102 => ?_)
    obtain ⟨tx102, ejx102, evx102⟩ := lw_ix (k := 2) ex102 hI hL rfl (by decide)
    clear tx102
    refine va_sld hx hb hX hbl (Nat.not_le.mpr hbl) hS (vp_in_iff.mpr evx102) dL_law_535 ?_
    refine W.eq (g2 := F0 m 536 ls [.int (xs (i.toNatClampNeg + 2)), .int (xs (i.toNatClampNeg + 1)), .ref a]) (congrArg (fun z => F0 m 536 ls [.int (xs z), .int (xs (i.toNatClampNeg + 1)), .ref a]) ejx102) ?_
    refine lv_aload_n hx hb dL_law_536 rfl (lv_at hl 3 rfl) ?_
    refine lv_iload_n hx hb dL_law_537 rfl (lv_at hl 0 rfl) ?_
    refine lv_iconst (v := 3) hx hb dL_law_538 (by decide) ?_
    refine lv_iadd hx hb dL_law_539 ?_
    refine lv_topi (fun x103 ex103 => ?_)
    obtain ⟨tx103, ejx103, evx103⟩ := lw_ix (k := 3) ex103 hI hL rfl (by decide)
    clear tx103
    refine va_sld hx hb hX hbl (Nat.not_le.mpr hbl) hS (vp_in_iff.mpr evx103) dL_law_540 ?_
    refine W.eq (g2 := F0 m 541 ls [.int (xs (i.toNatClampNeg + 3)), .int (xs (i.toNatClampNeg + 2)), .int (xs (i.toNatClampNeg + 1)), .ref a]) (congrArg (fun z => F0 m 541 ls [.int (xs z), .int (xs (i.toNatClampNeg + 2)), .int (xs (i.toNatClampNeg + 1)), .ref a]) ejx103) ?_
    refine lv_aload_n hx hb dL_law_541 rfl (lv_at hl 3 rfl) ?_
    refine lv_iload_n hx hb dL_law_542 rfl (lv_at hl 0 rfl) ?_
    refine lv_iconst (v := 4) hx hb dL_law_543 (by decide) ?_
    refine lv_iadd hx hb dL_law_544 ?_
    refine lv_topi (fun x104 ex104 => ?_)
    obtain ⟨tx104, ejx104, evx104⟩ := lw_ix (k := 4) ex104 hI hL rfl (by decide)
    clear tx104
    refine va_sld hx hb hX hbl (Nat.not_le.mpr hbl) hS (vp_in_iff.mpr evx104) dL_law_545 ?_
    refine W.eq (g2 := F0 m 546 ls [.int (xs (i.toNatClampNeg + 4)), .int (xs (i.toNatClampNeg + 3)), .int (xs (i.toNatClampNeg + 2)), .int (xs (i.toNatClampNeg + 1)), .ref a]) (congrArg (fun z => F0 m 546 ls [.int (xs z), .int (xs (i.toNatClampNeg + 3)), .int (xs (i.toNatClampNeg + 2)), .int (xs (i.toNatClampNeg + 1)), .ref a]) ejx104) ?_
    refine lv_aload_n hx hb dL_law_546 rfl (lv_at hl 3 rfl) ?_
    refine lv_iload_n hx hb dL_law_547 rfl (lv_at hl 0 rfl) ?_
    refine lv_iconst (v := 5) hx hb dL_law_548 (by decide) ?_
    refine lv_iadd hx hb dL_law_549 ?_
    refine lv_topi (fun x105 ex105 => ?_)
    obtain ⟨tx105, ejx105, evx105⟩ := lw_ix (k := 5) ex105 hI hL rfl (by decide)
    clear tx105
    refine va_sld hx hb hX hbl (Nat.not_le.mpr hbl) hS (vp_in_iff.mpr evx105) dL_law_550 ?_
    refine W.eq (g2 := F0 m 551 ls [.int (xs (i.toNatClampNeg + 5)), .int (xs (i.toNatClampNeg + 4)), .int (xs (i.toNatClampNeg + 3)), .int (xs (i.toNatClampNeg + 2)), .int (xs (i.toNatClampNeg + 1)), .ref a]) (congrArg (fun z => F0 m 551 ls [.int (xs z), .int (xs (i.toNatClampNeg + 4)), .int (xs (i.toNatClampNeg + 3)), .int (xs (i.toNatClampNeg + 2)), .int (xs (i.toNatClampNeg + 1)), .ref a]) ejx105) ?_
    refine x_V (As := [.int (xs (i.toNatClampNeg + 1)), .int (xs (i.toNatClampNeg + 2)), .int (xs (i.toNatClampNeg + 3)), .int (xs (i.toNatClampNeg + 4)), .int (xs (i.toNatClampNeg + 5))]) (rest := []) C (a_X9_tells l K G H ((xs (i.toNatClampNeg + 1))) ((xs (i.toNatClampNeg + 2))) ((xs (i.toNatClampNeg + 3))) ((xs (i.toNatClampNeg + 4))) ((xs (i.toNatClampNeg + 5))) hT ga) yo_X9_tells wM_L_56 ⟨⟨by decide, by decide⟩, show _ ≤ 60000 from Nat.le_trans hc (by decide), show _ ≤ 8922250 from Nat.le_trans hs (by decide)⟩ (x_rv C hT (ci := 9) rfl ga rg_68) rfl hl.1 rfl (Nat.le_of_ble_eq_true rfl) dL_law_551 hS (AE_new hN hS.1) (fun vH106 H106 locsH106 pH106 zH106 kH106 hSH106 => ?_)
    obtain ⟨x107, hvH106, hTH106⟩ := pH106
    subst hvH106
    have g108 : CG (avw K H106 b) := CG.congr (fun k hk j => av_eff hT kH106 gb (by decide) (CG_eff [83, 84] (by decide) k hk)) cg
    have g109 : TU (avw K H106 b) (svw K H106 b) := TU.congr (fun k hk j => av_eff hT kH106 gb (by decide) (TU_eff [83, 84] (by decide) k hk)) (fun k hk => sv_eff hT kH106 gb (by decide)) tu
    have g110 : WD (avw K H106 b) := WD.congr (fun k hk j => av_eff hT kH106 gb (by decide) (WD_eff [83, 84] (by decide) k hk)) wd
    have g111 : IM (avw K H106 b) := IM.congr (fun k hk j => av_eff hT kH106 gb (by decide) (IM_eff [83, 84] (by decide) k hk)) im
    have f112 : ∀ j : Nat, fI H106 tq j = fI H tq j := fun j => (fI_kept (x_lt hT kH106 gtq (by decide))).trans (ft0 j)
    have f113 : ∀ j : Nat, fI H106 uq j = fI H uq j := fun j => (fI_kept (x_lt hT kH106 guq (by decide))).trans (fu0 j)
    have m114 := (ew).trans (fR_kept (x_lt hT kH106 ga (by decide))).symm
    have m115 := (eta).trans (fI_kept (x_lt hT kH106 ga (by decide))).symm
    have m116 := (etb).trans (fI_kept (x_lt hT kH106 gb (by decide))).symm
    have m117 := (es1).trans (fI_kept (x_lt hT kH106 gw (by decide))).symm
    have m118 := (ey1).trans (fI_kept (x_lt hT kH106 gb (by decide))).symm
    have m119 := (es4).trans (fI_kept (x_lt hT kH106 gw (by decide))).symm
    have m120 := (ey4).trans (fI_kept (x_lt hT kH106 gb (by decide))).symm
    have m121 := (es5).trans (fI_kept (x_lt hT kH106 gw (by decide))).symm
    have m122 := (ey5).trans (fI_kept (x_lt hT kH106 gb (by decide))).symm
    have m123 := (es10).trans (fI_kept (x_lt hT kH106 gw (by decide))).symm
    have m124 := (ey10).trans (fI_kept (x_lt hT kH106 gb (by decide))).symm
    have m125 := (es13).trans (fI_kept (x_lt hT kH106 gw (by decide))).symm
    have m126 := (ey13).trans (fI_kept (x_lt hT kH106 gb (by decide))).symm
    have m127 := (es16).trans (fI_kept (x_lt hT kH106 gw (by decide))).symm
    have m128 := (ey16).trans (fI_kept (x_lt hT kH106 gb (by decide))).symm
    have m129 := (etq).trans (fR_kept (x_lt hT kH106 ga (by decide))).symm
    have m130 := (euq).trans (fR_kept (x_lt hT kH106 gb (by decide))).symm
    have m131 := (ehi).trans (fI_kept (x_lt hT kH106 gb (by decide))).symm
    have m132 := (fV_kept (x_lt hT kH106 ga (by decide))).trans kn
    have m133 := (eiq).trans (fR_kept (x_lt hT kH106 gb (by decide))).symm
    refine W.eq (g2 := F0 m 554 ls [.int x107]) rfl ?_
    have re134 : RE K H106 w b s1.toInt := RE.cls re hT gw gb (fun q t hq ht => x_lt hT kH106 hq (by first | exact nmr ht (by decide) | exact nmo ht (by decide) | exact nme ht (by decide) | exact nmq ht (by decide) | decide | (intro z; simp only [List.mem_cons, List.not_mem_nil, or_false] at z <;> omega) | omega))
    refine lv_pop hx hb dL_law_554 rfl ?_
    refine lv_aload_n hx hb dL_law_555 rfl (lv_at hl 1 rfl) ?_
    refine lv_aload_n hx hb dL_law_556 rfl (lv_at hl 3 rfl) ?_
    refine lv_iload_n hx hb dL_law_557 rfl (lv_at hl 0 rfl) ?_
    refine lv_iconst (v := 1) hx hb dL_law_558 (by decide) ?_
    refine lv_iadd hx hb dL_law_559 ?_
    refine lv_topi (fun x135 ex135 => ?_)
    obtain ⟨tx135, ejx135, evx135⟩ := lw_ix (k := 1) ex135 hI hL rfl (by decide)
    clear tx135
    refine va_sld hx hb hX hbl (Nat.not_le.mpr hbl) hSH106 (vp_in_iff.mpr evx135) dL_law_560 ?_
    refine W.eq (g2 := F0 m 561 ls [.int (xs (i.toNatClampNeg + 1)), .ref b]) (congrArg (fun z => F0 m 561 ls [.int (xs z), .ref b]) ejx135) ?_
    refine lv_aload_n hx hb dL_law_561 rfl (lv_at hl 3 rfl) ?_
    refine lv_iload_n hx hb dL_law_562 rfl (lv_at hl 0 rfl) ?_
    refine lv_iconst (v := 2) hx hb dL_law_563 (by decide) ?_
    refine lv_iadd hx hb dL_law_564 ?_
    refine lv_topi (fun x136 ex136 => ?_)
    obtain ⟨tx136, ejx136, evx136⟩ := lw_ix (k := 2) ex136 hI hL rfl (by decide)
    clear tx136
    refine va_sld hx hb hX hbl (Nat.not_le.mpr hbl) hSH106 (vp_in_iff.mpr evx136) dL_law_565 ?_
    refine W.eq (g2 := F0 m 566 ls [.int (xs (i.toNatClampNeg + 2)), .int (xs (i.toNatClampNeg + 1)), .ref b]) (congrArg (fun z => F0 m 566 ls [.int (xs z), .int (xs (i.toNatClampNeg + 1)), .ref b]) ejx136) ?_
    refine lv_aload_n hx hb dL_law_566 rfl (lv_at hl 3 rfl) ?_
    refine lv_iload_n hx hb dL_law_567 rfl (lv_at hl 0 rfl) ?_
    refine lv_iconst (v := 3) hx hb dL_law_568 (by decide) ?_
    refine lv_iadd hx hb dL_law_569 ?_
    refine lv_topi (fun x137 ex137 => ?_)
    obtain ⟨tx137, ejx137, evx137⟩ := lw_ix (k := 3) ex137 hI hL rfl (by decide)
    clear tx137
    refine va_sld hx hb hX hbl (Nat.not_le.mpr hbl) hSH106 (vp_in_iff.mpr evx137) dL_law_570 ?_
    refine W.eq (g2 := F0 m 571 ls [.int (xs (i.toNatClampNeg + 3)), .int (xs (i.toNatClampNeg + 2)), .int (xs (i.toNatClampNeg + 1)), .ref b]) (congrArg (fun z => F0 m 571 ls [.int (xs z), .int (xs (i.toNatClampNeg + 2)), .int (xs (i.toNatClampNeg + 1)), .ref b]) ejx137) ?_
    refine lv_aload_n hx hb dL_law_571 rfl (lv_at hl 3 rfl) ?_
    refine lv_iload_n hx hb dL_law_572 rfl (lv_at hl 0 rfl) ?_
    refine lv_iconst (v := 4) hx hb dL_law_573 (by decide) ?_
    refine lv_iadd hx hb dL_law_574 ?_
    refine lv_topi (fun x138 ex138 => ?_)
    obtain ⟨tx138, ejx138, evx138⟩ := lw_ix (k := 4) ex138 hI hL rfl (by decide)
    clear tx138
    refine va_sld hx hb hX hbl (Nat.not_le.mpr hbl) hSH106 (vp_in_iff.mpr evx138) dL_law_575 ?_
    refine W.eq (g2 := F0 m 576 ls [.int (xs (i.toNatClampNeg + 4)), .int (xs (i.toNatClampNeg + 3)), .int (xs (i.toNatClampNeg + 2)), .int (xs (i.toNatClampNeg + 1)), .ref b]) (congrArg (fun z => F0 m 576 ls [.int (xs z), .int (xs (i.toNatClampNeg + 3)), .int (xs (i.toNatClampNeg + 2)), .int (xs (i.toNatClampNeg + 1)), .ref b]) ejx138) ?_
    refine lv_aload_n hx hb dL_law_576 rfl (lv_at hl 3 rfl) ?_
    refine lv_iload_n hx hb dL_law_577 rfl (lv_at hl 0 rfl) ?_
    refine lv_iconst (v := 5) hx hb dL_law_578 (by decide) ?_
    refine lv_iadd hx hb dL_law_579 ?_
    refine lv_topi (fun x139 ex139 => ?_)
    obtain ⟨tx139, ejx139, evx139⟩ := lw_ix (k := 5) ex139 hI hL rfl (by decide)
    clear tx139
    refine va_sld hx hb hX hbl (Nat.not_le.mpr hbl) hSH106 (vp_in_iff.mpr evx139) dL_law_580 ?_
    refine W.eq (g2 := F0 m 581 ls [.int (xs (i.toNatClampNeg + 5)), .int (xs (i.toNatClampNeg + 4)), .int (xs (i.toNatClampNeg + 3)), .int (xs (i.toNatClampNeg + 2)), .int (xs (i.toNatClampNeg + 1)), .ref b]) (congrArg (fun z => F0 m 581 ls [.int (xs z), .int (xs (i.toNatClampNeg + 4)), .int (xs (i.toNatClampNeg + 3)), .int (xs (i.toNatClampNeg + 2)), .int (xs (i.toNatClampNeg + 1)), .ref b]) ejx139) ?_
    refine x_V (As := [.int (xs (i.toNatClampNeg + 1)), .int (xs (i.toNatClampNeg + 2)), .int (xs (i.toNatClampNeg + 3)), .int (xs (i.toNatClampNeg + 4)), .int (xs (i.toNatClampNeg + 5))]) (rest := []) C (a_X10_tells l K G H106 ((xs (i.toNatClampNeg + 1))) ((xs (i.toNatClampNeg + 2))) ((xs (i.toNatClampNeg + 3))) ((xs (i.toNatClampNeg + 4))) ((xs (i.toNatClampNeg + 5))) hTH106 gb g108 g109 g110 g111) yo_X10_tells wM_L_59 ⟨⟨by decide, by decide⟩, show _ ≤ 60000 from Nat.le_trans hc (by decide), show _ ≤ 8922250 from Nat.le_trans hs (by decide)⟩ (x_rv C hTH106 (ci := 10) rfl gb rg_112) rfl hl.1 rfl (Nat.le_of_ble_eq_true rfl) dL_law_581 hSH106 (AE_new hN hSH106.1) (fun vH140 H140 locsH140 pH140 zH140 kH140 hSH140 => ?_)
    obtain ⟨x141, hvH140, g142, g143, g144, g145, mf146, hTH140⟩ := pH140
    subst hvH140
    have f147 : ∀ j : Nat, fI H140 tq j = fI H tq j := fun j => (fI_kept (x_lt hTH106 kH140 gtq (by decide))).trans (f112 j)
    have f148 : ∀ j : Nat, fI H140 uq j = fI H uq j := fun j => (fI_kept (x_lt hTH106 kH140 guq (by decide))).trans (f113 j)
    have m149 := (m114).trans (fR_kept (x_lt hTH106 kH140 ga (by decide))).symm
    have m150 := (m115).trans (fI_kept (x_lt hTH106 kH140 ga (by decide))).symm
    have m151 := (m117).trans (fI_kept (x_lt hTH106 kH140 gw (by decide))).symm
    have m152 := (m119).trans (fI_kept (x_lt hTH106 kH140 gw (by decide))).symm
    have m153 := (m121).trans (fI_kept (x_lt hTH106 kH140 gw (by decide))).symm
    have m154 := (m123).trans (fI_kept (x_lt hTH106 kH140 gw (by decide))).symm
    have m155 := (m125).trans (fI_kept (x_lt hTH106 kH140 gw (by decide))).symm
    have m156 := (m127).trans (fI_kept (x_lt hTH106 kH140 gw (by decide))).symm
    have m157 := (m129).trans (fR_kept (x_lt hTH106 kH140 ga (by decide))).symm
    have m158 := (fV_kept (x_lt hTH106 kH140 ga (by decide))).trans m132
    have m159 := (m116).trans (MF.i mf146 (k := 18) (by decide) (by decide)).symm
    have m160 := (m118).trans (MF.i mf146 (k := 1) (by decide) (by decide)).symm
    have m161 := (m120).trans (MF.i mf146 (k := 2) (by decide) (by decide)).symm
    have m162 := (m122).trans (MF.i mf146 (k := 3) (by decide) (by decide)).symm
    have m163 := (m124).trans (MF.i mf146 (k := 59) (by decide) (by decide)).symm
    have m164 := (m126).trans (MF.i mf146 (k := 62) (by decide) (by decide)).symm
    have m165 := (m128).trans (MF.i mf146 (k := 65) (by decide) (by decide)).symm
    have m166 := (m130).trans (MF.r mf146 (k := 17) (by decide) (by decide)).symm
    have m167 := (m131).trans (MF.i mf146 (k := 70) (by decide) (by decide)).symm
    have m168 := (m133).trans (MF.r mf146 (k := 73) (by decide) (by decide)).symm
    refine W.eq (g2 := F0 m 584 ls [.int x141]) rfl ?_
    have re169 : RE K H140 w b s1.toInt := RE.ref re134 hTH106 gw gb (fun k hk => MF.r mf146 (by omega) (by intro z; simp only [List.mem_cons, List.not_mem_nil, or_false] at z; omega)) (fun q t hq ht => x_lt hTH106 kH140 hq (by first | exact nmr ht (by decide) | exact nmo ht (by decide) | exact nme ht (by decide) | exact nmq ht (by decide) | decide | (intro z; simp only [List.mem_cons, List.not_mem_nil, or_false] at z <;> omega) | omega))
    refine lv_pop hx hb dL_law_584 rfl ?_
    refine lv_goto (tgt := 1509) hx hb dL_law_585 (by decide) ?_
    exact nx G H140 locsH140 _ _ ls ⟨hTH140, hN, ga, gb, g142, g143, g144, g145, ⟨(by rw [← m150, ← m159]; exact rt), (by rw [← m149, ← m151, ← m160]; exact r1), (by rw [← m149, ← m152, ← m161]; exact r4), (by rw [← m149, ← m153, ← m162]; exact r5), (by rw [← m149, ← m154, ← m163]; exact r10), (by rw [← m149, ← m155, ← m164]; exact r13), (by rw [← m149, ← m156, ← m165]; exact r16)⟩, Or.inl ⟨m158, (by rw [← m167]; exact h70)⟩, (by unfold TB; rw [← m157, ← m166, ← m159]; exact TBR.of htr f147 f148 (by omega)), (by unfold RELE; rw [← m149, ← m160, ← m153]; exact ⟨RE.cast re169 (by omega), by omega, by omega⟩), hSH140⟩ hl ⟨hc, hs, fun _ => ⟨hc0, hs0⟩⟩
  · skip
    obtain ⟨hi, ehi⟩ : ∃ z : Int32, z = fI H b (K.1.2 10 70) := ⟨_, rfl⟩
    rw [← ehi] at h70
    obtain ⟨iq, eiq⟩ : ∃ z : Nat, z = fR H b (K.1.2 10 73) := ⟨_, rfl⟩
    have giq := ty_fr (q := iq) (k := 73) (u := 162) eiq hT gb rg_112 rfl
    rw [← eiq] at q1 q4 q5 q10 q13 q16
    obtain ⟨k1, ek1⟩ : ∃ z : Int32, z = fI H kq (K.1.2 8 1) := ⟨_, rfl⟩
    rw [← ek1] at q1
    obtain ⟨i1, ei1⟩ : ∃ z : Int32, z = fI H iq ((0 : Int32).toNatClampNeg) := ⟨_, rfl⟩
    rw [← ei1] at q1
    obtain ⟨k4, ek4⟩ : ∃ z : Int32, z = fI H kq (K.1.2 8 4) := ⟨_, rfl⟩
    rw [← ek4] at q4
    obtain ⟨i4, ei4⟩ : ∃ z : Int32, z = fI H iq ((1 : Int32).toNatClampNeg) := ⟨_, rfl⟩
    rw [← ei4] at q4
    obtain ⟨k5, ek5⟩ : ∃ z : Int32, z = fI H kq (K.1.2 8 5) := ⟨_, rfl⟩
    rw [← ek5] at q5
    obtain ⟨i5, ei5⟩ : ∃ z : Int32, z = fI H iq ((2 : Int32).toNatClampNeg) := ⟨_, rfl⟩
    rw [← ei5] at q5
    obtain ⟨k10, ek10⟩ : ∃ z : Int32, z = fI H kq (K.1.2 8 10) := ⟨_, rfl⟩
    rw [← ek10] at q10
    obtain ⟨i10, ei10⟩ : ∃ z : Int32, z = fI H iq ((3 : Int32).toNatClampNeg) := ⟨_, rfl⟩
    rw [← ei10] at q10
    obtain ⟨k13, ek13⟩ : ∃ z : Int32, z = fI H kq (K.1.2 8 13) := ⟨_, rfl⟩
    rw [← ek13] at q13
    obtain ⟨i13, ei13⟩ : ∃ z : Int32, z = fI H iq ((4 : Int32).toNatClampNeg) := ⟨_, rfl⟩
    rw [← ei13] at q13
    obtain ⟨k16, ek16⟩ : ∃ z : Int32, z = fI H kq (K.1.2 8 16) := ⟨_, rfl⟩
    rw [← ek16] at q16
    obtain ⟨i16, ei16⟩ : ∃ z : Int32, z = fI H iq ((5 : Int32).toNatClampNeg) := ⟨_, rfl⟩
    rw [← ei16] at q16
    rw [← eiq, ← ek1] at rke
    have hsk : 0 ≤ k5.toInt ∧ k5.toInt ≤ 9999 := by rw [ek5]; exact ⟨ks1, ks2⟩
    refine lv_aload_n hx hb dL_law_525 rfl (lv_at hl 2 rfl) ?_
    refine lv_aload_n hx hb dL_law_526 rfl (lv_at hl 3 rfl) ?_
    refine lv_iload_n hx hb dL_law_527 rfl (lv_at hl 0 rfl) ?_
    refine lv_iconst (v := 1) hx hb dL_law_528 (by decide) ?_
    refine lv_iadd hx hb dL_law_529 ?_
    refine lv_topi (fun x170 ex170 => ?_)
    obtain ⟨tx170, ejx170, evx170⟩ := lw_ix (k := 1) ex170 hI hL rfl (by decide)
    clear tx170
    refine va_sld hx hb hX hbl (Nat.not_le.mpr hbl) hS (vp_in_iff.mpr evx170) dL_law_530 ?_
    refine W.eq (g2 := F0 m 531 ls [.int (xs (i.toNatClampNeg + 1)), .ref a]) (congrArg (fun z => F0 m 531 ls [.int (xs z), .ref a]) ejx170) ?_
    refine lv_aload_n hx hb dL_law_531 rfl (lv_at hl 3 rfl) ?_
    refine lv_iload_n hx hb dL_law_532 rfl (lv_at hl 0 rfl) ?_
    refine lv_iconst (v := 2) hx hb dL_law_533 (by decide) ?_
    refine lv_iadd hx hb dL_law_534 ?_
    refine lv_topi (fun x171 ex171 => ?_)
    obtain ⟨tx171, ejx171, evx171⟩ := lw_ix (k := 2) ex171 hI hL rfl (by decide)
    clear tx171
    refine va_sld hx hb hX hbl (Nat.not_le.mpr hbl) hS (vp_in_iff.mpr evx171) dL_law_535 ?_
    refine W.eq (g2 := F0 m 536 ls [.int (xs (i.toNatClampNeg + 2)), .int (xs (i.toNatClampNeg + 1)), .ref a]) (congrArg (fun z => F0 m 536 ls [.int (xs z), .int (xs (i.toNatClampNeg + 1)), .ref a]) ejx171) ?_
    refine lv_aload_n hx hb dL_law_536 rfl (lv_at hl 3 rfl) ?_
    refine lv_iload_n hx hb dL_law_537 rfl (lv_at hl 0 rfl) ?_
    refine lv_iconst (v := 3) hx hb dL_law_538 (by decide) ?_
    refine lv_iadd hx hb dL_law_539 ?_
    refine lv_topi (fun x172 ex172 => ?_)
    obtain ⟨tx172, ejx172, evx172⟩ := lw_ix (k := 3) ex172 hI hL rfl (by decide)
    clear tx172
    refine va_sld hx hb hX hbl (Nat.not_le.mpr hbl) hS (vp_in_iff.mpr evx172) dL_law_540 ?_
    refine W.eq (g2 := F0 m 541 ls [.int (xs (i.toNatClampNeg + 3)), .int (xs (i.toNatClampNeg + 2)), .int (xs (i.toNatClampNeg + 1)), .ref a]) (congrArg (fun z => F0 m 541 ls [.int (xs z), .int (xs (i.toNatClampNeg + 2)), .int (xs (i.toNatClampNeg + 1)), .ref a]) ejx172) ?_
    refine lv_aload_n hx hb dL_law_541 rfl (lv_at hl 3 rfl) ?_
    refine lv_iload_n hx hb dL_law_542 rfl (lv_at hl 0 rfl) ?_
    refine lv_iconst (v := 4) hx hb dL_law_543 (by decide) ?_
    refine lv_iadd hx hb dL_law_544 ?_
    refine lv_topi (fun x173 ex173 => ?_)
    obtain ⟨tx173, ejx173, evx173⟩ := lw_ix (k := 4) ex173 hI hL rfl (by decide)
    clear tx173
    refine va_sld hx hb hX hbl (Nat.not_le.mpr hbl) hS (vp_in_iff.mpr evx173) dL_law_545 ?_
    refine W.eq (g2 := F0 m 546 ls [.int (xs (i.toNatClampNeg + 4)), .int (xs (i.toNatClampNeg + 3)), .int (xs (i.toNatClampNeg + 2)), .int (xs (i.toNatClampNeg + 1)), .ref a]) (congrArg (fun z => F0 m 546 ls [.int (xs z), .int (xs (i.toNatClampNeg + 3)), .int (xs (i.toNatClampNeg + 2)), .int (xs (i.toNatClampNeg + 1)), .ref a]) ejx173) ?_
    refine lv_aload_n hx hb dL_law_546 rfl (lv_at hl 3 rfl) ?_
    refine lv_iload_n hx hb dL_law_547 rfl (lv_at hl 0 rfl) ?_
    refine lv_iconst (v := 5) hx hb dL_law_548 (by decide) ?_
    refine lv_iadd hx hb dL_law_549 ?_
    refine lv_topi (fun x174 ex174 => ?_)
    obtain ⟨tx174, ejx174, evx174⟩ := lw_ix (k := 5) ex174 hI hL rfl (by decide)
    clear tx174
    refine va_sld hx hb hX hbl (Nat.not_le.mpr hbl) hS (vp_in_iff.mpr evx174) dL_law_550 ?_
    refine W.eq (g2 := F0 m 551 ls [.int (xs (i.toNatClampNeg + 5)), .int (xs (i.toNatClampNeg + 4)), .int (xs (i.toNatClampNeg + 3)), .int (xs (i.toNatClampNeg + 2)), .int (xs (i.toNatClampNeg + 1)), .ref a]) (congrArg (fun z => F0 m 551 ls [.int (xs z), .int (xs (i.toNatClampNeg + 4)), .int (xs (i.toNatClampNeg + 3)), .int (xs (i.toNatClampNeg + 2)), .int (xs (i.toNatClampNeg + 1)), .ref a]) ejx174) ?_
    refine x_V (As := [.int (xs (i.toNatClampNeg + 1)), .int (xs (i.toNatClampNeg + 2)), .int (xs (i.toNatClampNeg + 3)), .int (xs (i.toNatClampNeg + 4)), .int (xs (i.toNatClampNeg + 5))]) (rest := []) C (a_X9_tells l K G H ((xs (i.toNatClampNeg + 1))) ((xs (i.toNatClampNeg + 2))) ((xs (i.toNatClampNeg + 3))) ((xs (i.toNatClampNeg + 4))) ((xs (i.toNatClampNeg + 5))) hT ga) yo_X9_tells wM_L_56 ⟨⟨by decide, by decide⟩, show _ ≤ 60000 from Nat.le_trans hc (by decide), show _ ≤ 8922250 from Nat.le_trans hs (by decide)⟩ (x_rv C hT (ci := 9) rfl ga rg_68) rfl hl.1 rfl (Nat.le_of_ble_eq_true rfl) dL_law_551 hS (AE_new hN hS.1) (fun vH175 H175 locsH175 pH175 zH175 kH175 hSH175 => ?_)
    obtain ⟨x176, hvH175, hTH175⟩ := pH175
    subst hvH175
    have g177 : CG (avw K H175 b) := CG.congr (fun k hk j => av_eff hT kH175 gb (by decide) (CG_eff [83, 84] (by decide) k hk)) cg
    have g178 : TU (avw K H175 b) (svw K H175 b) := TU.congr (fun k hk j => av_eff hT kH175 gb (by decide) (TU_eff [83, 84] (by decide) k hk)) (fun k hk => sv_eff hT kH175 gb (by decide)) tu
    have g179 : WD (avw K H175 b) := WD.congr (fun k hk j => av_eff hT kH175 gb (by decide) (WD_eff [83, 84] (by decide) k hk)) wd
    have g180 : IM (avw K H175 b) := IM.congr (fun k hk j => av_eff hT kH175 gb (by decide) (IM_eff [83, 84] (by decide) k hk)) im
    have f181 : ∀ j : Nat, fI H175 tq j = fI H tq j := fun j => (fI_kept (x_lt hT kH175 gtq (by decide))).trans (ft0 j)
    have f182 : ∀ j : Nat, fI H175 uq j = fI H uq j := fun j => (fI_kept (x_lt hT kH175 guq (by decide))).trans (fu0 j)
    have m183 := (ew).trans (fR_kept (x_lt hT kH175 ga (by decide))).symm
    have m184 := (eta).trans (fI_kept (x_lt hT kH175 ga (by decide))).symm
    have m185 := (etb).trans (fI_kept (x_lt hT kH175 gb (by decide))).symm
    have m186 := (es1).trans (fI_kept (x_lt hT kH175 gw (by decide))).symm
    have m187 := (ey1).trans (fI_kept (x_lt hT kH175 gb (by decide))).symm
    have m188 := (es4).trans (fI_kept (x_lt hT kH175 gw (by decide))).symm
    have m189 := (ey4).trans (fI_kept (x_lt hT kH175 gb (by decide))).symm
    have m190 := (es5).trans (fI_kept (x_lt hT kH175 gw (by decide))).symm
    have m191 := (ey5).trans (fI_kept (x_lt hT kH175 gb (by decide))).symm
    have m192 := (es10).trans (fI_kept (x_lt hT kH175 gw (by decide))).symm
    have m193 := (ey10).trans (fI_kept (x_lt hT kH175 gb (by decide))).symm
    have m194 := (es13).trans (fI_kept (x_lt hT kH175 gw (by decide))).symm
    have m195 := (ey13).trans (fI_kept (x_lt hT kH175 gb (by decide))).symm
    have m196 := (es16).trans (fI_kept (x_lt hT kH175 gw (by decide))).symm
    have m197 := (ey16).trans (fI_kept (x_lt hT kH175 gb (by decide))).symm
    have m198 := (etq).trans (fR_kept (x_lt hT kH175 ga (by decide))).symm
    have m199 := (euq).trans (fR_kept (x_lt hT kH175 gb (by decide))).symm
    have m200 := (ehi).trans (fI_kept (x_lt hT kH175 gb (by decide))).symm
    have m201 := (fV_kept (x_lt hT kH175 ga (by decide))).trans kn
    have m202 := (eiq).trans (fR_kept (x_lt hT kH175 gb (by decide))).symm
    have m203 := (ek1).trans (fI_kept (x_lt hT kH175 gkq (by decide))).symm
    have m204 := (ei1).trans (fI_kept (x_lt hT kH175 giq (by decide))).symm
    have m205 := (ek4).trans (fI_kept (x_lt hT kH175 gkq (by decide))).symm
    have m206 := (ei4).trans (fI_kept (x_lt hT kH175 giq (by decide))).symm
    have m207 := (ek5).trans (fI_kept (x_lt hT kH175 gkq (by decide))).symm
    have m208 := (ei5).trans (fI_kept (x_lt hT kH175 giq (by decide))).symm
    have m209 := (ek10).trans (fI_kept (x_lt hT kH175 gkq (by decide))).symm
    have m210 := (ei10).trans (fI_kept (x_lt hT kH175 giq (by decide))).symm
    have m211 := (ek13).trans (fI_kept (x_lt hT kH175 gkq (by decide))).symm
    have m212 := (ei13).trans (fI_kept (x_lt hT kH175 giq (by decide))).symm
    have m213 := (ek16).trans (fI_kept (x_lt hT kH175 gkq (by decide))).symm
    have m214 := (ei16).trans (fI_kept (x_lt hT kH175 giq (by decide))).symm
    refine W.eq (g2 := F0 m 554 ls [.int x176]) rfl ?_
    have rk215 : RKI K H175 kq iq k1.toInt := RKI.kept rke hT gkq (x_lt hT kH175 giq (by first | exact nmr ht (by decide) | exact nmo ht (by decide) | exact nme ht (by decide) | exact nmq ht (by decide) | decide | (intro z; simp only [List.mem_cons, List.not_mem_nil, or_false] at z <;> omega) | omega)) (fun q t hq ht => x_lt hT kH175 hq (by first | exact nmr ht (by decide) | exact nmo ht (by decide) | exact nme ht (by decide) | exact nmq ht (by decide) | decide | (intro z; simp only [List.mem_cons, List.not_mem_nil, or_false] at z <;> omega) | omega))
    have re216 : RE K H175 w b s1.toInt := RE.cls re hT gw gb (fun q t hq ht => x_lt hT kH175 hq (by first | exact nmr ht (by decide) | exact nmo ht (by decide) | exact nme ht (by decide) | exact nmq ht (by decide) | decide | (intro z; simp only [List.mem_cons, List.not_mem_nil, or_false] at z <;> omega) | omega))
    refine lv_pop hx hb dL_law_554 rfl ?_
    refine lv_aload_n hx hb dL_law_555 rfl (lv_at hl 1 rfl) ?_
    refine lv_aload_n hx hb dL_law_556 rfl (lv_at hl 3 rfl) ?_
    refine lv_iload_n hx hb dL_law_557 rfl (lv_at hl 0 rfl) ?_
    refine lv_iconst (v := 1) hx hb dL_law_558 (by decide) ?_
    refine lv_iadd hx hb dL_law_559 ?_
    refine lv_topi (fun x217 ex217 => ?_)
    obtain ⟨tx217, ejx217, evx217⟩ := lw_ix (k := 1) ex217 hI hL rfl (by decide)
    clear tx217
    refine va_sld hx hb hX hbl (Nat.not_le.mpr hbl) hSH175 (vp_in_iff.mpr evx217) dL_law_560 ?_
    refine W.eq (g2 := F0 m 561 ls [.int (xs (i.toNatClampNeg + 1)), .ref b]) (congrArg (fun z => F0 m 561 ls [.int (xs z), .ref b]) ejx217) ?_
    refine lv_aload_n hx hb dL_law_561 rfl (lv_at hl 3 rfl) ?_
    refine lv_iload_n hx hb dL_law_562 rfl (lv_at hl 0 rfl) ?_
    refine lv_iconst (v := 2) hx hb dL_law_563 (by decide) ?_
    refine lv_iadd hx hb dL_law_564 ?_
    refine lv_topi (fun x218 ex218 => ?_)
    obtain ⟨tx218, ejx218, evx218⟩ := lw_ix (k := 2) ex218 hI hL rfl (by decide)
    clear tx218
    refine va_sld hx hb hX hbl (Nat.not_le.mpr hbl) hSH175 (vp_in_iff.mpr evx218) dL_law_565 ?_
    refine W.eq (g2 := F0 m 566 ls [.int (xs (i.toNatClampNeg + 2)), .int (xs (i.toNatClampNeg + 1)), .ref b]) (congrArg (fun z => F0 m 566 ls [.int (xs z), .int (xs (i.toNatClampNeg + 1)), .ref b]) ejx218) ?_
    refine lv_aload_n hx hb dL_law_566 rfl (lv_at hl 3 rfl) ?_
    refine lv_iload_n hx hb dL_law_567 rfl (lv_at hl 0 rfl) ?_
    refine lv_iconst (v := 3) hx hb dL_law_568 (by decide) ?_
    refine lv_iadd hx hb dL_law_569 ?_
    refine lv_topi (fun x219 ex219 => ?_)
    obtain ⟨tx219, ejx219, evx219⟩ := lw_ix (k := 3) ex219 hI hL rfl (by decide)
    clear tx219
    refine va_sld hx hb hX hbl (Nat.not_le.mpr hbl) hSH175 (vp_in_iff.mpr evx219) dL_law_570 ?_
    refine W.eq (g2 := F0 m 571 ls [.int (xs (i.toNatClampNeg + 3)), .int (xs (i.toNatClampNeg + 2)), .int (xs (i.toNatClampNeg + 1)), .ref b]) (congrArg (fun z => F0 m 571 ls [.int (xs z), .int (xs (i.toNatClampNeg + 2)), .int (xs (i.toNatClampNeg + 1)), .ref b]) ejx219) ?_
    refine lv_aload_n hx hb dL_law_571 rfl (lv_at hl 3 rfl) ?_
    refine lv_iload_n hx hb dL_law_572 rfl (lv_at hl 0 rfl) ?_
    refine lv_iconst (v := 4) hx hb dL_law_573 (by decide) ?_
    refine lv_iadd hx hb dL_law_574 ?_
    refine lv_topi (fun x220 ex220 => ?_)
    obtain ⟨tx220, ejx220, evx220⟩ := lw_ix (k := 4) ex220 hI hL rfl (by decide)
    clear tx220
    refine va_sld hx hb hX hbl (Nat.not_le.mpr hbl) hSH175 (vp_in_iff.mpr evx220) dL_law_575 ?_
    refine W.eq (g2 := F0 m 576 ls [.int (xs (i.toNatClampNeg + 4)), .int (xs (i.toNatClampNeg + 3)), .int (xs (i.toNatClampNeg + 2)), .int (xs (i.toNatClampNeg + 1)), .ref b]) (congrArg (fun z => F0 m 576 ls [.int (xs z), .int (xs (i.toNatClampNeg + 3)), .int (xs (i.toNatClampNeg + 2)), .int (xs (i.toNatClampNeg + 1)), .ref b]) ejx220) ?_
    refine lv_aload_n hx hb dL_law_576 rfl (lv_at hl 3 rfl) ?_
    refine lv_iload_n hx hb dL_law_577 rfl (lv_at hl 0 rfl) ?_
    refine lv_iconst (v := 5) hx hb dL_law_578 (by decide) ?_
    refine lv_iadd hx hb dL_law_579 ?_
    refine lv_topi (fun x221 ex221 => ?_)
    obtain ⟨tx221, ejx221, evx221⟩ := lw_ix (k := 5) ex221 hI hL rfl (by decide)
    clear tx221
    refine va_sld hx hb hX hbl (Nat.not_le.mpr hbl) hSH175 (vp_in_iff.mpr evx221) dL_law_580 ?_
    refine W.eq (g2 := F0 m 581 ls [.int (xs (i.toNatClampNeg + 5)), .int (xs (i.toNatClampNeg + 4)), .int (xs (i.toNatClampNeg + 3)), .int (xs (i.toNatClampNeg + 2)), .int (xs (i.toNatClampNeg + 1)), .ref b]) (congrArg (fun z => F0 m 581 ls [.int (xs z), .int (xs (i.toNatClampNeg + 4)), .int (xs (i.toNatClampNeg + 3)), .int (xs (i.toNatClampNeg + 2)), .int (xs (i.toNatClampNeg + 1)), .ref b]) ejx221) ?_
    refine x_V (As := [.int (xs (i.toNatClampNeg + 1)), .int (xs (i.toNatClampNeg + 2)), .int (xs (i.toNatClampNeg + 3)), .int (xs (i.toNatClampNeg + 4)), .int (xs (i.toNatClampNeg + 5))]) (rest := []) C (a_X10_tells l K G H175 ((xs (i.toNatClampNeg + 1))) ((xs (i.toNatClampNeg + 2))) ((xs (i.toNatClampNeg + 3))) ((xs (i.toNatClampNeg + 4))) ((xs (i.toNatClampNeg + 5))) hTH175 gb g177 g178 g179 g180) yo_X10_tells wM_L_59 ⟨⟨by decide, by decide⟩, show _ ≤ 60000 from Nat.le_trans hc (by decide), show _ ≤ 8922250 from Nat.le_trans hs (by decide)⟩ (x_rv C hTH175 (ci := 10) rfl gb rg_112) rfl hl.1 rfl (Nat.le_of_ble_eq_true rfl) dL_law_581 hSH175 (AE_new hN hSH175.1) (fun vH222 H222 locsH222 pH222 zH222 kH222 hSH222 => ?_)
    obtain ⟨x223, hvH222, g224, g225, g226, g227, mf228, hTH222⟩ := pH222
    subst hvH222
    have f229 : ∀ j : Nat, fI H222 tq j = fI H tq j := fun j => (fI_kept (x_lt hTH175 kH222 gtq (by decide))).trans (f181 j)
    have f230 : ∀ j : Nat, fI H222 uq j = fI H uq j := fun j => (fI_kept (x_lt hTH175 kH222 guq (by decide))).trans (f182 j)
    have m231 := (m183).trans (fR_kept (x_lt hTH175 kH222 ga (by decide))).symm
    have m232 := (m184).trans (fI_kept (x_lt hTH175 kH222 ga (by decide))).symm
    have m233 := (m186).trans (fI_kept (x_lt hTH175 kH222 gw (by decide))).symm
    have m234 := (m188).trans (fI_kept (x_lt hTH175 kH222 gw (by decide))).symm
    have m235 := (m190).trans (fI_kept (x_lt hTH175 kH222 gw (by decide))).symm
    have m236 := (m192).trans (fI_kept (x_lt hTH175 kH222 gw (by decide))).symm
    have m237 := (m194).trans (fI_kept (x_lt hTH175 kH222 gw (by decide))).symm
    have m238 := (m196).trans (fI_kept (x_lt hTH175 kH222 gw (by decide))).symm
    have m239 := (m198).trans (fR_kept (x_lt hTH175 kH222 ga (by decide))).symm
    have m240 := (fV_kept (x_lt hTH175 kH222 ga (by decide))).trans m201
    have m241 := (m203).trans (fI_kept (x_lt hTH175 kH222 gkq (by decide))).symm
    have m242 := (m204).trans (fI_kept (x_lt hTH175 kH222 giq (by decide))).symm
    have m243 := (m205).trans (fI_kept (x_lt hTH175 kH222 gkq (by decide))).symm
    have m244 := (m206).trans (fI_kept (x_lt hTH175 kH222 giq (by decide))).symm
    have m245 := (m207).trans (fI_kept (x_lt hTH175 kH222 gkq (by decide))).symm
    have m246 := (m208).trans (fI_kept (x_lt hTH175 kH222 giq (by decide))).symm
    have m247 := (m209).trans (fI_kept (x_lt hTH175 kH222 gkq (by decide))).symm
    have m248 := (m210).trans (fI_kept (x_lt hTH175 kH222 giq (by decide))).symm
    have m249 := (m211).trans (fI_kept (x_lt hTH175 kH222 gkq (by decide))).symm
    have m250 := (m212).trans (fI_kept (x_lt hTH175 kH222 giq (by decide))).symm
    have m251 := (m213).trans (fI_kept (x_lt hTH175 kH222 gkq (by decide))).symm
    have m252 := (m214).trans (fI_kept (x_lt hTH175 kH222 giq (by decide))).symm
    have m253 := (m185).trans (MF.i mf228 (k := 18) (by decide) (by decide)).symm
    have m254 := (m187).trans (MF.i mf228 (k := 1) (by decide) (by decide)).symm
    have m255 := (m189).trans (MF.i mf228 (k := 2) (by decide) (by decide)).symm
    have m256 := (m191).trans (MF.i mf228 (k := 3) (by decide) (by decide)).symm
    have m257 := (m193).trans (MF.i mf228 (k := 59) (by decide) (by decide)).symm
    have m258 := (m195).trans (MF.i mf228 (k := 62) (by decide) (by decide)).symm
    have m259 := (m197).trans (MF.i mf228 (k := 65) (by decide) (by decide)).symm
    have m260 := (m199).trans (MF.r mf228 (k := 17) (by decide) (by decide)).symm
    have m261 := (m200).trans (MF.i mf228 (k := 70) (by decide) (by decide)).symm
    have m262 := (m202).trans (MF.r mf228 (k := 73) (by decide) (by decide)).symm
    refine W.eq (g2 := F0 m 584 ls [.int x223]) rfl ?_
    have rk263 : RKI K H222 kq iq k1.toInt := RKI.kept rk215 hTH175 gkq (x_lt hTH175 kH222 giq (by first | exact nmr ht (by decide) | exact nmo ht (by decide) | exact nme ht (by decide) | exact nmq ht (by decide) | decide | (intro z; simp only [List.mem_cons, List.not_mem_nil, or_false] at z <;> omega) | omega)) (fun q t hq ht => x_lt hTH175 kH222 hq (by first | exact nmr ht (by decide) | exact nmo ht (by decide) | exact nme ht (by decide) | exact nmq ht (by decide) | decide | (intro z; simp only [List.mem_cons, List.not_mem_nil, or_false] at z <;> omega) | omega))
    have re264 : RE K H222 w b s1.toInt := RE.ref re216 hTH175 gw gb (fun k hk => MF.r mf228 (by omega) (by intro z; simp only [List.mem_cons, List.not_mem_nil, or_false] at z; omega)) (fun q t hq ht => x_lt hTH175 kH222 hq (by first | exact nmr ht (by decide) | exact nmo ht (by decide) | exact nme ht (by decide) | exact nmq ht (by decide) | decide | (intro z; simp only [List.mem_cons, List.not_mem_nil, or_false] at z <;> omega) | omega))
    refine lv_pop hx hb dL_law_584 rfl ?_
    refine lv_goto (tgt := 1509) hx hb dL_law_585 (by decide) ?_
    exact nx G H222 locsH222 _ _ ls ⟨hTH222, hN, ga, gb, g224, g225, g226, g227, ⟨(by rw [← m232, ← m253]; exact rt), (by rw [← m231, ← m233, ← m254]; exact r1), (by rw [← m231, ← m234, ← m255]; exact r4), (by rw [← m231, ← m235, ← m256]; exact r5), (by rw [← m231, ← m236, ← m257]; exact r10), (by rw [← m231, ← m237, ← m258]; exact r13), (by rw [← m231, ← m238, ← m259]; exact r16)⟩, Or.inr ⟨kq, m240, gkq, (by rw [← m261]; exact h70), (by rw [← m241, ← m262, ← m242]; exact q1), (by rw [← m243, ← m262, ← m244]; exact q4), (by rw [← m245, ← m262, ← m246]; exact q5), (by rw [← m247, ← m262, ← m248]; exact q10), (by rw [← m249, ← m262, ← m250]; exact q13), (by rw [← m251, ← m262, ← m252]; exact q16), (by rw [← m262, ← m241]; exact RKI.cast rk263 (by omega)), (by rw [← m245]; omega), (by rw [← m245]; omega)⟩, (by unfold TB; rw [← m239, ← m260, ← m253]; exact TBR.of htr f229 f230 (by omega)), (by unfold RELE; rw [← m231, ← m254, ← m235]; exact ⟨RE.cast re264 (by omega), by omega, by omega⟩), hSH222⟩ hl ⟨hc, hs, fun h => by have h1 := h.symm.trans m240; cases h1⟩