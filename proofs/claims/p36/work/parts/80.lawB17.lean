set_option maxRecDepth 100000 in
set_option maxHeartbeats 8000000 in
theorem lw_c34 {p : Program} {l : Launch} {e : Env} {s : State} {m : MethodId} {below : List Frame} {meth : Method} {c : Code} {K : KE} {b0 L : Nat} {xs : Nat → Int32} {G : Nat → Option Nat} {H : Heap} {locs : List Loc} {a b : Nat} {cells slots : Nat} {ls : Array Slot} {i : Int32} {n : Nat} (D : LC p K s m meth c b0 L xs) (S : SX K s G H locs a b) (hl : lv_has ls 4 [(3, .int i), (2, .ref b), (1, .ref a), (0, .ref b0)]) (hi : 0 ≤ i.toInt ∧ i.toInt + 6 ≤ L) (hn : n ≤ 511) (hB : BD K H a cells slots) (nx : ∀ (G : Nat → Option Nat) (H : Heap) (locs : List Loc) (cells slots : Nat) (ls : Array Slot), SX K s G H locs a b → lv_has ls 4 [(3, .int i), (2, .ref b), (1, .ref a), (0, .ref b0)] → BD K H a cells slots → W p l e room_1 s m #[Value.ref b0] below meth c H locs cells slots (lw_Z below #[Value.ref b0] s) (F0 m 1509 ls [])) : W p l e room_1 s m #[Value.ref b0] below meth c H locs cells slots (lw_Z below #[Value.ref b0] s) (F0 m 1486 ls []) := by
  have hI := hi
  obtain ⟨C, hX, hbl, hL⟩ := id D
  obtain ⟨hx, hb, hml, hown, hts, hKT, hr, hlocks, hnm⟩ := id C
  obtain ⟨hT, hN, ga, gb, cg, tu, wd, im, ⟨rt, r1, r4, r5, r10, r13, r16⟩, hk, htb, her, hS⟩ := S
  obtain ⟨hc, hs, hB0⟩ := hB
  have n_1 : (1 : Int32).toInt = 1 := rfl
  obtain ⟨w, ew⟩ : ∃ z : Nat, z = fR H a (K.1.2 9 0) := ⟨_, rfl⟩
  have gw := ty_fr (q := w) (k := 0) (u := 0) ew hT ga rg_68 rfl
  rw [← ew] at r1 r4 r5 r10 r13 r16
  obtain ⟨ta, eta⟩ : ∃ z : Int32, z = fI H a (K.1.2 9 3) := ⟨_, rfl⟩
  rw [← eta] at rt
  obtain ⟨tb, etb⟩ : ∃ z : Int32, z = fI H b (K.1.2 10 18) := ⟨_, rfl⟩
  rw [← etb] at rt
  obtain ⟨s1, es1⟩ : ∃ z : Int32, z = fI H w (K.1.2 8 1) := ⟨_, rfl⟩
  rw [← es1] at r1
  obtain ⟨y1, ey1⟩ : ∃ z : Int32, z = fI H b (K.1.2 10 1) := ⟨_, rfl⟩
  rw [← ey1] at r1
  obtain ⟨s4, es4⟩ : ∃ z : Int32, z = fI H w (K.1.2 8 4) := ⟨_, rfl⟩
  rw [← es4] at r4
  obtain ⟨y4, ey4⟩ : ∃ z : Int32, z = fI H b (K.1.2 10 2) := ⟨_, rfl⟩
  rw [← ey4] at r4
  obtain ⟨s5, es5⟩ : ∃ z : Int32, z = fI H w (K.1.2 8 5) := ⟨_, rfl⟩
  rw [← es5] at r5
  obtain ⟨y5, ey5⟩ : ∃ z : Int32, z = fI H b (K.1.2 10 3) := ⟨_, rfl⟩
  rw [← ey5] at r5
  obtain ⟨s10, es10⟩ : ∃ z : Int32, z = fI H w (K.1.2 8 10) := ⟨_, rfl⟩
  rw [← es10] at r10
  obtain ⟨y10, ey10⟩ : ∃ z : Int32, z = fI H b (K.1.2 10 59) := ⟨_, rfl⟩
  rw [← ey10] at r10
  obtain ⟨s13, es13⟩ : ∃ z : Int32, z = fI H w (K.1.2 8 13) := ⟨_, rfl⟩
  rw [← es13] at r13
  obtain ⟨y13, ey13⟩ : ∃ z : Int32, z = fI H b (K.1.2 10 62) := ⟨_, rfl⟩
  rw [← ey13] at r13
  obtain ⟨s16, es16⟩ : ∃ z : Int32, z = fI H w (K.1.2 8 16) := ⟨_, rfl⟩
  rw [← es16] at r16
  obtain ⟨y16, ey16⟩ : ∃ z : Int32, z = fI H b (K.1.2 10 65) := ⟨_, rfl⟩
  rw [← ey16] at r16
  obtain ⟨tq, etq⟩ : ∃ z : Nat, z = fR H a (K.1.2 9 2) := ⟨_, rfl⟩
  have gtq := ty_fr (q := tq) (k := 2) (u := 108) etq hT ga rg_68 rfl
  obtain ⟨uq, euq⟩ : ∃ z : Nat, z = fR H b (K.1.2 10 17) := ⟨_, rfl⟩
  have guq := ty_fr (q := uq) (k := 17) (u := 126) euq hT gb rg_112 rfl
  have htr : TBR (fun j => fI H tq j) (fun j => fI H uq j) tb.toNatClampNeg := by rw [etq, euq, etb]; exact htb
  have ft0 : ∀ j : Nat, fI H tq j = fI H tq j := fun _ => rfl
  have fu0 : ∀ j : Nat, fI H uq j = fI H uq j := fun _ => rfl
  have bta := ty_fi (x := ta) (k := 3) eta hT ga rg_68 rfl
  have cta := i_cl (x := ta) (by omega)
  have btb := ty_fi (x := tb) (k := 18) etb hT gb rg_112 rfl
  have ctb := i_cl (x := tb) (by omega)
  obtain ⟨her0, hsl1, hsl2⟩ := her
  have hsl0 := And.intro hsl1 hsl2
  clear hsl1 hsl2
  rw [← ew] at her0 hsl0
  have re : RE K H w b s1.toInt := RE.cast her0 (by rw [← ey1]; exact r1)
  have hsl : 0 ≤ s5.toInt ∧ s5.toInt ≤ 9999 := by rw [es5]; exact hsl0
  clear her0 hsl0
  have bt_s1 := ty_fi (x := s1) (k := 1) es1 hT gw rg_0 rfl
  have bt_s4 := ty_fi (x := s4) (k := 4) es4 hT gw rg_0 rfl
  have bt_y1 := ty_fi (x := y1) (k := 1) ey1 hT gb rg_112 rfl
  have bt_y4 := ty_fi (x := y4) (k := 2) ey4 hT gb rg_112 rfl
  rcases hk with ⟨kn, h70⟩ | ⟨kq, kn, gkq, h70, q1, q4, q5, q10, q13, q16, rke, ks1, ks2⟩
  · skip
    obtain ⟨hi, ehi⟩ : ∃ z : Int32, z = fI H b (K.1.2 10 70) := ⟨_, rfl⟩
    rw [← ehi] at h70
    obtain ⟨hc0, hs0⟩ := hB0 kn
    obtain ⟨iq, eiq⟩ : ∃ z : Nat, z = fR H b (K.1.2 10 73) := ⟨_, rfl⟩
    have giq := ty_fr (q := iq) (k := 73) (u := 162) eiq hT gb rg_112 rfl
    refine lv_aload_n hx hb dL_law_1486 rfl (lv_at hl 2 rfl) ?_
    refine lv_aload_n hx hb dL_law_1487 rfl (lv_at hl 3 rfl) ?_
    refine lv_iload_n hx hb dL_law_1488 rfl (lv_at hl 0 rfl) ?_
    refine lv_iconst (v := 1) hx hb dL_law_1489 (by decide) ?_
    refine lv_iadd hx hb dL_law_1490 ?_
    refine lv_topi (fun x101 ex101 => ?_)
    obtain ⟨tx101, ejx101, evx101⟩ := lw_ix (k := 1) ex101 hI hL rfl (by decide)
    clear tx101
    refine va_sld hx hb hX hbl (Nat.not_le.mpr hbl) hS (vp_in_iff.mpr evx101) dL_law_1491 ?_
    refine W.eq (g2 := F0 m 1492 ls [.int (xs (i.toNatClampNeg + 1)), .ref a]) (congrArg (fun z => F0 m 1492 ls [.int (xs z), .ref a]) ejx101) ?_
    obtain ⟨bq, ebq⟩ : ∃ z : Nat, z = fR H w (K.1.2 8 0) := ⟨_, rfl⟩
    have gbq := ty_fr (q := bq) (k := 0) (u := 25) ebq hT gw rg_0 rfl
    have cfe := i_cl (x := s4) (by omega)
    obtain ⟨nE, kkE, vvE, hnE, hoE, ⟨htE, hcE, hbE⟩, hrE0⟩ := re.2.2 (s4 : Int32).toNatClampNeg (by omega)
    have lwE : LWT (s4 : Int32).toNatClampNeg = 1 := if_pos (by omega)
    rw [lwE] at hoE htE hrE0
    obtain ⟨lq_, elq_⟩ : ∃ z : Nat, z = fR H w (K.1.2 8 2) := ⟨_, rfl⟩
    have glq_ := ty_fr (q := lq_) (k := 2) (u := 26) elq_ hT gw rg_0 rfl
    obtain ⟨tx_, etx_⟩ : ∃ z : Nat, z = fR H lq_ (s4 : Int32).toNatClampNeg := ⟨_, rfl⟩
    have eow_ : ow K H w (10 + (s4 : Int32).toNatClampNeg) = tx_ := by rw [ow_l (by omega), ← elq_, ← etx_]
    have gtx_ : G tx_ = some 16 := by rw [← eow_]; exact ow_t hT gw (by omega) (by omega)
    rw [eow_] at htE hcE
    have hxE : TXC K H tx_ 1 (txFs kkE vvE 1) (txFw kkE vvE 1) := htE.txc hcE
    obtain ⟨q102, eq102⟩ : ∃ z : Nat, @Eq Ad z (fR H a (K.1.2 9 5)) := ⟨_, rfl⟩
    have gq102 := ty_fr (q := q102) (k := 5) (u := 82) eq102 hT ga rg_68 rfl
    refine x_V (As := [.int (xs (i.toNatClampNeg + 1))]) (rest := []) C (a_X9_look_v l K G H ((xs (i.toNatClampNeg + 1))) (s4) (s5) (s1) (s10) (s13) (s16) (txFs kkE vvE 1) (txFw kkE vvE 1) hT ga gq102 eq102 gw ew glq_ elq_ gtx_ etx_ gbq ebq es4 es5 es1 es10 es13 es16 (by omega) (hxE) (fun j h1 h2 => by have z := (re.2.1.1 j h1 h2).2.2; rw [show vcN K H w j = vwC K H (fR H bq j) from by show vwC K H (ow K H w j) = _; rw [ow_b h1, ← ebq]] at z; exact z)) yo_X9_look wM_L_158 ⟨⟨by decide, by decide⟩, show _ ≤ 60000 from Nat.le_trans hc (by decide), show _ ≤ 8922250 from Nat.le_trans hs (by decide)⟩ (x_rv C hT (ci := 9) rfl ga rg_68) rfl hl.1 rfl (Nat.le_of_ble_eq_true rfl) dL_law_1492 hS (AE_new hN hS.1) (fun vH103 H103 locsH103 pH103 zH103 kH103 hSH103 => ?_)
    obtain ⟨x104, hvH103, m105, hTH103⟩ := pH103
    subst hvH103
    have g106 : CG (avw K H103 b) := CG.congr (fun k hk j => av_eff hT kH103 gb (by decide) (CG_eff [83, 84] (by decide) k hk)) cg
    have g107 : TU (avw K H103 b) (svw K H103 b) := TU.congr (fun k hk j => av_eff hT kH103 gb (by decide) (TU_eff [83, 84] (by decide) k hk)) (fun k hk => sv_eff hT kH103 gb (by decide)) tu
    have g108 : WD (avw K H103 b) := WD.congr (fun k hk j => av_eff hT kH103 gb (by decide) (WD_eff [83, 84] (by decide) k hk)) wd
    have g109 : IM (avw K H103 b) := IM.congr (fun k hk j => av_eff hT kH103 gb (by decide) (IM_eff [83, 84] (by decide) k hk)) im
    have f110 : ∀ j : Nat, fI H103 tq j = fI H tq j := fun j => (fI_kept (x_lt hT kH103 gtq (by decide))).trans (ft0 j)
    have f111 : ∀ j : Nat, fI H103 uq j = fI H uq j := fun j => (fI_kept (x_lt hT kH103 guq (by decide))).trans (fu0 j)
    have m112 := (ew).trans (fR_kept (x_lt hT kH103 ga (by decide))).symm
    have m113 := (eta).trans (fI_kept (x_lt hT kH103 ga (by decide))).symm
    have m114 := (etb).trans (fI_kept (x_lt hT kH103 gb (by decide))).symm
    have m115 := (es1).trans (fI_kept (x_lt hT kH103 gw (by decide))).symm
    have m116 := (ey1).trans (fI_kept (x_lt hT kH103 gb (by decide))).symm
    have m117 := (es4).trans (fI_kept (x_lt hT kH103 gw (by decide))).symm
    have m118 := (ey4).trans (fI_kept (x_lt hT kH103 gb (by decide))).symm
    have m119 := (es5).trans (fI_kept (x_lt hT kH103 gw (by decide))).symm
    have m120 := (ey5).trans (fI_kept (x_lt hT kH103 gb (by decide))).symm
    have m121 := (es10).trans (fI_kept (x_lt hT kH103 gw (by decide))).symm
    have m122 := (ey10).trans (fI_kept (x_lt hT kH103 gb (by decide))).symm
    have m123 := (es13).trans (fI_kept (x_lt hT kH103 gw (by decide))).symm
    have m124 := (ey13).trans (fI_kept (x_lt hT kH103 gb (by decide))).symm
    have m125 := (es16).trans (fI_kept (x_lt hT kH103 gw (by decide))).symm
    have m126 := (ey16).trans (fI_kept (x_lt hT kH103 gb (by decide))).symm
    have m127 := (etq).trans (fR_kept (x_lt hT kH103 ga (by decide))).symm
    have m128 := (euq).trans (fR_kept (x_lt hT kH103 gb (by decide))).symm
    have m129 := (ehi).trans (fI_kept (x_lt hT kH103 gb (by decide))).symm
    have m130 := (fV_kept (x_lt hT kH103 ga (by decide))).trans kn
    have m131 := (eiq).trans (fR_kept (x_lt hT kH103 gb (by decide))).symm
    have m132 := (ebq).trans (fR_kept (x_lt hT kH103 gw (by decide))).symm
    have m133 := (elq_).trans (fR_kept (x_lt hT kH103 gw (by decide))).symm
    have m134 := (etx_).trans (fR_kept (x_lt hT kH103 glq_ (by decide))).symm
    have m135 := (eq102).trans (fR_kept (x_lt hT kH103 ga (by decide))).symm
    refine W.eq (g2 := F0 m 1495 ls [.int x104]) rfl ?_
    have er1 : ∀ bar, vrN K H103 b bar = vrN K H b bar := vrN.reg hT gb (fun k _ => fR_kept (x_lt hT kH103 gb (by first | exact nmr ht (by decide) | exact nmo ht (by decide) | exact nme ht (by decide) | exact nmq ht (by decide) | decide | (intro z; simp only [List.mem_cons, List.not_mem_nil, or_false] at z <;> omega) | omega))) (fun q t hq ht => x_lt hT kH103 hq (by first | exact nmr ht (by decide) | exact nmo ht (by decide) | exact nme ht (by decide) | exact nmq ht (by decide) | decide | (intro z; simp only [List.mem_cons, List.not_mem_nil, or_false] at z <;> omega) | omega))
    have tr1 : TPK (TRP K H103 b) (TRP K H b) := TRP.reg hT gb (fun k _ _ => fR_kept (x_lt hT kH103 gb (by first | exact nmr ht (by decide) | exact nmo ht (by decide) | exact nme ht (by decide) | exact nmq ht (by decide) | decide | (intro z; simp only [List.mem_cons, List.not_mem_nil, or_false] at z <;> omega) | omega))) (fun q t hq ht => x_lt hT kH103 hq (by first | exact nmr ht (by decide) | exact nmo ht (by decide) | exact nme ht (by decide) | exact nmq ht (by decide) | decide | (intro z; simp only [List.mem_cons, List.not_mem_nil, or_false] at z <;> omega) | omega))
    have re136 : RE K H103 w b s1.toInt := RE.cls re hT gw gb (fun q t hq ht => x_lt hT kH103 hq (by first | exact nmr ht (by decide) | exact nmo ht (by decide) | exact nme ht (by decide) | exact nmq ht (by decide) | decide | (intro z; simp only [List.mem_cons, List.not_mem_nil, or_false] at z <;> omega) | omega))
    refine lv_aload_n hx hb dL_law_1495 rfl (lv_at hl 1 rfl) ?_
    refine lv_aload_n hx hb dL_law_1496 rfl (lv_at hl 3 rfl) ?_
    refine lv_iload_n hx hb dL_law_1497 rfl (lv_at hl 0 rfl) ?_
    refine lv_iconst (v := 1) hx hb dL_law_1498 (by decide) ?_
    refine lv_iadd hx hb dL_law_1499 ?_
    refine lv_topi (fun x137 ex137 => ?_)
    obtain ⟨tx137, ejx137, evx137⟩ := lw_ix (k := 1) ex137 hI hL rfl (by decide)
    clear tx137
    refine va_sld hx hb hX hbl (Nat.not_le.mpr hbl) hSH103 (vp_in_iff.mpr evx137) dL_law_1500 ?_
    refine W.eq (g2 := F0 m 1501 ls [.int (xs (i.toNatClampNeg + 1)), .ref b, .int x104]) (congrArg (fun z => F0 m 1501 ls [.int (xs z), .ref b, .int x104]) ejx137) ?_
    obtain ⟨q138, eq138⟩ : ∃ z : Nat, @Eq Ad z (fR H103 b (K.1.2 10 24)) := ⟨_, rfl⟩
    have gq138 := ty_fr (q := q138) (k := 24) (u := 128) eq138 hTH103 gb rg_112 rfl
    have cye := i_cl (x := y4) (by omega)
    have hy4_ : (y4 : Int32).toNatClampNeg = (s4 : Int32).toNatClampNeg := by omega
    have hr1_ := tr1 _ kkE vvE 1 nE (by omega) hnE hrE0
    rw [← hy4_] at hr1_
    obtain ⟨hrE, hmE⟩ := hr1_
    have cmE := i_cl (x := fI H103 (fR H103 b (K.1.2 10 24)) (y4 : Int32).toNatClampNeg) (by omega)
    have hyE : TXR K H103 b (y4 : Int32).toNatClampNeg 1 (txRs kkE vvE 1 (y4 : Int32).toNatClampNeg) (txRw kkE vvE 1 (y4 : Int32).toNatClampNeg) := hrE.txr (by omega)
    have ccE := i_cl (x := fI H tx_ (K.1.2 7 0)) (by omega)
    have hTT_ := EqT.of htE hrE (by decide) (by omega) (by omega)
    obtain ⟨q139, eq139⟩ : ∃ z : Nat, @Eq Ad z (fR H103 b (K.1.2 10 9)) := ⟨_, rfl⟩
    have gq139 := ty_fr (q := q139) (k := 9) (u := 118) eq139 hTH103 gb rg_112 rfl
    refine x_V (As := [.int (xs (i.toNatClampNeg + 1))]) (rest := [.int x104]) C (a_X10_look_v l K G H103 ((xs (i.toNatClampNeg + 1))) (y4) (y5) (y1) (y10) (y13) (y16) (txRs kkE vvE 1 (y4 : Int32).toNatClampNeg) (txRw kkE vvE 1 (y4 : Int32).toNatClampNeg) hTH103 gb gq139 eq139 m118 m120 m116 m122 m124 m126 g106 g107 g108 g109 (by omega) (hyE) (fun j h1 h2 => by have z := (re.2.1.1 j h1 (by omega)).2.2.eqw (re.2.1.1 j h1 (by omega)).1 (re.2.1.1 j h1 (by omega)).2.1; rw [show vrN K H b j = vwR K H103 b j from (er1 j).symm] at z; exact z)) yo_X10_look wM_L_161 ⟨⟨by decide, by decide⟩, show _ ≤ 60000 from Nat.le_trans hc (by decide), show _ ≤ 8922250 from Nat.le_trans hs (by decide)⟩ (x_rv C hTH103 (ci := 10) rfl gb rg_112) rfl hl.1 rfl (Nat.le_of_ble_eq_true rfl) dL_law_1501 hSH103 (AE_new hN hSH103.1) (fun vH140 H140 locsH140 pH140 zH140 kH140 hSH140 => ?_)
    obtain ⟨x141, hvH140, m142, m143, m144, m145, m146, m147, m148, g149, g150, g151, g152, mf153, m154, hTH140⟩ := pH140
    subst hvH140
    have f155 : ∀ j : Nat, fI H140 tq j = fI H tq j := fun j => (fI_kept (x_lt hTH103 kH140 gtq (by decide))).trans (f110 j)
    have f156 : ∀ j : Nat, fI H140 uq j = fI H uq j := fun j => (fI_kept (x_lt hTH103 kH140 guq (by decide))).trans (f111 j)
    have m157 := (m112).trans (fR_kept (x_lt hTH103 kH140 ga (by decide))).symm
    have m158 := (m113).trans (fI_kept (x_lt hTH103 kH140 ga (by decide))).symm
    have m159 := (m115).trans (fI_kept (x_lt hTH103 kH140 gw (by decide))).symm
    have m160 := (m117).trans (fI_kept (x_lt hTH103 kH140 gw (by decide))).symm
    have m161 := (m119).trans (fI_kept (x_lt hTH103 kH140 gw (by decide))).symm
    have m162 := (m121).trans (fI_kept (x_lt hTH103 kH140 gw (by decide))).symm
    have m163 := (m123).trans (fI_kept (x_lt hTH103 kH140 gw (by decide))).symm
    have m164 := (m125).trans (fI_kept (x_lt hTH103 kH140 gw (by decide))).symm
    have m165 := (m127).trans (fR_kept (x_lt hTH103 kH140 ga (by decide))).symm
    have m166 := (fV_kept (x_lt hTH103 kH140 ga (by decide))).trans m130
    have m167 := (m132).trans (fR_kept (x_lt hTH103 kH140 gw (by decide))).symm
    have m168 := (m133).trans (fR_kept (x_lt hTH103 kH140 gw (by decide))).symm
    have m169 := (m134).trans (fR_kept (x_lt hTH103 kH140 glq_ (by decide))).symm
    have m170 := (m135).trans (fR_kept (x_lt hTH103 kH140 ga (by decide))).symm
    have m171 := (m114).trans (MF.i mf153 (k := 18) (by decide) (by decide)).symm
    have m172 := (m116).trans (MF.i mf153 (k := 1) (by decide) (by decide)).symm
    have m173 := (m118).trans (MF.i mf153 (k := 2) (by decide) (by decide)).symm
    have m174 := (m120).trans (MF.i mf153 (k := 3) (by decide) (by decide)).symm
    have m175 := (m122).trans (MF.i mf153 (k := 59) (by decide) (by decide)).symm
    have m176 := (m124).trans (MF.i mf153 (k := 62) (by decide) (by decide)).symm
    have m177 := (m126).trans (MF.i mf153 (k := 65) (by decide) (by decide)).symm
    have m178 := (m128).trans (MF.r mf153 (k := 17) (by decide) (by decide)).symm
    have m179 := (m129).trans (MF.i mf153 (k := 70) (by decide) (by decide)).symm
    have m180 := (m131).trans (MF.r mf153 (k := 73) (by decide) (by decide)).symm
    have m181 := (eq138).trans (MF.r mf153 (k := 24) (by decide) (by decide)).symm
    have m182 := (eq139).trans (MF.r mf153 (k := 9) (by decide) (by decide)).symm
    refine W.eq (g2 := F0 m 1504 ls [.int x141, .int x104]) rfl ?_
    have hbp_ : BPE s1.toInt (fun j : Nat => vwC K H (fR H bq j)) (fun j : Nat => vwR K H103 b j) := re.2.1.congr (fun j hj => by show vwC K H (fR H bq j) = vwC K H (ow K H w j); rw [ow_b hj, ← ebq]) (fun j _ => by show EqV (vwR K H103 b j) (vwR K H b j); rw [show vwR K H103 b j = vwR K H b j from er1 j]; exact EqV.rf)
    have cs1_ := i_cl (x := s1) (by omega)
    have cy1_ := i_cl (x := y1) (by omega)
    have cl_ := cnt_both (F := lostW) (sl := s5.toInt) (fun v u e o => lostW_congrW hTT_ e o) hbp_ (n := s1.toNatClampNeg) (by omega) (by omega)
    (try dsimp only at cl_)
    have ct_ := cnt_both (F := trueW) (sl := s5.toInt) (fun v u e o => trueW_congrW hTT_ e o) hbp_ (n := s1.toNatClampNeg) (by omega) (by omega)
    (try dsimp only at ct_)
    have oq_ := m154
    rw [show y5.toInt = s5.toInt by omega, show y1.toNatClampNeg = s1.toNatClampNeg by omega, ← cl_, ← ct_] at oq_
    have oc_ := m105
    have hrq_ : x104.toInt = x141.toInt := by omega
    have re183 : RE K H140 w b s1.toInt := RE.ref re136 hTH103 gw gb (fun k hk => MF.r mf153 (by omega) (by intro z; simp only [List.mem_cons, List.not_mem_nil, or_false] at z; omega)) (fun q t hq ht => x_lt hTH103 kH140 hq (by first | exact nmr ht (by decide) | exact nmo ht (by decide) | exact nme ht (by decide) | exact nmq ht (by decide) | decide | (intro z; simp only [List.mem_cons, List.not_mem_nil, or_false] at z <;> omega) | omega))
    refine lv_icmp_eq (tgt := 1509) hx hb dL_law_1504 (by decide) (fun ce => ?_) (fun ce => ?_)
    · skip
      exact nx G H140 locsH140 _ _ ls ⟨hTH140, hN, ga, gb, g149, g150, g151, g152, ⟨(by rw [← m158, ← m171]; exact rt), (by rw [← m157, ← m159, ← m145]; exact r1), (by rw [← m157, ← m160, ← m143]; exact r4), (by rw [← m157, ← m161, ← m144]; exact r5), (by rw [← m157, ← m162, ← m146]; exact r10), (by rw [← m157, ← m163, ← m147]; exact r13), (by rw [← m157, ← m164, ← m148]; exact r16)⟩, Or.inl ⟨m166, (by rw [← m179]; exact h70)⟩, (by unfold TB; rw [← m165, ← m178, ← m171]; exact TBR.of htr f155 f156 (by omega)), (by unfold RELE; rw [← m157, ← m145, ← m161]; exact ⟨RE.cast re183 (by omega), by omega, by omega⟩), hSH140⟩ hl ⟨hc, hs, fun _ => ⟨hc0, hs0⟩⟩
    · exfalso
      have := i_ne ce
      omega
  · skip
    obtain ⟨hi, ehi⟩ : ∃ z : Int32, z = fI H b (K.1.2 10 70) := ⟨_, rfl⟩
    rw [← ehi] at h70
    obtain ⟨iq, eiq⟩ : ∃ z : Nat, z = fR H b (K.1.2 10 73) := ⟨_, rfl⟩
    have giq := ty_fr (q := iq) (k := 73) (u := 162) eiq hT gb rg_112 rfl
    rw [← eiq] at q1 q4 q5 q10 q13 q16
    obtain ⟨k1, ek1⟩ : ∃ z : Int32, z = fI H kq (K.1.2 8 1) := ⟨_, rfl⟩
    rw [← ek1] at q1
    obtain ⟨i1, ei1⟩ : ∃ z : Int32, z = fI H iq ((0 : Int32).toNatClampNeg) := ⟨_, rfl⟩
    rw [← ei1] at q1
    obtain ⟨k4, ek4⟩ : ∃ z : Int32, z = fI H kq (K.1.2 8 4) := ⟨_, rfl⟩
    rw [← ek4] at q4
    obtain ⟨i4, ei4⟩ : ∃ z : Int32, z = fI H iq ((1 : Int32).toNatClampNeg) := ⟨_, rfl⟩
    rw [← ei4] at q4
    obtain ⟨k5, ek5⟩ : ∃ z : Int32, z = fI H kq (K.1.2 8 5) := ⟨_, rfl⟩
    rw [← ek5] at q5
    obtain ⟨i5, ei5⟩ : ∃ z : Int32, z = fI H iq ((2 : Int32).toNatClampNeg) := ⟨_, rfl⟩
    rw [← ei5] at q5
    obtain ⟨k10, ek10⟩ : ∃ z : Int32, z = fI H kq (K.1.2 8 10) := ⟨_, rfl⟩
    rw [← ek10] at q10
    obtain ⟨i10, ei10⟩ : ∃ z : Int32, z = fI H iq ((3 : Int32).toNatClampNeg) := ⟨_, rfl⟩
    rw [← ei10] at q10
    obtain ⟨k13, ek13⟩ : ∃ z : Int32, z = fI H kq (K.1.2 8 13) := ⟨_, rfl⟩
    rw [← ek13] at q13
    obtain ⟨i13, ei13⟩ : ∃ z : Int32, z = fI H iq ((4 : Int32).toNatClampNeg) := ⟨_, rfl⟩
    rw [← ei13] at q13
    obtain ⟨k16, ek16⟩ : ∃ z : Int32, z = fI H kq (K.1.2 8 16) := ⟨_, rfl⟩
    rw [← ek16] at q16
    obtain ⟨i16, ei16⟩ : ∃ z : Int32, z = fI H iq ((5 : Int32).toNatClampNeg) := ⟨_, rfl⟩
    rw [← ei16] at q16
    rw [← eiq, ← ek1] at rke
    have hsk : 0 ≤ k5.toInt ∧ k5.toInt ≤ 9999 := by rw [ek5]; exact ⟨ks1, ks2⟩
    refine lv_aload_n hx hb dL_law_1486 rfl (lv_at hl 2 rfl) ?_
    refine lv_aload_n hx hb dL_law_1487 rfl (lv_at hl 3 rfl) ?_
    refine lv_iload_n hx hb dL_law_1488 rfl (lv_at hl 0 rfl) ?_
    refine lv_iconst (v := 1) hx hb dL_law_1489 (by decide) ?_
    refine lv_iadd hx hb dL_law_1490 ?_
    refine lv_topi (fun x184 ex184 => ?_)
    obtain ⟨tx184, ejx184, evx184⟩ := lw_ix (k := 1) ex184 hI hL rfl (by decide)
    clear tx184
    refine va_sld hx hb hX hbl (Nat.not_le.mpr hbl) hS (vp_in_iff.mpr evx184) dL_law_1491 ?_
    refine W.eq (g2 := F0 m 1492 ls [.int (xs (i.toNatClampNeg + 1)), .ref a]) (congrArg (fun z => F0 m 1492 ls [.int (xs z), .ref a]) ejx184) ?_
    obtain ⟨bq, ebq⟩ : ∃ z : Nat, z = fR H w (K.1.2 8 0) := ⟨_, rfl⟩
    have gbq := ty_fr (q := bq) (k := 0) (u := 25) ebq hT gw rg_0 rfl
    have cfe := i_cl (x := s4) (by omega)
    obtain ⟨nE, kkE, vvE, hnE, hoE, ⟨htE, hcE, hbE⟩, hrE0⟩ := re.2.2 (s4 : Int32).toNatClampNeg (by omega)
    have lwE : LWT (s4 : Int32).toNatClampNeg = 1 := if_pos (by omega)
    rw [lwE] at hoE htE hrE0
    obtain ⟨lq_, elq_⟩ : ∃ z : Nat, z = fR H w (K.1.2 8 2) := ⟨_, rfl⟩
    have glq_ := ty_fr (q := lq_) (k := 2) (u := 26) elq_ hT gw rg_0 rfl
    obtain ⟨tx_, etx_⟩ : ∃ z : Nat, z = fR H lq_ (s4 : Int32).toNatClampNeg := ⟨_, rfl⟩
    have eow_ : ow K H w (10 + (s4 : Int32).toNatClampNeg) = tx_ := by rw [ow_l (by omega), ← elq_, ← etx_]
    have gtx_ : G tx_ = some 16 := by rw [← eow_]; exact ow_t hT gw (by omega) (by omega)
    rw [eow_] at htE hcE
    have hxE : TXC K H tx_ 1 (txFs kkE vvE 1) (txFw kkE vvE 1) := htE.txc hcE
    obtain ⟨q185, eq185⟩ : ∃ z : Nat, @Eq Ad z (fR H a (K.1.2 9 5)) := ⟨_, rfl⟩
    have gq185 := ty_fr (q := q185) (k := 5) (u := 82) eq185 hT ga rg_68 rfl
    refine x_V (As := [.int (xs (i.toNatClampNeg + 1))]) (rest := []) C (a_X9_look_v l K G H ((xs (i.toNatClampNeg + 1))) (s4) (s5) (s1) (s10) (s13) (s16) (txFs kkE vvE 1) (txFw kkE vvE 1) hT ga gq185 eq185 gw ew glq_ elq_ gtx_ etx_ gbq ebq es4 es5 es1 es10 es13 es16 (by omega) (hxE) (fun j h1 h2 => by have z := (re.2.1.1 j h1 h2).2.2; rw [show vcN K H w j = vwC K H (fR H bq j) from by show vwC K H (ow K H w j) = _; rw [ow_b h1, ← ebq]] at z; exact z)) yo_X9_look wM_L_158 ⟨⟨by decide, by decide⟩, show _ ≤ 60000 from Nat.le_trans hc (by decide), show _ ≤ 8922250 from Nat.le_trans hs (by decide)⟩ (x_rv C hT (ci := 9) rfl ga rg_68) rfl hl.1 rfl (Nat.le_of_ble_eq_true rfl) dL_law_1492 hS (AE_new hN hS.1) (fun vH186 H186 locsH186 pH186 zH186 kH186 hSH186 => ?_)
    obtain ⟨x187, hvH186, m188, hTH186⟩ := pH186
    subst hvH186
    have g189 : CG (avw K H186 b) := CG.congr (fun k hk j => av_eff hT kH186 gb (by decide) (CG_eff [83, 84] (by decide) k hk)) cg
    have g190 : TU (avw K H186 b) (svw K H186 b) := TU.congr (fun k hk j => av_eff hT kH186 gb (by decide) (TU_eff [83, 84] (by decide) k hk)) (fun k hk => sv_eff hT kH186 gb (by decide)) tu
    have g191 : WD (avw K H186 b) := WD.congr (fun k hk j => av_eff hT kH186 gb (by decide) (WD_eff [83, 84] (by decide) k hk)) wd
    have g192 : IM (avw K H186 b) := IM.congr (fun k hk j => av_eff hT kH186 gb (by decide) (IM_eff [83, 84] (by decide) k hk)) im
    have f193 : ∀ j : Nat, fI H186 tq j = fI H tq j := fun j => (fI_kept (x_lt hT kH186 gtq (by decide))).trans (ft0 j)
    have f194 : ∀ j : Nat, fI H186 uq j = fI H uq j := fun j => (fI_kept (x_lt hT kH186 guq (by decide))).trans (fu0 j)
    have m195 := (ew).trans (fR_kept (x_lt hT kH186 ga (by decide))).symm
    have m196 := (eta).trans (fI_kept (x_lt hT kH186 ga (by decide))).symm
    have m197 := (etb).trans (fI_kept (x_lt hT kH186 gb (by decide))).symm
    have m198 := (es1).trans (fI_kept (x_lt hT kH186 gw (by decide))).symm
    have m199 := (ey1).trans (fI_kept (x_lt hT kH186 gb (by decide))).symm
    have m200 := (es4).trans (fI_kept (x_lt hT kH186 gw (by decide))).symm
    have m201 := (ey4).trans (fI_kept (x_lt hT kH186 gb (by decide))).symm
    have m202 := (es5).trans (fI_kept (x_lt hT kH186 gw (by decide))).symm
    have m203 := (ey5).trans (fI_kept (x_lt hT kH186 gb (by decide))).symm
    have m204 := (es10).trans (fI_kept (x_lt hT kH186 gw (by decide))).symm
    have m205 := (ey10).trans (fI_kept (x_lt hT kH186 gb (by decide))).symm
    have m206 := (es13).trans (fI_kept (x_lt hT kH186 gw (by decide))).symm
    have m207 := (ey13).trans (fI_kept (x_lt hT kH186 gb (by decide))).symm
    have m208 := (es16).trans (fI_kept (x_lt hT kH186 gw (by decide))).symm
    have m209 := (ey16).trans (fI_kept (x_lt hT kH186 gb (by decide))).symm
    have m210 := (etq).trans (fR_kept (x_lt hT kH186 ga (by decide))).symm
    have m211 := (euq).trans (fR_kept (x_lt hT kH186 gb (by decide))).symm
    have m212 := (ehi).trans (fI_kept (x_lt hT kH186 gb (by decide))).symm
    have m213 := (fV_kept (x_lt hT kH186 ga (by decide))).trans kn
    have m214 := (eiq).trans (fR_kept (x_lt hT kH186 gb (by decide))).symm
    have m215 := (ek1).trans (fI_kept (x_lt hT kH186 gkq (by decide))).symm
    have m216 := (ei1).trans (fI_kept (x_lt hT kH186 giq (by decide))).symm
    have m217 := (ek4).trans (fI_kept (x_lt hT kH186 gkq (by decide))).symm
    have m218 := (ei4).trans (fI_kept (x_lt hT kH186 giq (by decide))).symm
    have m219 := (ek5).trans (fI_kept (x_lt hT kH186 gkq (by decide))).symm
    have m220 := (ei5).trans (fI_kept (x_lt hT kH186 giq (by decide))).symm
    have m221 := (ek10).trans (fI_kept (x_lt hT kH186 gkq (by decide))).symm
    have m222 := (ei10).trans (fI_kept (x_lt hT kH186 giq (by decide))).symm
    have m223 := (ek13).trans (fI_kept (x_lt hT kH186 gkq (by decide))).symm
    have m224 := (ei13).trans (fI_kept (x_lt hT kH186 giq (by decide))).symm
    have m225 := (ek16).trans (fI_kept (x_lt hT kH186 gkq (by decide))).symm
    have m226 := (ei16).trans (fI_kept (x_lt hT kH186 giq (by decide))).symm
    have m227 := (ebq).trans (fR_kept (x_lt hT kH186 gw (by decide))).symm
    have m228 := (elq_).trans (fR_kept (x_lt hT kH186 gw (by decide))).symm
    have m229 := (etx_).trans (fR_kept (x_lt hT kH186 glq_ (by decide))).symm
    have m230 := (eq185).trans (fR_kept (x_lt hT kH186 ga (by decide))).symm
    refine W.eq (g2 := F0 m 1495 ls [.int x187]) rfl ?_
    have rk231 : RKI K H186 kq iq k1.toInt := RKI.kept rke hT gkq (x_lt hT kH186 giq (by first | exact nmr ht (by decide) | exact nmo ht (by decide) | exact nme ht (by decide) | exact nmq ht (by decide) | decide | (intro z; simp only [List.mem_cons, List.not_mem_nil, or_false] at z <;> omega) | omega)) (fun q t hq ht => x_lt hT kH186 hq (by first | exact nmr ht (by decide) | exact nmo ht (by decide) | exact nme ht (by decide) | exact nmq ht (by decide) | decide | (intro z; simp only [List.mem_cons, List.not_mem_nil, or_false] at z <;> omega) | omega))
    have er1 : ∀ bar, vrN K H186 b bar = vrN K H b bar := vrN.reg hT gb (fun k _ => fR_kept (x_lt hT kH186 gb (by first | exact nmr ht (by decide) | exact nmo ht (by decide) | exact nme ht (by decide) | exact nmq ht (by decide) | decide | (intro z; simp only [List.mem_cons, List.not_mem_nil, or_false] at z <;> omega) | omega))) (fun q t hq ht => x_lt hT kH186 hq (by first | exact nmr ht (by decide) | exact nmo ht (by decide) | exact nme ht (by decide) | exact nmq ht (by decide) | decide | (intro z; simp only [List.mem_cons, List.not_mem_nil, or_false] at z <;> omega) | omega))
    have tr1 : TPK (TRP K H186 b) (TRP K H b) := TRP.reg hT gb (fun k _ _ => fR_kept (x_lt hT kH186 gb (by first | exact nmr ht (by decide) | exact nmo ht (by decide) | exact nme ht (by decide) | exact nmq ht (by decide) | decide | (intro z; simp only [List.mem_cons, List.not_mem_nil, or_false] at z <;> omega) | omega))) (fun q t hq ht => x_lt hT kH186 hq (by first | exact nmr ht (by decide) | exact nmo ht (by decide) | exact nme ht (by decide) | exact nmq ht (by decide) | decide | (intro z; simp only [List.mem_cons, List.not_mem_nil, or_false] at z <;> omega) | omega))
    have re232 : RE K H186 w b s1.toInt := RE.cls re hT gw gb (fun q t hq ht => x_lt hT kH186 hq (by first | exact nmr ht (by decide) | exact nmo ht (by decide) | exact nme ht (by decide) | exact nmq ht (by decide) | decide | (intro z; simp only [List.mem_cons, List.not_mem_nil, or_false] at z <;> omega) | omega))
    refine lv_aload_n hx hb dL_law_1495 rfl (lv_at hl 1 rfl) ?_
    refine lv_aload_n hx hb dL_law_1496 rfl (lv_at hl 3 rfl) ?_
    refine lv_iload_n hx hb dL_law_1497 rfl (lv_at hl 0 rfl) ?_
    refine lv_iconst (v := 1) hx hb dL_law_1498 (by decide) ?_
    refine lv_iadd hx hb dL_law_1499 ?_
    refine lv_topi (fun x233 ex233 => ?_)
    obtain ⟨tx233, ejx233, evx233⟩ := lw_ix (k := 1) ex233 hI hL rfl (by decide)
    clear tx233
    refine va_sld hx hb hX hbl (Nat.not_le.mpr hbl) hSH186 (vp_in_iff.mpr evx233) dL_law_1500 ?_
    refine W.eq (g2 := F0 m 1501 ls [.int (xs (i.toNatClampNeg + 1)), .ref b, .int x187]) (congrArg (fun z => F0 m 1501 ls [.int (xs z), .ref b, .int x187]) ejx233) ?_
    obtain ⟨q234, eq234⟩ : ∃ z : Nat, @Eq Ad z (fR H186 b (K.1.2 10 24)) := ⟨_, rfl⟩
    have gq234 := ty_fr (q := q234) (k := 24) (u := 128) eq234 hTH186 gb rg_112 rfl
    have cye := i_cl (x := y4) (by omega)
    have hy4_ : (y4 : Int32).toNatClampNeg = (s4 : Int32).toNatClampNeg := by omega
    have hr1_ := tr1 _ kkE vvE 1 nE (by omega) hnE hrE0
    rw [← hy4_] at hr1_
    obtain ⟨hrE, hmE⟩ := hr1_
    have cmE := i_cl (x := fI H186 (fR H186 b (K.1.2 10 24)) (y4 : Int32).toNatClampNeg) (by omega)
    have hyE : TXR K H186 b (y4 : Int32).toNatClampNeg 1 (txRs kkE vvE 1 (y4 : Int32).toNatClampNeg) (txRw kkE vvE 1 (y4 : Int32).toNatClampNeg) := hrE.txr (by omega)
    have ccE := i_cl (x := fI H tx_ (K.1.2 7 0)) (by omega)
    have hTT_ := EqT.of htE hrE (by decide) (by omega) (by omega)
    obtain ⟨q235, eq235⟩ : ∃ z : Nat, @Eq Ad z (fR H186 b (K.1.2 10 9)) := ⟨_, rfl⟩
    have gq235 := ty_fr (q := q235) (k := 9) (u := 118) eq235 hTH186 gb rg_112 rfl
    refine x_V (As := [.int (xs (i.toNatClampNeg + 1))]) (rest := [.int x187]) C (a_X10_look_v l K G H186 ((xs (i.toNatClampNeg + 1))) (y4) (y5) (y1) (y10) (y13) (y16) (txRs kkE vvE 1 (y4 : Int32).toNatClampNeg) (txRw kkE vvE 1 (y4 : Int32).toNatClampNeg) hTH186 gb gq235 eq235 m201 m203 m199 m205 m207 m209 g189 g190 g191 g192 (by omega) (hyE) (fun j h1 h2 => by have z := (re.2.1.1 j h1 (by omega)).2.2.eqw (re.2.1.1 j h1 (by omega)).1 (re.2.1.1 j h1 (by omega)).2.1; rw [show vrN K H b j = vwR K H186 b j from (er1 j).symm] at z; exact z)) yo_X10_look wM_L_161 ⟨⟨by decide, by decide⟩, show _ ≤ 60000 from Nat.le_trans hc (by decide), show _ ≤ 8922250 from Nat.le_trans hs (by decide)⟩ (x_rv C hTH186 (ci := 10) rfl gb rg_112) rfl hl.1 rfl (Nat.le_of_ble_eq_true rfl) dL_law_1501 hSH186 (AE_new hN hSH186.1) (fun vH236 H236 locsH236 pH236 zH236 kH236 hSH236 => ?_)
    obtain ⟨x237, hvH236, m238, m239, m240, m241, m242, m243, m244, g245, g246, g247, g248, mf249, m250, hTH236⟩ := pH236
    subst hvH236
    have f251 : ∀ j : Nat, fI H236 tq j = fI H tq j := fun j => (fI_kept (x_lt hTH186 kH236 gtq (by decide))).trans (f193 j)
    have f252 : ∀ j : Nat, fI H236 uq j = fI H uq j := fun j => (fI_kept (x_lt hTH186 kH236 guq (by decide))).trans (f194 j)
    have m253 := (m195).trans (fR_kept (x_lt hTH186 kH236 ga (by decide))).symm
    have m254 := (m196).trans (fI_kept (x_lt hTH186 kH236 ga (by decide))).symm
    have m255 := (m198).trans (fI_kept (x_lt hTH186 kH236 gw (by decide))).symm
    have m256 := (m200).trans (fI_kept (x_lt hTH186 kH236 gw (by decide))).symm
    have m257 := (m202).trans (fI_kept (x_lt hTH186 kH236 gw (by decide))).symm
    have m258 := (m204).trans (fI_kept (x_lt hTH186 kH236 gw (by decide))).symm
    have m259 := (m206).trans (fI_kept (x_lt hTH186 kH236 gw (by decide))).symm
    have m260 := (m208).trans (fI_kept (x_lt hTH186 kH236 gw (by decide))).symm
    have m261 := (m210).trans (fR_kept (x_lt hTH186 kH236 ga (by decide))).symm
    have m262 := (fV_kept (x_lt hTH186 kH236 ga (by decide))).trans m213
    have m263 := (m215).trans (fI_kept (x_lt hTH186 kH236 gkq (by decide))).symm
    have m264 := (m216).trans (fI_kept (x_lt hTH186 kH236 giq (by decide))).symm
    have m265 := (m217).trans (fI_kept (x_lt hTH186 kH236 gkq (by decide))).symm
    have m266 := (m218).trans (fI_kept (x_lt hTH186 kH236 giq (by decide))).symm
    have m267 := (m219).trans (fI_kept (x_lt hTH186 kH236 gkq (by decide))).symm
    have m268 := (m220).trans (fI_kept (x_lt hTH186 kH236 giq (by decide))).symm
    have m269 := (m221).trans (fI_kept (x_lt hTH186 kH236 gkq (by decide))).symm
    have m270 := (m222).trans (fI_kept (x_lt hTH186 kH236 giq (by decide))).symm
    have m271 := (m223).trans (fI_kept (x_lt hTH186 kH236 gkq (by decide))).symm
    have m272 := (m224).trans (fI_kept (x_lt hTH186 kH236 giq (by decide))).symm
    have m273 := (m225).trans (fI_kept (x_lt hTH186 kH236 gkq (by decide))).symm
    have m274 := (m226).trans (fI_kept (x_lt hTH186 kH236 giq (by decide))).symm
    have m275 := (m227).trans (fR_kept (x_lt hTH186 kH236 gw (by decide))).symm
    have m276 := (m228).trans (fR_kept (x_lt hTH186 kH236 gw (by decide))).symm
    have m277 := (m229).trans (fR_kept (x_lt hTH186 kH236 glq_ (by decide))).symm
    have m278 := (m230).trans (fR_kept (x_lt hTH186 kH236 ga (by decide))).symm
    have m279 := (m197).trans (MF.i mf249 (k := 18) (by decide) (by decide)).symm
    have m280 := (m199).trans (MF.i mf249 (k := 1) (by decide) (by decide)).symm
    have m281 := (m201).trans (MF.i mf249 (k := 2) (by decide) (by decide)).symm
    have m282 := (m203).trans (MF.i mf249 (k := 3) (by decide) (by decide)).symm
    have m283 := (m205).trans (MF.i mf249 (k := 59) (by decide) (by decide)).symm
    have m284 := (m207).trans (MF.i mf249 (k := 62) (by decide) (by decide)).symm
    have m285 := (m209).trans (MF.i mf249 (k := 65) (by decide) (by decide)).symm
    have m286 := (m211).trans (MF.r mf249 (k := 17) (by decide) (by decide)).symm
    have m287 := (m212).trans (MF.i mf249 (k := 70) (by decide) (by decide)).symm
    have m288 := (m214).trans (MF.r mf249 (k := 73) (by decide) (by decide)).symm
    have m289 := (eq234).trans (MF.r mf249 (k := 24) (by decide) (by decide)).symm
    have m290 := (eq235).trans (MF.r mf249 (k := 9) (by decide) (by decide)).symm
    refine W.eq (g2 := F0 m 1504 ls [.int x237, .int x187]) rfl ?_
    have rk291 : RKI K H236 kq iq k1.toInt := RKI.kept rk231 hTH186 gkq (x_lt hTH186 kH236 giq (by first | exact nmr ht (by decide) | exact nmo ht (by decide) | exact nme ht (by decide) | exact nmq ht (by decide) | decide | (intro z; simp only [List.mem_cons, List.not_mem_nil, or_false] at z <;> omega) | omega)) (fun q t hq ht => x_lt hTH186 kH236 hq (by first | exact nmr ht (by decide) | exact nmo ht (by decide) | exact nme ht (by decide) | exact nmq ht (by decide) | decide | (intro z; simp only [List.mem_cons, List.not_mem_nil, or_false] at z <;> omega) | omega))
    have hbp_ : BPE s1.toInt (fun j : Nat => vwC K H (fR H bq j)) (fun j : Nat => vwR K H186 b j) := re.2.1.congr (fun j hj => by show vwC K H (fR H bq j) = vwC K H (ow K H w j); rw [ow_b hj, ← ebq]) (fun j _ => by show EqV (vwR K H186 b j) (vwR K H b j); rw [show vwR K H186 b j = vwR K H b j from er1 j]; exact EqV.rf)
    have cs1_ := i_cl (x := s1) (by omega)
    have cy1_ := i_cl (x := y1) (by omega)
    have cl_ := cnt_both (F := lostW) (sl := s5.toInt) (fun v u e o => lostW_congrW hTT_ e o) hbp_ (n := s1.toNatClampNeg) (by omega) (by omega)
    (try dsimp only at cl_)
    have ct_ := cnt_both (F := trueW) (sl := s5.toInt) (fun v u e o => trueW_congrW hTT_ e o) hbp_ (n := s1.toNatClampNeg) (by omega) (by omega)
    (try dsimp only at ct_)
    have oq_ := m250
    rw [show y5.toInt = s5.toInt by omega, show y1.toNatClampNeg = s1.toNatClampNeg by omega, ← cl_, ← ct_] at oq_
    have oc_ := m188
    have hrq_ : x187.toInt = x237.toInt := by omega
    have re292 : RE K H236 w b s1.toInt := RE.ref re232 hTH186 gw gb (fun k hk => MF.r mf249 (by omega) (by intro z; simp only [List.mem_cons, List.not_mem_nil, or_false] at z; omega)) (fun q t hq ht => x_lt hTH186 kH236 hq (by first | exact nmr ht (by decide) | exact nmo ht (by decide) | exact nme ht (by decide) | exact nmq ht (by decide) | decide | (intro z; simp only [List.mem_cons, List.not_mem_nil, or_false] at z <;> omega) | omega))
    refine lv_icmp_eq (tgt := 1509) hx hb dL_law_1504 (by decide) (fun ce => ?_) (fun ce => ?_)
    · skip
      exact nx G H236 locsH236 _ _ ls ⟨hTH236, hN, ga, gb, g245, g246, g247, g248, ⟨(by rw [← m254, ← m279]; exact rt), (by rw [← m253, ← m255, ← m241]; exact r1), (by rw [← m253, ← m256, ← m239]; exact r4), (by rw [← m253, ← m257, ← m240]; exact r5), (by rw [← m253, ← m258, ← m242]; exact r10), (by rw [← m253, ← m259, ← m243]; exact r13), (by rw [← m253, ← m260, ← m244]; exact r16)⟩, Or.inr ⟨kq, m262, gkq, (by rw [← m287]; exact h70), (by rw [← m263, ← m288, ← m264]; exact q1), (by rw [← m265, ← m288, ← m266]; exact q4), (by rw [← m267, ← m288, ← m268]; exact q5), (by rw [← m269, ← m288, ← m270]; exact q10), (by rw [← m271, ← m288, ← m272]; exact q13), (by rw [← m273, ← m288, ← m274]; exact q16), (by rw [← m288, ← m263]; exact RKI.cast rk291 (by omega)), (by rw [← m267]; omega), (by rw [← m267]; omega)⟩, (by unfold TB; rw [← m261, ← m286, ← m279]; exact TBR.of htr f251 f252 (by omega)), (by unfold RELE; rw [← m253, ← m241, ← m257]; exact ⟨RE.cast re292 (by omega), by omega, by omega⟩), hSH236⟩ hl ⟨hc, hs, fun h => by have h1 := h.symm.trans m262; cases h1⟩
    · exfalso
      have := i_ne ce
      omega