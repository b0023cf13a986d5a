set_option maxRecDepth 100000 in
set_option maxHeartbeats 8000000 in
theorem lw_c28 {p : Program} {l : Launch} {e : Env} {s : State} {m : MethodId} {below : List Frame} {meth : Method} {c : Code} {K : KE} {b0 L : Nat} {xs : Nat → Int32} {G : Nat → Option Nat} {H : Heap} {locs : List Loc} {a b : Nat} {cells slots : Nat} {ls : Array Slot} {i : Int32} {n : Nat} (D : LC p K s m meth c b0 L xs) (S : SX K s G H locs a b) (hl : lv_has ls 4 [(3, .int i), (2, .ref b), (1, .ref a), (0, .ref b0)]) (hi : 0 ≤ i.toInt ∧ i.toInt + 6 ≤ L) (hn : n ≤ 511) (hB : BD K H a cells slots) (nx : ∀ (G : Nat → Option Nat) (H : Heap) (locs : List Loc) (cells slots : Nat) (ls : Array Slot), SX K s G H locs a b → lv_has ls 4 [(3, .int i), (2, .ref b), (1, .ref a), (0, .ref b0)] → BD K H a cells slots → W p l e room_1 s m #[Value.ref b0] below meth c H locs cells slots (lw_Z below #[Value.ref b0] s) (F0 m 1509 ls [])) : W p l e room_1 s m #[Value.ref b0] below meth c H locs cells slots (lw_Z below #[Value.ref b0] s) (F0 m 1282 ls []) := by
  have hI := hi
  obtain ⟨C, hX, hbl, hL⟩ := id D
  obtain ⟨hx, hb, hml, hown, hts, hKT, hr, hlocks, hnm⟩ := id C
  obtain ⟨hT, hN, ga, gb, cg, tu, wd, im, ⟨rt, r1, r4, r5, r10, r13, r16⟩, hk, htb, her, hS⟩ := S
  obtain ⟨hc, hs, hB0⟩ := hB
  have n_1 : (1 : Int32).toInt = 1 := rfl
  have n_2 : (2 : Int32).toInt = 2 := rfl
  obtain ⟨w, ew⟩ : ∃ z : Nat, z = fR H a (K.1.2 9 0) := ⟨_, rfl⟩
  have gw := ty_fr (q := w) (k := 0) (u := 0) ew hT ga rg_68 rfl
  rw [← ew] at r1 r4 r5 r10 r13 r16
  obtain ⟨ta, eta⟩ : ∃ z : Int32, z = fI H a (K.1.2 9 3) := ⟨_, rfl⟩
  rw [← eta] at rt
  obtain ⟨tb, etb⟩ : ∃ z : Int32, z = fI H b (K.1.2 10 18) := ⟨_, rfl⟩
  rw [← etb] at rt
  obtain ⟨s1, es1⟩ : ∃ z : Int32, z = fI H w (K.1.2 8 1) := ⟨_, rfl⟩
  rw [← es1] at r1
  obtain ⟨y1, ey1⟩ : ∃ z : Int32, z = fI H b (K.1.2 10 1) := ⟨_, rfl⟩
  rw [← ey1] at r1
  obtain ⟨s4, es4⟩ : ∃ z : Int32, z = fI H w (K.1.2 8 4) := ⟨_, rfl⟩
  rw [← es4] at r4
  obtain ⟨y4, ey4⟩ : ∃ z : Int32, z = fI H b (K.1.2 10 2) := ⟨_, rfl⟩
  rw [← ey4] at r4
  obtain ⟨s5, es5⟩ : ∃ z : Int32, z = fI H w (K.1.2 8 5) := ⟨_, rfl⟩
  rw [← es5] at r5
  obtain ⟨y5, ey5⟩ : ∃ z : Int32, z = fI H b (K.1.2 10 3) := ⟨_, rfl⟩
  rw [← ey5] at r5
  obtain ⟨s10, es10⟩ : ∃ z : Int32, z = fI H w (K.1.2 8 10) := ⟨_, rfl⟩
  rw [← es10] at r10
  obtain ⟨y10, ey10⟩ : ∃ z : Int32, z = fI H b (K.1.2 10 59) := ⟨_, rfl⟩
  rw [← ey10] at r10
  obtain ⟨s13, es13⟩ : ∃ z : Int32, z = fI H w (K.1.2 8 13) := ⟨_, rfl⟩
  rw [← es13] at r13
  obtain ⟨y13, ey13⟩ : ∃ z : Int32, z = fI H b (K.1.2 10 62) := ⟨_, rfl⟩
  rw [← ey13] at r13
  obtain ⟨s16, es16⟩ : ∃ z : Int32, z = fI H w (K.1.2 8 16) := ⟨_, rfl⟩
  rw [← es16] at r16
  obtain ⟨y16, ey16⟩ : ∃ z : Int32, z = fI H b (K.1.2 10 65) := ⟨_, rfl⟩
  rw [← ey16] at r16
  obtain ⟨tq, etq⟩ : ∃ z : Nat, z = fR H a (K.1.2 9 2) := ⟨_, rfl⟩
  have gtq := ty_fr (q := tq) (k := 2) (u := 108) etq hT ga rg_68 rfl
  obtain ⟨uq, euq⟩ : ∃ z : Nat, z = fR H b (K.1.2 10 17) := ⟨_, rfl⟩
  have guq := ty_fr (q := uq) (k := 17) (u := 126) euq hT gb rg_112 rfl
  have htr : TBR (fun j => fI H tq j) (fun j => fI H uq j) tb.toNatClampNeg := by rw [etq, euq, etb]; exact htb
  have ft0 : ∀ j : Nat, fI H tq j = fI H tq j := fun _ => rfl
  have fu0 : ∀ j : Nat, fI H uq j = fI H uq j := fun _ => rfl
  have bta := ty_fi (x := ta) (k := 3) eta hT ga rg_68 rfl
  have cta := i_cl (x := ta) (by omega)
  have btb := ty_fi (x := tb) (k := 18) etb hT gb rg_112 rfl
  have ctb := i_cl (x := tb) (by omega)
  obtain ⟨her0, hsl1, hsl2⟩ := her
  have hsl0 := And.intro hsl1 hsl2
  clear hsl1 hsl2
  rw [← ew] at her0 hsl0
  have re : RE K H w b s1.toInt := RE.cast her0 (by rw [← ey1]; exact r1)
  have hsl : 0 ≤ s5.toInt ∧ s5.toInt ≤ 9999 := by rw [es5]; exact hsl0
  clear her0 hsl0
  have bt_s1 := ty_fi (x := s1) (k := 1) es1 hT gw rg_0 rfl
  have bt_s4 := ty_fi (x := s4) (k := 4) es4 hT gw rg_0 rfl
  have bt_y1 := ty_fi (x := y1) (k := 1) ey1 hT gb rg_112 rfl
  have bt_y4 := ty_fi (x := y4) (k := 2) ey4 hT gb rg_112 rfl
  rcases hk with ⟨kn, h70⟩ | ⟨kq, kn, gkq, h70, q1, q4, q5, q10, q13, q16, rke, ks1, ks2⟩
  · skip
    obtain ⟨hi, ehi⟩ : ∃ z : Int32, z = fI H b (K.1.2 10 70) := ⟨_, rfl⟩
    rw [← ehi] at h70
    obtain ⟨hc0, hs0⟩ := hB0 kn
    obtain ⟨iq, eiq⟩ : ∃ z : Nat, z = fR H b (K.1.2 10 73) := ⟨_, rfl⟩
    have giq := ty_fr (q := iq) (k := 73) (u := 162) eiq hT gb rg_112 rfl
    refine lv_aload_n hx hb dL_law_1282 rfl (lv_at hl 2 rfl) ?_
    refine lv_aload_n hx hb dL_law_1283 rfl (lv_at hl 3 rfl) ?_
    refine lv_iload_n hx hb dL_law_1284 rfl (lv_at hl 0 rfl) ?_
    refine lv_iconst (v := 1) hx hb dL_law_1285 (by decide) ?_
    refine lv_iadd hx hb dL_law_1286 ?_
    refine lv_topi (fun x101 ex101 => ?_)
    obtain ⟨tx101, ejx101, evx101⟩ := lw_ix (k := 1) ex101 hI hL rfl (by decide)
    clear tx101
    refine va_sld hx hb hX hbl (Nat.not_le.mpr hbl) hS (vp_in_iff.mpr evx101) dL_law_1287 ?_
    refine W.eq (g2 := F0 m 1288 ls [.int (xs (i.toNatClampNeg + 1)), .ref a]) (congrArg (fun z => F0 m 1288 ls [.int (xs z), .ref a]) ejx101) ?_
    refine lv_aload_n hx hb dL_law_1288 rfl (lv_at hl 3 rfl) ?_
    refine lv_iload_n hx hb dL_law_1289 rfl (lv_at hl 0 rfl) ?_
    refine lv_iconst (v := 2) hx hb dL_law_1290 (by decide) ?_
    refine lv_iadd hx hb dL_law_1291 ?_
    refine lv_topi (fun x102 ex102 => ?_)
    obtain ⟨tx102, ejx102, evx102⟩ := lw_ix (k := 2) ex102 hI hL rfl (by decide)
    clear tx102
    refine va_sld hx hb hX hbl (Nat.not_le.mpr hbl) hS (vp_in_iff.mpr evx102) dL_law_1292 ?_
    refine W.eq (g2 := F0 m 1293 ls [.int (xs (i.toNatClampNeg + 2)), .int (xs (i.toNatClampNeg + 1)), .ref a]) (congrArg (fun z => F0 m 1293 ls [.int (xs z), .int (xs (i.toNatClampNeg + 1)), .ref a]) ejx102) ?_
    refine x_V (As := [.int (xs (i.toNatClampNeg + 1)), .int (xs (i.toNatClampNeg + 2))]) (rest := []) C (a_X9_note_w l K G H ((xs (i.toNatClampNeg + 1))) ((xs (i.toNatClampNeg + 2))) (s1) (s4) (s5) (s10) (s13) (s16) hT ga gw ew es1 es4 es5 es10 es13 es16) yo_X9_note wM_L_133 ⟨⟨by decide, by decide⟩, show _ ≤ 60000 from Nat.le_trans hc (by decide), show _ ≤ 8922250 from Nat.le_trans hs (by decide)⟩ (x_rv C hT (ci := 9) rfl ga rg_68) rfl hl.1 rfl (Nat.le_of_ble_eq_true rfl) dL_law_1293 hS (AE_new hN hS.1) (fun vH103 H103 locsH103 pH103 zH103 kH103 hSH103 => ?_)
    obtain ⟨x104, x105, x106, x107, x108, x109, x110, hvH103, ex105, ex106, ex107, ex108, ex109, ex110, hrH103, m111, hTH103⟩ := pH103
    subst hvH103
    have g112 : CG (avw K H103 b) := CG.congr (fun k hk j => av_eff hT kH103 gb (by decide) (CG_eff [0, 30, 31] (by decide) k hk)) cg
    have g113 : TU (avw K H103 b) (svw K H103 b) := TU.congr (fun k hk j => av_eff hT kH103 gb (by decide) (TU_eff [0, 30, 31] (by decide) k hk)) (fun k hk => sv_eff hT kH103 gb (by decide)) tu
    have g114 : WD (avw K H103 b) := WD.congr (fun k hk j => av_eff hT kH103 gb (by decide) (WD_eff [0, 30, 31] (by decide) k hk)) wd
    have g115 : IM (avw K H103 b) := IM.congr (fun k hk j => av_eff hT kH103 gb (by decide) (IM_eff [0, 30, 31] (by decide) k hk)) im
    have f116 : ∀ j : Nat, fI H103 tq j = fI H tq j := fun j => (fI_kept (x_lt hT kH103 gtq (by decide))).trans (ft0 j)
    have f117 : ∀ j : Nat, fI H103 uq j = fI H uq j := fun j => (fI_kept (x_lt hT kH103 guq (by decide))).trans (fu0 j)
    have m118 := (ew).trans (fR_kept (x_lt hT kH103 ga (by decide))).symm
    have m119 := (eta).trans (fI_kept (x_lt hT kH103 ga (by decide))).symm
    have m120 := (etb).trans (fI_kept (x_lt hT kH103 gb (by decide))).symm
    have m121 := (ey1).trans (fI_kept (x_lt hT kH103 gb (by decide))).symm
    have m122 := (ey4).trans (fI_kept (x_lt hT kH103 gb (by decide))).symm
    have m123 := (ey5).trans (fI_kept (x_lt hT kH103 gb (by decide))).symm
    have m124 := (ey10).trans (fI_kept (x_lt hT kH103 gb (by decide))).symm
    have m125 := (ey13).trans (fI_kept (x_lt hT kH103 gb (by decide))).symm
    have m126 := (ey16).trans (fI_kept (x_lt hT kH103 gb (by decide))).symm
    have m127 := (etq).trans (fR_kept (x_lt hT kH103 ga (by decide))).symm
    have m128 := (euq).trans (fR_kept (x_lt hT kH103 gb (by decide))).symm
    have m129 := (ehi).trans (fI_kept (x_lt hT kH103 gb (by decide))).symm
    have m130 := (fV_kept (x_lt hT kH103 ga (by decide))).trans kn
    have m131 := (eiq).trans (fR_kept (x_lt hT kH103 gb (by decide))).symm
    have bx105 := ty_fi (x := x105) (k := 1) ex105 hTH103 gw rg_0 rfl
    have bx106 := ty_fi (x := x106) (k := 4) ex106 hTH103 gw rg_0 rfl
    have bx107 := ty_fi (x := x107) (k := 5) ex107 hTH103 gw rg_0 rfl
    have bx108 := ty_fi (x := x108) (k := 10) ex108 hTH103 gw rg_0 rfl
    have bx109 := ty_fi (x := x109) (k := 13) ex109 hTH103 gw rg_0 rfl
    have bx110 := ty_fi (x := x110) (k := 16) ex110 hTH103 gw rg_0 rfl
    refine W.eq (g2 := F0 m 1296 ls [.int x104]) rfl ?_
    have re132 : RE K H103 w b s1.toInt := RE.now re hT gw gb m111 (fun q t hq ht => x_lt hT kH103 hq (by first | exact nmr ht (by decide) | exact nmo ht (by decide) | exact nme ht (by decide) | exact nmq ht (by decide) | decide | (intro z; simp only [List.mem_cons, List.not_mem_nil, or_false] at z <;> omega) | omega))
    refine lv_pop hx hb dL_law_1296 rfl ?_
    refine lv_aload_n hx hb dL_law_1297 rfl (lv_at hl 1 rfl) ?_
    refine lv_aload_n hx hb dL_law_1298 rfl (lv_at hl 3 rfl) ?_
    refine lv_iload_n hx hb dL_law_1299 rfl (lv_at hl 0 rfl) ?_
    refine lv_iconst (v := 1) hx hb dL_law_1300 (by decide) ?_
    refine lv_iadd hx hb dL_law_1301 ?_
    refine lv_topi (fun x133 ex133 => ?_)
    obtain ⟨tx133, ejx133, evx133⟩ := lw_ix (k := 1) ex133 hI hL rfl (by decide)
    clear tx133
    refine va_sld hx hb hX hbl (Nat.not_le.mpr hbl) hSH103 (vp_in_iff.mpr evx133) dL_law_1302 ?_
    refine W.eq (g2 := F0 m 1303 ls [.int (xs (i.toNatClampNeg + 1)), .ref b]) (congrArg (fun z => F0 m 1303 ls [.int (xs z), .ref b]) ejx133) ?_
    refine lv_aload_n hx hb dL_law_1303 rfl (lv_at hl 3 rfl) ?_
    refine lv_iload_n hx hb dL_law_1304 rfl (lv_at hl 0 rfl) ?_
    refine lv_iconst (v := 2) hx hb dL_law_1305 (by decide) ?_
    refine lv_iadd hx hb dL_law_1306 ?_
    refine lv_topi (fun x134 ex134 => ?_)
    obtain ⟨tx134, ejx134, evx134⟩ := lw_ix (k := 2) ex134 hI hL rfl (by decide)
    clear tx134
    refine va_sld hx hb hX hbl (Nat.not_le.mpr hbl) hSH103 (vp_in_iff.mpr evx134) dL_law_1307 ?_
    refine W.eq (g2 := F0 m 1308 ls [.int (xs (i.toNatClampNeg + 2)), .int (xs (i.toNatClampNeg + 1)), .ref b]) (congrArg (fun z => F0 m 1308 ls [.int (xs z), .int (xs (i.toNatClampNeg + 1)), .ref b]) ejx134) ?_
    refine x_V (As := [.int (xs (i.toNatClampNeg + 1)), .int (xs (i.toNatClampNeg + 2))]) (rest := []) C (a_X10_note_r l K G H103 ((xs (i.toNatClampNeg + 1))) ((xs (i.toNatClampNeg + 2))) (y13) hTH103 gb m125 g112 g113 g114 g115) yo_X10_note wM_L_136 ⟨⟨by decide, by decide⟩, show _ ≤ 60000 from Nat.le_trans hc (by decide), show _ ≤ 8922250 from Nat.le_trans hs (by decide)⟩ (x_rv C hTH103 (ci := 10) rfl gb rg_112) rfl hl.1 rfl (Nat.le_of_ble_eq_true rfl) dL_law_1308 hSH103 (AE_new hN hSH103.1) (fun vH135 H135 locsH135 pH135 zH135 kH135 hSH135 => ?_)
    obtain ⟨x136, x137, hvH135, ex137, hrH135, g138, g139, g140, g141, mf142, hTH135⟩ := pH135
    subst hvH135
    have f143 : ∀ j : Nat, fI H135 tq j = fI H tq j := fun j => (fI_kept (x_lt hTH103 kH135 gtq (by decide))).trans (f116 j)
    have f144 : ∀ j : Nat, fI H135 uq j = fI H uq j := fun j => (fI_kept (x_lt hTH103 kH135 guq (by decide))).trans (f117 j)
    have m145 := (m118).trans (fR_kept (x_lt hTH103 kH135 ga (by decide))).symm
    have m146 := (m119).trans (fI_kept (x_lt hTH103 kH135 ga (by decide))).symm
    have m147 := (m127).trans (fR_kept (x_lt hTH103 kH135 ga (by decide))).symm
    have m148 := (fV_kept (x_lt hTH103 kH135 ga (by decide))).trans m130
    have m149 := (ex105).trans (fI_kept (x_lt hTH103 kH135 gw (by decide))).symm
    have m150 := (ex106).trans (fI_kept (x_lt hTH103 kH135 gw (by decide))).symm
    have m151 := (ex107).trans (fI_kept (x_lt hTH103 kH135 gw (by decide))).symm
    have m152 := (ex108).trans (fI_kept (x_lt hTH103 kH135 gw (by decide))).symm
    have m153 := (ex109).trans (fI_kept (x_lt hTH103 kH135 gw (by decide))).symm
    have m154 := (ex110).trans (fI_kept (x_lt hTH103 kH135 gw (by decide))).symm
    have m155 := (m120).trans (MF.i mf142 (k := 18) (by decide) (by decide)).symm
    have m156 := (m121).trans (MF.i mf142 (k := 1) (by decide) (by decide)).symm
    have m157 := (m122).trans (MF.i mf142 (k := 2) (by decide) (by decide)).symm
    have m158 := (m123).trans (MF.i mf142 (k := 3) (by decide) (by decide)).symm
    have m159 := (m124).trans (MF.i mf142 (k := 59) (by decide) (by decide)).symm
    have m160 := (m126).trans (MF.i mf142 (k := 65) (by decide) (by decide)).symm
    have m161 := (m128).trans (MF.r mf142 (k := 17) (by decide) (by decide)).symm
    have m162 := (m129).trans (MF.i mf142 (k := 70) (by decide) (by decide)).symm
    have m163 := (m131).trans (MF.r mf142 (k := 73) (by decide) (by decide)).symm
    have bx137 := ty_fi (x := x137) (k := 62) ex137 hTH135 gb rg_112 rfl
    refine W.eq (g2 := F0 m 1311 ls [.int x136]) rfl ?_
    have re164 : RE K H135 w b s1.toInt := RE.ref re132 hTH103 gw gb (fun k hk => MF.r mf142 (by omega) (by intro z; simp only [List.mem_cons, List.not_mem_nil, or_false] at z; omega)) (fun q t hq ht => x_lt hTH103 kH135 hq (by first | exact nmr ht (by decide) | exact nmo ht (by decide) | exact nme ht (by decide) | exact nmq ht (by decide) | decide | (intro z; simp only [List.mem_cons, List.not_mem_nil, or_false] at z <;> omega) | omega))
    refine lv_pop hx hb dL_law_1311 rfl ?_
    refine lv_goto (tgt := 1509) hx hb dL_law_1312 (by decide) ?_
    exact nx G H135 locsH135 _ _ ls ⟨hTH135, hN, ga, gb, g138, g139, g140, g141, ⟨(by rw [← m146, ← m155]; exact rt), (by rw [← m145, ← m149, ← m156]; omega), (by rw [← m145, ← m150, ← m157]; omega), (by rw [← m145, ← m151, ← m158]; omega), (by rw [← m145, ← m152, ← m159]; omega), (by rw [← m145, ← m153, ← ex137]; omega), (by rw [← m145, ← m154, ← m160]; omega)⟩, Or.inl ⟨m148, (by rw [← m162]; exact h70)⟩, (by unfold TB; rw [← m147, ← m161, ← m155]; exact TBR.of htr f143 f144 (by omega)), (by unfold RELE; rw [← m145, ← m156, ← m151]; exact ⟨RE.cast re164 (by omega), by omega, by omega⟩), hSH135⟩ hl ⟨hc, hs, fun _ => ⟨hc0, hs0⟩⟩
  · skip
    obtain ⟨hi, ehi⟩ : ∃ z : Int32, z = fI H b (K.1.2 10 70) := ⟨_, rfl⟩
    rw [← ehi] at h70
    obtain ⟨iq, eiq⟩ : ∃ z : Nat, z = fR H b (K.1.2 10 73) := ⟨_, rfl⟩
    have giq := ty_fr (q := iq) (k := 73) (u := 162) eiq hT gb rg_112 rfl
    rw [← eiq] at q1 q4 q5 q10 q13 q16
    obtain ⟨k1, ek1⟩ : ∃ z : Int32, z = fI H kq (K.1.2 8 1) := ⟨_, rfl⟩
    rw [← ek1] at q1
    obtain ⟨i1, ei1⟩ : ∃ z : Int32, z = fI H iq ((0 : Int32).toNatClampNeg) := ⟨_, rfl⟩
    rw [← ei1] at q1
    obtain ⟨k4, ek4⟩ : ∃ z : Int32, z = fI H kq (K.1.2 8 4) := ⟨_, rfl⟩
    rw [← ek4] at q4
    obtain ⟨i4, ei4⟩ : ∃ z : Int32, z = fI H iq ((1 : Int32).toNatClampNeg) := ⟨_, rfl⟩
    rw [← ei4] at q4
    obtain ⟨k5, ek5⟩ : ∃ z : Int32, z = fI H kq (K.1.2 8 5) := ⟨_, rfl⟩
    rw [← ek5] at q5
    obtain ⟨i5, ei5⟩ : ∃ z : Int32, z = fI H iq ((2 : Int32).toNatClampNeg) := ⟨_, rfl⟩
    rw [← ei5] at q5
    obtain ⟨k10, ek10⟩ : ∃ z : Int32, z = fI H kq (K.1.2 8 10) := ⟨_, rfl⟩
    rw [← ek10] at q10
    obtain ⟨i10, ei10⟩ : ∃ z : Int32, z = fI H iq ((3 : Int32).toNatClampNeg) := ⟨_, rfl⟩
    rw [← ei10] at q10
    obtain ⟨k13, ek13⟩ : ∃ z : Int32, z = fI H kq (K.1.2 8 13) := ⟨_, rfl⟩
    rw [← ek13] at q13
    obtain ⟨i13, ei13⟩ : ∃ z : Int32, z = fI H iq ((4 : Int32).toNatClampNeg) := ⟨_, rfl⟩
    rw [← ei13] at q13
    obtain ⟨k16, ek16⟩ : ∃ z : Int32, z = fI H kq (K.1.2 8 16) := ⟨_, rfl⟩
    rw [← ek16] at q16
    obtain ⟨i16, ei16⟩ : ∃ z : Int32, z = fI H iq ((5 : Int32).toNatClampNeg) := ⟨_, rfl⟩
    rw [← ei16] at q16
    rw [← eiq, ← ek1] at rke
    have hsk : 0 ≤ k5.toInt ∧ k5.toInt ≤ 9999 := by rw [ek5]; exact ⟨ks1, ks2⟩
    refine lv_aload_n hx hb dL_law_1282 rfl (lv_at hl 2 rfl) ?_
    refine lv_aload_n hx hb dL_law_1283 rfl (lv_at hl 3 rfl) ?_
    refine lv_iload_n hx hb dL_law_1284 rfl (lv_at hl 0 rfl) ?_
    refine lv_iconst (v := 1) hx hb dL_law_1285 (by decide) ?_
    refine lv_iadd hx hb dL_law_1286 ?_
    refine lv_topi (fun x165 ex165 => ?_)
    obtain ⟨tx165, ejx165, evx165⟩ := lw_ix (k := 1) ex165 hI hL rfl (by decide)
    clear tx165
    refine va_sld hx hb hX hbl (Nat.not_le.mpr hbl) hS (vp_in_iff.mpr evx165) dL_law_1287 ?_
    refine W.eq (g2 := F0 m 1288 ls [.int (xs (i.toNatClampNeg + 1)), .ref a]) (congrArg (fun z => F0 m 1288 ls [.int (xs z), .ref a]) ejx165) ?_
    refine lv_aload_n hx hb dL_law_1288 rfl (lv_at hl 3 rfl) ?_
    refine lv_iload_n hx hb dL_law_1289 rfl (lv_at hl 0 rfl) ?_
    refine lv_iconst (v := 2) hx hb dL_law_1290 (by decide) ?_
    refine lv_iadd hx hb dL_law_1291 ?_
    refine lv_topi (fun x166 ex166 => ?_)
    obtain ⟨tx166, ejx166, evx166⟩ := lw_ix (k := 2) ex166 hI hL rfl (by decide)
    clear tx166
    refine va_sld hx hb hX hbl (Nat.not_le.mpr hbl) hS (vp_in_iff.mpr evx166) dL_law_1292 ?_
    refine W.eq (g2 := F0 m 1293 ls [.int (xs (i.toNatClampNeg + 2)), .int (xs (i.toNatClampNeg + 1)), .ref a]) (congrArg (fun z => F0 m 1293 ls [.int (xs z), .int (xs (i.toNatClampNeg + 1)), .ref a]) ejx166) ?_
    refine x_V (As := [.int (xs (i.toNatClampNeg + 1)), .int (xs (i.toNatClampNeg + 2))]) (rest := []) C (a_X9_note_w l K G H ((xs (i.toNatClampNeg + 1))) ((xs (i.toNatClampNeg + 2))) (s1) (s4) (s5) (s10) (s13) (s16) hT ga gw ew es1 es4 es5 es10 es13 es16) yo_X9_note wM_L_133 ⟨⟨by decide, by decide⟩, show _ ≤ 60000 from Nat.le_trans hc (by decide), show _ ≤ 8922250 from Nat.le_trans hs (by decide)⟩ (x_rv C hT (ci := 9) rfl ga rg_68) rfl hl.1 rfl (Nat.le_of_ble_eq_true rfl) dL_law_1293 hS (AE_new hN hS.1) (fun vH167 H167 locsH167 pH167 zH167 kH167 hSH167 => ?_)
    obtain ⟨x168, x169, x170, x171, x172, x173, x174, hvH167, ex169, ex170, ex171, ex172, ex173, ex174, hrH167, m175, hTH167⟩ := pH167
    subst hvH167
    have g176 : CG (avw K H167 b) := CG.congr (fun k hk j => av_eff hT kH167 gb (by decide) (CG_eff [0, 30, 31] (by decide) k hk)) cg
    have g177 : TU (avw K H167 b) (svw K H167 b) := TU.congr (fun k hk j => av_eff hT kH167 gb (by decide) (TU_eff [0, 30, 31] (by decide) k hk)) (fun k hk => sv_eff hT kH167 gb (by decide)) tu
    have g178 : WD (avw K H167 b) := WD.congr (fun k hk j => av_eff hT kH167 gb (by decide) (WD_eff [0, 30, 31] (by decide) k hk)) wd
    have g179 : IM (avw K H167 b) := IM.congr (fun k hk j => av_eff hT kH167 gb (by decide) (IM_eff [0, 30, 31] (by decide) k hk)) im
    have f180 : ∀ j : Nat, fI H167 tq j = fI H tq j := fun j => (fI_kept (x_lt hT kH167 gtq (by decide))).trans (ft0 j)
    have f181 : ∀ j : Nat, fI H167 uq j = fI H uq j := fun j => (fI_kept (x_lt hT kH167 guq (by decide))).trans (fu0 j)
    have m182 := (ew).trans (fR_kept (x_lt hT kH167 ga (by decide))).symm
    have m183 := (eta).trans (fI_kept (x_lt hT kH167 ga (by decide))).symm
    have m184 := (etb).trans (fI_kept (x_lt hT kH167 gb (by decide))).symm
    have m185 := (ey1).trans (fI_kept (x_lt hT kH167 gb (by decide))).symm
    have m186 := (ey4).trans (fI_kept (x_lt hT kH167 gb (by decide))).symm
    have m187 := (ey5).trans (fI_kept (x_lt hT kH167 gb (by decide))).symm
    have m188 := (ey10).trans (fI_kept (x_lt hT kH167 gb (by decide))).symm
    have m189 := (ey13).trans (fI_kept (x_lt hT kH167 gb (by decide))).symm
    have m190 := (ey16).trans (fI_kept (x_lt hT kH167 gb (by decide))).symm
    have m191 := (etq).trans (fR_kept (x_lt hT kH167 ga (by decide))).symm
    have m192 := (euq).trans (fR_kept (x_lt hT kH167 gb (by decide))).symm
    have m193 := (ehi).trans (fI_kept (x_lt hT kH167 gb (by decide))).symm
    have m194 := (fV_kept (x_lt hT kH167 ga (by decide))).trans kn
    have m195 := (eiq).trans (fR_kept (x_lt hT kH167 gb (by decide))).symm
    have m196 := (ek1).trans (fI_kept (x_lt hT kH167 gkq (by decide))).symm
    have m197 := (ei1).trans (fI_kept (x_lt hT kH167 giq (by decide))).symm
    have m198 := (ek4).trans (fI_kept (x_lt hT kH167 gkq (by decide))).symm
    have m199 := (ei4).trans (fI_kept (x_lt hT kH167 giq (by decide))).symm
    have m200 := (ek5).trans (fI_kept (x_lt hT kH167 gkq (by decide))).symm
    have m201 := (ei5).trans (fI_kept (x_lt hT kH167 giq (by decide))).symm
    have m202 := (ek10).trans (fI_kept (x_lt hT kH167 gkq (by decide))).symm
    have m203 := (ei10).trans (fI_kept (x_lt hT kH167 giq (by decide))).symm
    have m204 := (ek13).trans (fI_kept (x_lt hT kH167 gkq (by decide))).symm
    have m205 := (ei13).trans (fI_kept (x_lt hT kH167 giq (by decide))).symm
    have m206 := (ek16).trans (fI_kept (x_lt hT kH167 gkq (by decide))).symm
    have m207 := (ei16).trans (fI_kept (x_lt hT kH167 giq (by decide))).symm
    have bx169 := ty_fi (x := x169) (k := 1) ex169 hTH167 gw rg_0 rfl
    have bx170 := ty_fi (x := x170) (k := 4) ex170 hTH167 gw rg_0 rfl
    have bx171 := ty_fi (x := x171) (k := 5) ex171 hTH167 gw rg_0 rfl
    have bx172 := ty_fi (x := x172) (k := 10) ex172 hTH167 gw rg_0 rfl
    have bx173 := ty_fi (x := x173) (k := 13) ex173 hTH167 gw rg_0 rfl
    have bx174 := ty_fi (x := x174) (k := 16) ex174 hTH167 gw rg_0 rfl
    refine W.eq (g2 := F0 m 1296 ls [.int x168]) rfl ?_
    have rk208 : RKI K H167 kq iq k1.toInt := RKI.kept rke hT gkq (x_lt hT kH167 giq (by first | exact nmr ht (by decide) | exact nmo ht (by decide) | exact nme ht (by decide) | exact nmq ht (by decide) | decide | (intro z; simp only [List.mem_cons, List.not_mem_nil, or_false] at z <;> omega) | omega)) (fun q t hq ht => x_lt hT kH167 hq (by first | exact nmr ht (by decide) | exact nmo ht (by decide) | exact nme ht (by decide) | exact nmq ht (by decide) | decide | (intro z; simp only [List.mem_cons, List.not_mem_nil, or_false] at z <;> omega) | omega))
    have re209 : RE K H167 w b s1.toInt := RE.now re hT gw gb m175 (fun q t hq ht => x_lt hT kH167 hq (by first | exact nmr ht (by decide) | exact nmo ht (by decide) | exact nme ht (by decide) | exact nmq ht (by decide) | decide | (intro z; simp only [List.mem_cons, List.not_mem_nil, or_false] at z <;> omega) | omega))
    refine lv_pop hx hb dL_law_1296 rfl ?_
    refine lv_aload_n hx hb dL_law_1297 rfl (lv_at hl 1 rfl) ?_
    refine lv_aload_n hx hb dL_law_1298 rfl (lv_at hl 3 rfl) ?_
    refine lv_iload_n hx hb dL_law_1299 rfl (lv_at hl 0 rfl) ?_
    refine lv_iconst (v := 1) hx hb dL_law_1300 (by decide) ?_
    refine lv_iadd hx hb dL_law_1301 ?_
    refine lv_topi (fun x210 ex210 => ?_)
    obtain ⟨tx210, ejx210, evx210⟩ := lw_ix (k := 1) ex210 hI hL rfl (by decide)
    clear tx210
    refine va_sld hx hb hX hbl (Nat.not_le.mpr hbl) hSH167 (vp_in_iff.mpr evx210) dL_law_1302 ?_
    refine W.eq (g2 := F0 m 1303 ls [.int (xs (i.toNatClampNeg + 1)), .ref b]) (congrArg (fun z => F0 m 1303 ls [.int (xs z), .ref b]) ejx210) ?_
    refine lv_aload_n hx hb dL_law_1303 rfl (lv_at hl 3 rfl) ?_
    refine lv_iload_n hx hb dL_law_1304 rfl (lv_at hl 0 rfl) ?_
    refine lv_iconst (v := 2) hx hb dL_law_1305 (by decide) ?_
    refine lv_iadd hx hb dL_law_1306 ?_
    refine lv_topi (fun x211 ex211 => ?_)
    obtain ⟨tx211, ejx211, evx211⟩ := lw_ix (k := 2) ex211 hI hL rfl (by decide)
    clear tx211
    refine va_sld hx hb hX hbl (Nat.not_le.mpr hbl) hSH167 (vp_in_iff.mpr evx211) dL_law_1307 ?_
    refine W.eq (g2 := F0 m 1308 ls [.int (xs (i.toNatClampNeg + 2)), .int (xs (i.toNatClampNeg + 1)), .ref b]) (congrArg (fun z => F0 m 1308 ls [.int (xs z), .int (xs (i.toNatClampNeg + 1)), .ref b]) ejx211) ?_
    refine x_V (As := [.int (xs (i.toNatClampNeg + 1)), .int (xs (i.toNatClampNeg + 2))]) (rest := []) C (a_X10_note_r l K G H167 ((xs (i.toNatClampNeg + 1))) ((xs (i.toNatClampNeg + 2))) (y13) hTH167 gb m189 g176 g177 g178 g179) yo_X10_note wM_L_136 ⟨⟨by decide, by decide⟩, show _ ≤ 60000 from Nat.le_trans hc (by decide), show _ ≤ 8922250 from Nat.le_trans hs (by decide)⟩ (x_rv C hTH167 (ci := 10) rfl gb rg_112) rfl hl.1 rfl (Nat.le_of_ble_eq_true rfl) dL_law_1308 hSH167 (AE_new hN hSH167.1) (fun vH212 H212 locsH212 pH212 zH212 kH212 hSH212 => ?_)
    obtain ⟨x213, x214, hvH212, ex214, hrH212, g215, g216, g217, g218, mf219, hTH212⟩ := pH212
    subst hvH212
    have f220 : ∀ j : Nat, fI H212 tq j = fI H tq j := fun j => (fI_kept (x_lt hTH167 kH212 gtq (by decide))).trans (f180 j)
    have f221 : ∀ j : Nat, fI H212 uq j = fI H uq j := fun j => (fI_kept (x_lt hTH167 kH212 guq (by decide))).trans (f181 j)
    have m222 := (m182).trans (fR_kept (x_lt hTH167 kH212 ga (by decide))).symm
    have m223 := (m183).trans (fI_kept (x_lt hTH167 kH212 ga (by decide))).symm
    have m224 := (m191).trans (fR_kept (x_lt hTH167 kH212 ga (by decide))).symm
    have m225 := (fV_kept (x_lt hTH167 kH212 ga (by decide))).trans m194
    have m226 := (m196).trans (fI_kept (x_lt hTH167 kH212 gkq (by decide))).symm
    have m227 := (m197).trans (fI_kept (x_lt hTH167 kH212 giq (by decide))).symm
    have m228 := (m198).trans (fI_kept (x_lt hTH167 kH212 gkq (by decide))).symm
    have m229 := (m199).trans (fI_kept (x_lt hTH167 kH212 giq (by decide))).symm
    have m230 := (m200).trans (fI_kept (x_lt hTH167 kH212 gkq (by decide))).symm
    have m231 := (m201).trans (fI_kept (x_lt hTH167 kH212 giq (by decide))).symm
    have m232 := (m202).trans (fI_kept (x_lt hTH167 kH212 gkq (by decide))).symm
    have m233 := (m203).trans (fI_kept (x_lt hTH167 kH212 giq (by decide))).symm
    have m234 := (m204).trans (fI_kept (x_lt hTH167 kH212 gkq (by decide))).symm
    have m235 := (m205).trans (fI_kept (x_lt hTH167 kH212 giq (by decide))).symm
    have m236 := (m206).trans (fI_kept (x_lt hTH167 kH212 gkq (by decide))).symm
    have m237 := (m207).trans (fI_kept (x_lt hTH167 kH212 giq (by decide))).symm
    have m238 := (ex169).trans (fI_kept (x_lt hTH167 kH212 gw (by decide))).symm
    have m239 := (ex170).trans (fI_kept (x_lt hTH167 kH212 gw (by decide))).symm
    have m240 := (ex171).trans (fI_kept (x_lt hTH167 kH212 gw (by decide))).symm
    have m241 := (ex172).trans (fI_kept (x_lt hTH167 kH212 gw (by decide))).symm
    have m242 := (ex173).trans (fI_kept (x_lt hTH167 kH212 gw (by decide))).symm
    have m243 := (ex174).trans (fI_kept (x_lt hTH167 kH212 gw (by decide))).symm
    have m244 := (m184).trans (MF.i mf219 (k := 18) (by decide) (by decide)).symm
    have m245 := (m185).trans (MF.i mf219 (k := 1) (by decide) (by decide)).symm
    have m246 := (m186).trans (MF.i mf219 (k := 2) (by decide) (by decide)).symm
    have m247 := (m187).trans (MF.i mf219 (k := 3) (by decide) (by decide)).symm
    have m248 := (m188).trans (MF.i mf219 (k := 59) (by decide) (by decide)).symm
    have m249 := (m190).trans (MF.i mf219 (k := 65) (by decide) (by decide)).symm
    have m250 := (m192).trans (MF.r mf219 (k := 17) (by decide) (by decide)).symm
    have m251 := (m193).trans (MF.i mf219 (k := 70) (by decide) (by decide)).symm
    have m252 := (m195).trans (MF.r mf219 (k := 73) (by decide) (by decide)).symm
    have bx214 := ty_fi (x := x214) (k := 62) ex214 hTH212 gb rg_112 rfl
    refine W.eq (g2 := F0 m 1311 ls [.int x213]) rfl ?_
    have rk253 : RKI K H212 kq iq k1.toInt := RKI.kept rk208 hTH167 gkq (x_lt hTH167 kH212 giq (by first | exact nmr ht (by decide) | exact nmo ht (by decide) | exact nme ht (by decide) | exact nmq ht (by decide) | decide | (intro z; simp only [List.mem_cons, List.not_mem_nil, or_false] at z <;> omega) | omega)) (fun q t hq ht => x_lt hTH167 kH212 hq (by first | exact nmr ht (by decide) | exact nmo ht (by decide) | exact nme ht (by decide) | exact nmq ht (by decide) | decide | (intro z; simp only [List.mem_cons, List.not_mem_nil, or_false] at z <;> omega) | omega))
    have re254 : RE K H212 w b s1.toInt := RE.ref re209 hTH167 gw gb (fun k hk => MF.r mf219 (by omega) (by intro z; simp only [List.mem_cons, List.not_mem_nil, or_false] at z; omega)) (fun q t hq ht => x_lt hTH167 kH212 hq (by first | exact nmr ht (by decide) | exact nmo ht (by decide) | exact nme ht (by decide) | exact nmq ht (by decide) | decide | (intro z; simp only [List.mem_cons, List.not_mem_nil, or_false] at z <;> omega) | omega))
    refine lv_pop hx hb dL_law_1311 rfl ?_
    refine lv_goto (tgt := 1509) hx hb dL_law_1312 (by decide) ?_
    exact nx G H212 locsH212 _ _ ls ⟨hTH212, hN, ga, gb, g215, g216, g217, g218, ⟨(by rw [← m223, ← m244]; exact rt), (by rw [← m222, ← m238, ← m245]; omega), (by rw [← m222, ← m239, ← m246]; omega), (by rw [← m222, ← m240, ← m247]; omega), (by rw [← m222, ← m241, ← m248]; omega), (by rw [← m222, ← m242, ← ex214]; omega), (by rw [← m222, ← m243, ← m249]; omega)⟩, Or.inr ⟨kq, m225, gkq, (by rw [← m251]; exact h70), (by rw [← m226, ← m252, ← m227]; exact q1), (by rw [← m228, ← m252, ← m229]; exact q4), (by rw [← m230, ← m252, ← m231]; exact q5), (by rw [← m232, ← m252, ← m233]; exact q10), (by rw [← m234, ← m252, ← m235]; exact q13), (by rw [← m236, ← m252, ← m237]; exact q16), (by rw [← m252, ← m226]; exact RKI.cast rk253 (by omega)), (by rw [← m230]; omega), (by rw [← m230]; omega)⟩, (by unfold TB; rw [← m224, ← m250, ← m244]; exact TBR.of htr f220 f221 (by omega)), (by unfold RELE; rw [← m222, ← m245, ← m240]; exact ⟨RE.cast re254 (by omega), by omega, by omega⟩), hSH212⟩ hl ⟨hc, hs, fun h => by have h1 := h.symm.trans m225; cases h1⟩
set_option maxRecDepth 100000 in
set_option maxHeartbeats 8000000 in
theorem lw_c29 {p : Program} {l : Launch} {e : Env} {s : State} {m : MethodId} {below : List Frame} {meth : Method} {c : Code} {K : KE} {b0 L : Nat} {xs : Nat → Int32} {G : Nat → Option Nat} {H : Heap} {locs : List Loc} {a b : Nat} {cells slots : Nat} {ls : Array Slot} {i : Int32} {n : Nat} (D : LC p K s m meth c b0 L xs) (S : SX K s G H locs a b) (hl : lv_has ls 4 [(3, .int i), (2, .ref b), (1, .ref a), (0, .ref b0)]) (hi : 0 ≤ i.toInt ∧ i.toInt + 6 ≤ L) (hn : n ≤ 511) (hB : BD K H a cells slots) (nx : ∀ (G : Nat → Option Nat) (H : Heap) (locs : List Loc) (cells slots : Nat) (ls : Array Slot), SX K s G H locs a b → lv_has ls 4 [(3, .int i), (2, .ref b), (1, .ref a), (0, .ref b0)] → BD K H a cells slots → W p l e room_1 s m #[Value.ref b0] below meth c H locs cells slots (lw_Z below #[Value.ref b0] s) (F0 m 1509 ls [])) : W p l e room_1 s m #[Value.ref b0] below meth c H locs cells slots (lw_Z below #[Value.ref b0] s) (F0 m 1315 ls []) := by
  have hI := hi
  obtain ⟨C, hX, hbl, hL⟩ := id D
  obtain ⟨hx, hb, hml, hown, hts, hKT, hr, hlocks, hnm⟩ := id C
  obtain ⟨hT, hN, ga, gb, cg, tu, wd, im, ⟨rt, r1, r4, r5, r10, r13, r16⟩, hk, htb, her, hS⟩ := S
  obtain ⟨hc, hs, hB0⟩ := hB
  have n_1 : (1 : Int32).toInt = 1 := rfl
  have n_2 : (2 : Int32).toInt = 2 := rfl
  obtain ⟨w, ew⟩ : ∃ z : Nat, z = fR H a (K.1.2 9 0) := ⟨_, rfl⟩
  have gw := ty_fr (q := w) (k := 0) (u := 0) ew hT ga rg_68 rfl
  rw [← ew] at r1 r4 r5 r10 r13 r16
  obtain ⟨ta, eta⟩ : ∃ z : Int32, z = fI H a (K.1.2 9 3) := ⟨_, rfl⟩
  rw [← eta] at rt
  obtain ⟨tb, etb⟩ : ∃ z : Int32, z = fI H b (K.1.2 10 18) := ⟨_, rfl⟩
  rw [← etb] at rt
  obtain ⟨s1, es1⟩ : ∃ z : Int32, z = fI H w (K.1.2 8 1) := ⟨_, rfl⟩
  rw [← es1] at r1
  obtain ⟨y1, ey1⟩ : ∃ z : Int32, z = fI H b (K.1.2 10 1) := ⟨_, rfl⟩
  rw [← ey1] at r1
  obtain ⟨s4, es4⟩ : ∃ z : Int32, z = fI H w (K.1.2 8 4) := ⟨_, rfl⟩
  rw [← es4] at r4
  obtain ⟨y4, ey4⟩ : ∃ z : Int32, z = fI H b (K.1.2 10 2) := ⟨_, rfl⟩
  rw [← ey4] at r4
  obtain ⟨s5, es5⟩ : ∃ z : Int32, z = fI H w (K.1.2 8 5) := ⟨_, rfl⟩
  rw [← es5] at r5
  obtain ⟨y5, ey5⟩ : ∃ z : Int32, z = fI H b (K.1.2 10 3) := ⟨_, rfl⟩
  rw [← ey5] at r5
  obtain ⟨s10, es10⟩ : ∃ z : Int32, z = fI H w (K.1.2 8 10) := ⟨_, rfl⟩
  rw [← es10] at r10
  obtain ⟨y10, ey10⟩ : ∃ z : Int32, z = fI H b (K.1.2 10 59) := ⟨_, rfl⟩
  rw [← ey10] at r10
  obtain ⟨s13, es13⟩ : ∃ z : Int32, z = fI H w (K.1.2 8 13) := ⟨_, rfl⟩
  rw [← es13] at r13
  obtain ⟨y13, ey13⟩ : ∃ z : Int32, z = fI H b (K.1.2 10 62) := ⟨_, rfl⟩
  rw [← ey13] at r13
  obtain ⟨s16, es16⟩ : ∃ z : Int32, z = fI H w (K.1.2 8 16) := ⟨_, rfl⟩
  rw [← es16] at r16
  obtain ⟨y16, ey16⟩ : ∃ z : Int32, z = fI H b (K.1.2 10 65) := ⟨_, rfl⟩
  rw [← ey16] at r16
  obtain ⟨tq, etq⟩ : ∃ z : Nat, z = fR H a (K.1.2 9 2) := ⟨_, rfl⟩
  have gtq := ty_fr (q := tq) (k := 2) (u := 108) etq hT ga rg_68 rfl
  obtain ⟨uq, euq⟩ : ∃ z : Nat, z = fR H b (K.1.2 10 17) := ⟨_, rfl⟩
  have guq := ty_fr (q := uq) (k := 17) (u := 126) euq hT gb rg_112 rfl
  have htr : TBR (fun j => fI H tq j) (fun j => fI H uq j) tb.toNatClampNeg := by rw [etq, euq, etb]; exact htb
  have ft0 : ∀ j : Nat, fI H tq j = fI H tq j := fun _ => rfl
  have fu0 : ∀ j : Nat, fI H uq j = fI H uq j := fun _ => rfl
  have bta := ty_fi (x := ta) (k := 3) eta hT ga rg_68 rfl
  have cta := i_cl (x := ta) (by omega)
  have btb := ty_fi (x := tb) (k := 18) etb hT gb rg_112 rfl
  have ctb := i_cl (x := tb) (by omega)
  obtain ⟨her0, hsl1, hsl2⟩ := her
  have hsl0 := And.intro hsl1 hsl2
  clear hsl1 hsl2
  rw [← ew] at her0 hsl0
  have re : RE K H w b s1.toInt := RE.cast her0 (by rw [← ey1]; exact r1)
  have hsl : 0 ≤ s5.toInt ∧ s5.toInt ≤ 9999 := by rw [es5]; exact hsl0
  clear her0 hsl0
  have bt_s1 := ty_fi (x := s1) (k := 1) es1 hT gw rg_0 rfl
  have bt_s4 := ty_fi (x := s4) (k := 4) es4 hT gw rg_0 rfl
  have bt_y1 := ty_fi (x := y1) (k := 1) ey1 hT gb rg_112 rfl
  have bt_y4 := ty_fi (x := y4) (k := 2) ey4 hT gb rg_112 rfl
  rcases hk with ⟨kn, h70⟩ | ⟨kq, kn, gkq, h70, q1, q4, q5, q10, q13, q16, rke, ks1, ks2⟩
  · skip
    obtain ⟨hi, ehi⟩ : ∃ z : Int32, z = fI H b (K.1.2 10 70) := ⟨_, rfl⟩
    rw [← ehi] at h70
    obtain ⟨hc0, hs0⟩ := hB0 kn
    obtain ⟨iq, eiq⟩ : ∃ z : Nat, z = fR H b (K.1.2 10 73) := ⟨_, rfl⟩
    have giq := ty_fr (q := iq) (k := 73) (u := 162) eiq hT gb rg_112 rfl
    refine lv_aload_n hx hb dL_law_1315 rfl (lv_at hl 2 rfl) ?_
    refine lv_aload_n hx hb dL_law_1316 rfl (lv_at hl 3 rfl) ?_
    refine lv_iload_n hx hb dL_law_1317 rfl (lv_at hl 0 rfl) ?_
    refine lv_iconst (v := 1) hx hb dL_law_1318 (by decide) ?_
    refine lv_iadd hx hb dL_law_1319 ?_
    refine lv_topi (fun x101 ex101 => ?_)
    obtain ⟨tx101, ejx101, evx101⟩ := lw_ix (k := 1) ex101 hI hL rfl (by decide)
    clear tx101
    refine va_sld hx hb hX hbl (Nat.not_le.mpr hbl) hS (vp_in_iff.mpr evx101) dL_law_1320 ?_
    refine W.eq (g2 := F0 m 1321 ls [.int (xs (i.toNatClampNeg + 1)), .ref a]) (congrArg (fun z => F0 m 1321 ls [.int (xs z), .ref a]) ejx101) ?_
    refine lv_aload_n hx hb dL_law_1321 rfl (lv_at hl 3 rfl) ?_
    refine lv_iload_n hx hb dL_law_1322 rfl (lv_at hl 0 rfl) ?_
    refine lv_iconst (v := 2) hx hb dL_law_1323 (by decide) ?_
    refine lv_iadd hx hb dL_law_1324 ?_
    refine lv_topi (fun x102 ex102 => ?_)
    obtain ⟨tx102, ejx102, evx102⟩ := lw_ix (k := 2) ex102 hI hL rfl (by decide)
    clear tx102
    refine va_sld hx hb hX hbl (Nat.not_le.mpr hbl) hS (vp_in_iff.mpr evx102) dL_law_1325 ?_
    refine W.eq (g2 := F0 m 1326 ls [.int (xs (i.toNatClampNeg + 2)), .int (xs (i.toNatClampNeg + 1)), .ref a]) (congrArg (fun z => F0 m 1326 ls [.int (xs z), .int (xs (i.toNatClampNeg + 1)), .ref a]) ejx102) ?_
    refine x_V (As := [.int (xs (i.toNatClampNeg + 1)), .int (xs (i.toNatClampNeg + 2))]) (rest := []) C (a_X9_blank_w l K G H ((xs (i.toNatClampNeg + 1))) ((xs (i.toNatClampNeg + 2))) (s1) (s4) (s5) (s10) (s13) (s16) hT ga gw ew es1 es4 es5 es10 es13 es16) yo_X9_blank wM_L_137 ⟨⟨by decide, by decide⟩, show _ ≤ 60000 from Nat.le_trans hc (by decide), show _ ≤ 8922250 from Nat.le_trans hs (by decide)⟩ (x_rv C hT (ci := 9) rfl ga rg_68) rfl hl.1 rfl (Nat.le_of_ble_eq_true rfl) dL_law_1326 hS (AE_new hN hS.1) (fun vH103 H103 locsH103 pH103 zH103 kH103 hSH103 => ?_)
    obtain ⟨x104, x105, x106, x107, x108, x109, x110, hvH103, ex105, ex106, ex107, ex108, ex109, ex110, hrH103, m111, hTH103⟩ := pH103
    subst hvH103
    have g112 : CG (avw K H103 b) := CG.congr (fun k hk j => av_eff hT kH103 gb (by decide) (CG_eff [0, 32, 33] (by decide) k hk)) cg
    have g113 : TU (avw K H103 b) (svw K H103 b) := TU.congr (fun k hk j => av_eff hT kH103 gb (by decide) (TU_eff [0, 32, 33] (by decide) k hk)) (fun k hk => sv_eff hT kH103 gb (by decide)) tu
    have g114 : WD (avw K H103 b) := WD.congr (fun k hk j => av_eff hT kH103 gb (by decide) (WD_eff [0, 32, 33] (by decide) k hk)) wd
    have g115 : IM (avw K H103 b) := IM.congr (fun k hk j => av_eff hT kH103 gb (by decide) (IM_eff [0, 32, 33] (by decide) k hk)) im
    have f116 : ∀ j : Nat, fI H103 tq j = fI H tq j := fun j => (fI_kept (x_lt hT kH103 gtq (by decide))).trans (ft0 j)
    have f117 : ∀ j : Nat, fI H103 uq j = fI H uq j := fun j => (fI_kept (x_lt hT kH103 guq (by decide))).trans (fu0 j)
    have m118 := (ew).trans (fR_kept (x_lt hT kH103 ga (by decide))).symm
    have m119 := (eta).trans (fI_kept (x_lt hT kH103 ga (by decide))).symm
    have m120 := (etb).trans (fI_kept (x_lt hT kH103 gb (by decide))).symm
    have m121 := (ey1).trans (fI_kept (x_lt hT kH103 gb (by decide))).symm
    have m122 := (ey4).trans (fI_kept (x_lt hT kH103 gb (by decide))).symm
    have m123 := (ey5).trans (fI_kept (x_lt hT kH103 gb (by decide))).symm
    have m124 := (ey10).trans (fI_kept (x_lt hT kH103 gb (by decide))).symm
    have m125 := (ey13).trans (fI_kept (x_lt hT kH103 gb (by decide))).symm
    have m126 := (ey16).trans (fI_kept (x_lt hT kH103 gb (by decide))).symm
    have m127 := (etq).trans (fR_kept (x_lt hT kH103 ga (by decide))).symm
    have m128 := (euq).trans (fR_kept (x_lt hT kH103 gb (by decide))).symm
    have m129 := (ehi).trans (fI_kept (x_lt hT kH103 gb (by decide))).symm
    have m130 := (fV_kept (x_lt hT kH103 ga (by decide))).trans kn
    have m131 := (eiq).trans (fR_kept (x_lt hT kH103 gb (by decide))).symm
    have bx105 := ty_fi (x := x105) (k := 1) ex105 hTH103 gw rg_0 rfl
    have bx106 := ty_fi (x := x106) (k := 4) ex106 hTH103 gw rg_0 rfl
    have bx107 := ty_fi (x := x107) (k := 5) ex107 hTH103 gw rg_0 rfl
    have bx108 := ty_fi (x := x108) (k := 10) ex108 hTH103 gw rg_0 rfl
    have bx109 := ty_fi (x := x109) (k := 13) ex109 hTH103 gw rg_0 rfl
    have bx110 := ty_fi (x := x110) (k := 16) ex110 hTH103 gw rg_0 rfl
    refine W.eq (g2 := F0 m 1329 ls [.int x104]) rfl ?_
    have re132 : RE K H103 w b s1.toInt := RE.now re hT gw gb m111 (fun q t hq ht => x_lt hT kH103 hq (by first | exact nmr ht (by decide) | exact nmo ht (by decide) | exact nme ht (by decide) | exact nmq ht (by decide) | decide | (intro z; simp only [List.mem_cons, List.not_mem_nil, or_false] at z <;> omega) | omega))
    refine lv_pop hx hb dL_law_1329 rfl ?_
    refine lv_aload_n hx hb dL_law_1330 rfl (lv_at hl 1 rfl) ?_
    refine lv_aload_n hx hb dL_law_1331 rfl (lv_at hl 3 rfl) ?_
    refine lv_iload_n hx hb dL_law_1332 rfl (lv_at hl 0 rfl) ?_
    refine lv_iconst (v := 1) hx hb dL_law_1333 (by decide) ?_
    refine lv_iadd hx hb dL_law_1334 ?_
    refine lv_topi (fun x133 ex133 => ?_)
    obtain ⟨tx133, ejx133, evx133⟩ := lw_ix (k := 1) ex133 hI hL rfl (by decide)
    clear tx133
    refine va_sld hx hb hX hbl (Nat.not_le.mpr hbl) hSH103 (vp_in_iff.mpr evx133) dL_law_1335 ?_
    refine W.eq (g2 := F0 m 1336 ls [.int (xs (i.toNatClampNeg + 1)), .ref b]) (congrArg (fun z => F0 m 1336 ls [.int (xs z), .ref b]) ejx133) ?_
    refine lv_aload_n hx hb dL_law_1336 rfl (lv_at hl 3 rfl) ?_
    refine lv_iload_n hx hb dL_law_1337 rfl (lv_at hl 0 rfl) ?_
    refine lv_iconst (v := 2) hx hb dL_law_1338 (by decide) ?_
    refine lv_iadd hx hb dL_law_1339 ?_
    refine lv_topi (fun x134 ex134 => ?_)
    obtain ⟨tx134, ejx134, evx134⟩ := lw_ix (k := 2) ex134 hI hL rfl (by decide)
    clear tx134
    refine va_sld hx hb hX hbl (Nat.not_le.mpr hbl) hSH103 (vp_in_iff.mpr evx134) dL_law_1340 ?_
    refine W.eq (g2 := F0 m 1341 ls [.int (xs (i.toNatClampNeg + 2)), .int (xs (i.toNatClampNeg + 1)), .ref b]) (congrArg (fun z => F0 m 1341 ls [.int (xs z), .int (xs (i.toNatClampNeg + 1)), .ref b]) ejx134) ?_
    refine x_V (As := [.int (xs (i.toNatClampNeg + 1)), .int (xs (i.toNatClampNeg + 2))]) (rest := []) C (a_X10_blank_r l K G H103 ((xs (i.toNatClampNeg + 1))) ((xs (i.toNatClampNeg + 2))) (y16) hTH103 gb m126 g112 g113 g114 g115) yo_X10_blank wM_L_140 ⟨⟨by decide, by decide⟩, show _ ≤ 60000 from Nat.le_trans hc (by decide), show _ ≤ 8922250 from Nat.le_trans hs (by decide)⟩ (x_rv C hTH103 (ci := 10) rfl gb rg_112) rfl hl.1 rfl (Nat.le_of_ble_eq_true rfl) dL_law_1341 hSH103 (AE_new hN hSH103.1) (fun vH135 H135 locsH135 pH135 zH135 kH135 hSH135 => ?_)
    obtain ⟨x136, x137, hvH135, ex137, hrH135, g138, g139, g140, g141, mf142, hTH135⟩ := pH135
    subst hvH135
    have f143 : ∀ j : Nat, fI H135 tq j = fI H tq j := fun j => (fI_kept (x_lt hTH103 kH135 gtq (by decide))).trans (f116 j)
    have f144 : ∀ j : Nat, fI H135 uq j = fI H uq j := fun j => (fI_kept (x_lt hTH103 kH135 guq (by decide))).trans (f117 j)
    have m145 := (m118).trans (fR_kept (x_lt hTH103 kH135 ga (by decide))).symm
    have m146 := (m119).trans (fI_kept (x_lt hTH103 kH135 ga (by decide))).symm
    have m147 := (m127).trans (fR_kept (x_lt hTH103 kH135 ga (by decide))).symm
    have m148 := (fV_kept (x_lt hTH103 kH135 ga (by decide))).trans m130
    have m149 := (ex105).trans (fI_kept (x_lt hTH103 kH135 gw (by decide))).symm
    have m150 := (ex106).trans (fI_kept (x_lt hTH103 kH135 gw (by decide))).symm
    have m151 := (ex107).trans (fI_kept (x_lt hTH103 kH135 gw (by decide))).symm
    have m152 := (ex108).trans (fI_kept (x_lt hTH103 kH135 gw (by decide))).symm
    have m153 := (ex109).trans (fI_kept (x_lt hTH103 kH135 gw (by decide))).symm
    have m154 := (ex110).trans (fI_kept (x_lt hTH103 kH135 gw (by decide))).symm
    have m155 := (m120).trans (MF.i mf142 (k := 18) (by decide) (by decide)).symm
    have m156 := (m121).trans (MF.i mf142 (k := 1) (by decide) (by decide)).symm
    have m157 := (m122).trans (MF.i mf142 (k := 2) (by decide) (by decide)).symm
    have m158 := (m123).trans (MF.i mf142 (k := 3) (by decide) (by decide)).symm
    have m159 := (m124).trans (MF.i mf142 (k := 59) (by decide) (by decide)).symm
    have m160 := (m125).trans (MF.i mf142 (k := 62) (by decide) (by decide)).symm
    have m161 := (m128).trans (MF.r mf142 (k := 17) (by decide) (by decide)).symm
    have m162 := (m129).trans (MF.i mf142 (k := 70) (by decide) (by decide)).symm
    have m163 := (m131).trans (MF.r mf142 (k := 73) (by decide) (by decide)).symm
    have bx137 := ty_fi (x := x137) (k := 65) ex137 hTH135 gb rg_112 rfl
    refine W.eq (g2 := F0 m 1344 ls [.int x136]) rfl ?_
    have re164 : RE K H135 w b s1.toInt := RE.ref re132 hTH103 gw gb (fun k hk => MF.r mf142 (by omega) (by intro z; simp only [List.mem_cons, List.not_mem_nil, or_false] at z; omega)) (fun q t hq ht => x_lt hTH103 kH135 hq (by first | exact nmr ht (by decide) | exact nmo ht (by decide) | exact nme ht (by decide) | exact nmq ht (by decide) | decide | (intro z; simp only [List.mem_cons, List.not_mem_nil, or_false] at z <;> omega) | omega))
    refine lv_pop hx hb dL_law_1344 rfl ?_
    refine lv_goto (tgt := 1509) hx hb dL_law_1345 (by decide) ?_
    exact nx G H135 locsH135 _ _ ls ⟨hTH135, hN, ga, gb, g138, g139, g140, g141, ⟨(by rw [← m146, ← m155]; exact rt), (by rw [← m145, ← m149, ← m156]; omega), (by rw [← m145, ← m150, ← m157]; omega), (by rw [← m145, ← m151, ← m158]; omega), (by rw [← m145, ← m152, ← m159]; omega), (by rw [← m145, ← m153, ← m160]; omega), (by rw [← m145, ← m154, ← ex137]; omega)⟩, Or.inl ⟨m148, (by rw [← m162]; exact h70)⟩, (by unfold TB; rw [← m147, ← m161, ← m155]; exact TBR.of htr f143 f144 (by omega)), (by unfold RELE; rw [← m145, ← m156, ← m151]; exact ⟨RE.cast re164 (by omega), by omega, by omega⟩), hSH135⟩ hl ⟨hc, hs, fun _ => ⟨hc0, hs0⟩⟩
  · skip
    obtain ⟨hi, ehi⟩ : ∃ z : Int32, z = fI H b (K.1.2 10 70) := ⟨_, rfl⟩
    rw [← ehi] at h70
    obtain ⟨iq, eiq⟩ : ∃ z : Nat, z = fR H b (K.1.2 10 73) := ⟨_, rfl⟩
    have giq := ty_fr (q := iq) (k := 73) (u := 162) eiq hT gb rg_112 rfl
    rw [← eiq] at q1 q4 q5 q10 q13 q16
    obtain ⟨k1, ek1⟩ : ∃ z : Int32, z = fI H kq (K.1.2 8 1) := ⟨_, rfl⟩
    rw [← ek1] at q1
    obtain ⟨i1, ei1⟩ : ∃ z : Int32, z = fI H iq ((0 : Int32).toNatClampNeg) := ⟨_, rfl⟩
    rw [← ei1] at q1
    obtain ⟨k4, ek4⟩ : ∃ z : Int32, z = fI H kq (K.1.2 8 4) := ⟨_, rfl⟩
    rw [← ek4] at q4
    obtain ⟨i4, ei4⟩ : ∃ z : Int32, z = fI H iq ((1 : Int32).toNatClampNeg) := ⟨_, rfl⟩
    rw [← ei4] at q4
    obtain ⟨k5, ek5⟩ : ∃ z : Int32, z = fI H kq (K.1.2 8 5) := ⟨_, rfl⟩
    rw [← ek5] at q5
    obtain ⟨i5, ei5⟩ : ∃ z : Int32, z = fI H iq ((2 : Int32).toNatClampNeg) := ⟨_, rfl⟩
    rw [← ei5] at q5
    obtain ⟨k10, ek10⟩ : ∃ z : Int32, z = fI H kq (K.1.2 8 10) := ⟨_, rfl⟩
    rw [← ek10] at q10
    obtain ⟨i10, ei10⟩ : ∃ z : Int32, z = fI H iq ((3 : Int32).toNatClampNeg) := ⟨_, rfl⟩
    rw [← ei10] at q10
    obtain ⟨k13, ek13⟩ : ∃ z : Int32, z = fI H kq (K.1.2 8 13) := ⟨_, rfl⟩
    rw [← ek13] at q13
    obtain ⟨i13, ei13⟩ : ∃ z : Int32, z = fI H iq ((4 : Int32).toNatClampNeg) := ⟨_, rfl⟩
    rw [← ei13] at q13
    obtain ⟨k16, ek16⟩ : ∃ z : Int32, z = fI H kq (K.1.2 8 16) := ⟨_, rfl⟩
    rw [← ek16] at q16
    obtain ⟨i16, ei16⟩ : ∃ z : Int32, z = fI H iq ((5 : Int32).toNatClampNeg) := ⟨_, rfl⟩
    rw [← ei16] at q16
    rw [← eiq, ← ek1] at rke
    have hsk : 0 ≤ k5.toInt ∧ k5.toInt ≤ 9999 := by rw [ek5]; exact ⟨ks1, ks2⟩
    refine lv_aload_n hx hb dL_law_1315 rfl (lv_at hl 2 rfl) ?_
    refine lv_aload_n hx hb dL_law_1316 rfl (lv_at hl 3 rfl) ?_
    refine lv_iload_n hx hb dL_law_1317 rfl (lv_at hl 0 rfl) ?_
    refine lv_iconst (v := 1) hx hb dL_law_1318 (by decide) ?_
    refine lv_iadd hx hb dL_law_1319 ?_
    refine lv_topi (fun x165 ex165 => ?_)
    obtain ⟨tx165, ejx165, evx165⟩ := lw_ix (k := 1) ex165 hI hL rfl (by decide)
    clear tx165
    refine va_sld hx hb hX hbl (Nat.not_le.mpr hbl) hS (vp_in_iff.mpr evx165) dL_law_1320 ?_
    refine W.eq (g2 := F0 m 1321 ls [.int (xs (i.toNatClampNeg + 1)), .ref a]) (congrArg (fun z => F0 m 1321 ls [.int (xs z), .ref a]) ejx165) ?_
    refine lv_aload_n hx hb dL_law_1321 rfl (lv_at hl 3 rfl) ?_
    refine lv_iload_n hx hb dL_law_1322 rfl (lv_at hl 0 rfl) ?_
    refine lv_iconst (v := 2) hx hb dL_law_1323 (by decide) ?_
    refine lv_iadd hx hb dL_law_1324 ?_
    refine lv_topi (fun x166 ex166 => ?_)
    obtain ⟨tx166, ejx166, evx166⟩ := lw_ix (k := 2) ex166 hI hL rfl (by decide)
    clear tx166
    refine va_sld hx hb hX hbl (Nat.not_le.mpr hbl) hS (vp_in_iff.mpr evx166) dL_law_1325 ?_
    refine W.eq (g2 := F0 m 1326 ls [.int (xs (i.toNatClampNeg + 2)), .int (xs (i.toNatClampNeg + 1)), .ref a]) (congrArg (fun z => F0 m 1326 ls [.int (xs z), .int (xs (i.toNatClampNeg + 1)), .ref a]) ejx166) ?_
    refine x_V (As := [.int (xs (i.toNatClampNeg + 1)), .int (xs (i.toNatClampNeg + 2))]) (rest := []) C (a_X9_blank_w l K G H ((xs (i.toNatClampNeg + 1))) ((xs (i.toNatClampNeg + 2))) (s1) (s4) (s5) (s10) (s13) (s16) hT ga gw ew es1 es4 es5 es10 es13 es16) yo_X9_blank wM_L_137 ⟨⟨by decide, by decide⟩, show _ ≤ 60000 from Nat.le_trans hc (by decide), show _ ≤ 8922250 from Nat.le_trans hs (by decide)⟩ (x_rv C hT (ci := 9) rfl ga rg_68) rfl hl.1 rfl (Nat.le_of_ble_eq_true rfl) dL_law_1326 hS (AE_new hN hS.1) (fun vH167 H167 locsH167 pH167 zH167 kH167 hSH167 => ?_)
    obtain ⟨x168, x169, x170, x171, x172, x173, x174, hvH167, ex169, ex170, ex171, ex172, ex173, ex174, hrH167, m175, hTH167⟩ := pH167
    subst hvH167
    have g176 : CG (avw K H167 b) := CG.congr (fun k hk j => av_eff hT kH167 gb (by decide) (CG_eff [0, 32, 33] (by decide) k hk)) cg
    have g177 : TU (avw K H167 b) (svw K H167 b) := TU.congr (fun k hk j => av_eff hT kH167 gb (by decide) (TU_eff [0, 32, 33] (by decide) k hk)) (fun k hk => sv_eff hT kH167 gb (by decide)) tu
    have g178 : WD (avw K H167 b) := WD.congr (fun k hk j => av_eff hT kH167 gb (by decide) (WD_eff [0, 32, 33] (by decide) k hk)) wd
    have g179 : IM (avw K H167 b) := IM.congr (fun k hk j => av_eff hT kH167 gb (by decide) (IM_eff [0, 32, 33] (by decide) k hk)) im
    have f180 : ∀ j : Nat, fI H167 tq j = fI H tq j := fun j => (fI_kept (x_lt hT kH167 gtq (by decide))).trans (ft0 j)
    have f181 : ∀ j : Nat, fI H167 uq j = fI H uq j := fun j => (fI_kept (x_lt hT kH167 guq (by decide))).trans (fu0 j)
    have m182 := (ew).trans (fR_kept (x_lt hT kH167 ga (by decide))).symm
    have m183 := (eta).trans (fI_kept (x_lt hT kH167 ga (by decide))).symm
    have m184 := (etb).trans (fI_kept (x_lt hT kH167 gb (by decide))).symm
    have m185 := (ey1).trans (fI_kept (x_lt hT kH167 gb (by decide))).symm
    have m186 := (ey4).trans (fI_kept (x_lt hT kH167 gb (by decide))).symm
    have m187 := (ey5).trans (fI_kept (x_lt hT kH167 gb (by decide))).symm
    have m188 := (ey10).trans (fI_kept (x_lt hT kH167 gb (by decide))).symm
    have m189 := (ey13).trans (fI_kept (x_lt hT kH167 gb (by decide))).symm
    have m190 := (ey16).trans (fI_kept (x_lt hT kH167 gb (by decide))).symm
    have m191 := (etq).trans (fR_kept (x_lt hT kH167 ga (by decide))).symm
    have m192 := (euq).trans (fR_kept (x_lt hT kH167 gb (by decide))).symm
    have m193 := (ehi).trans (fI_kept (x_lt hT kH167 gb (by decide))).symm
    have m194 := (fV_kept (x_lt hT kH167 ga (by decide))).trans kn
    have m195 := (eiq).trans (fR_kept (x_lt hT kH167 gb (by decide))).symm
    have m196 := (ek1).trans (fI_kept (x_lt hT kH167 gkq (by decide))).symm
    have m197 := (ei1).trans (fI_kept (x_lt hT kH167 giq (by decide))).symm
    have m198 := (ek4).trans (fI_kept (x_lt hT kH167 gkq (by decide))).symm
    have m199 := (ei4).trans (fI_kept (x_lt hT kH167 giq (by decide))).symm
    have m200 := (ek5).trans (fI_kept (x_lt hT kH167 gkq (by decide))).symm
    have m201 := (ei5).trans (fI_kept (x_lt hT kH167 giq (by decide))).symm
    have m202 := (ek10).trans (fI_kept (x_lt hT kH167 gkq (by decide))).symm
    have m203 := (ei10).trans (fI_kept (x_lt hT kH167 giq (by decide))).symm
    have m204 := (ek13).trans (fI_kept (x_lt hT kH167 gkq (by decide))).symm
    have m205 := (ei13).trans (fI_kept (x_lt hT kH167 giq (by decide))).symm
    have m206 := (ek16).trans (fI_kept (x_lt hT kH167 gkq (by decide))).symm
    have m207 := (ei16).trans (fI_kept (x_lt hT kH167 giq (by decide))).symm
    have bx169 := ty_fi (x := x169) (k := 1) ex169 hTH167 gw rg_0 rfl
    have bx170 := ty_fi (x := x170) (k := 4) ex170 hTH167 gw rg_0 rfl
    have bx171 := ty_fi (x := x171) (k := 5) ex171 hTH167 gw rg_0 rfl
    have bx172 := ty_fi (x := x172) (k := 10) ex172 hTH167 gw rg_0 rfl
    have bx173 := ty_fi (x := x173) (k := 13) ex173 hTH167 gw rg_0 rfl
    have bx174 := ty_fi (x := x174) (k := 16) ex174 hTH167 gw rg_0 rfl
    refine W.eq (g2 := F0 m 1329 ls [.int x168]) rfl ?_
    have rk208 : RKI K H167 kq iq k1.toInt := RKI.kept rke hT gkq (x_lt hT kH167 giq (by first | exact nmr ht (by decide) | exact nmo ht (by decide) | exact nme ht (by decide) | exact nmq ht (by decide) | decide | (intro z; simp only [List.mem_cons, List.not_mem_nil, or_false] at z <;> omega) | omega)) (fun q t hq ht => x_lt hT kH167 hq (by first | exact nmr ht (by decide) | exact nmo ht (by decide) | exact nme ht (by decide) | exact nmq ht (by decide) | decide | (intro z; simp only [List.mem_cons, List.not_mem_nil, or_false] at z <;> omega) | omega))
    have re209 : RE K H167 w b s1.toInt := RE.now re hT gw gb m175 (fun q t hq ht => x_lt hT kH167 hq (by first | exact nmr ht (by decide) | exact nmo ht (by decide) | exact nme ht (by decide) | exact nmq ht (by decide) | decide | (intro z; simp only [List.mem_cons, List.not_mem_nil, or_false] at z <;> omega) | omega))
    refine lv_pop hx hb dL_law_1329 rfl ?_
    refine lv_aload_n hx hb dL_law_1330 rfl (lv_at hl 1 rfl) ?_
    refine lv_aload_n hx hb dL_law_1331 rfl (lv_at hl 3 rfl) ?_
    refine lv_iload_n hx hb dL_law_1332 rfl (lv_at hl 0 rfl) ?_
    refine lv_iconst (v := 1) hx hb dL_law_1333 (by decide) ?_
    refine lv_iadd hx hb dL_law_1334 ?_
    refine lv_topi (fun x210 ex210 => ?_)
    obtain ⟨tx210, ejx210, evx210⟩ := lw_ix (k := 1) ex210 hI hL rfl (by decide)
    clear tx210
    refine va_sld hx hb hX hbl (Nat.not_le.mpr hbl) hSH167 (vp_in_iff.mpr evx210) dL_law_1335 ?_
    refine W.eq (g2 := F0 m 1336 ls [.int (xs (i.toNatClampNeg + 1)), .ref b]) (congrArg (fun z => F0 m 1336 ls [.int (xs z), .ref b]) ejx210) ?_
    refine lv_aload_n hx hb dL_law_1336 rfl (lv_at hl 3 rfl) ?_
    refine lv_iload_n hx hb dL_law_1337 rfl (lv_at hl 0 rfl) ?_
    refine lv_iconst (v := 2) hx hb dL_law_1338 (by decide) ?_
    refine lv_iadd hx hb dL_law_1339 ?_
    refine lv_topi (fun x211 ex211 => ?_)
    obtain ⟨tx211, ejx211, evx211⟩ := lw_ix (k := 2) ex211 hI hL rfl (by decide)
    clear tx211
    refine va_sld hx hb hX hbl (Nat.not_le.mpr hbl) hSH167 (vp_in_iff.mpr evx211) dL_law_1340 ?_
    refine W.eq (g2 := F0 m 1341 ls [.int (xs (i.toNatClampNeg + 2)), .int (xs (i.toNatClampNeg + 1)), .ref b]) (congrArg (fun z => F0 m 1341 ls [.int (xs z), .int (xs (i.toNatClampNeg + 1)), .ref b]) ejx211) ?_
    refine x_V (As := [.int (xs (i.toNatClampNeg + 1)), .int (xs (i.toNatClampNeg + 2))]) (rest := []) C (a_X10_blank_r l K G H167 ((xs (i.toNatClampNeg + 1))) ((xs (i.toNatClampNeg + 2))) (y16) hTH167 gb m190 g176 g177 g178 g179) yo_X10_blank wM_L_140 ⟨⟨by decide, by decide⟩, show _ ≤ 60000 from Nat.le_trans hc (by decide), show _ ≤ 8922250 from Nat.le_trans hs (by decide)⟩ (x_rv C hTH167 (ci := 10) rfl gb rg_112) rfl hl.1 rfl (Nat.le_of_ble_eq_true rfl) dL_law_1341 hSH167 (AE_new hN hSH167.1) (fun vH212 H212 locsH212 pH212 zH212 kH212 hSH212 => ?_)
    obtain ⟨x213, x214, hvH212, ex214, hrH212, g215, g216, g217, g218, mf219, hTH212⟩ := pH212
    subst hvH212
    have f220 : ∀ j : Nat, fI H212 tq j = fI H tq j := fun j => (fI_kept (x_lt hTH167 kH212 gtq (by decide))).trans (f180 j)
    have f221 : ∀ j : Nat, fI H212 uq j = fI H uq j := fun j => (fI_kept (x_lt hTH167 kH212 guq (by decide))).trans (f181 j)
    have m222 := (m182).trans (fR_kept (x_lt hTH167 kH212 ga (by decide))).symm
    have m223 := (m183).trans (fI_kept (x_lt hTH167 kH212 ga (by decide))).symm
    have m224 := (m191).trans (fR_kept (x_lt hTH167 kH212 ga (by decide))).symm
    have m225 := (fV_kept (x_lt hTH167 kH212 ga (by decide))).trans m194
    have m226 := (m196).trans (fI_kept (x_lt hTH167 kH212 gkq (by decide))).symm
    have m227 := (m197).trans (fI_kept (x_lt hTH167 kH212 giq (by decide))).symm
    have m228 := (m198).trans (fI_kept (x_lt hTH167 kH212 gkq (by decide))).symm
    have m229 := (m199).trans (fI_kept (x_lt hTH167 kH212 giq (by decide))).symm
    have m230 := (m200).trans (fI_kept (x_lt hTH167 kH212 gkq (by decide))).symm
    have m231 := (m201).trans (fI_kept (x_lt hTH167 kH212 giq (by decide))).symm
    have m232 := (m202).trans (fI_kept (x_lt hTH167 kH212 gkq (by decide))).symm
    have m233 := (m203).trans (fI_kept (x_lt hTH167 kH212 giq (by decide))).symm
    have m234 := (m204).trans (fI_kept (x_lt hTH167 kH212 gkq (by decide))).symm
    have m235 := (m205).trans (fI_kept (x_lt hTH167 kH212 giq (by decide))).symm
    have m236 := (m206).trans (fI_kept (x_lt hTH167 kH212 gkq (by decide))).symm
    have m237 := (m207).trans (fI_kept (x_lt hTH167 kH212 giq (by decide))).symm
    have m238 := (ex169).trans (fI_kept (x_lt hTH167 kH212 gw (by decide))).symm
    have m239 := (ex170).trans (fI_kept (x_lt hTH167 kH212 gw (by decide))).symm
    have m240 := (ex171).trans (fI_kept (x_lt hTH167 kH212 gw (by decide))).symm
    have m241 := (ex172).trans (fI_kept (x_lt hTH167 kH212 gw (by decide))).symm
    have m242 := (ex173).trans (fI_kept (x_lt hTH167 kH212 gw (by decide))).symm
    have m243 := (ex174).trans (fI_kept (x_lt hTH167 kH212 gw (by decide))).symm
    have m244 := (m184).trans (MF.i mf219 (k := 18) (by decide) (by decide)).symm
    have m245 := (m185).trans (MF.i mf219 (k := 1) (by decide) (by decide)).symm
    have m246 := (m186).trans (MF.i mf219 (k := 2) (by decide) (by decide)).symm
    have m247 := (m187).trans (MF.i mf219 (k := 3) (by decide) (by decide)).symm
    have m248 := (m188).trans (MF.i mf219 (k := 59) (by decide) (by decide)).symm
    have m249 := (m189).trans (MF.i mf219 (k := 62) (by decide) (by decide)).symm
    have m250 := (m192).trans (MF.r mf219 (k := 17) (by decide) (by decide)).symm
    have m251 := (m193).trans (MF.i mf219 (k := 70) (by decide) (by decide)).symm
    have m252 := (m195).trans (MF.r mf219 (k := 73) (by decide) (by decide)).symm
    have bx214 := ty_fi (x := x214) (k := 65) ex214 hTH212 gb rg_112 rfl
    refine W.eq (g2 := F0 m 1344 ls [.int x213]) rfl ?_
    have rk253 : RKI K H212 kq iq k1.toInt := RKI.kept rk208 hTH167 gkq (x_lt hTH167 kH212 giq (by first | exact nmr ht (by decide) | exact nmo ht (by decide) | exact nme ht (by decide) | exact nmq ht (by decide) | decide | (intro z; simp only [List.mem_cons, List.not_mem_nil, or_false] at z <;> omega) | omega)) (fun q t hq ht => x_lt hTH167 kH212 hq (by first | exact nmr ht (by decide) | exact nmo ht (by decide) | exact nme ht (by decide) | exact nmq ht (by decide) | decide | (intro z; simp only [List.mem_cons, List.not_mem_nil, or_false] at z <;> omega) | omega))
    have re254 : RE K H212 w b s1.toInt := RE.ref re209 hTH167 gw gb (fun k hk => MF.r mf219 (by omega) (by intro z; simp only [List.mem_cons, List.not_mem_nil, or_false] at z; omega)) (fun q t hq ht => x_lt hTH167 kH212 hq (by first | exact nmr ht (by decide) | exact nmo ht (by decide) | exact nme ht (by decide) | exact nmq ht (by decide) | decide | (intro z; simp only [List.mem_cons, List.not_mem_nil, or_false] at z <;> omega) | omega))
    refine lv_pop hx hb dL_law_1344 rfl ?_
    refine lv_goto (tgt := 1509) hx hb dL_law_1345 (by decide) ?_
    exact nx G H212 locsH212 _ _ ls ⟨hTH212, hN, ga, gb, g215, g216, g217, g218, ⟨(by rw [← m223, ← m244]; exact rt), (by rw [← m222, ← m238, ← m245]; omega), (by rw [← m222, ← m239, ← m246]; omega), (by rw [← m222, ← m240, ← m247]; omega), (by rw [← m222, ← m241, ← m248]; omega), (by rw [← m222, ← m242, ← m249]; omega), (by rw [← m222, ← m243, ← ex214]; omega)⟩, Or.inr ⟨kq, m225, gkq, (by rw [← m251]; exact h70), (by rw [← m226, ← m252, ← m227]; exact q1), (by rw [← m228, ← m252, ← m229]; exact q4), (by rw [← m230, ← m252, ← m231]; exact q5), (by rw [← m232, ← m252, ← m233]; exact q10), (by rw [← m234, ← m252, ← m235]; exact q13), (by rw [← m236, ← m252, ← m237]; exact q16), (by rw [← m252, ← m226]; exact RKI.cast rk253 (by omega)), (by rw [← m230]; omega), (by rw [← m230]; omega)⟩, (by unfold TB; rw [← m224, ← m250, ← m244]; exact TBR.of htr f220 f221 (by omega)), (by unfold RELE; rw [← m222, ← m245, ← m240]; exact ⟨RE.cast re254 (by omega), by omega, by omega⟩), hSH212⟩ hl ⟨hc, hs, fun h => by have h1 := h.symm.trans m225; cases h1⟩