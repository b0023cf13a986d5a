set_option maxRecDepth 100000 in
set_option maxHeartbeats 8000000 in
theorem lw_c26 {p : Program} {l : Launch} {e : Env} {s : State} {m : MethodId} {below : List Frame} {meth : Method} {c : Code} {K : KE} {b0 L : Nat} {xs : Nat → Int32} {G : Nat → Option Nat} {H : Heap} {locs : List Loc} {a b : Nat} {cells slots : Nat} {ls : Array Slot} {i : Int32} {n : Nat} (D : LC p K s m meth c b0 L xs) (S : SX K s G H locs a b) (hl : lv_has ls 4 [(3, .int i), (2, .ref b), (1, .ref a), (0, .ref b0)]) (hi : 0 ≤ i.toInt ∧ i.toInt + 6 ≤ L) (hn : n ≤ 511) (hB : BD K H a cells slots) (nx : ∀ (G : Nat → Option Nat) (H : Heap) (locs : List Loc) (cells slots : Nat) (ls : Array Slot), SX K s G H locs a b → lv_has ls 4 [(3, .int i), (2, .ref b), (1, .ref a), (0, .ref b0)] → BD K H a cells slots → W p l e room_1 s m #[Value.ref b0] below meth c H locs cells slots (lw_Z below #[Value.ref b0] s) (F0 m 1509 ls [])) : W p l e room_1 s m #[Value.ref b0] below meth c H locs cells slots (lw_Z below #[Value.ref b0] s) (F0 m 1216 ls []) := by
  have hI := hi
  obtain ⟨C, hX, hbl, hL⟩ := id D
  obtain ⟨hx, hb, hml, hown, hts, hKT, hr, hlocks, hnm⟩ := id C
  obtain ⟨hT, hN, ga, gb, cg, tu, wd, im, ⟨rt, r1, r4, r5, r10, r13, r16⟩, hk, htb, her, hS⟩ := S
  obtain ⟨hc, hs, hB0⟩ := hB
  have n_1 : (1 : Int32).toInt = 1 := rfl
  have n_2 : (2 : Int32).toInt = 2 := rfl
  obtain ⟨w, ew⟩ : ∃ z : Nat, z = fR H a (K.1.2 9 0) := ⟨_, rfl⟩
  have gw := ty_fr (q := w) (k := 0) (u := 0) ew hT ga rg_68 rfl
  rw [← ew] at r1 r4 r5 r10 r13 r16
  obtain ⟨ta, eta⟩ : ∃ z : Int32, z = fI H a (K.1.2 9 3) := ⟨_, rfl⟩
  rw [← eta] at rt
  obtain ⟨tb, etb⟩ : ∃ z : Int32, z = fI H b (K.1.2 10 18) := ⟨_, rfl⟩
  rw [← etb] at rt
  obtain ⟨s1, es1⟩ : ∃ z : Int32, z = fI H w (K.1.2 8 1) := ⟨_, rfl⟩
  rw [← es1] at r1
  obtain ⟨y1, ey1⟩ : ∃ z : Int32, z = fI H b (K.1.2 10 1) := ⟨_, rfl⟩
  rw [← ey1] at r1
  obtain ⟨s4, es4⟩ : ∃ z : Int32, z = fI H w (K.1.2 8 4) := ⟨_, rfl⟩
  rw [← es4] at r4
  obtain ⟨y4, ey4⟩ : ∃ z : Int32, z = fI H b (K.1.2 10 2) := ⟨_, rfl⟩
  rw [← ey4] at r4
  obtain ⟨s5, es5⟩ : ∃ z : Int32, z = fI H w (K.1.2 8 5) := ⟨_, rfl⟩
  rw [← es5] at r5
  obtain ⟨y5, ey5⟩ : ∃ z : Int32, z = fI H b (K.1.2 10 3) := ⟨_, rfl⟩
  rw [← ey5] at r5
  obtain ⟨s10, es10⟩ : ∃ z : Int32, z = fI H w (K.1.2 8 10) := ⟨_, rfl⟩
  rw [← es10] at r10
  obtain ⟨y10, ey10⟩ : ∃ z : Int32, z = fI H b (K.1.2 10 59) := ⟨_, rfl⟩
  rw [← ey10] at r10
  obtain ⟨s13, es13⟩ : ∃ z : Int32, z = fI H w (K.1.2 8 13) := ⟨_, rfl⟩
  rw [← es13] at r13
  obtain ⟨y13, ey13⟩ : ∃ z : Int32, z = fI H b (K.1.2 10 62) := ⟨_, rfl⟩
  rw [← ey13] at r13
  obtain ⟨s16, es16⟩ : ∃ z : Int32, z = fI H w (K.1.2 8 16) := ⟨_, rfl⟩
  rw [← es16] at r16
  obtain ⟨y16, ey16⟩ : ∃ z : Int32, z = fI H b (K.1.2 10 65) := ⟨_, rfl⟩
  rw [← ey16] at r16
  obtain ⟨tq, etq⟩ : ∃ z : Nat, z = fR H a (K.1.2 9 2) := ⟨_, rfl⟩
  have gtq := ty_fr (q := tq) (k := 2) (u := 108) etq hT ga rg_68 rfl
  obtain ⟨uq, euq⟩ : ∃ z : Nat, z = fR H b (K.1.2 10 17) := ⟨_, rfl⟩
  have guq := ty_fr (q := uq) (k := 17) (u := 126) euq hT gb rg_112 rfl
  have htr : TBR (fun j => fI H tq j) (fun j => fI H uq j) tb.toNatClampNeg := by rw [etq, euq, etb]; exact htb
  have ft0 : ∀ j : Nat, fI H tq j = fI H tq j := fun _ => rfl
  have fu0 : ∀ j : Nat, fI H uq j = fI H uq j := fun _ => rfl
  have bta := ty_fi (x := ta) (k := 3) eta hT ga rg_68 rfl
  have cta := i_cl (x := ta) (by omega)
  have btb := ty_fi (x := tb) (k := 18) etb hT gb rg_112 rfl
  have ctb := i_cl (x := tb) (by omega)
  obtain ⟨her0, hsl1, hsl2⟩ := her
  have hsl0 := And.intro hsl1 hsl2
  clear hsl1 hsl2
  rw [← ew] at her0 hsl0
  have re : RE K H w b s1.toInt := RE.cast her0 (by rw [← ey1]; exact r1)
  have hsl : 0 ≤ s5.toInt ∧ s5.toInt ≤ 9999 := by rw [es5]; exact hsl0
  clear her0 hsl0
  have bt_s1 := ty_fi (x := s1) (k := 1) es1 hT gw rg_0 rfl
  have bt_s4 := ty_fi (x := s4) (k := 4) es4 hT gw rg_0 rfl
  have bt_y1 := ty_fi (x := y1) (k := 1) ey1 hT gb rg_112 rfl
  have bt_y4 := ty_fi (x := y4) (k := 2) ey4 hT gb rg_112 rfl
  rcases hk with ⟨kn, h70⟩ | ⟨kq, kn, gkq, h70, q1, q4, q5, q10, q13, q16, rke, ks1, ks2⟩
  · skip
    obtain ⟨hi, ehi⟩ : ∃ z : Int32, z = fI H b (K.1.2 10 70) := ⟨_, rfl⟩
    rw [← ehi] at h70
    obtain ⟨hc0, hs0⟩ := hB0 kn
    obtain ⟨iq, eiq⟩ : ∃ z : Nat, z = fR H b (K.1.2 10 73) := ⟨_, rfl⟩
    have giq := ty_fr (q := iq) (k := 73) (u := 162) eiq hT gb rg_112 rfl
    refine lv_aload_n hx hb dL_law_1216 rfl (lv_at hl 2 rfl) ?_
    refine lv_aload_n hx hb dL_law_1217 rfl (lv_at hl 3 rfl) ?_
    refine lv_iload_n hx hb dL_law_1218 rfl (lv_at hl 0 rfl) ?_
    refine lv_iconst (v := 1) hx hb dL_law_1219 (by decide) ?_
    refine lv_iadd hx hb dL_law_1220 ?_
    refine lv_topi (fun x101 ex101 => ?_)
    obtain ⟨tx101, ejx101, evx101⟩ := lw_ix (k := 1) ex101 hI hL rfl (by decide)
    clear tx101
    refine va_sld hx hb hX hbl (Nat.not_le.mpr hbl) hS (vp_in_iff.mpr evx101) dL_law_1221 ?_
    refine W.eq (g2 := F0 m 1222 ls [.int (xs (i.toNatClampNeg + 1)), .ref a]) (congrArg (fun z => F0 m 1222 ls [.int (xs z), .ref a]) ejx101) ?_
    refine lv_aload_n hx hb dL_law_1222 rfl (lv_at hl 3 rfl) ?_
    refine lv_iload_n hx hb dL_law_1223 rfl (lv_at hl 0 rfl) ?_
    refine lv_iconst (v := 2) hx hb dL_law_1224 (by decide) ?_
    refine lv_iadd hx hb dL_law_1225 ?_
    refine lv_topi (fun x102 ex102 => ?_)
    obtain ⟨tx102, ejx102, evx102⟩ := lw_ix (k := 2) ex102 hI hL rfl (by decide)
    clear tx102
    refine va_sld hx hb hX hbl (Nat.not_le.mpr hbl) hS (vp_in_iff.mpr evx102) dL_law_1226 ?_
    refine W.eq (g2 := F0 m 1227 ls [.int (xs (i.toNatClampNeg + 2)), .int (xs (i.toNatClampNeg + 1)), .ref a]) (congrArg (fun z => F0 m 1227 ls [.int (xs z), .int (xs (i.toNatClampNeg + 1)), .ref a]) ejx102) ?_
    refine x_V (As := [.int (xs (i.toNatClampNeg + 1)), .int (xs (i.toNatClampNeg + 2))]) (rest := []) C (a_X9_night_w l K G H ((xs (i.toNatClampNeg + 1))) ((xs (i.toNatClampNeg + 2))) (s1) (s4) (s5) (s10) (s13) (s16) hT ga gw ew es1 es4 es5 es10 es13 es16) yo_X9_night wM_L_125 ⟨⟨by decide, by decide⟩, show _ ≤ 60000 from Nat.le_trans hc (by decide), show _ ≤ 8922250 from Nat.le_trans hs (by decide)⟩ (x_rv C hT (ci := 9) rfl ga rg_68) rfl hl.1 rfl (Nat.le_of_ble_eq_true rfl) dL_law_1227 hS (AE_new hN hS.1) (fun vH103 H103 locsH103 pH103 zH103 kH103 hSH103 => ?_)
    obtain ⟨x104, x105, x106, x107, x108, x109, x110, hvH103, ex105, ex106, ex107, ex108, ex109, ex110, hrH103, m111, hTH103⟩ := pH103
    subst hvH103
    have g112 : CG (avw K H103 b) := CG.congr (fun k hk j => av_eff hT kH103 gb (by decide) (CG_eff [0, 28, 29] (by decide) k hk)) cg
    have g113 : TU (avw K H103 b) (svw K H103 b) := TU.congr (fun k hk j => av_eff hT kH103 gb (by decide) (TU_eff [0, 28, 29] (by decide) k hk)) (fun k hk => sv_eff hT kH103 gb (by decide)) tu
    have g114 : WD (avw K H103 b) := WD.congr (fun k hk j => av_eff hT kH103 gb (by decide) (WD_eff [0, 28, 29] (by decide) k hk)) wd
    have g115 : IM (avw K H103 b) := IM.congr (fun k hk j => av_eff hT kH103 gb (by decide) (IM_eff [0, 28, 29] (by decide) k hk)) im
    have f116 : ∀ j : Nat, fI H103 tq j = fI H tq j := fun j => (fI_kept (x_lt hT kH103 gtq (by decide))).trans (ft0 j)
    have f117 : ∀ j : Nat, fI H103 uq j = fI H uq j := fun j => (fI_kept (x_lt hT kH103 guq (by decide))).trans (fu0 j)
    have m118 := (ew).trans (fR_kept (x_lt hT kH103 ga (by decide))).symm
    have m119 := (eta).trans (fI_kept (x_lt hT kH103 ga (by decide))).symm
    have m120 := (etb).trans (fI_kept (x_lt hT kH103 gb (by decide))).symm
    have m121 := (ey1).trans (fI_kept (x_lt hT kH103 gb (by decide))).symm
    have m122 := (ey4).trans (fI_kept (x_lt hT kH103 gb (by decide))).symm
    have m123 := (ey5).trans (fI_kept (x_lt hT kH103 gb (by decide))).symm
    have m124 := (ey10).trans (fI_kept (x_lt hT kH103 gb (by decide))).symm
    have m125 := (ey13).trans (fI_kept (x_lt hT kH103 gb (by decide))).symm
    have m126 := (ey16).trans (fI_kept (x_lt hT kH103 gb (by decide))).symm
    have m127 := (etq).trans (fR_kept (x_lt hT kH103 ga (by decide))).symm
    have m128 := (euq).trans (fR_kept (x_lt hT kH103 gb (by decide))).symm
    have m129 := (ehi).trans (fI_kept (x_lt hT kH103 gb (by decide))).symm
    have m130 := (fV_kept (x_lt hT kH103 ga (by decide))).trans kn
    have m131 := (eiq).trans (fR_kept (x_lt hT kH103 gb (by decide))).symm
    have bx105 := ty_fi (x := x105) (k := 1) ex105 hTH103 gw rg_0 rfl
    have bx106 := ty_fi (x := x106) (k := 4) ex106 hTH103 gw rg_0 rfl
    have bx107 := ty_fi (x := x107) (k := 5) ex107 hTH103 gw rg_0 rfl
    have bx108 := ty_fi (x := x108) (k := 10) ex108 hTH103 gw rg_0 rfl
    have bx109 := ty_fi (x := x109) (k := 13) ex109 hTH103 gw rg_0 rfl
    have bx110 := ty_fi (x := x110) (k := 16) ex110 hTH103 gw rg_0 rfl
    refine W.eq (g2 := F0 m 1230 ls [.int x104]) rfl ?_
    have re132 : RE K H103 w b s1.toInt := RE.now re hT gw gb m111 (fun q t hq ht => x_lt hT kH103 hq (by first | exact nmr ht (by decide) | exact nmo ht (by decide) | exact nme ht (by decide) | exact nmq ht (by decide) | decide | (intro z; simp only [List.mem_cons, List.not_mem_nil, or_false] at z <;> omega) | omega))
    refine lv_pop hx hb dL_law_1230 rfl ?_
    refine lv_aload_n hx hb dL_law_1231 rfl (lv_at hl 1 rfl) ?_
    refine lv_aload_n hx hb dL_law_1232 rfl (lv_at hl 3 rfl) ?_
    refine lv_iload_n hx hb dL_law_1233 rfl (lv_at hl 0 rfl) ?_
    refine lv_iconst (v := 1) hx hb dL_law_1234 (by decide) ?_
    refine lv_iadd hx hb dL_law_1235 ?_
    refine lv_topi (fun x133 ex133 => ?_)
    obtain ⟨tx133, ejx133, evx133⟩ := lw_ix (k := 1) ex133 hI hL rfl (by decide)
    clear tx133
    refine va_sld hx hb hX hbl (Nat.not_le.mpr hbl) hSH103 (vp_in_iff.mpr evx133) dL_law_1236 ?_
    refine W.eq (g2 := F0 m 1237 ls [.int (xs (i.toNatClampNeg + 1)), .ref b]) (congrArg (fun z => F0 m 1237 ls [.int (xs z), .ref b]) ejx133) ?_
    refine lv_aload_n hx hb dL_law_1237 rfl (lv_at hl 3 rfl) ?_
    refine lv_iload_n hx hb dL_law_1238 rfl (lv_at hl 0 rfl) ?_
    refine lv_iconst (v := 2) hx hb dL_law_1239 (by decide) ?_
    refine lv_iadd hx hb dL_law_1240 ?_
    refine lv_topi (fun x134 ex134 => ?_)
    obtain ⟨tx134, ejx134, evx134⟩ := lw_ix (k := 2) ex134 hI hL rfl (by decide)
    clear tx134
    refine va_sld hx hb hX hbl (Nat.not_le.mpr hbl) hSH103 (vp_in_iff.mpr evx134) dL_law_1241 ?_
    refine W.eq (g2 := F0 m 1242 ls [.int (xs (i.toNatClampNeg + 2)), .int (xs (i.toNatClampNeg + 1)), .ref b]) (congrArg (fun z => F0 m 1242 ls [.int (xs z), .int (xs (i.toNatClampNeg + 1)), .ref b]) ejx134) ?_
    refine x_V (As := [.int (xs (i.toNatClampNeg + 1)), .int (xs (i.toNatClampNeg + 2))]) (rest := []) C (a_X10_night_r l K G H103 ((xs (i.toNatClampNeg + 1))) ((xs (i.toNatClampNeg + 2))) (y10) hTH103 gb m124 g112 g113 g114 g115) yo_X10_night wM_L_128 ⟨⟨by decide, by decide⟩, show _ ≤ 60000 from Nat.le_trans hc (by decide), show _ ≤ 8922250 from Nat.le_trans hs (by decide)⟩ (x_rv C hTH103 (ci := 10) rfl gb rg_112) rfl hl.1 rfl (Nat.le_of_ble_eq_true rfl) dL_law_1242 hSH103 (AE_new hN hSH103.1) (fun vH135 H135 locsH135 pH135 zH135 kH135 hSH135 => ?_)
    obtain ⟨x136, x137, hvH135, ex137, hrH135, g138, g139, g140, g141, mf142, hTH135⟩ := pH135
    subst hvH135
    have f143 : ∀ j : Nat, fI H135 tq j = fI H tq j := fun j => (fI_kept (x_lt hTH103 kH135 gtq (by decide))).trans (f116 j)
    have f144 : ∀ j : Nat, fI H135 uq j = fI H uq j := fun j => (fI_kept (x_lt hTH103 kH135 guq (by decide))).trans (f117 j)
    have m145 := (m118).trans (fR_kept (x_lt hTH103 kH135 ga (by decide))).symm
    have m146 := (m119).trans (fI_kept (x_lt hTH103 kH135 ga (by decide))).symm
    have m147 := (m127).trans (fR_kept (x_lt hTH103 kH135 ga (by decide))).symm
    have m148 := (fV_kept (x_lt hTH103 kH135 ga (by decide))).trans m130
    have m149 := (ex105).trans (fI_kept (x_lt hTH103 kH135 gw (by decide))).symm
    have m150 := (ex106).trans (fI_kept (x_lt hTH103 kH135 gw (by decide))).symm
    have m151 := (ex107).trans (fI_kept (x_lt hTH103 kH135 gw (by decide))).symm
    have m152 := (ex108).trans (fI_kept (x_lt hTH103 kH135 gw (by decide))).symm
    have m153 := (ex109).trans (fI_kept (x_lt hTH103 kH135 gw (by decide))).symm
    have m154 := (ex110).trans (fI_kept (x_lt hTH103 kH135 gw (by decide))).symm
    have m155 := (m120).trans (MF.i mf142 (k := 18) (by decide) (by decide)).symm
    have m156 := (m121).trans (MF.i mf142 (k := 1) (by decide) (by decide)).symm
    have m157 := (m122).trans (MF.i mf142 (k := 2) (by decide) (by decide)).symm
    have m158 := (m123).trans (MF.i mf142 (k := 3) (by decide) (by decide)).symm
    have m159 := (m125).trans (MF.i mf142 (k := 62) (by decide) (by decide)).symm
    have m160 := (m126).trans (MF.i mf142 (k := 65) (by decide) (by decide)).symm
    have m161 := (m128).trans (MF.r mf142 (k := 17) (by decide) (by decide)).symm
    have m162 := (m129).trans (MF.i mf142 (k := 70) (by decide) (by decide)).symm
    have m163 := (m131).trans (MF.r mf142 (k := 73) (by decide) (by decide)).symm
    have bx137 := ty_fi (x := x137) (k := 59) ex137 hTH135 gb rg_112 rfl
    refine W.eq (g2 := F0 m 1245 ls [.int x136]) rfl ?_
    have re164 : RE K H135 w b s1.toInt := RE.ref re132 hTH103 gw gb (fun k hk => MF.r mf142 (by omega) (by intro z; simp only [List.mem_cons, List.not_mem_nil, or_false] at z; omega)) (fun q t hq ht => x_lt hTH103 kH135 hq (by first | exact nmr ht (by decide) | exact nmo ht (by decide) | exact nme ht (by decide) | exact nmq ht (by decide) | decide | (intro z; simp only [List.mem_cons, List.not_mem_nil, or_false] at z <;> omega) | omega))
    refine lv_pop hx hb dL_law_1245 rfl ?_
    refine lv_goto (tgt := 1509) hx hb dL_law_1246 (by decide) ?_
    exact nx G H135 locsH135 _ _ ls ⟨hTH135, hN, ga, gb, g138, g139, g140, g141, ⟨(by rw [← m146, ← m155]; exact rt), (by rw [← m145, ← m149, ← m156]; omega), (by rw [← m145, ← m150, ← m157]; omega), (by rw [← m145, ← m151, ← m158]; omega), (by rw [← m145, ← m152, ← ex137]; omega), (by rw [← m145, ← m153, ← m159]; omega), (by rw [← m145, ← m154, ← m160]; omega)⟩, Or.inl ⟨m148, (by rw [← m162]; exact h70)⟩, (by unfold TB; rw [← m147, ← m161, ← m155]; exact TBR.of htr f143 f144 (by omega)), (by unfold RELE; rw [← m145, ← m156, ← m151]; exact ⟨RE.cast re164 (by omega), by omega, by omega⟩), hSH135⟩ hl ⟨hc, hs, fun _ => ⟨hc0, hs0⟩⟩
  · skip
    obtain ⟨hi, ehi⟩ : ∃ z : Int32, z = fI H b (K.1.2 10 70) := ⟨_, rfl⟩
    rw [← ehi] at h70
    obtain ⟨iq, eiq⟩ : ∃ z : Nat, z = fR H b (K.1.2 10 73) := ⟨_, rfl⟩
    have giq := ty_fr (q := iq) (k := 73) (u := 162) eiq hT gb rg_112 rfl
    rw [← eiq] at q1 q4 q5 q10 q13 q16
    obtain ⟨k1, ek1⟩ : ∃ z : Int32, z = fI H kq (K.1.2 8 1) := ⟨_, rfl⟩
    rw [← ek1] at q1
    obtain ⟨i1, ei1⟩ : ∃ z : Int32, z = fI H iq ((0 : Int32).toNatClampNeg) := ⟨_, rfl⟩
    rw [← ei1] at q1
    obtain ⟨k4, ek4⟩ : ∃ z : Int32, z = fI H kq (K.1.2 8 4) := ⟨_, rfl⟩
    rw [← ek4] at q4
    obtain ⟨i4, ei4⟩ : ∃ z : Int32, z = fI H iq ((1 : Int32).toNatClampNeg) := ⟨_, rfl⟩
    rw [← ei4] at q4
    obtain ⟨k5, ek5⟩ : ∃ z : Int32, z = fI H kq (K.1.2 8 5) := ⟨_, rfl⟩
    rw [← ek5] at q5
    obtain ⟨i5, ei5⟩ : ∃ z : Int32, z = fI H iq ((2 : Int32).toNatClampNeg) := ⟨_, rfl⟩
    rw [← ei5] at q5
    obtain ⟨k10, ek10⟩ : ∃ z : Int32, z = fI H kq (K.1.2 8 10) := ⟨_, rfl⟩
    rw [← ek10] at q10
    obtain ⟨i10, ei10⟩ : ∃ z : Int32, z = fI H iq ((3 : Int32).toNatClampNeg) := ⟨_, rfl⟩
    rw [← ei10] at q10
    obtain ⟨k13, ek13⟩ : ∃ z : Int32, z = fI H kq (K.1.2 8 13) := ⟨_, rfl⟩
    rw [← ek13] at q13
    obtain ⟨i13, ei13⟩ : ∃ z : Int32, z = fI H iq ((4 : Int32).toNatClampNeg) := ⟨_, rfl⟩
    rw [← ei13] at q13
    obtain ⟨k16, ek16⟩ : ∃ z : Int32, z = fI H kq (K.1.2 8 16) := ⟨_, rfl⟩
    rw [← ek16] at q16
    obtain ⟨i16, ei16⟩ : ∃ z : Int32, z = fI H iq ((5 : Int32).toNatClampNeg) := ⟨_, rfl⟩
    rw [← ei16] at q16
    rw [← eiq, ← ek1] at rke
    have hsk : 0 ≤ k5.toInt ∧ k5.toInt ≤ 9999 := by rw [ek5]; exact ⟨ks1, ks2⟩
    refine lv_aload_n hx hb dL_law_1216 rfl (lv_at hl 2 rfl) ?_
    refine lv_aload_n hx hb dL_law_1217 rfl (lv_at hl 3 rfl) ?_
    refine lv_iload_n hx hb dL_law_1218 rfl (lv_at hl 0 rfl) ?_
    refine lv_iconst (v := 1) hx hb dL_law_1219 (by decide) ?_
    refine lv_iadd hx hb dL_law_1220 ?_
    refine lv_topi (fun x165 ex165 => ?_)
    obtain ⟨tx165, ejx165, evx165⟩ := lw_ix (k := 1) ex165 hI hL rfl (by decide)
    clear tx165
    refine va_sld hx hb hX hbl (Nat.not_le.mpr hbl) hS (vp_in_iff.mpr evx165) dL_law_1221 ?_
    refine W.eq (g2 := F0 m 1222 ls [.int (xs (i.toNatClampNeg + 1)), .ref a]) (congrArg (fun z => F0 m 1222 ls [.int (xs z), .ref a]) ejx165) ?_
    refine lv_aload_n hx hb dL_law_1222 rfl (lv_at hl 3 rfl) ?_
    refine lv_iload_n hx hb dL_law_1223 rfl (lv_at hl 0 rfl) ?_
    refine lv_iconst (v := 2) hx hb dL_law_1224 (by decide) ?_
    refine lv_iadd hx hb dL_law_1225 ?_
    refine lv_topi (fun x166 ex166 => ?_)
    obtain ⟨tx166, ejx166, evx166⟩ := lw_ix (k := 2) ex166 hI hL rfl (by decide)
    clear tx166
    refine va_sld hx hb hX hbl (Nat.not_le.mpr hbl) hS (vp_in_iff.mpr evx166) dL_law_1226 ?_
    refine W.eq (g2 := F0 m 1227 ls [.int (xs (i.toNatClampNeg + 2)), .int (xs (i.toNatClampNeg + 1)), .ref a]) (congrArg (fun z => F0 m 1227 ls [.int (xs z), .int (xs (i.toNatClampNeg + 1)), .ref a]) ejx166) ?_
    refine x_V (As := [.int (xs (i.toNatClampNeg + 1)), .int (xs (i.toNatClampNeg + 2))]) (rest := []) C (a_X9_night_w l K G H ((xs (i.toNatClampNeg + 1))) ((xs (i.toNatClampNeg + 2))) (s1) (s4) (s5) (s10) (s13) (s16) hT ga gw ew es1 es4 es5 es10 es13 es16) yo_X9_night wM_L_125 ⟨⟨by decide, by decide⟩, show _ ≤ 60000 from Nat.le_trans hc (by decide), show _ ≤ 8922250 from Nat.le_trans hs (by decide)⟩ (x_rv C hT (ci := 9) rfl ga rg_68) rfl hl.1 rfl (Nat.le_of_ble_eq_true rfl) dL_law_1227 hS (AE_new hN hS.1) (fun vH167 H167 locsH167 pH167 zH167 kH167 hSH167 => ?_)
    obtain ⟨x168, x169, x170, x171, x172, x173, x174, hvH167, ex169, ex170, ex171, ex172, ex173, ex174, hrH167, m175, hTH167⟩ := pH167
    subst hvH167
    have g176 : CG (avw K H167 b) := CG.congr (fun k hk j => av_eff hT kH167 gb (by decide) (CG_eff [0, 28, 29] (by decide) k hk)) cg
    have g177 : TU (avw K H167 b) (svw K H167 b) := TU.congr (fun k hk j => av_eff hT kH167 gb (by decide) (TU_eff [0, 28, 29] (by decide) k hk)) (fun k hk => sv_eff hT kH167 gb (by decide)) tu
    have g178 : WD (avw K H167 b) := WD.congr (fun k hk j => av_eff hT kH167 gb (by decide) (WD_eff [0, 28, 29] (by decide) k hk)) wd
    have g179 : IM (avw K H167 b) := IM.congr (fun k hk j => av_eff hT kH167 gb (by decide) (IM_eff [0, 28, 29] (by decide) k hk)) im
    have f180 : ∀ j : Nat, fI H167 tq j = fI H tq j := fun j => (fI_kept (x_lt hT kH167 gtq (by decide))).trans (ft0 j)
    have f181 : ∀ j : Nat, fI H167 uq j = fI H uq j := fun j => (fI_kept (x_lt hT kH167 guq (by decide))).trans (fu0 j)
    have m182 := (ew).trans (fR_kept (x_lt hT kH167 ga (by decide))).symm
    have m183 := (eta).trans (fI_kept (x_lt hT kH167 ga (by decide))).symm
    have m184 := (etb).trans (fI_kept (x_lt hT kH167 gb (by decide))).symm
    have m185 := (ey1).trans (fI_kept (x_lt hT kH167 gb (by decide))).symm
    have m186 := (ey4).trans (fI_kept (x_lt hT kH167 gb (by decide))).symm
    have m187 := (ey5).trans (fI_kept (x_lt hT kH167 gb (by decide))).symm
    have m188 := (ey10).trans (fI_kept (x_lt hT kH167 gb (by decide))).symm
    have m189 := (ey13).trans (fI_kept (x_lt hT kH167 gb (by decide))).symm
    have m190 := (ey16).trans (fI_kept (x_lt hT kH167 gb (by decide))).symm
    have m191 := (etq).trans (fR_kept (x_lt hT kH167 ga (by decide))).symm
    have m192 := (euq).trans (fR_kept (x_lt hT kH167 gb (by decide))).symm
    have m193 := (ehi).trans (fI_kept (x_lt hT kH167 gb (by decide))).symm
    have m194 := (fV_kept (x_lt hT kH167 ga (by decide))).trans kn
    have m195 := (eiq).trans (fR_kept (x_lt hT kH167 gb (by decide))).symm
    have m196 := (ek1).trans (fI_kept (x_lt hT kH167 gkq (by decide))).symm
    have m197 := (ei1).trans (fI_kept (x_lt hT kH167 giq (by decide))).symm
    have m198 := (ek4).trans (fI_kept (x_lt hT kH167 gkq (by decide))).symm
    have m199 := (ei4).trans (fI_kept (x_lt hT kH167 giq (by decide))).symm
    have m200 := (ek5).trans (fI_kept (x_lt hT kH167 gkq (by decide))).symm
    have m201 := (ei5).trans (fI_kept (x_lt hT kH167 giq (by decide))).symm
    have m202 := (ek10).trans (fI_kept (x_lt hT kH167 gkq (by decide))).symm
    have m203 := (ei10).trans (fI_kept (x_lt hT kH167 giq (by decide))).symm
    have m204 := (ek13).trans (fI_kept (x_lt hT kH167 gkq (by decide))).symm
    have m205 := (ei13).trans (fI_kept (x_lt hT kH167 giq (by decide))).symm
    have m206 := (ek16).trans (fI_kept (x_lt hT kH167 gkq (by decide))).symm
    have m207 := (ei16).trans (fI_kept (x_lt hT kH167 giq (by decide))).symm
    have bx169 := ty_fi (x := x169) (k := 1) ex169 hTH167 gw rg_0 rfl
    have bx170 := ty_fi (x := x170) (k := 4) ex170 hTH167 gw rg_0 rfl
    have bx171 := ty_fi (x := x171) (k := 5) ex171 hTH167 gw rg_0 rfl
    have bx172 := ty_fi (x := x172) (k := 10) ex172 hTH167 gw rg_0 rfl
    have bx173 := ty_fi (x := x173) (k := 13) ex173 hTH167 gw rg_0 rfl
    have bx174 := ty_fi (x := x174) (k := 16) ex174 hTH167 gw rg_0 rfl
    refine W.eq (g2 := F0 m 1230 ls [.int x168]) rfl ?_
    have rk208 : RKI K H167 kq iq k1.toInt := RKI.kept rke hT gkq (x_lt hT kH167 giq (by first | exact nmr ht (by decide) | exact nmo ht (by decide) | exact nme ht (by decide) | exact nmq ht (by decide) | decide | (intro z; simp only [List.mem_cons, List.not_mem_nil, or_false] at z <;> omega) | omega)) (fun q t hq ht => x_lt hT kH167 hq (by first | exact nmr ht (by decide) | exact nmo ht (by decide) | exact nme ht (by decide) | exact nmq ht (by decide) | decide | (intro z; simp only [List.mem_cons, List.not_mem_nil, or_false] at z <;> omega) | omega))
    have re209 : RE K H167 w b s1.toInt := RE.now re hT gw gb m175 (fun q t hq ht => x_lt hT kH167 hq (by first | exact nmr ht (by decide) | exact nmo ht (by decide) | exact nme ht (by decide) | exact nmq ht (by decide) | decide | (intro z; simp only [List.mem_cons, List.not_mem_nil, or_false] at z <;> omega) | omega))
    refine lv_pop hx hb dL_law_1230 rfl ?_
    refine lv_aload_n hx hb dL_law_1231 rfl (lv_at hl 1 rfl) ?_
    refine lv_aload_n hx hb dL_law_1232 rfl (lv_at hl 3 rfl) ?_
    refine lv_iload_n hx hb dL_law_1233 rfl (lv_at hl 0 rfl) ?_
    refine lv_iconst (v := 1) hx hb dL_law_1234 (by decide) ?_
    refine lv_iadd hx hb dL_law_1235 ?_
    refine lv_topi (fun x210 ex210 => ?_)
    obtain ⟨tx210, ejx210, evx210⟩ := lw_ix (k := 1) ex210 hI hL rfl (by decide)
    clear tx210
    refine va_sld hx hb hX hbl (Nat.not_le.mpr hbl) hSH167 (vp_in_iff.mpr evx210) dL_law_1236 ?_
    refine W.eq (g2 := F0 m 1237 ls [.int (xs (i.toNatClampNeg + 1)), .ref b]) (congrArg (fun z => F0 m 1237 ls [.int (xs z), .ref b]) ejx210) ?_
    refine lv_aload_n hx hb dL_law_1237 rfl (lv_at hl 3 rfl) ?_
    refine lv_iload_n hx hb dL_law_1238 rfl (lv_at hl 0 rfl) ?_
    refine lv_iconst (v := 2) hx hb dL_law_1239 (by decide) ?_
    refine lv_iadd hx hb dL_law_1240 ?_
    refine lv_topi (fun x211 ex211 => ?_)
    obtain ⟨tx211, ejx211, evx211⟩ := lw_ix (k := 2) ex211 hI hL rfl (by decide)
    clear tx211
    refine va_sld hx hb hX hbl (Nat.not_le.mpr hbl) hSH167 (vp_in_iff.mpr evx211) dL_law_1241 ?_
    refine W.eq (g2 := F0 m 1242 ls [.int (xs (i.toNatClampNeg + 2)), .int (xs (i.toNatClampNeg + 1)), .ref b]) (congrArg (fun z => F0 m 1242 ls [.int (xs z), .int (xs (i.toNatClampNeg + 1)), .ref b]) ejx211) ?_
    refine x_V (As := [.int (xs (i.toNatClampNeg + 1)), .int (xs (i.toNatClampNeg + 2))]) (rest := []) C (a_X10_night_r l K G H167 ((xs (i.toNatClampNeg + 1))) ((xs (i.toNatClampNeg + 2))) (y10) hTH167 gb m188 g176 g177 g178 g179) yo_X10_night wM_L_128 ⟨⟨by decide, by decide⟩, show _ ≤ 60000 from Nat.le_trans hc (by decide), show _ ≤ 8922250 from Nat.le_trans hs (by decide)⟩ (x_rv C hTH167 (ci := 10) rfl gb rg_112) rfl hl.1 rfl (Nat.le_of_ble_eq_true rfl) dL_law_1242 hSH167 (AE_new hN hSH167.1) (fun vH212 H212 locsH212 pH212 zH212 kH212 hSH212 => ?_)
    obtain ⟨x213, x214, hvH212, ex214, hrH212, g215, g216, g217, g218, mf219, hTH212⟩ := pH212
    subst hvH212
    have f220 : ∀ j : Nat, fI H212 tq j = fI H tq j := fun j => (fI_kept (x_lt hTH167 kH212 gtq (by decide))).trans (f180 j)
    have f221 : ∀ j : Nat, fI H212 uq j = fI H uq j := fun j => (fI_kept (x_lt hTH167 kH212 guq (by decide))).trans (f181 j)
    have m222 := (m182).trans (fR_kept (x_lt hTH167 kH212 ga (by decide))).symm
    have m223 := (m183).trans (fI_kept (x_lt hTH167 kH212 ga (by decide))).symm
    have m224 := (m191).trans (fR_kept (x_lt hTH167 kH212 ga (by decide))).symm
    have m225 := (fV_kept (x_lt hTH167 kH212 ga (by decide))).trans m194
    have m226 := (m196).trans (fI_kept (x_lt hTH167 kH212 gkq (by decide))).symm
    have m227 := (m197).trans (fI_kept (x_lt hTH167 kH212 giq (by decide))).symm
    have m228 := (m198).trans (fI_kept (x_lt hTH167 kH212 gkq (by decide))).symm
    have m229 := (m199).trans (fI_kept (x_lt hTH167 kH212 giq (by decide))).symm
    have m230 := (m200).trans (fI_kept (x_lt hTH167 kH212 gkq (by decide))).symm
    have m231 := (m201).trans (fI_kept (x_lt hTH167 kH212 giq (by decide))).symm
    have m232 := (m202).trans (fI_kept (x_lt hTH167 kH212 gkq (by decide))).symm
    have m233 := (m203).trans (fI_kept (x_lt hTH167 kH212 giq (by decide))).symm
    have m234 := (m204).trans (fI_kept (x_lt hTH167 kH212 gkq (by decide))).symm
    have m235 := (m205).trans (fI_kept (x_lt hTH167 kH212 giq (by decide))).symm
    have m236 := (m206).trans (fI_kept (x_lt hTH167 kH212 gkq (by decide))).symm
    have m237 := (m207).trans (fI_kept (x_lt hTH167 kH212 giq (by decide))).symm
    have m238 := (ex169).trans (fI_kept (x_lt hTH167 kH212 gw (by decide))).symm
    have m239 := (ex170).trans (fI_kept (x_lt hTH167 kH212 gw (by decide))).symm
    have m240 := (ex171).trans (fI_kept (x_lt hTH167 kH212 gw (by decide))).symm
    have m241 := (ex172).trans (fI_kept (x_lt hTH167 kH212 gw (by decide))).symm
    have m242 := (ex173).trans (fI_kept (x_lt hTH167 kH212 gw (by decide))).symm
    have m243 := (ex174).trans (fI_kept (x_lt hTH167 kH212 gw (by decide))).symm
    have m244 := (m184).trans (MF.i mf219 (k := 18) (by decide) (by decide)).symm
    have m245 := (m185).trans (MF.i mf219 (k := 1) (by decide) (by decide)).symm
    have m246 := (m186).trans (MF.i mf219 (k := 2) (by decide) (by decide)).symm
    have m247 := (m187).trans (MF.i mf219 (k := 3) (by decide) (by decide)).symm
    have m248 := (m189).trans (MF.i mf219 (k := 62) (by decide) (by decide)).symm
    have m249 := (m190).trans (MF.i mf219 (k := 65) (by decide) (by decide)).symm
    have m250 := (m192).trans (MF.r mf219 (k := 17) (by decide) (by decide)).symm
    have m251 := (m193).trans (MF.i mf219 (k := 70) (by decide) (by decide)).symm
    have m252 := (m195).trans (MF.r mf219 (k := 73) (by decide) (by decide)).symm
    have bx214 := ty_fi (x := x214) (k := 59) ex214 hTH212 gb rg_112 rfl
    refine W.eq (g2 := F0 m 1245 ls [.int x213]) rfl ?_
    have rk253 : RKI K H212 kq iq k1.toInt := RKI.kept rk208 hTH167 gkq (x_lt hTH167 kH212 giq (by first | exact nmr ht (by decide) | exact nmo ht (by decide) | exact nme ht (by decide) | exact nmq ht (by decide) | decide | (intro z; simp only [List.mem_cons, List.not_mem_nil, or_false] at z <;> omega) | omega)) (fun q t hq ht => x_lt hTH167 kH212 hq (by first | exact nmr ht (by decide) | exact nmo ht (by decide) | exact nme ht (by decide) | exact nmq ht (by decide) | decide | (intro z; simp only [List.mem_cons, List.not_mem_nil, or_false] at z <;> omega) | omega))
    have re254 : RE K H212 w b s1.toInt := RE.ref re209 hTH167 gw gb (fun k hk => MF.r mf219 (by omega) (by intro z; simp only [List.mem_cons, List.not_mem_nil, or_false] at z; omega)) (fun q t hq ht => x_lt hTH167 kH212 hq (by first | exact nmr ht (by decide) | exact nmo ht (by decide) | exact nme ht (by decide) | exact nmq ht (by decide) | decide | (intro z; simp only [List.mem_cons, List.not_mem_nil, or_false] at z <;> omega) | omega))
    refine lv_pop hx hb dL_law_1245 rfl ?_
    refine lv_goto (tgt := 1509) hx hb dL_law_1246 (by decide) ?_
    exact nx G H212 locsH212 _ _ ls ⟨hTH212, hN, ga, gb, g215, g216, g217, g218, ⟨(by rw [← m223, ← m244]; exact rt), (by rw [← m222, ← m238, ← m245]; omega), (by rw [← m222, ← m239, ← m246]; omega), (by rw [← m222, ← m240, ← m247]; omega), (by rw [← m222, ← m241, ← ex214]; omega), (by rw [← m222, ← m242, ← m248]; omega), (by rw [← m222, ← m243, ← m249]; omega)⟩, Or.inr ⟨kq, m225, gkq, (by rw [← m251]; exact h70), (by rw [← m226, ← m252, ← m227]; exact q1), (by rw [← m228, ← m252, ← m229]; exact q4), (by rw [← m230, ← m252, ← m231]; exact q5), (by rw [← m232, ← m252, ← m233]; exact q10), (by rw [← m234, ← m252, ← m235]; exact q13), (by rw [← m236, ← m252, ← m237]; exact q16), (by rw [← m252, ← m226]; exact RKI.cast rk253 (by omega)), (by rw [← m230]; omega), (by rw [← m230]; omega)⟩, (by unfold TB; rw [← m224, ← m250, ← m244]; exact TBR.of htr f220 f221 (by omega)), (by unfold RELE; rw [← m222, ← m245, ← m240]; exact ⟨RE.cast re254 (by omega), by omega, by omega⟩), hSH212⟩ hl ⟨hc, hs, fun h => by have h1 := h.symm.trans m225; cases h1⟩
set_option maxRecDepth 100000 in
set_option maxHeartbeats 8000000 in
theorem lw_c27 {p : Program} {l : Launch} {e : Env} {s : State} {m : MethodId} {below : List Frame} {meth : Method} {c : Code} {K : KE} {b0 L : Nat} {xs : Nat → Int32} {G : Nat → Option Nat} {H : Heap} {locs : List Loc} {a b : Nat} {cells slots : Nat} {ls : Array Slot} {i : Int32} {n : Nat} (D : LC p K s m meth c b0 L xs) (S : SX K s G H locs a b) (hl : lv_has ls 4 [(3, .int i), (2, .ref b), (1, .ref a), (0, .ref b0)]) (hi : 0 ≤ i.toInt ∧ i.toInt + 6 ≤ L) (hn : n ≤ 511) (hB : BD K H a cells slots) (nx : ∀ (G : Nat → Option Nat) (H : Heap) (locs : List Loc) (cells slots : Nat) (ls : Array Slot), SX K s G H locs a b → lv_has ls 4 [(3, .int i), (2, .ref b), (1, .ref a), (0, .ref b0)] → BD K H a cells slots → W p l e room_1 s m #[Value.ref b0] below meth c H locs cells slots (lw_Z below #[Value.ref b0] s) (F0 m 1509 ls [])) : W p l e room_1 s m #[Value.ref b0] below meth c H locs cells slots (lw_Z below #[Value.ref b0] s) (F0 m 1249 ls []) := by
  have hI := hi
  obtain ⟨C, hX, hbl, hL⟩ := id D
  obtain ⟨hx, hb, hml, hown, hts, hKT, hr, hlocks, hnm⟩ := id C
  obtain ⟨hT, hN, ga, gb, cg, tu, wd, im, ⟨rt, r1, r4, r5, r10, r13, r16⟩, hk, htb, her, hS⟩ := S
  obtain ⟨hc, hs, hB0⟩ := hB
  have n_1 : (1 : Int32).toInt = 1 := rfl
  have n_2 : (2 : Int32).toInt = 2 := rfl
  obtain ⟨w, ew⟩ : ∃ z : Nat, z = fR H a (K.1.2 9 0) := ⟨_, rfl⟩
  have gw := ty_fr (q := w) (k := 0) (u := 0) ew hT ga rg_68 rfl
  rw [← ew] at r1 r4 r5 r10 r13 r16
  obtain ⟨ta, eta⟩ : ∃ z : Int32, z = fI H a (K.1.2 9 3) := ⟨_, rfl⟩
  rw [← eta] at rt
  obtain ⟨tb, etb⟩ : ∃ z : Int32, z = fI H b (K.1.2 10 18) := ⟨_, rfl⟩
  rw [← etb] at rt
  obtain ⟨s1, es1⟩ : ∃ z : Int32, z = fI H w (K.1.2 8 1) := ⟨_, rfl⟩
  rw [← es1] at r1
  obtain ⟨y1, ey1⟩ : ∃ z : Int32, z = fI H b (K.1.2 10 1) := ⟨_, rfl⟩
  rw [← ey1] at r1
  obtain ⟨s4, es4⟩ : ∃ z : Int32, z = fI H w (K.1.2 8 4) := ⟨_, rfl⟩
  rw [← es4] at r4
  obtain ⟨y4, ey4⟩ : ∃ z : Int32, z = fI H b (K.1.2 10 2) := ⟨_, rfl⟩
  rw [← ey4] at r4
  obtain ⟨s5, es5⟩ : ∃ z : Int32, z = fI H w (K.1.2 8 5) := ⟨_, rfl⟩
  rw [← es5] at r5
  obtain ⟨y5, ey5⟩ : ∃ z : Int32, z = fI H b (K.1.2 10 3) := ⟨_, rfl⟩
  rw [← ey5] at r5
  obtain ⟨s10, es10⟩ : ∃ z : Int32, z = fI H w (K.1.2 8 10) := ⟨_, rfl⟩
  rw [← es10] at r10
  obtain ⟨y10, ey10⟩ : ∃ z : Int32, z = fI H b (K.1.2 10 59) := ⟨_, rfl⟩
  rw [← ey10] at r10
  obtain ⟨s13, es13⟩ : ∃ z : Int32, z = fI H w (K.1.2 8 13) := ⟨_, rfl⟩
  rw [← es13] at r13
  obtain ⟨y13, ey13⟩ : ∃ z : Int32, z = fI H b (K.1.2 10 62) := ⟨_, rfl⟩
  rw [← ey13] at r13
  obtain ⟨s16, es16⟩ : ∃ z : Int32, z = fI H w (K.1.2 8 16) := ⟨_, rfl⟩
  rw [← es16] at r16
  obtain ⟨y16, ey16⟩ : ∃ z : Int32, z = fI H b (K.1.2 10 65) := ⟨_, rfl⟩
  rw [← ey16] at r16
  obtain ⟨tq, etq⟩ : ∃ z : Nat, z = fR H a (K.1.2 9 2) := ⟨_, rfl⟩
  have gtq := ty_fr (q := tq) (k := 2) (u := 108) etq hT ga rg_68 rfl
  obtain ⟨uq, euq⟩ : ∃ z : Nat, z = fR H b (K.1.2 10 17) := ⟨_, rfl⟩
  have guq := ty_fr (q := uq) (k := 17) (u := 126) euq hT gb rg_112 rfl
  have htr : TBR (fun j => fI H tq j) (fun j => fI H uq j) tb.toNatClampNeg := by rw [etq, euq, etb]; exact htb
  have ft0 : ∀ j : Nat, fI H tq j = fI H tq j := fun _ => rfl
  have fu0 : ∀ j : Nat, fI H uq j = fI H uq j := fun _ => rfl
  have bta := ty_fi (x := ta) (k := 3) eta hT ga rg_68 rfl
  have cta := i_cl (x := ta) (by omega)
  have btb := ty_fi (x := tb) (k := 18) etb hT gb rg_112 rfl
  have ctb := i_cl (x := tb) (by omega)
  obtain ⟨her0, hsl1, hsl2⟩ := her
  have hsl0 := And.intro hsl1 hsl2
  clear hsl1 hsl2
  rw [← ew] at her0 hsl0
  have re : RE K H w b s1.toInt := RE.cast her0 (by rw [← ey1]; exact r1)
  have hsl : 0 ≤ s5.toInt ∧ s5.toInt ≤ 9999 := by rw [es5]; exact hsl0
  clear her0 hsl0
  have bt_s1 := ty_fi (x := s1) (k := 1) es1 hT gw rg_0 rfl
  have bt_s4 := ty_fi (x := s4) (k := 4) es4 hT gw rg_0 rfl
  have bt_y1 := ty_fi (x := y1) (k := 1) ey1 hT gb rg_112 rfl
  have bt_y4 := ty_fi (x := y4) (k := 2) ey4 hT gb rg_112 rfl
  rcases hk with ⟨kn, h70⟩ | ⟨kq, kn, gkq, h70, q1, q4, q5, q10, q13, q16, rke, ks1, ks2⟩
  · skip
    obtain ⟨hi, ehi⟩ : ∃ z : Int32, z = fI H b (K.1.2 10 70) := ⟨_, rfl⟩
    rw [← ehi] at h70
    obtain ⟨hc0, hs0⟩ := hB0 kn
    obtain ⟨iq, eiq⟩ : ∃ z : Nat, z = fR H b (K.1.2 10 73) := ⟨_, rfl⟩
    have giq := ty_fr (q := iq) (k := 73) (u := 162) eiq hT gb rg_112 rfl
    refine lv_aload_n hx hb dL_law_1249 rfl (lv_at hl 2 rfl) ?_
    refine lv_aload_n hx hb dL_law_1250 rfl (lv_at hl 3 rfl) ?_
    refine lv_iload_n hx hb dL_law_1251 rfl (lv_at hl 0 rfl) ?_
    refine lv_iconst (v := 1) hx hb dL_law_1252 (by decide) ?_
    refine lv_iadd hx hb dL_law_1253 ?_
    refine lv_topi (fun x101 ex101 => ?_)
    obtain ⟨tx101, ejx101, evx101⟩ := lw_ix (k := 1) ex101 hI hL rfl (by decide)
    clear tx101
    refine va_sld hx hb hX hbl (Nat.not_le.mpr hbl) hS (vp_in_iff.mpr evx101) dL_law_1254 ?_
    refine W.eq (g2 := F0 m 1255 ls [.int (xs (i.toNatClampNeg + 1)), .ref a]) (congrArg (fun z => F0 m 1255 ls [.int (xs z), .ref a]) ejx101) ?_
    refine lv_aload_n hx hb dL_law_1255 rfl (lv_at hl 3 rfl) ?_
    refine lv_iload_n hx hb dL_law_1256 rfl (lv_at hl 0 rfl) ?_
    refine lv_iconst (v := 2) hx hb dL_law_1257 (by decide) ?_
    refine lv_iadd hx hb dL_law_1258 ?_
    refine lv_topi (fun x102 ex102 => ?_)
    obtain ⟨tx102, ejx102, evx102⟩ := lw_ix (k := 2) ex102 hI hL rfl (by decide)
    clear tx102
    refine va_sld hx hb hX hbl (Nat.not_le.mpr hbl) hS (vp_in_iff.mpr evx102) dL_law_1259 ?_
    refine W.eq (g2 := F0 m 1260 ls [.int (xs (i.toNatClampNeg + 2)), .int (xs (i.toNatClampNeg + 1)), .ref a]) (congrArg (fun z => F0 m 1260 ls [.int (xs z), .int (xs (i.toNatClampNeg + 1)), .ref a]) ejx102) ?_
    refine x_V (As := [.int (xs (i.toNatClampNeg + 1)), .int (xs (i.toNatClampNeg + 2))]) (rest := []) C (a_X9_nights l K G H ((xs (i.toNatClampNeg + 1))) ((xs (i.toNatClampNeg + 2))) hT ga) yo_X9_nights wM_L_129 ⟨⟨by decide, by decide⟩, show _ ≤ 60000 from Nat.le_trans hc (by decide), show _ ≤ 8922250 from Nat.le_trans hs (by decide)⟩ (x_rv C hT (ci := 9) rfl ga rg_68) rfl hl.1 rfl (Nat.le_of_ble_eq_true rfl) dL_law_1260 hS (AE_new hN hS.1) (fun vH103 H103 locsH103 pH103 zH103 kH103 hSH103 => ?_)
    obtain ⟨x104, hvH103, hTH103⟩ := pH103
    subst hvH103
    have g105 : CG (avw K H103 b) := CG.congr (fun k hk j => av_eff hT kH103 gb (by decide) (CG_eff [83, 84, 109] (by decide) k hk)) cg
    have g106 : TU (avw K H103 b) (svw K H103 b) := TU.congr (fun k hk j => av_eff hT kH103 gb (by decide) (TU_eff [83, 84, 109] (by decide) k hk)) (fun k hk => sv_eff hT kH103 gb (by decide)) tu
    have g107 : WD (avw K H103 b) := WD.congr (fun k hk j => av_eff hT kH103 gb (by decide) (WD_eff [83, 84, 109] (by decide) k hk)) wd
    have g108 : IM (avw K H103 b) := IM.congr (fun k hk j => av_eff hT kH103 gb (by decide) (IM_eff [83, 84, 109] (by decide) k hk)) im
    have f109 : ∀ j : Nat, fI H103 tq j = fI H tq j := fun j => (fI_kept (x_lt hT kH103 gtq (by decide))).trans (ft0 j)
    have f110 : ∀ j : Nat, fI H103 uq j = fI H uq j := fun j => (fI_kept (x_lt hT kH103 guq (by decide))).trans (fu0 j)
    have m111 := (ew).trans (fR_kept (x_lt hT kH103 ga (by decide))).symm
    have m112 := (eta).trans (fI_kept (x_lt hT kH103 ga (by decide))).symm
    have m113 := (etb).trans (fI_kept (x_lt hT kH103 gb (by decide))).symm
    have m114 := (es1).trans (fI_kept (x_lt hT kH103 gw (by decide))).symm
    have m115 := (ey1).trans (fI_kept (x_lt hT kH103 gb (by decide))).symm
    have m116 := (es4).trans (fI_kept (x_lt hT kH103 gw (by decide))).symm
    have m117 := (ey4).trans (fI_kept (x_lt hT kH103 gb (by decide))).symm
    have m118 := (es5).trans (fI_kept (x_lt hT kH103 gw (by decide))).symm
    have m119 := (ey5).trans (fI_kept (x_lt hT kH103 gb (by decide))).symm
    have m120 := (es10).trans (fI_kept (x_lt hT kH103 gw (by decide))).symm
    have m121 := (ey10).trans (fI_kept (x_lt hT kH103 gb (by decide))).symm
    have m122 := (es13).trans (fI_kept (x_lt hT kH103 gw (by decide))).symm
    have m123 := (ey13).trans (fI_kept (x_lt hT kH103 gb (by decide))).symm
    have m124 := (es16).trans (fI_kept (x_lt hT kH103 gw (by decide))).symm
    have m125 := (ey16).trans (fI_kept (x_lt hT kH103 gb (by decide))).symm
    have m126 := (etq).trans (fR_kept (x_lt hT kH103 ga (by decide))).symm
    have m127 := (euq).trans (fR_kept (x_lt hT kH103 gb (by decide))).symm
    have m128 := (ehi).trans (fI_kept (x_lt hT kH103 gb (by decide))).symm
    have m129 := (fV_kept (x_lt hT kH103 ga (by decide))).trans kn
    have m130 := (eiq).trans (fR_kept (x_lt hT kH103 gb (by decide))).symm
    refine W.eq (g2 := F0 m 1263 ls [.int x104]) rfl ?_
    have re131 : RE K H103 w b s1.toInt := RE.cls re hT gw gb (fun q t hq ht => x_lt hT kH103 hq (by first | exact nmr ht (by decide) | exact nmo ht (by decide) | exact nme ht (by decide) | exact nmq ht (by decide) | decide | (intro z; simp only [List.mem_cons, List.not_mem_nil, or_false] at z <;> omega) | omega))
    refine lv_pop hx hb dL_law_1263 rfl ?_
    refine lv_aload_n hx hb dL_law_1264 rfl (lv_at hl 1 rfl) ?_
    refine lv_aload_n hx hb dL_law_1265 rfl (lv_at hl 3 rfl) ?_
    refine lv_iload_n hx hb dL_law_1266 rfl (lv_at hl 0 rfl) ?_
    refine lv_iconst (v := 1) hx hb dL_law_1267 (by decide) ?_
    refine lv_iadd hx hb dL_law_1268 ?_
    refine lv_topi (fun x132 ex132 => ?_)
    obtain ⟨tx132, ejx132, evx132⟩ := lw_ix (k := 1) ex132 hI hL rfl (by decide)
    clear tx132
    refine va_sld hx hb hX hbl (Nat.not_le.mpr hbl) hSH103 (vp_in_iff.mpr evx132) dL_law_1269 ?_
    refine W.eq (g2 := F0 m 1270 ls [.int (xs (i.toNatClampNeg + 1)), .ref b]) (congrArg (fun z => F0 m 1270 ls [.int (xs z), .ref b]) ejx132) ?_
    refine lv_aload_n hx hb dL_law_1270 rfl (lv_at hl 3 rfl) ?_
    refine lv_iload_n hx hb dL_law_1271 rfl (lv_at hl 0 rfl) ?_
    refine lv_iconst (v := 2) hx hb dL_law_1272 (by decide) ?_
    refine lv_iadd hx hb dL_law_1273 ?_
    refine lv_topi (fun x133 ex133 => ?_)
    obtain ⟨tx133, ejx133, evx133⟩ := lw_ix (k := 2) ex133 hI hL rfl (by decide)
    clear tx133
    refine va_sld hx hb hX hbl (Nat.not_le.mpr hbl) hSH103 (vp_in_iff.mpr evx133) dL_law_1274 ?_
    refine W.eq (g2 := F0 m 1275 ls [.int (xs (i.toNatClampNeg + 2)), .int (xs (i.toNatClampNeg + 1)), .ref b]) (congrArg (fun z => F0 m 1275 ls [.int (xs z), .int (xs (i.toNatClampNeg + 1)), .ref b]) ejx133) ?_
    refine x_V (As := [.int (xs (i.toNatClampNeg + 1)), .int (xs (i.toNatClampNeg + 2))]) (rest := []) C (a_X10_nights l K G H103 ((xs (i.toNatClampNeg + 1))) ((xs (i.toNatClampNeg + 2))) hTH103 gb g105 g106 g107 g108) yo_X10_nights wM_L_132 ⟨⟨by decide, by decide⟩, show _ ≤ 60000 from Nat.le_trans hc (by decide), show _ ≤ 8922250 from Nat.le_trans hs (by decide)⟩ (x_rv C hTH103 (ci := 10) rfl gb rg_112) rfl hl.1 rfl (Nat.le_of_ble_eq_true rfl) dL_law_1275 hSH103 (AE_new hN hSH103.1) (fun vH134 H134 locsH134 pH134 zH134 kH134 hSH134 => ?_)
    obtain ⟨x135, hvH134, g136, g137, g138, g139, mf140, hTH134⟩ := pH134
    subst hvH134
    have f141 : ∀ j : Nat, fI H134 tq j = fI H tq j := fun j => (fI_kept (x_lt hTH103 kH134 gtq (by decide))).trans (f109 j)
    have f142 : ∀ j : Nat, fI H134 uq j = fI H uq j := fun j => (fI_kept (x_lt hTH103 kH134 guq (by decide))).trans (f110 j)
    have m143 := (m111).trans (fR_kept (x_lt hTH103 kH134 ga (by decide))).symm
    have m144 := (m112).trans (fI_kept (x_lt hTH103 kH134 ga (by decide))).symm
    have m145 := (m114).trans (fI_kept (x_lt hTH103 kH134 gw (by decide))).symm
    have m146 := (m116).trans (fI_kept (x_lt hTH103 kH134 gw (by decide))).symm
    have m147 := (m118).trans (fI_kept (x_lt hTH103 kH134 gw (by decide))).symm
    have m148 := (m120).trans (fI_kept (x_lt hTH103 kH134 gw (by decide))).symm
    have m149 := (m122).trans (fI_kept (x_lt hTH103 kH134 gw (by decide))).symm
    have m150 := (m124).trans (fI_kept (x_lt hTH103 kH134 gw (by decide))).symm
    have m151 := (m126).trans (fR_kept (x_lt hTH103 kH134 ga (by decide))).symm
    have m152 := (fV_kept (x_lt hTH103 kH134 ga (by decide))).trans m129
    have m153 := (m113).trans (MF.i mf140 (k := 18) (by decide) (by decide)).symm
    have m154 := (m115).trans (MF.i mf140 (k := 1) (by decide) (by decide)).symm
    have m155 := (m117).trans (MF.i mf140 (k := 2) (by decide) (by decide)).symm
    have m156 := (m119).trans (MF.i mf140 (k := 3) (by decide) (by decide)).symm
    have m157 := (m121).trans (MF.i mf140 (k := 59) (by decide) (by decide)).symm
    have m158 := (m123).trans (MF.i mf140 (k := 62) (by decide) (by decide)).symm
    have m159 := (m125).trans (MF.i mf140 (k := 65) (by decide) (by decide)).symm
    have m160 := (m127).trans (MF.r mf140 (k := 17) (by decide) (by decide)).symm
    have m161 := (m128).trans (MF.i mf140 (k := 70) (by decide) (by decide)).symm
    have m162 := (m130).trans (MF.r mf140 (k := 73) (by decide) (by decide)).symm
    refine W.eq (g2 := F0 m 1278 ls [.int x135]) rfl ?_
    have re163 : RE K H134 w b s1.toInt := RE.ref re131 hTH103 gw gb (fun k hk => MF.r mf140 (by omega) (by intro z; simp only [List.mem_cons, List.not_mem_nil, or_false] at z; omega)) (fun q t hq ht => x_lt hTH103 kH134 hq (by first | exact nmr ht (by decide) | exact nmo ht (by decide) | exact nme ht (by decide) | exact nmq ht (by decide) | decide | (intro z; simp only [List.mem_cons, List.not_mem_nil, or_false] at z <;> omega) | omega))
    refine lv_pop hx hb dL_law_1278 rfl ?_
    refine lv_goto (tgt := 1509) hx hb dL_law_1279 (by decide) ?_
    exact nx G H134 locsH134 _ _ ls ⟨hTH134, hN, ga, gb, g136, g137, g138, g139, ⟨(by rw [← m144, ← m153]; exact rt), (by rw [← m143, ← m145, ← m154]; exact r1), (by rw [← m143, ← m146, ← m155]; exact r4), (by rw [← m143, ← m147, ← m156]; exact r5), (by rw [← m143, ← m148, ← m157]; exact r10), (by rw [← m143, ← m149, ← m158]; exact r13), (by rw [← m143, ← m150, ← m159]; exact r16)⟩, Or.inl ⟨m152, (by rw [← m161]; exact h70)⟩, (by unfold TB; rw [← m151, ← m160, ← m153]; exact TBR.of htr f141 f142 (by omega)), (by unfold RELE; rw [← m143, ← m154, ← m147]; exact ⟨RE.cast re163 (by omega), by omega, by omega⟩), hSH134⟩ hl ⟨hc, hs, fun _ => ⟨hc0, hs0⟩⟩
  · skip
    obtain ⟨hi, ehi⟩ : ∃ z : Int32, z = fI H b (K.1.2 10 70) := ⟨_, rfl⟩
    rw [← ehi] at h70
    obtain ⟨iq, eiq⟩ : ∃ z : Nat, z = fR H b (K.1.2 10 73) := ⟨_, rfl⟩
    have giq := ty_fr (q := iq) (k := 73) (u := 162) eiq hT gb rg_112 rfl
    rw [← eiq] at q1 q4 q5 q10 q13 q16
    obtain ⟨k1, ek1⟩ : ∃ z : Int32, z = fI H kq (K.1.2 8 1) := ⟨_, rfl⟩
    rw [← ek1] at q1
    obtain ⟨i1, ei1⟩ : ∃ z : Int32, z = fI H iq ((0 : Int32).toNatClampNeg) := ⟨_, rfl⟩
    rw [← ei1] at q1
    obtain ⟨k4, ek4⟩ : ∃ z : Int32, z = fI H kq (K.1.2 8 4) := ⟨_, rfl⟩
    rw [← ek4] at q4
    obtain ⟨i4, ei4⟩ : ∃ z : Int32, z = fI H iq ((1 : Int32).toNatClampNeg) := ⟨_, rfl⟩
    rw [← ei4] at q4
    obtain ⟨k5, ek5⟩ : ∃ z : Int32, z = fI H kq (K.1.2 8 5) := ⟨_, rfl⟩
    rw [← ek5] at q5
    obtain ⟨i5, ei5⟩ : ∃ z : Int32, z = fI H iq ((2 : Int32).toNatClampNeg) := ⟨_, rfl⟩
    rw [← ei5] at q5
    obtain ⟨k10, ek10⟩ : ∃ z : Int32, z = fI H kq (K.1.2 8 10) := ⟨_, rfl⟩
    rw [← ek10] at q10
    obtain ⟨i10, ei10⟩ : ∃ z : Int32, z = fI H iq ((3 : Int32).toNatClampNeg) := ⟨_, rfl⟩
    rw [← ei10] at q10
    obtain ⟨k13, ek13⟩ : ∃ z : Int32, z = fI H kq (K.1.2 8 13) := ⟨_, rfl⟩
    rw [← ek13] at q13
    obtain ⟨i13, ei13⟩ : ∃ z : Int32, z = fI H iq ((4 : Int32).toNatClampNeg) := ⟨_, rfl⟩
    rw [← ei13] at q13
    obtain ⟨k16, ek16⟩ : ∃ z : Int32, z = fI H kq (K.1.2 8 16) := ⟨_, rfl⟩
    rw [← ek16] at q16
    obtain ⟨i16, ei16⟩ : ∃ z : Int32, z = fI H iq ((5 : Int32).toNatClampNeg) := ⟨_, rfl⟩
    rw [← ei16] at q16
    rw [← eiq, ← ek1] at rke
    have hsk : 0 ≤ k5.toInt ∧ k5.toInt ≤ 9999 := by rw [ek5]; exact ⟨ks1, ks2⟩
    refine lv_aload_n hx hb dL_law_1249 rfl (lv_at hl 2 rfl) ?_
    refine lv_aload_n hx hb dL_law_1250 rfl (lv_at hl 3 rfl) ?_
    refine lv_iload_n hx hb dL_law_1251 rfl (lv_at hl 0 rfl) ?_
    refine lv_iconst (v := 1) hx hb dL_law_1252 (by decide) ?_
    refine lv_iadd hx hb dL_law_1253 ?_
    refine lv_topi (fun x164 ex164 => ?_)
    obtain ⟨tx164, ejx164, evx164⟩ := lw_ix (k := 1) ex164 hI hL rfl (by decide)
    clear tx164
    refine va_sld hx hb hX hbl (Nat.not_le.mpr hbl) hS (vp_in_iff.mpr evx164) dL_law_1254 ?_
    refine W.eq (g2 := F0 m 1255 ls [.int (xs (i.toNatClampNeg + 1)), .ref a]) (congrArg (fun z => F0 m 1255 ls [.int (xs z), .ref a]) ejx164) ?_
    refine lv_aload_n hx hb dL_law_1255 rfl (lv_at hl 3 rfl) ?_
    refine lv_iload_n hx hb dL_law_1256 rfl (lv_at hl 0 rfl) ?_
    refine lv_iconst (v := 2) hx hb dL_law_1257 (by decide) ?_
    refine lv_iadd hx hb dL_law_1258 ?_
    refine lv_topi (fun x165 ex165 => ?_)
    obtain ⟨tx165, ejx165, evx165⟩ := lw_ix (k := 2) ex165 hI hL rfl (by decide)
    clear tx165
    refine va_sld hx hb hX hbl (Nat.not_le.mpr hbl) hS (vp_in_iff.mpr evx165) dL_law_1259 ?_
    refine W.eq (g2 := F0 m 1260 ls [.int (xs (i.toNatClampNeg + 2)), .int (xs (i.toNatClampNeg + 1)), .ref a]) (congrArg (fun z => F0 m 1260 ls [.int (xs z), .int (xs (i.toNatClampNeg + 1)), .ref a]) ejx165) ?_
    refine x_V (As := [.int (xs (i.toNatClampNeg + 1)), .int (xs (i.toNatClampNeg + 2))]) (rest := []) C (a_X9_nights l K G H ((xs (i.toNatClampNeg + 1))) ((xs (i.toNatClampNeg + 2))) hT ga) yo_X9_nights wM_L_129 ⟨⟨by decide, by decide⟩, show _ ≤ 60000 from Nat.le_trans hc (by decide), show _ ≤ 8922250 from Nat.le_trans hs (by decide)⟩ (x_rv C hT (ci := 9) rfl ga rg_68) rfl hl.1 rfl (Nat.le_of_ble_eq_true rfl) dL_law_1260 hS (AE_new hN hS.1) (fun vH166 H166 locsH166 pH166 zH166 kH166 hSH166 => ?_)
    obtain ⟨x167, hvH166, hTH166⟩ := pH166
    subst hvH166
    have g168 : CG (avw K H166 b) := CG.congr (fun k hk j => av_eff hT kH166 gb (by decide) (CG_eff [83, 84, 109] (by decide) k hk)) cg
    have g169 : TU (avw K H166 b) (svw K H166 b) := TU.congr (fun k hk j => av_eff hT kH166 gb (by decide) (TU_eff [83, 84, 109] (by decide) k hk)) (fun k hk => sv_eff hT kH166 gb (by decide)) tu
    have g170 : WD (avw K H166 b) := WD.congr (fun k hk j => av_eff hT kH166 gb (by decide) (WD_eff [83, 84, 109] (by decide) k hk)) wd
    have g171 : IM (avw K H166 b) := IM.congr (fun k hk j => av_eff hT kH166 gb (by decide) (IM_eff [83, 84, 109] (by decide) k hk)) im
    have f172 : ∀ j : Nat, fI H166 tq j = fI H tq j := fun j => (fI_kept (x_lt hT kH166 gtq (by decide))).trans (ft0 j)
    have f173 : ∀ j : Nat, fI H166 uq j = fI H uq j := fun j => (fI_kept (x_lt hT kH166 guq (by decide))).trans (fu0 j)
    have m174 := (ew).trans (fR_kept (x_lt hT kH166 ga (by decide))).symm
    have m175 := (eta).trans (fI_kept (x_lt hT kH166 ga (by decide))).symm
    have m176 := (etb).trans (fI_kept (x_lt hT kH166 gb (by decide))).symm
    have m177 := (es1).trans (fI_kept (x_lt hT kH166 gw (by decide))).symm
    have m178 := (ey1).trans (fI_kept (x_lt hT kH166 gb (by decide))).symm
    have m179 := (es4).trans (fI_kept (x_lt hT kH166 gw (by decide))).symm
    have m180 := (ey4).trans (fI_kept (x_lt hT kH166 gb (by decide))).symm
    have m181 := (es5).trans (fI_kept (x_lt hT kH166 gw (by decide))).symm
    have m182 := (ey5).trans (fI_kept (x_lt hT kH166 gb (by decide))).symm
    have m183 := (es10).trans (fI_kept (x_lt hT kH166 gw (by decide))).symm
    have m184 := (ey10).trans (fI_kept (x_lt hT kH166 gb (by decide))).symm
    have m185 := (es13).trans (fI_kept (x_lt hT kH166 gw (by decide))).symm
    have m186 := (ey13).trans (fI_kept (x_lt hT kH166 gb (by decide))).symm
    have m187 := (es16).trans (fI_kept (x_lt hT kH166 gw (by decide))).symm
    have m188 := (ey16).trans (fI_kept (x_lt hT kH166 gb (by decide))).symm
    have m189 := (etq).trans (fR_kept (x_lt hT kH166 ga (by decide))).symm
    have m190 := (euq).trans (fR_kept (x_lt hT kH166 gb (by decide))).symm
    have m191 := (ehi).trans (fI_kept (x_lt hT kH166 gb (by decide))).symm
    have m192 := (fV_kept (x_lt hT kH166 ga (by decide))).trans kn
    have m193 := (eiq).trans (fR_kept (x_lt hT kH166 gb (by decide))).symm
    have m194 := (ek1).trans (fI_kept (x_lt hT kH166 gkq (by decide))).symm
    have m195 := (ei1).trans (fI_kept (x_lt hT kH166 giq (by decide))).symm
    have m196 := (ek4).trans (fI_kept (x_lt hT kH166 gkq (by decide))).symm
    have m197 := (ei4).trans (fI_kept (x_lt hT kH166 giq (by decide))).symm
    have m198 := (ek5).trans (fI_kept (x_lt hT kH166 gkq (by decide))).symm
    have m199 := (ei5).trans (fI_kept (x_lt hT kH166 giq (by decide))).symm
    have m200 := (ek10).trans (fI_kept (x_lt hT kH166 gkq (by decide))).symm
    have m201 := (ei10).trans (fI_kept (x_lt hT kH166 giq (by decide))).symm
    have m202 := (ek13).trans (fI_kept (x_lt hT kH166 gkq (by decide))).symm
    have m203 := (ei13).trans (fI_kept (x_lt hT kH166 giq (by decide))).symm
    have m204 := (ek16).trans (fI_kept (x_lt hT kH166 gkq (by decide))).symm
    have m205 := (ei16).trans (fI_kept (x_lt hT kH166 giq (by decide))).symm
    refine W.eq (g2 := F0 m 1263 ls [.int x167]) rfl ?_
    have rk206 : RKI K H166 kq iq k1.toInt := RKI.kept rke hT gkq (x_lt hT kH166 giq (by first | exact nmr ht (by decide) | exact nmo ht (by decide) | exact nme ht (by decide) | exact nmq ht (by decide) | decide | (intro z; simp only [List.mem_cons, List.not_mem_nil, or_false] at z <;> omega) | omega)) (fun q t hq ht => x_lt hT kH166 hq (by first | exact nmr ht (by decide) | exact nmo ht (by decide) | exact nme ht (by decide) | exact nmq ht (by decide) | decide | (intro z; simp only [List.mem_cons, List.not_mem_nil, or_false] at z <;> omega) | omega))
    have re207 : RE K H166 w b s1.toInt := RE.cls re hT gw gb (fun q t hq ht => x_lt hT kH166 hq (by first | exact nmr ht (by decide) | exact nmo ht (by decide) | exact nme ht (by decide) | exact nmq ht (by decide) | decide | (intro z; simp only [List.mem_cons, List.not_mem_nil, or_false] at z <;> omega) | omega))
    refine lv_pop hx hb dL_law_1263 rfl ?_
    refine lv_aload_n hx hb dL_law_1264 rfl (lv_at hl 1 rfl) ?_
    refine lv_aload_n hx hb dL_law_1265 rfl (lv_at hl 3 rfl) ?_
    refine lv_iload_n hx hb dL_law_1266 rfl (lv_at hl 0 rfl) ?_
    refine lv_iconst (v := 1) hx hb dL_law_1267 (by decide) ?_
    refine lv_iadd hx hb dL_law_1268 ?_
    refine lv_topi (fun x208 ex208 => ?_)
    obtain ⟨tx208, ejx208, evx208⟩ := lw_ix (k := 1) ex208 hI hL rfl (by decide)
    clear tx208
    refine va_sld hx hb hX hbl (Nat.not_le.mpr hbl) hSH166 (vp_in_iff.mpr evx208) dL_law_1269 ?_
    refine W.eq (g2 := F0 m 1270 ls [.int (xs (i.toNatClampNeg + 1)), .ref b]) (congrArg (fun z => F0 m 1270 ls [.int (xs z), .ref b]) ejx208) ?_
    refine lv_aload_n hx hb dL_law_1270 rfl (lv_at hl 3 rfl) ?_
    refine lv_iload_n hx hb dL_law_1271 rfl (lv_at hl 0 rfl) ?_
    refine lv_iconst (v := 2) hx hb dL_law_1272 (by decide) ?_
    refine lv_iadd hx hb dL_law_1273 ?_
    refine lv_topi (fun x209 ex209 => ?_)
    obtain ⟨tx209, ejx209, evx209⟩ := lw_ix (k := 2) ex209 hI hL rfl (by decide)
    clear tx209
    refine va_sld hx hb hX hbl (Nat.not_le.mpr hbl) hSH166 (vp_in_iff.mpr evx209) dL_law_1274 ?_
    refine W.eq (g2 := F0 m 1275 ls [.int (xs (i.toNatClampNeg + 2)), .int (xs (i.toNatClampNeg + 1)), .ref b]) (congrArg (fun z => F0 m 1275 ls [.int (xs z), .int (xs (i.toNatClampNeg + 1)), .ref b]) ejx209) ?_
    refine x_V (As := [.int (xs (i.toNatClampNeg + 1)), .int (xs (i.toNatClampNeg + 2))]) (rest := []) C (a_X10_nights l K G H166 ((xs (i.toNatClampNeg + 1))) ((xs (i.toNatClampNeg + 2))) hTH166 gb g168 g169 g170 g171) yo_X10_nights wM_L_132 ⟨⟨by decide, by decide⟩, show _ ≤ 60000 from Nat.le_trans hc (by decide), show _ ≤ 8922250 from Nat.le_trans hs (by decide)⟩ (x_rv C hTH166 (ci := 10) rfl gb rg_112) rfl hl.1 rfl (Nat.le_of_ble_eq_true rfl) dL_law_1275 hSH166 (AE_new hN hSH166.1) (fun vH210 H210 locsH210 pH210 zH210 kH210 hSH210 => ?_)
    obtain ⟨x211, hvH210, g212, g213, g214, g215, mf216, hTH210⟩ := pH210
    subst hvH210
    have f217 : ∀ j : Nat, fI H210 tq j = fI H tq j := fun j => (fI_kept (x_lt hTH166 kH210 gtq (by decide))).trans (f172 j)
    have f218 : ∀ j : Nat, fI H210 uq j = fI H uq j := fun j => (fI_kept (x_lt hTH166 kH210 guq (by decide))).trans (f173 j)
    have m219 := (m174).trans (fR_kept (x_lt hTH166 kH210 ga (by decide))).symm
    have m220 := (m175).trans (fI_kept (x_lt hTH166 kH210 ga (by decide))).symm
    have m221 := (m177).trans (fI_kept (x_lt hTH166 kH210 gw (by decide))).symm
    have m222 := (m179).trans (fI_kept (x_lt hTH166 kH210 gw (by decide))).symm
    have m223 := (m181).trans (fI_kept (x_lt hTH166 kH210 gw (by decide))).symm
    have m224 := (m183).trans (fI_kept (x_lt hTH166 kH210 gw (by decide))).symm
    have m225 := (m185).trans (fI_kept (x_lt hTH166 kH210 gw (by decide))).symm
    have m226 := (m187).trans (fI_kept (x_lt hTH166 kH210 gw (by decide))).symm
    have m227 := (m189).trans (fR_kept (x_lt hTH166 kH210 ga (by decide))).symm
    have m228 := (fV_kept (x_lt hTH166 kH210 ga (by decide))).trans m192
    have m229 := (m194).trans (fI_kept (x_lt hTH166 kH210 gkq (by decide))).symm
    have m230 := (m195).trans (fI_kept (x_lt hTH166 kH210 giq (by decide))).symm
    have m231 := (m196).trans (fI_kept (x_lt hTH166 kH210 gkq (by decide))).symm
    have m232 := (m197).trans (fI_kept (x_lt hTH166 kH210 giq (by decide))).symm
    have m233 := (m198).trans (fI_kept (x_lt hTH166 kH210 gkq (by decide))).symm
    have m234 := (m199).trans (fI_kept (x_lt hTH166 kH210 giq (by decide))).symm
    have m235 := (m200).trans (fI_kept (x_lt hTH166 kH210 gkq (by decide))).symm
    have m236 := (m201).trans (fI_kept (x_lt hTH166 kH210 giq (by decide))).symm
    have m237 := (m202).trans (fI_kept (x_lt hTH166 kH210 gkq (by decide))).symm
    have m238 := (m203).trans (fI_kept (x_lt hTH166 kH210 giq (by decide))).symm
    have m239 := (m204).trans (fI_kept (x_lt hTH166 kH210 gkq (by decide))).symm
    have m240 := (m205).trans (fI_kept (x_lt hTH166 kH210 giq (by decide))).symm
    have m241 := (m176).trans (MF.i mf216 (k := 18) (by decide) (by decide)).symm
    have m242 := (m178).trans (MF.i mf216 (k := 1) (by decide) (by decide)).symm
    have m243 := (m180).trans (MF.i mf216 (k := 2) (by decide) (by decide)).symm
    have m244 := (m182).trans (MF.i mf216 (k := 3) (by decide) (by decide)).symm
    have m245 := (m184).trans (MF.i mf216 (k := 59) (by decide) (by decide)).symm
    have m246 := (m186).trans (MF.i mf216 (k := 62) (by decide) (by decide)).symm
    have m247 := (m188).trans (MF.i mf216 (k := 65) (by decide) (by decide)).symm
    have m248 := (m190).trans (MF.r mf216 (k := 17) (by decide) (by decide)).symm
    have m249 := (m191).trans (MF.i mf216 (k := 70) (by decide) (by decide)).symm
    have m250 := (m193).trans (MF.r mf216 (k := 73) (by decide) (by decide)).symm
    refine W.eq (g2 := F0 m 1278 ls [.int x211]) rfl ?_
    have rk251 : RKI K H210 kq iq k1.toInt := RKI.kept rk206 hTH166 gkq (x_lt hTH166 kH210 giq (by first | exact nmr ht (by decide) | exact nmo ht (by decide) | exact nme ht (by decide) | exact nmq ht (by decide) | decide | (intro z; simp only [List.mem_cons, List.not_mem_nil, or_false] at z <;> omega) | omega)) (fun q t hq ht => x_lt hTH166 kH210 hq (by first | exact nmr ht (by decide) | exact nmo ht (by decide) | exact nme ht (by decide) | exact nmq ht (by decide) | decide | (intro z; simp only [List.mem_cons, List.not_mem_nil, or_false] at z <;> omega) | omega))
    have re252 : RE K H210 w b s1.toInt := RE.ref re207 hTH166 gw gb (fun k hk => MF.r mf216 (by omega) (by intro z; simp only [List.mem_cons, List.not_mem_nil, or_false] at z; omega)) (fun q t hq ht => x_lt hTH166 kH210 hq (by first | exact nmr ht (by decide) | exact nmo ht (by decide) | exact nme ht (by decide) | exact nmq ht (by decide) | decide | (intro z; simp only [List.mem_cons, List.not_mem_nil, or_false] at z <;> omega) | omega))
    refine lv_pop hx hb dL_law_1278 rfl ?_
    refine lv_goto (tgt := 1509) hx hb dL_law_1279 (by decide) ?_
    exact nx G H210 locsH210 _ _ ls ⟨hTH210, hN, ga, gb, g212, g213, g214, g215, ⟨(by rw [← m220, ← m241]; exact rt), (by rw [← m219, ← m221, ← m242]; exact r1), (by rw [← m219, ← m222, ← m243]; exact r4), (by rw [← m219, ← m223, ← m244]; exact r5), (by rw [← m219, ← m224, ← m245]; exact r10), (by rw [← m219, ← m225, ← m246]; exact r13), (by rw [← m219, ← m226, ← m247]; exact r16)⟩, Or.inr ⟨kq, m228, gkq, (by rw [← m249]; exact h70), (by rw [← m229, ← m250, ← m230]; exact q1), (by rw [← m231, ← m250, ← m232]; exact q4), (by rw [← m233, ← m250, ← m234]; exact q5), (by rw [← m235, ← m250, ← m236]; exact q10), (by rw [← m237, ← m250, ← m238]; exact q13), (by rw [← m239, ← m250, ← m240]; exact q16), (by rw [← m250, ← m229]; exact RKI.cast rk251 (by omega)), (by rw [← m233]; omega), (by rw [← m233]; omega)⟩, (by unfold TB; rw [← m227, ← m248, ← m241]; exact TBR.of htr f217 f218 (by omega)), (by unfold RELE; rw [← m219, ← m242, ← m223]; exact ⟨RE.cast re252 (by omega), by omega, by omega⟩), hSH210⟩ hl ⟨hc, hs, fun h => by have h1 := h.symm.trans m228; cases h1⟩