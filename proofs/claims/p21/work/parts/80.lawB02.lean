set_option maxRecDepth 100000 in
set_option maxHeartbeats 8000000 in
theorem lw_c8 {p : Program} {l : Launch} {e : Env} {s : State} {m : MethodId} {below : List Frame} {meth : Method} {c : Code} {K : KE} {b0 L : Nat} {xs : Nat → Int32} {G : Nat → Option Nat} {H : Heap} {locs : List Loc} {a b : Nat} {cells slots : Nat} {ls : Array Slot} {i : Int32} {n : Nat} (D : LC p K s m meth c b0 L xs) (S : SX K s G H locs a b) (hl : lv_has ls 4 [(3, .int i), (2, .ref b), (1, .ref a), (0, .ref b0)]) (hi : 0 ≤ i.toInt ∧ i.toInt + 6 ≤ L) (hn : n ≤ 511) (hB : BD K H a cells slots) (nx : ∀ (G : Nat → Option Nat) (H : Heap) (locs : List Loc) (cells slots : Nat) (ls : Array Slot), SX K s G H locs a b → lv_has ls 4 [(3, .int i), (2, .ref b), (1, .ref a), (0, .ref b0)] → BD K H a cells slots → W p l e room_1 s m #[Value.ref b0] below meth c H locs cells slots (lw_Z below #[Value.ref b0] s) (F0 m 1509 ls [])) : W p l e room_1 s m #[Value.ref b0] below meth c H locs cells slots (lw_Z below #[Value.ref b0] s) (F0 m 502 ls []) := by
  have hI := hi
  obtain ⟨C, hX, hbl, hL⟩ := id D
  obtain ⟨hx, hb, hml, hown, hts, hKT, hr, hlocks, hnm⟩ := id C
  obtain ⟨hT, hN, ga, gb, cg, tu, wd, im, ⟨rt, r1, r4, r5, r10, r13, r16⟩, hk, hrb, hS⟩ := S
  obtain ⟨hc, hs, hB0⟩ := hB
  have n_m1 : ((-1) : Int32).toInt = -1 := rfl
  have n_0 : (0 : Int32).toInt = 0 := rfl
  have n_1 : (1 : Int32).toInt = 1 := rfl
  obtain ⟨w, ew⟩ : ∃ z : Nat, z = fR H a (K.1.2 9 0) := ⟨_, rfl⟩
  have gw := ty_fr (q := w) (k := 0) (u := 0) ew hT ga rg_68 rfl
  rw [← ew] at r1 r4 r5 r10 r13 r16
  obtain ⟨ta, eta⟩ : ∃ z : Int32, z = fI H a (K.1.2 9 3) := ⟨_, rfl⟩
  rw [← eta] at rt
  obtain ⟨tb, etb⟩ : ∃ z : Int32, z = fI H b (K.1.2 10 18) := ⟨_, rfl⟩
  rw [← etb] at rt
  obtain ⟨s1, es1⟩ : ∃ z : Int32, z = fI H w (K.1.2 8 1) := ⟨_, rfl⟩
  rw [← es1] at r1
  obtain ⟨y1, ey1⟩ : ∃ z : Int32, z = fI H b (K.1.2 10 1) := ⟨_, rfl⟩
  rw [← ey1] at r1
  obtain ⟨s4, es4⟩ : ∃ z : Int32, z = fI H w (K.1.2 8 4) := ⟨_, rfl⟩
  rw [← es4] at r4
  obtain ⟨y4, ey4⟩ : ∃ z : Int32, z = fI H b (K.1.2 10 2) := ⟨_, rfl⟩
  rw [← ey4] at r4
  obtain ⟨s5, es5⟩ : ∃ z : Int32, z = fI H w (K.1.2 8 5) := ⟨_, rfl⟩
  rw [← es5] at r5
  obtain ⟨y5, ey5⟩ : ∃ z : Int32, z = fI H b (K.1.2 10 3) := ⟨_, rfl⟩
  rw [← ey5] at r5
  obtain ⟨s10, es10⟩ : ∃ z : Int32, z = fI H w (K.1.2 8 10) := ⟨_, rfl⟩
  rw [← es10] at r10
  obtain ⟨y10, ey10⟩ : ∃ z : Int32, z = fI H b (K.1.2 10 59) := ⟨_, rfl⟩
  rw [← ey10] at r10
  obtain ⟨s13, es13⟩ : ∃ z : Int32, z = fI H w (K.1.2 8 13) := ⟨_, rfl⟩
  rw [← es13] at r13
  obtain ⟨y13, ey13⟩ : ∃ z : Int32, z = fI H b (K.1.2 10 62) := ⟨_, rfl⟩
  rw [← ey13] at r13
  obtain ⟨s16, es16⟩ : ∃ z : Int32, z = fI H w (K.1.2 8 16) := ⟨_, rfl⟩
  rw [← es16] at r16
  obtain ⟨y16, ey16⟩ : ∃ z : Int32, z = fI H b (K.1.2 10 65) := ⟨_, rfl⟩
  rw [← ey16] at r16
  obtain ⟨bq, ebq⟩ : ∃ z : Nat, z = fR H w (K.1.2 8 0) := ⟨_, rfl⟩
  have gbq := ty_fr (q := bq) (k := 0) (u := 25) ebq hT gw rg_0 rfl
  obtain ⟨aq, eaq⟩ : ∃ z : Nat, z = fR H b (K.1.2 10 50) := ⟨_, rfl⟩
  have gaq := ty_fr (q := aq) (k := 50) (u := 146) eaq hT gb rg_112 rfl
  have bs1 := ty_fi (x := s1) (k := 1) es1 hT gw rg_0 rfl
  have by1 := ty_fi (x := y1) (k := 1) ey1 hT gb rg_112 rfl
  obtain ⟨db, vr, vt⟩ := hrb
  rw [← ew, ← ebq] at db
  rw [← ew, ← ebq, ← eaq, ← ey1] at vr
  rw [← eaq, ← ey1] at vt
  obtain ⟨cz101, ecz101⟩ : ∃ f : Nat → Int32, ∀ j : Nat, j < 10 → f j = fI H (fR H bq j) (K.1.2 0 14) := ⟨_, fun _ _ => rfl⟩
  obtain ⟨rz102, erz102⟩ : ∃ f : Nat → Int32, ∀ j : Nat, j < 10 → f j = fI H aq j := ⟨_, fun _ _ => rfl⟩
  have rel : ∀ j : Nat, j < 10 → (j : Int) < y1.toInt → cz101 j = rz102 j := fun j h1 h2 => by rw [ecz101 j h1, erz102 j h1]; exact vr j h1 h2
  clear vr
  have tl : ∀ j : Nat, j < 10 → y1.toInt ≤ (j : Int) → rz102 j = 0 := fun j h1 h2 => by rw [erz102 j h1]; exact vt j h1 h2
  clear vt
  rcases hk with ⟨kn, h70⟩ | ⟨kq, kn, gkq, h70, q1, q4, q5, q10, q13, q16, dbk, vk, vkt⟩
  · skip
    obtain ⟨hi, ehi⟩ : ∃ z : Int32, z = fI H b (K.1.2 10 70) := ⟨_, rfl⟩
    rw [← ehi] at h70
    obtain ⟨hc0, hs0⟩ := hB0 kn
    obtain ⟨iq, eiq⟩ : ∃ z : Nat, z = fR H b (K.1.2 10 73) := ⟨_, rfl⟩
    have giq := ty_fr (q := iq) (k := 73) (u := 162) eiq hT gb rg_112 rfl
    refine lv_aload_n hx hb dL_law_502 rfl (lv_at hl 2 rfl) ?_
    refine lv_aload_n hx hb dL_law_503 rfl (lv_at hl 3 rfl) ?_
    refine lv_iload_n hx hb dL_law_504 rfl (lv_at hl 0 rfl) ?_
    refine lv_iconst (v := 1) hx hb dL_law_505 (by decide) ?_
    refine lv_iadd hx hb dL_law_506 ?_
    refine lv_topi (fun x103 ex103 => ?_)
    obtain ⟨tx103, ejx103, evx103⟩ := lw_ix (k := 1) ex103 hI hL rfl (by decide)
    clear tx103
    refine va_sld hx hb hX hbl (Nat.not_le.mpr hbl) hS (vp_in_iff.mpr evx103) dL_law_507 ?_
    refine W.eq (g2 := F0 m 508 ls [.int (xs (i.toNatClampNeg + 1)), .ref a]) (congrArg (fun z => F0 m 508 ls [.int (xs z), .ref a]) ejx103) ?_
    refine x_V (As := [.int (xs (i.toNatClampNeg + 1))]) (rest := []) C (a_X9_force_r l K G H ((xs (i.toNatClampNeg + 1))) (s1) (s4) (s5) (s10) (s13) (s16) hT ga gw ew gbq ebq es1 es4 es5 es10 es13 es16) yo_X9_force wM_L_52 ⟨⟨by decide, by decide⟩, show _ ≤ 1200000 from Nat.le_trans hc (by decide), show _ ≤ 5502250 from Nat.le_trans hs (by decide)⟩ (x_rv C hT (ci := 9) rfl ga rg_68) rfl hl.1 rfl (Nat.le_of_ble_eq_true rfl) dL_law_508 hS (AE_new hN hS.1) (fun vH104 H104 locsH104 pH104 zH104 kH104 hSH104 => ?_)
    obtain ⟨x105, x106, x107, x108, x109, x110, x111, hvH104, ex106, ex107, ex108, ex109, ex110, ex111, hrH104, m112, hTH104⟩ := pH104
    subst hvH104
    have g113 : CG (avw K H104 b) := CG.congr (fun k hk j => av_eff hT kH104 gb (by decide) (CG_eff [0] (by decide) k hk)) cg
    have g114 : TU (avw K H104 b) (svw K H104 b) := TU.congr (fun k hk j => av_eff hT kH104 gb (by decide) (TU_eff [0] (by decide) k hk)) (fun k hk => sv_eff hT kH104 gb (by decide)) tu
    have g115 : WD (avw K H104 b) := WD.congr (fun k hk j => av_eff hT kH104 gb (by decide) (WD_eff [0] (by decide) k hk)) wd
    have g116 : IM (avw K H104 b) := IM.congr (fun k hk j => av_eff hT kH104 gb (by decide) (IM_eff [0] (by decide) k hk)) im
    have m117 := (ew).trans (fR_kept (x_lt hT kH104 ga (by decide))).symm
    have m118 := (eta).trans (fI_kept (x_lt hT kH104 ga (by decide))).symm
    have m119 := (etb).trans (fI_kept (x_lt hT kH104 gb (by decide))).symm
    have m120 := (ey1).trans (fI_kept (x_lt hT kH104 gb (by decide))).symm
    have m121 := (ey4).trans (fI_kept (x_lt hT kH104 gb (by decide))).symm
    have m122 := (ey5).trans (fI_kept (x_lt hT kH104 gb (by decide))).symm
    have m123 := (ey10).trans (fI_kept (x_lt hT kH104 gb (by decide))).symm
    have m124 := (ey13).trans (fI_kept (x_lt hT kH104 gb (by decide))).symm
    have m125 := (ey16).trans (fI_kept (x_lt hT kH104 gb (by decide))).symm
    have m126 := (eaq).trans (fR_kept (x_lt hT kH104 gb (by decide))).symm
    have m127 := (ehi).trans (fI_kept (x_lt hT kH104 gb (by decide))).symm
    have m128 := (fV_kept (x_lt hT kH104 ga (by decide))).trans kn
    have m129 := (eiq).trans (fR_kept (x_lt hT kH104 gb (by decide))).symm
    have bx106 := ty_fi (x := x106) (k := 1) ex106 hTH104 gw rg_0 rfl
    have bx107 := ty_fi (x := x107) (k := 4) ex107 hTH104 gw rg_0 rfl
    have bx108 := ty_fi (x := x108) (k := 5) ex108 hTH104 gw rg_0 rfl
    have bx109 := ty_fi (x := x109) (k := 10) ex109 hTH104 gw rg_0 rfl
    have bx110 := ty_fi (x := x110) (k := 13) ex110 hTH104 gw rg_0 rfl
    have bx111 := ty_fi (x := x111) (k := 16) ex111 hTH104 gw rg_0 rfl
    refine W.eq (g2 := F0 m 511 ls [.int x105]) rfl ?_
    have v130 : ∀ j : Nat, j < 10 → cz101 j = fI H104 (fR H104 bq j) (K.1.2 0 14) := fun j h => (ecz101 j h).trans (by rw [fR_kept (x_lt hT kH104 gbq (by decide))]; exact (fI_kept (x_lt hT kH104 (bar_g hT gbq j h) (by decide))).symm)
    have v131 : ∀ j : Nat, j < 10 → rz102 j = fI H104 aq j := fun j h => (erz102 j h).trans (fI_kept (x_lt hT kH104 gaq (by decide))).symm
    have d132 := DB.kept db (x_lt hT kH104 gbq (by decide))
    refine lv_pop hx hb dL_law_511 rfl ?_
    refine lv_aload_n hx hb dL_law_512 rfl (lv_at hl 1 rfl) ?_
    refine lv_aload_n hx hb dL_law_513 rfl (lv_at hl 3 rfl) ?_
    refine lv_iload_n hx hb dL_law_514 rfl (lv_at hl 0 rfl) ?_
    refine lv_iconst (v := 1) hx hb dL_law_515 (by decide) ?_
    refine lv_iadd hx hb dL_law_516 ?_
    refine lv_topi (fun x133 ex133 => ?_)
    obtain ⟨tx133, ejx133, evx133⟩ := lw_ix (k := 1) ex133 hI hL rfl (by decide)
    clear tx133
    refine va_sld hx hb hX hbl (Nat.not_le.mpr hbl) hSH104 (vp_in_iff.mpr evx133) dL_law_517 ?_
    refine W.eq (g2 := F0 m 518 ls [.int (xs (i.toNatClampNeg + 1)), .ref b]) (congrArg (fun z => F0 m 518 ls [.int (xs z), .ref b]) ejx133) ?_
    refine x_V (As := [.int (xs (i.toNatClampNeg + 1))]) (rest := []) C (a_X10_force_r l K G H104 ((xs (i.toNatClampNeg + 1))) (y4) hTH104 gb m121 g113 g114 g115 g116) yo_X10_force wM_L_55 ⟨⟨by decide, by decide⟩, show _ ≤ 1200000 from Nat.le_trans hc (by decide), show _ ≤ 5502250 from Nat.le_trans hs (by decide)⟩ (x_rv C hTH104 (ci := 10) rfl gb rg_112) rfl hl.1 rfl (Nat.le_of_ble_eq_true rfl) dL_law_518 hSH104 (AE_new hN hSH104.1) (fun vH134 H134 locsH134 pH134 zH134 kH134 hSH134 => ?_)
    obtain ⟨x135, x136, hvH134, ex136, hrH134, g137, g138, g139, g140, mf141, hTH134⟩ := pH134
    subst hvH134
    have m142 := (m117).trans (fR_kept (x_lt hTH104 kH134 ga (by decide))).symm
    have m143 := (m118).trans (fI_kept (x_lt hTH104 kH134 ga (by decide))).symm
    have m144 := (fV_kept (x_lt hTH104 kH134 ga (by decide))).trans m128
    have m145 := (m112).trans (fR_kept (x_lt hTH104 kH134 gw (by decide))).symm
    have m146 := (ex106).trans (fI_kept (x_lt hTH104 kH134 gw (by decide))).symm
    have m147 := (ex107).trans (fI_kept (x_lt hTH104 kH134 gw (by decide))).symm
    have m148 := (ex108).trans (fI_kept (x_lt hTH104 kH134 gw (by decide))).symm
    have m149 := (ex109).trans (fI_kept (x_lt hTH104 kH134 gw (by decide))).symm
    have m150 := (ex110).trans (fI_kept (x_lt hTH104 kH134 gw (by decide))).symm
    have m151 := (ex111).trans (fI_kept (x_lt hTH104 kH134 gw (by decide))).symm
    have m152 := (m119).trans (MF.i mf141 (k := 18) (by decide) (by decide)).symm
    have m153 := (m120).trans (MF.i mf141 (k := 1) (by decide) (by decide)).symm
    have m154 := (m122).trans (MF.i mf141 (k := 3) (by decide) (by decide)).symm
    have m155 := (m123).trans (MF.i mf141 (k := 59) (by decide) (by decide)).symm
    have m156 := (m124).trans (MF.i mf141 (k := 62) (by decide) (by decide)).symm
    have m157 := (m125).trans (MF.i mf141 (k := 65) (by decide) (by decide)).symm
    have m158 := (m126).trans (MF.r mf141 (k := 50) (by decide) (by decide)).symm
    have m159 := (m127).trans (MF.i mf141 (k := 70) (by decide) (by decide)).symm
    have m160 := (m129).trans (MF.r mf141 (k := 73) (by decide) (by decide)).symm
    have bx136 := ty_fi (x := x136) (k := 2) ex136 hTH134 gb rg_112 rfl
    refine W.eq (g2 := F0 m 521 ls [.int x135]) rfl ?_
    have v161 : ∀ j : Nat, j < 10 → cz101 j = fI H134 (fR H134 bq j) (K.1.2 0 14) := fun j h => (v130 j h).trans (by rw [fR_kept (x_lt hTH104 kH134 gbq (by decide))]; exact (fI_kept (x_lt hTH104 kH134 (bar_g hTH104 gbq j h) (by decide))).symm)
    have v162 : ∀ j : Nat, j < 10 → rz102 j = fI H134 aq j := fun j h => (v131 j h).trans (fI_kept (x_lt hTH104 kH134 gaq (by decide))).symm
    have d163 := DB.kept d132 (x_lt hTH104 kH134 gbq (by decide))
    refine lv_pop hx hb dL_law_521 rfl ?_
    refine lv_goto (tgt := 1509) hx hb dL_law_522 (by decide) ?_
    exact nx G H134 locsH134 _ _ ls ⟨hTH134, hN, ga, gb, g137, g138, g139, g140, ⟨(by rw [← m143, ← m152]; exact rt), (by rw [← m142, ← m146, ← m153]; omega), (by rw [← m142, ← m147, ← ex136]; omega), (by rw [← m142, ← m148, ← m154]; omega), (by rw [← m142, ← m149, ← m155]; omega), (by rw [← m142, ← m150, ← m156]; omega), (by rw [← m142, ← m151, ← m157]; omega)⟩, Or.inl ⟨m144, (by rw [← m159]; exact h70)⟩, (by unfold RB; rw [← m142, ← m145, ← m158, ← m153]; exact ⟨d163, fun j h1 h2 => by rw [← v161 j h1, ← v162 j h1]; exact rel j h1 (by omega), fun j h1 h2 => by rw [← v162 j h1]; exact tl j h1 (by omega)⟩), hSH134⟩ hl ⟨hc, hs, fun _ => ⟨hc0, hs0⟩⟩
  · skip
    obtain ⟨hi, ehi⟩ : ∃ z : Int32, z = fI H b (K.1.2 10 70) := ⟨_, rfl⟩
    rw [← ehi] at h70
    obtain ⟨iq, eiq⟩ : ∃ z : Nat, z = fR H b (K.1.2 10 73) := ⟨_, rfl⟩
    have giq := ty_fr (q := iq) (k := 73) (u := 162) eiq hT gb rg_112 rfl
    rw [← eiq] at q1 q4 q5 q10 q13 q16
    obtain ⟨k1, ek1⟩ : ∃ z : Int32, z = fI H kq (K.1.2 8 1) := ⟨_, rfl⟩
    rw [← ek1] at q1
    obtain ⟨i1, ei1⟩ : ∃ z : Int32, z = fI H iq ((0 : Int32).toNatClampNeg) := ⟨_, rfl⟩
    rw [← ei1] at q1
    obtain ⟨k4, ek4⟩ : ∃ z : Int32, z = fI H kq (K.1.2 8 4) := ⟨_, rfl⟩
    rw [← ek4] at q4
    obtain ⟨i4, ei4⟩ : ∃ z : Int32, z = fI H iq ((1 : Int32).toNatClampNeg) := ⟨_, rfl⟩
    rw [← ei4] at q4
    obtain ⟨k5, ek5⟩ : ∃ z : Int32, z = fI H kq (K.1.2 8 5) := ⟨_, rfl⟩
    rw [← ek5] at q5
    obtain ⟨i5, ei5⟩ : ∃ z : Int32, z = fI H iq ((2 : Int32).toNatClampNeg) := ⟨_, rfl⟩
    rw [← ei5] at q5
    obtain ⟨k10, ek10⟩ : ∃ z : Int32, z = fI H kq (K.1.2 8 10) := ⟨_, rfl⟩
    rw [← ek10] at q10
    obtain ⟨i10, ei10⟩ : ∃ z : Int32, z = fI H iq ((3 : Int32).toNatClampNeg) := ⟨_, rfl⟩
    rw [← ei10] at q10
    obtain ⟨k13, ek13⟩ : ∃ z : Int32, z = fI H kq (K.1.2 8 13) := ⟨_, rfl⟩
    rw [← ek13] at q13
    obtain ⟨i13, ei13⟩ : ∃ z : Int32, z = fI H iq ((4 : Int32).toNatClampNeg) := ⟨_, rfl⟩
    rw [← ei13] at q13
    obtain ⟨k16, ek16⟩ : ∃ z : Int32, z = fI H kq (K.1.2 8 16) := ⟨_, rfl⟩
    rw [← ek16] at q16
    obtain ⟨i16, ei16⟩ : ∃ z : Int32, z = fI H iq ((5 : Int32).toNatClampNeg) := ⟨_, rfl⟩
    rw [← ei16] at q16
    obtain ⟨kb, ekb⟩ : ∃ z : Nat, z = fR H kq (K.1.2 8 0) := ⟨_, rfl⟩
    have gkb := ty_fr (q := kb) (k := 0) (u := 59) ekb hT gkq rg_34 rfl
    have bk1 := ty_fi (x := k1) (k := 1) ek1 hT gkq rg_34 rfl
    rw [← ekb] at dbk
    rw [← ekb, ← eiq, ← ek1] at vk
    rw [← eiq, ← ek1] at vkt
    obtain ⟨kz164, ekz164⟩ : ∃ f : Nat → Int32, ∀ j : Nat, j < 10 → f j = fI H (fR H kb j) (K.1.2 0 14) := ⟨_, fun _ _ => rfl⟩
    obtain ⟨iz165, eiz165⟩ : ∃ f : Nat → Int32, ∀ j : Nat, j < 10 → f j = fI H iq (11 + 6 * j) := ⟨_, fun _ _ => rfl⟩
    have vk0 : ∀ j : Nat, j < 10 → (j : Int) < k1.toInt → kz164 j = iz165 j := fun j h1 h2 => by rw [ekz164 j h1, eiz165 j h1]; exact vk j h1 h2
    clear vk
    have vk1 : ∀ j : Nat, j < 10 → k1.toInt ≤ (j : Int) → iz165 j = 0 := fun j h1 h2 => by rw [eiz165 j h1]; exact vkt j h1 h2
    clear vkt
    refine lv_aload_n hx hb dL_law_502 rfl (lv_at hl 2 rfl) ?_
    refine lv_aload_n hx hb dL_law_503 rfl (lv_at hl 3 rfl) ?_
    refine lv_iload_n hx hb dL_law_504 rfl (lv_at hl 0 rfl) ?_
    refine lv_iconst (v := 1) hx hb dL_law_505 (by decide) ?_
    refine lv_iadd hx hb dL_law_506 ?_
    refine lv_topi (fun x166 ex166 => ?_)
    obtain ⟨tx166, ejx166, evx166⟩ := lw_ix (k := 1) ex166 hI hL rfl (by decide)
    clear tx166
    refine va_sld hx hb hX hbl (Nat.not_le.mpr hbl) hS (vp_in_iff.mpr evx166) dL_law_507 ?_
    refine W.eq (g2 := F0 m 508 ls [.int (xs (i.toNatClampNeg + 1)), .ref a]) (congrArg (fun z => F0 m 508 ls [.int (xs z), .ref a]) ejx166) ?_
    refine x_V (As := [.int (xs (i.toNatClampNeg + 1))]) (rest := []) C (a_X9_force_r l K G H ((xs (i.toNatClampNeg + 1))) (s1) (s4) (s5) (s10) (s13) (s16) hT ga gw ew gbq ebq es1 es4 es5 es10 es13 es16) yo_X9_force wM_L_52 ⟨⟨by decide, by decide⟩, show _ ≤ 1200000 from Nat.le_trans hc (by decide), show _ ≤ 5502250 from Nat.le_trans hs (by decide)⟩ (x_rv C hT (ci := 9) rfl ga rg_68) rfl hl.1 rfl (Nat.le_of_ble_eq_true rfl) dL_law_508 hS (AE_new hN hS.1) (fun vH167 H167 locsH167 pH167 zH167 kH167 hSH167 => ?_)
    obtain ⟨x168, x169, x170, x171, x172, x173, x174, hvH167, ex169, ex170, ex171, ex172, ex173, ex174, hrH167, m175, hTH167⟩ := pH167
    subst hvH167
    have g176 : CG (avw K H167 b) := CG.congr (fun k hk j => av_eff hT kH167 gb (by decide) (CG_eff [0] (by decide) k hk)) cg
    have g177 : TU (avw K H167 b) (svw K H167 b) := TU.congr (fun k hk j => av_eff hT kH167 gb (by decide) (TU_eff [0] (by decide) k hk)) (fun k hk => sv_eff hT kH167 gb (by decide)) tu
    have g178 : WD (avw K H167 b) := WD.congr (fun k hk j => av_eff hT kH167 gb (by decide) (WD_eff [0] (by decide) k hk)) wd
    have g179 : IM (avw K H167 b) := IM.congr (fun k hk j => av_eff hT kH167 gb (by decide) (IM_eff [0] (by decide) k hk)) im
    have m180 := (ew).trans (fR_kept (x_lt hT kH167 ga (by decide))).symm
    have m181 := (eta).trans (fI_kept (x_lt hT kH167 ga (by decide))).symm
    have m182 := (etb).trans (fI_kept (x_lt hT kH167 gb (by decide))).symm
    have m183 := (ey1).trans (fI_kept (x_lt hT kH167 gb (by decide))).symm
    have m184 := (ey4).trans (fI_kept (x_lt hT kH167 gb (by decide))).symm
    have m185 := (ey5).trans (fI_kept (x_lt hT kH167 gb (by decide))).symm
    have m186 := (ey10).trans (fI_kept (x_lt hT kH167 gb (by decide))).symm
    have m187 := (ey13).trans (fI_kept (x_lt hT kH167 gb (by decide))).symm
    have m188 := (ey16).trans (fI_kept (x_lt hT kH167 gb (by decide))).symm
    have m189 := (eaq).trans (fR_kept (x_lt hT kH167 gb (by decide))).symm
    have m190 := (ehi).trans (fI_kept (x_lt hT kH167 gb (by decide))).symm
    have m191 := (fV_kept (x_lt hT kH167 ga (by decide))).trans kn
    have m192 := (eiq).trans (fR_kept (x_lt hT kH167 gb (by decide))).symm
    have m193 := (ek1).trans (fI_kept (x_lt hT kH167 gkq (by decide))).symm
    have m194 := (ei1).trans (fI_kept (x_lt hT kH167 giq (by decide))).symm
    have m195 := (ek4).trans (fI_kept (x_lt hT kH167 gkq (by decide))).symm
    have m196 := (ei4).trans (fI_kept (x_lt hT kH167 giq (by decide))).symm
    have m197 := (ek5).trans (fI_kept (x_lt hT kH167 gkq (by decide))).symm
    have m198 := (ei5).trans (fI_kept (x_lt hT kH167 giq (by decide))).symm
    have m199 := (ek10).trans (fI_kept (x_lt hT kH167 gkq (by decide))).symm
    have m200 := (ei10).trans (fI_kept (x_lt hT kH167 giq (by decide))).symm
    have m201 := (ek13).trans (fI_kept (x_lt hT kH167 gkq (by decide))).symm
    have m202 := (ei13).trans (fI_kept (x_lt hT kH167 giq (by decide))).symm
    have m203 := (ek16).trans (fI_kept (x_lt hT kH167 gkq (by decide))).symm
    have m204 := (ei16).trans (fI_kept (x_lt hT kH167 giq (by decide))).symm
    have m205 := (ekb).trans (fR_kept (x_lt hT kH167 gkq (by decide))).symm
    have bx169 := ty_fi (x := x169) (k := 1) ex169 hTH167 gw rg_0 rfl
    have bx170 := ty_fi (x := x170) (k := 4) ex170 hTH167 gw rg_0 rfl
    have bx171 := ty_fi (x := x171) (k := 5) ex171 hTH167 gw rg_0 rfl
    have bx172 := ty_fi (x := x172) (k := 10) ex172 hTH167 gw rg_0 rfl
    have bx173 := ty_fi (x := x173) (k := 13) ex173 hTH167 gw rg_0 rfl
    have bx174 := ty_fi (x := x174) (k := 16) ex174 hTH167 gw rg_0 rfl
    refine W.eq (g2 := F0 m 511 ls [.int x168]) rfl ?_
    have v206 : ∀ j : Nat, j < 10 → cz101 j = fI H167 (fR H167 bq j) (K.1.2 0 14) := fun j h => (ecz101 j h).trans (by rw [fR_kept (x_lt hT kH167 gbq (by decide))]; exact (fI_kept (x_lt hT kH167 (bar_g hT gbq j h) (by decide))).symm)
    have v207 : ∀ j : Nat, j < 10 → rz102 j = fI H167 aq j := fun j h => (erz102 j h).trans (fI_kept (x_lt hT kH167 gaq (by decide))).symm
    have v208 : ∀ j : Nat, j < 10 → kz164 j = fI H167 (fR H167 kb j) (K.1.2 0 14) := fun j h => (ekz164 j h).trans (by rw [fR_kept (x_lt hT kH167 gkb (by decide))]; exact (fI_kept (x_lt hT kH167 (bar_h hT gkb j h) (by decide))).symm)
    have d209 := DB.kept dbk (x_lt hT kH167 gkb (by decide))
    have v210 : ∀ j : Nat, j < 10 → iz165 j = fI H167 iq (11 + 6 * j) := fun j h => (eiz165 j h).trans (fI_kept (x_lt hT kH167 giq (by decide))).symm
    have d211 := DB.kept db (x_lt hT kH167 gbq (by decide))
    refine lv_pop hx hb dL_law_511 rfl ?_
    refine lv_aload_n hx hb dL_law_512 rfl (lv_at hl 1 rfl) ?_
    refine lv_aload_n hx hb dL_law_513 rfl (lv_at hl 3 rfl) ?_
    refine lv_iload_n hx hb dL_law_514 rfl (lv_at hl 0 rfl) ?_
    refine lv_iconst (v := 1) hx hb dL_law_515 (by decide) ?_
    refine lv_iadd hx hb dL_law_516 ?_
    refine lv_topi (fun x212 ex212 => ?_)
    obtain ⟨tx212, ejx212, evx212⟩ := lw_ix (k := 1) ex212 hI hL rfl (by decide)
    clear tx212
    refine va_sld hx hb hX hbl (Nat.not_le.mpr hbl) hSH167 (vp_in_iff.mpr evx212) dL_law_517 ?_
    refine W.eq (g2 := F0 m 518 ls [.int (xs (i.toNatClampNeg + 1)), .ref b]) (congrArg (fun z => F0 m 518 ls [.int (xs z), .ref b]) ejx212) ?_
    refine x_V (As := [.int (xs (i.toNatClampNeg + 1))]) (rest := []) C (a_X10_force_r l K G H167 ((xs (i.toNatClampNeg + 1))) (y4) hTH167 gb m184 g176 g177 g178 g179) yo_X10_force wM_L_55 ⟨⟨by decide, by decide⟩, show _ ≤ 1200000 from Nat.le_trans hc (by decide), show _ ≤ 5502250 from Nat.le_trans hs (by decide)⟩ (x_rv C hTH167 (ci := 10) rfl gb rg_112) rfl hl.1 rfl (Nat.le_of_ble_eq_true rfl) dL_law_518 hSH167 (AE_new hN hSH167.1) (fun vH213 H213 locsH213 pH213 zH213 kH213 hSH213 => ?_)
    obtain ⟨x214, x215, hvH213, ex215, hrH213, g216, g217, g218, g219, mf220, hTH213⟩ := pH213
    subst hvH213
    have m221 := (m180).trans (fR_kept (x_lt hTH167 kH213 ga (by decide))).symm
    have m222 := (m181).trans (fI_kept (x_lt hTH167 kH213 ga (by decide))).symm
    have m223 := (fV_kept (x_lt hTH167 kH213 ga (by decide))).trans m191
    have m224 := (m193).trans (fI_kept (x_lt hTH167 kH213 gkq (by decide))).symm
    have m225 := (m194).trans (fI_kept (x_lt hTH167 kH213 giq (by decide))).symm
    have m226 := (m195).trans (fI_kept (x_lt hTH167 kH213 gkq (by decide))).symm
    have m227 := (m196).trans (fI_kept (x_lt hTH167 kH213 giq (by decide))).symm
    have m228 := (m197).trans (fI_kept (x_lt hTH167 kH213 gkq (by decide))).symm
    have m229 := (m198).trans (fI_kept (x_lt hTH167 kH213 giq (by decide))).symm
    have m230 := (m199).trans (fI_kept (x_lt hTH167 kH213 gkq (by decide))).symm
    have m231 := (m200).trans (fI_kept (x_lt hTH167 kH213 giq (by decide))).symm
    have m232 := (m201).trans (fI_kept (x_lt hTH167 kH213 gkq (by decide))).symm
    have m233 := (m202).trans (fI_kept (x_lt hTH167 kH213 giq (by decide))).symm
    have m234 := (m203).trans (fI_kept (x_lt hTH167 kH213 gkq (by decide))).symm
    have m235 := (m204).trans (fI_kept (x_lt hTH167 kH213 giq (by decide))).symm
    have m236 := (m205).trans (fR_kept (x_lt hTH167 kH213 gkq (by decide))).symm
    have m237 := (m175).trans (fR_kept (x_lt hTH167 kH213 gw (by decide))).symm
    have m238 := (ex169).trans (fI_kept (x_lt hTH167 kH213 gw (by decide))).symm
    have m239 := (ex170).trans (fI_kept (x_lt hTH167 kH213 gw (by decide))).symm
    have m240 := (ex171).trans (fI_kept (x_lt hTH167 kH213 gw (by decide))).symm
    have m241 := (ex172).trans (fI_kept (x_lt hTH167 kH213 gw (by decide))).symm
    have m242 := (ex173).trans (fI_kept (x_lt hTH167 kH213 gw (by decide))).symm
    have m243 := (ex174).trans (fI_kept (x_lt hTH167 kH213 gw (by decide))).symm
    have m244 := (m182).trans (MF.i mf220 (k := 18) (by decide) (by decide)).symm
    have m245 := (m183).trans (MF.i mf220 (k := 1) (by decide) (by decide)).symm
    have m246 := (m185).trans (MF.i mf220 (k := 3) (by decide) (by decide)).symm
    have m247 := (m186).trans (MF.i mf220 (k := 59) (by decide) (by decide)).symm
    have m248 := (m187).trans (MF.i mf220 (k := 62) (by decide) (by decide)).symm
    have m249 := (m188).trans (MF.i mf220 (k := 65) (by decide) (by decide)).symm
    have m250 := (m189).trans (MF.r mf220 (k := 50) (by decide) (by decide)).symm
    have m251 := (m190).trans (MF.i mf220 (k := 70) (by decide) (by decide)).symm
    have m252 := (m192).trans (MF.r mf220 (k := 73) (by decide) (by decide)).symm
    have bx215 := ty_fi (x := x215) (k := 2) ex215 hTH213 gb rg_112 rfl
    refine W.eq (g2 := F0 m 521 ls [.int x214]) rfl ?_
    have v253 : ∀ j : Nat, j < 10 → cz101 j = fI H213 (fR H213 bq j) (K.1.2 0 14) := fun j h => (v206 j h).trans (by rw [fR_kept (x_lt hTH167 kH213 gbq (by decide))]; exact (fI_kept (x_lt hTH167 kH213 (bar_g hTH167 gbq j h) (by decide))).symm)
    have v254 : ∀ j : Nat, j < 10 → rz102 j = fI H213 aq j := fun j h => (v207 j h).trans (fI_kept (x_lt hTH167 kH213 gaq (by decide))).symm
    have v255 : ∀ j : Nat, j < 10 → kz164 j = fI H213 (fR H213 kb j) (K.1.2 0 14) := fun j h => (v208 j h).trans (by rw [fR_kept (x_lt hTH167 kH213 gkb (by decide))]; exact (fI_kept (x_lt hTH167 kH213 (bar_h hTH167 gkb j h) (by decide))).symm)
    have d256 := DB.kept d209 (x_lt hTH167 kH213 gkb (by decide))
    have v257 : ∀ j : Nat, j < 10 → iz165 j = fI H213 iq (11 + 6 * j) := fun j h => (v210 j h).trans (fI_kept (x_lt hTH167 kH213 giq (by decide))).symm
    have d258 := DB.kept d211 (x_lt hTH167 kH213 gbq (by decide))
    refine lv_pop hx hb dL_law_521 rfl ?_
    refine lv_goto (tgt := 1509) hx hb dL_law_522 (by decide) ?_
    exact nx G H213 locsH213 _ _ ls ⟨hTH213, hN, ga, gb, g216, g217, g218, g219, ⟨(by rw [← m222, ← m244]; exact rt), (by rw [← m221, ← m238, ← m245]; omega), (by rw [← m221, ← m239, ← ex215]; omega), (by rw [← m221, ← m240, ← m246]; omega), (by rw [← m221, ← m241, ← m247]; omega), (by rw [← m221, ← m242, ← m248]; omega), (by rw [← m221, ← m243, ← m249]; omega)⟩, Or.inr ⟨kq, m223, gkq, (by rw [← m251]; exact h70), (by rw [← m224, ← m252, ← m225]; exact q1), (by rw [← m226, ← m252, ← m227]; exact q4), (by rw [← m228, ← m252, ← m229]; exact q5), (by rw [← m230, ← m252, ← m231]; exact q10), (by rw [← m232, ← m252, ← m233]; exact q13), (by rw [← m234, ← m252, ← m235]; exact q16), (by rw [← m236]; exact d256), (by rw [← m236, ← m252, ← m224]; exact fun j h1 h2 => by rw [← v255 j h1, ← v257 j h1]; exact vk0 j h1 (by omega)), (by rw [← m252, ← m224]; exact fun j h1 h2 => by rw [← v257 j h1]; exact vk1 j h1 (by omega))⟩, (by unfold RB; rw [← m221, ← m237, ← m250, ← m245]; exact ⟨d258, fun j h1 h2 => by rw [← v253 j h1, ← v254 j h1]; exact rel j h1 (by omega), fun j h1 h2 => by rw [← v254 j h1]; exact tl j h1 (by omega)⟩), hSH213⟩ hl ⟨hc, hs, fun h => by have h1 := h.symm.trans m223; cases h1⟩
set_option maxRecDepth 100000 in
set_option maxHeartbeats 8000000 in
theorem lw_c9 {p : Program} {l : Launch} {e : Env} {s : State} {m : MethodId} {below : List Frame} {meth : Method} {c : Code} {K : KE} {b0 L : Nat} {xs : Nat → Int32} {G : Nat → Option Nat} {H : Heap} {locs : List Loc} {a b : Nat} {cells slots : Nat} {ls : Array Slot} {i : Int32} {n : Nat} (D : LC p K s m meth c b0 L xs) (S : SX K s G H locs a b) (hl : lv_has ls 4 [(3, .int i), (2, .ref b), (1, .ref a), (0, .ref b0)]) (hi : 0 ≤ i.toInt ∧ i.toInt + 6 ≤ L) (hn : n ≤ 511) (hB : BD K H a cells slots) (nx : ∀ (G : Nat → Option Nat) (H : Heap) (locs : List Loc) (cells slots : Nat) (ls : Array Slot), SX K s G H locs a b → lv_has ls 4 [(3, .int i), (2, .ref b), (1, .ref a), (0, .ref b0)] → BD K H a cells slots → W p l e room_1 s m #[Value.ref b0] below meth c H locs cells slots (lw_Z below #[Value.ref b0] s) (F0 m 1509 ls [])) : W p l e room_1 s m #[Value.ref b0] below meth c H locs cells slots (lw_Z below #[Value.ref b0] s) (F0 m 525 ls []) := by
  have hI := hi
  obtain ⟨C, hX, hbl, hL⟩ := id D
  obtain ⟨hx, hb, hml, hown, hts, hKT, hr, hlocks, hnm⟩ := id C
  obtain ⟨hT, hN, ga, gb, cg, tu, wd, im, ⟨rt, r1, r4, r5, r10, r13, r16⟩, hk, hrb, hS⟩ := S
  obtain ⟨hc, hs, hB0⟩ := hB
  have n_m1 : ((-1) : Int32).toInt = -1 := rfl
  have n_0 : (0 : Int32).toInt = 0 := rfl
  have n_1 : (1 : Int32).toInt = 1 := rfl
  have n_2 : (2 : Int32).toInt = 2 := rfl
  have n_3 : (3 : Int32).toInt = 3 := rfl
  have n_4 : (4 : Int32).toInt = 4 := rfl
  have n_5 : (5 : Int32).toInt = 5 := rfl
  obtain ⟨w, ew⟩ : ∃ z : Nat, z = fR H a (K.1.2 9 0) := ⟨_, rfl⟩
  have gw := ty_fr (q := w) (k := 0) (u := 0) ew hT ga rg_68 rfl
  rw [← ew] at r1 r4 r5 r10 r13 r16
  obtain ⟨ta, eta⟩ : ∃ z : Int32, z = fI H a (K.1.2 9 3) := ⟨_, rfl⟩
  rw [← eta] at rt
  obtain ⟨tb, etb⟩ : ∃ z : Int32, z = fI H b (K.1.2 10 18) := ⟨_, rfl⟩
  rw [← etb] at rt
  obtain ⟨s1, es1⟩ : ∃ z : Int32, z = fI H w (K.1.2 8 1) := ⟨_, rfl⟩
  rw [← es1] at r1
  obtain ⟨y1, ey1⟩ : ∃ z : Int32, z = fI H b (K.1.2 10 1) := ⟨_, rfl⟩
  rw [← ey1] at r1
  obtain ⟨s4, es4⟩ : ∃ z : Int32, z = fI H w (K.1.2 8 4) := ⟨_, rfl⟩
  rw [← es4] at r4
  obtain ⟨y4, ey4⟩ : ∃ z : Int32, z = fI H b (K.1.2 10 2) := ⟨_, rfl⟩
  rw [← ey4] at r4
  obtain ⟨s5, es5⟩ : ∃ z : Int32, z = fI H w (K.1.2 8 5) := ⟨_, rfl⟩
  rw [← es5] at r5
  obtain ⟨y5, ey5⟩ : ∃ z : Int32, z = fI H b (K.1.2 10 3) := ⟨_, rfl⟩
  rw [← ey5] at r5
  obtain ⟨s10, es10⟩ : ∃ z : Int32, z = fI H w (K.1.2 8 10) := ⟨_, rfl⟩
  rw [← es10] at r10
  obtain ⟨y10, ey10⟩ : ∃ z : Int32, z = fI H b (K.1.2 10 59) := ⟨_, rfl⟩
  rw [← ey10] at r10
  obtain ⟨s13, es13⟩ : ∃ z : Int32, z = fI H w (K.1.2 8 13) := ⟨_, rfl⟩
  rw [← es13] at r13
  obtain ⟨y13, ey13⟩ : ∃ z : Int32, z = fI H b (K.1.2 10 62) := ⟨_, rfl⟩
  rw [← ey13] at r13
  obtain ⟨s16, es16⟩ : ∃ z : Int32, z = fI H w (K.1.2 8 16) := ⟨_, rfl⟩
  rw [← es16] at r16
  obtain ⟨y16, ey16⟩ : ∃ z : Int32, z = fI H b (K.1.2 10 65) := ⟨_, rfl⟩
  rw [← ey16] at r16
  obtain ⟨bq, ebq⟩ : ∃ z : Nat, z = fR H w (K.1.2 8 0) := ⟨_, rfl⟩
  have gbq := ty_fr (q := bq) (k := 0) (u := 25) ebq hT gw rg_0 rfl
  obtain ⟨aq, eaq⟩ : ∃ z : Nat, z = fR H b (K.1.2 10 50) := ⟨_, rfl⟩
  have gaq := ty_fr (q := aq) (k := 50) (u := 146) eaq hT gb rg_112 rfl
  have bs1 := ty_fi (x := s1) (k := 1) es1 hT gw rg_0 rfl
  have by1 := ty_fi (x := y1) (k := 1) ey1 hT gb rg_112 rfl
  obtain ⟨db, vr, vt⟩ := hrb
  rw [← ew, ← ebq] at db
  rw [← ew, ← ebq, ← eaq, ← ey1] at vr
  rw [← eaq, ← ey1] at vt
  obtain ⟨cz101, ecz101⟩ : ∃ f : Nat → Int32, ∀ j : Nat, j < 10 → f j = fI H (fR H bq j) (K.1.2 0 14) := ⟨_, fun _ _ => rfl⟩
  obtain ⟨rz102, erz102⟩ : ∃ f : Nat → Int32, ∀ j : Nat, j < 10 → f j = fI H aq j := ⟨_, fun _ _ => rfl⟩
  have rel : ∀ j : Nat, j < 10 → (j : Int) < y1.toInt → cz101 j = rz102 j := fun j h1 h2 => by rw [ecz101 j h1, erz102 j h1]; exact vr j h1 h2
  clear vr
  have tl : ∀ j : Nat, j < 10 → y1.toInt ≤ (j : Int) → rz102 j = 0 := fun j h1 h2 => by rw [erz102 j h1]; exact vt j h1 h2
  clear vt
  rcases hk with ⟨kn, h70⟩ | ⟨kq, kn, gkq, h70, q1, q4, q5, q10, q13, q16, dbk, vk, vkt⟩
  · skip
    obtain ⟨hi, ehi⟩ : ∃ z : Int32, z = fI H b (K.1.2 10 70) := ⟨_, rfl⟩
    rw [← ehi] at h70
    obtain ⟨hc0, hs0⟩ := hB0 kn
    obtain ⟨iq, eiq⟩ : ∃ z : Nat, z = fR H b (K.1.2 10 73) := ⟨_, rfl⟩
    have giq := ty_fr (q := iq) (k := 73) (u := 162) eiq hT gb rg_112 rfl
    refine lv_aload_n hx hb dL_law_525 rfl (lv_at hl 2 rfl) ?_
    refine lv_aload_n hx hb dL_law_526 rfl (lv_at hl 3 rfl) ?_
    refine lv_iload_n hx hb dL_law_527 rfl (lv_at hl 0 rfl) ?_
    refine lv_iconst (v := 1) hx hb dL_law_528 (by decide) ?_
    refine lv_iadd hx hb dL_law_529 ?_
    refine lv_topi (fun x103 ex103 => ?_)
    obtain ⟨tx103, ejx103, evx103⟩ := lw_ix (k := 1) ex103 hI hL rfl (by decide)
    clear tx103
    refine va_sld hx hb hX hbl (Nat.not_le.mpr hbl) hS (vp_in_iff.mpr evx103) dL_law_530 ?_
    refine W.eq (g2 := F0 m 531 ls [.int (xs (i.toNatClampNeg + 1)), .ref a]) (congrArg (fun z => F0 m 531 ls [.int (xs z), .ref a]) ejx103) ?_
    refine lv_aload_n hx hb dL_law_531 rfl (lv_at hl 3 rfl) ?_
    refine lv_iload_n hx hb dL_law_532 rfl (lv_at hl 0 rfl) ?_
    refine lv_iconst (v := 2) hx hb dL_law_533 (by decide) ?_
    refine lv_iadd hx hb dL_law_534 ?_
    refine lv_topi (fun x104 ex104 => ?_)
    obtain ⟨tx104, ejx104, evx104⟩ := lw_ix (k := 2) ex104 hI hL rfl (by decide)
    clear tx104
    refine va_sld hx hb hX hbl (Nat.not_le.mpr hbl) hS (vp_in_iff.mpr evx104) dL_law_535 ?_
    refine W.eq (g2 := F0 m 536 ls [.int (xs (i.toNatClampNeg + 2)), .int (xs (i.toNatClampNeg + 1)), .ref a]) (congrArg (fun z => F0 m 536 ls [.int (xs z), .int (xs (i.toNatClampNeg + 1)), .ref a]) ejx104) ?_
    refine lv_aload_n hx hb dL_law_536 rfl (lv_at hl 3 rfl) ?_
    refine lv_iload_n hx hb dL_law_537 rfl (lv_at hl 0 rfl) ?_
    refine lv_iconst (v := 3) hx hb dL_law_538 (by decide) ?_
    refine lv_iadd hx hb dL_law_539 ?_
    refine lv_topi (fun x105 ex105 => ?_)
    obtain ⟨tx105, ejx105, evx105⟩ := lw_ix (k := 3) ex105 hI hL rfl (by decide)
    clear tx105
    refine va_sld hx hb hX hbl (Nat.not_le.mpr hbl) hS (vp_in_iff.mpr evx105) dL_law_540 ?_
    refine W.eq (g2 := F0 m 541 ls [.int (xs (i.toNatClampNeg + 3)), .int (xs (i.toNatClampNeg + 2)), .int (xs (i.toNatClampNeg + 1)), .ref a]) (congrArg (fun z => F0 m 541 ls [.int (xs z), .int (xs (i.toNatClampNeg + 2)), .int (xs (i.toNatClampNeg + 1)), .ref a]) ejx105) ?_
    refine lv_aload_n hx hb dL_law_541 rfl (lv_at hl 3 rfl) ?_
    refine lv_iload_n hx hb dL_law_542 rfl (lv_at hl 0 rfl) ?_
    refine lv_iconst (v := 4) hx hb dL_law_543 (by decide) ?_
    refine lv_iadd hx hb dL_law_544 ?_
    refine lv_topi (fun x106 ex106 => ?_)
    obtain ⟨tx106, ejx106, evx106⟩ := lw_ix (k := 4) ex106 hI hL rfl (by decide)
    clear tx106
    refine va_sld hx hb hX hbl (Nat.not_le.mpr hbl) hS (vp_in_iff.mpr evx106) dL_law_545 ?_
    refine W.eq (g2 := F0 m 546 ls [.int (xs (i.toNatClampNeg + 4)), .int (xs (i.toNatClampNeg + 3)), .int (xs (i.toNatClampNeg + 2)), .int (xs (i.toNatClampNeg + 1)), .ref a]) (congrArg (fun z => F0 m 546 ls [.int (xs z), .int (xs (i.toNatClampNeg + 3)), .int (xs (i.toNatClampNeg + 2)), .int (xs (i.toNatClampNeg + 1)), .ref a]) ejx106) ?_
    refine lv_aload_n hx hb dL_law_546 rfl (lv_at hl 3 rfl) ?_
    refine lv_iload_n hx hb dL_law_547 rfl (lv_at hl 0 rfl) ?_
    refine lv_iconst (v := 5) hx hb dL_law_548 (by decide) ?_
    refine lv_iadd hx hb dL_law_549 ?_
    refine lv_topi (fun x107 ex107 => ?_)
    obtain ⟨tx107, ejx107, evx107⟩ := lw_ix (k := 5) ex107 hI hL rfl (by decide)
    clear tx107
    refine va_sld hx hb hX hbl (Nat.not_le.mpr hbl) hS (vp_in_iff.mpr evx107) dL_law_550 ?_
    refine W.eq (g2 := F0 m 551 ls [.int (xs (i.toNatClampNeg + 5)), .int (xs (i.toNatClampNeg + 4)), .int (xs (i.toNatClampNeg + 3)), .int (xs (i.toNatClampNeg + 2)), .int (xs (i.toNatClampNeg + 1)), .ref a]) (congrArg (fun z => F0 m 551 ls [.int (xs z), .int (xs (i.toNatClampNeg + 4)), .int (xs (i.toNatClampNeg + 3)), .int (xs (i.toNatClampNeg + 2)), .int (xs (i.toNatClampNeg + 1)), .ref a]) ejx107) ?_
    refine x_V (As := [.int (xs (i.toNatClampNeg + 1)), .int (xs (i.toNatClampNeg + 2)), .int (xs (i.toNatClampNeg + 3)), .int (xs (i.toNatClampNeg + 4)), .int (xs (i.toNatClampNeg + 5))]) (rest := []) C (a_X9_tells l K G H ((xs (i.toNatClampNeg + 1))) ((xs (i.toNatClampNeg + 2))) ((xs (i.toNatClampNeg + 3))) ((xs (i.toNatClampNeg + 4))) ((xs (i.toNatClampNeg + 5))) hT ga) yo_X9_tells wM_L_56 ⟨⟨by decide, by decide⟩, show _ ≤ 1200000 from Nat.le_trans hc (by decide), show _ ≤ 5502250 from Nat.le_trans hs (by decide)⟩ (x_rv C hT (ci := 9) rfl ga rg_68) rfl hl.1 rfl (Nat.le_of_ble_eq_true rfl) dL_law_551 hS (AE_new hN hS.1) (fun vH108 H108 locsH108 pH108 zH108 kH108 hSH108 => ?_)
    obtain ⟨x109, hvH108, hTH108⟩ := pH108
    subst hvH108
    have g110 : CG (avw K H108 b) := CG.congr (fun k hk j => av_eff hT kH108 gb (by decide) (CG_eff [83, 84] (by decide) k hk)) cg
    have g111 : TU (avw K H108 b) (svw K H108 b) := TU.congr (fun k hk j => av_eff hT kH108 gb (by decide) (TU_eff [83, 84] (by decide) k hk)) (fun k hk => sv_eff hT kH108 gb (by decide)) tu
    have g112 : WD (avw K H108 b) := WD.congr (fun k hk j => av_eff hT kH108 gb (by decide) (WD_eff [83, 84] (by decide) k hk)) wd
    have g113 : IM (avw K H108 b) := IM.congr (fun k hk j => av_eff hT kH108 gb (by decide) (IM_eff [83, 84] (by decide) k hk)) im
    have m114 := (ew).trans (fR_kept (x_lt hT kH108 ga (by decide))).symm
    have m115 := (eta).trans (fI_kept (x_lt hT kH108 ga (by decide))).symm
    have m116 := (etb).trans (fI_kept (x_lt hT kH108 gb (by decide))).symm
    have m117 := (es1).trans (fI_kept (x_lt hT kH108 gw (by decide))).symm
    have m118 := (ey1).trans (fI_kept (x_lt hT kH108 gb (by decide))).symm
    have m119 := (es4).trans (fI_kept (x_lt hT kH108 gw (by decide))).symm
    have m120 := (ey4).trans (fI_kept (x_lt hT kH108 gb (by decide))).symm
    have m121 := (es5).trans (fI_kept (x_lt hT kH108 gw (by decide))).symm
    have m122 := (ey5).trans (fI_kept (x_lt hT kH108 gb (by decide))).symm
    have m123 := (es10).trans (fI_kept (x_lt hT kH108 gw (by decide))).symm
    have m124 := (ey10).trans (fI_kept (x_lt hT kH108 gb (by decide))).symm
    have m125 := (es13).trans (fI_kept (x_lt hT kH108 gw (by decide))).symm
    have m126 := (ey13).trans (fI_kept (x_lt hT kH108 gb (by decide))).symm
    have m127 := (es16).trans (fI_kept (x_lt hT kH108 gw (by decide))).symm
    have m128 := (ey16).trans (fI_kept (x_lt hT kH108 gb (by decide))).symm
    have m129 := (ebq).trans (fR_kept (x_lt hT kH108 gw (by decide))).symm
    have m130 := (eaq).trans (fR_kept (x_lt hT kH108 gb (by decide))).symm
    have m131 := (ehi).trans (fI_kept (x_lt hT kH108 gb (by decide))).symm
    have m132 := (fV_kept (x_lt hT kH108 ga (by decide))).trans kn
    have m133 := (eiq).trans (fR_kept (x_lt hT kH108 gb (by decide))).symm
    refine W.eq (g2 := F0 m 554 ls [.int x109]) rfl ?_
    have v134 : ∀ j : Nat, j < 10 → cz101 j = fI H108 (fR H108 bq j) (K.1.2 0 14) := fun j h => (ecz101 j h).trans (by rw [fR_kept (x_lt hT kH108 gbq (by decide))]; exact (fI_kept (x_lt hT kH108 (bar_g hT gbq j h) (by decide))).symm)
    have v135 : ∀ j : Nat, j < 10 → rz102 j = fI H108 aq j := fun j h => (erz102 j h).trans (fI_kept (x_lt hT kH108 gaq (by decide))).symm
    have d136 := DB.kept db (x_lt hT kH108 gbq (by decide))
    refine lv_pop hx hb dL_law_554 rfl ?_
    refine lv_aload_n hx hb dL_law_555 rfl (lv_at hl 1 rfl) ?_
    refine lv_aload_n hx hb dL_law_556 rfl (lv_at hl 3 rfl) ?_
    refine lv_iload_n hx hb dL_law_557 rfl (lv_at hl 0 rfl) ?_
    refine lv_iconst (v := 1) hx hb dL_law_558 (by decide) ?_
    refine lv_iadd hx hb dL_law_559 ?_
    refine lv_topi (fun x137 ex137 => ?_)
    obtain ⟨tx137, ejx137, evx137⟩ := lw_ix (k := 1) ex137 hI hL rfl (by decide)
    clear tx137
    refine va_sld hx hb hX hbl (Nat.not_le.mpr hbl) hSH108 (vp_in_iff.mpr evx137) dL_law_560 ?_
    refine W.eq (g2 := F0 m 561 ls [.int (xs (i.toNatClampNeg + 1)), .ref b]) (congrArg (fun z => F0 m 561 ls [.int (xs z), .ref b]) ejx137) ?_
    refine lv_aload_n hx hb dL_law_561 rfl (lv_at hl 3 rfl) ?_
    refine lv_iload_n hx hb dL_law_562 rfl (lv_at hl 0 rfl) ?_
    refine lv_iconst (v := 2) hx hb dL_law_563 (by decide) ?_
    refine lv_iadd hx hb dL_law_564 ?_
    refine lv_topi (fun x138 ex138 => ?_)
    obtain ⟨tx138, ejx138, evx138⟩ := lw_ix (k := 2) ex138 hI hL rfl (by decide)
    clear tx138
    refine va_sld hx hb hX hbl (Nat.not_le.mpr hbl) hSH108 (vp_in_iff.mpr evx138) dL_law_565 ?_
    refine W.eq (g2 := F0 m 566 ls [.int (xs (i.toNatClampNeg + 2)), .int (xs (i.toNatClampNeg + 1)), .ref b]) (congrArg (fun z => F0 m 566 ls [.int (xs z), .int (xs (i.toNatClampNeg + 1)), .ref b]) ejx138) ?_
    refine lv_aload_n hx hb dL_law_566 rfl (lv_at hl 3 rfl) ?_
    refine lv_iload_n hx hb dL_law_567 rfl (lv_at hl 0 rfl) ?_
    refine lv_iconst (v := 3) hx hb dL_law_568 (by decide) ?_
    refine lv_iadd hx hb dL_law_569 ?_
    refine lv_topi (fun x139 ex139 => ?_)
    obtain ⟨tx139, ejx139, evx139⟩ := lw_ix (k := 3) ex139 hI hL rfl (by decide)
    clear tx139
    refine va_sld hx hb hX hbl (Nat.not_le.mpr hbl) hSH108 (vp_in_iff.mpr evx139) dL_law_570 ?_
    refine W.eq (g2 := F0 m 571 ls [.int (xs (i.toNatClampNeg + 3)), .int (xs (i.toNatClampNeg + 2)), .int (xs (i.toNatClampNeg + 1)), .ref b]) (congrArg (fun z => F0 m 571 ls [.int (xs z), .int (xs (i.toNatClampNeg + 2)), .int (xs (i.toNatClampNeg + 1)), .ref b]) ejx139) ?_
    refine lv_aload_n hx hb dL_law_571 rfl (lv_at hl 3 rfl) ?_
    refine lv_iload_n hx hb dL_law_572 rfl (lv_at hl 0 rfl) ?_
    refine lv_iconst (v := 4) hx hb dL_law_573 (by decide) ?_
    refine lv_iadd hx hb dL_law_574 ?_
    refine lv_topi (fun x140 ex140 => ?_)
    obtain ⟨tx140, ejx140, evx140⟩ := lw_ix (k := 4) ex140 hI hL rfl (by decide)
    clear tx140
    refine va_sld hx hb hX hbl (Nat.not_le.mpr hbl) hSH108 (vp_in_iff.mpr evx140) dL_law_575 ?_
    refine W.eq (g2 := F0 m 576 ls [.int (xs (i.toNatClampNeg + 4)), .int (xs (i.toNatClampNeg + 3)), .int (xs (i.toNatClampNeg + 2)), .int (xs (i.toNatClampNeg + 1)), .ref b]) (congrArg (fun z => F0 m 576 ls [.int (xs z), .int (xs (i.toNatClampNeg + 3)), .int (xs (i.toNatClampNeg + 2)), .int (xs (i.toNatClampNeg + 1)), .ref b]) ejx140) ?_
    refine lv_aload_n hx hb dL_law_576 rfl (lv_at hl 3 rfl) ?_
    refine lv_iload_n hx hb dL_law_577 rfl (lv_at hl 0 rfl) ?_
    refine lv_iconst (v := 5) hx hb dL_law_578 (by decide) ?_
    refine lv_iadd hx hb dL_law_579 ?_
    refine lv_topi (fun x141 ex141 => ?_)
    obtain ⟨tx141, ejx141, evx141⟩ := lw_ix (k := 5) ex141 hI hL rfl (by decide)
    clear tx141
    refine va_sld hx hb hX hbl (Nat.not_le.mpr hbl) hSH108 (vp_in_iff.mpr evx141) dL_law_580 ?_
    refine W.eq (g2 := F0 m 581 ls [.int (xs (i.toNatClampNeg + 5)), .int (xs (i.toNatClampNeg + 4)), .int (xs (i.toNatClampNeg + 3)), .int (xs (i.toNatClampNeg + 2)), .int (xs (i.toNatClampNeg + 1)), .ref b]) (congrArg (fun z => F0 m 581 ls [.int (xs z), .int (xs (i.toNatClampNeg + 4)), .int (xs (i.toNatClampNeg + 3)), .int (xs (i.toNatClampNeg + 2)), .int (xs (i.toNatClampNeg + 1)), .ref b]) ejx141) ?_
    refine x_V (As := [.int (xs (i.toNatClampNeg + 1)), .int (xs (i.toNatClampNeg + 2)), .int (xs (i.toNatClampNeg + 3)), .int (xs (i.toNatClampNeg + 4)), .int (xs (i.toNatClampNeg + 5))]) (rest := []) C (a_X10_tells l K G H108 ((xs (i.toNatClampNeg + 1))) ((xs (i.toNatClampNeg + 2))) ((xs (i.toNatClampNeg + 3))) ((xs (i.toNatClampNeg + 4))) ((xs (i.toNatClampNeg + 5))) hTH108 gb g110 g111 g112 g113) yo_X10_tells wM_L_59 ⟨⟨by decide, by decide⟩, show _ ≤ 1200000 from Nat.le_trans hc (by decide), show _ ≤ 5502250 from Nat.le_trans hs (by decide)⟩ (x_rv C hTH108 (ci := 10) rfl gb rg_112) rfl hl.1 rfl (Nat.le_of_ble_eq_true rfl) dL_law_581 hSH108 (AE_new hN hSH108.1) (fun vH142 H142 locsH142 pH142 zH142 kH142 hSH142 => ?_)
    obtain ⟨x143, hvH142, g144, g145, g146, g147, mf148, hTH142⟩ := pH142
    subst hvH142
    have m149 := (m114).trans (fR_kept (x_lt hTH108 kH142 ga (by decide))).symm
    have m150 := (m115).trans (fI_kept (x_lt hTH108 kH142 ga (by decide))).symm
    have m151 := (m117).trans (fI_kept (x_lt hTH108 kH142 gw (by decide))).symm
    have m152 := (m119).trans (fI_kept (x_lt hTH108 kH142 gw (by decide))).symm
    have m153 := (m121).trans (fI_kept (x_lt hTH108 kH142 gw (by decide))).symm
    have m154 := (m123).trans (fI_kept (x_lt hTH108 kH142 gw (by decide))).symm
    have m155 := (m125).trans (fI_kept (x_lt hTH108 kH142 gw (by decide))).symm
    have m156 := (m127).trans (fI_kept (x_lt hTH108 kH142 gw (by decide))).symm
    have m157 := (m129).trans (fR_kept (x_lt hTH108 kH142 gw (by decide))).symm
    have m158 := (fV_kept (x_lt hTH108 kH142 ga (by decide))).trans m132
    have m159 := (m116).trans (MF.i mf148 (k := 18) (by decide) (by decide)).symm
    have m160 := (m118).trans (MF.i mf148 (k := 1) (by decide) (by decide)).symm
    have m161 := (m120).trans (MF.i mf148 (k := 2) (by decide) (by decide)).symm
    have m162 := (m122).trans (MF.i mf148 (k := 3) (by decide) (by decide)).symm
    have m163 := (m124).trans (MF.i mf148 (k := 59) (by decide) (by decide)).symm
    have m164 := (m126).trans (MF.i mf148 (k := 62) (by decide) (by decide)).symm
    have m165 := (m128).trans (MF.i mf148 (k := 65) (by decide) (by decide)).symm
    have m166 := (m130).trans (MF.r mf148 (k := 50) (by decide) (by decide)).symm
    have m167 := (m131).trans (MF.i mf148 (k := 70) (by decide) (by decide)).symm
    have m168 := (m133).trans (MF.r mf148 (k := 73) (by decide) (by decide)).symm
    refine W.eq (g2 := F0 m 584 ls [.int x143]) rfl ?_
    have v169 : ∀ j : Nat, j < 10 → cz101 j = fI H142 (fR H142 bq j) (K.1.2 0 14) := fun j h => (v134 j h).trans (by rw [fR_kept (x_lt hTH108 kH142 gbq (by decide))]; exact (fI_kept (x_lt hTH108 kH142 (bar_g hTH108 gbq j h) (by decide))).symm)
    have v170 : ∀ j : Nat, j < 10 → rz102 j = fI H142 aq j := fun j h => (v135 j h).trans (fI_kept (x_lt hTH108 kH142 gaq (by decide))).symm
    have d171 := DB.kept d136 (x_lt hTH108 kH142 gbq (by decide))
    refine lv_pop hx hb dL_law_584 rfl ?_
    refine lv_goto (tgt := 1509) hx hb dL_law_585 (by decide) ?_
    exact nx G H142 locsH142 _ _ ls ⟨hTH142, hN, ga, gb, g144, g145, g146, g147, ⟨(by rw [← m150, ← m159]; exact rt), (by rw [← m149, ← m151, ← m160]; exact r1), (by rw [← m149, ← m152, ← m161]; exact r4), (by rw [← m149, ← m153, ← m162]; exact r5), (by rw [← m149, ← m154, ← m163]; exact r10), (by rw [← m149, ← m155, ← m164]; exact r13), (by rw [← m149, ← m156, ← m165]; exact r16)⟩, Or.inl ⟨m158, (by rw [← m167]; exact h70)⟩, (by unfold RB; rw [← m149, ← m157, ← m166, ← m160]; exact ⟨d171, fun j h1 h2 => by rw [← v169 j h1, ← v170 j h1]; exact rel j h1 (by omega), fun j h1 h2 => by rw [← v170 j h1]; exact tl j h1 (by omega)⟩), hSH142⟩ hl ⟨hc, hs, fun _ => ⟨hc0, hs0⟩⟩
  · skip
    obtain ⟨hi, ehi⟩ : ∃ z : Int32, z = fI H b (K.1.2 10 70) := ⟨_, rfl⟩
    rw [← ehi] at h70
    obtain ⟨iq, eiq⟩ : ∃ z : Nat, z = fR H b (K.1.2 10 73) := ⟨_, rfl⟩
    have giq := ty_fr (q := iq) (k := 73) (u := 162) eiq hT gb rg_112 rfl
    rw [← eiq] at q1 q4 q5 q10 q13 q16
    obtain ⟨k1, ek1⟩ : ∃ z : Int32, z = fI H kq (K.1.2 8 1) := ⟨_, rfl⟩
    rw [← ek1] at q1
    obtain ⟨i1, ei1⟩ : ∃ z : Int32, z = fI H iq ((0 : Int32).toNatClampNeg) := ⟨_, rfl⟩
    rw [← ei1] at q1
    obtain ⟨k4, ek4⟩ : ∃ z : Int32, z = fI H kq (K.1.2 8 4) := ⟨_, rfl⟩
    rw [← ek4] at q4
    obtain ⟨i4, ei4⟩ : ∃ z : Int32, z = fI H iq ((1 : Int32).toNatClampNeg) := ⟨_, rfl⟩
    rw [← ei4] at q4
    obtain ⟨k5, ek5⟩ : ∃ z : Int32, z = fI H kq (K.1.2 8 5) := ⟨_, rfl⟩
    rw [← ek5] at q5
    obtain ⟨i5, ei5⟩ : ∃ z : Int32, z = fI H iq ((2 : Int32).toNatClampNeg) := ⟨_, rfl⟩
    rw [← ei5] at q5
    obtain ⟨k10, ek10⟩ : ∃ z : Int32, z = fI H kq (K.1.2 8 10) := ⟨_, rfl⟩
    rw [← ek10] at q10
    obtain ⟨i10, ei10⟩ : ∃ z : Int32, z = fI H iq ((3 : Int32).toNatClampNeg) := ⟨_, rfl⟩
    rw [← ei10] at q10
    obtain ⟨k13, ek13⟩ : ∃ z : Int32, z = fI H kq (K.1.2 8 13) := ⟨_, rfl⟩
    rw [← ek13] at q13
    obtain ⟨i13, ei13⟩ : ∃ z : Int32, z = fI H iq ((4 : Int32).toNatClampNeg) := ⟨_, rfl⟩
    rw [← ei13] at q13
    obtain ⟨k16, ek16⟩ : ∃ z : Int32, z = fI H kq (K.1.2 8 16) := ⟨_, rfl⟩
    rw [← ek16] at q16
    obtain ⟨i16, ei16⟩ : ∃ z : Int32, z = fI H iq ((5 : Int32).toNatClampNeg) := ⟨_, rfl⟩
    rw [← ei16] at q16
    obtain ⟨kb, ekb⟩ : ∃ z : Nat, z = fR H kq (K.1.2 8 0) := ⟨_, rfl⟩
    have gkb := ty_fr (q := kb) (k := 0) (u := 59) ekb hT gkq rg_34 rfl
    have bk1 := ty_fi (x := k1) (k := 1) ek1 hT gkq rg_34 rfl
    rw [← ekb] at dbk
    rw [← ekb, ← eiq, ← ek1] at vk
    rw [← eiq, ← ek1] at vkt
    obtain ⟨kz172, ekz172⟩ : ∃ f : Nat → Int32, ∀ j : Nat, j < 10 → f j = fI H (fR H kb j) (K.1.2 0 14) := ⟨_, fun _ _ => rfl⟩
    obtain ⟨iz173, eiz173⟩ : ∃ f : Nat → Int32, ∀ j : Nat, j < 10 → f j = fI H iq (11 + 6 * j) := ⟨_, fun _ _ => rfl⟩
    have vk0 : ∀ j : Nat, j < 10 → (j : Int) < k1.toInt → kz172 j = iz173 j := fun j h1 h2 => by rw [ekz172 j h1, eiz173 j h1]; exact vk j h1 h2
    clear vk
    have vk1 : ∀ j : Nat, j < 10 → k1.toInt ≤ (j : Int) → iz173 j = 0 := fun j h1 h2 => by rw [eiz173 j h1]; exact vkt j h1 h2
    clear vkt
    refine lv_aload_n hx hb dL_law_525 rfl (lv_at hl 2 rfl) ?_
    refine lv_aload_n hx hb dL_law_526 rfl (lv_at hl 3 rfl) ?_
    refine lv_iload_n hx hb dL_law_527 rfl (lv_at hl 0 rfl) ?_
    refine lv_iconst (v := 1) hx hb dL_law_528 (by decide) ?_
    refine lv_iadd hx hb dL_law_529 ?_
    refine lv_topi (fun x174 ex174 => ?_)
    obtain ⟨tx174, ejx174, evx174⟩ := lw_ix (k := 1) ex174 hI hL rfl (by decide)
    clear tx174
    refine va_sld hx hb hX hbl (Nat.not_le.mpr hbl) hS (vp_in_iff.mpr evx174) dL_law_530 ?_
    refine W.eq (g2 := F0 m 531 ls [.int (xs (i.toNatClampNeg + 1)), .ref a]) (congrArg (fun z => F0 m 531 ls [.int (xs z), .ref a]) ejx174) ?_
    refine lv_aload_n hx hb dL_law_531 rfl (lv_at hl 3 rfl) ?_
    refine lv_iload_n hx hb dL_law_532 rfl (lv_at hl 0 rfl) ?_
    refine lv_iconst (v := 2) hx hb dL_law_533 (by decide) ?_
    refine lv_iadd hx hb dL_law_534 ?_
    refine lv_topi (fun x175 ex175 => ?_)
    obtain ⟨tx175, ejx175, evx175⟩ := lw_ix (k := 2) ex175 hI hL rfl (by decide)
    clear tx175
    refine va_sld hx hb hX hbl (Nat.not_le.mpr hbl) hS (vp_in_iff.mpr evx175) dL_law_535 ?_
    refine W.eq (g2 := F0 m 536 ls [.int (xs (i.toNatClampNeg + 2)), .int (xs (i.toNatClampNeg + 1)), .ref a]) (congrArg (fun z => F0 m 536 ls [.int (xs z), .int (xs (i.toNatClampNeg + 1)), .ref a]) ejx175) ?_
    refine lv_aload_n hx hb dL_law_536 rfl (lv_at hl 3 rfl) ?_
    refine lv_iload_n hx hb dL_law_537 rfl (lv_at hl 0 rfl) ?_
    refine lv_iconst (v := 3) hx hb dL_law_538 (by decide) ?_
    refine lv_iadd hx hb dL_law_539 ?_
    refine lv_topi (fun x176 ex176 => ?_)
    obtain ⟨tx176, ejx176, evx176⟩ := lw_ix (k := 3) ex176 hI hL rfl (by decide)
    clear tx176
    refine va_sld hx hb hX hbl (Nat.not_le.mpr hbl) hS (vp_in_iff.mpr evx176) dL_law_540 ?_
    refine W.eq (g2 := F0 m 541 ls [.int (xs (i.toNatClampNeg + 3)), .int (xs (i.toNatClampNeg + 2)), .int (xs (i.toNatClampNeg + 1)), .ref a]) (congrArg (fun z => F0 m 541 ls [.int (xs z), .int (xs (i.toNatClampNeg + 2)), .int (xs (i.toNatClampNeg + 1)), .ref a]) ejx176) ?_
    refine lv_aload_n hx hb dL_law_541 rfl (lv_at hl 3 rfl) ?_
    refine lv_iload_n hx hb dL_law_542 rfl (lv_at hl 0 rfl) ?_
    refine lv_iconst (v := 4) hx hb dL_law_543 (by decide) ?_
    refine lv_iadd hx hb dL_law_544 ?_
    refine lv_topi (fun x177 ex177 => ?_)
    obtain ⟨tx177, ejx177, evx177⟩ := lw_ix (k := 4) ex177 hI hL rfl (by decide)
    clear tx177
    refine va_sld hx hb hX hbl (Nat.not_le.mpr hbl) hS (vp_in_iff.mpr evx177) dL_law_545 ?_
    refine W.eq (g2 := F0 m 546 ls [.int (xs (i.toNatClampNeg + 4)), .int (xs (i.toNatClampNeg + 3)), .int (xs (i.toNatClampNeg + 2)), .int (xs (i.toNatClampNeg + 1)), .ref a]) (congrArg (fun z => F0 m 546 ls [.int (xs z), .int (xs (i.toNatClampNeg + 3)), .int (xs (i.toNatClampNeg + 2)), .int (xs (i.toNatClampNeg + 1)), .ref a]) ejx177) ?_
    refine lv_aload_n hx hb dL_law_546 rfl (lv_at hl 3 rfl) ?_
    refine lv_iload_n hx hb dL_law_547 rfl (lv_at hl 0 rfl) ?_
    refine lv_iconst (v := 5) hx hb dL_law_548 (by decide) ?_
    refine lv_iadd hx hb dL_law_549 ?_
    refine lv_topi (fun x178 ex178 => ?_)
    obtain ⟨tx178, ejx178, evx178⟩ := lw_ix (k := 5) ex178 hI hL rfl (by decide)
    clear tx178
    refine va_sld hx hb hX hbl (Nat.not_le.mpr hbl) hS (vp_in_iff.mpr evx178) dL_law_550 ?_
    refine W.eq (g2 := F0 m 551 ls [.int (xs (i.toNatClampNeg + 5)), .int (xs (i.toNatClampNeg + 4)), .int (xs (i.toNatClampNeg + 3)), .int (xs (i.toNatClampNeg + 2)), .int (xs (i.toNatClampNeg + 1)), .ref a]) (congrArg (fun z => F0 m 551 ls [.int (xs z), .int (xs (i.toNatClampNeg + 4)), .int (xs (i.toNatClampNeg + 3)), .int (xs (i.toNatClampNeg + 2)), .int (xs (i.toNatClampNeg + 1)), .ref a]) ejx178) ?_
    refine x_V (As := [.int (xs (i.toNatClampNeg + 1)), .int (xs (i.toNatClampNeg + 2)), .int (xs (i.toNatClampNeg + 3)), .int (xs (i.toNatClampNeg + 4)), .int (xs (i.toNatClampNeg + 5))]) (rest := []) C (a_X9_tells l K G H ((xs (i.toNatClampNeg + 1))) ((xs (i.toNatClampNeg + 2))) ((xs (i.toNatClampNeg + 3))) ((xs (i.toNatClampNeg + 4))) ((xs (i.toNatClampNeg + 5))) hT ga) yo_X9_tells wM_L_56 ⟨⟨by decide, by decide⟩, show _ ≤ 1200000 from Nat.le_trans hc (by decide), show _ ≤ 5502250 from Nat.le_trans hs (by decide)⟩ (x_rv C hT (ci := 9) rfl ga rg_68) rfl hl.1 rfl (Nat.le_of_ble_eq_true rfl) dL_law_551 hS (AE_new hN hS.1) (fun vH179 H179 locsH179 pH179 zH179 kH179 hSH179 => ?_)
    obtain ⟨x180, hvH179, hTH179⟩ := pH179
    subst hvH179
    have g181 : CG (avw K H179 b) := CG.congr (fun k hk j => av_eff hT kH179 gb (by decide) (CG_eff [83, 84] (by decide) k hk)) cg
    have g182 : TU (avw K H179 b) (svw K H179 b) := TU.congr (fun k hk j => av_eff hT kH179 gb (by decide) (TU_eff [83, 84] (by decide) k hk)) (fun k hk => sv_eff hT kH179 gb (by decide)) tu
    have g183 : WD (avw K H179 b) := WD.congr (fun k hk j => av_eff hT kH179 gb (by decide) (WD_eff [83, 84] (by decide) k hk)) wd
    have g184 : IM (avw K H179 b) := IM.congr (fun k hk j => av_eff hT kH179 gb (by decide) (IM_eff [83, 84] (by decide) k hk)) im
    have m185 := (ew).trans (fR_kept (x_lt hT kH179 ga (by decide))).symm
    have m186 := (eta).trans (fI_kept (x_lt hT kH179 ga (by decide))).symm
    have m187 := (etb).trans (fI_kept (x_lt hT kH179 gb (by decide))).symm
    have m188 := (es1).trans (fI_kept (x_lt hT kH179 gw (by decide))).symm
    have m189 := (ey1).trans (fI_kept (x_lt hT kH179 gb (by decide))).symm
    have m190 := (es4).trans (fI_kept (x_lt hT kH179 gw (by decide))).symm
    have m191 := (ey4).trans (fI_kept (x_lt hT kH179 gb (by decide))).symm
    have m192 := (es5).trans (fI_kept (x_lt hT kH179 gw (by decide))).symm
    have m193 := (ey5).trans (fI_kept (x_lt hT kH179 gb (by decide))).symm
    have m194 := (es10).trans (fI_kept (x_lt hT kH179 gw (by decide))).symm
    have m195 := (ey10).trans (fI_kept (x_lt hT kH179 gb (by decide))).symm
    have m196 := (es13).trans (fI_kept (x_lt hT kH179 gw (by decide))).symm
    have m197 := (ey13).trans (fI_kept (x_lt hT kH179 gb (by decide))).symm
    have m198 := (es16).trans (fI_kept (x_lt hT kH179 gw (by decide))).symm
    have m199 := (ey16).trans (fI_kept (x_lt hT kH179 gb (by decide))).symm
    have m200 := (ebq).trans (fR_kept (x_lt hT kH179 gw (by decide))).symm
    have m201 := (eaq).trans (fR_kept (x_lt hT kH179 gb (by decide))).symm
    have m202 := (ehi).trans (fI_kept (x_lt hT kH179 gb (by decide))).symm
    have m203 := (fV_kept (x_lt hT kH179 ga (by decide))).trans kn
    have m204 := (eiq).trans (fR_kept (x_lt hT kH179 gb (by decide))).symm
    have m205 := (ek1).trans (fI_kept (x_lt hT kH179 gkq (by decide))).symm
    have m206 := (ei1).trans (fI_kept (x_lt hT kH179 giq (by decide))).symm
    have m207 := (ek4).trans (fI_kept (x_lt hT kH179 gkq (by decide))).symm
    have m208 := (ei4).trans (fI_kept (x_lt hT kH179 giq (by decide))).symm
    have m209 := (ek5).trans (fI_kept (x_lt hT kH179 gkq (by decide))).symm
    have m210 := (ei5).trans (fI_kept (x_lt hT kH179 giq (by decide))).symm
    have m211 := (ek10).trans (fI_kept (x_lt hT kH179 gkq (by decide))).symm
    have m212 := (ei10).trans (fI_kept (x_lt hT kH179 giq (by decide))).symm
    have m213 := (ek13).trans (fI_kept (x_lt hT kH179 gkq (by decide))).symm
    have m214 := (ei13).trans (fI_kept (x_lt hT kH179 giq (by decide))).symm
    have m215 := (ek16).trans (fI_kept (x_lt hT kH179 gkq (by decide))).symm
    have m216 := (ei16).trans (fI_kept (x_lt hT kH179 giq (by decide))).symm
    have m217 := (ekb).trans (fR_kept (x_lt hT kH179 gkq (by decide))).symm
    refine W.eq (g2 := F0 m 554 ls [.int x180]) rfl ?_
    have v218 : ∀ j : Nat, j < 10 → cz101 j = fI H179 (fR H179 bq j) (K.1.2 0 14) := fun j h => (ecz101 j h).trans (by rw [fR_kept (x_lt hT kH179 gbq (by decide))]; exact (fI_kept (x_lt hT kH179 (bar_g hT gbq j h) (by decide))).symm)
    have v219 : ∀ j : Nat, j < 10 → rz102 j = fI H179 aq j := fun j h => (erz102 j h).trans (fI_kept (x_lt hT kH179 gaq (by decide))).symm
    have v220 : ∀ j : Nat, j < 10 → kz172 j = fI H179 (fR H179 kb j) (K.1.2 0 14) := fun j h => (ekz172 j h).trans (by rw [fR_kept (x_lt hT kH179 gkb (by decide))]; exact (fI_kept (x_lt hT kH179 (bar_h hT gkb j h) (by decide))).symm)
    have d221 := DB.kept dbk (x_lt hT kH179 gkb (by decide))
    have v222 : ∀ j : Nat, j < 10 → iz173 j = fI H179 iq (11 + 6 * j) := fun j h => (eiz173 j h).trans (fI_kept (x_lt hT kH179 giq (by decide))).symm
    have d223 := DB.kept db (x_lt hT kH179 gbq (by decide))
    refine lv_pop hx hb dL_law_554 rfl ?_
    refine lv_aload_n hx hb dL_law_555 rfl (lv_at hl 1 rfl) ?_
    refine lv_aload_n hx hb dL_law_556 rfl (lv_at hl 3 rfl) ?_
    refine lv_iload_n hx hb dL_law_557 rfl (lv_at hl 0 rfl) ?_
    refine lv_iconst (v := 1) hx hb dL_law_558 (by decide) ?_
    refine lv_iadd hx hb dL_law_559 ?_
    refine lv_topi (fun x224 ex224 => ?_)
    obtain ⟨tx224, ejx224, evx224⟩ := lw_ix (k := 1) ex224 hI hL rfl (by decide)
    clear tx224
    refine va_sld hx hb hX hbl (Nat.not_le.mpr hbl) hSH179 (vp_in_iff.mpr evx224) dL_law_560 ?_
    refine W.eq (g2 := F0 m 561 ls [.int (xs (i.toNatClampNeg + 1)), .ref b]) (congrArg (fun z => F0 m 561 ls [.int (xs z), .ref b]) ejx224) ?_
    refine lv_aload_n hx hb dL_law_561 rfl (lv_at hl 3 rfl) ?_
    refine lv_iload_n hx hb dL_law_562 rfl (lv_at hl 0 rfl) ?_
    refine lv_iconst (v := 2) hx hb dL_law_563 (by decide) ?_
    refine lv_iadd hx hb dL_law_564 ?_
    refine lv_topi (fun x225 ex225 => ?_)
    obtain ⟨tx225, ejx225, evx225⟩ := lw_ix (k := 2) ex225 hI hL rfl (by decide)
    clear tx225
    refine va_sld hx hb hX hbl (Nat.not_le.mpr hbl) hSH179 (vp_in_iff.mpr evx225) dL_law_565 ?_
    refine W.eq (g2 := F0 m 566 ls [.int (xs (i.toNatClampNeg + 2)), .int (xs (i.toNatClampNeg + 1)), .ref b]) (congrArg (fun z => F0 m 566 ls [.int (xs z), .int (xs (i.toNatClampNeg + 1)), .ref b]) ejx225) ?_
    refine lv_aload_n hx hb dL_law_566 rfl (lv_at hl 3 rfl) ?_
    refine lv_iload_n hx hb dL_law_567 rfl (lv_at hl 0 rfl) ?_
    refine lv_iconst (v := 3) hx hb dL_law_568 (by decide) ?_
    refine lv_iadd hx hb dL_law_569 ?_
    refine lv_topi (fun x226 ex226 => ?_)
    obtain ⟨tx226, ejx226, evx226⟩ := lw_ix (k := 3) ex226 hI hL rfl (by decide)
    clear tx226
    refine va_sld hx hb hX hbl (Nat.not_le.mpr hbl) hSH179 (vp_in_iff.mpr evx226) dL_law_570 ?_
    refine W.eq (g2 := F0 m 571 ls [.int (xs (i.toNatClampNeg + 3)), .int (xs (i.toNatClampNeg + 2)), .int (xs (i.toNatClampNeg + 1)), .ref b]) (congrArg (fun z => F0 m 571 ls [.int (xs z), .int (xs (i.toNatClampNeg + 2)), .int (xs (i.toNatClampNeg + 1)), .ref b]) ejx226) ?_
    refine lv_aload_n hx hb dL_law_571 rfl (lv_at hl 3 rfl) ?_
    refine lv_iload_n hx hb dL_law_572 rfl (lv_at hl 0 rfl) ?_
    refine lv_iconst (v := 4) hx hb dL_law_573 (by decide) ?_
    refine lv_iadd hx hb dL_law_574 ?_
    refine lv_topi (fun x227 ex227 => ?_)
    obtain ⟨tx227, ejx227, evx227⟩ := lw_ix (k := 4) ex227 hI hL rfl (by decide)
    clear tx227
    refine va_sld hx hb hX hbl (Nat.not_le.mpr hbl) hSH179 (vp_in_iff.mpr evx227) dL_law_575 ?_
    refine W.eq (g2 := F0 m 576 ls [.int (xs (i.toNatClampNeg + 4)), .int (xs (i.toNatClampNeg + 3)), .int (xs (i.toNatClampNeg + 2)), .int (xs (i.toNatClampNeg + 1)), .ref b]) (congrArg (fun z => F0 m 576 ls [.int (xs z), .int (xs (i.toNatClampNeg + 3)), .int (xs (i.toNatClampNeg + 2)), .int (xs (i.toNatClampNeg + 1)), .ref b]) ejx227) ?_
    refine lv_aload_n hx hb dL_law_576 rfl (lv_at hl 3 rfl) ?_
    refine lv_iload_n hx hb dL_law_577 rfl (lv_at hl 0 rfl) ?_
    refine lv_iconst (v := 5) hx hb dL_law_578 (by decide) ?_
    refine lv_iadd hx hb dL_law_579 ?_
    refine lv_topi (fun x228 ex228 => ?_)
    obtain ⟨tx228, ejx228, evx228⟩ := lw_ix (k := 5) ex228 hI hL rfl (by decide)
    clear tx228
    refine va_sld hx hb hX hbl (Nat.not_le.mpr hbl) hSH179 (vp_in_iff.mpr evx228) dL_law_580 ?_
    refine W.eq (g2 := F0 m 581 ls [.int (xs (i.toNatClampNeg + 5)), .int (xs (i.toNatClampNeg + 4)), .int (xs (i.toNatClampNeg + 3)), .int (xs (i.toNatClampNeg + 2)), .int (xs (i.toNatClampNeg + 1)), .ref b]) (congrArg (fun z => F0 m 581 ls [.int (xs z), .int (xs (i.toNatClampNeg + 4)), .int (xs (i.toNatClampNeg + 3)), .int (xs (i.toNatClampNeg + 2)), .int (xs (i.toNatClampNeg + 1)), .ref b]) ejx228) ?_
    refine x_V (As := [.int (xs (i.toNatClampNeg + 1)), .int (xs (i.toNatClampNeg + 2)), .int (xs (i.toNatClampNeg + 3)), .int (xs (i.toNatClampNeg + 4)), .int (xs (i.toNatClampNeg + 5))]) (rest := []) C (a_X10_tells l K G H179 ((xs (i.toNatClampNeg + 1))) ((xs (i.toNatClampNeg + 2))) ((xs (i.toNatClampNeg + 3))) ((xs (i.toNatClampNeg + 4))) ((xs (i.toNatClampNeg + 5))) hTH179 gb g181 g182 g183 g184) yo_X10_tells wM_L_59 ⟨⟨by decide, by decide⟩, show _ ≤ 1200000 from Nat.le_trans hc (by decide), show _ ≤ 5502250 from Nat.le_trans hs (by decide)⟩ (x_rv C hTH179 (ci := 10) rfl gb rg_112) rfl hl.1 rfl (Nat.le_of_ble_eq_true rfl) dL_law_581 hSH179 (AE_new hN hSH179.1) (fun vH229 H229 locsH229 pH229 zH229 kH229 hSH229 => ?_)
    obtain ⟨x230, hvH229, g231, g232, g233, g234, mf235, hTH229⟩ := pH229
    subst hvH229
    have m236 := (m185).trans (fR_kept (x_lt hTH179 kH229 ga (by decide))).symm
    have m237 := (m186).trans (fI_kept (x_lt hTH179 kH229 ga (by decide))).symm
    have m238 := (m188).trans (fI_kept (x_lt hTH179 kH229 gw (by decide))).symm
    have m239 := (m190).trans (fI_kept (x_lt hTH179 kH229 gw (by decide))).symm
    have m240 := (m192).trans (fI_kept (x_lt hTH179 kH229 gw (by decide))).symm
    have m241 := (m194).trans (fI_kept (x_lt hTH179 kH229 gw (by decide))).symm
    have m242 := (m196).trans (fI_kept (x_lt hTH179 kH229 gw (by decide))).symm
    have m243 := (m198).trans (fI_kept (x_lt hTH179 kH229 gw (by decide))).symm
    have m244 := (m200).trans (fR_kept (x_lt hTH179 kH229 gw (by decide))).symm
    have m245 := (fV_kept (x_lt hTH179 kH229 ga (by decide))).trans m203
    have m246 := (m205).trans (fI_kept (x_lt hTH179 kH229 gkq (by decide))).symm
    have m247 := (m206).trans (fI_kept (x_lt hTH179 kH229 giq (by decide))).symm
    have m248 := (m207).trans (fI_kept (x_lt hTH179 kH229 gkq (by decide))).symm
    have m249 := (m208).trans (fI_kept (x_lt hTH179 kH229 giq (by decide))).symm
    have m250 := (m209).trans (fI_kept (x_lt hTH179 kH229 gkq (by decide))).symm
    have m251 := (m210).trans (fI_kept (x_lt hTH179 kH229 giq (by decide))).symm
    have m252 := (m211).trans (fI_kept (x_lt hTH179 kH229 gkq (by decide))).symm
    have m253 := (m212).trans (fI_kept (x_lt hTH179 kH229 giq (by decide))).symm
    have m254 := (m213).trans (fI_kept (x_lt hTH179 kH229 gkq (by decide))).symm
    have m255 := (m214).trans (fI_kept (x_lt hTH179 kH229 giq (by decide))).symm
    have m256 := (m215).trans (fI_kept (x_lt hTH179 kH229 gkq (by decide))).symm
    have m257 := (m216).trans (fI_kept (x_lt hTH179 kH229 giq (by decide))).symm
    have m258 := (m217).trans (fR_kept (x_lt hTH179 kH229 gkq (by decide))).symm
    have m259 := (m187).trans (MF.i mf235 (k := 18) (by decide) (by decide)).symm
    have m260 := (m189).trans (MF.i mf235 (k := 1) (by decide) (by decide)).symm
    have m261 := (m191).trans (MF.i mf235 (k := 2) (by decide) (by decide)).symm
    have m262 := (m193).trans (MF.i mf235 (k := 3) (by decide) (by decide)).symm
    have m263 := (m195).trans (MF.i mf235 (k := 59) (by decide) (by decide)).symm
    have m264 := (m197).trans (MF.i mf235 (k := 62) (by decide) (by decide)).symm
    have m265 := (m199).trans (MF.i mf235 (k := 65) (by decide) (by decide)).symm
    have m266 := (m201).trans (MF.r mf235 (k := 50) (by decide) (by decide)).symm
    have m267 := (m202).trans (MF.i mf235 (k := 70) (by decide) (by decide)).symm
    have m268 := (m204).trans (MF.r mf235 (k := 73) (by decide) (by decide)).symm
    refine W.eq (g2 := F0 m 584 ls [.int x230]) rfl ?_
    have v269 : ∀ j : Nat, j < 10 → cz101 j = fI H229 (fR H229 bq j) (K.1.2 0 14) := fun j h => (v218 j h).trans (by rw [fR_kept (x_lt hTH179 kH229 gbq (by decide))]; exact (fI_kept (x_lt hTH179 kH229 (bar_g hTH179 gbq j h) (by decide))).symm)
    have v270 : ∀ j : Nat, j < 10 → rz102 j = fI H229 aq j := fun j h => (v219 j h).trans (fI_kept (x_lt hTH179 kH229 gaq (by decide))).symm
    have v271 : ∀ j : Nat, j < 10 → kz172 j = fI H229 (fR H229 kb j) (K.1.2 0 14) := fun j h => (v220 j h).trans (by rw [fR_kept (x_lt hTH179 kH229 gkb (by decide))]; exact (fI_kept (x_lt hTH179 kH229 (bar_h hTH179 gkb j h) (by decide))).symm)
    have d272 := DB.kept d221 (x_lt hTH179 kH229 gkb (by decide))
    have v273 : ∀ j : Nat, j < 10 → iz173 j = fI H229 iq (11 + 6 * j) := fun j h => (v222 j h).trans (fI_kept (x_lt hTH179 kH229 giq (by decide))).symm
    have d274 := DB.kept d223 (x_lt hTH179 kH229 gbq (by decide))
    refine lv_pop hx hb dL_law_584 rfl ?_
    refine lv_goto (tgt := 1509) hx hb dL_law_585 (by decide) ?_
    exact nx G H229 locsH229 _ _ ls ⟨hTH229, hN, ga, gb, g231, g232, g233, g234, ⟨(by rw [← m237, ← m259]; exact rt), (by rw [← m236, ← m238, ← m260]; exact r1), (by rw [← m236, ← m239, ← m261]; exact r4), (by rw [← m236, ← m240, ← m262]; exact r5), (by rw [← m236, ← m241, ← m263]; exact r10), (by rw [← m236, ← m242, ← m264]; exact r13), (by rw [← m236, ← m243, ← m265]; exact r16)⟩, Or.inr ⟨kq, m245, gkq, (by rw [← m267]; exact h70), (by rw [← m246, ← m268, ← m247]; exact q1), (by rw [← m248, ← m268, ← m249]; exact q4), (by rw [← m250, ← m268, ← m251]; exact q5), (by rw [← m252, ← m268, ← m253]; exact q10), (by rw [← m254, ← m268, ← m255]; exact q13), (by rw [← m256, ← m268, ← m257]; exact q16), (by rw [← m258]; exact d272), (by rw [← m258, ← m268, ← m246]; exact fun j h1 h2 => by rw [← v271 j h1, ← v273 j h1]; exact vk0 j h1 (by omega)), (by rw [← m268, ← m246]; exact fun j h1 h2 => by rw [← v273 j h1]; exact vk1 j h1 (by omega))⟩, (by unfold RB; rw [← m236, ← m244, ← m266, ← m260]; exact ⟨d274, fun j h1 h2 => by rw [← v269 j h1, ← v270 j h1]; exact rel j h1 (by omega), fun j h1 h2 => by rw [← v270 j h1]; exact tl j h1 (by omega)⟩), hSH229⟩ hl ⟨hc, hs, fun h => by have h1 := h.symm.trans m245; cases h1⟩
set_option maxRecDepth 100000 in
set_option maxHeartbeats 8000000 in
theorem lw_c10 {p : Program} {l : Launch} {e : Env} {s : State} {m : MethodId} {below : List Frame} {meth : Method} {c : Code} {K : KE} {b0 L : Nat} {xs : Nat → Int32} {G : Nat → Option Nat} {H : Heap} {locs : List Loc} {a b : Nat} {cells slots : Nat} {ls : Array Slot} {i : Int32} {n : Nat} (D : LC p K s m meth c b0 L xs) (S : SX K s G H locs a b) (hl : lv_has ls 4 [(3, .int i), (2, .ref b), (1, .ref a), (0, .ref b0)]) (hi : 0 ≤ i.toInt ∧ i.toInt + 6 ≤ L) (hn : n ≤ 511) (hB : BD K H a cells slots) (nx : ∀ (G : Nat → Option Nat) (H : Heap) (locs : List Loc) (cells slots : Nat) (ls : Array Slot), SX K s G H locs a b → lv_has ls 4 [(3, .int i), (2, .ref b), (1, .ref a), (0, .ref b0)] → BD K H a cells slots → W p l e room_1 s m #[Value.ref b0] below meth c H locs cells slots (lw_Z below #[Value.ref b0] s) (F0 m 1509 ls [])) : W p l e room_1 s m #[Value.ref b0] below meth c H locs cells slots (lw_Z below #[Value.ref b0] s) (F0 m 588 ls []) := by
  have hI := hi
  obtain ⟨C, hX, hbl, hL⟩ := id D
  obtain ⟨hx, hb, hml, hown, hts, hKT, hr, hlocks, hnm⟩ := id C
  obtain ⟨hT, hN, ga, gb, cg, tu, wd, im, ⟨rt, r1, r4, r5, r10, r13, r16⟩, hk, hrb, hS⟩ := S
  obtain ⟨hc, hs, hB0⟩ := hB
  have n_m1 : ((-1) : Int32).toInt = -1 := rfl
  have n_0 : (0 : Int32).toInt = 0 := rfl
  have n_1 : (1 : Int32).toInt = 1 := rfl
  have n_2 : (2 : Int32).toInt = 2 := rfl
  obtain ⟨w, ew⟩ : ∃ z : Nat, z = fR H a (K.1.2 9 0) := ⟨_, rfl⟩
  have gw := ty_fr (q := w) (k := 0) (u := 0) ew hT ga rg_68 rfl
  rw [← ew] at r1 r4 r5 r10 r13 r16
  obtain ⟨ta, eta⟩ : ∃ z : Int32, z = fI H a (K.1.2 9 3) := ⟨_, rfl⟩
  rw [← eta] at rt
  obtain ⟨tb, etb⟩ : ∃ z : Int32, z = fI H b (K.1.2 10 18) := ⟨_, rfl⟩
  rw [← etb] at rt
  obtain ⟨s1, es1⟩ : ∃ z : Int32, z = fI H w (K.1.2 8 1) := ⟨_, rfl⟩
  rw [← es1] at r1
  obtain ⟨y1, ey1⟩ : ∃ z : Int32, z = fI H b (K.1.2 10 1) := ⟨_, rfl⟩
  rw [← ey1] at r1
  obtain ⟨s4, es4⟩ : ∃ z : Int32, z = fI H w (K.1.2 8 4) := ⟨_, rfl⟩
  rw [← es4] at r4
  obtain ⟨y4, ey4⟩ : ∃ z : Int32, z = fI H b (K.1.2 10 2) := ⟨_, rfl⟩
  rw [← ey4] at r4
  obtain ⟨s5, es5⟩ : ∃ z : Int32, z = fI H w (K.1.2 8 5) := ⟨_, rfl⟩
  rw [← es5] at r5
  obtain ⟨y5, ey5⟩ : ∃ z : Int32, z = fI H b (K.1.2 10 3) := ⟨_, rfl⟩
  rw [← ey5] at r5
  obtain ⟨s10, es10⟩ : ∃ z : Int32, z = fI H w (K.1.2 8 10) := ⟨_, rfl⟩
  rw [← es10] at r10
  obtain ⟨y10, ey10⟩ : ∃ z : Int32, z = fI H b (K.1.2 10 59) := ⟨_, rfl⟩
  rw [← ey10] at r10
  obtain ⟨s13, es13⟩ : ∃ z : Int32, z = fI H w (K.1.2 8 13) := ⟨_, rfl⟩
  rw [← es13] at r13
  obtain ⟨y13, ey13⟩ : ∃ z : Int32, z = fI H b (K.1.2 10 62) := ⟨_, rfl⟩
  rw [← ey13] at r13
  obtain ⟨s16, es16⟩ : ∃ z : Int32, z = fI H w (K.1.2 8 16) := ⟨_, rfl⟩
  rw [← es16] at r16
  obtain ⟨y16, ey16⟩ : ∃ z : Int32, z = fI H b (K.1.2 10 65) := ⟨_, rfl⟩
  rw [← ey16] at r16
  obtain ⟨bq, ebq⟩ : ∃ z : Nat, z = fR H w (K.1.2 8 0) := ⟨_, rfl⟩
  have gbq := ty_fr (q := bq) (k := 0) (u := 25) ebq hT gw rg_0 rfl
  obtain ⟨aq, eaq⟩ : ∃ z : Nat, z = fR H b (K.1.2 10 50) := ⟨_, rfl⟩
  have gaq := ty_fr (q := aq) (k := 50) (u := 146) eaq hT gb rg_112 rfl
  have bs1 := ty_fi (x := s1) (k := 1) es1 hT gw rg_0 rfl
  have by1 := ty_fi (x := y1) (k := 1) ey1 hT gb rg_112 rfl
  obtain ⟨db, vr, vt⟩ := hrb
  rw [← ew, ← ebq] at db
  rw [← ew, ← ebq, ← eaq, ← ey1] at vr
  rw [← eaq, ← ey1] at vt
  obtain ⟨cz101, ecz101⟩ : ∃ f : Nat → Int32, ∀ j : Nat, j < 10 → f j = fI H (fR H bq j) (K.1.2 0 14) := ⟨_, fun _ _ => rfl⟩
  obtain ⟨rz102, erz102⟩ : ∃ f : Nat → Int32, ∀ j : Nat, j < 10 → f j = fI H aq j := ⟨_, fun _ _ => rfl⟩
  have rel : ∀ j : Nat, j < 10 → (j : Int) < y1.toInt → cz101 j = rz102 j := fun j h1 h2 => by rw [ecz101 j h1, erz102 j h1]; exact vr j h1 h2
  clear vr
  have tl : ∀ j : Nat, j < 10 → y1.toInt ≤ (j : Int) → rz102 j = 0 := fun j h1 h2 => by rw [erz102 j h1]; exact vt j h1 h2
  clear vt
  rcases hk with ⟨kn, h70⟩ | ⟨kq, kn, gkq, h70, q1, q4, q5, q10, q13, q16, dbk, vk, vkt⟩
  · skip
    obtain ⟨hi, ehi⟩ : ∃ z : Int32, z = fI H b (K.1.2 10 70) := ⟨_, rfl⟩
    rw [← ehi] at h70
    obtain ⟨hc0, hs0⟩ := hB0 kn
    obtain ⟨iq, eiq⟩ : ∃ z : Nat, z = fR H b (K.1.2 10 73) := ⟨_, rfl⟩
    have giq := ty_fr (q := iq) (k := 73) (u := 162) eiq hT gb rg_112 rfl
    refine lv_aload_n hx hb dL_law_588 rfl (lv_at hl 2 rfl) ?_
    refine lv_aload_n hx hb dL_law_589 rfl (lv_at hl 3 rfl) ?_
    refine lv_iload_n hx hb dL_law_590 rfl (lv_at hl 0 rfl) ?_
    refine lv_iconst (v := 1) hx hb dL_law_591 (by decide) ?_
    refine lv_iadd hx hb dL_law_592 ?_
    refine lv_topi (fun x103 ex103 => ?_)
    obtain ⟨tx103, ejx103, evx103⟩ := lw_ix (k := 1) ex103 hI hL rfl (by decide)
    clear tx103
    refine va_sld hx hb hX hbl (Nat.not_le.mpr hbl) hS (vp_in_iff.mpr evx103) dL_law_593 ?_
    refine W.eq (g2 := F0 m 594 ls [.int (xs (i.toNatClampNeg + 1)), .ref a]) (congrArg (fun z => F0 m 594 ls [.int (xs z), .ref a]) ejx103) ?_
    refine lv_aload_n hx hb dL_law_594 rfl (lv_at hl 3 rfl) ?_
    refine lv_iload_n hx hb dL_law_595 rfl (lv_at hl 0 rfl) ?_
    refine lv_iconst (v := 2) hx hb dL_law_596 (by decide) ?_
    refine lv_iadd hx hb dL_law_597 ?_
    refine lv_topi (fun x104 ex104 => ?_)
    obtain ⟨tx104, ejx104, evx104⟩ := lw_ix (k := 2) ex104 hI hL rfl (by decide)
    clear tx104
    refine va_sld hx hb hX hbl (Nat.not_le.mpr hbl) hS (vp_in_iff.mpr evx104) dL_law_598 ?_
    refine W.eq (g2 := F0 m 599 ls [.int (xs (i.toNatClampNeg + 2)), .int (xs (i.toNatClampNeg + 1)), .ref a]) (congrArg (fun z => F0 m 599 ls [.int (xs z), .int (xs (i.toNatClampNeg + 1)), .ref a]) ejx104) ?_
    refine x_V (As := [.int (xs (i.toNatClampNeg + 1)), .int (xs (i.toNatClampNeg + 2))]) (rest := []) C (a_X9_tone l K G H ((xs (i.toNatClampNeg + 1))) ((xs (i.toNatClampNeg + 2))) hT ga) yo_X9_tone wM_L_60 ⟨⟨by decide, by decide⟩, show _ ≤ 1200000 from Nat.le_trans hc (by decide), show _ ≤ 5502250 from Nat.le_trans hs (by decide)⟩ (x_rv C hT (ci := 9) rfl ga rg_68) rfl hl.1 rfl (Nat.le_of_ble_eq_true rfl) dL_law_599 hS (AE_new hN hS.1) (fun vH105 H105 locsH105 pH105 zH105 kH105 hSH105 => ?_)
    obtain ⟨x106, hvH105, hTH105⟩ := pH105
    subst hvH105
    have g107 : CG (avw K H105 b) := CG.congr (fun k hk j => av_eff hT kH105 gb (by decide) (CG_eff [83, 84] (by decide) k hk)) cg
    have g108 : TU (avw K H105 b) (svw K H105 b) := TU.congr (fun k hk j => av_eff hT kH105 gb (by decide) (TU_eff [83, 84] (by decide) k hk)) (fun k hk => sv_eff hT kH105 gb (by decide)) tu
    have g109 : WD (avw K H105 b) := WD.congr (fun k hk j => av_eff hT kH105 gb (by decide) (WD_eff [83, 84] (by decide) k hk)) wd
    have g110 : IM (avw K H105 b) := IM.congr (fun k hk j => av_eff hT kH105 gb (by decide) (IM_eff [83, 84] (by decide) k hk)) im
    have m111 := (ew).trans (fR_kept (x_lt hT kH105 ga (by decide))).symm
    have m112 := (eta).trans (fI_kept (x_lt hT kH105 ga (by decide))).symm
    have m113 := (etb).trans (fI_kept (x_lt hT kH105 gb (by decide))).symm
    have m114 := (es1).trans (fI_kept (x_lt hT kH105 gw (by decide))).symm
    have m115 := (ey1).trans (fI_kept (x_lt hT kH105 gb (by decide))).symm
    have m116 := (es4).trans (fI_kept (x_lt hT kH105 gw (by decide))).symm
    have m117 := (ey4).trans (fI_kept (x_lt hT kH105 gb (by decide))).symm
    have m118 := (es5).trans (fI_kept (x_lt hT kH105 gw (by decide))).symm
    have m119 := (ey5).trans (fI_kept (x_lt hT kH105 gb (by decide))).symm
    have m120 := (es10).trans (fI_kept (x_lt hT kH105 gw (by decide))).symm
    have m121 := (ey10).trans (fI_kept (x_lt hT kH105 gb (by decide))).symm
    have m122 := (es13).trans (fI_kept (x_lt hT kH105 gw (by decide))).symm
    have m123 := (ey13).trans (fI_kept (x_lt hT kH105 gb (by decide))).symm
    have m124 := (es16).trans (fI_kept (x_lt hT kH105 gw (by decide))).symm
    have m125 := (ey16).trans (fI_kept (x_lt hT kH105 gb (by decide))).symm
    have m126 := (ebq).trans (fR_kept (x_lt hT kH105 gw (by decide))).symm
    have m127 := (eaq).trans (fR_kept (x_lt hT kH105 gb (by decide))).symm
    have m128 := (ehi).trans (fI_kept (x_lt hT kH105 gb (by decide))).symm
    have m129 := (fV_kept (x_lt hT kH105 ga (by decide))).trans kn
    have m130 := (eiq).trans (fR_kept (x_lt hT kH105 gb (by decide))).symm
    refine W.eq (g2 := F0 m 602 ls [.int x106]) rfl ?_
    have v131 : ∀ j : Nat, j < 10 → cz101 j = fI H105 (fR H105 bq j) (K.1.2 0 14) := fun j h => (ecz101 j h).trans (by rw [fR_kept (x_lt hT kH105 gbq (by decide))]; exact (fI_kept (x_lt hT kH105 (bar_g hT gbq j h) (by decide))).symm)
    have v132 : ∀ j : Nat, j < 10 → rz102 j = fI H105 aq j := fun j h => (erz102 j h).trans (fI_kept (x_lt hT kH105 gaq (by decide))).symm
    have d133 := DB.kept db (x_lt hT kH105 gbq (by decide))
    refine lv_pop hx hb dL_law_602 rfl ?_
    refine lv_aload_n hx hb dL_law_603 rfl (lv_at hl 1 rfl) ?_
    refine lv_aload_n hx hb dL_law_604 rfl (lv_at hl 3 rfl) ?_
    refine lv_iload_n hx hb dL_law_605 rfl (lv_at hl 0 rfl) ?_
    refine lv_iconst (v := 1) hx hb dL_law_606 (by decide) ?_
    refine lv_iadd hx hb dL_law_607 ?_
    refine lv_topi (fun x134 ex134 => ?_)
    obtain ⟨tx134, ejx134, evx134⟩ := lw_ix (k := 1) ex134 hI hL rfl (by decide)
    clear tx134
    refine va_sld hx hb hX hbl (Nat.not_le.mpr hbl) hSH105 (vp_in_iff.mpr evx134) dL_law_608 ?_
    refine W.eq (g2 := F0 m 609 ls [.int (xs (i.toNatClampNeg + 1)), .ref b]) (congrArg (fun z => F0 m 609 ls [.int (xs z), .ref b]) ejx134) ?_
    refine lv_aload_n hx hb dL_law_609 rfl (lv_at hl 3 rfl) ?_
    refine lv_iload_n hx hb dL_law_610 rfl (lv_at hl 0 rfl) ?_
    refine lv_iconst (v := 2) hx hb dL_law_611 (by decide) ?_
    refine lv_iadd hx hb dL_law_612 ?_
    refine lv_topi (fun x135 ex135 => ?_)
    obtain ⟨tx135, ejx135, evx135⟩ := lw_ix (k := 2) ex135 hI hL rfl (by decide)
    clear tx135
    refine va_sld hx hb hX hbl (Nat.not_le.mpr hbl) hSH105 (vp_in_iff.mpr evx135) dL_law_613 ?_
    refine W.eq (g2 := F0 m 614 ls [.int (xs (i.toNatClampNeg + 2)), .int (xs (i.toNatClampNeg + 1)), .ref b]) (congrArg (fun z => F0 m 614 ls [.int (xs z), .int (xs (i.toNatClampNeg + 1)), .ref b]) ejx135) ?_
    refine x_V (As := [.int (xs (i.toNatClampNeg + 1)), .int (xs (i.toNatClampNeg + 2))]) (rest := []) C (a_X10_tone l K G H105 ((xs (i.toNatClampNeg + 1))) ((xs (i.toNatClampNeg + 2))) hTH105 gb g107 g108 g109 g110) yo_X10_tone wM_L_63 ⟨⟨by decide, by decide⟩, show _ ≤ 1200000 from Nat.le_trans hc (by decide), show _ ≤ 5502250 from Nat.le_trans hs (by decide)⟩ (x_rv C hTH105 (ci := 10) rfl gb rg_112) rfl hl.1 rfl (Nat.le_of_ble_eq_true rfl) dL_law_614 hSH105 (AE_new hN hSH105.1) (fun vH136 H136 locsH136 pH136 zH136 kH136 hSH136 => ?_)
    obtain ⟨x137, hvH136, g138, g139, g140, g141, mf142, hTH136⟩ := pH136
    subst hvH136
    have m143 := (m111).trans (fR_kept (x_lt hTH105 kH136 ga (by decide))).symm
    have m144 := (m112).trans (fI_kept (x_lt hTH105 kH136 ga (by decide))).symm
    have m145 := (m114).trans (fI_kept (x_lt hTH105 kH136 gw (by decide))).symm
    have m146 := (m116).trans (fI_kept (x_lt hTH105 kH136 gw (by decide))).symm
    have m147 := (m118).trans (fI_kept (x_lt hTH105 kH136 gw (by decide))).symm
    have m148 := (m120).trans (fI_kept (x_lt hTH105 kH136 gw (by decide))).symm
    have m149 := (m122).trans (fI_kept (x_lt hTH105 kH136 gw (by decide))).symm
    have m150 := (m124).trans (fI_kept (x_lt hTH105 kH136 gw (by decide))).symm
    have m151 := (m126).trans (fR_kept (x_lt hTH105 kH136 gw (by decide))).symm
    have m152 := (fV_kept (x_lt hTH105 kH136 ga (by decide))).trans m129
    have m153 := (m113).trans (MF.i mf142 (k := 18) (by decide) (by decide)).symm
    have m154 := (m115).trans (MF.i mf142 (k := 1) (by decide) (by decide)).symm
    have m155 := (m117).trans (MF.i mf142 (k := 2) (by decide) (by decide)).symm
    have m156 := (m119).trans (MF.i mf142 (k := 3) (by decide) (by decide)).symm
    have m157 := (m121).trans (MF.i mf142 (k := 59) (by decide) (by decide)).symm
    have m158 := (m123).trans (MF.i mf142 (k := 62) (by decide) (by decide)).symm
    have m159 := (m125).trans (MF.i mf142 (k := 65) (by decide) (by decide)).symm
    have m160 := (m127).trans (MF.r mf142 (k := 50) (by decide) (by decide)).symm
    have m161 := (m128).trans (MF.i mf142 (k := 70) (by decide) (by decide)).symm
    have m162 := (m130).trans (MF.r mf142 (k := 73) (by decide) (by decide)).symm
    refine W.eq (g2 := F0 m 617 ls [.int x137]) rfl ?_
    have v163 : ∀ j : Nat, j < 10 → cz101 j = fI H136 (fR H136 bq j) (K.1.2 0 14) := fun j h => (v131 j h).trans (by rw [fR_kept (x_lt hTH105 kH136 gbq (by decide))]; exact (fI_kept (x_lt hTH105 kH136 (bar_g hTH105 gbq j h) (by decide))).symm)
    have v164 : ∀ j : Nat, j < 10 → rz102 j = fI H136 aq j := fun j h => (v132 j h).trans (fI_kept (x_lt hTH105 kH136 gaq (by decide))).symm
    have d165 := DB.kept d133 (x_lt hTH105 kH136 gbq (by decide))
    refine lv_pop hx hb dL_law_617 rfl ?_
    refine lv_goto (tgt := 1509) hx hb dL_law_618 (by decide) ?_
    exact nx G H136 locsH136 _ _ ls ⟨hTH136, hN, ga, gb, g138, g139, g140, g141, ⟨(by rw [← m144, ← m153]; exact rt), (by rw [← m143, ← m145, ← m154]; exact r1), (by rw [← m143, ← m146, ← m155]; exact r4), (by rw [← m143, ← m147, ← m156]; exact r5), (by rw [← m143, ← m148, ← m157]; exact r10), (by rw [← m143, ← m149, ← m158]; exact r13), (by rw [← m143, ← m150, ← m159]; exact r16)⟩, Or.inl ⟨m152, (by rw [← m161]; exact h70)⟩, (by unfold RB; rw [← m143, ← m151, ← m160, ← m154]; exact ⟨d165, fun j h1 h2 => by rw [← v163 j h1, ← v164 j h1]; exact rel j h1 (by omega), fun j h1 h2 => by rw [← v164 j h1]; exact tl j h1 (by omega)⟩), hSH136⟩ hl ⟨hc, hs, fun _ => ⟨hc0, hs0⟩⟩
  · skip
    obtain ⟨hi, ehi⟩ : ∃ z : Int32, z = fI H b (K.1.2 10 70) := ⟨_, rfl⟩
    rw [← ehi] at h70
    obtain ⟨iq, eiq⟩ : ∃ z : Nat, z = fR H b (K.1.2 10 73) := ⟨_, rfl⟩
    have giq := ty_fr (q := iq) (k := 73) (u := 162) eiq hT gb rg_112 rfl
    rw [← eiq] at q1 q4 q5 q10 q13 q16
    obtain ⟨k1, ek1⟩ : ∃ z : Int32, z = fI H kq (K.1.2 8 1) := ⟨_, rfl⟩
    rw [← ek1] at q1
    obtain ⟨i1, ei1⟩ : ∃ z : Int32, z = fI H iq ((0 : Int32).toNatClampNeg) := ⟨_, rfl⟩
    rw [← ei1] at q1
    obtain ⟨k4, ek4⟩ : ∃ z : Int32, z = fI H kq (K.1.2 8 4) := ⟨_, rfl⟩
    rw [← ek4] at q4
    obtain ⟨i4, ei4⟩ : ∃ z : Int32, z = fI H iq ((1 : Int32).toNatClampNeg) := ⟨_, rfl⟩
    rw [← ei4] at q4
    obtain ⟨k5, ek5⟩ : ∃ z : Int32, z = fI H kq (K.1.2 8 5) := ⟨_, rfl⟩
    rw [← ek5] at q5
    obtain ⟨i5, ei5⟩ : ∃ z : Int32, z = fI H iq ((2 : Int32).toNatClampNeg) := ⟨_, rfl⟩
    rw [← ei5] at q5
    obtain ⟨k10, ek10⟩ : ∃ z : Int32, z = fI H kq (K.1.2 8 10) := ⟨_, rfl⟩
    rw [← ek10] at q10
    obtain ⟨i10, ei10⟩ : ∃ z : Int32, z = fI H iq ((3 : Int32).toNatClampNeg) := ⟨_, rfl⟩
    rw [← ei10] at q10
    obtain ⟨k13, ek13⟩ : ∃ z : Int32, z = fI H kq (K.1.2 8 13) := ⟨_, rfl⟩
    rw [← ek13] at q13
    obtain ⟨i13, ei13⟩ : ∃ z : Int32, z = fI H iq ((4 : Int32).toNatClampNeg) := ⟨_, rfl⟩
    rw [← ei13] at q13
    obtain ⟨k16, ek16⟩ : ∃ z : Int32, z = fI H kq (K.1.2 8 16) := ⟨_, rfl⟩
    rw [← ek16] at q16
    obtain ⟨i16, ei16⟩ : ∃ z : Int32, z = fI H iq ((5 : Int32).toNatClampNeg) := ⟨_, rfl⟩
    rw [← ei16] at q16
    obtain ⟨kb, ekb⟩ : ∃ z : Nat, z = fR H kq (K.1.2 8 0) := ⟨_, rfl⟩
    have gkb := ty_fr (q := kb) (k := 0) (u := 59) ekb hT gkq rg_34 rfl
    have bk1 := ty_fi (x := k1) (k := 1) ek1 hT gkq rg_34 rfl
    rw [← ekb] at dbk
    rw [← ekb, ← eiq, ← ek1] at vk
    rw [← eiq, ← ek1] at vkt
    obtain ⟨kz166, ekz166⟩ : ∃ f : Nat → Int32, ∀ j : Nat, j < 10 → f j = fI H (fR H kb j) (K.1.2 0 14) := ⟨_, fun _ _ => rfl⟩
    obtain ⟨iz167, eiz167⟩ : ∃ f : Nat → Int32, ∀ j : Nat, j < 10 → f j = fI H iq (11 + 6 * j) := ⟨_, fun _ _ => rfl⟩
    have vk0 : ∀ j : Nat, j < 10 → (j : Int) < k1.toInt → kz166 j = iz167 j := fun j h1 h2 => by rw [ekz166 j h1, eiz167 j h1]; exact vk j h1 h2
    clear vk
    have vk1 : ∀ j : Nat, j < 10 → k1.toInt ≤ (j : Int) → iz167 j = 0 := fun j h1 h2 => by rw [eiz167 j h1]; exact vkt j h1 h2
    clear vkt
    refine lv_aload_n hx hb dL_law_588 rfl (lv_at hl 2 rfl) ?_
    refine lv_aload_n hx hb dL_law_589 rfl (lv_at hl 3 rfl) ?_
    refine lv_iload_n hx hb dL_law_590 rfl (lv_at hl 0 rfl) ?_
    refine lv_iconst (v := 1) hx hb dL_law_591 (by decide) ?_
    refine lv_iadd hx hb dL_law_592 ?_
    refine lv_topi (fun x168 ex168 => ?_)
    obtain ⟨tx168, ejx168, evx168⟩ := lw_ix (k := 1) ex168 hI hL rfl (by decide)
    clear tx168
    refine va_sld hx hb hX hbl (Nat.not_le.mpr hbl) hS (vp_in_iff.mpr evx168) dL_law_593 ?_
    refine W.eq (g2 := F0 m 594 ls [.int (xs (i.toNatClampNeg + 1)), .ref a]) (congrArg (fun z => F0 m 594 ls [.int (xs z), .ref a]) ejx168) ?_
    refine lv_aload_n hx hb dL_law_594 rfl (lv_at hl 3 rfl) ?_
    refine lv_iload_n hx hb dL_law_595 rfl (lv_at hl 0 rfl) ?_
    refine lv_iconst (v := 2) hx hb dL_law_596 (by decide) ?_
    refine lv_iadd hx hb dL_law_597 ?_
    refine lv_topi (fun x169 ex169 => ?_)
    obtain ⟨tx169, ejx169, evx169⟩ := lw_ix (k := 2) ex169 hI hL rfl (by decide)
    clear tx169
    refine va_sld hx hb hX hbl (Nat.not_le.mpr hbl) hS (vp_in_iff.mpr evx169) dL_law_598 ?_
    refine W.eq (g2 := F0 m 599 ls [.int (xs (i.toNatClampNeg + 2)), .int (xs (i.toNatClampNeg + 1)), .ref a]) (congrArg (fun z => F0 m 599 ls [.int (xs z), .int (xs (i.toNatClampNeg + 1)), .ref a]) ejx169) ?_
    refine x_V (As := [.int (xs (i.toNatClampNeg + 1)), .int (xs (i.toNatClampNeg + 2))]) (rest := []) C (a_X9_tone l K G H ((xs (i.toNatClampNeg + 1))) ((xs (i.toNatClampNeg + 2))) hT ga) yo_X9_tone wM_L_60 ⟨⟨by decide, by decide⟩, show _ ≤ 1200000 from Nat.le_trans hc (by decide), show _ ≤ 5502250 from Nat.le_trans hs (by decide)⟩ (x_rv C hT (ci := 9) rfl ga rg_68) rfl hl.1 rfl (Nat.le_of_ble_eq_true rfl) dL_law_599 hS (AE_new hN hS.1) (fun vH170 H170 locsH170 pH170 zH170 kH170 hSH170 => ?_)
    obtain ⟨x171, hvH170, hTH170⟩ := pH170
    subst hvH170
    have g172 : CG (avw K H170 b) := CG.congr (fun k hk j => av_eff hT kH170 gb (by decide) (CG_eff [83, 84] (by decide) k hk)) cg
    have g173 : TU (avw K H170 b) (svw K H170 b) := TU.congr (fun k hk j => av_eff hT kH170 gb (by decide) (TU_eff [83, 84] (by decide) k hk)) (fun k hk => sv_eff hT kH170 gb (by decide)) tu
    have g174 : WD (avw K H170 b) := WD.congr (fun k hk j => av_eff hT kH170 gb (by decide) (WD_eff [83, 84] (by decide) k hk)) wd
    have g175 : IM (avw K H170 b) := IM.congr (fun k hk j => av_eff hT kH170 gb (by decide) (IM_eff [83, 84] (by decide) k hk)) im
    have m176 := (ew).trans (fR_kept (x_lt hT kH170 ga (by decide))).symm
    have m177 := (eta).trans (fI_kept (x_lt hT kH170 ga (by decide))).symm
    have m178 := (etb).trans (fI_kept (x_lt hT kH170 gb (by decide))).symm
    have m179 := (es1).trans (fI_kept (x_lt hT kH170 gw (by decide))).symm
    have m180 := (ey1).trans (fI_kept (x_lt hT kH170 gb (by decide))).symm
    have m181 := (es4).trans (fI_kept (x_lt hT kH170 gw (by decide))).symm
    have m182 := (ey4).trans (fI_kept (x_lt hT kH170 gb (by decide))).symm
    have m183 := (es5).trans (fI_kept (x_lt hT kH170 gw (by decide))).symm
    have m184 := (ey5).trans (fI_kept (x_lt hT kH170 gb (by decide))).symm
    have m185 := (es10).trans (fI_kept (x_lt hT kH170 gw (by decide))).symm
    have m186 := (ey10).trans (fI_kept (x_lt hT kH170 gb (by decide))).symm
    have m187 := (es13).trans (fI_kept (x_lt hT kH170 gw (by decide))).symm
    have m188 := (ey13).trans (fI_kept (x_lt hT kH170 gb (by decide))).symm
    have m189 := (es16).trans (fI_kept (x_lt hT kH170 gw (by decide))).symm
    have m190 := (ey16).trans (fI_kept (x_lt hT kH170 gb (by decide))).symm
    have m191 := (ebq).trans (fR_kept (x_lt hT kH170 gw (by decide))).symm
    have m192 := (eaq).trans (fR_kept (x_lt hT kH170 gb (by decide))).symm
    have m193 := (ehi).trans (fI_kept (x_lt hT kH170 gb (by decide))).symm
    have m194 := (fV_kept (x_lt hT kH170 ga (by decide))).trans kn
    have m195 := (eiq).trans (fR_kept (x_lt hT kH170 gb (by decide))).symm
    have m196 := (ek1).trans (fI_kept (x_lt hT kH170 gkq (by decide))).symm
    have m197 := (ei1).trans (fI_kept (x_lt hT kH170 giq (by decide))).symm
    have m198 := (ek4).trans (fI_kept (x_lt hT kH170 gkq (by decide))).symm
    have m199 := (ei4).trans (fI_kept (x_lt hT kH170 giq (by decide))).symm
    have m200 := (ek5).trans (fI_kept (x_lt hT kH170 gkq (by decide))).symm
    have m201 := (ei5).trans (fI_kept (x_lt hT kH170 giq (by decide))).symm
    have m202 := (ek10).trans (fI_kept (x_lt hT kH170 gkq (by decide))).symm
    have m203 := (ei10).trans (fI_kept (x_lt hT kH170 giq (by decide))).symm
    have m204 := (ek13).trans (fI_kept (x_lt hT kH170 gkq (by decide))).symm
    have m205 := (ei13).trans (fI_kept (x_lt hT kH170 giq (by decide))).symm
    have m206 := (ek16).trans (fI_kept (x_lt hT kH170 gkq (by decide))).symm
    have m207 := (ei16).trans (fI_kept (x_lt hT kH170 giq (by decide))).symm
    have m208 := (ekb).trans (fR_kept (x_lt hT kH170 gkq (by decide))).symm
    refine W.eq (g2 := F0 m 602 ls [.int x171]) rfl ?_
    have v209 : ∀ j : Nat, j < 10 → cz101 j = fI H170 (fR H170 bq j) (K.1.2 0 14) := fun j h => (ecz101 j h).trans (by rw [fR_kept (x_lt hT kH170 gbq (by decide))]; exact (fI_kept (x_lt hT kH170 (bar_g hT gbq j h) (by decide))).symm)
    have v210 : ∀ j : Nat, j < 10 → rz102 j = fI H170 aq j := fun j h => (erz102 j h).trans (fI_kept (x_lt hT kH170 gaq (by decide))).symm
    have v211 : ∀ j : Nat, j < 10 → kz166 j = fI H170 (fR H170 kb j) (K.1.2 0 14) := fun j h => (ekz166 j h).trans (by rw [fR_kept (x_lt hT kH170 gkb (by decide))]; exact (fI_kept (x_lt hT kH170 (bar_h hT gkb j h) (by decide))).symm)
    have d212 := DB.kept dbk (x_lt hT kH170 gkb (by decide))
    have v213 : ∀ j : Nat, j < 10 → iz167 j = fI H170 iq (11 + 6 * j) := fun j h => (eiz167 j h).trans (fI_kept (x_lt hT kH170 giq (by decide))).symm
    have d214 := DB.kept db (x_lt hT kH170 gbq (by decide))
    refine lv_pop hx hb dL_law_602 rfl ?_
    refine lv_aload_n hx hb dL_law_603 rfl (lv_at hl 1 rfl) ?_
    refine lv_aload_n hx hb dL_law_604 rfl (lv_at hl 3 rfl) ?_
    refine lv_iload_n hx hb dL_law_605 rfl (lv_at hl 0 rfl) ?_
    refine lv_iconst (v := 1) hx hb dL_law_606 (by decide) ?_
    refine lv_iadd hx hb dL_law_607 ?_
    refine lv_topi (fun x215 ex215 => ?_)
    obtain ⟨tx215, ejx215, evx215⟩ := lw_ix (k := 1) ex215 hI hL rfl (by decide)
    clear tx215
    refine va_sld hx hb hX hbl (Nat.not_le.mpr hbl) hSH170 (vp_in_iff.mpr evx215) dL_law_608 ?_
    refine W.eq (g2 := F0 m 609 ls [.int (xs (i.toNatClampNeg + 1)), .ref b]) (congrArg (fun z => F0 m 609 ls [.int (xs z), .ref b]) ejx215) ?_
    refine lv_aload_n hx hb dL_law_609 rfl (lv_at hl 3 rfl) ?_
    refine lv_iload_n hx hb dL_law_610 rfl (lv_at hl 0 rfl) ?_
    refine lv_iconst (v := 2) hx hb dL_law_611 (by decide) ?_
    refine lv_iadd hx hb dL_law_612 ?_
    refine lv_topi (fun x216 ex216 => ?_)
    obtain ⟨tx216, ejx216, evx216⟩ := lw_ix (k := 2) ex216 hI hL rfl (by decide)
    clear tx216
    refine va_sld hx hb hX hbl (Nat.not_le.mpr hbl) hSH170 (vp_in_iff.mpr evx216) dL_law_613 ?_
    refine W.eq (g2 := F0 m 614 ls [.int (xs (i.toNatClampNeg + 2)), .int (xs (i.toNatClampNeg + 1)), .ref b]) (congrArg (fun z => F0 m 614 ls [.int (xs z), .int (xs (i.toNatClampNeg + 1)), .ref b]) ejx216) ?_
    refine x_V (As := [.int (xs (i.toNatClampNeg + 1)), .int (xs (i.toNatClampNeg + 2))]) (rest := []) C (a_X10_tone l K G H170 ((xs (i.toNatClampNeg + 1))) ((xs (i.toNatClampNeg + 2))) hTH170 gb g172 g173 g174 g175) yo_X10_tone wM_L_63 ⟨⟨by decide, by decide⟩, show _ ≤ 1200000 from Nat.le_trans hc (by decide), show _ ≤ 5502250 from Nat.le_trans hs (by decide)⟩ (x_rv C hTH170 (ci := 10) rfl gb rg_112) rfl hl.1 rfl (Nat.le_of_ble_eq_true rfl) dL_law_614 hSH170 (AE_new hN hSH170.1) (fun vH217 H217 locsH217 pH217 zH217 kH217 hSH217 => ?_)
    obtain ⟨x218, hvH217, g219, g220, g221, g222, mf223, hTH217⟩ := pH217
    subst hvH217
    have m224 := (m176).trans (fR_kept (x_lt hTH170 kH217 ga (by decide))).symm
    have m225 := (m177).trans (fI_kept (x_lt hTH170 kH217 ga (by decide))).symm
    have m226 := (m179).trans (fI_kept (x_lt hTH170 kH217 gw (by decide))).symm
    have m227 := (m181).trans (fI_kept (x_lt hTH170 kH217 gw (by decide))).symm
    have m228 := (m183).trans (fI_kept (x_lt hTH170 kH217 gw (by decide))).symm
    have m229 := (m185).trans (fI_kept (x_lt hTH170 kH217 gw (by decide))).symm
    have m230 := (m187).trans (fI_kept (x_lt hTH170 kH217 gw (by decide))).symm
    have m231 := (m189).trans (fI_kept (x_lt hTH170 kH217 gw (by decide))).symm
    have m232 := (m191).trans (fR_kept (x_lt hTH170 kH217 gw (by decide))).symm
    have m233 := (fV_kept (x_lt hTH170 kH217 ga (by decide))).trans m194
    have m234 := (m196).trans (fI_kept (x_lt hTH170 kH217 gkq (by decide))).symm
    have m235 := (m197).trans (fI_kept (x_lt hTH170 kH217 giq (by decide))).symm
    have m236 := (m198).trans (fI_kept (x_lt hTH170 kH217 gkq (by decide))).symm
    have m237 := (m199).trans (fI_kept (x_lt hTH170 kH217 giq (by decide))).symm
    have m238 := (m200).trans (fI_kept (x_lt hTH170 kH217 gkq (by decide))).symm
    have m239 := (m201).trans (fI_kept (x_lt hTH170 kH217 giq (by decide))).symm
    have m240 := (m202).trans (fI_kept (x_lt hTH170 kH217 gkq (by decide))).symm
    have m241 := (m203).trans (fI_kept (x_lt hTH170 kH217 giq (by decide))).symm
    have m242 := (m204).trans (fI_kept (x_lt hTH170 kH217 gkq (by decide))).symm
    have m243 := (m205).trans (fI_kept (x_lt hTH170 kH217 giq (by decide))).symm
    have m244 := (m206).trans (fI_kept (x_lt hTH170 kH217 gkq (by decide))).symm
    have m245 := (m207).trans (fI_kept (x_lt hTH170 kH217 giq (by decide))).symm
    have m246 := (m208).trans (fR_kept (x_lt hTH170 kH217 gkq (by decide))).symm
    have m247 := (m178).trans (MF.i mf223 (k := 18) (by decide) (by decide)).symm
    have m248 := (m180).trans (MF.i mf223 (k := 1) (by decide) (by decide)).symm
    have m249 := (m182).trans (MF.i mf223 (k := 2) (by decide) (by decide)).symm
    have m250 := (m184).trans (MF.i mf223 (k := 3) (by decide) (by decide)).symm
    have m251 := (m186).trans (MF.i mf223 (k := 59) (by decide) (by decide)).symm
    have m252 := (m188).trans (MF.i mf223 (k := 62) (by decide) (by decide)).symm
    have m253 := (m190).trans (MF.i mf223 (k := 65) (by decide) (by decide)).symm
    have m254 := (m192).trans (MF.r mf223 (k := 50) (by decide) (by decide)).symm
    have m255 := (m193).trans (MF.i mf223 (k := 70) (by decide) (by decide)).symm
    have m256 := (m195).trans (MF.r mf223 (k := 73) (by decide) (by decide)).symm
    refine W.eq (g2 := F0 m 617 ls [.int x218]) rfl ?_
    have v257 : ∀ j : Nat, j < 10 → cz101 j = fI H217 (fR H217 bq j) (K.1.2 0 14) := fun j h => (v209 j h).trans (by rw [fR_kept (x_lt hTH170 kH217 gbq (by decide))]; exact (fI_kept (x_lt hTH170 kH217 (bar_g hTH170 gbq j h) (by decide))).symm)
    have v258 : ∀ j : Nat, j < 10 → rz102 j = fI H217 aq j := fun j h => (v210 j h).trans (fI_kept (x_lt hTH170 kH217 gaq (by decide))).symm
    have v259 : ∀ j : Nat, j < 10 → kz166 j = fI H217 (fR H217 kb j) (K.1.2 0 14) := fun j h => (v211 j h).trans (by rw [fR_kept (x_lt hTH170 kH217 gkb (by decide))]; exact (fI_kept (x_lt hTH170 kH217 (bar_h hTH170 gkb j h) (by decide))).symm)
    have d260 := DB.kept d212 (x_lt hTH170 kH217 gkb (by decide))
    have v261 : ∀ j : Nat, j < 10 → iz167 j = fI H217 iq (11 + 6 * j) := fun j h => (v213 j h).trans (fI_kept (x_lt hTH170 kH217 giq (by decide))).symm
    have d262 := DB.kept d214 (x_lt hTH170 kH217 gbq (by decide))
    refine lv_pop hx hb dL_law_617 rfl ?_
    refine lv_goto (tgt := 1509) hx hb dL_law_618 (by decide) ?_
    exact nx G H217 locsH217 _ _ ls ⟨hTH217, hN, ga, gb, g219, g220, g221, g222, ⟨(by rw [← m225, ← m247]; exact rt), (by rw [← m224, ← m226, ← m248]; exact r1), (by rw [← m224, ← m227, ← m249]; exact r4), (by rw [← m224, ← m228, ← m250]; exact r5), (by rw [← m224, ← m229, ← m251]; exact r10), (by rw [← m224, ← m230, ← m252]; exact r13), (by rw [← m224, ← m231, ← m253]; exact r16)⟩, Or.inr ⟨kq, m233, gkq, (by rw [← m255]; exact h70), (by rw [← m234, ← m256, ← m235]; exact q1), (by rw [← m236, ← m256, ← m237]; exact q4), (by rw [← m238, ← m256, ← m239]; exact q5), (by rw [← m240, ← m256, ← m241]; exact q10), (by rw [← m242, ← m256, ← m243]; exact q13), (by rw [← m244, ← m256, ← m245]; exact q16), (by rw [← m246]; exact d260), (by rw [← m246, ← m256, ← m234]; exact fun j h1 h2 => by rw [← v259 j h1, ← v261 j h1]; exact vk0 j h1 (by omega)), (by rw [← m256, ← m234]; exact fun j h1 h2 => by rw [← v261 j h1]; exact vk1 j h1 (by omega))⟩, (by unfold RB; rw [← m224, ← m232, ← m254, ← m248]; exact ⟨d262, fun j h1 h2 => by rw [← v257 j h1, ← v258 j h1]; exact rel j h1 (by omega), fun j h1 h2 => by rw [← v258 j h1]; exact tl j h1 (by omega)⟩), hSH217⟩ hl ⟨hc, hs, fun h => by have h1 := h.symm.trans m233; cases h1⟩
set_option maxRecDepth 100000 in
set_option maxHeartbeats 8000000 in
theorem lw_c11 {p : Program} {l : Launch} {e : Env} {s : State} {m : MethodId} {below : List Frame} {meth : Method} {c : Code} {K : KE} {b0 L : Nat} {xs : Nat → Int32} {G : Nat → Option Nat} {H : Heap} {locs : List Loc} {a b : Nat} {cells slots : Nat} {ls : Array Slot} {i : Int32} {n : Nat} (D : LC p K s m meth c b0 L xs) (S : SX K s G H locs a b) (hl : lv_has ls 4 [(3, .int i), (2, .ref b), (1, .ref a), (0, .ref b0)]) (hi : 0 ≤ i.toInt ∧ i.toInt + 6 ≤ L) (hn : n ≤ 511) (hB : BD K H a cells slots) (nx : ∀ (G : Nat → Option Nat) (H : Heap) (locs : List Loc) (cells slots : Nat) (ls : Array Slot), SX K s G H locs a b → lv_has ls 4 [(3, .int i), (2, .ref b), (1, .ref a), (0, .ref b0)] → BD K H a cells slots → W p l e room_1 s m #[Value.ref b0] below meth c H locs cells slots (lw_Z below #[Value.ref b0] s) (F0 m 1509 ls [])) : W p l e room_1 s m #[Value.ref b0] below meth c H locs cells slots (lw_Z below #[Value.ref b0] s) (F0 m 621 ls []) := by
  have hI := hi
  obtain ⟨C, hX, hbl, hL⟩ := id D
  obtain ⟨hx, hb, hml, hown, hts, hKT, hr, hlocks, hnm⟩ := id C
  obtain ⟨hT, hN, ga, gb, cg, tu, wd, im, ⟨rt, r1, r4, r5, r10, r13, r16⟩, hk, hrb, hS⟩ := S
  obtain ⟨hc, hs, hB0⟩ := hB
  have n_m1 : ((-1) : Int32).toInt = -1 := rfl
  have n_0 : (0 : Int32).toInt = 0 := rfl
  have n_1 : (1 : Int32).toInt = 1 := rfl
  have n_2 : (2 : Int32).toInt = 2 := rfl
  have n_3 : (3 : Int32).toInt = 3 := rfl
  obtain ⟨w, ew⟩ : ∃ z : Nat, z = fR H a (K.1.2 9 0) := ⟨_, rfl⟩
  have gw := ty_fr (q := w) (k := 0) (u := 0) ew hT ga rg_68 rfl
  rw [← ew] at r1 r4 r5 r10 r13 r16
  obtain ⟨ta, eta⟩ : ∃ z : Int32, z = fI H a (K.1.2 9 3) := ⟨_, rfl⟩
  rw [← eta] at rt
  obtain ⟨tb, etb⟩ : ∃ z : Int32, z = fI H b (K.1.2 10 18) := ⟨_, rfl⟩
  rw [← etb] at rt
  obtain ⟨s1, es1⟩ : ∃ z : Int32, z = fI H w (K.1.2 8 1) := ⟨_, rfl⟩
  rw [← es1] at r1
  obtain ⟨y1, ey1⟩ : ∃ z : Int32, z = fI H b (K.1.2 10 1) := ⟨_, rfl⟩
  rw [← ey1] at r1
  obtain ⟨s4, es4⟩ : ∃ z : Int32, z = fI H w (K.1.2 8 4) := ⟨_, rfl⟩
  rw [← es4] at r4
  obtain ⟨y4, ey4⟩ : ∃ z : Int32, z = fI H b (K.1.2 10 2) := ⟨_, rfl⟩
  rw [← ey4] at r4
  obtain ⟨s5, es5⟩ : ∃ z : Int32, z = fI H w (K.1.2 8 5) := ⟨_, rfl⟩
  rw [← es5] at r5
  obtain ⟨y5, ey5⟩ : ∃ z : Int32, z = fI H b (K.1.2 10 3) := ⟨_, rfl⟩
  rw [← ey5] at r5
  obtain ⟨s10, es10⟩ : ∃ z : Int32, z = fI H w (K.1.2 8 10) := ⟨_, rfl⟩
  rw [← es10] at r10
  obtain ⟨y10, ey10⟩ : ∃ z : Int32, z = fI H b (K.1.2 10 59) := ⟨_, rfl⟩
  rw [← ey10] at r10
  obtain ⟨s13, es13⟩ : ∃ z : Int32, z = fI H w (K.1.2 8 13) := ⟨_, rfl⟩
  rw [← es13] at r13
  obtain ⟨y13, ey13⟩ : ∃ z : Int32, z = fI H b (K.1.2 10 62) := ⟨_, rfl⟩
  rw [← ey13] at r13
  obtain ⟨s16, es16⟩ : ∃ z : Int32, z = fI H w (K.1.2 8 16) := ⟨_, rfl⟩
  rw [← es16] at r16
  obtain ⟨y16, ey16⟩ : ∃ z : Int32, z = fI H b (K.1.2 10 65) := ⟨_, rfl⟩
  rw [← ey16] at r16
  obtain ⟨bq, ebq⟩ : ∃ z : Nat, z = fR H w (K.1.2 8 0) := ⟨_, rfl⟩
  have gbq := ty_fr (q := bq) (k := 0) (u := 25) ebq hT gw rg_0 rfl
  obtain ⟨aq, eaq⟩ : ∃ z : Nat, z = fR H b (K.1.2 10 50) := ⟨_, rfl⟩
  have gaq := ty_fr (q := aq) (k := 50) (u := 146) eaq hT gb rg_112 rfl
  have bs1 := ty_fi (x := s1) (k := 1) es1 hT gw rg_0 rfl
  have by1 := ty_fi (x := y1) (k := 1) ey1 hT gb rg_112 rfl
  obtain ⟨db, vr, vt⟩ := hrb
  rw [← ew, ← ebq] at db
  rw [← ew, ← ebq, ← eaq, ← ey1] at vr
  rw [← eaq, ← ey1] at vt
  obtain ⟨cz101, ecz101⟩ : ∃ f : Nat → Int32, ∀ j : Nat, j < 10 → f j = fI H (fR H bq j) (K.1.2 0 14) := ⟨_, fun _ _ => rfl⟩
  obtain ⟨rz102, erz102⟩ : ∃ f : Nat → Int32, ∀ j : Nat, j < 10 → f j = fI H aq j := ⟨_, fun _ _ => rfl⟩
  have rel : ∀ j : Nat, j < 10 → (j : Int) < y1.toInt → cz101 j = rz102 j := fun j h1 h2 => by rw [ecz101 j h1, erz102 j h1]; exact vr j h1 h2
  clear vr
  have tl : ∀ j : Nat, j < 10 → y1.toInt ≤ (j : Int) → rz102 j = 0 := fun j h1 h2 => by rw [erz102 j h1]; exact vt j h1 h2
  clear vt
  rcases hk with ⟨kn, h70⟩ | ⟨kq, kn, gkq, h70, q1, q4, q5, q10, q13, q16, dbk, vk, vkt⟩
  · skip
    obtain ⟨hi, ehi⟩ : ∃ z : Int32, z = fI H b (K.1.2 10 70) := ⟨_, rfl⟩
    rw [← ehi] at h70
    obtain ⟨hc0, hs0⟩ := hB0 kn
    obtain ⟨iq, eiq⟩ : ∃ z : Nat, z = fR H b (K.1.2 10 73) := ⟨_, rfl⟩
    have giq := ty_fr (q := iq) (k := 73) (u := 162) eiq hT gb rg_112 rfl
    refine lv_aload_n hx hb dL_law_621 rfl (lv_at hl 2 rfl) ?_
    refine lv_aload_n hx hb dL_law_622 rfl (lv_at hl 3 rfl) ?_
    refine lv_iload_n hx hb dL_law_623 rfl (lv_at hl 0 rfl) ?_
    refine lv_iconst (v := 1) hx hb dL_law_624 (by decide) ?_
    refine lv_iadd hx hb dL_law_625 ?_
    refine lv_topi (fun x103 ex103 => ?_)
    obtain ⟨tx103, ejx103, evx103⟩ := lw_ix (k := 1) ex103 hI hL rfl (by decide)
    clear tx103
    refine va_sld hx hb hX hbl (Nat.not_le.mpr hbl) hS (vp_in_iff.mpr evx103) dL_law_626 ?_
    refine W.eq (g2 := F0 m 627 ls [.int (xs (i.toNatClampNeg + 1)), .ref a]) (congrArg (fun z => F0 m 627 ls [.int (xs z), .ref a]) ejx103) ?_
    refine lv_aload_n hx hb dL_law_627 rfl (lv_at hl 3 rfl) ?_
    refine lv_iload_n hx hb dL_law_628 rfl (lv_at hl 0 rfl) ?_
    refine lv_iconst (v := 2) hx hb dL_law_629 (by decide) ?_
    refine lv_iadd hx hb dL_law_630 ?_
    refine lv_topi (fun x104 ex104 => ?_)
    obtain ⟨tx104, ejx104, evx104⟩ := lw_ix (k := 2) ex104 hI hL rfl (by decide)
    clear tx104
    refine va_sld hx hb hX hbl (Nat.not_le.mpr hbl) hS (vp_in_iff.mpr evx104) dL_law_631 ?_
    refine W.eq (g2 := F0 m 632 ls [.int (xs (i.toNatClampNeg + 2)), .int (xs (i.toNatClampNeg + 1)), .ref a]) (congrArg (fun z => F0 m 632 ls [.int (xs z), .int (xs (i.toNatClampNeg + 1)), .ref a]) ejx104) ?_
    refine lv_aload_n hx hb dL_law_632 rfl (lv_at hl 3 rfl) ?_
    refine lv_iload_n hx hb dL_law_633 rfl (lv_at hl 0 rfl) ?_
    refine lv_iconst (v := 3) hx hb dL_law_634 (by decide) ?_
    refine lv_iadd hx hb dL_law_635 ?_
    refine lv_topi (fun x105 ex105 => ?_)
    obtain ⟨tx105, ejx105, evx105⟩ := lw_ix (k := 3) ex105 hI hL rfl (by decide)
    clear tx105
    refine va_sld hx hb hX hbl (Nat.not_le.mpr hbl) hS (vp_in_iff.mpr evx105) dL_law_636 ?_
    refine W.eq (g2 := F0 m 637 ls [.int (xs (i.toNatClampNeg + 3)), .int (xs (i.toNatClampNeg + 2)), .int (xs (i.toNatClampNeg + 1)), .ref a]) (congrArg (fun z => F0 m 637 ls [.int (xs z), .int (xs (i.toNatClampNeg + 2)), .int (xs (i.toNatClampNeg + 1)), .ref a]) ejx105) ?_
    refine x_V (As := [.int (xs (i.toNatClampNeg + 1)), .int (xs (i.toNatClampNeg + 2)), .int (xs (i.toNatClampNeg + 3))]) (rest := []) C (a_X9_shave_q l K G H ((xs (i.toNatClampNeg + 1))) ((xs (i.toNatClampNeg + 2))) ((xs (i.toNatClampNeg + 3))) hT ga) yo_X9_shave wM_L_64 ⟨⟨by decide, by decide⟩, show _ ≤ 1200000 from Nat.le_trans hc (by decide), show _ ≤ 5502250 from Nat.le_trans hs (by decide)⟩ (x_rv C hT (ci := 9) rfl ga rg_68) rfl hl.1 rfl (Nat.le_of_ble_eq_true rfl) dL_law_637 hS (AE_new hN hS.1) (fun vH106 H106 locsH106 pH106 zH106 kH106 hSH106 => ?_)
    obtain ⟨x107, hvH106, m108, hTH106⟩ := pH106
    subst hvH106
    have g109 : CG (avw K H106 b) := CG.congr (fun k hk j => av_eff hT kH106 gb (by decide) (CG_eff [1, 2, 7, 8, 83, 84] (by decide) k hk)) cg
    have g110 : TU (avw K H106 b) (svw K H106 b) := TU.congr (fun k hk j => av_eff hT kH106 gb (by decide) (TU_eff [1, 2, 7, 8, 83, 84] (by decide) k hk)) (fun k hk => sv_eff hT kH106 gb (by decide)) tu
    have g111 : WD (avw K H106 b) := WD.congr (fun k hk j => av_eff hT kH106 gb (by decide) (WD_eff [1, 2, 7, 8, 83, 84] (by decide) k hk)) wd
    have g112 : IM (avw K H106 b) := IM.congr (fun k hk j => av_eff hT kH106 gb (by decide) (IM_eff [1, 2, 7, 8, 83, 84] (by decide) k hk)) im
    have m113 := (ew).trans (fR_kept (x_lt hT kH106 ga (by decide))).symm
    have m114 := (eta).trans (fI_kept (x_lt hT kH106 ga (by decide))).symm
    have m115 := (etb).trans (fI_kept (x_lt hT kH106 gb (by decide))).symm
    have m116 := (es1).trans (fI_kept (x_lt hT kH106 gw (by decide))).symm
    have m117 := (ey1).trans (fI_kept (x_lt hT kH106 gb (by decide))).symm
    have m118 := (es4).trans (fI_kept (x_lt hT kH106 gw (by decide))).symm
    have m119 := (ey4).trans (fI_kept (x_lt hT kH106 gb (by decide))).symm
    have m120 := (es5).trans (fI_kept (x_lt hT kH106 gw (by decide))).symm
    have m121 := (ey5).trans (fI_kept (x_lt hT kH106 gb (by decide))).symm
    have m122 := (es10).trans (fI_kept (x_lt hT kH106 gw (by decide))).symm
    have m123 := (ey10).trans (fI_kept (x_lt hT kH106 gb (by decide))).symm
    have m124 := (es13).trans (fI_kept (x_lt hT kH106 gw (by decide))).symm
    have m125 := (ey13).trans (fI_kept (x_lt hT kH106 gb (by decide))).symm
    have m126 := (es16).trans (fI_kept (x_lt hT kH106 gw (by decide))).symm
    have m127 := (ey16).trans (fI_kept (x_lt hT kH106 gb (by decide))).symm
    have m128 := (ebq).trans (fR_kept (x_lt hT kH106 gw (by decide))).symm
    have m129 := (eaq).trans (fR_kept (x_lt hT kH106 gb (by decide))).symm
    have m130 := (ehi).trans (fI_kept (x_lt hT kH106 gb (by decide))).symm
    have m131 := (fV_kept (x_lt hT kH106 ga (by decide))).trans kn
    have m132 := (eiq).trans (fR_kept (x_lt hT kH106 gb (by decide))).symm
    refine W.eq (g2 := F0 m 640 ls [.int x107]) rfl ?_
    have v133 : ∀ j : Nat, j < 10 → cz101 j = fI H106 (fR H106 bq j) (K.1.2 0 14) := fun j h => (ecz101 j h).trans (by rw [fR_kept (x_lt hT kH106 gbq (by decide))]; exact (m108 _ (bar_g hT gbq j h)).symm)
    have v134 : ∀ j : Nat, j < 10 → rz102 j = fI H106 aq j := fun j h => (erz102 j h).trans (fI_kept (x_lt hT kH106 gaq (by decide))).symm
    have d135 := DB.kept db (x_lt hT kH106 gbq (by decide))
    refine lv_pop hx hb dL_law_640 rfl ?_
    refine lv_aload_n hx hb dL_law_641 rfl (lv_at hl 1 rfl) ?_
    refine lv_aload_n hx hb dL_law_642 rfl (lv_at hl 3 rfl) ?_
    refine lv_iload_n hx hb dL_law_643 rfl (lv_at hl 0 rfl) ?_
    refine lv_iconst (v := 1) hx hb dL_law_644 (by decide) ?_
    refine lv_iadd hx hb dL_law_645 ?_
    refine lv_topi (fun x136 ex136 => ?_)
    obtain ⟨tx136, ejx136, evx136⟩ := lw_ix (k := 1) ex136 hI hL rfl (by decide)
    clear tx136
    refine va_sld hx hb hX hbl (Nat.not_le.mpr hbl) hSH106 (vp_in_iff.mpr evx136) dL_law_646 ?_
    refine W.eq (g2 := F0 m 647 ls [.int (xs (i.toNatClampNeg + 1)), .ref b]) (congrArg (fun z => F0 m 647 ls [.int (xs z), .ref b]) ejx136) ?_
    refine lv_aload_n hx hb dL_law_647 rfl (lv_at hl 3 rfl) ?_
    refine lv_iload_n hx hb dL_law_648 rfl (lv_at hl 0 rfl) ?_
    refine lv_iconst (v := 2) hx hb dL_law_649 (by decide) ?_
    refine lv_iadd hx hb dL_law_650 ?_
    refine lv_topi (fun x137 ex137 => ?_)
    obtain ⟨tx137, ejx137, evx137⟩ := lw_ix (k := 2) ex137 hI hL rfl (by decide)
    clear tx137
    refine va_sld hx hb hX hbl (Nat.not_le.mpr hbl) hSH106 (vp_in_iff.mpr evx137) dL_law_651 ?_
    refine W.eq (g2 := F0 m 652 ls [.int (xs (i.toNatClampNeg + 2)), .int (xs (i.toNatClampNeg + 1)), .ref b]) (congrArg (fun z => F0 m 652 ls [.int (xs z), .int (xs (i.toNatClampNeg + 1)), .ref b]) ejx137) ?_
    refine lv_aload_n hx hb dL_law_652 rfl (lv_at hl 3 rfl) ?_
    refine lv_iload_n hx hb dL_law_653 rfl (lv_at hl 0 rfl) ?_
    refine lv_iconst (v := 3) hx hb dL_law_654 (by decide) ?_
    refine lv_iadd hx hb dL_law_655 ?_
    refine lv_topi (fun x138 ex138 => ?_)
    obtain ⟨tx138, ejx138, evx138⟩ := lw_ix (k := 3) ex138 hI hL rfl (by decide)
    clear tx138
    refine va_sld hx hb hX hbl (Nat.not_le.mpr hbl) hSH106 (vp_in_iff.mpr evx138) dL_law_656 ?_
    refine W.eq (g2 := F0 m 657 ls [.int (xs (i.toNatClampNeg + 3)), .int (xs (i.toNatClampNeg + 2)), .int (xs (i.toNatClampNeg + 1)), .ref b]) (congrArg (fun z => F0 m 657 ls [.int (xs z), .int (xs (i.toNatClampNeg + 2)), .int (xs (i.toNatClampNeg + 1)), .ref b]) ejx138) ?_
    refine x_V (As := [.int (xs (i.toNatClampNeg + 1)), .int (xs (i.toNatClampNeg + 2)), .int (xs (i.toNatClampNeg + 3))]) (rest := []) C (a_X10_shave l K G H106 ((xs (i.toNatClampNeg + 1))) ((xs (i.toNatClampNeg + 2))) ((xs (i.toNatClampNeg + 3))) hTH106 gb g109 g110 g111 g112) yo_X10_shave wM_L_67 ⟨⟨by decide, by decide⟩, show _ ≤ 1200000 from Nat.le_trans hc (by decide), show _ ≤ 5502250 from Nat.le_trans hs (by decide)⟩ (x_rv C hTH106 (ci := 10) rfl gb rg_112) rfl hl.1 rfl (Nat.le_of_ble_eq_true rfl) dL_law_657 hSH106 (AE_new hN hSH106.1) (fun vH139 H139 locsH139 pH139 zH139 kH139 hSH139 => ?_)
    obtain ⟨x140, hvH139, g141, g142, g143, g144, mf145, hTH139⟩ := pH139
    subst hvH139
    have m146 := (m113).trans (fR_kept (x_lt hTH106 kH139 ga (by decide))).symm
    have m147 := (m114).trans (fI_kept (x_lt hTH106 kH139 ga (by decide))).symm
    have m148 := (m116).trans (fI_kept (x_lt hTH106 kH139 gw (by decide))).symm
    have m149 := (m118).trans (fI_kept (x_lt hTH106 kH139 gw (by decide))).symm
    have m150 := (m120).trans (fI_kept (x_lt hTH106 kH139 gw (by decide))).symm
    have m151 := (m122).trans (fI_kept (x_lt hTH106 kH139 gw (by decide))).symm
    have m152 := (m124).trans (fI_kept (x_lt hTH106 kH139 gw (by decide))).symm
    have m153 := (m126).trans (fI_kept (x_lt hTH106 kH139 gw (by decide))).symm
    have m154 := (m128).trans (fR_kept (x_lt hTH106 kH139 gw (by decide))).symm
    have m155 := (fV_kept (x_lt hTH106 kH139 ga (by decide))).trans m131
    have m156 := (m115).trans (MF.i mf145 (k := 18) (by decide) (by decide)).symm
    have m157 := (m117).trans (MF.i mf145 (k := 1) (by decide) (by decide)).symm
    have m158 := (m119).trans (MF.i mf145 (k := 2) (by decide) (by decide)).symm
    have m159 := (m121).trans (MF.i mf145 (k := 3) (by decide) (by decide)).symm
    have m160 := (m123).trans (MF.i mf145 (k := 59) (by decide) (by decide)).symm
    have m161 := (m125).trans (MF.i mf145 (k := 62) (by decide) (by decide)).symm
    have m162 := (m127).trans (MF.i mf145 (k := 65) (by decide) (by decide)).symm
    have m163 := (m129).trans (MF.r mf145 (k := 50) (by decide) (by decide)).symm
    have m164 := (m130).trans (MF.i mf145 (k := 70) (by decide) (by decide)).symm
    have m165 := (m132).trans (MF.r mf145 (k := 73) (by decide) (by decide)).symm
    refine W.eq (g2 := F0 m 660 ls [.int x140]) rfl ?_
    have v166 : ∀ j : Nat, j < 10 → cz101 j = fI H139 (fR H139 bq j) (K.1.2 0 14) := fun j h => (v133 j h).trans (by rw [fR_kept (x_lt hTH106 kH139 gbq (by decide))]; exact (fI_kept (x_lt hTH106 kH139 (bar_g hTH106 gbq j h) (by decide))).symm)
    have v167 : ∀ j : Nat, j < 10 → rz102 j = fI H139 aq j := fun j h => (v134 j h).trans (fI_kept (x_lt hTH106 kH139 gaq (by decide))).symm
    have d168 := DB.kept d135 (x_lt hTH106 kH139 gbq (by decide))
    refine lv_pop hx hb dL_law_660 rfl ?_
    refine lv_goto (tgt := 1509) hx hb dL_law_661 (by decide) ?_
    exact nx G H139 locsH139 _ _ ls ⟨hTH139, hN, ga, gb, g141, g142, g143, g144, ⟨(by rw [← m147, ← m156]; exact rt), (by rw [← m146, ← m148, ← m157]; exact r1), (by rw [← m146, ← m149, ← m158]; exact r4), (by rw [← m146, ← m150, ← m159]; exact r5), (by rw [← m146, ← m151, ← m160]; exact r10), (by rw [← m146, ← m152, ← m161]; exact r13), (by rw [← m146, ← m153, ← m162]; exact r16)⟩, Or.inl ⟨m155, (by rw [← m164]; exact h70)⟩, (by unfold RB; rw [← m146, ← m154, ← m163, ← m157]; exact ⟨d168, fun j h1 h2 => by rw [← v166 j h1, ← v167 j h1]; exact rel j h1 (by omega), fun j h1 h2 => by rw [← v167 j h1]; exact tl j h1 (by omega)⟩), hSH139⟩ hl ⟨hc, hs, fun _ => ⟨hc0, hs0⟩⟩
  · skip
    obtain ⟨hi, ehi⟩ : ∃ z : Int32, z = fI H b (K.1.2 10 70) := ⟨_, rfl⟩
    rw [← ehi] at h70
    obtain ⟨iq, eiq⟩ : ∃ z : Nat, z = fR H b (K.1.2 10 73) := ⟨_, rfl⟩
    have giq := ty_fr (q := iq) (k := 73) (u := 162) eiq hT gb rg_112 rfl
    rw [← eiq] at q1 q4 q5 q10 q13 q16
    obtain ⟨k1, ek1⟩ : ∃ z : Int32, z = fI H kq (K.1.2 8 1) := ⟨_, rfl⟩
    rw [← ek1] at q1
    obtain ⟨i1, ei1⟩ : ∃ z : Int32, z = fI H iq ((0 : Int32).toNatClampNeg) := ⟨_, rfl⟩
    rw [← ei1] at q1
    obtain ⟨k4, ek4⟩ : ∃ z : Int32, z = fI H kq (K.1.2 8 4) := ⟨_, rfl⟩
    rw [← ek4] at q4
    obtain ⟨i4, ei4⟩ : ∃ z : Int32, z = fI H iq ((1 : Int32).toNatClampNeg) := ⟨_, rfl⟩
    rw [← ei4] at q4
    obtain ⟨k5, ek5⟩ : ∃ z : Int32, z = fI H kq (K.1.2 8 5) := ⟨_, rfl⟩
    rw [← ek5] at q5
    obtain ⟨i5, ei5⟩ : ∃ z : Int32, z = fI H iq ((2 : Int32).toNatClampNeg) := ⟨_, rfl⟩
    rw [← ei5] at q5
    obtain ⟨k10, ek10⟩ : ∃ z : Int32, z = fI H kq (K.1.2 8 10) := ⟨_, rfl⟩
    rw [← ek10] at q10
    obtain ⟨i10, ei10⟩ : ∃ z : Int32, z = fI H iq ((3 : Int32).toNatClampNeg) := ⟨_, rfl⟩
    rw [← ei10] at q10
    obtain ⟨k13, ek13⟩ : ∃ z : Int32, z = fI H kq (K.1.2 8 13) := ⟨_, rfl⟩
    rw [← ek13] at q13
    obtain ⟨i13, ei13⟩ : ∃ z : Int32, z = fI H iq ((4 : Int32).toNatClampNeg) := ⟨_, rfl⟩
    rw [← ei13] at q13
    obtain ⟨k16, ek16⟩ : ∃ z : Int32, z = fI H kq (K.1.2 8 16) := ⟨_, rfl⟩
    rw [← ek16] at q16
    obtain ⟨i16, ei16⟩ : ∃ z : Int32, z = fI H iq ((5 : Int32).toNatClampNeg) := ⟨_, rfl⟩
    rw [← ei16] at q16
    obtain ⟨kb, ekb⟩ : ∃ z : Nat, z = fR H kq (K.1.2 8 0) := ⟨_, rfl⟩
    have gkb := ty_fr (q := kb) (k := 0) (u := 59) ekb hT gkq rg_34 rfl
    have bk1 := ty_fi (x := k1) (k := 1) ek1 hT gkq rg_34 rfl
    rw [← ekb] at dbk
    rw [← ekb, ← eiq, ← ek1] at vk
    rw [← eiq, ← ek1] at vkt
    obtain ⟨kz169, ekz169⟩ : ∃ f : Nat → Int32, ∀ j : Nat, j < 10 → f j = fI H (fR H kb j) (K.1.2 0 14) := ⟨_, fun _ _ => rfl⟩
    obtain ⟨iz170, eiz170⟩ : ∃ f : Nat → Int32, ∀ j : Nat, j < 10 → f j = fI H iq (11 + 6 * j) := ⟨_, fun _ _ => rfl⟩
    have vk0 : ∀ j : Nat, j < 10 → (j : Int) < k1.toInt → kz169 j = iz170 j := fun j h1 h2 => by rw [ekz169 j h1, eiz170 j h1]; exact vk j h1 h2
    clear vk
    have vk1 : ∀ j : Nat, j < 10 → k1.toInt ≤ (j : Int) → iz170 j = 0 := fun j h1 h2 => by rw [eiz170 j h1]; exact vkt j h1 h2
    clear vkt
    refine lv_aload_n hx hb dL_law_621 rfl (lv_at hl 2 rfl) ?_
    refine lv_aload_n hx hb dL_law_622 rfl (lv_at hl 3 rfl) ?_
    refine lv_iload_n hx hb dL_law_623 rfl (lv_at hl 0 rfl) ?_
    refine lv_iconst (v := 1) hx hb dL_law_624 (by decide) ?_
    refine lv_iadd hx hb dL_law_625 ?_
    refine lv_topi (fun x171 ex171 => ?_)
    obtain ⟨tx171, ejx171, evx171⟩ := lw_ix (k := 1) ex171 hI hL rfl (by decide)
    clear tx171
    refine va_sld hx hb hX hbl (Nat.not_le.mpr hbl) hS (vp_in_iff.mpr evx171) dL_law_626 ?_
    refine W.eq (g2 := F0 m 627 ls [.int (xs (i.toNatClampNeg + 1)), .ref a]) (congrArg (fun z => F0 m 627 ls [.int (xs z), .ref a]) ejx171) ?_
    refine lv_aload_n hx hb dL_law_627 rfl (lv_at hl 3 rfl) ?_
    refine lv_iload_n hx hb dL_law_628 rfl (lv_at hl 0 rfl) ?_
    refine lv_iconst (v := 2) hx hb dL_law_629 (by decide) ?_
    refine lv_iadd hx hb dL_law_630 ?_
    refine lv_topi (fun x172 ex172 => ?_)
    obtain ⟨tx172, ejx172, evx172⟩ := lw_ix (k := 2) ex172 hI hL rfl (by decide)
    clear tx172
    refine va_sld hx hb hX hbl (Nat.not_le.mpr hbl) hS (vp_in_iff.mpr evx172) dL_law_631 ?_
    refine W.eq (g2 := F0 m 632 ls [.int (xs (i.toNatClampNeg + 2)), .int (xs (i.toNatClampNeg + 1)), .ref a]) (congrArg (fun z => F0 m 632 ls [.int (xs z), .int (xs (i.toNatClampNeg + 1)), .ref a]) ejx172) ?_
    refine lv_aload_n hx hb dL_law_632 rfl (lv_at hl 3 rfl) ?_
    refine lv_iload_n hx hb dL_law_633 rfl (lv_at hl 0 rfl) ?_
    refine lv_iconst (v := 3) hx hb dL_law_634 (by decide) ?_
    refine lv_iadd hx hb dL_law_635 ?_
    refine lv_topi (fun x173 ex173 => ?_)
    obtain ⟨tx173, ejx173, evx173⟩ := lw_ix (k := 3) ex173 hI hL rfl (by decide)
    clear tx173
    refine va_sld hx hb hX hbl (Nat.not_le.mpr hbl) hS (vp_in_iff.mpr evx173) dL_law_636 ?_
    refine W.eq (g2 := F0 m 637 ls [.int (xs (i.toNatClampNeg + 3)), .int (xs (i.toNatClampNeg + 2)), .int (xs (i.toNatClampNeg + 1)), .ref a]) (congrArg (fun z => F0 m 637 ls [.int (xs z), .int (xs (i.toNatClampNeg + 2)), .int (xs (i.toNatClampNeg + 1)), .ref a]) ejx173) ?_
    refine x_V (As := [.int (xs (i.toNatClampNeg + 1)), .int (xs (i.toNatClampNeg + 2)), .int (xs (i.toNatClampNeg + 3))]) (rest := []) C (a_X9_shave_q l K G H ((xs (i.toNatClampNeg + 1))) ((xs (i.toNatClampNeg + 2))) ((xs (i.toNatClampNeg + 3))) hT ga) yo_X9_shave wM_L_64 ⟨⟨by decide, by decide⟩, show _ ≤ 1200000 from Nat.le_trans hc (by decide), show _ ≤ 5502250 from Nat.le_trans hs (by decide)⟩ (x_rv C hT (ci := 9) rfl ga rg_68) rfl hl.1 rfl (Nat.le_of_ble_eq_true rfl) dL_law_637 hS (AE_new hN hS.1) (fun vH174 H174 locsH174 pH174 zH174 kH174 hSH174 => ?_)
    obtain ⟨x175, hvH174, m176, hTH174⟩ := pH174
    subst hvH174
    have g177 : CG (avw K H174 b) := CG.congr (fun k hk j => av_eff hT kH174 gb (by decide) (CG_eff [1, 2, 7, 8, 83, 84] (by decide) k hk)) cg
    have g178 : TU (avw K H174 b) (svw K H174 b) := TU.congr (fun k hk j => av_eff hT kH174 gb (by decide) (TU_eff [1, 2, 7, 8, 83, 84] (by decide) k hk)) (fun k hk => sv_eff hT kH174 gb (by decide)) tu
    have g179 : WD (avw K H174 b) := WD.congr (fun k hk j => av_eff hT kH174 gb (by decide) (WD_eff [1, 2, 7, 8, 83, 84] (by decide) k hk)) wd
    have g180 : IM (avw K H174 b) := IM.congr (fun k hk j => av_eff hT kH174 gb (by decide) (IM_eff [1, 2, 7, 8, 83, 84] (by decide) k hk)) im
    have m181 := (ew).trans (fR_kept (x_lt hT kH174 ga (by decide))).symm
    have m182 := (eta).trans (fI_kept (x_lt hT kH174 ga (by decide))).symm
    have m183 := (etb).trans (fI_kept (x_lt hT kH174 gb (by decide))).symm
    have m184 := (es1).trans (fI_kept (x_lt hT kH174 gw (by decide))).symm
    have m185 := (ey1).trans (fI_kept (x_lt hT kH174 gb (by decide))).symm
    have m186 := (es4).trans (fI_kept (x_lt hT kH174 gw (by decide))).symm
    have m187 := (ey4).trans (fI_kept (x_lt hT kH174 gb (by decide))).symm
    have m188 := (es5).trans (fI_kept (x_lt hT kH174 gw (by decide))).symm
    have m189 := (ey5).trans (fI_kept (x_lt hT kH174 gb (by decide))).symm
    have m190 := (es10).trans (fI_kept (x_lt hT kH174 gw (by decide))).symm
    have m191 := (ey10).trans (fI_kept (x_lt hT kH174 gb (by decide))).symm
    have m192 := (es13).trans (fI_kept (x_lt hT kH174 gw (by decide))).symm
    have m193 := (ey13).trans (fI_kept (x_lt hT kH174 gb (by decide))).symm
    have m194 := (es16).trans (fI_kept (x_lt hT kH174 gw (by decide))).symm
    have m195 := (ey16).trans (fI_kept (x_lt hT kH174 gb (by decide))).symm
    have m196 := (ebq).trans (fR_kept (x_lt hT kH174 gw (by decide))).symm
    have m197 := (eaq).trans (fR_kept (x_lt hT kH174 gb (by decide))).symm
    have m198 := (ehi).trans (fI_kept (x_lt hT kH174 gb (by decide))).symm
    have m199 := (fV_kept (x_lt hT kH174 ga (by decide))).trans kn
    have m200 := (eiq).trans (fR_kept (x_lt hT kH174 gb (by decide))).symm
    have m201 := (ek1).trans (fI_kept (x_lt hT kH174 gkq (by decide))).symm
    have m202 := (ei1).trans (fI_kept (x_lt hT kH174 giq (by decide))).symm
    have m203 := (ek4).trans (fI_kept (x_lt hT kH174 gkq (by decide))).symm
    have m204 := (ei4).trans (fI_kept (x_lt hT kH174 giq (by decide))).symm
    have m205 := (ek5).trans (fI_kept (x_lt hT kH174 gkq (by decide))).symm
    have m206 := (ei5).trans (fI_kept (x_lt hT kH174 giq (by decide))).symm
    have m207 := (ek10).trans (fI_kept (x_lt hT kH174 gkq (by decide))).symm
    have m208 := (ei10).trans (fI_kept (x_lt hT kH174 giq (by decide))).symm
    have m209 := (ek13).trans (fI_kept (x_lt hT kH174 gkq (by decide))).symm
    have m210 := (ei13).trans (fI_kept (x_lt hT kH174 giq (by decide))).symm
    have m211 := (ek16).trans (fI_kept (x_lt hT kH174 gkq (by decide))).symm
    have m212 := (ei16).trans (fI_kept (x_lt hT kH174 giq (by decide))).symm
    have m213 := (ekb).trans (fR_kept (x_lt hT kH174 gkq (by decide))).symm
    refine W.eq (g2 := F0 m 640 ls [.int x175]) rfl ?_
    have v214 : ∀ j : Nat, j < 10 → cz101 j = fI H174 (fR H174 bq j) (K.1.2 0 14) := fun j h => (ecz101 j h).trans (by rw [fR_kept (x_lt hT kH174 gbq (by decide))]; exact (m176 _ (bar_g hT gbq j h)).symm)
    have v215 : ∀ j : Nat, j < 10 → rz102 j = fI H174 aq j := fun j h => (erz102 j h).trans (fI_kept (x_lt hT kH174 gaq (by decide))).symm
    have v216 : ∀ j : Nat, j < 10 → kz169 j = fI H174 (fR H174 kb j) (K.1.2 0 14) := fun j h => (ekz169 j h).trans (by rw [fR_kept (x_lt hT kH174 gkb (by decide))]; exact (fI_kept (x_lt hT kH174 (bar_h hT gkb j h) (by decide))).symm)
    have d217 := DB.kept dbk (x_lt hT kH174 gkb (by decide))
    have v218 : ∀ j : Nat, j < 10 → iz170 j = fI H174 iq (11 + 6 * j) := fun j h => (eiz170 j h).trans (fI_kept (x_lt hT kH174 giq (by decide))).symm
    have d219 := DB.kept db (x_lt hT kH174 gbq (by decide))
    refine lv_pop hx hb dL_law_640 rfl ?_
    refine lv_aload_n hx hb dL_law_641 rfl (lv_at hl 1 rfl) ?_
    refine lv_aload_n hx hb dL_law_642 rfl (lv_at hl 3 rfl) ?_
    refine lv_iload_n hx hb dL_law_643 rfl (lv_at hl 0 rfl) ?_
    refine lv_iconst (v := 1) hx hb dL_law_644 (by decide) ?_
    refine lv_iadd hx hb dL_law_645 ?_
    refine lv_topi (fun x220 ex220 => ?_)
    obtain ⟨tx220, ejx220, evx220⟩ := lw_ix (k := 1) ex220 hI hL rfl (by decide)
    clear tx220
    refine va_sld hx hb hX hbl (Nat.not_le.mpr hbl) hSH174 (vp_in_iff.mpr evx220) dL_law_646 ?_
    refine W.eq (g2 := F0 m 647 ls [.int (xs (i.toNatClampNeg + 1)), .ref b]) (congrArg (fun z => F0 m 647 ls [.int (xs z), .ref b]) ejx220) ?_
    refine lv_aload_n hx hb dL_law_647 rfl (lv_at hl 3 rfl) ?_
    refine lv_iload_n hx hb dL_law_648 rfl (lv_at hl 0 rfl) ?_
    refine lv_iconst (v := 2) hx hb dL_law_649 (by decide) ?_
    refine lv_iadd hx hb dL_law_650 ?_
    refine lv_topi (fun x221 ex221 => ?_)
    obtain ⟨tx221, ejx221, evx221⟩ := lw_ix (k := 2) ex221 hI hL rfl (by decide)
    clear tx221
    refine va_sld hx hb hX hbl (Nat.not_le.mpr hbl) hSH174 (vp_in_iff.mpr evx221) dL_law_651 ?_
    refine W.eq (g2 := F0 m 652 ls [.int (xs (i.toNatClampNeg + 2)), .int (xs (i.toNatClampNeg + 1)), .ref b]) (congrArg (fun z => F0 m 652 ls [.int (xs z), .int (xs (i.toNatClampNeg + 1)), .ref b]) ejx221) ?_
    refine lv_aload_n hx hb dL_law_652 rfl (lv_at hl 3 rfl) ?_
    refine lv_iload_n hx hb dL_law_653 rfl (lv_at hl 0 rfl) ?_
    refine lv_iconst (v := 3) hx hb dL_law_654 (by decide) ?_
    refine lv_iadd hx hb dL_law_655 ?_
    refine lv_topi (fun x222 ex222 => ?_)
    obtain ⟨tx222, ejx222, evx222⟩ := lw_ix (k := 3) ex222 hI hL rfl (by decide)
    clear tx222
    refine va_sld hx hb hX hbl (Nat.not_le.mpr hbl) hSH174 (vp_in_iff.mpr evx222) dL_law_656 ?_
    refine W.eq (g2 := F0 m 657 ls [.int (xs (i.toNatClampNeg + 3)), .int (xs (i.toNatClampNeg + 2)), .int (xs (i.toNatClampNeg + 1)), .ref b]) (congrArg (fun z => F0 m 657 ls [.int (xs z), .int (xs (i.toNatClampNeg + 2)), .int (xs (i.toNatClampNeg + 1)), .ref b]) ejx222) ?_
    refine x_V (As := [.int (xs (i.toNatClampNeg + 1)), .int (xs (i.toNatClampNeg + 2)), .int (xs (i.toNatClampNeg + 3))]) (rest := []) C (a_X10_shave l K G H174 ((xs (i.toNatClampNeg + 1))) ((xs (i.toNatClampNeg + 2))) ((xs (i.toNatClampNeg + 3))) hTH174 gb g177 g178 g179 g180) yo_X10_shave wM_L_67 ⟨⟨by decide, by decide⟩, show _ ≤ 1200000 from Nat.le_trans hc (by decide), show _ ≤ 5502250 from Nat.le_trans hs (by decide)⟩ (x_rv C hTH174 (ci := 10) rfl gb rg_112) rfl hl.1 rfl (Nat.le_of_ble_eq_true rfl) dL_law_657 hSH174 (AE_new hN hSH174.1) (fun vH223 H223 locsH223 pH223 zH223 kH223 hSH223 => ?_)
    obtain ⟨x224, hvH223, g225, g226, g227, g228, mf229, hTH223⟩ := pH223
    subst hvH223
    have m230 := (m181).trans (fR_kept (x_lt hTH174 kH223 ga (by decide))).symm
    have m231 := (m182).trans (fI_kept (x_lt hTH174 kH223 ga (by decide))).symm
    have m232 := (m184).trans (fI_kept (x_lt hTH174 kH223 gw (by decide))).symm
    have m233 := (m186).trans (fI_kept (x_lt hTH174 kH223 gw (by decide))).symm
    have m234 := (m188).trans (fI_kept (x_lt hTH174 kH223 gw (by decide))).symm
    have m235 := (m190).trans (fI_kept (x_lt hTH174 kH223 gw (by decide))).symm
    have m236 := (m192).trans (fI_kept (x_lt hTH174 kH223 gw (by decide))).symm
    have m237 := (m194).trans (fI_kept (x_lt hTH174 kH223 gw (by decide))).symm
    have m238 := (m196).trans (fR_kept (x_lt hTH174 kH223 gw (by decide))).symm
    have m239 := (fV_kept (x_lt hTH174 kH223 ga (by decide))).trans m199
    have m240 := (m201).trans (fI_kept (x_lt hTH174 kH223 gkq (by decide))).symm
    have m241 := (m202).trans (fI_kept (x_lt hTH174 kH223 giq (by decide))).symm
    have m242 := (m203).trans (fI_kept (x_lt hTH174 kH223 gkq (by decide))).symm
    have m243 := (m204).trans (fI_kept (x_lt hTH174 kH223 giq (by decide))).symm
    have m244 := (m205).trans (fI_kept (x_lt hTH174 kH223 gkq (by decide))).symm
    have m245 := (m206).trans (fI_kept (x_lt hTH174 kH223 giq (by decide))).symm
    have m246 := (m207).trans (fI_kept (x_lt hTH174 kH223 gkq (by decide))).symm
    have m247 := (m208).trans (fI_kept (x_lt hTH174 kH223 giq (by decide))).symm
    have m248 := (m209).trans (fI_kept (x_lt hTH174 kH223 gkq (by decide))).symm
    have m249 := (m210).trans (fI_kept (x_lt hTH174 kH223 giq (by decide))).symm
    have m250 := (m211).trans (fI_kept (x_lt hTH174 kH223 gkq (by decide))).symm
    have m251 := (m212).trans (fI_kept (x_lt hTH174 kH223 giq (by decide))).symm
    have m252 := (m213).trans (fR_kept (x_lt hTH174 kH223 gkq (by decide))).symm
    have m253 := (m183).trans (MF.i mf229 (k := 18) (by decide) (by decide)).symm
    have m254 := (m185).trans (MF.i mf229 (k := 1) (by decide) (by decide)).symm
    have m255 := (m187).trans (MF.i mf229 (k := 2) (by decide) (by decide)).symm
    have m256 := (m189).trans (MF.i mf229 (k := 3) (by decide) (by decide)).symm
    have m257 := (m191).trans (MF.i mf229 (k := 59) (by decide) (by decide)).symm
    have m258 := (m193).trans (MF.i mf229 (k := 62) (by decide) (by decide)).symm
    have m259 := (m195).trans (MF.i mf229 (k := 65) (by decide) (by decide)).symm
    have m260 := (m197).trans (MF.r mf229 (k := 50) (by decide) (by decide)).symm
    have m261 := (m198).trans (MF.i mf229 (k := 70) (by decide) (by decide)).symm
    have m262 := (m200).trans (MF.r mf229 (k := 73) (by decide) (by decide)).symm
    refine W.eq (g2 := F0 m 660 ls [.int x224]) rfl ?_
    have v263 : ∀ j : Nat, j < 10 → cz101 j = fI H223 (fR H223 bq j) (K.1.2 0 14) := fun j h => (v214 j h).trans (by rw [fR_kept (x_lt hTH174 kH223 gbq (by decide))]; exact (fI_kept (x_lt hTH174 kH223 (bar_g hTH174 gbq j h) (by decide))).symm)
    have v264 : ∀ j : Nat, j < 10 → rz102 j = fI H223 aq j := fun j h => (v215 j h).trans (fI_kept (x_lt hTH174 kH223 gaq (by decide))).symm
    have v265 : ∀ j : Nat, j < 10 → kz169 j = fI H223 (fR H223 kb j) (K.1.2 0 14) := fun j h => (v216 j h).trans (by rw [fR_kept (x_lt hTH174 kH223 gkb (by decide))]; exact (fI_kept (x_lt hTH174 kH223 (bar_h hTH174 gkb j h) (by decide))).symm)
    have d266 := DB.kept d217 (x_lt hTH174 kH223 gkb (by decide))
    have v267 : ∀ j : Nat, j < 10 → iz170 j = fI H223 iq (11 + 6 * j) := fun j h => (v218 j h).trans (fI_kept (x_lt hTH174 kH223 giq (by decide))).symm
    have d268 := DB.kept d219 (x_lt hTH174 kH223 gbq (by decide))
    refine lv_pop hx hb dL_law_660 rfl ?_
    refine lv_goto (tgt := 1509) hx hb dL_law_661 (by decide) ?_
    exact nx G H223 locsH223 _ _ ls ⟨hTH223, hN, ga, gb, g225, g226, g227, g228, ⟨(by rw [← m231, ← m253]; exact rt), (by rw [← m230, ← m232, ← m254]; exact r1), (by rw [← m230, ← m233, ← m255]; exact r4), (by rw [← m230, ← m234, ← m256]; exact r5), (by rw [← m230, ← m235, ← m257]; exact r10), (by rw [← m230, ← m236, ← m258]; exact r13), (by rw [← m230, ← m237, ← m259]; exact r16)⟩, Or.inr ⟨kq, m239, gkq, (by rw [← m261]; exact h70), (by rw [← m240, ← m262, ← m241]; exact q1), (by rw [← m242, ← m262, ← m243]; exact q4), (by rw [← m244, ← m262, ← m245]; exact q5), (by rw [← m246, ← m262, ← m247]; exact q10), (by rw [← m248, ← m262, ← m249]; exact q13), (by rw [← m250, ← m262, ← m251]; exact q16), (by rw [← m252]; exact d266), (by rw [← m252, ← m262, ← m240]; exact fun j h1 h2 => by rw [← v265 j h1, ← v267 j h1]; exact vk0 j h1 (by omega)), (by rw [← m262, ← m240]; exact fun j h1 h2 => by rw [← v267 j h1]; exact vk1 j h1 (by omega))⟩, (by unfold RB; rw [← m230, ← m238, ← m260, ← m254]; exact ⟨d268, fun j h1 h2 => by rw [← v263 j h1, ← v264 j h1]; exact rel j h1 (by omega), fun j h1 h2 => by rw [← v264 j h1]; exact tl j h1 (by omega)⟩), hSH223⟩ hl ⟨hc, hs, fun h => by have h1 := h.symm.trans m239; cases h1⟩