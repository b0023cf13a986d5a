set_option maxRecDepth 100000 in
set_option maxHeartbeats 8000000 in
theorem lw_c28 {p : Program} {l : Launch} {e : Env} {s : State} {m : MethodId} {below : List Frame} {meth : Method} {c : Code} {K : KE} {b0 L : Nat} {xs : Nat → Int32} {G : Nat → Option Nat} {H : Heap} {locs : List Loc} {a b : Nat} {cells slots : Nat} {ls : Array Slot} {i : Int32} {n : Nat} (D : LC p K s m meth c b0 L xs) (S : SX K s G H locs a b) (hl : lv_has ls 4 [(3, .int i), (2, .ref b), (1, .ref a), (0, .ref b0)]) (hi : 0 ≤ i.toInt ∧ i.toInt + 6 ≤ L) (hn : n ≤ 511) (hB : BD K H a cells slots) (nx : ∀ (G : Nat → Option Nat) (H : Heap) (locs : List Loc) (cells slots : Nat) (ls : Array Slot), SX K s G H locs a b → lv_has ls 4 [(3, .int i), (2, .ref b), (1, .ref a), (0, .ref b0)] → BD K H a cells slots → W p l e room_1 s m #[Value.ref b0] below meth c H locs cells slots (lw_Z below #[Value.ref b0] s) (F0 m 1509 ls [])) : W p l e room_1 s m #[Value.ref b0] below meth c H locs cells slots (lw_Z below #[Value.ref b0] s) (F0 m 1282 ls []) := by
  have hI := hi
  obtain ⟨C, hX, hbl, hL⟩ := id D
  obtain ⟨hx, hb, hml, hown, hts, hKT, hr, hlocks, hnm⟩ := id C
  obtain ⟨hT, hN, ga, gb, cg, tu, wd, im, ⟨rt, r1, r4, r5, r10, r13, r16⟩, hk, hrb, hS⟩ := S
  obtain ⟨hc, hs, hB0⟩ := hB
  have n_m1 : ((-1) : Int32).toInt = -1 := rfl
  have n_0 : (0 : Int32).toInt = 0 := rfl
  have n_1 : (1 : Int32).toInt = 1 := rfl
  have n_2 : (2 : Int32).toInt = 2 := rfl
  obtain ⟨w, ew⟩ : ∃ z : Nat, z = fR H a (K.1.2 9 0) := ⟨_, rfl⟩
  have gw := ty_fr (q := w) (k := 0) (u := 0) ew hT ga rg_68 rfl
  rw [← ew] at r1 r4 r5 r10 r13 r16
  obtain ⟨ta, eta⟩ : ∃ z : Int32, z = fI H a (K.1.2 9 3) := ⟨_, rfl⟩
  rw [← eta] at rt
  obtain ⟨tb, etb⟩ : ∃ z : Int32, z = fI H b (K.1.2 10 18) := ⟨_, rfl⟩
  rw [← etb] at rt
  obtain ⟨s1, es1⟩ : ∃ z : Int32, z = fI H w (K.1.2 8 1) := ⟨_, rfl⟩
  rw [← es1] at r1
  obtain ⟨y1, ey1⟩ : ∃ z : Int32, z = fI H b (K.1.2 10 1) := ⟨_, rfl⟩
  rw [← ey1] at r1
  obtain ⟨s4, es4⟩ : ∃ z : Int32, z = fI H w (K.1.2 8 4) := ⟨_, rfl⟩
  rw [← es4] at r4
  obtain ⟨y4, ey4⟩ : ∃ z : Int32, z = fI H b (K.1.2 10 2) := ⟨_, rfl⟩
  rw [← ey4] at r4
  obtain ⟨s5, es5⟩ : ∃ z : Int32, z = fI H w (K.1.2 8 5) := ⟨_, rfl⟩
  rw [← es5] at r5
  obtain ⟨y5, ey5⟩ : ∃ z : Int32, z = fI H b (K.1.2 10 3) := ⟨_, rfl⟩
  rw [← ey5] at r5
  obtain ⟨s10, es10⟩ : ∃ z : Int32, z = fI H w (K.1.2 8 10) := ⟨_, rfl⟩
  rw [← es10] at r10
  obtain ⟨y10, ey10⟩ : ∃ z : Int32, z = fI H b (K.1.2 10 59) := ⟨_, rfl⟩
  rw [← ey10] at r10
  obtain ⟨s13, es13⟩ : ∃ z : Int32, z = fI H w (K.1.2 8 13) := ⟨_, rfl⟩
  rw [← es13] at r13
  obtain ⟨y13, ey13⟩ : ∃ z : Int32, z = fI H b (K.1.2 10 62) := ⟨_, rfl⟩
  rw [← ey13] at r13
  obtain ⟨s16, es16⟩ : ∃ z : Int32, z = fI H w (K.1.2 8 16) := ⟨_, rfl⟩
  rw [← es16] at r16
  obtain ⟨y16, ey16⟩ : ∃ z : Int32, z = fI H b (K.1.2 10 65) := ⟨_, rfl⟩
  rw [← ey16] at r16
  obtain ⟨bq, ebq⟩ : ∃ z : Nat, z = fR H w (K.1.2 8 0) := ⟨_, rfl⟩
  have gbq := ty_fr (q := bq) (k := 0) (u := 25) ebq hT gw rg_0 rfl
  obtain ⟨aq, eaq⟩ : ∃ z : Nat, z = fR H b (K.1.2 10 50) := ⟨_, rfl⟩
  have gaq := ty_fr (q := aq) (k := 50) (u := 146) eaq hT gb rg_112 rfl
  have bs1 := ty_fi (x := s1) (k := 1) es1 hT gw rg_0 rfl
  have by1 := ty_fi (x := y1) (k := 1) ey1 hT gb rg_112 rfl
  obtain ⟨db, vr, vt⟩ := hrb
  rw [← ew, ← ebq] at db
  rw [← ew, ← ebq, ← eaq, ← ey1] at vr
  rw [← eaq, ← ey1] at vt
  obtain ⟨cz101, ecz101⟩ : ∃ f : Nat → Int32, ∀ j : Nat, j < 10 → f j = fI H (fR H bq j) (K.1.2 0 14) := ⟨_, fun _ _ => rfl⟩
  obtain ⟨rz102, erz102⟩ : ∃ f : Nat → Int32, ∀ j : Nat, j < 10 → f j = fI H aq j := ⟨_, fun _ _ => rfl⟩
  have rel : ∀ j : Nat, j < 10 → (j : Int) < y1.toInt → cz101 j = rz102 j := fun j h1 h2 => by rw [ecz101 j h1, erz102 j h1]; exact vr j h1 h2
  clear vr
  have tl : ∀ j : Nat, j < 10 → y1.toInt ≤ (j : Int) → rz102 j = 0 := fun j h1 h2 => by rw [erz102 j h1]; exact vt j h1 h2
  clear vt
  rcases hk with ⟨kn, h70⟩ | ⟨kq, kn, gkq, h70, q1, q4, q5, q10, q13, q16, dbk, vk, vkt⟩
  · skip
    obtain ⟨hi, ehi⟩ : ∃ z : Int32, z = fI H b (K.1.2 10 70) := ⟨_, rfl⟩
    rw [← ehi] at h70
    obtain ⟨hc0, hs0⟩ := hB0 kn
    obtain ⟨iq, eiq⟩ : ∃ z : Nat, z = fR H b (K.1.2 10 73) := ⟨_, rfl⟩
    have giq := ty_fr (q := iq) (k := 73) (u := 162) eiq hT gb rg_112 rfl
    refine lv_aload_n hx hb dL_law_1282 rfl (lv_at hl 2 rfl) ?_
    refine lv_aload_n hx hb dL_law_1283 rfl (lv_at hl 3 rfl) ?_
    refine lv_iload_n hx hb dL_law_1284 rfl (lv_at hl 0 rfl) ?_
    refine lv_iconst (v := 1) hx hb dL_law_1285 (by decide) ?_
    refine lv_iadd hx hb dL_law_1286 ?_
    refine lv_topi (fun x103 ex103 => ?_)
    obtain ⟨tx103, ejx103, evx103⟩ := lw_ix (k := 1) ex103 hI hL rfl (by decide)
    clear tx103
    refine va_sld hx hb hX hbl (Nat.not_le.mpr hbl) hS (vp_in_iff.mpr evx103) dL_law_1287 ?_
    refine W.eq (g2 := F0 m 1288 ls [.int (xs (i.toNatClampNeg + 1)), .ref a]) (congrArg (fun z => F0 m 1288 ls [.int (xs z), .ref a]) ejx103) ?_
    refine lv_aload_n hx hb dL_law_1288 rfl (lv_at hl 3 rfl) ?_
    refine lv_iload_n hx hb dL_law_1289 rfl (lv_at hl 0 rfl) ?_
    refine lv_iconst (v := 2) hx hb dL_law_1290 (by decide) ?_
    refine lv_iadd hx hb dL_law_1291 ?_
    refine lv_topi (fun x104 ex104 => ?_)
    obtain ⟨tx104, ejx104, evx104⟩ := lw_ix (k := 2) ex104 hI hL rfl (by decide)
    clear tx104
    refine va_sld hx hb hX hbl (Nat.not_le.mpr hbl) hS (vp_in_iff.mpr evx104) dL_law_1292 ?_
    refine W.eq (g2 := F0 m 1293 ls [.int (xs (i.toNatClampNeg + 2)), .int (xs (i.toNatClampNeg + 1)), .ref a]) (congrArg (fun z => F0 m 1293 ls [.int (xs z), .int (xs (i.toNatClampNeg + 1)), .ref a]) ejx104) ?_
    refine x_V (As := [.int (xs (i.toNatClampNeg + 1)), .int (xs (i.toNatClampNeg + 2))]) (rest := []) C (a_X9_note_r l K G H ((xs (i.toNatClampNeg + 1))) ((xs (i.toNatClampNeg + 2))) (s1) (s4) (s5) (s10) (s13) (s16) hT ga gw ew gbq ebq es1 es4 es5 es10 es13 es16) yo_X9_note wM_L_133 ⟨⟨by decide, by decide⟩, show _ ≤ 1200000 from Nat.le_trans hc (by decide), show _ ≤ 5502250 from Nat.le_trans hs (by decide)⟩ (x_rv C hT (ci := 9) rfl ga rg_68) rfl hl.1 rfl (Nat.le_of_ble_eq_true rfl) dL_law_1293 hS (AE_new hN hS.1) (fun vH105 H105 locsH105 pH105 zH105 kH105 hSH105 => ?_)
    obtain ⟨x106, x107, x108, x109, x110, x111, x112, hvH105, ex107, ex108, ex109, ex110, ex111, ex112, hrH105, m113, hTH105⟩ := pH105
    subst hvH105
    have g114 : CG (avw K H105 b) := CG.congr (fun k hk j => av_eff hT kH105 gb (by decide) (CG_eff [0, 30, 31] (by decide) k hk)) cg
    have g115 : TU (avw K H105 b) (svw K H105 b) := TU.congr (fun k hk j => av_eff hT kH105 gb (by decide) (TU_eff [0, 30, 31] (by decide) k hk)) (fun k hk => sv_eff hT kH105 gb (by decide)) tu
    have g116 : WD (avw K H105 b) := WD.congr (fun k hk j => av_eff hT kH105 gb (by decide) (WD_eff [0, 30, 31] (by decide) k hk)) wd
    have g117 : IM (avw K H105 b) := IM.congr (fun k hk j => av_eff hT kH105 gb (by decide) (IM_eff [0, 30, 31] (by decide) k hk)) im
    have m118 := (ew).trans (fR_kept (x_lt hT kH105 ga (by decide))).symm
    have m119 := (eta).trans (fI_kept (x_lt hT kH105 ga (by decide))).symm
    have m120 := (etb).trans (fI_kept (x_lt hT kH105 gb (by decide))).symm
    have m121 := (ey1).trans (fI_kept (x_lt hT kH105 gb (by decide))).symm
    have m122 := (ey4).trans (fI_kept (x_lt hT kH105 gb (by decide))).symm
    have m123 := (ey5).trans (fI_kept (x_lt hT kH105 gb (by decide))).symm
    have m124 := (ey10).trans (fI_kept (x_lt hT kH105 gb (by decide))).symm
    have m125 := (ey13).trans (fI_kept (x_lt hT kH105 gb (by decide))).symm
    have m126 := (ey16).trans (fI_kept (x_lt hT kH105 gb (by decide))).symm
    have m127 := (eaq).trans (fR_kept (x_lt hT kH105 gb (by decide))).symm
    have m128 := (ehi).trans (fI_kept (x_lt hT kH105 gb (by decide))).symm
    have m129 := (fV_kept (x_lt hT kH105 ga (by decide))).trans kn
    have m130 := (eiq).trans (fR_kept (x_lt hT kH105 gb (by decide))).symm
    have bx107 := ty_fi (x := x107) (k := 1) ex107 hTH105 gw rg_0 rfl
    have bx108 := ty_fi (x := x108) (k := 4) ex108 hTH105 gw rg_0 rfl
    have bx109 := ty_fi (x := x109) (k := 5) ex109 hTH105 gw rg_0 rfl
    have bx110 := ty_fi (x := x110) (k := 10) ex110 hTH105 gw rg_0 rfl
    have bx111 := ty_fi (x := x111) (k := 13) ex111 hTH105 gw rg_0 rfl
    have bx112 := ty_fi (x := x112) (k := 16) ex112 hTH105 gw rg_0 rfl
    refine W.eq (g2 := F0 m 1296 ls [.int x106]) rfl ?_
    have v131 : ∀ j : Nat, j < 10 → cz101 j = fI H105 (fR H105 bq j) (K.1.2 0 14) := fun j h => (ecz101 j h).trans (by rw [fR_kept (x_lt hT kH105 gbq (by decide))]; exact (fI_kept (x_lt hT kH105 (bar_g hT gbq j h) (by decide))).symm)
    have v132 : ∀ j : Nat, j < 10 → rz102 j = fI H105 aq j := fun j h => (erz102 j h).trans (fI_kept (x_lt hT kH105 gaq (by decide))).symm
    have d133 := DB.kept db (x_lt hT kH105 gbq (by decide))
    refine lv_pop hx hb dL_law_1296 rfl ?_
    refine lv_aload_n hx hb dL_law_1297 rfl (lv_at hl 1 rfl) ?_
    refine lv_aload_n hx hb dL_law_1298 rfl (lv_at hl 3 rfl) ?_
    refine lv_iload_n hx hb dL_law_1299 rfl (lv_at hl 0 rfl) ?_
    refine lv_iconst (v := 1) hx hb dL_law_1300 (by decide) ?_
    refine lv_iadd hx hb dL_law_1301 ?_
    refine lv_topi (fun x134 ex134 => ?_)
    obtain ⟨tx134, ejx134, evx134⟩ := lw_ix (k := 1) ex134 hI hL rfl (by decide)
    clear tx134
    refine va_sld hx hb hX hbl (Nat.not_le.mpr hbl) hSH105 (vp_in_iff.mpr evx134) dL_law_1302 ?_
    refine W.eq (g2 := F0 m 1303 ls [.int (xs (i.toNatClampNeg + 1)), .ref b]) (congrArg (fun z => F0 m 1303 ls [.int (xs z), .ref b]) ejx134) ?_
    refine lv_aload_n hx hb dL_law_1303 rfl (lv_at hl 3 rfl) ?_
    refine lv_iload_n hx hb dL_law_1304 rfl (lv_at hl 0 rfl) ?_
    refine lv_iconst (v := 2) hx hb dL_law_1305 (by decide) ?_
    refine lv_iadd hx hb dL_law_1306 ?_
    refine lv_topi (fun x135 ex135 => ?_)
    obtain ⟨tx135, ejx135, evx135⟩ := lw_ix (k := 2) ex135 hI hL rfl (by decide)
    clear tx135
    refine va_sld hx hb hX hbl (Nat.not_le.mpr hbl) hSH105 (vp_in_iff.mpr evx135) dL_law_1307 ?_
    refine W.eq (g2 := F0 m 1308 ls [.int (xs (i.toNatClampNeg + 2)), .int (xs (i.toNatClampNeg + 1)), .ref b]) (congrArg (fun z => F0 m 1308 ls [.int (xs z), .int (xs (i.toNatClampNeg + 1)), .ref b]) ejx135) ?_
    refine x_V (As := [.int (xs (i.toNatClampNeg + 1)), .int (xs (i.toNatClampNeg + 2))]) (rest := []) C (a_X10_note_r l K G H105 ((xs (i.toNatClampNeg + 1))) ((xs (i.toNatClampNeg + 2))) (y13) hTH105 gb m125 g114 g115 g116 g117) yo_X10_note wM_L_136 ⟨⟨by decide, by decide⟩, show _ ≤ 1200000 from Nat.le_trans hc (by decide), show _ ≤ 5502250 from Nat.le_trans hs (by decide)⟩ (x_rv C hTH105 (ci := 10) rfl gb rg_112) rfl hl.1 rfl (Nat.le_of_ble_eq_true rfl) dL_law_1308 hSH105 (AE_new hN hSH105.1) (fun vH136 H136 locsH136 pH136 zH136 kH136 hSH136 => ?_)
    obtain ⟨x137, x138, hvH136, ex138, hrH136, g139, g140, g141, g142, mf143, hTH136⟩ := pH136
    subst hvH136
    have m144 := (m118).trans (fR_kept (x_lt hTH105 kH136 ga (by decide))).symm
    have m145 := (m119).trans (fI_kept (x_lt hTH105 kH136 ga (by decide))).symm
    have m146 := (fV_kept (x_lt hTH105 kH136 ga (by decide))).trans m129
    have m147 := (m113).trans (fR_kept (x_lt hTH105 kH136 gw (by decide))).symm
    have m148 := (ex107).trans (fI_kept (x_lt hTH105 kH136 gw (by decide))).symm
    have m149 := (ex108).trans (fI_kept (x_lt hTH105 kH136 gw (by decide))).symm
    have m150 := (ex109).trans (fI_kept (x_lt hTH105 kH136 gw (by decide))).symm
    have m151 := (ex110).trans (fI_kept (x_lt hTH105 kH136 gw (by decide))).symm
    have m152 := (ex111).trans (fI_kept (x_lt hTH105 kH136 gw (by decide))).symm
    have m153 := (ex112).trans (fI_kept (x_lt hTH105 kH136 gw (by decide))).symm
    have m154 := (m120).trans (MF.i mf143 (k := 18) (by decide) (by decide)).symm
    have m155 := (m121).trans (MF.i mf143 (k := 1) (by decide) (by decide)).symm
    have m156 := (m122).trans (MF.i mf143 (k := 2) (by decide) (by decide)).symm
    have m157 := (m123).trans (MF.i mf143 (k := 3) (by decide) (by decide)).symm
    have m158 := (m124).trans (MF.i mf143 (k := 59) (by decide) (by decide)).symm
    have m159 := (m126).trans (MF.i mf143 (k := 65) (by decide) (by decide)).symm
    have m160 := (m127).trans (MF.r mf143 (k := 50) (by decide) (by decide)).symm
    have m161 := (m128).trans (MF.i mf143 (k := 70) (by decide) (by decide)).symm
    have m162 := (m130).trans (MF.r mf143 (k := 73) (by decide) (by decide)).symm
    have bx138 := ty_fi (x := x138) (k := 62) ex138 hTH136 gb rg_112 rfl
    refine W.eq (g2 := F0 m 1311 ls [.int x137]) rfl ?_
    have v163 : ∀ j : Nat, j < 10 → cz101 j = fI H136 (fR H136 bq j) (K.1.2 0 14) := fun j h => (v131 j h).trans (by rw [fR_kept (x_lt hTH105 kH136 gbq (by decide))]; exact (fI_kept (x_lt hTH105 kH136 (bar_g hTH105 gbq j h) (by decide))).symm)
    have v164 : ∀ j : Nat, j < 10 → rz102 j = fI H136 aq j := fun j h => (v132 j h).trans (fI_kept (x_lt hTH105 kH136 gaq (by decide))).symm
    have d165 := DB.kept d133 (x_lt hTH105 kH136 gbq (by decide))
    refine lv_pop hx hb dL_law_1311 rfl ?_
    refine lv_goto (tgt := 1509) hx hb dL_law_1312 (by decide) ?_
    exact nx G H136 locsH136 _ _ ls ⟨hTH136, hN, ga, gb, g139, g140, g141, g142, ⟨(by rw [← m145, ← m154]; exact rt), (by rw [← m144, ← m148, ← m155]; omega), (by rw [← m144, ← m149, ← m156]; omega), (by rw [← m144, ← m150, ← m157]; omega), (by rw [← m144, ← m151, ← m158]; omega), (by rw [← m144, ← m152, ← ex138]; omega), (by rw [← m144, ← m153, ← m159]; omega)⟩, Or.inl ⟨m146, (by rw [← m161]; exact h70)⟩, (by unfold RB; rw [← m144, ← m147, ← m160, ← m155]; exact ⟨d165, fun j h1 h2 => by rw [← v163 j h1, ← v164 j h1]; exact rel j h1 (by omega), fun j h1 h2 => by rw [← v164 j h1]; exact tl j h1 (by omega)⟩), hSH136⟩ hl ⟨hc, hs, fun _ => ⟨hc0, hs0⟩⟩
  · skip
    obtain ⟨hi, ehi⟩ : ∃ z : Int32, z = fI H b (K.1.2 10 70) := ⟨_, rfl⟩
    rw [← ehi] at h70
    obtain ⟨iq, eiq⟩ : ∃ z : Nat, z = fR H b (K.1.2 10 73) := ⟨_, rfl⟩
    have giq := ty_fr (q := iq) (k := 73) (u := 162) eiq hT gb rg_112 rfl
    rw [← eiq] at q1 q4 q5 q10 q13 q16
    obtain ⟨k1, ek1⟩ : ∃ z : Int32, z = fI H kq (K.1.2 8 1) := ⟨_, rfl⟩
    rw [← ek1] at q1
    obtain ⟨i1, ei1⟩ : ∃ z : Int32, z = fI H iq ((0 : Int32).toNatClampNeg) := ⟨_, rfl⟩
    rw [← ei1] at q1
    obtain ⟨k4, ek4⟩ : ∃ z : Int32, z = fI H kq (K.1.2 8 4) := ⟨_, rfl⟩
    rw [← ek4] at q4
    obtain ⟨i4, ei4⟩ : ∃ z : Int32, z = fI H iq ((1 : Int32).toNatClampNeg) := ⟨_, rfl⟩
    rw [← ei4] at q4
    obtain ⟨k5, ek5⟩ : ∃ z : Int32, z = fI H kq (K.1.2 8 5) := ⟨_, rfl⟩
    rw [← ek5] at q5
    obtain ⟨i5, ei5⟩ : ∃ z : Int32, z = fI H iq ((2 : Int32).toNatClampNeg) := ⟨_, rfl⟩
    rw [← ei5] at q5
    obtain ⟨k10, ek10⟩ : ∃ z : Int32, z = fI H kq (K.1.2 8 10) := ⟨_, rfl⟩
    rw [← ek10] at q10
    obtain ⟨i10, ei10⟩ : ∃ z : Int32, z = fI H iq ((3 : Int32).toNatClampNeg) := ⟨_, rfl⟩
    rw [← ei10] at q10
    obtain ⟨k13, ek13⟩ : ∃ z : Int32, z = fI H kq (K.1.2 8 13) := ⟨_, rfl⟩
    rw [← ek13] at q13
    obtain ⟨i13, ei13⟩ : ∃ z : Int32, z = fI H iq ((4 : Int32).toNatClampNeg) := ⟨_, rfl⟩
    rw [← ei13] at q13
    obtain ⟨k16, ek16⟩ : ∃ z : Int32, z = fI H kq (K.1.2 8 16) := ⟨_, rfl⟩
    rw [← ek16] at q16
    obtain ⟨i16, ei16⟩ : ∃ z : Int32, z = fI H iq ((5 : Int32).toNatClampNeg) := ⟨_, rfl⟩
    rw [← ei16] at q16
    obtain ⟨kb, ekb⟩ : ∃ z : Nat, z = fR H kq (K.1.2 8 0) := ⟨_, rfl⟩
    have gkb := ty_fr (q := kb) (k := 0) (u := 59) ekb hT gkq rg_34 rfl
    have bk1 := ty_fi (x := k1) (k := 1) ek1 hT gkq rg_34 rfl
    rw [← ekb] at dbk
    rw [← ekb, ← eiq, ← ek1] at vk
    rw [← eiq, ← ek1] at vkt
    obtain ⟨kz166, ekz166⟩ : ∃ f : Nat → Int32, ∀ j : Nat, j < 10 → f j = fI H (fR H kb j) (K.1.2 0 14) := ⟨_, fun _ _ => rfl⟩
    obtain ⟨iz167, eiz167⟩ : ∃ f : Nat → Int32, ∀ j : Nat, j < 10 → f j = fI H iq (11 + 6 * j) := ⟨_, fun _ _ => rfl⟩
    have vk0 : ∀ j : Nat, j < 10 → (j : Int) < k1.toInt → kz166 j = iz167 j := fun j h1 h2 => by rw [ekz166 j h1, eiz167 j h1]; exact vk j h1 h2
    clear vk
    have vk1 : ∀ j : Nat, j < 10 → k1.toInt ≤ (j : Int) → iz167 j = 0 := fun j h1 h2 => by rw [eiz167 j h1]; exact vkt j h1 h2
    clear vkt
    refine lv_aload_n hx hb dL_law_1282 rfl (lv_at hl 2 rfl) ?_
    refine lv_aload_n hx hb dL_law_1283 rfl (lv_at hl 3 rfl) ?_
    refine lv_iload_n hx hb dL_law_1284 rfl (lv_at hl 0 rfl) ?_
    refine lv_iconst (v := 1) hx hb dL_law_1285 (by decide) ?_
    refine lv_iadd hx hb dL_law_1286 ?_
    refine lv_topi (fun x168 ex168 => ?_)
    obtain ⟨tx168, ejx168, evx168⟩ := lw_ix (k := 1) ex168 hI hL rfl (by decide)
    clear tx168
    refine va_sld hx hb hX hbl (Nat.not_le.mpr hbl) hS (vp_in_iff.mpr evx168) dL_law_1287 ?_
    refine W.eq (g2 := F0 m 1288 ls [.int (xs (i.toNatClampNeg + 1)), .ref a]) (congrArg (fun z => F0 m 1288 ls [.int (xs z), .ref a]) ejx168) ?_
    refine lv_aload_n hx hb dL_law_1288 rfl (lv_at hl 3 rfl) ?_
    refine lv_iload_n hx hb dL_law_1289 rfl (lv_at hl 0 rfl) ?_
    refine lv_iconst (v := 2) hx hb dL_law_1290 (by decide) ?_
    refine lv_iadd hx hb dL_law_1291 ?_
    refine lv_topi (fun x169 ex169 => ?_)
    obtain ⟨tx169, ejx169, evx169⟩ := lw_ix (k := 2) ex169 hI hL rfl (by decide)
    clear tx169
    refine va_sld hx hb hX hbl (Nat.not_le.mpr hbl) hS (vp_in_iff.mpr evx169) dL_law_1292 ?_
    refine W.eq (g2 := F0 m 1293 ls [.int (xs (i.toNatClampNeg + 2)), .int (xs (i.toNatClampNeg + 1)), .ref a]) (congrArg (fun z => F0 m 1293 ls [.int (xs z), .int (xs (i.toNatClampNeg + 1)), .ref a]) ejx169) ?_
    refine x_V (As := [.int (xs (i.toNatClampNeg + 1)), .int (xs (i.toNatClampNeg + 2))]) (rest := []) C (a_X9_note_r l K G H ((xs (i.toNatClampNeg + 1))) ((xs (i.toNatClampNeg + 2))) (s1) (s4) (s5) (s10) (s13) (s16) hT ga gw ew gbq ebq es1 es4 es5 es10 es13 es16) yo_X9_note wM_L_133 ⟨⟨by decide, by decide⟩, show _ ≤ 1200000 from Nat.le_trans hc (by decide), show _ ≤ 5502250 from Nat.le_trans hs (by decide)⟩ (x_rv C hT (ci := 9) rfl ga rg_68) rfl hl.1 rfl (Nat.le_of_ble_eq_true rfl) dL_law_1293 hS (AE_new hN hS.1) (fun vH170 H170 locsH170 pH170 zH170 kH170 hSH170 => ?_)
    obtain ⟨x171, x172, x173, x174, x175, x176, x177, hvH170, ex172, ex173, ex174, ex175, ex176, ex177, hrH170, m178, hTH170⟩ := pH170
    subst hvH170
    have g179 : CG (avw K H170 b) := CG.congr (fun k hk j => av_eff hT kH170 gb (by decide) (CG_eff [0, 30, 31] (by decide) k hk)) cg
    have g180 : TU (avw K H170 b) (svw K H170 b) := TU.congr (fun k hk j => av_eff hT kH170 gb (by decide) (TU_eff [0, 30, 31] (by decide) k hk)) (fun k hk => sv_eff hT kH170 gb (by decide)) tu
    have g181 : WD (avw K H170 b) := WD.congr (fun k hk j => av_eff hT kH170 gb (by decide) (WD_eff [0, 30, 31] (by decide) k hk)) wd
    have g182 : IM (avw K H170 b) := IM.congr (fun k hk j => av_eff hT kH170 gb (by decide) (IM_eff [0, 30, 31] (by decide) k hk)) im
    have m183 := (ew).trans (fR_kept (x_lt hT kH170 ga (by decide))).symm
    have m184 := (eta).trans (fI_kept (x_lt hT kH170 ga (by decide))).symm
    have m185 := (etb).trans (fI_kept (x_lt hT kH170 gb (by decide))).symm
    have m186 := (ey1).trans (fI_kept (x_lt hT kH170 gb (by decide))).symm
    have m187 := (ey4).trans (fI_kept (x_lt hT kH170 gb (by decide))).symm
    have m188 := (ey5).trans (fI_kept (x_lt hT kH170 gb (by decide))).symm
    have m189 := (ey10).trans (fI_kept (x_lt hT kH170 gb (by decide))).symm
    have m190 := (ey13).trans (fI_kept (x_lt hT kH170 gb (by decide))).symm
    have m191 := (ey16).trans (fI_kept (x_lt hT kH170 gb (by decide))).symm
    have m192 := (eaq).trans (fR_kept (x_lt hT kH170 gb (by decide))).symm
    have m193 := (ehi).trans (fI_kept (x_lt hT kH170 gb (by decide))).symm
    have m194 := (fV_kept (x_lt hT kH170 ga (by decide))).trans kn
    have m195 := (eiq).trans (fR_kept (x_lt hT kH170 gb (by decide))).symm
    have m196 := (ek1).trans (fI_kept (x_lt hT kH170 gkq (by decide))).symm
    have m197 := (ei1).trans (fI_kept (x_lt hT kH170 giq (by decide))).symm
    have m198 := (ek4).trans (fI_kept (x_lt hT kH170 gkq (by decide))).symm
    have m199 := (ei4).trans (fI_kept (x_lt hT kH170 giq (by decide))).symm
    have m200 := (ek5).trans (fI_kept (x_lt hT kH170 gkq (by decide))).symm
    have m201 := (ei5).trans (fI_kept (x_lt hT kH170 giq (by decide))).symm
    have m202 := (ek10).trans (fI_kept (x_lt hT kH170 gkq (by decide))).symm
    have m203 := (ei10).trans (fI_kept (x_lt hT kH170 giq (by decide))).symm
    have m204 := (ek13).trans (fI_kept (x_lt hT kH170 gkq (by decide))).symm
    have m205 := (ei13).trans (fI_kept (x_lt hT kH170 giq (by decide))).symm
    have m206 := (ek16).trans (fI_kept (x_lt hT kH170 gkq (by decide))).symm
    have m207 := (ei16).trans (fI_kept (x_lt hT kH170 giq (by decide))).symm
    have m208 := (ekb).trans (fR_kept (x_lt hT kH170 gkq (by decide))).symm
    have bx172 := ty_fi (x := x172) (k := 1) ex172 hTH170 gw rg_0 rfl
    have bx173 := ty_fi (x := x173) (k := 4) ex173 hTH170 gw rg_0 rfl
    have bx174 := ty_fi (x := x174) (k := 5) ex174 hTH170 gw rg_0 rfl
    have bx175 := ty_fi (x := x175) (k := 10) ex175 hTH170 gw rg_0 rfl
    have bx176 := ty_fi (x := x176) (k := 13) ex176 hTH170 gw rg_0 rfl
    have bx177 := ty_fi (x := x177) (k := 16) ex177 hTH170 gw rg_0 rfl
    refine W.eq (g2 := F0 m 1296 ls [.int x171]) rfl ?_
    have v209 : ∀ j : Nat, j < 10 → cz101 j = fI H170 (fR H170 bq j) (K.1.2 0 14) := fun j h => (ecz101 j h).trans (by rw [fR_kept (x_lt hT kH170 gbq (by decide))]; exact (fI_kept (x_lt hT kH170 (bar_g hT gbq j h) (by decide))).symm)
    have v210 : ∀ j : Nat, j < 10 → rz102 j = fI H170 aq j := fun j h => (erz102 j h).trans (fI_kept (x_lt hT kH170 gaq (by decide))).symm
    have v211 : ∀ j : Nat, j < 10 → kz166 j = fI H170 (fR H170 kb j) (K.1.2 0 14) := fun j h => (ekz166 j h).trans (by rw [fR_kept (x_lt hT kH170 gkb (by decide))]; exact (fI_kept (x_lt hT kH170 (bar_h hT gkb j h) (by decide))).symm)
    have d212 := DB.kept dbk (x_lt hT kH170 gkb (by decide))
    have v213 : ∀ j : Nat, j < 10 → iz167 j = fI H170 iq (11 + 6 * j) := fun j h => (eiz167 j h).trans (fI_kept (x_lt hT kH170 giq (by decide))).symm
    have d214 := DB.kept db (x_lt hT kH170 gbq (by decide))
    refine lv_pop hx hb dL_law_1296 rfl ?_
    refine lv_aload_n hx hb dL_law_1297 rfl (lv_at hl 1 rfl) ?_
    refine lv_aload_n hx hb dL_law_1298 rfl (lv_at hl 3 rfl) ?_
    refine lv_iload_n hx hb dL_law_1299 rfl (lv_at hl 0 rfl) ?_
    refine lv_iconst (v := 1) hx hb dL_law_1300 (by decide) ?_
    refine lv_iadd hx hb dL_law_1301 ?_
    refine lv_topi (fun x215 ex215 => ?_)
    obtain ⟨tx215, ejx215, evx215⟩ := lw_ix (k := 1) ex215 hI hL rfl (by decide)
    clear tx215
    refine va_sld hx hb hX hbl (Nat.not_le.mpr hbl) hSH170 (vp_in_iff.mpr evx215) dL_law_1302 ?_
    refine W.eq (g2 := F0 m 1303 ls [.int (xs (i.toNatClampNeg + 1)), .ref b]) (congrArg (fun z => F0 m 1303 ls [.int (xs z), .ref b]) ejx215) ?_
    refine lv_aload_n hx hb dL_law_1303 rfl (lv_at hl 3 rfl) ?_
    refine lv_iload_n hx hb dL_law_1304 rfl (lv_at hl 0 rfl) ?_
    refine lv_iconst (v := 2) hx hb dL_law_1305 (by decide) ?_
    refine lv_iadd hx hb dL_law_1306 ?_
    refine lv_topi (fun x216 ex216 => ?_)
    obtain ⟨tx216, ejx216, evx216⟩ := lw_ix (k := 2) ex216 hI hL rfl (by decide)
    clear tx216
    refine va_sld hx hb hX hbl (Nat.not_le.mpr hbl) hSH170 (vp_in_iff.mpr evx216) dL_law_1307 ?_
    refine W.eq (g2 := F0 m 1308 ls [.int (xs (i.toNatClampNeg + 2)), .int (xs (i.toNatClampNeg + 1)), .ref b]) (congrArg (fun z => F0 m 1308 ls [.int (xs z), .int (xs (i.toNatClampNeg + 1)), .ref b]) ejx216) ?_
    refine x_V (As := [.int (xs (i.toNatClampNeg + 1)), .int (xs (i.toNatClampNeg + 2))]) (rest := []) C (a_X10_note_r l K G H170 ((xs (i.toNatClampNeg + 1))) ((xs (i.toNatClampNeg + 2))) (y13) hTH170 gb m190 g179 g180 g181 g182) yo_X10_note wM_L_136 ⟨⟨by decide, by decide⟩, show _ ≤ 1200000 from Nat.le_trans hc (by decide), show _ ≤ 5502250 from Nat.le_trans hs (by decide)⟩ (x_rv C hTH170 (ci := 10) rfl gb rg_112) rfl hl.1 rfl (Nat.le_of_ble_eq_true rfl) dL_law_1308 hSH170 (AE_new hN hSH170.1) (fun vH217 H217 locsH217 pH217 zH217 kH217 hSH217 => ?_)
    obtain ⟨x218, x219, hvH217, ex219, hrH217, g220, g221, g222, g223, mf224, hTH217⟩ := pH217
    subst hvH217
    have m225 := (m183).trans (fR_kept (x_lt hTH170 kH217 ga (by decide))).symm
    have m226 := (m184).trans (fI_kept (x_lt hTH170 kH217 ga (by decide))).symm
    have m227 := (fV_kept (x_lt hTH170 kH217 ga (by decide))).trans m194
    have m228 := (m196).trans (fI_kept (x_lt hTH170 kH217 gkq (by decide))).symm
    have m229 := (m197).trans (fI_kept (x_lt hTH170 kH217 giq (by decide))).symm
    have m230 := (m198).trans (fI_kept (x_lt hTH170 kH217 gkq (by decide))).symm
    have m231 := (m199).trans (fI_kept (x_lt hTH170 kH217 giq (by decide))).symm
    have m232 := (m200).trans (fI_kept (x_lt hTH170 kH217 gkq (by decide))).symm
    have m233 := (m201).trans (fI_kept (x_lt hTH170 kH217 giq (by decide))).symm
    have m234 := (m202).trans (fI_kept (x_lt hTH170 kH217 gkq (by decide))).symm
    have m235 := (m203).trans (fI_kept (x_lt hTH170 kH217 giq (by decide))).symm
    have m236 := (m204).trans (fI_kept (x_lt hTH170 kH217 gkq (by decide))).symm
    have m237 := (m205).trans (fI_kept (x_lt hTH170 kH217 giq (by decide))).symm
    have m238 := (m206).trans (fI_kept (x_lt hTH170 kH217 gkq (by decide))).symm
    have m239 := (m207).trans (fI_kept (x_lt hTH170 kH217 giq (by decide))).symm
    have m240 := (m208).trans (fR_kept (x_lt hTH170 kH217 gkq (by decide))).symm
    have m241 := (m178).trans (fR_kept (x_lt hTH170 kH217 gw (by decide))).symm
    have m242 := (ex172).trans (fI_kept (x_lt hTH170 kH217 gw (by decide))).symm
    have m243 := (ex173).trans (fI_kept (x_lt hTH170 kH217 gw (by decide))).symm
    have m244 := (ex174).trans (fI_kept (x_lt hTH170 kH217 gw (by decide))).symm
    have m245 := (ex175).trans (fI_kept (x_lt hTH170 kH217 gw (by decide))).symm
    have m246 := (ex176).trans (fI_kept (x_lt hTH170 kH217 gw (by decide))).symm
    have m247 := (ex177).trans (fI_kept (x_lt hTH170 kH217 gw (by decide))).symm
    have m248 := (m185).trans (MF.i mf224 (k := 18) (by decide) (by decide)).symm
    have m249 := (m186).trans (MF.i mf224 (k := 1) (by decide) (by decide)).symm
    have m250 := (m187).trans (MF.i mf224 (k := 2) (by decide) (by decide)).symm
    have m251 := (m188).trans (MF.i mf224 (k := 3) (by decide) (by decide)).symm
    have m252 := (m189).trans (MF.i mf224 (k := 59) (by decide) (by decide)).symm
    have m253 := (m191).trans (MF.i mf224 (k := 65) (by decide) (by decide)).symm
    have m254 := (m192).trans (MF.r mf224 (k := 50) (by decide) (by decide)).symm
    have m255 := (m193).trans (MF.i mf224 (k := 70) (by decide) (by decide)).symm
    have m256 := (m195).trans (MF.r mf224 (k := 73) (by decide) (by decide)).symm
    have bx219 := ty_fi (x := x219) (k := 62) ex219 hTH217 gb rg_112 rfl
    refine W.eq (g2 := F0 m 1311 ls [.int x218]) rfl ?_
    have v257 : ∀ j : Nat, j < 10 → cz101 j = fI H217 (fR H217 bq j) (K.1.2 0 14) := fun j h => (v209 j h).trans (by rw [fR_kept (x_lt hTH170 kH217 gbq (by decide))]; exact (fI_kept (x_lt hTH170 kH217 (bar_g hTH170 gbq j h) (by decide))).symm)
    have v258 : ∀ j : Nat, j < 10 → rz102 j = fI H217 aq j := fun j h => (v210 j h).trans (fI_kept (x_lt hTH170 kH217 gaq (by decide))).symm
    have v259 : ∀ j : Nat, j < 10 → kz166 j = fI H217 (fR H217 kb j) (K.1.2 0 14) := fun j h => (v211 j h).trans (by rw [fR_kept (x_lt hTH170 kH217 gkb (by decide))]; exact (fI_kept (x_lt hTH170 kH217 (bar_h hTH170 gkb j h) (by decide))).symm)
    have d260 := DB.kept d212 (x_lt hTH170 kH217 gkb (by decide))
    have v261 : ∀ j : Nat, j < 10 → iz167 j = fI H217 iq (11 + 6 * j) := fun j h => (v213 j h).trans (fI_kept (x_lt hTH170 kH217 giq (by decide))).symm
    have d262 := DB.kept d214 (x_lt hTH170 kH217 gbq (by decide))
    refine lv_pop hx hb dL_law_1311 rfl ?_
    refine lv_goto (tgt := 1509) hx hb dL_law_1312 (by decide) ?_
    exact nx G H217 locsH217 _ _ ls ⟨hTH217, hN, ga, gb, g220, g221, g222, g223, ⟨(by rw [← m226, ← m248]; exact rt), (by rw [← m225, ← m242, ← m249]; omega), (by rw [← m225, ← m243, ← m250]; omega), (by rw [← m225, ← m244, ← m251]; omega), (by rw [← m225, ← m245, ← m252]; omega), (by rw [← m225, ← m246, ← ex219]; omega), (by rw [← m225, ← m247, ← m253]; omega)⟩, Or.inr ⟨kq, m227, gkq, (by rw [← m255]; exact h70), (by rw [← m228, ← m256, ← m229]; exact q1), (by rw [← m230, ← m256, ← m231]; exact q4), (by rw [← m232, ← m256, ← m233]; exact q5), (by rw [← m234, ← m256, ← m235]; exact q10), (by rw [← m236, ← m256, ← m237]; exact q13), (by rw [← m238, ← m256, ← m239]; exact q16), (by rw [← m240]; exact d260), (by rw [← m240, ← m256, ← m228]; exact fun j h1 h2 => by rw [← v259 j h1, ← v261 j h1]; exact vk0 j h1 (by omega)), (by rw [← m256, ← m228]; exact fun j h1 h2 => by rw [← v261 j h1]; exact vk1 j h1 (by omega))⟩, (by unfold RB; rw [← m225, ← m241, ← m254, ← m249]; exact ⟨d262, fun j h1 h2 => by rw [← v257 j h1, ← v258 j h1]; exact rel j h1 (by omega), fun j h1 h2 => by rw [← v258 j h1]; exact tl j h1 (by omega)⟩), hSH217⟩ hl ⟨hc, hs, fun h => by have h1 := h.symm.trans m227; cases h1⟩
set_option maxRecDepth 100000 in
set_option maxHeartbeats 8000000 in
theorem lw_c29 {p : Program} {l : Launch} {e : Env} {s : State} {m : MethodId} {below : List Frame} {meth : Method} {c : Code} {K : KE} {b0 L : Nat} {xs : Nat → Int32} {G : Nat → Option Nat} {H : Heap} {locs : List Loc} {a b : Nat} {cells slots : Nat} {ls : Array Slot} {i : Int32} {n : Nat} (D : LC p K s m meth c b0 L xs) (S : SX K s G H locs a b) (hl : lv_has ls 4 [(3, .int i), (2, .ref b), (1, .ref a), (0, .ref b0)]) (hi : 0 ≤ i.toInt ∧ i.toInt + 6 ≤ L) (hn : n ≤ 511) (hB : BD K H a cells slots) (nx : ∀ (G : Nat → Option Nat) (H : Heap) (locs : List Loc) (cells slots : Nat) (ls : Array Slot), SX K s G H locs a b → lv_has ls 4 [(3, .int i), (2, .ref b), (1, .ref a), (0, .ref b0)] → BD K H a cells slots → W p l e room_1 s m #[Value.ref b0] below meth c H locs cells slots (lw_Z below #[Value.ref b0] s) (F0 m 1509 ls [])) : W p l e room_1 s m #[Value.ref b0] below meth c H locs cells slots (lw_Z below #[Value.ref b0] s) (F0 m 1315 ls []) := by
  have hI := hi
  obtain ⟨C, hX, hbl, hL⟩ := id D
  obtain ⟨hx, hb, hml, hown, hts, hKT, hr, hlocks, hnm⟩ := id C
  obtain ⟨hT, hN, ga, gb, cg, tu, wd, im, ⟨rt, r1, r4, r5, r10, r13, r16⟩, hk, hrb, hS⟩ := S
  obtain ⟨hc, hs, hB0⟩ := hB
  have n_m1 : ((-1) : Int32).toInt = -1 := rfl
  have n_0 : (0 : Int32).toInt = 0 := rfl
  have n_1 : (1 : Int32).toInt = 1 := rfl
  have n_2 : (2 : Int32).toInt = 2 := rfl
  obtain ⟨w, ew⟩ : ∃ z : Nat, z = fR H a (K.1.2 9 0) := ⟨_, rfl⟩
  have gw := ty_fr (q := w) (k := 0) (u := 0) ew hT ga rg_68 rfl
  rw [← ew] at r1 r4 r5 r10 r13 r16
  obtain ⟨ta, eta⟩ : ∃ z : Int32, z = fI H a (K.1.2 9 3) := ⟨_, rfl⟩
  rw [← eta] at rt
  obtain ⟨tb, etb⟩ : ∃ z : Int32, z = fI H b (K.1.2 10 18) := ⟨_, rfl⟩
  rw [← etb] at rt
  obtain ⟨s1, es1⟩ : ∃ z : Int32, z = fI H w (K.1.2 8 1) := ⟨_, rfl⟩
  rw [← es1] at r1
  obtain ⟨y1, ey1⟩ : ∃ z : Int32, z = fI H b (K.1.2 10 1) := ⟨_, rfl⟩
  rw [← ey1] at r1
  obtain ⟨s4, es4⟩ : ∃ z : Int32, z = fI H w (K.1.2 8 4) := ⟨_, rfl⟩
  rw [← es4] at r4
  obtain ⟨y4, ey4⟩ : ∃ z : Int32, z = fI H b (K.1.2 10 2) := ⟨_, rfl⟩
  rw [← ey4] at r4
  obtain ⟨s5, es5⟩ : ∃ z : Int32, z = fI H w (K.1.2 8 5) := ⟨_, rfl⟩
  rw [← es5] at r5
  obtain ⟨y5, ey5⟩ : ∃ z : Int32, z = fI H b (K.1.2 10 3) := ⟨_, rfl⟩
  rw [← ey5] at r5
  obtain ⟨s10, es10⟩ : ∃ z : Int32, z = fI H w (K.1.2 8 10) := ⟨_, rfl⟩
  rw [← es10] at r10
  obtain ⟨y10, ey10⟩ : ∃ z : Int32, z = fI H b (K.1.2 10 59) := ⟨_, rfl⟩
  rw [← ey10] at r10
  obtain ⟨s13, es13⟩ : ∃ z : Int32, z = fI H w (K.1.2 8 13) := ⟨_, rfl⟩
  rw [← es13] at r13
  obtain ⟨y13, ey13⟩ : ∃ z : Int32, z = fI H b (K.1.2 10 62) := ⟨_, rfl⟩
  rw [← ey13] at r13
  obtain ⟨s16, es16⟩ : ∃ z : Int32, z = fI H w (K.1.2 8 16) := ⟨_, rfl⟩
  rw [← es16] at r16
  obtain ⟨y16, ey16⟩ : ∃ z : Int32, z = fI H b (K.1.2 10 65) := ⟨_, rfl⟩
  rw [← ey16] at r16
  obtain ⟨bq, ebq⟩ : ∃ z : Nat, z = fR H w (K.1.2 8 0) := ⟨_, rfl⟩
  have gbq := ty_fr (q := bq) (k := 0) (u := 25) ebq hT gw rg_0 rfl
  obtain ⟨aq, eaq⟩ : ∃ z : Nat, z = fR H b (K.1.2 10 50) := ⟨_, rfl⟩
  have gaq := ty_fr (q := aq) (k := 50) (u := 146) eaq hT gb rg_112 rfl
  have bs1 := ty_fi (x := s1) (k := 1) es1 hT gw rg_0 rfl
  have by1 := ty_fi (x := y1) (k := 1) ey1 hT gb rg_112 rfl
  obtain ⟨db, vr, vt⟩ := hrb
  rw [← ew, ← ebq] at db
  rw [← ew, ← ebq, ← eaq, ← ey1] at vr
  rw [← eaq, ← ey1] at vt
  obtain ⟨cz101, ecz101⟩ : ∃ f : Nat → Int32, ∀ j : Nat, j < 10 → f j = fI H (fR H bq j) (K.1.2 0 14) := ⟨_, fun _ _ => rfl⟩
  obtain ⟨rz102, erz102⟩ : ∃ f : Nat → Int32, ∀ j : Nat, j < 10 → f j = fI H aq j := ⟨_, fun _ _ => rfl⟩
  have rel : ∀ j : Nat, j < 10 → (j : Int) < y1.toInt → cz101 j = rz102 j := fun j h1 h2 => by rw [ecz101 j h1, erz102 j h1]; exact vr j h1 h2
  clear vr
  have tl : ∀ j : Nat, j < 10 → y1.toInt ≤ (j : Int) → rz102 j = 0 := fun j h1 h2 => by rw [erz102 j h1]; exact vt j h1 h2
  clear vt
  rcases hk with ⟨kn, h70⟩ | ⟨kq, kn, gkq, h70, q1, q4, q5, q10, q13, q16, dbk, vk, vkt⟩
  · skip
    obtain ⟨hi, ehi⟩ : ∃ z : Int32, z = fI H b (K.1.2 10 70) := ⟨_, rfl⟩
    rw [← ehi] at h70
    obtain ⟨hc0, hs0⟩ := hB0 kn
    obtain ⟨iq, eiq⟩ : ∃ z : Nat, z = fR H b (K.1.2 10 73) := ⟨_, rfl⟩
    have giq := ty_fr (q := iq) (k := 73) (u := 162) eiq hT gb rg_112 rfl
    refine lv_aload_n hx hb dL_law_1315 rfl (lv_at hl 2 rfl) ?_
    refine lv_aload_n hx hb dL_law_1316 rfl (lv_at hl 3 rfl) ?_
    refine lv_iload_n hx hb dL_law_1317 rfl (lv_at hl 0 rfl) ?_
    refine lv_iconst (v := 1) hx hb dL_law_1318 (by decide) ?_
    refine lv_iadd hx hb dL_law_1319 ?_
    refine lv_topi (fun x103 ex103 => ?_)
    obtain ⟨tx103, ejx103, evx103⟩ := lw_ix (k := 1) ex103 hI hL rfl (by decide)
    clear tx103
    refine va_sld hx hb hX hbl (Nat.not_le.mpr hbl) hS (vp_in_iff.mpr evx103) dL_law_1320 ?_
    refine W.eq (g2 := F0 m 1321 ls [.int (xs (i.toNatClampNeg + 1)), .ref a]) (congrArg (fun z => F0 m 1321 ls [.int (xs z), .ref a]) ejx103) ?_
    refine lv_aload_n hx hb dL_law_1321 rfl (lv_at hl 3 rfl) ?_
    refine lv_iload_n hx hb dL_law_1322 rfl (lv_at hl 0 rfl) ?_
    refine lv_iconst (v := 2) hx hb dL_law_1323 (by decide) ?_
    refine lv_iadd hx hb dL_law_1324 ?_
    refine lv_topi (fun x104 ex104 => ?_)
    obtain ⟨tx104, ejx104, evx104⟩ := lw_ix (k := 2) ex104 hI hL rfl (by decide)
    clear tx104
    refine va_sld hx hb hX hbl (Nat.not_le.mpr hbl) hS (vp_in_iff.mpr evx104) dL_law_1325 ?_
    refine W.eq (g2 := F0 m 1326 ls [.int (xs (i.toNatClampNeg + 2)), .int (xs (i.toNatClampNeg + 1)), .ref a]) (congrArg (fun z => F0 m 1326 ls [.int (xs z), .int (xs (i.toNatClampNeg + 1)), .ref a]) ejx104) ?_
    refine x_V (As := [.int (xs (i.toNatClampNeg + 1)), .int (xs (i.toNatClampNeg + 2))]) (rest := []) C (a_X9_blank_r l K G H ((xs (i.toNatClampNeg + 1))) ((xs (i.toNatClampNeg + 2))) (s1) (s4) (s5) (s10) (s13) (s16) hT ga gw ew gbq ebq es1 es4 es5 es10 es13 es16) yo_X9_blank wM_L_137 ⟨⟨by decide, by decide⟩, show _ ≤ 1200000 from Nat.le_trans hc (by decide), show _ ≤ 5502250 from Nat.le_trans hs (by decide)⟩ (x_rv C hT (ci := 9) rfl ga rg_68) rfl hl.1 rfl (Nat.le_of_ble_eq_true rfl) dL_law_1326 hS (AE_new hN hS.1) (fun vH105 H105 locsH105 pH105 zH105 kH105 hSH105 => ?_)
    obtain ⟨x106, x107, x108, x109, x110, x111, x112, hvH105, ex107, ex108, ex109, ex110, ex111, ex112, hrH105, m113, hTH105⟩ := pH105
    subst hvH105
    have g114 : CG (avw K H105 b) := CG.congr (fun k hk j => av_eff hT kH105 gb (by decide) (CG_eff [0, 32, 33] (by decide) k hk)) cg
    have g115 : TU (avw K H105 b) (svw K H105 b) := TU.congr (fun k hk j => av_eff hT kH105 gb (by decide) (TU_eff [0, 32, 33] (by decide) k hk)) (fun k hk => sv_eff hT kH105 gb (by decide)) tu
    have g116 : WD (avw K H105 b) := WD.congr (fun k hk j => av_eff hT kH105 gb (by decide) (WD_eff [0, 32, 33] (by decide) k hk)) wd
    have g117 : IM (avw K H105 b) := IM.congr (fun k hk j => av_eff hT kH105 gb (by decide) (IM_eff [0, 32, 33] (by decide) k hk)) im
    have m118 := (ew).trans (fR_kept (x_lt hT kH105 ga (by decide))).symm
    have m119 := (eta).trans (fI_kept (x_lt hT kH105 ga (by decide))).symm
    have m120 := (etb).trans (fI_kept (x_lt hT kH105 gb (by decide))).symm
    have m121 := (ey1).trans (fI_kept (x_lt hT kH105 gb (by decide))).symm
    have m122 := (ey4).trans (fI_kept (x_lt hT kH105 gb (by decide))).symm
    have m123 := (ey5).trans (fI_kept (x_lt hT kH105 gb (by decide))).symm
    have m124 := (ey10).trans (fI_kept (x_lt hT kH105 gb (by decide))).symm
    have m125 := (ey13).trans (fI_kept (x_lt hT kH105 gb (by decide))).symm
    have m126 := (ey16).trans (fI_kept (x_lt hT kH105 gb (by decide))).symm
    have m127 := (eaq).trans (fR_kept (x_lt hT kH105 gb (by decide))).symm
    have m128 := (ehi).trans (fI_kept (x_lt hT kH105 gb (by decide))).symm
    have m129 := (fV_kept (x_lt hT kH105 ga (by decide))).trans kn
    have m130 := (eiq).trans (fR_kept (x_lt hT kH105 gb (by decide))).symm
    have bx107 := ty_fi (x := x107) (k := 1) ex107 hTH105 gw rg_0 rfl
    have bx108 := ty_fi (x := x108) (k := 4) ex108 hTH105 gw rg_0 rfl
    have bx109 := ty_fi (x := x109) (k := 5) ex109 hTH105 gw rg_0 rfl
    have bx110 := ty_fi (x := x110) (k := 10) ex110 hTH105 gw rg_0 rfl
    have bx111 := ty_fi (x := x111) (k := 13) ex111 hTH105 gw rg_0 rfl
    have bx112 := ty_fi (x := x112) (k := 16) ex112 hTH105 gw rg_0 rfl
    refine W.eq (g2 := F0 m 1329 ls [.int x106]) rfl ?_
    have v131 : ∀ j : Nat, j < 10 → cz101 j = fI H105 (fR H105 bq j) (K.1.2 0 14) := fun j h => (ecz101 j h).trans (by rw [fR_kept (x_lt hT kH105 gbq (by decide))]; exact (fI_kept (x_lt hT kH105 (bar_g hT gbq j h) (by decide))).symm)
    have v132 : ∀ j : Nat, j < 10 → rz102 j = fI H105 aq j := fun j h => (erz102 j h).trans (fI_kept (x_lt hT kH105 gaq (by decide))).symm
    have d133 := DB.kept db (x_lt hT kH105 gbq (by decide))
    refine lv_pop hx hb dL_law_1329 rfl ?_
    refine lv_aload_n hx hb dL_law_1330 rfl (lv_at hl 1 rfl) ?_
    refine lv_aload_n hx hb dL_law_1331 rfl (lv_at hl 3 rfl) ?_
    refine lv_iload_n hx hb dL_law_1332 rfl (lv_at hl 0 rfl) ?_
    refine lv_iconst (v := 1) hx hb dL_law_1333 (by decide) ?_
    refine lv_iadd hx hb dL_law_1334 ?_
    refine lv_topi (fun x134 ex134 => ?_)
    obtain ⟨tx134, ejx134, evx134⟩ := lw_ix (k := 1) ex134 hI hL rfl (by decide)
    clear tx134
    refine va_sld hx hb hX hbl (Nat.not_le.mpr hbl) hSH105 (vp_in_iff.mpr evx134) dL_law_1335 ?_
    refine W.eq (g2 := F0 m 1336 ls [.int (xs (i.toNatClampNeg + 1)), .ref b]) (congrArg (fun z => F0 m 1336 ls [.int (xs z), .ref b]) ejx134) ?_
    refine lv_aload_n hx hb dL_law_1336 rfl (lv_at hl 3 rfl) ?_
    refine lv_iload_n hx hb dL_law_1337 rfl (lv_at hl 0 rfl) ?_
    refine lv_iconst (v := 2) hx hb dL_law_1338 (by decide) ?_
    refine lv_iadd hx hb dL_law_1339 ?_
    refine lv_topi (fun x135 ex135 => ?_)
    obtain ⟨tx135, ejx135, evx135⟩ := lw_ix (k := 2) ex135 hI hL rfl (by decide)
    clear tx135
    refine va_sld hx hb hX hbl (Nat.not_le.mpr hbl) hSH105 (vp_in_iff.mpr evx135) dL_law_1340 ?_
    refine W.eq (g2 := F0 m 1341 ls [.int (xs (i.toNatClampNeg + 2)), .int (xs (i.toNatClampNeg + 1)), .ref b]) (congrArg (fun z => F0 m 1341 ls [.int (xs z), .int (xs (i.toNatClampNeg + 1)), .ref b]) ejx135) ?_
    refine x_V (As := [.int (xs (i.toNatClampNeg + 1)), .int (xs (i.toNatClampNeg + 2))]) (rest := []) C (a_X10_blank_r l K G H105 ((xs (i.toNatClampNeg + 1))) ((xs (i.toNatClampNeg + 2))) (y16) hTH105 gb m126 g114 g115 g116 g117) yo_X10_blank wM_L_140 ⟨⟨by decide, by decide⟩, show _ ≤ 1200000 from Nat.le_trans hc (by decide), show _ ≤ 5502250 from Nat.le_trans hs (by decide)⟩ (x_rv C hTH105 (ci := 10) rfl gb rg_112) rfl hl.1 rfl (Nat.le_of_ble_eq_true rfl) dL_law_1341 hSH105 (AE_new hN hSH105.1) (fun vH136 H136 locsH136 pH136 zH136 kH136 hSH136 => ?_)
    obtain ⟨x137, x138, hvH136, ex138, hrH136, g139, g140, g141, g142, mf143, hTH136⟩ := pH136
    subst hvH136
    have m144 := (m118).trans (fR_kept (x_lt hTH105 kH136 ga (by decide))).symm
    have m145 := (m119).trans (fI_kept (x_lt hTH105 kH136 ga (by decide))).symm
    have m146 := (fV_kept (x_lt hTH105 kH136 ga (by decide))).trans m129
    have m147 := (m113).trans (fR_kept (x_lt hTH105 kH136 gw (by decide))).symm
    have m148 := (ex107).trans (fI_kept (x_lt hTH105 kH136 gw (by decide))).symm
    have m149 := (ex108).trans (fI_kept (x_lt hTH105 kH136 gw (by decide))).symm
    have m150 := (ex109).trans (fI_kept (x_lt hTH105 kH136 gw (by decide))).symm
    have m151 := (ex110).trans (fI_kept (x_lt hTH105 kH136 gw (by decide))).symm
    have m152 := (ex111).trans (fI_kept (x_lt hTH105 kH136 gw (by decide))).symm
    have m153 := (ex112).trans (fI_kept (x_lt hTH105 kH136 gw (by decide))).symm
    have m154 := (m120).trans (MF.i mf143 (k := 18) (by decide) (by decide)).symm
    have m155 := (m121).trans (MF.i mf143 (k := 1) (by decide) (by decide)).symm
    have m156 := (m122).trans (MF.i mf143 (k := 2) (by decide) (by decide)).symm
    have m157 := (m123).trans (MF.i mf143 (k := 3) (by decide) (by decide)).symm
    have m158 := (m124).trans (MF.i mf143 (k := 59) (by decide) (by decide)).symm
    have m159 := (m125).trans (MF.i mf143 (k := 62) (by decide) (by decide)).symm
    have m160 := (m127).trans (MF.r mf143 (k := 50) (by decide) (by decide)).symm
    have m161 := (m128).trans (MF.i mf143 (k := 70) (by decide) (by decide)).symm
    have m162 := (m130).trans (MF.r mf143 (k := 73) (by decide) (by decide)).symm
    have bx138 := ty_fi (x := x138) (k := 65) ex138 hTH136 gb rg_112 rfl
    refine W.eq (g2 := F0 m 1344 ls [.int x137]) rfl ?_
    have v163 : ∀ j : Nat, j < 10 → cz101 j = fI H136 (fR H136 bq j) (K.1.2 0 14) := fun j h => (v131 j h).trans (by rw [fR_kept (x_lt hTH105 kH136 gbq (by decide))]; exact (fI_kept (x_lt hTH105 kH136 (bar_g hTH105 gbq j h) (by decide))).symm)
    have v164 : ∀ j : Nat, j < 10 → rz102 j = fI H136 aq j := fun j h => (v132 j h).trans (fI_kept (x_lt hTH105 kH136 gaq (by decide))).symm
    have d165 := DB.kept d133 (x_lt hTH105 kH136 gbq (by decide))
    refine lv_pop hx hb dL_law_1344 rfl ?_
    refine lv_goto (tgt := 1509) hx hb dL_law_1345 (by decide) ?_
    exact nx G H136 locsH136 _ _ ls ⟨hTH136, hN, ga, gb, g139, g140, g141, g142, ⟨(by rw [← m145, ← m154]; exact rt), (by rw [← m144, ← m148, ← m155]; omega), (by rw [← m144, ← m149, ← m156]; omega), (by rw [← m144, ← m150, ← m157]; omega), (by rw [← m144, ← m151, ← m158]; omega), (by rw [← m144, ← m152, ← m159]; omega), (by rw [← m144, ← m153, ← ex138]; omega)⟩, Or.inl ⟨m146, (by rw [← m161]; exact h70)⟩, (by unfold RB; rw [← m144, ← m147, ← m160, ← m155]; exact ⟨d165, fun j h1 h2 => by rw [← v163 j h1, ← v164 j h1]; exact rel j h1 (by omega), fun j h1 h2 => by rw [← v164 j h1]; exact tl j h1 (by omega)⟩), hSH136⟩ hl ⟨hc, hs, fun _ => ⟨hc0, hs0⟩⟩
  · skip
    obtain ⟨hi, ehi⟩ : ∃ z : Int32, z = fI H b (K.1.2 10 70) := ⟨_, rfl⟩
    rw [← ehi] at h70
    obtain ⟨iq, eiq⟩ : ∃ z : Nat, z = fR H b (K.1.2 10 73) := ⟨_, rfl⟩
    have giq := ty_fr (q := iq) (k := 73) (u := 162) eiq hT gb rg_112 rfl
    rw [← eiq] at q1 q4 q5 q10 q13 q16
    obtain ⟨k1, ek1⟩ : ∃ z : Int32, z = fI H kq (K.1.2 8 1) := ⟨_, rfl⟩
    rw [← ek1] at q1
    obtain ⟨i1, ei1⟩ : ∃ z : Int32, z = fI H iq ((0 : Int32).toNatClampNeg) := ⟨_, rfl⟩
    rw [← ei1] at q1
    obtain ⟨k4, ek4⟩ : ∃ z : Int32, z = fI H kq (K.1.2 8 4) := ⟨_, rfl⟩
    rw [← ek4] at q4
    obtain ⟨i4, ei4⟩ : ∃ z : Int32, z = fI H iq ((1 : Int32).toNatClampNeg) := ⟨_, rfl⟩
    rw [← ei4] at q4
    obtain ⟨k5, ek5⟩ : ∃ z : Int32, z = fI H kq (K.1.2 8 5) := ⟨_, rfl⟩
    rw [← ek5] at q5
    obtain ⟨i5, ei5⟩ : ∃ z : Int32, z = fI H iq ((2 : Int32).toNatClampNeg) := ⟨_, rfl⟩
    rw [← ei5] at q5
    obtain ⟨k10, ek10⟩ : ∃ z : Int32, z = fI H kq (K.1.2 8 10) := ⟨_, rfl⟩
    rw [← ek10] at q10
    obtain ⟨i10, ei10⟩ : ∃ z : Int32, z = fI H iq ((3 : Int32).toNatClampNeg) := ⟨_, rfl⟩
    rw [← ei10] at q10
    obtain ⟨k13, ek13⟩ : ∃ z : Int32, z = fI H kq (K.1.2 8 13) := ⟨_, rfl⟩
    rw [← ek13] at q13
    obtain ⟨i13, ei13⟩ : ∃ z : Int32, z = fI H iq ((4 : Int32).toNatClampNeg) := ⟨_, rfl⟩
    rw [← ei13] at q13
    obtain ⟨k16, ek16⟩ : ∃ z : Int32, z = fI H kq (K.1.2 8 16) := ⟨_, rfl⟩
    rw [← ek16] at q16
    obtain ⟨i16, ei16⟩ : ∃ z : Int32, z = fI H iq ((5 : Int32).toNatClampNeg) := ⟨_, rfl⟩
    rw [← ei16] at q16
    obtain ⟨kb, ekb⟩ : ∃ z : Nat, z = fR H kq (K.1.2 8 0) := ⟨_, rfl⟩
    have gkb := ty_fr (q := kb) (k := 0) (u := 59) ekb hT gkq rg_34 rfl
    have bk1 := ty_fi (x := k1) (k := 1) ek1 hT gkq rg_34 rfl
    rw [← ekb] at dbk
    rw [← ekb, ← eiq, ← ek1] at vk
    rw [← eiq, ← ek1] at vkt
    obtain ⟨kz166, ekz166⟩ : ∃ f : Nat → Int32, ∀ j : Nat, j < 10 → f j = fI H (fR H kb j) (K.1.2 0 14) := ⟨_, fun _ _ => rfl⟩
    obtain ⟨iz167, eiz167⟩ : ∃ f : Nat → Int32, ∀ j : Nat, j < 10 → f j = fI H iq (11 + 6 * j) := ⟨_, fun _ _ => rfl⟩
    have vk0 : ∀ j : Nat, j < 10 → (j : Int) < k1.toInt → kz166 j = iz167 j := fun j h1 h2 => by rw [ekz166 j h1, eiz167 j h1]; exact vk j h1 h2
    clear vk
    have vk1 : ∀ j : Nat, j < 10 → k1.toInt ≤ (j : Int) → iz167 j = 0 := fun j h1 h2 => by rw [eiz167 j h1]; exact vkt j h1 h2
    clear vkt
    refine lv_aload_n hx hb dL_law_1315 rfl (lv_at hl 2 rfl) ?_
    refine lv_aload_n hx hb dL_law_1316 rfl (lv_at hl 3 rfl) ?_
    refine lv_iload_n hx hb dL_law_1317 rfl (lv_at hl 0 rfl) ?_
    refine lv_iconst (v := 1) hx hb dL_law_1318 (by decide) ?_
    refine lv_iadd hx hb dL_law_1319 ?_
    refine lv_topi (fun x168 ex168 => ?_)
    obtain ⟨tx168, ejx168, evx168⟩ := lw_ix (k := 1) ex168 hI hL rfl (by decide)
    clear tx168
    refine va_sld hx hb hX hbl (Nat.not_le.mpr hbl) hS (vp_in_iff.mpr evx168) dL_law_1320 ?_
    refine W.eq (g2 := F0 m 1321 ls [.int (xs (i.toNatClampNeg + 1)), .ref a]) (congrArg (fun z => F0 m 1321 ls [.int (xs z), .ref a]) ejx168) ?_
    refine lv_aload_n hx hb dL_law_1321 rfl (lv_at hl 3 rfl) ?_
    refine lv_iload_n hx hb dL_law_1322 rfl (lv_at hl 0 rfl) ?_
    refine lv_iconst (v := 2) hx hb dL_law_1323 (by decide) ?_
    refine lv_iadd hx hb dL_law_1324 ?_
    refine lv_topi (fun x169 ex169 => ?_)
    obtain ⟨tx169, ejx169, evx169⟩ := lw_ix (k := 2) ex169 hI hL rfl (by decide)
    clear tx169
    refine va_sld hx hb hX hbl (Nat.not_le.mpr hbl) hS (vp_in_iff.mpr evx169) dL_law_1325 ?_
    refine W.eq (g2 := F0 m 1326 ls [.int (xs (i.toNatClampNeg + 2)), .int (xs (i.toNatClampNeg + 1)), .ref a]) (congrArg (fun z => F0 m 1326 ls [.int (xs z), .int (xs (i.toNatClampNeg + 1)), .ref a]) ejx169) ?_
    refine x_V (As := [.int (xs (i.toNatClampNeg + 1)), .int (xs (i.toNatClampNeg + 2))]) (rest := []) C (a_X9_blank_r l K G H ((xs (i.toNatClampNeg + 1))) ((xs (i.toNatClampNeg + 2))) (s1) (s4) (s5) (s10) (s13) (s16) hT ga gw ew gbq ebq es1 es4 es5 es10 es13 es16) yo_X9_blank wM_L_137 ⟨⟨by decide, by decide⟩, show _ ≤ 1200000 from Nat.le_trans hc (by decide), show _ ≤ 5502250 from Nat.le_trans hs (by decide)⟩ (x_rv C hT (ci := 9) rfl ga rg_68) rfl hl.1 rfl (Nat.le_of_ble_eq_true rfl) dL_law_1326 hS (AE_new hN hS.1) (fun vH170 H170 locsH170 pH170 zH170 kH170 hSH170 => ?_)
    obtain ⟨x171, x172, x173, x174, x175, x176, x177, hvH170, ex172, ex173, ex174, ex175, ex176, ex177, hrH170, m178, hTH170⟩ := pH170
    subst hvH170
    have g179 : CG (avw K H170 b) := CG.congr (fun k hk j => av_eff hT kH170 gb (by decide) (CG_eff [0, 32, 33] (by decide) k hk)) cg
    have g180 : TU (avw K H170 b) (svw K H170 b) := TU.congr (fun k hk j => av_eff hT kH170 gb (by decide) (TU_eff [0, 32, 33] (by decide) k hk)) (fun k hk => sv_eff hT kH170 gb (by decide)) tu
    have g181 : WD (avw K H170 b) := WD.congr (fun k hk j => av_eff hT kH170 gb (by decide) (WD_eff [0, 32, 33] (by decide) k hk)) wd
    have g182 : IM (avw K H170 b) := IM.congr (fun k hk j => av_eff hT kH170 gb (by decide) (IM_eff [0, 32, 33] (by decide) k hk)) im
    have m183 := (ew).trans (fR_kept (x_lt hT kH170 ga (by decide))).symm
    have m184 := (eta).trans (fI_kept (x_lt hT kH170 ga (by decide))).symm
    have m185 := (etb).trans (fI_kept (x_lt hT kH170 gb (by decide))).symm
    have m186 := (ey1).trans (fI_kept (x_lt hT kH170 gb (by decide))).symm
    have m187 := (ey4).trans (fI_kept (x_lt hT kH170 gb (by decide))).symm
    have m188 := (ey5).trans (fI_kept (x_lt hT kH170 gb (by decide))).symm
    have m189 := (ey10).trans (fI_kept (x_lt hT kH170 gb (by decide))).symm
    have m190 := (ey13).trans (fI_kept (x_lt hT kH170 gb (by decide))).symm
    have m191 := (ey16).trans (fI_kept (x_lt hT kH170 gb (by decide))).symm
    have m192 := (eaq).trans (fR_kept (x_lt hT kH170 gb (by decide))).symm
    have m193 := (ehi).trans (fI_kept (x_lt hT kH170 gb (by decide))).symm
    have m194 := (fV_kept (x_lt hT kH170 ga (by decide))).trans kn
    have m195 := (eiq).trans (fR_kept (x_lt hT kH170 gb (by decide))).symm
    have m196 := (ek1).trans (fI_kept (x_lt hT kH170 gkq (by decide))).symm
    have m197 := (ei1).trans (fI_kept (x_lt hT kH170 giq (by decide))).symm
    have m198 := (ek4).trans (fI_kept (x_lt hT kH170 gkq (by decide))).symm
    have m199 := (ei4).trans (fI_kept (x_lt hT kH170 giq (by decide))).symm
    have m200 := (ek5).trans (fI_kept (x_lt hT kH170 gkq (by decide))).symm
    have m201 := (ei5).trans (fI_kept (x_lt hT kH170 giq (by decide))).symm
    have m202 := (ek10).trans (fI_kept (x_lt hT kH170 gkq (by decide))).symm
    have m203 := (ei10).trans (fI_kept (x_lt hT kH170 giq (by decide))).symm
    have m204 := (ek13).trans (fI_kept (x_lt hT kH170 gkq (by decide))).symm
    have m205 := (ei13).trans (fI_kept (x_lt hT kH170 giq (by decide))).symm
    have m206 := (ek16).trans (fI_kept (x_lt hT kH170 gkq (by decide))).symm
    have m207 := (ei16).trans (fI_kept (x_lt hT kH170 giq (by decide))).symm
    have m208 := (ekb).trans (fR_kept (x_lt hT kH170 gkq (by decide))).symm
    have bx172 := ty_fi (x := x172) (k := 1) ex172 hTH170 gw rg_0 rfl
    have bx173 := ty_fi (x := x173) (k := 4) ex173 hTH170 gw rg_0 rfl
    have bx174 := ty_fi (x := x174) (k := 5) ex174 hTH170 gw rg_0 rfl
    have bx175 := ty_fi (x := x175) (k := 10) ex175 hTH170 gw rg_0 rfl
    have bx176 := ty_fi (x := x176) (k := 13) ex176 hTH170 gw rg_0 rfl
    have bx177 := ty_fi (x := x177) (k := 16) ex177 hTH170 gw rg_0 rfl
    refine W.eq (g2 := F0 m 1329 ls [.int x171]) rfl ?_
    have v209 : ∀ j : Nat, j < 10 → cz101 j = fI H170 (fR H170 bq j) (K.1.2 0 14) := fun j h => (ecz101 j h).trans (by rw [fR_kept (x_lt hT kH170 gbq (by decide))]; exact (fI_kept (x_lt hT kH170 (bar_g hT gbq j h) (by decide))).symm)
    have v210 : ∀ j : Nat, j < 10 → rz102 j = fI H170 aq j := fun j h => (erz102 j h).trans (fI_kept (x_lt hT kH170 gaq (by decide))).symm
    have v211 : ∀ j : Nat, j < 10 → kz166 j = fI H170 (fR H170 kb j) (K.1.2 0 14) := fun j h => (ekz166 j h).trans (by rw [fR_kept (x_lt hT kH170 gkb (by decide))]; exact (fI_kept (x_lt hT kH170 (bar_h hT gkb j h) (by decide))).symm)
    have d212 := DB.kept dbk (x_lt hT kH170 gkb (by decide))
    have v213 : ∀ j : Nat, j < 10 → iz167 j = fI H170 iq (11 + 6 * j) := fun j h => (eiz167 j h).trans (fI_kept (x_lt hT kH170 giq (by decide))).symm
    have d214 := DB.kept db (x_lt hT kH170 gbq (by decide))
    refine lv_pop hx hb dL_law_1329 rfl ?_
    refine lv_aload_n hx hb dL_law_1330 rfl (lv_at hl 1 rfl) ?_
    refine lv_aload_n hx hb dL_law_1331 rfl (lv_at hl 3 rfl) ?_
    refine lv_iload_n hx hb dL_law_1332 rfl (lv_at hl 0 rfl) ?_
    refine lv_iconst (v := 1) hx hb dL_law_1333 (by decide) ?_
    refine lv_iadd hx hb dL_law_1334 ?_
    refine lv_topi (fun x215 ex215 => ?_)
    obtain ⟨tx215, ejx215, evx215⟩ := lw_ix (k := 1) ex215 hI hL rfl (by decide)
    clear tx215
    refine va_sld hx hb hX hbl (Nat.not_le.mpr hbl) hSH170 (vp_in_iff.mpr evx215) dL_law_1335 ?_
    refine W.eq (g2 := F0 m 1336 ls [.int (xs (i.toNatClampNeg + 1)), .ref b]) (congrArg (fun z => F0 m 1336 ls [.int (xs z), .ref b]) ejx215) ?_
    refine lv_aload_n hx hb dL_law_1336 rfl (lv_at hl 3 rfl) ?_
    refine lv_iload_n hx hb dL_law_1337 rfl (lv_at hl 0 rfl) ?_
    refine lv_iconst (v := 2) hx hb dL_law_1338 (by decide) ?_
    refine lv_iadd hx hb dL_law_1339 ?_
    refine lv_topi (fun x216 ex216 => ?_)
    obtain ⟨tx216, ejx216, evx216⟩ := lw_ix (k := 2) ex216 hI hL rfl (by decide)
    clear tx216
    refine va_sld hx hb hX hbl (Nat.not_le.mpr hbl) hSH170 (vp_in_iff.mpr evx216) dL_law_1340 ?_
    refine W.eq (g2 := F0 m 1341 ls [.int (xs (i.toNatClampNeg + 2)), .int (xs (i.toNatClampNeg + 1)), .ref b]) (congrArg (fun z => F0 m 1341 ls [.int (xs z), .int (xs (i.toNatClampNeg + 1)), .ref b]) ejx216) ?_
    refine x_V (As := [.int (xs (i.toNatClampNeg + 1)), .int (xs (i.toNatClampNeg + 2))]) (rest := []) C (a_X10_blank_r l K G H170 ((xs (i.toNatClampNeg + 1))) ((xs (i.toNatClampNeg + 2))) (y16) hTH170 gb m191 g179 g180 g181 g182) yo_X10_blank wM_L_140 ⟨⟨by decide, by decide⟩, show _ ≤ 1200000 from Nat.le_trans hc (by decide), show _ ≤ 5502250 from Nat.le_trans hs (by decide)⟩ (x_rv C hTH170 (ci := 10) rfl gb rg_112) rfl hl.1 rfl (Nat.le_of_ble_eq_true rfl) dL_law_1341 hSH170 (AE_new hN hSH170.1) (fun vH217 H217 locsH217 pH217 zH217 kH217 hSH217 => ?_)
    obtain ⟨x218, x219, hvH217, ex219, hrH217, g220, g221, g222, g223, mf224, hTH217⟩ := pH217
    subst hvH217
    have m225 := (m183).trans (fR_kept (x_lt hTH170 kH217 ga (by decide))).symm
    have m226 := (m184).trans (fI_kept (x_lt hTH170 kH217 ga (by decide))).symm
    have m227 := (fV_kept (x_lt hTH170 kH217 ga (by decide))).trans m194
    have m228 := (m196).trans (fI_kept (x_lt hTH170 kH217 gkq (by decide))).symm
    have m229 := (m197).trans (fI_kept (x_lt hTH170 kH217 giq (by decide))).symm
    have m230 := (m198).trans (fI_kept (x_lt hTH170 kH217 gkq (by decide))).symm
    have m231 := (m199).trans (fI_kept (x_lt hTH170 kH217 giq (by decide))).symm
    have m232 := (m200).trans (fI_kept (x_lt hTH170 kH217 gkq (by decide))).symm
    have m233 := (m201).trans (fI_kept (x_lt hTH170 kH217 giq (by decide))).symm
    have m234 := (m202).trans (fI_kept (x_lt hTH170 kH217 gkq (by decide))).symm
    have m235 := (m203).trans (fI_kept (x_lt hTH170 kH217 giq (by decide))).symm
    have m236 := (m204).trans (fI_kept (x_lt hTH170 kH217 gkq (by decide))).symm
    have m237 := (m205).trans (fI_kept (x_lt hTH170 kH217 giq (by decide))).symm
    have m238 := (m206).trans (fI_kept (x_lt hTH170 kH217 gkq (by decide))).symm
    have m239 := (m207).trans (fI_kept (x_lt hTH170 kH217 giq (by decide))).symm
    have m240 := (m208).trans (fR_kept (x_lt hTH170 kH217 gkq (by decide))).symm
    have m241 := (m178).trans (fR_kept (x_lt hTH170 kH217 gw (by decide))).symm
    have m242 := (ex172).trans (fI_kept (x_lt hTH170 kH217 gw (by decide))).symm
    have m243 := (ex173).trans (fI_kept (x_lt hTH170 kH217 gw (by decide))).symm
    have m244 := (ex174).trans (fI_kept (x_lt hTH170 kH217 gw (by decide))).symm
    have m245 := (ex175).trans (fI_kept (x_lt hTH170 kH217 gw (by decide))).symm
    have m246 := (ex176).trans (fI_kept (x_lt hTH170 kH217 gw (by decide))).symm
    have m247 := (ex177).trans (fI_kept (x_lt hTH170 kH217 gw (by decide))).symm
    have m248 := (m185).trans (MF.i mf224 (k := 18) (by decide) (by decide)).symm
    have m249 := (m186).trans (MF.i mf224 (k := 1) (by decide) (by decide)).symm
    have m250 := (m187).trans (MF.i mf224 (k := 2) (by decide) (by decide)).symm
    have m251 := (m188).trans (MF.i mf224 (k := 3) (by decide) (by decide)).symm
    have m252 := (m189).trans (MF.i mf224 (k := 59) (by decide) (by decide)).symm
    have m253 := (m190).trans (MF.i mf224 (k := 62) (by decide) (by decide)).symm
    have m254 := (m192).trans (MF.r mf224 (k := 50) (by decide) (by decide)).symm
    have m255 := (m193).trans (MF.i mf224 (k := 70) (by decide) (by decide)).symm
    have m256 := (m195).trans (MF.r mf224 (k := 73) (by decide) (by decide)).symm
    have bx219 := ty_fi (x := x219) (k := 65) ex219 hTH217 gb rg_112 rfl
    refine W.eq (g2 := F0 m 1344 ls [.int x218]) rfl ?_
    have v257 : ∀ j : Nat, j < 10 → cz101 j = fI H217 (fR H217 bq j) (K.1.2 0 14) := fun j h => (v209 j h).trans (by rw [fR_kept (x_lt hTH170 kH217 gbq (by decide))]; exact (fI_kept (x_lt hTH170 kH217 (bar_g hTH170 gbq j h) (by decide))).symm)
    have v258 : ∀ j : Nat, j < 10 → rz102 j = fI H217 aq j := fun j h => (v210 j h).trans (fI_kept (x_lt hTH170 kH217 gaq (by decide))).symm
    have v259 : ∀ j : Nat, j < 10 → kz166 j = fI H217 (fR H217 kb j) (K.1.2 0 14) := fun j h => (v211 j h).trans (by rw [fR_kept (x_lt hTH170 kH217 gkb (by decide))]; exact (fI_kept (x_lt hTH170 kH217 (bar_h hTH170 gkb j h) (by decide))).symm)
    have d260 := DB.kept d212 (x_lt hTH170 kH217 gkb (by decide))
    have v261 : ∀ j : Nat, j < 10 → iz167 j = fI H217 iq (11 + 6 * j) := fun j h => (v213 j h).trans (fI_kept (x_lt hTH170 kH217 giq (by decide))).symm
    have d262 := DB.kept d214 (x_lt hTH170 kH217 gbq (by decide))
    refine lv_pop hx hb dL_law_1344 rfl ?_
    refine lv_goto (tgt := 1509) hx hb dL_law_1345 (by decide) ?_
    exact nx G H217 locsH217 _ _ ls ⟨hTH217, hN, ga, gb, g220, g221, g222, g223, ⟨(by rw [← m226, ← m248]; exact rt), (by rw [← m225, ← m242, ← m249]; omega), (by rw [← m225, ← m243, ← m250]; omega), (by rw [← m225, ← m244, ← m251]; omega), (by rw [← m225, ← m245, ← m252]; omega), (by rw [← m225, ← m246, ← m253]; omega), (by rw [← m225, ← m247, ← ex219]; omega)⟩, Or.inr ⟨kq, m227, gkq, (by rw [← m255]; exact h70), (by rw [← m228, ← m256, ← m229]; exact q1), (by rw [← m230, ← m256, ← m231]; exact q4), (by rw [← m232, ← m256, ← m233]; exact q5), (by rw [← m234, ← m256, ← m235]; exact q10), (by rw [← m236, ← m256, ← m237]; exact q13), (by rw [← m238, ← m256, ← m239]; exact q16), (by rw [← m240]; exact d260), (by rw [← m240, ← m256, ← m228]; exact fun j h1 h2 => by rw [← v259 j h1, ← v261 j h1]; exact vk0 j h1 (by omega)), (by rw [← m256, ← m228]; exact fun j h1 h2 => by rw [← v261 j h1]; exact vk1 j h1 (by omega))⟩, (by unfold RB; rw [← m225, ← m241, ← m254, ← m249]; exact ⟨d262, fun j h1 h2 => by rw [← v257 j h1, ← v258 j h1]; exact rel j h1 (by omega), fun j h1 h2 => by rw [← v258 j h1]; exact tl j h1 (by omega)⟩), hSH217⟩ hl ⟨hc, hs, fun h => by have h1 := h.symm.trans m227; cases h1⟩
set_option maxRecDepth 100000 in
set_option maxHeartbeats 8000000 in
theorem lw_c30 {p : Program} {l : Launch} {e : Env} {s : State} {m : MethodId} {below : List Frame} {meth : Method} {c : Code} {K : KE} {b0 L : Nat} {xs : Nat → Int32} {G : Nat → Option Nat} {H : Heap} {locs : List Loc} {a b : Nat} {cells slots : Nat} {ls : Array Slot} {i : Int32} {n : Nat} (D : LC p K s m meth c b0 L xs) (S : SX K s G H locs a b) (hl : lv_has ls 4 [(3, .int i), (2, .ref b), (1, .ref a), (0, .ref b0)]) (hi : 0 ≤ i.toInt ∧ i.toInt + 6 ≤ L) (hn : n ≤ 511) (hB : BD K H a cells slots) (nx : ∀ (G : Nat → Option Nat) (H : Heap) (locs : List Loc) (cells slots : Nat) (ls : Array Slot), SX K s G H locs a b → lv_has ls 4 [(3, .int i), (2, .ref b), (1, .ref a), (0, .ref b0)] → BD K H a cells slots → W p l e room_1 s m #[Value.ref b0] below meth c H locs cells slots (lw_Z below #[Value.ref b0] s) (F0 m 1509 ls [])) : W p l e room_1 s m #[Value.ref b0] below meth c H locs cells slots (lw_Z below #[Value.ref b0] s) (F0 m 1348 ls []) := by
  have hI := hi
  obtain ⟨C, hX, hbl, hL⟩ := id D
  obtain ⟨hx, hb, hml, hown, hts, hKT, hr, hlocks, hnm⟩ := id C
  obtain ⟨hT, hN, ga, gb, cg, tu, wd, im, ⟨rt, r1, r4, r5, r10, r13, r16⟩, hk, hrb, hS⟩ := S
  obtain ⟨hc, hs, hB0⟩ := hB
  have n_m1 : ((-1) : Int32).toInt = -1 := rfl
  have n_0 : (0 : Int32).toInt = 0 := rfl
  have n_1 : (1 : Int32).toInt = 1 := rfl
  have n_2 : (2 : Int32).toInt = 2 := rfl
  obtain ⟨w, ew⟩ : ∃ z : Nat, z = fR H a (K.1.2 9 0) := ⟨_, rfl⟩
  have gw := ty_fr (q := w) (k := 0) (u := 0) ew hT ga rg_68 rfl
  rw [← ew] at r1 r4 r5 r10 r13 r16
  obtain ⟨ta, eta⟩ : ∃ z : Int32, z = fI H a (K.1.2 9 3) := ⟨_, rfl⟩
  rw [← eta] at rt
  obtain ⟨tb, etb⟩ : ∃ z : Int32, z = fI H b (K.1.2 10 18) := ⟨_, rfl⟩
  rw [← etb] at rt
  obtain ⟨s1, es1⟩ : ∃ z : Int32, z = fI H w (K.1.2 8 1) := ⟨_, rfl⟩
  rw [← es1] at r1
  obtain ⟨y1, ey1⟩ : ∃ z : Int32, z = fI H b (K.1.2 10 1) := ⟨_, rfl⟩
  rw [← ey1] at r1
  obtain ⟨s4, es4⟩ : ∃ z : Int32, z = fI H w (K.1.2 8 4) := ⟨_, rfl⟩
  rw [← es4] at r4
  obtain ⟨y4, ey4⟩ : ∃ z : Int32, z = fI H b (K.1.2 10 2) := ⟨_, rfl⟩
  rw [← ey4] at r4
  obtain ⟨s5, es5⟩ : ∃ z : Int32, z = fI H w (K.1.2 8 5) := ⟨_, rfl⟩
  rw [← es5] at r5
  obtain ⟨y5, ey5⟩ : ∃ z : Int32, z = fI H b (K.1.2 10 3) := ⟨_, rfl⟩
  rw [← ey5] at r5
  obtain ⟨s10, es10⟩ : ∃ z : Int32, z = fI H w (K.1.2 8 10) := ⟨_, rfl⟩
  rw [← es10] at r10
  obtain ⟨y10, ey10⟩ : ∃ z : Int32, z = fI H b (K.1.2 10 59) := ⟨_, rfl⟩
  rw [← ey10] at r10
  obtain ⟨s13, es13⟩ : ∃ z : Int32, z = fI H w (K.1.2 8 13) := ⟨_, rfl⟩
  rw [← es13] at r13
  obtain ⟨y13, ey13⟩ : ∃ z : Int32, z = fI H b (K.1.2 10 62) := ⟨_, rfl⟩
  rw [← ey13] at r13
  obtain ⟨s16, es16⟩ : ∃ z : Int32, z = fI H w (K.1.2 8 16) := ⟨_, rfl⟩
  rw [← es16] at r16
  obtain ⟨y16, ey16⟩ : ∃ z : Int32, z = fI H b (K.1.2 10 65) := ⟨_, rfl⟩
  rw [← ey16] at r16
  obtain ⟨bq, ebq⟩ : ∃ z : Nat, z = fR H w (K.1.2 8 0) := ⟨_, rfl⟩
  have gbq := ty_fr (q := bq) (k := 0) (u := 25) ebq hT gw rg_0 rfl
  obtain ⟨aq, eaq⟩ : ∃ z : Nat, z = fR H b (K.1.2 10 50) := ⟨_, rfl⟩
  have gaq := ty_fr (q := aq) (k := 50) (u := 146) eaq hT gb rg_112 rfl
  have bs1 := ty_fi (x := s1) (k := 1) es1 hT gw rg_0 rfl
  have by1 := ty_fi (x := y1) (k := 1) ey1 hT gb rg_112 rfl
  obtain ⟨db, vr, vt⟩ := hrb
  rw [← ew, ← ebq] at db
  rw [← ew, ← ebq, ← eaq, ← ey1] at vr
  rw [← eaq, ← ey1] at vt
  obtain ⟨cz101, ecz101⟩ : ∃ f : Nat → Int32, ∀ j : Nat, j < 10 → f j = fI H (fR H bq j) (K.1.2 0 14) := ⟨_, fun _ _ => rfl⟩
  obtain ⟨rz102, erz102⟩ : ∃ f : Nat → Int32, ∀ j : Nat, j < 10 → f j = fI H aq j := ⟨_, fun _ _ => rfl⟩
  have rel : ∀ j : Nat, j < 10 → (j : Int) < y1.toInt → cz101 j = rz102 j := fun j h1 h2 => by rw [ecz101 j h1, erz102 j h1]; exact vr j h1 h2
  clear vr
  have tl : ∀ j : Nat, j < 10 → y1.toInt ≤ (j : Int) → rz102 j = 0 := fun j h1 h2 => by rw [erz102 j h1]; exact vt j h1 h2
  clear vt
  rcases hk with ⟨kn, h70⟩ | ⟨kq, kn, gkq, h70, q1, q4, q5, q10, q13, q16, dbk, vk, vkt⟩
  · skip
    obtain ⟨hi, ehi⟩ : ∃ z : Int32, z = fI H b (K.1.2 10 70) := ⟨_, rfl⟩
    rw [← ehi] at h70
    obtain ⟨hc0, hs0⟩ := hB0 kn
    obtain ⟨iq, eiq⟩ : ∃ z : Nat, z = fR H b (K.1.2 10 73) := ⟨_, rfl⟩
    have giq := ty_fr (q := iq) (k := 73) (u := 162) eiq hT gb rg_112 rfl
    refine lv_aload_n hx hb dL_law_1348 rfl (lv_at hl 2 rfl) ?_
    refine lv_aload_n hx hb dL_law_1349 rfl (lv_at hl 3 rfl) ?_
    refine lv_iload_n hx hb dL_law_1350 rfl (lv_at hl 0 rfl) ?_
    refine lv_iconst (v := 1) hx hb dL_law_1351 (by decide) ?_
    refine lv_iadd hx hb dL_law_1352 ?_
    refine lv_topi (fun x103 ex103 => ?_)
    obtain ⟨tx103, ejx103, evx103⟩ := lw_ix (k := 1) ex103 hI hL rfl (by decide)
    clear tx103
    refine va_sld hx hb hX hbl (Nat.not_le.mpr hbl) hS (vp_in_iff.mpr evx103) dL_law_1353 ?_
    refine W.eq (g2 := F0 m 1354 ls [.int (xs (i.toNatClampNeg + 1)), .ref a]) (congrArg (fun z => F0 m 1354 ls [.int (xs z), .ref a]) ejx103) ?_
    refine lv_aload_n hx hb dL_law_1354 rfl (lv_at hl 3 rfl) ?_
    refine lv_iload_n hx hb dL_law_1355 rfl (lv_at hl 0 rfl) ?_
    refine lv_iconst (v := 2) hx hb dL_law_1356 (by decide) ?_
    refine lv_iadd hx hb dL_law_1357 ?_
    refine lv_topi (fun x104 ex104 => ?_)
    obtain ⟨tx104, ejx104, evx104⟩ := lw_ix (k := 2) ex104 hI hL rfl (by decide)
    clear tx104
    refine va_sld hx hb hX hbl (Nat.not_le.mpr hbl) hS (vp_in_iff.mpr evx104) dL_law_1358 ?_
    refine W.eq (g2 := F0 m 1359 ls [.int (xs (i.toNatClampNeg + 2)), .int (xs (i.toNatClampNeg + 1)), .ref a]) (congrArg (fun z => F0 m 1359 ls [.int (xs z), .int (xs (i.toNatClampNeg + 1)), .ref a]) ejx104) ?_
    refine x_V (As := [.int (xs (i.toNatClampNeg + 1)), .int (xs (i.toNatClampNeg + 2))]) (rest := []) C (a_X9_set l K G H ((xs (i.toNatClampNeg + 1))) ((xs (i.toNatClampNeg + 2))) hT ga) yo_X9_set wM_L_141 ⟨⟨by decide, by decide⟩, show _ ≤ 1200000 from Nat.le_trans hc (by decide), show _ ≤ 5502250 from Nat.le_trans hs (by decide)⟩ (x_rv C hT (ci := 9) rfl ga rg_68) rfl hl.1 rfl (Nat.le_of_ble_eq_true rfl) dL_law_1359 hS (AE_new hN hS.1) (fun vH105 H105 locsH105 pH105 zH105 kH105 hSH105 => ?_)
    obtain ⟨x106, hvH105, hTH105⟩ := pH105
    subst hvH105
    have g107 : CG (avw K H105 b) := CG.congr (fun k hk j => av_eff hT kH105 gb (by decide) (CG_eff [104, 105, 106, 107] (by decide) k hk)) cg
    have g108 : TU (avw K H105 b) (svw K H105 b) := TU.congr (fun k hk j => av_eff hT kH105 gb (by decide) (TU_eff [104, 105, 106, 107] (by decide) k hk)) (fun k hk => sv_eff hT kH105 gb (by decide)) tu
    have g109 : WD (avw K H105 b) := WD.congr (fun k hk j => av_eff hT kH105 gb (by decide) (WD_eff [104, 105, 106, 107] (by decide) k hk)) wd
    have g110 : IM (avw K H105 b) := IM.congr (fun k hk j => av_eff hT kH105 gb (by decide) (IM_eff [104, 105, 106, 107] (by decide) k hk)) im
    have m111 := (ew).trans (fR_kept (x_lt hT kH105 ga (by decide))).symm
    have m112 := (eta).trans (fI_kept (x_lt hT kH105 ga (by decide))).symm
    have m113 := (etb).trans (fI_kept (x_lt hT kH105 gb (by decide))).symm
    have m114 := (es1).trans (fI_kept (x_lt hT kH105 gw (by decide))).symm
    have m115 := (ey1).trans (fI_kept (x_lt hT kH105 gb (by decide))).symm
    have m116 := (es4).trans (fI_kept (x_lt hT kH105 gw (by decide))).symm
    have m117 := (ey4).trans (fI_kept (x_lt hT kH105 gb (by decide))).symm
    have m118 := (es5).trans (fI_kept (x_lt hT kH105 gw (by decide))).symm
    have m119 := (ey5).trans (fI_kept (x_lt hT kH105 gb (by decide))).symm
    have m120 := (es10).trans (fI_kept (x_lt hT kH105 gw (by decide))).symm
    have m121 := (ey10).trans (fI_kept (x_lt hT kH105 gb (by decide))).symm
    have m122 := (es13).trans (fI_kept (x_lt hT kH105 gw (by decide))).symm
    have m123 := (ey13).trans (fI_kept (x_lt hT kH105 gb (by decide))).symm
    have m124 := (es16).trans (fI_kept (x_lt hT kH105 gw (by decide))).symm
    have m125 := (ey16).trans (fI_kept (x_lt hT kH105 gb (by decide))).symm
    have m126 := (ebq).trans (fR_kept (x_lt hT kH105 gw (by decide))).symm
    have m127 := (eaq).trans (fR_kept (x_lt hT kH105 gb (by decide))).symm
    have m128 := (ehi).trans (fI_kept (x_lt hT kH105 gb (by decide))).symm
    have m129 := (fV_kept (x_lt hT kH105 ga (by decide))).trans kn
    have m130 := (eiq).trans (fR_kept (x_lt hT kH105 gb (by decide))).symm
    refine W.eq (g2 := F0 m 1362 ls [.int x106]) rfl ?_
    have v131 : ∀ j : Nat, j < 10 → cz101 j = fI H105 (fR H105 bq j) (K.1.2 0 14) := fun j h => (ecz101 j h).trans (by rw [fR_kept (x_lt hT kH105 gbq (by decide))]; exact (fI_kept (x_lt hT kH105 (bar_g hT gbq j h) (by decide))).symm)
    have v132 : ∀ j : Nat, j < 10 → rz102 j = fI H105 aq j := fun j h => (erz102 j h).trans (fI_kept (x_lt hT kH105 gaq (by decide))).symm
    have d133 := DB.kept db (x_lt hT kH105 gbq (by decide))
    refine lv_pop hx hb dL_law_1362 rfl ?_
    refine lv_aload_n hx hb dL_law_1363 rfl (lv_at hl 1 rfl) ?_
    refine lv_aload_n hx hb dL_law_1364 rfl (lv_at hl 3 rfl) ?_
    refine lv_iload_n hx hb dL_law_1365 rfl (lv_at hl 0 rfl) ?_
    refine lv_iconst (v := 1) hx hb dL_law_1366 (by decide) ?_
    refine lv_iadd hx hb dL_law_1367 ?_
    refine lv_topi (fun x134 ex134 => ?_)
    obtain ⟨tx134, ejx134, evx134⟩ := lw_ix (k := 1) ex134 hI hL rfl (by decide)
    clear tx134
    refine va_sld hx hb hX hbl (Nat.not_le.mpr hbl) hSH105 (vp_in_iff.mpr evx134) dL_law_1368 ?_
    refine W.eq (g2 := F0 m 1369 ls [.int (xs (i.toNatClampNeg + 1)), .ref b]) (congrArg (fun z => F0 m 1369 ls [.int (xs z), .ref b]) ejx134) ?_
    refine lv_aload_n hx hb dL_law_1369 rfl (lv_at hl 3 rfl) ?_
    refine lv_iload_n hx hb dL_law_1370 rfl (lv_at hl 0 rfl) ?_
    refine lv_iconst (v := 2) hx hb dL_law_1371 (by decide) ?_
    refine lv_iadd hx hb dL_law_1372 ?_
    refine lv_topi (fun x135 ex135 => ?_)
    obtain ⟨tx135, ejx135, evx135⟩ := lw_ix (k := 2) ex135 hI hL rfl (by decide)
    clear tx135
    refine va_sld hx hb hX hbl (Nat.not_le.mpr hbl) hSH105 (vp_in_iff.mpr evx135) dL_law_1373 ?_
    refine W.eq (g2 := F0 m 1374 ls [.int (xs (i.toNatClampNeg + 2)), .int (xs (i.toNatClampNeg + 1)), .ref b]) (congrArg (fun z => F0 m 1374 ls [.int (xs z), .int (xs (i.toNatClampNeg + 1)), .ref b]) ejx135) ?_
    refine x_V (As := [.int (xs (i.toNatClampNeg + 1)), .int (xs (i.toNatClampNeg + 2))]) (rest := []) C (a_X10_set l K G H105 ((xs (i.toNatClampNeg + 1))) ((xs (i.toNatClampNeg + 2))) hTH105 gb g107 g108 g109 g110) yo_X10_set wM_L_144 ⟨⟨by decide, by decide⟩, show _ ≤ 1200000 from Nat.le_trans hc (by decide), show _ ≤ 5502250 from Nat.le_trans hs (by decide)⟩ (x_rv C hTH105 (ci := 10) rfl gb rg_112) rfl hl.1 rfl (Nat.le_of_ble_eq_true rfl) dL_law_1374 hSH105 (AE_new hN hSH105.1) (fun vH136 H136 locsH136 pH136 zH136 kH136 hSH136 => ?_)
    obtain ⟨x137, hvH136, g138, g139, g140, g141, mf142, hTH136⟩ := pH136
    subst hvH136
    have m143 := (m111).trans (fR_kept (x_lt hTH105 kH136 ga (by decide))).symm
    have m144 := (m112).trans (fI_kept (x_lt hTH105 kH136 ga (by decide))).symm
    have m145 := (m114).trans (fI_kept (x_lt hTH105 kH136 gw (by decide))).symm
    have m146 := (m116).trans (fI_kept (x_lt hTH105 kH136 gw (by decide))).symm
    have m147 := (m118).trans (fI_kept (x_lt hTH105 kH136 gw (by decide))).symm
    have m148 := (m120).trans (fI_kept (x_lt hTH105 kH136 gw (by decide))).symm
    have m149 := (m122).trans (fI_kept (x_lt hTH105 kH136 gw (by decide))).symm
    have m150 := (m124).trans (fI_kept (x_lt hTH105 kH136 gw (by decide))).symm
    have m151 := (m126).trans (fR_kept (x_lt hTH105 kH136 gw (by decide))).symm
    have m152 := (fV_kept (x_lt hTH105 kH136 ga (by decide))).trans m129
    have m153 := (m113).trans (MF.i mf142 (k := 18) (by decide) (by decide)).symm
    have m154 := (m115).trans (MF.i mf142 (k := 1) (by decide) (by decide)).symm
    have m155 := (m117).trans (MF.i mf142 (k := 2) (by decide) (by decide)).symm
    have m156 := (m119).trans (MF.i mf142 (k := 3) (by decide) (by decide)).symm
    have m157 := (m121).trans (MF.i mf142 (k := 59) (by decide) (by decide)).symm
    have m158 := (m123).trans (MF.i mf142 (k := 62) (by decide) (by decide)).symm
    have m159 := (m125).trans (MF.i mf142 (k := 65) (by decide) (by decide)).symm
    have m160 := (m127).trans (MF.r mf142 (k := 50) (by decide) (by decide)).symm
    have m161 := (m128).trans (MF.i mf142 (k := 70) (by decide) (by decide)).symm
    have m162 := (m130).trans (MF.r mf142 (k := 73) (by decide) (by decide)).symm
    refine W.eq (g2 := F0 m 1377 ls [.int x137]) rfl ?_
    have v163 : ∀ j : Nat, j < 10 → cz101 j = fI H136 (fR H136 bq j) (K.1.2 0 14) := fun j h => (v131 j h).trans (by rw [fR_kept (x_lt hTH105 kH136 gbq (by decide))]; exact (fI_kept (x_lt hTH105 kH136 (bar_g hTH105 gbq j h) (by decide))).symm)
    have v164 : ∀ j : Nat, j < 10 → rz102 j = fI H136 aq j := fun j h => (v132 j h).trans (fI_kept (x_lt hTH105 kH136 gaq (by decide))).symm
    have d165 := DB.kept d133 (x_lt hTH105 kH136 gbq (by decide))
    refine lv_pop hx hb dL_law_1377 rfl ?_
    refine lv_goto (tgt := 1509) hx hb dL_law_1378 (by decide) ?_
    exact nx G H136 locsH136 _ _ ls ⟨hTH136, hN, ga, gb, g138, g139, g140, g141, ⟨(by rw [← m144, ← m153]; exact rt), (by rw [← m143, ← m145, ← m154]; exact r1), (by rw [← m143, ← m146, ← m155]; exact r4), (by rw [← m143, ← m147, ← m156]; exact r5), (by rw [← m143, ← m148, ← m157]; exact r10), (by rw [← m143, ← m149, ← m158]; exact r13), (by rw [← m143, ← m150, ← m159]; exact r16)⟩, Or.inl ⟨m152, (by rw [← m161]; exact h70)⟩, (by unfold RB; rw [← m143, ← m151, ← m160, ← m154]; exact ⟨d165, fun j h1 h2 => by rw [← v163 j h1, ← v164 j h1]; exact rel j h1 (by omega), fun j h1 h2 => by rw [← v164 j h1]; exact tl j h1 (by omega)⟩), hSH136⟩ hl ⟨hc, hs, fun _ => ⟨hc0, hs0⟩⟩
  · skip
    obtain ⟨hi, ehi⟩ : ∃ z : Int32, z = fI H b (K.1.2 10 70) := ⟨_, rfl⟩
    rw [← ehi] at h70
    obtain ⟨iq, eiq⟩ : ∃ z : Nat, z = fR H b (K.1.2 10 73) := ⟨_, rfl⟩
    have giq := ty_fr (q := iq) (k := 73) (u := 162) eiq hT gb rg_112 rfl
    rw [← eiq] at q1 q4 q5 q10 q13 q16
    obtain ⟨k1, ek1⟩ : ∃ z : Int32, z = fI H kq (K.1.2 8 1) := ⟨_, rfl⟩
    rw [← ek1] at q1
    obtain ⟨i1, ei1⟩ : ∃ z : Int32, z = fI H iq ((0 : Int32).toNatClampNeg) := ⟨_, rfl⟩
    rw [← ei1] at q1
    obtain ⟨k4, ek4⟩ : ∃ z : Int32, z = fI H kq (K.1.2 8 4) := ⟨_, rfl⟩
    rw [← ek4] at q4
    obtain ⟨i4, ei4⟩ : ∃ z : Int32, z = fI H iq ((1 : Int32).toNatClampNeg) := ⟨_, rfl⟩
    rw [← ei4] at q4
    obtain ⟨k5, ek5⟩ : ∃ z : Int32, z = fI H kq (K.1.2 8 5) := ⟨_, rfl⟩
    rw [← ek5] at q5
    obtain ⟨i5, ei5⟩ : ∃ z : Int32, z = fI H iq ((2 : Int32).toNatClampNeg) := ⟨_, rfl⟩
    rw [← ei5] at q5
    obtain ⟨k10, ek10⟩ : ∃ z : Int32, z = fI H kq (K.1.2 8 10) := ⟨_, rfl⟩
    rw [← ek10] at q10
    obtain ⟨i10, ei10⟩ : ∃ z : Int32, z = fI H iq ((3 : Int32).toNatClampNeg) := ⟨_, rfl⟩
    rw [← ei10] at q10
    obtain ⟨k13, ek13⟩ : ∃ z : Int32, z = fI H kq (K.1.2 8 13) := ⟨_, rfl⟩
    rw [← ek13] at q13
    obtain ⟨i13, ei13⟩ : ∃ z : Int32, z = fI H iq ((4 : Int32).toNatClampNeg) := ⟨_, rfl⟩
    rw [← ei13] at q13
    obtain ⟨k16, ek16⟩ : ∃ z : Int32, z = fI H kq (K.1.2 8 16) := ⟨_, rfl⟩
    rw [← ek16] at q16
    obtain ⟨i16, ei16⟩ : ∃ z : Int32, z = fI H iq ((5 : Int32).toNatClampNeg) := ⟨_, rfl⟩
    rw [← ei16] at q16
    obtain ⟨kb, ekb⟩ : ∃ z : Nat, z = fR H kq (K.1.2 8 0) := ⟨_, rfl⟩
    have gkb := ty_fr (q := kb) (k := 0) (u := 59) ekb hT gkq rg_34 rfl
    have bk1 := ty_fi (x := k1) (k := 1) ek1 hT gkq rg_34 rfl
    rw [← ekb] at dbk
    rw [← ekb, ← eiq, ← ek1] at vk
    rw [← eiq, ← ek1] at vkt
    obtain ⟨kz166, ekz166⟩ : ∃ f : Nat → Int32, ∀ j : Nat, j < 10 → f j = fI H (fR H kb j) (K.1.2 0 14) := ⟨_, fun _ _ => rfl⟩
    obtain ⟨iz167, eiz167⟩ : ∃ f : Nat → Int32, ∀ j : Nat, j < 10 → f j = fI H iq (11 + 6 * j) := ⟨_, fun _ _ => rfl⟩
    have vk0 : ∀ j : Nat, j < 10 → (j : Int) < k1.toInt → kz166 j = iz167 j := fun j h1 h2 => by rw [ekz166 j h1, eiz167 j h1]; exact vk j h1 h2
    clear vk
    have vk1 : ∀ j : Nat, j < 10 → k1.toInt ≤ (j : Int) → iz167 j = 0 := fun j h1 h2 => by rw [eiz167 j h1]; exact vkt j h1 h2
    clear vkt
    refine lv_aload_n hx hb dL_law_1348 rfl (lv_at hl 2 rfl) ?_
    refine lv_aload_n hx hb dL_law_1349 rfl (lv_at hl 3 rfl) ?_
    refine lv_iload_n hx hb dL_law_1350 rfl (lv_at hl 0 rfl) ?_
    refine lv_iconst (v := 1) hx hb dL_law_1351 (by decide) ?_
    refine lv_iadd hx hb dL_law_1352 ?_
    refine lv_topi (fun x168 ex168 => ?_)
    obtain ⟨tx168, ejx168, evx168⟩ := lw_ix (k := 1) ex168 hI hL rfl (by decide)
    clear tx168
    refine va_sld hx hb hX hbl (Nat.not_le.mpr hbl) hS (vp_in_iff.mpr evx168) dL_law_1353 ?_
    refine W.eq (g2 := F0 m 1354 ls [.int (xs (i.toNatClampNeg + 1)), .ref a]) (congrArg (fun z => F0 m 1354 ls [.int (xs z), .ref a]) ejx168) ?_
    refine lv_aload_n hx hb dL_law_1354 rfl (lv_at hl 3 rfl) ?_
    refine lv_iload_n hx hb dL_law_1355 rfl (lv_at hl 0 rfl) ?_
    refine lv_iconst (v := 2) hx hb dL_law_1356 (by decide) ?_
    refine lv_iadd hx hb dL_law_1357 ?_
    refine lv_topi (fun x169 ex169 => ?_)
    obtain ⟨tx169, ejx169, evx169⟩ := lw_ix (k := 2) ex169 hI hL rfl (by decide)
    clear tx169
    refine va_sld hx hb hX hbl (Nat.not_le.mpr hbl) hS (vp_in_iff.mpr evx169) dL_law_1358 ?_
    refine W.eq (g2 := F0 m 1359 ls [.int (xs (i.toNatClampNeg + 2)), .int (xs (i.toNatClampNeg + 1)), .ref a]) (congrArg (fun z => F0 m 1359 ls [.int (xs z), .int (xs (i.toNatClampNeg + 1)), .ref a]) ejx169) ?_
    refine x_V (As := [.int (xs (i.toNatClampNeg + 1)), .int (xs (i.toNatClampNeg + 2))]) (rest := []) C (a_X9_set l K G H ((xs (i.toNatClampNeg + 1))) ((xs (i.toNatClampNeg + 2))) hT ga) yo_X9_set wM_L_141 ⟨⟨by decide, by decide⟩, show _ ≤ 1200000 from Nat.le_trans hc (by decide), show _ ≤ 5502250 from Nat.le_trans hs (by decide)⟩ (x_rv C hT (ci := 9) rfl ga rg_68) rfl hl.1 rfl (Nat.le_of_ble_eq_true rfl) dL_law_1359 hS (AE_new hN hS.1) (fun vH170 H170 locsH170 pH170 zH170 kH170 hSH170 => ?_)
    obtain ⟨x171, hvH170, hTH170⟩ := pH170
    subst hvH170
    have g172 : CG (avw K H170 b) := CG.congr (fun k hk j => av_eff hT kH170 gb (by decide) (CG_eff [104, 105, 106, 107] (by decide) k hk)) cg
    have g173 : TU (avw K H170 b) (svw K H170 b) := TU.congr (fun k hk j => av_eff hT kH170 gb (by decide) (TU_eff [104, 105, 106, 107] (by decide) k hk)) (fun k hk => sv_eff hT kH170 gb (by decide)) tu
    have g174 : WD (avw K H170 b) := WD.congr (fun k hk j => av_eff hT kH170 gb (by decide) (WD_eff [104, 105, 106, 107] (by decide) k hk)) wd
    have g175 : IM (avw K H170 b) := IM.congr (fun k hk j => av_eff hT kH170 gb (by decide) (IM_eff [104, 105, 106, 107] (by decide) k hk)) im
    have m176 := (ew).trans (fR_kept (x_lt hT kH170 ga (by decide))).symm
    have m177 := (eta).trans (fI_kept (x_lt hT kH170 ga (by decide))).symm
    have m178 := (etb).trans (fI_kept (x_lt hT kH170 gb (by decide))).symm
    have m179 := (es1).trans (fI_kept (x_lt hT kH170 gw (by decide))).symm
    have m180 := (ey1).trans (fI_kept (x_lt hT kH170 gb (by decide))).symm
    have m181 := (es4).trans (fI_kept (x_lt hT kH170 gw (by decide))).symm
    have m182 := (ey4).trans (fI_kept (x_lt hT kH170 gb (by decide))).symm
    have m183 := (es5).trans (fI_kept (x_lt hT kH170 gw (by decide))).symm
    have m184 := (ey5).trans (fI_kept (x_lt hT kH170 gb (by decide))).symm
    have m185 := (es10).trans (fI_kept (x_lt hT kH170 gw (by decide))).symm
    have m186 := (ey10).trans (fI_kept (x_lt hT kH170 gb (by decide))).symm
    have m187 := (es13).trans (fI_kept (x_lt hT kH170 gw (by decide))).symm
    have m188 := (ey13).trans (fI_kept (x_lt hT kH170 gb (by decide))).symm
    have m189 := (es16).trans (fI_kept (x_lt hT kH170 gw (by decide))).symm
    have m190 := (ey16).trans (fI_kept (x_lt hT kH170 gb (by decide))).symm
    have m191 := (ebq).trans (fR_kept (x_lt hT kH170 gw (by decide))).symm
    have m192 := (eaq).trans (fR_kept (x_lt hT kH170 gb (by decide))).symm
    have m193 := (ehi).trans (fI_kept (x_lt hT kH170 gb (by decide))).symm
    have m194 := (fV_kept (x_lt hT kH170 ga (by decide))).trans kn
    have m195 := (eiq).trans (fR_kept (x_lt hT kH170 gb (by decide))).symm
    have m196 := (ek1).trans (fI_kept (x_lt hT kH170 gkq (by decide))).symm
    have m197 := (ei1).trans (fI_kept (x_lt hT kH170 giq (by decide))).symm
    have m198 := (ek4).trans (fI_kept (x_lt hT kH170 gkq (by decide))).symm
    have m199 := (ei4).trans (fI_kept (x_lt hT kH170 giq (by decide))).symm
    have m200 := (ek5).trans (fI_kept (x_lt hT kH170 gkq (by decide))).symm
    have m201 := (ei5).trans (fI_kept (x_lt hT kH170 giq (by decide))).symm
    have m202 := (ek10).trans (fI_kept (x_lt hT kH170 gkq (by decide))).symm
    have m203 := (ei10).trans (fI_kept (x_lt hT kH170 giq (by decide))).symm
    have m204 := (ek13).trans (fI_kept (x_lt hT kH170 gkq (by decide))).symm
    have m205 := (ei13).trans (fI_kept (x_lt hT kH170 giq (by decide))).symm
    have m206 := (ek16).trans (fI_kept (x_lt hT kH170 gkq (by decide))).symm
    have m207 := (ei16).trans (fI_kept (x_lt hT kH170 giq (by decide))).symm
    have m208 := (ekb).trans (fR_kept (x_lt hT kH170 gkq (by decide))).symm
    refine W.eq (g2 := F0 m 1362 ls [.int x171]) rfl ?_
    have v209 : ∀ j : Nat, j < 10 → cz101 j = fI H170 (fR H170 bq j) (K.1.2 0 14) := fun j h => (ecz101 j h).trans (by rw [fR_kept (x_lt hT kH170 gbq (by decide))]; exact (fI_kept (x_lt hT kH170 (bar_g hT gbq j h) (by decide))).symm)
    have v210 : ∀ j : Nat, j < 10 → rz102 j = fI H170 aq j := fun j h => (erz102 j h).trans (fI_kept (x_lt hT kH170 gaq (by decide))).symm
    have v211 : ∀ j : Nat, j < 10 → kz166 j = fI H170 (fR H170 kb j) (K.1.2 0 14) := fun j h => (ekz166 j h).trans (by rw [fR_kept (x_lt hT kH170 gkb (by decide))]; exact (fI_kept (x_lt hT kH170 (bar_h hT gkb j h) (by decide))).symm)
    have d212 := DB.kept dbk (x_lt hT kH170 gkb (by decide))
    have v213 : ∀ j : Nat, j < 10 → iz167 j = fI H170 iq (11 + 6 * j) := fun j h => (eiz167 j h).trans (fI_kept (x_lt hT kH170 giq (by decide))).symm
    have d214 := DB.kept db (x_lt hT kH170 gbq (by decide))
    refine lv_pop hx hb dL_law_1362 rfl ?_
    refine lv_aload_n hx hb dL_law_1363 rfl (lv_at hl 1 rfl) ?_
    refine lv_aload_n hx hb dL_law_1364 rfl (lv_at hl 3 rfl) ?_
    refine lv_iload_n hx hb dL_law_1365 rfl (lv_at hl 0 rfl) ?_
    refine lv_iconst (v := 1) hx hb dL_law_1366 (by decide) ?_
    refine lv_iadd hx hb dL_law_1367 ?_
    refine lv_topi (fun x215 ex215 => ?_)
    obtain ⟨tx215, ejx215, evx215⟩ := lw_ix (k := 1) ex215 hI hL rfl (by decide)
    clear tx215
    refine va_sld hx hb hX hbl (Nat.not_le.mpr hbl) hSH170 (vp_in_iff.mpr evx215) dL_law_1368 ?_
    refine W.eq (g2 := F0 m 1369 ls [.int (xs (i.toNatClampNeg + 1)), .ref b]) (congrArg (fun z => F0 m 1369 ls [.int (xs z), .ref b]) ejx215) ?_
    refine lv_aload_n hx hb dL_law_1369 rfl (lv_at hl 3 rfl) ?_
    refine lv_iload_n hx hb dL_law_1370 rfl (lv_at hl 0 rfl) ?_
    refine lv_iconst (v := 2) hx hb dL_law_1371 (by decide) ?_
    refine lv_iadd hx hb dL_law_1372 ?_
    refine lv_topi (fun x216 ex216 => ?_)
    obtain ⟨tx216, ejx216, evx216⟩ := lw_ix (k := 2) ex216 hI hL rfl (by decide)
    clear tx216
    refine va_sld hx hb hX hbl (Nat.not_le.mpr hbl) hSH170 (vp_in_iff.mpr evx216) dL_law_1373 ?_
    refine W.eq (g2 := F0 m 1374 ls [.int (xs (i.toNatClampNeg + 2)), .int (xs (i.toNatClampNeg + 1)), .ref b]) (congrArg (fun z => F0 m 1374 ls [.int (xs z), .int (xs (i.toNatClampNeg + 1)), .ref b]) ejx216) ?_
    refine x_V (As := [.int (xs (i.toNatClampNeg + 1)), .int (xs (i.toNatClampNeg + 2))]) (rest := []) C (a_X10_set l K G H170 ((xs (i.toNatClampNeg + 1))) ((xs (i.toNatClampNeg + 2))) hTH170 gb g172 g173 g174 g175) yo_X10_set wM_L_144 ⟨⟨by decide, by decide⟩, show _ ≤ 1200000 from Nat.le_trans hc (by decide), show _ ≤ 5502250 from Nat.le_trans hs (by decide)⟩ (x_rv C hTH170 (ci := 10) rfl gb rg_112) rfl hl.1 rfl (Nat.le_of_ble_eq_true rfl) dL_law_1374 hSH170 (AE_new hN hSH170.1) (fun vH217 H217 locsH217 pH217 zH217 kH217 hSH217 => ?_)
    obtain ⟨x218, hvH217, g219, g220, g221, g222, mf223, hTH217⟩ := pH217
    subst hvH217
    have m224 := (m176).trans (fR_kept (x_lt hTH170 kH217 ga (by decide))).symm
    have m225 := (m177).trans (fI_kept (x_lt hTH170 kH217 ga (by decide))).symm
    have m226 := (m179).trans (fI_kept (x_lt hTH170 kH217 gw (by decide))).symm
    have m227 := (m181).trans (fI_kept (x_lt hTH170 kH217 gw (by decide))).symm
    have m228 := (m183).trans (fI_kept (x_lt hTH170 kH217 gw (by decide))).symm
    have m229 := (m185).trans (fI_kept (x_lt hTH170 kH217 gw (by decide))).symm
    have m230 := (m187).trans (fI_kept (x_lt hTH170 kH217 gw (by decide))).symm
    have m231 := (m189).trans (fI_kept (x_lt hTH170 kH217 gw (by decide))).symm
    have m232 := (m191).trans (fR_kept (x_lt hTH170 kH217 gw (by decide))).symm
    have m233 := (fV_kept (x_lt hTH170 kH217 ga (by decide))).trans m194
    have m234 := (m196).trans (fI_kept (x_lt hTH170 kH217 gkq (by decide))).symm
    have m235 := (m197).trans (fI_kept (x_lt hTH170 kH217 giq (by decide))).symm
    have m236 := (m198).trans (fI_kept (x_lt hTH170 kH217 gkq (by decide))).symm
    have m237 := (m199).trans (fI_kept (x_lt hTH170 kH217 giq (by decide))).symm
    have m238 := (m200).trans (fI_kept (x_lt hTH170 kH217 gkq (by decide))).symm
    have m239 := (m201).trans (fI_kept (x_lt hTH170 kH217 giq (by decide))).symm
    have m240 := (m202).trans (fI_kept (x_lt hTH170 kH217 gkq (by decide))).symm
    have m241 := (m203).trans (fI_kept (x_lt hTH170 kH217 giq (by decide))).symm
    have m242 := (m204).trans (fI_kept (x_lt hTH170 kH217 gkq (by decide))).symm
    have m243 := (m205).trans (fI_kept (x_lt hTH170 kH217 giq (by decide))).symm
    have m244 := (m206).trans (fI_kept (x_lt hTH170 kH217 gkq (by decide))).symm
    have m245 := (m207).trans (fI_kept (x_lt hTH170 kH217 giq (by decide))).symm
    have m246 := (m208).trans (fR_kept (x_lt hTH170 kH217 gkq (by decide))).symm
    have m247 := (m178).trans (MF.i mf223 (k := 18) (by decide) (by decide)).symm
    have m248 := (m180).trans (MF.i mf223 (k := 1) (by decide) (by decide)).symm
    have m249 := (m182).trans (MF.i mf223 (k := 2) (by decide) (by decide)).symm
    have m250 := (m184).trans (MF.i mf223 (k := 3) (by decide) (by decide)).symm
    have m251 := (m186).trans (MF.i mf223 (k := 59) (by decide) (by decide)).symm
    have m252 := (m188).trans (MF.i mf223 (k := 62) (by decide) (by decide)).symm
    have m253 := (m190).trans (MF.i mf223 (k := 65) (by decide) (by decide)).symm
    have m254 := (m192).trans (MF.r mf223 (k := 50) (by decide) (by decide)).symm
    have m255 := (m193).trans (MF.i mf223 (k := 70) (by decide) (by decide)).symm
    have m256 := (m195).trans (MF.r mf223 (k := 73) (by decide) (by decide)).symm
    refine W.eq (g2 := F0 m 1377 ls [.int x218]) rfl ?_
    have v257 : ∀ j : Nat, j < 10 → cz101 j = fI H217 (fR H217 bq j) (K.1.2 0 14) := fun j h => (v209 j h).trans (by rw [fR_kept (x_lt hTH170 kH217 gbq (by decide))]; exact (fI_kept (x_lt hTH170 kH217 (bar_g hTH170 gbq j h) (by decide))).symm)
    have v258 : ∀ j : Nat, j < 10 → rz102 j = fI H217 aq j := fun j h => (v210 j h).trans (fI_kept (x_lt hTH170 kH217 gaq (by decide))).symm
    have v259 : ∀ j : Nat, j < 10 → kz166 j = fI H217 (fR H217 kb j) (K.1.2 0 14) := fun j h => (v211 j h).trans (by rw [fR_kept (x_lt hTH170 kH217 gkb (by decide))]; exact (fI_kept (x_lt hTH170 kH217 (bar_h hTH170 gkb j h) (by decide))).symm)
    have d260 := DB.kept d212 (x_lt hTH170 kH217 gkb (by decide))
    have v261 : ∀ j : Nat, j < 10 → iz167 j = fI H217 iq (11 + 6 * j) := fun j h => (v213 j h).trans (fI_kept (x_lt hTH170 kH217 giq (by decide))).symm
    have d262 := DB.kept d214 (x_lt hTH170 kH217 gbq (by decide))
    refine lv_pop hx hb dL_law_1377 rfl ?_
    refine lv_goto (tgt := 1509) hx hb dL_law_1378 (by decide) ?_
    exact nx G H217 locsH217 _ _ ls ⟨hTH217, hN, ga, gb, g219, g220, g221, g222, ⟨(by rw [← m225, ← m247]; exact rt), (by rw [← m224, ← m226, ← m248]; exact r1), (by rw [← m224, ← m227, ← m249]; exact r4), (by rw [← m224, ← m228, ← m250]; exact r5), (by rw [← m224, ← m229, ← m251]; exact r10), (by rw [← m224, ← m230, ← m252]; exact r13), (by rw [← m224, ← m231, ← m253]; exact r16)⟩, Or.inr ⟨kq, m233, gkq, (by rw [← m255]; exact h70), (by rw [← m234, ← m256, ← m235]; exact q1), (by rw [← m236, ← m256, ← m237]; exact q4), (by rw [← m238, ← m256, ← m239]; exact q5), (by rw [← m240, ← m256, ← m241]; exact q10), (by rw [← m242, ← m256, ← m243]; exact q13), (by rw [← m244, ← m256, ← m245]; exact q16), (by rw [← m246]; exact d260), (by rw [← m246, ← m256, ← m234]; exact fun j h1 h2 => by rw [← v259 j h1, ← v261 j h1]; exact vk0 j h1 (by omega)), (by rw [← m256, ← m234]; exact fun j h1 h2 => by rw [← v261 j h1]; exact vk1 j h1 (by omega))⟩, (by unfold RB; rw [← m224, ← m232, ← m254, ← m248]; exact ⟨d262, fun j h1 h2 => by rw [← v257 j h1, ← v258 j h1]; exact rel j h1 (by omega), fun j h1 h2 => by rw [← v258 j h1]; exact tl j h1 (by omega)⟩), hSH217⟩ hl ⟨hc, hs, fun h => by have h1 := h.symm.trans m233; cases h1⟩
set_option maxRecDepth 100000 in
set_option maxHeartbeats 8000000 in
theorem lw_c31 {p : Program} {l : Launch} {e : Env} {s : State} {m : MethodId} {below : List Frame} {meth : Method} {c : Code} {K : KE} {b0 L : Nat} {xs : Nat → Int32} {G : Nat → Option Nat} {H : Heap} {locs : List Loc} {a b : Nat} {cells slots : Nat} {ls : Array Slot} {i : Int32} {n : Nat} (D : LC p K s m meth c b0 L xs) (S : SX K s G H locs a b) (hl : lv_has ls 4 [(3, .int i), (2, .ref b), (1, .ref a), (0, .ref b0)]) (hi : 0 ≤ i.toInt ∧ i.toInt + 6 ≤ L) (hn : n ≤ 511) (hB : BD K H a cells slots) (nx : ∀ (G : Nat → Option Nat) (H : Heap) (locs : List Loc) (cells slots : Nat) (ls : Array Slot), SX K s G H locs a b → lv_has ls 4 [(3, .int i), (2, .ref b), (1, .ref a), (0, .ref b0)] → BD K H a cells slots → W p l e room_1 s m #[Value.ref b0] below meth c H locs cells slots (lw_Z below #[Value.ref b0] s) (F0 m 1509 ls [])) : W p l e room_1 s m #[Value.ref b0] below meth c H locs cells slots (lw_Z below #[Value.ref b0] s) (F0 m 1381 ls []) := by
  have hI := hi
  obtain ⟨C, hX, hbl, hL⟩ := id D
  obtain ⟨hx, hb, hml, hown, hts, hKT, hr, hlocks, hnm⟩ := id C
  obtain ⟨hT, hN, ga, gb, cg, tu, wd, im, ⟨rt, r1, r4, r5, r10, r13, r16⟩, hk, hrb, hS⟩ := S
  obtain ⟨hc, hs, hB0⟩ := hB
  have n_m1 : ((-1) : Int32).toInt = -1 := rfl
  have n_0 : (0 : Int32).toInt = 0 := rfl
  have n_1 : (1 : Int32).toInt = 1 := rfl
  obtain ⟨w, ew⟩ : ∃ z : Nat, z = fR H a (K.1.2 9 0) := ⟨_, rfl⟩
  have gw := ty_fr (q := w) (k := 0) (u := 0) ew hT ga rg_68 rfl
  rw [← ew] at r1 r4 r5 r10 r13 r16
  obtain ⟨ta, eta⟩ : ∃ z : Int32, z = fI H a (K.1.2 9 3) := ⟨_, rfl⟩
  rw [← eta] at rt
  obtain ⟨tb, etb⟩ : ∃ z : Int32, z = fI H b (K.1.2 10 18) := ⟨_, rfl⟩
  rw [← etb] at rt
  obtain ⟨s1, es1⟩ : ∃ z : Int32, z = fI H w (K.1.2 8 1) := ⟨_, rfl⟩
  rw [← es1] at r1
  obtain ⟨y1, ey1⟩ : ∃ z : Int32, z = fI H b (K.1.2 10 1) := ⟨_, rfl⟩
  rw [← ey1] at r1
  obtain ⟨s4, es4⟩ : ∃ z : Int32, z = fI H w (K.1.2 8 4) := ⟨_, rfl⟩
  rw [← es4] at r4
  obtain ⟨y4, ey4⟩ : ∃ z : Int32, z = fI H b (K.1.2 10 2) := ⟨_, rfl⟩
  rw [← ey4] at r4
  obtain ⟨s5, es5⟩ : ∃ z : Int32, z = fI H w (K.1.2 8 5) := ⟨_, rfl⟩
  rw [← es5] at r5
  obtain ⟨y5, ey5⟩ : ∃ z : Int32, z = fI H b (K.1.2 10 3) := ⟨_, rfl⟩
  rw [← ey5] at r5
  obtain ⟨s10, es10⟩ : ∃ z : Int32, z = fI H w (K.1.2 8 10) := ⟨_, rfl⟩
  rw [← es10] at r10
  obtain ⟨y10, ey10⟩ : ∃ z : Int32, z = fI H b (K.1.2 10 59) := ⟨_, rfl⟩
  rw [← ey10] at r10
  obtain ⟨s13, es13⟩ : ∃ z : Int32, z = fI H w (K.1.2 8 13) := ⟨_, rfl⟩
  rw [← es13] at r13
  obtain ⟨y13, ey13⟩ : ∃ z : Int32, z = fI H b (K.1.2 10 62) := ⟨_, rfl⟩
  rw [← ey13] at r13
  obtain ⟨s16, es16⟩ : ∃ z : Int32, z = fI H w (K.1.2 8 16) := ⟨_, rfl⟩
  rw [← es16] at r16
  obtain ⟨y16, ey16⟩ : ∃ z : Int32, z = fI H b (K.1.2 10 65) := ⟨_, rfl⟩
  rw [← ey16] at r16
  obtain ⟨bq, ebq⟩ : ∃ z : Nat, z = fR H w (K.1.2 8 0) := ⟨_, rfl⟩
  have gbq := ty_fr (q := bq) (k := 0) (u := 25) ebq hT gw rg_0 rfl
  obtain ⟨aq, eaq⟩ : ∃ z : Nat, z = fR H b (K.1.2 10 50) := ⟨_, rfl⟩
  have gaq := ty_fr (q := aq) (k := 50) (u := 146) eaq hT gb rg_112 rfl
  have bs1 := ty_fi (x := s1) (k := 1) es1 hT gw rg_0 rfl
  have by1 := ty_fi (x := y1) (k := 1) ey1 hT gb rg_112 rfl
  obtain ⟨db, vr, vt⟩ := hrb
  rw [← ew, ← ebq] at db
  rw [← ew, ← ebq, ← eaq, ← ey1] at vr
  rw [← eaq, ← ey1] at vt
  obtain ⟨cz101, ecz101⟩ : ∃ f : Nat → Int32, ∀ j : Nat, j < 10 → f j = fI H (fR H bq j) (K.1.2 0 14) := ⟨_, fun _ _ => rfl⟩
  obtain ⟨rz102, erz102⟩ : ∃ f : Nat → Int32, ∀ j : Nat, j < 10 → f j = fI H aq j := ⟨_, fun _ _ => rfl⟩
  have rel : ∀ j : Nat, j < 10 → (j : Int) < y1.toInt → cz101 j = rz102 j := fun j h1 h2 => by rw [ecz101 j h1, erz102 j h1]; exact vr j h1 h2
  clear vr
  have tl : ∀ j : Nat, j < 10 → y1.toInt ≤ (j : Int) → rz102 j = 0 := fun j h1 h2 => by rw [erz102 j h1]; exact vt j h1 h2
  clear vt
  rcases hk with ⟨kn, h70⟩ | ⟨kq, kn, gkq, h70, q1, q4, q5, q10, q13, q16, dbk, vk, vkt⟩
  · skip
    obtain ⟨hi, ehi⟩ : ∃ z : Int32, z = fI H b (K.1.2 10 70) := ⟨_, rfl⟩
    rw [← ehi] at h70
    obtain ⟨hc0, hs0⟩ := hB0 kn
    obtain ⟨iq, eiq⟩ : ∃ z : Nat, z = fR H b (K.1.2 10 73) := ⟨_, rfl⟩
    have giq := ty_fr (q := iq) (k := 73) (u := 162) eiq hT gb rg_112 rfl
    refine lv_aload_n hx hb dL_law_1381 rfl (lv_at hl 2 rfl) ?_
    refine lv_aload_n hx hb dL_law_1382 rfl (lv_at hl 3 rfl) ?_
    refine lv_iload_n hx hb dL_law_1383 rfl (lv_at hl 0 rfl) ?_
    refine lv_iconst (v := 1) hx hb dL_law_1384 (by decide) ?_
    refine lv_iadd hx hb dL_law_1385 ?_
    refine lv_topi (fun x103 ex103 => ?_)
    obtain ⟨tx103, ejx103, evx103⟩ := lw_ix (k := 1) ex103 hI hL rfl (by decide)
    clear tx103
    refine va_sld hx hb hX hbl (Nat.not_le.mpr hbl) hS (vp_in_iff.mpr evx103) dL_law_1386 ?_
    refine W.eq (g2 := F0 m 1387 ls [.int (xs (i.toNatClampNeg + 1)), .ref a]) (congrArg (fun z => F0 m 1387 ls [.int (xs z), .ref a]) ejx103) ?_
    refine x_V (As := [.int (xs (i.toNatClampNeg + 1))]) (rest := []) C (a_X9_down l K G H ((xs (i.toNatClampNeg + 1))) hT ga) yo_X9_down wM_L_145 ⟨⟨by decide, by decide⟩, show _ ≤ 1200000 from Nat.le_trans hc (by decide), show _ ≤ 5502250 from Nat.le_trans hs (by decide)⟩ (x_rv C hT (ci := 9) rfl ga rg_68) rfl hl.1 rfl (Nat.le_of_ble_eq_true rfl) dL_law_1387 hS (AE_new hN hS.1) (fun vH104 H104 locsH104 pH104 zH104 kH104 hSH104 => ?_)
    obtain ⟨x105, hvH104, hTH104⟩ := pH104
    subst hvH104
    have g106 : CG (avw K H104 b) := CG.congr (fun k hk j => av_eff hT kH104 gb (by decide) (CG_eff [83, 84] (by decide) k hk)) cg
    have g107 : TU (avw K H104 b) (svw K H104 b) := TU.congr (fun k hk j => av_eff hT kH104 gb (by decide) (TU_eff [83, 84] (by decide) k hk)) (fun k hk => sv_eff hT kH104 gb (by decide)) tu
    have g108 : WD (avw K H104 b) := WD.congr (fun k hk j => av_eff hT kH104 gb (by decide) (WD_eff [83, 84] (by decide) k hk)) wd
    have g109 : IM (avw K H104 b) := IM.congr (fun k hk j => av_eff hT kH104 gb (by decide) (IM_eff [83, 84] (by decide) k hk)) im
    have m110 := (ew).trans (fR_kept (x_lt hT kH104 ga (by decide))).symm
    have m111 := (eta).trans (fI_kept (x_lt hT kH104 ga (by decide))).symm
    have m112 := (etb).trans (fI_kept (x_lt hT kH104 gb (by decide))).symm
    have m113 := (es1).trans (fI_kept (x_lt hT kH104 gw (by decide))).symm
    have m114 := (ey1).trans (fI_kept (x_lt hT kH104 gb (by decide))).symm
    have m115 := (es4).trans (fI_kept (x_lt hT kH104 gw (by decide))).symm
    have m116 := (ey4).trans (fI_kept (x_lt hT kH104 gb (by decide))).symm
    have m117 := (es5).trans (fI_kept (x_lt hT kH104 gw (by decide))).symm
    have m118 := (ey5).trans (fI_kept (x_lt hT kH104 gb (by decide))).symm
    have m119 := (es10).trans (fI_kept (x_lt hT kH104 gw (by decide))).symm
    have m120 := (ey10).trans (fI_kept (x_lt hT kH104 gb (by decide))).symm
    have m121 := (es13).trans (fI_kept (x_lt hT kH104 gw (by decide))).symm
    have m122 := (ey13).trans (fI_kept (x_lt hT kH104 gb (by decide))).symm
    have m123 := (es16).trans (fI_kept (x_lt hT kH104 gw (by decide))).symm
    have m124 := (ey16).trans (fI_kept (x_lt hT kH104 gb (by decide))).symm
    have m125 := (ebq).trans (fR_kept (x_lt hT kH104 gw (by decide))).symm
    have m126 := (eaq).trans (fR_kept (x_lt hT kH104 gb (by decide))).symm
    have m127 := (ehi).trans (fI_kept (x_lt hT kH104 gb (by decide))).symm
    have m128 := (fV_kept (x_lt hT kH104 ga (by decide))).trans kn
    have m129 := (eiq).trans (fR_kept (x_lt hT kH104 gb (by decide))).symm
    refine W.eq (g2 := F0 m 1390 ls [.int x105]) rfl ?_
    have v130 : ∀ j : Nat, j < 10 → cz101 j = fI H104 (fR H104 bq j) (K.1.2 0 14) := fun j h => (ecz101 j h).trans (by rw [fR_kept (x_lt hT kH104 gbq (by decide))]; exact (fI_kept (x_lt hT kH104 (bar_g hT gbq j h) (by decide))).symm)
    have v131 : ∀ j : Nat, j < 10 → rz102 j = fI H104 aq j := fun j h => (erz102 j h).trans (fI_kept (x_lt hT kH104 gaq (by decide))).symm
    have d132 := DB.kept db (x_lt hT kH104 gbq (by decide))
    refine lv_pop hx hb dL_law_1390 rfl ?_
    refine lv_aload_n hx hb dL_law_1391 rfl (lv_at hl 1 rfl) ?_
    refine lv_aload_n hx hb dL_law_1392 rfl (lv_at hl 3 rfl) ?_
    refine lv_iload_n hx hb dL_law_1393 rfl (lv_at hl 0 rfl) ?_
    refine lv_iconst (v := 1) hx hb dL_law_1394 (by decide) ?_
    refine lv_iadd hx hb dL_law_1395 ?_
    refine lv_topi (fun x133 ex133 => ?_)
    obtain ⟨tx133, ejx133, evx133⟩ := lw_ix (k := 1) ex133 hI hL rfl (by decide)
    clear tx133
    refine va_sld hx hb hX hbl (Nat.not_le.mpr hbl) hSH104 (vp_in_iff.mpr evx133) dL_law_1396 ?_
    refine W.eq (g2 := F0 m 1397 ls [.int (xs (i.toNatClampNeg + 1)), .ref b]) (congrArg (fun z => F0 m 1397 ls [.int (xs z), .ref b]) ejx133) ?_
    refine x_V (As := [.int (xs (i.toNatClampNeg + 1))]) (rest := []) C (a_X10_down l K G H104 ((xs (i.toNatClampNeg + 1))) hTH104 gb g106 g107 g108 g109) yo_X10_down wM_L_148 ⟨⟨by decide, by decide⟩, show _ ≤ 1200000 from Nat.le_trans hc (by decide), show _ ≤ 5502250 from Nat.le_trans hs (by decide)⟩ (x_rv C hTH104 (ci := 10) rfl gb rg_112) rfl hl.1 rfl (Nat.le_of_ble_eq_true rfl) dL_law_1397 hSH104 (AE_new hN hSH104.1) (fun vH134 H134 locsH134 pH134 zH134 kH134 hSH134 => ?_)
    obtain ⟨x135, hvH134, g136, g137, g138, g139, mf140, hTH134⟩ := pH134
    subst hvH134
    have m141 := (m110).trans (fR_kept (x_lt hTH104 kH134 ga (by decide))).symm
    have m142 := (m111).trans (fI_kept (x_lt hTH104 kH134 ga (by decide))).symm
    have m143 := (m113).trans (fI_kept (x_lt hTH104 kH134 gw (by decide))).symm
    have m144 := (m115).trans (fI_kept (x_lt hTH104 kH134 gw (by decide))).symm
    have m145 := (m117).trans (fI_kept (x_lt hTH104 kH134 gw (by decide))).symm
    have m146 := (m119).trans (fI_kept (x_lt hTH104 kH134 gw (by decide))).symm
    have m147 := (m121).trans (fI_kept (x_lt hTH104 kH134 gw (by decide))).symm
    have m148 := (m123).trans (fI_kept (x_lt hTH104 kH134 gw (by decide))).symm
    have m149 := (m125).trans (fR_kept (x_lt hTH104 kH134 gw (by decide))).symm
    have m150 := (fV_kept (x_lt hTH104 kH134 ga (by decide))).trans m128
    have m151 := (m112).trans (MF.i mf140 (k := 18) (by decide) (by decide)).symm
    have m152 := (m114).trans (MF.i mf140 (k := 1) (by decide) (by decide)).symm
    have m153 := (m116).trans (MF.i mf140 (k := 2) (by decide) (by decide)).symm
    have m154 := (m118).trans (MF.i mf140 (k := 3) (by decide) (by decide)).symm
    have m155 := (m120).trans (MF.i mf140 (k := 59) (by decide) (by decide)).symm
    have m156 := (m122).trans (MF.i mf140 (k := 62) (by decide) (by decide)).symm
    have m157 := (m124).trans (MF.i mf140 (k := 65) (by decide) (by decide)).symm
    have m158 := (m126).trans (MF.r mf140 (k := 50) (by decide) (by decide)).symm
    have m159 := (m127).trans (MF.i mf140 (k := 70) (by decide) (by decide)).symm
    have m160 := (m129).trans (MF.r mf140 (k := 73) (by decide) (by decide)).symm
    refine W.eq (g2 := F0 m 1400 ls [.int x135]) rfl ?_
    have v161 : ∀ j : Nat, j < 10 → cz101 j = fI H134 (fR H134 bq j) (K.1.2 0 14) := fun j h => (v130 j h).trans (by rw [fR_kept (x_lt hTH104 kH134 gbq (by decide))]; exact (fI_kept (x_lt hTH104 kH134 (bar_g hTH104 gbq j h) (by decide))).symm)
    have v162 : ∀ j : Nat, j < 10 → rz102 j = fI H134 aq j := fun j h => (v131 j h).trans (fI_kept (x_lt hTH104 kH134 gaq (by decide))).symm
    have d163 := DB.kept d132 (x_lt hTH104 kH134 gbq (by decide))
    refine lv_pop hx hb dL_law_1400 rfl ?_
    refine lv_goto (tgt := 1509) hx hb dL_law_1401 (by decide) ?_
    exact nx G H134 locsH134 _ _ ls ⟨hTH134, hN, ga, gb, g136, g137, g138, g139, ⟨(by rw [← m142, ← m151]; exact rt), (by rw [← m141, ← m143, ← m152]; exact r1), (by rw [← m141, ← m144, ← m153]; exact r4), (by rw [← m141, ← m145, ← m154]; exact r5), (by rw [← m141, ← m146, ← m155]; exact r10), (by rw [← m141, ← m147, ← m156]; exact r13), (by rw [← m141, ← m148, ← m157]; exact r16)⟩, Or.inl ⟨m150, (by rw [← m159]; exact h70)⟩, (by unfold RB; rw [← m141, ← m149, ← m158, ← m152]; exact ⟨d163, fun j h1 h2 => by rw [← v161 j h1, ← v162 j h1]; exact rel j h1 (by omega), fun j h1 h2 => by rw [← v162 j h1]; exact tl j h1 (by omega)⟩), hSH134⟩ hl ⟨hc, hs, fun _ => ⟨hc0, hs0⟩⟩
  · skip
    obtain ⟨hi, ehi⟩ : ∃ z : Int32, z = fI H b (K.1.2 10 70) := ⟨_, rfl⟩
    rw [← ehi] at h70
    obtain ⟨iq, eiq⟩ : ∃ z : Nat, z = fR H b (K.1.2 10 73) := ⟨_, rfl⟩
    have giq := ty_fr (q := iq) (k := 73) (u := 162) eiq hT gb rg_112 rfl
    rw [← eiq] at q1 q4 q5 q10 q13 q16
    obtain ⟨k1, ek1⟩ : ∃ z : Int32, z = fI H kq (K.1.2 8 1) := ⟨_, rfl⟩
    rw [← ek1] at q1
    obtain ⟨i1, ei1⟩ : ∃ z : Int32, z = fI H iq ((0 : Int32).toNatClampNeg) := ⟨_, rfl⟩
    rw [← ei1] at q1
    obtain ⟨k4, ek4⟩ : ∃ z : Int32, z = fI H kq (K.1.2 8 4) := ⟨_, rfl⟩
    rw [← ek4] at q4
    obtain ⟨i4, ei4⟩ : ∃ z : Int32, z = fI H iq ((1 : Int32).toNatClampNeg) := ⟨_, rfl⟩
    rw [← ei4] at q4
    obtain ⟨k5, ek5⟩ : ∃ z : Int32, z = fI H kq (K.1.2 8 5) := ⟨_, rfl⟩
    rw [← ek5] at q5
    obtain ⟨i5, ei5⟩ : ∃ z : Int32, z = fI H iq ((2 : Int32).toNatClampNeg) := ⟨_, rfl⟩
    rw [← ei5] at q5
    obtain ⟨k10, ek10⟩ : ∃ z : Int32, z = fI H kq (K.1.2 8 10) := ⟨_, rfl⟩
    rw [← ek10] at q10
    obtain ⟨i10, ei10⟩ : ∃ z : Int32, z = fI H iq ((3 : Int32).toNatClampNeg) := ⟨_, rfl⟩
    rw [← ei10] at q10
    obtain ⟨k13, ek13⟩ : ∃ z : Int32, z = fI H kq (K.1.2 8 13) := ⟨_, rfl⟩
    rw [← ek13] at q13
    obtain ⟨i13, ei13⟩ : ∃ z : Int32, z = fI H iq ((4 : Int32).toNatClampNeg) := ⟨_, rfl⟩
    rw [← ei13] at q13
    obtain ⟨k16, ek16⟩ : ∃ z : Int32, z = fI H kq (K.1.2 8 16) := ⟨_, rfl⟩
    rw [← ek16] at q16
    obtain ⟨i16, ei16⟩ : ∃ z : Int32, z = fI H iq ((5 : Int32).toNatClampNeg) := ⟨_, rfl⟩
    rw [← ei16] at q16
    obtain ⟨kb, ekb⟩ : ∃ z : Nat, z = fR H kq (K.1.2 8 0) := ⟨_, rfl⟩
    have gkb := ty_fr (q := kb) (k := 0) (u := 59) ekb hT gkq rg_34 rfl
    have bk1 := ty_fi (x := k1) (k := 1) ek1 hT gkq rg_34 rfl
    rw [← ekb] at dbk
    rw [← ekb, ← eiq, ← ek1] at vk
    rw [← eiq, ← ek1] at vkt
    obtain ⟨kz164, ekz164⟩ : ∃ f : Nat → Int32, ∀ j : Nat, j < 10 → f j = fI H (fR H kb j) (K.1.2 0 14) := ⟨_, fun _ _ => rfl⟩
    obtain ⟨iz165, eiz165⟩ : ∃ f : Nat → Int32, ∀ j : Nat, j < 10 → f j = fI H iq (11 + 6 * j) := ⟨_, fun _ _ => rfl⟩
    have vk0 : ∀ j : Nat, j < 10 → (j : Int) < k1.toInt → kz164 j = iz165 j := fun j h1 h2 => by rw [ekz164 j h1, eiz165 j h1]; exact vk j h1 h2
    clear vk
    have vk1 : ∀ j : Nat, j < 10 → k1.toInt ≤ (j : Int) → iz165 j = 0 := fun j h1 h2 => by rw [eiz165 j h1]; exact vkt j h1 h2
    clear vkt
    refine lv_aload_n hx hb dL_law_1381 rfl (lv_at hl 2 rfl) ?_
    refine lv_aload_n hx hb dL_law_1382 rfl (lv_at hl 3 rfl) ?_
    refine lv_iload_n hx hb dL_law_1383 rfl (lv_at hl 0 rfl) ?_
    refine lv_iconst (v := 1) hx hb dL_law_1384 (by decide) ?_
    refine lv_iadd hx hb dL_law_1385 ?_
    refine lv_topi (fun x166 ex166 => ?_)
    obtain ⟨tx166, ejx166, evx166⟩ := lw_ix (k := 1) ex166 hI hL rfl (by decide)
    clear tx166
    refine va_sld hx hb hX hbl (Nat.not_le.mpr hbl) hS (vp_in_iff.mpr evx166) dL_law_1386 ?_
    refine W.eq (g2 := F0 m 1387 ls [.int (xs (i.toNatClampNeg + 1)), .ref a]) (congrArg (fun z => F0 m 1387 ls [.int (xs z), .ref a]) ejx166) ?_
    refine x_V (As := [.int (xs (i.toNatClampNeg + 1))]) (rest := []) C (a_X9_down l K G H ((xs (i.toNatClampNeg + 1))) hT ga) yo_X9_down wM_L_145 ⟨⟨by decide, by decide⟩, show _ ≤ 1200000 from Nat.le_trans hc (by decide), show _ ≤ 5502250 from Nat.le_trans hs (by decide)⟩ (x_rv C hT (ci := 9) rfl ga rg_68) rfl hl.1 rfl (Nat.le_of_ble_eq_true rfl) dL_law_1387 hS (AE_new hN hS.1) (fun vH167 H167 locsH167 pH167 zH167 kH167 hSH167 => ?_)
    obtain ⟨x168, hvH167, hTH167⟩ := pH167
    subst hvH167
    have g169 : CG (avw K H167 b) := CG.congr (fun k hk j => av_eff hT kH167 gb (by decide) (CG_eff [83, 84] (by decide) k hk)) cg
    have g170 : TU (avw K H167 b) (svw K H167 b) := TU.congr (fun k hk j => av_eff hT kH167 gb (by decide) (TU_eff [83, 84] (by decide) k hk)) (fun k hk => sv_eff hT kH167 gb (by decide)) tu
    have g171 : WD (avw K H167 b) := WD.congr (fun k hk j => av_eff hT kH167 gb (by decide) (WD_eff [83, 84] (by decide) k hk)) wd
    have g172 : IM (avw K H167 b) := IM.congr (fun k hk j => av_eff hT kH167 gb (by decide) (IM_eff [83, 84] (by decide) k hk)) im
    have m173 := (ew).trans (fR_kept (x_lt hT kH167 ga (by decide))).symm
    have m174 := (eta).trans (fI_kept (x_lt hT kH167 ga (by decide))).symm
    have m175 := (etb).trans (fI_kept (x_lt hT kH167 gb (by decide))).symm
    have m176 := (es1).trans (fI_kept (x_lt hT kH167 gw (by decide))).symm
    have m177 := (ey1).trans (fI_kept (x_lt hT kH167 gb (by decide))).symm
    have m178 := (es4).trans (fI_kept (x_lt hT kH167 gw (by decide))).symm
    have m179 := (ey4).trans (fI_kept (x_lt hT kH167 gb (by decide))).symm
    have m180 := (es5).trans (fI_kept (x_lt hT kH167 gw (by decide))).symm
    have m181 := (ey5).trans (fI_kept (x_lt hT kH167 gb (by decide))).symm
    have m182 := (es10).trans (fI_kept (x_lt hT kH167 gw (by decide))).symm
    have m183 := (ey10).trans (fI_kept (x_lt hT kH167 gb (by decide))).symm
    have m184 := (es13).trans (fI_kept (x_lt hT kH167 gw (by decide))).symm
    have m185 := (ey13).trans (fI_kept (x_lt hT kH167 gb (by decide))).symm
    have m186 := (es16).trans (fI_kept (x_lt hT kH167 gw (by decide))).symm
    have m187 := (ey16).trans (fI_kept (x_lt hT kH167 gb (by decide))).symm
    have m188 := (ebq).trans (fR_kept (x_lt hT kH167 gw (by decide))).symm
    have m189 := (eaq).trans (fR_kept (x_lt hT kH167 gb (by decide))).symm
    have m190 := (ehi).trans (fI_kept (x_lt hT kH167 gb (by decide))).symm
    have m191 := (fV_kept (x_lt hT kH167 ga (by decide))).trans kn
    have m192 := (eiq).trans (fR_kept (x_lt hT kH167 gb (by decide))).symm
    have m193 := (ek1).trans (fI_kept (x_lt hT kH167 gkq (by decide))).symm
    have m194 := (ei1).trans (fI_kept (x_lt hT kH167 giq (by decide))).symm
    have m195 := (ek4).trans (fI_kept (x_lt hT kH167 gkq (by decide))).symm
    have m196 := (ei4).trans (fI_kept (x_lt hT kH167 giq (by decide))).symm
    have m197 := (ek5).trans (fI_kept (x_lt hT kH167 gkq (by decide))).symm
    have m198 := (ei5).trans (fI_kept (x_lt hT kH167 giq (by decide))).symm
    have m199 := (ek10).trans (fI_kept (x_lt hT kH167 gkq (by decide))).symm
    have m200 := (ei10).trans (fI_kept (x_lt hT kH167 giq (by decide))).symm
    have m201 := (ek13).trans (fI_kept (x_lt hT kH167 gkq (by decide))).symm
    have m202 := (ei13).trans (fI_kept (x_lt hT kH167 giq (by decide))).symm
    have m203 := (ek16).trans (fI_kept (x_lt hT kH167 gkq (by decide))).symm
    have m204 := (ei16).trans (fI_kept (x_lt hT kH167 giq (by decide))).symm
    have m205 := (ekb).trans (fR_kept (x_lt hT kH167 gkq (by decide))).symm
    refine W.eq (g2 := F0 m 1390 ls [.int x168]) rfl ?_
    have v206 : ∀ j : Nat, j < 10 → cz101 j = fI H167 (fR H167 bq j) (K.1.2 0 14) := fun j h => (ecz101 j h).trans (by rw [fR_kept (x_lt hT kH167 gbq (by decide))]; exact (fI_kept (x_lt hT kH167 (bar_g hT gbq j h) (by decide))).symm)
    have v207 : ∀ j : Nat, j < 10 → rz102 j = fI H167 aq j := fun j h => (erz102 j h).trans (fI_kept (x_lt hT kH167 gaq (by decide))).symm
    have v208 : ∀ j : Nat, j < 10 → kz164 j = fI H167 (fR H167 kb j) (K.1.2 0 14) := fun j h => (ekz164 j h).trans (by rw [fR_kept (x_lt hT kH167 gkb (by decide))]; exact (fI_kept (x_lt hT kH167 (bar_h hT gkb j h) (by decide))).symm)
    have d209 := DB.kept dbk (x_lt hT kH167 gkb (by decide))
    have v210 : ∀ j : Nat, j < 10 → iz165 j = fI H167 iq (11 + 6 * j) := fun j h => (eiz165 j h).trans (fI_kept (x_lt hT kH167 giq (by decide))).symm
    have d211 := DB.kept db (x_lt hT kH167 gbq (by decide))
    refine lv_pop hx hb dL_law_1390 rfl ?_
    refine lv_aload_n hx hb dL_law_1391 rfl (lv_at hl 1 rfl) ?_
    refine lv_aload_n hx hb dL_law_1392 rfl (lv_at hl 3 rfl) ?_
    refine lv_iload_n hx hb dL_law_1393 rfl (lv_at hl 0 rfl) ?_
    refine lv_iconst (v := 1) hx hb dL_law_1394 (by decide) ?_
    refine lv_iadd hx hb dL_law_1395 ?_
    refine lv_topi (fun x212 ex212 => ?_)
    obtain ⟨tx212, ejx212, evx212⟩ := lw_ix (k := 1) ex212 hI hL rfl (by decide)
    clear tx212
    refine va_sld hx hb hX hbl (Nat.not_le.mpr hbl) hSH167 (vp_in_iff.mpr evx212) dL_law_1396 ?_
    refine W.eq (g2 := F0 m 1397 ls [.int (xs (i.toNatClampNeg + 1)), .ref b]) (congrArg (fun z => F0 m 1397 ls [.int (xs z), .ref b]) ejx212) ?_
    refine x_V (As := [.int (xs (i.toNatClampNeg + 1))]) (rest := []) C (a_X10_down l K G H167 ((xs (i.toNatClampNeg + 1))) hTH167 gb g169 g170 g171 g172) yo_X10_down wM_L_148 ⟨⟨by decide, by decide⟩, show _ ≤ 1200000 from Nat.le_trans hc (by decide), show _ ≤ 5502250 from Nat.le_trans hs (by decide)⟩ (x_rv C hTH167 (ci := 10) rfl gb rg_112) rfl hl.1 rfl (Nat.le_of_ble_eq_true rfl) dL_law_1397 hSH167 (AE_new hN hSH167.1) (fun vH213 H213 locsH213 pH213 zH213 kH213 hSH213 => ?_)
    obtain ⟨x214, hvH213, g215, g216, g217, g218, mf219, hTH213⟩ := pH213
    subst hvH213
    have m220 := (m173).trans (fR_kept (x_lt hTH167 kH213 ga (by decide))).symm
    have m221 := (m174).trans (fI_kept (x_lt hTH167 kH213 ga (by decide))).symm
    have m222 := (m176).trans (fI_kept (x_lt hTH167 kH213 gw (by decide))).symm
    have m223 := (m178).trans (fI_kept (x_lt hTH167 kH213 gw (by decide))).symm
    have m224 := (m180).trans (fI_kept (x_lt hTH167 kH213 gw (by decide))).symm
    have m225 := (m182).trans (fI_kept (x_lt hTH167 kH213 gw (by decide))).symm
    have m226 := (m184).trans (fI_kept (x_lt hTH167 kH213 gw (by decide))).symm
    have m227 := (m186).trans (fI_kept (x_lt hTH167 kH213 gw (by decide))).symm
    have m228 := (m188).trans (fR_kept (x_lt hTH167 kH213 gw (by decide))).symm
    have m229 := (fV_kept (x_lt hTH167 kH213 ga (by decide))).trans m191
    have m230 := (m193).trans (fI_kept (x_lt hTH167 kH213 gkq (by decide))).symm
    have m231 := (m194).trans (fI_kept (x_lt hTH167 kH213 giq (by decide))).symm
    have m232 := (m195).trans (fI_kept (x_lt hTH167 kH213 gkq (by decide))).symm
    have m233 := (m196).trans (fI_kept (x_lt hTH167 kH213 giq (by decide))).symm
    have m234 := (m197).trans (fI_kept (x_lt hTH167 kH213 gkq (by decide))).symm
    have m235 := (m198).trans (fI_kept (x_lt hTH167 kH213 giq (by decide))).symm
    have m236 := (m199).trans (fI_kept (x_lt hTH167 kH213 gkq (by decide))).symm
    have m237 := (m200).trans (fI_kept (x_lt hTH167 kH213 giq (by decide))).symm
    have m238 := (m201).trans (fI_kept (x_lt hTH167 kH213 gkq (by decide))).symm
    have m239 := (m202).trans (fI_kept (x_lt hTH167 kH213 giq (by decide))).symm
    have m240 := (m203).trans (fI_kept (x_lt hTH167 kH213 gkq (by decide))).symm
    have m241 := (m204).trans (fI_kept (x_lt hTH167 kH213 giq (by decide))).symm
    have m242 := (m205).trans (fR_kept (x_lt hTH167 kH213 gkq (by decide))).symm
    have m243 := (m175).trans (MF.i mf219 (k := 18) (by decide) (by decide)).symm
    have m244 := (m177).trans (MF.i mf219 (k := 1) (by decide) (by decide)).symm
    have m245 := (m179).trans (MF.i mf219 (k := 2) (by decide) (by decide)).symm
    have m246 := (m181).trans (MF.i mf219 (k := 3) (by decide) (by decide)).symm
    have m247 := (m183).trans (MF.i mf219 (k := 59) (by decide) (by decide)).symm
    have m248 := (m185).trans (MF.i mf219 (k := 62) (by decide) (by decide)).symm
    have m249 := (m187).trans (MF.i mf219 (k := 65) (by decide) (by decide)).symm
    have m250 := (m189).trans (MF.r mf219 (k := 50) (by decide) (by decide)).symm
    have m251 := (m190).trans (MF.i mf219 (k := 70) (by decide) (by decide)).symm
    have m252 := (m192).trans (MF.r mf219 (k := 73) (by decide) (by decide)).symm
    refine W.eq (g2 := F0 m 1400 ls [.int x214]) rfl ?_
    have v253 : ∀ j : Nat, j < 10 → cz101 j = fI H213 (fR H213 bq j) (K.1.2 0 14) := fun j h => (v206 j h).trans (by rw [fR_kept (x_lt hTH167 kH213 gbq (by decide))]; exact (fI_kept (x_lt hTH167 kH213 (bar_g hTH167 gbq j h) (by decide))).symm)
    have v254 : ∀ j : Nat, j < 10 → rz102 j = fI H213 aq j := fun j h => (v207 j h).trans (fI_kept (x_lt hTH167 kH213 gaq (by decide))).symm
    have v255 : ∀ j : Nat, j < 10 → kz164 j = fI H213 (fR H213 kb j) (K.1.2 0 14) := fun j h => (v208 j h).trans (by rw [fR_kept (x_lt hTH167 kH213 gkb (by decide))]; exact (fI_kept (x_lt hTH167 kH213 (bar_h hTH167 gkb j h) (by decide))).symm)
    have d256 := DB.kept d209 (x_lt hTH167 kH213 gkb (by decide))
    have v257 : ∀ j : Nat, j < 10 → iz165 j = fI H213 iq (11 + 6 * j) := fun j h => (v210 j h).trans (fI_kept (x_lt hTH167 kH213 giq (by decide))).symm
    have d258 := DB.kept d211 (x_lt hTH167 kH213 gbq (by decide))
    refine lv_pop hx hb dL_law_1400 rfl ?_
    refine lv_goto (tgt := 1509) hx hb dL_law_1401 (by decide) ?_
    exact nx G H213 locsH213 _ _ ls ⟨hTH213, hN, ga, gb, g215, g216, g217, g218, ⟨(by rw [← m221, ← m243]; exact rt), (by rw [← m220, ← m222, ← m244]; exact r1), (by rw [← m220, ← m223, ← m245]; exact r4), (by rw [← m220, ← m224, ← m246]; exact r5), (by rw [← m220, ← m225, ← m247]; exact r10), (by rw [← m220, ← m226, ← m248]; exact r13), (by rw [← m220, ← m227, ← m249]; exact r16)⟩, Or.inr ⟨kq, m229, gkq, (by rw [← m251]; exact h70), (by rw [← m230, ← m252, ← m231]; exact q1), (by rw [← m232, ← m252, ← m233]; exact q4), (by rw [← m234, ← m252, ← m235]; exact q5), (by rw [← m236, ← m252, ← m237]; exact q10), (by rw [← m238, ← m252, ← m239]; exact q13), (by rw [← m240, ← m252, ← m241]; exact q16), (by rw [← m242]; exact d256), (by rw [← m242, ← m252, ← m230]; exact fun j h1 h2 => by rw [← v255 j h1, ← v257 j h1]; exact vk0 j h1 (by omega)), (by rw [← m252, ← m230]; exact fun j h1 h2 => by rw [← v257 j h1]; exact vk1 j h1 (by omega))⟩, (by unfold RB; rw [← m220, ← m228, ← m250, ← m244]; exact ⟨d258, fun j h1 h2 => by rw [← v253 j h1, ← v254 j h1]; exact rel j h1 (by omega), fun j h1 h2 => by rw [← v254 j h1]; exact tl j h1 (by omega)⟩), hSH213⟩ hl ⟨hc, hs, fun h => by have h1 := h.symm.trans m229; cases h1⟩