set_option maxRecDepth 100000 in
set_option maxHeartbeats 8000000 in
theorem lw_c0 {p : Program} {l : Launch} {e : Env} {s : State} {m : MethodId} {below : List Frame} {meth : Method} {c : Code} {K : KE} {b0 L : Nat} {xs : Nat → Int32} {G : Nat → Option Nat} {H : Heap} {locs : List Loc} {a b : Nat} {cells slots : Nat} {ls : Array Slot} {i : Int32} {n : Nat} (D : LC p K s m meth c b0 L xs) (S : SX K s G H locs a b) (hl : lv_has ls 4 [(3, .int i), (2, .ref b), (1, .ref a), (0, .ref b0)]) (hi : 0 ≤ i.toInt ∧ i.toInt + 6 ≤ L) (hn : n ≤ 511) (hB : BD K H a cells slots) (nx : ∀ (G : Nat → Option Nat) (H : Heap) (locs : List Loc) (cells slots : Nat) (ls : Array Slot), SX K s G H locs a b → lv_has ls 4 [(3, .int i), (2, .ref b), (1, .ref a), (0, .ref b0)] → BD K H a cells slots → W p l e room_1 s m #[Value.ref b0] below meth c H locs cells slots (lw_Z below #[Value.ref b0] s) (F0 m 1509 ls [])) : W p l e room_1 s m #[Value.ref b0] below meth c H locs cells slots (lw_Z below #[Value.ref b0] s) (F0 m 188 ls []) := by
  have hI := hi
  obtain ⟨C, hX, hbl, hL⟩ := id D
  obtain ⟨hx, hb, hml, hown, hts, hKT, hr, hlocks, hnm⟩ := id C
  obtain ⟨hT, hN, ga, gb, cg, tu, wd, im, ⟨rt, r1, r4, r5, r10, r13, r16⟩, hk, hrb, hS⟩ := S
  obtain ⟨hc, hs, hB0⟩ := hB
  have n_m1 : ((-1) : Int32).toInt = -1 := rfl
  have n_0 : (0 : Int32).toInt = 0 := rfl
  have n_1 : (1 : Int32).toInt = 1 := rfl
  obtain ⟨w, ew⟩ : ∃ z : Nat, z = fR H a (K.1.2 9 0) := ⟨_, rfl⟩
  have gw := ty_fr (q := w) (k := 0) (u := 0) ew hT ga rg_68 rfl
  rw [← ew] at r1 r4 r5 r10 r13 r16
  obtain ⟨ta, eta⟩ : ∃ z : Int32, z = fI H a (K.1.2 9 3) := ⟨_, rfl⟩
  rw [← eta] at rt
  obtain ⟨tb, etb⟩ : ∃ z : Int32, z = fI H b (K.1.2 10 18) := ⟨_, rfl⟩
  rw [← etb] at rt
  obtain ⟨s1, es1⟩ : ∃ z : Int32, z = fI H w (K.1.2 8 1) := ⟨_, rfl⟩
  rw [← es1] at r1
  obtain ⟨y1, ey1⟩ : ∃ z : Int32, z = fI H b (K.1.2 10 1) := ⟨_, rfl⟩
  rw [← ey1] at r1
  obtain ⟨s4, es4⟩ : ∃ z : Int32, z = fI H w (K.1.2 8 4) := ⟨_, rfl⟩
  rw [← es4] at r4
  obtain ⟨y4, ey4⟩ : ∃ z : Int32, z = fI H b (K.1.2 10 2) := ⟨_, rfl⟩
  rw [← ey4] at r4
  obtain ⟨s5, es5⟩ : ∃ z : Int32, z = fI H w (K.1.2 8 5) := ⟨_, rfl⟩
  rw [← es5] at r5
  obtain ⟨y5, ey5⟩ : ∃ z : Int32, z = fI H b (K.1.2 10 3) := ⟨_, rfl⟩
  rw [← ey5] at r5
  obtain ⟨s10, es10⟩ : ∃ z : Int32, z = fI H w (K.1.2 8 10) := ⟨_, rfl⟩
  rw [← es10] at r10
  obtain ⟨y10, ey10⟩ : ∃ z : Int32, z = fI H b (K.1.2 10 59) := ⟨_, rfl⟩
  rw [← ey10] at r10
  obtain ⟨s13, es13⟩ : ∃ z : Int32, z = fI H w (K.1.2 8 13) := ⟨_, rfl⟩
  rw [← es13] at r13
  obtain ⟨y13, ey13⟩ : ∃ z : Int32, z = fI H b (K.1.2 10 62) := ⟨_, rfl⟩
  rw [← ey13] at r13
  obtain ⟨s16, es16⟩ : ∃ z : Int32, z = fI H w (K.1.2 8 16) := ⟨_, rfl⟩
  rw [← es16] at r16
  obtain ⟨y16, ey16⟩ : ∃ z : Int32, z = fI H b (K.1.2 10 65) := ⟨_, rfl⟩
  rw [← ey16] at r16
  obtain ⟨bq, ebq⟩ : ∃ z : Nat, z = fR H w (K.1.2 8 0) := ⟨_, rfl⟩
  have gbq := ty_fr (q := bq) (k := 0) (u := 25) ebq hT gw rg_0 rfl
  obtain ⟨aq, eaq⟩ : ∃ z : Nat, z = fR H b (K.1.2 10 50) := ⟨_, rfl⟩
  have gaq := ty_fr (q := aq) (k := 50) (u := 146) eaq hT gb rg_112 rfl
  have bs1 := ty_fi (x := s1) (k := 1) es1 hT gw rg_0 rfl
  have by1 := ty_fi (x := y1) (k := 1) ey1 hT gb rg_112 rfl
  obtain ⟨db, vr, vt⟩ := hrb
  rw [← ew, ← ebq] at db
  rw [← ew, ← ebq, ← eaq, ← ey1] at vr
  rw [← eaq, ← ey1] at vt
  obtain ⟨cz101, ecz101⟩ : ∃ f : Nat → Int32, ∀ j : Nat, j < 10 → f j = fI H (fR H bq j) (K.1.2 0 14) := ⟨_, fun _ _ => rfl⟩
  obtain ⟨rz102, erz102⟩ : ∃ f : Nat → Int32, ∀ j : Nat, j < 10 → f j = fI H aq j := ⟨_, fun _ _ => rfl⟩
  have rel : ∀ j : Nat, j < 10 → (j : Int) < y1.toInt → cz101 j = rz102 j := fun j h1 h2 => by rw [ecz101 j h1, erz102 j h1]; exact vr j h1 h2
  clear vr
  have tl : ∀ j : Nat, j < 10 → y1.toInt ≤ (j : Int) → rz102 j = 0 := fun j h1 h2 => by rw [erz102 j h1]; exact vt j h1 h2
  clear vt
  rcases hk with ⟨kn, h70⟩ | ⟨kq, kn, gkq, h70, q1, q4, q5, q10, q13, q16, dbk, vk, vkt⟩
  · skip
    obtain ⟨hi, ehi⟩ : ∃ z : Int32, z = fI H b (K.1.2 10 70) := ⟨_, rfl⟩
    rw [← ehi] at h70
    obtain ⟨hc0, hs0⟩ := hB0 kn
    obtain ⟨iq, eiq⟩ : ∃ z : Nat, z = fR H b (K.1.2 10 73) := ⟨_, rfl⟩
    have giq := ty_fr (q := iq) (k := 73) (u := 162) eiq hT gb rg_112 rfl
    refine lv_aload_n hx hb dL_law_188 rfl (lv_at hl 2 rfl) ?_
    refine lv_aload_n hx hb dL_law_189 rfl (lv_at hl 3 rfl) ?_
    refine lv_iload_n hx hb dL_law_190 rfl (lv_at hl 0 rfl) ?_
    refine lv_iconst (v := 1) hx hb dL_law_191 (by decide) ?_
    refine lv_iadd hx hb dL_law_192 ?_
    refine lv_topi (fun x103 ex103 => ?_)
    obtain ⟨tx103, ejx103, evx103⟩ := lw_ix (k := 1) ex103 hI hL rfl (by decide)
    clear tx103
    refine va_sld hx hb hX hbl (Nat.not_le.mpr hbl) hS (vp_in_iff.mpr evx103) dL_law_193 ?_
    refine W.eq (g2 := F0 m 194 ls [.int (xs (i.toNatClampNeg + 1)), .ref a]) (congrArg (fun z => F0 m 194 ls [.int (xs z), .ref a]) ejx103) ?_
    refine x_V (As := [.int (xs (i.toNatClampNeg + 1))]) (rest := []) C (a_X9_bar_b l K G H ((xs (i.toNatClampNeg + 1))) (s1) (s4) (s5) (s10) (s13) (s16) hT ga gw ew gbq ebq es1 es4 es5 es10 es13 es16 (db)) yo_X9_bar wM_L_13 ⟨⟨by decide, by decide⟩, show _ ≤ 1200000 from Nat.le_trans hc (by decide), show _ ≤ 5502250 from Nat.le_trans hs (by decide)⟩ (x_rv C hT (ci := 9) rfl ga rg_68) rfl hl.1 rfl (Nat.le_of_ble_eq_true rfl) dL_law_194 hS (AE_new hN hS.1) (fun vH104 H104 locsH104 pH104 zH104 kH104 hSH104 => ?_)
    obtain ⟨x105, x106, x107, x108, x109, x110, x111, hvH104, ex106, ex107, ex108, ex109, ex110, ex111, hrH104, m112, m113, m114, m115, hTH104⟩ := pH104
    subst hvH104
    have g116 : CG (avw K H104 b) := CG.congr (fun k hk j => av_eff hT kH104 gb (by decide) (CG_eff [0, 1, 2, 3, 4, 5, 6, 15] (by decide) k hk)) cg
    have g117 : TU (avw K H104 b) (svw K H104 b) := TU.congr (fun k hk j => av_eff hT kH104 gb (by decide) (TU_eff [0, 1, 2, 3, 4, 5, 6, 15] (by decide) k hk)) (fun k hk => sv_eff hT kH104 gb (by decide)) tu
    have g118 : WD (avw K H104 b) := WD.congr (fun k hk j => av_eff hT kH104 gb (by decide) (WD_eff [0, 1, 2, 3, 4, 5, 6, 15] (by decide) k hk)) wd
    have g119 : IM (avw K H104 b) := IM.congr (fun k hk j => av_eff hT kH104 gb (by decide) (IM_eff [0, 1, 2, 3, 4, 5, 6, 15] (by decide) k hk)) im
    have m120 := (ew).trans (fR_kept (x_lt hT kH104 ga (by decide))).symm
    have m121 := (eta).trans (fI_kept (x_lt hT kH104 ga (by decide))).symm
    have m122 := (etb).trans (fI_kept (x_lt hT kH104 gb (by decide))).symm
    have m123 := (ey1).trans (fI_kept (x_lt hT kH104 gb (by decide))).symm
    have m124 := (ey4).trans (fI_kept (x_lt hT kH104 gb (by decide))).symm
    have m125 := (ey5).trans (fI_kept (x_lt hT kH104 gb (by decide))).symm
    have m126 := (ey10).trans (fI_kept (x_lt hT kH104 gb (by decide))).symm
    have m127 := (ey13).trans (fI_kept (x_lt hT kH104 gb (by decide))).symm
    have m128 := (ey16).trans (fI_kept (x_lt hT kH104 gb (by decide))).symm
    have m129 := (eaq).trans (fR_kept (x_lt hT kH104 gb (by decide))).symm
    have m130 := (ehi).trans (fI_kept (x_lt hT kH104 gb (by decide))).symm
    have m131 := (fV_kept (x_lt hT kH104 ga (by decide))).trans kn
    have m132 := (eiq).trans (fR_kept (x_lt hT kH104 gb (by decide))).symm
    have bx106 := ty_fi (x := x106) (k := 1) ex106 hTH104 gw rg_0 rfl
    have bx107 := ty_fi (x := x107) (k := 4) ex107 hTH104 gw rg_0 rfl
    have bx108 := ty_fi (x := x108) (k := 5) ex108 hTH104 gw rg_0 rfl
    have bx109 := ty_fi (x := x109) (k := 10) ex109 hTH104 gw rg_0 rfl
    have bx110 := ty_fi (x := x110) (k := 13) ex110 hTH104 gw rg_0 rfl
    have bx111 := ty_fi (x := x111) (k := 16) ex111 hTH104 gw rg_0 rfl
    refine W.eq (g2 := F0 m 197 ls [.int x105]) rfl ?_
    obtain ⟨cz133, ecz133⟩ : ∃ f : Nat → Int32, ∀ j : Nat, j < 10 → f j = fI H104 (fR H104 bq j) (K.1.2 0 14) := ⟨_, fun _ _ => rfl⟩
    have uc : ∀ j : Nat, j < 10 → (j : Int) ≠ s1.toInt → cz133 j = cz101 j := fun j h hn => by rw [ecz133 j h, fR_kept (x_lt hT kH104 gbq (by decide)), ecz101 j h]; exact m113 j h hn
    replace m114 := HD.mk m114
    replace m115 := HD.mk m115
    have v134 : ∀ j : Nat, j < 10 → rz102 j = fI H104 aq j := fun j h => (erz102 j h).trans (fI_kept (x_lt hT kH104 gaq (by decide))).symm
    have d135 := DB.kept db (x_lt hT kH104 gbq (by decide))
    refine lv_pop hx hb dL_law_197 rfl ?_
    refine lv_aload_n hx hb dL_law_198 rfl (lv_at hl 1 rfl) ?_
    refine lv_aload_n hx hb dL_law_199 rfl (lv_at hl 3 rfl) ?_
    refine lv_iload_n hx hb dL_law_200 rfl (lv_at hl 0 rfl) ?_
    refine lv_iconst (v := 1) hx hb dL_law_201 (by decide) ?_
    refine lv_iadd hx hb dL_law_202 ?_
    refine lv_topi (fun x136 ex136 => ?_)
    obtain ⟨tx136, ejx136, evx136⟩ := lw_ix (k := 1) ex136 hI hL rfl (by decide)
    clear tx136
    refine va_sld hx hb hX hbl (Nat.not_le.mpr hbl) hSH104 (vp_in_iff.mpr evx136) dL_law_203 ?_
    refine W.eq (g2 := F0 m 204 ls [.int (xs (i.toNatClampNeg + 1)), .ref b]) (congrArg (fun z => F0 m 204 ls [.int (xs z), .ref b]) ejx136) ?_
    obtain ⟨q137, eq137⟩ : ∃ z : Nat, z = fR H104 b (K.1.2 10 4) := ⟨_, rfl⟩
    have gq137 := ty_fr (q := q137) (k := 4) (u := 113) eq137 hTH104 gb rg_112 rfl
    obtain ⟨q138, eq138⟩ : ∃ z : Nat, z = fR H104 b (K.1.2 10 16) := ⟨_, rfl⟩
    have gq138 := ty_fr (q := q138) (k := 16) (u := 125) eq138 hTH104 gb rg_112 rfl
    refine x_V (As := [.int (xs (i.toNatClampNeg + 1))]) (rest := []) C (a_X10_bar l K G H104 ((xs (i.toNatClampNeg + 1))) (y1) hTH104 gb gq137 eq137 gq138 eq138 m123 g116 g117 g118 g119) yo_X10_bar wM_L_17 ⟨⟨by decide, by decide⟩, show _ ≤ 1200000 from Nat.le_trans hc (by decide), show _ ≤ 5502250 from Nat.le_trans hs (by decide)⟩ (x_rv C hTH104 (ci := 10) rfl gb rg_112) rfl hl.1 rfl (Nat.le_of_ble_eq_true rfl) dL_law_204 hSH104 (AE_new hN hSH104.1) (fun vH139 H139 locsH139 pH139 zH139 kH139 hSH139 => ?_)
    obtain ⟨x140, x141, hvH139, ex141, hrH139, m142, m143, g144, g145, g146, g147, mf148, hTH139⟩ := pH139
    subst hvH139
    have m149 := (m120).trans (fR_kept (x_lt hTH104 kH139 ga (by decide))).symm
    have m150 := (m121).trans (fI_kept (x_lt hTH104 kH139 ga (by decide))).symm
    have m151 := (fV_kept (x_lt hTH104 kH139 ga (by decide))).trans m131
    have m152 := (m112).trans (fR_kept (x_lt hTH104 kH139 gw (by decide))).symm
    have m153 := (ex106).trans (fI_kept (x_lt hTH104 kH139 gw (by decide))).symm
    have m154 := (ex107).trans (fI_kept (x_lt hTH104 kH139 gw (by decide))).symm
    have m155 := (ex108).trans (fI_kept (x_lt hTH104 kH139 gw (by decide))).symm
    have m156 := (ex109).trans (fI_kept (x_lt hTH104 kH139 gw (by decide))).symm
    have m157 := (ex110).trans (fI_kept (x_lt hTH104 kH139 gw (by decide))).symm
    have m158 := (ex111).trans (fI_kept (x_lt hTH104 kH139 gw (by decide))).symm
    have m159 := (m122).trans (MF.i mf148 (k := 18) (by decide) (by decide)).symm
    have m160 := (m124).trans (MF.i mf148 (k := 2) (by decide) (by decide)).symm
    have m161 := (m125).trans (MF.i mf148 (k := 3) (by decide) (by decide)).symm
    have m162 := (m126).trans (MF.i mf148 (k := 59) (by decide) (by decide)).symm
    have m163 := (m127).trans (MF.i mf148 (k := 62) (by decide) (by decide)).symm
    have m164 := (m128).trans (MF.i mf148 (k := 65) (by decide) (by decide)).symm
    have m165 := (m129).trans (MF.r mf148 (k := 50) (by decide) (by decide)).symm
    have m166 := (m130).trans (MF.i mf148 (k := 70) (by decide) (by decide)).symm
    have m167 := (m132).trans (MF.r mf148 (k := 73) (by decide) (by decide)).symm
    have m168 := (eq137).trans (MF.r mf148 (k := 4) (by decide) (by decide)).symm
    have m169 := (eq138).trans (MF.r mf148 (k := 16) (by decide) (by decide)).symm
    have bx141 := ty_fi (x := x141) (k := 1) ex141 hTH139 gb rg_112 rfl
    refine W.eq (g2 := F0 m 207 ls [.int x140]) rfl ?_
    have v170 : ∀ j : Nat, j < 10 → cz133 j = fI H139 (fR H139 bq j) (K.1.2 0 14) := fun j h => (ecz133 j h).trans (by rw [fR_kept (x_lt hTH104 kH139 gbq (by decide))]; exact (fI_kept (x_lt hTH104 kH139 (bar_g hTH104 gbq j h) (by decide))).symm)
    have v171 : ∀ j : Nat, j < 10 → rz102 j = fI H139 aq j := fun j h => (v134 j h).trans (fI_kept (x_lt hTH104 kH139 gaq (by decide))).symm
    have d172 := DB.kept d135 (x_lt hTH104 kH139 gbq (by decide))
    refine lv_pop hx hb dL_law_207 rfl ?_
    refine lv_goto (tgt := 1509) hx hb dL_law_208 (by decide) ?_
    have rel2 : ∀ j : Nat, j < 10 → (j : Int) < x141.toInt → cz133 j = rz102 j := by
      intro j h1 h2
      by_cases hj : (j : Int) = s1.toInt
      · have c1 := i_cl (x := s1) (by omega)
        have c2 := i_cl (x := y1) (by omega)
        have ud : 3 ≤ ((xs (i.toNatClampNeg + 1))).toInt ∧ ((xs (i.toNatClampNeg + 1))).toInt ≤ 16 ∧ s1.toInt ≤ 9 → (cz133 s1.toNatClampNeg).toInt = 0 := fun h => by have hc := i_cl (x := s1) (by omega); obtain ⟨t, e1, e2⟩ := HD.get m114 h; rw [ecz133 _ (by omega), fR_kept (x_lt hT kH104 gbq (by decide)), ← e1]; exact e2
        have e2 := ud (by omega)
        have e3 := congrArg Int32.toInt (tl _ h1 (by omega))
        rw [show j = s1.toNatClampNeg by omega] at e3 ⊢
        exact Int32.toInt_inj.mp (by omega)
      · rw [uc j h1 hj]
        exact rel j h1 (by omega)
    exact nx G H139 locsH139 _ _ ls ⟨hTH139, hN, ga, gb, g144, g145, g146, g147, ⟨(by rw [← m150, ← m159]; exact rt), (by rw [← m149, ← m153, ← ex141]; omega), (by rw [← m149, ← m154, ← m160]; omega), (by rw [← m149, ← m155, ← m161]; omega), (by rw [← m149, ← m156, ← m162]; omega), (by rw [← m149, ← m157, ← m163]; omega), (by rw [← m149, ← m158, ← m164]; omega)⟩, Or.inl ⟨m151, (by rw [← m166]; exact h70)⟩, (by unfold RB; rw [← m149, ← m152, ← m165, ← ex141]; exact ⟨d172, fun j h1 h2 => by rw [← v170 j h1, ← v171 j h1]; exact rel2 j h1 (by omega), fun j h1 h2 => by rw [← v171 j h1]; exact tl j h1 (by omega)⟩), hSH139⟩ hl ⟨hc, hs, fun _ => ⟨hc0, hs0⟩⟩
  · skip
    obtain ⟨hi, ehi⟩ : ∃ z : Int32, z = fI H b (K.1.2 10 70) := ⟨_, rfl⟩
    rw [← ehi] at h70
    obtain ⟨iq, eiq⟩ : ∃ z : Nat, z = fR H b (K.1.2 10 73) := ⟨_, rfl⟩
    have giq := ty_fr (q := iq) (k := 73) (u := 162) eiq hT gb rg_112 rfl
    rw [← eiq] at q1 q4 q5 q10 q13 q16
    obtain ⟨k1, ek1⟩ : ∃ z : Int32, z = fI H kq (K.1.2 8 1) := ⟨_, rfl⟩
    rw [← ek1] at q1
    obtain ⟨i1, ei1⟩ : ∃ z : Int32, z = fI H iq ((0 : Int32).toNatClampNeg) := ⟨_, rfl⟩
    rw [← ei1] at q1
    obtain ⟨k4, ek4⟩ : ∃ z : Int32, z = fI H kq (K.1.2 8 4) := ⟨_, rfl⟩
    rw [← ek4] at q4
    obtain ⟨i4, ei4⟩ : ∃ z : Int32, z = fI H iq ((1 : Int32).toNatClampNeg) := ⟨_, rfl⟩
    rw [← ei4] at q4
    obtain ⟨k5, ek5⟩ : ∃ z : Int32, z = fI H kq (K.1.2 8 5) := ⟨_, rfl⟩
    rw [← ek5] at q5
    obtain ⟨i5, ei5⟩ : ∃ z : Int32, z = fI H iq ((2 : Int32).toNatClampNeg) := ⟨_, rfl⟩
    rw [← ei5] at q5
    obtain ⟨k10, ek10⟩ : ∃ z : Int32, z = fI H kq (K.1.2 8 10) := ⟨_, rfl⟩
    rw [← ek10] at q10
    obtain ⟨i10, ei10⟩ : ∃ z : Int32, z = fI H iq ((3 : Int32).toNatClampNeg) := ⟨_, rfl⟩
    rw [← ei10] at q10
    obtain ⟨k13, ek13⟩ : ∃ z : Int32, z = fI H kq (K.1.2 8 13) := ⟨_, rfl⟩
    rw [← ek13] at q13
    obtain ⟨i13, ei13⟩ : ∃ z : Int32, z = fI H iq ((4 : Int32).toNatClampNeg) := ⟨_, rfl⟩
    rw [← ei13] at q13
    obtain ⟨k16, ek16⟩ : ∃ z : Int32, z = fI H kq (K.1.2 8 16) := ⟨_, rfl⟩
    rw [← ek16] at q16
    obtain ⟨i16, ei16⟩ : ∃ z : Int32, z = fI H iq ((5 : Int32).toNatClampNeg) := ⟨_, rfl⟩
    rw [← ei16] at q16
    obtain ⟨kb, ekb⟩ : ∃ z : Nat, z = fR H kq (K.1.2 8 0) := ⟨_, rfl⟩
    have gkb := ty_fr (q := kb) (k := 0) (u := 59) ekb hT gkq rg_34 rfl
    have bk1 := ty_fi (x := k1) (k := 1) ek1 hT gkq rg_34 rfl
    rw [← ekb] at dbk
    rw [← ekb, ← eiq, ← ek1] at vk
    rw [← eiq, ← ek1] at vkt
    obtain ⟨kz173, ekz173⟩ : ∃ f : Nat → Int32, ∀ j : Nat, j < 10 → f j = fI H (fR H kb j) (K.1.2 0 14) := ⟨_, fun _ _ => rfl⟩
    obtain ⟨iz174, eiz174⟩ : ∃ f : Nat → Int32, ∀ j : Nat, j < 10 → f j = fI H iq (11 + 6 * j) := ⟨_, fun _ _ => rfl⟩
    have vk0 : ∀ j : Nat, j < 10 → (j : Int) < k1.toInt → kz173 j = iz174 j := fun j h1 h2 => by rw [ekz173 j h1, eiz174 j h1]; exact vk j h1 h2
    clear vk
    have vk1 : ∀ j : Nat, j < 10 → k1.toInt ≤ (j : Int) → iz174 j = 0 := fun j h1 h2 => by rw [eiz174 j h1]; exact vkt j h1 h2
    clear vkt
    refine lv_aload_n hx hb dL_law_188 rfl (lv_at hl 2 rfl) ?_
    refine lv_aload_n hx hb dL_law_189 rfl (lv_at hl 3 rfl) ?_
    refine lv_iload_n hx hb dL_law_190 rfl (lv_at hl 0 rfl) ?_
    refine lv_iconst (v := 1) hx hb dL_law_191 (by decide) ?_
    refine lv_iadd hx hb dL_law_192 ?_
    refine lv_topi (fun x175 ex175 => ?_)
    obtain ⟨tx175, ejx175, evx175⟩ := lw_ix (k := 1) ex175 hI hL rfl (by decide)
    clear tx175
    refine va_sld hx hb hX hbl (Nat.not_le.mpr hbl) hS (vp_in_iff.mpr evx175) dL_law_193 ?_
    refine W.eq (g2 := F0 m 194 ls [.int (xs (i.toNatClampNeg + 1)), .ref a]) (congrArg (fun z => F0 m 194 ls [.int (xs z), .ref a]) ejx175) ?_
    refine x_V (As := [.int (xs (i.toNatClampNeg + 1))]) (rest := []) C (a_X9_bar_b l K G H ((xs (i.toNatClampNeg + 1))) (s1) (s4) (s5) (s10) (s13) (s16) hT ga gw ew gbq ebq es1 es4 es5 es10 es13 es16 (db)) yo_X9_bar wM_L_13 ⟨⟨by decide, by decide⟩, show _ ≤ 1200000 from Nat.le_trans hc (by decide), show _ ≤ 5502250 from Nat.le_trans hs (by decide)⟩ (x_rv C hT (ci := 9) rfl ga rg_68) rfl hl.1 rfl (Nat.le_of_ble_eq_true rfl) dL_law_194 hS (AE_new hN hS.1) (fun vH176 H176 locsH176 pH176 zH176 kH176 hSH176 => ?_)
    obtain ⟨x177, x178, x179, x180, x181, x182, x183, hvH176, ex178, ex179, ex180, ex181, ex182, ex183, hrH176, m184, m185, m186, m187, hTH176⟩ := pH176
    subst hvH176
    have g188 : CG (avw K H176 b) := CG.congr (fun k hk j => av_eff hT kH176 gb (by decide) (CG_eff [0, 1, 2, 3, 4, 5, 6, 15] (by decide) k hk)) cg
    have g189 : TU (avw K H176 b) (svw K H176 b) := TU.congr (fun k hk j => av_eff hT kH176 gb (by decide) (TU_eff [0, 1, 2, 3, 4, 5, 6, 15] (by decide) k hk)) (fun k hk => sv_eff hT kH176 gb (by decide)) tu
    have g190 : WD (avw K H176 b) := WD.congr (fun k hk j => av_eff hT kH176 gb (by decide) (WD_eff [0, 1, 2, 3, 4, 5, 6, 15] (by decide) k hk)) wd
    have g191 : IM (avw K H176 b) := IM.congr (fun k hk j => av_eff hT kH176 gb (by decide) (IM_eff [0, 1, 2, 3, 4, 5, 6, 15] (by decide) k hk)) im
    have m192 := (ew).trans (fR_kept (x_lt hT kH176 ga (by decide))).symm
    have m193 := (eta).trans (fI_kept (x_lt hT kH176 ga (by decide))).symm
    have m194 := (etb).trans (fI_kept (x_lt hT kH176 gb (by decide))).symm
    have m195 := (ey1).trans (fI_kept (x_lt hT kH176 gb (by decide))).symm
    have m196 := (ey4).trans (fI_kept (x_lt hT kH176 gb (by decide))).symm
    have m197 := (ey5).trans (fI_kept (x_lt hT kH176 gb (by decide))).symm
    have m198 := (ey10).trans (fI_kept (x_lt hT kH176 gb (by decide))).symm
    have m199 := (ey13).trans (fI_kept (x_lt hT kH176 gb (by decide))).symm
    have m200 := (ey16).trans (fI_kept (x_lt hT kH176 gb (by decide))).symm
    have m201 := (eaq).trans (fR_kept (x_lt hT kH176 gb (by decide))).symm
    have m202 := (ehi).trans (fI_kept (x_lt hT kH176 gb (by decide))).symm
    have m203 := (fV_kept (x_lt hT kH176 ga (by decide))).trans kn
    have m204 := (eiq).trans (fR_kept (x_lt hT kH176 gb (by decide))).symm
    have m205 := (ek1).trans (fI_kept (x_lt hT kH176 gkq (by decide))).symm
    have m206 := (ei1).trans (fI_kept (x_lt hT kH176 giq (by decide))).symm
    have m207 := (ek4).trans (fI_kept (x_lt hT kH176 gkq (by decide))).symm
    have m208 := (ei4).trans (fI_kept (x_lt hT kH176 giq (by decide))).symm
    have m209 := (ek5).trans (fI_kept (x_lt hT kH176 gkq (by decide))).symm
    have m210 := (ei5).trans (fI_kept (x_lt hT kH176 giq (by decide))).symm
    have m211 := (ek10).trans (fI_kept (x_lt hT kH176 gkq (by decide))).symm
    have m212 := (ei10).trans (fI_kept (x_lt hT kH176 giq (by decide))).symm
    have m213 := (ek13).trans (fI_kept (x_lt hT kH176 gkq (by decide))).symm
    have m214 := (ei13).trans (fI_kept (x_lt hT kH176 giq (by decide))).symm
    have m215 := (ek16).trans (fI_kept (x_lt hT kH176 gkq (by decide))).symm
    have m216 := (ei16).trans (fI_kept (x_lt hT kH176 giq (by decide))).symm
    have m217 := (ekb).trans (fR_kept (x_lt hT kH176 gkq (by decide))).symm
    have bx178 := ty_fi (x := x178) (k := 1) ex178 hTH176 gw rg_0 rfl
    have bx179 := ty_fi (x := x179) (k := 4) ex179 hTH176 gw rg_0 rfl
    have bx180 := ty_fi (x := x180) (k := 5) ex180 hTH176 gw rg_0 rfl
    have bx181 := ty_fi (x := x181) (k := 10) ex181 hTH176 gw rg_0 rfl
    have bx182 := ty_fi (x := x182) (k := 13) ex182 hTH176 gw rg_0 rfl
    have bx183 := ty_fi (x := x183) (k := 16) ex183 hTH176 gw rg_0 rfl
    refine W.eq (g2 := F0 m 197 ls [.int x177]) rfl ?_
    obtain ⟨cz218, ecz218⟩ : ∃ f : Nat → Int32, ∀ j : Nat, j < 10 → f j = fI H176 (fR H176 bq j) (K.1.2 0 14) := ⟨_, fun _ _ => rfl⟩
    have uc : ∀ j : Nat, j < 10 → (j : Int) ≠ s1.toInt → cz218 j = cz101 j := fun j h hn => by rw [ecz218 j h, fR_kept (x_lt hT kH176 gbq (by decide)), ecz101 j h]; exact m185 j h hn
    replace m186 := HD.mk m186
    replace m187 := HD.mk m187
    have v219 : ∀ j : Nat, j < 10 → rz102 j = fI H176 aq j := fun j h => (erz102 j h).trans (fI_kept (x_lt hT kH176 gaq (by decide))).symm
    have v220 : ∀ j : Nat, j < 10 → kz173 j = fI H176 (fR H176 kb j) (K.1.2 0 14) := fun j h => (ekz173 j h).trans (by rw [fR_kept (x_lt hT kH176 gkb (by decide))]; exact (fI_kept (x_lt hT kH176 (bar_h hT gkb j h) (by decide))).symm)
    have d221 := DB.kept dbk (x_lt hT kH176 gkb (by decide))
    have v222 : ∀ j : Nat, j < 10 → iz174 j = fI H176 iq (11 + 6 * j) := fun j h => (eiz174 j h).trans (fI_kept (x_lt hT kH176 giq (by decide))).symm
    have d223 := DB.kept db (x_lt hT kH176 gbq (by decide))
    refine lv_pop hx hb dL_law_197 rfl ?_
    refine lv_aload_n hx hb dL_law_198 rfl (lv_at hl 1 rfl) ?_
    refine lv_aload_n hx hb dL_law_199 rfl (lv_at hl 3 rfl) ?_
    refine lv_iload_n hx hb dL_law_200 rfl (lv_at hl 0 rfl) ?_
    refine lv_iconst (v := 1) hx hb dL_law_201 (by decide) ?_
    refine lv_iadd hx hb dL_law_202 ?_
    refine lv_topi (fun x224 ex224 => ?_)
    obtain ⟨tx224, ejx224, evx224⟩ := lw_ix (k := 1) ex224 hI hL rfl (by decide)
    clear tx224
    refine va_sld hx hb hX hbl (Nat.not_le.mpr hbl) hSH176 (vp_in_iff.mpr evx224) dL_law_203 ?_
    refine W.eq (g2 := F0 m 204 ls [.int (xs (i.toNatClampNeg + 1)), .ref b]) (congrArg (fun z => F0 m 204 ls [.int (xs z), .ref b]) ejx224) ?_
    obtain ⟨q225, eq225⟩ : ∃ z : Nat, z = fR H176 b (K.1.2 10 4) := ⟨_, rfl⟩
    have gq225 := ty_fr (q := q225) (k := 4) (u := 113) eq225 hTH176 gb rg_112 rfl
    obtain ⟨q226, eq226⟩ : ∃ z : Nat, z = fR H176 b (K.1.2 10 16) := ⟨_, rfl⟩
    have gq226 := ty_fr (q := q226) (k := 16) (u := 125) eq226 hTH176 gb rg_112 rfl
    refine x_V (As := [.int (xs (i.toNatClampNeg + 1))]) (rest := []) C (a_X10_bar l K G H176 ((xs (i.toNatClampNeg + 1))) (y1) hTH176 gb gq225 eq225 gq226 eq226 m195 g188 g189 g190 g191) yo_X10_bar wM_L_17 ⟨⟨by decide, by decide⟩, show _ ≤ 1200000 from Nat.le_trans hc (by decide), show _ ≤ 5502250 from Nat.le_trans hs (by decide)⟩ (x_rv C hTH176 (ci := 10) rfl gb rg_112) rfl hl.1 rfl (Nat.le_of_ble_eq_true rfl) dL_law_204 hSH176 (AE_new hN hSH176.1) (fun vH227 H227 locsH227 pH227 zH227 kH227 hSH227 => ?_)
    obtain ⟨x228, x229, hvH227, ex229, hrH227, m230, m231, g232, g233, g234, g235, mf236, hTH227⟩ := pH227
    subst hvH227
    have m237 := (m192).trans (fR_kept (x_lt hTH176 kH227 ga (by decide))).symm
    have m238 := (m193).trans (fI_kept (x_lt hTH176 kH227 ga (by decide))).symm
    have m239 := (fV_kept (x_lt hTH176 kH227 ga (by decide))).trans m203
    have m240 := (m205).trans (fI_kept (x_lt hTH176 kH227 gkq (by decide))).symm
    have m241 := (m206).trans (fI_kept (x_lt hTH176 kH227 giq (by decide))).symm
    have m242 := (m207).trans (fI_kept (x_lt hTH176 kH227 gkq (by decide))).symm
    have m243 := (m208).trans (fI_kept (x_lt hTH176 kH227 giq (by decide))).symm
    have m244 := (m209).trans (fI_kept (x_lt hTH176 kH227 gkq (by decide))).symm
    have m245 := (m210).trans (fI_kept (x_lt hTH176 kH227 giq (by decide))).symm
    have m246 := (m211).trans (fI_kept (x_lt hTH176 kH227 gkq (by decide))).symm
    have m247 := (m212).trans (fI_kept (x_lt hTH176 kH227 giq (by decide))).symm
    have m248 := (m213).trans (fI_kept (x_lt hTH176 kH227 gkq (by decide))).symm
    have m249 := (m214).trans (fI_kept (x_lt hTH176 kH227 giq (by decide))).symm
    have m250 := (m215).trans (fI_kept (x_lt hTH176 kH227 gkq (by decide))).symm
    have m251 := (m216).trans (fI_kept (x_lt hTH176 kH227 giq (by decide))).symm
    have m252 := (m217).trans (fR_kept (x_lt hTH176 kH227 gkq (by decide))).symm
    have m253 := (m184).trans (fR_kept (x_lt hTH176 kH227 gw (by decide))).symm
    have m254 := (ex178).trans (fI_kept (x_lt hTH176 kH227 gw (by decide))).symm
    have m255 := (ex179).trans (fI_kept (x_lt hTH176 kH227 gw (by decide))).symm
    have m256 := (ex180).trans (fI_kept (x_lt hTH176 kH227 gw (by decide))).symm
    have m257 := (ex181).trans (fI_kept (x_lt hTH176 kH227 gw (by decide))).symm
    have m258 := (ex182).trans (fI_kept (x_lt hTH176 kH227 gw (by decide))).symm
    have m259 := (ex183).trans (fI_kept (x_lt hTH176 kH227 gw (by decide))).symm
    have m260 := (m194).trans (MF.i mf236 (k := 18) (by decide) (by decide)).symm
    have m261 := (m196).trans (MF.i mf236 (k := 2) (by decide) (by decide)).symm
    have m262 := (m197).trans (MF.i mf236 (k := 3) (by decide) (by decide)).symm
    have m263 := (m198).trans (MF.i mf236 (k := 59) (by decide) (by decide)).symm
    have m264 := (m199).trans (MF.i mf236 (k := 62) (by decide) (by decide)).symm
    have m265 := (m200).trans (MF.i mf236 (k := 65) (by decide) (by decide)).symm
    have m266 := (m201).trans (MF.r mf236 (k := 50) (by decide) (by decide)).symm
    have m267 := (m202).trans (MF.i mf236 (k := 70) (by decide) (by decide)).symm
    have m268 := (m204).trans (MF.r mf236 (k := 73) (by decide) (by decide)).symm
    have m269 := (eq225).trans (MF.r mf236 (k := 4) (by decide) (by decide)).symm
    have m270 := (eq226).trans (MF.r mf236 (k := 16) (by decide) (by decide)).symm
    have bx229 := ty_fi (x := x229) (k := 1) ex229 hTH227 gb rg_112 rfl
    refine W.eq (g2 := F0 m 207 ls [.int x228]) rfl ?_
    have v271 : ∀ j : Nat, j < 10 → cz218 j = fI H227 (fR H227 bq j) (K.1.2 0 14) := fun j h => (ecz218 j h).trans (by rw [fR_kept (x_lt hTH176 kH227 gbq (by decide))]; exact (fI_kept (x_lt hTH176 kH227 (bar_g hTH176 gbq j h) (by decide))).symm)
    have v272 : ∀ j : Nat, j < 10 → rz102 j = fI H227 aq j := fun j h => (v219 j h).trans (fI_kept (x_lt hTH176 kH227 gaq (by decide))).symm
    have v273 : ∀ j : Nat, j < 10 → kz173 j = fI H227 (fR H227 kb j) (K.1.2 0 14) := fun j h => (v220 j h).trans (by rw [fR_kept (x_lt hTH176 kH227 gkb (by decide))]; exact (fI_kept (x_lt hTH176 kH227 (bar_h hTH176 gkb j h) (by decide))).symm)
    have d274 := DB.kept d221 (x_lt hTH176 kH227 gkb (by decide))
    have v275 : ∀ j : Nat, j < 10 → iz174 j = fI H227 iq (11 + 6 * j) := fun j h => (v222 j h).trans (fI_kept (x_lt hTH176 kH227 giq (by decide))).symm
    have d276 := DB.kept d223 (x_lt hTH176 kH227 gbq (by decide))
    refine lv_pop hx hb dL_law_207 rfl ?_
    refine lv_goto (tgt := 1509) hx hb dL_law_208 (by decide) ?_
    have rel2 : ∀ j : Nat, j < 10 → (j : Int) < x229.toInt → cz218 j = rz102 j := by
      intro j h1 h2
      by_cases hj : (j : Int) = s1.toInt
      · have c1 := i_cl (x := s1) (by omega)
        have c2 := i_cl (x := y1) (by omega)
        have ud : 3 ≤ ((xs (i.toNatClampNeg + 1))).toInt ∧ ((xs (i.toNatClampNeg + 1))).toInt ≤ 16 ∧ s1.toInt ≤ 9 → (cz218 s1.toNatClampNeg).toInt = 0 := fun h => by have hc := i_cl (x := s1) (by omega); obtain ⟨t, e1, e2⟩ := HD.get m186 h; rw [ecz218 _ (by omega), fR_kept (x_lt hT kH176 gbq (by decide)), ← e1]; exact e2
        have e2 := ud (by omega)
        have e3 := congrArg Int32.toInt (tl _ h1 (by omega))
        rw [show j = s1.toNatClampNeg by omega] at e3 ⊢
        exact Int32.toInt_inj.mp (by omega)
      · rw [uc j h1 hj]
        exact rel j h1 (by omega)
    exact nx G H227 locsH227 _ _ ls ⟨hTH227, hN, ga, gb, g232, g233, g234, g235, ⟨(by rw [← m238, ← m260]; exact rt), (by rw [← m237, ← m254, ← ex229]; omega), (by rw [← m237, ← m255, ← m261]; omega), (by rw [← m237, ← m256, ← m262]; omega), (by rw [← m237, ← m257, ← m263]; omega), (by rw [← m237, ← m258, ← m264]; omega), (by rw [← m237, ← m259, ← m265]; omega)⟩, Or.inr ⟨kq, m239, gkq, (by rw [← m267]; exact h70), (by rw [← m240, ← m268, ← m241]; exact q1), (by rw [← m242, ← m268, ← m243]; exact q4), (by rw [← m244, ← m268, ← m245]; exact q5), (by rw [← m246, ← m268, ← m247]; exact q10), (by rw [← m248, ← m268, ← m249]; exact q13), (by rw [← m250, ← m268, ← m251]; exact q16), (by rw [← m252]; exact d274), (by rw [← m252, ← m268, ← m240]; exact fun j h1 h2 => by rw [← v273 j h1, ← v275 j h1]; exact vk0 j h1 (by omega)), (by rw [← m268, ← m240]; exact fun j h1 h2 => by rw [← v275 j h1]; exact vk1 j h1 (by omega))⟩, (by unfold RB; rw [← m237, ← m253, ← m266, ← ex229]; exact ⟨d276, fun j h1 h2 => by rw [← v271 j h1, ← v272 j h1]; exact rel2 j h1 (by omega), fun j h1 h2 => by rw [← v272 j h1]; exact tl j h1 (by omega)⟩), hSH227⟩ hl ⟨hc, hs, fun h => by have h1 := h.symm.trans m239; cases h1⟩
set_option maxRecDepth 100000 in
set_option maxHeartbeats 8000000 in
theorem lw_c1 {p : Program} {l : Launch} {e : Env} {s : State} {m : MethodId} {below : List Frame} {meth : Method} {c : Code} {K : KE} {b0 L : Nat} {xs : Nat → Int32} {G : Nat → Option Nat} {H : Heap} {locs : List Loc} {a b : Nat} {cells slots : Nat} {ls : Array Slot} {i : Int32} {n : Nat} (D : LC p K s m meth c b0 L xs) (S : SX K s G H locs a b) (hl : lv_has ls 4 [(3, .int i), (2, .ref b), (1, .ref a), (0, .ref b0)]) (hi : 0 ≤ i.toInt ∧ i.toInt + 6 ≤ L) (hn : n ≤ 511) (hB : BD K H a cells slots) (nx : ∀ (G : Nat → Option Nat) (H : Heap) (locs : List Loc) (cells slots : Nat) (ls : Array Slot), SX K s G H locs a b → lv_has ls 4 [(3, .int i), (2, .ref b), (1, .ref a), (0, .ref b0)] → BD K H a cells slots → W p l e room_1 s m #[Value.ref b0] below meth c H locs cells slots (lw_Z below #[Value.ref b0] s) (F0 m 1509 ls [])) : W p l e room_1 s m #[Value.ref b0] below meth c H locs cells slots (lw_Z below #[Value.ref b0] s) (F0 m 211 ls []) := by
  have hI := hi
  obtain ⟨C, hX, hbl, hL⟩ := id D
  obtain ⟨hx, hb, hml, hown, hts, hKT, hr, hlocks, hnm⟩ := id C
  obtain ⟨hT, hN, ga, gb, cg, tu, wd, im, ⟨rt, r1, r4, r5, r10, r13, r16⟩, hk, hrb, hS⟩ := S
  obtain ⟨hc, hs, hB0⟩ := hB
  have n_m1 : ((-1) : Int32).toInt = -1 := rfl
  have n_0 : (0 : Int32).toInt = 0 := rfl
  have n_1 : (1 : Int32).toInt = 1 := rfl
  have n_2 : (2 : Int32).toInt = 2 := rfl
  have n_3 : (3 : Int32).toInt = 3 := rfl
  have n_4 : (4 : Int32).toInt = 4 := rfl
  have n_5 : (5 : Int32).toInt = 5 := rfl
  obtain ⟨w, ew⟩ : ∃ z : Nat, z = fR H a (K.1.2 9 0) := ⟨_, rfl⟩
  have gw := ty_fr (q := w) (k := 0) (u := 0) ew hT ga rg_68 rfl
  rw [← ew] at r1 r4 r5 r10 r13 r16
  obtain ⟨ta, eta⟩ : ∃ z : Int32, z = fI H a (K.1.2 9 3) := ⟨_, rfl⟩
  rw [← eta] at rt
  obtain ⟨tb, etb⟩ : ∃ z : Int32, z = fI H b (K.1.2 10 18) := ⟨_, rfl⟩
  rw [← etb] at rt
  obtain ⟨s1, es1⟩ : ∃ z : Int32, z = fI H w (K.1.2 8 1) := ⟨_, rfl⟩
  rw [← es1] at r1
  obtain ⟨y1, ey1⟩ : ∃ z : Int32, z = fI H b (K.1.2 10 1) := ⟨_, rfl⟩
  rw [← ey1] at r1
  obtain ⟨s4, es4⟩ : ∃ z : Int32, z = fI H w (K.1.2 8 4) := ⟨_, rfl⟩
  rw [← es4] at r4
  obtain ⟨y4, ey4⟩ : ∃ z : Int32, z = fI H b (K.1.2 10 2) := ⟨_, rfl⟩
  rw [← ey4] at r4
  obtain ⟨s5, es5⟩ : ∃ z : Int32, z = fI H w (K.1.2 8 5) := ⟨_, rfl⟩
  rw [← es5] at r5
  obtain ⟨y5, ey5⟩ : ∃ z : Int32, z = fI H b (K.1.2 10 3) := ⟨_, rfl⟩
  rw [← ey5] at r5
  obtain ⟨s10, es10⟩ : ∃ z : Int32, z = fI H w (K.1.2 8 10) := ⟨_, rfl⟩
  rw [← es10] at r10
  obtain ⟨y10, ey10⟩ : ∃ z : Int32, z = fI H b (K.1.2 10 59) := ⟨_, rfl⟩
  rw [← ey10] at r10
  obtain ⟨s13, es13⟩ : ∃ z : Int32, z = fI H w (K.1.2 8 13) := ⟨_, rfl⟩
  rw [← es13] at r13
  obtain ⟨y13, ey13⟩ : ∃ z : Int32, z = fI H b (K.1.2 10 62) := ⟨_, rfl⟩
  rw [← ey13] at r13
  obtain ⟨s16, es16⟩ : ∃ z : Int32, z = fI H w (K.1.2 8 16) := ⟨_, rfl⟩
  rw [← es16] at r16
  obtain ⟨y16, ey16⟩ : ∃ z : Int32, z = fI H b (K.1.2 10 65) := ⟨_, rfl⟩
  rw [← ey16] at r16
  obtain ⟨bq, ebq⟩ : ∃ z : Nat, z = fR H w (K.1.2 8 0) := ⟨_, rfl⟩
  have gbq := ty_fr (q := bq) (k := 0) (u := 25) ebq hT gw rg_0 rfl
  obtain ⟨aq, eaq⟩ : ∃ z : Nat, z = fR H b (K.1.2 10 50) := ⟨_, rfl⟩
  have gaq := ty_fr (q := aq) (k := 50) (u := 146) eaq hT gb rg_112 rfl
  have bs1 := ty_fi (x := s1) (k := 1) es1 hT gw rg_0 rfl
  have by1 := ty_fi (x := y1) (k := 1) ey1 hT gb rg_112 rfl
  obtain ⟨db, vr, vt⟩ := hrb
  rw [← ew, ← ebq] at db
  rw [← ew, ← ebq, ← eaq, ← ey1] at vr
  rw [← eaq, ← ey1] at vt
  obtain ⟨cz101, ecz101⟩ : ∃ f : Nat → Int32, ∀ j : Nat, j < 10 → f j = fI H (fR H bq j) (K.1.2 0 14) := ⟨_, fun _ _ => rfl⟩
  obtain ⟨rz102, erz102⟩ : ∃ f : Nat → Int32, ∀ j : Nat, j < 10 → f j = fI H aq j := ⟨_, fun _ _ => rfl⟩
  have rel : ∀ j : Nat, j < 10 → (j : Int) < y1.toInt → cz101 j = rz102 j := fun j h1 h2 => by rw [ecz101 j h1, erz102 j h1]; exact vr j h1 h2
  clear vr
  have tl : ∀ j : Nat, j < 10 → y1.toInt ≤ (j : Int) → rz102 j = 0 := fun j h1 h2 => by rw [erz102 j h1]; exact vt j h1 h2
  clear vt
  rcases hk with ⟨kn, h70⟩ | ⟨kq, kn, gkq, h70, q1, q4, q5, q10, q13, q16, dbk, vk, vkt⟩
  · skip
    obtain ⟨hi, ehi⟩ : ∃ z : Int32, z = fI H b (K.1.2 10 70) := ⟨_, rfl⟩
    rw [← ehi] at h70
    obtain ⟨hc0, hs0⟩ := hB0 kn
    obtain ⟨iq, eiq⟩ : ∃ z : Nat, z = fR H b (K.1.2 10 73) := ⟨_, rfl⟩
    have giq := ty_fr (q := iq) (k := 73) (u := 162) eiq hT gb rg_112 rfl
    refine lv_aload_n hx hb dL_law_211 rfl (lv_at hl 2 rfl) ?_
    refine lv_aload_n hx hb dL_law_212 rfl (lv_at hl 3 rfl) ?_
    refine lv_iload_n hx hb dL_law_213 rfl (lv_at hl 0 rfl) ?_
    refine lv_iconst (v := 1) hx hb dL_law_214 (by decide) ?_
    refine lv_iadd hx hb dL_law_215 ?_
    refine lv_topi (fun x103 ex103 => ?_)
    obtain ⟨tx103, ejx103, evx103⟩ := lw_ix (k := 1) ex103 hI hL rfl (by decide)
    clear tx103
    refine va_sld hx hb hX hbl (Nat.not_le.mpr hbl) hS (vp_in_iff.mpr evx103) dL_law_216 ?_
    refine W.eq (g2 := F0 m 217 ls [.int (xs (i.toNatClampNeg + 1)), .ref a]) (congrArg (fun z => F0 m 217 ls [.int (xs z), .ref a]) ejx103) ?_
    refine lv_aload_n hx hb dL_law_217 rfl (lv_at hl 3 rfl) ?_
    refine lv_iload_n hx hb dL_law_218 rfl (lv_at hl 0 rfl) ?_
    refine lv_iconst (v := 2) hx hb dL_law_219 (by decide) ?_
    refine lv_iadd hx hb dL_law_220 ?_
    refine lv_topi (fun x104 ex104 => ?_)
    obtain ⟨tx104, ejx104, evx104⟩ := lw_ix (k := 2) ex104 hI hL rfl (by decide)
    clear tx104
    refine va_sld hx hb hX hbl (Nat.not_le.mpr hbl) hS (vp_in_iff.mpr evx104) dL_law_221 ?_
    refine W.eq (g2 := F0 m 222 ls [.int (xs (i.toNatClampNeg + 2)), .int (xs (i.toNatClampNeg + 1)), .ref a]) (congrArg (fun z => F0 m 222 ls [.int (xs z), .int (xs (i.toNatClampNeg + 1)), .ref a]) ejx104) ?_
    refine lv_aload_n hx hb dL_law_222 rfl (lv_at hl 3 rfl) ?_
    refine lv_iload_n hx hb dL_law_223 rfl (lv_at hl 0 rfl) ?_
    refine lv_iconst (v := 3) hx hb dL_law_224 (by decide) ?_
    refine lv_iadd hx hb dL_law_225 ?_
    refine lv_topi (fun x105 ex105 => ?_)
    obtain ⟨tx105, ejx105, evx105⟩ := lw_ix (k := 3) ex105 hI hL rfl (by decide)
    clear tx105
    refine va_sld hx hb hX hbl (Nat.not_le.mpr hbl) hS (vp_in_iff.mpr evx105) dL_law_226 ?_
    refine W.eq (g2 := F0 m 227 ls [.int (xs (i.toNatClampNeg + 3)), .int (xs (i.toNatClampNeg + 2)), .int (xs (i.toNatClampNeg + 1)), .ref a]) (congrArg (fun z => F0 m 227 ls [.int (xs z), .int (xs (i.toNatClampNeg + 2)), .int (xs (i.toNatClampNeg + 1)), .ref a]) ejx105) ?_
    refine lv_aload_n hx hb dL_law_227 rfl (lv_at hl 3 rfl) ?_
    refine lv_iload_n hx hb dL_law_228 rfl (lv_at hl 0 rfl) ?_
    refine lv_iconst (v := 4) hx hb dL_law_229 (by decide) ?_
    refine lv_iadd hx hb dL_law_230 ?_
    refine lv_topi (fun x106 ex106 => ?_)
    obtain ⟨tx106, ejx106, evx106⟩ := lw_ix (k := 4) ex106 hI hL rfl (by decide)
    clear tx106
    refine va_sld hx hb hX hbl (Nat.not_le.mpr hbl) hS (vp_in_iff.mpr evx106) dL_law_231 ?_
    refine W.eq (g2 := F0 m 232 ls [.int (xs (i.toNatClampNeg + 4)), .int (xs (i.toNatClampNeg + 3)), .int (xs (i.toNatClampNeg + 2)), .int (xs (i.toNatClampNeg + 1)), .ref a]) (congrArg (fun z => F0 m 232 ls [.int (xs z), .int (xs (i.toNatClampNeg + 3)), .int (xs (i.toNatClampNeg + 2)), .int (xs (i.toNatClampNeg + 1)), .ref a]) ejx106) ?_
    refine lv_aload_n hx hb dL_law_232 rfl (lv_at hl 3 rfl) ?_
    refine lv_iload_n hx hb dL_law_233 rfl (lv_at hl 0 rfl) ?_
    refine lv_iconst (v := 5) hx hb dL_law_234 (by decide) ?_
    refine lv_iadd hx hb dL_law_235 ?_
    refine lv_topi (fun x107 ex107 => ?_)
    obtain ⟨tx107, ejx107, evx107⟩ := lw_ix (k := 5) ex107 hI hL rfl (by decide)
    clear tx107
    refine va_sld hx hb hX hbl (Nat.not_le.mpr hbl) hS (vp_in_iff.mpr evx107) dL_law_236 ?_
    refine W.eq (g2 := F0 m 237 ls [.int (xs (i.toNatClampNeg + 5)), .int (xs (i.toNatClampNeg + 4)), .int (xs (i.toNatClampNeg + 3)), .int (xs (i.toNatClampNeg + 2)), .int (xs (i.toNatClampNeg + 1)), .ref a]) (congrArg (fun z => F0 m 237 ls [.int (xs z), .int (xs (i.toNatClampNeg + 4)), .int (xs (i.toNatClampNeg + 3)), .int (xs (i.toNatClampNeg + 2)), .int (xs (i.toNatClampNeg + 1)), .ref a]) ejx107) ?_
    refine x_V (As := [.int (xs (i.toNatClampNeg + 1)), .int (xs (i.toNatClampNeg + 2)), .int (xs (i.toNatClampNeg + 3)), .int (xs (i.toNatClampNeg + 4)), .int (xs (i.toNatClampNeg + 5))]) (rest := []) C (a_X9_slice l K G H ((xs (i.toNatClampNeg + 1))) ((xs (i.toNatClampNeg + 2))) ((xs (i.toNatClampNeg + 3))) ((xs (i.toNatClampNeg + 4))) ((xs (i.toNatClampNeg + 5))) hT ga) yo_X9_slice wM_L_18 ⟨⟨by decide, by decide⟩, show _ ≤ 1200000 from Nat.le_trans hc (by decide), show _ ≤ 5502250 from Nat.le_trans hs (by decide)⟩ (x_rv C hT (ci := 9) rfl ga rg_68) rfl hl.1 rfl (Nat.le_of_ble_eq_true rfl) dL_law_237 hS (AE_new hN hS.1) (fun vH108 H108 locsH108 pH108 zH108 kH108 hSH108 => ?_)
    obtain ⟨x109, hvH108, bx109, hTH108⟩ := pH108
    subst hvH108
    have g110 : CG (avw K H108 b) := CG.congr (fun k hk j => av_eff hT kH108 gb (by decide) (CG_eff [2, 3, 4] (by decide) k hk)) cg
    have g111 : TU (avw K H108 b) (svw K H108 b) := TU.congr (fun k hk j => av_eff hT kH108 gb (by decide) (TU_eff [2, 3, 4] (by decide) k hk)) (fun k hk => sv_eff hT kH108 gb (by decide)) tu
    have g112 : WD (avw K H108 b) := WD.congr (fun k hk j => av_eff hT kH108 gb (by decide) (WD_eff [2, 3, 4] (by decide) k hk)) wd
    have g113 : IM (avw K H108 b) := IM.congr (fun k hk j => av_eff hT kH108 gb (by decide) (IM_eff [2, 3, 4] (by decide) k hk)) im
    have m114 := (ew).trans (fR_kept (x_lt hT kH108 ga (by decide))).symm
    have m115 := (eta).trans (fI_kept (x_lt hT kH108 ga (by decide))).symm
    have m116 := (etb).trans (fI_kept (x_lt hT kH108 gb (by decide))).symm
    have m117 := (es1).trans (fI_kept (x_lt hT kH108 gw (by decide))).symm
    have m118 := (ey1).trans (fI_kept (x_lt hT kH108 gb (by decide))).symm
    have m119 := (es4).trans (fI_kept (x_lt hT kH108 gw (by decide))).symm
    have m120 := (ey4).trans (fI_kept (x_lt hT kH108 gb (by decide))).symm
    have m121 := (es5).trans (fI_kept (x_lt hT kH108 gw (by decide))).symm
    have m122 := (ey5).trans (fI_kept (x_lt hT kH108 gb (by decide))).symm
    have m123 := (es10).trans (fI_kept (x_lt hT kH108 gw (by decide))).symm
    have m124 := (ey10).trans (fI_kept (x_lt hT kH108 gb (by decide))).symm
    have m125 := (es13).trans (fI_kept (x_lt hT kH108 gw (by decide))).symm
    have m126 := (ey13).trans (fI_kept (x_lt hT kH108 gb (by decide))).symm
    have m127 := (es16).trans (fI_kept (x_lt hT kH108 gw (by decide))).symm
    have m128 := (ey16).trans (fI_kept (x_lt hT kH108 gb (by decide))).symm
    have m129 := (ebq).trans (fR_kept (x_lt hT kH108 gw (by decide))).symm
    have m130 := (eaq).trans (fR_kept (x_lt hT kH108 gb (by decide))).symm
    have m131 := (ehi).trans (fI_kept (x_lt hT kH108 gb (by decide))).symm
    have m132 := (fV_kept (x_lt hT kH108 ga (by decide))).trans kn
    have m133 := (eiq).trans (fR_kept (x_lt hT kH108 gb (by decide))).symm
    refine W.eq (g2 := F0 m 240 ls [.int x109]) rfl ?_
    have v134 : ∀ j : Nat, j < 10 → cz101 j = fI H108 (fR H108 bq j) (K.1.2 0 14) := fun j h => (ecz101 j h).trans (by rw [fR_kept (x_lt hT kH108 gbq (by decide))]; exact (fI_kept (x_lt hT kH108 (bar_g hT gbq j h) (by decide))).symm)
    have v135 : ∀ j : Nat, j < 10 → rz102 j = fI H108 aq j := fun j h => (erz102 j h).trans (fI_kept (x_lt hT kH108 gaq (by decide))).symm
    have d136 := DB.kept db (x_lt hT kH108 gbq (by decide))
    refine lv_pop hx hb dL_law_240 rfl ?_
    refine lv_aload_n hx hb dL_law_241 rfl (lv_at hl 1 rfl) ?_
    refine lv_aload_n hx hb dL_law_242 rfl (lv_at hl 3 rfl) ?_
    refine lv_iload_n hx hb dL_law_243 rfl (lv_at hl 0 rfl) ?_
    refine lv_iconst (v := 1) hx hb dL_law_244 (by decide) ?_
    refine lv_iadd hx hb dL_law_245 ?_
    refine lv_topi (fun x137 ex137 => ?_)
    obtain ⟨tx137, ejx137, evx137⟩ := lw_ix (k := 1) ex137 hI hL rfl (by decide)
    clear tx137
    refine va_sld hx hb hX hbl (Nat.not_le.mpr hbl) hSH108 (vp_in_iff.mpr evx137) dL_law_246 ?_
    refine W.eq (g2 := F0 m 247 ls [.int (xs (i.toNatClampNeg + 1)), .ref b]) (congrArg (fun z => F0 m 247 ls [.int (xs z), .ref b]) ejx137) ?_
    refine lv_aload_n hx hb dL_law_247 rfl (lv_at hl 3 rfl) ?_
    refine lv_iload_n hx hb dL_law_248 rfl (lv_at hl 0 rfl) ?_
    refine lv_iconst (v := 2) hx hb dL_law_249 (by decide) ?_
    refine lv_iadd hx hb dL_law_250 ?_
    refine lv_topi (fun x138 ex138 => ?_)
    obtain ⟨tx138, ejx138, evx138⟩ := lw_ix (k := 2) ex138 hI hL rfl (by decide)
    clear tx138
    refine va_sld hx hb hX hbl (Nat.not_le.mpr hbl) hSH108 (vp_in_iff.mpr evx138) dL_law_251 ?_
    refine W.eq (g2 := F0 m 252 ls [.int (xs (i.toNatClampNeg + 2)), .int (xs (i.toNatClampNeg + 1)), .ref b]) (congrArg (fun z => F0 m 252 ls [.int (xs z), .int (xs (i.toNatClampNeg + 1)), .ref b]) ejx138) ?_
    refine lv_aload_n hx hb dL_law_252 rfl (lv_at hl 3 rfl) ?_
    refine lv_iload_n hx hb dL_law_253 rfl (lv_at hl 0 rfl) ?_
    refine lv_iconst (v := 3) hx hb dL_law_254 (by decide) ?_
    refine lv_iadd hx hb dL_law_255 ?_
    refine lv_topi (fun x139 ex139 => ?_)
    obtain ⟨tx139, ejx139, evx139⟩ := lw_ix (k := 3) ex139 hI hL rfl (by decide)
    clear tx139
    refine va_sld hx hb hX hbl (Nat.not_le.mpr hbl) hSH108 (vp_in_iff.mpr evx139) dL_law_256 ?_
    refine W.eq (g2 := F0 m 257 ls [.int (xs (i.toNatClampNeg + 3)), .int (xs (i.toNatClampNeg + 2)), .int (xs (i.toNatClampNeg + 1)), .ref b]) (congrArg (fun z => F0 m 257 ls [.int (xs z), .int (xs (i.toNatClampNeg + 2)), .int (xs (i.toNatClampNeg + 1)), .ref b]) ejx139) ?_
    refine lv_aload_n hx hb dL_law_257 rfl (lv_at hl 3 rfl) ?_
    refine lv_iload_n hx hb dL_law_258 rfl (lv_at hl 0 rfl) ?_
    refine lv_iconst (v := 4) hx hb dL_law_259 (by decide) ?_
    refine lv_iadd hx hb dL_law_260 ?_
    refine lv_topi (fun x140 ex140 => ?_)
    obtain ⟨tx140, ejx140, evx140⟩ := lw_ix (k := 4) ex140 hI hL rfl (by decide)
    clear tx140
    refine va_sld hx hb hX hbl (Nat.not_le.mpr hbl) hSH108 (vp_in_iff.mpr evx140) dL_law_261 ?_
    refine W.eq (g2 := F0 m 262 ls [.int (xs (i.toNatClampNeg + 4)), .int (xs (i.toNatClampNeg + 3)), .int (xs (i.toNatClampNeg + 2)), .int (xs (i.toNatClampNeg + 1)), .ref b]) (congrArg (fun z => F0 m 262 ls [.int (xs z), .int (xs (i.toNatClampNeg + 3)), .int (xs (i.toNatClampNeg + 2)), .int (xs (i.toNatClampNeg + 1)), .ref b]) ejx140) ?_
    refine lv_aload_n hx hb dL_law_262 rfl (lv_at hl 3 rfl) ?_
    refine lv_iload_n hx hb dL_law_263 rfl (lv_at hl 0 rfl) ?_
    refine lv_iconst (v := 5) hx hb dL_law_264 (by decide) ?_
    refine lv_iadd hx hb dL_law_265 ?_
    refine lv_topi (fun x141 ex141 => ?_)
    obtain ⟨tx141, ejx141, evx141⟩ := lw_ix (k := 5) ex141 hI hL rfl (by decide)
    clear tx141
    refine va_sld hx hb hX hbl (Nat.not_le.mpr hbl) hSH108 (vp_in_iff.mpr evx141) dL_law_266 ?_
    refine W.eq (g2 := F0 m 267 ls [.int (xs (i.toNatClampNeg + 5)), .int (xs (i.toNatClampNeg + 4)), .int (xs (i.toNatClampNeg + 3)), .int (xs (i.toNatClampNeg + 2)), .int (xs (i.toNatClampNeg + 1)), .ref b]) (congrArg (fun z => F0 m 267 ls [.int (xs z), .int (xs (i.toNatClampNeg + 4)), .int (xs (i.toNatClampNeg + 3)), .int (xs (i.toNatClampNeg + 2)), .int (xs (i.toNatClampNeg + 1)), .ref b]) ejx141) ?_
    refine x_V (As := [.int (xs (i.toNatClampNeg + 1)), .int (xs (i.toNatClampNeg + 2)), .int (xs (i.toNatClampNeg + 3)), .int (xs (i.toNatClampNeg + 4)), .int (xs (i.toNatClampNeg + 5))]) (rest := []) C (a_X10_slice l K G H108 ((xs (i.toNatClampNeg + 1))) ((xs (i.toNatClampNeg + 2))) ((xs (i.toNatClampNeg + 3))) ((xs (i.toNatClampNeg + 4))) ((xs (i.toNatClampNeg + 5))) hTH108 gb g110 g111 g112 g113) yo_X10_slice wM_L_22 ⟨⟨by decide, by decide⟩, show _ ≤ 1200000 from Nat.le_trans hc (by decide), show _ ≤ 5502250 from Nat.le_trans hs (by decide)⟩ (x_rv C hTH108 (ci := 10) rfl gb rg_112) rfl hl.1 rfl (Nat.le_of_ble_eq_true rfl) dL_law_267 hSH108 (AE_new hN hSH108.1) (fun vH142 H142 locsH142 pH142 zH142 kH142 hSH142 => ?_)
    obtain ⟨x143, hvH142, bx143, g144, g145, g146, g147, mf148, hTH142⟩ := pH142
    subst hvH142
    have m149 := (m114).trans (fR_kept (x_lt hTH108 kH142 ga (by decide))).symm
    have m150 := (m115).trans (fI_kept (x_lt hTH108 kH142 ga (by decide))).symm
    have m151 := (m117).trans (fI_kept (x_lt hTH108 kH142 gw (by decide))).symm
    have m152 := (m119).trans (fI_kept (x_lt hTH108 kH142 gw (by decide))).symm
    have m153 := (m121).trans (fI_kept (x_lt hTH108 kH142 gw (by decide))).symm
    have m154 := (m123).trans (fI_kept (x_lt hTH108 kH142 gw (by decide))).symm
    have m155 := (m125).trans (fI_kept (x_lt hTH108 kH142 gw (by decide))).symm
    have m156 := (m127).trans (fI_kept (x_lt hTH108 kH142 gw (by decide))).symm
    have m157 := (m129).trans (fR_kept (x_lt hTH108 kH142 gw (by decide))).symm
    have m158 := (fV_kept (x_lt hTH108 kH142 ga (by decide))).trans m132
    have m159 := (m116).trans (MF.i mf148 (k := 18) (by decide) (by decide)).symm
    have m160 := (m118).trans (MF.i mf148 (k := 1) (by decide) (by decide)).symm
    have m161 := (m120).trans (MF.i mf148 (k := 2) (by decide) (by decide)).symm
    have m162 := (m122).trans (MF.i mf148 (k := 3) (by decide) (by decide)).symm
    have m163 := (m124).trans (MF.i mf148 (k := 59) (by decide) (by decide)).symm
    have m164 := (m126).trans (MF.i mf148 (k := 62) (by decide) (by decide)).symm
    have m165 := (m128).trans (MF.i mf148 (k := 65) (by decide) (by decide)).symm
    have m166 := (m130).trans (MF.r mf148 (k := 50) (by decide) (by decide)).symm
    have m167 := (m131).trans (MF.i mf148 (k := 70) (by decide) (by decide)).symm
    have m168 := (m133).trans (MF.r mf148 (k := 73) (by decide) (by decide)).symm
    refine W.eq (g2 := F0 m 270 ls [.int x143]) rfl ?_
    have v169 : ∀ j : Nat, j < 10 → cz101 j = fI H142 (fR H142 bq j) (K.1.2 0 14) := fun j h => (v134 j h).trans (by rw [fR_kept (x_lt hTH108 kH142 gbq (by decide))]; exact (fI_kept (x_lt hTH108 kH142 (bar_g hTH108 gbq j h) (by decide))).symm)
    have v170 : ∀ j : Nat, j < 10 → rz102 j = fI H142 aq j := fun j h => (v135 j h).trans (fI_kept (x_lt hTH108 kH142 gaq (by decide))).symm
    have d171 := DB.kept d136 (x_lt hTH108 kH142 gbq (by decide))
    refine lv_pop hx hb dL_law_270 rfl ?_
    refine lv_goto (tgt := 1509) hx hb dL_law_271 (by decide) ?_
    exact nx G H142 locsH142 _ _ ls ⟨hTH142, hN, ga, gb, g144, g145, g146, g147, ⟨(by rw [← m150, ← m159]; exact rt), (by rw [← m149, ← m151, ← m160]; exact r1), (by rw [← m149, ← m152, ← m161]; exact r4), (by rw [← m149, ← m153, ← m162]; exact r5), (by rw [← m149, ← m154, ← m163]; exact r10), (by rw [← m149, ← m155, ← m164]; exact r13), (by rw [← m149, ← m156, ← m165]; exact r16)⟩, Or.inl ⟨m158, (by rw [← m167]; exact h70)⟩, (by unfold RB; rw [← m149, ← m157, ← m166, ← m160]; exact ⟨d171, fun j h1 h2 => by rw [← v169 j h1, ← v170 j h1]; exact rel j h1 (by omega), fun j h1 h2 => by rw [← v170 j h1]; exact tl j h1 (by omega)⟩), hSH142⟩ hl ⟨hc, hs, fun _ => ⟨hc0, hs0⟩⟩
  · skip
    obtain ⟨hi, ehi⟩ : ∃ z : Int32, z = fI H b (K.1.2 10 70) := ⟨_, rfl⟩
    rw [← ehi] at h70
    obtain ⟨iq, eiq⟩ : ∃ z : Nat, z = fR H b (K.1.2 10 73) := ⟨_, rfl⟩
    have giq := ty_fr (q := iq) (k := 73) (u := 162) eiq hT gb rg_112 rfl
    rw [← eiq] at q1 q4 q5 q10 q13 q16
    obtain ⟨k1, ek1⟩ : ∃ z : Int32, z = fI H kq (K.1.2 8 1) := ⟨_, rfl⟩
    rw [← ek1] at q1
    obtain ⟨i1, ei1⟩ : ∃ z : Int32, z = fI H iq ((0 : Int32).toNatClampNeg) := ⟨_, rfl⟩
    rw [← ei1] at q1
    obtain ⟨k4, ek4⟩ : ∃ z : Int32, z = fI H kq (K.1.2 8 4) := ⟨_, rfl⟩
    rw [← ek4] at q4
    obtain ⟨i4, ei4⟩ : ∃ z : Int32, z = fI H iq ((1 : Int32).toNatClampNeg) := ⟨_, rfl⟩
    rw [← ei4] at q4
    obtain ⟨k5, ek5⟩ : ∃ z : Int32, z = fI H kq (K.1.2 8 5) := ⟨_, rfl⟩
    rw [← ek5] at q5
    obtain ⟨i5, ei5⟩ : ∃ z : Int32, z = fI H iq ((2 : Int32).toNatClampNeg) := ⟨_, rfl⟩
    rw [← ei5] at q5
    obtain ⟨k10, ek10⟩ : ∃ z : Int32, z = fI H kq (K.1.2 8 10) := ⟨_, rfl⟩
    rw [← ek10] at q10
    obtain ⟨i10, ei10⟩ : ∃ z : Int32, z = fI H iq ((3 : Int32).toNatClampNeg) := ⟨_, rfl⟩
    rw [← ei10] at q10
    obtain ⟨k13, ek13⟩ : ∃ z : Int32, z = fI H kq (K.1.2 8 13) := ⟨_, rfl⟩
    rw [← ek13] at q13
    obtain ⟨i13, ei13⟩ : ∃ z : Int32, z = fI H iq ((4 : Int32).toNatClampNeg) := ⟨_, rfl⟩
    rw [← ei13] at q13
    obtain ⟨k16, ek16⟩ : ∃ z : Int32, z = fI H kq (K.1.2 8 16) := ⟨_, rfl⟩
    rw [← ek16] at q16
    obtain ⟨i16, ei16⟩ : ∃ z : Int32, z = fI H iq ((5 : Int32).toNatClampNeg) := ⟨_, rfl⟩
    rw [← ei16] at q16
    obtain ⟨kb, ekb⟩ : ∃ z : Nat, z = fR H kq (K.1.2 8 0) := ⟨_, rfl⟩
    have gkb := ty_fr (q := kb) (k := 0) (u := 59) ekb hT gkq rg_34 rfl
    have bk1 := ty_fi (x := k1) (k := 1) ek1 hT gkq rg_34 rfl
    rw [← ekb] at dbk
    rw [← ekb, ← eiq, ← ek1] at vk
    rw [← eiq, ← ek1] at vkt
    obtain ⟨kz172, ekz172⟩ : ∃ f : Nat → Int32, ∀ j : Nat, j < 10 → f j = fI H (fR H kb j) (K.1.2 0 14) := ⟨_, fun _ _ => rfl⟩
    obtain ⟨iz173, eiz173⟩ : ∃ f : Nat → Int32, ∀ j : Nat, j < 10 → f j = fI H iq (11 + 6 * j) := ⟨_, fun _ _ => rfl⟩
    have vk0 : ∀ j : Nat, j < 10 → (j : Int) < k1.toInt → kz172 j = iz173 j := fun j h1 h2 => by rw [ekz172 j h1, eiz173 j h1]; exact vk j h1 h2
    clear vk
    have vk1 : ∀ j : Nat, j < 10 → k1.toInt ≤ (j : Int) → iz173 j = 0 := fun j h1 h2 => by rw [eiz173 j h1]; exact vkt j h1 h2
    clear vkt
    refine lv_aload_n hx hb dL_law_211 rfl (lv_at hl 2 rfl) ?_
    refine lv_aload_n hx hb dL_law_212 rfl (lv_at hl 3 rfl) ?_
    refine lv_iload_n hx hb dL_law_213 rfl (lv_at hl 0 rfl) ?_
    refine lv_iconst (v := 1) hx hb dL_law_214 (by decide) ?_
    refine lv_iadd hx hb dL_law_215 ?_
    refine lv_topi (fun x174 ex174 => ?_)
    obtain ⟨tx174, ejx174, evx174⟩ := lw_ix (k := 1) ex174 hI hL rfl (by decide)
    clear tx174
    refine va_sld hx hb hX hbl (Nat.not_le.mpr hbl) hS (vp_in_iff.mpr evx174) dL_law_216 ?_
    refine W.eq (g2 := F0 m 217 ls [.int (xs (i.toNatClampNeg + 1)), .ref a]) (congrArg (fun z => F0 m 217 ls [.int (xs z), .ref a]) ejx174) ?_
    refine lv_aload_n hx hb dL_law_217 rfl (lv_at hl 3 rfl) ?_
    refine lv_iload_n hx hb dL_law_218 rfl (lv_at hl 0 rfl) ?_
    refine lv_iconst (v := 2) hx hb dL_law_219 (by decide) ?_
    refine lv_iadd hx hb dL_law_220 ?_
    refine lv_topi (fun x175 ex175 => ?_)
    obtain ⟨tx175, ejx175, evx175⟩ := lw_ix (k := 2) ex175 hI hL rfl (by decide)
    clear tx175
    refine va_sld hx hb hX hbl (Nat.not_le.mpr hbl) hS (vp_in_iff.mpr evx175) dL_law_221 ?_
    refine W.eq (g2 := F0 m 222 ls [.int (xs (i.toNatClampNeg + 2)), .int (xs (i.toNatClampNeg + 1)), .ref a]) (congrArg (fun z => F0 m 222 ls [.int (xs z), .int (xs (i.toNatClampNeg + 1)), .ref a]) ejx175) ?_
    refine lv_aload_n hx hb dL_law_222 rfl (lv_at hl 3 rfl) ?_
    refine lv_iload_n hx hb dL_law_223 rfl (lv_at hl 0 rfl) ?_
    refine lv_iconst (v := 3) hx hb dL_law_224 (by decide) ?_
    refine lv_iadd hx hb dL_law_225 ?_
    refine lv_topi (fun x176 ex176 => ?_)
    obtain ⟨tx176, ejx176, evx176⟩ := lw_ix (k := 3) ex176 hI hL rfl (by decide)
    clear tx176
    refine va_sld hx hb hX hbl (Nat.not_le.mpr hbl) hS (vp_in_iff.mpr evx176) dL_law_226 ?_
    refine W.eq (g2 := F0 m 227 ls [.int (xs (i.toNatClampNeg + 3)), .int (xs (i.toNatClampNeg + 2)), .int (xs (i.toNatClampNeg + 1)), .ref a]) (congrArg (fun z => F0 m 227 ls [.int (xs z), .int (xs (i.toNatClampNeg + 2)), .int (xs (i.toNatClampNeg + 1)), .ref a]) ejx176) ?_
    refine lv_aload_n hx hb dL_law_227 rfl (lv_at hl 3 rfl) ?_
    refine lv_iload_n hx hb dL_law_228 rfl (lv_at hl 0 rfl) ?_
    refine lv_iconst (v := 4) hx hb dL_law_229 (by decide) ?_
    refine lv_iadd hx hb dL_law_230 ?_
    refine lv_topi (fun x177 ex177 => ?_)
    obtain ⟨tx177, ejx177, evx177⟩ := lw_ix (k := 4) ex177 hI hL rfl (by decide)
    clear tx177
    refine va_sld hx hb hX hbl (Nat.not_le.mpr hbl) hS (vp_in_iff.mpr evx177) dL_law_231 ?_
    refine W.eq (g2 := F0 m 232 ls [.int (xs (i.toNatClampNeg + 4)), .int (xs (i.toNatClampNeg + 3)), .int (xs (i.toNatClampNeg + 2)), .int (xs (i.toNatClampNeg + 1)), .ref a]) (congrArg (fun z => F0 m 232 ls [.int (xs z), .int (xs (i.toNatClampNeg + 3)), .int (xs (i.toNatClampNeg + 2)), .int (xs (i.toNatClampNeg + 1)), .ref a]) ejx177) ?_
    refine lv_aload_n hx hb dL_law_232 rfl (lv_at hl 3 rfl) ?_
    refine lv_iload_n hx hb dL_law_233 rfl (lv_at hl 0 rfl) ?_
    refine lv_iconst (v := 5) hx hb dL_law_234 (by decide) ?_
    refine lv_iadd hx hb dL_law_235 ?_
    refine lv_topi (fun x178 ex178 => ?_)
    obtain ⟨tx178, ejx178, evx178⟩ := lw_ix (k := 5) ex178 hI hL rfl (by decide)
    clear tx178
    refine va_sld hx hb hX hbl (Nat.not_le.mpr hbl) hS (vp_in_iff.mpr evx178) dL_law_236 ?_
    refine W.eq (g2 := F0 m 237 ls [.int (xs (i.toNatClampNeg + 5)), .int (xs (i.toNatClampNeg + 4)), .int (xs (i.toNatClampNeg + 3)), .int (xs (i.toNatClampNeg + 2)), .int (xs (i.toNatClampNeg + 1)), .ref a]) (congrArg (fun z => F0 m 237 ls [.int (xs z), .int (xs (i.toNatClampNeg + 4)), .int (xs (i.toNatClampNeg + 3)), .int (xs (i.toNatClampNeg + 2)), .int (xs (i.toNatClampNeg + 1)), .ref a]) ejx178) ?_
    refine x_V (As := [.int (xs (i.toNatClampNeg + 1)), .int (xs (i.toNatClampNeg + 2)), .int (xs (i.toNatClampNeg + 3)), .int (xs (i.toNatClampNeg + 4)), .int (xs (i.toNatClampNeg + 5))]) (rest := []) C (a_X9_slice l K G H ((xs (i.toNatClampNeg + 1))) ((xs (i.toNatClampNeg + 2))) ((xs (i.toNatClampNeg + 3))) ((xs (i.toNatClampNeg + 4))) ((xs (i.toNatClampNeg + 5))) hT ga) yo_X9_slice wM_L_18 ⟨⟨by decide, by decide⟩, show _ ≤ 1200000 from Nat.le_trans hc (by decide), show _ ≤ 5502250 from Nat.le_trans hs (by decide)⟩ (x_rv C hT (ci := 9) rfl ga rg_68) rfl hl.1 rfl (Nat.le_of_ble_eq_true rfl) dL_law_237 hS (AE_new hN hS.1) (fun vH179 H179 locsH179 pH179 zH179 kH179 hSH179 => ?_)
    obtain ⟨x180, hvH179, bx180, hTH179⟩ := pH179
    subst hvH179
    have g181 : CG (avw K H179 b) := CG.congr (fun k hk j => av_eff hT kH179 gb (by decide) (CG_eff [2, 3, 4] (by decide) k hk)) cg
    have g182 : TU (avw K H179 b) (svw K H179 b) := TU.congr (fun k hk j => av_eff hT kH179 gb (by decide) (TU_eff [2, 3, 4] (by decide) k hk)) (fun k hk => sv_eff hT kH179 gb (by decide)) tu
    have g183 : WD (avw K H179 b) := WD.congr (fun k hk j => av_eff hT kH179 gb (by decide) (WD_eff [2, 3, 4] (by decide) k hk)) wd
    have g184 : IM (avw K H179 b) := IM.congr (fun k hk j => av_eff hT kH179 gb (by decide) (IM_eff [2, 3, 4] (by decide) k hk)) im
    have m185 := (ew).trans (fR_kept (x_lt hT kH179 ga (by decide))).symm
    have m186 := (eta).trans (fI_kept (x_lt hT kH179 ga (by decide))).symm
    have m187 := (etb).trans (fI_kept (x_lt hT kH179 gb (by decide))).symm
    have m188 := (es1).trans (fI_kept (x_lt hT kH179 gw (by decide))).symm
    have m189 := (ey1).trans (fI_kept (x_lt hT kH179 gb (by decide))).symm
    have m190 := (es4).trans (fI_kept (x_lt hT kH179 gw (by decide))).symm
    have m191 := (ey4).trans (fI_kept (x_lt hT kH179 gb (by decide))).symm
    have m192 := (es5).trans (fI_kept (x_lt hT kH179 gw (by decide))).symm
    have m193 := (ey5).trans (fI_kept (x_lt hT kH179 gb (by decide))).symm
    have m194 := (es10).trans (fI_kept (x_lt hT kH179 gw (by decide))).symm
    have m195 := (ey10).trans (fI_kept (x_lt hT kH179 gb (by decide))).symm
    have m196 := (es13).trans (fI_kept (x_lt hT kH179 gw (by decide))).symm
    have m197 := (ey13).trans (fI_kept (x_lt hT kH179 gb (by decide))).symm
    have m198 := (es16).trans (fI_kept (x_lt hT kH179 gw (by decide))).symm
    have m199 := (ey16).trans (fI_kept (x_lt hT kH179 gb (by decide))).symm
    have m200 := (ebq).trans (fR_kept (x_lt hT kH179 gw (by decide))).symm
    have m201 := (eaq).trans (fR_kept (x_lt hT kH179 gb (by decide))).symm
    have m202 := (ehi).trans (fI_kept (x_lt hT kH179 gb (by decide))).symm
    have m203 := (fV_kept (x_lt hT kH179 ga (by decide))).trans kn
    have m204 := (eiq).trans (fR_kept (x_lt hT kH179 gb (by decide))).symm
    have m205 := (ek1).trans (fI_kept (x_lt hT kH179 gkq (by decide))).symm
    have m206 := (ei1).trans (fI_kept (x_lt hT kH179 giq (by decide))).symm
    have m207 := (ek4).trans (fI_kept (x_lt hT kH179 gkq (by decide))).symm
    have m208 := (ei4).trans (fI_kept (x_lt hT kH179 giq (by decide))).symm
    have m209 := (ek5).trans (fI_kept (x_lt hT kH179 gkq (by decide))).symm
    have m210 := (ei5).trans (fI_kept (x_lt hT kH179 giq (by decide))).symm
    have m211 := (ek10).trans (fI_kept (x_lt hT kH179 gkq (by decide))).symm
    have m212 := (ei10).trans (fI_kept (x_lt hT kH179 giq (by decide))).symm
    have m213 := (ek13).trans (fI_kept (x_lt hT kH179 gkq (by decide))).symm
    have m214 := (ei13).trans (fI_kept (x_lt hT kH179 giq (by decide))).symm
    have m215 := (ek16).trans (fI_kept (x_lt hT kH179 gkq (by decide))).symm
    have m216 := (ei16).trans (fI_kept (x_lt hT kH179 giq (by decide))).symm
    have m217 := (ekb).trans (fR_kept (x_lt hT kH179 gkq (by decide))).symm
    refine W.eq (g2 := F0 m 240 ls [.int x180]) rfl ?_
    have v218 : ∀ j : Nat, j < 10 → cz101 j = fI H179 (fR H179 bq j) (K.1.2 0 14) := fun j h => (ecz101 j h).trans (by rw [fR_kept (x_lt hT kH179 gbq (by decide))]; exact (fI_kept (x_lt hT kH179 (bar_g hT gbq j h) (by decide))).symm)
    have v219 : ∀ j : Nat, j < 10 → rz102 j = fI H179 aq j := fun j h => (erz102 j h).trans (fI_kept (x_lt hT kH179 gaq (by decide))).symm
    have v220 : ∀ j : Nat, j < 10 → kz172 j = fI H179 (fR H179 kb j) (K.1.2 0 14) := fun j h => (ekz172 j h).trans (by rw [fR_kept (x_lt hT kH179 gkb (by decide))]; exact (fI_kept (x_lt hT kH179 (bar_h hT gkb j h) (by decide))).symm)
    have d221 := DB.kept dbk (x_lt hT kH179 gkb (by decide))
    have v222 : ∀ j : Nat, j < 10 → iz173 j = fI H179 iq (11 + 6 * j) := fun j h => (eiz173 j h).trans (fI_kept (x_lt hT kH179 giq (by decide))).symm
    have d223 := DB.kept db (x_lt hT kH179 gbq (by decide))
    refine lv_pop hx hb dL_law_240 rfl ?_
    refine lv_aload_n hx hb dL_law_241 rfl (lv_at hl 1 rfl) ?_
    refine lv_aload_n hx hb dL_law_242 rfl (lv_at hl 3 rfl) ?_
    refine lv_iload_n hx hb dL_law_243 rfl (lv_at hl 0 rfl) ?_
    refine lv_iconst (v := 1) hx hb dL_law_244 (by decide) ?_
    refine lv_iadd hx hb dL_law_245 ?_
    refine lv_topi (fun x224 ex224 => ?_)
    obtain ⟨tx224, ejx224, evx224⟩ := lw_ix (k := 1) ex224 hI hL rfl (by decide)
    clear tx224
    refine va_sld hx hb hX hbl (Nat.not_le.mpr hbl) hSH179 (vp_in_iff.mpr evx224) dL_law_246 ?_
    refine W.eq (g2 := F0 m 247 ls [.int (xs (i.toNatClampNeg + 1)), .ref b]) (congrArg (fun z => F0 m 247 ls [.int (xs z), .ref b]) ejx224) ?_
    refine lv_aload_n hx hb dL_law_247 rfl (lv_at hl 3 rfl) ?_
    refine lv_iload_n hx hb dL_law_248 rfl (lv_at hl 0 rfl) ?_
    refine lv_iconst (v := 2) hx hb dL_law_249 (by decide) ?_
    refine lv_iadd hx hb dL_law_250 ?_
    refine lv_topi (fun x225 ex225 => ?_)
    obtain ⟨tx225, ejx225, evx225⟩ := lw_ix (k := 2) ex225 hI hL rfl (by decide)
    clear tx225
    refine va_sld hx hb hX hbl (Nat.not_le.mpr hbl) hSH179 (vp_in_iff.mpr evx225) dL_law_251 ?_
    refine W.eq (g2 := F0 m 252 ls [.int (xs (i.toNatClampNeg + 2)), .int (xs (i.toNatClampNeg + 1)), .ref b]) (congrArg (fun z => F0 m 252 ls [.int (xs z), .int (xs (i.toNatClampNeg + 1)), .ref b]) ejx225) ?_
    refine lv_aload_n hx hb dL_law_252 rfl (lv_at hl 3 rfl) ?_
    refine lv_iload_n hx hb dL_law_253 rfl (lv_at hl 0 rfl) ?_
    refine lv_iconst (v := 3) hx hb dL_law_254 (by decide) ?_
    refine lv_iadd hx hb dL_law_255 ?_
    refine lv_topi (fun x226 ex226 => ?_)
    obtain ⟨tx226, ejx226, evx226⟩ := lw_ix (k := 3) ex226 hI hL rfl (by decide)
    clear tx226
    refine va_sld hx hb hX hbl (Nat.not_le.mpr hbl) hSH179 (vp_in_iff.mpr evx226) dL_law_256 ?_
    refine W.eq (g2 := F0 m 257 ls [.int (xs (i.toNatClampNeg + 3)), .int (xs (i.toNatClampNeg + 2)), .int (xs (i.toNatClampNeg + 1)), .ref b]) (congrArg (fun z => F0 m 257 ls [.int (xs z), .int (xs (i.toNatClampNeg + 2)), .int (xs (i.toNatClampNeg + 1)), .ref b]) ejx226) ?_
    refine lv_aload_n hx hb dL_law_257 rfl (lv_at hl 3 rfl) ?_
    refine lv_iload_n hx hb dL_law_258 rfl (lv_at hl 0 rfl) ?_
    refine lv_iconst (v := 4) hx hb dL_law_259 (by decide) ?_
    refine lv_iadd hx hb dL_law_260 ?_
    refine lv_topi (fun x227 ex227 => ?_)
    obtain ⟨tx227, ejx227, evx227⟩ := lw_ix (k := 4) ex227 hI hL rfl (by decide)
    clear tx227
    refine va_sld hx hb hX hbl (Nat.not_le.mpr hbl) hSH179 (vp_in_iff.mpr evx227) dL_law_261 ?_
    refine W.eq (g2 := F0 m 262 ls [.int (xs (i.toNatClampNeg + 4)), .int (xs (i.toNatClampNeg + 3)), .int (xs (i.toNatClampNeg + 2)), .int (xs (i.toNatClampNeg + 1)), .ref b]) (congrArg (fun z => F0 m 262 ls [.int (xs z), .int (xs (i.toNatClampNeg + 3)), .int (xs (i.toNatClampNeg + 2)), .int (xs (i.toNatClampNeg + 1)), .ref b]) ejx227) ?_
    refine lv_aload_n hx hb dL_law_262 rfl (lv_at hl 3 rfl) ?_
    refine lv_iload_n hx hb dL_law_263 rfl (lv_at hl 0 rfl) ?_
    refine lv_iconst (v := 5) hx hb dL_law_264 (by decide) ?_
    refine lv_iadd hx hb dL_law_265 ?_
    refine lv_topi (fun x228 ex228 => ?_)
    obtain ⟨tx228, ejx228, evx228⟩ := lw_ix (k := 5) ex228 hI hL rfl (by decide)
    clear tx228
    refine va_sld hx hb hX hbl (Nat.not_le.mpr hbl) hSH179 (vp_in_iff.mpr evx228) dL_law_266 ?_
    refine W.eq (g2 := F0 m 267 ls [.int (xs (i.toNatClampNeg + 5)), .int (xs (i.toNatClampNeg + 4)), .int (xs (i.toNatClampNeg + 3)), .int (xs (i.toNatClampNeg + 2)), .int (xs (i.toNatClampNeg + 1)), .ref b]) (congrArg (fun z => F0 m 267 ls [.int (xs z), .int (xs (i.toNatClampNeg + 4)), .int (xs (i.toNatClampNeg + 3)), .int (xs (i.toNatClampNeg + 2)), .int (xs (i.toNatClampNeg + 1)), .ref b]) ejx228) ?_
    refine x_V (As := [.int (xs (i.toNatClampNeg + 1)), .int (xs (i.toNatClampNeg + 2)), .int (xs (i.toNatClampNeg + 3)), .int (xs (i.toNatClampNeg + 4)), .int (xs (i.toNatClampNeg + 5))]) (rest := []) C (a_X10_slice l K G H179 ((xs (i.toNatClampNeg + 1))) ((xs (i.toNatClampNeg + 2))) ((xs (i.toNatClampNeg + 3))) ((xs (i.toNatClampNeg + 4))) ((xs (i.toNatClampNeg + 5))) hTH179 gb g181 g182 g183 g184) yo_X10_slice wM_L_22 ⟨⟨by decide, by decide⟩, show _ ≤ 1200000 from Nat.le_trans hc (by decide), show _ ≤ 5502250 from Nat.le_trans hs (by decide)⟩ (x_rv C hTH179 (ci := 10) rfl gb rg_112) rfl hl.1 rfl (Nat.le_of_ble_eq_true rfl) dL_law_267 hSH179 (AE_new hN hSH179.1) (fun vH229 H229 locsH229 pH229 zH229 kH229 hSH229 => ?_)
    obtain ⟨x230, hvH229, bx230, g231, g232, g233, g234, mf235, hTH229⟩ := pH229
    subst hvH229
    have m236 := (m185).trans (fR_kept (x_lt hTH179 kH229 ga (by decide))).symm
    have m237 := (m186).trans (fI_kept (x_lt hTH179 kH229 ga (by decide))).symm
    have m238 := (m188).trans (fI_kept (x_lt hTH179 kH229 gw (by decide))).symm
    have m239 := (m190).trans (fI_kept (x_lt hTH179 kH229 gw (by decide))).symm
    have m240 := (m192).trans (fI_kept (x_lt hTH179 kH229 gw (by decide))).symm
    have m241 := (m194).trans (fI_kept (x_lt hTH179 kH229 gw (by decide))).symm
    have m242 := (m196).trans (fI_kept (x_lt hTH179 kH229 gw (by decide))).symm
    have m243 := (m198).trans (fI_kept (x_lt hTH179 kH229 gw (by decide))).symm
    have m244 := (m200).trans (fR_kept (x_lt hTH179 kH229 gw (by decide))).symm
    have m245 := (fV_kept (x_lt hTH179 kH229 ga (by decide))).trans m203
    have m246 := (m205).trans (fI_kept (x_lt hTH179 kH229 gkq (by decide))).symm
    have m247 := (m206).trans (fI_kept (x_lt hTH179 kH229 giq (by decide))).symm
    have m248 := (m207).trans (fI_kept (x_lt hTH179 kH229 gkq (by decide))).symm
    have m249 := (m208).trans (fI_kept (x_lt hTH179 kH229 giq (by decide))).symm
    have m250 := (m209).trans (fI_kept (x_lt hTH179 kH229 gkq (by decide))).symm
    have m251 := (m210).trans (fI_kept (x_lt hTH179 kH229 giq (by decide))).symm
    have m252 := (m211).trans (fI_kept (x_lt hTH179 kH229 gkq (by decide))).symm
    have m253 := (m212).trans (fI_kept (x_lt hTH179 kH229 giq (by decide))).symm
    have m254 := (m213).trans (fI_kept (x_lt hTH179 kH229 gkq (by decide))).symm
    have m255 := (m214).trans (fI_kept (x_lt hTH179 kH229 giq (by decide))).symm
    have m256 := (m215).trans (fI_kept (x_lt hTH179 kH229 gkq (by decide))).symm
    have m257 := (m216).trans (fI_kept (x_lt hTH179 kH229 giq (by decide))).symm
    have m258 := (m217).trans (fR_kept (x_lt hTH179 kH229 gkq (by decide))).symm
    have m259 := (m187).trans (MF.i mf235 (k := 18) (by decide) (by decide)).symm
    have m260 := (m189).trans (MF.i mf235 (k := 1) (by decide) (by decide)).symm
    have m261 := (m191).trans (MF.i mf235 (k := 2) (by decide) (by decide)).symm
    have m262 := (m193).trans (MF.i mf235 (k := 3) (by decide) (by decide)).symm
    have m263 := (m195).trans (MF.i mf235 (k := 59) (by decide) (by decide)).symm
    have m264 := (m197).trans (MF.i mf235 (k := 62) (by decide) (by decide)).symm
    have m265 := (m199).trans (MF.i mf235 (k := 65) (by decide) (by decide)).symm
    have m266 := (m201).trans (MF.r mf235 (k := 50) (by decide) (by decide)).symm
    have m267 := (m202).trans (MF.i mf235 (k := 70) (by decide) (by decide)).symm
    have m268 := (m204).trans (MF.r mf235 (k := 73) (by decide) (by decide)).symm
    refine W.eq (g2 := F0 m 270 ls [.int x230]) rfl ?_
    have v269 : ∀ j : Nat, j < 10 → cz101 j = fI H229 (fR H229 bq j) (K.1.2 0 14) := fun j h => (v218 j h).trans (by rw [fR_kept (x_lt hTH179 kH229 gbq (by decide))]; exact (fI_kept (x_lt hTH179 kH229 (bar_g hTH179 gbq j h) (by decide))).symm)
    have v270 : ∀ j : Nat, j < 10 → rz102 j = fI H229 aq j := fun j h => (v219 j h).trans (fI_kept (x_lt hTH179 kH229 gaq (by decide))).symm
    have v271 : ∀ j : Nat, j < 10 → kz172 j = fI H229 (fR H229 kb j) (K.1.2 0 14) := fun j h => (v220 j h).trans (by rw [fR_kept (x_lt hTH179 kH229 gkb (by decide))]; exact (fI_kept (x_lt hTH179 kH229 (bar_h hTH179 gkb j h) (by decide))).symm)
    have d272 := DB.kept d221 (x_lt hTH179 kH229 gkb (by decide))
    have v273 : ∀ j : Nat, j < 10 → iz173 j = fI H229 iq (11 + 6 * j) := fun j h => (v222 j h).trans (fI_kept (x_lt hTH179 kH229 giq (by decide))).symm
    have d274 := DB.kept d223 (x_lt hTH179 kH229 gbq (by decide))
    refine lv_pop hx hb dL_law_270 rfl ?_
    refine lv_goto (tgt := 1509) hx hb dL_law_271 (by decide) ?_
    exact nx G H229 locsH229 _ _ ls ⟨hTH229, hN, ga, gb, g231, g232, g233, g234, ⟨(by rw [← m237, ← m259]; exact rt), (by rw [← m236, ← m238, ← m260]; exact r1), (by rw [← m236, ← m239, ← m261]; exact r4), (by rw [← m236, ← m240, ← m262]; exact r5), (by rw [← m236, ← m241, ← m263]; exact r10), (by rw [← m236, ← m242, ← m264]; exact r13), (by rw [← m236, ← m243, ← m265]; exact r16)⟩, Or.inr ⟨kq, m245, gkq, (by rw [← m267]; exact h70), (by rw [← m246, ← m268, ← m247]; exact q1), (by rw [← m248, ← m268, ← m249]; exact q4), (by rw [← m250, ← m268, ← m251]; exact q5), (by rw [← m252, ← m268, ← m253]; exact q10), (by rw [← m254, ← m268, ← m255]; exact q13), (by rw [← m256, ← m268, ← m257]; exact q16), (by rw [← m258]; exact d272), (by rw [← m258, ← m268, ← m246]; exact fun j h1 h2 => by rw [← v271 j h1, ← v273 j h1]; exact vk0 j h1 (by omega)), (by rw [← m268, ← m246]; exact fun j h1 h2 => by rw [← v273 j h1]; exact vk1 j h1 (by omega))⟩, (by unfold RB; rw [← m236, ← m244, ← m266, ← m260]; exact ⟨d274, fun j h1 h2 => by rw [← v269 j h1, ← v270 j h1]; exact rel j h1 (by omega), fun j h1 h2 => by rw [← v270 j h1]; exact tl j h1 (by omega)⟩), hSH229⟩ hl ⟨hc, hs, fun h => by have h1 := h.symm.trans m245; cases h1⟩
set_option maxRecDepth 100000 in
set_option maxHeartbeats 8000000 in
theorem lw_c2 {p : Program} {l : Launch} {e : Env} {s : State} {m : MethodId} {below : List Frame} {meth : Method} {c : Code} {K : KE} {b0 L : Nat} {xs : Nat → Int32} {G : Nat → Option Nat} {H : Heap} {locs : List Loc} {a b : Nat} {cells slots : Nat} {ls : Array Slot} {i : Int32} {n : Nat} (D : LC p K s m meth c b0 L xs) (S : SX K s G H locs a b) (hl : lv_has ls 4 [(3, .int i), (2, .ref b), (1, .ref a), (0, .ref b0)]) (hi : 0 ≤ i.toInt ∧ i.toInt + 6 ≤ L) (hn : n ≤ 511) (hB : BD K H a cells slots) (nx : ∀ (G : Nat → Option Nat) (H : Heap) (locs : List Loc) (cells slots : Nat) (ls : Array Slot), SX K s G H locs a b → lv_has ls 4 [(3, .int i), (2, .ref b), (1, .ref a), (0, .ref b0)] → BD K H a cells slots → W p l e room_1 s m #[Value.ref b0] below meth c H locs cells slots (lw_Z below #[Value.ref b0] s) (F0 m 1509 ls [])) : W p l e room_1 s m #[Value.ref b0] below meth c H locs cells slots (lw_Z below #[Value.ref b0] s) (F0 m 274 ls []) := by
  have hI := hi
  obtain ⟨C, hX, hbl, hL⟩ := id D
  obtain ⟨hx, hb, hml, hown, hts, hKT, hr, hlocks, hnm⟩ := id C
  obtain ⟨hT, hN, ga, gb, cg, tu, wd, im, ⟨rt, r1, r4, r5, r10, r13, r16⟩, hk, hrb, hS⟩ := S
  obtain ⟨hc, hs, hB0⟩ := hB
  have n_m1 : ((-1) : Int32).toInt = -1 := rfl
  have n_0 : (0 : Int32).toInt = 0 := rfl
  have n_1 : (1 : Int32).toInt = 1 := rfl
  have n_2 : (2 : Int32).toInt = 2 := rfl
  have n_3 : (3 : Int32).toInt = 3 := rfl
  obtain ⟨w, ew⟩ : ∃ z : Nat, z = fR H a (K.1.2 9 0) := ⟨_, rfl⟩
  have gw := ty_fr (q := w) (k := 0) (u := 0) ew hT ga rg_68 rfl
  rw [← ew] at r1 r4 r5 r10 r13 r16
  obtain ⟨ta, eta⟩ : ∃ z : Int32, z = fI H a (K.1.2 9 3) := ⟨_, rfl⟩
  rw [← eta] at rt
  obtain ⟨tb, etb⟩ : ∃ z : Int32, z = fI H b (K.1.2 10 18) := ⟨_, rfl⟩
  rw [← etb] at rt
  obtain ⟨s1, es1⟩ : ∃ z : Int32, z = fI H w (K.1.2 8 1) := ⟨_, rfl⟩
  rw [← es1] at r1
  obtain ⟨y1, ey1⟩ : ∃ z : Int32, z = fI H b (K.1.2 10 1) := ⟨_, rfl⟩
  rw [← ey1] at r1
  obtain ⟨s4, es4⟩ : ∃ z : Int32, z = fI H w (K.1.2 8 4) := ⟨_, rfl⟩
  rw [← es4] at r4
  obtain ⟨y4, ey4⟩ : ∃ z : Int32, z = fI H b (K.1.2 10 2) := ⟨_, rfl⟩
  rw [← ey4] at r4
  obtain ⟨s5, es5⟩ : ∃ z : Int32, z = fI H w (K.1.2 8 5) := ⟨_, rfl⟩
  rw [← es5] at r5
  obtain ⟨y5, ey5⟩ : ∃ z : Int32, z = fI H b (K.1.2 10 3) := ⟨_, rfl⟩
  rw [← ey5] at r5
  obtain ⟨s10, es10⟩ : ∃ z : Int32, z = fI H w (K.1.2 8 10) := ⟨_, rfl⟩
  rw [← es10] at r10
  obtain ⟨y10, ey10⟩ : ∃ z : Int32, z = fI H b (K.1.2 10 59) := ⟨_, rfl⟩
  rw [← ey10] at r10
  obtain ⟨s13, es13⟩ : ∃ z : Int32, z = fI H w (K.1.2 8 13) := ⟨_, rfl⟩
  rw [← es13] at r13
  obtain ⟨y13, ey13⟩ : ∃ z : Int32, z = fI H b (K.1.2 10 62) := ⟨_, rfl⟩
  rw [← ey13] at r13
  obtain ⟨s16, es16⟩ : ∃ z : Int32, z = fI H w (K.1.2 8 16) := ⟨_, rfl⟩
  rw [← es16] at r16
  obtain ⟨y16, ey16⟩ : ∃ z : Int32, z = fI H b (K.1.2 10 65) := ⟨_, rfl⟩
  rw [← ey16] at r16
  obtain ⟨bq, ebq⟩ : ∃ z : Nat, z = fR H w (K.1.2 8 0) := ⟨_, rfl⟩
  have gbq := ty_fr (q := bq) (k := 0) (u := 25) ebq hT gw rg_0 rfl
  obtain ⟨aq, eaq⟩ : ∃ z : Nat, z = fR H b (K.1.2 10 50) := ⟨_, rfl⟩
  have gaq := ty_fr (q := aq) (k := 50) (u := 146) eaq hT gb rg_112 rfl
  have bs1 := ty_fi (x := s1) (k := 1) es1 hT gw rg_0 rfl
  have by1 := ty_fi (x := y1) (k := 1) ey1 hT gb rg_112 rfl
  obtain ⟨db, vr, vt⟩ := hrb
  rw [← ew, ← ebq] at db
  rw [← ew, ← ebq, ← eaq, ← ey1] at vr
  rw [← eaq, ← ey1] at vt
  obtain ⟨cz101, ecz101⟩ : ∃ f : Nat → Int32, ∀ j : Nat, j < 10 → f j = fI H (fR H bq j) (K.1.2 0 14) := ⟨_, fun _ _ => rfl⟩
  obtain ⟨rz102, erz102⟩ : ∃ f : Nat → Int32, ∀ j : Nat, j < 10 → f j = fI H aq j := ⟨_, fun _ _ => rfl⟩
  have rel : ∀ j : Nat, j < 10 → (j : Int) < y1.toInt → cz101 j = rz102 j := fun j h1 h2 => by rw [ecz101 j h1, erz102 j h1]; exact vr j h1 h2
  clear vr
  have tl : ∀ j : Nat, j < 10 → y1.toInt ≤ (j : Int) → rz102 j = 0 := fun j h1 h2 => by rw [erz102 j h1]; exact vt j h1 h2
  clear vt
  rcases hk with ⟨kn, h70⟩ | ⟨kq, kn, gkq, h70, q1, q4, q5, q10, q13, q16, dbk, vk, vkt⟩
  · skip
    obtain ⟨hi, ehi⟩ : ∃ z : Int32, z = fI H b (K.1.2 10 70) := ⟨_, rfl⟩
    rw [← ehi] at h70
    obtain ⟨hc0, hs0⟩ := hB0 kn
    obtain ⟨iq, eiq⟩ : ∃ z : Nat, z = fR H b (K.1.2 10 73) := ⟨_, rfl⟩
    have giq := ty_fr (q := iq) (k := 73) (u := 162) eiq hT gb rg_112 rfl
    refine lv_aload_n hx hb dL_law_274 rfl (lv_at hl 2 rfl) ?_
    refine lv_aload_n hx hb dL_law_275 rfl (lv_at hl 3 rfl) ?_
    refine lv_iload_n hx hb dL_law_276 rfl (lv_at hl 0 rfl) ?_
    refine lv_iconst (v := 1) hx hb dL_law_277 (by decide) ?_
    refine lv_iadd hx hb dL_law_278 ?_
    refine lv_topi (fun x103 ex103 => ?_)
    obtain ⟨tx103, ejx103, evx103⟩ := lw_ix (k := 1) ex103 hI hL rfl (by decide)
    clear tx103
    refine va_sld hx hb hX hbl (Nat.not_le.mpr hbl) hS (vp_in_iff.mpr evx103) dL_law_279 ?_
    refine W.eq (g2 := F0 m 280 ls [.int (xs (i.toNatClampNeg + 1)), .ref a]) (congrArg (fun z => F0 m 280 ls [.int (xs z), .ref a]) ejx103) ?_
    refine lv_aload_n hx hb dL_law_280 rfl (lv_at hl 3 rfl) ?_
    refine lv_iload_n hx hb dL_law_281 rfl (lv_at hl 0 rfl) ?_
    refine lv_iconst (v := 2) hx hb dL_law_282 (by decide) ?_
    refine lv_iadd hx hb dL_law_283 ?_
    refine lv_topi (fun x104 ex104 => ?_)
    obtain ⟨tx104, ejx104, evx104⟩ := lw_ix (k := 2) ex104 hI hL rfl (by decide)
    clear tx104
    refine va_sld hx hb hX hbl (Nat.not_le.mpr hbl) hS (vp_in_iff.mpr evx104) dL_law_284 ?_
    refine W.eq (g2 := F0 m 285 ls [.int (xs (i.toNatClampNeg + 2)), .int (xs (i.toNatClampNeg + 1)), .ref a]) (congrArg (fun z => F0 m 285 ls [.int (xs z), .int (xs (i.toNatClampNeg + 1)), .ref a]) ejx104) ?_
    refine lv_aload_n hx hb dL_law_285 rfl (lv_at hl 3 rfl) ?_
    refine lv_iload_n hx hb dL_law_286 rfl (lv_at hl 0 rfl) ?_
    refine lv_iconst (v := 3) hx hb dL_law_287 (by decide) ?_
    refine lv_iadd hx hb dL_law_288 ?_
    refine lv_topi (fun x105 ex105 => ?_)
    obtain ⟨tx105, ejx105, evx105⟩ := lw_ix (k := 3) ex105 hI hL rfl (by decide)
    clear tx105
    refine va_sld hx hb hX hbl (Nat.not_le.mpr hbl) hS (vp_in_iff.mpr evx105) dL_law_289 ?_
    refine W.eq (g2 := F0 m 290 ls [.int (xs (i.toNatClampNeg + 3)), .int (xs (i.toNatClampNeg + 2)), .int (xs (i.toNatClampNeg + 1)), .ref a]) (congrArg (fun z => F0 m 290 ls [.int (xs z), .int (xs (i.toNatClampNeg + 2)), .int (xs (i.toNatClampNeg + 1)), .ref a]) ejx105) ?_
    refine x_V (As := [.int (xs (i.toNatClampNeg + 1)), .int (xs (i.toNatClampNeg + 2)), .int (xs (i.toNatClampNeg + 3))]) (rest := []) C (a_X9_wax l K G H ((xs (i.toNatClampNeg + 1))) ((xs (i.toNatClampNeg + 2))) ((xs (i.toNatClampNeg + 3))) hT ga) yo_X9_wax wM_L_23 ⟨⟨by decide, by decide⟩, show _ ≤ 1200000 from Nat.le_trans hc (by decide), show _ ≤ 5502250 from Nat.le_trans hs (by decide)⟩ (x_rv C hT (ci := 9) rfl ga rg_68) rfl hl.1 rfl (Nat.le_of_ble_eq_true rfl) dL_law_290 hS (AE_new hN hS.1) (fun vH106 H106 locsH106 pH106 zH106 kH106 hSH106 => ?_)
    obtain ⟨x107, hvH106, bx107, hTH106⟩ := pH106
    subst hvH106
    have g108 : CG (avw K H106 b) := CG.congr (fun k hk j => av_eff hT kH106 gb (by decide) (CG_eff [5] (by decide) k hk)) cg
    have g109 : TU (avw K H106 b) (svw K H106 b) := TU.congr (fun k hk j => av_eff hT kH106 gb (by decide) (TU_eff [5] (by decide) k hk)) (fun k hk => sv_eff hT kH106 gb (by decide)) tu
    have g110 : WD (avw K H106 b) := WD.congr (fun k hk j => av_eff hT kH106 gb (by decide) (WD_eff [5] (by decide) k hk)) wd
    have g111 : IM (avw K H106 b) := IM.congr (fun k hk j => av_eff hT kH106 gb (by decide) (IM_eff [5] (by decide) k hk)) im
    have m112 := (ew).trans (fR_kept (x_lt hT kH106 ga (by decide))).symm
    have m113 := (eta).trans (fI_kept (x_lt hT kH106 ga (by decide))).symm
    have m114 := (etb).trans (fI_kept (x_lt hT kH106 gb (by decide))).symm
    have m115 := (es1).trans (fI_kept (x_lt hT kH106 gw (by decide))).symm
    have m116 := (ey1).trans (fI_kept (x_lt hT kH106 gb (by decide))).symm
    have m117 := (es4).trans (fI_kept (x_lt hT kH106 gw (by decide))).symm
    have m118 := (ey4).trans (fI_kept (x_lt hT kH106 gb (by decide))).symm
    have m119 := (es5).trans (fI_kept (x_lt hT kH106 gw (by decide))).symm
    have m120 := (ey5).trans (fI_kept (x_lt hT kH106 gb (by decide))).symm
    have m121 := (es10).trans (fI_kept (x_lt hT kH106 gw (by decide))).symm
    have m122 := (ey10).trans (fI_kept (x_lt hT kH106 gb (by decide))).symm
    have m123 := (es13).trans (fI_kept (x_lt hT kH106 gw (by decide))).symm
    have m124 := (ey13).trans (fI_kept (x_lt hT kH106 gb (by decide))).symm
    have m125 := (es16).trans (fI_kept (x_lt hT kH106 gw (by decide))).symm
    have m126 := (ey16).trans (fI_kept (x_lt hT kH106 gb (by decide))).symm
    have m127 := (ebq).trans (fR_kept (x_lt hT kH106 gw (by decide))).symm
    have m128 := (eaq).trans (fR_kept (x_lt hT kH106 gb (by decide))).symm
    have m129 := (ehi).trans (fI_kept (x_lt hT kH106 gb (by decide))).symm
    have m130 := (fV_kept (x_lt hT kH106 ga (by decide))).trans kn
    have m131 := (eiq).trans (fR_kept (x_lt hT kH106 gb (by decide))).symm
    refine W.eq (g2 := F0 m 293 ls [.int x107]) rfl ?_
    have v132 : ∀ j : Nat, j < 10 → cz101 j = fI H106 (fR H106 bq j) (K.1.2 0 14) := fun j h => (ecz101 j h).trans (by rw [fR_kept (x_lt hT kH106 gbq (by decide))]; exact (fI_kept (x_lt hT kH106 (bar_g hT gbq j h) (by decide))).symm)
    have v133 : ∀ j : Nat, j < 10 → rz102 j = fI H106 aq j := fun j h => (erz102 j h).trans (fI_kept (x_lt hT kH106 gaq (by decide))).symm
    have d134 := DB.kept db (x_lt hT kH106 gbq (by decide))
    refine lv_pop hx hb dL_law_293 rfl ?_
    refine lv_aload_n hx hb dL_law_294 rfl (lv_at hl 1 rfl) ?_
    refine lv_aload_n hx hb dL_law_295 rfl (lv_at hl 3 rfl) ?_
    refine lv_iload_n hx hb dL_law_296 rfl (lv_at hl 0 rfl) ?_
    refine lv_iconst (v := 1) hx hb dL_law_297 (by decide) ?_
    refine lv_iadd hx hb dL_law_298 ?_
    refine lv_topi (fun x135 ex135 => ?_)
    obtain ⟨tx135, ejx135, evx135⟩ := lw_ix (k := 1) ex135 hI hL rfl (by decide)
    clear tx135
    refine va_sld hx hb hX hbl (Nat.not_le.mpr hbl) hSH106 (vp_in_iff.mpr evx135) dL_law_299 ?_
    refine W.eq (g2 := F0 m 300 ls [.int (xs (i.toNatClampNeg + 1)), .ref b]) (congrArg (fun z => F0 m 300 ls [.int (xs z), .ref b]) ejx135) ?_
    refine lv_aload_n hx hb dL_law_300 rfl (lv_at hl 3 rfl) ?_
    refine lv_iload_n hx hb dL_law_301 rfl (lv_at hl 0 rfl) ?_
    refine lv_iconst (v := 2) hx hb dL_law_302 (by decide) ?_
    refine lv_iadd hx hb dL_law_303 ?_
    refine lv_topi (fun x136 ex136 => ?_)
    obtain ⟨tx136, ejx136, evx136⟩ := lw_ix (k := 2) ex136 hI hL rfl (by decide)
    clear tx136
    refine va_sld hx hb hX hbl (Nat.not_le.mpr hbl) hSH106 (vp_in_iff.mpr evx136) dL_law_304 ?_
    refine W.eq (g2 := F0 m 305 ls [.int (xs (i.toNatClampNeg + 2)), .int (xs (i.toNatClampNeg + 1)), .ref b]) (congrArg (fun z => F0 m 305 ls [.int (xs z), .int (xs (i.toNatClampNeg + 1)), .ref b]) ejx136) ?_
    refine lv_aload_n hx hb dL_law_305 rfl (lv_at hl 3 rfl) ?_
    refine lv_iload_n hx hb dL_law_306 rfl (lv_at hl 0 rfl) ?_
    refine lv_iconst (v := 3) hx hb dL_law_307 (by decide) ?_
    refine lv_iadd hx hb dL_law_308 ?_
    refine lv_topi (fun x137 ex137 => ?_)
    obtain ⟨tx137, ejx137, evx137⟩ := lw_ix (k := 3) ex137 hI hL rfl (by decide)
    clear tx137
    refine va_sld hx hb hX hbl (Nat.not_le.mpr hbl) hSH106 (vp_in_iff.mpr evx137) dL_law_309 ?_
    refine W.eq (g2 := F0 m 310 ls [.int (xs (i.toNatClampNeg + 3)), .int (xs (i.toNatClampNeg + 2)), .int (xs (i.toNatClampNeg + 1)), .ref b]) (congrArg (fun z => F0 m 310 ls [.int (xs z), .int (xs (i.toNatClampNeg + 2)), .int (xs (i.toNatClampNeg + 1)), .ref b]) ejx137) ?_
    refine x_V (As := [.int (xs (i.toNatClampNeg + 1)), .int (xs (i.toNatClampNeg + 2)), .int (xs (i.toNatClampNeg + 3))]) (rest := []) C (a_X10_wax l K G H106 ((xs (i.toNatClampNeg + 1))) ((xs (i.toNatClampNeg + 2))) ((xs (i.toNatClampNeg + 3))) hTH106 gb g108 g109 g110 g111) yo_X10_wax wM_L_27 ⟨⟨by decide, by decide⟩, show _ ≤ 1200000 from Nat.le_trans hc (by decide), show _ ≤ 5502250 from Nat.le_trans hs (by decide)⟩ (x_rv C hTH106 (ci := 10) rfl gb rg_112) rfl hl.1 rfl (Nat.le_of_ble_eq_true rfl) dL_law_310 hSH106 (AE_new hN hSH106.1) (fun vH138 H138 locsH138 pH138 zH138 kH138 hSH138 => ?_)
    obtain ⟨x139, hvH138, bx139, g140, g141, g142, g143, mf144, hTH138⟩ := pH138
    subst hvH138
    have m145 := (m112).trans (fR_kept (x_lt hTH106 kH138 ga (by decide))).symm
    have m146 := (m113).trans (fI_kept (x_lt hTH106 kH138 ga (by decide))).symm
    have m147 := (m115).trans (fI_kept (x_lt hTH106 kH138 gw (by decide))).symm
    have m148 := (m117).trans (fI_kept (x_lt hTH106 kH138 gw (by decide))).symm
    have m149 := (m119).trans (fI_kept (x_lt hTH106 kH138 gw (by decide))).symm
    have m150 := (m121).trans (fI_kept (x_lt hTH106 kH138 gw (by decide))).symm
    have m151 := (m123).trans (fI_kept (x_lt hTH106 kH138 gw (by decide))).symm
    have m152 := (m125).trans (fI_kept (x_lt hTH106 kH138 gw (by decide))).symm
    have m153 := (m127).trans (fR_kept (x_lt hTH106 kH138 gw (by decide))).symm
    have m154 := (fV_kept (x_lt hTH106 kH138 ga (by decide))).trans m130
    have m155 := (m114).trans (MF.i mf144 (k := 18) (by decide) (by decide)).symm
    have m156 := (m116).trans (MF.i mf144 (k := 1) (by decide) (by decide)).symm
    have m157 := (m118).trans (MF.i mf144 (k := 2) (by decide) (by decide)).symm
    have m158 := (m120).trans (MF.i mf144 (k := 3) (by decide) (by decide)).symm
    have m159 := (m122).trans (MF.i mf144 (k := 59) (by decide) (by decide)).symm
    have m160 := (m124).trans (MF.i mf144 (k := 62) (by decide) (by decide)).symm
    have m161 := (m126).trans (MF.i mf144 (k := 65) (by decide) (by decide)).symm
    have m162 := (m128).trans (MF.r mf144 (k := 50) (by decide) (by decide)).symm
    have m163 := (m129).trans (MF.i mf144 (k := 70) (by decide) (by decide)).symm
    have m164 := (m131).trans (MF.r mf144 (k := 73) (by decide) (by decide)).symm
    refine W.eq (g2 := F0 m 313 ls [.int x139]) rfl ?_
    have v165 : ∀ j : Nat, j < 10 → cz101 j = fI H138 (fR H138 bq j) (K.1.2 0 14) := fun j h => (v132 j h).trans (by rw [fR_kept (x_lt hTH106 kH138 gbq (by decide))]; exact (fI_kept (x_lt hTH106 kH138 (bar_g hTH106 gbq j h) (by decide))).symm)
    have v166 : ∀ j : Nat, j < 10 → rz102 j = fI H138 aq j := fun j h => (v133 j h).trans (fI_kept (x_lt hTH106 kH138 gaq (by decide))).symm
    have d167 := DB.kept d134 (x_lt hTH106 kH138 gbq (by decide))
    refine lv_pop hx hb dL_law_313 rfl ?_
    refine lv_goto (tgt := 1509) hx hb dL_law_314 (by decide) ?_
    exact nx G H138 locsH138 _ _ ls ⟨hTH138, hN, ga, gb, g140, g141, g142, g143, ⟨(by rw [← m146, ← m155]; exact rt), (by rw [← m145, ← m147, ← m156]; exact r1), (by rw [← m145, ← m148, ← m157]; exact r4), (by rw [← m145, ← m149, ← m158]; exact r5), (by rw [← m145, ← m150, ← m159]; exact r10), (by rw [← m145, ← m151, ← m160]; exact r13), (by rw [← m145, ← m152, ← m161]; exact r16)⟩, Or.inl ⟨m154, (by rw [← m163]; exact h70)⟩, (by unfold RB; rw [← m145, ← m153, ← m162, ← m156]; exact ⟨d167, fun j h1 h2 => by rw [← v165 j h1, ← v166 j h1]; exact rel j h1 (by omega), fun j h1 h2 => by rw [← v166 j h1]; exact tl j h1 (by omega)⟩), hSH138⟩ hl ⟨hc, hs, fun _ => ⟨hc0, hs0⟩⟩
  · skip
    obtain ⟨hi, ehi⟩ : ∃ z : Int32, z = fI H b (K.1.2 10 70) := ⟨_, rfl⟩
    rw [← ehi] at h70
    obtain ⟨iq, eiq⟩ : ∃ z : Nat, z = fR H b (K.1.2 10 73) := ⟨_, rfl⟩
    have giq := ty_fr (q := iq) (k := 73) (u := 162) eiq hT gb rg_112 rfl
    rw [← eiq] at q1 q4 q5 q10 q13 q16
    obtain ⟨k1, ek1⟩ : ∃ z : Int32, z = fI H kq (K.1.2 8 1) := ⟨_, rfl⟩
    rw [← ek1] at q1
    obtain ⟨i1, ei1⟩ : ∃ z : Int32, z = fI H iq ((0 : Int32).toNatClampNeg) := ⟨_, rfl⟩
    rw [← ei1] at q1
    obtain ⟨k4, ek4⟩ : ∃ z : Int32, z = fI H kq (K.1.2 8 4) := ⟨_, rfl⟩
    rw [← ek4] at q4
    obtain ⟨i4, ei4⟩ : ∃ z : Int32, z = fI H iq ((1 : Int32).toNatClampNeg) := ⟨_, rfl⟩
    rw [← ei4] at q4
    obtain ⟨k5, ek5⟩ : ∃ z : Int32, z = fI H kq (K.1.2 8 5) := ⟨_, rfl⟩
    rw [← ek5] at q5
    obtain ⟨i5, ei5⟩ : ∃ z : Int32, z = fI H iq ((2 : Int32).toNatClampNeg) := ⟨_, rfl⟩
    rw [← ei5] at q5
    obtain ⟨k10, ek10⟩ : ∃ z : Int32, z = fI H kq (K.1.2 8 10) := ⟨_, rfl⟩
    rw [← ek10] at q10
    obtain ⟨i10, ei10⟩ : ∃ z : Int32, z = fI H iq ((3 : Int32).toNatClampNeg) := ⟨_, rfl⟩
    rw [← ei10] at q10
    obtain ⟨k13, ek13⟩ : ∃ z : Int32, z = fI H kq (K.1.2 8 13) := ⟨_, rfl⟩
    rw [← ek13] at q13
    obtain ⟨i13, ei13⟩ : ∃ z : Int32, z = fI H iq ((4 : Int32).toNatClampNeg) := ⟨_, rfl⟩
    rw [← ei13] at q13
    obtain ⟨k16, ek16⟩ : ∃ z : Int32, z = fI H kq (K.1.2 8 16) := ⟨_, rfl⟩
    rw [← ek16] at q16
    obtain ⟨i16, ei16⟩ : ∃ z : Int32, z = fI H iq ((5 : Int32).toNatClampNeg) := ⟨_, rfl⟩
    rw [← ei16] at q16
    obtain ⟨kb, ekb⟩ : ∃ z : Nat, z = fR H kq (K.1.2 8 0) := ⟨_, rfl⟩
    have gkb := ty_fr (q := kb) (k := 0) (u := 59) ekb hT gkq rg_34 rfl
    have bk1 := ty_fi (x := k1) (k := 1) ek1 hT gkq rg_34 rfl
    rw [← ekb] at dbk
    rw [← ekb, ← eiq, ← ek1] at vk
    rw [← eiq, ← ek1] at vkt
    obtain ⟨kz168, ekz168⟩ : ∃ f : Nat → Int32, ∀ j : Nat, j < 10 → f j = fI H (fR H kb j) (K.1.2 0 14) := ⟨_, fun _ _ => rfl⟩
    obtain ⟨iz169, eiz169⟩ : ∃ f : Nat → Int32, ∀ j : Nat, j < 10 → f j = fI H iq (11 + 6 * j) := ⟨_, fun _ _ => rfl⟩
    have vk0 : ∀ j : Nat, j < 10 → (j : Int) < k1.toInt → kz168 j = iz169 j := fun j h1 h2 => by rw [ekz168 j h1, eiz169 j h1]; exact vk j h1 h2
    clear vk
    have vk1 : ∀ j : Nat, j < 10 → k1.toInt ≤ (j : Int) → iz169 j = 0 := fun j h1 h2 => by rw [eiz169 j h1]; exact vkt j h1 h2
    clear vkt
    refine lv_aload_n hx hb dL_law_274 rfl (lv_at hl 2 rfl) ?_
    refine lv_aload_n hx hb dL_law_275 rfl (lv_at hl 3 rfl) ?_
    refine lv_iload_n hx hb dL_law_276 rfl (lv_at hl 0 rfl) ?_
    refine lv_iconst (v := 1) hx hb dL_law_277 (by decide) ?_
    refine lv_iadd hx hb dL_law_278 ?_
    refine lv_topi (fun x170 ex170 => ?_)
    obtain ⟨tx170, ejx170, evx170⟩ := lw_ix (k := 1) ex170 hI hL rfl (by decide)
    clear tx170
    refine va_sld hx hb hX hbl (Nat.not_le.mpr hbl) hS (vp_in_iff.mpr evx170) dL_law_279 ?_
    refine W.eq (g2 := F0 m 280 ls [.int (xs (i.toNatClampNeg + 1)), .ref a]) (congrArg (fun z => F0 m 280 ls [.int (xs z), .ref a]) ejx170) ?_
    refine lv_aload_n hx hb dL_law_280 rfl (lv_at hl 3 rfl) ?_
    refine lv_iload_n hx hb dL_law_281 rfl (lv_at hl 0 rfl) ?_
    refine lv_iconst (v := 2) hx hb dL_law_282 (by decide) ?_
    refine lv_iadd hx hb dL_law_283 ?_
    refine lv_topi (fun x171 ex171 => ?_)
    obtain ⟨tx171, ejx171, evx171⟩ := lw_ix (k := 2) ex171 hI hL rfl (by decide)
    clear tx171
    refine va_sld hx hb hX hbl (Nat.not_le.mpr hbl) hS (vp_in_iff.mpr evx171) dL_law_284 ?_
    refine W.eq (g2 := F0 m 285 ls [.int (xs (i.toNatClampNeg + 2)), .int (xs (i.toNatClampNeg + 1)), .ref a]) (congrArg (fun z => F0 m 285 ls [.int (xs z), .int (xs (i.toNatClampNeg + 1)), .ref a]) ejx171) ?_
    refine lv_aload_n hx hb dL_law_285 rfl (lv_at hl 3 rfl) ?_
    refine lv_iload_n hx hb dL_law_286 rfl (lv_at hl 0 rfl) ?_
    refine lv_iconst (v := 3) hx hb dL_law_287 (by decide) ?_
    refine lv_iadd hx hb dL_law_288 ?_
    refine lv_topi (fun x172 ex172 => ?_)
    obtain ⟨tx172, ejx172, evx172⟩ := lw_ix (k := 3) ex172 hI hL rfl (by decide)
    clear tx172
    refine va_sld hx hb hX hbl (Nat.not_le.mpr hbl) hS (vp_in_iff.mpr evx172) dL_law_289 ?_
    refine W.eq (g2 := F0 m 290 ls [.int (xs (i.toNatClampNeg + 3)), .int (xs (i.toNatClampNeg + 2)), .int (xs (i.toNatClampNeg + 1)), .ref a]) (congrArg (fun z => F0 m 290 ls [.int (xs z), .int (xs (i.toNatClampNeg + 2)), .int (xs (i.toNatClampNeg + 1)), .ref a]) ejx172) ?_
    refine x_V (As := [.int (xs (i.toNatClampNeg + 1)), .int (xs (i.toNatClampNeg + 2)), .int (xs (i.toNatClampNeg + 3))]) (rest := []) C (a_X9_wax l K G H ((xs (i.toNatClampNeg + 1))) ((xs (i.toNatClampNeg + 2))) ((xs (i.toNatClampNeg + 3))) hT ga) yo_X9_wax wM_L_23 ⟨⟨by decide, by decide⟩, show _ ≤ 1200000 from Nat.le_trans hc (by decide), show _ ≤ 5502250 from Nat.le_trans hs (by decide)⟩ (x_rv C hT (ci := 9) rfl ga rg_68) rfl hl.1 rfl (Nat.le_of_ble_eq_true rfl) dL_law_290 hS (AE_new hN hS.1) (fun vH173 H173 locsH173 pH173 zH173 kH173 hSH173 => ?_)
    obtain ⟨x174, hvH173, bx174, hTH173⟩ := pH173
    subst hvH173
    have g175 : CG (avw K H173 b) := CG.congr (fun k hk j => av_eff hT kH173 gb (by decide) (CG_eff [5] (by decide) k hk)) cg
    have g176 : TU (avw K H173 b) (svw K H173 b) := TU.congr (fun k hk j => av_eff hT kH173 gb (by decide) (TU_eff [5] (by decide) k hk)) (fun k hk => sv_eff hT kH173 gb (by decide)) tu
    have g177 : WD (avw K H173 b) := WD.congr (fun k hk j => av_eff hT kH173 gb (by decide) (WD_eff [5] (by decide) k hk)) wd
    have g178 : IM (avw K H173 b) := IM.congr (fun k hk j => av_eff hT kH173 gb (by decide) (IM_eff [5] (by decide) k hk)) im
    have m179 := (ew).trans (fR_kept (x_lt hT kH173 ga (by decide))).symm
    have m180 := (eta).trans (fI_kept (x_lt hT kH173 ga (by decide))).symm
    have m181 := (etb).trans (fI_kept (x_lt hT kH173 gb (by decide))).symm
    have m182 := (es1).trans (fI_kept (x_lt hT kH173 gw (by decide))).symm
    have m183 := (ey1).trans (fI_kept (x_lt hT kH173 gb (by decide))).symm
    have m184 := (es4).trans (fI_kept (x_lt hT kH173 gw (by decide))).symm
    have m185 := (ey4).trans (fI_kept (x_lt hT kH173 gb (by decide))).symm
    have m186 := (es5).trans (fI_kept (x_lt hT kH173 gw (by decide))).symm
    have m187 := (ey5).trans (fI_kept (x_lt hT kH173 gb (by decide))).symm
    have m188 := (es10).trans (fI_kept (x_lt hT kH173 gw (by decide))).symm
    have m189 := (ey10).trans (fI_kept (x_lt hT kH173 gb (by decide))).symm
    have m190 := (es13).trans (fI_kept (x_lt hT kH173 gw (by decide))).symm
    have m191 := (ey13).trans (fI_kept (x_lt hT kH173 gb (by decide))).symm
    have m192 := (es16).trans (fI_kept (x_lt hT kH173 gw (by decide))).symm
    have m193 := (ey16).trans (fI_kept (x_lt hT kH173 gb (by decide))).symm
    have m194 := (ebq).trans (fR_kept (x_lt hT kH173 gw (by decide))).symm
    have m195 := (eaq).trans (fR_kept (x_lt hT kH173 gb (by decide))).symm
    have m196 := (ehi).trans (fI_kept (x_lt hT kH173 gb (by decide))).symm
    have m197 := (fV_kept (x_lt hT kH173 ga (by decide))).trans kn
    have m198 := (eiq).trans (fR_kept (x_lt hT kH173 gb (by decide))).symm
    have m199 := (ek1).trans (fI_kept (x_lt hT kH173 gkq (by decide))).symm
    have m200 := (ei1).trans (fI_kept (x_lt hT kH173 giq (by decide))).symm
    have m201 := (ek4).trans (fI_kept (x_lt hT kH173 gkq (by decide))).symm
    have m202 := (ei4).trans (fI_kept (x_lt hT kH173 giq (by decide))).symm
    have m203 := (ek5).trans (fI_kept (x_lt hT kH173 gkq (by decide))).symm
    have m204 := (ei5).trans (fI_kept (x_lt hT kH173 giq (by decide))).symm
    have m205 := (ek10).trans (fI_kept (x_lt hT kH173 gkq (by decide))).symm
    have m206 := (ei10).trans (fI_kept (x_lt hT kH173 giq (by decide))).symm
    have m207 := (ek13).trans (fI_kept (x_lt hT kH173 gkq (by decide))).symm
    have m208 := (ei13).trans (fI_kept (x_lt hT kH173 giq (by decide))).symm
    have m209 := (ek16).trans (fI_kept (x_lt hT kH173 gkq (by decide))).symm
    have m210 := (ei16).trans (fI_kept (x_lt hT kH173 giq (by decide))).symm
    have m211 := (ekb).trans (fR_kept (x_lt hT kH173 gkq (by decide))).symm
    refine W.eq (g2 := F0 m 293 ls [.int x174]) rfl ?_
    have v212 : ∀ j : Nat, j < 10 → cz101 j = fI H173 (fR H173 bq j) (K.1.2 0 14) := fun j h => (ecz101 j h).trans (by rw [fR_kept (x_lt hT kH173 gbq (by decide))]; exact (fI_kept (x_lt hT kH173 (bar_g hT gbq j h) (by decide))).symm)
    have v213 : ∀ j : Nat, j < 10 → rz102 j = fI H173 aq j := fun j h => (erz102 j h).trans (fI_kept (x_lt hT kH173 gaq (by decide))).symm
    have v214 : ∀ j : Nat, j < 10 → kz168 j = fI H173 (fR H173 kb j) (K.1.2 0 14) := fun j h => (ekz168 j h).trans (by rw [fR_kept (x_lt hT kH173 gkb (by decide))]; exact (fI_kept (x_lt hT kH173 (bar_h hT gkb j h) (by decide))).symm)
    have d215 := DB.kept dbk (x_lt hT kH173 gkb (by decide))
    have v216 : ∀ j : Nat, j < 10 → iz169 j = fI H173 iq (11 + 6 * j) := fun j h => (eiz169 j h).trans (fI_kept (x_lt hT kH173 giq (by decide))).symm
    have d217 := DB.kept db (x_lt hT kH173 gbq (by decide))
    refine lv_pop hx hb dL_law_293 rfl ?_
    refine lv_aload_n hx hb dL_law_294 rfl (lv_at hl 1 rfl) ?_
    refine lv_aload_n hx hb dL_law_295 rfl (lv_at hl 3 rfl) ?_
    refine lv_iload_n hx hb dL_law_296 rfl (lv_at hl 0 rfl) ?_
    refine lv_iconst (v := 1) hx hb dL_law_297 (by decide) ?_
    refine lv_iadd hx hb dL_law_298 ?_
    refine lv_topi (fun x218 ex218 => ?_)
    obtain ⟨tx218, ejx218, evx218⟩ := lw_ix (k := 1) ex218 hI hL rfl (by decide)
    clear tx218
    refine va_sld hx hb hX hbl (Nat.not_le.mpr hbl) hSH173 (vp_in_iff.mpr evx218) dL_law_299 ?_
    refine W.eq (g2 := F0 m 300 ls [.int (xs (i.toNatClampNeg + 1)), .ref b]) (congrArg (fun z => F0 m 300 ls [.int (xs z), .ref b]) ejx218) ?_
    refine lv_aload_n hx hb dL_law_300 rfl (lv_at hl 3 rfl) ?_
    refine lv_iload_n hx hb dL_law_301 rfl (lv_at hl 0 rfl) ?_
    refine lv_iconst (v := 2) hx hb dL_law_302 (by decide) ?_
    refine lv_iadd hx hb dL_law_303 ?_
    refine lv_topi (fun x219 ex219 => ?_)
    obtain ⟨tx219, ejx219, evx219⟩ := lw_ix (k := 2) ex219 hI hL rfl (by decide)
    clear tx219
    refine va_sld hx hb hX hbl (Nat.not_le.mpr hbl) hSH173 (vp_in_iff.mpr evx219) dL_law_304 ?_
    refine W.eq (g2 := F0 m 305 ls [.int (xs (i.toNatClampNeg + 2)), .int (xs (i.toNatClampNeg + 1)), .ref b]) (congrArg (fun z => F0 m 305 ls [.int (xs z), .int (xs (i.toNatClampNeg + 1)), .ref b]) ejx219) ?_
    refine lv_aload_n hx hb dL_law_305 rfl (lv_at hl 3 rfl) ?_
    refine lv_iload_n hx hb dL_law_306 rfl (lv_at hl 0 rfl) ?_
    refine lv_iconst (v := 3) hx hb dL_law_307 (by decide) ?_
    refine lv_iadd hx hb dL_law_308 ?_
    refine lv_topi (fun x220 ex220 => ?_)
    obtain ⟨tx220, ejx220, evx220⟩ := lw_ix (k := 3) ex220 hI hL rfl (by decide)
    clear tx220
    refine va_sld hx hb hX hbl (Nat.not_le.mpr hbl) hSH173 (vp_in_iff.mpr evx220) dL_law_309 ?_
    refine W.eq (g2 := F0 m 310 ls [.int (xs (i.toNatClampNeg + 3)), .int (xs (i.toNatClampNeg + 2)), .int (xs (i.toNatClampNeg + 1)), .ref b]) (congrArg (fun z => F0 m 310 ls [.int (xs z), .int (xs (i.toNatClampNeg + 2)), .int (xs (i.toNatClampNeg + 1)), .ref b]) ejx220) ?_
    refine x_V (As := [.int (xs (i.toNatClampNeg + 1)), .int (xs (i.toNatClampNeg + 2)), .int (xs (i.toNatClampNeg + 3))]) (rest := []) C (a_X10_wax l K G H173 ((xs (i.toNatClampNeg + 1))) ((xs (i.toNatClampNeg + 2))) ((xs (i.toNatClampNeg + 3))) hTH173 gb g175 g176 g177 g178) yo_X10_wax wM_L_27 ⟨⟨by decide, by decide⟩, show _ ≤ 1200000 from Nat.le_trans hc (by decide), show _ ≤ 5502250 from Nat.le_trans hs (by decide)⟩ (x_rv C hTH173 (ci := 10) rfl gb rg_112) rfl hl.1 rfl (Nat.le_of_ble_eq_true rfl) dL_law_310 hSH173 (AE_new hN hSH173.1) (fun vH221 H221 locsH221 pH221 zH221 kH221 hSH221 => ?_)
    obtain ⟨x222, hvH221, bx222, g223, g224, g225, g226, mf227, hTH221⟩ := pH221
    subst hvH221
    have m228 := (m179).trans (fR_kept (x_lt hTH173 kH221 ga (by decide))).symm
    have m229 := (m180).trans (fI_kept (x_lt hTH173 kH221 ga (by decide))).symm
    have m230 := (m182).trans (fI_kept (x_lt hTH173 kH221 gw (by decide))).symm
    have m231 := (m184).trans (fI_kept (x_lt hTH173 kH221 gw (by decide))).symm
    have m232 := (m186).trans (fI_kept (x_lt hTH173 kH221 gw (by decide))).symm
    have m233 := (m188).trans (fI_kept (x_lt hTH173 kH221 gw (by decide))).symm
    have m234 := (m190).trans (fI_kept (x_lt hTH173 kH221 gw (by decide))).symm
    have m235 := (m192).trans (fI_kept (x_lt hTH173 kH221 gw (by decide))).symm
    have m236 := (m194).trans (fR_kept (x_lt hTH173 kH221 gw (by decide))).symm
    have m237 := (fV_kept (x_lt hTH173 kH221 ga (by decide))).trans m197
    have m238 := (m199).trans (fI_kept (x_lt hTH173 kH221 gkq (by decide))).symm
    have m239 := (m200).trans (fI_kept (x_lt hTH173 kH221 giq (by decide))).symm
    have m240 := (m201).trans (fI_kept (x_lt hTH173 kH221 gkq (by decide))).symm
    have m241 := (m202).trans (fI_kept (x_lt hTH173 kH221 giq (by decide))).symm
    have m242 := (m203).trans (fI_kept (x_lt hTH173 kH221 gkq (by decide))).symm
    have m243 := (m204).trans (fI_kept (x_lt hTH173 kH221 giq (by decide))).symm
    have m244 := (m205).trans (fI_kept (x_lt hTH173 kH221 gkq (by decide))).symm
    have m245 := (m206).trans (fI_kept (x_lt hTH173 kH221 giq (by decide))).symm
    have m246 := (m207).trans (fI_kept (x_lt hTH173 kH221 gkq (by decide))).symm
    have m247 := (m208).trans (fI_kept (x_lt hTH173 kH221 giq (by decide))).symm
    have m248 := (m209).trans (fI_kept (x_lt hTH173 kH221 gkq (by decide))).symm
    have m249 := (m210).trans (fI_kept (x_lt hTH173 kH221 giq (by decide))).symm
    have m250 := (m211).trans (fR_kept (x_lt hTH173 kH221 gkq (by decide))).symm
    have m251 := (m181).trans (MF.i mf227 (k := 18) (by decide) (by decide)).symm
    have m252 := (m183).trans (MF.i mf227 (k := 1) (by decide) (by decide)).symm
    have m253 := (m185).trans (MF.i mf227 (k := 2) (by decide) (by decide)).symm
    have m254 := (m187).trans (MF.i mf227 (k := 3) (by decide) (by decide)).symm
    have m255 := (m189).trans (MF.i mf227 (k := 59) (by decide) (by decide)).symm
    have m256 := (m191).trans (MF.i mf227 (k := 62) (by decide) (by decide)).symm
    have m257 := (m193).trans (MF.i mf227 (k := 65) (by decide) (by decide)).symm
    have m258 := (m195).trans (MF.r mf227 (k := 50) (by decide) (by decide)).symm
    have m259 := (m196).trans (MF.i mf227 (k := 70) (by decide) (by decide)).symm
    have m260 := (m198).trans (MF.r mf227 (k := 73) (by decide) (by decide)).symm
    refine W.eq (g2 := F0 m 313 ls [.int x222]) rfl ?_
    have v261 : ∀ j : Nat, j < 10 → cz101 j = fI H221 (fR H221 bq j) (K.1.2 0 14) := fun j h => (v212 j h).trans (by rw [fR_kept (x_lt hTH173 kH221 gbq (by decide))]; exact (fI_kept (x_lt hTH173 kH221 (bar_g hTH173 gbq j h) (by decide))).symm)
    have v262 : ∀ j : Nat, j < 10 → rz102 j = fI H221 aq j := fun j h => (v213 j h).trans (fI_kept (x_lt hTH173 kH221 gaq (by decide))).symm
    have v263 : ∀ j : Nat, j < 10 → kz168 j = fI H221 (fR H221 kb j) (K.1.2 0 14) := fun j h => (v214 j h).trans (by rw [fR_kept (x_lt hTH173 kH221 gkb (by decide))]; exact (fI_kept (x_lt hTH173 kH221 (bar_h hTH173 gkb j h) (by decide))).symm)
    have d264 := DB.kept d215 (x_lt hTH173 kH221 gkb (by decide))
    have v265 : ∀ j : Nat, j < 10 → iz169 j = fI H221 iq (11 + 6 * j) := fun j h => (v216 j h).trans (fI_kept (x_lt hTH173 kH221 giq (by decide))).symm
    have d266 := DB.kept d217 (x_lt hTH173 kH221 gbq (by decide))
    refine lv_pop hx hb dL_law_313 rfl ?_
    refine lv_goto (tgt := 1509) hx hb dL_law_314 (by decide) ?_
    exact nx G H221 locsH221 _ _ ls ⟨hTH221, hN, ga, gb, g223, g224, g225, g226, ⟨(by rw [← m229, ← m251]; exact rt), (by rw [← m228, ← m230, ← m252]; exact r1), (by rw [← m228, ← m231, ← m253]; exact r4), (by rw [← m228, ← m232, ← m254]; exact r5), (by rw [← m228, ← m233, ← m255]; exact r10), (by rw [← m228, ← m234, ← m256]; exact r13), (by rw [← m228, ← m235, ← m257]; exact r16)⟩, Or.inr ⟨kq, m237, gkq, (by rw [← m259]; exact h70), (by rw [← m238, ← m260, ← m239]; exact q1), (by rw [← m240, ← m260, ← m241]; exact q4), (by rw [← m242, ← m260, ← m243]; exact q5), (by rw [← m244, ← m260, ← m245]; exact q10), (by rw [← m246, ← m260, ← m247]; exact q13), (by rw [← m248, ← m260, ← m249]; exact q16), (by rw [← m250]; exact d264), (by rw [← m250, ← m260, ← m238]; exact fun j h1 h2 => by rw [← v263 j h1, ← v265 j h1]; exact vk0 j h1 (by omega)), (by rw [← m260, ← m238]; exact fun j h1 h2 => by rw [← v265 j h1]; exact vk1 j h1 (by omega))⟩, (by unfold RB; rw [← m228, ← m236, ← m258, ← m252]; exact ⟨d266, fun j h1 h2 => by rw [← v261 j h1, ← v262 j h1]; exact rel j h1 (by omega), fun j h1 h2 => by rw [← v262 j h1]; exact tl j h1 (by omega)⟩), hSH221⟩ hl ⟨hc, hs, fun h => by have h1 := h.symm.trans m237; cases h1⟩
set_option maxRecDepth 100000 in
set_option maxHeartbeats 8000000 in
theorem lw_c3 {p : Program} {l : Launch} {e : Env} {s : State} {m : MethodId} {below : List Frame} {meth : Method} {c : Code} {K : KE} {b0 L : Nat} {xs : Nat → Int32} {G : Nat → Option Nat} {H : Heap} {locs : List Loc} {a b : Nat} {cells slots : Nat} {ls : Array Slot} {i : Int32} {n : Nat} (D : LC p K s m meth c b0 L xs) (S : SX K s G H locs a b) (hl : lv_has ls 4 [(3, .int i), (2, .ref b), (1, .ref a), (0, .ref b0)]) (hi : 0 ≤ i.toInt ∧ i.toInt + 6 ≤ L) (hn : n ≤ 511) (hB : BD K H a cells slots) (nx : ∀ (G : Nat → Option Nat) (H : Heap) (locs : List Loc) (cells slots : Nat) (ls : Array Slot), SX K s G H locs a b → lv_has ls 4 [(3, .int i), (2, .ref b), (1, .ref a), (0, .ref b0)] → BD K H a cells slots → W p l e room_1 s m #[Value.ref b0] below meth c H locs cells slots (lw_Z below #[Value.ref b0] s) (F0 m 1509 ls [])) : W p l e room_1 s m #[Value.ref b0] below meth c H locs cells slots (lw_Z below #[Value.ref b0] s) (F0 m 317 ls []) := by
  have hI := hi
  obtain ⟨C, hX, hbl, hL⟩ := id D
  obtain ⟨hx, hb, hml, hown, hts, hKT, hr, hlocks, hnm⟩ := id C
  obtain ⟨hT, hN, ga, gb, cg, tu, wd, im, ⟨rt, r1, r4, r5, r10, r13, r16⟩, hk, hrb, hS⟩ := S
  obtain ⟨hc, hs, hB0⟩ := hB
  have n_m1 : ((-1) : Int32).toInt = -1 := rfl
  have n_0 : (0 : Int32).toInt = 0 := rfl
  have n_1 : (1 : Int32).toInt = 1 := rfl
  have n_2 : (2 : Int32).toInt = 2 := rfl
  have n_3 : (3 : Int32).toInt = 3 := rfl
  obtain ⟨w, ew⟩ : ∃ z : Nat, z = fR H a (K.1.2 9 0) := ⟨_, rfl⟩
  have gw := ty_fr (q := w) (k := 0) (u := 0) ew hT ga rg_68 rfl
  rw [← ew] at r1 r4 r5 r10 r13 r16
  obtain ⟨ta, eta⟩ : ∃ z : Int32, z = fI H a (K.1.2 9 3) := ⟨_, rfl⟩
  rw [← eta] at rt
  obtain ⟨tb, etb⟩ : ∃ z : Int32, z = fI H b (K.1.2 10 18) := ⟨_, rfl⟩
  rw [← etb] at rt
  obtain ⟨s1, es1⟩ : ∃ z : Int32, z = fI H w (K.1.2 8 1) := ⟨_, rfl⟩
  rw [← es1] at r1
  obtain ⟨y1, ey1⟩ : ∃ z : Int32, z = fI H b (K.1.2 10 1) := ⟨_, rfl⟩
  rw [← ey1] at r1
  obtain ⟨s4, es4⟩ : ∃ z : Int32, z = fI H w (K.1.2 8 4) := ⟨_, rfl⟩
  rw [← es4] at r4
  obtain ⟨y4, ey4⟩ : ∃ z : Int32, z = fI H b (K.1.2 10 2) := ⟨_, rfl⟩
  rw [← ey4] at r4
  obtain ⟨s5, es5⟩ : ∃ z : Int32, z = fI H w (K.1.2 8 5) := ⟨_, rfl⟩
  rw [← es5] at r5
  obtain ⟨y5, ey5⟩ : ∃ z : Int32, z = fI H b (K.1.2 10 3) := ⟨_, rfl⟩
  rw [← ey5] at r5
  obtain ⟨s10, es10⟩ : ∃ z : Int32, z = fI H w (K.1.2 8 10) := ⟨_, rfl⟩
  rw [← es10] at r10
  obtain ⟨y10, ey10⟩ : ∃ z : Int32, z = fI H b (K.1.2 10 59) := ⟨_, rfl⟩
  rw [← ey10] at r10
  obtain ⟨s13, es13⟩ : ∃ z : Int32, z = fI H w (K.1.2 8 13) := ⟨_, rfl⟩
  rw [← es13] at r13
  obtain ⟨y13, ey13⟩ : ∃ z : Int32, z = fI H b (K.1.2 10 62) := ⟨_, rfl⟩
  rw [← ey13] at r13
  obtain ⟨s16, es16⟩ : ∃ z : Int32, z = fI H w (K.1.2 8 16) := ⟨_, rfl⟩
  rw [← es16] at r16
  obtain ⟨y16, ey16⟩ : ∃ z : Int32, z = fI H b (K.1.2 10 65) := ⟨_, rfl⟩
  rw [← ey16] at r16
  obtain ⟨bq, ebq⟩ : ∃ z : Nat, z = fR H w (K.1.2 8 0) := ⟨_, rfl⟩
  have gbq := ty_fr (q := bq) (k := 0) (u := 25) ebq hT gw rg_0 rfl
  obtain ⟨aq, eaq⟩ : ∃ z : Nat, z = fR H b (K.1.2 10 50) := ⟨_, rfl⟩
  have gaq := ty_fr (q := aq) (k := 50) (u := 146) eaq hT gb rg_112 rfl
  have bs1 := ty_fi (x := s1) (k := 1) es1 hT gw rg_0 rfl
  have by1 := ty_fi (x := y1) (k := 1) ey1 hT gb rg_112 rfl
  obtain ⟨db, vr, vt⟩ := hrb
  rw [← ew, ← ebq] at db
  rw [← ew, ← ebq, ← eaq, ← ey1] at vr
  rw [← eaq, ← ey1] at vt
  obtain ⟨cz101, ecz101⟩ : ∃ f : Nat → Int32, ∀ j : Nat, j < 10 → f j = fI H (fR H bq j) (K.1.2 0 14) := ⟨_, fun _ _ => rfl⟩
  obtain ⟨rz102, erz102⟩ : ∃ f : Nat → Int32, ∀ j : Nat, j < 10 → f j = fI H aq j := ⟨_, fun _ _ => rfl⟩
  have rel : ∀ j : Nat, j < 10 → (j : Int) < y1.toInt → cz101 j = rz102 j := fun j h1 h2 => by rw [ecz101 j h1, erz102 j h1]; exact vr j h1 h2
  clear vr
  have tl : ∀ j : Nat, j < 10 → y1.toInt ≤ (j : Int) → rz102 j = 0 := fun j h1 h2 => by rw [erz102 j h1]; exact vt j h1 h2
  clear vt
  rcases hk with ⟨kn, h70⟩ | ⟨kq, kn, gkq, h70, q1, q4, q5, q10, q13, q16, dbk, vk, vkt⟩
  · skip
    obtain ⟨hi, ehi⟩ : ∃ z : Int32, z = fI H b (K.1.2 10 70) := ⟨_, rfl⟩
    rw [← ehi] at h70
    obtain ⟨hc0, hs0⟩ := hB0 kn
    obtain ⟨iq, eiq⟩ : ∃ z : Nat, z = fR H b (K.1.2 10 73) := ⟨_, rfl⟩
    have giq := ty_fr (q := iq) (k := 73) (u := 162) eiq hT gb rg_112 rfl
    refine lv_aload_n hx hb dL_law_317 rfl (lv_at hl 2 rfl) ?_
    refine lv_aload_n hx hb dL_law_318 rfl (lv_at hl 3 rfl) ?_
    refine lv_iload_n hx hb dL_law_319 rfl (lv_at hl 0 rfl) ?_
    refine lv_iconst (v := 1) hx hb dL_law_320 (by decide) ?_
    refine lv_iadd hx hb dL_law_321 ?_
    refine lv_topi (fun x103 ex103 => ?_)
    obtain ⟨tx103, ejx103, evx103⟩ := lw_ix (k := 1) ex103 hI hL rfl (by decide)
    clear tx103
    refine va_sld hx hb hX hbl (Nat.not_le.mpr hbl) hS (vp_in_iff.mpr evx103) dL_law_322 ?_
    refine W.eq (g2 := F0 m 323 ls [.int (xs (i.toNatClampNeg + 1)), .ref a]) (congrArg (fun z => F0 m 323 ls [.int (xs z), .ref a]) ejx103) ?_
    refine lv_aload_n hx hb dL_law_323 rfl (lv_at hl 3 rfl) ?_
    refine lv_iload_n hx hb dL_law_324 rfl (lv_at hl 0 rfl) ?_
    refine lv_iconst (v := 2) hx hb dL_law_325 (by decide) ?_
    refine lv_iadd hx hb dL_law_326 ?_
    refine lv_topi (fun x104 ex104 => ?_)
    obtain ⟨tx104, ejx104, evx104⟩ := lw_ix (k := 2) ex104 hI hL rfl (by decide)
    clear tx104
    refine va_sld hx hb hX hbl (Nat.not_le.mpr hbl) hS (vp_in_iff.mpr evx104) dL_law_327 ?_
    refine W.eq (g2 := F0 m 328 ls [.int (xs (i.toNatClampNeg + 2)), .int (xs (i.toNatClampNeg + 1)), .ref a]) (congrArg (fun z => F0 m 328 ls [.int (xs z), .int (xs (i.toNatClampNeg + 1)), .ref a]) ejx104) ?_
    refine lv_aload_n hx hb dL_law_328 rfl (lv_at hl 3 rfl) ?_
    refine lv_iload_n hx hb dL_law_329 rfl (lv_at hl 0 rfl) ?_
    refine lv_iconst (v := 3) hx hb dL_law_330 (by decide) ?_
    refine lv_iadd hx hb dL_law_331 ?_
    refine lv_topi (fun x105 ex105 => ?_)
    obtain ⟨tx105, ejx105, evx105⟩ := lw_ix (k := 3) ex105 hI hL rfl (by decide)
    clear tx105
    refine va_sld hx hb hX hbl (Nat.not_le.mpr hbl) hS (vp_in_iff.mpr evx105) dL_law_332 ?_
    refine W.eq (g2 := F0 m 333 ls [.int (xs (i.toNatClampNeg + 3)), .int (xs (i.toNatClampNeg + 2)), .int (xs (i.toNatClampNeg + 1)), .ref a]) (congrArg (fun z => F0 m 333 ls [.int (xs z), .int (xs (i.toNatClampNeg + 2)), .int (xs (i.toNatClampNeg + 1)), .ref a]) ejx105) ?_
    refine x_V (As := [.int (xs (i.toNatClampNeg + 1)), .int (xs (i.toNatClampNeg + 2)), .int (xs (i.toNatClampNeg + 3))]) (rest := []) C (a_X9_of l K G H ((xs (i.toNatClampNeg + 1))) ((xs (i.toNatClampNeg + 2))) ((xs (i.toNatClampNeg + 3))) hT ga) yo_X9_of wM_L_28 ⟨⟨by decide, by decide⟩, show _ ≤ 1200000 from Nat.le_trans hc (by decide), show _ ≤ 5502250 from Nat.le_trans hs (by decide)⟩ (x_rv C hT (ci := 9) rfl ga rg_68) rfl hl.1 rfl (Nat.le_of_ble_eq_true rfl) dL_law_333 hS (AE_new hN hS.1) (fun vH106 H106 locsH106 pH106 zH106 kH106 hSH106 => ?_)
    obtain ⟨x107, hvH106, hTH106⟩ := pH106
    subst hvH106
    have g108 : CG (avw K H106 b) := CG.congr (fun k hk j => av_eff hT kH106 gb (by decide) (CG_eff [] (by decide) k hk)) cg
    have g109 : TU (avw K H106 b) (svw K H106 b) := TU.congr (fun k hk j => av_eff hT kH106 gb (by decide) (TU_eff [] (by decide) k hk)) (fun k hk => sv_eff hT kH106 gb (by decide)) tu
    have g110 : WD (avw K H106 b) := WD.congr (fun k hk j => av_eff hT kH106 gb (by decide) (WD_eff [] (by decide) k hk)) wd
    have g111 : IM (avw K H106 b) := IM.congr (fun k hk j => av_eff hT kH106 gb (by decide) (IM_eff [] (by decide) k hk)) im
    have m112 := (ew).trans (fR_kept (x_lt hT kH106 ga (by decide))).symm
    have m113 := (eta).trans (fI_kept (x_lt hT kH106 ga (by decide))).symm
    have m114 := (etb).trans (fI_kept (x_lt hT kH106 gb (by decide))).symm
    have m115 := (es1).trans (fI_kept (x_lt hT kH106 gw (by decide))).symm
    have m116 := (ey1).trans (fI_kept (x_lt hT kH106 gb (by decide))).symm
    have m117 := (es4).trans (fI_kept (x_lt hT kH106 gw (by decide))).symm
    have m118 := (ey4).trans (fI_kept (x_lt hT kH106 gb (by decide))).symm
    have m119 := (es5).trans (fI_kept (x_lt hT kH106 gw (by decide))).symm
    have m120 := (ey5).trans (fI_kept (x_lt hT kH106 gb (by decide))).symm
    have m121 := (es10).trans (fI_kept (x_lt hT kH106 gw (by decide))).symm
    have m122 := (ey10).trans (fI_kept (x_lt hT kH106 gb (by decide))).symm
    have m123 := (es13).trans (fI_kept (x_lt hT kH106 gw (by decide))).symm
    have m124 := (ey13).trans (fI_kept (x_lt hT kH106 gb (by decide))).symm
    have m125 := (es16).trans (fI_kept (x_lt hT kH106 gw (by decide))).symm
    have m126 := (ey16).trans (fI_kept (x_lt hT kH106 gb (by decide))).symm
    have m127 := (ebq).trans (fR_kept (x_lt hT kH106 gw (by decide))).symm
    have m128 := (eaq).trans (fR_kept (x_lt hT kH106 gb (by decide))).symm
    have m129 := (ehi).trans (fI_kept (x_lt hT kH106 gb (by decide))).symm
    have m130 := (fV_kept (x_lt hT kH106 ga (by decide))).trans kn
    have m131 := (eiq).trans (fR_kept (x_lt hT kH106 gb (by decide))).symm
    refine W.eq (g2 := F0 m 336 ls [.int x107]) rfl ?_
    have v132 : ∀ j : Nat, j < 10 → cz101 j = fI H106 (fR H106 bq j) (K.1.2 0 14) := fun j h => (ecz101 j h).trans (by rw [fR_kept (x_lt hT kH106 gbq (by decide))]; exact (fI_kept (x_lt hT kH106 (bar_g hT gbq j h) (by decide))).symm)
    have v133 : ∀ j : Nat, j < 10 → rz102 j = fI H106 aq j := fun j h => (erz102 j h).trans (fI_kept (x_lt hT kH106 gaq (by decide))).symm
    have d134 := DB.kept db (x_lt hT kH106 gbq (by decide))
    refine lv_pop hx hb dL_law_336 rfl ?_
    refine lv_aload_n hx hb dL_law_337 rfl (lv_at hl 1 rfl) ?_
    refine lv_aload_n hx hb dL_law_338 rfl (lv_at hl 3 rfl) ?_
    refine lv_iload_n hx hb dL_law_339 rfl (lv_at hl 0 rfl) ?_
    refine lv_iconst (v := 1) hx hb dL_law_340 (by decide) ?_
    refine lv_iadd hx hb dL_law_341 ?_
    refine lv_topi (fun x135 ex135 => ?_)
    obtain ⟨tx135, ejx135, evx135⟩ := lw_ix (k := 1) ex135 hI hL rfl (by decide)
    clear tx135
    refine va_sld hx hb hX hbl (Nat.not_le.mpr hbl) hSH106 (vp_in_iff.mpr evx135) dL_law_342 ?_
    refine W.eq (g2 := F0 m 343 ls [.int (xs (i.toNatClampNeg + 1)), .ref b]) (congrArg (fun z => F0 m 343 ls [.int (xs z), .ref b]) ejx135) ?_
    refine lv_aload_n hx hb dL_law_343 rfl (lv_at hl 3 rfl) ?_
    refine lv_iload_n hx hb dL_law_344 rfl (lv_at hl 0 rfl) ?_
    refine lv_iconst (v := 2) hx hb dL_law_345 (by decide) ?_
    refine lv_iadd hx hb dL_law_346 ?_
    refine lv_topi (fun x136 ex136 => ?_)
    obtain ⟨tx136, ejx136, evx136⟩ := lw_ix (k := 2) ex136 hI hL rfl (by decide)
    clear tx136
    refine va_sld hx hb hX hbl (Nat.not_le.mpr hbl) hSH106 (vp_in_iff.mpr evx136) dL_law_347 ?_
    refine W.eq (g2 := F0 m 348 ls [.int (xs (i.toNatClampNeg + 2)), .int (xs (i.toNatClampNeg + 1)), .ref b]) (congrArg (fun z => F0 m 348 ls [.int (xs z), .int (xs (i.toNatClampNeg + 1)), .ref b]) ejx136) ?_
    refine lv_aload_n hx hb dL_law_348 rfl (lv_at hl 3 rfl) ?_
    refine lv_iload_n hx hb dL_law_349 rfl (lv_at hl 0 rfl) ?_
    refine lv_iconst (v := 3) hx hb dL_law_350 (by decide) ?_
    refine lv_iadd hx hb dL_law_351 ?_
    refine lv_topi (fun x137 ex137 => ?_)
    obtain ⟨tx137, ejx137, evx137⟩ := lw_ix (k := 3) ex137 hI hL rfl (by decide)
    clear tx137
    refine va_sld hx hb hX hbl (Nat.not_le.mpr hbl) hSH106 (vp_in_iff.mpr evx137) dL_law_352 ?_
    refine W.eq (g2 := F0 m 353 ls [.int (xs (i.toNatClampNeg + 3)), .int (xs (i.toNatClampNeg + 2)), .int (xs (i.toNatClampNeg + 1)), .ref b]) (congrArg (fun z => F0 m 353 ls [.int (xs z), .int (xs (i.toNatClampNeg + 2)), .int (xs (i.toNatClampNeg + 1)), .ref b]) ejx137) ?_
    refine x_V (As := [.int (xs (i.toNatClampNeg + 1)), .int (xs (i.toNatClampNeg + 2)), .int (xs (i.toNatClampNeg + 3))]) (rest := []) C (a_X10_of l K G H106 ((xs (i.toNatClampNeg + 1))) ((xs (i.toNatClampNeg + 2))) ((xs (i.toNatClampNeg + 3))) hTH106 gb g108 g109 g110 g111) yo_X10_of wM_L_32 ⟨⟨by decide, by decide⟩, show _ ≤ 1200000 from Nat.le_trans hc (by decide), show _ ≤ 5502250 from Nat.le_trans hs (by decide)⟩ (x_rv C hTH106 (ci := 10) rfl gb rg_112) rfl hl.1 rfl (Nat.le_of_ble_eq_true rfl) dL_law_353 hSH106 (AE_new hN hSH106.1) (fun vH138 H138 locsH138 pH138 zH138 kH138 hSH138 => ?_)
    obtain ⟨x139, hvH138, g140, g141, g142, g143, mf144, hTH138⟩ := pH138
    subst hvH138
    have m145 := (m112).trans (fR_kept (x_lt hTH106 kH138 ga (by decide))).symm
    have m146 := (m113).trans (fI_kept (x_lt hTH106 kH138 ga (by decide))).symm
    have m147 := (m115).trans (fI_kept (x_lt hTH106 kH138 gw (by decide))).symm
    have m148 := (m117).trans (fI_kept (x_lt hTH106 kH138 gw (by decide))).symm
    have m149 := (m119).trans (fI_kept (x_lt hTH106 kH138 gw (by decide))).symm
    have m150 := (m121).trans (fI_kept (x_lt hTH106 kH138 gw (by decide))).symm
    have m151 := (m123).trans (fI_kept (x_lt hTH106 kH138 gw (by decide))).symm
    have m152 := (m125).trans (fI_kept (x_lt hTH106 kH138 gw (by decide))).symm
    have m153 := (m127).trans (fR_kept (x_lt hTH106 kH138 gw (by decide))).symm
    have m154 := (fV_kept (x_lt hTH106 kH138 ga (by decide))).trans m130
    have m155 := (m114).trans (MF.i mf144 (k := 18) (by decide) (by decide)).symm
    have m156 := (m116).trans (MF.i mf144 (k := 1) (by decide) (by decide)).symm
    have m157 := (m118).trans (MF.i mf144 (k := 2) (by decide) (by decide)).symm
    have m158 := (m120).trans (MF.i mf144 (k := 3) (by decide) (by decide)).symm
    have m159 := (m122).trans (MF.i mf144 (k := 59) (by decide) (by decide)).symm
    have m160 := (m124).trans (MF.i mf144 (k := 62) (by decide) (by decide)).symm
    have m161 := (m126).trans (MF.i mf144 (k := 65) (by decide) (by decide)).symm
    have m162 := (m128).trans (MF.r mf144 (k := 50) (by decide) (by decide)).symm
    have m163 := (m129).trans (MF.i mf144 (k := 70) (by decide) (by decide)).symm
    have m164 := (m131).trans (MF.r mf144 (k := 73) (by decide) (by decide)).symm
    refine W.eq (g2 := F0 m 356 ls [.int x139]) rfl ?_
    have v165 : ∀ j : Nat, j < 10 → cz101 j = fI H138 (fR H138 bq j) (K.1.2 0 14) := fun j h => (v132 j h).trans (by rw [fR_kept (x_lt hTH106 kH138 gbq (by decide))]; exact (fI_kept (x_lt hTH106 kH138 (bar_g hTH106 gbq j h) (by decide))).symm)
    have v166 : ∀ j : Nat, j < 10 → rz102 j = fI H138 aq j := fun j h => (v133 j h).trans (fI_kept (x_lt hTH106 kH138 gaq (by decide))).symm
    have d167 := DB.kept d134 (x_lt hTH106 kH138 gbq (by decide))
    refine lv_pop hx hb dL_law_356 rfl ?_
    refine lv_goto (tgt := 1509) hx hb dL_law_357 (by decide) ?_
    exact nx G H138 locsH138 _ _ ls ⟨hTH138, hN, ga, gb, g140, g141, g142, g143, ⟨(by rw [← m146, ← m155]; exact rt), (by rw [← m145, ← m147, ← m156]; exact r1), (by rw [← m145, ← m148, ← m157]; exact r4), (by rw [← m145, ← m149, ← m158]; exact r5), (by rw [← m145, ← m150, ← m159]; exact r10), (by rw [← m145, ← m151, ← m160]; exact r13), (by rw [← m145, ← m152, ← m161]; exact r16)⟩, Or.inl ⟨m154, (by rw [← m163]; exact h70)⟩, (by unfold RB; rw [← m145, ← m153, ← m162, ← m156]; exact ⟨d167, fun j h1 h2 => by rw [← v165 j h1, ← v166 j h1]; exact rel j h1 (by omega), fun j h1 h2 => by rw [← v166 j h1]; exact tl j h1 (by omega)⟩), hSH138⟩ hl ⟨hc, hs, fun _ => ⟨hc0, hs0⟩⟩
  · skip
    obtain ⟨hi, ehi⟩ : ∃ z : Int32, z = fI H b (K.1.2 10 70) := ⟨_, rfl⟩
    rw [← ehi] at h70
    obtain ⟨iq, eiq⟩ : ∃ z : Nat, z = fR H b (K.1.2 10 73) := ⟨_, rfl⟩
    have giq := ty_fr (q := iq) (k := 73) (u := 162) eiq hT gb rg_112 rfl
    rw [← eiq] at q1 q4 q5 q10 q13 q16
    obtain ⟨k1, ek1⟩ : ∃ z : Int32, z = fI H kq (K.1.2 8 1) := ⟨_, rfl⟩
    rw [← ek1] at q1
    obtain ⟨i1, ei1⟩ : ∃ z : Int32, z = fI H iq ((0 : Int32).toNatClampNeg) := ⟨_, rfl⟩
    rw [← ei1] at q1
    obtain ⟨k4, ek4⟩ : ∃ z : Int32, z = fI H kq (K.1.2 8 4) := ⟨_, rfl⟩
    rw [← ek4] at q4
    obtain ⟨i4, ei4⟩ : ∃ z : Int32, z = fI H iq ((1 : Int32).toNatClampNeg) := ⟨_, rfl⟩
    rw [← ei4] at q4
    obtain ⟨k5, ek5⟩ : ∃ z : Int32, z = fI H kq (K.1.2 8 5) := ⟨_, rfl⟩
    rw [← ek5] at q5
    obtain ⟨i5, ei5⟩ : ∃ z : Int32, z = fI H iq ((2 : Int32).toNatClampNeg) := ⟨_, rfl⟩
    rw [← ei5] at q5
    obtain ⟨k10, ek10⟩ : ∃ z : Int32, z = fI H kq (K.1.2 8 10) := ⟨_, rfl⟩
    rw [← ek10] at q10
    obtain ⟨i10, ei10⟩ : ∃ z : Int32, z = fI H iq ((3 : Int32).toNatClampNeg) := ⟨_, rfl⟩
    rw [← ei10] at q10
    obtain ⟨k13, ek13⟩ : ∃ z : Int32, z = fI H kq (K.1.2 8 13) := ⟨_, rfl⟩
    rw [← ek13] at q13
    obtain ⟨i13, ei13⟩ : ∃ z : Int32, z = fI H iq ((4 : Int32).toNatClampNeg) := ⟨_, rfl⟩
    rw [← ei13] at q13
    obtain ⟨k16, ek16⟩ : ∃ z : Int32, z = fI H kq (K.1.2 8 16) := ⟨_, rfl⟩
    rw [← ek16] at q16
    obtain ⟨i16, ei16⟩ : ∃ z : Int32, z = fI H iq ((5 : Int32).toNatClampNeg) := ⟨_, rfl⟩
    rw [← ei16] at q16
    obtain ⟨kb, ekb⟩ : ∃ z : Nat, z = fR H kq (K.1.2 8 0) := ⟨_, rfl⟩
    have gkb := ty_fr (q := kb) (k := 0) (u := 59) ekb hT gkq rg_34 rfl
    have bk1 := ty_fi (x := k1) (k := 1) ek1 hT gkq rg_34 rfl
    rw [← ekb] at dbk
    rw [← ekb, ← eiq, ← ek1] at vk
    rw [← eiq, ← ek1] at vkt
    obtain ⟨kz168, ekz168⟩ : ∃ f : Nat → Int32, ∀ j : Nat, j < 10 → f j = fI H (fR H kb j) (K.1.2 0 14) := ⟨_, fun _ _ => rfl⟩
    obtain ⟨iz169, eiz169⟩ : ∃ f : Nat → Int32, ∀ j : Nat, j < 10 → f j = fI H iq (11 + 6 * j) := ⟨_, fun _ _ => rfl⟩
    have vk0 : ∀ j : Nat, j < 10 → (j : Int) < k1.toInt → kz168 j = iz169 j := fun j h1 h2 => by rw [ekz168 j h1, eiz169 j h1]; exact vk j h1 h2
    clear vk
    have vk1 : ∀ j : Nat, j < 10 → k1.toInt ≤ (j : Int) → iz169 j = 0 := fun j h1 h2 => by rw [eiz169 j h1]; exact vkt j h1 h2
    clear vkt
    refine lv_aload_n hx hb dL_law_317 rfl (lv_at hl 2 rfl) ?_
    refine lv_aload_n hx hb dL_law_318 rfl (lv_at hl 3 rfl) ?_
    refine lv_iload_n hx hb dL_law_319 rfl (lv_at hl 0 rfl) ?_
    refine lv_iconst (v := 1) hx hb dL_law_320 (by decide) ?_
    refine lv_iadd hx hb dL_law_321 ?_
    refine lv_topi (fun x170 ex170 => ?_)
    obtain ⟨tx170, ejx170, evx170⟩ := lw_ix (k := 1) ex170 hI hL rfl (by decide)
    clear tx170
    refine va_sld hx hb hX hbl (Nat.not_le.mpr hbl) hS (vp_in_iff.mpr evx170) dL_law_322 ?_
    refine W.eq (g2 := F0 m 323 ls [.int (xs (i.toNatClampNeg + 1)), .ref a]) (congrArg (fun z => F0 m 323 ls [.int (xs z), .ref a]) ejx170) ?_
    refine lv_aload_n hx hb dL_law_323 rfl (lv_at hl 3 rfl) ?_
    refine lv_iload_n hx hb dL_law_324 rfl (lv_at hl 0 rfl) ?_
    refine lv_iconst (v := 2) hx hb dL_law_325 (by decide) ?_
    refine lv_iadd hx hb dL_law_326 ?_
    refine lv_topi (fun x171 ex171 => ?_)
    obtain ⟨tx171, ejx171, evx171⟩ := lw_ix (k := 2) ex171 hI hL rfl (by decide)
    clear tx171
    refine va_sld hx hb hX hbl (Nat.not_le.mpr hbl) hS (vp_in_iff.mpr evx171) dL_law_327 ?_
    refine W.eq (g2 := F0 m 328 ls [.int (xs (i.toNatClampNeg + 2)), .int (xs (i.toNatClampNeg + 1)), .ref a]) (congrArg (fun z => F0 m 328 ls [.int (xs z), .int (xs (i.toNatClampNeg + 1)), .ref a]) ejx171) ?_
    refine lv_aload_n hx hb dL_law_328 rfl (lv_at hl 3 rfl) ?_
    refine lv_iload_n hx hb dL_law_329 rfl (lv_at hl 0 rfl) ?_
    refine lv_iconst (v := 3) hx hb dL_law_330 (by decide) ?_
    refine lv_iadd hx hb dL_law_331 ?_
    refine lv_topi (fun x172 ex172 => ?_)
    obtain ⟨tx172, ejx172, evx172⟩ := lw_ix (k := 3) ex172 hI hL rfl (by decide)
    clear tx172
    refine va_sld hx hb hX hbl (Nat.not_le.mpr hbl) hS (vp_in_iff.mpr evx172) dL_law_332 ?_
    refine W.eq (g2 := F0 m 333 ls [.int (xs (i.toNatClampNeg + 3)), .int (xs (i.toNatClampNeg + 2)), .int (xs (i.toNatClampNeg + 1)), .ref a]) (congrArg (fun z => F0 m 333 ls [.int (xs z), .int (xs (i.toNatClampNeg + 2)), .int (xs (i.toNatClampNeg + 1)), .ref a]) ejx172) ?_
    refine x_V (As := [.int (xs (i.toNatClampNeg + 1)), .int (xs (i.toNatClampNeg + 2)), .int (xs (i.toNatClampNeg + 3))]) (rest := []) C (a_X9_of l K G H ((xs (i.toNatClampNeg + 1))) ((xs (i.toNatClampNeg + 2))) ((xs (i.toNatClampNeg + 3))) hT ga) yo_X9_of wM_L_28 ⟨⟨by decide, by decide⟩, show _ ≤ 1200000 from Nat.le_trans hc (by decide), show _ ≤ 5502250 from Nat.le_trans hs (by decide)⟩ (x_rv C hT (ci := 9) rfl ga rg_68) rfl hl.1 rfl (Nat.le_of_ble_eq_true rfl) dL_law_333 hS (AE_new hN hS.1) (fun vH173 H173 locsH173 pH173 zH173 kH173 hSH173 => ?_)
    obtain ⟨x174, hvH173, hTH173⟩ := pH173
    subst hvH173
    have g175 : CG (avw K H173 b) := CG.congr (fun k hk j => av_eff hT kH173 gb (by decide) (CG_eff [] (by decide) k hk)) cg
    have g176 : TU (avw K H173 b) (svw K H173 b) := TU.congr (fun k hk j => av_eff hT kH173 gb (by decide) (TU_eff [] (by decide) k hk)) (fun k hk => sv_eff hT kH173 gb (by decide)) tu
    have g177 : WD (avw K H173 b) := WD.congr (fun k hk j => av_eff hT kH173 gb (by decide) (WD_eff [] (by decide) k hk)) wd
    have g178 : IM (avw K H173 b) := IM.congr (fun k hk j => av_eff hT kH173 gb (by decide) (IM_eff [] (by decide) k hk)) im
    have m179 := (ew).trans (fR_kept (x_lt hT kH173 ga (by decide))).symm
    have m180 := (eta).trans (fI_kept (x_lt hT kH173 ga (by decide))).symm
    have m181 := (etb).trans (fI_kept (x_lt hT kH173 gb (by decide))).symm
    have m182 := (es1).trans (fI_kept (x_lt hT kH173 gw (by decide))).symm
    have m183 := (ey1).trans (fI_kept (x_lt hT kH173 gb (by decide))).symm
    have m184 := (es4).trans (fI_kept (x_lt hT kH173 gw (by decide))).symm
    have m185 := (ey4).trans (fI_kept (x_lt hT kH173 gb (by decide))).symm
    have m186 := (es5).trans (fI_kept (x_lt hT kH173 gw (by decide))).symm
    have m187 := (ey5).trans (fI_kept (x_lt hT kH173 gb (by decide))).symm
    have m188 := (es10).trans (fI_kept (x_lt hT kH173 gw (by decide))).symm
    have m189 := (ey10).trans (fI_kept (x_lt hT kH173 gb (by decide))).symm
    have m190 := (es13).trans (fI_kept (x_lt hT kH173 gw (by decide))).symm
    have m191 := (ey13).trans (fI_kept (x_lt hT kH173 gb (by decide))).symm
    have m192 := (es16).trans (fI_kept (x_lt hT kH173 gw (by decide))).symm
    have m193 := (ey16).trans (fI_kept (x_lt hT kH173 gb (by decide))).symm
    have m194 := (ebq).trans (fR_kept (x_lt hT kH173 gw (by decide))).symm
    have m195 := (eaq).trans (fR_kept (x_lt hT kH173 gb (by decide))).symm
    have m196 := (ehi).trans (fI_kept (x_lt hT kH173 gb (by decide))).symm
    have m197 := (fV_kept (x_lt hT kH173 ga (by decide))).trans kn
    have m198 := (eiq).trans (fR_kept (x_lt hT kH173 gb (by decide))).symm
    have m199 := (ek1).trans (fI_kept (x_lt hT kH173 gkq (by decide))).symm
    have m200 := (ei1).trans (fI_kept (x_lt hT kH173 giq (by decide))).symm
    have m201 := (ek4).trans (fI_kept (x_lt hT kH173 gkq (by decide))).symm
    have m202 := (ei4).trans (fI_kept (x_lt hT kH173 giq (by decide))).symm
    have m203 := (ek5).trans (fI_kept (x_lt hT kH173 gkq (by decide))).symm
    have m204 := (ei5).trans (fI_kept (x_lt hT kH173 giq (by decide))).symm
    have m205 := (ek10).trans (fI_kept (x_lt hT kH173 gkq (by decide))).symm
    have m206 := (ei10).trans (fI_kept (x_lt hT kH173 giq (by decide))).symm
    have m207 := (ek13).trans (fI_kept (x_lt hT kH173 gkq (by decide))).symm
    have m208 := (ei13).trans (fI_kept (x_lt hT kH173 giq (by decide))).symm
    have m209 := (ek16).trans (fI_kept (x_lt hT kH173 gkq (by decide))).symm
    have m210 := (ei16).trans (fI_kept (x_lt hT kH173 giq (by decide))).symm
    have m211 := (ekb).trans (fR_kept (x_lt hT kH173 gkq (by decide))).symm
    refine W.eq (g2 := F0 m 336 ls [.int x174]) rfl ?_
    have v212 : ∀ j : Nat, j < 10 → cz101 j = fI H173 (fR H173 bq j) (K.1.2 0 14) := fun j h => (ecz101 j h).trans (by rw [fR_kept (x_lt hT kH173 gbq (by decide))]; exact (fI_kept (x_lt hT kH173 (bar_g hT gbq j h) (by decide))).symm)
    have v213 : ∀ j : Nat, j < 10 → rz102 j = fI H173 aq j := fun j h => (erz102 j h).trans (fI_kept (x_lt hT kH173 gaq (by decide))).symm
    have v214 : ∀ j : Nat, j < 10 → kz168 j = fI H173 (fR H173 kb j) (K.1.2 0 14) := fun j h => (ekz168 j h).trans (by rw [fR_kept (x_lt hT kH173 gkb (by decide))]; exact (fI_kept (x_lt hT kH173 (bar_h hT gkb j h) (by decide))).symm)
    have d215 := DB.kept dbk (x_lt hT kH173 gkb (by decide))
    have v216 : ∀ j : Nat, j < 10 → iz169 j = fI H173 iq (11 + 6 * j) := fun j h => (eiz169 j h).trans (fI_kept (x_lt hT kH173 giq (by decide))).symm
    have d217 := DB.kept db (x_lt hT kH173 gbq (by decide))
    refine lv_pop hx hb dL_law_336 rfl ?_
    refine lv_aload_n hx hb dL_law_337 rfl (lv_at hl 1 rfl) ?_
    refine lv_aload_n hx hb dL_law_338 rfl (lv_at hl 3 rfl) ?_
    refine lv_iload_n hx hb dL_law_339 rfl (lv_at hl 0 rfl) ?_
    refine lv_iconst (v := 1) hx hb dL_law_340 (by decide) ?_
    refine lv_iadd hx hb dL_law_341 ?_
    refine lv_topi (fun x218 ex218 => ?_)
    obtain ⟨tx218, ejx218, evx218⟩ := lw_ix (k := 1) ex218 hI hL rfl (by decide)
    clear tx218
    refine va_sld hx hb hX hbl (Nat.not_le.mpr hbl) hSH173 (vp_in_iff.mpr evx218) dL_law_342 ?_
    refine W.eq (g2 := F0 m 343 ls [.int (xs (i.toNatClampNeg + 1)), .ref b]) (congrArg (fun z => F0 m 343 ls [.int (xs z), .ref b]) ejx218) ?_
    refine lv_aload_n hx hb dL_law_343 rfl (lv_at hl 3 rfl) ?_
    refine lv_iload_n hx hb dL_law_344 rfl (lv_at hl 0 rfl) ?_
    refine lv_iconst (v := 2) hx hb dL_law_345 (by decide) ?_
    refine lv_iadd hx hb dL_law_346 ?_
    refine lv_topi (fun x219 ex219 => ?_)
    obtain ⟨tx219, ejx219, evx219⟩ := lw_ix (k := 2) ex219 hI hL rfl (by decide)
    clear tx219
    refine va_sld hx hb hX hbl (Nat.not_le.mpr hbl) hSH173 (vp_in_iff.mpr evx219) dL_law_347 ?_
    refine W.eq (g2 := F0 m 348 ls [.int (xs (i.toNatClampNeg + 2)), .int (xs (i.toNatClampNeg + 1)), .ref b]) (congrArg (fun z => F0 m 348 ls [.int (xs z), .int (xs (i.toNatClampNeg + 1)), .ref b]) ejx219) ?_
    refine lv_aload_n hx hb dL_law_348 rfl (lv_at hl 3 rfl) ?_
    refine lv_iload_n hx hb dL_law_349 rfl (lv_at hl 0 rfl) ?_
    refine lv_iconst (v := 3) hx hb dL_law_350 (by decide) ?_
    refine lv_iadd hx hb dL_law_351 ?_
    refine lv_topi (fun x220 ex220 => ?_)
    obtain ⟨tx220, ejx220, evx220⟩ := lw_ix (k := 3) ex220 hI hL rfl (by decide)
    clear tx220
    refine va_sld hx hb hX hbl (Nat.not_le.mpr hbl) hSH173 (vp_in_iff.mpr evx220) dL_law_352 ?_
    refine W.eq (g2 := F0 m 353 ls [.int (xs (i.toNatClampNeg + 3)), .int (xs (i.toNatClampNeg + 2)), .int (xs (i.toNatClampNeg + 1)), .ref b]) (congrArg (fun z => F0 m 353 ls [.int (xs z), .int (xs (i.toNatClampNeg + 2)), .int (xs (i.toNatClampNeg + 1)), .ref b]) ejx220) ?_
    refine x_V (As := [.int (xs (i.toNatClampNeg + 1)), .int (xs (i.toNatClampNeg + 2)), .int (xs (i.toNatClampNeg + 3))]) (rest := []) C (a_X10_of l K G H173 ((xs (i.toNatClampNeg + 1))) ((xs (i.toNatClampNeg + 2))) ((xs (i.toNatClampNeg + 3))) hTH173 gb g175 g176 g177 g178) yo_X10_of wM_L_32 ⟨⟨by decide, by decide⟩, show _ ≤ 1200000 from Nat.le_trans hc (by decide), show _ ≤ 5502250 from Nat.le_trans hs (by decide)⟩ (x_rv C hTH173 (ci := 10) rfl gb rg_112) rfl hl.1 rfl (Nat.le_of_ble_eq_true rfl) dL_law_353 hSH173 (AE_new hN hSH173.1) (fun vH221 H221 locsH221 pH221 zH221 kH221 hSH221 => ?_)
    obtain ⟨x222, hvH221, g223, g224, g225, g226, mf227, hTH221⟩ := pH221
    subst hvH221
    have m228 := (m179).trans (fR_kept (x_lt hTH173 kH221 ga (by decide))).symm
    have m229 := (m180).trans (fI_kept (x_lt hTH173 kH221 ga (by decide))).symm
    have m230 := (m182).trans (fI_kept (x_lt hTH173 kH221 gw (by decide))).symm
    have m231 := (m184).trans (fI_kept (x_lt hTH173 kH221 gw (by decide))).symm
    have m232 := (m186).trans (fI_kept (x_lt hTH173 kH221 gw (by decide))).symm
    have m233 := (m188).trans (fI_kept (x_lt hTH173 kH221 gw (by decide))).symm
    have m234 := (m190).trans (fI_kept (x_lt hTH173 kH221 gw (by decide))).symm
    have m235 := (m192).trans (fI_kept (x_lt hTH173 kH221 gw (by decide))).symm
    have m236 := (m194).trans (fR_kept (x_lt hTH173 kH221 gw (by decide))).symm
    have m237 := (fV_kept (x_lt hTH173 kH221 ga (by decide))).trans m197
    have m238 := (m199).trans (fI_kept (x_lt hTH173 kH221 gkq (by decide))).symm
    have m239 := (m200).trans (fI_kept (x_lt hTH173 kH221 giq (by decide))).symm
    have m240 := (m201).trans (fI_kept (x_lt hTH173 kH221 gkq (by decide))).symm
    have m241 := (m202).trans (fI_kept (x_lt hTH173 kH221 giq (by decide))).symm
    have m242 := (m203).trans (fI_kept (x_lt hTH173 kH221 gkq (by decide))).symm
    have m243 := (m204).trans (fI_kept (x_lt hTH173 kH221 giq (by decide))).symm
    have m244 := (m205).trans (fI_kept (x_lt hTH173 kH221 gkq (by decide))).symm
    have m245 := (m206).trans (fI_kept (x_lt hTH173 kH221 giq (by decide))).symm
    have m246 := (m207).trans (fI_kept (x_lt hTH173 kH221 gkq (by decide))).symm
    have m247 := (m208).trans (fI_kept (x_lt hTH173 kH221 giq (by decide))).symm
    have m248 := (m209).trans (fI_kept (x_lt hTH173 kH221 gkq (by decide))).symm
    have m249 := (m210).trans (fI_kept (x_lt hTH173 kH221 giq (by decide))).symm
    have m250 := (m211).trans (fR_kept (x_lt hTH173 kH221 gkq (by decide))).symm
    have m251 := (m181).trans (MF.i mf227 (k := 18) (by decide) (by decide)).symm
    have m252 := (m183).trans (MF.i mf227 (k := 1) (by decide) (by decide)).symm
    have m253 := (m185).trans (MF.i mf227 (k := 2) (by decide) (by decide)).symm
    have m254 := (m187).trans (MF.i mf227 (k := 3) (by decide) (by decide)).symm
    have m255 := (m189).trans (MF.i mf227 (k := 59) (by decide) (by decide)).symm
    have m256 := (m191).trans (MF.i mf227 (k := 62) (by decide) (by decide)).symm
    have m257 := (m193).trans (MF.i mf227 (k := 65) (by decide) (by decide)).symm
    have m258 := (m195).trans (MF.r mf227 (k := 50) (by decide) (by decide)).symm
    have m259 := (m196).trans (MF.i mf227 (k := 70) (by decide) (by decide)).symm
    have m260 := (m198).trans (MF.r mf227 (k := 73) (by decide) (by decide)).symm
    refine W.eq (g2 := F0 m 356 ls [.int x222]) rfl ?_
    have v261 : ∀ j : Nat, j < 10 → cz101 j = fI H221 (fR H221 bq j) (K.1.2 0 14) := fun j h => (v212 j h).trans (by rw [fR_kept (x_lt hTH173 kH221 gbq (by decide))]; exact (fI_kept (x_lt hTH173 kH221 (bar_g hTH173 gbq j h) (by decide))).symm)
    have v262 : ∀ j : Nat, j < 10 → rz102 j = fI H221 aq j := fun j h => (v213 j h).trans (fI_kept (x_lt hTH173 kH221 gaq (by decide))).symm
    have v263 : ∀ j : Nat, j < 10 → kz168 j = fI H221 (fR H221 kb j) (K.1.2 0 14) := fun j h => (v214 j h).trans (by rw [fR_kept (x_lt hTH173 kH221 gkb (by decide))]; exact (fI_kept (x_lt hTH173 kH221 (bar_h hTH173 gkb j h) (by decide))).symm)
    have d264 := DB.kept d215 (x_lt hTH173 kH221 gkb (by decide))
    have v265 : ∀ j : Nat, j < 10 → iz169 j = fI H221 iq (11 + 6 * j) := fun j h => (v216 j h).trans (fI_kept (x_lt hTH173 kH221 giq (by decide))).symm
    have d266 := DB.kept d217 (x_lt hTH173 kH221 gbq (by decide))
    refine lv_pop hx hb dL_law_356 rfl ?_
    refine lv_goto (tgt := 1509) hx hb dL_law_357 (by decide) ?_
    exact nx G H221 locsH221 _ _ ls ⟨hTH221, hN, ga, gb, g223, g224, g225, g226, ⟨(by rw [← m229, ← m251]; exact rt), (by rw [← m228, ← m230, ← m252]; exact r1), (by rw [← m228, ← m231, ← m253]; exact r4), (by rw [← m228, ← m232, ← m254]; exact r5), (by rw [← m228, ← m233, ← m255]; exact r10), (by rw [← m228, ← m234, ← m256]; exact r13), (by rw [← m228, ← m235, ← m257]; exact r16)⟩, Or.inr ⟨kq, m237, gkq, (by rw [← m259]; exact h70), (by rw [← m238, ← m260, ← m239]; exact q1), (by rw [← m240, ← m260, ← m241]; exact q4), (by rw [← m242, ← m260, ← m243]; exact q5), (by rw [← m244, ← m260, ← m245]; exact q10), (by rw [← m246, ← m260, ← m247]; exact q13), (by rw [← m248, ← m260, ← m249]; exact q16), (by rw [← m250]; exact d264), (by rw [← m250, ← m260, ← m238]; exact fun j h1 h2 => by rw [← v263 j h1, ← v265 j h1]; exact vk0 j h1 (by omega)), (by rw [← m260, ← m238]; exact fun j h1 h2 => by rw [← v265 j h1]; exact vk1 j h1 (by omega))⟩, (by unfold RB; rw [← m228, ← m236, ← m258, ← m252]; exact ⟨d266, fun j h1 h2 => by rw [← v261 j h1, ← v262 j h1]; exact rel j h1 (by omega), fun j h1 h2 => by rw [← v262 j h1]; exact tl j h1 (by omega)⟩), hSH221⟩ hl ⟨hc, hs, fun h => by have h1 := h.symm.trans m237; cases h1⟩