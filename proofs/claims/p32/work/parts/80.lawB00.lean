set_option maxRecDepth 100000 in
set_option maxHeartbeats 8000000 in
theorem lw_c0 {p : Program} {l : Launch} {e : Env} {s : State} {m : MethodId} {below : List Frame} {meth : Method} {c : Code} {K : KE} {b0 L : Nat} {xs : Nat → Int32} {G : Nat → Option Nat} {H : Heap} {locs : List Loc} {a b : Nat} {cells slots : Nat} {ls : Array Slot} {i : Int32} {n : Nat} (D : LC p K s m meth c b0 L xs) (S : SX K s G H locs a b) (hl : lv_has ls 4 [(3, .int i), (2, .ref b), (1, .ref a), (0, .ref b0)]) (hi : 0 ≤ i.toInt ∧ i.toInt + 6 ≤ L) (hn : n ≤ 511) (hB : BD K H a cells slots) (nx : ∀ (G : Nat → Option Nat) (H : Heap) (locs : List Loc) (cells slots : Nat) (ls : Array Slot), SX K s G H locs a b → lv_has ls 4 [(3, .int i), (2, .ref b), (1, .ref a), (0, .ref b0)] → BD K H a cells slots → W p l e room_1 s m #[Value.ref b0] below meth c H locs cells slots (lw_Z below #[Value.ref b0] s) (F0 m 1509 ls [])) : W p l e room_1 s m #[Value.ref b0] below meth c H locs cells slots (lw_Z below #[Value.ref b0] s) (F0 m 188 ls []) := by
  have hI := hi
  obtain ⟨C, hX, hbl, hL⟩ := id D
  obtain ⟨hx, hb, hml, hown, hts, hKT, hr, hlocks, hnm⟩ := id C
  obtain ⟨hT, hN, ga, gb, cg, tu, wd, im, ⟨rt, r1, r4, r5, r10, r13, r16⟩, hk, hnb, hS⟩ := S
  obtain ⟨hc, hs, hB0⟩ := hB
  have n_1 : (1 : Int32).toInt = 1 := rfl
  obtain ⟨w, ew⟩ : ∃ z : Nat, z = fR H a (K.1.2 9 0) := ⟨_, rfl⟩
  have gw := ty_fr (q := w) (k := 0) (u := 0) ew hT ga rg_68 rfl
  rw [← ew] at r1 r4 r5 r10 r13 r16
  obtain ⟨ta, eta⟩ : ∃ z : Int32, z = fI H a (K.1.2 9 3) := ⟨_, rfl⟩
  rw [← eta] at rt
  obtain ⟨tb, etb⟩ : ∃ z : Int32, z = fI H b (K.1.2 10 18) := ⟨_, rfl⟩
  rw [← etb] at rt
  obtain ⟨s1, es1⟩ : ∃ z : Int32, z = fI H w (K.1.2 8 1) := ⟨_, rfl⟩
  rw [← es1] at r1
  obtain ⟨y1, ey1⟩ : ∃ z : Int32, z = fI H b (K.1.2 10 1) := ⟨_, rfl⟩
  rw [← ey1] at r1
  obtain ⟨s4, es4⟩ : ∃ z : Int32, z = fI H w (K.1.2 8 4) := ⟨_, rfl⟩
  rw [← es4] at r4
  obtain ⟨y4, ey4⟩ : ∃ z : Int32, z = fI H b (K.1.2 10 2) := ⟨_, rfl⟩
  rw [← ey4] at r4
  obtain ⟨s5, es5⟩ : ∃ z : Int32, z = fI H w (K.1.2 8 5) := ⟨_, rfl⟩
  rw [← es5] at r5
  obtain ⟨y5, ey5⟩ : ∃ z : Int32, z = fI H b (K.1.2 10 3) := ⟨_, rfl⟩
  rw [← ey5] at r5
  obtain ⟨s10, es10⟩ : ∃ z : Int32, z = fI H w (K.1.2 8 10) := ⟨_, rfl⟩
  rw [← es10] at r10
  obtain ⟨y10, ey10⟩ : ∃ z : Int32, z = fI H b (K.1.2 10 59) := ⟨_, rfl⟩
  rw [← ey10] at r10
  obtain ⟨s13, es13⟩ : ∃ z : Int32, z = fI H w (K.1.2 8 13) := ⟨_, rfl⟩
  rw [← es13] at r13
  obtain ⟨y13, ey13⟩ : ∃ z : Int32, z = fI H b (K.1.2 10 62) := ⟨_, rfl⟩
  rw [← ey13] at r13
  obtain ⟨s16, es16⟩ : ∃ z : Int32, z = fI H w (K.1.2 8 16) := ⟨_, rfl⟩
  rw [← es16] at r16
  obtain ⟨y16, ey16⟩ : ∃ z : Int32, z = fI H b (K.1.2 10 65) := ⟨_, rfl⟩
  rw [← ey16] at r16
  obtain ⟨hb1, hb2, hb3⟩ := hnb
  obtain ⟨cn, ecn⟩ : ∃ z : Nat, z = fR H w (K.1.2 8 12) := ⟨_, rfl⟩
  have gcn := ty_fr (q := cn) (k := 12) (u := 31) ecn hT gw rg_0 rfl
  obtain ⟨xn, exn⟩ : ∃ z : Nat, z = fR H b (K.1.2 10 64) := ⟨_, rfl⟩
  have gxn := ty_fr (q := xn) (k := 64) (u := 157) exn hT gb rg_112 rfl
  obtain ⟨cl, ecl⟩ : ∃ z : Nat, z = fR H w (K.1.2 8 14) := ⟨_, rfl⟩
  have gcl := ty_fr (q := cl) (k := 14) (u := 32) ecl hT gw rg_0 rfl
  obtain ⟨xl, exl⟩ : ∃ z : Nat, z = fR H b (K.1.2 10 66) := ⟨_, rfl⟩
  have gxl := ty_fr (q := xl) (k := 66) (u := 158) exl hT gb rg_112 rfl
  obtain ⟨ck, eck⟩ : ∃ z : Nat, z = fR H w (K.1.2 8 15) := ⟨_, rfl⟩
  have gck := ty_fr (q := ck) (k := 15) (u := 33) eck hT gw rg_0 rfl
  obtain ⟨xk, exk⟩ : ∃ z : Nat, z = fR H b (K.1.2 10 67) := ⟨_, rfl⟩
  have gxk := ty_fr (q := xk) (k := 67) (u := 159) exk hT gb rg_112 rfl
  have hrn : EQR (fun j => fI H cn j) (fun j => fI H xn j) y13.toInt := by rw [ecn, exn, ew, ey13]; exact hb1
  have hrl : EQR (fun j => fI H cl j) (fun j => fI H xl j) y16.toInt := by rw [ecl, exl, ew, ey16]; exact hb2
  have hrk : EQR (fun j => fI H ck j) (fun j => fI H xk j) y16.toInt := by rw [eck, exk, ew, ey16]; exact hb3
  have by13 := ty_fi (x := y13) (k := 62) ey13 hT gb rg_112 rfl
  have by16 := ty_fi (x := y16) (k := 65) ey16 hT gb rg_112 rfl
  have f0cn : ∀ j : Nat, j < 8 → fI H cn j = fI H cn j := fun _ _ => rfl
  have f0xn : ∀ j : Nat, j < 8 → fI H xn j = fI H xn j := fun _ _ => rfl
  have f0cl : ∀ j : Nat, j < 8 → fI H cl j = fI H cl j := fun _ _ => rfl
  have f0xl : ∀ j : Nat, j < 8 → fI H xl j = fI H xl j := fun _ _ => rfl
  have f0ck : ∀ j : Nat, j < 8 → fI H ck j = fI H ck j := fun _ _ => rfl
  have f0xk : ∀ j : Nat, j < 8 → fI H xk j = fI H xk j := fun _ _ => rfl
  rcases hk with ⟨kn, h70⟩ | ⟨kq, kn, gkq, h70, q1, q4, q5, q10, q13, q16, hq1, hq2, hq3⟩
  · skip
    obtain ⟨hi, ehi⟩ : ∃ z : Int32, z = fI H b (K.1.2 10 70) := ⟨_, rfl⟩
    rw [← ehi] at h70
    obtain ⟨hc0, hs0⟩ := hB0 kn
    refine lv_aload_n hx hb dL_law_188 rfl (lv_at hl 2 rfl) ?_
    refine lv_aload_n hx hb dL_law_189 rfl (lv_at hl 3 rfl) ?_
    refine lv_iload_n hx hb dL_law_190 rfl (lv_at hl 0 rfl) ?_
    refine lv_iconst (v := 1) hx hb dL_law_191 (by decide) ?_
    refine lv_iadd hx hb dL_law_192 ?_
    refine lv_topi (fun x101 ex101 => ?_)
    obtain ⟨tx101, ejx101, evx101⟩ := lw_ix (k := 1) ex101 hI hL rfl (by decide)
    clear tx101
    refine va_sld hx hb hX hbl (Nat.not_le.mpr hbl) hS (vp_in_iff.mpr evx101) dL_law_193 ?_
    refine W.eq (g2 := F0 m 194 ls [.int (xs (i.toNatClampNeg + 1)), .ref a]) (congrArg (fun z => F0 m 194 ls [.int (xs z), .ref a]) ejx101) ?_
    refine x_V (As := [.int (xs (i.toNatClampNeg + 1))]) (rest := []) C (a_X9_bar_r l K G H ((xs (i.toNatClampNeg + 1))) (s1) (s4) (s5) (s10) (s13) (s16) hT ga gw ew gcn ecn gcl ecl gck eck es1 es4 es5 es10 es13 es16) yo_X9_bar wM_L_13 ⟨⟨by decide, by decide⟩, show _ ≤ 284929 from Nat.le_trans hc (by decide), show _ ≤ 8247460 from Nat.le_trans hs (by decide)⟩ (x_rv C hT (ci := 9) rfl ga rg_68) rfl hl.1 rfl (Nat.le_of_ble_eq_true rfl) dL_law_194 hS (AE_new hN hS.1) (fun vH102 H102 locsH102 pH102 zH102 kH102 hSH102 => ?_)
    obtain ⟨x103, x104, x105, x106, x107, x108, x109, hvH102, ex104, ex105, ex106, ex107, ex108, ex109, hrH102, m110, m111, m112, hTH102⟩ := pH102
    subst hvH102
    have g113 : CG (avw K H102 b) := CG.congr (fun k hk j => av_eff hT kH102 gb (by decide) (CG_eff [0, 1, 2, 3, 4, 5, 6, 15] (by decide) k hk)) cg
    have g114 : TU (avw K H102 b) (svw K H102 b) := TU.congr (fun k hk j => av_eff hT kH102 gb (by decide) (TU_eff [0, 1, 2, 3, 4, 5, 6, 15] (by decide) k hk)) (fun k hk => sv_eff hT kH102 gb (by decide)) tu
    have g115 : WD (avw K H102 b) := WD.congr (fun k hk j => av_eff hT kH102 gb (by decide) (WD_eff [0, 1, 2, 3, 4, 5, 6, 15] (by decide) k hk)) wd
    have g116 : IM (avw K H102 b) := IM.congr (fun k hk j => av_eff hT kH102 gb (by decide) (IM_eff [0, 1, 2, 3, 4, 5, 6, 15] (by decide) k hk)) im
    have f117 : ∀ j : Nat, j < 8 → fI H102 cn j = fI H cn j := fun j hj => (fI_kept (x_lt hT kH102 gcn (by decide))).trans (f0cn j hj)
    have f118 : ∀ j : Nat, j < 8 → fI H102 xn j = fI H xn j := fun j hj => (fI_kept (x_lt hT kH102 gxn (by decide))).trans (f0xn j hj)
    have f119 : ∀ j : Nat, j < 8 → fI H102 cl j = fI H cl j := fun j hj => (fI_kept (x_lt hT kH102 gcl (by decide))).trans (f0cl j hj)
    have f120 : ∀ j : Nat, j < 8 → fI H102 xl j = fI H xl j := fun j hj => (fI_kept (x_lt hT kH102 gxl (by decide))).trans (f0xl j hj)
    have f121 : ∀ j : Nat, j < 8 → fI H102 ck j = fI H ck j := fun j hj => (fI_kept (x_lt hT kH102 gck (by decide))).trans (f0ck j hj)
    have f122 : ∀ j : Nat, j < 8 → fI H102 xk j = fI H xk j := fun j hj => (fI_kept (x_lt hT kH102 gxk (by decide))).trans (f0xk j hj)
    have m123 := (ew).trans (fR_kept (x_lt hT kH102 ga (by decide))).symm
    have m124 := (eta).trans (fI_kept (x_lt hT kH102 ga (by decide))).symm
    have m125 := (etb).trans (fI_kept (x_lt hT kH102 gb (by decide))).symm
    have m126 := (ey1).trans (fI_kept (x_lt hT kH102 gb (by decide))).symm
    have m127 := (ey4).trans (fI_kept (x_lt hT kH102 gb (by decide))).symm
    have m128 := (ey5).trans (fI_kept (x_lt hT kH102 gb (by decide))).symm
    have m129 := (ey10).trans (fI_kept (x_lt hT kH102 gb (by decide))).symm
    have m130 := (ey13).trans (fI_kept (x_lt hT kH102 gb (by decide))).symm
    have m131 := (ey16).trans (fI_kept (x_lt hT kH102 gb (by decide))).symm
    have m132 := (exn).trans (fR_kept (x_lt hT kH102 gb (by decide))).symm
    have m133 := (exl).trans (fR_kept (x_lt hT kH102 gb (by decide))).symm
    have m134 := (exk).trans (fR_kept (x_lt hT kH102 gb (by decide))).symm
    have m135 := (ehi).trans (fI_kept (x_lt hT kH102 gb (by decide))).symm
    have m136 := (fV_kept (x_lt hT kH102 ga (by decide))).trans kn
    have bx104 := ty_fi (x := x104) (k := 1) ex104 hTH102 gw rg_0 rfl
    have bx105 := ty_fi (x := x105) (k := 4) ex105 hTH102 gw rg_0 rfl
    have bx106 := ty_fi (x := x106) (k := 5) ex106 hTH102 gw rg_0 rfl
    have bx107 := ty_fi (x := x107) (k := 10) ex107 hTH102 gw rg_0 rfl
    have bx108 := ty_fi (x := x108) (k := 13) ex108 hTH102 gw rg_0 rfl
    have bx109 := ty_fi (x := x109) (k := 16) ex109 hTH102 gw rg_0 rfl
    refine W.eq (g2 := F0 m 197 ls [.int x103]) rfl ?_
    clear eck ecl ecn ehi es1 es10 es13 es16 es4 es5 eta etb ew exk exl exn ey1 ey10 ey13 ey16 ey4 ey5 f0ck f0cl f0cn f0xk f0xl f0xn kn
    refine lv_pop hx hb dL_law_197 rfl ?_
    refine lv_aload_n hx hb dL_law_198 rfl (lv_at hl 1 rfl) ?_
    refine lv_aload_n hx hb dL_law_199 rfl (lv_at hl 3 rfl) ?_
    refine lv_iload_n hx hb dL_law_200 rfl (lv_at hl 0 rfl) ?_
    refine lv_iconst (v := 1) hx hb dL_law_201 (by decide) ?_
    refine lv_iadd hx hb dL_law_202 ?_
    refine lv_topi (fun x137 ex137 => ?_)
    obtain ⟨tx137, ejx137, evx137⟩ := lw_ix (k := 1) ex137 hI hL rfl (by decide)
    clear tx137
    refine va_sld hx hb hX hbl (Nat.not_le.mpr hbl) hSH102 (vp_in_iff.mpr evx137) dL_law_203 ?_
    refine W.eq (g2 := F0 m 204 ls [.int (xs (i.toNatClampNeg + 1)), .ref b]) (congrArg (fun z => F0 m 204 ls [.int (xs z), .ref b]) ejx137) ?_
    obtain ⟨q138, eq138⟩ : ∃ z : Nat, z = fR H102 b (K.1.2 10 4) := ⟨_, rfl⟩
    have gq138 := ty_fr (q := q138) (k := 4) (u := 113) eq138 hTH102 gb rg_112 rfl
    obtain ⟨q139, eq139⟩ : ∃ z : Nat, z = fR H102 b (K.1.2 10 16) := ⟨_, rfl⟩
    have gq139 := ty_fr (q := q139) (k := 16) (u := 125) eq139 hTH102 gb rg_112 rfl
    refine x_V (As := [.int (xs (i.toNatClampNeg + 1))]) (rest := []) C (a_X10_bar l K G H102 ((xs (i.toNatClampNeg + 1))) (y1) hTH102 gb gq138 eq138 gq139 eq139 m126 g113 g114 g115 g116) yo_X10_bar wM_L_17 ⟨⟨by decide, by decide⟩, show _ ≤ 284929 from Nat.le_trans hc (by decide), show _ ≤ 8247460 from Nat.le_trans hs (by decide)⟩ (x_rv C hTH102 (ci := 10) rfl gb rg_112) rfl hl.1 rfl (Nat.le_of_ble_eq_true rfl) dL_law_204 hSH102 (AE_new hN hSH102.1) (fun vH140 H140 locsH140 pH140 zH140 kH140 hSH140 => ?_)
    obtain ⟨x141, x142, hvH140, ex142, hrH140, m143, m144, g145, g146, g147, g148, mf149, hTH140⟩ := pH140
    subst hvH140
    have f150 : ∀ j : Nat, j < 8 → fI H140 cn j = fI H cn j := fun j hj => (fI_kept (x_lt hTH102 kH140 gcn (by decide))).trans (f117 j hj)
    have f151 : ∀ j : Nat, j < 8 → fI H140 xn j = fI H xn j := fun j hj => (fI_kept (x_lt hTH102 kH140 gxn (by decide))).trans (f118 j hj)
    have f152 : ∀ j : Nat, j < 8 → fI H140 cl j = fI H cl j := fun j hj => (fI_kept (x_lt hTH102 kH140 gcl (by decide))).trans (f119 j hj)
    have f153 : ∀ j : Nat, j < 8 → fI H140 xl j = fI H xl j := fun j hj => (fI_kept (x_lt hTH102 kH140 gxl (by decide))).trans (f120 j hj)
    have f154 : ∀ j : Nat, j < 8 → fI H140 ck j = fI H ck j := fun j hj => (fI_kept (x_lt hTH102 kH140 gck (by decide))).trans (f121 j hj)
    have f155 : ∀ j : Nat, j < 8 → fI H140 xk j = fI H xk j := fun j hj => (fI_kept (x_lt hTH102 kH140 gxk (by decide))).trans (f122 j hj)
    have m156 := (m123).trans (fR_kept (x_lt hTH102 kH140 ga (by decide))).symm
    have m157 := (m124).trans (fI_kept (x_lt hTH102 kH140 ga (by decide))).symm
    have m158 := (fV_kept (x_lt hTH102 kH140 ga (by decide))).trans m136
    have m159 := (m110).trans (fR_kept (x_lt hTH102 kH140 gw (by decide))).symm
    have m160 := (m111).trans (fR_kept (x_lt hTH102 kH140 gw (by decide))).symm
    have m161 := (m112).trans (fR_kept (x_lt hTH102 kH140 gw (by decide))).symm
    have m162 := (ex104).trans (fI_kept (x_lt hTH102 kH140 gw (by decide))).symm
    have m163 := (ex105).trans (fI_kept (x_lt hTH102 kH140 gw (by decide))).symm
    have m164 := (ex106).trans (fI_kept (x_lt hTH102 kH140 gw (by decide))).symm
    have m165 := (ex107).trans (fI_kept (x_lt hTH102 kH140 gw (by decide))).symm
    have m166 := (ex108).trans (fI_kept (x_lt hTH102 kH140 gw (by decide))).symm
    have m167 := (ex109).trans (fI_kept (x_lt hTH102 kH140 gw (by decide))).symm
    have m168 := (m125).trans (MF.i mf149 (k := 18) (by decide) (by decide)).symm
    have m169 := (m127).trans (MF.i mf149 (k := 2) (by decide) (by decide)).symm
    have m170 := (m128).trans (MF.i mf149 (k := 3) (by decide) (by decide)).symm
    have m171 := (m129).trans (MF.i mf149 (k := 59) (by decide) (by decide)).symm
    have m172 := (m130).trans (MF.i mf149 (k := 62) (by decide) (by decide)).symm
    have m173 := (m131).trans (MF.i mf149 (k := 65) (by decide) (by decide)).symm
    have m174 := (m132).trans (MF.r mf149 (k := 64) (by decide) (by decide)).symm
    have m175 := (m133).trans (MF.r mf149 (k := 66) (by decide) (by decide)).symm
    have m176 := (m134).trans (MF.r mf149 (k := 67) (by decide) (by decide)).symm
    have m177 := (m135).trans (MF.i mf149 (k := 70) (by decide) (by decide)).symm
    have m178 := (eq138).trans (MF.r mf149 (k := 4) (by decide) (by decide)).symm
    have m179 := (eq139).trans (MF.r mf149 (k := 16) (by decide) (by decide)).symm
    have bx142 := ty_fi (x := x142) (k := 1) ex142 hTH140 gb rg_112 rfl
    refine W.eq (g2 := F0 m 207 ls [.int x141]) rfl ?_
    clear ex104 ex105 ex106 ex107 ex108 ex109 f117 f118 f119 f120 f121 f122 m110 m111 m112 m123 m124 m125 m126 m127 m128 m129 m130 m131 m132 m133 m134 m135 m136
    refine lv_pop hx hb dL_law_207 rfl ?_
    refine lv_goto (tgt := 1509) hx hb dL_law_208 (by decide) ?_
    exact nx G H140 locsH140 _ _ ls ⟨hTH140, hN, ga, gb, g145, g146, g147, g148, ⟨(by rw [← m157, ← m168]; exact rt), (by rw [← m156, ← m162, ← ex142]; omega), (by rw [← m156, ← m163, ← m169]; omega), (by rw [← m156, ← m164, ← m170]; omega), (by rw [← m156, ← m165, ← m171]; omega), (by rw [← m156, ← m166, ← m172]; omega), (by rw [← m156, ← m167, ← m173]; omega)⟩, Or.inl ⟨m158, (by rw [← m177]; exact h70)⟩, ⟨(by rw [← m156, ← m159, ← m174, ← m172]; exact EQR.of hrn (fun j hj => f150 j (by omega)) (fun j hj => f151 j (by omega)) (by omega)), (by rw [← m156, ← m160, ← m175, ← m173]; exact EQR.of hrl (fun j hj => f152 j (by omega)) (fun j hj => f153 j (by omega)) (by omega)), (by rw [← m156, ← m161, ← m176, ← m173]; exact EQR.of hrk (fun j hj => f154 j (by omega)) (fun j hj => f155 j (by omega)) (by omega))⟩, hSH140⟩ hl ⟨hc, hs, fun _ => ⟨hc0, hs0⟩⟩
  · skip
    obtain ⟨hi, ehi⟩ : ∃ z : Int32, z = fI H b (K.1.2 10 70) := ⟨_, rfl⟩
    rw [← ehi] at h70
    obtain ⟨iq, eiq⟩ : ∃ z : Nat, z = fR H b (K.1.2 10 73) := ⟨_, rfl⟩
    have giq := ty_fr (q := iq) (k := 73) (u := 162) eiq hT gb rg_112 rfl
    rw [← eiq] at q1 q4 q5 q10 q13 q16
    obtain ⟨k1, ek1⟩ : ∃ z : Int32, z = fI H kq (K.1.2 8 1) := ⟨_, rfl⟩
    rw [← ek1] at q1
    obtain ⟨i1, ei1⟩ : ∃ z : Int32, z = fI H iq ((0 : Int32).toNatClampNeg) := ⟨_, rfl⟩
    rw [← ei1] at q1
    obtain ⟨k4, ek4⟩ : ∃ z : Int32, z = fI H kq (K.1.2 8 4) := ⟨_, rfl⟩
    rw [← ek4] at q4
    obtain ⟨i4, ei4⟩ : ∃ z : Int32, z = fI H iq ((1 : Int32).toNatClampNeg) := ⟨_, rfl⟩
    rw [← ei4] at q4
    obtain ⟨k5, ek5⟩ : ∃ z : Int32, z = fI H kq (K.1.2 8 5) := ⟨_, rfl⟩
    rw [← ek5] at q5
    obtain ⟨i5, ei5⟩ : ∃ z : Int32, z = fI H iq ((2 : Int32).toNatClampNeg) := ⟨_, rfl⟩
    rw [← ei5] at q5
    obtain ⟨k10, ek10⟩ : ∃ z : Int32, z = fI H kq (K.1.2 8 10) := ⟨_, rfl⟩
    rw [← ek10] at q10
    obtain ⟨i10, ei10⟩ : ∃ z : Int32, z = fI H iq ((3 : Int32).toNatClampNeg) := ⟨_, rfl⟩
    rw [← ei10] at q10
    obtain ⟨k13, ek13⟩ : ∃ z : Int32, z = fI H kq (K.1.2 8 13) := ⟨_, rfl⟩
    rw [← ek13] at q13
    obtain ⟨i13, ei13⟩ : ∃ z : Int32, z = fI H iq ((4 : Int32).toNatClampNeg) := ⟨_, rfl⟩
    rw [← ei13] at q13
    obtain ⟨k16, ek16⟩ : ∃ z : Int32, z = fI H kq (K.1.2 8 16) := ⟨_, rfl⟩
    rw [← ek16] at q16
    obtain ⟨i16, ei16⟩ : ∃ z : Int32, z = fI H iq ((5 : Int32).toNatClampNeg) := ⟨_, rfl⟩
    rw [← ei16] at q16
    obtain ⟨dn, edn⟩ : ∃ z : Nat, z = fR H kq (K.1.2 8 12) := ⟨_, rfl⟩
    have gdn := ty_fr (q := dn) (k := 12) (u := 65) edn hT gkq rg_34 rfl
    obtain ⟨dl, edl⟩ : ∃ z : Nat, z = fR H kq (K.1.2 8 14) := ⟨_, rfl⟩
    have gdl := ty_fr (q := dl) (k := 14) (u := 66) edl hT gkq rg_34 rfl
    obtain ⟨dk, edk⟩ : ∃ z : Nat, z = fR H kq (K.1.2 8 15) := ⟨_, rfl⟩
    have gdk := ty_fr (q := dk) (k := 15) (u := 67) edk hT gkq rg_34 rfl
    have hsn : EQR (fun j => fI H dn j) (fun j => fI H iq (8877 + 4 * j)) k13.toInt := by rw [edn, eiq, ek13]; exact hq1
    have hsl : EQR (fun j => fI H dl j) (fun j => fI H iq (8878 + 4 * j)) k16.toInt := by rw [edl, eiq, ek16]; exact hq2
    have hsk : EQR (fun j => fI H dk j) (fun j => fI H iq (8879 + 4 * j)) k16.toInt := by rw [edk, eiq, ek16]; exact hq3
    have bk13 := ty_fi (x := k13) (k := 13) ek13 hT gkq rg_34 rfl
    have bk16 := ty_fi (x := k16) (k := 16) ek16 hT gkq rg_34 rfl
    have f0dn : ∀ j : Nat, j < 8 → fI H dn j = fI H dn j := fun _ _ => rfl
    have f0dl : ∀ j : Nat, j < 8 → fI H dl j = fI H dl j := fun _ _ => rfl
    have f0dk : ∀ j : Nat, j < 8 → fI H dk j = fI H dk j := fun _ _ => rfl
    have f0i : ∀ j : Nat, fI H iq j = fI H iq j := fun _ => rfl
    refine lv_aload_n hx hb dL_law_188 rfl (lv_at hl 2 rfl) ?_
    refine lv_aload_n hx hb dL_law_189 rfl (lv_at hl 3 rfl) ?_
    refine lv_iload_n hx hb dL_law_190 rfl (lv_at hl 0 rfl) ?_
    refine lv_iconst (v := 1) hx hb dL_law_191 (by decide) ?_
    refine lv_iadd hx hb dL_law_192 ?_
    refine lv_topi (fun x180 ex180 => ?_)
    obtain ⟨tx180, ejx180, evx180⟩ := lw_ix (k := 1) ex180 hI hL rfl (by decide)
    clear tx180
    refine va_sld hx hb hX hbl (Nat.not_le.mpr hbl) hS (vp_in_iff.mpr evx180) dL_law_193 ?_
    refine W.eq (g2 := F0 m 194 ls [.int (xs (i.toNatClampNeg + 1)), .ref a]) (congrArg (fun z => F0 m 194 ls [.int (xs z), .ref a]) ejx180) ?_
    refine x_V (As := [.int (xs (i.toNatClampNeg + 1))]) (rest := []) C (a_X9_bar_r l K G H ((xs (i.toNatClampNeg + 1))) (s1) (s4) (s5) (s10) (s13) (s16) hT ga gw ew gcn ecn gcl ecl gck eck es1 es4 es5 es10 es13 es16) yo_X9_bar wM_L_13 ⟨⟨by decide, by decide⟩, show _ ≤ 284929 from Nat.le_trans hc (by decide), show _ ≤ 8247460 from Nat.le_trans hs (by decide)⟩ (x_rv C hT (ci := 9) rfl ga rg_68) rfl hl.1 rfl (Nat.le_of_ble_eq_true rfl) dL_law_194 hS (AE_new hN hS.1) (fun vH181 H181 locsH181 pH181 zH181 kH181 hSH181 => ?_)
    obtain ⟨x182, x183, x184, x185, x186, x187, x188, hvH181, ex183, ex184, ex185, ex186, ex187, ex188, hrH181, m189, m190, m191, hTH181⟩ := pH181
    subst hvH181
    have g192 : CG (avw K H181 b) := CG.congr (fun k hk j => av_eff hT kH181 gb (by decide) (CG_eff [0, 1, 2, 3, 4, 5, 6, 15] (by decide) k hk)) cg
    have g193 : TU (avw K H181 b) (svw K H181 b) := TU.congr (fun k hk j => av_eff hT kH181 gb (by decide) (TU_eff [0, 1, 2, 3, 4, 5, 6, 15] (by decide) k hk)) (fun k hk => sv_eff hT kH181 gb (by decide)) tu
    have g194 : WD (avw K H181 b) := WD.congr (fun k hk j => av_eff hT kH181 gb (by decide) (WD_eff [0, 1, 2, 3, 4, 5, 6, 15] (by decide) k hk)) wd
    have g195 : IM (avw K H181 b) := IM.congr (fun k hk j => av_eff hT kH181 gb (by decide) (IM_eff [0, 1, 2, 3, 4, 5, 6, 15] (by decide) k hk)) im
    have f196 : ∀ j : Nat, j < 8 → fI H181 cn j = fI H cn j := fun j hj => (fI_kept (x_lt hT kH181 gcn (by decide))).trans (f0cn j hj)
    have f197 : ∀ j : Nat, j < 8 → fI H181 xn j = fI H xn j := fun j hj => (fI_kept (x_lt hT kH181 gxn (by decide))).trans (f0xn j hj)
    have f198 : ∀ j : Nat, j < 8 → fI H181 cl j = fI H cl j := fun j hj => (fI_kept (x_lt hT kH181 gcl (by decide))).trans (f0cl j hj)
    have f199 : ∀ j : Nat, j < 8 → fI H181 xl j = fI H xl j := fun j hj => (fI_kept (x_lt hT kH181 gxl (by decide))).trans (f0xl j hj)
    have f200 : ∀ j : Nat, j < 8 → fI H181 ck j = fI H ck j := fun j hj => (fI_kept (x_lt hT kH181 gck (by decide))).trans (f0ck j hj)
    have f201 : ∀ j : Nat, j < 8 → fI H181 xk j = fI H xk j := fun j hj => (fI_kept (x_lt hT kH181 gxk (by decide))).trans (f0xk j hj)
    have f202 : ∀ j : Nat, j < 8 → fI H181 dn j = fI H dn j := fun j hj => (fI_kept (x_lt hT kH181 gdn (by decide))).trans (f0dn j hj)
    have f203 : ∀ j : Nat, j < 8 → fI H181 dl j = fI H dl j := fun j hj => (fI_kept (x_lt hT kH181 gdl (by decide))).trans (f0dl j hj)
    have f204 : ∀ j : Nat, j < 8 → fI H181 dk j = fI H dk j := fun j hj => (fI_kept (x_lt hT kH181 gdk (by decide))).trans (f0dk j hj)
    have f205 : ∀ j : Nat, fI H181 iq j = fI H iq j := fun j => (fI_kept (x_lt hT kH181 giq (by decide))).trans (f0i j)
    have m206 := (ew).trans (fR_kept (x_lt hT kH181 ga (by decide))).symm
    have m207 := (eta).trans (fI_kept (x_lt hT kH181 ga (by decide))).symm
    have m208 := (etb).trans (fI_kept (x_lt hT kH181 gb (by decide))).symm
    have m209 := (ey1).trans (fI_kept (x_lt hT kH181 gb (by decide))).symm
    have m210 := (ey4).trans (fI_kept (x_lt hT kH181 gb (by decide))).symm
    have m211 := (ey5).trans (fI_kept (x_lt hT kH181 gb (by decide))).symm
    have m212 := (ey10).trans (fI_kept (x_lt hT kH181 gb (by decide))).symm
    have m213 := (ey13).trans (fI_kept (x_lt hT kH181 gb (by decide))).symm
    have m214 := (ey16).trans (fI_kept (x_lt hT kH181 gb (by decide))).symm
    have m215 := (exn).trans (fR_kept (x_lt hT kH181 gb (by decide))).symm
    have m216 := (exl).trans (fR_kept (x_lt hT kH181 gb (by decide))).symm
    have m217 := (exk).trans (fR_kept (x_lt hT kH181 gb (by decide))).symm
    have m218 := (ehi).trans (fI_kept (x_lt hT kH181 gb (by decide))).symm
    have m219 := (fV_kept (x_lt hT kH181 ga (by decide))).trans kn
    have m220 := (eiq).trans (fR_kept (x_lt hT kH181 gb (by decide))).symm
    have m221 := (ek1).trans (fI_kept (x_lt hT kH181 gkq (by decide))).symm
    have m222 := (ei1).trans (fI_kept (x_lt hT kH181 giq (by decide))).symm
    have m223 := (ek4).trans (fI_kept (x_lt hT kH181 gkq (by decide))).symm
    have m224 := (ei4).trans (fI_kept (x_lt hT kH181 giq (by decide))).symm
    have m225 := (ek5).trans (fI_kept (x_lt hT kH181 gkq (by decide))).symm
    have m226 := (ei5).trans (fI_kept (x_lt hT kH181 giq (by decide))).symm
    have m227 := (ek10).trans (fI_kept (x_lt hT kH181 gkq (by decide))).symm
    have m228 := (ei10).trans (fI_kept (x_lt hT kH181 giq (by decide))).symm
    have m229 := (ek13).trans (fI_kept (x_lt hT kH181 gkq (by decide))).symm
    have m230 := (ei13).trans (fI_kept (x_lt hT kH181 giq (by decide))).symm
    have m231 := (ek16).trans (fI_kept (x_lt hT kH181 gkq (by decide))).symm
    have m232 := (ei16).trans (fI_kept (x_lt hT kH181 giq (by decide))).symm
    have m233 := (edn).trans (fR_kept (x_lt hT kH181 gkq (by decide))).symm
    have m234 := (edl).trans (fR_kept (x_lt hT kH181 gkq (by decide))).symm
    have m235 := (edk).trans (fR_kept (x_lt hT kH181 gkq (by decide))).symm
    have bx183 := ty_fi (x := x183) (k := 1) ex183 hTH181 gw rg_0 rfl
    have bx184 := ty_fi (x := x184) (k := 4) ex184 hTH181 gw rg_0 rfl
    have bx185 := ty_fi (x := x185) (k := 5) ex185 hTH181 gw rg_0 rfl
    have bx186 := ty_fi (x := x186) (k := 10) ex186 hTH181 gw rg_0 rfl
    have bx187 := ty_fi (x := x187) (k := 13) ex187 hTH181 gw rg_0 rfl
    have bx188 := ty_fi (x := x188) (k := 16) ex188 hTH181 gw rg_0 rfl
    refine W.eq (g2 := F0 m 197 ls [.int x182]) rfl ?_
    clear eck ecl ecn edk edl edn ehi ei1 ei10 ei13 ei16 ei4 ei5 eiq ek1 ek10 ek13 ek16 ek4 ek5 es1 es10 es13 es16 es4 es5 eta etb ew exk exl exn ey1 ey10 ey13 ey16 ey4 ey5 f0ck f0cl f0cn f0dk f0dl f0dn f0i f0xk f0xl f0xn kn
    refine lv_pop hx hb dL_law_197 rfl ?_
    refine lv_aload_n hx hb dL_law_198 rfl (lv_at hl 1 rfl) ?_
    refine lv_aload_n hx hb dL_law_199 rfl (lv_at hl 3 rfl) ?_
    refine lv_iload_n hx hb dL_law_200 rfl (lv_at hl 0 rfl) ?_
    refine lv_iconst (v := 1) hx hb dL_law_201 (by decide) ?_
    refine lv_iadd hx hb dL_law_202 ?_
    refine lv_topi (fun x236 ex236 => ?_)
    obtain ⟨tx236, ejx236, evx236⟩ := lw_ix (k := 1) ex236 hI hL rfl (by decide)
    clear tx236
    refine va_sld hx hb hX hbl (Nat.not_le.mpr hbl) hSH181 (vp_in_iff.mpr evx236) dL_law_203 ?_
    refine W.eq (g2 := F0 m 204 ls [.int (xs (i.toNatClampNeg + 1)), .ref b]) (congrArg (fun z => F0 m 204 ls [.int (xs z), .ref b]) ejx236) ?_
    obtain ⟨q237, eq237⟩ : ∃ z : Nat, z = fR H181 b (K.1.2 10 4) := ⟨_, rfl⟩
    have gq237 := ty_fr (q := q237) (k := 4) (u := 113) eq237 hTH181 gb rg_112 rfl
    obtain ⟨q238, eq238⟩ : ∃ z : Nat, z = fR H181 b (K.1.2 10 16) := ⟨_, rfl⟩
    have gq238 := ty_fr (q := q238) (k := 16) (u := 125) eq238 hTH181 gb rg_112 rfl
    refine x_V (As := [.int (xs (i.toNatClampNeg + 1))]) (rest := []) C (a_X10_bar l K G H181 ((xs (i.toNatClampNeg + 1))) (y1) hTH181 gb gq237 eq237 gq238 eq238 m209 g192 g193 g194 g195) yo_X10_bar wM_L_17 ⟨⟨by decide, by decide⟩, show _ ≤ 284929 from Nat.le_trans hc (by decide), show _ ≤ 8247460 from Nat.le_trans hs (by decide)⟩ (x_rv C hTH181 (ci := 10) rfl gb rg_112) rfl hl.1 rfl (Nat.le_of_ble_eq_true rfl) dL_law_204 hSH181 (AE_new hN hSH181.1) (fun vH239 H239 locsH239 pH239 zH239 kH239 hSH239 => ?_)
    obtain ⟨x240, x241, hvH239, ex241, hrH239, m242, m243, g244, g245, g246, g247, mf248, hTH239⟩ := pH239
    subst hvH239
    have f249 : ∀ j : Nat, j < 8 → fI H239 cn j = fI H cn j := fun j hj => (fI_kept (x_lt hTH181 kH239 gcn (by decide))).trans (f196 j hj)
    have f250 : ∀ j : Nat, j < 8 → fI H239 xn j = fI H xn j := fun j hj => (fI_kept (x_lt hTH181 kH239 gxn (by decide))).trans (f197 j hj)
    have f251 : ∀ j : Nat, j < 8 → fI H239 cl j = fI H cl j := fun j hj => (fI_kept (x_lt hTH181 kH239 gcl (by decide))).trans (f198 j hj)
    have f252 : ∀ j : Nat, j < 8 → fI H239 xl j = fI H xl j := fun j hj => (fI_kept (x_lt hTH181 kH239 gxl (by decide))).trans (f199 j hj)
    have f253 : ∀ j : Nat, j < 8 → fI H239 ck j = fI H ck j := fun j hj => (fI_kept (x_lt hTH181 kH239 gck (by decide))).trans (f200 j hj)
    have f254 : ∀ j : Nat, j < 8 → fI H239 xk j = fI H xk j := fun j hj => (fI_kept (x_lt hTH181 kH239 gxk (by decide))).trans (f201 j hj)
    have f255 : ∀ j : Nat, j < 8 → fI H239 dn j = fI H dn j := fun j hj => (fI_kept (x_lt hTH181 kH239 gdn (by decide))).trans (f202 j hj)
    have f256 : ∀ j : Nat, j < 8 → fI H239 dl j = fI H dl j := fun j hj => (fI_kept (x_lt hTH181 kH239 gdl (by decide))).trans (f203 j hj)
    have f257 : ∀ j : Nat, j < 8 → fI H239 dk j = fI H dk j := fun j hj => (fI_kept (x_lt hTH181 kH239 gdk (by decide))).trans (f204 j hj)
    have f258 : ∀ j : Nat, fI H239 iq j = fI H iq j := fun j => (fI_kept (x_lt hTH181 kH239 giq (by decide))).trans (f205 j)
    have m259 := (m206).trans (fR_kept (x_lt hTH181 kH239 ga (by decide))).symm
    have m260 := (m207).trans (fI_kept (x_lt hTH181 kH239 ga (by decide))).symm
    have m261 := (fV_kept (x_lt hTH181 kH239 ga (by decide))).trans m219
    have m262 := (m221).trans (fI_kept (x_lt hTH181 kH239 gkq (by decide))).symm
    have m263 := (m222).trans (fI_kept (x_lt hTH181 kH239 giq (by decide))).symm
    have m264 := (m223).trans (fI_kept (x_lt hTH181 kH239 gkq (by decide))).symm
    have m265 := (m224).trans (fI_kept (x_lt hTH181 kH239 giq (by decide))).symm
    have m266 := (m225).trans (fI_kept (x_lt hTH181 kH239 gkq (by decide))).symm
    have m267 := (m226).trans (fI_kept (x_lt hTH181 kH239 giq (by decide))).symm
    have m268 := (m227).trans (fI_kept (x_lt hTH181 kH239 gkq (by decide))).symm
    have m269 := (m228).trans (fI_kept (x_lt hTH181 kH239 giq (by decide))).symm
    have m270 := (m229).trans (fI_kept (x_lt hTH181 kH239 gkq (by decide))).symm
    have m271 := (m230).trans (fI_kept (x_lt hTH181 kH239 giq (by decide))).symm
    have m272 := (m231).trans (fI_kept (x_lt hTH181 kH239 gkq (by decide))).symm
    have m273 := (m232).trans (fI_kept (x_lt hTH181 kH239 giq (by decide))).symm
    have m274 := (m233).trans (fR_kept (x_lt hTH181 kH239 gkq (by decide))).symm
    have m275 := (m234).trans (fR_kept (x_lt hTH181 kH239 gkq (by decide))).symm
    have m276 := (m235).trans (fR_kept (x_lt hTH181 kH239 gkq (by decide))).symm
    have m277 := (m189).trans (fR_kept (x_lt hTH181 kH239 gw (by decide))).symm
    have m278 := (m190).trans (fR_kept (x_lt hTH181 kH239 gw (by decide))).symm
    have m279 := (m191).trans (fR_kept (x_lt hTH181 kH239 gw (by decide))).symm
    have m280 := (ex183).trans (fI_kept (x_lt hTH181 kH239 gw (by decide))).symm
    have m281 := (ex184).trans (fI_kept (x_lt hTH181 kH239 gw (by decide))).symm
    have m282 := (ex185).trans (fI_kept (x_lt hTH181 kH239 gw (by decide))).symm
    have m283 := (ex186).trans (fI_kept (x_lt hTH181 kH239 gw (by decide))).symm
    have m284 := (ex187).trans (fI_kept (x_lt hTH181 kH239 gw (by decide))).symm
    have m285 := (ex188).trans (fI_kept (x_lt hTH181 kH239 gw (by decide))).symm
    have m286 := (m208).trans (MF.i mf248 (k := 18) (by decide) (by decide)).symm
    have m287 := (m210).trans (MF.i mf248 (k := 2) (by decide) (by decide)).symm
    have m288 := (m211).trans (MF.i mf248 (k := 3) (by decide) (by decide)).symm
    have m289 := (m212).trans (MF.i mf248 (k := 59) (by decide) (by decide)).symm
    have m290 := (m213).trans (MF.i mf248 (k := 62) (by decide) (by decide)).symm
    have m291 := (m214).trans (MF.i mf248 (k := 65) (by decide) (by decide)).symm
    have m292 := (m215).trans (MF.r mf248 (k := 64) (by decide) (by decide)).symm
    have m293 := (m216).trans (MF.r mf248 (k := 66) (by decide) (by decide)).symm
    have m294 := (m217).trans (MF.r mf248 (k := 67) (by decide) (by decide)).symm
    have m295 := (m218).trans (MF.i mf248 (k := 70) (by decide) (by decide)).symm
    have m296 := (m220).trans (MF.r mf248 (k := 73) (by decide) (by decide)).symm
    have m297 := (eq237).trans (MF.r mf248 (k := 4) (by decide) (by decide)).symm
    have m298 := (eq238).trans (MF.r mf248 (k := 16) (by decide) (by decide)).symm
    have bx241 := ty_fi (x := x241) (k := 1) ex241 hTH239 gb rg_112 rfl
    refine W.eq (g2 := F0 m 207 ls [.int x240]) rfl ?_
    clear ex183 ex184 ex185 ex186 ex187 ex188 f196 f197 f198 f199 f200 f201 f202 f203 f204 f205 m189 m190 m191 m206 m207 m208 m209 m210 m211 m212 m213 m214 m215 m216 m217 m218 m219 m220 m221 m222 m223 m224 m225 m226 m227 m228 m229 m230 m231 m232 m233 m234 m235
    refine lv_pop hx hb dL_law_207 rfl ?_
    refine lv_goto (tgt := 1509) hx hb dL_law_208 (by decide) ?_
    exact nx G H239 locsH239 _ _ ls ⟨hTH239, hN, ga, gb, g244, g245, g246, g247, ⟨(by rw [← m260, ← m286]; exact rt), (by rw [← m259, ← m280, ← ex241]; omega), (by rw [← m259, ← m281, ← m287]; omega), (by rw [← m259, ← m282, ← m288]; omega), (by rw [← m259, ← m283, ← m289]; omega), (by rw [← m259, ← m284, ← m290]; omega), (by rw [← m259, ← m285, ← m291]; omega)⟩, Or.inr ⟨kq, m261, gkq, (by rw [← m295]; exact h70), (by rw [← m262, ← m296, ← m263]; exact q1), (by rw [← m264, ← m296, ← m265]; exact q4), (by rw [← m266, ← m296, ← m267]; exact q5), (by rw [← m268, ← m296, ← m269]; exact q10), (by rw [← m270, ← m296, ← m271]; exact q13), (by rw [← m272, ← m296, ← m273]; exact q16), (by rw [← m274, ← m296, ← m270]; exact EQR.of hsn (fun j hj => f255 j (by omega)) (fun j hj => f258 _) (by omega)), (by rw [← m275, ← m296, ← m272]; exact EQR.of hsl (fun j hj => f256 j (by omega)) (fun j hj => f258 _) (by omega)), (by rw [← m276, ← m296, ← m272]; exact EQR.of hsk (fun j hj => f257 j (by omega)) (fun j hj => f258 _) (by omega))⟩, ⟨(by rw [← m259, ← m277, ← m292, ← m290]; exact EQR.of hrn (fun j hj => f249 j (by omega)) (fun j hj => f250 j (by omega)) (by omega)), (by rw [← m259, ← m278, ← m293, ← m291]; exact EQR.of hrl (fun j hj => f251 j (by omega)) (fun j hj => f252 j (by omega)) (by omega)), (by rw [← m259, ← m279, ← m294, ← m291]; exact EQR.of hrk (fun j hj => f253 j (by omega)) (fun j hj => f254 j (by omega)) (by omega))⟩, hSH239⟩ hl ⟨hc, hs, fun h => by have h1 := h.symm.trans m261; cases h1⟩
set_option maxRecDepth 100000 in
set_option maxHeartbeats 8000000 in
theorem lw_c1 {p : Program} {l : Launch} {e : Env} {s : State} {m : MethodId} {below : List Frame} {meth : Method} {c : Code} {K : KE} {b0 L : Nat} {xs : Nat → Int32} {G : Nat → Option Nat} {H : Heap} {locs : List Loc} {a b : Nat} {cells slots : Nat} {ls : Array Slot} {i : Int32} {n : Nat} (D : LC p K s m meth c b0 L xs) (S : SX K s G H locs a b) (hl : lv_has ls 4 [(3, .int i), (2, .ref b), (1, .ref a), (0, .ref b0)]) (hi : 0 ≤ i.toInt ∧ i.toInt + 6 ≤ L) (hn : n ≤ 511) (hB : BD K H a cells slots) (nx : ∀ (G : Nat → Option Nat) (H : Heap) (locs : List Loc) (cells slots : Nat) (ls : Array Slot), SX K s G H locs a b → lv_has ls 4 [(3, .int i), (2, .ref b), (1, .ref a), (0, .ref b0)] → BD K H a cells slots → W p l e room_1 s m #[Value.ref b0] below meth c H locs cells slots (lw_Z below #[Value.ref b0] s) (F0 m 1509 ls [])) : W p l e room_1 s m #[Value.ref b0] below meth c H locs cells slots (lw_Z below #[Value.ref b0] s) (F0 m 211 ls []) := by
  have hI := hi
  obtain ⟨C, hX, hbl, hL⟩ := id D
  obtain ⟨hx, hb, hml, hown, hts, hKT, hr, hlocks, hnm⟩ := id C
  obtain ⟨hT, hN, ga, gb, cg, tu, wd, im, ⟨rt, r1, r4, r5, r10, r13, r16⟩, hk, hnb, hS⟩ := S
  obtain ⟨hc, hs, hB0⟩ := hB
  have n_1 : (1 : Int32).toInt = 1 := rfl
  have n_2 : (2 : Int32).toInt = 2 := rfl
  have n_3 : (3 : Int32).toInt = 3 := rfl
  have n_4 : (4 : Int32).toInt = 4 := rfl
  have n_5 : (5 : Int32).toInt = 5 := rfl
  obtain ⟨w, ew⟩ : ∃ z : Nat, z = fR H a (K.1.2 9 0) := ⟨_, rfl⟩
  have gw := ty_fr (q := w) (k := 0) (u := 0) ew hT ga rg_68 rfl
  rw [← ew] at r1 r4 r5 r10 r13 r16
  obtain ⟨ta, eta⟩ : ∃ z : Int32, z = fI H a (K.1.2 9 3) := ⟨_, rfl⟩
  rw [← eta] at rt
  obtain ⟨tb, etb⟩ : ∃ z : Int32, z = fI H b (K.1.2 10 18) := ⟨_, rfl⟩
  rw [← etb] at rt
  obtain ⟨s1, es1⟩ : ∃ z : Int32, z = fI H w (K.1.2 8 1) := ⟨_, rfl⟩
  rw [← es1] at r1
  obtain ⟨y1, ey1⟩ : ∃ z : Int32, z = fI H b (K.1.2 10 1) := ⟨_, rfl⟩
  rw [← ey1] at r1
  obtain ⟨s4, es4⟩ : ∃ z : Int32, z = fI H w (K.1.2 8 4) := ⟨_, rfl⟩
  rw [← es4] at r4
  obtain ⟨y4, ey4⟩ : ∃ z : Int32, z = fI H b (K.1.2 10 2) := ⟨_, rfl⟩
  rw [← ey4] at r4
  obtain ⟨s5, es5⟩ : ∃ z : Int32, z = fI H w (K.1.2 8 5) := ⟨_, rfl⟩
  rw [← es5] at r5
  obtain ⟨y5, ey5⟩ : ∃ z : Int32, z = fI H b (K.1.2 10 3) := ⟨_, rfl⟩
  rw [← ey5] at r5
  obtain ⟨s10, es10⟩ : ∃ z : Int32, z = fI H w (K.1.2 8 10) := ⟨_, rfl⟩
  rw [← es10] at r10
  obtain ⟨y10, ey10⟩ : ∃ z : Int32, z = fI H b (K.1.2 10 59) := ⟨_, rfl⟩
  rw [← ey10] at r10
  obtain ⟨s13, es13⟩ : ∃ z : Int32, z = fI H w (K.1.2 8 13) := ⟨_, rfl⟩
  rw [← es13] at r13
  obtain ⟨y13, ey13⟩ : ∃ z : Int32, z = fI H b (K.1.2 10 62) := ⟨_, rfl⟩
  rw [← ey13] at r13
  obtain ⟨s16, es16⟩ : ∃ z : Int32, z = fI H w (K.1.2 8 16) := ⟨_, rfl⟩
  rw [← es16] at r16
  obtain ⟨y16, ey16⟩ : ∃ z : Int32, z = fI H b (K.1.2 10 65) := ⟨_, rfl⟩
  rw [← ey16] at r16
  obtain ⟨hb1, hb2, hb3⟩ := hnb
  obtain ⟨cn, ecn⟩ : ∃ z : Nat, z = fR H w (K.1.2 8 12) := ⟨_, rfl⟩
  have gcn := ty_fr (q := cn) (k := 12) (u := 31) ecn hT gw rg_0 rfl
  obtain ⟨xn, exn⟩ : ∃ z : Nat, z = fR H b (K.1.2 10 64) := ⟨_, rfl⟩
  have gxn := ty_fr (q := xn) (k := 64) (u := 157) exn hT gb rg_112 rfl
  obtain ⟨cl, ecl⟩ : ∃ z : Nat, z = fR H w (K.1.2 8 14) := ⟨_, rfl⟩
  have gcl := ty_fr (q := cl) (k := 14) (u := 32) ecl hT gw rg_0 rfl
  obtain ⟨xl, exl⟩ : ∃ z : Nat, z = fR H b (K.1.2 10 66) := ⟨_, rfl⟩
  have gxl := ty_fr (q := xl) (k := 66) (u := 158) exl hT gb rg_112 rfl
  obtain ⟨ck, eck⟩ : ∃ z : Nat, z = fR H w (K.1.2 8 15) := ⟨_, rfl⟩
  have gck := ty_fr (q := ck) (k := 15) (u := 33) eck hT gw rg_0 rfl
  obtain ⟨xk, exk⟩ : ∃ z : Nat, z = fR H b (K.1.2 10 67) := ⟨_, rfl⟩
  have gxk := ty_fr (q := xk) (k := 67) (u := 159) exk hT gb rg_112 rfl
  have hrn : EQR (fun j => fI H cn j) (fun j => fI H xn j) y13.toInt := by rw [ecn, exn, ew, ey13]; exact hb1
  have hrl : EQR (fun j => fI H cl j) (fun j => fI H xl j) y16.toInt := by rw [ecl, exl, ew, ey16]; exact hb2
  have hrk : EQR (fun j => fI H ck j) (fun j => fI H xk j) y16.toInt := by rw [eck, exk, ew, ey16]; exact hb3
  have by13 := ty_fi (x := y13) (k := 62) ey13 hT gb rg_112 rfl
  have by16 := ty_fi (x := y16) (k := 65) ey16 hT gb rg_112 rfl
  have f0cn : ∀ j : Nat, j < 8 → fI H cn j = fI H cn j := fun _ _ => rfl
  have f0xn : ∀ j : Nat, j < 8 → fI H xn j = fI H xn j := fun _ _ => rfl
  have f0cl : ∀ j : Nat, j < 8 → fI H cl j = fI H cl j := fun _ _ => rfl
  have f0xl : ∀ j : Nat, j < 8 → fI H xl j = fI H xl j := fun _ _ => rfl
  have f0ck : ∀ j : Nat, j < 8 → fI H ck j = fI H ck j := fun _ _ => rfl
  have f0xk : ∀ j : Nat, j < 8 → fI H xk j = fI H xk j := fun _ _ => rfl
  rcases hk with ⟨kn, h70⟩ | ⟨kq, kn, gkq, h70, q1, q4, q5, q10, q13, q16, hq1, hq2, hq3⟩
  · skip
    obtain ⟨hi, ehi⟩ : ∃ z : Int32, z = fI H b (K.1.2 10 70) := ⟨_, rfl⟩
    rw [← ehi] at h70
    obtain ⟨hc0, hs0⟩ := hB0 kn
    refine lv_aload_n hx hb dL_law_211 rfl (lv_at hl 2 rfl) ?_
    refine lv_aload_n hx hb dL_law_212 rfl (lv_at hl 3 rfl) ?_
    refine lv_iload_n hx hb dL_law_213 rfl (lv_at hl 0 rfl) ?_
    refine lv_iconst (v := 1) hx hb dL_law_214 (by decide) ?_
    refine lv_iadd hx hb dL_law_215 ?_
    refine lv_topi (fun x101 ex101 => ?_)
    obtain ⟨tx101, ejx101, evx101⟩ := lw_ix (k := 1) ex101 hI hL rfl (by decide)
    clear tx101
    refine va_sld hx hb hX hbl (Nat.not_le.mpr hbl) hS (vp_in_iff.mpr evx101) dL_law_216 ?_
    refine W.eq (g2 := F0 m 217 ls [.int (xs (i.toNatClampNeg + 1)), .ref a]) (congrArg (fun z => F0 m 217 ls [.int (xs z), .ref a]) ejx101) ?_
    refine lv_aload_n hx hb dL_law_217 rfl (lv_at hl 3 rfl) ?_
    refine lv_iload_n hx hb dL_law_218 rfl (lv_at hl 0 rfl) ?_
    refine lv_iconst (v := 2) hx hb dL_law_219 (by decide) ?_
    refine lv_iadd hx hb dL_law_220 ?_
    refine lv_topi (fun x102 ex102 => ?_)
    obtain ⟨tx102, ejx102, evx102⟩ := lw_ix (k := 2) ex102 hI hL rfl (by decide)
    clear tx102
    refine va_sld hx hb hX hbl (Nat.not_le.mpr hbl) hS (vp_in_iff.mpr evx102) dL_law_221 ?_
    refine W.eq (g2 := F0 m 222 ls [.int (xs (i.toNatClampNeg + 2)), .int (xs (i.toNatClampNeg + 1)), .ref a]) (congrArg (fun z => F0 m 222 ls [.int (xs z), .int (xs (i.toNatClampNeg + 1)), .ref a]) ejx102) ?_
    refine lv_aload_n hx hb dL_law_222 rfl (lv_at hl 3 rfl) ?_
    refine lv_iload_n hx hb dL_law_223 rfl (lv_at hl 0 rfl) ?_
    refine lv_iconst (v := 3) hx hb dL_law_224 (by decide) ?_
    refine lv_iadd hx hb dL_law_225 ?_
    refine lv_topi (fun x103 ex103 => ?_)
    obtain ⟨tx103, ejx103, evx103⟩ := lw_ix (k := 3) ex103 hI hL rfl (by decide)
    clear tx103
    refine va_sld hx hb hX hbl (Nat.not_le.mpr hbl) hS (vp_in_iff.mpr evx103) dL_law_226 ?_
    refine W.eq (g2 := F0 m 227 ls [.int (xs (i.toNatClampNeg + 3)), .int (xs (i.toNatClampNeg + 2)), .int (xs (i.toNatClampNeg + 1)), .ref a]) (congrArg (fun z => F0 m 227 ls [.int (xs z), .int (xs (i.toNatClampNeg + 2)), .int (xs (i.toNatClampNeg + 1)), .ref a]) ejx103) ?_
    refine lv_aload_n hx hb dL_law_227 rfl (lv_at hl 3 rfl) ?_
    refine lv_iload_n hx hb dL_law_228 rfl (lv_at hl 0 rfl) ?_
    refine lv_iconst (v := 4) hx hb dL_law_229 (by decide) ?_
    refine lv_iadd hx hb dL_law_230 ?_
    refine lv_topi (fun x104 ex104 => ?_)
    obtain ⟨tx104, ejx104, evx104⟩ := lw_ix (k := 4) ex104 hI hL rfl (by decide)
    clear tx104
    refine va_sld hx hb hX hbl (Nat.not_le.mpr hbl) hS (vp_in_iff.mpr evx104) dL_law_231 ?_
    refine W.eq (g2 := F0 m 232 ls [.int (xs (i.toNatClampNeg + 4)), .int (xs (i.toNatClampNeg + 3)), .int (xs (i.toNatClampNeg + 2)), .int (xs (i.toNatClampNeg + 1)), .ref a]) (congrArg (fun z => F0 m 232 ls [.int (xs z), .int (xs (i.toNatClampNeg + 3)), .int (xs (i.toNatClampNeg + 2)), .int (xs (i.toNatClampNeg + 1)), .ref a]) ejx104) ?_
    refine lv_aload_n hx hb dL_law_232 rfl (lv_at hl 3 rfl) ?_
    refine lv_iload_n hx hb dL_law_233 rfl (lv_at hl 0 rfl) ?_
    refine lv_iconst (v := 5) hx hb dL_law_234 (by decide) ?_
    refine lv_iadd hx hb dL_law_235 ?_
    refine lv_topi (fun x105 ex105 => ?_)
    obtain ⟨tx105, ejx105, evx105⟩ := lw_ix (k := 5) ex105 hI hL rfl (by decide)
    clear tx105
    refine va_sld hx hb hX hbl (Nat.not_le.mpr hbl) hS (vp_in_iff.mpr evx105) dL_law_236 ?_
    refine W.eq (g2 := F0 m 237 ls [.int (xs (i.toNatClampNeg + 5)), .int (xs (i.toNatClampNeg + 4)), .int (xs (i.toNatClampNeg + 3)), .int (xs (i.toNatClampNeg + 2)), .int (xs (i.toNatClampNeg + 1)), .ref a]) (congrArg (fun z => F0 m 237 ls [.int (xs z), .int (xs (i.toNatClampNeg + 4)), .int (xs (i.toNatClampNeg + 3)), .int (xs (i.toNatClampNeg + 2)), .int (xs (i.toNatClampNeg + 1)), .ref a]) ejx105) ?_
    refine x_V (As := [.int (xs (i.toNatClampNeg + 1)), .int (xs (i.toNatClampNeg + 2)), .int (xs (i.toNatClampNeg + 3)), .int (xs (i.toNatClampNeg + 4)), .int (xs (i.toNatClampNeg + 5))]) (rest := []) C (a_X9_slice l K G H ((xs (i.toNatClampNeg + 1))) ((xs (i.toNatClampNeg + 2))) ((xs (i.toNatClampNeg + 3))) ((xs (i.toNatClampNeg + 4))) ((xs (i.toNatClampNeg + 5))) hT ga) yo_X9_slice wM_L_18 ⟨⟨by decide, by decide⟩, show _ ≤ 284929 from Nat.le_trans hc (by decide), show _ ≤ 8247460 from Nat.le_trans hs (by decide)⟩ (x_rv C hT (ci := 9) rfl ga rg_68) rfl hl.1 rfl (Nat.le_of_ble_eq_true rfl) dL_law_237 hS (AE_new hN hS.1) (fun vH106 H106 locsH106 pH106 zH106 kH106 hSH106 => ?_)
    obtain ⟨x107, hvH106, bx107, hTH106⟩ := pH106
    subst hvH106
    have g108 : CG (avw K H106 b) := CG.congr (fun k hk j => av_eff hT kH106 gb (by decide) (CG_eff [2, 3, 4] (by decide) k hk)) cg
    have g109 : TU (avw K H106 b) (svw K H106 b) := TU.congr (fun k hk j => av_eff hT kH106 gb (by decide) (TU_eff [2, 3, 4] (by decide) k hk)) (fun k hk => sv_eff hT kH106 gb (by decide)) tu
    have g110 : WD (avw K H106 b) := WD.congr (fun k hk j => av_eff hT kH106 gb (by decide) (WD_eff [2, 3, 4] (by decide) k hk)) wd
    have g111 : IM (avw K H106 b) := IM.congr (fun k hk j => av_eff hT kH106 gb (by decide) (IM_eff [2, 3, 4] (by decide) k hk)) im
    have f112 : ∀ j : Nat, j < 8 → fI H106 cn j = fI H cn j := fun j hj => (fI_kept (x_lt hT kH106 gcn (by decide))).trans (f0cn j hj)
    have f113 : ∀ j : Nat, j < 8 → fI H106 xn j = fI H xn j := fun j hj => (fI_kept (x_lt hT kH106 gxn (by decide))).trans (f0xn j hj)
    have f114 : ∀ j : Nat, j < 8 → fI H106 cl j = fI H cl j := fun j hj => (fI_kept (x_lt hT kH106 gcl (by decide))).trans (f0cl j hj)
    have f115 : ∀ j : Nat, j < 8 → fI H106 xl j = fI H xl j := fun j hj => (fI_kept (x_lt hT kH106 gxl (by decide))).trans (f0xl j hj)
    have f116 : ∀ j : Nat, j < 8 → fI H106 ck j = fI H ck j := fun j hj => (fI_kept (x_lt hT kH106 gck (by decide))).trans (f0ck j hj)
    have f117 : ∀ j : Nat, j < 8 → fI H106 xk j = fI H xk j := fun j hj => (fI_kept (x_lt hT kH106 gxk (by decide))).trans (f0xk j hj)
    have m118 := (ew).trans (fR_kept (x_lt hT kH106 ga (by decide))).symm
    have m119 := (eta).trans (fI_kept (x_lt hT kH106 ga (by decide))).symm
    have m120 := (etb).trans (fI_kept (x_lt hT kH106 gb (by decide))).symm
    have m121 := (es1).trans (fI_kept (x_lt hT kH106 gw (by decide))).symm
    have m122 := (ey1).trans (fI_kept (x_lt hT kH106 gb (by decide))).symm
    have m123 := (es4).trans (fI_kept (x_lt hT kH106 gw (by decide))).symm
    have m124 := (ey4).trans (fI_kept (x_lt hT kH106 gb (by decide))).symm
    have m125 := (es5).trans (fI_kept (x_lt hT kH106 gw (by decide))).symm
    have m126 := (ey5).trans (fI_kept (x_lt hT kH106 gb (by decide))).symm
    have m127 := (es10).trans (fI_kept (x_lt hT kH106 gw (by decide))).symm
    have m128 := (ey10).trans (fI_kept (x_lt hT kH106 gb (by decide))).symm
    have m129 := (es13).trans (fI_kept (x_lt hT kH106 gw (by decide))).symm
    have m130 := (ey13).trans (fI_kept (x_lt hT kH106 gb (by decide))).symm
    have m131 := (es16).trans (fI_kept (x_lt hT kH106 gw (by decide))).symm
    have m132 := (ey16).trans (fI_kept (x_lt hT kH106 gb (by decide))).symm
    have m133 := (ecn).trans (fR_kept (x_lt hT kH106 gw (by decide))).symm
    have m134 := (exn).trans (fR_kept (x_lt hT kH106 gb (by decide))).symm
    have m135 := (ecl).trans (fR_kept (x_lt hT kH106 gw (by decide))).symm
    have m136 := (exl).trans (fR_kept (x_lt hT kH106 gb (by decide))).symm
    have m137 := (eck).trans (fR_kept (x_lt hT kH106 gw (by decide))).symm
    have m138 := (exk).trans (fR_kept (x_lt hT kH106 gb (by decide))).symm
    have m139 := (ehi).trans (fI_kept (x_lt hT kH106 gb (by decide))).symm
    have m140 := (fV_kept (x_lt hT kH106 ga (by decide))).trans kn
    refine W.eq (g2 := F0 m 240 ls [.int x107]) rfl ?_
    clear eck ecl ecn ehi es1 es10 es13 es16 es4 es5 eta etb ew exk exl exn ey1 ey10 ey13 ey16 ey4 ey5 f0ck f0cl f0cn f0xk f0xl f0xn kn
    refine lv_pop hx hb dL_law_240 rfl ?_
    refine lv_aload_n hx hb dL_law_241 rfl (lv_at hl 1 rfl) ?_
    refine lv_aload_n hx hb dL_law_242 rfl (lv_at hl 3 rfl) ?_
    refine lv_iload_n hx hb dL_law_243 rfl (lv_at hl 0 rfl) ?_
    refine lv_iconst (v := 1) hx hb dL_law_244 (by decide) ?_
    refine lv_iadd hx hb dL_law_245 ?_
    refine lv_topi (fun x141 ex141 => ?_)
    obtain ⟨tx141, ejx141, evx141⟩ := lw_ix (k := 1) ex141 hI hL rfl (by decide)
    clear tx141
    refine va_sld hx hb hX hbl (Nat.not_le.mpr hbl) hSH106 (vp_in_iff.mpr evx141) dL_law_246 ?_
    refine W.eq (g2 := F0 m 247 ls [.int (xs (i.toNatClampNeg + 1)), .ref b]) (congrArg (fun z => F0 m 247 ls [.int (xs z), .ref b]) ejx141) ?_
    refine lv_aload_n hx hb dL_law_247 rfl (lv_at hl 3 rfl) ?_
    refine lv_iload_n hx hb dL_law_248 rfl (lv_at hl 0 rfl) ?_
    refine lv_iconst (v := 2) hx hb dL_law_249 (by decide) ?_
    refine lv_iadd hx hb dL_law_250 ?_
    refine lv_topi (fun x142 ex142 => ?_)
    obtain ⟨tx142, ejx142, evx142⟩ := lw_ix (k := 2) ex142 hI hL rfl (by decide)
    clear tx142
    refine va_sld hx hb hX hbl (Nat.not_le.mpr hbl) hSH106 (vp_in_iff.mpr evx142) dL_law_251 ?_
    refine W.eq (g2 := F0 m 252 ls [.int (xs (i.toNatClampNeg + 2)), .int (xs (i.toNatClampNeg + 1)), .ref b]) (congrArg (fun z => F0 m 252 ls [.int (xs z), .int (xs (i.toNatClampNeg + 1)), .ref b]) ejx142) ?_
    refine lv_aload_n hx hb dL_law_252 rfl (lv_at hl 3 rfl) ?_
    refine lv_iload_n hx hb dL_law_253 rfl (lv_at hl 0 rfl) ?_
    refine lv_iconst (v := 3) hx hb dL_law_254 (by decide) ?_
    refine lv_iadd hx hb dL_law_255 ?_
    refine lv_topi (fun x143 ex143 => ?_)
    obtain ⟨tx143, ejx143, evx143⟩ := lw_ix (k := 3) ex143 hI hL rfl (by decide)
    clear tx143
    refine va_sld hx hb hX hbl (Nat.not_le.mpr hbl) hSH106 (vp_in_iff.mpr evx143) dL_law_256 ?_
    refine W.eq (g2 := F0 m 257 ls [.int (xs (i.toNatClampNeg + 3)), .int (xs (i.toNatClampNeg + 2)), .int (xs (i.toNatClampNeg + 1)), .ref b]) (congrArg (fun z => F0 m 257 ls [.int (xs z), .int (xs (i.toNatClampNeg + 2)), .int (xs (i.toNatClampNeg + 1)), .ref b]) ejx143) ?_
    refine lv_aload_n hx hb dL_law_257 rfl (lv_at hl 3 rfl) ?_
    refine lv_iload_n hx hb dL_law_258 rfl (lv_at hl 0 rfl) ?_
    refine lv_iconst (v := 4) hx hb dL_law_259 (by decide) ?_
    refine lv_iadd hx hb dL_law_260 ?_
    refine lv_topi (fun x144 ex144 => ?_)
    obtain ⟨tx144, ejx144, evx144⟩ := lw_ix (k := 4) ex144 hI hL rfl (by decide)
    clear tx144
    refine va_sld hx hb hX hbl (Nat.not_le.mpr hbl) hSH106 (vp_in_iff.mpr evx144) dL_law_261 ?_
    refine W.eq (g2 := F0 m 262 ls [.int (xs (i.toNatClampNeg + 4)), .int (xs (i.toNatClampNeg + 3)), .int (xs (i.toNatClampNeg + 2)), .int (xs (i.toNatClampNeg + 1)), .ref b]) (congrArg (fun z => F0 m 262 ls [.int (xs z), .int (xs (i.toNatClampNeg + 3)), .int (xs (i.toNatClampNeg + 2)), .int (xs (i.toNatClampNeg + 1)), .ref b]) ejx144) ?_
    refine lv_aload_n hx hb dL_law_262 rfl (lv_at hl 3 rfl) ?_
    refine lv_iload_n hx hb dL_law_263 rfl (lv_at hl 0 rfl) ?_
    refine lv_iconst (v := 5) hx hb dL_law_264 (by decide) ?_
    refine lv_iadd hx hb dL_law_265 ?_
    refine lv_topi (fun x145 ex145 => ?_)
    obtain ⟨tx145, ejx145, evx145⟩ := lw_ix (k := 5) ex145 hI hL rfl (by decide)
    clear tx145
    refine va_sld hx hb hX hbl (Nat.not_le.mpr hbl) hSH106 (vp_in_iff.mpr evx145) dL_law_266 ?_
    refine W.eq (g2 := F0 m 267 ls [.int (xs (i.toNatClampNeg + 5)), .int (xs (i.toNatClampNeg + 4)), .int (xs (i.toNatClampNeg + 3)), .int (xs (i.toNatClampNeg + 2)), .int (xs (i.toNatClampNeg + 1)), .ref b]) (congrArg (fun z => F0 m 267 ls [.int (xs z), .int (xs (i.toNatClampNeg + 4)), .int (xs (i.toNatClampNeg + 3)), .int (xs (i.toNatClampNeg + 2)), .int (xs (i.toNatClampNeg + 1)), .ref b]) ejx145) ?_
    refine x_V (As := [.int (xs (i.toNatClampNeg + 1)), .int (xs (i.toNatClampNeg + 2)), .int (xs (i.toNatClampNeg + 3)), .int (xs (i.toNatClampNeg + 4)), .int (xs (i.toNatClampNeg + 5))]) (rest := []) C (a_X10_slice l K G H106 ((xs (i.toNatClampNeg + 1))) ((xs (i.toNatClampNeg + 2))) ((xs (i.toNatClampNeg + 3))) ((xs (i.toNatClampNeg + 4))) ((xs (i.toNatClampNeg + 5))) hTH106 gb g108 g109 g110 g111) yo_X10_slice wM_L_22 ⟨⟨by decide, by decide⟩, show _ ≤ 284929 from Nat.le_trans hc (by decide), show _ ≤ 8247460 from Nat.le_trans hs (by decide)⟩ (x_rv C hTH106 (ci := 10) rfl gb rg_112) rfl hl.1 rfl (Nat.le_of_ble_eq_true rfl) dL_law_267 hSH106 (AE_new hN hSH106.1) (fun vH146 H146 locsH146 pH146 zH146 kH146 hSH146 => ?_)
    obtain ⟨x147, hvH146, bx147, g148, g149, g150, g151, mf152, hTH146⟩ := pH146
    subst hvH146
    have f153 : ∀ j : Nat, j < 8 → fI H146 cn j = fI H cn j := fun j hj => (fI_kept (x_lt hTH106 kH146 gcn (by decide))).trans (f112 j hj)
    have f154 : ∀ j : Nat, j < 8 → fI H146 xn j = fI H xn j := fun j hj => (fI_kept (x_lt hTH106 kH146 gxn (by decide))).trans (f113 j hj)
    have f155 : ∀ j : Nat, j < 8 → fI H146 cl j = fI H cl j := fun j hj => (fI_kept (x_lt hTH106 kH146 gcl (by decide))).trans (f114 j hj)
    have f156 : ∀ j : Nat, j < 8 → fI H146 xl j = fI H xl j := fun j hj => (fI_kept (x_lt hTH106 kH146 gxl (by decide))).trans (f115 j hj)
    have f157 : ∀ j : Nat, j < 8 → fI H146 ck j = fI H ck j := fun j hj => (fI_kept (x_lt hTH106 kH146 gck (by decide))).trans (f116 j hj)
    have f158 : ∀ j : Nat, j < 8 → fI H146 xk j = fI H xk j := fun j hj => (fI_kept (x_lt hTH106 kH146 gxk (by decide))).trans (f117 j hj)
    have m159 := (m118).trans (fR_kept (x_lt hTH106 kH146 ga (by decide))).symm
    have m160 := (m119).trans (fI_kept (x_lt hTH106 kH146 ga (by decide))).symm
    have m161 := (m121).trans (fI_kept (x_lt hTH106 kH146 gw (by decide))).symm
    have m162 := (m123).trans (fI_kept (x_lt hTH106 kH146 gw (by decide))).symm
    have m163 := (m125).trans (fI_kept (x_lt hTH106 kH146 gw (by decide))).symm
    have m164 := (m127).trans (fI_kept (x_lt hTH106 kH146 gw (by decide))).symm
    have m165 := (m129).trans (fI_kept (x_lt hTH106 kH146 gw (by decide))).symm
    have m166 := (m131).trans (fI_kept (x_lt hTH106 kH146 gw (by decide))).symm
    have m167 := (m133).trans (fR_kept (x_lt hTH106 kH146 gw (by decide))).symm
    have m168 := (m135).trans (fR_kept (x_lt hTH106 kH146 gw (by decide))).symm
    have m169 := (m137).trans (fR_kept (x_lt hTH106 kH146 gw (by decide))).symm
    have m170 := (fV_kept (x_lt hTH106 kH146 ga (by decide))).trans m140
    have m171 := (m120).trans (MF.i mf152 (k := 18) (by decide) (by decide)).symm
    have m172 := (m122).trans (MF.i mf152 (k := 1) (by decide) (by decide)).symm
    have m173 := (m124).trans (MF.i mf152 (k := 2) (by decide) (by decide)).symm
    have m174 := (m126).trans (MF.i mf152 (k := 3) (by decide) (by decide)).symm
    have m175 := (m128).trans (MF.i mf152 (k := 59) (by decide) (by decide)).symm
    have m176 := (m130).trans (MF.i mf152 (k := 62) (by decide) (by decide)).symm
    have m177 := (m132).trans (MF.i mf152 (k := 65) (by decide) (by decide)).symm
    have m178 := (m134).trans (MF.r mf152 (k := 64) (by decide) (by decide)).symm
    have m179 := (m136).trans (MF.r mf152 (k := 66) (by decide) (by decide)).symm
    have m180 := (m138).trans (MF.r mf152 (k := 67) (by decide) (by decide)).symm
    have m181 := (m139).trans (MF.i mf152 (k := 70) (by decide) (by decide)).symm
    refine W.eq (g2 := F0 m 270 ls [.int x147]) rfl ?_
    clear f112 f113 f114 f115 f116 f117 m118 m119 m120 m121 m122 m123 m124 m125 m126 m127 m128 m129 m130 m131 m132 m133 m134 m135 m136 m137 m138 m139 m140
    refine lv_pop hx hb dL_law_270 rfl ?_
    refine lv_goto (tgt := 1509) hx hb dL_law_271 (by decide) ?_
    exact nx G H146 locsH146 _ _ ls ⟨hTH146, hN, ga, gb, g148, g149, g150, g151, ⟨(by rw [← m160, ← m171]; exact rt), (by rw [← m159, ← m161, ← m172]; exact r1), (by rw [← m159, ← m162, ← m173]; exact r4), (by rw [← m159, ← m163, ← m174]; exact r5), (by rw [← m159, ← m164, ← m175]; exact r10), (by rw [← m159, ← m165, ← m176]; exact r13), (by rw [← m159, ← m166, ← m177]; exact r16)⟩, Or.inl ⟨m170, (by rw [← m181]; exact h70)⟩, ⟨(by rw [← m159, ← m167, ← m178, ← m176]; exact EQR.of hrn (fun j hj => f153 j (by omega)) (fun j hj => f154 j (by omega)) (by omega)), (by rw [← m159, ← m168, ← m179, ← m177]; exact EQR.of hrl (fun j hj => f155 j (by omega)) (fun j hj => f156 j (by omega)) (by omega)), (by rw [← m159, ← m169, ← m180, ← m177]; exact EQR.of hrk (fun j hj => f157 j (by omega)) (fun j hj => f158 j (by omega)) (by omega))⟩, hSH146⟩ hl ⟨hc, hs, fun _ => ⟨hc0, hs0⟩⟩
  · skip
    obtain ⟨hi, ehi⟩ : ∃ z : Int32, z = fI H b (K.1.2 10 70) := ⟨_, rfl⟩
    rw [← ehi] at h70
    obtain ⟨iq, eiq⟩ : ∃ z : Nat, z = fR H b (K.1.2 10 73) := ⟨_, rfl⟩
    have giq := ty_fr (q := iq) (k := 73) (u := 162) eiq hT gb rg_112 rfl
    rw [← eiq] at q1 q4 q5 q10 q13 q16
    obtain ⟨k1, ek1⟩ : ∃ z : Int32, z = fI H kq (K.1.2 8 1) := ⟨_, rfl⟩
    rw [← ek1] at q1
    obtain ⟨i1, ei1⟩ : ∃ z : Int32, z = fI H iq ((0 : Int32).toNatClampNeg) := ⟨_, rfl⟩
    rw [← ei1] at q1
    obtain ⟨k4, ek4⟩ : ∃ z : Int32, z = fI H kq (K.1.2 8 4) := ⟨_, rfl⟩
    rw [← ek4] at q4
    obtain ⟨i4, ei4⟩ : ∃ z : Int32, z = fI H iq ((1 : Int32).toNatClampNeg) := ⟨_, rfl⟩
    rw [← ei4] at q4
    obtain ⟨k5, ek5⟩ : ∃ z : Int32, z = fI H kq (K.1.2 8 5) := ⟨_, rfl⟩
    rw [← ek5] at q5
    obtain ⟨i5, ei5⟩ : ∃ z : Int32, z = fI H iq ((2 : Int32).toNatClampNeg) := ⟨_, rfl⟩
    rw [← ei5] at q5
    obtain ⟨k10, ek10⟩ : ∃ z : Int32, z = fI H kq (K.1.2 8 10) := ⟨_, rfl⟩
    rw [← ek10] at q10
    obtain ⟨i10, ei10⟩ : ∃ z : Int32, z = fI H iq ((3 : Int32).toNatClampNeg) := ⟨_, rfl⟩
    rw [← ei10] at q10
    obtain ⟨k13, ek13⟩ : ∃ z : Int32, z = fI H kq (K.1.2 8 13) := ⟨_, rfl⟩
    rw [← ek13] at q13
    obtain ⟨i13, ei13⟩ : ∃ z : Int32, z = fI H iq ((4 : Int32).toNatClampNeg) := ⟨_, rfl⟩
    rw [← ei13] at q13
    obtain ⟨k16, ek16⟩ : ∃ z : Int32, z = fI H kq (K.1.2 8 16) := ⟨_, rfl⟩
    rw [← ek16] at q16
    obtain ⟨i16, ei16⟩ : ∃ z : Int32, z = fI H iq ((5 : Int32).toNatClampNeg) := ⟨_, rfl⟩
    rw [← ei16] at q16
    obtain ⟨dn, edn⟩ : ∃ z : Nat, z = fR H kq (K.1.2 8 12) := ⟨_, rfl⟩
    have gdn := ty_fr (q := dn) (k := 12) (u := 65) edn hT gkq rg_34 rfl
    obtain ⟨dl, edl⟩ : ∃ z : Nat, z = fR H kq (K.1.2 8 14) := ⟨_, rfl⟩
    have gdl := ty_fr (q := dl) (k := 14) (u := 66) edl hT gkq rg_34 rfl
    obtain ⟨dk, edk⟩ : ∃ z : Nat, z = fR H kq (K.1.2 8 15) := ⟨_, rfl⟩
    have gdk := ty_fr (q := dk) (k := 15) (u := 67) edk hT gkq rg_34 rfl
    have hsn : EQR (fun j => fI H dn j) (fun j => fI H iq (8877 + 4 * j)) k13.toInt := by rw [edn, eiq, ek13]; exact hq1
    have hsl : EQR (fun j => fI H dl j) (fun j => fI H iq (8878 + 4 * j)) k16.toInt := by rw [edl, eiq, ek16]; exact hq2
    have hsk : EQR (fun j => fI H dk j) (fun j => fI H iq (8879 + 4 * j)) k16.toInt := by rw [edk, eiq, ek16]; exact hq3
    have bk13 := ty_fi (x := k13) (k := 13) ek13 hT gkq rg_34 rfl
    have bk16 := ty_fi (x := k16) (k := 16) ek16 hT gkq rg_34 rfl
    have f0dn : ∀ j : Nat, j < 8 → fI H dn j = fI H dn j := fun _ _ => rfl
    have f0dl : ∀ j : Nat, j < 8 → fI H dl j = fI H dl j := fun _ _ => rfl
    have f0dk : ∀ j : Nat, j < 8 → fI H dk j = fI H dk j := fun _ _ => rfl
    have f0i : ∀ j : Nat, fI H iq j = fI H iq j := fun _ => rfl
    refine lv_aload_n hx hb dL_law_211 rfl (lv_at hl 2 rfl) ?_
    refine lv_aload_n hx hb dL_law_212 rfl (lv_at hl 3 rfl) ?_
    refine lv_iload_n hx hb dL_law_213 rfl (lv_at hl 0 rfl) ?_
    refine lv_iconst (v := 1) hx hb dL_law_214 (by decide) ?_
    refine lv_iadd hx hb dL_law_215 ?_
    refine lv_topi (fun x182 ex182 => ?_)
    obtain ⟨tx182, ejx182, evx182⟩ := lw_ix (k := 1) ex182 hI hL rfl (by decide)
    clear tx182
    refine va_sld hx hb hX hbl (Nat.not_le.mpr hbl) hS (vp_in_iff.mpr evx182) dL_law_216 ?_
    refine W.eq (g2 := F0 m 217 ls [.int (xs (i.toNatClampNeg + 1)), .ref a]) (congrArg (fun z => F0 m 217 ls [.int (xs z), .ref a]) ejx182) ?_
    refine lv_aload_n hx hb dL_law_217 rfl (lv_at hl 3 rfl) ?_
    refine lv_iload_n hx hb dL_law_218 rfl (lv_at hl 0 rfl) ?_
    refine lv_iconst (v := 2) hx hb dL_law_219 (by decide) ?_
    refine lv_iadd hx hb dL_law_220 ?_
    refine lv_topi (fun x183 ex183 => ?_)
    obtain ⟨tx183, ejx183, evx183⟩ := lw_ix (k := 2) ex183 hI hL rfl (by decide)
    clear tx183
    refine va_sld hx hb hX hbl (Nat.not_le.mpr hbl) hS (vp_in_iff.mpr evx183) dL_law_221 ?_
    refine W.eq (g2 := F0 m 222 ls [.int (xs (i.toNatClampNeg + 2)), .int (xs (i.toNatClampNeg + 1)), .ref a]) (congrArg (fun z => F0 m 222 ls [.int (xs z), .int (xs (i.toNatClampNeg + 1)), .ref a]) ejx183) ?_
    refine lv_aload_n hx hb dL_law_222 rfl (lv_at hl 3 rfl) ?_
    refine lv_iload_n hx hb dL_law_223 rfl (lv_at hl 0 rfl) ?_
    refine lv_iconst (v := 3) hx hb dL_law_224 (by decide) ?_
    refine lv_iadd hx hb dL_law_225 ?_
    refine lv_topi (fun x184 ex184 => ?_)
    obtain ⟨tx184, ejx184, evx184⟩ := lw_ix (k := 3) ex184 hI hL rfl (by decide)
    clear tx184
    refine va_sld hx hb hX hbl (Nat.not_le.mpr hbl) hS (vp_in_iff.mpr evx184) dL_law_226 ?_
    refine W.eq (g2 := F0 m 227 ls [.int (xs (i.toNatClampNeg + 3)), .int (xs (i.toNatClampNeg + 2)), .int (xs (i.toNatClampNeg + 1)), .ref a]) (congrArg (fun z => F0 m 227 ls [.int (xs z), .int (xs (i.toNatClampNeg + 2)), .int (xs (i.toNatClampNeg + 1)), .ref a]) ejx184) ?_
    refine lv_aload_n hx hb dL_law_227 rfl (lv_at hl 3 rfl) ?_
    refine lv_iload_n hx hb dL_law_228 rfl (lv_at hl 0 rfl) ?_
    refine lv_iconst (v := 4) hx hb dL_law_229 (by decide) ?_
    refine lv_iadd hx hb dL_law_230 ?_
    refine lv_topi (fun x185 ex185 => ?_)
    obtain ⟨tx185, ejx185, evx185⟩ := lw_ix (k := 4) ex185 hI hL rfl (by decide)
    clear tx185
    refine va_sld hx hb hX hbl (Nat.not_le.mpr hbl) hS (vp_in_iff.mpr evx185) dL_law_231 ?_
    refine W.eq (g2 := F0 m 232 ls [.int (xs (i.toNatClampNeg + 4)), .int (xs (i.toNatClampNeg + 3)), .int (xs (i.toNatClampNeg + 2)), .int (xs (i.toNatClampNeg + 1)), .ref a]) (congrArg (fun z => F0 m 232 ls [.int (xs z), .int (xs (i.toNatClampNeg + 3)), .int (xs (i.toNatClampNeg + 2)), .int (xs (i.toNatClampNeg + 1)), .ref a]) ejx185) ?_
    refine lv_aload_n hx hb dL_law_232 rfl (lv_at hl 3 rfl) ?_
    refine lv_iload_n hx hb dL_law_233 rfl (lv_at hl 0 rfl) ?_
    refine lv_iconst (v := 5) hx hb dL_law_234 (by decide) ?_
    refine lv_iadd hx hb dL_law_235 ?_
    refine lv_topi (fun x186 ex186 => ?_)
    obtain ⟨tx186, ejx186, evx186⟩ := lw_ix (k := 5) ex186 hI hL rfl (by decide)
    clear tx186
    refine va_sld hx hb hX hbl (Nat.not_le.mpr hbl) hS (vp_in_iff.mpr evx186) dL_law_236 ?_
    refine W.eq (g2 := F0 m 237 ls [.int (xs (i.toNatClampNeg + 5)), .int (xs (i.toNatClampNeg + 4)), .int (xs (i.toNatClampNeg + 3)), .int (xs (i.toNatClampNeg + 2)), .int (xs (i.toNatClampNeg + 1)), .ref a]) (congrArg (fun z => F0 m 237 ls [.int (xs z), .int (xs (i.toNatClampNeg + 4)), .int (xs (i.toNatClampNeg + 3)), .int (xs (i.toNatClampNeg + 2)), .int (xs (i.toNatClampNeg + 1)), .ref a]) ejx186) ?_
    refine x_V (As := [.int (xs (i.toNatClampNeg + 1)), .int (xs (i.toNatClampNeg + 2)), .int (xs (i.toNatClampNeg + 3)), .int (xs (i.toNatClampNeg + 4)), .int (xs (i.toNatClampNeg + 5))]) (rest := []) C (a_X9_slice l K G H ((xs (i.toNatClampNeg + 1))) ((xs (i.toNatClampNeg + 2))) ((xs (i.toNatClampNeg + 3))) ((xs (i.toNatClampNeg + 4))) ((xs (i.toNatClampNeg + 5))) hT ga) yo_X9_slice wM_L_18 ⟨⟨by decide, by decide⟩, show _ ≤ 284929 from Nat.le_trans hc (by decide), show _ ≤ 8247460 from Nat.le_trans hs (by decide)⟩ (x_rv C hT (ci := 9) rfl ga rg_68) rfl hl.1 rfl (Nat.le_of_ble_eq_true rfl) dL_law_237 hS (AE_new hN hS.1) (fun vH187 H187 locsH187 pH187 zH187 kH187 hSH187 => ?_)
    obtain ⟨x188, hvH187, bx188, hTH187⟩ := pH187
    subst hvH187
    have g189 : CG (avw K H187 b) := CG.congr (fun k hk j => av_eff hT kH187 gb (by decide) (CG_eff [2, 3, 4] (by decide) k hk)) cg
    have g190 : TU (avw K H187 b) (svw K H187 b) := TU.congr (fun k hk j => av_eff hT kH187 gb (by decide) (TU_eff [2, 3, 4] (by decide) k hk)) (fun k hk => sv_eff hT kH187 gb (by decide)) tu
    have g191 : WD (avw K H187 b) := WD.congr (fun k hk j => av_eff hT kH187 gb (by decide) (WD_eff [2, 3, 4] (by decide) k hk)) wd
    have g192 : IM (avw K H187 b) := IM.congr (fun k hk j => av_eff hT kH187 gb (by decide) (IM_eff [2, 3, 4] (by decide) k hk)) im
    have f193 : ∀ j : Nat, j < 8 → fI H187 cn j = fI H cn j := fun j hj => (fI_kept (x_lt hT kH187 gcn (by decide))).trans (f0cn j hj)
    have f194 : ∀ j : Nat, j < 8 → fI H187 xn j = fI H xn j := fun j hj => (fI_kept (x_lt hT kH187 gxn (by decide))).trans (f0xn j hj)
    have f195 : ∀ j : Nat, j < 8 → fI H187 cl j = fI H cl j := fun j hj => (fI_kept (x_lt hT kH187 gcl (by decide))).trans (f0cl j hj)
    have f196 : ∀ j : Nat, j < 8 → fI H187 xl j = fI H xl j := fun j hj => (fI_kept (x_lt hT kH187 gxl (by decide))).trans (f0xl j hj)
    have f197 : ∀ j : Nat, j < 8 → fI H187 ck j = fI H ck j := fun j hj => (fI_kept (x_lt hT kH187 gck (by decide))).trans (f0ck j hj)
    have f198 : ∀ j : Nat, j < 8 → fI H187 xk j = fI H xk j := fun j hj => (fI_kept (x_lt hT kH187 gxk (by decide))).trans (f0xk j hj)
    have f199 : ∀ j : Nat, j < 8 → fI H187 dn j = fI H dn j := fun j hj => (fI_kept (x_lt hT kH187 gdn (by decide))).trans (f0dn j hj)
    have f200 : ∀ j : Nat, j < 8 → fI H187 dl j = fI H dl j := fun j hj => (fI_kept (x_lt hT kH187 gdl (by decide))).trans (f0dl j hj)
    have f201 : ∀ j : Nat, j < 8 → fI H187 dk j = fI H dk j := fun j hj => (fI_kept (x_lt hT kH187 gdk (by decide))).trans (f0dk j hj)
    have f202 : ∀ j : Nat, fI H187 iq j = fI H iq j := fun j => (fI_kept (x_lt hT kH187 giq (by decide))).trans (f0i j)
    have m203 := (ew).trans (fR_kept (x_lt hT kH187 ga (by decide))).symm
    have m204 := (eta).trans (fI_kept (x_lt hT kH187 ga (by decide))).symm
    have m205 := (etb).trans (fI_kept (x_lt hT kH187 gb (by decide))).symm
    have m206 := (es1).trans (fI_kept (x_lt hT kH187 gw (by decide))).symm
    have m207 := (ey1).trans (fI_kept (x_lt hT kH187 gb (by decide))).symm
    have m208 := (es4).trans (fI_kept (x_lt hT kH187 gw (by decide))).symm
    have m209 := (ey4).trans (fI_kept (x_lt hT kH187 gb (by decide))).symm
    have m210 := (es5).trans (fI_kept (x_lt hT kH187 gw (by decide))).symm
    have m211 := (ey5).trans (fI_kept (x_lt hT kH187 gb (by decide))).symm
    have m212 := (es10).trans (fI_kept (x_lt hT kH187 gw (by decide))).symm
    have m213 := (ey10).trans (fI_kept (x_lt hT kH187 gb (by decide))).symm
    have m214 := (es13).trans (fI_kept (x_lt hT kH187 gw (by decide))).symm
    have m215 := (ey13).trans (fI_kept (x_lt hT kH187 gb (by decide))).symm
    have m216 := (es16).trans (fI_kept (x_lt hT kH187 gw (by decide))).symm
    have m217 := (ey16).trans (fI_kept (x_lt hT kH187 gb (by decide))).symm
    have m218 := (ecn).trans (fR_kept (x_lt hT kH187 gw (by decide))).symm
    have m219 := (exn).trans (fR_kept (x_lt hT kH187 gb (by decide))).symm
    have m220 := (ecl).trans (fR_kept (x_lt hT kH187 gw (by decide))).symm
    have m221 := (exl).trans (fR_kept (x_lt hT kH187 gb (by decide))).symm
    have m222 := (eck).trans (fR_kept (x_lt hT kH187 gw (by decide))).symm
    have m223 := (exk).trans (fR_kept (x_lt hT kH187 gb (by decide))).symm
    have m224 := (ehi).trans (fI_kept (x_lt hT kH187 gb (by decide))).symm
    have m225 := (fV_kept (x_lt hT kH187 ga (by decide))).trans kn
    have m226 := (eiq).trans (fR_kept (x_lt hT kH187 gb (by decide))).symm
    have m227 := (ek1).trans (fI_kept (x_lt hT kH187 gkq (by decide))).symm
    have m228 := (ei1).trans (fI_kept (x_lt hT kH187 giq (by decide))).symm
    have m229 := (ek4).trans (fI_kept (x_lt hT kH187 gkq (by decide))).symm
    have m230 := (ei4).trans (fI_kept (x_lt hT kH187 giq (by decide))).symm
    have m231 := (ek5).trans (fI_kept (x_lt hT kH187 gkq (by decide))).symm
    have m232 := (ei5).trans (fI_kept (x_lt hT kH187 giq (by decide))).symm
    have m233 := (ek10).trans (fI_kept (x_lt hT kH187 gkq (by decide))).symm
    have m234 := (ei10).trans (fI_kept (x_lt hT kH187 giq (by decide))).symm
    have m235 := (ek13).trans (fI_kept (x_lt hT kH187 gkq (by decide))).symm
    have m236 := (ei13).trans (fI_kept (x_lt hT kH187 giq (by decide))).symm
    have m237 := (ek16).trans (fI_kept (x_lt hT kH187 gkq (by decide))).symm
    have m238 := (ei16).trans (fI_kept (x_lt hT kH187 giq (by decide))).symm
    have m239 := (edn).trans (fR_kept (x_lt hT kH187 gkq (by decide))).symm
    have m240 := (edl).trans (fR_kept (x_lt hT kH187 gkq (by decide))).symm
    have m241 := (edk).trans (fR_kept (x_lt hT kH187 gkq (by decide))).symm
    refine W.eq (g2 := F0 m 240 ls [.int x188]) rfl ?_
    clear eck ecl ecn edk edl edn ehi ei1 ei10 ei13 ei16 ei4 ei5 eiq ek1 ek10 ek13 ek16 ek4 ek5 es1 es10 es13 es16 es4 es5 eta etb ew exk exl exn ey1 ey10 ey13 ey16 ey4 ey5 f0ck f0cl f0cn f0dk f0dl f0dn f0i f0xk f0xl f0xn kn
    refine lv_pop hx hb dL_law_240 rfl ?_
    refine lv_aload_n hx hb dL_law_241 rfl (lv_at hl 1 rfl) ?_
    refine lv_aload_n hx hb dL_law_242 rfl (lv_at hl 3 rfl) ?_
    refine lv_iload_n hx hb dL_law_243 rfl (lv_at hl 0 rfl) ?_
    refine lv_iconst (v := 1) hx hb dL_law_244 (by decide) ?_
    refine lv_iadd hx hb dL_law_245 ?_
    refine lv_topi (fun x242 ex242 => ?_)
    obtain ⟨tx242, ejx242, evx242⟩ := lw_ix (k := 1) ex242 hI hL rfl (by decide)
    clear tx242
    refine va_sld hx hb hX hbl (Nat.not_le.mpr hbl) hSH187 (vp_in_iff.mpr evx242) dL_law_246 ?_
    refine W.eq (g2 := F0 m 247 ls [.int (xs (i.toNatClampNeg + 1)), .ref b]) (congrArg (fun z => F0 m 247 ls [.int (xs z), .ref b]) ejx242) ?_
    refine lv_aload_n hx hb dL_law_247 rfl (lv_at hl 3 rfl) ?_
    refine lv_iload_n hx hb dL_law_248 rfl (lv_at hl 0 rfl) ?_
    refine lv_iconst (v := 2) hx hb dL_law_249 (by decide) ?_
    refine lv_iadd hx hb dL_law_250 ?_
    refine lv_topi (fun x243 ex243 => ?_)
    obtain ⟨tx243, ejx243, evx243⟩ := lw_ix (k := 2) ex243 hI hL rfl (by decide)
    clear tx243
    refine va_sld hx hb hX hbl (Nat.not_le.mpr hbl) hSH187 (vp_in_iff.mpr evx243) dL_law_251 ?_
    refine W.eq (g2 := F0 m 252 ls [.int (xs (i.toNatClampNeg + 2)), .int (xs (i.toNatClampNeg + 1)), .ref b]) (congrArg (fun z => F0 m 252 ls [.int (xs z), .int (xs (i.toNatClampNeg + 1)), .ref b]) ejx243) ?_
    refine lv_aload_n hx hb dL_law_252 rfl (lv_at hl 3 rfl) ?_
    refine lv_iload_n hx hb dL_law_253 rfl (lv_at hl 0 rfl) ?_
    refine lv_iconst (v := 3) hx hb dL_law_254 (by decide) ?_
    refine lv_iadd hx hb dL_law_255 ?_
    refine lv_topi (fun x244 ex244 => ?_)
    obtain ⟨tx244, ejx244, evx244⟩ := lw_ix (k := 3) ex244 hI hL rfl (by decide)
    clear tx244
    refine va_sld hx hb hX hbl (Nat.not_le.mpr hbl) hSH187 (vp_in_iff.mpr evx244) dL_law_256 ?_
    refine W.eq (g2 := F0 m 257 ls [.int (xs (i.toNatClampNeg + 3)), .int (xs (i.toNatClampNeg + 2)), .int (xs (i.toNatClampNeg + 1)), .ref b]) (congrArg (fun z => F0 m 257 ls [.int (xs z), .int (xs (i.toNatClampNeg + 2)), .int (xs (i.toNatClampNeg + 1)), .ref b]) ejx244) ?_
    refine lv_aload_n hx hb dL_law_257 rfl (lv_at hl 3 rfl) ?_
    refine lv_iload_n hx hb dL_law_258 rfl (lv_at hl 0 rfl) ?_
    refine lv_iconst (v := 4) hx hb dL_law_259 (by decide) ?_
    refine lv_iadd hx hb dL_law_260 ?_
    refine lv_topi (fun x245 ex245 => ?_)
    obtain ⟨tx245, ejx245, evx245⟩ := lw_ix (k := 4) ex245 hI hL rfl (by decide)
    clear tx245
    refine va_sld hx hb hX hbl (Nat.not_le.mpr hbl) hSH187 (vp_in_iff.mpr evx245) dL_law_261 ?_
    refine W.eq (g2 := F0 m 262 ls [.int (xs (i.toNatClampNeg + 4)), .int (xs (i.toNatClampNeg + 3)), .int (xs (i.toNatClampNeg + 2)), .int (xs (i.toNatClampNeg + 1)), .ref b]) (congrArg (fun z => F0 m 262 ls [.int (xs z), .int (xs (i.toNatClampNeg + 3)), .int (xs (i.toNatClampNeg + 2)), .int (xs (i.toNatClampNeg + 1)), .ref b]) ejx245) ?_
    refine lv_aload_n hx hb dL_law_262 rfl (lv_at hl 3 rfl) ?_
    refine lv_iload_n hx hb dL_law_263 rfl (lv_at hl 0 rfl) ?_
    refine lv_iconst (v := 5) hx hb dL_law_264 (by decide) ?_
    refine lv_iadd hx hb dL_law_265 ?_
    refine lv_topi (fun x246 ex246 => ?_)
    obtain ⟨tx246, ejx246, evx246⟩ := lw_ix (k := 5) ex246 hI hL rfl (by decide)
    clear tx246
    refine va_sld hx hb hX hbl (Nat.not_le.mpr hbl) hSH187 (vp_in_iff.mpr evx246) dL_law_266 ?_
    refine W.eq (g2 := F0 m 267 ls [.int (xs (i.toNatClampNeg + 5)), .int (xs (i.toNatClampNeg + 4)), .int (xs (i.toNatClampNeg + 3)), .int (xs (i.toNatClampNeg + 2)), .int (xs (i.toNatClampNeg + 1)), .ref b]) (congrArg (fun z => F0 m 267 ls [.int (xs z), .int (xs (i.toNatClampNeg + 4)), .int (xs (i.toNatClampNeg + 3)), .int (xs (i.toNatClampNeg + 2)), .int (xs (i.toNatClampNeg + 1)), .ref b]) ejx246) ?_
    refine x_V (As := [.int (xs (i.toNatClampNeg + 1)), .int (xs (i.toNatClampNeg + 2)), .int (xs (i.toNatClampNeg + 3)), .int (xs (i.toNatClampNeg + 4)), .int (xs (i.toNatClampNeg + 5))]) (rest := []) C (a_X10_slice l K G H187 ((xs (i.toNatClampNeg + 1))) ((xs (i.toNatClampNeg + 2))) ((xs (i.toNatClampNeg + 3))) ((xs (i.toNatClampNeg + 4))) ((xs (i.toNatClampNeg + 5))) hTH187 gb g189 g190 g191 g192) yo_X10_slice wM_L_22 ⟨⟨by decide, by decide⟩, show _ ≤ 284929 from Nat.le_trans hc (by decide), show _ ≤ 8247460 from Nat.le_trans hs (by decide)⟩ (x_rv C hTH187 (ci := 10) rfl gb rg_112) rfl hl.1 rfl (Nat.le_of_ble_eq_true rfl) dL_law_267 hSH187 (AE_new hN hSH187.1) (fun vH247 H247 locsH247 pH247 zH247 kH247 hSH247 => ?_)
    obtain ⟨x248, hvH247, bx248, g249, g250, g251, g252, mf253, hTH247⟩ := pH247
    subst hvH247
    have f254 : ∀ j : Nat, j < 8 → fI H247 cn j = fI H cn j := fun j hj => (fI_kept (x_lt hTH187 kH247 gcn (by decide))).trans (f193 j hj)
    have f255 : ∀ j : Nat, j < 8 → fI H247 xn j = fI H xn j := fun j hj => (fI_kept (x_lt hTH187 kH247 gxn (by decide))).trans (f194 j hj)
    have f256 : ∀ j : Nat, j < 8 → fI H247 cl j = fI H cl j := fun j hj => (fI_kept (x_lt hTH187 kH247 gcl (by decide))).trans (f195 j hj)
    have f257 : ∀ j : Nat, j < 8 → fI H247 xl j = fI H xl j := fun j hj => (fI_kept (x_lt hTH187 kH247 gxl (by decide))).trans (f196 j hj)
    have f258 : ∀ j : Nat, j < 8 → fI H247 ck j = fI H ck j := fun j hj => (fI_kept (x_lt hTH187 kH247 gck (by decide))).trans (f197 j hj)
    have f259 : ∀ j : Nat, j < 8 → fI H247 xk j = fI H xk j := fun j hj => (fI_kept (x_lt hTH187 kH247 gxk (by decide))).trans (f198 j hj)
    have f260 : ∀ j : Nat, j < 8 → fI H247 dn j = fI H dn j := fun j hj => (fI_kept (x_lt hTH187 kH247 gdn (by decide))).trans (f199 j hj)
    have f261 : ∀ j : Nat, j < 8 → fI H247 dl j = fI H dl j := fun j hj => (fI_kept (x_lt hTH187 kH247 gdl (by decide))).trans (f200 j hj)
    have f262 : ∀ j : Nat, j < 8 → fI H247 dk j = fI H dk j := fun j hj => (fI_kept (x_lt hTH187 kH247 gdk (by decide))).trans (f201 j hj)
    have f263 : ∀ j : Nat, fI H247 iq j = fI H iq j := fun j => (fI_kept (x_lt hTH187 kH247 giq (by decide))).trans (f202 j)
    have m264 := (m203).trans (fR_kept (x_lt hTH187 kH247 ga (by decide))).symm
    have m265 := (m204).trans (fI_kept (x_lt hTH187 kH247 ga (by decide))).symm
    have m266 := (m206).trans (fI_kept (x_lt hTH187 kH247 gw (by decide))).symm
    have m267 := (m208).trans (fI_kept (x_lt hTH187 kH247 gw (by decide))).symm
    have m268 := (m210).trans (fI_kept (x_lt hTH187 kH247 gw (by decide))).symm
    have m269 := (m212).trans (fI_kept (x_lt hTH187 kH247 gw (by decide))).symm
    have m270 := (m214).trans (fI_kept (x_lt hTH187 kH247 gw (by decide))).symm
    have m271 := (m216).trans (fI_kept (x_lt hTH187 kH247 gw (by decide))).symm
    have m272 := (m218).trans (fR_kept (x_lt hTH187 kH247 gw (by decide))).symm
    have m273 := (m220).trans (fR_kept (x_lt hTH187 kH247 gw (by decide))).symm
    have m274 := (m222).trans (fR_kept (x_lt hTH187 kH247 gw (by decide))).symm
    have m275 := (fV_kept (x_lt hTH187 kH247 ga (by decide))).trans m225
    have m276 := (m227).trans (fI_kept (x_lt hTH187 kH247 gkq (by decide))).symm
    have m277 := (m228).trans (fI_kept (x_lt hTH187 kH247 giq (by decide))).symm
    have m278 := (m229).trans (fI_kept (x_lt hTH187 kH247 gkq (by decide))).symm
    have m279 := (m230).trans (fI_kept (x_lt hTH187 kH247 giq (by decide))).symm
    have m280 := (m231).trans (fI_kept (x_lt hTH187 kH247 gkq (by decide))).symm
    have m281 := (m232).trans (fI_kept (x_lt hTH187 kH247 giq (by decide))).symm
    have m282 := (m233).trans (fI_kept (x_lt hTH187 kH247 gkq (by decide))).symm
    have m283 := (m234).trans (fI_kept (x_lt hTH187 kH247 giq (by decide))).symm
    have m284 := (m235).trans (fI_kept (x_lt hTH187 kH247 gkq (by decide))).symm
    have m285 := (m236).trans (fI_kept (x_lt hTH187 kH247 giq (by decide))).symm
    have m286 := (m237).trans (fI_kept (x_lt hTH187 kH247 gkq (by decide))).symm
    have m287 := (m238).trans (fI_kept (x_lt hTH187 kH247 giq (by decide))).symm
    have m288 := (m239).trans (fR_kept (x_lt hTH187 kH247 gkq (by decide))).symm
    have m289 := (m240).trans (fR_kept (x_lt hTH187 kH247 gkq (by decide))).symm
    have m290 := (m241).trans (fR_kept (x_lt hTH187 kH247 gkq (by decide))).symm
    have m291 := (m205).trans (MF.i mf253 (k := 18) (by decide) (by decide)).symm
    have m292 := (m207).trans (MF.i mf253 (k := 1) (by decide) (by decide)).symm
    have m293 := (m209).trans (MF.i mf253 (k := 2) (by decide) (by decide)).symm
    have m294 := (m211).trans (MF.i mf253 (k := 3) (by decide) (by decide)).symm
    have m295 := (m213).trans (MF.i mf253 (k := 59) (by decide) (by decide)).symm
    have m296 := (m215).trans (MF.i mf253 (k := 62) (by decide) (by decide)).symm
    have m297 := (m217).trans (MF.i mf253 (k := 65) (by decide) (by decide)).symm
    have m298 := (m219).trans (MF.r mf253 (k := 64) (by decide) (by decide)).symm
    have m299 := (m221).trans (MF.r mf253 (k := 66) (by decide) (by decide)).symm
    have m300 := (m223).trans (MF.r mf253 (k := 67) (by decide) (by decide)).symm
    have m301 := (m224).trans (MF.i mf253 (k := 70) (by decide) (by decide)).symm
    have m302 := (m226).trans (MF.r mf253 (k := 73) (by decide) (by decide)).symm
    refine W.eq (g2 := F0 m 270 ls [.int x248]) rfl ?_
    clear f193 f194 f195 f196 f197 f198 f199 f200 f201 f202 m203 m204 m205 m206 m207 m208 m209 m210 m211 m212 m213 m214 m215 m216 m217 m218 m219 m220 m221 m222 m223 m224 m225 m226 m227 m228 m229 m230 m231 m232 m233 m234 m235 m236 m237 m238 m239 m240 m241
    refine lv_pop hx hb dL_law_270 rfl ?_
    refine lv_goto (tgt := 1509) hx hb dL_law_271 (by decide) ?_
    exact nx G H247 locsH247 _ _ ls ⟨hTH247, hN, ga, gb, g249, g250, g251, g252, ⟨(by rw [← m265, ← m291]; exact rt), (by rw [← m264, ← m266, ← m292]; exact r1), (by rw [← m264, ← m267, ← m293]; exact r4), (by rw [← m264, ← m268, ← m294]; exact r5), (by rw [← m264, ← m269, ← m295]; exact r10), (by rw [← m264, ← m270, ← m296]; exact r13), (by rw [← m264, ← m271, ← m297]; exact r16)⟩, Or.inr ⟨kq, m275, gkq, (by rw [← m301]; exact h70), (by rw [← m276, ← m302, ← m277]; exact q1), (by rw [← m278, ← m302, ← m279]; exact q4), (by rw [← m280, ← m302, ← m281]; exact q5), (by rw [← m282, ← m302, ← m283]; exact q10), (by rw [← m284, ← m302, ← m285]; exact q13), (by rw [← m286, ← m302, ← m287]; exact q16), (by rw [← m288, ← m302, ← m284]; exact EQR.of hsn (fun j hj => f260 j (by omega)) (fun j hj => f263 _) (by omega)), (by rw [← m289, ← m302, ← m286]; exact EQR.of hsl (fun j hj => f261 j (by omega)) (fun j hj => f263 _) (by omega)), (by rw [← m290, ← m302, ← m286]; exact EQR.of hsk (fun j hj => f262 j (by omega)) (fun j hj => f263 _) (by omega))⟩, ⟨(by rw [← m264, ← m272, ← m298, ← m296]; exact EQR.of hrn (fun j hj => f254 j (by omega)) (fun j hj => f255 j (by omega)) (by omega)), (by rw [← m264, ← m273, ← m299, ← m297]; exact EQR.of hrl (fun j hj => f256 j (by omega)) (fun j hj => f257 j (by omega)) (by omega)), (by rw [← m264, ← m274, ← m300, ← m297]; exact EQR.of hrk (fun j hj => f258 j (by omega)) (fun j hj => f259 j (by omega)) (by omega))⟩, hSH247⟩ hl ⟨hc, hs, fun h => by have h1 := h.symm.trans m275; cases h1⟩
set_option maxRecDepth 100000 in
set_option maxHeartbeats 8000000 in
theorem lw_c2 {p : Program} {l : Launch} {e : Env} {s : State} {m : MethodId} {below : List Frame} {meth : Method} {c : Code} {K : KE} {b0 L : Nat} {xs : Nat → Int32} {G : Nat → Option Nat} {H : Heap} {locs : List Loc} {a b : Nat} {cells slots : Nat} {ls : Array Slot} {i : Int32} {n : Nat} (D : LC p K s m meth c b0 L xs) (S : SX K s G H locs a b) (hl : lv_has ls 4 [(3, .int i), (2, .ref b), (1, .ref a), (0, .ref b0)]) (hi : 0 ≤ i.toInt ∧ i.toInt + 6 ≤ L) (hn : n ≤ 511) (hB : BD K H a cells slots) (nx : ∀ (G : Nat → Option Nat) (H : Heap) (locs : List Loc) (cells slots : Nat) (ls : Array Slot), SX K s G H locs a b → lv_has ls 4 [(3, .int i), (2, .ref b), (1, .ref a), (0, .ref b0)] → BD K H a cells slots → W p l e room_1 s m #[Value.ref b0] below meth c H locs cells slots (lw_Z below #[Value.ref b0] s) (F0 m 1509 ls [])) : W p l e room_1 s m #[Value.ref b0] below meth c H locs cells slots (lw_Z below #[Value.ref b0] s) (F0 m 274 ls []) := by
  have hI := hi
  obtain ⟨C, hX, hbl, hL⟩ := id D
  obtain ⟨hx, hb, hml, hown, hts, hKT, hr, hlocks, hnm⟩ := id C
  obtain ⟨hT, hN, ga, gb, cg, tu, wd, im, ⟨rt, r1, r4, r5, r10, r13, r16⟩, hk, hnb, hS⟩ := S
  obtain ⟨hc, hs, hB0⟩ := hB
  have n_1 : (1 : Int32).toInt = 1 := rfl
  have n_2 : (2 : Int32).toInt = 2 := rfl
  have n_3 : (3 : Int32).toInt = 3 := rfl
  obtain ⟨w, ew⟩ : ∃ z : Nat, z = fR H a (K.1.2 9 0) := ⟨_, rfl⟩
  have gw := ty_fr (q := w) (k := 0) (u := 0) ew hT ga rg_68 rfl
  rw [← ew] at r1 r4 r5 r10 r13 r16
  obtain ⟨ta, eta⟩ : ∃ z : Int32, z = fI H a (K.1.2 9 3) := ⟨_, rfl⟩
  rw [← eta] at rt
  obtain ⟨tb, etb⟩ : ∃ z : Int32, z = fI H b (K.1.2 10 18) := ⟨_, rfl⟩
  rw [← etb] at rt
  obtain ⟨s1, es1⟩ : ∃ z : Int32, z = fI H w (K.1.2 8 1) := ⟨_, rfl⟩
  rw [← es1] at r1
  obtain ⟨y1, ey1⟩ : ∃ z : Int32, z = fI H b (K.1.2 10 1) := ⟨_, rfl⟩
  rw [← ey1] at r1
  obtain ⟨s4, es4⟩ : ∃ z : Int32, z = fI H w (K.1.2 8 4) := ⟨_, rfl⟩
  rw [← es4] at r4
  obtain ⟨y4, ey4⟩ : ∃ z : Int32, z = fI H b (K.1.2 10 2) := ⟨_, rfl⟩
  rw [← ey4] at r4
  obtain ⟨s5, es5⟩ : ∃ z : Int32, z = fI H w (K.1.2 8 5) := ⟨_, rfl⟩
  rw [← es5] at r5
  obtain ⟨y5, ey5⟩ : ∃ z : Int32, z = fI H b (K.1.2 10 3) := ⟨_, rfl⟩
  rw [← ey5] at r5
  obtain ⟨s10, es10⟩ : ∃ z : Int32, z = fI H w (K.1.2 8 10) := ⟨_, rfl⟩
  rw [← es10] at r10
  obtain ⟨y10, ey10⟩ : ∃ z : Int32, z = fI H b (K.1.2 10 59) := ⟨_, rfl⟩
  rw [← ey10] at r10
  obtain ⟨s13, es13⟩ : ∃ z : Int32, z = fI H w (K.1.2 8 13) := ⟨_, rfl⟩
  rw [← es13] at r13
  obtain ⟨y13, ey13⟩ : ∃ z : Int32, z = fI H b (K.1.2 10 62) := ⟨_, rfl⟩
  rw [← ey13] at r13
  obtain ⟨s16, es16⟩ : ∃ z : Int32, z = fI H w (K.1.2 8 16) := ⟨_, rfl⟩
  rw [← es16] at r16
  obtain ⟨y16, ey16⟩ : ∃ z : Int32, z = fI H b (K.1.2 10 65) := ⟨_, rfl⟩
  rw [← ey16] at r16
  obtain ⟨hb1, hb2, hb3⟩ := hnb
  obtain ⟨cn, ecn⟩ : ∃ z : Nat, z = fR H w (K.1.2 8 12) := ⟨_, rfl⟩
  have gcn := ty_fr (q := cn) (k := 12) (u := 31) ecn hT gw rg_0 rfl
  obtain ⟨xn, exn⟩ : ∃ z : Nat, z = fR H b (K.1.2 10 64) := ⟨_, rfl⟩
  have gxn := ty_fr (q := xn) (k := 64) (u := 157) exn hT gb rg_112 rfl
  obtain ⟨cl, ecl⟩ : ∃ z : Nat, z = fR H w (K.1.2 8 14) := ⟨_, rfl⟩
  have gcl := ty_fr (q := cl) (k := 14) (u := 32) ecl hT gw rg_0 rfl
  obtain ⟨xl, exl⟩ : ∃ z : Nat, z = fR H b (K.1.2 10 66) := ⟨_, rfl⟩
  have gxl := ty_fr (q := xl) (k := 66) (u := 158) exl hT gb rg_112 rfl
  obtain ⟨ck, eck⟩ : ∃ z : Nat, z = fR H w (K.1.2 8 15) := ⟨_, rfl⟩
  have gck := ty_fr (q := ck) (k := 15) (u := 33) eck hT gw rg_0 rfl
  obtain ⟨xk, exk⟩ : ∃ z : Nat, z = fR H b (K.1.2 10 67) := ⟨_, rfl⟩
  have gxk := ty_fr (q := xk) (k := 67) (u := 159) exk hT gb rg_112 rfl
  have hrn : EQR (fun j => fI H cn j) (fun j => fI H xn j) y13.toInt := by rw [ecn, exn, ew, ey13]; exact hb1
  have hrl : EQR (fun j => fI H cl j) (fun j => fI H xl j) y16.toInt := by rw [ecl, exl, ew, ey16]; exact hb2
  have hrk : EQR (fun j => fI H ck j) (fun j => fI H xk j) y16.toInt := by rw [eck, exk, ew, ey16]; exact hb3
  have by13 := ty_fi (x := y13) (k := 62) ey13 hT gb rg_112 rfl
  have by16 := ty_fi (x := y16) (k := 65) ey16 hT gb rg_112 rfl
  have f0cn : ∀ j : Nat, j < 8 → fI H cn j = fI H cn j := fun _ _ => rfl
  have f0xn : ∀ j : Nat, j < 8 → fI H xn j = fI H xn j := fun _ _ => rfl
  have f0cl : ∀ j : Nat, j < 8 → fI H cl j = fI H cl j := fun _ _ => rfl
  have f0xl : ∀ j : Nat, j < 8 → fI H xl j = fI H xl j := fun _ _ => rfl
  have f0ck : ∀ j : Nat, j < 8 → fI H ck j = fI H ck j := fun _ _ => rfl
  have f0xk : ∀ j : Nat, j < 8 → fI H xk j = fI H xk j := fun _ _ => rfl
  rcases hk with ⟨kn, h70⟩ | ⟨kq, kn, gkq, h70, q1, q4, q5, q10, q13, q16, hq1, hq2, hq3⟩
  · skip
    obtain ⟨hi, ehi⟩ : ∃ z : Int32, z = fI H b (K.1.2 10 70) := ⟨_, rfl⟩
    rw [← ehi] at h70
    obtain ⟨hc0, hs0⟩ := hB0 kn
    refine lv_aload_n hx hb dL_law_274 rfl (lv_at hl 2 rfl) ?_
    refine lv_aload_n hx hb dL_law_275 rfl (lv_at hl 3 rfl) ?_
    refine lv_iload_n hx hb dL_law_276 rfl (lv_at hl 0 rfl) ?_
    refine lv_iconst (v := 1) hx hb dL_law_277 (by decide) ?_
    refine lv_iadd hx hb dL_law_278 ?_
    refine lv_topi (fun x101 ex101 => ?_)
    obtain ⟨tx101, ejx101, evx101⟩ := lw_ix (k := 1) ex101 hI hL rfl (by decide)
    clear tx101
    refine va_sld hx hb hX hbl (Nat.not_le.mpr hbl) hS (vp_in_iff.mpr evx101) dL_law_279 ?_
    refine W.eq (g2 := F0 m 280 ls [.int (xs (i.toNatClampNeg + 1)), .ref a]) (congrArg (fun z => F0 m 280 ls [.int (xs z), .ref a]) ejx101) ?_
    refine lv_aload_n hx hb dL_law_280 rfl (lv_at hl 3 rfl) ?_
    refine lv_iload_n hx hb dL_law_281 rfl (lv_at hl 0 rfl) ?_
    refine lv_iconst (v := 2) hx hb dL_law_282 (by decide) ?_
    refine lv_iadd hx hb dL_law_283 ?_
    refine lv_topi (fun x102 ex102 => ?_)
    obtain ⟨tx102, ejx102, evx102⟩ := lw_ix (k := 2) ex102 hI hL rfl (by decide)
    clear tx102
    refine va_sld hx hb hX hbl (Nat.not_le.mpr hbl) hS (vp_in_iff.mpr evx102) dL_law_284 ?_
    refine W.eq (g2 := F0 m 285 ls [.int (xs (i.toNatClampNeg + 2)), .int (xs (i.toNatClampNeg + 1)), .ref a]) (congrArg (fun z => F0 m 285 ls [.int (xs z), .int (xs (i.toNatClampNeg + 1)), .ref a]) ejx102) ?_
    refine lv_aload_n hx hb dL_law_285 rfl (lv_at hl 3 rfl) ?_
    refine lv_iload_n hx hb dL_law_286 rfl (lv_at hl 0 rfl) ?_
    refine lv_iconst (v := 3) hx hb dL_law_287 (by decide) ?_
    refine lv_iadd hx hb dL_law_288 ?_
    refine lv_topi (fun x103 ex103 => ?_)
    obtain ⟨tx103, ejx103, evx103⟩ := lw_ix (k := 3) ex103 hI hL rfl (by decide)
    clear tx103
    refine va_sld hx hb hX hbl (Nat.not_le.mpr hbl) hS (vp_in_iff.mpr evx103) dL_law_289 ?_
    refine W.eq (g2 := F0 m 290 ls [.int (xs (i.toNatClampNeg + 3)), .int (xs (i.toNatClampNeg + 2)), .int (xs (i.toNatClampNeg + 1)), .ref a]) (congrArg (fun z => F0 m 290 ls [.int (xs z), .int (xs (i.toNatClampNeg + 2)), .int (xs (i.toNatClampNeg + 1)), .ref a]) ejx103) ?_
    refine x_V (As := [.int (xs (i.toNatClampNeg + 1)), .int (xs (i.toNatClampNeg + 2)), .int (xs (i.toNatClampNeg + 3))]) (rest := []) C (a_X9_wax l K G H ((xs (i.toNatClampNeg + 1))) ((xs (i.toNatClampNeg + 2))) ((xs (i.toNatClampNeg + 3))) hT ga) yo_X9_wax wM_L_23 ⟨⟨by decide, by decide⟩, show _ ≤ 284929 from Nat.le_trans hc (by decide), show _ ≤ 8247460 from Nat.le_trans hs (by decide)⟩ (x_rv C hT (ci := 9) rfl ga rg_68) rfl hl.1 rfl (Nat.le_of_ble_eq_true rfl) dL_law_290 hS (AE_new hN hS.1) (fun vH104 H104 locsH104 pH104 zH104 kH104 hSH104 => ?_)
    obtain ⟨x105, hvH104, bx105, hTH104⟩ := pH104
    subst hvH104
    have g106 : CG (avw K H104 b) := CG.congr (fun k hk j => av_eff hT kH104 gb (by decide) (CG_eff [5] (by decide) k hk)) cg
    have g107 : TU (avw K H104 b) (svw K H104 b) := TU.congr (fun k hk j => av_eff hT kH104 gb (by decide) (TU_eff [5] (by decide) k hk)) (fun k hk => sv_eff hT kH104 gb (by decide)) tu
    have g108 : WD (avw K H104 b) := WD.congr (fun k hk j => av_eff hT kH104 gb (by decide) (WD_eff [5] (by decide) k hk)) wd
    have g109 : IM (avw K H104 b) := IM.congr (fun k hk j => av_eff hT kH104 gb (by decide) (IM_eff [5] (by decide) k hk)) im
    have f110 : ∀ j : Nat, j < 8 → fI H104 cn j = fI H cn j := fun j hj => (fI_kept (x_lt hT kH104 gcn (by decide))).trans (f0cn j hj)
    have f111 : ∀ j : Nat, j < 8 → fI H104 xn j = fI H xn j := fun j hj => (fI_kept (x_lt hT kH104 gxn (by decide))).trans (f0xn j hj)
    have f112 : ∀ j : Nat, j < 8 → fI H104 cl j = fI H cl j := fun j hj => (fI_kept (x_lt hT kH104 gcl (by decide))).trans (f0cl j hj)
    have f113 : ∀ j : Nat, j < 8 → fI H104 xl j = fI H xl j := fun j hj => (fI_kept (x_lt hT kH104 gxl (by decide))).trans (f0xl j hj)
    have f114 : ∀ j : Nat, j < 8 → fI H104 ck j = fI H ck j := fun j hj => (fI_kept (x_lt hT kH104 gck (by decide))).trans (f0ck j hj)
    have f115 : ∀ j : Nat, j < 8 → fI H104 xk j = fI H xk j := fun j hj => (fI_kept (x_lt hT kH104 gxk (by decide))).trans (f0xk j hj)
    have m116 := (ew).trans (fR_kept (x_lt hT kH104 ga (by decide))).symm
    have m117 := (eta).trans (fI_kept (x_lt hT kH104 ga (by decide))).symm
    have m118 := (etb).trans (fI_kept (x_lt hT kH104 gb (by decide))).symm
    have m119 := (es1).trans (fI_kept (x_lt hT kH104 gw (by decide))).symm
    have m120 := (ey1).trans (fI_kept (x_lt hT kH104 gb (by decide))).symm
    have m121 := (es4).trans (fI_kept (x_lt hT kH104 gw (by decide))).symm
    have m122 := (ey4).trans (fI_kept (x_lt hT kH104 gb (by decide))).symm
    have m123 := (es5).trans (fI_kept (x_lt hT kH104 gw (by decide))).symm
    have m124 := (ey5).trans (fI_kept (x_lt hT kH104 gb (by decide))).symm
    have m125 := (es10).trans (fI_kept (x_lt hT kH104 gw (by decide))).symm
    have m126 := (ey10).trans (fI_kept (x_lt hT kH104 gb (by decide))).symm
    have m127 := (es13).trans (fI_kept (x_lt hT kH104 gw (by decide))).symm
    have m128 := (ey13).trans (fI_kept (x_lt hT kH104 gb (by decide))).symm
    have m129 := (es16).trans (fI_kept (x_lt hT kH104 gw (by decide))).symm
    have m130 := (ey16).trans (fI_kept (x_lt hT kH104 gb (by decide))).symm
    have m131 := (ecn).trans (fR_kept (x_lt hT kH104 gw (by decide))).symm
    have m132 := (exn).trans (fR_kept (x_lt hT kH104 gb (by decide))).symm
    have m133 := (ecl).trans (fR_kept (x_lt hT kH104 gw (by decide))).symm
    have m134 := (exl).trans (fR_kept (x_lt hT kH104 gb (by decide))).symm
    have m135 := (eck).trans (fR_kept (x_lt hT kH104 gw (by decide))).symm
    have m136 := (exk).trans (fR_kept (x_lt hT kH104 gb (by decide))).symm
    have m137 := (ehi).trans (fI_kept (x_lt hT kH104 gb (by decide))).symm
    have m138 := (fV_kept (x_lt hT kH104 ga (by decide))).trans kn
    refine W.eq (g2 := F0 m 293 ls [.int x105]) rfl ?_
    clear eck ecl ecn ehi es1 es10 es13 es16 es4 es5 eta etb ew exk exl exn ey1 ey10 ey13 ey16 ey4 ey5 f0ck f0cl f0cn f0xk f0xl f0xn kn
    refine lv_pop hx hb dL_law_293 rfl ?_
    refine lv_aload_n hx hb dL_law_294 rfl (lv_at hl 1 rfl) ?_
    refine lv_aload_n hx hb dL_law_295 rfl (lv_at hl 3 rfl) ?_
    refine lv_iload_n hx hb dL_law_296 rfl (lv_at hl 0 rfl) ?_
    refine lv_iconst (v := 1) hx hb dL_law_297 (by decide) ?_
    refine lv_iadd hx hb dL_law_298 ?_
    refine lv_topi (fun x139 ex139 => ?_)
    obtain ⟨tx139, ejx139, evx139⟩ := lw_ix (k := 1) ex139 hI hL rfl (by decide)
    clear tx139
    refine va_sld hx hb hX hbl (Nat.not_le.mpr hbl) hSH104 (vp_in_iff.mpr evx139) dL_law_299 ?_
    refine W.eq (g2 := F0 m 300 ls [.int (xs (i.toNatClampNeg + 1)), .ref b]) (congrArg (fun z => F0 m 300 ls [.int (xs z), .ref b]) ejx139) ?_
    refine lv_aload_n hx hb dL_law_300 rfl (lv_at hl 3 rfl) ?_
    refine lv_iload_n hx hb dL_law_301 rfl (lv_at hl 0 rfl) ?_
    refine lv_iconst (v := 2) hx hb dL_law_302 (by decide) ?_
    refine lv_iadd hx hb dL_law_303 ?_
    refine lv_topi (fun x140 ex140 => ?_)
    obtain ⟨tx140, ejx140, evx140⟩ := lw_ix (k := 2) ex140 hI hL rfl (by decide)
    clear tx140
    refine va_sld hx hb hX hbl (Nat.not_le.mpr hbl) hSH104 (vp_in_iff.mpr evx140) dL_law_304 ?_
    refine W.eq (g2 := F0 m 305 ls [.int (xs (i.toNatClampNeg + 2)), .int (xs (i.toNatClampNeg + 1)), .ref b]) (congrArg (fun z => F0 m 305 ls [.int (xs z), .int (xs (i.toNatClampNeg + 1)), .ref b]) ejx140) ?_
    refine lv_aload_n hx hb dL_law_305 rfl (lv_at hl 3 rfl) ?_
    refine lv_iload_n hx hb dL_law_306 rfl (lv_at hl 0 rfl) ?_
    refine lv_iconst (v := 3) hx hb dL_law_307 (by decide) ?_
    refine lv_iadd hx hb dL_law_308 ?_
    refine lv_topi (fun x141 ex141 => ?_)
    obtain ⟨tx141, ejx141, evx141⟩ := lw_ix (k := 3) ex141 hI hL rfl (by decide)
    clear tx141
    refine va_sld hx hb hX hbl (Nat.not_le.mpr hbl) hSH104 (vp_in_iff.mpr evx141) dL_law_309 ?_
    refine W.eq (g2 := F0 m 310 ls [.int (xs (i.toNatClampNeg + 3)), .int (xs (i.toNatClampNeg + 2)), .int (xs (i.toNatClampNeg + 1)), .ref b]) (congrArg (fun z => F0 m 310 ls [.int (xs z), .int (xs (i.toNatClampNeg + 2)), .int (xs (i.toNatClampNeg + 1)), .ref b]) ejx141) ?_
    refine x_V (As := [.int (xs (i.toNatClampNeg + 1)), .int (xs (i.toNatClampNeg + 2)), .int (xs (i.toNatClampNeg + 3))]) (rest := []) C (a_X10_wax l K G H104 ((xs (i.toNatClampNeg + 1))) ((xs (i.toNatClampNeg + 2))) ((xs (i.toNatClampNeg + 3))) hTH104 gb g106 g107 g108 g109) yo_X10_wax wM_L_27 ⟨⟨by decide, by decide⟩, show _ ≤ 284929 from Nat.le_trans hc (by decide), show _ ≤ 8247460 from Nat.le_trans hs (by decide)⟩ (x_rv C hTH104 (ci := 10) rfl gb rg_112) rfl hl.1 rfl (Nat.le_of_ble_eq_true rfl) dL_law_310 hSH104 (AE_new hN hSH104.1) (fun vH142 H142 locsH142 pH142 zH142 kH142 hSH142 => ?_)
    obtain ⟨x143, hvH142, bx143, g144, g145, g146, g147, mf148, hTH142⟩ := pH142
    subst hvH142
    have f149 : ∀ j : Nat, j < 8 → fI H142 cn j = fI H cn j := fun j hj => (fI_kept (x_lt hTH104 kH142 gcn (by decide))).trans (f110 j hj)
    have f150 : ∀ j : Nat, j < 8 → fI H142 xn j = fI H xn j := fun j hj => (fI_kept (x_lt hTH104 kH142 gxn (by decide))).trans (f111 j hj)
    have f151 : ∀ j : Nat, j < 8 → fI H142 cl j = fI H cl j := fun j hj => (fI_kept (x_lt hTH104 kH142 gcl (by decide))).trans (f112 j hj)
    have f152 : ∀ j : Nat, j < 8 → fI H142 xl j = fI H xl j := fun j hj => (fI_kept (x_lt hTH104 kH142 gxl (by decide))).trans (f113 j hj)
    have f153 : ∀ j : Nat, j < 8 → fI H142 ck j = fI H ck j := fun j hj => (fI_kept (x_lt hTH104 kH142 gck (by decide))).trans (f114 j hj)
    have f154 : ∀ j : Nat, j < 8 → fI H142 xk j = fI H xk j := fun j hj => (fI_kept (x_lt hTH104 kH142 gxk (by decide))).trans (f115 j hj)
    have m155 := (m116).trans (fR_kept (x_lt hTH104 kH142 ga (by decide))).symm
    have m156 := (m117).trans (fI_kept (x_lt hTH104 kH142 ga (by decide))).symm
    have m157 := (m119).trans (fI_kept (x_lt hTH104 kH142 gw (by decide))).symm
    have m158 := (m121).trans (fI_kept (x_lt hTH104 kH142 gw (by decide))).symm
    have m159 := (m123).trans (fI_kept (x_lt hTH104 kH142 gw (by decide))).symm
    have m160 := (m125).trans (fI_kept (x_lt hTH104 kH142 gw (by decide))).symm
    have m161 := (m127).trans (fI_kept (x_lt hTH104 kH142 gw (by decide))).symm
    have m162 := (m129).trans (fI_kept (x_lt hTH104 kH142 gw (by decide))).symm
    have m163 := (m131).trans (fR_kept (x_lt hTH104 kH142 gw (by decide))).symm
    have m164 := (m133).trans (fR_kept (x_lt hTH104 kH142 gw (by decide))).symm
    have m165 := (m135).trans (fR_kept (x_lt hTH104 kH142 gw (by decide))).symm
    have m166 := (fV_kept (x_lt hTH104 kH142 ga (by decide))).trans m138
    have m167 := (m118).trans (MF.i mf148 (k := 18) (by decide) (by decide)).symm
    have m168 := (m120).trans (MF.i mf148 (k := 1) (by decide) (by decide)).symm
    have m169 := (m122).trans (MF.i mf148 (k := 2) (by decide) (by decide)).symm
    have m170 := (m124).trans (MF.i mf148 (k := 3) (by decide) (by decide)).symm
    have m171 := (m126).trans (MF.i mf148 (k := 59) (by decide) (by decide)).symm
    have m172 := (m128).trans (MF.i mf148 (k := 62) (by decide) (by decide)).symm
    have m173 := (m130).trans (MF.i mf148 (k := 65) (by decide) (by decide)).symm
    have m174 := (m132).trans (MF.r mf148 (k := 64) (by decide) (by decide)).symm
    have m175 := (m134).trans (MF.r mf148 (k := 66) (by decide) (by decide)).symm
    have m176 := (m136).trans (MF.r mf148 (k := 67) (by decide) (by decide)).symm
    have m177 := (m137).trans (MF.i mf148 (k := 70) (by decide) (by decide)).symm
    refine W.eq (g2 := F0 m 313 ls [.int x143]) rfl ?_
    clear f110 f111 f112 f113 f114 f115 m116 m117 m118 m119 m120 m121 m122 m123 m124 m125 m126 m127 m128 m129 m130 m131 m132 m133 m134 m135 m136 m137 m138
    refine lv_pop hx hb dL_law_313 rfl ?_
    refine lv_goto (tgt := 1509) hx hb dL_law_314 (by decide) ?_
    exact nx G H142 locsH142 _ _ ls ⟨hTH142, hN, ga, gb, g144, g145, g146, g147, ⟨(by rw [← m156, ← m167]; exact rt), (by rw [← m155, ← m157, ← m168]; exact r1), (by rw [← m155, ← m158, ← m169]; exact r4), (by rw [← m155, ← m159, ← m170]; exact r5), (by rw [← m155, ← m160, ← m171]; exact r10), (by rw [← m155, ← m161, ← m172]; exact r13), (by rw [← m155, ← m162, ← m173]; exact r16)⟩, Or.inl ⟨m166, (by rw [← m177]; exact h70)⟩, ⟨(by rw [← m155, ← m163, ← m174, ← m172]; exact EQR.of hrn (fun j hj => f149 j (by omega)) (fun j hj => f150 j (by omega)) (by omega)), (by rw [← m155, ← m164, ← m175, ← m173]; exact EQR.of hrl (fun j hj => f151 j (by omega)) (fun j hj => f152 j (by omega)) (by omega)), (by rw [← m155, ← m165, ← m176, ← m173]; exact EQR.of hrk (fun j hj => f153 j (by omega)) (fun j hj => f154 j (by omega)) (by omega))⟩, hSH142⟩ hl ⟨hc, hs, fun _ => ⟨hc0, hs0⟩⟩
  · skip
    obtain ⟨hi, ehi⟩ : ∃ z : Int32, z = fI H b (K.1.2 10 70) := ⟨_, rfl⟩
    rw [← ehi] at h70
    obtain ⟨iq, eiq⟩ : ∃ z : Nat, z = fR H b (K.1.2 10 73) := ⟨_, rfl⟩
    have giq := ty_fr (q := iq) (k := 73) (u := 162) eiq hT gb rg_112 rfl
    rw [← eiq] at q1 q4 q5 q10 q13 q16
    obtain ⟨k1, ek1⟩ : ∃ z : Int32, z = fI H kq (K.1.2 8 1) := ⟨_, rfl⟩
    rw [← ek1] at q1
    obtain ⟨i1, ei1⟩ : ∃ z : Int32, z = fI H iq ((0 : Int32).toNatClampNeg) := ⟨_, rfl⟩
    rw [← ei1] at q1
    obtain ⟨k4, ek4⟩ : ∃ z : Int32, z = fI H kq (K.1.2 8 4) := ⟨_, rfl⟩
    rw [← ek4] at q4
    obtain ⟨i4, ei4⟩ : ∃ z : Int32, z = fI H iq ((1 : Int32).toNatClampNeg) := ⟨_, rfl⟩
    rw [← ei4] at q4
    obtain ⟨k5, ek5⟩ : ∃ z : Int32, z = fI H kq (K.1.2 8 5) := ⟨_, rfl⟩
    rw [← ek5] at q5
    obtain ⟨i5, ei5⟩ : ∃ z : Int32, z = fI H iq ((2 : Int32).toNatClampNeg) := ⟨_, rfl⟩
    rw [← ei5] at q5
    obtain ⟨k10, ek10⟩ : ∃ z : Int32, z = fI H kq (K.1.2 8 10) := ⟨_, rfl⟩
    rw [← ek10] at q10
    obtain ⟨i10, ei10⟩ : ∃ z : Int32, z = fI H iq ((3 : Int32).toNatClampNeg) := ⟨_, rfl⟩
    rw [← ei10] at q10
    obtain ⟨k13, ek13⟩ : ∃ z : Int32, z = fI H kq (K.1.2 8 13) := ⟨_, rfl⟩
    rw [← ek13] at q13
    obtain ⟨i13, ei13⟩ : ∃ z : Int32, z = fI H iq ((4 : Int32).toNatClampNeg) := ⟨_, rfl⟩
    rw [← ei13] at q13
    obtain ⟨k16, ek16⟩ : ∃ z : Int32, z = fI H kq (K.1.2 8 16) := ⟨_, rfl⟩
    rw [← ek16] at q16
    obtain ⟨i16, ei16⟩ : ∃ z : Int32, z = fI H iq ((5 : Int32).toNatClampNeg) := ⟨_, rfl⟩
    rw [← ei16] at q16
    obtain ⟨dn, edn⟩ : ∃ z : Nat, z = fR H kq (K.1.2 8 12) := ⟨_, rfl⟩
    have gdn := ty_fr (q := dn) (k := 12) (u := 65) edn hT gkq rg_34 rfl
    obtain ⟨dl, edl⟩ : ∃ z : Nat, z = fR H kq (K.1.2 8 14) := ⟨_, rfl⟩
    have gdl := ty_fr (q := dl) (k := 14) (u := 66) edl hT gkq rg_34 rfl
    obtain ⟨dk, edk⟩ : ∃ z : Nat, z = fR H kq (K.1.2 8 15) := ⟨_, rfl⟩
    have gdk := ty_fr (q := dk) (k := 15) (u := 67) edk hT gkq rg_34 rfl
    have hsn : EQR (fun j => fI H dn j) (fun j => fI H iq (8877 + 4 * j)) k13.toInt := by rw [edn, eiq, ek13]; exact hq1
    have hsl : EQR (fun j => fI H dl j) (fun j => fI H iq (8878 + 4 * j)) k16.toInt := by rw [edl, eiq, ek16]; exact hq2
    have hsk : EQR (fun j => fI H dk j) (fun j => fI H iq (8879 + 4 * j)) k16.toInt := by rw [edk, eiq, ek16]; exact hq3
    have bk13 := ty_fi (x := k13) (k := 13) ek13 hT gkq rg_34 rfl
    have bk16 := ty_fi (x := k16) (k := 16) ek16 hT gkq rg_34 rfl
    have f0dn : ∀ j : Nat, j < 8 → fI H dn j = fI H dn j := fun _ _ => rfl
    have f0dl : ∀ j : Nat, j < 8 → fI H dl j = fI H dl j := fun _ _ => rfl
    have f0dk : ∀ j : Nat, j < 8 → fI H dk j = fI H dk j := fun _ _ => rfl
    have f0i : ∀ j : Nat, fI H iq j = fI H iq j := fun _ => rfl
    refine lv_aload_n hx hb dL_law_274 rfl (lv_at hl 2 rfl) ?_
    refine lv_aload_n hx hb dL_law_275 rfl (lv_at hl 3 rfl) ?_
    refine lv_iload_n hx hb dL_law_276 rfl (lv_at hl 0 rfl) ?_
    refine lv_iconst (v := 1) hx hb dL_law_277 (by decide) ?_
    refine lv_iadd hx hb dL_law_278 ?_
    refine lv_topi (fun x178 ex178 => ?_)
    obtain ⟨tx178, ejx178, evx178⟩ := lw_ix (k := 1) ex178 hI hL rfl (by decide)
    clear tx178
    refine va_sld hx hb hX hbl (Nat.not_le.mpr hbl) hS (vp_in_iff.mpr evx178) dL_law_279 ?_
    refine W.eq (g2 := F0 m 280 ls [.int (xs (i.toNatClampNeg + 1)), .ref a]) (congrArg (fun z => F0 m 280 ls [.int (xs z), .ref a]) ejx178) ?_
    refine lv_aload_n hx hb dL_law_280 rfl (lv_at hl 3 rfl) ?_
    refine lv_iload_n hx hb dL_law_281 rfl (lv_at hl 0 rfl) ?_
    refine lv_iconst (v := 2) hx hb dL_law_282 (by decide) ?_
    refine lv_iadd hx hb dL_law_283 ?_
    refine lv_topi (fun x179 ex179 => ?_)
    obtain ⟨tx179, ejx179, evx179⟩ := lw_ix (k := 2) ex179 hI hL rfl (by decide)
    clear tx179
    refine va_sld hx hb hX hbl (Nat.not_le.mpr hbl) hS (vp_in_iff.mpr evx179) dL_law_284 ?_
    refine W.eq (g2 := F0 m 285 ls [.int (xs (i.toNatClampNeg + 2)), .int (xs (i.toNatClampNeg + 1)), .ref a]) (congrArg (fun z => F0 m 285 ls [.int (xs z), .int (xs (i.toNatClampNeg + 1)), .ref a]) ejx179) ?_
    refine lv_aload_n hx hb dL_law_285 rfl (lv_at hl 3 rfl) ?_
    refine lv_iload_n hx hb dL_law_286 rfl (lv_at hl 0 rfl) ?_
    refine lv_iconst (v := 3) hx hb dL_law_287 (by decide) ?_
    refine lv_iadd hx hb dL_law_288 ?_
    refine lv_topi (fun x180 ex180 => ?_)
    obtain ⟨tx180, ejx180, evx180⟩ := lw_ix (k := 3) ex180 hI hL rfl (by decide)
    clear tx180
    refine va_sld hx hb hX hbl (Nat.not_le.mpr hbl) hS (vp_in_iff.mpr evx180) dL_law_289 ?_
    refine W.eq (g2 := F0 m 290 ls [.int (xs (i.toNatClampNeg + 3)), .int (xs (i.toNatClampNeg + 2)), .int (xs (i.toNatClampNeg + 1)), .ref a]) (congrArg (fun z => F0 m 290 ls [.int (xs z), .int (xs (i.toNatClampNeg + 2)), .int (xs (i.toNatClampNeg + 1)), .ref a]) ejx180) ?_
    refine x_V (As := [.int (xs (i.toNatClampNeg + 1)), .int (xs (i.toNatClampNeg + 2)), .int (xs (i.toNatClampNeg + 3))]) (rest := []) C (a_X9_wax l K G H ((xs (i.toNatClampNeg + 1))) ((xs (i.toNatClampNeg + 2))) ((xs (i.toNatClampNeg + 3))) hT ga) yo_X9_wax wM_L_23 ⟨⟨by decide, by decide⟩, show _ ≤ 284929 from Nat.le_trans hc (by decide), show _ ≤ 8247460 from Nat.le_trans hs (by decide)⟩ (x_rv C hT (ci := 9) rfl ga rg_68) rfl hl.1 rfl (Nat.le_of_ble_eq_true rfl) dL_law_290 hS (AE_new hN hS.1) (fun vH181 H181 locsH181 pH181 zH181 kH181 hSH181 => ?_)
    obtain ⟨x182, hvH181, bx182, hTH181⟩ := pH181
    subst hvH181
    have g183 : CG (avw K H181 b) := CG.congr (fun k hk j => av_eff hT kH181 gb (by decide) (CG_eff [5] (by decide) k hk)) cg
    have g184 : TU (avw K H181 b) (svw K H181 b) := TU.congr (fun k hk j => av_eff hT kH181 gb (by decide) (TU_eff [5] (by decide) k hk)) (fun k hk => sv_eff hT kH181 gb (by decide)) tu
    have g185 : WD (avw K H181 b) := WD.congr (fun k hk j => av_eff hT kH181 gb (by decide) (WD_eff [5] (by decide) k hk)) wd
    have g186 : IM (avw K H181 b) := IM.congr (fun k hk j => av_eff hT kH181 gb (by decide) (IM_eff [5] (by decide) k hk)) im
    have f187 : ∀ j : Nat, j < 8 → fI H181 cn j = fI H cn j := fun j hj => (fI_kept (x_lt hT kH181 gcn (by decide))).trans (f0cn j hj)
    have f188 : ∀ j : Nat, j < 8 → fI H181 xn j = fI H xn j := fun j hj => (fI_kept (x_lt hT kH181 gxn (by decide))).trans (f0xn j hj)
    have f189 : ∀ j : Nat, j < 8 → fI H181 cl j = fI H cl j := fun j hj => (fI_kept (x_lt hT kH181 gcl (by decide))).trans (f0cl j hj)
    have f190 : ∀ j : Nat, j < 8 → fI H181 xl j = fI H xl j := fun j hj => (fI_kept (x_lt hT kH181 gxl (by decide))).trans (f0xl j hj)
    have f191 : ∀ j : Nat, j < 8 → fI H181 ck j = fI H ck j := fun j hj => (fI_kept (x_lt hT kH181 gck (by decide))).trans (f0ck j hj)
    have f192 : ∀ j : Nat, j < 8 → fI H181 xk j = fI H xk j := fun j hj => (fI_kept (x_lt hT kH181 gxk (by decide))).trans (f0xk j hj)
    have f193 : ∀ j : Nat, j < 8 → fI H181 dn j = fI H dn j := fun j hj => (fI_kept (x_lt hT kH181 gdn (by decide))).trans (f0dn j hj)
    have f194 : ∀ j : Nat, j < 8 → fI H181 dl j = fI H dl j := fun j hj => (fI_kept (x_lt hT kH181 gdl (by decide))).trans (f0dl j hj)
    have f195 : ∀ j : Nat, j < 8 → fI H181 dk j = fI H dk j := fun j hj => (fI_kept (x_lt hT kH181 gdk (by decide))).trans (f0dk j hj)
    have f196 : ∀ j : Nat, fI H181 iq j = fI H iq j := fun j => (fI_kept (x_lt hT kH181 giq (by decide))).trans (f0i j)
    have m197 := (ew).trans (fR_kept (x_lt hT kH181 ga (by decide))).symm
    have m198 := (eta).trans (fI_kept (x_lt hT kH181 ga (by decide))).symm
    have m199 := (etb).trans (fI_kept (x_lt hT kH181 gb (by decide))).symm
    have m200 := (es1).trans (fI_kept (x_lt hT kH181 gw (by decide))).symm
    have m201 := (ey1).trans (fI_kept (x_lt hT kH181 gb (by decide))).symm
    have m202 := (es4).trans (fI_kept (x_lt hT kH181 gw (by decide))).symm
    have m203 := (ey4).trans (fI_kept (x_lt hT kH181 gb (by decide))).symm
    have m204 := (es5).trans (fI_kept (x_lt hT kH181 gw (by decide))).symm
    have m205 := (ey5).trans (fI_kept (x_lt hT kH181 gb (by decide))).symm
    have m206 := (es10).trans (fI_kept (x_lt hT kH181 gw (by decide))).symm
    have m207 := (ey10).trans (fI_kept (x_lt hT kH181 gb (by decide))).symm
    have m208 := (es13).trans (fI_kept (x_lt hT kH181 gw (by decide))).symm
    have m209 := (ey13).trans (fI_kept (x_lt hT kH181 gb (by decide))).symm
    have m210 := (es16).trans (fI_kept (x_lt hT kH181 gw (by decide))).symm
    have m211 := (ey16).trans (fI_kept (x_lt hT kH181 gb (by decide))).symm
    have m212 := (ecn).trans (fR_kept (x_lt hT kH181 gw (by decide))).symm
    have m213 := (exn).trans (fR_kept (x_lt hT kH181 gb (by decide))).symm
    have m214 := (ecl).trans (fR_kept (x_lt hT kH181 gw (by decide))).symm
    have m215 := (exl).trans (fR_kept (x_lt hT kH181 gb (by decide))).symm
    have m216 := (eck).trans (fR_kept (x_lt hT kH181 gw (by decide))).symm
    have m217 := (exk).trans (fR_kept (x_lt hT kH181 gb (by decide))).symm
    have m218 := (ehi).trans (fI_kept (x_lt hT kH181 gb (by decide))).symm
    have m219 := (fV_kept (x_lt hT kH181 ga (by decide))).trans kn
    have m220 := (eiq).trans (fR_kept (x_lt hT kH181 gb (by decide))).symm
    have m221 := (ek1).trans (fI_kept (x_lt hT kH181 gkq (by decide))).symm
    have m222 := (ei1).trans (fI_kept (x_lt hT kH181 giq (by decide))).symm
    have m223 := (ek4).trans (fI_kept (x_lt hT kH181 gkq (by decide))).symm
    have m224 := (ei4).trans (fI_kept (x_lt hT kH181 giq (by decide))).symm
    have m225 := (ek5).trans (fI_kept (x_lt hT kH181 gkq (by decide))).symm
    have m226 := (ei5).trans (fI_kept (x_lt hT kH181 giq (by decide))).symm
    have m227 := (ek10).trans (fI_kept (x_lt hT kH181 gkq (by decide))).symm
    have m228 := (ei10).trans (fI_kept (x_lt hT kH181 giq (by decide))).symm
    have m229 := (ek13).trans (fI_kept (x_lt hT kH181 gkq (by decide))).symm
    have m230 := (ei13).trans (fI_kept (x_lt hT kH181 giq (by decide))).symm
    have m231 := (ek16).trans (fI_kept (x_lt hT kH181 gkq (by decide))).symm
    have m232 := (ei16).trans (fI_kept (x_lt hT kH181 giq (by decide))).symm
    have m233 := (edn).trans (fR_kept (x_lt hT kH181 gkq (by decide))).symm
    have m234 := (edl).trans (fR_kept (x_lt hT kH181 gkq (by decide))).symm
    have m235 := (edk).trans (fR_kept (x_lt hT kH181 gkq (by decide))).symm
    refine W.eq (g2 := F0 m 293 ls [.int x182]) rfl ?_
    clear eck ecl ecn edk edl edn ehi ei1 ei10 ei13 ei16 ei4 ei5 eiq ek1 ek10 ek13 ek16 ek4 ek5 es1 es10 es13 es16 es4 es5 eta etb ew exk exl exn ey1 ey10 ey13 ey16 ey4 ey5 f0ck f0cl f0cn f0dk f0dl f0dn f0i f0xk f0xl f0xn kn
    refine lv_pop hx hb dL_law_293 rfl ?_
    refine lv_aload_n hx hb dL_law_294 rfl (lv_at hl 1 rfl) ?_
    refine lv_aload_n hx hb dL_law_295 rfl (lv_at hl 3 rfl) ?_
    refine lv_iload_n hx hb dL_law_296 rfl (lv_at hl 0 rfl) ?_
    refine lv_iconst (v := 1) hx hb dL_law_297 (by decide) ?_
    refine lv_iadd hx hb dL_law_298 ?_
    refine lv_topi (fun x236 ex236 => ?_)
    obtain ⟨tx236, ejx236, evx236⟩ := lw_ix (k := 1) ex236 hI hL rfl (by decide)
    clear tx236
    refine va_sld hx hb hX hbl (Nat.not_le.mpr hbl) hSH181 (vp_in_iff.mpr evx236) dL_law_299 ?_
    refine W.eq (g2 := F0 m 300 ls [.int (xs (i.toNatClampNeg + 1)), .ref b]) (congrArg (fun z => F0 m 300 ls [.int (xs z), .ref b]) ejx236) ?_
    refine lv_aload_n hx hb dL_law_300 rfl (lv_at hl 3 rfl) ?_
    refine lv_iload_n hx hb dL_law_301 rfl (lv_at hl 0 rfl) ?_
    refine lv_iconst (v := 2) hx hb dL_law_302 (by decide) ?_
    refine lv_iadd hx hb dL_law_303 ?_
    refine lv_topi (fun x237 ex237 => ?_)
    obtain ⟨tx237, ejx237, evx237⟩ := lw_ix (k := 2) ex237 hI hL rfl (by decide)
    clear tx237
    refine va_sld hx hb hX hbl (Nat.not_le.mpr hbl) hSH181 (vp_in_iff.mpr evx237) dL_law_304 ?_
    refine W.eq (g2 := F0 m 305 ls [.int (xs (i.toNatClampNeg + 2)), .int (xs (i.toNatClampNeg + 1)), .ref b]) (congrArg (fun z => F0 m 305 ls [.int (xs z), .int (xs (i.toNatClampNeg + 1)), .ref b]) ejx237) ?_
    refine lv_aload_n hx hb dL_law_305 rfl (lv_at hl 3 rfl) ?_
    refine lv_iload_n hx hb dL_law_306 rfl (lv_at hl 0 rfl) ?_
    refine lv_iconst (v := 3) hx hb dL_law_307 (by decide) ?_
    refine lv_iadd hx hb dL_law_308 ?_
    refine lv_topi (fun x238 ex238 => ?_)
    obtain ⟨tx238, ejx238, evx238⟩ := lw_ix (k := 3) ex238 hI hL rfl (by decide)
    clear tx238
    refine va_sld hx hb hX hbl (Nat.not_le.mpr hbl) hSH181 (vp_in_iff.mpr evx238) dL_law_309 ?_
    refine W.eq (g2 := F0 m 310 ls [.int (xs (i.toNatClampNeg + 3)), .int (xs (i.toNatClampNeg + 2)), .int (xs (i.toNatClampNeg + 1)), .ref b]) (congrArg (fun z => F0 m 310 ls [.int (xs z), .int (xs (i.toNatClampNeg + 2)), .int (xs (i.toNatClampNeg + 1)), .ref b]) ejx238) ?_
    refine x_V (As := [.int (xs (i.toNatClampNeg + 1)), .int (xs (i.toNatClampNeg + 2)), .int (xs (i.toNatClampNeg + 3))]) (rest := []) C (a_X10_wax l K G H181 ((xs (i.toNatClampNeg + 1))) ((xs (i.toNatClampNeg + 2))) ((xs (i.toNatClampNeg + 3))) hTH181 gb g183 g184 g185 g186) yo_X10_wax wM_L_27 ⟨⟨by decide, by decide⟩, show _ ≤ 284929 from Nat.le_trans hc (by decide), show _ ≤ 8247460 from Nat.le_trans hs (by decide)⟩ (x_rv C hTH181 (ci := 10) rfl gb rg_112) rfl hl.1 rfl (Nat.le_of_ble_eq_true rfl) dL_law_310 hSH181 (AE_new hN hSH181.1) (fun vH239 H239 locsH239 pH239 zH239 kH239 hSH239 => ?_)
    obtain ⟨x240, hvH239, bx240, g241, g242, g243, g244, mf245, hTH239⟩ := pH239
    subst hvH239
    have f246 : ∀ j : Nat, j < 8 → fI H239 cn j = fI H cn j := fun j hj => (fI_kept (x_lt hTH181 kH239 gcn (by decide))).trans (f187 j hj)
    have f247 : ∀ j : Nat, j < 8 → fI H239 xn j = fI H xn j := fun j hj => (fI_kept (x_lt hTH181 kH239 gxn (by decide))).trans (f188 j hj)
    have f248 : ∀ j : Nat, j < 8 → fI H239 cl j = fI H cl j := fun j hj => (fI_kept (x_lt hTH181 kH239 gcl (by decide))).trans (f189 j hj)
    have f249 : ∀ j : Nat, j < 8 → fI H239 xl j = fI H xl j := fun j hj => (fI_kept (x_lt hTH181 kH239 gxl (by decide))).trans (f190 j hj)
    have f250 : ∀ j : Nat, j < 8 → fI H239 ck j = fI H ck j := fun j hj => (fI_kept (x_lt hTH181 kH239 gck (by decide))).trans (f191 j hj)
    have f251 : ∀ j : Nat, j < 8 → fI H239 xk j = fI H xk j := fun j hj => (fI_kept (x_lt hTH181 kH239 gxk (by decide))).trans (f192 j hj)
    have f252 : ∀ j : Nat, j < 8 → fI H239 dn j = fI H dn j := fun j hj => (fI_kept (x_lt hTH181 kH239 gdn (by decide))).trans (f193 j hj)
    have f253 : ∀ j : Nat, j < 8 → fI H239 dl j = fI H dl j := fun j hj => (fI_kept (x_lt hTH181 kH239 gdl (by decide))).trans (f194 j hj)
    have f254 : ∀ j : Nat, j < 8 → fI H239 dk j = fI H dk j := fun j hj => (fI_kept (x_lt hTH181 kH239 gdk (by decide))).trans (f195 j hj)
    have f255 : ∀ j : Nat, fI H239 iq j = fI H iq j := fun j => (fI_kept (x_lt hTH181 kH239 giq (by decide))).trans (f196 j)
    have m256 := (m197).trans (fR_kept (x_lt hTH181 kH239 ga (by decide))).symm
    have m257 := (m198).trans (fI_kept (x_lt hTH181 kH239 ga (by decide))).symm
    have m258 := (m200).trans (fI_kept (x_lt hTH181 kH239 gw (by decide))).symm
    have m259 := (m202).trans (fI_kept (x_lt hTH181 kH239 gw (by decide))).symm
    have m260 := (m204).trans (fI_kept (x_lt hTH181 kH239 gw (by decide))).symm
    have m261 := (m206).trans (fI_kept (x_lt hTH181 kH239 gw (by decide))).symm
    have m262 := (m208).trans (fI_kept (x_lt hTH181 kH239 gw (by decide))).symm
    have m263 := (m210).trans (fI_kept (x_lt hTH181 kH239 gw (by decide))).symm
    have m264 := (m212).trans (fR_kept (x_lt hTH181 kH239 gw (by decide))).symm
    have m265 := (m214).trans (fR_kept (x_lt hTH181 kH239 gw (by decide))).symm
    have m266 := (m216).trans (fR_kept (x_lt hTH181 kH239 gw (by decide))).symm
    have m267 := (fV_kept (x_lt hTH181 kH239 ga (by decide))).trans m219
    have m268 := (m221).trans (fI_kept (x_lt hTH181 kH239 gkq (by decide))).symm
    have m269 := (m222).trans (fI_kept (x_lt hTH181 kH239 giq (by decide))).symm
    have m270 := (m223).trans (fI_kept (x_lt hTH181 kH239 gkq (by decide))).symm
    have m271 := (m224).trans (fI_kept (x_lt hTH181 kH239 giq (by decide))).symm
    have m272 := (m225).trans (fI_kept (x_lt hTH181 kH239 gkq (by decide))).symm
    have m273 := (m226).trans (fI_kept (x_lt hTH181 kH239 giq (by decide))).symm
    have m274 := (m227).trans (fI_kept (x_lt hTH181 kH239 gkq (by decide))).symm
    have m275 := (m228).trans (fI_kept (x_lt hTH181 kH239 giq (by decide))).symm
    have m276 := (m229).trans (fI_kept (x_lt hTH181 kH239 gkq (by decide))).symm
    have m277 := (m230).trans (fI_kept (x_lt hTH181 kH239 giq (by decide))).symm
    have m278 := (m231).trans (fI_kept (x_lt hTH181 kH239 gkq (by decide))).symm
    have m279 := (m232).trans (fI_kept (x_lt hTH181 kH239 giq (by decide))).symm
    have m280 := (m233).trans (fR_kept (x_lt hTH181 kH239 gkq (by decide))).symm
    have m281 := (m234).trans (fR_kept (x_lt hTH181 kH239 gkq (by decide))).symm
    have m282 := (m235).trans (fR_kept (x_lt hTH181 kH239 gkq (by decide))).symm
    have m283 := (m199).trans (MF.i mf245 (k := 18) (by decide) (by decide)).symm
    have m284 := (m201).trans (MF.i mf245 (k := 1) (by decide) (by decide)).symm
    have m285 := (m203).trans (MF.i mf245 (k := 2) (by decide) (by decide)).symm
    have m286 := (m205).trans (MF.i mf245 (k := 3) (by decide) (by decide)).symm
    have m287 := (m207).trans (MF.i mf245 (k := 59) (by decide) (by decide)).symm
    have m288 := (m209).trans (MF.i mf245 (k := 62) (by decide) (by decide)).symm
    have m289 := (m211).trans (MF.i mf245 (k := 65) (by decide) (by decide)).symm
    have m290 := (m213).trans (MF.r mf245 (k := 64) (by decide) (by decide)).symm
    have m291 := (m215).trans (MF.r mf245 (k := 66) (by decide) (by decide)).symm
    have m292 := (m217).trans (MF.r mf245 (k := 67) (by decide) (by decide)).symm
    have m293 := (m218).trans (MF.i mf245 (k := 70) (by decide) (by decide)).symm
    have m294 := (m220).trans (MF.r mf245 (k := 73) (by decide) (by decide)).symm
    refine W.eq (g2 := F0 m 313 ls [.int x240]) rfl ?_
    clear f187 f188 f189 f190 f191 f192 f193 f194 f195 f196 m197 m198 m199 m200 m201 m202 m203 m204 m205 m206 m207 m208 m209 m210 m211 m212 m213 m214 m215 m216 m217 m218 m219 m220 m221 m222 m223 m224 m225 m226 m227 m228 m229 m230 m231 m232 m233 m234 m235
    refine lv_pop hx hb dL_law_313 rfl ?_
    refine lv_goto (tgt := 1509) hx hb dL_law_314 (by decide) ?_
    exact nx G H239 locsH239 _ _ ls ⟨hTH239, hN, ga, gb, g241, g242, g243, g244, ⟨(by rw [← m257, ← m283]; exact rt), (by rw [← m256, ← m258, ← m284]; exact r1), (by rw [← m256, ← m259, ← m285]; exact r4), (by rw [← m256, ← m260, ← m286]; exact r5), (by rw [← m256, ← m261, ← m287]; exact r10), (by rw [← m256, ← m262, ← m288]; exact r13), (by rw [← m256, ← m263, ← m289]; exact r16)⟩, Or.inr ⟨kq, m267, gkq, (by rw [← m293]; exact h70), (by rw [← m268, ← m294, ← m269]; exact q1), (by rw [← m270, ← m294, ← m271]; exact q4), (by rw [← m272, ← m294, ← m273]; exact q5), (by rw [← m274, ← m294, ← m275]; exact q10), (by rw [← m276, ← m294, ← m277]; exact q13), (by rw [← m278, ← m294, ← m279]; exact q16), (by rw [← m280, ← m294, ← m276]; exact EQR.of hsn (fun j hj => f252 j (by omega)) (fun j hj => f255 _) (by omega)), (by rw [← m281, ← m294, ← m278]; exact EQR.of hsl (fun j hj => f253 j (by omega)) (fun j hj => f255 _) (by omega)), (by rw [← m282, ← m294, ← m278]; exact EQR.of hsk (fun j hj => f254 j (by omega)) (fun j hj => f255 _) (by omega))⟩, ⟨(by rw [← m256, ← m264, ← m290, ← m288]; exact EQR.of hrn (fun j hj => f246 j (by omega)) (fun j hj => f247 j (by omega)) (by omega)), (by rw [← m256, ← m265, ← m291, ← m289]; exact EQR.of hrl (fun j hj => f248 j (by omega)) (fun j hj => f249 j (by omega)) (by omega)), (by rw [← m256, ← m266, ← m292, ← m289]; exact EQR.of hrk (fun j hj => f250 j (by omega)) (fun j hj => f251 j (by omega)) (by omega))⟩, hSH239⟩ hl ⟨hc, hs, fun h => by have h1 := h.symm.trans m267; cases h1⟩