set_option maxRecDepth 100000 in
set_option maxHeartbeats 8000000 in
theorem lw_c6 {p : Program} {l : Launch} {e : Env} {s : State} {m : MethodId} {below : List Frame} {meth : Method} {c : Code} {K : KE} {b0 L : Nat} {xs : Nat → Int32} {G : Nat → Option Nat} {H : Heap} {locs : List Loc} {a b : Nat} {cells slots : Nat} {ls : Array Slot} {i : Int32} {n : Nat} (D : LC p K s m meth c b0 L xs) (S : SX K s G H locs a b) (hl : lv_has ls 4 [(3, .int i), (2, .ref b), (1, .ref a), (0, .ref b0)]) (hi : 0 ≤ i.toInt ∧ i.toInt + 6 ≤ L) (hn : n ≤ 511) (hB : BD K H a cells slots) (nx : ∀ (G : Nat → Option Nat) (H : Heap) (locs : List Loc) (cells slots : Nat) (ls : Array Slot), SX K s G H locs a b → lv_has ls 4 [(3, .int i), (2, .ref b), (1, .ref a), (0, .ref b0)] → BD K H a cells slots → W p l e room_1 s m #[Value.ref b0] below meth c H locs cells slots (lw_Z below #[Value.ref b0] s) (F0 m 1509 ls [])) : W p l e room_1 s m #[Value.ref b0] below meth c H locs cells slots (lw_Z below #[Value.ref b0] s) (F0 m 446 ls []) := by
  obtain ⟨C, hX, hbl, hL⟩ := id D
  obtain ⟨hx, hb, hml, hown, hts, hKT, hr, hlocks, hnm⟩ := id C
  obtain ⟨hT, hN, ga, gb, cg, tu, wd, im, ⟨rt, r1, r4, r5, r10, r13, r16⟩, hk, htb, hS⟩ := S
  obtain ⟨hc, hs, hB0⟩ := hB
  have n_1 : (1 : Int32).toInt = 1 := rfl
  have n_2 : (2 : Int32).toInt = 2 := rfl
  obtain ⟨w, ew⟩ : ∃ z : Nat, z = fR H a (K.1.2 9 0) := ⟨_, rfl⟩
  have gw := ty_fr (q := w) (k := 0) (u := 0) ew hT ga rg_68 rfl
  rw [← ew] at r1 r4 r5 r10 r13 r16
  obtain ⟨ta, eta⟩ : ∃ z : Int32, z = fI H a (K.1.2 9 3) := ⟨_, rfl⟩
  rw [← eta] at rt
  obtain ⟨tb, etb⟩ : ∃ z : Int32, z = fI H b (K.1.2 10 18) := ⟨_, rfl⟩
  rw [← etb] at rt
  obtain ⟨s1, es1⟩ : ∃ z : Int32, z = fI H w (K.1.2 8 1) := ⟨_, rfl⟩
  rw [← es1] at r1
  obtain ⟨y1, ey1⟩ : ∃ z : Int32, z = fI H b (K.1.2 10 1) := ⟨_, rfl⟩
  rw [← ey1] at r1
  obtain ⟨s4, es4⟩ : ∃ z : Int32, z = fI H w (K.1.2 8 4) := ⟨_, rfl⟩
  rw [← es4] at r4
  obtain ⟨y4, ey4⟩ : ∃ z : Int32, z = fI H b (K.1.2 10 2) := ⟨_, rfl⟩
  rw [← ey4] at r4
  obtain ⟨s5, es5⟩ : ∃ z : Int32, z = fI H w (K.1.2 8 5) := ⟨_, rfl⟩
  rw [← es5] at r5
  obtain ⟨y5, ey5⟩ : ∃ z : Int32, z = fI H b (K.1.2 10 3) := ⟨_, rfl⟩
  rw [← ey5] at r5
  obtain ⟨s10, es10⟩ : ∃ z : Int32, z = fI H w (K.1.2 8 10) := ⟨_, rfl⟩
  rw [← es10] at r10
  obtain ⟨y10, ey10⟩ : ∃ z : Int32, z = fI H b (K.1.2 10 59) := ⟨_, rfl⟩
  rw [← ey10] at r10
  obtain ⟨s13, es13⟩ : ∃ z : Int32, z = fI H w (K.1.2 8 13) := ⟨_, rfl⟩
  rw [← es13] at r13
  obtain ⟨y13, ey13⟩ : ∃ z : Int32, z = fI H b (K.1.2 10 62) := ⟨_, rfl⟩
  rw [← ey13] at r13
  obtain ⟨s16, es16⟩ : ∃ z : Int32, z = fI H w (K.1.2 8 16) := ⟨_, rfl⟩
  rw [← es16] at r16
  obtain ⟨y16, ey16⟩ : ∃ z : Int32, z = fI H b (K.1.2 10 65) := ⟨_, rfl⟩
  rw [← ey16] at r16
  obtain ⟨tq, etq⟩ : ∃ z : Nat, z = fR H a (K.1.2 9 2) := ⟨_, rfl⟩
  have gtq := ty_fr (q := tq) (k := 2) (u := 108) etq hT ga rg_68 rfl
  obtain ⟨uq, euq⟩ : ∃ z : Nat, z = fR H b (K.1.2 10 17) := ⟨_, rfl⟩
  have guq := ty_fr (q := uq) (k := 17) (u := 126) euq hT gb rg_112 rfl
  have htr : TBR (fun j => fI H tq j) (fun j => fI H uq j) tb.toNatClampNeg := by rw [etq, euq, etb]; exact htb
  have ft0 : ∀ j : Nat, fI H tq j = fI H tq j := fun _ => rfl
  have fu0 : ∀ j : Nat, fI H uq j = fI H uq j := fun _ => rfl
  have bta := ty_fi (x := ta) (k := 3) eta hT ga rg_68 rfl
  have cta := i_cl (x := ta) (by omega)
  have btb := ty_fi (x := tb) (k := 18) etb hT gb rg_112 rfl
  have ctb := i_cl (x := tb) (by omega)
  rcases hk with ⟨kn, h70⟩ | ⟨kq, kn, gkq, h70, q1, q4, q5, q10, q13, q16⟩
  · skip
    obtain ⟨hi, ehi⟩ : ∃ z : Int32, z = fI H b (K.1.2 10 70) := ⟨_, rfl⟩
    rw [← ehi] at h70
    obtain ⟨hc0, hs0⟩ := hB0 kn
    refine lv_aload_n hx hb dL_law_446 rfl (lv_at hl 2 rfl) ?_
    refine lv_aload_n hx hb dL_law_447 rfl (lv_at hl 3 rfl) ?_
    refine lv_iload_n hx hb dL_law_448 rfl (lv_at hl 0 rfl) ?_
    refine lv_iconst (v := 1) hx hb dL_law_449 (by decide) ?_
    refine lv_iadd hx hb dL_law_450 ?_
    refine lv_topi (fun x101 ex101 => ?_)
    have tx101 := i_add ex101 (by omega)
    have ejx101 : x101.toNatClampNeg = i.toNatClampNeg + 1 := by have h1 := i_cl (x := x101) (by omega); have h2 := i_cl (x := i) (by omega); omega
    refine va_sld hx hb hX hbl (Nat.not_le.mpr hbl) hS (vp_in_iff.mpr (by omega)) dL_law_451 ?_
    refine W.eq (g2 := F0 m 452 ls [.int (xs (i.toNatClampNeg + 1)), .ref a]) (congrArg (fun z => F0 m 452 ls [.int (xs z), .ref a]) ejx101) ?_
    refine lv_aload_n hx hb dL_law_452 rfl (lv_at hl 3 rfl) ?_
    refine lv_iload_n hx hb dL_law_453 rfl (lv_at hl 0 rfl) ?_
    refine lv_iconst (v := 2) hx hb dL_law_454 (by decide) ?_
    refine lv_iadd hx hb dL_law_455 ?_
    refine lv_topi (fun x102 ex102 => ?_)
    have tx102 := i_add ex102 (by omega)
    have ejx102 : x102.toNatClampNeg = i.toNatClampNeg + 2 := by have h1 := i_cl (x := x102) (by omega); have h2 := i_cl (x := i) (by omega); omega
    refine va_sld hx hb hX hbl (Nat.not_le.mpr hbl) hS (vp_in_iff.mpr (by omega)) dL_law_456 ?_
    refine W.eq (g2 := F0 m 457 ls [.int (xs (i.toNatClampNeg + 2)), .int (xs (i.toNatClampNeg + 1)), .ref a]) (congrArg (fun z => F0 m 457 ls [.int (xs z), .int (xs (i.toNatClampNeg + 1)), .ref a]) ejx102) ?_
    have bt103 : ∀ j : Nat, (fun j => (fI H tq j).toInt) j = (fI H tq j).toInt := fun _ => rfl
    obtain ⟨q104, eq104⟩ : ∃ z : Nat, z = fR H a (K.1.2 9 4) := ⟨_, rfl⟩
    have gq104 := ty_fr (q := q104) (k := 4) (u := 78) eq104 hT ga rg_68 rfl
    obtain ⟨q105, eq105⟩ : ∃ z : Nat, z = fR H q104 (K.1.2 4 0) := ⟨_, rfl⟩
    have gq105 := ty_fr (q := q105) (k := 0) (u := 69) eq105 hT gq104 rg_78 rfl
    obtain ⟨q106, eq106⟩ : ∃ z : Nat, z = fR H q104 (K.1.2 4 3) := ⟨_, rfl⟩
    have gq106 := ty_fr (q := q106) (k := 3) (u := 79) eq106 hT gq104 rg_78 rfl
    obtain ⟨q107, eq107⟩ : ∃ z : Nat, z = fR H q104 (K.1.2 4 4) := ⟨_, rfl⟩
    have gq107 := ty_fr (q := q107) (k := 4) (u := 80) eq107 hT gq104 rg_78 rfl
    obtain ⟨x108, ex108⟩ : ∃ z : Int32, z = fI H q104 (K.1.2 4 7) := ⟨_, rfl⟩
    have bx108 := ty_fi (x := x108) (k := 7) ex108 hT gq104 rg_78 rfl
    obtain ⟨x109, ex109⟩ : ∃ z : Int32, z = fI H q104 (K.1.2 4 1) := ⟨_, rfl⟩
    have bx109 := ty_fi (x := x109) (k := 1) ex109 hT gq104 rg_78 rfl
    obtain ⟨x110, ex110⟩ : ∃ z : Int32, z = fI H q105 (K.1.2 7 0) := ⟨_, rfl⟩
    have bx110 := ty_fi (x := x110) (k := 0) ex110 hT gq105 rg_69 rfl
    obtain ⟨x111, ex111⟩ : ∃ z : Int32, z = fI H q104 (K.1.2 4 8) := ⟨_, rfl⟩
    have bx111 := ty_fi (x := x111) (k := 8) ex111 hT gq104 rg_78 rfl
    refine x_V (As := [.int (xs (i.toNatClampNeg + 1)), .int (xs (i.toNatClampNeg + 2))]) (rest := []) C (a_X9_text_e l K G H ((xs (i.toNatClampNeg + 1))) ((xs (i.toNatClampNeg + 2))) (ta) (x108) (x109) (x110) (x111) (s1) (s4) (s5) (s10) (s13) (s16) (fun j => (fI H tq j).toInt) hT ga gw ew gq104 eq104 gtq etq gq105 eq105 gq106 eq106 gq107 eq107 eta ex108 ex109 ex110 ex111 es1 es4 es5 es10 es13 es16 kn bt103) yo_X9_text wM_L_43 ⟨⟨by decide, by decide⟩, show _ ≤ 284929 by omega, show _ ≤ 8247460 by omega⟩ (x_rv C hT (ci := 9) rfl ga rg_68) rfl hl.1 rfl (Nat.le_of_ble_eq_true rfl) dL_law_457 hS (AE_new hN hS.1) (fun vH112 H112 locsH112 pH112 zH112 kH112 hSH112 => ?_)
    obtain ⟨x113, x114, x115, x116, x117, x118, hvH112, ex114, ex115, ex116, ex117, ex118, hrH112, m119, m120, m121, m122, m123, m124, m125, m126, m127, m128, m129, m130, m131, m132, hTH112⟩ := pH112
    subst hvH112
    have g133 : CG (avw K H112 b) := CG.congr (fun k hk j => av_eff hT kH112 gb (by decide) (CG_eff [68, 0, 78, 79, 80, 81, 69, 70, 71, 72, 73, 74, 75, 76, 77, 16, 17, 18, 19, 20, 21, 22, 23, 24] (by decide) k hk)) cg
    have g134 : TU (avw K H112 b) (svw K H112 b) := TU.congr (fun k hk j => av_eff hT kH112 gb (by decide) (TU_eff [68, 0, 78, 79, 80, 81, 69, 70, 71, 72, 73, 74, 75, 76, 77, 16, 17, 18, 19, 20, 21, 22, 23, 24] (by decide) k hk)) (fun k hk => sv_eff hT kH112 gb (by decide)) tu
    have g135 : WD (avw K H112 b) := WD.congr (fun k hk j => av_eff hT kH112 gb (by decide) (WD_eff [68, 0, 78, 79, 80, 81, 69, 70, 71, 72, 73, 74, 75, 76, 77, 16, 17, 18, 19, 20, 21, 22, 23, 24] (by decide) k hk)) wd
    have g136 : IM (avw K H112 b) := IM.congr (fun k hk j => av_eff hT kH112 gb (by decide) (IM_eff [68, 0, 78, 79, 80, 81, 69, 70, 71, 72, 73, 74, 75, 76, 77, 16, 17, 18, 19, 20, 21, 22, 23, 24] (by decide) k hk)) im
    have f137 : ∀ j : Nat, fI H112 tq j = fI H tq j := fun j => (fI_kept (x_lt hT kH112 gtq (by decide))).trans (ft0 j)
    have f138 : ∀ j : Nat, fI H112 uq j = fI H uq j := fun j => (fI_kept (x_lt hT kH112 guq (by decide))).trans (fu0 j)
    have f139 : ∀ j : Nat, (fun j => (fI H tq j).toInt) j = (fI H112 tq j).toInt := fun j => (bt103 j).trans (congrArg Int32.toInt (fI_kept (x_lt hT kH112 gtq (by decide))).symm)
    have m140 := (etb).trans (fI_kept (x_lt hT kH112 gb (by decide))).symm
    have m141 := (ey1).trans (fI_kept (x_lt hT kH112 gb (by decide))).symm
    have m142 := (ey4).trans (fI_kept (x_lt hT kH112 gb (by decide))).symm
    have m143 := (ey5).trans (fI_kept (x_lt hT kH112 gb (by decide))).symm
    have m144 := (ey10).trans (fI_kept (x_lt hT kH112 gb (by decide))).symm
    have m145 := (ey13).trans (fI_kept (x_lt hT kH112 gb (by decide))).symm
    have m146 := (ey16).trans (fI_kept (x_lt hT kH112 gb (by decide))).symm
    have m147 := (euq).trans (fR_kept (x_lt hT kH112 gb (by decide))).symm
    have m148 := (ehi).trans (fI_kept (x_lt hT kH112 gb (by decide))).symm
    have bx114 := ty_fi (x := x114) (k := 3) ex114 hTH112 ga rg_68 rfl
    have bx115 := ty_fi (x := x115) (k := 7) ex115 hTH112 gq104 rg_78 rfl
    have bx116 := ty_fi (x := x116) (k := 1) ex116 hTH112 gq104 rg_78 rfl
    have bx117 := ty_fi (x := x117) (k := 0) ex117 hTH112 gq105 rg_69 rfl
    have bx118 := ty_fi (x := x118) (k := 8) ex118 hTH112 gq104 rg_78 rfl
    refine W.eq (g2 := F0 m 460 ls [.int x113]) rfl ?_
    refine lv_aload_n hx hb dL_law_460 rfl (lv_at hl 1 rfl) ?_
    refine lv_aload_n hx hb dL_law_461 rfl (lv_at hl 3 rfl) ?_
    refine lv_iload_n hx hb dL_law_462 rfl (lv_at hl 0 rfl) ?_
    refine lv_iconst (v := 1) hx hb dL_law_463 (by decide) ?_
    refine lv_iadd hx hb dL_law_464 ?_
    refine lv_topi (fun x149 ex149 => ?_)
    have tx149 := i_add ex149 (by omega)
    have ejx149 : x149.toNatClampNeg = i.toNatClampNeg + 1 := by have h1 := i_cl (x := x149) (by omega); have h2 := i_cl (x := i) (by omega); omega
    refine va_sld hx hb hX hbl (Nat.not_le.mpr hbl) hSH112 (vp_in_iff.mpr (by omega)) dL_law_465 ?_
    refine W.eq (g2 := F0 m 466 ls [.int (xs (i.toNatClampNeg + 1)), .ref b, .int x113]) (congrArg (fun z => F0 m 466 ls [.int (xs z), .ref b, .int x113]) ejx149) ?_
    refine lv_aload_n hx hb dL_law_466 rfl (lv_at hl 3 rfl) ?_
    refine lv_iload_n hx hb dL_law_467 rfl (lv_at hl 0 rfl) ?_
    refine lv_iconst (v := 2) hx hb dL_law_468 (by decide) ?_
    refine lv_iadd hx hb dL_law_469 ?_
    refine lv_topi (fun x150 ex150 => ?_)
    have tx150 := i_add ex150 (by omega)
    have ejx150 : x150.toNatClampNeg = i.toNatClampNeg + 2 := by have h1 := i_cl (x := x150) (by omega); have h2 := i_cl (x := i) (by omega); omega
    refine va_sld hx hb hX hbl (Nat.not_le.mpr hbl) hSH112 (vp_in_iff.mpr (by omega)) dL_law_470 ?_
    refine W.eq (g2 := F0 m 471 ls [.int (xs (i.toNatClampNeg + 2)), .int (xs (i.toNatClampNeg + 1)), .ref b, .int x113]) (congrArg (fun z => F0 m 471 ls [.int (xs z), .int (xs (i.toNatClampNeg + 1)), .ref b, .int x113]) ejx150) ?_
    have bt151 : ∀ j : Nat, (fun j => (fI H112 uq j).toInt) j = (fI H112 uq j).toInt := fun _ => rfl
    have hp152 : ∀ j : Nat, j < tb.toNatClampNeg → 0 ≤ (fun j => (fI H112 uq j).toInt) j := fun j hj => by show 0 ≤ (fI H112 uq j).toInt; rw [f138 j]; exact (htr j hj).2
    obtain ⟨q153, eq153⟩ : ∃ z : Nat, z = fR H112 b (K.1.2 10 32) := ⟨_, rfl⟩
    have gq153 := ty_fr (q := q153) (k := 32) (u := 136) eq153 hTH112 gb rg_112 rfl
    obtain ⟨q154, eq154⟩ : ∃ z : Nat, z = fR H112 b (K.1.2 10 33) := ⟨_, rfl⟩
    have gq154 := ty_fr (q := q154) (k := 33) (u := 137) eq154 hTH112 gb rg_112 rfl
    obtain ⟨q155, eq155⟩ : ∃ z : Nat, z = fR H112 b (K.1.2 10 29) := ⟨_, rfl⟩
    have gq155 := ty_fr (q := q155) (k := 29) (u := 133) eq155 hTH112 gb rg_112 rfl
    obtain ⟨q156, eq156⟩ : ∃ z : Nat, z = fR H112 b (K.1.2 10 30) := ⟨_, rfl⟩
    have gq156 := ty_fr (q := q156) (k := 30) (u := 134) eq156 hTH112 gb rg_112 rfl
    obtain ⟨q157, eq157⟩ : ∃ z : Nat, z = fR H112 b (K.1.2 10 31) := ⟨_, rfl⟩
    have gq157 := ty_fr (q := q157) (k := 31) (u := 135) eq157 hTH112 gb rg_112 rfl
    obtain ⟨q158, eq158⟩ : ∃ z : Nat, z = fR H112 b (K.1.2 10 24) := ⟨_, rfl⟩
    have gq158 := ty_fr (q := q158) (k := 24) (u := 128) eq158 hTH112 gb rg_112 rfl
    obtain ⟨x159, ex159⟩ : ∃ z : Int32, z = fI H112 b (K.1.2 10 35) := ⟨_, rfl⟩
    have bx159 := ty_fi (x := x159) (k := 35) ex159 hTH112 gb rg_112 rfl
    refine x_V (As := [.int (xs (i.toNatClampNeg + 1)), .int (xs (i.toNatClampNeg + 2))]) (rest := [.int x113]) C (a_X10_text_e l K G H112 ((xs (i.toNatClampNeg + 1))) ((xs (i.toNatClampNeg + 2))) (x159) (tb) (fun j => (fI H112 uq j).toInt) hTH112 gb gq153 eq153 gq154 eq154 gq155 eq155 gq156 eq156 gq157 eq157 gq158 eq158 guq m147 ex159 m140 g133 g134 g135 g136 (trivial) (hp152) bt151) yo_X10_text wM_L_47 ⟨⟨by decide, by decide⟩, show _ ≤ 284929 by omega, show _ ≤ 8247460 by omega⟩ (x_rv C hTH112 (ci := 10) rfl gb rg_112) rfl hl.1 rfl (Nat.le_of_ble_eq_true rfl) dL_law_471 hSH112 (AE_new hN hSH112.1) (fun vH160 H160 locsH160 pH160 zH160 kH160 hSH160 => ?_)
    obtain ⟨x161, x162, x163, hvH160, ex162, ex163, hrH160, m164, m165, m166, m167, m168, m169, m170, g171, g172, g173, g174, mf175, m176, hTH160⟩ := pH160
    subst hvH160
    have f177 : ∀ j : Nat, fI H160 tq j = fI H tq j := fun j => (fI_kept (x_lt hTH112 kH160 gtq (by decide))).trans (f137 j)
    have f178 : ∀ j : Nat, fI H160 uq j = fI H uq j := fun j => (fI_kept (x_lt hTH112 kH160 guq (by decide))).trans (f138 j)
    have f179 : ∀ j : Nat, (fun j => (fI H112 uq j).toInt) j = (fI H160 uq j).toInt := fun j => (bt151 j).trans (congrArg Int32.toInt (fI_kept (x_lt hTH112 kH160 guq (by decide))).symm)
    have m180 := (m119).trans (fR_kept (x_lt hTH112 kH160 ga (by decide))).symm
    have m181 := (m120).trans (fR_kept (x_lt hTH112 kH160 ga (by decide))).symm
    have m182 := (m121).trans (fR_kept (x_lt hTH112 kH160 ga (by decide))).symm
    have m183 := (m122).trans (fR_kept (x_lt hTH112 kH160 gq104 (by decide))).symm
    have m184 := (m123).trans (fR_kept (x_lt hTH112 kH160 gq104 (by decide))).symm
    have m185 := (m124).trans (fR_kept (x_lt hTH112 kH160 gq104 (by decide))).symm
    have m186 := (m125).trans (fI_kept (x_lt hTH112 kH160 gw (by decide))).symm
    have m187 := (m126).trans (fI_kept (x_lt hTH112 kH160 gw (by decide))).symm
    have m188 := (m127).trans (fI_kept (x_lt hTH112 kH160 gw (by decide))).symm
    have m189 := (m128).trans (fI_kept (x_lt hTH112 kH160 gw (by decide))).symm
    have m190 := (m129).trans (fI_kept (x_lt hTH112 kH160 gw (by decide))).symm
    have m191 := (m130).trans (fI_kept (x_lt hTH112 kH160 gw (by decide))).symm
    have m192 := (fV_kept (x_lt hTH112 kH160 ga (by decide))).trans m132
    have m193 := (ex114).trans (fI_kept (x_lt hTH112 kH160 ga (by decide))).symm
    have m194 := (ex115).trans (fI_kept (x_lt hTH112 kH160 gq104 (by decide))).symm
    have m195 := (ex116).trans (fI_kept (x_lt hTH112 kH160 gq104 (by decide))).symm
    have m196 := (ex117).trans (fI_kept (x_lt hTH112 kH160 gq105 (by decide))).symm
    have m197 := (ex118).trans (fI_kept (x_lt hTH112 kH160 gq104 (by decide))).symm
    have m198 := (m141).trans (MF.i mf175 (k := 1) (by decide) (by decide)).symm
    have m199 := (m142).trans (MF.i mf175 (k := 2) (by decide) (by decide)).symm
    have m200 := (m143).trans (MF.i mf175 (k := 3) (by decide) (by decide)).symm
    have m201 := (m144).trans (MF.i mf175 (k := 59) (by decide) (by decide)).symm
    have m202 := (m145).trans (MF.i mf175 (k := 62) (by decide) (by decide)).symm
    have m203 := (m146).trans (MF.i mf175 (k := 65) (by decide) (by decide)).symm
    have m204 := (m147).trans (MF.r mf175 (k := 17) (by decide) (by decide)).symm
    have m205 := (m148).trans (MF.i mf175 (k := 70) (by decide) (by decide)).symm
    have m206 := (eq153).trans (MF.r mf175 (k := 32) (by decide) (by decide)).symm
    have m207 := (eq154).trans (MF.r mf175 (k := 33) (by decide) (by decide)).symm
    have m208 := (eq155).trans (MF.r mf175 (k := 29) (by decide) (by decide)).symm
    have m209 := (eq156).trans (MF.r mf175 (k := 30) (by decide) (by decide)).symm
    have m210 := (eq157).trans (MF.r mf175 (k := 31) (by decide) (by decide)).symm
    have m211 := (eq158).trans (MF.r mf175 (k := 24) (by decide) (by decide)).symm
    have bx162 := ty_fi (x := x162) (k := 35) ex162 hTH160 gb rg_112 rfl
    have bx163 := ty_fi (x := x163) (k := 18) ex163 hTH160 gb rg_112 rfl
    refine W.eq (g2 := F0 m 474 ls [.int x161, .int x113]) rfl ?_
    have hre := TXA.eq m131 m176 (by omega) (fun j hj => by show (fI _ tq j).toInt = (fI _ uq j).toInt; rw [ft0 j, f138 j]; exact congrArg Int32.toInt (htr j (by omega)).1)
    refine lv_icmp_eq (tgt := 1509) hx hb dL_law_474 (by decide) (fun ce => ?_) (fun ce => ?_)
    · skip
      have cfin := i_cl (x := x163) (by omega)
      exact nx G H160 locsH160 _ _ ls ⟨hTH160, hN, ga, gb, g171, g172, g173, g174, ⟨(by rw [← m193, ← ex163]; omega), (by rw [← m180, ← m186, ← m198]; omega), (by rw [← m180, ← m187, ← m199]; omega), (by rw [← m180, ← m188, ← m200]; omega), (by rw [← m180, ← m189, ← m201]; omega), (by rw [← m180, ← m190, ← m202]; omega), (by rw [← m180, ← m191, ← m203]; omega)⟩, Or.inl ⟨m192, (by rw [← m205]; omega)⟩, (by unfold TB; rw [← m182, ← m170, ← ex163]; exact TBR.of htr f177 f178 (by omega)), hSH160⟩ hl ⟨by omega, by omega, fun _ => ⟨by omega, by omega⟩⟩
    · exfalso
      have := i_ne ce
      omega
  · skip
    obtain ⟨hi, ehi⟩ : ∃ z : Int32, z = fI H b (K.1.2 10 70) := ⟨_, rfl⟩
    rw [← ehi] at h70
    obtain ⟨iq, eiq⟩ : ∃ z : Nat, z = fR H b (K.1.2 10 73) := ⟨_, rfl⟩
    have giq := ty_fr (q := iq) (k := 73) (u := 162) eiq hT gb rg_112 rfl
    rw [← eiq] at q1 q4 q5 q10 q13 q16
    obtain ⟨k1, ek1⟩ : ∃ z : Int32, z = fI H kq (K.1.2 8 1) := ⟨_, rfl⟩
    rw [← ek1] at q1
    obtain ⟨i1, ei1⟩ : ∃ z : Int32, z = fI H iq ((0 : Int32).toNatClampNeg) := ⟨_, rfl⟩
    rw [← ei1] at q1
    obtain ⟨k4, ek4⟩ : ∃ z : Int32, z = fI H kq (K.1.2 8 4) := ⟨_, rfl⟩
    rw [← ek4] at q4
    obtain ⟨i4, ei4⟩ : ∃ z : Int32, z = fI H iq ((1 : Int32).toNatClampNeg) := ⟨_, rfl⟩
    rw [← ei4] at q4
    obtain ⟨k5, ek5⟩ : ∃ z : Int32, z = fI H kq (K.1.2 8 5) := ⟨_, rfl⟩
    rw [← ek5] at q5
    obtain ⟨i5, ei5⟩ : ∃ z : Int32, z = fI H iq ((2 : Int32).toNatClampNeg) := ⟨_, rfl⟩
    rw [← ei5] at q5
    obtain ⟨k10, ek10⟩ : ∃ z : Int32, z = fI H kq (K.1.2 8 10) := ⟨_, rfl⟩
    rw [← ek10] at q10
    obtain ⟨i10, ei10⟩ : ∃ z : Int32, z = fI H iq ((3 : Int32).toNatClampNeg) := ⟨_, rfl⟩
    rw [← ei10] at q10
    obtain ⟨k13, ek13⟩ : ∃ z : Int32, z = fI H kq (K.1.2 8 13) := ⟨_, rfl⟩
    rw [← ek13] at q13
    obtain ⟨i13, ei13⟩ : ∃ z : Int32, z = fI H iq ((4 : Int32).toNatClampNeg) := ⟨_, rfl⟩
    rw [← ei13] at q13
    obtain ⟨k16, ek16⟩ : ∃ z : Int32, z = fI H kq (K.1.2 8 16) := ⟨_, rfl⟩
    rw [← ek16] at q16
    obtain ⟨i16, ei16⟩ : ∃ z : Int32, z = fI H iq ((5 : Int32).toNatClampNeg) := ⟨_, rfl⟩
    rw [← ei16] at q16
    refine lv_aload_n hx hb dL_law_446 rfl (lv_at hl 2 rfl) ?_
    refine lv_aload_n hx hb dL_law_447 rfl (lv_at hl 3 rfl) ?_
    refine lv_iload_n hx hb dL_law_448 rfl (lv_at hl 0 rfl) ?_
    refine lv_iconst (v := 1) hx hb dL_law_449 (by decide) ?_
    refine lv_iadd hx hb dL_law_450 ?_
    refine lv_topi (fun x212 ex212 => ?_)
    have tx212 := i_add ex212 (by omega)
    have ejx212 : x212.toNatClampNeg = i.toNatClampNeg + 1 := by have h1 := i_cl (x := x212) (by omega); have h2 := i_cl (x := i) (by omega); omega
    refine va_sld hx hb hX hbl (Nat.not_le.mpr hbl) hS (vp_in_iff.mpr (by omega)) dL_law_451 ?_
    refine W.eq (g2 := F0 m 452 ls [.int (xs (i.toNatClampNeg + 1)), .ref a]) (congrArg (fun z => F0 m 452 ls [.int (xs z), .ref a]) ejx212) ?_
    refine lv_aload_n hx hb dL_law_452 rfl (lv_at hl 3 rfl) ?_
    refine lv_iload_n hx hb dL_law_453 rfl (lv_at hl 0 rfl) ?_
    refine lv_iconst (v := 2) hx hb dL_law_454 (by decide) ?_
    refine lv_iadd hx hb dL_law_455 ?_
    refine lv_topi (fun x213 ex213 => ?_)
    have tx213 := i_add ex213 (by omega)
    have ejx213 : x213.toNatClampNeg = i.toNatClampNeg + 2 := by have h1 := i_cl (x := x213) (by omega); have h2 := i_cl (x := i) (by omega); omega
    refine va_sld hx hb hX hbl (Nat.not_le.mpr hbl) hS (vp_in_iff.mpr (by omega)) dL_law_456 ?_
    refine W.eq (g2 := F0 m 457 ls [.int (xs (i.toNatClampNeg + 2)), .int (xs (i.toNatClampNeg + 1)), .ref a]) (congrArg (fun z => F0 m 457 ls [.int (xs z), .int (xs (i.toNatClampNeg + 1)), .ref a]) ejx213) ?_
    have bt214 : ∀ j : Nat, (fun j => (fI H tq j).toInt) j = (fI H tq j).toInt := fun _ => rfl
    obtain ⟨q215, eq215⟩ : ∃ z : Nat, z = fR H a (K.1.2 9 4) := ⟨_, rfl⟩
    have gq215 := ty_fr (q := q215) (k := 4) (u := 78) eq215 hT ga rg_68 rfl
    obtain ⟨q216, eq216⟩ : ∃ z : Nat, z = fR H q215 (K.1.2 4 0) := ⟨_, rfl⟩
    have gq216 := ty_fr (q := q216) (k := 0) (u := 69) eq216 hT gq215 rg_78 rfl
    obtain ⟨q217, eq217⟩ : ∃ z : Nat, z = fR H q215 (K.1.2 4 3) := ⟨_, rfl⟩
    have gq217 := ty_fr (q := q217) (k := 3) (u := 79) eq217 hT gq215 rg_78 rfl
    obtain ⟨q218, eq218⟩ : ∃ z : Nat, z = fR H q215 (K.1.2 4 4) := ⟨_, rfl⟩
    have gq218 := ty_fr (q := q218) (k := 4) (u := 80) eq218 hT gq215 rg_78 rfl
    obtain ⟨x219, ex219⟩ : ∃ z : Int32, z = fI H q215 (K.1.2 4 7) := ⟨_, rfl⟩
    have bx219 := ty_fi (x := x219) (k := 7) ex219 hT gq215 rg_78 rfl
    obtain ⟨x220, ex220⟩ : ∃ z : Int32, z = fI H q215 (K.1.2 4 1) := ⟨_, rfl⟩
    have bx220 := ty_fi (x := x220) (k := 1) ex220 hT gq215 rg_78 rfl
    obtain ⟨x221, ex221⟩ : ∃ z : Int32, z = fI H q216 (K.1.2 7 0) := ⟨_, rfl⟩
    have bx221 := ty_fi (x := x221) (k := 0) ex221 hT gq216 rg_69 rfl
    obtain ⟨x222, ex222⟩ : ∃ z : Int32, z = fI H q215 (K.1.2 4 8) := ⟨_, rfl⟩
    have bx222 := ty_fi (x := x222) (k := 8) ex222 hT gq215 rg_78 rfl
    refine x_V (As := [.int (xs (i.toNatClampNeg + 1)), .int (xs (i.toNatClampNeg + 2))]) (rest := []) C (a_X9_text_e l K G H ((xs (i.toNatClampNeg + 1))) ((xs (i.toNatClampNeg + 2))) (ta) (x219) (x220) (x221) (x222) (s1) (s4) (s5) (s10) (s13) (s16) (fun j => (fI H tq j).toInt) hT ga gw ew gq215 eq215 gtq etq gq216 eq216 gq217 eq217 gq218 eq218 eta ex219 ex220 ex221 ex222 es1 es4 es5 es10 es13 es16 kn bt214) yo_X9_text wM_L_43 ⟨⟨by decide, by decide⟩, show _ ≤ 284929 by omega, show _ ≤ 8247460 by omega⟩ (x_rv C hT (ci := 9) rfl ga rg_68) rfl hl.1 rfl (Nat.le_of_ble_eq_true rfl) dL_law_457 hS (AE_new hN hS.1) (fun vH223 H223 locsH223 pH223 zH223 kH223 hSH223 => ?_)
    obtain ⟨x224, x225, x226, x227, x228, x229, hvH223, ex225, ex226, ex227, ex228, ex229, hrH223, m230, m231, m232, m233, m234, m235, m236, m237, m238, m239, m240, m241, m242, m243, hTH223⟩ := pH223
    subst hvH223
    have g244 : CG (avw K H223 b) := CG.congr (fun k hk j => av_eff hT kH223 gb (by decide) (CG_eff [68, 0, 78, 79, 80, 81, 69, 70, 71, 72, 73, 74, 75, 76, 77, 16, 17, 18, 19, 20, 21, 22, 23, 24] (by decide) k hk)) cg
    have g245 : TU (avw K H223 b) (svw K H223 b) := TU.congr (fun k hk j => av_eff hT kH223 gb (by decide) (TU_eff [68, 0, 78, 79, 80, 81, 69, 70, 71, 72, 73, 74, 75, 76, 77, 16, 17, 18, 19, 20, 21, 22, 23, 24] (by decide) k hk)) (fun k hk => sv_eff hT kH223 gb (by decide)) tu
    have g246 : WD (avw K H223 b) := WD.congr (fun k hk j => av_eff hT kH223 gb (by decide) (WD_eff [68, 0, 78, 79, 80, 81, 69, 70, 71, 72, 73, 74, 75, 76, 77, 16, 17, 18, 19, 20, 21, 22, 23, 24] (by decide) k hk)) wd
    have g247 : IM (avw K H223 b) := IM.congr (fun k hk j => av_eff hT kH223 gb (by decide) (IM_eff [68, 0, 78, 79, 80, 81, 69, 70, 71, 72, 73, 74, 75, 76, 77, 16, 17, 18, 19, 20, 21, 22, 23, 24] (by decide) k hk)) im
    have f248 : ∀ j : Nat, fI H223 tq j = fI H tq j := fun j => (fI_kept (x_lt hT kH223 gtq (by decide))).trans (ft0 j)
    have f249 : ∀ j : Nat, fI H223 uq j = fI H uq j := fun j => (fI_kept (x_lt hT kH223 guq (by decide))).trans (fu0 j)
    have f250 : ∀ j : Nat, (fun j => (fI H tq j).toInt) j = (fI H223 tq j).toInt := fun j => (bt214 j).trans (congrArg Int32.toInt (fI_kept (x_lt hT kH223 gtq (by decide))).symm)
    have m251 := (etb).trans (fI_kept (x_lt hT kH223 gb (by decide))).symm
    have m252 := (ey1).trans (fI_kept (x_lt hT kH223 gb (by decide))).symm
    have m253 := (ey4).trans (fI_kept (x_lt hT kH223 gb (by decide))).symm
    have m254 := (ey5).trans (fI_kept (x_lt hT kH223 gb (by decide))).symm
    have m255 := (ey10).trans (fI_kept (x_lt hT kH223 gb (by decide))).symm
    have m256 := (ey13).trans (fI_kept (x_lt hT kH223 gb (by decide))).symm
    have m257 := (ey16).trans (fI_kept (x_lt hT kH223 gb (by decide))).symm
    have m258 := (euq).trans (fR_kept (x_lt hT kH223 gb (by decide))).symm
    have m259 := (ehi).trans (fI_kept (x_lt hT kH223 gb (by decide))).symm
    have m260 := (eiq).trans (fR_kept (x_lt hT kH223 gb (by decide))).symm
    have m261 := (ek1).trans (fI_kept (x_lt hT kH223 gkq (by decide))).symm
    have m262 := (ei1).trans (fI_kept (x_lt hT kH223 giq (by decide))).symm
    have m263 := (ek4).trans (fI_kept (x_lt hT kH223 gkq (by decide))).symm
    have m264 := (ei4).trans (fI_kept (x_lt hT kH223 giq (by decide))).symm
    have m265 := (ek5).trans (fI_kept (x_lt hT kH223 gkq (by decide))).symm
    have m266 := (ei5).trans (fI_kept (x_lt hT kH223 giq (by decide))).symm
    have m267 := (ek10).trans (fI_kept (x_lt hT kH223 gkq (by decide))).symm
    have m268 := (ei10).trans (fI_kept (x_lt hT kH223 giq (by decide))).symm
    have m269 := (ek13).trans (fI_kept (x_lt hT kH223 gkq (by decide))).symm
    have m270 := (ei13).trans (fI_kept (x_lt hT kH223 giq (by decide))).symm
    have m271 := (ek16).trans (fI_kept (x_lt hT kH223 gkq (by decide))).symm
    have m272 := (ei16).trans (fI_kept (x_lt hT kH223 giq (by decide))).symm
    have bx225 := ty_fi (x := x225) (k := 3) ex225 hTH223 ga rg_68 rfl
    have bx226 := ty_fi (x := x226) (k := 7) ex226 hTH223 gq215 rg_78 rfl
    have bx227 := ty_fi (x := x227) (k := 1) ex227 hTH223 gq215 rg_78 rfl
    have bx228 := ty_fi (x := x228) (k := 0) ex228 hTH223 gq216 rg_69 rfl
    have bx229 := ty_fi (x := x229) (k := 8) ex229 hTH223 gq215 rg_78 rfl
    refine W.eq (g2 := F0 m 460 ls [.int x224]) rfl ?_
    refine lv_aload_n hx hb dL_law_460 rfl (lv_at hl 1 rfl) ?_
    refine lv_aload_n hx hb dL_law_461 rfl (lv_at hl 3 rfl) ?_
    refine lv_iload_n hx hb dL_law_462 rfl (lv_at hl 0 rfl) ?_
    refine lv_iconst (v := 1) hx hb dL_law_463 (by decide) ?_
    refine lv_iadd hx hb dL_law_464 ?_
    refine lv_topi (fun x273 ex273 => ?_)
    have tx273 := i_add ex273 (by omega)
    have ejx273 : x273.toNatClampNeg = i.toNatClampNeg + 1 := by have h1 := i_cl (x := x273) (by omega); have h2 := i_cl (x := i) (by omega); omega
    refine va_sld hx hb hX hbl (Nat.not_le.mpr hbl) hSH223 (vp_in_iff.mpr (by omega)) dL_law_465 ?_
    refine W.eq (g2 := F0 m 466 ls [.int (xs (i.toNatClampNeg + 1)), .ref b, .int x224]) (congrArg (fun z => F0 m 466 ls [.int (xs z), .ref b, .int x224]) ejx273) ?_
    refine lv_aload_n hx hb dL_law_466 rfl (lv_at hl 3 rfl) ?_
    refine lv_iload_n hx hb dL_law_467 rfl (lv_at hl 0 rfl) ?_
    refine lv_iconst (v := 2) hx hb dL_law_468 (by decide) ?_
    refine lv_iadd hx hb dL_law_469 ?_
    refine lv_topi (fun x274 ex274 => ?_)
    have tx274 := i_add ex274 (by omega)
    have ejx274 : x274.toNatClampNeg = i.toNatClampNeg + 2 := by have h1 := i_cl (x := x274) (by omega); have h2 := i_cl (x := i) (by omega); omega
    refine va_sld hx hb hX hbl (Nat.not_le.mpr hbl) hSH223 (vp_in_iff.mpr (by omega)) dL_law_470 ?_
    refine W.eq (g2 := F0 m 471 ls [.int (xs (i.toNatClampNeg + 2)), .int (xs (i.toNatClampNeg + 1)), .ref b, .int x224]) (congrArg (fun z => F0 m 471 ls [.int (xs z), .int (xs (i.toNatClampNeg + 1)), .ref b, .int x224]) ejx274) ?_
    have bt275 : ∀ j : Nat, (fun j => (fI H223 uq j).toInt) j = (fI H223 uq j).toInt := fun _ => rfl
    have hp276 : ∀ j : Nat, j < tb.toNatClampNeg → 0 ≤ (fun j => (fI H223 uq j).toInt) j := fun j hj => by show 0 ≤ (fI H223 uq j).toInt; rw [f249 j]; exact (htr j hj).2
    obtain ⟨q277, eq277⟩ : ∃ z : Nat, z = fR H223 b (K.1.2 10 32) := ⟨_, rfl⟩
    have gq277 := ty_fr (q := q277) (k := 32) (u := 136) eq277 hTH223 gb rg_112 rfl
    obtain ⟨q278, eq278⟩ : ∃ z : Nat, z = fR H223 b (K.1.2 10 33) := ⟨_, rfl⟩
    have gq278 := ty_fr (q := q278) (k := 33) (u := 137) eq278 hTH223 gb rg_112 rfl
    obtain ⟨q279, eq279⟩ : ∃ z : Nat, z = fR H223 b (K.1.2 10 29) := ⟨_, rfl⟩
    have gq279 := ty_fr (q := q279) (k := 29) (u := 133) eq279 hTH223 gb rg_112 rfl
    obtain ⟨q280, eq280⟩ : ∃ z : Nat, z = fR H223 b (K.1.2 10 30) := ⟨_, rfl⟩
    have gq280 := ty_fr (q := q280) (k := 30) (u := 134) eq280 hTH223 gb rg_112 rfl
    obtain ⟨q281, eq281⟩ : ∃ z : Nat, z = fR H223 b (K.1.2 10 31) := ⟨_, rfl⟩
    have gq281 := ty_fr (q := q281) (k := 31) (u := 135) eq281 hTH223 gb rg_112 rfl
    obtain ⟨q282, eq282⟩ : ∃ z : Nat, z = fR H223 b (K.1.2 10 24) := ⟨_, rfl⟩
    have gq282 := ty_fr (q := q282) (k := 24) (u := 128) eq282 hTH223 gb rg_112 rfl
    obtain ⟨x283, ex283⟩ : ∃ z : Int32, z = fI H223 b (K.1.2 10 35) := ⟨_, rfl⟩
    have bx283 := ty_fi (x := x283) (k := 35) ex283 hTH223 gb rg_112 rfl
    refine x_V (As := [.int (xs (i.toNatClampNeg + 1)), .int (xs (i.toNatClampNeg + 2))]) (rest := [.int x224]) C (a_X10_text_e l K G H223 ((xs (i.toNatClampNeg + 1))) ((xs (i.toNatClampNeg + 2))) (x283) (tb) (fun j => (fI H223 uq j).toInt) hTH223 gb gq277 eq277 gq278 eq278 gq279 eq279 gq280 eq280 gq281 eq281 gq282 eq282 guq m258 ex283 m251 g244 g245 g246 g247 (trivial) (hp276) bt275) yo_X10_text wM_L_47 ⟨⟨by decide, by decide⟩, show _ ≤ 284929 by omega, show _ ≤ 8247460 by omega⟩ (x_rv C hTH223 (ci := 10) rfl gb rg_112) rfl hl.1 rfl (Nat.le_of_ble_eq_true rfl) dL_law_471 hSH223 (AE_new hN hSH223.1) (fun vH284 H284 locsH284 pH284 zH284 kH284 hSH284 => ?_)
    obtain ⟨x285, x286, x287, hvH284, ex286, ex287, hrH284, m288, m289, m290, m291, m292, m293, m294, g295, g296, g297, g298, mf299, m300, hTH284⟩ := pH284
    subst hvH284
    have f301 : ∀ j : Nat, fI H284 tq j = fI H tq j := fun j => (fI_kept (x_lt hTH223 kH284 gtq (by decide))).trans (f248 j)
    have f302 : ∀ j : Nat, fI H284 uq j = fI H uq j := fun j => (fI_kept (x_lt hTH223 kH284 guq (by decide))).trans (f249 j)
    have f303 : ∀ j : Nat, (fun j => (fI H223 uq j).toInt) j = (fI H284 uq j).toInt := fun j => (bt275 j).trans (congrArg Int32.toInt (fI_kept (x_lt hTH223 kH284 guq (by decide))).symm)
    have m304 := (m261).trans (fI_kept (x_lt hTH223 kH284 gkq (by decide))).symm
    have m305 := (m262).trans (fI_kept (x_lt hTH223 kH284 giq (by decide))).symm
    have m306 := (m263).trans (fI_kept (x_lt hTH223 kH284 gkq (by decide))).symm
    have m307 := (m264).trans (fI_kept (x_lt hTH223 kH284 giq (by decide))).symm
    have m308 := (m265).trans (fI_kept (x_lt hTH223 kH284 gkq (by decide))).symm
    have m309 := (m266).trans (fI_kept (x_lt hTH223 kH284 giq (by decide))).symm
    have m310 := (m267).trans (fI_kept (x_lt hTH223 kH284 gkq (by decide))).symm
    have m311 := (m268).trans (fI_kept (x_lt hTH223 kH284 giq (by decide))).symm
    have m312 := (m269).trans (fI_kept (x_lt hTH223 kH284 gkq (by decide))).symm
    have m313 := (m270).trans (fI_kept (x_lt hTH223 kH284 giq (by decide))).symm
    have m314 := (m271).trans (fI_kept (x_lt hTH223 kH284 gkq (by decide))).symm
    have m315 := (m272).trans (fI_kept (x_lt hTH223 kH284 giq (by decide))).symm
    have m316 := (m230).trans (fR_kept (x_lt hTH223 kH284 ga (by decide))).symm
    have m317 := (m231).trans (fR_kept (x_lt hTH223 kH284 ga (by decide))).symm
    have m318 := (m232).trans (fR_kept (x_lt hTH223 kH284 ga (by decide))).symm
    have m319 := (m233).trans (fR_kept (x_lt hTH223 kH284 gq215 (by decide))).symm
    have m320 := (m234).trans (fR_kept (x_lt hTH223 kH284 gq215 (by decide))).symm
    have m321 := (m235).trans (fR_kept (x_lt hTH223 kH284 gq215 (by decide))).symm
    have m322 := (m236).trans (fI_kept (x_lt hTH223 kH284 gw (by decide))).symm
    have m323 := (m237).trans (fI_kept (x_lt hTH223 kH284 gw (by decide))).symm
    have m324 := (m238).trans (fI_kept (x_lt hTH223 kH284 gw (by decide))).symm
    have m325 := (m239).trans (fI_kept (x_lt hTH223 kH284 gw (by decide))).symm
    have m326 := (m240).trans (fI_kept (x_lt hTH223 kH284 gw (by decide))).symm
    have m327 := (m241).trans (fI_kept (x_lt hTH223 kH284 gw (by decide))).symm
    have m328 := (fV_kept (x_lt hTH223 kH284 ga (by decide))).trans m243
    have m329 := (ex225).trans (fI_kept (x_lt hTH223 kH284 ga (by decide))).symm
    have m330 := (ex226).trans (fI_kept (x_lt hTH223 kH284 gq215 (by decide))).symm
    have m331 := (ex227).trans (fI_kept (x_lt hTH223 kH284 gq215 (by decide))).symm
    have m332 := (ex228).trans (fI_kept (x_lt hTH223 kH284 gq216 (by decide))).symm
    have m333 := (ex229).trans (fI_kept (x_lt hTH223 kH284 gq215 (by decide))).symm
    have m334 := (m252).trans (MF.i mf299 (k := 1) (by decide) (by decide)).symm
    have m335 := (m253).trans (MF.i mf299 (k := 2) (by decide) (by decide)).symm
    have m336 := (m254).trans (MF.i mf299 (k := 3) (by decide) (by decide)).symm
    have m337 := (m255).trans (MF.i mf299 (k := 59) (by decide) (by decide)).symm
    have m338 := (m256).trans (MF.i mf299 (k := 62) (by decide) (by decide)).symm
    have m339 := (m257).trans (MF.i mf299 (k := 65) (by decide) (by decide)).symm
    have m340 := (m258).trans (MF.r mf299 (k := 17) (by decide) (by decide)).symm
    have m341 := (m259).trans (MF.i mf299 (k := 70) (by decide) (by decide)).symm
    have m342 := (m260).trans (MF.r mf299 (k := 73) (by decide) (by decide)).symm
    have m343 := (eq277).trans (MF.r mf299 (k := 32) (by decide) (by decide)).symm
    have m344 := (eq278).trans (MF.r mf299 (k := 33) (by decide) (by decide)).symm
    have m345 := (eq279).trans (MF.r mf299 (k := 29) (by decide) (by decide)).symm
    have m346 := (eq280).trans (MF.r mf299 (k := 30) (by decide) (by decide)).symm
    have m347 := (eq281).trans (MF.r mf299 (k := 31) (by decide) (by decide)).symm
    have m348 := (eq282).trans (MF.r mf299 (k := 24) (by decide) (by decide)).symm
    have bx286 := ty_fi (x := x286) (k := 35) ex286 hTH284 gb rg_112 rfl
    have bx287 := ty_fi (x := x287) (k := 18) ex287 hTH284 gb rg_112 rfl
    refine W.eq (g2 := F0 m 474 ls [.int x285, .int x224]) rfl ?_
    have hre := TXA.eq m242 m300 (by omega) (fun j hj => by show (fI _ tq j).toInt = (fI _ uq j).toInt; rw [ft0 j, f249 j]; exact congrArg Int32.toInt (htr j (by omega)).1)
    refine lv_icmp_eq (tgt := 1509) hx hb dL_law_474 (by decide) (fun ce => ?_) (fun ce => ?_)
    · skip
      have cfin := i_cl (x := x287) (by omega)
      exact nx G H284 locsH284 _ _ ls ⟨hTH284, hN, ga, gb, g295, g296, g297, g298, ⟨(by rw [← m329, ← ex287]; omega), (by rw [← m316, ← m322, ← m334]; omega), (by rw [← m316, ← m323, ← m335]; omega), (by rw [← m316, ← m324, ← m336]; omega), (by rw [← m316, ← m325, ← m337]; omega), (by rw [← m316, ← m326, ← m338]; omega), (by rw [← m316, ← m327, ← m339]; omega)⟩, Or.inr ⟨kq, m328, gkq, (by rw [← m341]; omega), (by rw [← m304, ← m342, ← m305]; omega), (by rw [← m306, ← m342, ← m307]; omega), (by rw [← m308, ← m342, ← m309]; omega), (by rw [← m310, ← m342, ← m311]; omega), (by rw [← m312, ← m342, ← m313]; omega), (by rw [← m314, ← m342, ← m315]; omega)⟩, (by unfold TB; rw [← m318, ← m294, ← ex287]; exact TBR.of htr f301 f302 (by omega)), hSH284⟩ hl ⟨by omega, by omega, fun h => by have h1 := h.symm.trans m328; cases h1⟩
    · exfalso
      have := i_ne ce
      omega
set_option maxRecDepth 100000 in
set_option maxHeartbeats 8000000 in
theorem lw_c7 {p : Program} {l : Launch} {e : Env} {s : State} {m : MethodId} {below : List Frame} {meth : Method} {c : Code} {K : KE} {b0 L : Nat} {xs : Nat → Int32} {G : Nat → Option Nat} {H : Heap} {locs : List Loc} {a b : Nat} {cells slots : Nat} {ls : Array Slot} {i : Int32} {n : Nat} (D : LC p K s m meth c b0 L xs) (S : SX K s G H locs a b) (hl : lv_has ls 4 [(3, .int i), (2, .ref b), (1, .ref a), (0, .ref b0)]) (hi : 0 ≤ i.toInt ∧ i.toInt + 6 ≤ L) (hn : n ≤ 511) (hB : BD K H a cells slots) (nx : ∀ (G : Nat → Option Nat) (H : Heap) (locs : List Loc) (cells slots : Nat) (ls : Array Slot), SX K s G H locs a b → lv_has ls 4 [(3, .int i), (2, .ref b), (1, .ref a), (0, .ref b0)] → BD K H a cells slots → W p l e room_1 s m #[Value.ref b0] below meth c H locs cells slots (lw_Z below #[Value.ref b0] s) (F0 m 1509 ls [])) : W p l e room_1 s m #[Value.ref b0] below meth c H locs cells slots (lw_Z below #[Value.ref b0] s) (F0 m 479 ls []) := by
  obtain ⟨C, hX, hbl, hL⟩ := id D
  obtain ⟨hx, hb, hml, hown, hts, hKT, hr, hlocks, hnm⟩ := id C
  obtain ⟨hT, hN, ga, gb, cg, tu, wd, im, ⟨rt, r1, r4, r5, r10, r13, r16⟩, hk, htb, hS⟩ := S
  obtain ⟨hc, hs, hB0⟩ := hB
  have n_1 : (1 : Int32).toInt = 1 := rfl
  obtain ⟨w, ew⟩ : ∃ z : Nat, z = fR H a (K.1.2 9 0) := ⟨_, rfl⟩
  have gw := ty_fr (q := w) (k := 0) (u := 0) ew hT ga rg_68 rfl
  rw [← ew] at r1 r4 r5 r10 r13 r16
  obtain ⟨ta, eta⟩ : ∃ z : Int32, z = fI H a (K.1.2 9 3) := ⟨_, rfl⟩
  rw [← eta] at rt
  obtain ⟨tb, etb⟩ : ∃ z : Int32, z = fI H b (K.1.2 10 18) := ⟨_, rfl⟩
  rw [← etb] at rt
  obtain ⟨s1, es1⟩ : ∃ z : Int32, z = fI H w (K.1.2 8 1) := ⟨_, rfl⟩
  rw [← es1] at r1
  obtain ⟨y1, ey1⟩ : ∃ z : Int32, z = fI H b (K.1.2 10 1) := ⟨_, rfl⟩
  rw [← ey1] at r1
  obtain ⟨s4, es4⟩ : ∃ z : Int32, z = fI H w (K.1.2 8 4) := ⟨_, rfl⟩
  rw [← es4] at r4
  obtain ⟨y4, ey4⟩ : ∃ z : Int32, z = fI H b (K.1.2 10 2) := ⟨_, rfl⟩
  rw [← ey4] at r4
  obtain ⟨s5, es5⟩ : ∃ z : Int32, z = fI H w (K.1.2 8 5) := ⟨_, rfl⟩
  rw [← es5] at r5
  obtain ⟨y5, ey5⟩ : ∃ z : Int32, z = fI H b (K.1.2 10 3) := ⟨_, rfl⟩
  rw [← ey5] at r5
  obtain ⟨s10, es10⟩ : ∃ z : Int32, z = fI H w (K.1.2 8 10) := ⟨_, rfl⟩
  rw [← es10] at r10
  obtain ⟨y10, ey10⟩ : ∃ z : Int32, z = fI H b (K.1.2 10 59) := ⟨_, rfl⟩
  rw [← ey10] at r10
  obtain ⟨s13, es13⟩ : ∃ z : Int32, z = fI H w (K.1.2 8 13) := ⟨_, rfl⟩
  rw [← es13] at r13
  obtain ⟨y13, ey13⟩ : ∃ z : Int32, z = fI H b (K.1.2 10 62) := ⟨_, rfl⟩
  rw [← ey13] at r13
  obtain ⟨s16, es16⟩ : ∃ z : Int32, z = fI H w (K.1.2 8 16) := ⟨_, rfl⟩
  rw [← es16] at r16
  obtain ⟨y16, ey16⟩ : ∃ z : Int32, z = fI H b (K.1.2 10 65) := ⟨_, rfl⟩
  rw [← ey16] at r16
  obtain ⟨tq, etq⟩ : ∃ z : Nat, z = fR H a (K.1.2 9 2) := ⟨_, rfl⟩
  have gtq := ty_fr (q := tq) (k := 2) (u := 108) etq hT ga rg_68 rfl
  obtain ⟨uq, euq⟩ : ∃ z : Nat, z = fR H b (K.1.2 10 17) := ⟨_, rfl⟩
  have guq := ty_fr (q := uq) (k := 17) (u := 126) euq hT gb rg_112 rfl
  have htr : TBR (fun j => fI H tq j) (fun j => fI H uq j) tb.toNatClampNeg := by rw [etq, euq, etb]; exact htb
  have ft0 : ∀ j : Nat, fI H tq j = fI H tq j := fun _ => rfl
  have fu0 : ∀ j : Nat, fI H uq j = fI H uq j := fun _ => rfl
  have bta := ty_fi (x := ta) (k := 3) eta hT ga rg_68 rfl
  have cta := i_cl (x := ta) (by omega)
  have btb := ty_fi (x := tb) (k := 18) etb hT gb rg_112 rfl
  have ctb := i_cl (x := tb) (by omega)
  rcases hk with ⟨kn, h70⟩ | ⟨kq, kn, gkq, h70, q1, q4, q5, q10, q13, q16⟩
  · skip
    obtain ⟨hi, ehi⟩ : ∃ z : Int32, z = fI H b (K.1.2 10 70) := ⟨_, rfl⟩
    rw [← ehi] at h70
    obtain ⟨hc0, hs0⟩ := hB0 kn
    refine lv_aload_n hx hb dL_law_479 rfl (lv_at hl 2 rfl) ?_
    refine lv_aload_n hx hb dL_law_480 rfl (lv_at hl 3 rfl) ?_
    refine lv_iload_n hx hb dL_law_481 rfl (lv_at hl 0 rfl) ?_
    refine lv_iconst (v := 1) hx hb dL_law_482 (by decide) ?_
    refine lv_iadd hx hb dL_law_483 ?_
    refine lv_topi (fun x101 ex101 => ?_)
    have tx101 := i_add ex101 (by omega)
    have ejx101 : x101.toNatClampNeg = i.toNatClampNeg + 1 := by have h1 := i_cl (x := x101) (by omega); have h2 := i_cl (x := i) (by omega); omega
    refine va_sld hx hb hX hbl (Nat.not_le.mpr hbl) hS (vp_in_iff.mpr (by omega)) dL_law_484 ?_
    refine W.eq (g2 := F0 m 485 ls [.int (xs (i.toNatClampNeg + 1)), .ref a]) (congrArg (fun z => F0 m 485 ls [.int (xs z), .ref a]) ejx101) ?_
    refine x_V (As := [.int (xs (i.toNatClampNeg + 1))]) (rest := []) C (a_X9_fault l K G H ((xs (i.toNatClampNeg + 1))) hT ga) yo_X9_fault wM_L_48 ⟨⟨by decide, by decide⟩, show _ ≤ 284929 by omega, show _ ≤ 8247460 by omega⟩ (x_rv C hT (ci := 9) rfl ga rg_68) rfl hl.1 rfl (Nat.le_of_ble_eq_true rfl) dL_law_485 hS (AE_new hN hS.1) (fun vH102 H102 locsH102 pH102 zH102 kH102 hSH102 => ?_)
    obtain ⟨x103, hvH102, hTH102⟩ := pH102
    subst hvH102
    have g104 : CG (avw K H102 b) := CG.congr (fun k hk j => av_eff hT kH102 gb (by decide) (CG_eff [] (by decide) k hk)) cg
    have g105 : TU (avw K H102 b) (svw K H102 b) := TU.congr (fun k hk j => av_eff hT kH102 gb (by decide) (TU_eff [] (by decide) k hk)) (fun k hk => sv_eff hT kH102 gb (by decide)) tu
    have g106 : WD (avw K H102 b) := WD.congr (fun k hk j => av_eff hT kH102 gb (by decide) (WD_eff [] (by decide) k hk)) wd
    have g107 : IM (avw K H102 b) := IM.congr (fun k hk j => av_eff hT kH102 gb (by decide) (IM_eff [] (by decide) k hk)) im
    have f108 : ∀ j : Nat, fI H102 tq j = fI H tq j := fun j => (fI_kept (x_lt hT kH102 gtq (by decide))).trans (ft0 j)
    have f109 : ∀ j : Nat, fI H102 uq j = fI H uq j := fun j => (fI_kept (x_lt hT kH102 guq (by decide))).trans (fu0 j)
    have m110 := (ew).trans (fR_kept (x_lt hT kH102 ga (by decide))).symm
    have m111 := (eta).trans (fI_kept (x_lt hT kH102 ga (by decide))).symm
    have m112 := (etb).trans (fI_kept (x_lt hT kH102 gb (by decide))).symm
    have m113 := (es1).trans (fI_kept (x_lt hT kH102 gw (by decide))).symm
    have m114 := (ey1).trans (fI_kept (x_lt hT kH102 gb (by decide))).symm
    have m115 := (es4).trans (fI_kept (x_lt hT kH102 gw (by decide))).symm
    have m116 := (ey4).trans (fI_kept (x_lt hT kH102 gb (by decide))).symm
    have m117 := (es5).trans (fI_kept (x_lt hT kH102 gw (by decide))).symm
    have m118 := (ey5).trans (fI_kept (x_lt hT kH102 gb (by decide))).symm
    have m119 := (es10).trans (fI_kept (x_lt hT kH102 gw (by decide))).symm
    have m120 := (ey10).trans (fI_kept (x_lt hT kH102 gb (by decide))).symm
    have m121 := (es13).trans (fI_kept (x_lt hT kH102 gw (by decide))).symm
    have m122 := (ey13).trans (fI_kept (x_lt hT kH102 gb (by decide))).symm
    have m123 := (es16).trans (fI_kept (x_lt hT kH102 gw (by decide))).symm
    have m124 := (ey16).trans (fI_kept (x_lt hT kH102 gb (by decide))).symm
    have m125 := (etq).trans (fR_kept (x_lt hT kH102 ga (by decide))).symm
    have m126 := (euq).trans (fR_kept (x_lt hT kH102 gb (by decide))).symm
    have m127 := (ehi).trans (fI_kept (x_lt hT kH102 gb (by decide))).symm
    have m128 := (fV_kept (x_lt hT kH102 ga (by decide))).trans kn
    refine W.eq (g2 := F0 m 488 ls [.int x103]) rfl ?_
    refine lv_pop hx hb dL_law_488 rfl ?_
    refine lv_aload_n hx hb dL_law_489 rfl (lv_at hl 1 rfl) ?_
    refine lv_aload_n hx hb dL_law_490 rfl (lv_at hl 3 rfl) ?_
    refine lv_iload_n hx hb dL_law_491 rfl (lv_at hl 0 rfl) ?_
    refine lv_iconst (v := 1) hx hb dL_law_492 (by decide) ?_
    refine lv_iadd hx hb dL_law_493 ?_
    refine lv_topi (fun x129 ex129 => ?_)
    have tx129 := i_add ex129 (by omega)
    have ejx129 : x129.toNatClampNeg = i.toNatClampNeg + 1 := by have h1 := i_cl (x := x129) (by omega); have h2 := i_cl (x := i) (by omega); omega
    refine va_sld hx hb hX hbl (Nat.not_le.mpr hbl) hSH102 (vp_in_iff.mpr (by omega)) dL_law_494 ?_
    refine W.eq (g2 := F0 m 495 ls [.int (xs (i.toNatClampNeg + 1)), .ref b]) (congrArg (fun z => F0 m 495 ls [.int (xs z), .ref b]) ejx129) ?_
    refine x_V (As := [.int (xs (i.toNatClampNeg + 1))]) (rest := []) C (a_X10_fault l K G H102 ((xs (i.toNatClampNeg + 1))) hTH102 gb g104 g105 g106 g107) yo_X10_fault wM_L_51 ⟨⟨by decide, by decide⟩, show _ ≤ 284929 by omega, show _ ≤ 8247460 by omega⟩ (x_rv C hTH102 (ci := 10) rfl gb rg_112) rfl hl.1 rfl (Nat.le_of_ble_eq_true rfl) dL_law_495 hSH102 (AE_new hN hSH102.1) (fun vH130 H130 locsH130 pH130 zH130 kH130 hSH130 => ?_)
    obtain ⟨x131, hvH130, g132, g133, g134, g135, mf136, hTH130⟩ := pH130
    subst hvH130
    have f137 : ∀ j : Nat, fI H130 tq j = fI H tq j := fun j => (fI_kept (x_lt hTH102 kH130 gtq (by decide))).trans (f108 j)
    have f138 : ∀ j : Nat, fI H130 uq j = fI H uq j := fun j => (fI_kept (x_lt hTH102 kH130 guq (by decide))).trans (f109 j)
    have m139 := (m110).trans (fR_kept (x_lt hTH102 kH130 ga (by decide))).symm
    have m140 := (m111).trans (fI_kept (x_lt hTH102 kH130 ga (by decide))).symm
    have m141 := (m113).trans (fI_kept (x_lt hTH102 kH130 gw (by decide))).symm
    have m142 := (m115).trans (fI_kept (x_lt hTH102 kH130 gw (by decide))).symm
    have m143 := (m117).trans (fI_kept (x_lt hTH102 kH130 gw (by decide))).symm
    have m144 := (m119).trans (fI_kept (x_lt hTH102 kH130 gw (by decide))).symm
    have m145 := (m121).trans (fI_kept (x_lt hTH102 kH130 gw (by decide))).symm
    have m146 := (m123).trans (fI_kept (x_lt hTH102 kH130 gw (by decide))).symm
    have m147 := (m125).trans (fR_kept (x_lt hTH102 kH130 ga (by decide))).symm
    have m148 := (fV_kept (x_lt hTH102 kH130 ga (by decide))).trans m128
    have m149 := (m112).trans (MF.i mf136 (k := 18) (by decide) (by decide)).symm
    have m150 := (m114).trans (MF.i mf136 (k := 1) (by decide) (by decide)).symm
    have m151 := (m116).trans (MF.i mf136 (k := 2) (by decide) (by decide)).symm
    have m152 := (m118).trans (MF.i mf136 (k := 3) (by decide) (by decide)).symm
    have m153 := (m120).trans (MF.i mf136 (k := 59) (by decide) (by decide)).symm
    have m154 := (m122).trans (MF.i mf136 (k := 62) (by decide) (by decide)).symm
    have m155 := (m124).trans (MF.i mf136 (k := 65) (by decide) (by decide)).symm
    have m156 := (m126).trans (MF.r mf136 (k := 17) (by decide) (by decide)).symm
    have m157 := (m127).trans (MF.i mf136 (k := 70) (by decide) (by decide)).symm
    refine W.eq (g2 := F0 m 498 ls [.int x131]) rfl ?_
    refine lv_pop hx hb dL_law_498 rfl ?_
    refine lv_goto (tgt := 1509) hx hb dL_law_499 (by decide) ?_
    exact nx G H130 locsH130 _ _ ls ⟨hTH130, hN, ga, gb, g132, g133, g134, g135, ⟨(by rw [← m140, ← m149]; omega), (by rw [← m139, ← m141, ← m150]; omega), (by rw [← m139, ← m142, ← m151]; omega), (by rw [← m139, ← m143, ← m152]; omega), (by rw [← m139, ← m144, ← m153]; omega), (by rw [← m139, ← m145, ← m154]; omega), (by rw [← m139, ← m146, ← m155]; omega)⟩, Or.inl ⟨m148, (by rw [← m157]; omega)⟩, (by unfold TB; rw [← m147, ← m156, ← m149]; exact TBR.of htr f137 f138 (by omega)), hSH130⟩ hl ⟨by omega, by omega, fun _ => ⟨by omega, by omega⟩⟩
  · skip
    obtain ⟨hi, ehi⟩ : ∃ z : Int32, z = fI H b (K.1.2 10 70) := ⟨_, rfl⟩
    rw [← ehi] at h70
    obtain ⟨iq, eiq⟩ : ∃ z : Nat, z = fR H b (K.1.2 10 73) := ⟨_, rfl⟩
    have giq := ty_fr (q := iq) (k := 73) (u := 162) eiq hT gb rg_112 rfl
    rw [← eiq] at q1 q4 q5 q10 q13 q16
    obtain ⟨k1, ek1⟩ : ∃ z : Int32, z = fI H kq (K.1.2 8 1) := ⟨_, rfl⟩
    rw [← ek1] at q1
    obtain ⟨i1, ei1⟩ : ∃ z : Int32, z = fI H iq ((0 : Int32).toNatClampNeg) := ⟨_, rfl⟩
    rw [← ei1] at q1
    obtain ⟨k4, ek4⟩ : ∃ z : Int32, z = fI H kq (K.1.2 8 4) := ⟨_, rfl⟩
    rw [← ek4] at q4
    obtain ⟨i4, ei4⟩ : ∃ z : Int32, z = fI H iq ((1 : Int32).toNatClampNeg) := ⟨_, rfl⟩
    rw [← ei4] at q4
    obtain ⟨k5, ek5⟩ : ∃ z : Int32, z = fI H kq (K.1.2 8 5) := ⟨_, rfl⟩
    rw [← ek5] at q5
    obtain ⟨i5, ei5⟩ : ∃ z : Int32, z = fI H iq ((2 : Int32).toNatClampNeg) := ⟨_, rfl⟩
    rw [← ei5] at q5
    obtain ⟨k10, ek10⟩ : ∃ z : Int32, z = fI H kq (K.1.2 8 10) := ⟨_, rfl⟩
    rw [← ek10] at q10
    obtain ⟨i10, ei10⟩ : ∃ z : Int32, z = fI H iq ((3 : Int32).toNatClampNeg) := ⟨_, rfl⟩
    rw [← ei10] at q10
    obtain ⟨k13, ek13⟩ : ∃ z : Int32, z = fI H kq (K.1.2 8 13) := ⟨_, rfl⟩
    rw [← ek13] at q13
    obtain ⟨i13, ei13⟩ : ∃ z : Int32, z = fI H iq ((4 : Int32).toNatClampNeg) := ⟨_, rfl⟩
    rw [← ei13] at q13
    obtain ⟨k16, ek16⟩ : ∃ z : Int32, z = fI H kq (K.1.2 8 16) := ⟨_, rfl⟩
    rw [← ek16] at q16
    obtain ⟨i16, ei16⟩ : ∃ z : Int32, z = fI H iq ((5 : Int32).toNatClampNeg) := ⟨_, rfl⟩
    rw [← ei16] at q16
    refine lv_aload_n hx hb dL_law_479 rfl (lv_at hl 2 rfl) ?_
    refine lv_aload_n hx hb dL_law_480 rfl (lv_at hl 3 rfl) ?_
    refine lv_iload_n hx hb dL_law_481 rfl (lv_at hl 0 rfl) ?_
    refine lv_iconst (v := 1) hx hb dL_law_482 (by decide) ?_
    refine lv_iadd hx hb dL_law_483 ?_
    refine lv_topi (fun x158 ex158 => ?_)
    have tx158 := i_add ex158 (by omega)
    have ejx158 : x158.toNatClampNeg = i.toNatClampNeg + 1 := by have h1 := i_cl (x := x158) (by omega); have h2 := i_cl (x := i) (by omega); omega
    refine va_sld hx hb hX hbl (Nat.not_le.mpr hbl) hS (vp_in_iff.mpr (by omega)) dL_law_484 ?_
    refine W.eq (g2 := F0 m 485 ls [.int (xs (i.toNatClampNeg + 1)), .ref a]) (congrArg (fun z => F0 m 485 ls [.int (xs z), .ref a]) ejx158) ?_
    refine x_V (As := [.int (xs (i.toNatClampNeg + 1))]) (rest := []) C (a_X9_fault l K G H ((xs (i.toNatClampNeg + 1))) hT ga) yo_X9_fault wM_L_48 ⟨⟨by decide, by decide⟩, show _ ≤ 284929 by omega, show _ ≤ 8247460 by omega⟩ (x_rv C hT (ci := 9) rfl ga rg_68) rfl hl.1 rfl (Nat.le_of_ble_eq_true rfl) dL_law_485 hS (AE_new hN hS.1) (fun vH159 H159 locsH159 pH159 zH159 kH159 hSH159 => ?_)
    obtain ⟨x160, hvH159, hTH159⟩ := pH159
    subst hvH159
    have g161 : CG (avw K H159 b) := CG.congr (fun k hk j => av_eff hT kH159 gb (by decide) (CG_eff [] (by decide) k hk)) cg
    have g162 : TU (avw K H159 b) (svw K H159 b) := TU.congr (fun k hk j => av_eff hT kH159 gb (by decide) (TU_eff [] (by decide) k hk)) (fun k hk => sv_eff hT kH159 gb (by decide)) tu
    have g163 : WD (avw K H159 b) := WD.congr (fun k hk j => av_eff hT kH159 gb (by decide) (WD_eff [] (by decide) k hk)) wd
    have g164 : IM (avw K H159 b) := IM.congr (fun k hk j => av_eff hT kH159 gb (by decide) (IM_eff [] (by decide) k hk)) im
    have f165 : ∀ j : Nat, fI H159 tq j = fI H tq j := fun j => (fI_kept (x_lt hT kH159 gtq (by decide))).trans (ft0 j)
    have f166 : ∀ j : Nat, fI H159 uq j = fI H uq j := fun j => (fI_kept (x_lt hT kH159 guq (by decide))).trans (fu0 j)
    have m167 := (ew).trans (fR_kept (x_lt hT kH159 ga (by decide))).symm
    have m168 := (eta).trans (fI_kept (x_lt hT kH159 ga (by decide))).symm
    have m169 := (etb).trans (fI_kept (x_lt hT kH159 gb (by decide))).symm
    have m170 := (es1).trans (fI_kept (x_lt hT kH159 gw (by decide))).symm
    have m171 := (ey1).trans (fI_kept (x_lt hT kH159 gb (by decide))).symm
    have m172 := (es4).trans (fI_kept (x_lt hT kH159 gw (by decide))).symm
    have m173 := (ey4).trans (fI_kept (x_lt hT kH159 gb (by decide))).symm
    have m174 := (es5).trans (fI_kept (x_lt hT kH159 gw (by decide))).symm
    have m175 := (ey5).trans (fI_kept (x_lt hT kH159 gb (by decide))).symm
    have m176 := (es10).trans (fI_kept (x_lt hT kH159 gw (by decide))).symm
    have m177 := (ey10).trans (fI_kept (x_lt hT kH159 gb (by decide))).symm
    have m178 := (es13).trans (fI_kept (x_lt hT kH159 gw (by decide))).symm
    have m179 := (ey13).trans (fI_kept (x_lt hT kH159 gb (by decide))).symm
    have m180 := (es16).trans (fI_kept (x_lt hT kH159 gw (by decide))).symm
    have m181 := (ey16).trans (fI_kept (x_lt hT kH159 gb (by decide))).symm
    have m182 := (etq).trans (fR_kept (x_lt hT kH159 ga (by decide))).symm
    have m183 := (euq).trans (fR_kept (x_lt hT kH159 gb (by decide))).symm
    have m184 := (ehi).trans (fI_kept (x_lt hT kH159 gb (by decide))).symm
    have m185 := (fV_kept (x_lt hT kH159 ga (by decide))).trans kn
    have m186 := (eiq).trans (fR_kept (x_lt hT kH159 gb (by decide))).symm
    have m187 := (ek1).trans (fI_kept (x_lt hT kH159 gkq (by decide))).symm
    have m188 := (ei1).trans (fI_kept (x_lt hT kH159 giq (by decide))).symm
    have m189 := (ek4).trans (fI_kept (x_lt hT kH159 gkq (by decide))).symm
    have m190 := (ei4).trans (fI_kept (x_lt hT kH159 giq (by decide))).symm
    have m191 := (ek5).trans (fI_kept (x_lt hT kH159 gkq (by decide))).symm
    have m192 := (ei5).trans (fI_kept (x_lt hT kH159 giq (by decide))).symm
    have m193 := (ek10).trans (fI_kept (x_lt hT kH159 gkq (by decide))).symm
    have m194 := (ei10).trans (fI_kept (x_lt hT kH159 giq (by decide))).symm
    have m195 := (ek13).trans (fI_kept (x_lt hT kH159 gkq (by decide))).symm
    have m196 := (ei13).trans (fI_kept (x_lt hT kH159 giq (by decide))).symm
    have m197 := (ek16).trans (fI_kept (x_lt hT kH159 gkq (by decide))).symm
    have m198 := (ei16).trans (fI_kept (x_lt hT kH159 giq (by decide))).symm
    refine W.eq (g2 := F0 m 488 ls [.int x160]) rfl ?_
    refine lv_pop hx hb dL_law_488 rfl ?_
    refine lv_aload_n hx hb dL_law_489 rfl (lv_at hl 1 rfl) ?_
    refine lv_aload_n hx hb dL_law_490 rfl (lv_at hl 3 rfl) ?_
    refine lv_iload_n hx hb dL_law_491 rfl (lv_at hl 0 rfl) ?_
    refine lv_iconst (v := 1) hx hb dL_law_492 (by decide) ?_
    refine lv_iadd hx hb dL_law_493 ?_
    refine lv_topi (fun x199 ex199 => ?_)
    have tx199 := i_add ex199 (by omega)
    have ejx199 : x199.toNatClampNeg = i.toNatClampNeg + 1 := by have h1 := i_cl (x := x199) (by omega); have h2 := i_cl (x := i) (by omega); omega
    refine va_sld hx hb hX hbl (Nat.not_le.mpr hbl) hSH159 (vp_in_iff.mpr (by omega)) dL_law_494 ?_
    refine W.eq (g2 := F0 m 495 ls [.int (xs (i.toNatClampNeg + 1)), .ref b]) (congrArg (fun z => F0 m 495 ls [.int (xs z), .ref b]) ejx199) ?_
    refine x_V (As := [.int (xs (i.toNatClampNeg + 1))]) (rest := []) C (a_X10_fault l K G H159 ((xs (i.toNatClampNeg + 1))) hTH159 gb g161 g162 g163 g164) yo_X10_fault wM_L_51 ⟨⟨by decide, by decide⟩, show _ ≤ 284929 by omega, show _ ≤ 8247460 by omega⟩ (x_rv C hTH159 (ci := 10) rfl gb rg_112) rfl hl.1 rfl (Nat.le_of_ble_eq_true rfl) dL_law_495 hSH159 (AE_new hN hSH159.1) (fun vH200 H200 locsH200 pH200 zH200 kH200 hSH200 => ?_)
    obtain ⟨x201, hvH200, g202, g203, g204, g205, mf206, hTH200⟩ := pH200
    subst hvH200
    have f207 : ∀ j : Nat, fI H200 tq j = fI H tq j := fun j => (fI_kept (x_lt hTH159 kH200 gtq (by decide))).trans (f165 j)
    have f208 : ∀ j : Nat, fI H200 uq j = fI H uq j := fun j => (fI_kept (x_lt hTH159 kH200 guq (by decide))).trans (f166 j)
    have m209 := (m167).trans (fR_kept (x_lt hTH159 kH200 ga (by decide))).symm
    have m210 := (m168).trans (fI_kept (x_lt hTH159 kH200 ga (by decide))).symm
    have m211 := (m170).trans (fI_kept (x_lt hTH159 kH200 gw (by decide))).symm
    have m212 := (m172).trans (fI_kept (x_lt hTH159 kH200 gw (by decide))).symm
    have m213 := (m174).trans (fI_kept (x_lt hTH159 kH200 gw (by decide))).symm
    have m214 := (m176).trans (fI_kept (x_lt hTH159 kH200 gw (by decide))).symm
    have m215 := (m178).trans (fI_kept (x_lt hTH159 kH200 gw (by decide))).symm
    have m216 := (m180).trans (fI_kept (x_lt hTH159 kH200 gw (by decide))).symm
    have m217 := (m182).trans (fR_kept (x_lt hTH159 kH200 ga (by decide))).symm
    have m218 := (fV_kept (x_lt hTH159 kH200 ga (by decide))).trans m185
    have m219 := (m187).trans (fI_kept (x_lt hTH159 kH200 gkq (by decide))).symm
    have m220 := (m188).trans (fI_kept (x_lt hTH159 kH200 giq (by decide))).symm
    have m221 := (m189).trans (fI_kept (x_lt hTH159 kH200 gkq (by decide))).symm
    have m222 := (m190).trans (fI_kept (x_lt hTH159 kH200 giq (by decide))).symm
    have m223 := (m191).trans (fI_kept (x_lt hTH159 kH200 gkq (by decide))).symm
    have m224 := (m192).trans (fI_kept (x_lt hTH159 kH200 giq (by decide))).symm
    have m225 := (m193).trans (fI_kept (x_lt hTH159 kH200 gkq (by decide))).symm
    have m226 := (m194).trans (fI_kept (x_lt hTH159 kH200 giq (by decide))).symm
    have m227 := (m195).trans (fI_kept (x_lt hTH159 kH200 gkq (by decide))).symm
    have m228 := (m196).trans (fI_kept (x_lt hTH159 kH200 giq (by decide))).symm
    have m229 := (m197).trans (fI_kept (x_lt hTH159 kH200 gkq (by decide))).symm
    have m230 := (m198).trans (fI_kept (x_lt hTH159 kH200 giq (by decide))).symm
    have m231 := (m169).trans (MF.i mf206 (k := 18) (by decide) (by decide)).symm
    have m232 := (m171).trans (MF.i mf206 (k := 1) (by decide) (by decide)).symm
    have m233 := (m173).trans (MF.i mf206 (k := 2) (by decide) (by decide)).symm
    have m234 := (m175).trans (MF.i mf206 (k := 3) (by decide) (by decide)).symm
    have m235 := (m177).trans (MF.i mf206 (k := 59) (by decide) (by decide)).symm
    have m236 := (m179).trans (MF.i mf206 (k := 62) (by decide) (by decide)).symm
    have m237 := (m181).trans (MF.i mf206 (k := 65) (by decide) (by decide)).symm
    have m238 := (m183).trans (MF.r mf206 (k := 17) (by decide) (by decide)).symm
    have m239 := (m184).trans (MF.i mf206 (k := 70) (by decide) (by decide)).symm
    have m240 := (m186).trans (MF.r mf206 (k := 73) (by decide) (by decide)).symm
    refine W.eq (g2 := F0 m 498 ls [.int x201]) rfl ?_
    refine lv_pop hx hb dL_law_498 rfl ?_
    refine lv_goto (tgt := 1509) hx hb dL_law_499 (by decide) ?_
    exact nx G H200 locsH200 _ _ ls ⟨hTH200, hN, ga, gb, g202, g203, g204, g205, ⟨(by rw [← m210, ← m231]; omega), (by rw [← m209, ← m211, ← m232]; omega), (by rw [← m209, ← m212, ← m233]; omega), (by rw [← m209, ← m213, ← m234]; omega), (by rw [← m209, ← m214, ← m235]; omega), (by rw [← m209, ← m215, ← m236]; omega), (by rw [← m209, ← m216, ← m237]; omega)⟩, Or.inr ⟨kq, m218, gkq, (by rw [← m239]; omega), (by rw [← m219, ← m240, ← m220]; omega), (by rw [← m221, ← m240, ← m222]; omega), (by rw [← m223, ← m240, ← m224]; omega), (by rw [← m225, ← m240, ← m226]; omega), (by rw [← m227, ← m240, ← m228]; omega), (by rw [← m229, ← m240, ← m230]; omega)⟩, (by unfold TB; rw [← m217, ← m238, ← m231]; exact TBR.of htr f207 f208 (by omega)), hSH200⟩ hl ⟨by omega, by omega, fun h => by have h1 := h.symm.trans m218; cases h1⟩
set_option maxRecDepth 100000 in
set_option maxHeartbeats 8000000 in
theorem lw_c8 {p : Program} {l : Launch} {e : Env} {s : State} {m : MethodId} {below : List Frame} {meth : Method} {c : Code} {K : KE} {b0 L : Nat} {xs : Nat → Int32} {G : Nat → Option Nat} {H : Heap} {locs : List Loc} {a b : Nat} {cells slots : Nat} {ls : Array Slot} {i : Int32} {n : Nat} (D : LC p K s m meth c b0 L xs) (S : SX K s G H locs a b) (hl : lv_has ls 4 [(3, .int i), (2, .ref b), (1, .ref a), (0, .ref b0)]) (hi : 0 ≤ i.toInt ∧ i.toInt + 6 ≤ L) (hn : n ≤ 511) (hB : BD K H a cells slots) (nx : ∀ (G : Nat → Option Nat) (H : Heap) (locs : List Loc) (cells slots : Nat) (ls : Array Slot), SX K s G H locs a b → lv_has ls 4 [(3, .int i), (2, .ref b), (1, .ref a), (0, .ref b0)] → BD K H a cells slots → W p l e room_1 s m #[Value.ref b0] below meth c H locs cells slots (lw_Z below #[Value.ref b0] s) (F0 m 1509 ls [])) : W p l e room_1 s m #[Value.ref b0] below meth c H locs cells slots (lw_Z below #[Value.ref b0] s) (F0 m 502 ls []) := by
  obtain ⟨C, hX, hbl, hL⟩ := id D
  obtain ⟨hx, hb, hml, hown, hts, hKT, hr, hlocks, hnm⟩ := id C
  obtain ⟨hT, hN, ga, gb, cg, tu, wd, im, ⟨rt, r1, r4, r5, r10, r13, r16⟩, hk, htb, hS⟩ := S
  obtain ⟨hc, hs, hB0⟩ := hB
  have n_1 : (1 : Int32).toInt = 1 := rfl
  obtain ⟨w, ew⟩ : ∃ z : Nat, z = fR H a (K.1.2 9 0) := ⟨_, rfl⟩
  have gw := ty_fr (q := w) (k := 0) (u := 0) ew hT ga rg_68 rfl
  rw [← ew] at r1 r4 r5 r10 r13 r16
  obtain ⟨ta, eta⟩ : ∃ z : Int32, z = fI H a (K.1.2 9 3) := ⟨_, rfl⟩
  rw [← eta] at rt
  obtain ⟨tb, etb⟩ : ∃ z : Int32, z = fI H b (K.1.2 10 18) := ⟨_, rfl⟩
  rw [← etb] at rt
  obtain ⟨s1, es1⟩ : ∃ z : Int32, z = fI H w (K.1.2 8 1) := ⟨_, rfl⟩
  rw [← es1] at r1
  obtain ⟨y1, ey1⟩ : ∃ z : Int32, z = fI H b (K.1.2 10 1) := ⟨_, rfl⟩
  rw [← ey1] at r1
  obtain ⟨s4, es4⟩ : ∃ z : Int32, z = fI H w (K.1.2 8 4) := ⟨_, rfl⟩
  rw [← es4] at r4
  obtain ⟨y4, ey4⟩ : ∃ z : Int32, z = fI H b (K.1.2 10 2) := ⟨_, rfl⟩
  rw [← ey4] at r4
  obtain ⟨s5, es5⟩ : ∃ z : Int32, z = fI H w (K.1.2 8 5) := ⟨_, rfl⟩
  rw [← es5] at r5
  obtain ⟨y5, ey5⟩ : ∃ z : Int32, z = fI H b (K.1.2 10 3) := ⟨_, rfl⟩
  rw [← ey5] at r5
  obtain ⟨s10, es10⟩ : ∃ z : Int32, z = fI H w (K.1.2 8 10) := ⟨_, rfl⟩
  rw [← es10] at r10
  obtain ⟨y10, ey10⟩ : ∃ z : Int32, z = fI H b (K.1.2 10 59) := ⟨_, rfl⟩
  rw [← ey10] at r10
  obtain ⟨s13, es13⟩ : ∃ z : Int32, z = fI H w (K.1.2 8 13) := ⟨_, rfl⟩
  rw [← es13] at r13
  obtain ⟨y13, ey13⟩ : ∃ z : Int32, z = fI H b (K.1.2 10 62) := ⟨_, rfl⟩
  rw [← ey13] at r13
  obtain ⟨s16, es16⟩ : ∃ z : Int32, z = fI H w (K.1.2 8 16) := ⟨_, rfl⟩
  rw [← es16] at r16
  obtain ⟨y16, ey16⟩ : ∃ z : Int32, z = fI H b (K.1.2 10 65) := ⟨_, rfl⟩
  rw [← ey16] at r16
  obtain ⟨tq, etq⟩ : ∃ z : Nat, z = fR H a (K.1.2 9 2) := ⟨_, rfl⟩
  have gtq := ty_fr (q := tq) (k := 2) (u := 108) etq hT ga rg_68 rfl
  obtain ⟨uq, euq⟩ : ∃ z : Nat, z = fR H b (K.1.2 10 17) := ⟨_, rfl⟩
  have guq := ty_fr (q := uq) (k := 17) (u := 126) euq hT gb rg_112 rfl
  have htr : TBR (fun j => fI H tq j) (fun j => fI H uq j) tb.toNatClampNeg := by rw [etq, euq, etb]; exact htb
  have ft0 : ∀ j : Nat, fI H tq j = fI H tq j := fun _ => rfl
  have fu0 : ∀ j : Nat, fI H uq j = fI H uq j := fun _ => rfl
  have bta := ty_fi (x := ta) (k := 3) eta hT ga rg_68 rfl
  have cta := i_cl (x := ta) (by omega)
  have btb := ty_fi (x := tb) (k := 18) etb hT gb rg_112 rfl
  have ctb := i_cl (x := tb) (by omega)
  rcases hk with ⟨kn, h70⟩ | ⟨kq, kn, gkq, h70, q1, q4, q5, q10, q13, q16⟩
  · skip
    obtain ⟨hi, ehi⟩ : ∃ z : Int32, z = fI H b (K.1.2 10 70) := ⟨_, rfl⟩
    rw [← ehi] at h70
    obtain ⟨hc0, hs0⟩ := hB0 kn
    refine lv_aload_n hx hb dL_law_502 rfl (lv_at hl 2 rfl) ?_
    refine lv_aload_n hx hb dL_law_503 rfl (lv_at hl 3 rfl) ?_
    refine lv_iload_n hx hb dL_law_504 rfl (lv_at hl 0 rfl) ?_
    refine lv_iconst (v := 1) hx hb dL_law_505 (by decide) ?_
    refine lv_iadd hx hb dL_law_506 ?_
    refine lv_topi (fun x101 ex101 => ?_)
    have tx101 := i_add ex101 (by omega)
    have ejx101 : x101.toNatClampNeg = i.toNatClampNeg + 1 := by have h1 := i_cl (x := x101) (by omega); have h2 := i_cl (x := i) (by omega); omega
    refine va_sld hx hb hX hbl (Nat.not_le.mpr hbl) hS (vp_in_iff.mpr (by omega)) dL_law_507 ?_
    refine W.eq (g2 := F0 m 508 ls [.int (xs (i.toNatClampNeg + 1)), .ref a]) (congrArg (fun z => F0 m 508 ls [.int (xs z), .ref a]) ejx101) ?_
    refine x_V (As := [.int (xs (i.toNatClampNeg + 1))]) (rest := []) C (a_X9_force_r l K G H ((xs (i.toNatClampNeg + 1))) (s1) (s4) (s5) (s10) (s13) (s16) hT ga gw ew es1 es4 es5 es10 es13 es16) yo_X9_force wM_L_52 ⟨⟨by decide, by decide⟩, show _ ≤ 284929 by omega, show _ ≤ 8247460 by omega⟩ (x_rv C hT (ci := 9) rfl ga rg_68) rfl hl.1 rfl (Nat.le_of_ble_eq_true rfl) dL_law_508 hS (AE_new hN hS.1) (fun vH102 H102 locsH102 pH102 zH102 kH102 hSH102 => ?_)
    obtain ⟨x103, x104, x105, x106, x107, x108, x109, hvH102, ex104, ex105, ex106, ex107, ex108, ex109, hrH102, hTH102⟩ := pH102
    subst hvH102
    have g110 : CG (avw K H102 b) := CG.congr (fun k hk j => av_eff hT kH102 gb (by decide) (CG_eff [0] (by decide) k hk)) cg
    have g111 : TU (avw K H102 b) (svw K H102 b) := TU.congr (fun k hk j => av_eff hT kH102 gb (by decide) (TU_eff [0] (by decide) k hk)) (fun k hk => sv_eff hT kH102 gb (by decide)) tu
    have g112 : WD (avw K H102 b) := WD.congr (fun k hk j => av_eff hT kH102 gb (by decide) (WD_eff [0] (by decide) k hk)) wd
    have g113 : IM (avw K H102 b) := IM.congr (fun k hk j => av_eff hT kH102 gb (by decide) (IM_eff [0] (by decide) k hk)) im
    have f114 : ∀ j : Nat, fI H102 tq j = fI H tq j := fun j => (fI_kept (x_lt hT kH102 gtq (by decide))).trans (ft0 j)
    have f115 : ∀ j : Nat, fI H102 uq j = fI H uq j := fun j => (fI_kept (x_lt hT kH102 guq (by decide))).trans (fu0 j)
    have m116 := (ew).trans (fR_kept (x_lt hT kH102 ga (by decide))).symm
    have m117 := (eta).trans (fI_kept (x_lt hT kH102 ga (by decide))).symm
    have m118 := (etb).trans (fI_kept (x_lt hT kH102 gb (by decide))).symm
    have m119 := (ey1).trans (fI_kept (x_lt hT kH102 gb (by decide))).symm
    have m120 := (ey4).trans (fI_kept (x_lt hT kH102 gb (by decide))).symm
    have m121 := (ey5).trans (fI_kept (x_lt hT kH102 gb (by decide))).symm
    have m122 := (ey10).trans (fI_kept (x_lt hT kH102 gb (by decide))).symm
    have m123 := (ey13).trans (fI_kept (x_lt hT kH102 gb (by decide))).symm
    have m124 := (ey16).trans (fI_kept (x_lt hT kH102 gb (by decide))).symm
    have m125 := (etq).trans (fR_kept (x_lt hT kH102 ga (by decide))).symm
    have m126 := (euq).trans (fR_kept (x_lt hT kH102 gb (by decide))).symm
    have m127 := (ehi).trans (fI_kept (x_lt hT kH102 gb (by decide))).symm
    have m128 := (fV_kept (x_lt hT kH102 ga (by decide))).trans kn
    have bx104 := ty_fi (x := x104) (k := 1) ex104 hTH102 gw rg_0 rfl
    have bx105 := ty_fi (x := x105) (k := 4) ex105 hTH102 gw rg_0 rfl
    have bx106 := ty_fi (x := x106) (k := 5) ex106 hTH102 gw rg_0 rfl
    have bx107 := ty_fi (x := x107) (k := 10) ex107 hTH102 gw rg_0 rfl
    have bx108 := ty_fi (x := x108) (k := 13) ex108 hTH102 gw rg_0 rfl
    have bx109 := ty_fi (x := x109) (k := 16) ex109 hTH102 gw rg_0 rfl
    refine W.eq (g2 := F0 m 511 ls [.int x103]) rfl ?_
    refine lv_pop hx hb dL_law_511 rfl ?_
    refine lv_aload_n hx hb dL_law_512 rfl (lv_at hl 1 rfl) ?_
    refine lv_aload_n hx hb dL_law_513 rfl (lv_at hl 3 rfl) ?_
    refine lv_iload_n hx hb dL_law_514 rfl (lv_at hl 0 rfl) ?_
    refine lv_iconst (v := 1) hx hb dL_law_515 (by decide) ?_
    refine lv_iadd hx hb dL_law_516 ?_
    refine lv_topi (fun x129 ex129 => ?_)
    have tx129 := i_add ex129 (by omega)
    have ejx129 : x129.toNatClampNeg = i.toNatClampNeg + 1 := by have h1 := i_cl (x := x129) (by omega); have h2 := i_cl (x := i) (by omega); omega
    refine va_sld hx hb hX hbl (Nat.not_le.mpr hbl) hSH102 (vp_in_iff.mpr (by omega)) dL_law_517 ?_
    refine W.eq (g2 := F0 m 518 ls [.int (xs (i.toNatClampNeg + 1)), .ref b]) (congrArg (fun z => F0 m 518 ls [.int (xs z), .ref b]) ejx129) ?_
    refine x_V (As := [.int (xs (i.toNatClampNeg + 1))]) (rest := []) C (a_X10_force_r l K G H102 ((xs (i.toNatClampNeg + 1))) (y4) hTH102 gb m120 g110 g111 g112 g113) yo_X10_force wM_L_55 ⟨⟨by decide, by decide⟩, show _ ≤ 284929 by omega, show _ ≤ 8247460 by omega⟩ (x_rv C hTH102 (ci := 10) rfl gb rg_112) rfl hl.1 rfl (Nat.le_of_ble_eq_true rfl) dL_law_518 hSH102 (AE_new hN hSH102.1) (fun vH130 H130 locsH130 pH130 zH130 kH130 hSH130 => ?_)
    obtain ⟨x131, x132, hvH130, ex132, hrH130, g133, g134, g135, g136, mf137, hTH130⟩ := pH130
    subst hvH130
    have f138 : ∀ j : Nat, fI H130 tq j = fI H tq j := fun j => (fI_kept (x_lt hTH102 kH130 gtq (by decide))).trans (f114 j)
    have f139 : ∀ j : Nat, fI H130 uq j = fI H uq j := fun j => (fI_kept (x_lt hTH102 kH130 guq (by decide))).trans (f115 j)
    have m140 := (m116).trans (fR_kept (x_lt hTH102 kH130 ga (by decide))).symm
    have m141 := (m117).trans (fI_kept (x_lt hTH102 kH130 ga (by decide))).symm
    have m142 := (m125).trans (fR_kept (x_lt hTH102 kH130 ga (by decide))).symm
    have m143 := (fV_kept (x_lt hTH102 kH130 ga (by decide))).trans m128
    have m144 := (ex104).trans (fI_kept (x_lt hTH102 kH130 gw (by decide))).symm
    have m145 := (ex105).trans (fI_kept (x_lt hTH102 kH130 gw (by decide))).symm
    have m146 := (ex106).trans (fI_kept (x_lt hTH102 kH130 gw (by decide))).symm
    have m147 := (ex107).trans (fI_kept (x_lt hTH102 kH130 gw (by decide))).symm
    have m148 := (ex108).trans (fI_kept (x_lt hTH102 kH130 gw (by decide))).symm
    have m149 := (ex109).trans (fI_kept (x_lt hTH102 kH130 gw (by decide))).symm
    have m150 := (m118).trans (MF.i mf137 (k := 18) (by decide) (by decide)).symm
    have m151 := (m119).trans (MF.i mf137 (k := 1) (by decide) (by decide)).symm
    have m152 := (m121).trans (MF.i mf137 (k := 3) (by decide) (by decide)).symm
    have m153 := (m122).trans (MF.i mf137 (k := 59) (by decide) (by decide)).symm
    have m154 := (m123).trans (MF.i mf137 (k := 62) (by decide) (by decide)).symm
    have m155 := (m124).trans (MF.i mf137 (k := 65) (by decide) (by decide)).symm
    have m156 := (m126).trans (MF.r mf137 (k := 17) (by decide) (by decide)).symm
    have m157 := (m127).trans (MF.i mf137 (k := 70) (by decide) (by decide)).symm
    have bx132 := ty_fi (x := x132) (k := 2) ex132 hTH130 gb rg_112 rfl
    refine W.eq (g2 := F0 m 521 ls [.int x131]) rfl ?_
    refine lv_pop hx hb dL_law_521 rfl ?_
    refine lv_goto (tgt := 1509) hx hb dL_law_522 (by decide) ?_
    exact nx G H130 locsH130 _ _ ls ⟨hTH130, hN, ga, gb, g133, g134, g135, g136, ⟨(by rw [← m141, ← m150]; omega), (by rw [← m140, ← m144, ← m151]; omega), (by rw [← m140, ← m145, ← ex132]; omega), (by rw [← m140, ← m146, ← m152]; omega), (by rw [← m140, ← m147, ← m153]; omega), (by rw [← m140, ← m148, ← m154]; omega), (by rw [← m140, ← m149, ← m155]; omega)⟩, Or.inl ⟨m143, (by rw [← m157]; omega)⟩, (by unfold TB; rw [← m142, ← m156, ← m150]; exact TBR.of htr f138 f139 (by omega)), hSH130⟩ hl ⟨by omega, by omega, fun _ => ⟨by omega, by omega⟩⟩
  · skip
    obtain ⟨hi, ehi⟩ : ∃ z : Int32, z = fI H b (K.1.2 10 70) := ⟨_, rfl⟩
    rw [← ehi] at h70
    obtain ⟨iq, eiq⟩ : ∃ z : Nat, z = fR H b (K.1.2 10 73) := ⟨_, rfl⟩
    have giq := ty_fr (q := iq) (k := 73) (u := 162) eiq hT gb rg_112 rfl
    rw [← eiq] at q1 q4 q5 q10 q13 q16
    obtain ⟨k1, ek1⟩ : ∃ z : Int32, z = fI H kq (K.1.2 8 1) := ⟨_, rfl⟩
    rw [← ek1] at q1
    obtain ⟨i1, ei1⟩ : ∃ z : Int32, z = fI H iq ((0 : Int32).toNatClampNeg) := ⟨_, rfl⟩
    rw [← ei1] at q1
    obtain ⟨k4, ek4⟩ : ∃ z : Int32, z = fI H kq (K.1.2 8 4) := ⟨_, rfl⟩
    rw [← ek4] at q4
    obtain ⟨i4, ei4⟩ : ∃ z : Int32, z = fI H iq ((1 : Int32).toNatClampNeg) := ⟨_, rfl⟩
    rw [← ei4] at q4
    obtain ⟨k5, ek5⟩ : ∃ z : Int32, z = fI H kq (K.1.2 8 5) := ⟨_, rfl⟩
    rw [← ek5] at q5
    obtain ⟨i5, ei5⟩ : ∃ z : Int32, z = fI H iq ((2 : Int32).toNatClampNeg) := ⟨_, rfl⟩
    rw [← ei5] at q5
    obtain ⟨k10, ek10⟩ : ∃ z : Int32, z = fI H kq (K.1.2 8 10) := ⟨_, rfl⟩
    rw [← ek10] at q10
    obtain ⟨i10, ei10⟩ : ∃ z : Int32, z = fI H iq ((3 : Int32).toNatClampNeg) := ⟨_, rfl⟩
    rw [← ei10] at q10
    obtain ⟨k13, ek13⟩ : ∃ z : Int32, z = fI H kq (K.1.2 8 13) := ⟨_, rfl⟩
    rw [← ek13] at q13
    obtain ⟨i13, ei13⟩ : ∃ z : Int32, z = fI H iq ((4 : Int32).toNatClampNeg) := ⟨_, rfl⟩
    rw [← ei13] at q13
    obtain ⟨k16, ek16⟩ : ∃ z : Int32, z = fI H kq (K.1.2 8 16) := ⟨_, rfl⟩
    rw [← ek16] at q16
    obtain ⟨i16, ei16⟩ : ∃ z : Int32, z = fI H iq ((5 : Int32).toNatClampNeg) := ⟨_, rfl⟩
    rw [← ei16] at q16
    refine lv_aload_n hx hb dL_law_502 rfl (lv_at hl 2 rfl) ?_
    refine lv_aload_n hx hb dL_law_503 rfl (lv_at hl 3 rfl) ?_
    refine lv_iload_n hx hb dL_law_504 rfl (lv_at hl 0 rfl) ?_
    refine lv_iconst (v := 1) hx hb dL_law_505 (by decide) ?_
    refine lv_iadd hx hb dL_law_506 ?_
    refine lv_topi (fun x158 ex158 => ?_)
    have tx158 := i_add ex158 (by omega)
    have ejx158 : x158.toNatClampNeg = i.toNatClampNeg + 1 := by have h1 := i_cl (x := x158) (by omega); have h2 := i_cl (x := i) (by omega); omega
    refine va_sld hx hb hX hbl (Nat.not_le.mpr hbl) hS (vp_in_iff.mpr (by omega)) dL_law_507 ?_
    refine W.eq (g2 := F0 m 508 ls [.int (xs (i.toNatClampNeg + 1)), .ref a]) (congrArg (fun z => F0 m 508 ls [.int (xs z), .ref a]) ejx158) ?_
    refine x_V (As := [.int (xs (i.toNatClampNeg + 1))]) (rest := []) C (a_X9_force_r l K G H ((xs (i.toNatClampNeg + 1))) (s1) (s4) (s5) (s10) (s13) (s16) hT ga gw ew es1 es4 es5 es10 es13 es16) yo_X9_force wM_L_52 ⟨⟨by decide, by decide⟩, show _ ≤ 284929 by omega, show _ ≤ 8247460 by omega⟩ (x_rv C hT (ci := 9) rfl ga rg_68) rfl hl.1 rfl (Nat.le_of_ble_eq_true rfl) dL_law_508 hS (AE_new hN hS.1) (fun vH159 H159 locsH159 pH159 zH159 kH159 hSH159 => ?_)
    obtain ⟨x160, x161, x162, x163, x164, x165, x166, hvH159, ex161, ex162, ex163, ex164, ex165, ex166, hrH159, hTH159⟩ := pH159
    subst hvH159
    have g167 : CG (avw K H159 b) := CG.congr (fun k hk j => av_eff hT kH159 gb (by decide) (CG_eff [0] (by decide) k hk)) cg
    have g168 : TU (avw K H159 b) (svw K H159 b) := TU.congr (fun k hk j => av_eff hT kH159 gb (by decide) (TU_eff [0] (by decide) k hk)) (fun k hk => sv_eff hT kH159 gb (by decide)) tu
    have g169 : WD (avw K H159 b) := WD.congr (fun k hk j => av_eff hT kH159 gb (by decide) (WD_eff [0] (by decide) k hk)) wd
    have g170 : IM (avw K H159 b) := IM.congr (fun k hk j => av_eff hT kH159 gb (by decide) (IM_eff [0] (by decide) k hk)) im
    have f171 : ∀ j : Nat, fI H159 tq j = fI H tq j := fun j => (fI_kept (x_lt hT kH159 gtq (by decide))).trans (ft0 j)
    have f172 : ∀ j : Nat, fI H159 uq j = fI H uq j := fun j => (fI_kept (x_lt hT kH159 guq (by decide))).trans (fu0 j)
    have m173 := (ew).trans (fR_kept (x_lt hT kH159 ga (by decide))).symm
    have m174 := (eta).trans (fI_kept (x_lt hT kH159 ga (by decide))).symm
    have m175 := (etb).trans (fI_kept (x_lt hT kH159 gb (by decide))).symm
    have m176 := (ey1).trans (fI_kept (x_lt hT kH159 gb (by decide))).symm
    have m177 := (ey4).trans (fI_kept (x_lt hT kH159 gb (by decide))).symm
    have m178 := (ey5).trans (fI_kept (x_lt hT kH159 gb (by decide))).symm
    have m179 := (ey10).trans (fI_kept (x_lt hT kH159 gb (by decide))).symm
    have m180 := (ey13).trans (fI_kept (x_lt hT kH159 gb (by decide))).symm
    have m181 := (ey16).trans (fI_kept (x_lt hT kH159 gb (by decide))).symm
    have m182 := (etq).trans (fR_kept (x_lt hT kH159 ga (by decide))).symm
    have m183 := (euq).trans (fR_kept (x_lt hT kH159 gb (by decide))).symm
    have m184 := (ehi).trans (fI_kept (x_lt hT kH159 gb (by decide))).symm
    have m185 := (fV_kept (x_lt hT kH159 ga (by decide))).trans kn
    have m186 := (eiq).trans (fR_kept (x_lt hT kH159 gb (by decide))).symm
    have m187 := (ek1).trans (fI_kept (x_lt hT kH159 gkq (by decide))).symm
    have m188 := (ei1).trans (fI_kept (x_lt hT kH159 giq (by decide))).symm
    have m189 := (ek4).trans (fI_kept (x_lt hT kH159 gkq (by decide))).symm
    have m190 := (ei4).trans (fI_kept (x_lt hT kH159 giq (by decide))).symm
    have m191 := (ek5).trans (fI_kept (x_lt hT kH159 gkq (by decide))).symm
    have m192 := (ei5).trans (fI_kept (x_lt hT kH159 giq (by decide))).symm
    have m193 := (ek10).trans (fI_kept (x_lt hT kH159 gkq (by decide))).symm
    have m194 := (ei10).trans (fI_kept (x_lt hT kH159 giq (by decide))).symm
    have m195 := (ek13).trans (fI_kept (x_lt hT kH159 gkq (by decide))).symm
    have m196 := (ei13).trans (fI_kept (x_lt hT kH159 giq (by decide))).symm
    have m197 := (ek16).trans (fI_kept (x_lt hT kH159 gkq (by decide))).symm
    have m198 := (ei16).trans (fI_kept (x_lt hT kH159 giq (by decide))).symm
    have bx161 := ty_fi (x := x161) (k := 1) ex161 hTH159 gw rg_0 rfl
    have bx162 := ty_fi (x := x162) (k := 4) ex162 hTH159 gw rg_0 rfl
    have bx163 := ty_fi (x := x163) (k := 5) ex163 hTH159 gw rg_0 rfl
    have bx164 := ty_fi (x := x164) (k := 10) ex164 hTH159 gw rg_0 rfl
    have bx165 := ty_fi (x := x165) (k := 13) ex165 hTH159 gw rg_0 rfl
    have bx166 := ty_fi (x := x166) (k := 16) ex166 hTH159 gw rg_0 rfl
    refine W.eq (g2 := F0 m 511 ls [.int x160]) rfl ?_
    refine lv_pop hx hb dL_law_511 rfl ?_
    refine lv_aload_n hx hb dL_law_512 rfl (lv_at hl 1 rfl) ?_
    refine lv_aload_n hx hb dL_law_513 rfl (lv_at hl 3 rfl) ?_
    refine lv_iload_n hx hb dL_law_514 rfl (lv_at hl 0 rfl) ?_
    refine lv_iconst (v := 1) hx hb dL_law_515 (by decide) ?_
    refine lv_iadd hx hb dL_law_516 ?_
    refine lv_topi (fun x199 ex199 => ?_)
    have tx199 := i_add ex199 (by omega)
    have ejx199 : x199.toNatClampNeg = i.toNatClampNeg + 1 := by have h1 := i_cl (x := x199) (by omega); have h2 := i_cl (x := i) (by omega); omega
    refine va_sld hx hb hX hbl (Nat.not_le.mpr hbl) hSH159 (vp_in_iff.mpr (by omega)) dL_law_517 ?_
    refine W.eq (g2 := F0 m 518 ls [.int (xs (i.toNatClampNeg + 1)), .ref b]) (congrArg (fun z => F0 m 518 ls [.int (xs z), .ref b]) ejx199) ?_
    refine x_V (As := [.int (xs (i.toNatClampNeg + 1))]) (rest := []) C (a_X10_force_r l K G H159 ((xs (i.toNatClampNeg + 1))) (y4) hTH159 gb m177 g167 g168 g169 g170) yo_X10_force wM_L_55 ⟨⟨by decide, by decide⟩, show _ ≤ 284929 by omega, show _ ≤ 8247460 by omega⟩ (x_rv C hTH159 (ci := 10) rfl gb rg_112) rfl hl.1 rfl (Nat.le_of_ble_eq_true rfl) dL_law_518 hSH159 (AE_new hN hSH159.1) (fun vH200 H200 locsH200 pH200 zH200 kH200 hSH200 => ?_)
    obtain ⟨x201, x202, hvH200, ex202, hrH200, g203, g204, g205, g206, mf207, hTH200⟩ := pH200
    subst hvH200
    have f208 : ∀ j : Nat, fI H200 tq j = fI H tq j := fun j => (fI_kept (x_lt hTH159 kH200 gtq (by decide))).trans (f171 j)
    have f209 : ∀ j : Nat, fI H200 uq j = fI H uq j := fun j => (fI_kept (x_lt hTH159 kH200 guq (by decide))).trans (f172 j)
    have m210 := (m173).trans (fR_kept (x_lt hTH159 kH200 ga (by decide))).symm
    have m211 := (m174).trans (fI_kept (x_lt hTH159 kH200 ga (by decide))).symm
    have m212 := (m182).trans (fR_kept (x_lt hTH159 kH200 ga (by decide))).symm
    have m213 := (fV_kept (x_lt hTH159 kH200 ga (by decide))).trans m185
    have m214 := (m187).trans (fI_kept (x_lt hTH159 kH200 gkq (by decide))).symm
    have m215 := (m188).trans (fI_kept (x_lt hTH159 kH200 giq (by decide))).symm
    have m216 := (m189).trans (fI_kept (x_lt hTH159 kH200 gkq (by decide))).symm
    have m217 := (m190).trans (fI_kept (x_lt hTH159 kH200 giq (by decide))).symm
    have m218 := (m191).trans (fI_kept (x_lt hTH159 kH200 gkq (by decide))).symm
    have m219 := (m192).trans (fI_kept (x_lt hTH159 kH200 giq (by decide))).symm
    have m220 := (m193).trans (fI_kept (x_lt hTH159 kH200 gkq (by decide))).symm
    have m221 := (m194).trans (fI_kept (x_lt hTH159 kH200 giq (by decide))).symm
    have m222 := (m195).trans (fI_kept (x_lt hTH159 kH200 gkq (by decide))).symm
    have m223 := (m196).trans (fI_kept (x_lt hTH159 kH200 giq (by decide))).symm
    have m224 := (m197).trans (fI_kept (x_lt hTH159 kH200 gkq (by decide))).symm
    have m225 := (m198).trans (fI_kept (x_lt hTH159 kH200 giq (by decide))).symm
    have m226 := (ex161).trans (fI_kept (x_lt hTH159 kH200 gw (by decide))).symm
    have m227 := (ex162).trans (fI_kept (x_lt hTH159 kH200 gw (by decide))).symm
    have m228 := (ex163).trans (fI_kept (x_lt hTH159 kH200 gw (by decide))).symm
    have m229 := (ex164).trans (fI_kept (x_lt hTH159 kH200 gw (by decide))).symm
    have m230 := (ex165).trans (fI_kept (x_lt hTH159 kH200 gw (by decide))).symm
    have m231 := (ex166).trans (fI_kept (x_lt hTH159 kH200 gw (by decide))).symm
    have m232 := (m175).trans (MF.i mf207 (k := 18) (by decide) (by decide)).symm
    have m233 := (m176).trans (MF.i mf207 (k := 1) (by decide) (by decide)).symm
    have m234 := (m178).trans (MF.i mf207 (k := 3) (by decide) (by decide)).symm
    have m235 := (m179).trans (MF.i mf207 (k := 59) (by decide) (by decide)).symm
    have m236 := (m180).trans (MF.i mf207 (k := 62) (by decide) (by decide)).symm
    have m237 := (m181).trans (MF.i mf207 (k := 65) (by decide) (by decide)).symm
    have m238 := (m183).trans (MF.r mf207 (k := 17) (by decide) (by decide)).symm
    have m239 := (m184).trans (MF.i mf207 (k := 70) (by decide) (by decide)).symm
    have m240 := (m186).trans (MF.r mf207 (k := 73) (by decide) (by decide)).symm
    have bx202 := ty_fi (x := x202) (k := 2) ex202 hTH200 gb rg_112 rfl
    refine W.eq (g2 := F0 m 521 ls [.int x201]) rfl ?_
    refine lv_pop hx hb dL_law_521 rfl ?_
    refine lv_goto (tgt := 1509) hx hb dL_law_522 (by decide) ?_
    exact nx G H200 locsH200 _ _ ls ⟨hTH200, hN, ga, gb, g203, g204, g205, g206, ⟨(by rw [← m211, ← m232]; omega), (by rw [← m210, ← m226, ← m233]; omega), (by rw [← m210, ← m227, ← ex202]; omega), (by rw [← m210, ← m228, ← m234]; omega), (by rw [← m210, ← m229, ← m235]; omega), (by rw [← m210, ← m230, ← m236]; omega), (by rw [← m210, ← m231, ← m237]; omega)⟩, Or.inr ⟨kq, m213, gkq, (by rw [← m239]; omega), (by rw [← m214, ← m240, ← m215]; omega), (by rw [← m216, ← m240, ← m217]; omega), (by rw [← m218, ← m240, ← m219]; omega), (by rw [← m220, ← m240, ← m221]; omega), (by rw [← m222, ← m240, ← m223]; omega), (by rw [← m224, ← m240, ← m225]; omega)⟩, (by unfold TB; rw [← m212, ← m238, ← m232]; exact TBR.of htr f208 f209 (by omega)), hSH200⟩ hl ⟨by omega, by omega, fun h => by have h1 := h.symm.trans m213; cases h1⟩