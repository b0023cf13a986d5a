set_option maxRecDepth 100000 in
set_option maxHeartbeats 8000000 in
theorem lw_c9 {p : Program} {l : Launch} {e : Env} {s : State} {m : MethodId} {below : List Frame} {meth : Method} {c : Code} {K : KE} {b0 L : Nat} {xs : Nat → Int32} {G : Nat → Option Nat} {H : Heap} {locs : List Loc} {a b : Nat} {cells slots : Nat} {ls : Array Slot} {i : Int32} {n : Nat} (D : LC p K s m meth c b0 L xs) (S : SX K s G H locs a b) (hl : lv_has ls 4 [(3, .int i), (2, .ref b), (1, .ref a), (0, .ref b0)]) (hi : 0 ≤ i.toInt ∧ i.toInt + 6 ≤ L) (hn : n ≤ 511) (hB : BD K H a cells slots) (nx : ∀ (G : Nat → Option Nat) (H : Heap) (locs : List Loc) (cells slots : Nat) (ls : Array Slot), SX K s G H locs a b → lv_has ls 4 [(3, .int i), (2, .ref b), (1, .ref a), (0, .ref b0)] → BD K H a cells slots → W p l e room_1 s m #[Value.ref b0] below meth c H locs cells slots (lw_Z below #[Value.ref b0] s) (F0 m 1509 ls [])) : W p l e room_1 s m #[Value.ref b0] below meth c H locs cells slots (lw_Z below #[Value.ref b0] s) (F0 m 525 ls []) := by
  obtain ⟨C, hX, hbl, hL⟩ := id D
  obtain ⟨hx, hb, hml, hown, hts, hKT, hr, hlocks, hnm⟩ := id C
  obtain ⟨hT, hN, ga, gb, cg, tu, wd, im, ⟨rt, r1, r4, r5, r10, r13, r16⟩, hk, htb, hS⟩ := S
  obtain ⟨hc, hs, hB0⟩ := hB
  have n_1 : (1 : Int32).toInt = 1 := rfl
  have n_2 : (2 : Int32).toInt = 2 := rfl
  have n_3 : (3 : Int32).toInt = 3 := rfl
  have n_4 : (4 : Int32).toInt = 4 := rfl
  have n_5 : (5 : Int32).toInt = 5 := rfl
  obtain ⟨w, ew⟩ : ∃ z : Nat, z = fR H a (K.1.2 9 0) := ⟨_, rfl⟩
  have gw := ty_fr (q := w) (k := 0) (u := 0) ew hT ga rg_68 rfl
  rw [← ew] at r1 r4 r5 r10 r13 r16
  obtain ⟨ta, eta⟩ : ∃ z : Int32, z = fI H a (K.1.2 9 3) := ⟨_, rfl⟩
  rw [← eta] at rt
  obtain ⟨tb, etb⟩ : ∃ z : Int32, z = fI H b (K.1.2 10 18) := ⟨_, rfl⟩
  rw [← etb] at rt
  obtain ⟨s1, es1⟩ : ∃ z : Int32, z = fI H w (K.1.2 8 1) := ⟨_, rfl⟩
  rw [← es1] at r1
  obtain ⟨y1, ey1⟩ : ∃ z : Int32, z = fI H b (K.1.2 10 1) := ⟨_, rfl⟩
  rw [← ey1] at r1
  obtain ⟨s4, es4⟩ : ∃ z : Int32, z = fI H w (K.1.2 8 4) := ⟨_, rfl⟩
  rw [← es4] at r4
  obtain ⟨y4, ey4⟩ : ∃ z : Int32, z = fI H b (K.1.2 10 2) := ⟨_, rfl⟩
  rw [← ey4] at r4
  obtain ⟨s5, es5⟩ : ∃ z : Int32, z = fI H w (K.1.2 8 5) := ⟨_, rfl⟩
  rw [← es5] at r5
  obtain ⟨y5, ey5⟩ : ∃ z : Int32, z = fI H b (K.1.2 10 3) := ⟨_, rfl⟩
  rw [← ey5] at r5
  obtain ⟨s10, es10⟩ : ∃ z : Int32, z = fI H w (K.1.2 8 10) := ⟨_, rfl⟩
  rw [← es10] at r10
  obtain ⟨y10, ey10⟩ : ∃ z : Int32, z = fI H b (K.1.2 10 59) := ⟨_, rfl⟩
  rw [← ey10] at r10
  obtain ⟨s13, es13⟩ : ∃ z : Int32, z = fI H w (K.1.2 8 13) := ⟨_, rfl⟩
  rw [← es13] at r13
  obtain ⟨y13, ey13⟩ : ∃ z : Int32, z = fI H b (K.1.2 10 62) := ⟨_, rfl⟩
  rw [← ey13] at r13
  obtain ⟨s16, es16⟩ : ∃ z : Int32, z = fI H w (K.1.2 8 16) := ⟨_, rfl⟩
  rw [← es16] at r16
  obtain ⟨y16, ey16⟩ : ∃ z : Int32, z = fI H b (K.1.2 10 65) := ⟨_, rfl⟩
  rw [← ey16] at r16
  obtain ⟨tq, etq⟩ : ∃ z : Nat, z = fR H a (K.1.2 9 2) := ⟨_, rfl⟩
  have gtq := ty_fr (q := tq) (k := 2) (u := 108) etq hT ga rg_68 rfl
  obtain ⟨uq, euq⟩ : ∃ z : Nat, z = fR H b (K.1.2 10 17) := ⟨_, rfl⟩
  have guq := ty_fr (q := uq) (k := 17) (u := 126) euq hT gb rg_112 rfl
  have htr : TBR (fun j => fI H tq j) (fun j => fI H uq j) tb.toNatClampNeg := by rw [etq, euq, etb]; exact htb
  have ft0 : ∀ j : Nat, fI H tq j = fI H tq j := fun _ => rfl
  have fu0 : ∀ j : Nat, fI H uq j = fI H uq j := fun _ => rfl
  have bta := ty_fi (x := ta) (k := 3) eta hT ga rg_68 rfl
  have cta := i_cl (x := ta) (by omega)
  have btb := ty_fi (x := tb) (k := 18) etb hT gb rg_112 rfl
  have ctb := i_cl (x := tb) (by omega)
  rcases hk with ⟨kn, h70⟩ | ⟨kq, kn, gkq, h70, q1, q4, q5, q10, q13, q16⟩
  · skip
    obtain ⟨hi, ehi⟩ : ∃ z : Int32, z = fI H b (K.1.2 10 70) := ⟨_, rfl⟩
    rw [← ehi] at h70
    obtain ⟨hc0, hs0⟩ := hB0 kn
    refine lv_aload_n hx hb dL_law_525 rfl (lv_at hl 2 rfl) ?_
    refine lv_aload_n hx hb dL_law_526 rfl (lv_at hl 3 rfl) ?_
    refine lv_iload_n hx hb dL_law_527 rfl (lv_at hl 0 rfl) ?_
    refine lv_iconst (v := 1) hx hb dL_law_528 (by decide) ?_
    refine lv_iadd hx hb dL_law_529 ?_
    refine lv_topi (fun x101 ex101 => ?_)
    have tx101 := i_add ex101 (by omega)
    have ejx101 : x101.toNatClampNeg = i.toNatClampNeg + 1 := by have h1 := i_cl (x := x101) (by omega); have h2 := i_cl (x := i) (by omega); omega
    refine va_sld hx hb hX hbl (Nat.not_le.mpr hbl) hS (vp_in_iff.mpr (by omega)) dL_law_530 ?_
    refine W.eq (g2 := F0 m 531 ls [.int (xs (i.toNatClampNeg + 1)), .ref a]) (congrArg (fun z => F0 m 531 ls [.int (xs z), .ref a]) ejx101) ?_
    refine lv_aload_n hx hb dL_law_531 rfl (lv_at hl 3 rfl) ?_
    refine lv_iload_n hx hb dL_law_532 rfl (lv_at hl 0 rfl) ?_
    refine lv_iconst (v := 2) hx hb dL_law_533 (by decide) ?_
    refine lv_iadd hx hb dL_law_534 ?_
    refine lv_topi (fun x102 ex102 => ?_)
    have tx102 := i_add ex102 (by omega)
    have ejx102 : x102.toNatClampNeg = i.toNatClampNeg + 2 := by have h1 := i_cl (x := x102) (by omega); have h2 := i_cl (x := i) (by omega); omega
    refine va_sld hx hb hX hbl (Nat.not_le.mpr hbl) hS (vp_in_iff.mpr (by omega)) dL_law_535 ?_
    refine W.eq (g2 := F0 m 536 ls [.int (xs (i.toNatClampNeg + 2)), .int (xs (i.toNatClampNeg + 1)), .ref a]) (congrArg (fun z => F0 m 536 ls [.int (xs z), .int (xs (i.toNatClampNeg + 1)), .ref a]) ejx102) ?_
    refine lv_aload_n hx hb dL_law_536 rfl (lv_at hl 3 rfl) ?_
    refine lv_iload_n hx hb dL_law_537 rfl (lv_at hl 0 rfl) ?_
    refine lv_iconst (v := 3) hx hb dL_law_538 (by decide) ?_
    refine lv_iadd hx hb dL_law_539 ?_
    refine lv_topi (fun x103 ex103 => ?_)
    have tx103 := i_add ex103 (by omega)
    have ejx103 : x103.toNatClampNeg = i.toNatClampNeg + 3 := by have h1 := i_cl (x := x103) (by omega); have h2 := i_cl (x := i) (by omega); omega
    refine va_sld hx hb hX hbl (Nat.not_le.mpr hbl) hS (vp_in_iff.mpr (by omega)) dL_law_540 ?_
    refine W.eq (g2 := F0 m 541 ls [.int (xs (i.toNatClampNeg + 3)), .int (xs (i.toNatClampNeg + 2)), .int (xs (i.toNatClampNeg + 1)), .ref a]) (congrArg (fun z => F0 m 541 ls [.int (xs z), .int (xs (i.toNatClampNeg + 2)), .int (xs (i.toNatClampNeg + 1)), .ref a]) ejx103) ?_
    refine lv_aload_n hx hb dL_law_541 rfl (lv_at hl 3 rfl) ?_
    refine lv_iload_n hx hb dL_law_542 rfl (lv_at hl 0 rfl) ?_
    refine lv_iconst (v := 4) hx hb dL_law_543 (by decide) ?_
    refine lv_iadd hx hb dL_law_544 ?_
    refine lv_topi (fun x104 ex104 => ?_)
    have tx104 := i_add ex104 (by omega)
    have ejx104 : x104.toNatClampNeg = i.toNatClampNeg + 4 := by have h1 := i_cl (x := x104) (by omega); have h2 := i_cl (x := i) (by omega); omega
    refine va_sld hx hb hX hbl (Nat.not_le.mpr hbl) hS (vp_in_iff.mpr (by omega)) dL_law_545 ?_
    refine W.eq (g2 := F0 m 546 ls [.int (xs (i.toNatClampNeg + 4)), .int (xs (i.toNatClampNeg + 3)), .int (xs (i.toNatClampNeg + 2)), .int (xs (i.toNatClampNeg + 1)), .ref a]) (congrArg (fun z => F0 m 546 ls [.int (xs z), .int (xs (i.toNatClampNeg + 3)), .int (xs (i.toNatClampNeg + 2)), .int (xs (i.toNatClampNeg + 1)), .ref a]) ejx104) ?_
    refine lv_aload_n hx hb dL_law_546 rfl (lv_at hl 3 rfl) ?_
    refine lv_iload_n hx hb dL_law_547 rfl (lv_at hl 0 rfl) ?_
    refine lv_iconst (v := 5) hx hb dL_law_548 (by decide) ?_
    refine lv_iadd hx hb dL_law_549 ?_
    refine lv_topi (fun x105 ex105 => ?_)
    have tx105 := i_add ex105 (by omega)
    have ejx105 : x105.toNatClampNeg = i.toNatClampNeg + 5 := by have h1 := i_cl (x := x105) (by omega); have h2 := i_cl (x := i) (by omega); omega
    refine va_sld hx hb hX hbl (Nat.not_le.mpr hbl) hS (vp_in_iff.mpr (by omega)) dL_law_550 ?_
    refine W.eq (g2 := F0 m 551 ls [.int (xs (i.toNatClampNeg + 5)), .int (xs (i.toNatClampNeg + 4)), .int (xs (i.toNatClampNeg + 3)), .int (xs (i.toNatClampNeg + 2)), .int (xs (i.toNatClampNeg + 1)), .ref a]) (congrArg (fun z => F0 m 551 ls [.int (xs z), .int (xs (i.toNatClampNeg + 4)), .int (xs (i.toNatClampNeg + 3)), .int (xs (i.toNatClampNeg + 2)), .int (xs (i.toNatClampNeg + 1)), .ref a]) ejx105) ?_
    refine x_V (As := [.int (xs (i.toNatClampNeg + 1)), .int (xs (i.toNatClampNeg + 2)), .int (xs (i.toNatClampNeg + 3)), .int (xs (i.toNatClampNeg + 4)), .int (xs (i.toNatClampNeg + 5))]) (rest := []) C (a_X9_tells l K G H ((xs (i.toNatClampNeg + 1))) ((xs (i.toNatClampNeg + 2))) ((xs (i.toNatClampNeg + 3))) ((xs (i.toNatClampNeg + 4))) ((xs (i.toNatClampNeg + 5))) hT ga) yo_X9_tells wM_L_56 ⟨⟨by decide, by decide⟩, show _ ≤ 284929 by omega, show _ ≤ 8247460 by omega⟩ (x_rv C hT (ci := 9) rfl ga rg_68) rfl hl.1 rfl (Nat.le_of_ble_eq_true rfl) dL_law_551 hS (AE_new hN hS.1) (fun vH106 H106 locsH106 pH106 zH106 kH106 hSH106 => ?_)
    obtain ⟨x107, hvH106, hTH106⟩ := pH106
    subst hvH106
    have g108 : CG (avw K H106 b) := CG.congr (fun k hk j => av_eff hT kH106 gb (by decide) (CG_eff [83, 84] (by decide) k hk)) cg
    have g109 : TU (avw K H106 b) (svw K H106 b) := TU.congr (fun k hk j => av_eff hT kH106 gb (by decide) (TU_eff [83, 84] (by decide) k hk)) (fun k hk => sv_eff hT kH106 gb (by decide)) tu
    have g110 : WD (avw K H106 b) := WD.congr (fun k hk j => av_eff hT kH106 gb (by decide) (WD_eff [83, 84] (by decide) k hk)) wd
    have g111 : IM (avw K H106 b) := IM.congr (fun k hk j => av_eff hT kH106 gb (by decide) (IM_eff [83, 84] (by decide) k hk)) im
    have f112 : ∀ j : Nat, fI H106 tq j = fI H tq j := fun j => (fI_kept (x_lt hT kH106 gtq (by decide))).trans (ft0 j)
    have f113 : ∀ j : Nat, fI H106 uq j = fI H uq j := fun j => (fI_kept (x_lt hT kH106 guq (by decide))).trans (fu0 j)
    have m114 := (ew).trans (fR_kept (x_lt hT kH106 ga (by decide))).symm
    have m115 := (eta).trans (fI_kept (x_lt hT kH106 ga (by decide))).symm
    have m116 := (etb).trans (fI_kept (x_lt hT kH106 gb (by decide))).symm
    have m117 := (es1).trans (fI_kept (x_lt hT kH106 gw (by decide))).symm
    have m118 := (ey1).trans (fI_kept (x_lt hT kH106 gb (by decide))).symm
    have m119 := (es4).trans (fI_kept (x_lt hT kH106 gw (by decide))).symm
    have m120 := (ey4).trans (fI_kept (x_lt hT kH106 gb (by decide))).symm
    have m121 := (es5).trans (fI_kept (x_lt hT kH106 gw (by decide))).symm
    have m122 := (ey5).trans (fI_kept (x_lt hT kH106 gb (by decide))).symm
    have m123 := (es10).trans (fI_kept (x_lt hT kH106 gw (by decide))).symm
    have m124 := (ey10).trans (fI_kept (x_lt hT kH106 gb (by decide))).symm
    have m125 := (es13).trans (fI_kept (x_lt hT kH106 gw (by decide))).symm
    have m126 := (ey13).trans (fI_kept (x_lt hT kH106 gb (by decide))).symm
    have m127 := (es16).trans (fI_kept (x_lt hT kH106 gw (by decide))).symm
    have m128 := (ey16).trans (fI_kept (x_lt hT kH106 gb (by decide))).symm
    have m129 := (etq).trans (fR_kept (x_lt hT kH106 ga (by decide))).symm
    have m130 := (euq).trans (fR_kept (x_lt hT kH106 gb (by decide))).symm
    have m131 := (ehi).trans (fI_kept (x_lt hT kH106 gb (by decide))).symm
    have m132 := (fV_kept (x_lt hT kH106 ga (by decide))).trans kn
    refine W.eq (g2 := F0 m 554 ls [.int x107]) rfl ?_
    refine lv_pop hx hb dL_law_554 rfl ?_
    refine lv_aload_n hx hb dL_law_555 rfl (lv_at hl 1 rfl) ?_
    refine lv_aload_n hx hb dL_law_556 rfl (lv_at hl 3 rfl) ?_
    refine lv_iload_n hx hb dL_law_557 rfl (lv_at hl 0 rfl) ?_
    refine lv_iconst (v := 1) hx hb dL_law_558 (by decide) ?_
    refine lv_iadd hx hb dL_law_559 ?_
    refine lv_topi (fun x133 ex133 => ?_)
    have tx133 := i_add ex133 (by omega)
    have ejx133 : x133.toNatClampNeg = i.toNatClampNeg + 1 := by have h1 := i_cl (x := x133) (by omega); have h2 := i_cl (x := i) (by omega); omega
    refine va_sld hx hb hX hbl (Nat.not_le.mpr hbl) hSH106 (vp_in_iff.mpr (by omega)) dL_law_560 ?_
    refine W.eq (g2 := F0 m 561 ls [.int (xs (i.toNatClampNeg + 1)), .ref b]) (congrArg (fun z => F0 m 561 ls [.int (xs z), .ref b]) ejx133) ?_
    refine lv_aload_n hx hb dL_law_561 rfl (lv_at hl 3 rfl) ?_
    refine lv_iload_n hx hb dL_law_562 rfl (lv_at hl 0 rfl) ?_
    refine lv_iconst (v := 2) hx hb dL_law_563 (by decide) ?_
    refine lv_iadd hx hb dL_law_564 ?_
    refine lv_topi (fun x134 ex134 => ?_)
    have tx134 := i_add ex134 (by omega)
    have ejx134 : x134.toNatClampNeg = i.toNatClampNeg + 2 := by have h1 := i_cl (x := x134) (by omega); have h2 := i_cl (x := i) (by omega); omega
    refine va_sld hx hb hX hbl (Nat.not_le.mpr hbl) hSH106 (vp_in_iff.mpr (by omega)) dL_law_565 ?_
    refine W.eq (g2 := F0 m 566 ls [.int (xs (i.toNatClampNeg + 2)), .int (xs (i.toNatClampNeg + 1)), .ref b]) (congrArg (fun z => F0 m 566 ls [.int (xs z), .int (xs (i.toNatClampNeg + 1)), .ref b]) ejx134) ?_
    refine lv_aload_n hx hb dL_law_566 rfl (lv_at hl 3 rfl) ?_
    refine lv_iload_n hx hb dL_law_567 rfl (lv_at hl 0 rfl) ?_
    refine lv_iconst (v := 3) hx hb dL_law_568 (by decide) ?_
    refine lv_iadd hx hb dL_law_569 ?_
    refine lv_topi (fun x135 ex135 => ?_)
    have tx135 := i_add ex135 (by omega)
    have ejx135 : x135.toNatClampNeg = i.toNatClampNeg + 3 := by have h1 := i_cl (x := x135) (by omega); have h2 := i_cl (x := i) (by omega); omega
    refine va_sld hx hb hX hbl (Nat.not_le.mpr hbl) hSH106 (vp_in_iff.mpr (by omega)) dL_law_570 ?_
    refine W.eq (g2 := F0 m 571 ls [.int (xs (i.toNatClampNeg + 3)), .int (xs (i.toNatClampNeg + 2)), .int (xs (i.toNatClampNeg + 1)), .ref b]) (congrArg (fun z => F0 m 571 ls [.int (xs z), .int (xs (i.toNatClampNeg + 2)), .int (xs (i.toNatClampNeg + 1)), .ref b]) ejx135) ?_
    refine lv_aload_n hx hb dL_law_571 rfl (lv_at hl 3 rfl) ?_
    refine lv_iload_n hx hb dL_law_572 rfl (lv_at hl 0 rfl) ?_
    refine lv_iconst (v := 4) hx hb dL_law_573 (by decide) ?_
    refine lv_iadd hx hb dL_law_574 ?_
    refine lv_topi (fun x136 ex136 => ?_)
    have tx136 := i_add ex136 (by omega)
    have ejx136 : x136.toNatClampNeg = i.toNatClampNeg + 4 := by have h1 := i_cl (x := x136) (by omega); have h2 := i_cl (x := i) (by omega); omega
    refine va_sld hx hb hX hbl (Nat.not_le.mpr hbl) hSH106 (vp_in_iff.mpr (by omega)) dL_law_575 ?_
    refine W.eq (g2 := F0 m 576 ls [.int (xs (i.toNatClampNeg + 4)), .int (xs (i.toNatClampNeg + 3)), .int (xs (i.toNatClampNeg + 2)), .int (xs (i.toNatClampNeg + 1)), .ref b]) (congrArg (fun z => F0 m 576 ls [.int (xs z), .int (xs (i.toNatClampNeg + 3)), .int (xs (i.toNatClampNeg + 2)), .int (xs (i.toNatClampNeg + 1)), .ref b]) ejx136) ?_
    refine lv_aload_n hx hb dL_law_576 rfl (lv_at hl 3 rfl) ?_
    refine lv_iload_n hx hb dL_law_577 rfl (lv_at hl 0 rfl) ?_
    refine lv_iconst (v := 5) hx hb dL_law_578 (by decide) ?_
    refine lv_iadd hx hb dL_law_579 ?_
    refine lv_topi (fun x137 ex137 => ?_)
    have tx137 := i_add ex137 (by omega)
    have ejx137 : x137.toNatClampNeg = i.toNatClampNeg + 5 := by have h1 := i_cl (x := x137) (by omega); have h2 := i_cl (x := i) (by omega); omega
    refine va_sld hx hb hX hbl (Nat.not_le.mpr hbl) hSH106 (vp_in_iff.mpr (by omega)) dL_law_580 ?_
    refine W.eq (g2 := F0 m 581 ls [.int (xs (i.toNatClampNeg + 5)), .int (xs (i.toNatClampNeg + 4)), .int (xs (i.toNatClampNeg + 3)), .int (xs (i.toNatClampNeg + 2)), .int (xs (i.toNatClampNeg + 1)), .ref b]) (congrArg (fun z => F0 m 581 ls [.int (xs z), .int (xs (i.toNatClampNeg + 4)), .int (xs (i.toNatClampNeg + 3)), .int (xs (i.toNatClampNeg + 2)), .int (xs (i.toNatClampNeg + 1)), .ref b]) ejx137) ?_
    refine x_V (As := [.int (xs (i.toNatClampNeg + 1)), .int (xs (i.toNatClampNeg + 2)), .int (xs (i.toNatClampNeg + 3)), .int (xs (i.toNatClampNeg + 4)), .int (xs (i.toNatClampNeg + 5))]) (rest := []) C (a_X10_tells l K G H106 ((xs (i.toNatClampNeg + 1))) ((xs (i.toNatClampNeg + 2))) ((xs (i.toNatClampNeg + 3))) ((xs (i.toNatClampNeg + 4))) ((xs (i.toNatClampNeg + 5))) hTH106 gb g108 g109 g110 g111) yo_X10_tells wM_L_59 ⟨⟨by decide, by decide⟩, show _ ≤ 284929 by omega, show _ ≤ 8247460 by omega⟩ (x_rv C hTH106 (ci := 10) rfl gb rg_112) rfl hl.1 rfl (Nat.le_of_ble_eq_true rfl) dL_law_581 hSH106 (AE_new hN hSH106.1) (fun vH138 H138 locsH138 pH138 zH138 kH138 hSH138 => ?_)
    obtain ⟨x139, hvH138, g140, g141, g142, g143, mf144, hTH138⟩ := pH138
    subst hvH138
    have f145 : ∀ j : Nat, fI H138 tq j = fI H tq j := fun j => (fI_kept (x_lt hTH106 kH138 gtq (by decide))).trans (f112 j)
    have f146 : ∀ j : Nat, fI H138 uq j = fI H uq j := fun j => (fI_kept (x_lt hTH106 kH138 guq (by decide))).trans (f113 j)
    have m147 := (m114).trans (fR_kept (x_lt hTH106 kH138 ga (by decide))).symm
    have m148 := (m115).trans (fI_kept (x_lt hTH106 kH138 ga (by decide))).symm
    have m149 := (m117).trans (fI_kept (x_lt hTH106 kH138 gw (by decide))).symm
    have m150 := (m119).trans (fI_kept (x_lt hTH106 kH138 gw (by decide))).symm
    have m151 := (m121).trans (fI_kept (x_lt hTH106 kH138 gw (by decide))).symm
    have m152 := (m123).trans (fI_kept (x_lt hTH106 kH138 gw (by decide))).symm
    have m153 := (m125).trans (fI_kept (x_lt hTH106 kH138 gw (by decide))).symm
    have m154 := (m127).trans (fI_kept (x_lt hTH106 kH138 gw (by decide))).symm
    have m155 := (m129).trans (fR_kept (x_lt hTH106 kH138 ga (by decide))).symm
    have m156 := (fV_kept (x_lt hTH106 kH138 ga (by decide))).trans m132
    have m157 := (m116).trans (MF.i mf144 (k := 18) (by decide) (by decide)).symm
    have m158 := (m118).trans (MF.i mf144 (k := 1) (by decide) (by decide)).symm
    have m159 := (m120).trans (MF.i mf144 (k := 2) (by decide) (by decide)).symm
    have m160 := (m122).trans (MF.i mf144 (k := 3) (by decide) (by decide)).symm
    have m161 := (m124).trans (MF.i mf144 (k := 59) (by decide) (by decide)).symm
    have m162 := (m126).trans (MF.i mf144 (k := 62) (by decide) (by decide)).symm
    have m163 := (m128).trans (MF.i mf144 (k := 65) (by decide) (by decide)).symm
    have m164 := (m130).trans (MF.r mf144 (k := 17) (by decide) (by decide)).symm
    have m165 := (m131).trans (MF.i mf144 (k := 70) (by decide) (by decide)).symm
    refine W.eq (g2 := F0 m 584 ls [.int x139]) rfl ?_
    refine lv_pop hx hb dL_law_584 rfl ?_
    refine lv_goto (tgt := 1509) hx hb dL_law_585 (by decide) ?_
    exact nx G H138 locsH138 _ _ ls ⟨hTH138, hN, ga, gb, g140, g141, g142, g143, ⟨(by rw [← m148, ← m157]; omega), (by rw [← m147, ← m149, ← m158]; omega), (by rw [← m147, ← m150, ← m159]; omega), (by rw [← m147, ← m151, ← m160]; omega), (by rw [← m147, ← m152, ← m161]; omega), (by rw [← m147, ← m153, ← m162]; omega), (by rw [← m147, ← m154, ← m163]; omega)⟩, Or.inl ⟨m156, (by rw [← m165]; omega)⟩, (by unfold TB; rw [← m155, ← m164, ← m157]; exact TBR.of htr f145 f146 (by omega)), hSH138⟩ hl ⟨by omega, by omega, fun _ => ⟨by omega, by omega⟩⟩
  · skip
    obtain ⟨hi, ehi⟩ : ∃ z : Int32, z = fI H b (K.1.2 10 70) := ⟨_, rfl⟩
    rw [← ehi] at h70
    obtain ⟨iq, eiq⟩ : ∃ z : Nat, z = fR H b (K.1.2 10 73) := ⟨_, rfl⟩
    have giq := ty_fr (q := iq) (k := 73) (u := 162) eiq hT gb rg_112 rfl
    rw [← eiq] at q1 q4 q5 q10 q13 q16
    obtain ⟨k1, ek1⟩ : ∃ z : Int32, z = fI H kq (K.1.2 8 1) := ⟨_, rfl⟩
    rw [← ek1] at q1
    obtain ⟨i1, ei1⟩ : ∃ z : Int32, z = fI H iq ((0 : Int32).toNatClampNeg) := ⟨_, rfl⟩
    rw [← ei1] at q1
    obtain ⟨k4, ek4⟩ : ∃ z : Int32, z = fI H kq (K.1.2 8 4) := ⟨_, rfl⟩
    rw [← ek4] at q4
    obtain ⟨i4, ei4⟩ : ∃ z : Int32, z = fI H iq ((1 : Int32).toNatClampNeg) := ⟨_, rfl⟩
    rw [← ei4] at q4
    obtain ⟨k5, ek5⟩ : ∃ z : Int32, z = fI H kq (K.1.2 8 5) := ⟨_, rfl⟩
    rw [← ek5] at q5
    obtain ⟨i5, ei5⟩ : ∃ z : Int32, z = fI H iq ((2 : Int32).toNatClampNeg) := ⟨_, rfl⟩
    rw [← ei5] at q5
    obtain ⟨k10, ek10⟩ : ∃ z : Int32, z = fI H kq (K.1.2 8 10) := ⟨_, rfl⟩
    rw [← ek10] at q10
    obtain ⟨i10, ei10⟩ : ∃ z : Int32, z = fI H iq ((3 : Int32).toNatClampNeg) := ⟨_, rfl⟩
    rw [← ei10] at q10
    obtain ⟨k13, ek13⟩ : ∃ z : Int32, z = fI H kq (K.1.2 8 13) := ⟨_, rfl⟩
    rw [← ek13] at q13
    obtain ⟨i13, ei13⟩ : ∃ z : Int32, z = fI H iq ((4 : Int32).toNatClampNeg) := ⟨_, rfl⟩
    rw [← ei13] at q13
    obtain ⟨k16, ek16⟩ : ∃ z : Int32, z = fI H kq (K.1.2 8 16) := ⟨_, rfl⟩
    rw [← ek16] at q16
    obtain ⟨i16, ei16⟩ : ∃ z : Int32, z = fI H iq ((5 : Int32).toNatClampNeg) := ⟨_, rfl⟩
    rw [← ei16] at q16
    refine lv_aload_n hx hb dL_law_525 rfl (lv_at hl 2 rfl) ?_
    refine lv_aload_n hx hb dL_law_526 rfl (lv_at hl 3 rfl) ?_
    refine lv_iload_n hx hb dL_law_527 rfl (lv_at hl 0 rfl) ?_
    refine lv_iconst (v := 1) hx hb dL_law_528 (by decide) ?_
    refine lv_iadd hx hb dL_law_529 ?_
    refine lv_topi (fun x166 ex166 => ?_)
    have tx166 := i_add ex166 (by omega)
    have ejx166 : x166.toNatClampNeg = i.toNatClampNeg + 1 := by have h1 := i_cl (x := x166) (by omega); have h2 := i_cl (x := i) (by omega); omega
    refine va_sld hx hb hX hbl (Nat.not_le.mpr hbl) hS (vp_in_iff.mpr (by omega)) dL_law_530 ?_
    refine W.eq (g2 := F0 m 531 ls [.int (xs (i.toNatClampNeg + 1)), .ref a]) (congrArg (fun z => F0 m 531 ls [.int (xs z), .ref a]) ejx166) ?_
    refine lv_aload_n hx hb dL_law_531 rfl (lv_at hl 3 rfl) ?_
    refine lv_iload_n hx hb dL_law_532 rfl (lv_at hl 0 rfl) ?_
    refine lv_iconst (v := 2) hx hb dL_law_533 (by decide) ?_
    refine lv_iadd hx hb dL_law_534 ?_
    refine lv_topi (fun x167 ex167 => ?_)
    have tx167 := i_add ex167 (by omega)
    have ejx167 : x167.toNatClampNeg = i.toNatClampNeg + 2 := by have h1 := i_cl (x := x167) (by omega); have h2 := i_cl (x := i) (by omega); omega
    refine va_sld hx hb hX hbl (Nat.not_le.mpr hbl) hS (vp_in_iff.mpr (by omega)) dL_law_535 ?_
    refine W.eq (g2 := F0 m 536 ls [.int (xs (i.toNatClampNeg + 2)), .int (xs (i.toNatClampNeg + 1)), .ref a]) (congrArg (fun z => F0 m 536 ls [.int (xs z), .int (xs (i.toNatClampNeg + 1)), .ref a]) ejx167) ?_
    refine lv_aload_n hx hb dL_law_536 rfl (lv_at hl 3 rfl) ?_
    refine lv_iload_n hx hb dL_law_537 rfl (lv_at hl 0 rfl) ?_
    refine lv_iconst (v := 3) hx hb dL_law_538 (by decide) ?_
    refine lv_iadd hx hb dL_law_539 ?_
    refine lv_topi (fun x168 ex168 => ?_)
    have tx168 := i_add ex168 (by omega)
    have ejx168 : x168.toNatClampNeg = i.toNatClampNeg + 3 := by have h1 := i_cl (x := x168) (by omega); have h2 := i_cl (x := i) (by omega); omega
    refine va_sld hx hb hX hbl (Nat.not_le.mpr hbl) hS (vp_in_iff.mpr (by omega)) dL_law_540 ?_
    refine W.eq (g2 := F0 m 541 ls [.int (xs (i.toNatClampNeg + 3)), .int (xs (i.toNatClampNeg + 2)), .int (xs (i.toNatClampNeg + 1)), .ref a]) (congrArg (fun z => F0 m 541 ls [.int (xs z), .int (xs (i.toNatClampNeg + 2)), .int (xs (i.toNatClampNeg + 1)), .ref a]) ejx168) ?_
    refine lv_aload_n hx hb dL_law_541 rfl (lv_at hl 3 rfl) ?_
    refine lv_iload_n hx hb dL_law_542 rfl (lv_at hl 0 rfl) ?_
    refine lv_iconst (v := 4) hx hb dL_law_543 (by decide) ?_
    refine lv_iadd hx hb dL_law_544 ?_
    refine lv_topi (fun x169 ex169 => ?_)
    have tx169 := i_add ex169 (by omega)
    have ejx169 : x169.toNatClampNeg = i.toNatClampNeg + 4 := by have h1 := i_cl (x := x169) (by omega); have h2 := i_cl (x := i) (by omega); omega
    refine va_sld hx hb hX hbl (Nat.not_le.mpr hbl) hS (vp_in_iff.mpr (by omega)) dL_law_545 ?_
    refine W.eq (g2 := F0 m 546 ls [.int (xs (i.toNatClampNeg + 4)), .int (xs (i.toNatClampNeg + 3)), .int (xs (i.toNatClampNeg + 2)), .int (xs (i.toNatClampNeg + 1)), .ref a]) (congrArg (fun z => F0 m 546 ls [.int (xs z), .int (xs (i.toNatClampNeg + 3)), .int (xs (i.toNatClampNeg + 2)), .int (xs (i.toNatClampNeg + 1)), .ref a]) ejx169) ?_
    refine lv_aload_n hx hb dL_law_546 rfl (lv_at hl 3 rfl) ?_
    refine lv_iload_n hx hb dL_law_547 rfl (lv_at hl 0 rfl) ?_
    refine lv_iconst (v := 5) hx hb dL_law_548 (by decide) ?_
    refine lv_iadd hx hb dL_law_549 ?_
    refine lv_topi (fun x170 ex170 => ?_)
    have tx170 := i_add ex170 (by omega)
    have ejx170 : x170.toNatClampNeg = i.toNatClampNeg + 5 := by have h1 := i_cl (x := x170) (by omega); have h2 := i_cl (x := i) (by omega); omega
    refine va_sld hx hb hX hbl (Nat.not_le.mpr hbl) hS (vp_in_iff.mpr (by omega)) dL_law_550 ?_
    refine W.eq (g2 := F0 m 551 ls [.int (xs (i.toNatClampNeg + 5)), .int (xs (i.toNatClampNeg + 4)), .int (xs (i.toNatClampNeg + 3)), .int (xs (i.toNatClampNeg + 2)), .int (xs (i.toNatClampNeg + 1)), .ref a]) (congrArg (fun z => F0 m 551 ls [.int (xs z), .int (xs (i.toNatClampNeg + 4)), .int (xs (i.toNatClampNeg + 3)), .int (xs (i.toNatClampNeg + 2)), .int (xs (i.toNatClampNeg + 1)), .ref a]) ejx170) ?_
    refine x_V (As := [.int (xs (i.toNatClampNeg + 1)), .int (xs (i.toNatClampNeg + 2)), .int (xs (i.toNatClampNeg + 3)), .int (xs (i.toNatClampNeg + 4)), .int (xs (i.toNatClampNeg + 5))]) (rest := []) C (a_X9_tells l K G H ((xs (i.toNatClampNeg + 1))) ((xs (i.toNatClampNeg + 2))) ((xs (i.toNatClampNeg + 3))) ((xs (i.toNatClampNeg + 4))) ((xs (i.toNatClampNeg + 5))) hT ga) yo_X9_tells wM_L_56 ⟨⟨by decide, by decide⟩, show _ ≤ 284929 by omega, show _ ≤ 8247460 by omega⟩ (x_rv C hT (ci := 9) rfl ga rg_68) rfl hl.1 rfl (Nat.le_of_ble_eq_true rfl) dL_law_551 hS (AE_new hN hS.1) (fun vH171 H171 locsH171 pH171 zH171 kH171 hSH171 => ?_)
    obtain ⟨x172, hvH171, hTH171⟩ := pH171
    subst hvH171
    have g173 : CG (avw K H171 b) := CG.congr (fun k hk j => av_eff hT kH171 gb (by decide) (CG_eff [83, 84] (by decide) k hk)) cg
    have g174 : TU (avw K H171 b) (svw K H171 b) := TU.congr (fun k hk j => av_eff hT kH171 gb (by decide) (TU_eff [83, 84] (by decide) k hk)) (fun k hk => sv_eff hT kH171 gb (by decide)) tu
    have g175 : WD (avw K H171 b) := WD.congr (fun k hk j => av_eff hT kH171 gb (by decide) (WD_eff [83, 84] (by decide) k hk)) wd
    have g176 : IM (avw K H171 b) := IM.congr (fun k hk j => av_eff hT kH171 gb (by decide) (IM_eff [83, 84] (by decide) k hk)) im
    have f177 : ∀ j : Nat, fI H171 tq j = fI H tq j := fun j => (fI_kept (x_lt hT kH171 gtq (by decide))).trans (ft0 j)
    have f178 : ∀ j : Nat, fI H171 uq j = fI H uq j := fun j => (fI_kept (x_lt hT kH171 guq (by decide))).trans (fu0 j)
    have m179 := (ew).trans (fR_kept (x_lt hT kH171 ga (by decide))).symm
    have m180 := (eta).trans (fI_kept (x_lt hT kH171 ga (by decide))).symm
    have m181 := (etb).trans (fI_kept (x_lt hT kH171 gb (by decide))).symm
    have m182 := (es1).trans (fI_kept (x_lt hT kH171 gw (by decide))).symm
    have m183 := (ey1).trans (fI_kept (x_lt hT kH171 gb (by decide))).symm
    have m184 := (es4).trans (fI_kept (x_lt hT kH171 gw (by decide))).symm
    have m185 := (ey4).trans (fI_kept (x_lt hT kH171 gb (by decide))).symm
    have m186 := (es5).trans (fI_kept (x_lt hT kH171 gw (by decide))).symm
    have m187 := (ey5).trans (fI_kept (x_lt hT kH171 gb (by decide))).symm
    have m188 := (es10).trans (fI_kept (x_lt hT kH171 gw (by decide))).symm
    have m189 := (ey10).trans (fI_kept (x_lt hT kH171 gb (by decide))).symm
    have m190 := (es13).trans (fI_kept (x_lt hT kH171 gw (by decide))).symm
    have m191 := (ey13).trans (fI_kept (x_lt hT kH171 gb (by decide))).symm
    have m192 := (es16).trans (fI_kept (x_lt hT kH171 gw (by decide))).symm
    have m193 := (ey16).trans (fI_kept (x_lt hT kH171 gb (by decide))).symm
    have m194 := (etq).trans (fR_kept (x_lt hT kH171 ga (by decide))).symm
    have m195 := (euq).trans (fR_kept (x_lt hT kH171 gb (by decide))).symm
    have m196 := (ehi).trans (fI_kept (x_lt hT kH171 gb (by decide))).symm
    have m197 := (fV_kept (x_lt hT kH171 ga (by decide))).trans kn
    have m198 := (eiq).trans (fR_kept (x_lt hT kH171 gb (by decide))).symm
    have m199 := (ek1).trans (fI_kept (x_lt hT kH171 gkq (by decide))).symm
    have m200 := (ei1).trans (fI_kept (x_lt hT kH171 giq (by decide))).symm
    have m201 := (ek4).trans (fI_kept (x_lt hT kH171 gkq (by decide))).symm
    have m202 := (ei4).trans (fI_kept (x_lt hT kH171 giq (by decide))).symm
    have m203 := (ek5).trans (fI_kept (x_lt hT kH171 gkq (by decide))).symm
    have m204 := (ei5).trans (fI_kept (x_lt hT kH171 giq (by decide))).symm
    have m205 := (ek10).trans (fI_kept (x_lt hT kH171 gkq (by decide))).symm
    have m206 := (ei10).trans (fI_kept (x_lt hT kH171 giq (by decide))).symm
    have m207 := (ek13).trans (fI_kept (x_lt hT kH171 gkq (by decide))).symm
    have m208 := (ei13).trans (fI_kept (x_lt hT kH171 giq (by decide))).symm
    have m209 := (ek16).trans (fI_kept (x_lt hT kH171 gkq (by decide))).symm
    have m210 := (ei16).trans (fI_kept (x_lt hT kH171 giq (by decide))).symm
    refine W.eq (g2 := F0 m 554 ls [.int x172]) rfl ?_
    refine lv_pop hx hb dL_law_554 rfl ?_
    refine lv_aload_n hx hb dL_law_555 rfl (lv_at hl 1 rfl) ?_
    refine lv_aload_n hx hb dL_law_556 rfl (lv_at hl 3 rfl) ?_
    refine lv_iload_n hx hb dL_law_557 rfl (lv_at hl 0 rfl) ?_
    refine lv_iconst (v := 1) hx hb dL_law_558 (by decide) ?_
    refine lv_iadd hx hb dL_law_559 ?_
    refine lv_topi (fun x211 ex211 => ?_)
    have tx211 := i_add ex211 (by omega)
    have ejx211 : x211.toNatClampNeg = i.toNatClampNeg + 1 := by have h1 := i_cl (x := x211) (by omega); have h2 := i_cl (x := i) (by omega); omega
    refine va_sld hx hb hX hbl (Nat.not_le.mpr hbl) hSH171 (vp_in_iff.mpr (by omega)) dL_law_560 ?_
    refine W.eq (g2 := F0 m 561 ls [.int (xs (i.toNatClampNeg + 1)), .ref b]) (congrArg (fun z => F0 m 561 ls [.int (xs z), .ref b]) ejx211) ?_
    refine lv_aload_n hx hb dL_law_561 rfl (lv_at hl 3 rfl) ?_
    refine lv_iload_n hx hb dL_law_562 rfl (lv_at hl 0 rfl) ?_
    refine lv_iconst (v := 2) hx hb dL_law_563 (by decide) ?_
    refine lv_iadd hx hb dL_law_564 ?_
    refine lv_topi (fun x212 ex212 => ?_)
    have tx212 := i_add ex212 (by omega)
    have ejx212 : x212.toNatClampNeg = i.toNatClampNeg + 2 := by have h1 := i_cl (x := x212) (by omega); have h2 := i_cl (x := i) (by omega); omega
    refine va_sld hx hb hX hbl (Nat.not_le.mpr hbl) hSH171 (vp_in_iff.mpr (by omega)) dL_law_565 ?_
    refine W.eq (g2 := F0 m 566 ls [.int (xs (i.toNatClampNeg + 2)), .int (xs (i.toNatClampNeg + 1)), .ref b]) (congrArg (fun z => F0 m 566 ls [.int (xs z), .int (xs (i.toNatClampNeg + 1)), .ref b]) ejx212) ?_
    refine lv_aload_n hx hb dL_law_566 rfl (lv_at hl 3 rfl) ?_
    refine lv_iload_n hx hb dL_law_567 rfl (lv_at hl 0 rfl) ?_
    refine lv_iconst (v := 3) hx hb dL_law_568 (by decide) ?_
    refine lv_iadd hx hb dL_law_569 ?_
    refine lv_topi (fun x213 ex213 => ?_)
    have tx213 := i_add ex213 (by omega)
    have ejx213 : x213.toNatClampNeg = i.toNatClampNeg + 3 := by have h1 := i_cl (x := x213) (by omega); have h2 := i_cl (x := i) (by omega); omega
    refine va_sld hx hb hX hbl (Nat.not_le.mpr hbl) hSH171 (vp_in_iff.mpr (by omega)) dL_law_570 ?_
    refine W.eq (g2 := F0 m 571 ls [.int (xs (i.toNatClampNeg + 3)), .int (xs (i.toNatClampNeg + 2)), .int (xs (i.toNatClampNeg + 1)), .ref b]) (congrArg (fun z => F0 m 571 ls [.int (xs z), .int (xs (i.toNatClampNeg + 2)), .int (xs (i.toNatClampNeg + 1)), .ref b]) ejx213) ?_
    refine lv_aload_n hx hb dL_law_571 rfl (lv_at hl 3 rfl) ?_
    refine lv_iload_n hx hb dL_law_572 rfl (lv_at hl 0 rfl) ?_
    refine lv_iconst (v := 4) hx hb dL_law_573 (by decide) ?_
    refine lv_iadd hx hb dL_law_574 ?_
    refine lv_topi (fun x214 ex214 => ?_)
    have tx214 := i_add ex214 (by omega)
    have ejx214 : x214.toNatClampNeg = i.toNatClampNeg + 4 := by have h1 := i_cl (x := x214) (by omega); have h2 := i_cl (x := i) (by omega); omega
    refine va_sld hx hb hX hbl (Nat.not_le.mpr hbl) hSH171 (vp_in_iff.mpr (by omega)) dL_law_575 ?_
    refine W.eq (g2 := F0 m 576 ls [.int (xs (i.toNatClampNeg + 4)), .int (xs (i.toNatClampNeg + 3)), .int (xs (i.toNatClampNeg + 2)), .int (xs (i.toNatClampNeg + 1)), .ref b]) (congrArg (fun z => F0 m 576 ls [.int (xs z), .int (xs (i.toNatClampNeg + 3)), .int (xs (i.toNatClampNeg + 2)), .int (xs (i.toNatClampNeg + 1)), .ref b]) ejx214) ?_
    refine lv_aload_n hx hb dL_law_576 rfl (lv_at hl 3 rfl) ?_
    refine lv_iload_n hx hb dL_law_577 rfl (lv_at hl 0 rfl) ?_
    refine lv_iconst (v := 5) hx hb dL_law_578 (by decide) ?_
    refine lv_iadd hx hb dL_law_579 ?_
    refine lv_topi (fun x215 ex215 => ?_)
    have tx215 := i_add ex215 (by omega)
    have ejx215 : x215.toNatClampNeg = i.toNatClampNeg + 5 := by have h1 := i_cl (x := x215) (by omega); have h2 := i_cl (x := i) (by omega); omega
    refine va_sld hx hb hX hbl (Nat.not_le.mpr hbl) hSH171 (vp_in_iff.mpr (by omega)) dL_law_580 ?_
    refine W.eq (g2 := F0 m 581 ls [.int (xs (i.toNatClampNeg + 5)), .int (xs (i.toNatClampNeg + 4)), .int (xs (i.toNatClampNeg + 3)), .int (xs (i.toNatClampNeg + 2)), .int (xs (i.toNatClampNeg + 1)), .ref b]) (congrArg (fun z => F0 m 581 ls [.int (xs z), .int (xs (i.toNatClampNeg + 4)), .int (xs (i.toNatClampNeg + 3)), .int (xs (i.toNatClampNeg + 2)), .int (xs (i.toNatClampNeg + 1)), .ref b]) ejx215) ?_
    refine x_V (As := [.int (xs (i.toNatClampNeg + 1)), .int (xs (i.toNatClampNeg + 2)), .int (xs (i.toNatClampNeg + 3)), .int (xs (i.toNatClampNeg + 4)), .int (xs (i.toNatClampNeg + 5))]) (rest := []) C (a_X10_tells l K G H171 ((xs (i.toNatClampNeg + 1))) ((xs (i.toNatClampNeg + 2))) ((xs (i.toNatClampNeg + 3))) ((xs (i.toNatClampNeg + 4))) ((xs (i.toNatClampNeg + 5))) hTH171 gb g173 g174 g175 g176) yo_X10_tells wM_L_59 ⟨⟨by decide, by decide⟩, show _ ≤ 284929 by omega, show _ ≤ 8247460 by omega⟩ (x_rv C hTH171 (ci := 10) rfl gb rg_112) rfl hl.1 rfl (Nat.le_of_ble_eq_true rfl) dL_law_581 hSH171 (AE_new hN hSH171.1) (fun vH216 H216 locsH216 pH216 zH216 kH216 hSH216 => ?_)
    obtain ⟨x217, hvH216, g218, g219, g220, g221, mf222, hTH216⟩ := pH216
    subst hvH216
    have f223 : ∀ j : Nat, fI H216 tq j = fI H tq j := fun j => (fI_kept (x_lt hTH171 kH216 gtq (by decide))).trans (f177 j)
    have f224 : ∀ j : Nat, fI H216 uq j = fI H uq j := fun j => (fI_kept (x_lt hTH171 kH216 guq (by decide))).trans (f178 j)
    have m225 := (m179).trans (fR_kept (x_lt hTH171 kH216 ga (by decide))).symm
    have m226 := (m180).trans (fI_kept (x_lt hTH171 kH216 ga (by decide))).symm
    have m227 := (m182).trans (fI_kept (x_lt hTH171 kH216 gw (by decide))).symm
    have m228 := (m184).trans (fI_kept (x_lt hTH171 kH216 gw (by decide))).symm
    have m229 := (m186).trans (fI_kept (x_lt hTH171 kH216 gw (by decide))).symm
    have m230 := (m188).trans (fI_kept (x_lt hTH171 kH216 gw (by decide))).symm
    have m231 := (m190).trans (fI_kept (x_lt hTH171 kH216 gw (by decide))).symm
    have m232 := (m192).trans (fI_kept (x_lt hTH171 kH216 gw (by decide))).symm
    have m233 := (m194).trans (fR_kept (x_lt hTH171 kH216 ga (by decide))).symm
    have m234 := (fV_kept (x_lt hTH171 kH216 ga (by decide))).trans m197
    have m235 := (m199).trans (fI_kept (x_lt hTH171 kH216 gkq (by decide))).symm
    have m236 := (m200).trans (fI_kept (x_lt hTH171 kH216 giq (by decide))).symm
    have m237 := (m201).trans (fI_kept (x_lt hTH171 kH216 gkq (by decide))).symm
    have m238 := (m202).trans (fI_kept (x_lt hTH171 kH216 giq (by decide))).symm
    have m239 := (m203).trans (fI_kept (x_lt hTH171 kH216 gkq (by decide))).symm
    have m240 := (m204).trans (fI_kept (x_lt hTH171 kH216 giq (by decide))).symm
    have m241 := (m205).trans (fI_kept (x_lt hTH171 kH216 gkq (by decide))).symm
    have m242 := (m206).trans (fI_kept (x_lt hTH171 kH216 giq (by decide))).symm
    have m243 := (m207).trans (fI_kept (x_lt hTH171 kH216 gkq (by decide))).symm
    have m244 := (m208).trans (fI_kept (x_lt hTH171 kH216 giq (by decide))).symm
    have m245 := (m209).trans (fI_kept (x_lt hTH171 kH216 gkq (by decide))).symm
    have m246 := (m210).trans (fI_kept (x_lt hTH171 kH216 giq (by decide))).symm
    have m247 := (m181).trans (MF.i mf222 (k := 18) (by decide) (by decide)).symm
    have m248 := (m183).trans (MF.i mf222 (k := 1) (by decide) (by decide)).symm
    have m249 := (m185).trans (MF.i mf222 (k := 2) (by decide) (by decide)).symm
    have m250 := (m187).trans (MF.i mf222 (k := 3) (by decide) (by decide)).symm
    have m251 := (m189).trans (MF.i mf222 (k := 59) (by decide) (by decide)).symm
    have m252 := (m191).trans (MF.i mf222 (k := 62) (by decide) (by decide)).symm
    have m253 := (m193).trans (MF.i mf222 (k := 65) (by decide) (by decide)).symm
    have m254 := (m195).trans (MF.r mf222 (k := 17) (by decide) (by decide)).symm
    have m255 := (m196).trans (MF.i mf222 (k := 70) (by decide) (by decide)).symm
    have m256 := (m198).trans (MF.r mf222 (k := 73) (by decide) (by decide)).symm
    refine W.eq (g2 := F0 m 584 ls [.int x217]) rfl ?_
    refine lv_pop hx hb dL_law_584 rfl ?_
    refine lv_goto (tgt := 1509) hx hb dL_law_585 (by decide) ?_
    exact nx G H216 locsH216 _ _ ls ⟨hTH216, hN, ga, gb, g218, g219, g220, g221, ⟨(by rw [← m226, ← m247]; omega), (by rw [← m225, ← m227, ← m248]; omega), (by rw [← m225, ← m228, ← m249]; omega), (by rw [← m225, ← m229, ← m250]; omega), (by rw [← m225, ← m230, ← m251]; omega), (by rw [← m225, ← m231, ← m252]; omega), (by rw [← m225, ← m232, ← m253]; omega)⟩, Or.inr ⟨kq, m234, gkq, (by rw [← m255]; omega), (by rw [← m235, ← m256, ← m236]; omega), (by rw [← m237, ← m256, ← m238]; omega), (by rw [← m239, ← m256, ← m240]; omega), (by rw [← m241, ← m256, ← m242]; omega), (by rw [← m243, ← m256, ← m244]; omega), (by rw [← m245, ← m256, ← m246]; omega)⟩, (by unfold TB; rw [← m233, ← m254, ← m247]; exact TBR.of htr f223 f224 (by omega)), hSH216⟩ hl ⟨by omega, by omega, fun h => by have h1 := h.symm.trans m234; cases h1⟩
set_option maxRecDepth 100000 in
set_option maxHeartbeats 8000000 in
theorem lw_c10 {p : Program} {l : Launch} {e : Env} {s : State} {m : MethodId} {below : List Frame} {meth : Method} {c : Code} {K : KE} {b0 L : Nat} {xs : Nat → Int32} {G : Nat → Option Nat} {H : Heap} {locs : List Loc} {a b : Nat} {cells slots : Nat} {ls : Array Slot} {i : Int32} {n : Nat} (D : LC p K s m meth c b0 L xs) (S : SX K s G H locs a b) (hl : lv_has ls 4 [(3, .int i), (2, .ref b), (1, .ref a), (0, .ref b0)]) (hi : 0 ≤ i.toInt ∧ i.toInt + 6 ≤ L) (hn : n ≤ 511) (hB : BD K H a cells slots) (nx : ∀ (G : Nat → Option Nat) (H : Heap) (locs : List Loc) (cells slots : Nat) (ls : Array Slot), SX K s G H locs a b → lv_has ls 4 [(3, .int i), (2, .ref b), (1, .ref a), (0, .ref b0)] → BD K H a cells slots → W p l e room_1 s m #[Value.ref b0] below meth c H locs cells slots (lw_Z below #[Value.ref b0] s) (F0 m 1509 ls [])) : W p l e room_1 s m #[Value.ref b0] below meth c H locs cells slots (lw_Z below #[Value.ref b0] s) (F0 m 588 ls []) := by
  obtain ⟨C, hX, hbl, hL⟩ := id D
  obtain ⟨hx, hb, hml, hown, hts, hKT, hr, hlocks, hnm⟩ := id C
  obtain ⟨hT, hN, ga, gb, cg, tu, wd, im, ⟨rt, r1, r4, r5, r10, r13, r16⟩, hk, htb, hS⟩ := S
  obtain ⟨hc, hs, hB0⟩ := hB
  have n_1 : (1 : Int32).toInt = 1 := rfl
  have n_2 : (2 : Int32).toInt = 2 := rfl
  obtain ⟨w, ew⟩ : ∃ z : Nat, z = fR H a (K.1.2 9 0) := ⟨_, rfl⟩
  have gw := ty_fr (q := w) (k := 0) (u := 0) ew hT ga rg_68 rfl
  rw [← ew] at r1 r4 r5 r10 r13 r16
  obtain ⟨ta, eta⟩ : ∃ z : Int32, z = fI H a (K.1.2 9 3) := ⟨_, rfl⟩
  rw [← eta] at rt
  obtain ⟨tb, etb⟩ : ∃ z : Int32, z = fI H b (K.1.2 10 18) := ⟨_, rfl⟩
  rw [← etb] at rt
  obtain ⟨s1, es1⟩ : ∃ z : Int32, z = fI H w (K.1.2 8 1) := ⟨_, rfl⟩
  rw [← es1] at r1
  obtain ⟨y1, ey1⟩ : ∃ z : Int32, z = fI H b (K.1.2 10 1) := ⟨_, rfl⟩
  rw [← ey1] at r1
  obtain ⟨s4, es4⟩ : ∃ z : Int32, z = fI H w (K.1.2 8 4) := ⟨_, rfl⟩
  rw [← es4] at r4
  obtain ⟨y4, ey4⟩ : ∃ z : Int32, z = fI H b (K.1.2 10 2) := ⟨_, rfl⟩
  rw [← ey4] at r4
  obtain ⟨s5, es5⟩ : ∃ z : Int32, z = fI H w (K.1.2 8 5) := ⟨_, rfl⟩
  rw [← es5] at r5
  obtain ⟨y5, ey5⟩ : ∃ z : Int32, z = fI H b (K.1.2 10 3) := ⟨_, rfl⟩
  rw [← ey5] at r5
  obtain ⟨s10, es10⟩ : ∃ z : Int32, z = fI H w (K.1.2 8 10) := ⟨_, rfl⟩
  rw [← es10] at r10
  obtain ⟨y10, ey10⟩ : ∃ z : Int32, z = fI H b (K.1.2 10 59) := ⟨_, rfl⟩
  rw [← ey10] at r10
  obtain ⟨s13, es13⟩ : ∃ z : Int32, z = fI H w (K.1.2 8 13) := ⟨_, rfl⟩
  rw [← es13] at r13
  obtain ⟨y13, ey13⟩ : ∃ z : Int32, z = fI H b (K.1.2 10 62) := ⟨_, rfl⟩
  rw [← ey13] at r13
  obtain ⟨s16, es16⟩ : ∃ z : Int32, z = fI H w (K.1.2 8 16) := ⟨_, rfl⟩
  rw [← es16] at r16
  obtain ⟨y16, ey16⟩ : ∃ z : Int32, z = fI H b (K.1.2 10 65) := ⟨_, rfl⟩
  rw [← ey16] at r16
  obtain ⟨tq, etq⟩ : ∃ z : Nat, z = fR H a (K.1.2 9 2) := ⟨_, rfl⟩
  have gtq := ty_fr (q := tq) (k := 2) (u := 108) etq hT ga rg_68 rfl
  obtain ⟨uq, euq⟩ : ∃ z : Nat, z = fR H b (K.1.2 10 17) := ⟨_, rfl⟩
  have guq := ty_fr (q := uq) (k := 17) (u := 126) euq hT gb rg_112 rfl
  have htr : TBR (fun j => fI H tq j) (fun j => fI H uq j) tb.toNatClampNeg := by rw [etq, euq, etb]; exact htb
  have ft0 : ∀ j : Nat, fI H tq j = fI H tq j := fun _ => rfl
  have fu0 : ∀ j : Nat, fI H uq j = fI H uq j := fun _ => rfl
  have bta := ty_fi (x := ta) (k := 3) eta hT ga rg_68 rfl
  have cta := i_cl (x := ta) (by omega)
  have btb := ty_fi (x := tb) (k := 18) etb hT gb rg_112 rfl
  have ctb := i_cl (x := tb) (by omega)
  rcases hk with ⟨kn, h70⟩ | ⟨kq, kn, gkq, h70, q1, q4, q5, q10, q13, q16⟩
  · skip
    obtain ⟨hi, ehi⟩ : ∃ z : Int32, z = fI H b (K.1.2 10 70) := ⟨_, rfl⟩
    rw [← ehi] at h70
    obtain ⟨hc0, hs0⟩ := hB0 kn
    refine lv_aload_n hx hb dL_law_588 rfl (lv_at hl 2 rfl) ?_
    refine lv_aload_n hx hb dL_law_589 rfl (lv_at hl 3 rfl) ?_
    refine lv_iload_n hx hb dL_law_590 rfl (lv_at hl 0 rfl) ?_
    refine lv_iconst (v := 1) hx hb dL_law_591 (by decide) ?_
    refine lv_iadd hx hb dL_law_592 ?_
    refine lv_topi (fun x101 ex101 => ?_)
    have tx101 := i_add ex101 (by omega)
    have ejx101 : x101.toNatClampNeg = i.toNatClampNeg + 1 := by have h1 := i_cl (x := x101) (by omega); have h2 := i_cl (x := i) (by omega); omega
    refine va_sld hx hb hX hbl (Nat.not_le.mpr hbl) hS (vp_in_iff.mpr (by omega)) dL_law_593 ?_
    refine W.eq (g2 := F0 m 594 ls [.int (xs (i.toNatClampNeg + 1)), .ref a]) (congrArg (fun z => F0 m 594 ls [.int (xs z), .ref a]) ejx101) ?_
    refine lv_aload_n hx hb dL_law_594 rfl (lv_at hl 3 rfl) ?_
    refine lv_iload_n hx hb dL_law_595 rfl (lv_at hl 0 rfl) ?_
    refine lv_iconst (v := 2) hx hb dL_law_596 (by decide) ?_
    refine lv_iadd hx hb dL_law_597 ?_
    refine lv_topi (fun x102 ex102 => ?_)
    have tx102 := i_add ex102 (by omega)
    have ejx102 : x102.toNatClampNeg = i.toNatClampNeg + 2 := by have h1 := i_cl (x := x102) (by omega); have h2 := i_cl (x := i) (by omega); omega
    refine va_sld hx hb hX hbl (Nat.not_le.mpr hbl) hS (vp_in_iff.mpr (by omega)) dL_law_598 ?_
    refine W.eq (g2 := F0 m 599 ls [.int (xs (i.toNatClampNeg + 2)), .int (xs (i.toNatClampNeg + 1)), .ref a]) (congrArg (fun z => F0 m 599 ls [.int (xs z), .int (xs (i.toNatClampNeg + 1)), .ref a]) ejx102) ?_
    refine x_V (As := [.int (xs (i.toNatClampNeg + 1)), .int (xs (i.toNatClampNeg + 2))]) (rest := []) C (a_X9_tone l K G H ((xs (i.toNatClampNeg + 1))) ((xs (i.toNatClampNeg + 2))) hT ga) yo_X9_tone wM_L_60 ⟨⟨by decide, by decide⟩, show _ ≤ 284929 by omega, show _ ≤ 8247460 by omega⟩ (x_rv C hT (ci := 9) rfl ga rg_68) rfl hl.1 rfl (Nat.le_of_ble_eq_true rfl) dL_law_599 hS (AE_new hN hS.1) (fun vH103 H103 locsH103 pH103 zH103 kH103 hSH103 => ?_)
    obtain ⟨x104, hvH103, hTH103⟩ := pH103
    subst hvH103
    have g105 : CG (avw K H103 b) := CG.congr (fun k hk j => av_eff hT kH103 gb (by decide) (CG_eff [83, 84] (by decide) k hk)) cg
    have g106 : TU (avw K H103 b) (svw K H103 b) := TU.congr (fun k hk j => av_eff hT kH103 gb (by decide) (TU_eff [83, 84] (by decide) k hk)) (fun k hk => sv_eff hT kH103 gb (by decide)) tu
    have g107 : WD (avw K H103 b) := WD.congr (fun k hk j => av_eff hT kH103 gb (by decide) (WD_eff [83, 84] (by decide) k hk)) wd
    have g108 : IM (avw K H103 b) := IM.congr (fun k hk j => av_eff hT kH103 gb (by decide) (IM_eff [83, 84] (by decide) k hk)) im
    have f109 : ∀ j : Nat, fI H103 tq j = fI H tq j := fun j => (fI_kept (x_lt hT kH103 gtq (by decide))).trans (ft0 j)
    have f110 : ∀ j : Nat, fI H103 uq j = fI H uq j := fun j => (fI_kept (x_lt hT kH103 guq (by decide))).trans (fu0 j)
    have m111 := (ew).trans (fR_kept (x_lt hT kH103 ga (by decide))).symm
    have m112 := (eta).trans (fI_kept (x_lt hT kH103 ga (by decide))).symm
    have m113 := (etb).trans (fI_kept (x_lt hT kH103 gb (by decide))).symm
    have m114 := (es1).trans (fI_kept (x_lt hT kH103 gw (by decide))).symm
    have m115 := (ey1).trans (fI_kept (x_lt hT kH103 gb (by decide))).symm
    have m116 := (es4).trans (fI_kept (x_lt hT kH103 gw (by decide))).symm
    have m117 := (ey4).trans (fI_kept (x_lt hT kH103 gb (by decide))).symm
    have m118 := (es5).trans (fI_kept (x_lt hT kH103 gw (by decide))).symm
    have m119 := (ey5).trans (fI_kept (x_lt hT kH103 gb (by decide))).symm
    have m120 := (es10).trans (fI_kept (x_lt hT kH103 gw (by decide))).symm
    have m121 := (ey10).trans (fI_kept (x_lt hT kH103 gb (by decide))).symm
    have m122 := (es13).trans (fI_kept (x_lt hT kH103 gw (by decide))).symm
    have m123 := (ey13).trans (fI_kept (x_lt hT kH103 gb (by decide))).symm
    have m124 := (es16).trans (fI_kept (x_lt hT kH103 gw (by decide))).symm
    have m125 := (ey16).trans (fI_kept (x_lt hT kH103 gb (by decide))).symm
    have m126 := (etq).trans (fR_kept (x_lt hT kH103 ga (by decide))).symm
    have m127 := (euq).trans (fR_kept (x_lt hT kH103 gb (by decide))).symm
    have m128 := (ehi).trans (fI_kept (x_lt hT kH103 gb (by decide))).symm
    have m129 := (fV_kept (x_lt hT kH103 ga (by decide))).trans kn
    refine W.eq (g2 := F0 m 602 ls [.int x104]) rfl ?_
    refine lv_pop hx hb dL_law_602 rfl ?_
    refine lv_aload_n hx hb dL_law_603 rfl (lv_at hl 1 rfl) ?_
    refine lv_aload_n hx hb dL_law_604 rfl (lv_at hl 3 rfl) ?_
    refine lv_iload_n hx hb dL_law_605 rfl (lv_at hl 0 rfl) ?_
    refine lv_iconst (v := 1) hx hb dL_law_606 (by decide) ?_
    refine lv_iadd hx hb dL_law_607 ?_
    refine lv_topi (fun x130 ex130 => ?_)
    have tx130 := i_add ex130 (by omega)
    have ejx130 : x130.toNatClampNeg = i.toNatClampNeg + 1 := by have h1 := i_cl (x := x130) (by omega); have h2 := i_cl (x := i) (by omega); omega
    refine va_sld hx hb hX hbl (Nat.not_le.mpr hbl) hSH103 (vp_in_iff.mpr (by omega)) dL_law_608 ?_
    refine W.eq (g2 := F0 m 609 ls [.int (xs (i.toNatClampNeg + 1)), .ref b]) (congrArg (fun z => F0 m 609 ls [.int (xs z), .ref b]) ejx130) ?_
    refine lv_aload_n hx hb dL_law_609 rfl (lv_at hl 3 rfl) ?_
    refine lv_iload_n hx hb dL_law_610 rfl (lv_at hl 0 rfl) ?_
    refine lv_iconst (v := 2) hx hb dL_law_611 (by decide) ?_
    refine lv_iadd hx hb dL_law_612 ?_
    refine lv_topi (fun x131 ex131 => ?_)
    have tx131 := i_add ex131 (by omega)
    have ejx131 : x131.toNatClampNeg = i.toNatClampNeg + 2 := by have h1 := i_cl (x := x131) (by omega); have h2 := i_cl (x := i) (by omega); omega
    refine va_sld hx hb hX hbl (Nat.not_le.mpr hbl) hSH103 (vp_in_iff.mpr (by omega)) dL_law_613 ?_
    refine W.eq (g2 := F0 m 614 ls [.int (xs (i.toNatClampNeg + 2)), .int (xs (i.toNatClampNeg + 1)), .ref b]) (congrArg (fun z => F0 m 614 ls [.int (xs z), .int (xs (i.toNatClampNeg + 1)), .ref b]) ejx131) ?_
    refine x_V (As := [.int (xs (i.toNatClampNeg + 1)), .int (xs (i.toNatClampNeg + 2))]) (rest := []) C (a_X10_tone l K G H103 ((xs (i.toNatClampNeg + 1))) ((xs (i.toNatClampNeg + 2))) hTH103 gb g105 g106 g107 g108) yo_X10_tone wM_L_63 ⟨⟨by decide, by decide⟩, show _ ≤ 284929 by omega, show _ ≤ 8247460 by omega⟩ (x_rv C hTH103 (ci := 10) rfl gb rg_112) rfl hl.1 rfl (Nat.le_of_ble_eq_true rfl) dL_law_614 hSH103 (AE_new hN hSH103.1) (fun vH132 H132 locsH132 pH132 zH132 kH132 hSH132 => ?_)
    obtain ⟨x133, hvH132, g134, g135, g136, g137, mf138, hTH132⟩ := pH132
    subst hvH132
    have f139 : ∀ j : Nat, fI H132 tq j = fI H tq j := fun j => (fI_kept (x_lt hTH103 kH132 gtq (by decide))).trans (f109 j)
    have f140 : ∀ j : Nat, fI H132 uq j = fI H uq j := fun j => (fI_kept (x_lt hTH103 kH132 guq (by decide))).trans (f110 j)
    have m141 := (m111).trans (fR_kept (x_lt hTH103 kH132 ga (by decide))).symm
    have m142 := (m112).trans (fI_kept (x_lt hTH103 kH132 ga (by decide))).symm
    have m143 := (m114).trans (fI_kept (x_lt hTH103 kH132 gw (by decide))).symm
    have m144 := (m116).trans (fI_kept (x_lt hTH103 kH132 gw (by decide))).symm
    have m145 := (m118).trans (fI_kept (x_lt hTH103 kH132 gw (by decide))).symm
    have m146 := (m120).trans (fI_kept (x_lt hTH103 kH132 gw (by decide))).symm
    have m147 := (m122).trans (fI_kept (x_lt hTH103 kH132 gw (by decide))).symm
    have m148 := (m124).trans (fI_kept (x_lt hTH103 kH132 gw (by decide))).symm
    have m149 := (m126).trans (fR_kept (x_lt hTH103 kH132 ga (by decide))).symm
    have m150 := (fV_kept (x_lt hTH103 kH132 ga (by decide))).trans m129
    have m151 := (m113).trans (MF.i mf138 (k := 18) (by decide) (by decide)).symm
    have m152 := (m115).trans (MF.i mf138 (k := 1) (by decide) (by decide)).symm
    have m153 := (m117).trans (MF.i mf138 (k := 2) (by decide) (by decide)).symm
    have m154 := (m119).trans (MF.i mf138 (k := 3) (by decide) (by decide)).symm
    have m155 := (m121).trans (MF.i mf138 (k := 59) (by decide) (by decide)).symm
    have m156 := (m123).trans (MF.i mf138 (k := 62) (by decide) (by decide)).symm
    have m157 := (m125).trans (MF.i mf138 (k := 65) (by decide) (by decide)).symm
    have m158 := (m127).trans (MF.r mf138 (k := 17) (by decide) (by decide)).symm
    have m159 := (m128).trans (MF.i mf138 (k := 70) (by decide) (by decide)).symm
    refine W.eq (g2 := F0 m 617 ls [.int x133]) rfl ?_
    refine lv_pop hx hb dL_law_617 rfl ?_
    refine lv_goto (tgt := 1509) hx hb dL_law_618 (by decide) ?_
    exact nx G H132 locsH132 _ _ ls ⟨hTH132, hN, ga, gb, g134, g135, g136, g137, ⟨(by rw [← m142, ← m151]; omega), (by rw [← m141, ← m143, ← m152]; omega), (by rw [← m141, ← m144, ← m153]; omega), (by rw [← m141, ← m145, ← m154]; omega), (by rw [← m141, ← m146, ← m155]; omega), (by rw [← m141, ← m147, ← m156]; omega), (by rw [← m141, ← m148, ← m157]; omega)⟩, Or.inl ⟨m150, (by rw [← m159]; omega)⟩, (by unfold TB; rw [← m149, ← m158, ← m151]; exact TBR.of htr f139 f140 (by omega)), hSH132⟩ hl ⟨by omega, by omega, fun _ => ⟨by omega, by omega⟩⟩
  · skip
    obtain ⟨hi, ehi⟩ : ∃ z : Int32, z = fI H b (K.1.2 10 70) := ⟨_, rfl⟩
    rw [← ehi] at h70
    obtain ⟨iq, eiq⟩ : ∃ z : Nat, z = fR H b (K.1.2 10 73) := ⟨_, rfl⟩
    have giq := ty_fr (q := iq) (k := 73) (u := 162) eiq hT gb rg_112 rfl
    rw [← eiq] at q1 q4 q5 q10 q13 q16
    obtain ⟨k1, ek1⟩ : ∃ z : Int32, z = fI H kq (K.1.2 8 1) := ⟨_, rfl⟩
    rw [← ek1] at q1
    obtain ⟨i1, ei1⟩ : ∃ z : Int32, z = fI H iq ((0 : Int32).toNatClampNeg) := ⟨_, rfl⟩
    rw [← ei1] at q1
    obtain ⟨k4, ek4⟩ : ∃ z : Int32, z = fI H kq (K.1.2 8 4) := ⟨_, rfl⟩
    rw [← ek4] at q4
    obtain ⟨i4, ei4⟩ : ∃ z : Int32, z = fI H iq ((1 : Int32).toNatClampNeg) := ⟨_, rfl⟩
    rw [← ei4] at q4
    obtain ⟨k5, ek5⟩ : ∃ z : Int32, z = fI H kq (K.1.2 8 5) := ⟨_, rfl⟩
    rw [← ek5] at q5
    obtain ⟨i5, ei5⟩ : ∃ z : Int32, z = fI H iq ((2 : Int32).toNatClampNeg) := ⟨_, rfl⟩
    rw [← ei5] at q5
    obtain ⟨k10, ek10⟩ : ∃ z : Int32, z = fI H kq (K.1.2 8 10) := ⟨_, rfl⟩
    rw [← ek10] at q10
    obtain ⟨i10, ei10⟩ : ∃ z : Int32, z = fI H iq ((3 : Int32).toNatClampNeg) := ⟨_, rfl⟩
    rw [← ei10] at q10
    obtain ⟨k13, ek13⟩ : ∃ z : Int32, z = fI H kq (K.1.2 8 13) := ⟨_, rfl⟩
    rw [← ek13] at q13
    obtain ⟨i13, ei13⟩ : ∃ z : Int32, z = fI H iq ((4 : Int32).toNatClampNeg) := ⟨_, rfl⟩
    rw [← ei13] at q13
    obtain ⟨k16, ek16⟩ : ∃ z : Int32, z = fI H kq (K.1.2 8 16) := ⟨_, rfl⟩
    rw [← ek16] at q16
    obtain ⟨i16, ei16⟩ : ∃ z : Int32, z = fI H iq ((5 : Int32).toNatClampNeg) := ⟨_, rfl⟩
    rw [← ei16] at q16
    refine lv_aload_n hx hb dL_law_588 rfl (lv_at hl 2 rfl) ?_
    refine lv_aload_n hx hb dL_law_589 rfl (lv_at hl 3 rfl) ?_
    refine lv_iload_n hx hb dL_law_590 rfl (lv_at hl 0 rfl) ?_
    refine lv_iconst (v := 1) hx hb dL_law_591 (by decide) ?_
    refine lv_iadd hx hb dL_law_592 ?_
    refine lv_topi (fun x160 ex160 => ?_)
    have tx160 := i_add ex160 (by omega)
    have ejx160 : x160.toNatClampNeg = i.toNatClampNeg + 1 := by have h1 := i_cl (x := x160) (by omega); have h2 := i_cl (x := i) (by omega); omega
    refine va_sld hx hb hX hbl (Nat.not_le.mpr hbl) hS (vp_in_iff.mpr (by omega)) dL_law_593 ?_
    refine W.eq (g2 := F0 m 594 ls [.int (xs (i.toNatClampNeg + 1)), .ref a]) (congrArg (fun z => F0 m 594 ls [.int (xs z), .ref a]) ejx160) ?_
    refine lv_aload_n hx hb dL_law_594 rfl (lv_at hl 3 rfl) ?_
    refine lv_iload_n hx hb dL_law_595 rfl (lv_at hl 0 rfl) ?_
    refine lv_iconst (v := 2) hx hb dL_law_596 (by decide) ?_
    refine lv_iadd hx hb dL_law_597 ?_
    refine lv_topi (fun x161 ex161 => ?_)
    have tx161 := i_add ex161 (by omega)
    have ejx161 : x161.toNatClampNeg = i.toNatClampNeg + 2 := by have h1 := i_cl (x := x161) (by omega); have h2 := i_cl (x := i) (by omega); omega
    refine va_sld hx hb hX hbl (Nat.not_le.mpr hbl) hS (vp_in_iff.mpr (by omega)) dL_law_598 ?_
    refine W.eq (g2 := F0 m 599 ls [.int (xs (i.toNatClampNeg + 2)), .int (xs (i.toNatClampNeg + 1)), .ref a]) (congrArg (fun z => F0 m 599 ls [.int (xs z), .int (xs (i.toNatClampNeg + 1)), .ref a]) ejx161) ?_
    refine x_V (As := [.int (xs (i.toNatClampNeg + 1)), .int (xs (i.toNatClampNeg + 2))]) (rest := []) C (a_X9_tone l K G H ((xs (i.toNatClampNeg + 1))) ((xs (i.toNatClampNeg + 2))) hT ga) yo_X9_tone wM_L_60 ⟨⟨by decide, by decide⟩, show _ ≤ 284929 by omega, show _ ≤ 8247460 by omega⟩ (x_rv C hT (ci := 9) rfl ga rg_68) rfl hl.1 rfl (Nat.le_of_ble_eq_true rfl) dL_law_599 hS (AE_new hN hS.1) (fun vH162 H162 locsH162 pH162 zH162 kH162 hSH162 => ?_)
    obtain ⟨x163, hvH162, hTH162⟩ := pH162
    subst hvH162
    have g164 : CG (avw K H162 b) := CG.congr (fun k hk j => av_eff hT kH162 gb (by decide) (CG_eff [83, 84] (by decide) k hk)) cg
    have g165 : TU (avw K H162 b) (svw K H162 b) := TU.congr (fun k hk j => av_eff hT kH162 gb (by decide) (TU_eff [83, 84] (by decide) k hk)) (fun k hk => sv_eff hT kH162 gb (by decide)) tu
    have g166 : WD (avw K H162 b) := WD.congr (fun k hk j => av_eff hT kH162 gb (by decide) (WD_eff [83, 84] (by decide) k hk)) wd
    have g167 : IM (avw K H162 b) := IM.congr (fun k hk j => av_eff hT kH162 gb (by decide) (IM_eff [83, 84] (by decide) k hk)) im
    have f168 : ∀ j : Nat, fI H162 tq j = fI H tq j := fun j => (fI_kept (x_lt hT kH162 gtq (by decide))).trans (ft0 j)
    have f169 : ∀ j : Nat, fI H162 uq j = fI H uq j := fun j => (fI_kept (x_lt hT kH162 guq (by decide))).trans (fu0 j)
    have m170 := (ew).trans (fR_kept (x_lt hT kH162 ga (by decide))).symm
    have m171 := (eta).trans (fI_kept (x_lt hT kH162 ga (by decide))).symm
    have m172 := (etb).trans (fI_kept (x_lt hT kH162 gb (by decide))).symm
    have m173 := (es1).trans (fI_kept (x_lt hT kH162 gw (by decide))).symm
    have m174 := (ey1).trans (fI_kept (x_lt hT kH162 gb (by decide))).symm
    have m175 := (es4).trans (fI_kept (x_lt hT kH162 gw (by decide))).symm
    have m176 := (ey4).trans (fI_kept (x_lt hT kH162 gb (by decide))).symm
    have m177 := (es5).trans (fI_kept (x_lt hT kH162 gw (by decide))).symm
    have m178 := (ey5).trans (fI_kept (x_lt hT kH162 gb (by decide))).symm
    have m179 := (es10).trans (fI_kept (x_lt hT kH162 gw (by decide))).symm
    have m180 := (ey10).trans (fI_kept (x_lt hT kH162 gb (by decide))).symm
    have m181 := (es13).trans (fI_kept (x_lt hT kH162 gw (by decide))).symm
    have m182 := (ey13).trans (fI_kept (x_lt hT kH162 gb (by decide))).symm
    have m183 := (es16).trans (fI_kept (x_lt hT kH162 gw (by decide))).symm
    have m184 := (ey16).trans (fI_kept (x_lt hT kH162 gb (by decide))).symm
    have m185 := (etq).trans (fR_kept (x_lt hT kH162 ga (by decide))).symm
    have m186 := (euq).trans (fR_kept (x_lt hT kH162 gb (by decide))).symm
    have m187 := (ehi).trans (fI_kept (x_lt hT kH162 gb (by decide))).symm
    have m188 := (fV_kept (x_lt hT kH162 ga (by decide))).trans kn
    have m189 := (eiq).trans (fR_kept (x_lt hT kH162 gb (by decide))).symm
    have m190 := (ek1).trans (fI_kept (x_lt hT kH162 gkq (by decide))).symm
    have m191 := (ei1).trans (fI_kept (x_lt hT kH162 giq (by decide))).symm
    have m192 := (ek4).trans (fI_kept (x_lt hT kH162 gkq (by decide))).symm
    have m193 := (ei4).trans (fI_kept (x_lt hT kH162 giq (by decide))).symm
    have m194 := (ek5).trans (fI_kept (x_lt hT kH162 gkq (by decide))).symm
    have m195 := (ei5).trans (fI_kept (x_lt hT kH162 giq (by decide))).symm
    have m196 := (ek10).trans (fI_kept (x_lt hT kH162 gkq (by decide))).symm
    have m197 := (ei10).trans (fI_kept (x_lt hT kH162 giq (by decide))).symm
    have m198 := (ek13).trans (fI_kept (x_lt hT kH162 gkq (by decide))).symm
    have m199 := (ei13).trans (fI_kept (x_lt hT kH162 giq (by decide))).symm
    have m200 := (ek16).trans (fI_kept (x_lt hT kH162 gkq (by decide))).symm
    have m201 := (ei16).trans (fI_kept (x_lt hT kH162 giq (by decide))).symm
    refine W.eq (g2 := F0 m 602 ls [.int x163]) rfl ?_
    refine lv_pop hx hb dL_law_602 rfl ?_
    refine lv_aload_n hx hb dL_law_603 rfl (lv_at hl 1 rfl) ?_
    refine lv_aload_n hx hb dL_law_604 rfl (lv_at hl 3 rfl) ?_
    refine lv_iload_n hx hb dL_law_605 rfl (lv_at hl 0 rfl) ?_
    refine lv_iconst (v := 1) hx hb dL_law_606 (by decide) ?_
    refine lv_iadd hx hb dL_law_607 ?_
    refine lv_topi (fun x202 ex202 => ?_)
    have tx202 := i_add ex202 (by omega)
    have ejx202 : x202.toNatClampNeg = i.toNatClampNeg + 1 := by have h1 := i_cl (x := x202) (by omega); have h2 := i_cl (x := i) (by omega); omega
    refine va_sld hx hb hX hbl (Nat.not_le.mpr hbl) hSH162 (vp_in_iff.mpr (by omega)) dL_law_608 ?_
    refine W.eq (g2 := F0 m 609 ls [.int (xs (i.toNatClampNeg + 1)), .ref b]) (congrArg (fun z => F0 m 609 ls [.int (xs z), .ref b]) ejx202) ?_
    refine lv_aload_n hx hb dL_law_609 rfl (lv_at hl 3 rfl) ?_
    refine lv_iload_n hx hb dL_law_610 rfl (lv_at hl 0 rfl) ?_
    refine lv_iconst (v := 2) hx hb dL_law_611 (by decide) ?_
    refine lv_iadd hx hb dL_law_612 ?_
    refine lv_topi (fun x203 ex203 => ?_)
    have tx203 := i_add ex203 (by omega)
    have ejx203 : x203.toNatClampNeg = i.toNatClampNeg + 2 := by have h1 := i_cl (x := x203) (by omega); have h2 := i_cl (x := i) (by omega); omega
    refine va_sld hx hb hX hbl (Nat.not_le.mpr hbl) hSH162 (vp_in_iff.mpr (by omega)) dL_law_613 ?_
    refine W.eq (g2 := F0 m 614 ls [.int (xs (i.toNatClampNeg + 2)), .int (xs (i.toNatClampNeg + 1)), .ref b]) (congrArg (fun z => F0 m 614 ls [.int (xs z), .int (xs (i.toNatClampNeg + 1)), .ref b]) ejx203) ?_
    refine x_V (As := [.int (xs (i.toNatClampNeg + 1)), .int (xs (i.toNatClampNeg + 2))]) (rest := []) C (a_X10_tone l K G H162 ((xs (i.toNatClampNeg + 1))) ((xs (i.toNatClampNeg + 2))) hTH162 gb g164 g165 g166 g167) yo_X10_tone wM_L_63 ⟨⟨by decide, by decide⟩, show _ ≤ 284929 by omega, show _ ≤ 8247460 by omega⟩ (x_rv C hTH162 (ci := 10) rfl gb rg_112) rfl hl.1 rfl (Nat.le_of_ble_eq_true rfl) dL_law_614 hSH162 (AE_new hN hSH162.1) (fun vH204 H204 locsH204 pH204 zH204 kH204 hSH204 => ?_)
    obtain ⟨x205, hvH204, g206, g207, g208, g209, mf210, hTH204⟩ := pH204
    subst hvH204
    have f211 : ∀ j : Nat, fI H204 tq j = fI H tq j := fun j => (fI_kept (x_lt hTH162 kH204 gtq (by decide))).trans (f168 j)
    have f212 : ∀ j : Nat, fI H204 uq j = fI H uq j := fun j => (fI_kept (x_lt hTH162 kH204 guq (by decide))).trans (f169 j)
    have m213 := (m170).trans (fR_kept (x_lt hTH162 kH204 ga (by decide))).symm
    have m214 := (m171).trans (fI_kept (x_lt hTH162 kH204 ga (by decide))).symm
    have m215 := (m173).trans (fI_kept (x_lt hTH162 kH204 gw (by decide))).symm
    have m216 := (m175).trans (fI_kept (x_lt hTH162 kH204 gw (by decide))).symm
    have m217 := (m177).trans (fI_kept (x_lt hTH162 kH204 gw (by decide))).symm
    have m218 := (m179).trans (fI_kept (x_lt hTH162 kH204 gw (by decide))).symm
    have m219 := (m181).trans (fI_kept (x_lt hTH162 kH204 gw (by decide))).symm
    have m220 := (m183).trans (fI_kept (x_lt hTH162 kH204 gw (by decide))).symm
    have m221 := (m185).trans (fR_kept (x_lt hTH162 kH204 ga (by decide))).symm
    have m222 := (fV_kept (x_lt hTH162 kH204 ga (by decide))).trans m188
    have m223 := (m190).trans (fI_kept (x_lt hTH162 kH204 gkq (by decide))).symm
    have m224 := (m191).trans (fI_kept (x_lt hTH162 kH204 giq (by decide))).symm
    have m225 := (m192).trans (fI_kept (x_lt hTH162 kH204 gkq (by decide))).symm
    have m226 := (m193).trans (fI_kept (x_lt hTH162 kH204 giq (by decide))).symm
    have m227 := (m194).trans (fI_kept (x_lt hTH162 kH204 gkq (by decide))).symm
    have m228 := (m195).trans (fI_kept (x_lt hTH162 kH204 giq (by decide))).symm
    have m229 := (m196).trans (fI_kept (x_lt hTH162 kH204 gkq (by decide))).symm
    have m230 := (m197).trans (fI_kept (x_lt hTH162 kH204 giq (by decide))).symm
    have m231 := (m198).trans (fI_kept (x_lt hTH162 kH204 gkq (by decide))).symm
    have m232 := (m199).trans (fI_kept (x_lt hTH162 kH204 giq (by decide))).symm
    have m233 := (m200).trans (fI_kept (x_lt hTH162 kH204 gkq (by decide))).symm
    have m234 := (m201).trans (fI_kept (x_lt hTH162 kH204 giq (by decide))).symm
    have m235 := (m172).trans (MF.i mf210 (k := 18) (by decide) (by decide)).symm
    have m236 := (m174).trans (MF.i mf210 (k := 1) (by decide) (by decide)).symm
    have m237 := (m176).trans (MF.i mf210 (k := 2) (by decide) (by decide)).symm
    have m238 := (m178).trans (MF.i mf210 (k := 3) (by decide) (by decide)).symm
    have m239 := (m180).trans (MF.i mf210 (k := 59) (by decide) (by decide)).symm
    have m240 := (m182).trans (MF.i mf210 (k := 62) (by decide) (by decide)).symm
    have m241 := (m184).trans (MF.i mf210 (k := 65) (by decide) (by decide)).symm
    have m242 := (m186).trans (MF.r mf210 (k := 17) (by decide) (by decide)).symm
    have m243 := (m187).trans (MF.i mf210 (k := 70) (by decide) (by decide)).symm
    have m244 := (m189).trans (MF.r mf210 (k := 73) (by decide) (by decide)).symm
    refine W.eq (g2 := F0 m 617 ls [.int x205]) rfl ?_
    refine lv_pop hx hb dL_law_617 rfl ?_
    refine lv_goto (tgt := 1509) hx hb dL_law_618 (by decide) ?_
    exact nx G H204 locsH204 _ _ ls ⟨hTH204, hN, ga, gb, g206, g207, g208, g209, ⟨(by rw [← m214, ← m235]; omega), (by rw [← m213, ← m215, ← m236]; omega), (by rw [← m213, ← m216, ← m237]; omega), (by rw [← m213, ← m217, ← m238]; omega), (by rw [← m213, ← m218, ← m239]; omega), (by rw [← m213, ← m219, ← m240]; omega), (by rw [← m213, ← m220, ← m241]; omega)⟩, Or.inr ⟨kq, m222, gkq, (by rw [← m243]; omega), (by rw [← m223, ← m244, ← m224]; omega), (by rw [← m225, ← m244, ← m226]; omega), (by rw [← m227, ← m244, ← m228]; omega), (by rw [← m229, ← m244, ← m230]; omega), (by rw [← m231, ← m244, ← m232]; omega), (by rw [← m233, ← m244, ← m234]; omega)⟩, (by unfold TB; rw [← m221, ← m242, ← m235]; exact TBR.of htr f211 f212 (by omega)), hSH204⟩ hl ⟨by omega, by omega, fun h => by have h1 := h.symm.trans m222; cases h1⟩
set_option maxRecDepth 100000 in
set_option maxHeartbeats 8000000 in
theorem lw_c11 {p : Program} {l : Launch} {e : Env} {s : State} {m : MethodId} {below : List Frame} {meth : Method} {c : Code} {K : KE} {b0 L : Nat} {xs : Nat → Int32} {G : Nat → Option Nat} {H : Heap} {locs : List Loc} {a b : Nat} {cells slots : Nat} {ls : Array Slot} {i : Int32} {n : Nat} (D : LC p K s m meth c b0 L xs) (S : SX K s G H locs a b) (hl : lv_has ls 4 [(3, .int i), (2, .ref b), (1, .ref a), (0, .ref b0)]) (hi : 0 ≤ i.toInt ∧ i.toInt + 6 ≤ L) (hn : n ≤ 511) (hB : BD K H a cells slots) (nx : ∀ (G : Nat → Option Nat) (H : Heap) (locs : List Loc) (cells slots : Nat) (ls : Array Slot), SX K s G H locs a b → lv_has ls 4 [(3, .int i), (2, .ref b), (1, .ref a), (0, .ref b0)] → BD K H a cells slots → W p l e room_1 s m #[Value.ref b0] below meth c H locs cells slots (lw_Z below #[Value.ref b0] s) (F0 m 1509 ls [])) : W p l e room_1 s m #[Value.ref b0] below meth c H locs cells slots (lw_Z below #[Value.ref b0] s) (F0 m 621 ls []) := by
  obtain ⟨C, hX, hbl, hL⟩ := id D
  obtain ⟨hx, hb, hml, hown, hts, hKT, hr, hlocks, hnm⟩ := id C
  obtain ⟨hT, hN, ga, gb, cg, tu, wd, im, ⟨rt, r1, r4, r5, r10, r13, r16⟩, hk, htb, hS⟩ := S
  obtain ⟨hc, hs, hB0⟩ := hB
  have n_1 : (1 : Int32).toInt = 1 := rfl
  have n_2 : (2 : Int32).toInt = 2 := rfl
  have n_3 : (3 : Int32).toInt = 3 := rfl
  obtain ⟨w, ew⟩ : ∃ z : Nat, z = fR H a (K.1.2 9 0) := ⟨_, rfl⟩
  have gw := ty_fr (q := w) (k := 0) (u := 0) ew hT ga rg_68 rfl
  rw [← ew] at r1 r4 r5 r10 r13 r16
  obtain ⟨ta, eta⟩ : ∃ z : Int32, z = fI H a (K.1.2 9 3) := ⟨_, rfl⟩
  rw [← eta] at rt
  obtain ⟨tb, etb⟩ : ∃ z : Int32, z = fI H b (K.1.2 10 18) := ⟨_, rfl⟩
  rw [← etb] at rt
  obtain ⟨s1, es1⟩ : ∃ z : Int32, z = fI H w (K.1.2 8 1) := ⟨_, rfl⟩
  rw [← es1] at r1
  obtain ⟨y1, ey1⟩ : ∃ z : Int32, z = fI H b (K.1.2 10 1) := ⟨_, rfl⟩
  rw [← ey1] at r1
  obtain ⟨s4, es4⟩ : ∃ z : Int32, z = fI H w (K.1.2 8 4) := ⟨_, rfl⟩
  rw [← es4] at r4
  obtain ⟨y4, ey4⟩ : ∃ z : Int32, z = fI H b (K.1.2 10 2) := ⟨_, rfl⟩
  rw [← ey4] at r4
  obtain ⟨s5, es5⟩ : ∃ z : Int32, z = fI H w (K.1.2 8 5) := ⟨_, rfl⟩
  rw [← es5] at r5
  obtain ⟨y5, ey5⟩ : ∃ z : Int32, z = fI H b (K.1.2 10 3) := ⟨_, rfl⟩
  rw [← ey5] at r5
  obtain ⟨s10, es10⟩ : ∃ z : Int32, z = fI H w (K.1.2 8 10) := ⟨_, rfl⟩
  rw [← es10] at r10
  obtain ⟨y10, ey10⟩ : ∃ z : Int32, z = fI H b (K.1.2 10 59) := ⟨_, rfl⟩
  rw [← ey10] at r10
  obtain ⟨s13, es13⟩ : ∃ z : Int32, z = fI H w (K.1.2 8 13) := ⟨_, rfl⟩
  rw [← es13] at r13
  obtain ⟨y13, ey13⟩ : ∃ z : Int32, z = fI H b (K.1.2 10 62) := ⟨_, rfl⟩
  rw [← ey13] at r13
  obtain ⟨s16, es16⟩ : ∃ z : Int32, z = fI H w (K.1.2 8 16) := ⟨_, rfl⟩
  rw [← es16] at r16
  obtain ⟨y16, ey16⟩ : ∃ z : Int32, z = fI H b (K.1.2 10 65) := ⟨_, rfl⟩
  rw [← ey16] at r16
  obtain ⟨tq, etq⟩ : ∃ z : Nat, z = fR H a (K.1.2 9 2) := ⟨_, rfl⟩
  have gtq := ty_fr (q := tq) (k := 2) (u := 108) etq hT ga rg_68 rfl
  obtain ⟨uq, euq⟩ : ∃ z : Nat, z = fR H b (K.1.2 10 17) := ⟨_, rfl⟩
  have guq := ty_fr (q := uq) (k := 17) (u := 126) euq hT gb rg_112 rfl
  have htr : TBR (fun j => fI H tq j) (fun j => fI H uq j) tb.toNatClampNeg := by rw [etq, euq, etb]; exact htb
  have ft0 : ∀ j : Nat, fI H tq j = fI H tq j := fun _ => rfl
  have fu0 : ∀ j : Nat, fI H uq j = fI H uq j := fun _ => rfl
  have bta := ty_fi (x := ta) (k := 3) eta hT ga rg_68 rfl
  have cta := i_cl (x := ta) (by omega)
  have btb := ty_fi (x := tb) (k := 18) etb hT gb rg_112 rfl
  have ctb := i_cl (x := tb) (by omega)
  rcases hk with ⟨kn, h70⟩ | ⟨kq, kn, gkq, h70, q1, q4, q5, q10, q13, q16⟩
  · skip
    obtain ⟨hi, ehi⟩ : ∃ z : Int32, z = fI H b (K.1.2 10 70) := ⟨_, rfl⟩
    rw [← ehi] at h70
    obtain ⟨hc0, hs0⟩ := hB0 kn
    refine lv_aload_n hx hb dL_law_621 rfl (lv_at hl 2 rfl) ?_
    refine lv_aload_n hx hb dL_law_622 rfl (lv_at hl 3 rfl) ?_
    refine lv_iload_n hx hb dL_law_623 rfl (lv_at hl 0 rfl) ?_
    refine lv_iconst (v := 1) hx hb dL_law_624 (by decide) ?_
    refine lv_iadd hx hb dL_law_625 ?_
    refine lv_topi (fun x101 ex101 => ?_)
    have tx101 := i_add ex101 (by omega)
    have ejx101 : x101.toNatClampNeg = i.toNatClampNeg + 1 := by have h1 := i_cl (x := x101) (by omega); have h2 := i_cl (x := i) (by omega); omega
    refine va_sld hx hb hX hbl (Nat.not_le.mpr hbl) hS (vp_in_iff.mpr (by omega)) dL_law_626 ?_
    refine W.eq (g2 := F0 m 627 ls [.int (xs (i.toNatClampNeg + 1)), .ref a]) (congrArg (fun z => F0 m 627 ls [.int (xs z), .ref a]) ejx101) ?_
    refine lv_aload_n hx hb dL_law_627 rfl (lv_at hl 3 rfl) ?_
    refine lv_iload_n hx hb dL_law_628 rfl (lv_at hl 0 rfl) ?_
    refine lv_iconst (v := 2) hx hb dL_law_629 (by decide) ?_
    refine lv_iadd hx hb dL_law_630 ?_
    refine lv_topi (fun x102 ex102 => ?_)
    have tx102 := i_add ex102 (by omega)
    have ejx102 : x102.toNatClampNeg = i.toNatClampNeg + 2 := by have h1 := i_cl (x := x102) (by omega); have h2 := i_cl (x := i) (by omega); omega
    refine va_sld hx hb hX hbl (Nat.not_le.mpr hbl) hS (vp_in_iff.mpr (by omega)) dL_law_631 ?_
    refine W.eq (g2 := F0 m 632 ls [.int (xs (i.toNatClampNeg + 2)), .int (xs (i.toNatClampNeg + 1)), .ref a]) (congrArg (fun z => F0 m 632 ls [.int (xs z), .int (xs (i.toNatClampNeg + 1)), .ref a]) ejx102) ?_
    refine lv_aload_n hx hb dL_law_632 rfl (lv_at hl 3 rfl) ?_
    refine lv_iload_n hx hb dL_law_633 rfl (lv_at hl 0 rfl) ?_
    refine lv_iconst (v := 3) hx hb dL_law_634 (by decide) ?_
    refine lv_iadd hx hb dL_law_635 ?_
    refine lv_topi (fun x103 ex103 => ?_)
    have tx103 := i_add ex103 (by omega)
    have ejx103 : x103.toNatClampNeg = i.toNatClampNeg + 3 := by have h1 := i_cl (x := x103) (by omega); have h2 := i_cl (x := i) (by omega); omega
    refine va_sld hx hb hX hbl (Nat.not_le.mpr hbl) hS (vp_in_iff.mpr (by omega)) dL_law_636 ?_
    refine W.eq (g2 := F0 m 637 ls [.int (xs (i.toNatClampNeg + 3)), .int (xs (i.toNatClampNeg + 2)), .int (xs (i.toNatClampNeg + 1)), .ref a]) (congrArg (fun z => F0 m 637 ls [.int (xs z), .int (xs (i.toNatClampNeg + 2)), .int (xs (i.toNatClampNeg + 1)), .ref a]) ejx103) ?_
    refine x_V (As := [.int (xs (i.toNatClampNeg + 1)), .int (xs (i.toNatClampNeg + 2)), .int (xs (i.toNatClampNeg + 3))]) (rest := []) C (a_X9_shave l K G H ((xs (i.toNatClampNeg + 1))) ((xs (i.toNatClampNeg + 2))) ((xs (i.toNatClampNeg + 3))) hT ga) yo_X9_shave wM_L_64 ⟨⟨by decide, by decide⟩, show _ ≤ 284929 by omega, show _ ≤ 8247460 by omega⟩ (x_rv C hT (ci := 9) rfl ga rg_68) rfl hl.1 rfl (Nat.le_of_ble_eq_true rfl) dL_law_637 hS (AE_new hN hS.1) (fun vH104 H104 locsH104 pH104 zH104 kH104 hSH104 => ?_)
    obtain ⟨x105, hvH104, hTH104⟩ := pH104
    subst hvH104
    have g106 : CG (avw K H104 b) := CG.congr (fun k hk j => av_eff hT kH104 gb (by decide) (CG_eff [1, 2, 7, 8, 83, 84] (by decide) k hk)) cg
    have g107 : TU (avw K H104 b) (svw K H104 b) := TU.congr (fun k hk j => av_eff hT kH104 gb (by decide) (TU_eff [1, 2, 7, 8, 83, 84] (by decide) k hk)) (fun k hk => sv_eff hT kH104 gb (by decide)) tu
    have g108 : WD (avw K H104 b) := WD.congr (fun k hk j => av_eff hT kH104 gb (by decide) (WD_eff [1, 2, 7, 8, 83, 84] (by decide) k hk)) wd
    have g109 : IM (avw K H104 b) := IM.congr (fun k hk j => av_eff hT kH104 gb (by decide) (IM_eff [1, 2, 7, 8, 83, 84] (by decide) k hk)) im
    have f110 : ∀ j : Nat, fI H104 tq j = fI H tq j := fun j => (fI_kept (x_lt hT kH104 gtq (by decide))).trans (ft0 j)
    have f111 : ∀ j : Nat, fI H104 uq j = fI H uq j := fun j => (fI_kept (x_lt hT kH104 guq (by decide))).trans (fu0 j)
    have m112 := (ew).trans (fR_kept (x_lt hT kH104 ga (by decide))).symm
    have m113 := (eta).trans (fI_kept (x_lt hT kH104 ga (by decide))).symm
    have m114 := (etb).trans (fI_kept (x_lt hT kH104 gb (by decide))).symm
    have m115 := (es1).trans (fI_kept (x_lt hT kH104 gw (by decide))).symm
    have m116 := (ey1).trans (fI_kept (x_lt hT kH104 gb (by decide))).symm
    have m117 := (es4).trans (fI_kept (x_lt hT kH104 gw (by decide))).symm
    have m118 := (ey4).trans (fI_kept (x_lt hT kH104 gb (by decide))).symm
    have m119 := (es5).trans (fI_kept (x_lt hT kH104 gw (by decide))).symm
    have m120 := (ey5).trans (fI_kept (x_lt hT kH104 gb (by decide))).symm
    have m121 := (es10).trans (fI_kept (x_lt hT kH104 gw (by decide))).symm
    have m122 := (ey10).trans (fI_kept (x_lt hT kH104 gb (by decide))).symm
    have m123 := (es13).trans (fI_kept (x_lt hT kH104 gw (by decide))).symm
    have m124 := (ey13).trans (fI_kept (x_lt hT kH104 gb (by decide))).symm
    have m125 := (es16).trans (fI_kept (x_lt hT kH104 gw (by decide))).symm
    have m126 := (ey16).trans (fI_kept (x_lt hT kH104 gb (by decide))).symm
    have m127 := (etq).trans (fR_kept (x_lt hT kH104 ga (by decide))).symm
    have m128 := (euq).trans (fR_kept (x_lt hT kH104 gb (by decide))).symm
    have m129 := (ehi).trans (fI_kept (x_lt hT kH104 gb (by decide))).symm
    have m130 := (fV_kept (x_lt hT kH104 ga (by decide))).trans kn
    refine W.eq (g2 := F0 m 640 ls [.int x105]) rfl ?_
    refine lv_pop hx hb dL_law_640 rfl ?_
    refine lv_aload_n hx hb dL_law_641 rfl (lv_at hl 1 rfl) ?_
    refine lv_aload_n hx hb dL_law_642 rfl (lv_at hl 3 rfl) ?_
    refine lv_iload_n hx hb dL_law_643 rfl (lv_at hl 0 rfl) ?_
    refine lv_iconst (v := 1) hx hb dL_law_644 (by decide) ?_
    refine lv_iadd hx hb dL_law_645 ?_
    refine lv_topi (fun x131 ex131 => ?_)
    have tx131 := i_add ex131 (by omega)
    have ejx131 : x131.toNatClampNeg = i.toNatClampNeg + 1 := by have h1 := i_cl (x := x131) (by omega); have h2 := i_cl (x := i) (by omega); omega
    refine va_sld hx hb hX hbl (Nat.not_le.mpr hbl) hSH104 (vp_in_iff.mpr (by omega)) dL_law_646 ?_
    refine W.eq (g2 := F0 m 647 ls [.int (xs (i.toNatClampNeg + 1)), .ref b]) (congrArg (fun z => F0 m 647 ls [.int (xs z), .ref b]) ejx131) ?_
    refine lv_aload_n hx hb dL_law_647 rfl (lv_at hl 3 rfl) ?_
    refine lv_iload_n hx hb dL_law_648 rfl (lv_at hl 0 rfl) ?_
    refine lv_iconst (v := 2) hx hb dL_law_649 (by decide) ?_
    refine lv_iadd hx hb dL_law_650 ?_
    refine lv_topi (fun x132 ex132 => ?_)
    have tx132 := i_add ex132 (by omega)
    have ejx132 : x132.toNatClampNeg = i.toNatClampNeg + 2 := by have h1 := i_cl (x := x132) (by omega); have h2 := i_cl (x := i) (by omega); omega
    refine va_sld hx hb hX hbl (Nat.not_le.mpr hbl) hSH104 (vp_in_iff.mpr (by omega)) dL_law_651 ?_
    refine W.eq (g2 := F0 m 652 ls [.int (xs (i.toNatClampNeg + 2)), .int (xs (i.toNatClampNeg + 1)), .ref b]) (congrArg (fun z => F0 m 652 ls [.int (xs z), .int (xs (i.toNatClampNeg + 1)), .ref b]) ejx132) ?_
    refine lv_aload_n hx hb dL_law_652 rfl (lv_at hl 3 rfl) ?_
    refine lv_iload_n hx hb dL_law_653 rfl (lv_at hl 0 rfl) ?_
    refine lv_iconst (v := 3) hx hb dL_law_654 (by decide) ?_
    refine lv_iadd hx hb dL_law_655 ?_
    refine lv_topi (fun x133 ex133 => ?_)
    have tx133 := i_add ex133 (by omega)
    have ejx133 : x133.toNatClampNeg = i.toNatClampNeg + 3 := by have h1 := i_cl (x := x133) (by omega); have h2 := i_cl (x := i) (by omega); omega
    refine va_sld hx hb hX hbl (Nat.not_le.mpr hbl) hSH104 (vp_in_iff.mpr (by omega)) dL_law_656 ?_
    refine W.eq (g2 := F0 m 657 ls [.int (xs (i.toNatClampNeg + 3)), .int (xs (i.toNatClampNeg + 2)), .int (xs (i.toNatClampNeg + 1)), .ref b]) (congrArg (fun z => F0 m 657 ls [.int (xs z), .int (xs (i.toNatClampNeg + 2)), .int (xs (i.toNatClampNeg + 1)), .ref b]) ejx133) ?_
    refine x_V (As := [.int (xs (i.toNatClampNeg + 1)), .int (xs (i.toNatClampNeg + 2)), .int (xs (i.toNatClampNeg + 3))]) (rest := []) C (a_X10_shave l K G H104 ((xs (i.toNatClampNeg + 1))) ((xs (i.toNatClampNeg + 2))) ((xs (i.toNatClampNeg + 3))) hTH104 gb g106 g107 g108 g109) yo_X10_shave wM_L_67 ⟨⟨by decide, by decide⟩, show _ ≤ 284929 by omega, show _ ≤ 8247460 by omega⟩ (x_rv C hTH104 (ci := 10) rfl gb rg_112) rfl hl.1 rfl (Nat.le_of_ble_eq_true rfl) dL_law_657 hSH104 (AE_new hN hSH104.1) (fun vH134 H134 locsH134 pH134 zH134 kH134 hSH134 => ?_)
    obtain ⟨x135, hvH134, g136, g137, g138, g139, mf140, hTH134⟩ := pH134
    subst hvH134
    have f141 : ∀ j : Nat, fI H134 tq j = fI H tq j := fun j => (fI_kept (x_lt hTH104 kH134 gtq (by decide))).trans (f110 j)
    have f142 : ∀ j : Nat, fI H134 uq j = fI H uq j := fun j => (fI_kept (x_lt hTH104 kH134 guq (by decide))).trans (f111 j)
    have m143 := (m112).trans (fR_kept (x_lt hTH104 kH134 ga (by decide))).symm
    have m144 := (m113).trans (fI_kept (x_lt hTH104 kH134 ga (by decide))).symm
    have m145 := (m115).trans (fI_kept (x_lt hTH104 kH134 gw (by decide))).symm
    have m146 := (m117).trans (fI_kept (x_lt hTH104 kH134 gw (by decide))).symm
    have m147 := (m119).trans (fI_kept (x_lt hTH104 kH134 gw (by decide))).symm
    have m148 := (m121).trans (fI_kept (x_lt hTH104 kH134 gw (by decide))).symm
    have m149 := (m123).trans (fI_kept (x_lt hTH104 kH134 gw (by decide))).symm
    have m150 := (m125).trans (fI_kept (x_lt hTH104 kH134 gw (by decide))).symm
    have m151 := (m127).trans (fR_kept (x_lt hTH104 kH134 ga (by decide))).symm
    have m152 := (fV_kept (x_lt hTH104 kH134 ga (by decide))).trans m130
    have m153 := (m114).trans (MF.i mf140 (k := 18) (by decide) (by decide)).symm
    have m154 := (m116).trans (MF.i mf140 (k := 1) (by decide) (by decide)).symm
    have m155 := (m118).trans (MF.i mf140 (k := 2) (by decide) (by decide)).symm
    have m156 := (m120).trans (MF.i mf140 (k := 3) (by decide) (by decide)).symm
    have m157 := (m122).trans (MF.i mf140 (k := 59) (by decide) (by decide)).symm
    have m158 := (m124).trans (MF.i mf140 (k := 62) (by decide) (by decide)).symm
    have m159 := (m126).trans (MF.i mf140 (k := 65) (by decide) (by decide)).symm
    have m160 := (m128).trans (MF.r mf140 (k := 17) (by decide) (by decide)).symm
    have m161 := (m129).trans (MF.i mf140 (k := 70) (by decide) (by decide)).symm
    refine W.eq (g2 := F0 m 660 ls [.int x135]) rfl ?_
    refine lv_pop hx hb dL_law_660 rfl ?_
    refine lv_goto (tgt := 1509) hx hb dL_law_661 (by decide) ?_
    exact nx G H134 locsH134 _ _ ls ⟨hTH134, hN, ga, gb, g136, g137, g138, g139, ⟨(by rw [← m144, ← m153]; omega), (by rw [← m143, ← m145, ← m154]; omega), (by rw [← m143, ← m146, ← m155]; omega), (by rw [← m143, ← m147, ← m156]; omega), (by rw [← m143, ← m148, ← m157]; omega), (by rw [← m143, ← m149, ← m158]; omega), (by rw [← m143, ← m150, ← m159]; omega)⟩, Or.inl ⟨m152, (by rw [← m161]; omega)⟩, (by unfold TB; rw [← m151, ← m160, ← m153]; exact TBR.of htr f141 f142 (by omega)), hSH134⟩ hl ⟨by omega, by omega, fun _ => ⟨by omega, by omega⟩⟩
  · skip
    obtain ⟨hi, ehi⟩ : ∃ z : Int32, z = fI H b (K.1.2 10 70) := ⟨_, rfl⟩
    rw [← ehi] at h70
    obtain ⟨iq, eiq⟩ : ∃ z : Nat, z = fR H b (K.1.2 10 73) := ⟨_, rfl⟩
    have giq := ty_fr (q := iq) (k := 73) (u := 162) eiq hT gb rg_112 rfl
    rw [← eiq] at q1 q4 q5 q10 q13 q16
    obtain ⟨k1, ek1⟩ : ∃ z : Int32, z = fI H kq (K.1.2 8 1) := ⟨_, rfl⟩
    rw [← ek1] at q1
    obtain ⟨i1, ei1⟩ : ∃ z : Int32, z = fI H iq ((0 : Int32).toNatClampNeg) := ⟨_, rfl⟩
    rw [← ei1] at q1
    obtain ⟨k4, ek4⟩ : ∃ z : Int32, z = fI H kq (K.1.2 8 4) := ⟨_, rfl⟩
    rw [← ek4] at q4
    obtain ⟨i4, ei4⟩ : ∃ z : Int32, z = fI H iq ((1 : Int32).toNatClampNeg) := ⟨_, rfl⟩
    rw [← ei4] at q4
    obtain ⟨k5, ek5⟩ : ∃ z : Int32, z = fI H kq (K.1.2 8 5) := ⟨_, rfl⟩
    rw [← ek5] at q5
    obtain ⟨i5, ei5⟩ : ∃ z : Int32, z = fI H iq ((2 : Int32).toNatClampNeg) := ⟨_, rfl⟩
    rw [← ei5] at q5
    obtain ⟨k10, ek10⟩ : ∃ z : Int32, z = fI H kq (K.1.2 8 10) := ⟨_, rfl⟩
    rw [← ek10] at q10
    obtain ⟨i10, ei10⟩ : ∃ z : Int32, z = fI H iq ((3 : Int32).toNatClampNeg) := ⟨_, rfl⟩
    rw [← ei10] at q10
    obtain ⟨k13, ek13⟩ : ∃ z : Int32, z = fI H kq (K.1.2 8 13) := ⟨_, rfl⟩
    rw [← ek13] at q13
    obtain ⟨i13, ei13⟩ : ∃ z : Int32, z = fI H iq ((4 : Int32).toNatClampNeg) := ⟨_, rfl⟩
    rw [← ei13] at q13
    obtain ⟨k16, ek16⟩ : ∃ z : Int32, z = fI H kq (K.1.2 8 16) := ⟨_, rfl⟩
    rw [← ek16] at q16
    obtain ⟨i16, ei16⟩ : ∃ z : Int32, z = fI H iq ((5 : Int32).toNatClampNeg) := ⟨_, rfl⟩
    rw [← ei16] at q16
    refine lv_aload_n hx hb dL_law_621 rfl (lv_at hl 2 rfl) ?_
    refine lv_aload_n hx hb dL_law_622 rfl (lv_at hl 3 rfl) ?_
    refine lv_iload_n hx hb dL_law_623 rfl (lv_at hl 0 rfl) ?_
    refine lv_iconst (v := 1) hx hb dL_law_624 (by decide) ?_
    refine lv_iadd hx hb dL_law_625 ?_
    refine lv_topi (fun x162 ex162 => ?_)
    have tx162 := i_add ex162 (by omega)
    have ejx162 : x162.toNatClampNeg = i.toNatClampNeg + 1 := by have h1 := i_cl (x := x162) (by omega); have h2 := i_cl (x := i) (by omega); omega
    refine va_sld hx hb hX hbl (Nat.not_le.mpr hbl) hS (vp_in_iff.mpr (by omega)) dL_law_626 ?_
    refine W.eq (g2 := F0 m 627 ls [.int (xs (i.toNatClampNeg + 1)), .ref a]) (congrArg (fun z => F0 m 627 ls [.int (xs z), .ref a]) ejx162) ?_
    refine lv_aload_n hx hb dL_law_627 rfl (lv_at hl 3 rfl) ?_
    refine lv_iload_n hx hb dL_law_628 rfl (lv_at hl 0 rfl) ?_
    refine lv_iconst (v := 2) hx hb dL_law_629 (by decide) ?_
    refine lv_iadd hx hb dL_law_630 ?_
    refine lv_topi (fun x163 ex163 => ?_)
    have tx163 := i_add ex163 (by omega)
    have ejx163 : x163.toNatClampNeg = i.toNatClampNeg + 2 := by have h1 := i_cl (x := x163) (by omega); have h2 := i_cl (x := i) (by omega); omega
    refine va_sld hx hb hX hbl (Nat.not_le.mpr hbl) hS (vp_in_iff.mpr (by omega)) dL_law_631 ?_
    refine W.eq (g2 := F0 m 632 ls [.int (xs (i.toNatClampNeg + 2)), .int (xs (i.toNatClampNeg + 1)), .ref a]) (congrArg (fun z => F0 m 632 ls [.int (xs z), .int (xs (i.toNatClampNeg + 1)), .ref a]) ejx163) ?_
    refine lv_aload_n hx hb dL_law_632 rfl (lv_at hl 3 rfl) ?_
    refine lv_iload_n hx hb dL_law_633 rfl (lv_at hl 0 rfl) ?_
    refine lv_iconst (v := 3) hx hb dL_law_634 (by decide) ?_
    refine lv_iadd hx hb dL_law_635 ?_
    refine lv_topi (fun x164 ex164 => ?_)
    have tx164 := i_add ex164 (by omega)
    have ejx164 : x164.toNatClampNeg = i.toNatClampNeg + 3 := by have h1 := i_cl (x := x164) (by omega); have h2 := i_cl (x := i) (by omega); omega
    refine va_sld hx hb hX hbl (Nat.not_le.mpr hbl) hS (vp_in_iff.mpr (by omega)) dL_law_636 ?_
    refine W.eq (g2 := F0 m 637 ls [.int (xs (i.toNatClampNeg + 3)), .int (xs (i.toNatClampNeg + 2)), .int (xs (i.toNatClampNeg + 1)), .ref a]) (congrArg (fun z => F0 m 637 ls [.int (xs z), .int (xs (i.toNatClampNeg + 2)), .int (xs (i.toNatClampNeg + 1)), .ref a]) ejx164) ?_
    refine x_V (As := [.int (xs (i.toNatClampNeg + 1)), .int (xs (i.toNatClampNeg + 2)), .int (xs (i.toNatClampNeg + 3))]) (rest := []) C (a_X9_shave l K G H ((xs (i.toNatClampNeg + 1))) ((xs (i.toNatClampNeg + 2))) ((xs (i.toNatClampNeg + 3))) hT ga) yo_X9_shave wM_L_64 ⟨⟨by decide, by decide⟩, show _ ≤ 284929 by omega, show _ ≤ 8247460 by omega⟩ (x_rv C hT (ci := 9) rfl ga rg_68) rfl hl.1 rfl (Nat.le_of_ble_eq_true rfl) dL_law_637 hS (AE_new hN hS.1) (fun vH165 H165 locsH165 pH165 zH165 kH165 hSH165 => ?_)
    obtain ⟨x166, hvH165, hTH165⟩ := pH165
    subst hvH165
    have g167 : CG (avw K H165 b) := CG.congr (fun k hk j => av_eff hT kH165 gb (by decide) (CG_eff [1, 2, 7, 8, 83, 84] (by decide) k hk)) cg
    have g168 : TU (avw K H165 b) (svw K H165 b) := TU.congr (fun k hk j => av_eff hT kH165 gb (by decide) (TU_eff [1, 2, 7, 8, 83, 84] (by decide) k hk)) (fun k hk => sv_eff hT kH165 gb (by decide)) tu
    have g169 : WD (avw K H165 b) := WD.congr (fun k hk j => av_eff hT kH165 gb (by decide) (WD_eff [1, 2, 7, 8, 83, 84] (by decide) k hk)) wd
    have g170 : IM (avw K H165 b) := IM.congr (fun k hk j => av_eff hT kH165 gb (by decide) (IM_eff [1, 2, 7, 8, 83, 84] (by decide) k hk)) im
    have f171 : ∀ j : Nat, fI H165 tq j = fI H tq j := fun j => (fI_kept (x_lt hT kH165 gtq (by decide))).trans (ft0 j)
    have f172 : ∀ j : Nat, fI H165 uq j = fI H uq j := fun j => (fI_kept (x_lt hT kH165 guq (by decide))).trans (fu0 j)
    have m173 := (ew).trans (fR_kept (x_lt hT kH165 ga (by decide))).symm
    have m174 := (eta).trans (fI_kept (x_lt hT kH165 ga (by decide))).symm
    have m175 := (etb).trans (fI_kept (x_lt hT kH165 gb (by decide))).symm
    have m176 := (es1).trans (fI_kept (x_lt hT kH165 gw (by decide))).symm
    have m177 := (ey1).trans (fI_kept (x_lt hT kH165 gb (by decide))).symm
    have m178 := (es4).trans (fI_kept (x_lt hT kH165 gw (by decide))).symm
    have m179 := (ey4).trans (fI_kept (x_lt hT kH165 gb (by decide))).symm
    have m180 := (es5).trans (fI_kept (x_lt hT kH165 gw (by decide))).symm
    have m181 := (ey5).trans (fI_kept (x_lt hT kH165 gb (by decide))).symm
    have m182 := (es10).trans (fI_kept (x_lt hT kH165 gw (by decide))).symm
    have m183 := (ey10).trans (fI_kept (x_lt hT kH165 gb (by decide))).symm
    have m184 := (es13).trans (fI_kept (x_lt hT kH165 gw (by decide))).symm
    have m185 := (ey13).trans (fI_kept (x_lt hT kH165 gb (by decide))).symm
    have m186 := (es16).trans (fI_kept (x_lt hT kH165 gw (by decide))).symm
    have m187 := (ey16).trans (fI_kept (x_lt hT kH165 gb (by decide))).symm
    have m188 := (etq).trans (fR_kept (x_lt hT kH165 ga (by decide))).symm
    have m189 := (euq).trans (fR_kept (x_lt hT kH165 gb (by decide))).symm
    have m190 := (ehi).trans (fI_kept (x_lt hT kH165 gb (by decide))).symm
    have m191 := (fV_kept (x_lt hT kH165 ga (by decide))).trans kn
    have m192 := (eiq).trans (fR_kept (x_lt hT kH165 gb (by decide))).symm
    have m193 := (ek1).trans (fI_kept (x_lt hT kH165 gkq (by decide))).symm
    have m194 := (ei1).trans (fI_kept (x_lt hT kH165 giq (by decide))).symm
    have m195 := (ek4).trans (fI_kept (x_lt hT kH165 gkq (by decide))).symm
    have m196 := (ei4).trans (fI_kept (x_lt hT kH165 giq (by decide))).symm
    have m197 := (ek5).trans (fI_kept (x_lt hT kH165 gkq (by decide))).symm
    have m198 := (ei5).trans (fI_kept (x_lt hT kH165 giq (by decide))).symm
    have m199 := (ek10).trans (fI_kept (x_lt hT kH165 gkq (by decide))).symm
    have m200 := (ei10).trans (fI_kept (x_lt hT kH165 giq (by decide))).symm
    have m201 := (ek13).trans (fI_kept (x_lt hT kH165 gkq (by decide))).symm
    have m202 := (ei13).trans (fI_kept (x_lt hT kH165 giq (by decide))).symm
    have m203 := (ek16).trans (fI_kept (x_lt hT kH165 gkq (by decide))).symm
    have m204 := (ei16).trans (fI_kept (x_lt hT kH165 giq (by decide))).symm
    refine W.eq (g2 := F0 m 640 ls [.int x166]) rfl ?_
    refine lv_pop hx hb dL_law_640 rfl ?_
    refine lv_aload_n hx hb dL_law_641 rfl (lv_at hl 1 rfl) ?_
    refine lv_aload_n hx hb dL_law_642 rfl (lv_at hl 3 rfl) ?_
    refine lv_iload_n hx hb dL_law_643 rfl (lv_at hl 0 rfl) ?_
    refine lv_iconst (v := 1) hx hb dL_law_644 (by decide) ?_
    refine lv_iadd hx hb dL_law_645 ?_
    refine lv_topi (fun x205 ex205 => ?_)
    have tx205 := i_add ex205 (by omega)
    have ejx205 : x205.toNatClampNeg = i.toNatClampNeg + 1 := by have h1 := i_cl (x := x205) (by omega); have h2 := i_cl (x := i) (by omega); omega
    refine va_sld hx hb hX hbl (Nat.not_le.mpr hbl) hSH165 (vp_in_iff.mpr (by omega)) dL_law_646 ?_
    refine W.eq (g2 := F0 m 647 ls [.int (xs (i.toNatClampNeg + 1)), .ref b]) (congrArg (fun z => F0 m 647 ls [.int (xs z), .ref b]) ejx205) ?_
    refine lv_aload_n hx hb dL_law_647 rfl (lv_at hl 3 rfl) ?_
    refine lv_iload_n hx hb dL_law_648 rfl (lv_at hl 0 rfl) ?_
    refine lv_iconst (v := 2) hx hb dL_law_649 (by decide) ?_
    refine lv_iadd hx hb dL_law_650 ?_
    refine lv_topi (fun x206 ex206 => ?_)
    have tx206 := i_add ex206 (by omega)
    have ejx206 : x206.toNatClampNeg = i.toNatClampNeg + 2 := by have h1 := i_cl (x := x206) (by omega); have h2 := i_cl (x := i) (by omega); omega
    refine va_sld hx hb hX hbl (Nat.not_le.mpr hbl) hSH165 (vp_in_iff.mpr (by omega)) dL_law_651 ?_
    refine W.eq (g2 := F0 m 652 ls [.int (xs (i.toNatClampNeg + 2)), .int (xs (i.toNatClampNeg + 1)), .ref b]) (congrArg (fun z => F0 m 652 ls [.int (xs z), .int (xs (i.toNatClampNeg + 1)), .ref b]) ejx206) ?_
    refine lv_aload_n hx hb dL_law_652 rfl (lv_at hl 3 rfl) ?_
    refine lv_iload_n hx hb dL_law_653 rfl (lv_at hl 0 rfl) ?_
    refine lv_iconst (v := 3) hx hb dL_law_654 (by decide) ?_
    refine lv_iadd hx hb dL_law_655 ?_
    refine lv_topi (fun x207 ex207 => ?_)
    have tx207 := i_add ex207 (by omega)
    have ejx207 : x207.toNatClampNeg = i.toNatClampNeg + 3 := by have h1 := i_cl (x := x207) (by omega); have h2 := i_cl (x := i) (by omega); omega
    refine va_sld hx hb hX hbl (Nat.not_le.mpr hbl) hSH165 (vp_in_iff.mpr (by omega)) dL_law_656 ?_
    refine W.eq (g2 := F0 m 657 ls [.int (xs (i.toNatClampNeg + 3)), .int (xs (i.toNatClampNeg + 2)), .int (xs (i.toNatClampNeg + 1)), .ref b]) (congrArg (fun z => F0 m 657 ls [.int (xs z), .int (xs (i.toNatClampNeg + 2)), .int (xs (i.toNatClampNeg + 1)), .ref b]) ejx207) ?_
    refine x_V (As := [.int (xs (i.toNatClampNeg + 1)), .int (xs (i.toNatClampNeg + 2)), .int (xs (i.toNatClampNeg + 3))]) (rest := []) C (a_X10_shave l K G H165 ((xs (i.toNatClampNeg + 1))) ((xs (i.toNatClampNeg + 2))) ((xs (i.toNatClampNeg + 3))) hTH165 gb g167 g168 g169 g170) yo_X10_shave wM_L_67 ⟨⟨by decide, by decide⟩, show _ ≤ 284929 by omega, show _ ≤ 8247460 by omega⟩ (x_rv C hTH165 (ci := 10) rfl gb rg_112) rfl hl.1 rfl (Nat.le_of_ble_eq_true rfl) dL_law_657 hSH165 (AE_new hN hSH165.1) (fun vH208 H208 locsH208 pH208 zH208 kH208 hSH208 => ?_)
    obtain ⟨x209, hvH208, g210, g211, g212, g213, mf214, hTH208⟩ := pH208
    subst hvH208
    have f215 : ∀ j : Nat, fI H208 tq j = fI H tq j := fun j => (fI_kept (x_lt hTH165 kH208 gtq (by decide))).trans (f171 j)
    have f216 : ∀ j : Nat, fI H208 uq j = fI H uq j := fun j => (fI_kept (x_lt hTH165 kH208 guq (by decide))).trans (f172 j)
    have m217 := (m173).trans (fR_kept (x_lt hTH165 kH208 ga (by decide))).symm
    have m218 := (m174).trans (fI_kept (x_lt hTH165 kH208 ga (by decide))).symm
    have m219 := (m176).trans (fI_kept (x_lt hTH165 kH208 gw (by decide))).symm
    have m220 := (m178).trans (fI_kept (x_lt hTH165 kH208 gw (by decide))).symm
    have m221 := (m180).trans (fI_kept (x_lt hTH165 kH208 gw (by decide))).symm
    have m222 := (m182).trans (fI_kept (x_lt hTH165 kH208 gw (by decide))).symm
    have m223 := (m184).trans (fI_kept (x_lt hTH165 kH208 gw (by decide))).symm
    have m224 := (m186).trans (fI_kept (x_lt hTH165 kH208 gw (by decide))).symm
    have m225 := (m188).trans (fR_kept (x_lt hTH165 kH208 ga (by decide))).symm
    have m226 := (fV_kept (x_lt hTH165 kH208 ga (by decide))).trans m191
    have m227 := (m193).trans (fI_kept (x_lt hTH165 kH208 gkq (by decide))).symm
    have m228 := (m194).trans (fI_kept (x_lt hTH165 kH208 giq (by decide))).symm
    have m229 := (m195).trans (fI_kept (x_lt hTH165 kH208 gkq (by decide))).symm
    have m230 := (m196).trans (fI_kept (x_lt hTH165 kH208 giq (by decide))).symm
    have m231 := (m197).trans (fI_kept (x_lt hTH165 kH208 gkq (by decide))).symm
    have m232 := (m198).trans (fI_kept (x_lt hTH165 kH208 giq (by decide))).symm
    have m233 := (m199).trans (fI_kept (x_lt hTH165 kH208 gkq (by decide))).symm
    have m234 := (m200).trans (fI_kept (x_lt hTH165 kH208 giq (by decide))).symm
    have m235 := (m201).trans (fI_kept (x_lt hTH165 kH208 gkq (by decide))).symm
    have m236 := (m202).trans (fI_kept (x_lt hTH165 kH208 giq (by decide))).symm
    have m237 := (m203).trans (fI_kept (x_lt hTH165 kH208 gkq (by decide))).symm
    have m238 := (m204).trans (fI_kept (x_lt hTH165 kH208 giq (by decide))).symm
    have m239 := (m175).trans (MF.i mf214 (k := 18) (by decide) (by decide)).symm
    have m240 := (m177).trans (MF.i mf214 (k := 1) (by decide) (by decide)).symm
    have m241 := (m179).trans (MF.i mf214 (k := 2) (by decide) (by decide)).symm
    have m242 := (m181).trans (MF.i mf214 (k := 3) (by decide) (by decide)).symm
    have m243 := (m183).trans (MF.i mf214 (k := 59) (by decide) (by decide)).symm
    have m244 := (m185).trans (MF.i mf214 (k := 62) (by decide) (by decide)).symm
    have m245 := (m187).trans (MF.i mf214 (k := 65) (by decide) (by decide)).symm
    have m246 := (m189).trans (MF.r mf214 (k := 17) (by decide) (by decide)).symm
    have m247 := (m190).trans (MF.i mf214 (k := 70) (by decide) (by decide)).symm
    have m248 := (m192).trans (MF.r mf214 (k := 73) (by decide) (by decide)).symm
    refine W.eq (g2 := F0 m 660 ls [.int x209]) rfl ?_
    refine lv_pop hx hb dL_law_660 rfl ?_
    refine lv_goto (tgt := 1509) hx hb dL_law_661 (by decide) ?_
    exact nx G H208 locsH208 _ _ ls ⟨hTH208, hN, ga, gb, g210, g211, g212, g213, ⟨(by rw [← m218, ← m239]; omega), (by rw [← m217, ← m219, ← m240]; omega), (by rw [← m217, ← m220, ← m241]; omega), (by rw [← m217, ← m221, ← m242]; omega), (by rw [← m217, ← m222, ← m243]; omega), (by rw [← m217, ← m223, ← m244]; omega), (by rw [← m217, ← m224, ← m245]; omega)⟩, Or.inr ⟨kq, m226, gkq, (by rw [← m247]; omega), (by rw [← m227, ← m248, ← m228]; omega), (by rw [← m229, ← m248, ← m230]; omega), (by rw [← m231, ← m248, ← m232]; omega), (by rw [← m233, ← m248, ← m234]; omega), (by rw [← m235, ← m248, ← m236]; omega), (by rw [← m237, ← m248, ← m238]; omega)⟩, (by unfold TB; rw [← m225, ← m246, ← m239]; exact TBR.of htr f215 f216 (by omega)), hSH208⟩ hl ⟨by omega, by omega, fun h => by have h1 := h.symm.trans m226; cases h1⟩