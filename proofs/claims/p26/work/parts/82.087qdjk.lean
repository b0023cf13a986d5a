set_option maxHeartbeats 4000000 in
set_option maxRecDepth 100000 in
theorem a_X10_tells_v (l : Launch) (K : KE) (G : Nat → Option Nat) (H : Heap) {a0 : Nat} (x1 : Int32) (x2 : Int32) (x3 : Int32) (x4 : Int32) (x5 : Int32) {slq : Nat} (bs : Int32) (sz : Int32) (fsE : Nat → EF) (fwE : Nat → EF) (hT : TY K G H) (ga0 : G a0 = some 112) (hx1 : 0 ≤ x1.toInt ∧ x1.toInt ≤ 1) (hx4 : 0 ≤ x4.toInt ∧ x4.toInt ≤ 9) (gslq : G slq = some 113) (eslq : slq = fR H a0 (K.1.2 10 4)) (ebs : bs = fI H a0 (K.1.2 10 1)) (esz : sz = fI H slq (x4 : Int32).toNatClampNeg) (hg_CG : CG (avw K H a0)) (hg_TU : TU (avw K H a0) (svw K H a0)) (hg_WD : WD (avw K H a0)) (hg_IM : IM (avw K H a0)) (hp0 : x4.toInt < bs.toInt) (hy0 : TXR K H a0 x1.toNatClampNeg 1 fsE fwE) : MX l K yX10_tells cX10_tells 6 (some .int) 4 97 0 0 [.ref a0, .int x1, .int x2, .int x3, .int x4, .int x5] H (AE G [112, 140, 139] H.size) (fun v H1 => ∃ (r : Int32), v = some (.int r) ∧ slq = fR H1 a0 (K.1.2 10 4) ∧ (CG (avw K H1 a0)) ∧ (TU (avw K H1 a0) (svw K H1 a0)) ∧ (WD (avw K H1 a0)) ∧ (IM (avw K H1 a0)) ∧ MF K H H1 a0 [0] ∧ (r.toInt = teV (tlR K H a0 x1.toNatClampNeg fsE fwE) (vwR K H a0 x4.toNatClampNeg) x2.toInt x3.toInt x5.toInt) ∧ TY K G H1) := by
  refine MX.of (by decide +kernel) (Nat.le_of_ble_eq_true rfl) ?_
  intro p e s m below meth c ls Q C hH hl hQ
  subst hH
  have C : CX p K s m _ meth c RX10 cX10_tells 6 (some .int) "tells" := C
  obtain ⟨hx, hb, hml, hown, hts, hKT, hr, hlocks, hnm⟩ := id C
  have hl : lv_has ls 6 [(0, .ref a0), (1, .int x1), (2, .int x2), (3, .int x3), (4, .int x4), (5, .int x5)] := hl
  have hS : va_S (AE G [112, 140, 139] s.heap.size) s.heap s.heap [] := va_S.rf
  have n_m100000 : ((-100000) : Int32).toInt = -100000 := rfl
  have n_0 : (0 : Int32).toInt = 0 := rfl
  have n_1 : (1 : Int32).toInt = 1 := rfl
  have n_2 : (2 : Int32).toInt = 2 := rfl
  have bbs := ty_fi (x := bs) (k := 1) ebs hT ga0 rg_112 rfl
  have bsz := ty_ai (x := sz) esz hT gslq rg_113 (by omega)
  have hap : ∀ x y, x < 74 → y < 74 → x ≠ y → K.1.2 10 x ≠ K.1.2 10 y := x_apart hKT hts inX10 tyX10 tyX10_ok nmX10 rfl
  have mf0 : MF K s.heap s.heap a0 [0] := fun _ _ _ => rfl
  have vr_0 : vwR K s.heap a0 x4.toNatClampNeg = vwR K s.heap a0 x4.toNatClampNeg := rfl
  have vo_0 : ∀ b2 : Nat, b2 ≠ x4.toNatClampNeg → EqV (vwR K s.heap a0 b2) (vwR K s.heap a0 b2) := fun _ _ => EqV.rf
  have v00 : vwR K s.heap a0 x4.toNatClampNeg 0 0 = sz.toInt := by rw [vwR_f (by decide)]; show (fI s.heap (fR s.heap a0 (K.1.2 10 4)) x4.toNatClampNeg).toInt = _; rw [← eslq, ← esz]
  have f0_tf : TXG K a0 G s.heap s.heap := TXG.rf
  refine lv_aload_n hx hb dX10_tells_0 rfl (lv_at hl 0 rfl) ?_
  refine lv_iconst (v := 0) hx hb dX10_tells_1 (by decide) ?_
  refine x_put C hT hS (ci := 10) (k := 0) (v := .int 0) (ty0 := tyX10) rfl inX10 tyX10_ok nmX10 (by decide) rfl wF_X10_167 ga0 rg_112 rfl rfl (okI (by have := i_rng (0 : Int32); omega) (by have := i_rng (0 : Int32); omega)) rfl rfl (AE_in ga0 (by decide)) dX10_tells_2 (fun H529 locsH529 hTH529 hSH529 wH529 => ?_)
  have mf530 : MF K s.heap H529 a0 [0] := MF.fld hap wH529 (by decide) (by decide) mf0
  have g531 : CG (avw K H529 a0) := CG.congr (fun k hk j => av_fld hT ga0 hap wH529 (by decide) (CG_ok 112 (by decide) k hk) (CG_ne 0 (by decide) k hk)) hg_CG
  have g532 : TU (avw K H529 a0) (svw K H529 a0) := TU.congr (fun k hk j => av_fld hT ga0 hap wH529 (by decide) (TU_ok 112 (by decide) k hk) (TU_ne 0 (by decide) k hk)) (fun k hk => sv_fld hap wH529 (by decide) (TU_slt k hk) (TU_sne 0 (by decide) k hk)) hg_TU
  have g533 : WD (avw K H529 a0) := WD.congr (fun k hk j => av_fld hT ga0 hap wH529 (by decide) (WD_ok 112 (by decide) k hk) (WD_ne 0 (by decide) k hk)) hg_WD
  have g534 : IM (avw K H529 a0) := IM.congr (fun k hk j => av_fld hT ga0 hap wH529 (by decide) (IM_ok 112 (by decide) k hk) (IM_ne 0 (by decide) k hk)) hg_IM
  have f535 : TXG K a0 G H529 s.heap := ⟨fun k h0 h1 => (Wr.neR wH529 (Or.inr (hap k 0 h1 (by decide) (by omega)))).trans (f0_tf.1 k h0 h1), fun q t hq h1 => (wH529.off (G_ne hq ga0 (by first | omega | (intro z; simp only [List.mem_cons, List.not_mem_nil, or_false] at z <;> omega)))).trans (f0_tf.2 q t hq h1)⟩
  have m536 := eslq.trans (Wr.neR wH529 (Or.inr (x_apart hKT hts inX10 tyX10 tyX10_ok nmX10 rfl 4 0 (by decide) (by decide) (by decide)))).symm
  have m537 := ebs.trans (Wr.neI wH529 (Or.inr (x_apart hKT hts inX10 tyX10 tyX10_ok nmX10 rfl 1 0 (by decide) (by decide) (by decide)))).symm
  have m538 := esz.trans (Wr.neI wH529 (Or.inl (G_ne gslq ga0 (by decide)))).symm
  have m539 := Wr.I wH529
  have vr540 : vwR K H529 a0 x4.toNatClampNeg = (vwR K s.heap a0 x4.toNatClampNeg) := (vr_told hap hT ga0 wH529).trans vr_0
  have vo541 : ∀ b2 : Nat, b2 ≠ x4.toNatClampNeg → EqV (vwR K H529 a0 b2) (vwR K s.heap a0 b2) := fun b2 hb => by rw [vr_told hap hT ga0 wH529]; exact vo_0 b2 hb
  refine lv_aload_n hx hb dX10_tells_5 rfl (lv_at hl 0 rfl) ?_
  refine lv_iload_n hx hb dX10_tells_6 rfl (lv_at hl 1 rfl) ?_
  refine x_V (As := [.int x1]) (rest := []) C (c_X10_isLaw l K G H529 (x1) hTH529 ga0) yo_X10_isLaw wM_X10_328 ⟨⟨by decide, by decide⟩, by decide, by decide⟩ (x_rv C hTH529 (ci := 10) rfl ga0 rg_112) rfl hl.1 rfl (Nat.le_of_ble_eq_true rfl) dX10_tells_7 hSH529 (AE_sub (fun _ _ => rfl) (by decide) hSH529.1) (fun vH542 H542 locsH542 pH542 zH542 kH542 hSH542 => ?_)
  have hqH542 := pH542.1.symm
  subst hqH542
  rcases pH542.2 with ⟨hvH542, hcH542⟩ | ⟨hvH542, hcH542⟩
  · subst hvH542
    refine W.eq (g2 := F0 m 10 ls [.int 1]) rfl ?_
    refine lv_if_eq (tgt := 42) hx hb dX10_tells_10 (by decide) (fun c543 => ?_) (fun c543 => ?_)
    · have k544 := i_eq c543
      exfalso
      omega
    · have k544 := i_ne c543
      refine lv_aload_n hx hb dX10_tells_13 rfl (lv_at hl 0 rfl) ?_
      refine lv_iload_n hx hb dX10_tells_14 rfl (lv_at hl 2 rfl) ?_
      refine lv_iconst (v := 0) hx hb dX10_tells_15 (by decide) ?_
      refine lv_iconst (v := 2) hx hb dX10_tells_16 (by decide) ?_
      refine x_V (As := [.int x2, .int 0, .int 2]) (rest := []) C (a_X10_isIn_v l K G H529 (x2) (0) (2) hTH529 ga0) yo_X10_isIn wM_X10_177 ⟨⟨by decide, by decide⟩, by decide, by decide⟩ (x_rv C hTH529 (ci := 10) rfl ga0 rg_112) rfl hl.1 rfl (Nat.le_of_ble_eq_true rfl) dX10_tells_17 hSH542 (AE_sub (fun _ _ => rfl) (by decide) hSH542.1) (fun vH545 H545 locsH545 pH545 zH545 kH545 hSH545 => ?_)
      obtain ⟨x546, hvH545, bx546, hrH545, hTH545⟩ := pH545
      subst hvH545
      have mf547 : MF K s.heap H545 a0 [0] := MF.eff (x_lt hTH529 kH545 ga0 (by decide)) mf530
      have g548 : CG (avw K H545 a0) := CG.congr (fun k hk j => av_eff hTH529 kH545 ga0 (by decide) (CG_eff [] (by decide) k hk)) g531
      have g549 : TU (avw K H545 a0) (svw K H545 a0) := TU.congr (fun k hk j => av_eff hTH529 kH545 ga0 (by decide) (TU_eff [] (by decide) k hk)) (fun k hk => sv_eff hTH529 kH545 ga0 (by decide)) g532
      have g550 : WD (avw K H545 a0) := WD.congr (fun k hk j => av_eff hTH529 kH545 ga0 (by decide) (WD_eff [] (by decide) k hk)) g533
      have g551 : IM (avw K H545 a0) := IM.congr (fun k hk j => av_eff hTH529 kH545 ga0 (by decide) (IM_eff [] (by decide) k hk)) g534
      have f552 : TXG K a0 G H545 s.heap := ⟨fun k h0 h1 => (fR_kept (x_lt hTH529 kH545 ga0 (by decide))).trans (f535.1 k h0 h1), fun q t hq h1 => (x_lt hTH529 kH545 hq (by first | omega | (intro z; simp only [List.mem_cons, List.not_mem_nil, or_false] at z <;> omega))).trans (f535.2 q t hq h1)⟩
      have m553 := (m536).trans (fR_kept (x_lt hTH529 kH545 ga0 (by decide))).symm
      have m554 := (m537).trans (fI_kept (x_lt hTH529 kH545 ga0 (by decide))).symm
      have m555 := (m538).trans (fI_kept (x_lt hTH529 kH545 gslq (by decide))).symm
      have m556 := (fI_kept (x_lt hTH529 kH545 ga0 (by decide))).trans m539
      have vr557 : vwR K H545 a0 x4.toNatClampNeg = (vwR K s.heap a0 x4.toNatClampNeg) := (vr_frr hTH529 ga0 (fun q t hq h1 h2 => x_lt hTH529 kH545 hq (by first | omega | (intro z; simp only [List.mem_cons, List.not_mem_nil, or_false] at z <;> omega)))).trans vr540
      have vo558 : ∀ b2 : Nat, b2 ≠ x4.toNatClampNeg → EqV (vwR K H545 a0 b2) (vwR K s.heap a0 b2) := fun b2 hb => by rw [vr_frr hTH529 ga0 (fun q t hq h1 h2 => x_lt hTH529 kH545 hq (by first | omega | (intro z; simp only [List.mem_cons, List.not_mem_nil, or_false] at z <;> omega)))]; exact vo541 b2 hb
      refine W.eq (g2 := F0 m 20 ls [.int x546]) rfl ?_
      refine lv_if_eq (tgt := 42) hx hb dX10_tells_20 (by decide) (fun c559 => ?_) (fun c559 => ?_)
      · have k560 := i_eq c559
        refine lv_ldcw (v := (-100000)) hx hb hown (hts _ wK_X10_334) dX10_tells_42 ?_
        exact x_iret C hQ dX10_tells_45 hSH545 (by decide) (by decide) (⟨(-100000), rfl, m553, g548, g549, g550, g551, mf547, (teV_no (by rw [v00]; omega) n_m100000), hTH545⟩)
      · have k560 := i_ne c559
        refine lv_aload_n hx hb dX10_tells_23 rfl (lv_at hl 0 rfl) ?_
        refine lv_iload_n hx hb dX10_tells_24 rfl (lv_at hl 3 rfl) ?_
        refine x_V (As := [.int x3]) (rest := []) C (c_X10_isTone l K G H545 (x3) hTH545 ga0) yo_X10_isTone wM_X10_331 ⟨⟨by decide, by decide⟩, by decide, by decide⟩ (x_rv C hTH545 (ci := 10) rfl ga0 rg_112) rfl hl.1 rfl (Nat.le_of_ble_eq_true rfl) dX10_tells_25 hSH545 (AE_sub (fun _ _ => rfl) (by decide) hSH545.1) (fun vH561 H561 locsH561 pH561 zH561 kH561 hSH561 => ?_)
        have hqH561 := pH561.1.symm
        subst hqH561
        rcases pH561.2 with ⟨hvH561, hcH561⟩ | ⟨hvH561, hcH561⟩
        · subst hvH561
          refine W.eq (g2 := F0 m 28 ls [.int 1]) rfl ?_
          refine lv_if_eq (tgt := 42) hx hb dX10_tells_28 (by decide) (fun c562 => ?_) (fun c562 => ?_)
          · have k563 := i_eq c562
            exfalso
            omega
          · have k563 := i_ne c562
            refine lv_aload_n hx hb dX10_tells_31 rfl (lv_at hl 0 rfl) ?_
            refine lv_iload hx hb dX10_tells_32 (lv_at hl 4 rfl) ?_
            refine lv_iload hx hb dX10_tells_34 (lv_at hl 5 rfl) ?_
            refine x_V (As := [.int x4, .int x5]) (rest := []) C (a_X10_isSlice_v l K G H545 (x4) (x5) (bs) (sz) hTH545 ga0 (by omega) gslq m553 m554 m555 (by omega)) yo_X10_isSlice wM_X10_181 ⟨⟨by decide, by decide⟩, by decide, by decide⟩ (x_rv C hTH545 (ci := 10) rfl ga0 rg_112) rfl hl.1 rfl (Nat.le_of_ble_eq_true rfl) dX10_tells_36 hSH561 (AE_sub (fun _ _ => rfl) (by decide) hSH561.1) (fun vH564 H564 locsH564 pH564 zH564 kH564 hSH564 => ?_)
            obtain ⟨x565, hvH564, bx565, hrH564, hTH564⟩ := pH564
            subst hvH564
            have mf566 : MF K s.heap H564 a0 [0] := MF.eff (x_lt hTH545 kH564 ga0 (by decide)) mf547
            have g567 : CG (avw K H564 a0) := CG.congr (fun k hk j => av_eff hTH545 kH564 ga0 (by decide) (CG_eff [] (by decide) k hk)) g548
            have g568 : TU (avw K H564 a0) (svw K H564 a0) := TU.congr (fun k hk j => av_eff hTH545 kH564 ga0 (by decide) (TU_eff [] (by decide) k hk)) (fun k hk => sv_eff hTH545 kH564 ga0 (by decide)) g549
            have g569 : WD (avw K H564 a0) := WD.congr (fun k hk j => av_eff hTH545 kH564 ga0 (by decide) (WD_eff [] (by decide) k hk)) g550
            have g570 : IM (avw K H564 a0) := IM.congr (fun k hk j => av_eff hTH545 kH564 ga0 (by decide) (IM_eff [] (by decide) k hk)) g551
            have f571 : TXG K a0 G H564 s.heap := ⟨fun k h0 h1 => (fR_kept (x_lt hTH545 kH564 ga0 (by decide))).trans (f552.1 k h0 h1), fun q t hq h1 => (x_lt hTH545 kH564 hq (by first | omega | (intro z; simp only [List.mem_cons, List.not_mem_nil, or_false] at z <;> omega))).trans (f552.2 q t hq h1)⟩
            have m572 := (m553).trans (fR_kept (x_lt hTH545 kH564 ga0 (by decide))).symm
            have m573 := (m554).trans (fI_kept (x_lt hTH545 kH564 ga0 (by decide))).symm
            have m574 := (m555).trans (fI_kept (x_lt hTH545 kH564 gslq (by decide))).symm
            have m575 := (fI_kept (x_lt hTH545 kH564 ga0 (by decide))).trans m556
            have vr576 : vwR K H564 a0 x4.toNatClampNeg = (vwR K s.heap a0 x4.toNatClampNeg) := (vr_frr hTH545 ga0 (fun q t hq h1 h2 => x_lt hTH545 kH564 hq (by first | omega | (intro z; simp only [List.mem_cons, List.not_mem_nil, or_false] at z <;> omega)))).trans vr557
            have vo577 : ∀ b2 : Nat, b2 ≠ x4.toNatClampNeg → EqV (vwR K H564 a0 b2) (vwR K s.heap a0 b2) := fun b2 hb => by rw [vr_frr hTH545 ga0 (fun q t hq h1 h2 => x_lt hTH545 kH564 hq (by first | omega | (intro z; simp only [List.mem_cons, List.not_mem_nil, or_false] at z <;> omega)))]; exact vo558 b2 hb
            refine W.eq (g2 := F0 m 39 ls [.int x565]) rfl ?_
            refine lv_if_ne (tgt := 46) hx hb dX10_tells_39 (by decide) (fun c578 => ?_) (fun c578 => ?_)
            · have k579 := i_ne c578
              refine lv_aload_n hx hb dX10_tells_46 rfl (lv_at hl 0 rfl) ?_
              refine lv_iload hx hb dX10_tells_47 (lv_at hl 4 rfl) ?_
              refine lv_iload hx hb dX10_tells_49 (lv_at hl 5 rfl) ?_
              obtain ⟨q580, eq580⟩ : ∃ z : Nat, z = fR H564 a0 (K.1.2 10 43) := ⟨_, rfl⟩
              have gq580 := ty_fr (q := q580) (k := 43) (u := 139) eq580 hTH564 ga0 rg_112 rfl
              obtain ⟨q581, eq581⟩ : ∃ z : Nat, z = fR H564 a0 (K.1.2 10 5) := ⟨_, rfl⟩
              have gq581 := ty_fr (q := q581) (k := 5) (u := 114) eq581 hTH564 ga0 rg_112 rfl
              obtain ⟨q582, eq582⟩ : ∃ z : Nat, z = fR H564 a0 (K.1.2 10 6) := ⟨_, rfl⟩
              have gq582 := ty_fr (q := q582) (k := 6) (u := 115) eq582 hTH564 ga0 rg_112 rfl
              obtain ⟨q583, eq583⟩ : ∃ z : Nat, z = fR H564 a0 (K.1.2 10 7) := ⟨_, rfl⟩
              have gq583 := ty_fr (q := q583) (k := 7) (u := 116) eq583 hTH564 ga0 rg_112 rfl
              obtain ⟨q584, eq584⟩ : ∃ z : Nat, z = fR H564 a0 (K.1.2 10 8) := ⟨_, rfl⟩
              have gq584 := ty_fr (q := q584) (k := 8) (u := 117) eq584 hTH564 ga0 rg_112 rfl
              refine x_V (As := [.int x4, .int x5]) (rest := []) C (a_X10_asksSlice_v l K G H564 (x4) (x5) (sz) hTH564 ga0 (by omega) (by omega) gq580 eq580 gslq m572 gq581 eq581 gq582 eq582 gq583 eq583 gq584 eq584 m574) yo_X10_asksSlice wM_X10_316 ⟨⟨by decide, by decide⟩, by decide, by decide⟩ (x_rv C hTH564 (ci := 10) rfl ga0 rg_112) rfl hl.1 rfl (Nat.le_of_ble_eq_true rfl) dX10_tells_51 hSH564 (AE_sub (fun _ _ => rfl) (by decide) hSH564.1) (fun vH585 H585 locsH585 pH585 zH585 kH585 hSH585 => ?_)
              obtain ⟨hvH585, m586, hTH585⟩ := pH585
              subst hvH585
              have mf587 : MF K s.heap H585 a0 [0] := MF.eff (x_lt hTH564 kH585 ga0 (by decide)) mf566
              have g588 : CG (avw K H585 a0) := CG.congr (fun k hk j => av_eff hTH564 kH585 ga0 (by decide) (CG_eff [139] (by decide) k hk)) g567
              have g589 : TU (avw K H585 a0) (svw K H585 a0) := TU.congr (fun k hk j => av_eff hTH564 kH585 ga0 (by decide) (TU_eff [139] (by decide) k hk)) (fun k hk => sv_eff hTH564 kH585 ga0 (by decide)) g568
              have g590 : WD (avw K H585 a0) := WD.congr (fun k hk j => av_eff hTH564 kH585 ga0 (by decide) (WD_eff [139] (by decide) k hk)) g569
              have g591 : IM (avw K H585 a0) := IM.congr (fun k hk j => av_eff hTH564 kH585 ga0 (by decide) (IM_eff [139] (by decide) k hk)) g570
              have f592 : TXG K a0 G H585 s.heap := ⟨fun k h0 h1 => (fR_kept (x_lt hTH564 kH585 ga0 (by decide))).trans (f571.1 k h0 h1), fun q t hq h1 => (x_lt hTH564 kH585 hq (by first | omega | (intro z; simp only [List.mem_cons, List.not_mem_nil, or_false] at z <;> omega))).trans (f571.2 q t hq h1)⟩
              have m593 := (m572).trans (fR_kept (x_lt hTH564 kH585 ga0 (by decide))).symm
              have m594 := (m573).trans (fI_kept (x_lt hTH564 kH585 ga0 (by decide))).symm
              have m595 := (m574).trans (fI_kept (x_lt hTH564 kH585 gslq (by decide))).symm
              have m596 := (fI_kept (x_lt hTH564 kH585 ga0 (by decide))).trans m575
              have m597 := (eq580).trans (fR_kept (x_lt hTH564 kH585 ga0 (by decide))).symm
              have m598 := (eq581).trans (fR_kept (x_lt hTH564 kH585 ga0 (by decide))).symm
              have m599 := (eq582).trans (fR_kept (x_lt hTH564 kH585 ga0 (by decide))).symm
              have m600 := (eq583).trans (fR_kept (x_lt hTH564 kH585 ga0 (by decide))).symm
              have m601 := (eq584).trans (fR_kept (x_lt hTH564 kH585 ga0 (by decide))).symm
              have se602 : mkE 1 (fun j => fI H585 q580 j) = (seE ((vwR K s.heap a0 x4.toNatClampNeg) 0 0) x5.toInt ((vwR K s.heap a0 x4.toNatClampNeg) 1 x5.toNatClampNeg) ((vwR K s.heap a0 x4.toNatClampNeg) 2 x5.toNatClampNeg) ((vwR K s.heap a0 x4.toNatClampNeg) 3 x5.toNatClampNeg) ((vwR K s.heap a0 x4.toNatClampNeg) 4 x5.toNatClampNeg)) := by
                have z := m586
                rw [← v00, show (fI H564 q581 (16 * x4.toNatClampNeg + x5.toNatClampNeg)).toInt = vwR K s.heap a0 x4.toNatClampNeg 1 x5.toNatClampNeg from by rw [← vr576, vwR_a (k := 1) (by decide)]; show _ = (fI H564 (fR H564 a0 (K.1.2 10 5)) (16 * x4.toNatClampNeg + x5.toNatClampNeg)).toInt; rw [← eq581], show (fI H564 q582 (16 * x4.toNatClampNeg + x5.toNatClampNeg)).toInt = vwR K s.heap a0 x4.toNatClampNeg 2 x5.toNatClampNeg from by rw [← vr576, vwR_a (k := 2) (by decide)]; show _ = (fI H564 (fR H564 a0 (K.1.2 10 6)) (16 * x4.toNatClampNeg + x5.toNatClampNeg)).toInt; rw [← eq582], show (fI H564 q583 (16 * x4.toNatClampNeg + x5.toNatClampNeg)).toInt = vwR K s.heap a0 x4.toNatClampNeg 3 x5.toNatClampNeg from by rw [← vr576, vwR_a (k := 3) (by decide)]; show _ = (fI H564 (fR H564 a0 (K.1.2 10 7)) (16 * x4.toNatClampNeg + x5.toNatClampNeg)).toInt; rw [← eq583], show (fI H564 q584 (16 * x4.toNatClampNeg + x5.toNatClampNeg)).toInt = vwR K s.heap a0 x4.toNatClampNeg 4 x5.toNatClampNeg from by rw [← vr576, vwR_a (k := 4) (by decide)]; show _ = (fI H564 (fR H564 a0 (K.1.2 10 8)) (16 * x4.toNatClampNeg + x5.toNatClampNeg)).toInt; rw [← eq584]] at z
                exact se_all z
              have vr603 : vwR K H585 a0 x4.toNatClampNeg = (vwR K s.heap a0 x4.toNatClampNeg) := (vr_frr hTH564 ga0 (fun q t hq h1 h2 => x_lt hTH564 kH585 hq (by first | omega | (intro z; simp only [List.mem_cons, List.not_mem_nil, or_false] at z <;> omega)))).trans vr576
              have vo604 : ∀ b2 : Nat, b2 ≠ x4.toNatClampNeg → EqV (vwR K H585 a0 b2) (vwR K s.heap a0 b2) := fun b2 hb => by rw [vr_frr hTH564 ga0 (fun q t hq h1 h2 => x_lt hTH564 kH585 hq (by first | omega | (intro z; simp only [List.mem_cons, List.not_mem_nil, or_false] at z <;> omega)))]; exact vo577 b2 hb
              refine W.eq (g2 := F0 m 54 ls []) rfl ?_
              refine lv_aload_n hx hb dX10_tells_54 rfl (lv_at hl 0 rfl) ?_
              refine lv_iload_n hx hb dX10_tells_55 rfl (lv_at hl 1 rfl) ?_
              refine lv_iload_n hx hb dX10_tells_56 rfl (lv_at hl 2 rfl) ?_
              refine lv_iload_n hx hb dX10_tells_57 rfl (lv_at hl 3 rfl) ?_
              obtain ⟨q605, eq605⟩ : ∃ z : Nat, z = fR H585 a0 (K.1.2 10 24) := ⟨_, rfl⟩
              have gq605 := ty_fr (q := q605) (k := 24) (u := 128) eq605 hTH585 ga0 rg_112 rfl
              obtain ⟨q606, eq606⟩ : ∃ z : Nat, z = fR H585 a0 (K.1.2 10 32) := ⟨_, rfl⟩
              have gq606 := ty_fr (q := q606) (k := 32) (u := 136) eq606 hTH585 ga0 rg_112 rfl
              obtain ⟨q607, eq607⟩ : ∃ z : Nat, z = fR H585 a0 (K.1.2 10 33) := ⟨_, rfl⟩
              have gq607 := ty_fr (q := q607) (k := 33) (u := 137) eq607 hTH585 ga0 rg_112 rfl
              obtain ⟨q608, eq608⟩ : ∃ z : Nat, z = fR H585 a0 (K.1.2 10 44) := ⟨_, rfl⟩
              have gq608 := ty_fr (q := q608) (k := 44) (u := 140) eq608 hTH585 ga0 rg_112 rfl
              obtain ⟨q609, eq609⟩ : ∃ z : Nat, z = fR H585 a0 (K.1.2 10 30) := ⟨_, rfl⟩
              have gq609 := ty_fr (q := q609) (k := 30) (u := 134) eq609 hTH585 ga0 rg_112 rfl
              obtain ⟨q610, eq610⟩ : ∃ z : Nat, z = fR H585 a0 (K.1.2 10 31) := ⟨_, rfl⟩
              have gq610 := ty_fr (q := q610) (k := 31) (u := 135) eq610 hTH585 ga0 rg_112 rfl
              obtain ⟨q611, eq611⟩ : ∃ z : Nat, z = fR H585 a0 (K.1.2 10 29) := ⟨_, rfl⟩
              have gq611 := ty_fr (q := q611) (k := 29) (u := 133) eq611 hTH585 ga0 rg_112 rfl
              obtain ⟨q612, eq612⟩ : ∃ z : Nat, z = fR H585 a0 (K.1.2 10 25) := ⟨_, rfl⟩
              have gq612 := ty_fr (q := q612) (k := 25) (u := 129) eq612 hTH585 ga0 rg_112 rfl
              obtain ⟨q613, eq613⟩ : ∃ z : Nat, z = fR H585 a0 (K.1.2 10 26) := ⟨_, rfl⟩
              have gq613 := ty_fr (q := q613) (k := 26) (u := 130) eq613 hTH585 ga0 rg_112 rfl
              obtain ⟨x614, ex614⟩ : ∃ z : Int32, z = fI H585 q605 (x1 : Int32).toNatClampNeg := ⟨_, rfl⟩
              have bx614 := ty_ai (x := x614) ex614 hTH585 gq605 rg_128 (by omega)
              refine x_V (As := [.int x1, .int x2, .int x3]) (rest := []) C (a_X10_tellsBy_v l K G H585 (x1) (x2) (x3) (x614) ((fun l => fsE l (seE ((vwR K s.heap a0 x4.toNatClampNeg) 0 0) x5.toInt ((vwR K s.heap a0 x4.toNatClampNeg) 1 x5.toNatClampNeg) ((vwR K s.heap a0 x4.toNatClampNeg) 2 x5.toNatClampNeg) ((vwR K s.heap a0 x4.toNatClampNeg) 3 x5.toNatClampNeg) ((vwR K s.heap a0 x4.toNatClampNeg) 4 x5.toNatClampNeg)))) ((fun l => fwE l (seE ((vwR K s.heap a0 x4.toNatClampNeg) 0 0) x5.toInt ((vwR K s.heap a0 x4.toNatClampNeg) 1 x5.toNatClampNeg) ((vwR K s.heap a0 x4.toNatClampNeg) 2 x5.toNatClampNeg) ((vwR K s.heap a0 x4.toNatClampNeg) 3 x5.toNatClampNeg) ((vwR K s.heap a0 x4.toNatClampNeg) 4 x5.toNatClampNeg)))) hTH585 ga0 (by omega) gq605 eq605 gq606 eq606 gq607 eq607 gq608 eq608 gq580 m597 gq609 eq609 gq610 eq610 gq611 eq611 gq612 eq612 gq613 eq613 ex614 g588 (by rw [ex614, eq605, eq606, eq607, eq611, eq609]; exact fun l h1 h2 k => ((TXR.frr hT ga0 f592 hy0).1 (by decide) l h1 h2 _ k).trans (congrArg (fsE l) se602)) (by rw [ex614, eq605, eq606, eq607, eq609, eq610]; exact fun l h1 h2 hn k => ((TXR.frr hT ga0 f592 hy0).2 l h1 h2 hn _ k).trans (congrArg (fwE l) se602))) yo_X10_tellsBy wM_X10_319 ⟨⟨by decide, by decide⟩, by decide, by decide⟩ (x_rv C hTH585 (ci := 10) rfl ga0 rg_112) rfl hl.1 rfl (Nat.le_of_ble_eq_true rfl) dX10_tells_58 hSH585 (AE_sub (fun _ _ => rfl) (by decide) hSH585.1) (fun vH615 H615 locsH615 pH615 zH615 kH615 hSH615 => ?_)
              obtain ⟨x616, hvH615, m617, hTH615⟩ := pH615
              subst hvH615
              have mf618 : MF K s.heap H615 a0 [0] := MF.eff (x_lt hTH585 kH615 ga0 (by decide)) mf587
              have g619 : CG (avw K H615 a0) := CG.congr (fun k hk j => av_eff hTH585 kH615 ga0 (by decide) (CG_eff [140] (by decide) k hk)) g588
              have g620 : TU (avw K H615 a0) (svw K H615 a0) := TU.congr (fun k hk j => av_eff hTH585 kH615 ga0 (by decide) (TU_eff [140] (by decide) k hk)) (fun k hk => sv_eff hTH585 kH615 ga0 (by decide)) g589
              have g621 : WD (avw K H615 a0) := WD.congr (fun k hk j => av_eff hTH585 kH615 ga0 (by decide) (WD_eff [140] (by decide) k hk)) g590
              have g622 : IM (avw K H615 a0) := IM.congr (fun k hk j => av_eff hTH585 kH615 ga0 (by decide) (IM_eff [140] (by decide) k hk)) g591
              have f623 : TXG K a0 G H615 s.heap := ⟨fun k h0 h1 => (fR_kept (x_lt hTH585 kH615 ga0 (by decide))).trans (f592.1 k h0 h1), fun q t hq h1 => (x_lt hTH585 kH615 hq (by first | omega | (intro z; simp only [List.mem_cons, List.not_mem_nil, or_false] at z <;> omega))).trans (f592.2 q t hq h1)⟩
              have m624 := (m593).trans (fR_kept (x_lt hTH585 kH615 ga0 (by decide))).symm
              have m625 := (m594).trans (fI_kept (x_lt hTH585 kH615 ga0 (by decide))).symm
              have m626 := (m595).trans (fI_kept (x_lt hTH585 kH615 gslq (by decide))).symm
              have m627 := (fI_kept (x_lt hTH585 kH615 ga0 (by decide))).trans m596
              have m628 := (m597).trans (fR_kept (x_lt hTH585 kH615 ga0 (by decide))).symm
              have m629 := (m598).trans (fR_kept (x_lt hTH585 kH615 ga0 (by decide))).symm
              have m630 := (m599).trans (fR_kept (x_lt hTH585 kH615 ga0 (by decide))).symm
              have m631 := (m600).trans (fR_kept (x_lt hTH585 kH615 ga0 (by decide))).symm
              have m632 := (m601).trans (fR_kept (x_lt hTH585 kH615 ga0 (by decide))).symm
              have m633 := (eq605).trans (fR_kept (x_lt hTH585 kH615 ga0 (by decide))).symm
              have m634 := (eq606).trans (fR_kept (x_lt hTH585 kH615 ga0 (by decide))).symm
              have m635 := (eq607).trans (fR_kept (x_lt hTH585 kH615 ga0 (by decide))).symm
              have m636 := (eq608).trans (fR_kept (x_lt hTH585 kH615 ga0 (by decide))).symm
              have m637 := (eq609).trans (fR_kept (x_lt hTH585 kH615 ga0 (by decide))).symm
              have m638 := (eq610).trans (fR_kept (x_lt hTH585 kH615 ga0 (by decide))).symm
              have m639 := (eq611).trans (fR_kept (x_lt hTH585 kH615 ga0 (by decide))).symm
              have m640 := (eq612).trans (fR_kept (x_lt hTH585 kH615 ga0 (by decide))).symm
              have m641 := (eq613).trans (fR_kept (x_lt hTH585 kH615 ga0 (by decide))).symm
              have m642 := (ex614).trans (fI_kept (x_lt hTH585 kH615 gq605 (by decide))).symm
              have td643 : x616.toInt = tlR K s.heap a0 x1.toNatClampNeg fsE fwE x2.toInt x3.toInt (seE ((vwR K s.heap a0 x4.toNatClampNeg) 0 0) x5.toInt ((vwR K s.heap a0 x4.toNatClampNeg) 1 x5.toNatClampNeg) ((vwR K s.heap a0 x4.toNatClampNeg) 2 x5.toNatClampNeg) ((vwR K s.heap a0 x4.toNatClampNeg) 3 x5.toNatClampNeg) ((vwR K s.heap a0 x4.toNatClampNeg) 4 x5.toNatClampNeg)) := by
                rw [m617, ex614, eq605, eq612, eq613, eq609, eq610, ← tlR_frr hT ga0 f592]
                rfl
              refine W.eq (g2 := F0 m 61 ls [.int x616]) rfl ?_
              exact x_iret C hQ dX10_tells_61 hSH615 (by decide) (by decide) (⟨x616, rfl, m624, g619, g620, g621, g622, mf618, (teV_at (by rw [v00]; omega) td643), hTH615⟩)
            · have k579 := i_eq c578
              refine lv_ldcw (v := (-100000)) hx hb hown (hts _ wK_X10_334) dX10_tells_42 ?_
              exact x_iret C hQ dX10_tells_45 hSH564 (by decide) (by decide) (⟨(-100000), rfl, m572, g567, g568, g569, g570, mf566, (teV_no (by rw [v00]; omega) n_m100000), hTH564⟩)
        · subst hvH561
          refine W.eq (g2 := F0 m 28 ls [.int 0]) rfl ?_
          refine lv_if_eq (tgt := 42) hx hb dX10_tells_28 (by decide) (fun c644 => ?_) (fun c644 => ?_)
          · have k645 := i_eq c644
            refine lv_ldcw (v := (-100000)) hx hb hown (hts _ wK_X10_334) dX10_tells_42 ?_
            exact x_iret C hQ dX10_tells_45 hSH561 (by decide) (by decide) (⟨(-100000), rfl, m553, g548, g549, g550, g551, mf547, (teV_no (by rw [v00]; omega) n_m100000), hTH545⟩)
          · have k645 := i_ne c644
            exfalso
            omega
  · subst hvH542
    refine W.eq (g2 := F0 m 10 ls [.int 0]) rfl ?_
    exfalso
    omega

set_option maxHeartbeats 4000000 in
set_option maxRecDepth 100000 in
theorem a_X10_tells_n (l : Launch) (K : KE) (G : Nat → Option Nat) (H : Heap) {a0 : Nat} (x1 : Int32) (x2 : Int32) (x3 : Int32) (x4 : Int32) (x5 : Int32) (bs : Int32) (hT : TY K G H) (ga0 : G a0 = some 112) (ebs : bs = fI H a0 (K.1.2 10 1)) (hg_CG : CG (avw K H a0)) (hg_TU : TU (avw K H a0) (svw K H a0)) (hg_WD : WD (avw K H a0)) (hg_IM : IM (avw K H a0)) (hp0 : x4.toInt < 0 ∨ bs.toInt ≤ x4.toInt) : MX l K yX10_tells cX10_tells 6 (some .int) 2 44 0 0 [.ref a0, .int x1, .int x2, .int x3, .int x4, .int x5] H (AE G [112] H.size) (fun v H1 => ∃ (r : Int32), v = some (.int r) ∧ ((-100000) ≤ r.toInt ∧ r.toInt ≤ (-100000)) ∧ bs = fI H1 a0 (K.1.2 10 1) ∧ (CG (avw K H1 a0)) ∧ (TU (avw K H1 a0) (svw K H1 a0)) ∧ (WD (avw K H1 a0)) ∧ (IM (avw K H1 a0)) ∧ MF K H H1 a0 [0] ∧ TY K G H1) := by
  refine MX.of (by decide +kernel) (Nat.le_of_ble_eq_true rfl) ?_
  intro p e s m below meth c ls Q C hH hl hQ
  subst hH
  have C : CX p K s m _ meth c RX10 cX10_tells 6 (some .int) "tells" := C
  obtain ⟨hx, hb, hml, hown, hts, hKT, hr, hlocks, hnm⟩ := id C
  have hl : lv_has ls 6 [(0, .ref a0), (1, .int x1), (2, .int x2), (3, .int x3), (4, .int x4), (5, .int x5)] := hl
  have hS : va_S (AE G [112] s.heap.size) s.heap s.heap [] := va_S.rf
  have n_m100000 : ((-100000) : Int32).toInt = -100000 := rfl
  have n_0 : (0 : Int32).toInt = 0 := rfl
  have n_1 : (1 : Int32).toInt = 1 := rfl
  have n_2 : (2 : Int32).toInt = 2 := rfl
  have bbs := ty_fi (x := bs) (k := 1) ebs hT ga0 rg_112 rfl
  have hap : ∀ x y, x < 74 → y < 74 → x ≠ y → K.1.2 10 x ≠ K.1.2 10 y := x_apart hKT hts inX10 tyX10 tyX10_ok nmX10 rfl
  have mf0 : MF K s.heap s.heap a0 [0] := fun _ _ _ => rfl
  refine lv_aload_n hx hb dX10_tells_0 rfl (lv_at hl 0 rfl) ?_
  refine lv_iconst (v := 0) hx hb dX10_tells_1 (by decide) ?_
  refine x_put C hT hS (ci := 10) (k := 0) (v := .int 0) (ty0 := tyX10) rfl inX10 tyX10_ok nmX10 (by decide) rfl wF_X10_167 ga0 rg_112 rfl rfl (okI (by have := i_rng (0 : Int32); omega) (by have := i_rng (0 : Int32); omega)) rfl rfl (AE_in ga0 (by decide)) dX10_tells_2 (fun H261 locsH261 hTH261 hSH261 wH261 => ?_)
  have mf262 : MF K s.heap H261 a0 [0] := MF.fld hap wH261 (by decide) (by decide) mf0
  have g263 : CG (avw K H261 a0) := CG.congr (fun k hk j => av_fld hT ga0 hap wH261 (by decide) (CG_ok 112 (by decide) k hk) (CG_ne 0 (by decide) k hk)) hg_CG
  have g264 : TU (avw K H261 a0) (svw K H261 a0) := TU.congr (fun k hk j => av_fld hT ga0 hap wH261 (by decide) (TU_ok 112 (by decide) k hk) (TU_ne 0 (by decide) k hk)) (fun k hk => sv_fld hap wH261 (by decide) (TU_slt k hk) (TU_sne 0 (by decide) k hk)) hg_TU
  have g265 : WD (avw K H261 a0) := WD.congr (fun k hk j => av_fld hT ga0 hap wH261 (by decide) (WD_ok 112 (by decide) k hk) (WD_ne 0 (by decide) k hk)) hg_WD
  have g266 : IM (avw K H261 a0) := IM.congr (fun k hk j => av_fld hT ga0 hap wH261 (by decide) (IM_ok 112 (by decide) k hk) (IM_ne 0 (by decide) k hk)) hg_IM
  have m267 := ebs.trans (Wr.neI wH261 (Or.inr (x_apart hKT hts inX10 tyX10 tyX10_ok nmX10 rfl 1 0 (by decide) (by decide) (by decide)))).symm
  have m268 := Wr.I wH261
  refine lv_aload_n hx hb dX10_tells_5 rfl (lv_at hl 0 rfl) ?_
  refine lv_iload_n hx hb dX10_tells_6 rfl (lv_at hl 1 rfl) ?_
  refine x_V (As := [.int x1]) (rest := []) C (c_X10_isLaw l K G H261 (x1) hTH261 ga0) yo_X10_isLaw wM_X10_328 ⟨⟨by decide, by decide⟩, by decide, by decide⟩ (x_rv C hTH261 (ci := 10) rfl ga0 rg_112) rfl hl.1 rfl (Nat.le_of_ble_eq_true rfl) dX10_tells_7 hSH261 (AE_sub (fun _ _ => rfl) (by decide) hSH261.1) (fun vH269 H269 locsH269 pH269 zH269 kH269 hSH269 => ?_)
  have hqH269 := pH269.1.symm
  subst hqH269
  rcases pH269.2 with ⟨hvH269, hcH269⟩ | ⟨hvH269, hcH269⟩
  · subst hvH269
    refine W.eq (g2 := F0 m 10 ls [.int 1]) rfl ?_
    refine lv_if_eq (tgt := 42) hx hb dX10_tells_10 (by decide) (fun c270 => ?_) (fun c270 => ?_)
    · have k271 := i_eq c270
      exfalso
      omega
    · have k271 := i_ne c270
      refine lv_aload_n hx hb dX10_tells_13 rfl (lv_at hl 0 rfl) ?_
      refine lv_iload_n hx hb dX10_tells_14 rfl (lv_at hl 2 rfl) ?_
      refine lv_iconst (v := 0) hx hb dX10_tells_15 (by decide) ?_
      refine lv_iconst (v := 2) hx hb dX10_tells_16 (by decide) ?_
      refine x_V (As := [.int x2, .int 0, .int 2]) (rest := []) C (a_X10_isIn_v l K G H261 (x2) (0) (2) hTH261 ga0) yo_X10_isIn wM_X10_177 ⟨⟨by decide, by decide⟩, by decide, by decide⟩ (x_rv C hTH261 (ci := 10) rfl ga0 rg_112) rfl hl.1 rfl (Nat.le_of_ble_eq_true rfl) dX10_tells_17 hSH269 (AE_sub (fun _ _ => rfl) (by decide) hSH269.1) (fun vH272 H272 locsH272 pH272 zH272 kH272 hSH272 => ?_)
      obtain ⟨x273, hvH272, bx273, hrH272, hTH272⟩ := pH272
      subst hvH272
      have mf274 : MF K s.heap H272 a0 [0] := MF.eff (x_lt hTH261 kH272 ga0 (by decide)) mf262
      have g275 : CG (avw K H272 a0) := CG.congr (fun k hk j => av_eff hTH261 kH272 ga0 (by decide) (CG_eff [] (by decide) k hk)) g263
      have g276 : TU (avw K H272 a0) (svw K H272 a0) := TU.congr (fun k hk j => av_eff hTH261 kH272 ga0 (by decide) (TU_eff [] (by decide) k hk)) (fun k hk => sv_eff hTH261 kH272 ga0 (by decide)) g264
      have g277 : WD (avw K H272 a0) := WD.congr (fun k hk j => av_eff hTH261 kH272 ga0 (by decide) (WD_eff [] (by decide) k hk)) g265
      have g278 : IM (avw K H272 a0) := IM.congr (fun k hk j => av_eff hTH261 kH272 ga0 (by decide) (IM_eff [] (by decide) k hk)) g266
      have m279 := (m267).trans (fI_kept (x_lt hTH261 kH272 ga0 (by decide))).symm
      have m280 := (fI_kept (x_lt hTH261 kH272 ga0 (by decide))).trans m268
      refine W.eq (g2 := F0 m 20 ls [.int x273]) rfl ?_
      refine lv_if_eq (tgt := 42) hx hb dX10_tells_20 (by decide) (fun c281 => ?_) (fun c281 => ?_)
      · have k282 := i_eq c281
        refine lv_ldcw (v := (-100000)) hx hb hown (hts _ wK_X10_334) dX10_tells_42 ?_
        exact x_iret C hQ dX10_tells_45 hSH272 (by decide) (by decide) (⟨(-100000), rfl, by decide, m279, g275, g276, g277, g278, mf274, hTH272⟩)
      · have k282 := i_ne c281
        refine lv_aload_n hx hb dX10_tells_23 rfl (lv_at hl 0 rfl) ?_
        refine lv_iload_n hx hb dX10_tells_24 rfl (lv_at hl 3 rfl) ?_
        refine x_V (As := [.int x3]) (rest := []) C (c_X10_isTone l K G H272 (x3) hTH272 ga0) yo_X10_isTone wM_X10_331 ⟨⟨by decide, by decide⟩, by decide, by decide⟩ (x_rv C hTH272 (ci := 10) rfl ga0 rg_112) rfl hl.1 rfl (Nat.le_of_ble_eq_true rfl) dX10_tells_25 hSH272 (AE_sub (fun _ _ => rfl) (by decide) hSH272.1) (fun vH283 H283 locsH283 pH283 zH283 kH283 hSH283 => ?_)
        have hqH283 := pH283.1.symm
        subst hqH283
        rcases pH283.2 with ⟨hvH283, hcH283⟩ | ⟨hvH283, hcH283⟩
        · subst hvH283
          refine W.eq (g2 := F0 m 28 ls [.int 1]) rfl ?_
          refine lv_if_eq (tgt := 42) hx hb dX10_tells_28 (by decide) (fun c284 => ?_) (fun c284 => ?_)
          · have k285 := i_eq c284
            exfalso
            omega
          · have k285 := i_ne c284
            refine lv_aload_n hx hb dX10_tells_31 rfl (lv_at hl 0 rfl) ?_
            refine lv_iload hx hb dX10_tells_32 (lv_at hl 4 rfl) ?_
            refine lv_iload hx hb dX10_tells_34 (lv_at hl 5 rfl) ?_
            refine x_V (As := [.int x4, .int x5]) (rest := []) C (a_X10_isSlice_n l K G H272 (x4) (x5) (bs) hTH272 ga0 m279 (by omega)) yo_X10_isSlice wM_X10_181 ⟨⟨by decide, by decide⟩, by decide, by decide⟩ (x_rv C hTH272 (ci := 10) rfl ga0 rg_112) rfl hl.1 rfl (Nat.le_of_ble_eq_true rfl) dX10_tells_36 hSH283 (AE_sub (fun _ _ => rfl) (by decide) hSH283.1) (fun vH286 H286 locsH286 pH286 zH286 kH286 hSH286 => ?_)
            obtain ⟨x287, hvH286, bx287, hTH286⟩ := pH286
            subst hvH286
            have mf288 : MF K s.heap H286 a0 [0] := MF.eff (x_lt hTH272 kH286 ga0 (by decide)) mf274
            have g289 : CG (avw K H286 a0) := CG.congr (fun k hk j => av_eff hTH272 kH286 ga0 (by decide) (CG_eff [] (by decide) k hk)) g275
            have g290 : TU (avw K H286 a0) (svw K H286 a0) := TU.congr (fun k hk j => av_eff hTH272 kH286 ga0 (by decide) (TU_eff [] (by decide) k hk)) (fun k hk => sv_eff hTH272 kH286 ga0 (by decide)) g276
            have g291 : WD (avw K H286 a0) := WD.congr (fun k hk j => av_eff hTH272 kH286 ga0 (by decide) (WD_eff [] (by decide) k hk)) g277
            have g292 : IM (avw K H286 a0) := IM.congr (fun k hk j => av_eff hTH272 kH286 ga0 (by decide) (IM_eff [] (by decide) k hk)) g278
            have m293 := (m279).trans (fI_kept (x_lt hTH272 kH286 ga0 (by decide))).symm
            have m294 := (fI_kept (x_lt hTH272 kH286 ga0 (by decide))).trans m280
            refine W.eq (g2 := F0 m 39 ls [.int x287]) rfl ?_
            refine lv_if_ne (tgt := 46) hx hb dX10_tells_39 (by decide) (fun c295 => ?_) (fun c295 => ?_)
            · have k296 := i_ne c295
              exfalso
              omega
            · have k296 := i_eq c295
              refine lv_ldcw (v := (-100000)) hx hb hown (hts _ wK_X10_334) dX10_tells_42 ?_
              exact x_iret C hQ dX10_tells_45 hSH286 (by decide) (by decide) (⟨(-100000), rfl, by decide, m293, g289, g290, g291, g292, mf288, hTH286⟩)
        · subst hvH283
          refine W.eq (g2 := F0 m 28 ls [.int 0]) rfl ?_
          refine lv_if_eq (tgt := 42) hx hb dX10_tells_28 (by decide) (fun c297 => ?_) (fun c297 => ?_)
          · have k298 := i_eq c297
            refine lv_ldcw (v := (-100000)) hx hb hown (hts _ wK_X10_334) dX10_tells_42 ?_
            exact x_iret C hQ dX10_tells_45 hSH283 (by decide) (by decide) (⟨(-100000), rfl, by decide, m279, g275, g276, g277, g278, mf274, hTH272⟩)
          · have k298 := i_ne c297
            exfalso
            omega
  · subst hvH269
    refine W.eq (g2 := F0 m 10 ls [.int 0]) rfl ?_
    refine lv_if_eq (tgt := 42) hx hb dX10_tells_10 (by decide) (fun c299 => ?_) (fun c299 => ?_)
    · have k300 := i_eq c299
      refine lv_ldcw (v := (-100000)) hx hb hown (hts _ wK_X10_334) dX10_tells_42 ?_
      exact x_iret C hQ dX10_tells_45 hSH269 (by decide) (by decide) (⟨(-100000), rfl, by decide, m267, g263, g264, g265, g266, mf262, hTH261⟩)
    · have k300 := i_ne c299
      exfalso
      omega

set_option maxHeartbeats 4000000 in
set_option maxRecDepth 100000 in
theorem a_X10_tells_k (l : Launch) (K : KE) (G : Nat → Option Nat) (H : Heap) {a0 : Nat} (x1 : Int32) (x2 : Int32) (x3 : Int32) (x4 : Int32) (x5 : Int32) (hT : TY K G H) (ga0 : G a0 = some 112) (hg_CG : CG (avw K H a0)) (hg_TU : TU (avw K H a0) (svw K H a0)) (hg_WD : WD (avw K H a0)) (hg_IM : IM (avw K H a0)) (hp0 : x1.toInt < 0 ∨ 1 < x1.toInt) : MX l K yX10_tells cX10_tells 6 (some .int) 1 21 0 0 [.ref a0, .int x1, .int x2, .int x3, .int x4, .int x5] H (AE G [112] H.size) (fun v H1 => ∃ (r : Int32), v = some (.int r) ∧ ((-100000) ≤ r.toInt ∧ r.toInt ≤ (-100000)) ∧ (CG (avw K H1 a0)) ∧ (TU (avw K H1 a0) (svw K H1 a0)) ∧ (WD (avw K H1 a0)) ∧ (IM (avw K H1 a0)) ∧ MF K H H1 a0 [0] ∧ TY K G H1) := by
  refine MX.of (by decide +kernel) (Nat.le_of_ble_eq_true rfl) ?_
  intro p e s m below meth c ls Q C hH hl hQ
  subst hH
  have C : CX p K s m _ meth c RX10 cX10_tells 6 (some .int) "tells" := C
  obtain ⟨hx, hb, hml, hown, hts, hKT, hr, hlocks, hnm⟩ := id C
  have hl : lv_has ls 6 [(0, .ref a0), (1, .int x1), (2, .int x2), (3, .int x3), (4, .int x4), (5, .int x5)] := hl
  have hS : va_S (AE G [112] s.heap.size) s.heap s.heap [] := va_S.rf
  have n_m100000 : ((-100000) : Int32).toInt = -100000 := rfl
  have n_0 : (0 : Int32).toInt = 0 := rfl
  have n_1 : (1 : Int32).toInt = 1 := rfl
  have hap : ∀ x y, x < 74 → y < 74 → x ≠ y → K.1.2 10 x ≠ K.1.2 10 y := x_apart hKT hts inX10 tyX10 tyX10_ok nmX10 rfl
  have mf0 : MF K s.heap s.heap a0 [0] := fun _ _ _ => rfl
  refine lv_aload_n hx hb dX10_tells_0 rfl (lv_at hl 0 rfl) ?_
  refine lv_iconst (v := 0) hx hb dX10_tells_1 (by decide) ?_
  refine x_put C hT hS (ci := 10) (k := 0) (v := .int 0) (ty0 := tyX10) rfl inX10 tyX10_ok nmX10 (by decide) rfl wF_X10_167 ga0 rg_112 rfl rfl (okI (by have := i_rng (0 : Int32); omega) (by have := i_rng (0 : Int32); omega)) rfl rfl (AE_in ga0 (by decide)) dX10_tells_2 (fun H149 locsH149 hTH149 hSH149 wH149 => ?_)
  have mf150 : MF K s.heap H149 a0 [0] := MF.fld hap wH149 (by decide) (by decide) mf0
  have g151 : CG (avw K H149 a0) := CG.congr (fun k hk j => av_fld hT ga0 hap wH149 (by decide) (CG_ok 112 (by decide) k hk) (CG_ne 0 (by decide) k hk)) hg_CG
  have g152 : TU (avw K H149 a0) (svw K H149 a0) := TU.congr (fun k hk j => av_fld hT ga0 hap wH149 (by decide) (TU_ok 112 (by decide) k hk) (TU_ne 0 (by decide) k hk)) (fun k hk => sv_fld hap wH149 (by decide) (TU_slt k hk) (TU_sne 0 (by decide) k hk)) hg_TU
  have g153 : WD (avw K H149 a0) := WD.congr (fun k hk j => av_fld hT ga0 hap wH149 (by decide) (WD_ok 112 (by decide) k hk) (WD_ne 0 (by decide) k hk)) hg_WD
  have g154 : IM (avw K H149 a0) := IM.congr (fun k hk j => av_fld hT ga0 hap wH149 (by decide) (IM_ok 112 (by decide) k hk) (IM_ne 0 (by decide) k hk)) hg_IM
  have m155 := Wr.I wH149
  refine lv_aload_n hx hb dX10_tells_5 rfl (lv_at hl 0 rfl) ?_
  refine lv_iload_n hx hb dX10_tells_6 rfl (lv_at hl 1 rfl) ?_
  refine x_V (As := [.int x1]) (rest := []) C (c_X10_isLaw l K G H149 (x1) hTH149 ga0) yo_X10_isLaw wM_X10_328 ⟨⟨by decide, by decide⟩, by decide, by decide⟩ (x_rv C hTH149 (ci := 10) rfl ga0 rg_112) rfl hl.1 rfl (Nat.le_of_ble_eq_true rfl) dX10_tells_7 hSH149 (AE_sub (fun _ _ => rfl) (by decide) hSH149.1) (fun vH156 H156 locsH156 pH156 zH156 kH156 hSH156 => ?_)
  have hqH156 := pH156.1.symm
  subst hqH156
  rcases pH156.2 with ⟨hvH156, hcH156⟩ | ⟨hvH156, hcH156⟩
  · subst hvH156
    refine W.eq (g2 := F0 m 10 ls [.int 1]) rfl ?_
    refine lv_if_eq (tgt := 42) hx hb dX10_tells_10 (by decide) (fun c157 => ?_) (fun c157 => ?_)
    · have k158 := i_eq c157
      exfalso
      omega
    · have k158 := i_ne c157
      exfalso
      omega
  · subst hvH156
    refine W.eq (g2 := F0 m 10 ls [.int 0]) rfl ?_
    refine lv_if_eq (tgt := 42) hx hb dX10_tells_10 (by decide) (fun c159 => ?_) (fun c159 => ?_)
    · have k160 := i_eq c159
      refine lv_ldcw (v := (-100000)) hx hb hown (hts _ wK_X10_334) dX10_tells_42 ?_
      exact x_iret C hQ dX10_tells_45 hSH156 (by decide) (by decide) (⟨(-100000), rfl, by decide, g151, g152, g153, g154, mf150, hTH149⟩)
    · have k160 := i_ne c159
      exfalso
      omega
