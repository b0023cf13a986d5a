set_option maxHeartbeats 4000000 in
set_option maxRecDepth 100000 in
theorem a_X10_takes_k (l : Launch) (K : KE) (G : Nat → Option Nat) (H : Heap) {a0 : Nat} (x1 : Int32) (x2 : Int32) (x3 : Int32) {kq : Nat} (hT : TY K G H) (ga0 : G a0 = some 112) (gkq : G kq = some 114) (ekq : @Eq Ad kq (fR H a0 (K.1.2 10 5))) (hg_CG : CG (avw K H a0)) (hg_TU : TU (avw K H a0) (svw K H a0)) (hg_WD : WD (avw K H a0)) (hg_IM : IM (avw K H a0)) : MX l K yX10_takes cX10_takes 6 (some .int) 6 145 0 0 [.ref a0, .int x1, .int x2, .int x3] H (AE G [112, 114, 140, 139] H.size) (fun v H1 => ∃ (r : Int32), v = some (.int r) ∧ @Eq Ad kq (fR H1 a0 (K.1.2 10 5)) ∧ (CG (avw K H1 a0)) ∧ (TU (avw K H1 a0) (svw K H1 a0)) ∧ (WD (avw K H1 a0)) ∧ (IM (avw K H1 a0)) ∧ MF K H H1 a0 [0] ∧ (∀ j : Nat, fI H1 kq j = fI H kq j) ∧ TY K G H1) := by
  refine MX.of (by decide +kernel) (Nat.le_of_ble_eq_true rfl) ?_
  intro p e s m below meth c ls Q C hH hl hQ
  subst hH
  have C : CX p K s m _ meth c RX10 cX10_takes 6 (some .int) "takes" := C
  obtain ⟨hx, hb, hml, hown, hts, hKT, hr, hlocks, hnm⟩ := id C
  have hl : lv_has ls 6 [(0, .ref a0), (1, .int x1), (2, .int x2), (3, .int x3)] := hl
  have hS : va_S (AE G [112, 114, 140, 139] s.heap.size) s.heap s.heap [] := va_S.rf
  have n_m10000000 : ((-10000000) : Int32).toInt = -10000000 := rfl
  have n_0 : (0 : Int32).toInt = 0 := rfl
  have n_1 : (1 : Int32).toInt = 1 := rfl
  have n_16 : (16 : Int32).toInt = 16 := rfl
  have hap : ∀ x y, x < 74 → y < 74 → x ≠ y → K.1.2 10 x ≠ K.1.2 10 y := x_apart hKT hts inX10 tyX10 tyX10_ok nmX10 rfl
  have mf0 : MF K s.heap s.heap a0 [0] := fun _ _ _ => rfl
  have ro0_kq : ∀ j : Nat, fI s.heap kq j = fI s.heap kq j := fun _ => rfl
  refine lv_aload_n hx hb dX10_takes_0 rfl (lv_at hl 0 rfl) ?_
  refine lv_iconst (v := 0) hx hb dX10_takes_1 (by decide) ?_
  refine x_put C hT hS (ci := 10) (k := 0) (v := .int 0) (ty0 := tyX10) rfl inX10 tyX10_ok nmX10 (by decide) rfl wF_X10_167 ga0 rg_112 rfl rfl (okI (i_rng (0 : Int32)).1 (i_rng (0 : Int32)).2) rfl rfl (AE_in ga0 (by decide)) dX10_takes_2 (fun H497 locsH497 hTH497 hSH497 wH497 => ?_)
  have mf498 : MF K s.heap H497 a0 [0] := MF.fld hap wH497 (by decide) (by decide) mf0
  have g499 : CG (avw K H497 a0) := CG.congr (fun k hk j => av_fld hT ga0 hap wH497 (by decide) (CG_ok 112 (by decide) k hk) (CG_ne 0 (by decide) k hk)) hg_CG
  have g500 : TU (avw K H497 a0) (svw K H497 a0) := TU.congr (fun k hk j => av_fld hT ga0 hap wH497 (by decide) (TU_ok 112 (by decide) k hk) (TU_ne 0 (by decide) k hk)) (fun k hk => sv_fld hap wH497 (by decide) (TU_slt k hk) (TU_sne 0 (by decide) k hk)) hg_TU
  have g501 : WD (avw K H497 a0) := WD.congr (fun k hk j => av_fld hT ga0 hap wH497 (by decide) (WD_ok 112 (by decide) k hk) (WD_ne 0 (by decide) k hk)) hg_WD
  have g502 : IM (avw K H497 a0) := IM.congr (fun k hk j => av_fld hT ga0 hap wH497 (by decide) (IM_ok 112 (by decide) k hk) (IM_ne 0 (by decide) k hk)) hg_IM
  have m503 := ekq.trans (Wr.neR wH497 (Or.inr (x_apart hKT hts inX10 tyX10 tyX10_ok nmX10 rfl 5 0 (by decide) (by decide) (by decide)))).symm
  have m504 := Wr.I wH497
  have ro505 : ∀ j : Nat, fI H497 kq j = fI s.heap kq j := fun j => (Wr.neI wH497 (Or.inl (G_ne gkq ga0 (by decide)))).trans (ro0_kq j)
  refine lv_aload_n hx hb dX10_takes_5 rfl (lv_at hl 0 rfl) ?_
  refine lv_iload_n hx hb dX10_takes_6 rfl (lv_at hl 1 rfl) ?_
  refine lv_iload_n hx hb dX10_takes_7 rfl (lv_at hl 2 rfl) ?_
  obtain ⟨x506, ex506⟩ : ∃ z : Int32, z = fI H497 a0 (K.1.2 10 1) := ⟨_, rfl⟩
  have bx506 := ty_fi (x := x506) (k := 1) ex506 hTH497 ga0 rg_112 rfl
  refine x_V (As := [.int x1, .int x2]) (rest := []) C (a_X10_isSlice l K G H497 (x1) (x2) (x506) hTH497 ga0 ex506) yo_X10_isSlice wM_X10_181 ⟨⟨by decide, by decide⟩, by decide, by decide⟩ (x_rv C hTH497 (ci := 10) rfl ga0 rg_112) rfl hl.1 rfl (Nat.le_of_ble_eq_true rfl) dX10_takes_8 hSH497 (AE_sub (fun _ _ => rfl) (by decide) hSH497.1) (fun vH507 H507 locsH507 pH507 zH507 kH507 hSH507 => ?_)
  obtain ⟨x508, hvH507, bx508, hrH507, hTH507⟩ := pH507
  subst hvH507
  have mf509 : MF K s.heap H507 a0 [0] := MF.eff (x_lt hTH497 kH507 ga0 (by decide)) mf498
  have g510 : CG (avw K H507 a0) := CG.congr (fun k hk j => av_eff hTH497 kH507 ga0 (by decide) (CG_eff [] (by decide) k hk)) g499
  have g511 : TU (avw K H507 a0) (svw K H507 a0) := TU.congr (fun k hk j => av_eff hTH497 kH507 ga0 (by decide) (TU_eff [] (by decide) k hk)) (fun k hk => sv_eff hTH497 kH507 ga0 (by decide)) g500
  have g512 : WD (avw K H507 a0) := WD.congr (fun k hk j => av_eff hTH497 kH507 ga0 (by decide) (WD_eff [] (by decide) k hk)) g501
  have g513 : IM (avw K H507 a0) := IM.congr (fun k hk j => av_eff hTH497 kH507 ga0 (by decide) (IM_eff [] (by decide) k hk)) g502
  have m514 := (m503).trans (fR_kept (x_lt hTH497 kH507 ga0 (by decide))).symm
  have m515 := (fI_kept (x_lt hTH497 kH507 ga0 (by decide))).trans m504
  have m516 := (ex506).trans (fI_kept (x_lt hTH497 kH507 ga0 (by decide))).symm
  have ro517 : ∀ j : Nat, fI H507 kq j = fI s.heap kq j := fun j => (fI_kept (x_lt hTH497 kH507 gkq (by decide))).trans (ro505 j)
  refine W.eq (g2 := F0 m 11 ls [.int x508]) rfl ?_
  refine lv_if_eq (tgt := 37) hx hb dX10_takes_11 (by decide) (fun c518 => ?_) (fun c518 => ?_)
  · have k519 := i_eq c518
    refine lv_ldcw (v := (-10000000)) hx hb hown (hts _ wK_X10_349) dX10_takes_37 ?_
    exact x_iret C hQ dX10_takes_40 hSH507 (by decide) (by decide) (⟨(-10000000), rfl, m514, g510, g511, g512, g513, mf509, ro517, hTH507⟩)
  · have k519 := i_ne c518
    refine lv_aload_n hx hb dX10_takes_14 rfl (lv_at hl 0 rfl) ?_
    refine lv_iload_n hx hb dX10_takes_15 rfl (lv_at hl 3 rfl) ?_
    refine x_V (As := [.int x3]) (rest := []) C (c_X10_isTone l K G H507 (x3) hTH507 ga0) yo_X10_isTone wM_X10_331 ⟨⟨by decide, by decide⟩, by decide, by decide⟩ (x_rv C hTH507 (ci := 10) rfl ga0 rg_112) rfl hl.1 rfl (Nat.le_of_ble_eq_true rfl) dX10_takes_16 hSH507 (AE_sub (fun _ _ => rfl) (by decide) hSH507.1) (fun vH520 H520 locsH520 pH520 zH520 kH520 hSH520 => ?_)
    have hqH520 := pH520.1.symm
    subst hqH520
    rcases pH520.2 with ⟨hvH520, hcH520⟩ | ⟨hvH520, hcH520⟩
    · subst hvH520
      refine W.eq (g2 := F0 m 19 ls [.int 1]) rfl ?_
      refine lv_if_eq (tgt := 37) hx hb dX10_takes_19 (by decide) (fun c521 => ?_) (fun c521 => ?_)
      · have k522 := i_eq c521
        exfalso
        omega
      · have k522 := i_ne c521
        refine lv_aload_n hx hb dX10_takes_22 rfl (lv_at hl 0 rfl) ?_
        refine x_gr C hTH507 (ci := 10) (k := 5) rfl inX10 (by decide) wF_X10_17 ga0 rg_112 rfl dX10_takes_23 (fun q523 eq523 gq523 => ?_)
        have uq523 : kq = q523 := (m514).trans eq523.symm
        subst uq523
        refine lv_bipush (v := 16) hx hb dX10_takes_26 (by decide) ?_
        refine lv_iload_n hx hb dX10_takes_28 rfl (lv_at hl 1 rfl) ?_
        refine lv_imul hx hb dX10_takes_29 ?_
        refine lv_topi (fun x524 ex524 => ?_)
        have tx524 := i_mul ex524 (by rw [n_16]; omega)
        rw [n_16] at tx524
        refine lv_iload_n hx hb dX10_takes_30 rfl (lv_at hl 2 rfl) ?_
        refine lv_iadd hx hb dX10_takes_31 ?_
        refine lv_topi (fun x525 ex525 => ?_)
        have tx525 := i_add ex525 (by omega)
        refine x_ai C hTH507 gkq rg_114 ⟨by omega, by show _ < ((160 : Nat) : Int); omega⟩ dX10_takes_32 (fun x526 ex526 bx526 => ?_)
        refine lv_iconst (v := 1) hx hb dX10_takes_33 (by decide) ?_
        refine lv_icmp_ne (tgt := 41) hx hb dX10_takes_34 (by decide) (fun c527 => ?_) (fun c527 => ?_)
        · have k528 := i_ne c527
          refine lv_aload_n hx hb dX10_takes_41 rfl (lv_at hl 0 rfl) ?_
          refine lv_iload_n hx hb dX10_takes_42 rfl (lv_at hl 1 rfl) ?_
          refine lv_iload_n hx hb dX10_takes_43 rfl (lv_at hl 3 rfl) ?_
          refine x_V (As := [.int x1, .int x3]) (rest := []) C (a_X10_toneNow l K G H507 (x1) (x3) hTH507 ga0 (by omega) g510) yo_X10_toneNow wM_X10_335 ⟨⟨by decide, by decide⟩, by decide, by decide⟩ (x_rv C hTH507 (ci := 10) rfl ga0 rg_112) rfl hl.1 rfl (Nat.le_of_ble_eq_true rfl) dX10_takes_44 hSH520 (AE_sub (fun _ _ => rfl) (by decide) hSH520.1) (fun vH529 H529 locsH529 pH529 zH529 kH529 hSH529 => ?_)
          obtain ⟨x530, hvH529, hTH529⟩ := pH529
          subst hvH529
          clear m503 m504
          have mf531 : MF K s.heap H529 a0 [0] := MF.eff (x_lt hTH507 kH529 ga0 (by decide)) mf509
          have g532 : CG (avw K H529 a0) := CG.congr (fun k hk j => av_eff hTH507 kH529 ga0 (by decide) (CG_eff [140, 139] (by decide) k hk)) g510
          have g533 : TU (avw K H529 a0) (svw K H529 a0) := TU.congr (fun k hk j => av_eff hTH507 kH529 ga0 (by decide) (TU_eff [140, 139] (by decide) k hk)) (fun k hk => sv_eff hTH507 kH529 ga0 (by decide)) g511
          have g534 : WD (avw K H529 a0) := WD.congr (fun k hk j => av_eff hTH507 kH529 ga0 (by decide) (WD_eff [140, 139] (by decide) k hk)) g512
          have g535 : IM (avw K H529 a0) := IM.congr (fun k hk j => av_eff hTH507 kH529 ga0 (by decide) (IM_eff [140, 139] (by decide) k hk)) g513
          have m536 := (m514).trans (fR_kept (x_lt hTH507 kH529 ga0 (by decide))).symm
          have m537 := (fI_kept (x_lt hTH507 kH529 ga0 (by decide))).trans m515
          have m538 := (m516).trans (fI_kept (x_lt hTH507 kH529 ga0 (by decide))).symm
          have m539 := (ex526).trans (fI_kept (x_lt hTH507 kH529 gkq (by decide))).symm
          have ro540 : ∀ j : Nat, fI H529 kq j = fI s.heap kq j := fun j => (fI_kept (x_lt hTH507 kH529 gkq (by decide))).trans (ro517 j)
          refine W.eq (g2 := F0 m 47 ls [.int x530]) rfl ?_
          refine lv_istore (lv' := [(4, .int x530), (0, .ref a0), (1, .int x1), (2, .int x2), (3, .int x3)]) hx hb dX10_takes_47 hl (by decide) rfl (fun ls541 hl542 => ?_)
          refine lv_aload_n hx hb dX10_takes_49 rfl (lv_at hl542 1 rfl) ?_
          refine x_gr C hTH529 (ci := 10) (k := 5) rfl inX10 (by decide) wF_X10_17 ga0 rg_112 rfl dX10_takes_50 (fun q543 eq543 gq543 => ?_)
          have uq543 : kq = q543 := (m536).trans eq543.symm
          subst uq543
          refine lv_bipush (v := 16) hx hb dX10_takes_53 (by decide) ?_
          refine lv_iload_n hx hb dX10_takes_55 rfl (lv_at hl542 2 rfl) ?_
          refine lv_imul hx hb dX10_takes_56 ?_
          refine lv_topi (fun x544 ex544 => ?_)
          have tx544 := i_mul ex544 (by rw [n_16]; omega)
          rw [n_16] at tx544
          refine lv_iload_n hx hb dX10_takes_57 rfl (lv_at hl542 3 rfl) ?_
          refine lv_iadd hx hb dX10_takes_58 ?_
          refine lv_topi (fun x545 ex545 => ?_)
          have tx545 := i_add ex545 (by omega)
          refine lv_aload_n hx hb dX10_takes_59 rfl (lv_at hl542 1 rfl) ?_
          refine x_gr C hTH529 (ci := 10) (k := 5) rfl inX10 (by decide) wF_X10_17 ga0 rg_112 rfl dX10_takes_60 (fun q546 eq546 gq546 => ?_)
          have uq546 : kq = q546 := (m536).trans eq546.symm
          subst uq546
          refine lv_bipush (v := 16) hx hb dX10_takes_63 (by decide) ?_
          refine lv_iload_n hx hb dX10_takes_65 rfl (lv_at hl542 2 rfl) ?_
          refine lv_imul hx hb dX10_takes_66 ?_
          refine lv_topi (fun x547 ex547 => ?_)
          have tx547 := i_mul ex547 (by rw [n_16]; omega)
          rw [n_16] at tx547
          refine lv_iload_n hx hb dX10_takes_67 rfl (lv_at hl542 3 rfl) ?_
          refine lv_iadd hx hb dX10_takes_68 ?_
          refine lv_topi (fun x548 ex548 => ?_)
          have tx548 := i_add ex548 (by omega)
          refine x_ai C hTH529 gkq rg_114 ⟨by omega, by show _ < ((160 : Nat) : Int); omega⟩ dX10_takes_69 (fun x549 ex549 bx549 => ?_)
          refine lv_iconst (v := 1) hx hb dX10_takes_70 (by decide) ?_
          refine lv_isub hx hb dX10_takes_71 ?_
          refine lv_topi (fun x550 ex550 => ?_)
          refine x_iast C hTH529 hSH529 gkq rg_114 (by omega) (by show _ < ((160 : Nat) : Int); omega) (i_rng x550) (AE_in gkq (by decide)) dX10_takes_72 (fun H551 locsH551 hTH551 hSH551 wH551 => ?_)
          clear m514 m515 m516
          have mf552 : MF K s.heap H551 a0 [0] := MF.arr wH551 (G_ne ga0 gkq (by decide)) mf531
          have g553 : CG (avw K H551 a0) := CG.congr (fun k hk j => av_arr hTH529 ga0 wH551 gkq (by decide) (CG_ok 114 (by decide) k hk)) g532
          have g554 : TU (avw K H551 a0) (svw K H551 a0) := TU.congr (fun k hk j => av_arr hTH529 ga0 wH551 gkq (by decide) (TU_ok 114 (by decide) k hk)) (fun k hk => sv_arr ga0 wH551 gkq (by decide)) g533
          have g555 : WD (avw K H551 a0) := WD.congr (fun k hk j => av_arr hTH529 ga0 wH551 gkq (by decide) (WD_ok 114 (by decide) k hk)) g534
          have g556 : IM (avw K H551 a0) := IM.congr (fun k hk j => av_arr hTH529 ga0 wH551 gkq (by decide) (IM_ok 114 (by decide) k hk)) g535
          have m557 := m536.trans (Wr.neR wH551 (Or.inl (G_ne ga0 gkq (by decide)))).symm
          have m558 := (Wr.neI wH551 (Or.inl (G_ne ga0 gkq (by decide)))).trans m537
          have m559 := m538.trans (Wr.neI wH551 (Or.inl (G_ne ga0 gkq (by decide)))).symm
          have m562 := Wr.I wH551
          have m562 := m562.symm
          have cn_x1 := i_cl (x := x1) (by omega)
          have cn_x2 := i_cl (x := x2) (by omega)
          have cn_x545 := i_cl (x := x545) (by omega)
          have ro563 : ∀ j : Nat, j ≠ (16 * x1.toNatClampNeg + x2.toNatClampNeg) → fI H551 kq j = fI s.heap kq j := fun j hj => (Wr.neI wH551 (Or.inr (by omega))).trans (ro540 j)
          have cn_x548 := i_cl (x := x548) (by omega)
          have rx564 : x549 = fI s.heap kq (16 * x1.toNatClampNeg + x2.toNatClampNeg) := ex549.trans ((ro540 _).trans (by rw [show x548.toNatClampNeg = (16 * x1.toNatClampNeg + x2.toNatClampNeg) by omega]))
          have rv565 : fI H551 kq (16 * x1.toNatClampNeg + x2.toNatClampNeg) = x550 := by rw [← (show x545.toNatClampNeg = (16 * x1.toNatClampNeg + x2.toNatClampNeg) by omega)]; exact Wr.I wH551
          refine lv_aload_n hx hb dX10_takes_73 rfl (lv_at hl542 1 rfl) ?_
          refine lv_iload_n hx hb dX10_takes_74 rfl (lv_at hl542 2 rfl) ?_
          refine lv_iload_n hx hb dX10_takes_75 rfl (lv_at hl542 4 rfl) ?_
          refine x_V (As := [.int x1, .int x3]) (rest := []) C (a_X10_toneNow l K G H551 (x1) (x3) hTH551 ga0 (by omega) g553) yo_X10_toneNow wM_X10_335 ⟨⟨by decide, by decide⟩, by decide, by decide⟩ (x_rv C hTH551 (ci := 10) rfl ga0 rg_112) rfl hl542.1 rfl (Nat.le_of_ble_eq_true rfl) dX10_takes_76 hSH551 (AE_sub (fun _ _ => rfl) (by decide) hSH551.1) (fun vH566 H566 locsH566 pH566 zH566 kH566 hSH566 => ?_)
          obtain ⟨x567, hvH566, hTH566⟩ := pH566
          subst hvH566
          clear m536 m537 m538 m539
          have mf568 : MF K s.heap H566 a0 [0] := MF.eff (x_lt hTH551 kH566 ga0 (by decide)) mf552
          have g569 : CG (avw K H566 a0) := CG.congr (fun k hk j => av_eff hTH551 kH566 ga0 (by decide) (CG_eff [140, 139] (by decide) k hk)) g553
          have g570 : TU (avw K H566 a0) (svw K H566 a0) := TU.congr (fun k hk j => av_eff hTH551 kH566 ga0 (by decide) (TU_eff [140, 139] (by decide) k hk)) (fun k hk => sv_eff hTH551 kH566 ga0 (by decide)) g554
          have g571 : WD (avw K H566 a0) := WD.congr (fun k hk j => av_eff hTH551 kH566 ga0 (by decide) (WD_eff [140, 139] (by decide) k hk)) g555
          have g572 : IM (avw K H566 a0) := IM.congr (fun k hk j => av_eff hTH551 kH566 ga0 (by decide) (IM_eff [140, 139] (by decide) k hk)) g556
          have m573 := (m557).trans (fR_kept (x_lt hTH551 kH566 ga0 (by decide))).symm
          have m574 := (fI_kept (x_lt hTH551 kH566 ga0 (by decide))).trans m558
          have m575 := (m559).trans (fI_kept (x_lt hTH551 kH566 ga0 (by decide))).symm
          have m576 := (m562).trans (fI_kept (x_lt hTH551 kH566 gkq (by decide))).symm
          have ro577 : ∀ j : Nat, j ≠ (16 * x1.toNatClampNeg + x2.toNatClampNeg) → fI H566 kq j = fI s.heap kq j := fun j hj => (fI_kept (x_lt hTH551 kH566 gkq (by decide))).trans (ro563 j hj)
          have rv578 : fI H566 kq (16 * x1.toNatClampNeg + x2.toNatClampNeg) = x550 := (fI_kept (x_lt hTH551 kH566 gkq (by decide))).trans rv565
          refine W.eq (g2 := F0 m 79 ls541 [.int x567]) rfl ?_
          refine lv_istore (lv' := [(5, .int x567), (4, .int x530), (0, .ref a0), (1, .int x1), (2, .int x2), (3, .int x3)]) hx hb dX10_takes_79 hl542 (by decide) rfl (fun ls579 hl580 => ?_)
          refine lv_aload_n hx hb dX10_takes_81 rfl (lv_at hl580 2 rfl) ?_
          refine x_gr C hTH566 (ci := 10) (k := 5) rfl inX10 (by decide) wF_X10_17 ga0 rg_112 rfl dX10_takes_82 (fun q581 eq581 gq581 => ?_)
          have uq581 : kq = q581 := (m573).trans eq581.symm
          subst uq581
          refine lv_bipush (v := 16) hx hb dX10_takes_85 (by decide) ?_
          refine lv_iload_n hx hb dX10_takes_87 rfl (lv_at hl580 3 rfl) ?_
          refine lv_imul hx hb dX10_takes_88 ?_
          refine lv_topi (fun x582 ex582 => ?_)
          have tx582 := i_mul ex582 (by rw [n_16]; omega)
          rw [n_16] at tx582
          refine lv_iload_n hx hb dX10_takes_89 rfl (lv_at hl580 4 rfl) ?_
          refine lv_iadd hx hb dX10_takes_90 ?_
          refine lv_topi (fun x583 ex583 => ?_)
          have tx583 := i_add ex583 (by omega)
          refine lv_aload_n hx hb dX10_takes_91 rfl (lv_at hl580 2 rfl) ?_
          refine x_gr C hTH566 (ci := 10) (k := 5) rfl inX10 (by decide) wF_X10_17 ga0 rg_112 rfl dX10_takes_92 (fun q584 eq584 gq584 => ?_)
          have uq584 : kq = q584 := (m573).trans eq584.symm
          subst uq584
          refine lv_bipush (v := 16) hx hb dX10_takes_95 (by decide) ?_
          refine lv_iload_n hx hb dX10_takes_97 rfl (lv_at hl580 3 rfl) ?_
          refine lv_imul hx hb dX10_takes_98 ?_
          refine lv_topi (fun x585 ex585 => ?_)
          have tx585 := i_mul ex585 (by rw [n_16]; omega)
          rw [n_16] at tx585
          refine lv_iload_n hx hb dX10_takes_99 rfl (lv_at hl580 4 rfl) ?_
          refine lv_iadd hx hb dX10_takes_100 ?_
          refine lv_topi (fun x586 ex586 => ?_)
          have tx586 := i_add ex586 (by omega)
          refine x_ai C hTH566 gkq rg_114 ⟨by omega, by show _ < ((160 : Nat) : Int); omega⟩ dX10_takes_101 (fun x587 ex587 bx587 => ?_)
          refine lv_iconst (v := 1) hx hb dX10_takes_102 (by decide) ?_
          refine lv_iadd hx hb dX10_takes_103 ?_
          refine lv_topi (fun x588 ex588 => ?_)
          refine x_iast C hTH566 hSH566 gkq rg_114 (by omega) (by show _ < ((160 : Nat) : Int); omega) (i_rng x588) (AE_in gkq (by decide)) dX10_takes_104 (fun H589 locsH589 hTH589 hSH589 wH589 => ?_)
          clear m557 m558 m559 m562
          have mf590 : MF K s.heap H589 a0 [0] := MF.arr wH589 (G_ne ga0 gkq (by decide)) mf568
          have g591 : CG (avw K H589 a0) := CG.congr (fun k hk j => av_arr hTH566 ga0 wH589 gkq (by decide) (CG_ok 114 (by decide) k hk)) g569
          have g592 : TU (avw K H589 a0) (svw K H589 a0) := TU.congr (fun k hk j => av_arr hTH566 ga0 wH589 gkq (by decide) (TU_ok 114 (by decide) k hk)) (fun k hk => sv_arr ga0 wH589 gkq (by decide)) g570
          have g593 : WD (avw K H589 a0) := WD.congr (fun k hk j => av_arr hTH566 ga0 wH589 gkq (by decide) (WD_ok 114 (by decide) k hk)) g571
          have g594 : IM (avw K H589 a0) := IM.congr (fun k hk j => av_arr hTH566 ga0 wH589 gkq (by decide) (IM_ok 114 (by decide) k hk)) g572
          have m595 := m573.trans (Wr.neR wH589 (Or.inl (G_ne ga0 gkq (by decide)))).symm
          have m596 := (Wr.neI wH589 (Or.inl (G_ne ga0 gkq (by decide)))).trans m574
          have m597 := m575.trans (Wr.neI wH589 (Or.inl (G_ne ga0 gkq (by decide)))).symm
          have m600 := Wr.I wH589
          have m600 := m600.symm
          have cn_x586 := i_cl (x := x586) (by omega)
          have rb601 : x588 = fI s.heap kq (16 * x1.toNatClampNeg + x2.toNatClampNeg) := by have z : x587 = _ := ex587.trans ((congrArg (fI H566 kq) (show x586.toNatClampNeg = (16 * x1.toNatClampNeg + x2.toNatClampNeg) by omega)).trans rv578); rw [ex588, z, ex550, Int32.sub_add_cancel]; exact rx564
          have cn_x583 := i_cl (x := x583) (by omega)
          have hixH589 : x583.toNatClampNeg = (16 * x1.toNatClampNeg + x2.toNatClampNeg) := by omega
          have ro602 : ∀ j : Nat, fI H589 kq j = fI s.heap kq j := fun j => if hj : j = (16 * x1.toNatClampNeg + x2.toNatClampNeg) then (by subst hj; rw [← hixH589, Wr.I wH589, hixH589]; exact rb601) else (Wr.neI wH589 (Or.inr (by omega))).trans (ro577 j hj)
          refine lv_iload hx hb dX10_takes_105 (lv_at hl580 1 rfl) ?_
          refine lv_iload hx hb dX10_takes_107 (lv_at hl580 0 rfl) ?_
          refine lv_isub hx hb dX10_takes_109 ?_
          refine lv_topi (fun x603 ex603 => ?_)
          exact x_iret C hQ dX10_takes_110 hSH589 (by decide) (by decide) (⟨x603, rfl, m595, g591, g592, g593, g594, mf590, ro602, hTH589⟩)
        · have k528 := i_eq c527
          refine lv_ldcw (v := (-10000000)) hx hb hown (hts _ wK_X10_349) dX10_takes_37 ?_
          exact x_iret C hQ dX10_takes_40 hSH520 (by decide) (by decide) (⟨(-10000000), rfl, m514, g510, g511, g512, g513, mf509, ro517, hTH507⟩)
    · subst hvH520
      refine W.eq (g2 := F0 m 19 ls [.int 0]) rfl ?_
      refine lv_if_eq (tgt := 37) hx hb dX10_takes_19 (by decide) (fun c604 => ?_) (fun c604 => ?_)
      · have k605 := i_eq c604
        refine lv_ldcw (v := (-10000000)) hx hb hown (hts _ wK_X10_349) dX10_takes_37 ?_
        exact x_iret C hQ dX10_takes_40 hSH520 (by decide) (by decide) (⟨(-10000000), rfl, m514, g510, g511, g512, g513, mf509, ro517, hTH507⟩)
      · have k605 := i_ne c604
        exfalso
        omega

set_option maxHeartbeats 4000000 in
set_option maxRecDepth 100000 in
theorem a_X10_enough_k (l : Launch) (K : KE) (G : Nat → Option Nat) (H : Heap) {a0 : Nat} (x1 : Int32) (x2 : Int32) (x3 : Int32) {wxq : Nat} (hT : TY K G H) (ga0 : G a0 = some 112) (gwxq : G wxq = some 117) (ewxq : @Eq Ad wxq (fR H a0 (K.1.2 10 8))) (hg_CG : CG (avw K H a0)) (hg_TU : TU (avw K H a0) (svw K H a0)) (hg_WD : WD (avw K H a0)) (hg_IM : IM (avw K H a0)) : MX l K yX10_enough cX10_enough 7 (some .int) 6 145 0 0 [.ref a0, .int x1, .int x2, .int x3] H (AE G [112, 117, 140, 139] H.size) (fun v H1 => ∃ (r : Int32), v = some (.int r) ∧ @Eq Ad wxq (fR H1 a0 (K.1.2 10 8)) ∧ (CG (avw K H1 a0)) ∧ (TU (avw K H1 a0) (svw K H1 a0)) ∧ (WD (avw K H1 a0)) ∧ (IM (avw K H1 a0)) ∧ MF K H H1 a0 [0] ∧ (∀ j : Nat, fI H1 wxq j = fI H wxq j) ∧ TY K G H1) := by
  refine MX.of (by decide +kernel) (Nat.le_of_ble_eq_true rfl) ?_
  intro p e s m below meth c ls Q C hH hl hQ
  subst hH
  have C : CX p K s m _ meth c RX10 cX10_enough 7 (some .int) "enough" := C
  obtain ⟨hx, hb, hml, hown, hts, hKT, hr, hlocks, hnm⟩ := id C
  have hl : lv_has ls 7 [(0, .ref a0), (1, .int x1), (2, .int x2), (3, .int x3)] := hl
  have hS : va_S (AE G [112, 117, 140, 139] s.heap.size) s.heap s.heap [] := va_S.rf
  have n_m1 : ((-1) : Int32).toInt = -1 := rfl
  have n_0 : (0 : Int32).toInt = 0 := rfl
  have n_1 : (1 : Int32).toInt = 1 := rfl
  have n_3 : (3 : Int32).toInt = 3 := rfl
  have n_16 : (16 : Int32).toInt = 16 := rfl
  have n_99 : (99 : Int32).toInt = 99 := rfl
  have hap : ∀ x y, x < 74 → y < 74 → x ≠ y → K.1.2 10 x ≠ K.1.2 10 y := x_apart hKT hts inX10 tyX10 tyX10_ok nmX10 rfl
  have mf0 : MF K s.heap s.heap a0 [0] := fun _ _ _ => rfl
  have ro0_wxq : ∀ j : Nat, fI s.heap wxq j = fI s.heap wxq j := fun _ => rfl
  have J57 : ∀ (nf : Nat)  (ls584 : Array Slot) (H583 : Heap) (locsH583 : List Loc) (x589 : Int32) (x590 : Int32) (x591 : Int32), lv_has ls584 7 [(0, .ref a0), (1, .int x1), (2, .int x2), (3, .int x3), (4, .int x589), (5, .int x590), (6, .int x591)] → TY K G H583 → va_S (AE G [112, 117, 140, 139] s.heap.size) s.heap H583 locsH583 → (0 ≤ x1.toInt ∧ x1.toInt ≤ 9) → (0 ≤ x2.toInt ∧ x2.toInt ≤ 15) → (0 ≤ x3.toInt ∧ x3.toInt ≤ 2) → ((-2147483648) ≤ x591.toInt ∧ x591.toInt ≤ 99) → (@Eq Ad wxq (fR H583 a0 (K.1.2 10 8))) → (MF K s.heap H583 a0 [0]) → (CG (avw K H583 a0)) → (TU (avw K H583 a0) (svw K H583 a0)) → (WD (avw K H583 a0)) → (IM (avw K H583 a0)) → (2147483647 - x590.toInt < (nf : Int)) → (∀ j : Nat, j ≠ (16 * x1.toNatClampNeg + x2.toNatClampNeg) → fI H583 wxq j = fI s.heap wxq j) → (fI s.heap wxq (16 * x1.toNatClampNeg + x2.toNatClampNeg) = x589) → W p l e ({ frames := 6, cells := 0, slots := 0, locals := 145 } : Room) s m (([.ref a0, .int x1, .int x2, .int x3] : List Value).toArray) below meth c H583 locsH583 0 0 Q (F0 m 57 ls584 []) := by
    intro nf
    induction nf with
    | zero =>
      intro  ls584 H583 locsH583 x589 x590 x591 hl585 hTH583 hSH583 b586 b587 b588 bx591 cy592_0 mfy592 gy592_CG gy592_TU gy592_WD gy592_IM hm57 hro57_wxq hrv57_w
      have rx589 := i_rng x589
      have rx590 := i_rng x590
      exfalso
      omega
    | succ nf ih57 =>
      intro  ls584 H583 locsH583 x589 x590 x591 hl585 hTH583 hSH583 b586 b587 b588 bx591 cy592_0 mfy592 gy592_CG gy592_TU gy592_WD gy592_IM hm57 hro57_wxq hrv57_w
      have rx589 := i_rng x589
      have rx590 := i_rng x590
      refine lv_iload hx hb dX10_enough_57 (lv_at hl585 5 rfl) ?_
      refine lv_bipush (v := 99) hx hb dX10_enough_59 (by decide) ?_
      refine lv_icmp_gt (tgt := 120) hx hb dX10_enough_61 (by decide) (fun c593 => ?_) (fun c593 => ?_)
      · have k594 := i_lt c593
        refine lv_aload_n hx hb dX10_enough_120 rfl (lv_at hl585 0 rfl) ?_
        refine x_gr C hTH583 (ci := 10) (k := 8) rfl inX10 (by decide) wF_X10_26 ga0 rg_112 rfl dX10_enough_121 (fun q595 eq595 gq595 => ?_)
        have uq595 : wxq = q595 := (cy592_0).trans eq595.symm
        subst uq595
        refine lv_bipush (v := 16) hx hb dX10_enough_124 (by decide) ?_
        refine lv_iload_n hx hb dX10_enough_126 rfl (lv_at hl585 1 rfl) ?_
        refine lv_imul hx hb dX10_enough_127 ?_
        refine lv_topi (fun x596 ex596 => ?_)
        have tx596 := i_mul ex596 (by rw [n_16]; omega)
        rw [n_16] at tx596
        refine lv_iload_n hx hb dX10_enough_128 rfl (lv_at hl585 2 rfl) ?_
        refine lv_iadd hx hb dX10_enough_129 ?_
        refine lv_topi (fun x597 ex597 => ?_)
        have tx597 := i_add ex597 (by omega)
        refine lv_iload hx hb dX10_enough_130 (lv_at hl585 4 rfl) ?_
        refine x_iast C hTH583 hSH583 gwxq rg_117 (by omega) (by show _ < ((160 : Nat) : Int); omega) (i_rng x589) (AE_in gwxq (by decide)) dX10_enough_132 (fun H598 locsH598 hTH598 hSH598 wH598 => ?_)
        have mf599 : MF K s.heap H598 a0 [0] := MF.arr wH598 (G_ne ga0 gwxq (by decide)) mfy592
        have g600 : CG (avw K H598 a0) := CG.congr (fun k hk j => av_arr hTH583 ga0 wH598 gwxq (by decide) (CG_ok 117 (by decide) k hk)) gy592_CG
        have g601 : TU (avw K H598 a0) (svw K H598 a0) := TU.congr (fun k hk j => av_arr hTH583 ga0 wH598 gwxq (by decide) (TU_ok 117 (by decide) k hk)) (fun k hk => sv_arr ga0 wH598 gwxq (by decide)) gy592_TU
        have g602 : WD (avw K H598 a0) := WD.congr (fun k hk j => av_arr hTH583 ga0 wH598 gwxq (by decide) (WD_ok 117 (by decide) k hk)) gy592_WD
        have g603 : IM (avw K H598 a0) := IM.congr (fun k hk j => av_arr hTH583 ga0 wH598 gwxq (by decide) (IM_ok 117 (by decide) k hk)) gy592_IM
        have m604 := cy592_0.trans (Wr.neR wH598 (Or.inl (G_ne ga0 gwxq (by decide)))).symm
        have m605 := Wr.I wH598
        have m605 := m605.symm
        have cn_x1 := i_cl (x := x1) (by omega)
        have cn_x2 := i_cl (x := x2) (by omega)
        have cn_x597 := i_cl (x := x597) (by omega)
        have hixH598 : x597.toNatClampNeg = (16 * x1.toNatClampNeg + x2.toNatClampNeg) := by omega
        have ro606 : ∀ j : Nat, fI H598 wxq j = fI s.heap wxq j := fun j => if hj : j = (16 * x1.toNatClampNeg + x2.toNatClampNeg) then (by subst hj; rw [← hixH598, Wr.I wH598, hixH598]; exact hrv57_w.symm) else (Wr.neI wH598 (Or.inr (by omega))).trans (hro57_wxq j hj)
        have rv607 : fI s.heap wxq (16 * x1.toNatClampNeg + x2.toNatClampNeg) = x589 := hrv57_w
        refine lv_iload hx hb dX10_enough_133 (lv_at hl585 6 rfl) ?_
        exact x_iret C hQ dX10_enough_135 hSH598 (by decide) (by decide) (⟨x591, rfl, m604, g600, g601, g602, g603, mf599, ro606, hTH598⟩)
      · have k594 := i_nlt c593
        refine lv_iload hx hb dX10_enough_64 (lv_at hl585 6 rfl) ?_
        refine lv_iconst (v := (-1)) hx hb dX10_enough_66 (by decide) ?_
        refine lv_icmp_ne (tgt := 120) hx hb dX10_enough_67 (by decide) (fun c608 => ?_) (fun c608 => ?_)
        · have k609 := i_ne c608
          refine lv_aload_n hx hb dX10_enough_120 rfl (lv_at hl585 0 rfl) ?_
          refine x_gr C hTH583 (ci := 10) (k := 8) rfl inX10 (by decide) wF_X10_26 ga0 rg_112 rfl dX10_enough_121 (fun q610 eq610 gq610 => ?_)
          have uq610 : wxq = q610 := (cy592_0).trans eq610.symm
          subst uq610
          refine lv_bipush (v := 16) hx hb dX10_enough_124 (by decide) ?_
          refine lv_iload_n hx hb dX10_enough_126 rfl (lv_at hl585 1 rfl) ?_
          refine lv_imul hx hb dX10_enough_127 ?_
          refine lv_topi (fun x611 ex611 => ?_)
          have tx611 := i_mul ex611 (by rw [n_16]; omega)
          rw [n_16] at tx611
          refine lv_iload_n hx hb dX10_enough_128 rfl (lv_at hl585 2 rfl) ?_
          refine lv_iadd hx hb dX10_enough_129 ?_
          refine lv_topi (fun x612 ex612 => ?_)
          have tx612 := i_add ex612 (by omega)
          refine lv_iload hx hb dX10_enough_130 (lv_at hl585 4 rfl) ?_
          refine x_iast C hTH583 hSH583 gwxq rg_117 (by omega) (by show _ < ((160 : Nat) : Int); omega) (i_rng x589) (AE_in gwxq (by decide)) dX10_enough_132 (fun H613 locsH613 hTH613 hSH613 wH613 => ?_)
          have mf614 : MF K s.heap H613 a0 [0] := MF.arr wH613 (G_ne ga0 gwxq (by decide)) mfy592
          have g615 : CG (avw K H613 a0) := CG.congr (fun k hk j => av_arr hTH583 ga0 wH613 gwxq (by decide) (CG_ok 117 (by decide) k hk)) gy592_CG
          have g616 : TU (avw K H613 a0) (svw K H613 a0) := TU.congr (fun k hk j => av_arr hTH583 ga0 wH613 gwxq (by decide) (TU_ok 117 (by decide) k hk)) (fun k hk => sv_arr ga0 wH613 gwxq (by decide)) gy592_TU
          have g617 : WD (avw K H613 a0) := WD.congr (fun k hk j => av_arr hTH583 ga0 wH613 gwxq (by decide) (WD_ok 117 (by decide) k hk)) gy592_WD
          have g618 : IM (avw K H613 a0) := IM.congr (fun k hk j => av_arr hTH583 ga0 wH613 gwxq (by decide) (IM_ok 117 (by decide) k hk)) gy592_IM
          have m619 := cy592_0.trans (Wr.neR wH613 (Or.inl (G_ne ga0 gwxq (by decide)))).symm
          have m620 := Wr.I wH613
          have m620 := m620.symm
          have cn_x1 := i_cl (x := x1) (by omega)
          have cn_x2 := i_cl (x := x2) (by omega)
          have cn_x612 := i_cl (x := x612) (by omega)
          have hixH613 : x612.toNatClampNeg = (16 * x1.toNatClampNeg + x2.toNatClampNeg) := by omega
          have ro621 : ∀ j : Nat, fI H613 wxq j = fI s.heap wxq j := fun j => if hj : j = (16 * x1.toNatClampNeg + x2.toNatClampNeg) then (by subst hj; rw [← hixH613, Wr.I wH613, hixH613]; exact hrv57_w.symm) else (Wr.neI wH613 (Or.inr (by omega))).trans (hro57_wxq j hj)
          have rv622 : fI s.heap wxq (16 * x1.toNatClampNeg + x2.toNatClampNeg) = x589 := hrv57_w
          refine lv_iload hx hb dX10_enough_133 (lv_at hl585 6 rfl) ?_
          exact x_iret C hQ dX10_enough_135 hSH613 (by decide) (by decide) (⟨x591, rfl, m619, g615, g616, g617, g618, mf614, ro621, hTH613⟩)
        · have k609 := i_eq c608
          refine lv_aload_n hx hb dX10_enough_70 rfl (lv_at hl585 0 rfl) ?_
          refine x_gr C hTH583 (ci := 10) (k := 8) rfl inX10 (by decide) wF_X10_26 ga0 rg_112 rfl dX10_enough_71 (fun q623 eq623 gq623 => ?_)
          have uq623 : wxq = q623 := (cy592_0).trans eq623.symm
          subst uq623
          refine lv_bipush (v := 16) hx hb dX10_enough_74 (by decide) ?_
          refine lv_iload_n hx hb dX10_enough_76 rfl (lv_at hl585 1 rfl) ?_
          refine lv_imul hx hb dX10_enough_77 ?_
          refine lv_topi (fun x624 ex624 => ?_)
          have tx624 := i_mul ex624 (by rw [n_16]; omega)
          rw [n_16] at tx624
          refine lv_iload_n hx hb dX10_enough_78 rfl (lv_at hl585 2 rfl) ?_
          refine lv_iadd hx hb dX10_enough_79 ?_
          refine lv_topi (fun x625 ex625 => ?_)
          have tx625 := i_add ex625 (by omega)
          refine lv_iload hx hb dX10_enough_80 (lv_at hl585 5 rfl) ?_
          refine x_iast C hTH583 hSH583 gwxq rg_117 (by omega) (by show _ < ((160 : Nat) : Int); omega) (i_rng x590) (AE_in gwxq (by decide)) dX10_enough_82 (fun H626 locsH626 hTH626 hSH626 wH626 => ?_)
          have mf627 : MF K s.heap H626 a0 [0] := MF.arr wH626 (G_ne ga0 gwxq (by decide)) mfy592
          have g628 : CG (avw K H626 a0) := CG.congr (fun k hk j => av_arr hTH583 ga0 wH626 gwxq (by decide) (CG_ok 117 (by decide) k hk)) gy592_CG
          have g629 : TU (avw K H626 a0) (svw K H626 a0) := TU.congr (fun k hk j => av_arr hTH583 ga0 wH626 gwxq (by decide) (TU_ok 117 (by decide) k hk)) (fun k hk => sv_arr ga0 wH626 gwxq (by decide)) gy592_TU
          have g630 : WD (avw K H626 a0) := WD.congr (fun k hk j => av_arr hTH583 ga0 wH626 gwxq (by decide) (WD_ok 117 (by decide) k hk)) gy592_WD
          have g631 : IM (avw K H626 a0) := IM.congr (fun k hk j => av_arr hTH583 ga0 wH626 gwxq (by decide) (IM_ok 117 (by decide) k hk)) gy592_IM
          have m632 := cy592_0.trans (Wr.neR wH626 (Or.inl (G_ne ga0 gwxq (by decide)))).symm
          have m633 := Wr.I wH626
          have m633 := m633.symm
          have cn_x1 := i_cl (x := x1) (by omega)
          have cn_x2 := i_cl (x := x2) (by omega)
          have cn_x625 := i_cl (x := x625) (by omega)
          have ro634 : ∀ j : Nat, j ≠ (16 * x1.toNatClampNeg + x2.toNatClampNeg) → fI H626 wxq j = fI s.heap wxq j := fun j hj => (Wr.neI wH626 (Or.inr (by omega))).trans (hro57_wxq j hj)
          have rv635 : fI s.heap wxq (16 * x1.toNatClampNeg + x2.toNatClampNeg) = x589 := hrv57_w
          refine lv_aload_n hx hb dX10_enough_83 rfl (lv_at hl585 0 rfl) ?_
          refine lv_iload_n hx hb dX10_enough_84 rfl (lv_at hl585 1 rfl) ?_
          refine lv_iload_n hx hb dX10_enough_85 rfl (lv_at hl585 3 rfl) ?_
          refine x_V (As := [.int x1, .int x3]) (rest := []) C (a_X10_toneNow l K G H626 (x1) (x3) hTH626 ga0 (by omega) g628) yo_X10_toneNow wM_X10_335 ⟨⟨by decide, by decide⟩, by decide, by decide⟩ (x_rv C hTH626 (ci := 10) rfl ga0 rg_112) rfl hl585.1 rfl (Nat.le_of_ble_eq_true rfl) dX10_enough_86 hSH626 (AE_sub (fun _ _ => rfl) (by decide) hSH626.1) (fun vH636 H636 locsH636 pH636 zH636 kH636 hSH636 => ?_)
          obtain ⟨x637, hvH636, hTH636⟩ := pH636
          subst hvH636
          have mf638 : MF K s.heap H636 a0 [0] := MF.eff (x_lt hTH626 kH636 ga0 (by decide)) mf627
          have g639 : CG (avw K H636 a0) := CG.congr (fun k hk j => av_eff hTH626 kH636 ga0 (by decide) (CG_eff [140, 139] (by decide) k hk)) g628
          have g640 : TU (avw K H636 a0) (svw K H636 a0) := TU.congr (fun k hk j => av_eff hTH626 kH636 ga0 (by decide) (TU_eff [140, 139] (by decide) k hk)) (fun k hk => sv_eff hTH626 kH636 ga0 (by decide)) g629
          have g641 : WD (avw K H636 a0) := WD.congr (fun k hk j => av_eff hTH626 kH636 ga0 (by decide) (WD_eff [140, 139] (by decide) k hk)) g630
          have g642 : IM (avw K H636 a0) := IM.congr (fun k hk j => av_eff hTH626 kH636 ga0 (by decide) (IM_eff [140, 139] (by decide) k hk)) g631
          have m643 := (m632).trans (fR_kept (x_lt hTH626 kH636 ga0 (by decide))).symm
          have m644 := (m633).trans (fI_kept (x_lt hTH626 kH636 gwxq (by decide))).symm
          have ro645 : ∀ j : Nat, j ≠ (16 * x1.toNatClampNeg + x2.toNatClampNeg) → fI H636 wxq j = fI s.heap wxq j := fun j hj => (fI_kept (x_lt hTH626 kH636 gwxq (by decide))).trans (ro634 j hj)
          have rv646 : fI s.heap wxq (16 * x1.toNatClampNeg + x2.toNatClampNeg) = x589 := rv635
          refine W.eq (g2 := F0 m 89 ls584 [.int x637]) rfl ?_
          refine lv_aload_n hx hb dX10_enough_89 rfl (lv_at hl585 0 rfl) ?_
          refine x_gr C hTH636 (ci := 10) (k := 9) rfl inX10 (by decide) wF_X10_29 ga0 rg_112 rfl dX10_enough_90 (fun q647 eq647 gq647 => ?_)
          replace eq647 : @Eq Ad q647 (fR H636 a0 (K.1.2 10 9)) := eq647
          refine lv_iconst (v := 3) hx hb dX10_enough_93 (by decide) ?_
          refine lv_iload_n hx hb dX10_enough_94 rfl (lv_at hl585 1 rfl) ?_
          refine lv_imul hx hb dX10_enough_95 ?_
          refine lv_topi (fun x648 ex648 => ?_)
          have tx648 := i_mul ex648 (by rw [n_3]; omega)
          rw [n_3] at tx648
          refine lv_iload_n hx hb dX10_enough_96 rfl (lv_at hl585 3 rfl) ?_
          refine lv_iadd hx hb dX10_enough_97 ?_
          refine lv_topi (fun x649 ex649 => ?_)
          have tx649 := i_add ex649 (by omega)
          refine x_ai C hTH636 gq647 rg_118 ⟨by omega, by show _ < ((30 : Nat) : Int); omega⟩ dX10_enough_98 (fun x650 ex650 bx650 => ?_)
          refine lv_aload_n hx hb dX10_enough_99 rfl (lv_at hl585 0 rfl) ?_
          refine x_gi C hTH636 (ci := 10) (k := 3) rfl inX10 (by decide) wF_X10_7 ga0 rg_112 rfl dX10_enough_100 (fun x651 ex651 bx651 => ?_)
          refine lv_iadd hx hb dX10_enough_103 ?_
          refine lv_topi (fun x652 ex652 => ?_)
          refine lv_icmp_gt (tgt := 111) hx hb dX10_enough_104 (by decide) (fun c653 => ?_) (fun c653 => ?_)
          · have k654 := i_lt c653
            refine lv_iload hx hb dX10_enough_111 (lv_at hl585 5 rfl) ?_
            refine lv_iconst (v := 1) hx hb dX10_enough_113 (by decide) ?_
            refine lv_iadd hx hb dX10_enough_114 ?_
            refine lv_topi (fun x655 ex655 => ?_)
            have tx655 := i_add ex655 (by have := i_rng x590; omega)
            refine lv_istore (lv' := [(5, .int x655), (0, .ref a0), (1, .int x1), (2, .int x2), (3, .int x3), (4, .int x589), (6, .int x591)]) hx hb dX10_enough_115 hl585 (by decide) rfl (fun ls656 hl657 => ?_)
            refine lv_goto (tgt := 57) hx hb dX10_enough_117 (by decide) ?_
            exact ih57  ls656 H636 locsH636 (x589) (x655) (x591) (lv_sub hl657 [1, 2, 3, 4, 5, 0, 6] rfl) hTH636 hSH636 (by have := i_rng x1; omega) (by have := i_rng x2; omega) (by have := i_rng x3; omega) bx591 m643 mf638 g639 g640 g641 g642 (by omega) ro645 rv646
          · have k654 := i_nlt c653
            refine lv_iload hx hb dX10_enough_107 (lv_at hl585 5 rfl) ?_
            refine lv_istore (lv' := [(6, .int x590), (0, .ref a0), (1, .int x1), (2, .int x2), (3, .int x3), (4, .int x589), (5, .int x590)]) hx hb dX10_enough_109 hl585 (by decide) rfl (fun ls658 hl659 => ?_)
            refine lv_iload hx hb dX10_enough_111 (lv_at hl659 6 rfl) ?_
            refine lv_iconst (v := 1) hx hb dX10_enough_113 (by decide) ?_
            refine lv_iadd hx hb dX10_enough_114 ?_
            refine lv_topi (fun x660 ex660 => ?_)
            have tx660 := i_add ex660 (by have := i_rng x590; omega)
            refine lv_istore (lv' := [(5, .int x660), (6, .int x590), (0, .ref a0), (1, .int x1), (2, .int x2), (3, .int x3), (4, .int x589)]) hx hb dX10_enough_115 hl659 (by decide) rfl (fun ls661 hl662 => ?_)
            refine lv_goto (tgt := 57) hx hb dX10_enough_117 (by decide) ?_
            exact ih57  ls661 H636 locsH636 (x589) (x660) (x590) (lv_sub hl662 [2, 3, 4, 5, 6, 0, 1] rfl) hTH636 hSH636 (by have := i_rng x1; omega) (by have := i_rng x2; omega) (by have := i_rng x3; omega) (by have := i_rng x590; omega) m643 mf638 g639 g640 g641 g642 (by omega) ro645 rv646
  refine lv_aload_n hx hb dX10_enough_0 rfl (lv_at hl 0 rfl) ?_
  refine lv_iconst (v := 0) hx hb dX10_enough_1 (by decide) ?_
  refine x_put C hT hS (ci := 10) (k := 0) (v := .int 0) (ty0 := tyX10) rfl inX10 tyX10_ok nmX10 (by decide) rfl wF_X10_167 ga0 rg_112 rfl rfl (okI (i_rng (0 : Int32)).1 (i_rng (0 : Int32)).2) rfl rfl (AE_in ga0 (by decide)) dX10_enough_2 (fun H663 locsH663 hTH663 hSH663 wH663 => ?_)
  have mf664 : MF K s.heap H663 a0 [0] := MF.fld hap wH663 (by decide) (by decide) mf0
  have g665 : CG (avw K H663 a0) := CG.congr (fun k hk j => av_fld hT ga0 hap wH663 (by decide) (CG_ok 112 (by decide) k hk) (CG_ne 0 (by decide) k hk)) hg_CG
  have g666 : TU (avw K H663 a0) (svw K H663 a0) := TU.congr (fun k hk j => av_fld hT ga0 hap wH663 (by decide) (TU_ok 112 (by decide) k hk) (TU_ne 0 (by decide) k hk)) (fun k hk => sv_fld hap wH663 (by decide) (TU_slt k hk) (TU_sne 0 (by decide) k hk)) hg_TU
  have g667 : WD (avw K H663 a0) := WD.congr (fun k hk j => av_fld hT ga0 hap wH663 (by decide) (WD_ok 112 (by decide) k hk) (WD_ne 0 (by decide) k hk)) hg_WD
  have g668 : IM (avw K H663 a0) := IM.congr (fun k hk j => av_fld hT ga0 hap wH663 (by decide) (IM_ok 112 (by decide) k hk) (IM_ne 0 (by decide) k hk)) hg_IM
  have m669 := ewxq.trans (Wr.neR wH663 (Or.inr (x_apart hKT hts inX10 tyX10 tyX10_ok nmX10 rfl 8 0 (by decide) (by decide) (by decide)))).symm
  have m670 := Wr.I wH663
  have ro671 : ∀ j : Nat, fI H663 wxq j = fI s.heap wxq j := fun j => (Wr.neI wH663 (Or.inl (G_ne gwxq ga0 (by decide)))).trans (ro0_wxq j)
  refine lv_aload_n hx hb dX10_enough_5 rfl (lv_at hl 0 rfl) ?_
  refine lv_iload_n hx hb dX10_enough_6 rfl (lv_at hl 1 rfl) ?_
  refine lv_iload_n hx hb dX10_enough_7 rfl (lv_at hl 2 rfl) ?_
  obtain ⟨x672, ex672⟩ : ∃ z : Int32, z = fI H663 a0 (K.1.2 10 1) := ⟨_, rfl⟩
  have bx672 := ty_fi (x := x672) (k := 1) ex672 hTH663 ga0 rg_112 rfl
  refine x_V (As := [.int x1, .int x2]) (rest := []) C (a_X10_isSlice l K G H663 (x1) (x2) (x672) hTH663 ga0 ex672) yo_X10_isSlice wM_X10_181 ⟨⟨by decide, by decide⟩, by decide, by decide⟩ (x_rv C hTH663 (ci := 10) rfl ga0 rg_112) rfl hl.1 rfl (Nat.le_of_ble_eq_true rfl) dX10_enough_8 hSH663 (AE_sub (fun _ _ => rfl) (by decide) hSH663.1) (fun vH673 H673 locsH673 pH673 zH673 kH673 hSH673 => ?_)
  obtain ⟨x674, hvH673, bx674, hrH673, hTH673⟩ := pH673
  subst hvH673
  have mf675 : MF K s.heap H673 a0 [0] := MF.eff (x_lt hTH663 kH673 ga0 (by decide)) mf664
  have g676 : CG (avw K H673 a0) := CG.congr (fun k hk j => av_eff hTH663 kH673 ga0 (by decide) (CG_eff [] (by decide) k hk)) g665
  have g677 : TU (avw K H673 a0) (svw K H673 a0) := TU.congr (fun k hk j => av_eff hTH663 kH673 ga0 (by decide) (TU_eff [] (by decide) k hk)) (fun k hk => sv_eff hTH663 kH673 ga0 (by decide)) g666
  have g678 : WD (avw K H673 a0) := WD.congr (fun k hk j => av_eff hTH663 kH673 ga0 (by decide) (WD_eff [] (by decide) k hk)) g667
  have g679 : IM (avw K H673 a0) := IM.congr (fun k hk j => av_eff hTH663 kH673 ga0 (by decide) (IM_eff [] (by decide) k hk)) g668
  have m680 := (m669).trans (fR_kept (x_lt hTH663 kH673 ga0 (by decide))).symm
  have m681 := (fI_kept (x_lt hTH663 kH673 ga0 (by decide))).trans m670
  have m682 := (ex672).trans (fI_kept (x_lt hTH663 kH673 ga0 (by decide))).symm
  have ro683 : ∀ j : Nat, fI H673 wxq j = fI s.heap wxq j := fun j => (fI_kept (x_lt hTH663 kH673 gwxq (by decide))).trans (ro671 j)
  refine W.eq (g2 := F0 m 11 ls [.int x674]) rfl ?_
  refine lv_if_eq (tgt := 35) hx hb dX10_enough_11 (by decide) (fun c684 => ?_) (fun c684 => ?_)
  · have k685 := i_eq c684
    refine lv_iconst (v := (-1)) hx hb dX10_enough_35 (by decide) ?_
    exact x_iret C hQ dX10_enough_36 hSH673 (by decide) (by decide) (⟨(-1), rfl, m680, g676, g677, g678, g679, mf675, ro683, hTH673⟩)
  · have k685 := i_ne c684
    refine lv_aload_n hx hb dX10_enough_14 rfl (lv_at hl 0 rfl) ?_
    refine lv_iload_n hx hb dX10_enough_15 rfl (lv_at hl 3 rfl) ?_
    refine x_V (As := [.int x3]) (rest := []) C (c_X10_isTone l K G H673 (x3) hTH673 ga0) yo_X10_isTone wM_X10_331 ⟨⟨by decide, by decide⟩, by decide, by decide⟩ (x_rv C hTH673 (ci := 10) rfl ga0 rg_112) rfl hl.1 rfl (Nat.le_of_ble_eq_true rfl) dX10_enough_16 hSH673 (AE_sub (fun _ _ => rfl) (by decide) hSH673.1) (fun vH686 H686 locsH686 pH686 zH686 kH686 hSH686 => ?_)
    have hqH686 := pH686.1.symm
    subst hqH686
    rcases pH686.2 with ⟨hvH686, hcH686⟩ | ⟨hvH686, hcH686⟩
    · subst hvH686
      refine W.eq (g2 := F0 m 19 ls [.int 1]) rfl ?_
      refine lv_if_eq (tgt := 35) hx hb dX10_enough_19 (by decide) (fun c687 => ?_) (fun c687 => ?_)
      · have k688 := i_eq c687
        exfalso
        omega
      · have k688 := i_ne c687
        refine lv_aload_n hx hb dX10_enough_22 rfl (lv_at hl 0 rfl) ?_
        refine x_gr C hTH673 (ci := 10) (k := 9) rfl inX10 (by decide) wF_X10_29 ga0 rg_112 rfl dX10_enough_23 (fun q689 eq689 gq689 => ?_)
        replace eq689 : @Eq Ad q689 (fR H673 a0 (K.1.2 10 9)) := eq689
        refine lv_iconst (v := 3) hx hb dX10_enough_26 (by decide) ?_
        refine lv_iload_n hx hb dX10_enough_27 rfl (lv_at hl 1 rfl) ?_
        refine lv_imul hx hb dX10_enough_28 ?_
        refine lv_topi (fun x690 ex690 => ?_)
        have tx690 := i_mul ex690 (by rw [n_3]; omega)
        rw [n_3] at tx690
        refine lv_iload_n hx hb dX10_enough_29 rfl (lv_at hl 3 rfl) ?_
        refine lv_iadd hx hb dX10_enough_30 ?_
        refine lv_topi (fun x691 ex691 => ?_)
        have tx691 := i_add ex691 (by omega)
        refine x_ai C hTH673 gq689 rg_118 ⟨by omega, by show _ < ((30 : Nat) : Int); omega⟩ dX10_enough_31 (fun x692 ex692 bx692 => ?_)
        refine lv_if_ne (tgt := 37) hx hb dX10_enough_32 (by decide) (fun c693 => ?_) (fun c693 => ?_)
        · have k694 := i_ne c693
          refine lv_aload_n hx hb dX10_enough_37 rfl (lv_at hl 0 rfl) ?_
          refine x_gr C hTH673 (ci := 10) (k := 8) rfl inX10 (by decide) wF_X10_26 ga0 rg_112 rfl dX10_enough_38 (fun q695 eq695 gq695 => ?_)
          have uq695 : wxq = q695 := (m680).trans eq695.symm
          subst uq695
          refine lv_bipush (v := 16) hx hb dX10_enough_41 (by decide) ?_
          refine lv_iload_n hx hb dX10_enough_43 rfl (lv_at hl 1 rfl) ?_
          refine lv_imul hx hb dX10_enough_44 ?_
          refine lv_topi (fun x696 ex696 => ?_)
          have tx696 := i_mul ex696 (by rw [n_16]; omega)
          rw [n_16] at tx696
          refine lv_iload_n hx hb dX10_enough_45 rfl (lv_at hl 2 rfl) ?_
          refine lv_iadd hx hb dX10_enough_46 ?_
          refine lv_topi (fun x697 ex697 => ?_)
          have tx697 := i_add ex697 (by omega)
          refine x_ai C hTH673 gwxq rg_117 ⟨by omega, by show _ < ((160 : Nat) : Int); omega⟩ dX10_enough_47 (fun x698 ex698 bx698 => ?_)
          refine lv_istore (lv' := [(4, .int x698), (0, .ref a0), (1, .int x1), (2, .int x2), (3, .int x3)]) hx hb dX10_enough_48 hl (by decide) rfl (fun ls699 hl700 => ?_)
          refine lv_iload hx hb dX10_enough_50 (lv_at hl700 0 rfl) ?_
          refine lv_istore (lv' := [(5, .int x698), (4, .int x698), (0, .ref a0), (1, .int x1), (2, .int x2), (3, .int x3)]) hx hb dX10_enough_52 hl700 (by decide) rfl (fun ls701 hl702 => ?_)
          refine lv_iconst (v := (-1)) hx hb dX10_enough_54 (by decide) ?_
          refine lv_istore (lv' := [(6, .int (-1)), (5, .int x698), (4, .int x698), (0, .ref a0), (1, .int x1), (2, .int x2), (3, .int x3)]) hx hb dX10_enough_55 hl702 (by decide) rfl (fun ls703 hl704 => ?_)
          have cn_x1 := i_cl (x := x1) (by omega)
          have cn_x2 := i_cl (x := x2) (by omega)
          have cn_x697 := i_cl (x := x697) (by omega)
          have rx705 : x698 = fI s.heap wxq (16 * x1.toNatClampNeg + x2.toNatClampNeg) := ex698.trans ((ro683 _).trans (by rw [show x697.toNatClampNeg = (16 * x1.toNatClampNeg + x2.toNatClampNeg) by omega]))
          exact J57 ((2147483647 - x698.toInt).toNat + 1)  ls703 H673 locsH686 (x698) (x698) ((-1)) (lv_sub hl704 [3, 4, 5, 6, 2, 1, 0] rfl) hTH673 hSH686 (by have := i_rng x1; omega) (by have := i_rng x2; omega) (by have := i_rng x3; omega) (by decide) m680 mf675 g676 g677 g678 g679 (by omega) (fun j _ => ro683 j) rx705.symm
        · have k694 := i_eq c693
          refine lv_iconst (v := (-1)) hx hb dX10_enough_35 (by decide) ?_
          exact x_iret C hQ dX10_enough_36 hSH686 (by decide) (by decide) (⟨(-1), rfl, m680, g676, g677, g678, g679, mf675, ro683, hTH673⟩)
    · subst hvH686
      refine W.eq (g2 := F0 m 19 ls [.int 0]) rfl ?_
      refine lv_if_eq (tgt := 35) hx hb dX10_enough_19 (by decide) (fun c706 => ?_) (fun c706 => ?_)
      · have k707 := i_eq c706
        refine lv_iconst (v := (-1)) hx hb dX10_enough_35 (by decide) ?_
        exact x_iret C hQ dX10_enough_36 hSH686 (by decide) (by decide) (⟨(-1), rfl, m680, g676, g677, g678, g679, mf675, ro683, hTH673⟩)
      · have k707 := i_ne c706
        exfalso
        omega

set_option maxHeartbeats 4000000 in
set_option maxRecDepth 100000 in
theorem a_X10_findsTable_k (l : Launch) (K : KE) (G : Nat → Option Nat) (H : Heap) {a0 : Nat} (x1 : Int32) {slq : Nat} {kq : Nat} (sz : Int32) (hT : TY K G H) (ga0 : G a0 = some 112) (hx1 : 0 ≤ x1.toInt ∧ x1.toInt ≤ 9) (gslq : G slq = some 113) (eslq : @Eq Ad slq (fR H a0 (K.1.2 10 4))) (gkq : G kq = some 114) (ekq : @Eq Ad kq (fR H a0 (K.1.2 10 5))) (esz : sz = fI H slq (x1 : Int32).toNatClampNeg) (hg_CG : CG (avw K H a0)) (hp0 : sz.toInt ≤ 8) : MX l K yX10_findsTable cX10_findsTable 6 none 4 97 0 0 [.ref a0, .int x1] H (AE G [114, 143, 144, 140, 139] H.size) (fun v H1 => v = none ∧ (∀ j : Nat, fI H1 kq j = fI H kq j) ∧ TY K G H1) := by
  refine MX.of (by decide +kernel) (Nat.le_of_ble_eq_true rfl) ?_
  intro p e s m below meth c ls Q C hH hl hQ
  subst hH
  have C : CX p K s m _ meth c RX10 cX10_findsTable 6 none "findsTable" := C
  obtain ⟨hx, hb, hml, hown, hts, hKT, hr, hlocks, hnm⟩ := id C
  have hl : lv_has ls 6 [(0, .ref a0), (1, .int x1)] := hl
  have hS : va_S (AE G [114, 143, 144, 140, 139] s.heap.size) s.heap s.heap [] := va_S.rf
  have n_0 : (0 : Int32).toInt = 0 := rfl
  have n_1 : (1 : Int32).toInt = 1 := rfl
  have n_3 : (3 : Int32).toInt = 3 := rfl
  have n_5 : (5 : Int32).toInt = 5 := rfl
  have n_6 : (6 : Int32).toInt = 6 := rfl
  have n_16 : (16 : Int32).toInt = 16 := rfl
  have n_48 : (48 : Int32).toInt = 48 := rfl
  have bsz := ty_ai (x := sz) esz hT gslq rg_113 (by omega)
  have hap : ∀ x y, x < 74 → y < 74 → x ≠ y → K.1.2 10 x ≠ K.1.2 10 y := x_apart hKT hts inX10 tyX10 tyX10_ok nmX10 rfl
  have ro0_kq : ∀ j : Nat, fI s.heap kq j = fI s.heap kq j := fun _ => rfl
  have J2 : ∀ (nf : Nat)  (ls2264 : Array Slot) (H2263 : Heap) (locsH2263 : List Loc) (x2266 : Int32), lv_has ls2264 6 [(0, .ref a0), (1, .int x1), (2, .int x2266)] → TY K G H2263 → va_S (AE G [114, 143, 144, 140, 139] s.heap.size) s.heap H2263 locsH2263 → (0 ≤ x2266.toInt ∧ x2266.toInt ≤ 8) → (@Eq Ad slq (fR H2263 a0 (K.1.2 10 4))) → (@Eq Ad kq (fR H2263 a0 (K.1.2 10 5))) → (sz = fI H2263 slq (x1 : Int32).toNatClampNeg) → (CG (avw K H2263 a0)) → (8 - x2266.toInt < (nf : Int)) → (∀ j : Nat, fI H2263 kq j = fI s.heap kq j) → W p l e ({ frames := 4, cells := 0, slots := 0, locals := 97 } : Room) s m (([.ref a0, .int x1] : List Value).toArray) below meth c H2263 locsH2263 0 0 Q (F0 m 2 ls2264 []) := by
    intro nf
    induction nf with
    | zero =>
      intro  ls2264 H2263 locsH2263 x2266 hl2265 hTH2263 hSH2263 bx2266 cy2267_0 cy2267_1 cy2267_2 gy2267_CG hm2 hro2_kq
      exfalso
      omega
    | succ nf ih2 =>
      intro  ls2264 H2263 locsH2263 x2266 hl2265 hTH2263 hSH2263 bx2266 cy2267_0 cy2267_1 cy2267_2 gy2267_CG hm2 hro2_kq
      have J27 : ∀ (nf : Nat)  (ls2269 : Array Slot) (H2268 : Heap) (locsH2268 : List Loc) (x2272 : Int32) (x2273 : Int32), lv_has ls2269 6 [(0, .ref a0), (1, .int x1), (2, .int x2266), (3, .int x2272), (4, .int x2273)] → TY K G H2268 → va_S (AE G [114, 143, 144, 140, 139] s.heap.size) s.heap H2268 locsH2268 → (0 ≤ x2266.toInt ∧ x2266.toInt ≤ 7) → (0 ≤ x2273.toInt ∧ x2273.toInt ≤ 6) → (@Eq Ad slq (fR H2268 a0 (K.1.2 10 4))) → (@Eq Ad kq (fR H2268 a0 (K.1.2 10 5))) → (sz = fI H2268 slq (x1 : Int32).toNatClampNeg) → (CG (avw K H2268 a0)) → (6 - x2273.toInt < (nf : Int)) → (∀ j : Nat, j ≠ (16 * x1.toNatClampNeg + x2266.toNatClampNeg) → fI H2268 kq j = fI s.heap kq j) → (fI s.heap kq (16 * x1.toNatClampNeg + x2266.toNatClampNeg) = x2272) → W p l e ({ frames := 4, cells := 0, slots := 0, locals := 97 } : Room) s m (([.ref a0, .int x1] : List Value).toArray) below meth c H2268 locsH2268 0 0 Q (F0 m 27 ls2269 []) := by
        intro nf
        induction nf with
        | zero =>
          intro  ls2269 H2268 locsH2268 x2272 x2273 hl2270 hTH2268 hSH2268 b2271 bx2273 cy2274_0 cy2274_1 cy2274_2 gy2274_CG hm27 hro27_kq hrv27_w
          have rx2272 := i_rng x2272
          exfalso
          omega
        | succ nf ih27 =>
          intro  ls2269 H2268 locsH2268 x2272 x2273 hl2270 hTH2268 hSH2268 b2271 bx2273 cy2274_0 cy2274_1 cy2274_2 gy2274_CG hm27 hro27_kq hrv27_w
          have rx2272 := i_rng x2272
          have J63 : ∀ (nf : Nat)  (ls2276 : Array Slot) (H2275 : Heap) (locsH2275 : List Loc) (x2280 : Int32), lv_has ls2276 6 [(0, .ref a0), (1, .int x1), (2, .int x2266), (3, .int x2272), (4, .int x2273), (5, .int x2280)] → TY K G H2275 → va_S (AE G [114, 143, 144, 140, 139] s.heap.size) s.heap H2275 locsH2275 → (1 ≤ x2272.toInt ∧ x2272.toInt ≤ 2147483647) → (0 ≤ x2273.toInt ∧ x2273.toInt ≤ 5) → (0 ≤ x2280.toInt ∧ x2280.toInt ≤ 3) → (@Eq Ad slq (fR H2275 a0 (K.1.2 10 4))) → (@Eq Ad kq (fR H2275 a0 (K.1.2 10 5))) → (sz = fI H2275 slq (x1 : Int32).toNatClampNeg) → (CG (avw K H2275 a0)) → (3 - x2280.toInt < (nf : Int)) → (∀ j : Nat, j ≠ (16 * x1.toNatClampNeg + x2266.toNatClampNeg) → fI H2275 kq j = fI s.heap kq j) → (fI s.heap kq (16 * x1.toNatClampNeg + x2266.toNatClampNeg) = x2272) → W p l e ({ frames := 4, cells := 0, slots := 0, locals := 97 } : Room) s m (([.ref a0, .int x1] : List Value).toArray) below meth c H2275 locsH2275 0 0 Q (F0 m 63 ls2276 []) := by
            intro nf
            induction nf with
            | zero =>
              intro  ls2276 H2275 locsH2275 x2280 hl2277 hTH2275 hSH2275 b2278 b2279 bx2280 cy2281_0 cy2281_1 cy2281_2 gy2281_CG hm63 hro63_kq hrv63_w
              exfalso
              omega
            | succ nf ih63 =>
              intro  ls2276 H2275 locsH2275 x2280 hl2277 hTH2275 hSH2275 b2278 b2279 bx2280 cy2281_0 cy2281_1 cy2281_2 gy2281_CG hm63 hro63_kq hrv63_w
              refine lv_iload hx hb dX10_findsTable_63 (lv_at hl2277 5 rfl) ?_
              refine lv_iconst (v := 3) hx hb dX10_findsTable_65 (by decide) ?_
              refine lv_icmp_ge (tgt := 133) hx hb dX10_findsTable_66 (by decide) (fun c2282 => ?_) (fun c2282 => ?_)
              · have k2283 := i_le c2282
                obtain ⟨x2284, ex2284⟩ : ∃ y : Int32, y = x2273 + 1 := ⟨_, rfl⟩
                have tx2284 := i_add ex2284 (by omega)
                refine lv_iinc (v := x2284) (lv' := [(4, .int x2284), (0, .ref a0), (1, .int x1), (2, .int x2266), (3, .int x2272), (5, .int x2280)]) hx hb dX10_findsTable_133 hl2277 (k := 4) rfl (by rw [ex2284]; rfl) (by decide) rfl (fun ls2285 hl2286 => ?_)
                refine lv_goto (tgt := 27) hx hb dX10_findsTable_136 (by decide) ?_
                exact ih27  ls2285 H2275 locsH2275 (x2272) (x2284) (lv_sub hl2286 [1, 2, 3, 4, 0] rfl) hTH2275 hSH2275 (by have := i_rng x2266; omega) (by have := i_rng x2284; omega) cy2281_0 cy2281_1 cy2281_2 gy2281_CG (by omega) hro63_kq hrv63_w
              · have k2283 := i_nle c2282
                refine lv_aload_n hx hb dX10_findsTable_69 rfl (lv_at hl2277 0 rfl) ?_
                refine x_gr C hTH2275 (ci := 10) (k := 47) rfl inX10 (by decide) wF_X10_107 ga0 rg_112 rfl dX10_findsTable_70 (fun q2287 eq2287 gq2287 => ?_)
                replace eq2287 : @Eq Ad q2287 (fR H2275 a0 (K.1.2 10 47)) := eq2287
                refine lv_bipush (v := 48) hx hb dX10_findsTable_73 (by decide) ?_
                refine lv_iload hx hb dX10_findsTable_75 (lv_at hl2277 5 rfl) ?_
                refine lv_imul hx hb dX10_findsTable_77 ?_
                refine lv_topi (fun x2288 ex2288 => ?_)
                have tx2288 := i_mul ex2288 (by rw [n_48]; omega)
                rw [n_48] at tx2288
                refine lv_bipush (v := 6) hx hb dX10_findsTable_78 (by decide) ?_
                refine lv_iload_n hx hb dX10_findsTable_80 rfl (lv_at hl2277 2 rfl) ?_
                refine lv_imul hx hb dX10_findsTable_81 ?_
                refine lv_topi (fun x2289 ex2289 => ?_)
                have tx2289 := i_mul ex2289 (by rw [n_6]; omega)
                rw [n_6] at tx2289
                refine lv_iadd hx hb dX10_findsTable_82 ?_
                refine lv_topi (fun x2290 ex2290 => ?_)
                have tx2290 := i_add ex2290 (by omega)
                refine lv_iload hx hb dX10_findsTable_83 (lv_at hl2277 4 rfl) ?_
                refine lv_iadd hx hb dX10_findsTable_85 ?_
                refine lv_topi (fun x2291 ex2291 => ?_)
                have tx2291 := i_add ex2291 (by omega)
                refine lv_aload_n hx hb dX10_findsTable_86 rfl (lv_at hl2277 0 rfl) ?_
                refine lv_aload_n hx hb dX10_findsTable_87 rfl (lv_at hl2277 0 rfl) ?_
                refine x_gi C hTH2275 (ci := 10) (k := 2) rfl inX10 (by decide) wF_X10_322 ga0 rg_112 rfl dX10_findsTable_88 (fun x2292 ex2292 bx2292 => ?_)
                refine lv_iconst (v := 0) hx hb dX10_findsTable_91 (by decide) ?_
                refine lv_iload hx hb dX10_findsTable_92 (lv_at hl2277 5 rfl) ?_
                obtain ⟨q2293, eq2293⟩ : ∃ z : Nat, @Eq Ad z (fR H2275 a0 (K.1.2 10 24)) := ⟨_, rfl⟩
                have gq2293 := ty_fr (q := q2293) (k := 24) (u := 128) eq2293 hTH2275 ga0 rg_112 rfl
                obtain ⟨x2294, ex2294⟩ : ∃ z : Int32, z = fI H2275 q2293 (x2292 : Int32).toNatClampNeg := ⟨_, rfl⟩
                have bx2294 := ty_ai (x := x2294) ex2294 hTH2275 gq2293 rg_128 (by omega)
                refine x_V (As := [.int x2292, .int 0, .int x2280]) (rest := [.int x2291, .ref q2287]) C (a_X10_tellsBy l K G H2275 (x2292) (0) (x2280) (x2294) hTH2275 ga0 (by omega) gq2293 eq2293 ex2294 gy2281_CG) yo_X10_tellsBy wM_X10_319 ⟨⟨by decide, by decide⟩, by decide, by decide⟩ (x_rv C hTH2275 (ci := 10) rfl ga0 rg_112) rfl hl2277.1 rfl (Nat.le_of_ble_eq_true rfl) dX10_findsTable_94 hSH2275 (AE_sub (fun _ _ => rfl) (by decide) hSH2275.1) (fun vH2295 H2295 locsH2295 pH2295 zH2295 kH2295 hSH2295 => ?_)
                obtain ⟨x2296, hvH2295, hTH2295⟩ := pH2295
                subst hvH2295
                have g2297 : CG (avw K H2295 a0) := CG.congr (fun k hk j => av_eff hTH2275 kH2295 ga0 (by decide) (CG_eff [140] (by decide) k hk)) gy2281_CG
                have m2298 := (cy2281_0).trans (fR_kept (x_lt hTH2275 kH2295 ga0 (by decide))).symm
                have m2299 := (cy2281_1).trans (fR_kept (x_lt hTH2275 kH2295 ga0 (by decide))).symm
                have m2300 := (cy2281_2).trans (fI_kept (x_lt hTH2275 kH2295 gslq (by decide))).symm
                have m2301 := (eq2287).trans (fR_kept (x_lt hTH2275 kH2295 ga0 (by decide))).symm
                have m2302 := (ex2292).trans (fI_kept (x_lt hTH2275 kH2295 ga0 (by decide))).symm
                have m2303 := (eq2293).trans (fR_kept (x_lt hTH2275 kH2295 ga0 (by decide))).symm
                have m2304 := (ex2294).trans (fI_kept (x_lt hTH2275 kH2295 gq2293 (by decide))).symm
                have ro2305 : ∀ j : Nat, j ≠ (16 * x1.toNatClampNeg + x2266.toNatClampNeg) → fI H2295 kq j = fI s.heap kq j := fun j hj => (fI_kept (x_lt hTH2275 kH2295 gkq (by decide))).trans (hro63_kq j hj)
                have rv2306 : fI s.heap kq (16 * x1.toNatClampNeg + x2266.toNatClampNeg) = x2272 := hrv63_w
                refine W.eq (g2 := F0 m 97 ls2276 [.int x2296, .int x2291, .ref q2287]) rfl ?_
                refine x_iast C hTH2295 hSH2295 gq2287 rg_143 (by omega) (by show _ < ((144 : Nat) : Int); omega) (i_rng x2296) (AE_in gq2287 (by decide)) dX10_findsTable_97 (fun H2307 locsH2307 hTH2307 hSH2307 wH2307 => ?_)
                have g2308 : CG (avw K H2307 a0) := CG.congr (fun k hk j => av_arr hTH2295 ga0 wH2307 gq2287 (by decide) (CG_ok 143 (by decide) k hk)) g2297
                have m2309 := m2298.trans (Wr.neR wH2307 (Or.inl (G_ne ga0 gq2287 (by decide)))).symm
                have m2310 := m2299.trans (Wr.neR wH2307 (Or.inl (G_ne ga0 gq2287 (by decide)))).symm
                have m2311 := m2300.trans (Wr.neI wH2307 (Or.inl (G_ne gslq gq2287 (by decide)))).symm
                have m2312 := m2301.trans (Wr.neR wH2307 (Or.inl (G_ne ga0 gq2287 (by decide)))).symm
                have m2313 := m2302.trans (Wr.neI wH2307 (Or.inl (G_ne ga0 gq2287 (by decide)))).symm
                have m2314 := m2303.trans (Wr.neR wH2307 (Or.inl (G_ne ga0 gq2287 (by decide)))).symm
                have m2315 := m2304.trans (Wr.neI wH2307 (Or.inl (G_ne gq2293 gq2287 (by decide)))).symm
                have m2316 := Wr.I wH2307
                have m2316 := m2316.symm
                have ro2317 : ∀ j : Nat, j ≠ (16 * x1.toNatClampNeg + x2266.toNatClampNeg) → fI H2307 kq j = fI s.heap kq j := fun j hj => (Wr.neI wH2307 (Or.inl (G_ne gkq gq2287 (by decide)))).trans (ro2305 j hj)
                have rv2318 : fI s.heap kq (16 * x1.toNatClampNeg + x2266.toNatClampNeg) = x2272 := rv2306
                refine lv_aload_n hx hb dX10_findsTable_98 rfl (lv_at hl2277 0 rfl) ?_
                refine x_gr C hTH2307 (ci := 10) (k := 48) rfl inX10 (by decide) wF_X10_110 ga0 rg_112 rfl dX10_findsTable_99 (fun q2319 eq2319 gq2319 => ?_)
                replace eq2319 : @Eq Ad q2319 (fR H2307 a0 (K.1.2 10 48)) := eq2319
                refine lv_bipush (v := 48) hx hb dX10_findsTable_102 (by decide) ?_
                refine lv_iload hx hb dX10_findsTable_104 (lv_at hl2277 5 rfl) ?_
                refine lv_imul hx hb dX10_findsTable_106 ?_
                refine lv_topi (fun x2320 ex2320 => ?_)
                have tx2320 := i_mul ex2320 (by rw [n_48]; omega)
                rw [n_48] at tx2320
                refine lv_bipush (v := 6) hx hb dX10_findsTable_107 (by decide) ?_
                refine lv_iload_n hx hb dX10_findsTable_109 rfl (lv_at hl2277 2 rfl) ?_
                refine lv_imul hx hb dX10_findsTable_110 ?_
                refine lv_topi (fun x2321 ex2321 => ?_)
                have tx2321 := i_mul ex2321 (by rw [n_6]; omega)
                rw [n_6] at tx2321
                refine lv_iadd hx hb dX10_findsTable_111 ?_
                refine lv_topi (fun x2322 ex2322 => ?_)
                have tx2322 := i_add ex2322 (by omega)
                refine lv_iload hx hb dX10_findsTable_112 (lv_at hl2277 4 rfl) ?_
                refine lv_iadd hx hb dX10_findsTable_114 ?_
                refine lv_topi (fun x2323 ex2323 => ?_)
                have tx2323 := i_add ex2323 (by omega)
                refine lv_aload_n hx hb dX10_findsTable_115 rfl (lv_at hl2277 0 rfl) ?_
                refine lv_aload_n hx hb dX10_findsTable_116 rfl (lv_at hl2277 0 rfl) ?_
                refine x_gi C hTH2307 (ci := 10) (k := 2) rfl inX10 (by decide) wF_X10_322 ga0 rg_112 rfl dX10_findsTable_117 (fun x2324 ex2324 bx2324 => ?_)
                have ux2324 : x2292 = x2324 := (m2313).trans ex2324.symm
                subst ux2324
                refine lv_iconst (v := 1) hx hb dX10_findsTable_120 (by decide) ?_
                refine lv_iload hx hb dX10_findsTable_121 (lv_at hl2277 5 rfl) ?_
                refine x_V (As := [.int x2292, .int 1, .int x2280]) (rest := [.int x2323, .ref q2319]) C (a_X10_tellsBy l K G H2307 (x2292) (1) (x2280) (x2294) hTH2307 ga0 (by omega) gq2293 m2314 m2315 g2308) yo_X10_tellsBy wM_X10_319 ⟨⟨by decide, by decide⟩, by decide, by decide⟩ (x_rv C hTH2307 (ci := 10) rfl ga0 rg_112) rfl hl2277.1 rfl (Nat.le_of_ble_eq_true rfl) dX10_findsTable_123 hSH2307 (AE_sub (fun _ _ => rfl) (by decide) hSH2307.1) (fun vH2325 H2325 locsH2325 pH2325 zH2325 kH2325 hSH2325 => ?_)
                obtain ⟨x2326, hvH2325, hTH2325⟩ := pH2325
                subst hvH2325
                clear m2298 m2299 m2300 m2301 m2302 m2303 m2304
                have g2327 : CG (avw K H2325 a0) := CG.congr (fun k hk j => av_eff hTH2307 kH2325 ga0 (by decide) (CG_eff [140] (by decide) k hk)) g2308
                have m2328 := (m2309).trans (fR_kept (x_lt hTH2307 kH2325 ga0 (by decide))).symm
                have m2329 := (m2310).trans (fR_kept (x_lt hTH2307 kH2325 ga0 (by decide))).symm
                have m2330 := (m2311).trans (fI_kept (x_lt hTH2307 kH2325 gslq (by decide))).symm
                have m2331 := (m2312).trans (fR_kept (x_lt hTH2307 kH2325 ga0 (by decide))).symm
                have m2332 := (m2313).trans (fI_kept (x_lt hTH2307 kH2325 ga0 (by decide))).symm
                have m2333 := (m2314).trans (fR_kept (x_lt hTH2307 kH2325 ga0 (by decide))).symm
                have m2334 := (m2315).trans (fI_kept (x_lt hTH2307 kH2325 gq2293 (by decide))).symm
                have m2335 := (m2316).trans (fI_kept (x_lt hTH2307 kH2325 gq2287 (by decide))).symm
                have m2336 := (eq2319).trans (fR_kept (x_lt hTH2307 kH2325 ga0 (by decide))).symm
                have ro2337 : ∀ j : Nat, j ≠ (16 * x1.toNatClampNeg + x2266.toNatClampNeg) → fI H2325 kq j = fI s.heap kq j := fun j hj => (fI_kept (x_lt hTH2307 kH2325 gkq (by decide))).trans (ro2317 j hj)
                have rv2338 : fI s.heap kq (16 * x1.toNatClampNeg + x2266.toNatClampNeg) = x2272 := rv2318
                refine W.eq (g2 := F0 m 126 ls2276 [.int x2326, .int x2323, .ref q2319]) rfl ?_
                refine x_iast C hTH2325 hSH2325 gq2319 rg_144 (by omega) (by show _ < ((144 : Nat) : Int); omega) (i_rng x2326) (AE_in gq2319 (by decide)) dX10_findsTable_126 (fun H2339 locsH2339 hTH2339 hSH2339 wH2339 => ?_)
                clear m2309 m2310 m2311 m2312 m2313 m2314 m2315 m2316
                have g2340 : CG (avw K H2339 a0) := CG.congr (fun k hk j => av_arr hTH2325 ga0 wH2339 gq2319 (by decide) (CG_ok 144 (by decide) k hk)) g2327
                have m2341 := m2328.trans (Wr.neR wH2339 (Or.inl (G_ne ga0 gq2319 (by decide)))).symm
                have m2342 := m2329.trans (Wr.neR wH2339 (Or.inl (G_ne ga0 gq2319 (by decide)))).symm
                have m2343 := m2330.trans (Wr.neI wH2339 (Or.inl (G_ne gslq gq2319 (by decide)))).symm
                have m2344 := m2331.trans (Wr.neR wH2339 (Or.inl (G_ne ga0 gq2319 (by decide)))).symm
                have m2345 := m2332.trans (Wr.neI wH2339 (Or.inl (G_ne ga0 gq2319 (by decide)))).symm
                have m2346 := m2333.trans (Wr.neR wH2339 (Or.inl (G_ne ga0 gq2319 (by decide)))).symm
                have m2347 := m2334.trans (Wr.neI wH2339 (Or.inl (G_ne gq2293 gq2319 (by decide)))).symm
                have m2348 := m2335.trans (Wr.neI wH2339 (Or.inl (G_ne gq2287 gq2319 (by decide)))).symm
                have m2349 := m2336.trans (Wr.neR wH2339 (Or.inl (G_ne ga0 gq2319 (by decide)))).symm
                have m2350 := Wr.I wH2339
                have m2350 := m2350.symm
                have ro2351 : ∀ j : Nat, j ≠ (16 * x1.toNatClampNeg + x2266.toNatClampNeg) → fI H2339 kq j = fI s.heap kq j := fun j hj => (Wr.neI wH2339 (Or.inl (G_ne gkq gq2319 (by decide)))).trans (ro2337 j hj)
                have rv2352 : fI s.heap kq (16 * x1.toNatClampNeg + x2266.toNatClampNeg) = x2272 := rv2338
                obtain ⟨x2353, ex2353⟩ : ∃ y : Int32, y = x2280 + 1 := ⟨_, rfl⟩
                have tx2353 := i_add ex2353 (by omega)
                refine lv_iinc (v := x2353) (lv' := [(5, .int x2353), (0, .ref a0), (1, .int x1), (2, .int x2266), (3, .int x2272), (4, .int x2273)]) hx hb dX10_findsTable_127 hl2277 (k := 5) rfl (by rw [ex2353]; rfl) (by decide) rfl (fun ls2354 hl2355 => ?_)
                refine lv_goto (tgt := 63) hx hb dX10_findsTable_130 (by decide) ?_
                exact ih63  ls2354 H2339 locsH2339 (x2353) (lv_sub hl2355 [1, 2, 3, 4, 5, 0] rfl) hTH2339 hSH2339 (by have := i_rng x2272; omega) (by have := i_rng x2273; omega) (by have := i_rng x2353; omega) m2341 m2342 m2343 g2340 (by omega) ro2351 rv2352
          refine lv_iload hx hb dX10_findsTable_27 (lv_at hl2270 4 rfl) ?_
          refine lv_iconst (v := 5) hx hb dX10_findsTable_29 (by decide) ?_
          refine lv_icmp_gt (tgt := 139) hx hb dX10_findsTable_30 (by decide) (fun c2356 => ?_) (fun c2356 => ?_)
          · have k2357 := i_lt c2356
            refine lv_aload_n hx hb dX10_findsTable_139 rfl (lv_at hl2270 0 rfl) ?_
            refine x_gr C hTH2268 (ci := 10) (k := 5) rfl inX10 (by decide) wF_X10_17 ga0 rg_112 rfl dX10_findsTable_140 (fun q2358 eq2358 gq2358 => ?_)
            have uq2358 : kq = q2358 := (cy2274_1).trans eq2358.symm
            subst uq2358
            refine lv_bipush (v := 16) hx hb dX10_findsTable_143 (by decide) ?_
            refine lv_iload_n hx hb dX10_findsTable_145 rfl (lv_at hl2270 1 rfl) ?_
            refine lv_imul hx hb dX10_findsTable_146 ?_
            refine lv_topi (fun x2359 ex2359 => ?_)
            have tx2359 := i_mul ex2359 (by rw [n_16]; omega)
            rw [n_16] at tx2359
            refine lv_iload_n hx hb dX10_findsTable_147 rfl (lv_at hl2270 2 rfl) ?_
            refine lv_iadd hx hb dX10_findsTable_148 ?_
            refine lv_topi (fun x2360 ex2360 => ?_)
            have tx2360 := i_add ex2360 (by omega)
            refine lv_iload_n hx hb dX10_findsTable_149 rfl (lv_at hl2270 3 rfl) ?_
            refine x_iast C hTH2268 hSH2268 gkq rg_114 (by omega) (by show _ < ((160 : Nat) : Int); omega) (i_rng x2272) (AE_in gkq (by decide)) dX10_findsTable_150 (fun H2361 locsH2361 hTH2361 hSH2361 wH2361 => ?_)
            have g2362 : CG (avw K H2361 a0) := CG.congr (fun k hk j => av_arr hTH2268 ga0 wH2361 gkq (by decide) (CG_ok 114 (by decide) k hk)) gy2274_CG
            have m2363 := cy2274_0.trans (Wr.neR wH2361 (Or.inl (G_ne ga0 gkq (by decide)))).symm
            have m2364 := cy2274_1.trans (Wr.neR wH2361 (Or.inl (G_ne ga0 gkq (by decide)))).symm
            have m2365 := cy2274_2.trans (Wr.neI wH2361 (Or.inl (G_ne gslq gkq (by decide)))).symm
            have m2366 := Wr.I wH2361
            have m2366 := m2366.symm
            have cn_x1 := i_cl (x := x1) (by omega)
            have cn_x2266 := i_cl (x := x2266) bx2266.1
            have cn_x2360 := i_cl (x := x2360) (by omega)
            have hixH2361 : x2360.toNatClampNeg = (16 * x1.toNatClampNeg + x2266.toNatClampNeg) := by omega
            have ro2367 : ∀ j : Nat, fI H2361 kq j = fI s.heap kq j := fun j => if hj : j = (16 * x1.toNatClampNeg + x2266.toNatClampNeg) then (by subst hj; rw [← hixH2361, Wr.I wH2361, hixH2361]; exact hrv27_w.symm) else (Wr.neI wH2361 (Or.inr (by omega))).trans (hro27_kq j hj)
            have rv2368 : fI s.heap kq (16 * x1.toNatClampNeg + x2266.toNatClampNeg) = x2272 := hrv27_w
            obtain ⟨x2369, ex2369⟩ : ∃ y : Int32, y = x2266 + 1 := ⟨_, rfl⟩
            have tx2369 := i_add ex2369 (by omega)
            refine lv_iinc (v := x2369) (lv' := [(2, .int x2369), (0, .ref a0), (1, .int x1), (3, .int x2272), (4, .int x2273)]) hx hb dX10_findsTable_151 hl2270 (k := 2) rfl (by rw [ex2369]; rfl) (by decide) rfl (fun ls2370 hl2371 => ?_)
            refine lv_goto (tgt := 2) hx hb dX10_findsTable_154 (by decide) ?_
            exact ih2  ls2370 H2361 locsH2361 (x2369) (lv_sub hl2371 [1, 2, 0] rfl) hTH2361 hSH2361 (by have := i_rng x2369; omega) m2363 m2364 m2365 g2362 (by omega) ro2367
          · have k2357 := i_nlt c2356
            refine lv_iload_n hx hb dX10_findsTable_33 rfl (lv_at hl2270 3 rfl) ?_
            refine lv_iload hx hb dX10_findsTable_34 (lv_at hl2270 4 rfl) ?_
            refine lv_icmp_le (tgt := 139) hx hb dX10_findsTable_36 (by decide) (fun c2372 => ?_) (fun c2372 => ?_)
            · have k2373 := i_le c2372
              refine lv_aload_n hx hb dX10_findsTable_139 rfl (lv_at hl2270 0 rfl) ?_
              refine x_gr C hTH2268 (ci := 10) (k := 5) rfl inX10 (by decide) wF_X10_17 ga0 rg_112 rfl dX10_findsTable_140 (fun q2374 eq2374 gq2374 => ?_)
              have uq2374 : kq = q2374 := (cy2274_1).trans eq2374.symm
              subst uq2374
              refine lv_bipush (v := 16) hx hb dX10_findsTable_143 (by decide) ?_
              refine lv_iload_n hx hb dX10_findsTable_145 rfl (lv_at hl2270 1 rfl) ?_
              refine lv_imul hx hb dX10_findsTable_146 ?_
              refine lv_topi (fun x2375 ex2375 => ?_)
              have tx2375 := i_mul ex2375 (by rw [n_16]; omega)
              rw [n_16] at tx2375
              refine lv_iload_n hx hb dX10_findsTable_147 rfl (lv_at hl2270 2 rfl) ?_
              refine lv_iadd hx hb dX10_findsTable_148 ?_
              refine lv_topi (fun x2376 ex2376 => ?_)
              have tx2376 := i_add ex2376 (by omega)
              refine lv_iload_n hx hb dX10_findsTable_149 rfl (lv_at hl2270 3 rfl) ?_
              refine x_iast C hTH2268 hSH2268 gkq rg_114 (by omega) (by show _ < ((160 : Nat) : Int); omega) (i_rng x2272) (AE_in gkq (by decide)) dX10_findsTable_150 (fun H2377 locsH2377 hTH2377 hSH2377 wH2377 => ?_)
              have g2378 : CG (avw K H2377 a0) := CG.congr (fun k hk j => av_arr hTH2268 ga0 wH2377 gkq (by decide) (CG_ok 114 (by decide) k hk)) gy2274_CG
              have m2379 := cy2274_0.trans (Wr.neR wH2377 (Or.inl (G_ne ga0 gkq (by decide)))).symm
              have m2380 := cy2274_1.trans (Wr.neR wH2377 (Or.inl (G_ne ga0 gkq (by decide)))).symm
              have m2381 := cy2274_2.trans (Wr.neI wH2377 (Or.inl (G_ne gslq gkq (by decide)))).symm
              have m2382 := Wr.I wH2377
              have m2382 := m2382.symm
              have cn_x1 := i_cl (x := x1) (by omega)
              have cn_x2266 := i_cl (x := x2266) bx2266.1
              have cn_x2376 := i_cl (x := x2376) (by omega)
              have hixH2377 : x2376.toNatClampNeg = (16 * x1.toNatClampNeg + x2266.toNatClampNeg) := by omega
              have ro2383 : ∀ j : Nat, fI H2377 kq j = fI s.heap kq j := fun j => if hj : j = (16 * x1.toNatClampNeg + x2266.toNatClampNeg) then (by subst hj; rw [← hixH2377, Wr.I wH2377, hixH2377]; exact hrv27_w.symm) else (Wr.neI wH2377 (Or.inr (by omega))).trans (hro27_kq j hj)
              have rv2384 : fI s.heap kq (16 * x1.toNatClampNeg + x2266.toNatClampNeg) = x2272 := hrv27_w
              obtain ⟨x2385, ex2385⟩ : ∃ y : Int32, y = x2266 + 1 := ⟨_, rfl⟩
              have tx2385 := i_add ex2385 (by omega)
              refine lv_iinc (v := x2385) (lv' := [(2, .int x2385), (0, .ref a0), (1, .int x1), (3, .int x2272), (4, .int x2273)]) hx hb dX10_findsTable_151 hl2270 (k := 2) rfl (by rw [ex2385]; rfl) (by decide) rfl (fun ls2386 hl2387 => ?_)
              refine lv_goto (tgt := 2) hx hb dX10_findsTable_154 (by decide) ?_
              exact ih2  ls2386 H2377 locsH2377 (x2385) (lv_sub hl2387 [1, 2, 0] rfl) hTH2377 hSH2377 (by have := i_rng x2385; omega) m2379 m2380 m2381 g2378 (by omega) ro2383
            · have k2373 := i_nle c2372
              refine lv_aload_n hx hb dX10_findsTable_39 rfl (lv_at hl2270 0 rfl) ?_
              refine x_gr C hTH2268 (ci := 10) (k := 5) rfl inX10 (by decide) wF_X10_17 ga0 rg_112 rfl dX10_findsTable_40 (fun q2388 eq2388 gq2388 => ?_)
              have uq2388 : kq = q2388 := (cy2274_1).trans eq2388.symm
              subst uq2388
              refine lv_bipush (v := 16) hx hb dX10_findsTable_43 (by decide) ?_
              refine lv_iload_n hx hb dX10_findsTable_45 rfl (lv_at hl2270 1 rfl) ?_
              refine lv_imul hx hb dX10_findsTable_46 ?_
              refine lv_topi (fun x2389 ex2389 => ?_)
              have tx2389 := i_mul ex2389 (by rw [n_16]; omega)
              rw [n_16] at tx2389
              refine lv_iload_n hx hb dX10_findsTable_47 rfl (lv_at hl2270 2 rfl) ?_
              refine lv_iadd hx hb dX10_findsTable_48 ?_
              refine lv_topi (fun x2390 ex2390 => ?_)
              have tx2390 := i_add ex2390 (by omega)
              refine lv_iload_n hx hb dX10_findsTable_49 rfl (lv_at hl2270 3 rfl) ?_
              refine lv_iload hx hb dX10_findsTable_50 (lv_at hl2270 4 rfl) ?_
              refine lv_isub hx hb dX10_findsTable_52 ?_
              refine lv_topi (fun x2391 ex2391 => ?_)
              have tx2391 := i_sub ex2391 (by have := i_rng x2272; omega)
              refine x_iast C hTH2268 hSH2268 gkq rg_114 (by omega) (by show _ < ((160 : Nat) : Int); omega) (i_rng x2391) (AE_in gkq (by decide)) dX10_findsTable_53 (fun H2392 locsH2392 hTH2392 hSH2392 wH2392 => ?_)
              have g2393 : CG (avw K H2392 a0) := CG.congr (fun k hk j => av_arr hTH2268 ga0 wH2392 gkq (by decide) (CG_ok 114 (by decide) k hk)) gy2274_CG
              have m2394 := cy2274_0.trans (Wr.neR wH2392 (Or.inl (G_ne ga0 gkq (by decide)))).symm
              have m2395 := cy2274_1.trans (Wr.neR wH2392 (Or.inl (G_ne ga0 gkq (by decide)))).symm
              have m2396 := cy2274_2.trans (Wr.neI wH2392 (Or.inl (G_ne gslq gkq (by decide)))).symm
              have m2397 := Wr.I wH2392
              have m2397 := m2397.symm
              have cn_x1 := i_cl (x := x1) (by omega)
              have cn_x2266 := i_cl (x := x2266) bx2266.1
              have cn_x2390 := i_cl (x := x2390) (by omega)
              have ro2398 : ∀ j : Nat, j ≠ (16 * x1.toNatClampNeg + x2266.toNatClampNeg) → fI H2392 kq j = fI s.heap kq j := fun j hj => (Wr.neI wH2392 (Or.inr (by omega))).trans (hro27_kq j hj)
              have rv2399 : fI s.heap kq (16 * x1.toNatClampNeg + x2266.toNatClampNeg) = x2272 := hrv27_w
              refine lv_aload_n hx hb dX10_findsTable_54 rfl (lv_at hl2270 0 rfl) ?_
              refine lv_iload_n hx hb dX10_findsTable_55 rfl (lv_at hl2270 1 rfl) ?_
              refine lv_iload_n hx hb dX10_findsTable_56 rfl (lv_at hl2270 2 rfl) ?_
              refine x_V (As := [.int x1, .int x2266]) (rest := []) C (a_X10_asksSlice l K G H2392 (x1) (x2266) hTH2392 ga0 (by omega) (by omega)) yo_X10_asksSlice wM_X10_316 ⟨⟨by decide, by decide⟩, by decide, by decide⟩ (x_rv C hTH2392 (ci := 10) rfl ga0 rg_112) rfl hl2270.1 rfl (Nat.le_of_ble_eq_true rfl) dX10_findsTable_57 hSH2392 (AE_sub (fun _ _ => rfl) (by decide) hSH2392.1) (fun vH2400 H2400 locsH2400 pH2400 zH2400 kH2400 hSH2400 => ?_)
              obtain ⟨hvH2400, hTH2400⟩ := pH2400
              subst hvH2400
              have g2401 : CG (avw K H2400 a0) := CG.congr (fun k hk j => av_eff hTH2392 kH2400 ga0 (by decide) (CG_eff [139] (by decide) k hk)) g2393
              have m2402 := (m2394).trans (fR_kept (x_lt hTH2392 kH2400 ga0 (by decide))).symm
              have m2403 := (m2395).trans (fR_kept (x_lt hTH2392 kH2400 ga0 (by decide))).symm
              have m2404 := (m2396).trans (fI_kept (x_lt hTH2392 kH2400 gslq (by decide))).symm
              have m2405 := (m2397).trans (fI_kept (x_lt hTH2392 kH2400 gkq (by decide))).symm
              have ro2406 : ∀ j : Nat, j ≠ (16 * x1.toNatClampNeg + x2266.toNatClampNeg) → fI H2400 kq j = fI s.heap kq j := fun j hj => (fI_kept (x_lt hTH2392 kH2400 gkq (by decide))).trans (ro2398 j hj)
              have rv2407 : fI s.heap kq (16 * x1.toNatClampNeg + x2266.toNatClampNeg) = x2272 := rv2399
              refine W.eq (g2 := F0 m 60 ls2269 []) rfl ?_
              refine lv_iconst (v := 0) hx hb dX10_findsTable_60 (by decide) ?_
              refine lv_istore (lv' := [(5, .int 0), (0, .ref a0), (1, .int x1), (2, .int x2266), (3, .int x2272), (4, .int x2273)]) hx hb dX10_findsTable_61 hl2270 (by decide) rfl (fun ls2408 hl2409 => ?_)
              exact J63 ((3 - (0 : Int32).toInt).toNat + 1)  ls2408 H2400 locsH2400 (0) (lv_sub hl2409 [1, 2, 3, 4, 5, 0] rfl) hTH2400 hSH2400 (by have := i_rng x2272; omega) (by have := i_rng x2273; omega) (by decide) m2402 m2403 m2404 g2401 (by omega) ro2406 rv2407
      refine lv_iload_n hx hb dX10_findsTable_2 rfl (lv_at hl2265 2 rfl) ?_
      refine lv_aload_n hx hb dX10_findsTable_3 rfl (lv_at hl2265 0 rfl) ?_
      refine x_gr C hTH2263 (ci := 10) (k := 4) rfl inX10 (by decide) wF_X10_13 ga0 rg_112 rfl dX10_findsTable_4 (fun q2410 eq2410 gq2410 => ?_)
      have uq2410 : slq = q2410 := (cy2267_0).trans eq2410.symm
      subst uq2410
      refine lv_iload_n hx hb dX10_findsTable_7 rfl (lv_at hl2265 1 rfl) ?_
      refine x_ai C hTH2263 gslq rg_113 ⟨by omega, by show _ < ((10 : Nat) : Int); omega⟩ dX10_findsTable_8 (fun x2411 ex2411 bx2411 => ?_)
      have ux2411 : sz = x2411 := (cy2267_2).trans ex2411.symm
      subst ux2411
      refine lv_icmp_ge (tgt := 157) hx hb dX10_findsTable_9 (by decide) (fun c2412 => ?_) (fun c2412 => ?_)
      · have k2413 := i_le c2412
        exact x_vret C hQ dX10_findsTable_157 hSH2263 (by decide) (by decide) (⟨rfl, hro2_kq, hTH2263⟩)
      · have k2413 := i_nle c2412
        refine lv_aload_n hx hb dX10_findsTable_12 rfl (lv_at hl2265 0 rfl) ?_
        refine x_gr C hTH2263 (ci := 10) (k := 5) rfl inX10 (by decide) wF_X10_17 ga0 rg_112 rfl dX10_findsTable_13 (fun q2414 eq2414 gq2414 => ?_)
        have uq2414 : kq = q2414 := (cy2267_1).trans eq2414.symm
        subst uq2414
        refine lv_bipush (v := 16) hx hb dX10_findsTable_16 (by decide) ?_
        refine lv_iload_n hx hb dX10_findsTable_18 rfl (lv_at hl2265 1 rfl) ?_
        refine lv_imul hx hb dX10_findsTable_19 ?_
        refine lv_topi (fun x2415 ex2415 => ?_)
        have tx2415 := i_mul ex2415 (by rw [n_16]; omega)
        rw [n_16] at tx2415
        refine lv_iload_n hx hb dX10_findsTable_20 rfl (lv_at hl2265 2 rfl) ?_
        refine lv_iadd hx hb dX10_findsTable_21 ?_
        refine lv_topi (fun x2416 ex2416 => ?_)
        have tx2416 := i_add ex2416 (by omega)
        refine x_ai C hTH2263 gkq rg_114 ⟨by omega, by show _ < ((160 : Nat) : Int); omega⟩ dX10_findsTable_22 (fun x2417 ex2417 bx2417 => ?_)
        refine lv_istore_n (lv' := [(3, .int x2417), (0, .ref a0), (1, .int x1), (2, .int x2266)]) hx hb dX10_findsTable_23 rfl hl2265 (by decide) rfl (fun ls2418 hl2419 => ?_)
        refine lv_iconst (v := 0) hx hb dX10_findsTable_24 (by decide) ?_
        refine lv_istore (lv' := [(4, .int 0), (3, .int x2417), (0, .ref a0), (1, .int x1), (2, .int x2266)]) hx hb dX10_findsTable_25 hl2419 (by decide) rfl (fun ls2420 hl2421 => ?_)
        have cn_x1 := i_cl (x := x1) (by omega)
        have cn_x2266 := i_cl (x := x2266) bx2266.1
        have cn_x2416 := i_cl (x := x2416) (by omega)
        have rx2422 : x2417 = fI s.heap kq (16 * x1.toNatClampNeg + x2266.toNatClampNeg) := ex2417.trans ((hro2_kq _).trans (by rw [show x2416.toNatClampNeg = (16 * x1.toNatClampNeg + x2266.toNatClampNeg) by omega]))
        exact J27 ((6 - (0 : Int32).toInt).toNat + 1)  ls2420 H2263 locsH2263 (x2417) (0) (lv_sub hl2421 [2, 3, 4, 1, 0] rfl) hTH2263 hSH2263 (by have := i_rng x2266; omega) (by decide) cy2267_0 cy2267_1 cy2267_2 gy2267_CG (by omega) (fun j _ => hro2_kq j) rx2422.symm
  refine lv_iconst (v := 0) hx hb dX10_findsTable_0 (by decide) ?_
  refine lv_istore_n (lv' := [(2, .int 0), (0, .ref a0), (1, .int x1)]) hx hb dX10_findsTable_1 rfl hl (by decide) rfl (fun ls2423 hl2424 => ?_)
  exact J2 ((8 - (0 : Int32).toInt).toNat + 1)  ls2423 s.heap [] (0) (lv_sub hl2424 [1, 2, 0] rfl) hT hS (by decide) eslq ekq esz hg_CG (by omega) ro0_kq

set_option maxHeartbeats 4000000 in
set_option maxRecDepth 100000 in
theorem a_X10_findsFewest_k (l : Launch) (K : KE) (G : Nat → Option Nat) (H : Heap) {a0 : Nat} (x1 : Int32) {slq : Nat} {rq : Nat} {kq : Nat} (sz : Int32) (hT : TY K G H) (ga0 : G a0 = some 112) (hx1 : 0 ≤ x1.toInt ∧ x1.toInt ≤ 9) (gslq : G slq = some 113) (eslq : @Eq Ad slq (fR H a0 (K.1.2 10 4))) (grq : G rq = some 141) (erq : @Eq Ad rq (fR H a0 (K.1.2 10 45))) (gkq : G kq = some 114) (ekq : @Eq Ad kq (fR H a0 (K.1.2 10 5))) (esz : sz = fI H slq (x1 : Int32).toNatClampNeg) (hg_CG : CG (avw K H a0)) (hp0 : sz.toInt ≤ 8) (hp1 : 1 ≤ sz.toInt) : MX l K yX10_findsFewest cX10_findsFewest 4 (some .int) 5 122 0 0 [.ref a0, .int x1] H (AE G [114, 143, 144, 145, 141, 140, 139] H.size) (fun v H1 => ∃ (r : Int32), v = some (.int r) ∧ ((-1) ≤ r.toInt ∧ r.toInt ≤ 5) ∧ (∀ j : Nat, fI H1 kq j = fI H kq j) ∧ TY K G H1) := by
  refine MX.of (by decide +kernel) (Nat.le_of_ble_eq_true rfl) ?_
  intro p e s m below meth c ls Q C hH hl hQ
  subst hH
  have C : CX p K s m _ meth c RX10 cX10_findsFewest 4 (some .int) "findsFewest" := C
  obtain ⟨hx, hb, hml, hown, hts, hKT, hr, hlocks, hnm⟩ := id C
  have hl : lv_has ls 4 [(0, .ref a0), (1, .int x1)] := hl
  have hS : va_S (AE G [114, 143, 144, 145, 141, 140, 139] s.heap.size) s.heap s.heap [] := va_S.rf
  have n_m1 : ((-1) : Int32).toInt = -1 := rfl
  have n_0 : (0 : Int32).toInt = 0 := rfl
  have n_1 : (1 : Int32).toInt = 1 := rfl
  have n_5 : (5 : Int32).toInt = 5 := rfl
  have bsz := ty_ai (x := sz) esz hT gslq rg_113 (by omega)
  have hap : ∀ x y, x < 74 → y < 74 → x ≠ y → K.1.2 10 x ≠ K.1.2 10 y := x_apart hKT hts inX10 tyX10 tyX10_ok nmX10 rfl
  have ro0_kq : ∀ j : Nat, fI s.heap kq j = fI s.heap kq j := fun _ => rfl
  have J7 : ∀ (nf : Nat)  (ls755 : Array Slot) (H754 : Heap) (locsH754 : List Loc) (x757 : Int32), lv_has ls755 4 [(0, .ref a0), (1, .int x1), (2, .int x757)] → TY K G H754 → va_S (AE G [114, 143, 144, 145, 141, 140, 139] s.heap.size) s.heap H754 locsH754 → (0 ≤ x757.toInt ∧ x757.toInt ≤ 6) → (@Eq Ad slq (fR H754 a0 (K.1.2 10 4))) → (@Eq Ad rq (fR H754 a0 (K.1.2 10 45))) → (@Eq Ad kq (fR H754 a0 (K.1.2 10 5))) → (sz = fI H754 slq (x1 : Int32).toNatClampNeg) → (CG (avw K H754 a0)) → (6 - x757.toInt < (nf : Int)) → (∀ j : Nat, fI H754 kq j = fI s.heap kq j) → W p l e ({ frames := 5, cells := 0, slots := 0, locals := 122 } : Room) s m (([.ref a0, .int x1] : List Value).toArray) below meth c H754 locsH754 0 0 Q (F0 m 7 ls755 []) := by
    intro nf
    induction nf with
    | zero =>
      intro  ls755 H754 locsH754 x757 hl756 hTH754 hSH754 bx757 cy758_0 cy758_1 cy758_2 cy758_3 gy758_CG hm7 hro7_kq
      exfalso
      omega
    | succ nf ih7 =>
      intro  ls755 H754 locsH754 x757 hl756 hTH754 hSH754 bx757 cy758_0 cy758_1 cy758_2 cy758_3 gy758_CG hm7 hro7_kq
      have J14 : ∀ (nf : Nat)  (ls760 : Array Slot) (H759 : Heap) (locsH759 : List Loc) (x763 : Int32), lv_has ls760 4 [(0, .ref a0), (1, .int x1), (2, .int x757), (3, .int x763)] → TY K G H759 → va_S (AE G [114, 143, 144, 145, 141, 140, 139] s.heap.size) s.heap H759 locsH759 → (0 ≤ x757.toInt ∧ x757.toInt ≤ 5) → (0 ≤ x763.toInt ∧ x763.toInt ≤ 5) → (@Eq Ad slq (fR H759 a0 (K.1.2 10 4))) → (@Eq Ad rq (fR H759 a0 (K.1.2 10 45))) → (@Eq Ad kq (fR H759 a0 (K.1.2 10 5))) → (sz = fI H759 slq (x1 : Int32).toNatClampNeg) → (AB H759 rq (x763.toNatClampNeg) (0) (0)) → (CG (avw K H759 a0)) → (5 - x763.toInt < (nf : Int)) → (∀ j : Nat, fI H759 kq j = fI s.heap kq j) → W p l e ({ frames := 5, cells := 0, slots := 0, locals := 122 } : Room) s m (([.ref a0, .int x1] : List Value).toArray) below meth c H759 locsH759 0 0 Q (F0 m 14 ls760 []) := by
        intro nf
        induction nf with
        | zero =>
          intro  ls760 H759 locsH759 x763 hl761 hTH759 hSH759 b762 bx763 cy764_0 cy764_1 cy764_2 cy764_3 by764_rw gy764_CG hm14 hro14_kq
          exfalso
          omega
        | succ nf ih14 =>
          intro  ls760 H759 locsH759 x763 hl761 hTH759 hSH759 b762 bx763 cy764_0 cy764_1 cy764_2 cy764_3 by764_rw gy764_CG hm14 hro14_kq
          have J34 : ∀ (nf : Nat) (V : Nat) (ls766 : Array Slot) (H765 : Heap) (locsH765 : List Loc) (x768 : Int32), lv_has ls766 4 [(0, .ref a0), (1, .int x1), (2, .int x757), (3, .int x768)] → TY K G H765 → va_S (AE G [114, 143, 144, 145, 141, 140, 139] s.heap.size) s.heap H765 locsH765 → (0 ≤ x768.toInt ∧ x768.toInt ≤ 1) → (@Eq Ad slq (fR H765 a0 (K.1.2 10 4))) → (@Eq Ad rq (fR H765 a0 (K.1.2 10 45))) → (@Eq Ad kq (fR H765 a0 (K.1.2 10 5))) → (sz = fI H765 slq (x1 : Int32).toNatClampNeg) → (AB H765 rq (x757.toNatClampNeg) (0) (sz.toInt - 1)) → (CG (avw K H765 a0)) → (((sz.toNatClampNeg ^ x757.toNatClampNeg : Nat) : Int) - (V : Int) + x768.toInt < (nf : Int)) → (x768.toInt = 0 ∨ dval (fun j => fI H765 rq j) sz.toNatClampNeg x757.toNatClampNeg = V) → (V ≤ sz.toNatClampNeg ^ x757.toNatClampNeg) → (∀ j : Nat, fI H765 kq j = fI s.heap kq j) → W p l e ({ frames := 5, cells := 0, slots := 0, locals := 122 } : Room) s m (([.ref a0, .int x1] : List Value).toArray) below meth c H765 locsH765 0 0 Q (F0 m 34 ls766 []) := by
            intro nf
            induction nf with
            | zero =>
              intro V ls766 H765 locsH765 x768 hl767 hTH765 hSH765 bx768 cy769_0 cy769_1 cy769_2 cy769_3 by769_rw gy769_CG hm34 hV1 hV2 hro34_kq
              exfalso
              omega
            | succ nf ih34 =>
              intro V ls766 H765 locsH765 x768 hl767 hTH765 hSH765 bx768 cy769_0 cy769_1 cy769_2 cy769_3 by769_rw gy769_CG hm34 hV1 hV2 hro34_kq
              have cn0 := i_cl (x := x757) bx757.1
              refine lv_iload_n hx hb dX10_findsFewest_34 rfl (lv_at hl767 3 rfl) ?_
              refine lv_if_eq (tgt := 64) hx hb dX10_findsFewest_35 (by decide) (fun c770 => ?_) (fun c770 => ?_)
              · have k771 := i_eq c770
                obtain ⟨x772, ex772⟩ : ∃ y : Int32, y = x757 + 1 := ⟨_, rfl⟩
                have tx772 := i_add ex772 (by omega)
                refine lv_iinc (v := x772) (lv' := [(2, .int x772), (0, .ref a0), (1, .int x1), (3, .int x768)]) hx hb dX10_findsFewest_64 hl767 (k := 2) rfl (by rw [ex772]; rfl) (by decide) rfl (fun ls773 hl774 => ?_)
                refine lv_goto (tgt := 7) hx hb dX10_findsFewest_67 (by decide) ?_
                exact ih7  ls773 H765 locsH765 (x772) (lv_sub hl774 [1, 2, 0] rfl) hTH765 hSH765 (by have := i_rng x772; omega) cy769_0 cy769_1 cy769_2 cy769_3 gy769_CG (by omega) hro34_kq
              · have k771 := i_ne c770
                have hv : dval (fun j => fI H765 rq j) sz.toNatClampNeg x757.toNatClampNeg = V := by omega
                have cm0 := i_cl (x := sz) (by omega)
                refine lv_aload_n hx hb dX10_findsFewest_38 rfl (lv_at hl767 0 rfl) ?_
                refine lv_iload_n hx hb dX10_findsFewest_39 rfl (lv_at hl767 1 rfl) ?_
                refine lv_iload_n hx hb dX10_findsFewest_40 rfl (lv_at hl767 2 rfl) ?_
                obtain ⟨q775, eq775⟩ : ∃ z : Nat, @Eq Ad z (fR H765 a0 (K.1.2 10 49)) := ⟨_, rfl⟩
                have gq775 := ty_fr (q := q775) (k := 49) (u := 145) eq775 hTH765 ga0 rg_112 rfl
                refine x_V (As := [.int x1, .int x757]) (rest := []) C (a_X10_does l K G H765 (x1) (x757) (sz) hTH765 ga0 (by omega) (by omega) gslq cy769_0 gq775 eq775 cy769_3 (by omega)) yo_X10_does wM_X10_365 ⟨⟨by decide, by decide⟩, by decide, by decide⟩ (x_rv C hTH765 (ci := 10) rfl ga0 rg_112) rfl hl767.1 rfl (Nat.le_of_ble_eq_true rfl) dX10_findsFewest_41 hSH765 (AE_sub (fun _ _ => rfl) (by decide) hSH765.1) (fun vH776 H776 locsH776 pH776 zH776 kH776 hSH776 => ?_)
                obtain ⟨x777, hvH776, bx777, hTH776⟩ := pH776
                subst hvH776
                have b778 : AB H776 rq (x757.toNatClampNeg) (0) (sz.toInt - 1) := AB.kept (fun j => fI_kept (x_lt hTH765 kH776 grq (by decide))) by769_rw
                have b779 : dval (fun j => fI H776 rq j) (sz.toNatClampNeg) (x757.toNatClampNeg) = V := (dval_congr (fun j => fI_kept (x_lt hTH765 kH776 grq (by decide)))).trans hv
                have g780 : CG (avw K H776 a0) := CG.congr (fun k hk j => av_eff hTH765 kH776 ga0 (by decide) (CG_eff [145] (by decide) k hk)) gy769_CG
                have m781 := (cy769_0).trans (fR_kept (x_lt hTH765 kH776 ga0 (by decide))).symm
                have m782 := (cy769_1).trans (fR_kept (x_lt hTH765 kH776 ga0 (by decide))).symm
                have m783 := (cy769_2).trans (fR_kept (x_lt hTH765 kH776 ga0 (by decide))).symm
                have m784 := (cy769_3).trans (fI_kept (x_lt hTH765 kH776 gslq (by decide))).symm
                have m785 := (eq775).trans (fR_kept (x_lt hTH765 kH776 ga0 (by decide))).symm
                have ro786 : ∀ j : Nat, fI H776 kq j = fI s.heap kq j := fun j => (fI_kept (x_lt hTH765 kH776 gkq (by decide))).trans (hro34_kq j)
                refine W.eq (g2 := F0 m 44 ls766 [.int x777]) rfl ?_
                refine lv_if_eq (tgt := 49) hx hb dX10_findsFewest_44 (by decide) (fun c787 => ?_) (fun c787 => ?_)
                · have k788 := i_eq c787
                  refine lv_aload_n hx hb dX10_findsFewest_49 rfl (lv_at hl767 0 rfl) ?_
                  refine lv_iload_n hx hb dX10_findsFewest_50 rfl (lv_at hl767 2 rfl) ?_
                  refine lv_aload_n hx hb dX10_findsFewest_51 rfl (lv_at hl767 0 rfl) ?_
                  refine x_gr C hTH776 (ci := 10) (k := 4) rfl inX10 (by decide) wF_X10_13 ga0 rg_112 rfl dX10_findsFewest_52 (fun q789 eq789 gq789 => ?_)
                  have uq789 : slq = q789 := (m781).trans eq789.symm
                  subst uq789
                  refine lv_iload_n hx hb dX10_findsFewest_55 rfl (lv_at hl767 1 rfl) ?_
                  refine x_ai C hTH776 gslq rg_113 ⟨by omega, by show _ < ((10 : Nat) : Int); omega⟩ dX10_findsFewest_56 (fun x790 ex790 bx790 => ?_)
                  have ux790 : sz = x790 := (m784).trans ex790.symm
                  subst ux790
                  refine x_V (As := [.int x757, .int sz]) (rest := []) C (a_X10_goesOn l K G H776 (x757) (sz) hTH776 ga0 (by omega) (by omega) grq m782 (AB.weak b778 (by omega) (by omega) (by omega))) yo_X10_goesOn wM_X10_368 ⟨⟨by decide, by decide⟩, by decide, by decide⟩ (x_rv C hTH776 (ci := 10) rfl ga0 rg_112) rfl hl767.1 rfl (Nat.le_of_ble_eq_true rfl) dX10_findsFewest_57 hSH776 (AE_sub (fun _ _ => rfl) (by decide) hSH776.1) (fun vH791 H791 locsH791 pH791 zH791 kH791 hSH791 => ?_)
                  obtain ⟨x792, hvH791, bx792, b793, m794, hTH791⟩ := pH791
                  subst hvH791
                  have g795 : CG (avw K H791 a0) := CG.congr (fun k hk j => av_eff hTH776 kH791 ga0 (by decide) (CG_eff [141] (by decide) k hk)) g780
                  have m796 := (m781).trans (fR_kept (x_lt hTH776 kH791 ga0 (by decide))).symm
                  have m797 := (m782).trans (fR_kept (x_lt hTH776 kH791 ga0 (by decide))).symm
                  have m798 := (m783).trans (fR_kept (x_lt hTH776 kH791 ga0 (by decide))).symm
                  have m799 := (m784).trans (fI_kept (x_lt hTH776 kH791 gslq (by decide))).symm
                  have m800 := (m785).trans (fR_kept (x_lt hTH776 kH791 ga0 (by decide))).symm
                  have ro801 : ∀ j : Nat, fI H791 kq j = fI s.heap kq j := fun j => (fI_kept (x_lt hTH776 kH791 gkq (by decide))).trans (ro786 j)
                  refine W.eq (g2 := F0 m 60 ls766 [.int x792]) rfl ?_
                  refine lv_istore_n (lv' := [(3, .int x792), (0, .ref a0), (1, .int x1), (2, .int x757)]) hx hb dX10_findsFewest_60 rfl hl767 (by decide) rfl (fun ls802 hl803 => ?_)
                  refine lv_goto (tgt := 34) hx hb dX10_findsFewest_61 (by decide) ?_
                  have cl_x757 := cn0
                  have cg := i_cl (x := x792) bx792.1
                  have hlt := dval_lt (m := sz.toNatClampNeg) b793 (by omega)
                  have hgo := m794
                  have hdv := b779
                  exact ih34 (V + x792.toNatClampNeg) ls802 H791 locsH791 (x792) (lv_sub hl803 [1, 2, 3, 0] rfl) hTH791 hSH791 bx792 m796 m797 m798 m799 (AB.weak b793 (by omega) (by omega) (by omega)) g795 (by omega) (by omega) (by omega) ro801
                · have k788 := i_ne c787
                  refine lv_iload_n hx hb dX10_findsFewest_47 rfl (lv_at hl767 2 rfl) ?_
                  exact x_iret C hQ dX10_findsFewest_48 hSH776 (by decide) (by decide) (⟨x757, rfl, by omega, ro786, hTH776⟩)
          refine lv_iload_n hx hb dX10_findsFewest_14 rfl (lv_at hl761 3 rfl) ?_
          refine lv_iload_n hx hb dX10_findsFewest_15 rfl (lv_at hl761 2 rfl) ?_
          refine lv_icmp_ge (tgt := 32) hx hb dX10_findsFewest_16 (by decide) (fun c804 => ?_) (fun c804 => ?_)
          · have k805 := i_le c804
            refine lv_iconst (v := 1) hx hb dX10_findsFewest_32 (by decide) ?_
            refine lv_istore_n (lv' := [(3, .int 1), (0, .ref a0), (1, .int x1), (2, .int x757)]) hx hb dX10_findsFewest_33 rfl hl761 (by decide) rfl (fun ls806 hl807 => ?_)
            have cl_x757 := i_cl (x := x757) bx757.1
            have cl_x763 := i_cl (x := x763) bx763.1
            exact J34 ((((sz.toNatClampNeg ^ x757.toNatClampNeg : Nat) : Int) - ((0 : Nat) : Int) + (1 : Int32).toInt).toNat + 1) (0 : Nat) ls806 H759 locsH759 (1) (lv_sub hl807 [1, 2, 3, 0] rfl) hTH759 hSH759 (by decide) cy764_0 cy764_1 cy764_2 cy764_3 (AB.weak by764_rw (by omega) (by omega) (by omega)) gy764_CG (by omega) (Or.inr (dval_zero (AB.weak by764_rw (by omega) (by omega) (by omega)))) (Nat.zero_le _) hro14_kq
          · have k805 := i_nle c804
            refine lv_aload_n hx hb dX10_findsFewest_19 rfl (lv_at hl761 0 rfl) ?_
            refine x_gr C hTH759 (ci := 10) (k := 45) rfl inX10 (by decide) wF_X10_101 ga0 rg_112 rfl dX10_findsFewest_20 (fun q808 eq808 gq808 => ?_)
            have uq808 : rq = q808 := (cy764_1).trans eq808.symm
            subst uq808
            refine lv_iload_n hx hb dX10_findsFewest_23 rfl (lv_at hl761 3 rfl) ?_
            refine lv_iconst (v := 0) hx hb dX10_findsFewest_24 (by decide) ?_
            refine x_iast C hTH759 hSH759 grq rg_141 bx763.1 (by show _ < ((5 : Nat) : Int); omega) (by decide) (AE_in grq (by decide)) dX10_findsFewest_25 (fun H809 locsH809 hTH809 hSH809 wH809 => ?_)
            have g810 : CG (avw K H809 a0) := CG.congr (fun k hk j => av_arr hTH759 ga0 wH809 grq (by decide) (CG_ok 141 (by decide) k hk)) gy764_CG
            have cjH809 := i_cl (x := x763) bx763.1
            have b811 : AB H809 rq (x763.toNatClampNeg + 1) (0) (0) := (AB.ext wH809 (by decide) by764_rw (by omega) rfl)
            have m812 := cy764_0.trans (Wr.neR wH809 (Or.inl (G_ne ga0 grq (by decide)))).symm
            have m813 := cy764_1.trans (Wr.neR wH809 (Or.inl (G_ne ga0 grq (by decide)))).symm
            have m814 := cy764_2.trans (Wr.neR wH809 (Or.inl (G_ne ga0 grq (by decide)))).symm
            have m815 := cy764_3.trans (Wr.neI wH809 (Or.inl (G_ne gslq grq (by decide)))).symm
            have m816 := Wr.I wH809
            have ro817 : ∀ j : Nat, fI H809 kq j = fI s.heap kq j := fun j => (Wr.neI wH809 (Or.inl (G_ne gkq grq (by decide)))).trans (hro14_kq j)
            obtain ⟨x818, ex818⟩ : ∃ y : Int32, y = x763 + 1 := ⟨_, rfl⟩
            have tx818 := i_add ex818 (by omega)
            refine lv_iinc (v := x818) (lv' := [(3, .int x818), (0, .ref a0), (1, .int x1), (2, .int x757)]) hx hb dX10_findsFewest_26 hl761 (k := 3) rfl (by rw [ex818]; rfl) (by decide) rfl (fun ls819 hl820 => ?_)
            refine lv_goto (tgt := 14) hx hb dX10_findsFewest_29 (by decide) ?_
            have cl_x763 := cjH809
            have cl_x818 := i_cl (x := x818) (by omega)
            exact ih14  ls819 H809 locsH809 (x818) (lv_sub hl820 [1, 2, 3, 0] rfl) hTH809 hSH809 (by have := i_rng x757; omega) (by have := i_rng x818; omega) m812 m813 m814 m815 (AB.weak b811 (by omega) (by omega) (by omega)) g810 (by omega) ro817
      refine lv_iload_n hx hb dX10_findsFewest_7 rfl (lv_at hl756 2 rfl) ?_
      refine lv_iconst (v := 5) hx hb dX10_findsFewest_8 (by decide) ?_
      refine lv_icmp_gt (tgt := 70) hx hb dX10_findsFewest_9 (by decide) (fun c821 => ?_) (fun c821 => ?_)
      · have k822 := i_lt c821
        refine lv_iconst (v := (-1)) hx hb dX10_findsFewest_70 (by decide) ?_
        exact x_iret C hQ dX10_findsFewest_71 hSH754 (by decide) (by decide) (⟨(-1), rfl, by decide, hro7_kq, hTH754⟩)
      · have k822 := i_nlt c821
        refine lv_iconst (v := 0) hx hb dX10_findsFewest_12 (by decide) ?_
        refine lv_istore_n (lv' := [(3, .int 0), (0, .ref a0), (1, .int x1), (2, .int x757)]) hx hb dX10_findsFewest_13 rfl hl756 (by decide) rfl (fun ls823 hl824 => ?_)
        have cl_0 := i_cl (x := (0 : Int32)) (by omega)
        exact J14 ((5 - (0 : Int32).toInt).toNat + 1)  ls823 H754 locsH754 (0) (lv_sub hl824 [1, 2, 3, 0] rfl) hTH754 hSH754 (by have := i_rng x757; omega) (by decide) cy758_0 cy758_1 cy758_2 cy758_3 (AB.weak (AB.nil (H := H754) (q := rq) (lo := 0) (hi := 0)) (by omega) (by omega) (by omega)) gy758_CG (by omega) hro7_kq
  refine lv_aload_n hx hb dX10_findsFewest_0 rfl (lv_at hl 0 rfl) ?_
  refine lv_iload_n hx hb dX10_findsFewest_1 rfl (lv_at hl 1 rfl) ?_
  refine x_V (As := [.int x1]) (rest := []) C (a_X10_findsTable_k l K G s.heap (x1) (sz) hT ga0 (by omega) gslq eslq gkq ekq esz hg_CG (by omega)) yo_X10_findsTable wM_X10_362 ⟨⟨by decide, by decide⟩, by decide, by decide⟩ (x_rv C hT (ci := 10) rfl ga0 rg_112) rfl hl.1 rfl (Nat.le_of_ble_eq_true rfl) dX10_findsFewest_2 hS (AE_sub (fun _ _ => rfl) (by decide) hS.1) (fun vH825 H825 locsH825 pH825 zH825 kH825 hSH825 => ?_)
  obtain ⟨hvH825, m826, hTH825⟩ := pH825
  subst hvH825
  have g827 : CG (avw K H825 a0) := CG.congr (fun k hk j => av_eff hT kH825 ga0 (by decide) (CG_eff [114, 143, 144, 140, 139] (by decide) k hk)) hg_CG
  have m828 := (eslq).trans (fR_kept (x_lt hT kH825 ga0 (by decide))).symm
  have m829 := (erq).trans (fR_kept (x_lt hT kH825 ga0 (by decide))).symm
  have m830 := (ekq).trans (fR_kept (x_lt hT kH825 ga0 (by decide))).symm
  have m831 := (esz).trans (fI_kept (x_lt hT kH825 gslq (by decide))).symm
  have ro832 : ∀ j : Nat, fI H825 kq j = fI s.heap kq j := fun j => (m826 j).trans (ro0_kq j)
  refine W.eq (g2 := F0 m 5 ls []) rfl ?_
  refine lv_iconst (v := 0) hx hb dX10_findsFewest_5 (by decide) ?_
  refine lv_istore_n (lv' := [(2, .int 0), (0, .ref a0), (1, .int x1)]) hx hb dX10_findsFewest_6 rfl hl (by decide) rfl (fun ls833 hl834 => ?_)
  exact J7 ((6 - (0 : Int32).toInt).toNat + 1)  ls833 H825 locsH825 (0) (lv_sub hl834 [1, 2, 0] rfl) hTH825 hSH825 (by decide) m828 m829 m830 m831 g827 (by omega) ro832

set_option maxHeartbeats 4000000 in
set_option maxRecDepth 100000 in
theorem a_X10_fewest_k (l : Launch) (K : KE) (G : Nat → Option Nat) (H : Heap) {a0 : Nat} (x1 : Int32) (x2 : Int32) {kq : Nat} (hT : TY K G H) (ga0 : G a0 = some 112) (gkq : G kq = some 114) (ekq : @Eq Ad kq (fR H a0 (K.1.2 10 5))) (hg_CG : CG (avw K H a0)) (hg_TU : TU (avw K H a0) (svw K H a0)) (hg_WD : WD (avw K H a0)) (hg_IM : IM (avw K H a0)) : MX l K yX10_fewest cX10_fewest 4 (some .int) 6 145 0 0 [.ref a0, .int x1, .int x2] H (AE G [112, 114, 143, 144, 145, 141, 140, 139] H.size) (fun v H1 => ∃ (r : Int32), v = some (.int r) ∧ @Eq Ad kq (fR H1 a0 (K.1.2 10 5)) ∧ (CG (avw K H1 a0)) ∧ (TU (avw K H1 a0) (svw K H1 a0)) ∧ (WD (avw K H1 a0)) ∧ (IM (avw K H1 a0)) ∧ MF K H H1 a0 [0] ∧ (∀ j : Nat, fI H1 kq j = fI H kq j) ∧ TY K G H1) := by
  refine MX.of (by decide +kernel) (Nat.le_of_ble_eq_true rfl) ?_
  intro p e s m below meth c ls Q C hH hl hQ
  subst hH
  have C : CX p K s m _ meth c RX10 cX10_fewest 4 (some .int) "fewest" := C
  obtain ⟨hx, hb, hml, hown, hts, hKT, hr, hlocks, hnm⟩ := id C
  have hl : lv_has ls 4 [(0, .ref a0), (1, .int x1), (2, .int x2)] := hl
  have hS : va_S (AE G [112, 114, 143, 144, 145, 141, 140, 139] s.heap.size) s.heap s.heap [] := va_S.rf
  have n_m1 : ((-1) : Int32).toInt = -1 := rfl
  have n_0 : (0 : Int32).toInt = 0 := rfl
  have n_1 : (1 : Int32).toInt = 1 := rfl
  have n_5 : (5 : Int32).toInt = 5 := rfl
  have n_8 : (8 : Int32).toInt = 8 := rfl
  have hap : ∀ x y, x < 74 → y < 74 → x ≠ y → K.1.2 10 x ≠ K.1.2 10 y := x_apart hKT hts inX10 tyX10 tyX10_ok nmX10 rfl
  have mf0 : MF K s.heap s.heap a0 [0] := fun _ _ _ => rfl
  have ro0_kq : ∀ j : Nat, fI s.heap kq j = fI s.heap kq j := fun _ => rfl
  refine lv_aload_n hx hb dX10_fewest_0 rfl (lv_at hl 0 rfl) ?_
  refine lv_iconst (v := 0) hx hb dX10_fewest_1 (by decide) ?_
  refine x_put C hT hS (ci := 10) (k := 0) (v := .int 0) (ty0 := tyX10) rfl inX10 tyX10_ok nmX10 (by decide) rfl wF_X10_167 ga0 rg_112 rfl rfl (okI (i_rng (0 : Int32)).1 (i_rng (0 : Int32)).2) rfl rfl (AE_in ga0 (by decide)) dX10_fewest_2 (fun H361 locsH361 hTH361 hSH361 wH361 => ?_)
  have mf362 : MF K s.heap H361 a0 [0] := MF.fld hap wH361 (by decide) (by decide) mf0
  have g363 : CG (avw K H361 a0) := CG.congr (fun k hk j => av_fld hT ga0 hap wH361 (by decide) (CG_ok 112 (by decide) k hk) (CG_ne 0 (by decide) k hk)) hg_CG
  have g364 : TU (avw K H361 a0) (svw K H361 a0) := TU.congr (fun k hk j => av_fld hT ga0 hap wH361 (by decide) (TU_ok 112 (by decide) k hk) (TU_ne 0 (by decide) k hk)) (fun k hk => sv_fld hap wH361 (by decide) (TU_slt k hk) (TU_sne 0 (by decide) k hk)) hg_TU
  have g365 : WD (avw K H361 a0) := WD.congr (fun k hk j => av_fld hT ga0 hap wH361 (by decide) (WD_ok 112 (by decide) k hk) (WD_ne 0 (by decide) k hk)) hg_WD
  have g366 : IM (avw K H361 a0) := IM.congr (fun k hk j => av_fld hT ga0 hap wH361 (by decide) (IM_ok 112 (by decide) k hk) (IM_ne 0 (by decide) k hk)) hg_IM
  have m367 := ekq.trans (Wr.neR wH361 (Or.inr (x_apart hKT hts inX10 tyX10 tyX10_ok nmX10 rfl 5 0 (by decide) (by decide) (by decide)))).symm
  have m368 := Wr.I wH361
  have ro369 : ∀ j : Nat, fI H361 kq j = fI s.heap kq j := fun j => (Wr.neI wH361 (Or.inl (G_ne gkq ga0 (by decide)))).trans (ro0_kq j)
  refine lv_aload_n hx hb dX10_fewest_5 rfl (lv_at hl 0 rfl) ?_
  refine lv_iload_n hx hb dX10_fewest_6 rfl (lv_at hl 1 rfl) ?_
  obtain ⟨x370, ex370⟩ : ∃ z : Int32, z = fI H361 a0 (K.1.2 10 1) := ⟨_, rfl⟩
  have bx370 := ty_fi (x := x370) (k := 1) ex370 hTH361 ga0 rg_112 rfl
  refine x_V (As := [.int x1]) (rest := []) C (a_X10_isBar l K G H361 (x1) (x370) hTH361 ga0 ex370) yo_X10_isBar wM_X10_173 ⟨⟨by decide, by decide⟩, by decide, by decide⟩ (x_rv C hTH361 (ci := 10) rfl ga0 rg_112) rfl hl.1 rfl (Nat.le_of_ble_eq_true rfl) dX10_fewest_7 hSH361 (AE_sub (fun _ _ => rfl) (by decide) hSH361.1) (fun vH371 H371 locsH371 pH371 zH371 kH371 hSH371 => ?_)
  obtain ⟨x372, hvH371, bx372, hrH371, hTH371⟩ := pH371
  subst hvH371
  have mf373 : MF K s.heap H371 a0 [0] := MF.eff (x_lt hTH361 kH371 ga0 (by decide)) mf362
  have g374 : CG (avw K H371 a0) := CG.congr (fun k hk j => av_eff hTH361 kH371 ga0 (by decide) (CG_eff [] (by decide) k hk)) g363
  have g375 : TU (avw K H371 a0) (svw K H371 a0) := TU.congr (fun k hk j => av_eff hTH361 kH371 ga0 (by decide) (TU_eff [] (by decide) k hk)) (fun k hk => sv_eff hTH361 kH371 ga0 (by decide)) g364
  have g376 : WD (avw K H371 a0) := WD.congr (fun k hk j => av_eff hTH361 kH371 ga0 (by decide) (WD_eff [] (by decide) k hk)) g365
  have g377 : IM (avw K H371 a0) := IM.congr (fun k hk j => av_eff hTH361 kH371 ga0 (by decide) (IM_eff [] (by decide) k hk)) g366
  have m378 := (m367).trans (fR_kept (x_lt hTH361 kH371 ga0 (by decide))).symm
  have m379 := (fI_kept (x_lt hTH361 kH371 ga0 (by decide))).trans m368
  have m380 := (ex370).trans (fI_kept (x_lt hTH361 kH371 ga0 (by decide))).symm
  have ro381 : ∀ j : Nat, fI H371 kq j = fI s.heap kq j := fun j => (fI_kept (x_lt hTH361 kH371 gkq (by decide))).trans (ro369 j)
  refine W.eq (g2 := F0 m 10 ls [.int x372]) rfl ?_
  refine lv_if_eq (tgt := 34) hx hb dX10_fewest_10 (by decide) (fun c382 => ?_) (fun c382 => ?_)
  · have k383 := i_eq c382
    refine lv_iconst (v := (-1)) hx hb dX10_fewest_34 (by decide) ?_
    exact x_iret C hQ dX10_fewest_35 hSH371 (by decide) (by decide) (⟨(-1), rfl, m378, g374, g375, g376, g377, mf373, ro381, hTH371⟩)
  · have k383 := i_ne c382
    refine lv_aload_n hx hb dX10_fewest_13 rfl (lv_at hl 0 rfl) ?_
    refine x_gr C hTH371 (ci := 10) (k := 4) rfl inX10 (by decide) wF_X10_13 ga0 rg_112 rfl dX10_fewest_14 (fun q384 eq384 gq384 => ?_)
    replace eq384 : @Eq Ad q384 (fR H371 a0 (K.1.2 10 4)) := eq384
    refine lv_iload_n hx hb dX10_fewest_17 rfl (lv_at hl 1 rfl) ?_
    refine x_ai C hTH371 gq384 rg_113 ⟨by omega, by show _ < ((10 : Nat) : Int); omega⟩ dX10_fewest_18 (fun x385 ex385 bx385 => ?_)
    refine lv_bipush (v := 8) hx hb dX10_fewest_19 (by decide) ?_
    refine lv_icmp_gt (tgt := 34) hx hb dX10_fewest_21 (by decide) (fun c386 => ?_) (fun c386 => ?_)
    · have k387 := i_lt c386
      refine lv_iconst (v := (-1)) hx hb dX10_fewest_34 (by decide) ?_
      exact x_iret C hQ dX10_fewest_35 hSH371 (by decide) (by decide) (⟨(-1), rfl, m378, g374, g375, g376, g377, mf373, ro381, hTH371⟩)
    · have k387 := i_nlt c386
      refine lv_aload_n hx hb dX10_fewest_24 rfl (lv_at hl 0 rfl) ?_
      refine lv_iload_n hx hb dX10_fewest_25 rfl (lv_at hl 2 rfl) ?_
      refine lv_iconst (v := 0) hx hb dX10_fewest_26 (by decide) ?_
      refine lv_iconst (v := 5) hx hb dX10_fewest_27 (by decide) ?_
      refine x_V (As := [.int x2, .int 0, .int 5]) (rest := []) C (a_X10_isIn_v l K G H371 (x2) (0) (5) hTH371 ga0) yo_X10_isIn wM_X10_177 ⟨⟨by decide, by decide⟩, by decide, by decide⟩ (x_rv C hTH371 (ci := 10) rfl ga0 rg_112) rfl hl.1 rfl (Nat.le_of_ble_eq_true rfl) dX10_fewest_28 hSH371 (AE_sub (fun _ _ => rfl) (by decide) hSH371.1) (fun vH388 H388 locsH388 pH388 zH388 kH388 hSH388 => ?_)
      obtain ⟨x389, hvH388, bx389, hrH388, hTH388⟩ := pH388
      subst hvH388
      clear m367 m368
      have mf390 : MF K s.heap H388 a0 [0] := MF.eff (x_lt hTH371 kH388 ga0 (by decide)) mf373
      have g391 : CG (avw K H388 a0) := CG.congr (fun k hk j => av_eff hTH371 kH388 ga0 (by decide) (CG_eff [] (by decide) k hk)) g374
      have g392 : TU (avw K H388 a0) (svw K H388 a0) := TU.congr (fun k hk j => av_eff hTH371 kH388 ga0 (by decide) (TU_eff [] (by decide) k hk)) (fun k hk => sv_eff hTH371 kH388 ga0 (by decide)) g375
      have g393 : WD (avw K H388 a0) := WD.congr (fun k hk j => av_eff hTH371 kH388 ga0 (by decide) (WD_eff [] (by decide) k hk)) g376
      have g394 : IM (avw K H388 a0) := IM.congr (fun k hk j => av_eff hTH371 kH388 ga0 (by decide) (IM_eff [] (by decide) k hk)) g377
      have m395 := (m378).trans (fR_kept (x_lt hTH371 kH388 ga0 (by decide))).symm
      have m396 := (fI_kept (x_lt hTH371 kH388 ga0 (by decide))).trans m379
      have m397 := (m380).trans (fI_kept (x_lt hTH371 kH388 ga0 (by decide))).symm
      have m398 := (eq384).trans (fR_kept (x_lt hTH371 kH388 ga0 (by decide))).symm
      have m399 := (ex385).trans (fI_kept (x_lt hTH371 kH388 gq384 (by decide))).symm
      have ro400 : ∀ j : Nat, fI H388 kq j = fI s.heap kq j := fun j => (fI_kept (x_lt hTH371 kH388 gkq (by decide))).trans (ro381 j)
      refine W.eq (g2 := F0 m 31 ls [.int x389]) rfl ?_
      refine lv_if_ne (tgt := 36) hx hb dX10_fewest_31 (by decide) (fun c401 => ?_) (fun c401 => ?_)
      · have k402 := i_ne c401
        refine lv_aload_n hx hb dX10_fewest_36 rfl (lv_at hl 0 rfl) ?_
        refine lv_iload_n hx hb dX10_fewest_37 rfl (lv_at hl 1 rfl) ?_
        obtain ⟨q403, eq403⟩ : ∃ z : Nat, @Eq Ad z (fR H388 a0 (K.1.2 10 45)) := ⟨_, rfl⟩
        have gq403 := ty_fr (q := q403) (k := 45) (u := 141) eq403 hTH388 ga0 rg_112 rfl
        refine x_V (As := [.int x1]) (rest := []) C (a_X10_findsFewest_k l K G H388 (x1) (x385) hTH388 ga0 (by omega) gq384 m398 gq403 eq403 gkq m395 m399 g391 (by omega) (by omega)) yo_X10_findsFewest wM_X10_371 ⟨⟨by decide, by decide⟩, by decide, by decide⟩ (x_rv C hTH388 (ci := 10) rfl ga0 rg_112) rfl hl.1 rfl (Nat.le_of_ble_eq_true rfl) dX10_fewest_38 hSH388 (AE_sub (fun _ _ => rfl) (by decide) hSH388.1) (fun vH404 H404 locsH404 pH404 zH404 kH404 hSH404 => ?_)
        obtain ⟨x405, hvH404, bx405, m406, hTH404⟩ := pH404
        subst hvH404
        clear m378 m379 m380
        have mf407 : MF K s.heap H404 a0 [0] := MF.eff (x_lt hTH388 kH404 ga0 (by decide)) mf390
        have g408 : CG (avw K H404 a0) := CG.congr (fun k hk j => av_eff hTH388 kH404 ga0 (by decide) (CG_eff [114, 143, 144, 145, 141, 140, 139] (by decide) k hk)) g391
        have g409 : TU (avw K H404 a0) (svw K H404 a0) := TU.congr (fun k hk j => av_eff hTH388 kH404 ga0 (by decide) (TU_eff [114, 143, 144, 145, 141, 140, 139] (by decide) k hk)) (fun k hk => sv_eff hTH388 kH404 ga0 (by decide)) g392
        have g410 : WD (avw K H404 a0) := WD.congr (fun k hk j => av_eff hTH388 kH404 ga0 (by decide) (WD_eff [114, 143, 144, 145, 141, 140, 139] (by decide) k hk)) g393
        have g411 : IM (avw K H404 a0) := IM.congr (fun k hk j => av_eff hTH388 kH404 ga0 (by decide) (IM_eff [114, 143, 144, 145, 141, 140, 139] (by decide) k hk)) g394
        have m412 := (m395).trans (fR_kept (x_lt hTH388 kH404 ga0 (by decide))).symm
        have m413 := (fI_kept (x_lt hTH388 kH404 ga0 (by decide))).trans m396
        have m414 := (m397).trans (fI_kept (x_lt hTH388 kH404 ga0 (by decide))).symm
        have m415 := (m398).trans (fR_kept (x_lt hTH388 kH404 ga0 (by decide))).symm
        have m416 := (m399).trans (fI_kept (x_lt hTH388 kH404 gq384 (by decide))).symm
        have m417 := (eq403).trans (fR_kept (x_lt hTH388 kH404 ga0 (by decide))).symm
        have ro418 : ∀ j : Nat, fI H404 kq j = fI s.heap kq j := fun j => (m406 j).trans (ro400 j)
        refine W.eq (g2 := F0 m 41 ls [.int x405]) rfl ?_
        refine lv_istore_n (lv' := [(3, .int x405), (0, .ref a0), (1, .int x1), (2, .int x2)]) hx hb dX10_fewest_41 rfl hl (by decide) rfl (fun ls419 hl420 => ?_)
        refine lv_iload_n hx hb dX10_fewest_42 rfl (lv_at hl420 3 rfl) ?_
        refine lv_if_eq (tgt := 51) hx hb dX10_fewest_43 (by decide) (fun c421 => ?_) (fun c421 => ?_)
        · have k422 := i_eq c421
          refine lv_iload_n hx hb dX10_fewest_51 rfl (lv_at hl420 0 rfl) ?_
          exact x_iret C hQ dX10_fewest_52 hSH404 (by decide) (by decide) (⟨x405, rfl, m412, g408, g409, g410, g411, mf407, ro418, hTH404⟩)
        · have k422 := i_ne c421
          refine lv_iload_n hx hb dX10_fewest_46 rfl (lv_at hl420 0 rfl) ?_
          refine lv_iconst (v := (-1)) hx hb dX10_fewest_47 (by decide) ?_
          refine lv_icmp_ne (tgt := 53) hx hb dX10_fewest_48 (by decide) (fun c423 => ?_) (fun c423 => ?_)
          · have k424 := i_ne c423
            refine lv_iload_n hx hb dX10_fewest_53 rfl (lv_at hl420 3 rfl) ?_
            refine lv_iload_n hx hb dX10_fewest_54 rfl (lv_at hl420 0 rfl) ?_
            refine lv_icmp_gt (tgt := 69) hx hb dX10_fewest_55 (by decide) (fun c425 => ?_) (fun c425 => ?_)
            · have k426 := i_lt c425
              refine lv_iconst (v := (-1)) hx hb dX10_fewest_69 (by decide) ?_
              exact x_iret C hQ dX10_fewest_70 hSH404 (by decide) (by decide) (⟨(-1), rfl, m412, g408, g409, g410, g411, mf407, ro418, hTH404⟩)
            · have k426 := i_nlt c425
              refine lv_aload_n hx hb dX10_fewest_58 rfl (lv_at hl420 1 rfl) ?_
              refine x_gr C hTH404 (ci := 10) (k := 45) rfl inX10 (by decide) wF_X10_101 ga0 rg_112 rfl dX10_fewest_59 (fun q427 eq427 gq427 => ?_)
              have uq427 : q403 = q427 := (m417).trans eq427.symm
              subst uq427
              refine lv_iload_n hx hb dX10_fewest_62 rfl (lv_at hl420 3 rfl) ?_
              refine lv_iconst (v := 1) hx hb dX10_fewest_63 (by decide) ?_
              refine lv_isub hx hb dX10_fewest_64 ?_
              refine lv_topi (fun x428 ex428 => ?_)
              refine x_ai C hTH404 gq403 rg_141 ⟨by omega, by show _ < ((5 : Nat) : Int); omega⟩ dX10_fewest_65 (fun x429 ex429 bx429 => ?_)
              refine lv_goto (tgt := 70) hx hb dX10_fewest_66 (by decide) ?_
              exact x_iret C hQ dX10_fewest_70 hSH404 (by decide) (by decide) (⟨x429, rfl, m412, g408, g409, g410, g411, mf407, ro418, hTH404⟩)
          · have k424 := i_eq c423
            refine lv_iload_n hx hb dX10_fewest_51 rfl (lv_at hl420 0 rfl) ?_
            exact x_iret C hQ dX10_fewest_52 hSH404 (by decide) (by decide) (⟨x405, rfl, m412, g408, g409, g410, g411, mf407, ro418, hTH404⟩)
      · have k402 := i_eq c401
        refine lv_iconst (v := (-1)) hx hb dX10_fewest_34 (by decide) ?_
        exact x_iret C hQ dX10_fewest_35 hSH388 (by decide) (by decide) (⟨(-1), rfl, m395, g391, g392, g393, g394, mf390, ro400, hTH388⟩)
