set_option maxHeartbeats 4000000 in
set_option maxRecDepth 100000 in
theorem a_X4_line_e (l : Launch) (K : KE) (G : Nat → Option Nat) (H : Heap) {a0 : Nat} {mq : Nat} {kq : Nat} {vq : Nat} (F : Int32) (tat : Int32) (fa : Int32) (li : Int32) (lw : Int32) (kk : Nat → Int) (vv : Nat → Int) (hT : TY K G H) (ga0 : G a0 = some 78) (gmq : G mq = some 69) (emq : mq = fR H a0 (K.1.2 4 0)) (gkq : G kq = some 79) (ekq : kq = fR H a0 (K.1.2 4 3)) (gvq : G vq = some 80) (evq : vq = fR H a0 (K.1.2 4 4)) (etat : tat = fI H a0 (K.1.2 4 7)) (efa : fa = fI H a0 (K.1.2 4 1)) (eli : li = fI H mq (K.1.2 7 0)) (elw : lw = fI H a0 (K.1.2 4 8)) (hel0 : fI H kq (F : Int32).toNatClampNeg = 26) (hp0 : tat.toInt ≤ F.toInt) (hp1 : F.toInt ≤ 500) (hv_kk : ∀ j : Nat, j ≤ F.toNatClampNeg → kk j = (fI H kq j).toInt) (hv_vv : ∀ j : Nat, j ≤ F.toNatClampNeg → vv j = (fI H vq j).toInt) : MX l K yX4_line cX4_line 3 (some .boolean) 38 847 0 0 [.ref a0] H (AE G [78, 69, 77, 70, 71, 72, 73, 74, 75, 76] H.size) (fun v H1 => ∃ (r : Int32) (t0 : Int32) (t1 : Int32) (t2 : Int32), v = some (.int r) ∧ (0 ≤ r.toInt ∧ r.toInt ≤ 1) ∧ t0 = fI H1 a0 (K.1.2 4 7) ∧ t1 = fI H1 a0 (K.1.2 4 1) ∧ t2 = fI H1 mq (K.1.2 7 0) ∧ (t0.toInt ≤ F.toInt ∧ ((r.toInt = 1 ∧ t1.toInt = fa.toInt ∧ tat.toInt < t0.toInt ∧ t2.toInt = li.toInt + 1) ∨ (r.toInt = 0 ∧ t1.toInt ≠ 0))) ∧ mq = fR H1 a0 (K.1.2 4 0) ∧ kq = fR H1 a0 (K.1.2 4 3) ∧ vq = fR H1 a0 (K.1.2 4 4) ∧ lw = fI H1 a0 (K.1.2 4 8) ∧ (RQ ((if 16 ≤ li.toInt then none else lnI kk vv lw.toInt tat.toNatClampNeg)) r t0) ∧ TY K G H1) := by
  refine MX.of (by decide +kernel) (Nat.le_of_ble_eq_true rfl) ?_
  intro p e s m below meth c ls Q C hH hl hQ
  subst hH
  have C : CX p K s m _ meth c RX4 cX4_line 3 (some .boolean) "line" := C
  obtain ⟨hx, hb, hml, hown, hts, hKT, hr, hlocks, hnm⟩ := id C
  have hl : lv_has ls 3 [(0, .ref a0)] := hl
  have hS : va_S (AE G [78, 69, 77, 70, 71, 72, 73, 74, 75, 76] s.heap.size) s.heap s.heap [] := va_S.rf
  have n_0 : (0 : Int32).toInt = 0 := rfl
  have n_1 : (1 : Int32).toInt = 1 := rfl
  have n_3 : (3 : Int32).toInt = 3 := rfl
  have n_4 : (4 : Int32).toInt = 4 := rfl
  have n_6 : (6 : Int32).toInt = 6 := rfl
  have n_7 : (7 : Int32).toInt = 7 := rfl
  have n_16 : (16 : Int32).toInt = 16 := rfl
  have n_26 : (26 : Int32).toInt = 26 := rfl
  have n_59 : (59 : Int32).toInt = 59 := rfl
  have btat := ty_fi (x := tat) (k := 7) etat hT ga0 rg_78 rfl
  have bfa := ty_fi (x := fa) (k := 1) efa hT ga0 rg_78 rfl
  have bli := ty_fi (x := li) (k := 0) eli hT gmq rg_69 rfl
  have blw := ty_fi (x := lw) (k := 8) elw hT ga0 rg_78 rfl
  have hsp0 : (if 16 ≤ li.toInt then none else lnI kk vv lw.toInt tat.toNatClampNeg) = (if 16 ≤ li.toInt then none else lnI kk vv lw.toInt tat.toNatClampNeg) := rfl
  have f0_kk := hv_kk
  have f0_vv := hv_vv
  refine lv_aload_n hx hb dX4_line_0 rfl (lv_at hl 0 rfl) ?_
  refine x_gr C hT (ci := 4) (k := 3) rfl inX4 (by decide) wF_X4_18 ga0 rg_78 rfl dX4_line_1 (fun q3497 eq3497 gq3497 => ?_)
  have uq3497 : kq = q3497 := (ekq).trans eq3497.symm
  subst uq3497
  refine lv_aload_n hx hb dX4_line_4 rfl (lv_at hl 0 rfl) ?_
  refine x_gi C hT (ci := 4) (k := 7) rfl inX4 (by decide) wF_X4_42 ga0 rg_78 rfl dX4_line_5 (fun x3498 ex3498 bx3498 => ?_)
  have ux3498 : tat = x3498 := (etat).trans ex3498.symm
  subst ux3498
  refine x_ai C hT gkq rg_79 ⟨by omega, by show _ < ((501 : Nat) : Int); omega⟩ dX4_line_8 (fun x3499 ex3499 bx3499 => ?_)
  have dx3499 := el_hit ex3499 hel0
  have qvx3499 : kk tat.toNatClampNeg = x3499.toInt := (f0_kk _ (by have h1 := i_cl (x := tat) (by omega); have h2 := i_cl (x := F) (by omega); omega)).trans (congrArg Int32.toInt ex3499.symm)
  refine lv_istore_n (lv' := [(1, .int x3499), (0, .ref a0)]) hx hb dX4_line_9 rfl hl (by decide) rfl (fun ls3500 hl3501 => ?_)
  refine lv_aload_n hx hb dX4_line_10 rfl (lv_at hl3501 1 rfl) ?_
  refine x_gi C hT (ci := 4) (k := 8) rfl inX4 (by decide) wF_X4_28 ga0 rg_78 rfl dX4_line_11 (fun x3502 ex3502 bx3502 => ?_)
  have ux3502 : lw = x3502 := (elw).trans ex3502.symm
  subst ux3502
  refine lv_if_eq (tgt := 25) hx hb dX4_line_14 (by decide) (fun c3503 => ?_) (fun c3503 => ?_)
  · have k3504 := i_eq c3503
    refine lv_iload_n hx hb dX4_line_25 rfl (lv_at hl3501 0 rfl) ?_
    refine lv_iconst (v := 4) hx hb dX4_line_26 (by decide) ?_
    refine lv_icmp_lt (tgt := 36) hx hb dX4_line_27 (by decide) (fun c3505 => ?_) (fun c3505 => ?_)
    · have k3506 := i_lt c3505
      refine lv_aload_n hx hb dX4_line_36 rfl (lv_at hl3501 1 rfl) ?_
      refine lv_iconst (v := 1) hx hb dX4_line_37 (by decide) ?_
      refine x_V (As := [.int 1]) (rest := []) C (a_X4_refuse_e l K G s.heap (1) (tat) (fa) (lw) hT ga0 gmq emq gkq ekq gvq evq etat efa elw) yo_X4_refuse wM_X4_81 ⟨⟨by decide, by decide⟩, by decide, by decide⟩ (x_rv C hT (ci := 4) rfl ga0 rg_78) rfl hl3501.1 rfl (Nat.le_of_ble_eq_true rfl) dX4_line_38 hS (AE_sub (fun _ _ => rfl) (by decide) hS.1) (fun vH3507 H3507 locsH3507 pH3507 zH3507 kH3507 hSH3507 => ?_)
      obtain ⟨x3508, x3509, x3510, hvH3507, bx3508, ex3509, ex3510, hrH3507, m3511, m3512, m3513, m3514, hTH3507⟩ := pH3507
      subst hvH3507
      have f3515 : ∀ j : Nat, j ≤ F.toNatClampNeg → kk j = (fI H3507 kq j).toInt := fun j hj => (f0_kk j hj).trans (congrArg Int32.toInt (fI_kept (x_lt hT kH3507 gkq (by decide))).symm)
      have f3516 : ∀ j : Nat, j ≤ F.toNatClampNeg → vv j = (fI H3507 vq j).toInt := fun j hj => (f0_vv j hj).trans (congrArg Int32.toInt (fI_kept (x_lt hT kH3507 gvq (by decide))).symm)
      have m3517 := (eli).trans (fI_kept (x_lt hT kH3507 gmq (by decide))).symm
      have m3518 := (fI_kept (x_lt hT kH3507 gkq (by decide))).trans hel0
      have m3519 := (ex3499).trans (fI_kept (x_lt hT kH3507 gkq (by decide))).symm
      have bx3509 := ty_fi (x := x3509) (k := 7) ex3509 hTH3507 ga0 rg_78 rfl
      have bx3510 := ty_fi (x := x3510) (k := 1) ex3510 hTH3507 ga0 rg_78 rfl
      refine W.eq (g2 := F0 m 41 ls3500 [.int x3508]) rfl ?_
      have cn_F := i_cl (x := F) (by omega)
      have cn_tat := i_cl (x := tat) (by omega)
      have cn_x3509 := i_cl (x := x3509) (by omega)
      exact x_zret C hQ (i_01 (by omega)) dX4_line_41 hSH3507 (by decide) (by decide) (⟨x3508, x3509, x3510, li, rfl, by omega, ex3509, ex3510, m3517, by omega, m3511, m3512, m3513, m3514, Or.inl ⟨l16_no (ln_no0 (by rw [qvx3499]; omega)), by omega⟩, hTH3507⟩)
    · have k3506 := i_nlt c3505
      refine lv_iload_n hx hb dX4_line_30 rfl (lv_at hl3501 0 rfl) ?_
      refine lv_bipush (v := 6) hx hb dX4_line_31 (by decide) ?_
      refine lv_icmp_le (tgt := 42) hx hb dX4_line_33 (by decide) (fun c3520 => ?_) (fun c3520 => ?_)
      · have k3521 := i_le c3520
        refine lv_aload_n hx hb dX4_line_42 rfl (lv_at hl3501 1 rfl) ?_
        refine x_gr C hT (ci := 4) (k := 0) rfl inX4 (by decide) wF_X4_12 ga0 rg_78 rfl dX4_line_43 (fun q3522 eq3522 gq3522 => ?_)
        have uq3522 : mq = q3522 := (emq).trans eq3522.symm
        subst uq3522
        refine x_gi C hT (ci := 7) (k := 0) rfl inX7 (by decide) wF_X4_84 gmq rg_69 rfl dX4_line_46 (fun x3523 ex3523 bx3523 => ?_)
        have ux3523 : li = x3523 := (eli).trans ex3523.symm
        subst ux3523
        refine lv_istore_n (lv' := [(2, .int li), (1, .int x3499), (0, .ref a0)]) hx hb dX4_line_49 rfl hl3501 (by decide) rfl (fun ls3524 hl3525 => ?_)
        refine lv_iload_n hx hb dX4_line_50 rfl (lv_at hl3525 0 rfl) ?_
        refine lv_bipush (v := 16) hx hb dX4_line_51 (by decide) ?_
        refine lv_icmp_lt (tgt := 62) hx hb dX4_line_53 (by decide) (fun c3526 => ?_) (fun c3526 => ?_)
        · have k3527 := i_lt c3526
          refine lv_aload_n hx hb dX4_line_62 rfl (lv_at hl3525 2 rfl) ?_
          refine lv_dup hx hb dX4_line_63 rfl ?_
          refine x_gi C hT (ci := 4) (k := 7) rfl inX4 (by decide) wF_X4_42 ga0 rg_78 rfl dX4_line_64 (fun x3528 ex3528 bx3528 => ?_)
          have ux3528 : tat = x3528 := (etat).trans ex3528.symm
          subst ux3528
          refine lv_iconst (v := 1) hx hb dX4_line_67 (by decide) ?_
          refine lv_iadd hx hb dX4_line_68 ?_
          refine lv_topi (fun x3529 ex3529 => ?_)
          have tx3529 := i_add ex3529 (by omega)
          have fz3531 : 0 ≤ x3529.toInt ∧ x3529.toInt ≤ 500 := by have := i_rng x3529; omega
          refine x_put C hT hS (ci := 4) (k := 7) (v := .int x3529) (ty0 := tyX4) rfl inX4 tyX4_ok nmX4 (by decide) rfl wF_X4_42 ga0 rg_78 rfl rfl (okI (by have := i_rng x3529; omega) (by have := i_rng x3529; omega)) rfl rfl (AE_in ga0 (by decide)) dX4_line_69 (fun H3530 locsH3530 hTH3530 hSH3530 wH3530 => ?_)
          have f3532 : ∀ j : Nat, j ≤ F.toNatClampNeg → kk j = (fI H3530 kq j).toInt := fun j hj => (f0_kk j hj).trans (congrArg Int32.toInt (Wr.neI wH3530 (Or.inl (G_ne gkq ga0 (by decide)))).symm)
          have f3533 : ∀ j : Nat, j ≤ F.toNatClampNeg → vv j = (fI H3530 vq j).toInt := fun j hj => (f0_vv j hj).trans (congrArg Int32.toInt (Wr.neI wH3530 (Or.inl (G_ne gvq ga0 (by decide)))).symm)
          have m3534 := emq.trans (Wr.neR wH3530 (Or.inr (x_apart hKT hts inX4 tyX4 tyX4_ok nmX4 rfl 0 7 (by decide) (by decide) (by decide)))).symm
          have m3535 := ekq.trans (Wr.neR wH3530 (Or.inr (x_apart hKT hts inX4 tyX4 tyX4_ok nmX4 rfl 3 7 (by decide) (by decide) (by decide)))).symm
          have m3536 := evq.trans (Wr.neR wH3530 (Or.inr (x_apart hKT hts inX4 tyX4 tyX4_ok nmX4 rfl 4 7 (by decide) (by decide) (by decide)))).symm
          have m3538 := efa.trans (Wr.neI wH3530 (Or.inr (x_apart hKT hts inX4 tyX4 tyX4_ok nmX4 rfl 1 7 (by decide) (by decide) (by decide)))).symm
          have m3539 := eli.trans (Wr.neI wH3530 (Or.inl (G_ne gmq ga0 (by decide)))).symm
          have m3540 := elw.trans (Wr.neI wH3530 (Or.inr (x_apart hKT hts inX4 tyX4 tyX4_ok nmX4 rfl 8 7 (by decide) (by decide) (by decide)))).symm
          have m3541 := (Wr.neI wH3530 (Or.inl (G_ne gkq ga0 (by decide)))).trans hel0
          have m3542 := ex3499.trans (Wr.neI wH3530 (Or.inl (G_ne gkq ga0 (by decide)))).symm
          have m3543 := Wr.I wH3530
          have m3543 := m3543.symm
          refine lv_aload_n hx hb dX4_line_72 rfl (lv_at hl3525 2 rfl) ?_
          refine x_gr C hTH3530 (ci := 4) (k := 0) rfl inX4 (by decide) wF_X4_12 ga0 rg_78 rfl dX4_line_73 (fun q3544 eq3544 gq3544 => ?_)
          have uq3544 : mq = q3544 := (m3534).trans eq3544.symm
          subst uq3544
          refine x_gr C hTH3530 (ci := 7) (k := 1) rfl inX7 (by decide) wF_X4_87 gmq rg_69 rfl dX4_line_76 (fun q3545 eq3545 gq3545 => ?_)
          refine lv_iload_n hx hb dX4_line_79 rfl (lv_at hl3525 0 rfl) ?_
          refine lv_iload_n hx hb dX4_line_80 rfl (lv_at hl3525 1 rfl) ?_
          refine x_iast C hTH3530 hSH3530 gq3545 rg_70 (by omega) (by show _ < ((16 : Nat) : Int); omega) ⟨by have := i_rng x3499; omega, by have := i_rng x3499; omega⟩ (AE_in gq3545 (by decide)) dX4_line_81 (fun H3546 locsH3546 hTH3546 hSH3546 wH3546 => ?_)
          have f3547 : ∀ j : Nat, j ≤ F.toNatClampNeg → kk j = (fI H3546 kq j).toInt := fun j hj => (f3532 j hj).trans (congrArg Int32.toInt (Wr.neI wH3546 (Or.inl (G_ne gkq gq3545 (by decide)))).symm)
          have f3548 : ∀ j : Nat, j ≤ F.toNatClampNeg → vv j = (fI H3546 vq j).toInt := fun j hj => (f3533 j hj).trans (congrArg Int32.toInt (Wr.neI wH3546 (Or.inl (G_ne gvq gq3545 (by decide)))).symm)
          have m3549 := m3534.trans (Wr.neR wH3546 (Or.inl (G_ne ga0 gq3545 (by decide)))).symm
          have m3550 := m3535.trans (Wr.neR wH3546 (Or.inl (G_ne ga0 gq3545 (by decide)))).symm
          have m3551 := m3536.trans (Wr.neR wH3546 (Or.inl (G_ne ga0 gq3545 (by decide)))).symm
          have m3552 := m3538.trans (Wr.neI wH3546 (Or.inl (G_ne ga0 gq3545 (by decide)))).symm
          have m3553 := m3539.trans (Wr.neI wH3546 (Or.inl (G_ne gmq gq3545 (by decide)))).symm
          have m3554 := m3540.trans (Wr.neI wH3546 (Or.inl (G_ne ga0 gq3545 (by decide)))).symm
          have m3555 := (Wr.neI wH3546 (Or.inl (G_ne gkq gq3545 (by decide)))).trans m3541
          have m3556 := m3542.trans (Wr.neI wH3546 (Or.inl (G_ne gkq gq3545 (by decide)))).symm
          have m3557 := m3543.trans (Wr.neI wH3546 (Or.inl (G_ne ga0 gq3545 (by decide)))).symm
          have m3558 := eq3545.trans (Wr.neR wH3546 (Or.inl (G_ne gmq gq3545 (by decide)))).symm
          have m3559 := Wr.I wH3546
          have m3559 := m3559.symm
          refine lv_aload_n hx hb dX4_line_82 rfl (lv_at hl3525 2 rfl) ?_
          refine x_gr C hTH3546 (ci := 4) (k := 0) rfl inX4 (by decide) wF_X4_12 ga0 rg_78 rfl dX4_line_83 (fun q3560 eq3560 gq3560 => ?_)
          have uq3560 : mq = q3560 := (m3549).trans eq3560.symm
          subst uq3560
          refine x_gr C hTH3546 (ci := 7) (k := 2) rfl inX7 (by decide) wF_X4_90 gmq rg_69 rfl dX4_line_86 (fun q3561 eq3561 gq3561 => ?_)
          refine lv_iload_n hx hb dX4_line_89 rfl (lv_at hl3525 0 rfl) ?_
          refine lv_iconst (v := 0) hx hb dX4_line_90 (by decide) ?_
          refine x_iast C hTH3546 hSH3546 gq3561 rg_71 (by omega) (by show _ < ((16 : Nat) : Int); omega) (by decide) (AE_in gq3561 (by decide)) dX4_line_91 (fun H3562 locsH3562 hTH3562 hSH3562 wH3562 => ?_)
          have f3563 : ∀ j : Nat, j ≤ F.toNatClampNeg → kk j = (fI H3562 kq j).toInt := fun j hj => (f3547 j hj).trans (congrArg Int32.toInt (Wr.neI wH3562 (Or.inl (G_ne gkq gq3561 (by decide)))).symm)
          have f3564 : ∀ j : Nat, j ≤ F.toNatClampNeg → vv j = (fI H3562 vq j).toInt := fun j hj => (f3548 j hj).trans (congrArg Int32.toInt (Wr.neI wH3562 (Or.inl (G_ne gvq gq3561 (by decide)))).symm)
          have m3565 := m3549.trans (Wr.neR wH3562 (Or.inl (G_ne ga0 gq3561 (by decide)))).symm
          have m3566 := m3550.trans (Wr.neR wH3562 (Or.inl (G_ne ga0 gq3561 (by decide)))).symm
          have m3567 := m3551.trans (Wr.neR wH3562 (Or.inl (G_ne ga0 gq3561 (by decide)))).symm
          have m3568 := m3552.trans (Wr.neI wH3562 (Or.inl (G_ne ga0 gq3561 (by decide)))).symm
          have m3569 := m3553.trans (Wr.neI wH3562 (Or.inl (G_ne gmq gq3561 (by decide)))).symm
          have m3570 := m3554.trans (Wr.neI wH3562 (Or.inl (G_ne ga0 gq3561 (by decide)))).symm
          have m3571 := (Wr.neI wH3562 (Or.inl (G_ne gkq gq3561 (by decide)))).trans m3555
          have m3572 := m3556.trans (Wr.neI wH3562 (Or.inl (G_ne gkq gq3561 (by decide)))).symm
          have m3573 := m3557.trans (Wr.neI wH3562 (Or.inl (G_ne ga0 gq3561 (by decide)))).symm
          have m3574 := m3558.trans (Wr.neR wH3562 (Or.inl (G_ne gmq gq3561 (by decide)))).symm
          have m3575 := m3559.trans (Wr.neI wH3562 (Or.inl (G_ne gq3545 gq3561 (by decide)))).symm
          have m3576 := eq3561.trans (Wr.neR wH3562 (Or.inl (G_ne gmq gq3561 (by decide)))).symm
          have m3577 := Wr.I wH3562
          refine lv_aload_n hx hb dX4_line_92 rfl (lv_at hl3525 2 rfl) ?_
          refine x_gr C hTH3562 (ci := 4) (k := 0) rfl inX4 (by decide) wF_X4_12 ga0 rg_78 rfl dX4_line_93 (fun q3578 eq3578 gq3578 => ?_)
          have uq3578 : mq = q3578 := (m3565).trans eq3578.symm
          subst uq3578
          refine x_gr C hTH3562 (ci := 7) (k := 5) rfl inX7 (by decide) wF_X4_93 gmq rg_69 rfl dX4_line_96 (fun q3579 eq3579 gq3579 => ?_)
          refine lv_iload_n hx hb dX4_line_99 rfl (lv_at hl3525 0 rfl) ?_
          refine lv_aload_n hx hb dX4_line_100 rfl (lv_at hl3525 2 rfl) ?_
          refine x_gr C hTH3562 (ci := 4) (k := 0) rfl inX4 (by decide) wF_X4_12 ga0 rg_78 rfl dX4_line_101 (fun q3580 eq3580 gq3580 => ?_)
          have uq3580 : mq = q3580 := (m3565).trans eq3580.symm
          subst uq3580
          refine x_gi C hTH3562 (ci := 7) (k := 9) rfl inX7 (by decide) wF_X4_96 gmq rg_69 rfl dX4_line_104 (fun x3581 ex3581 bx3581 => ?_)
          refine x_iast C hTH3562 hSH3562 gq3579 rg_74 (by omega) (by show _ < ((16 : Nat) : Int); omega) ⟨by have := i_rng x3581; omega, by have := i_rng x3581; omega⟩ (AE_in gq3579 (by decide)) dX4_line_107 (fun H3582 locsH3582 hTH3582 hSH3582 wH3582 => ?_)
          have f3583 : ∀ j : Nat, j ≤ F.toNatClampNeg → kk j = (fI H3582 kq j).toInt := fun j hj => (f3563 j hj).trans (congrArg Int32.toInt (Wr.neI wH3582 (Or.inl (G_ne gkq gq3579 (by decide)))).symm)
          have f3584 : ∀ j : Nat, j ≤ F.toNatClampNeg → vv j = (fI H3582 vq j).toInt := fun j hj => (f3564 j hj).trans (congrArg Int32.toInt (Wr.neI wH3582 (Or.inl (G_ne gvq gq3579 (by decide)))).symm)
          have m3585 := m3565.trans (Wr.neR wH3582 (Or.inl (G_ne ga0 gq3579 (by decide)))).symm
          have m3586 := m3566.trans (Wr.neR wH3582 (Or.inl (G_ne ga0 gq3579 (by decide)))).symm
          have m3587 := m3567.trans (Wr.neR wH3582 (Or.inl (G_ne ga0 gq3579 (by decide)))).symm
          have m3588 := m3568.trans (Wr.neI wH3582 (Or.inl (G_ne ga0 gq3579 (by decide)))).symm
          have m3589 := m3569.trans (Wr.neI wH3582 (Or.inl (G_ne gmq gq3579 (by decide)))).symm
          have m3590 := m3570.trans (Wr.neI wH3582 (Or.inl (G_ne ga0 gq3579 (by decide)))).symm
          have m3591 := (Wr.neI wH3582 (Or.inl (G_ne gkq gq3579 (by decide)))).trans m3571
          have m3592 := m3572.trans (Wr.neI wH3582 (Or.inl (G_ne gkq gq3579 (by decide)))).symm
          have m3593 := m3573.trans (Wr.neI wH3582 (Or.inl (G_ne ga0 gq3579 (by decide)))).symm
          have m3594 := m3574.trans (Wr.neR wH3582 (Or.inl (G_ne gmq gq3579 (by decide)))).symm
          have m3595 := m3575.trans (Wr.neI wH3582 (Or.inl (G_ne gq3545 gq3579 (by decide)))).symm
          have m3596 := m3576.trans (Wr.neR wH3582 (Or.inl (G_ne gmq gq3579 (by decide)))).symm
          have m3597 := (Wr.neI wH3582 (Or.inl (G_ne gq3561 gq3579 (by decide)))).trans m3577
          have m3598 := eq3579.trans (Wr.neR wH3582 (Or.inl (G_ne gmq gq3579 (by decide)))).symm
          have m3599 := ex3581.trans (Wr.neI wH3582 (Or.inl (G_ne gmq gq3579 (by decide)))).symm
          have m3600 := Wr.I wH3582
          have m3600 := m3600.symm
          refine lv_aload_n hx hb dX4_line_108 rfl (lv_at hl3525 2 rfl) ?_
          refine x_gi C hTH3582 (ci := 4) (k := 8) rfl inX4 (by decide) wF_X4_28 ga0 rg_78 rfl dX4_line_109 (fun x3601 ex3601 bx3601 => ?_)
          have ux3601 : lw = x3601 := (m3590).trans ex3601.symm
          subst ux3601
          refine lv_if_eq (tgt := 134) hx hb dX4_line_112 (by decide) (fun c3602 => ?_) (fun c3602 => ?_)
          · have k3603 := i_eq c3602
            refine lv_aload_n hx hb dX4_line_134 rfl (lv_at hl3525 2 rfl) ?_
            refine lv_iload_n hx hb dX4_line_135 rfl (lv_at hl3525 0 rfl) ?_
            refine lv_iload_n hx hb dX4_line_136 rfl (lv_at hl3525 1 rfl) ?_
            refine x_V (As := [.int li, .int x3499]) (rest := []) C (a_X4_jobHead_e l K G H3582 (li) (x3499) (F) (x3529) (fa) (lw) (li) kk vv hTH3582 ga0 (by omega) gmq m3585 gkq m3586 gvq m3587 m3593 m3588 m3590 m3589 m3591 (by omega) (by omega) f3583 f3584) yo_X4_jobHead wM_X4_107 ⟨⟨by decide, by decide⟩, by decide, by decide⟩ (x_rv C hTH3582 (ci := 4) rfl ga0 rg_78) rfl hl3525.1 rfl (Nat.le_of_ble_eq_true rfl) dX4_line_137 hSH3582 (AE_sub (fun _ _ => rfl) (by decide) hSH3582.1) (fun vH3604 H3604 locsH3604 pH3604 zH3604 kH3604 hSH3604 => ?_)
            obtain ⟨x3605, x3606, x3607, hvH3604, bx3605, ex3606, ex3607, hrH3604, m3608, m3609, m3610, m3611, m3612, hTH3604⟩ := pH3604
            subst hvH3604
            have f3613 : ∀ j : Nat, j ≤ F.toNatClampNeg → kk j = (fI H3604 kq j).toInt := fun j hj => (f3583 j hj).trans (congrArg Int32.toInt (fI_kept (x_lt hTH3582 kH3604 gkq (by decide))).symm)
            have f3614 : ∀ j : Nat, j ≤ F.toNatClampNeg → vv j = (fI H3604 vq j).toInt := fun j hj => (f3584 j hj).trans (congrArg Int32.toInt (fI_kept (x_lt hTH3582 kH3604 gvq (by decide))).symm)
            have m3615 := (m3589).trans (fI_kept (x_lt hTH3582 kH3604 gmq (by decide))).symm
            have m3616 := (fI_kept (x_lt hTH3582 kH3604 gkq (by decide))).trans m3591
            have m3617 := (m3592).trans (fI_kept (x_lt hTH3582 kH3604 gkq (by decide))).symm
            have m3618 := (m3594).trans (fR_kept (x_lt hTH3582 kH3604 gmq (by decide))).symm
            have m3619 := (m3595).trans (fI_kept (x_lt hTH3582 kH3604 gq3545 (by decide))).symm
            have m3620 := (m3596).trans (fR_kept (x_lt hTH3582 kH3604 gmq (by decide))).symm
            have m3621 := (m3598).trans (fR_kept (x_lt hTH3582 kH3604 gmq (by decide))).symm
            have m3622 := (m3599).trans (fI_kept (x_lt hTH3582 kH3604 gmq (by decide))).symm
            have m3623 := (m3600).trans (fI_kept (x_lt hTH3582 kH3604 gq3579 (by decide))).symm
            have bx3606 := ty_fi (x := x3606) (k := 7) ex3606 hTH3604 ga0 rg_78 rfl
            have bx3607 := ty_fi (x := x3607) (k := 1) ex3607 hTH3604 ga0 rg_78 rfl
            refine W.eq (g2 := F0 m 140 ls3524 [.int x3605]) rfl ?_
            refine lv_if_ne (tgt := 145) hx hb dX4_line_140 (by decide) (fun c3624 => ?_) (fun c3624 => ?_)
            · have k3625 := i_ne c3624
              refine lv_aload_n hx hb dX4_line_145 rfl (lv_at hl3525 2 rfl) ?_
              refine x_gr C hTH3604 (ci := 4) (k := 0) rfl inX4 (by decide) wF_X4_12 ga0 rg_78 rfl dX4_line_146 (fun q3626 eq3626 gq3626 => ?_)
              have uq3626 : mq = q3626 := (m3608).trans eq3626.symm
              subst uq3626
              refine x_gr C hTH3604 (ci := 7) (k := 6) rfl inX7 (by decide) wF_X4_110 gmq rg_69 rfl dX4_line_149 (fun q3627 eq3627 gq3627 => ?_)
              refine lv_iload_n hx hb dX4_line_152 rfl (lv_at hl3525 0 rfl) ?_
              refine lv_aload_n hx hb dX4_line_153 rfl (lv_at hl3525 2 rfl) ?_
              refine x_gr C hTH3604 (ci := 4) (k := 0) rfl inX4 (by decide) wF_X4_12 ga0 rg_78 rfl dX4_line_154 (fun q3628 eq3628 gq3628 => ?_)
              have uq3628 : mq = q3628 := (m3608).trans eq3628.symm
              subst uq3628
              refine x_gi C hTH3604 (ci := 7) (k := 9) rfl inX7 (by decide) wF_X4_96 gmq rg_69 rfl dX4_line_157 (fun x3629 ex3629 bx3629 => ?_)
              have ux3629 : x3581 = x3629 := (m3622).trans ex3629.symm
              subst ux3629
              refine x_iast C hTH3604 hSH3604 gq3627 rg_75 (by omega) (by show _ < ((16 : Nat) : Int); omega) ⟨by have := i_rng x3581; omega, by have := i_rng x3581; omega⟩ (AE_in gq3627 (by decide)) dX4_line_160 (fun H3630 locsH3630 hTH3630 hSH3630 wH3630 => ?_)
              have f3631 : ∀ j : Nat, j ≤ F.toNatClampNeg → kk j = (fI H3630 kq j).toInt := fun j hj => (f3613 j hj).trans (congrArg Int32.toInt (Wr.neI wH3630 (Or.inl (G_ne gkq gq3627 (by decide)))).symm)
              have f3632 : ∀ j : Nat, j ≤ F.toNatClampNeg → vv j = (fI H3630 vq j).toInt := fun j hj => (f3614 j hj).trans (congrArg Int32.toInt (Wr.neI wH3630 (Or.inl (G_ne gvq gq3627 (by decide)))).symm)
              have m3633 := m3615.trans (Wr.neI wH3630 (Or.inl (G_ne gmq gq3627 (by decide)))).symm
              have m3634 := (Wr.neI wH3630 (Or.inl (G_ne gkq gq3627 (by decide)))).trans m3616
              have m3635 := m3617.trans (Wr.neI wH3630 (Or.inl (G_ne gkq gq3627 (by decide)))).symm
              have m3636 := m3618.trans (Wr.neR wH3630 (Or.inl (G_ne gmq gq3627 (by decide)))).symm
              have m3637 := m3619.trans (Wr.neI wH3630 (Or.inl (G_ne gq3545 gq3627 (by decide)))).symm
              have m3638 := m3620.trans (Wr.neR wH3630 (Or.inl (G_ne gmq gq3627 (by decide)))).symm
              have m3639 := m3621.trans (Wr.neR wH3630 (Or.inl (G_ne gmq gq3627 (by decide)))).symm
              have m3640 := m3622.trans (Wr.neI wH3630 (Or.inl (G_ne gmq gq3627 (by decide)))).symm
              have m3641 := m3623.trans (Wr.neI wH3630 (Or.inl (G_ne gq3579 gq3627 (by decide)))).symm
              have m3642 := m3608.trans (Wr.neR wH3630 (Or.inl (G_ne ga0 gq3627 (by decide)))).symm
              have m3643 := m3609.trans (Wr.neR wH3630 (Or.inl (G_ne ga0 gq3627 (by decide)))).symm
              have m3644 := m3610.trans (Wr.neR wH3630 (Or.inl (G_ne ga0 gq3627 (by decide)))).symm
              have m3645 := m3611.trans (Wr.neI wH3630 (Or.inl (G_ne ga0 gq3627 (by decide)))).symm
              have m3646 := ex3606.trans (Wr.neI wH3630 (Or.inl (G_ne ga0 gq3627 (by decide)))).symm
              have m3647 := ex3607.trans (Wr.neI wH3630 (Or.inl (G_ne ga0 gq3627 (by decide)))).symm
              have m3648 := eq3627.trans (Wr.neR wH3630 (Or.inl (G_ne gmq gq3627 (by decide)))).symm
              have m3649 := Wr.I wH3630
              have m3649 := m3649.symm
              refine lv_aload_n hx hb dX4_line_161 rfl (lv_at hl3525 2 rfl) ?_
              refine x_gr C hTH3630 (ci := 4) (k := 3) rfl inX4 (by decide) wF_X4_18 ga0 rg_78 rfl dX4_line_162 (fun q3650 eq3650 gq3650 => ?_)
              have uq3650 : kq = q3650 := (m3643).trans eq3650.symm
              subst uq3650
              refine lv_aload_n hx hb dX4_line_165 rfl (lv_at hl3525 2 rfl) ?_
              refine x_gi C hTH3630 (ci := 4) (k := 7) rfl inX4 (by decide) wF_X4_42 ga0 rg_78 rfl dX4_line_166 (fun x3651 ex3651 bx3651 => ?_)
              have ux3651 : x3606 = x3651 := (m3646).trans ex3651.symm
              subst ux3651
              refine x_ai C hTH3630 gkq rg_79 ⟨by omega, by show _ < ((501 : Nat) : Int); omega⟩ dX4_line_169 (fun x3652 ex3652 bx3652 => ?_)
              have dx3652 := el_hit ex3652 m3634
              have qvx3652 : kk x3606.toNatClampNeg = x3652.toInt := (f3631 _ (by have h1 := i_cl (x := x3606) (by omega); have h2 := i_cl (x := F) (by omega); omega)).trans (congrArg Int32.toInt ex3652.symm)
              refine lv_bipush (v := 7) hx hb dX4_line_170 (by decide) ?_
              refine lv_icmp_ne (tgt := 195) hx hb dX4_line_172 (by decide) (fun c3653 => ?_) (fun c3653 => ?_)
              · have k3654 := i_ne c3653
                refine lv_aload_n hx hb dX4_line_195 rfl (lv_at hl3525 2 rfl) ?_
                refine x_gr C hTH3630 (ci := 4) (k := 0) rfl inX4 (by decide) wF_X4_12 ga0 rg_78 rfl dX4_line_196 (fun q3655 eq3655 gq3655 => ?_)
                have uq3655 : mq = q3655 := (m3642).trans eq3655.symm
                subst uq3655
                refine x_gr C hTH3630 (ci := 7) (k := 7) rfl inX7 (by decide) wF_X4_116 gmq rg_69 rfl dX4_line_199 (fun q3656 eq3656 gq3656 => ?_)
                refine lv_iload_n hx hb dX4_line_202 rfl (lv_at hl3525 0 rfl) ?_
                refine lv_aload_n hx hb dX4_line_203 rfl (lv_at hl3525 2 rfl) ?_
                refine x_gr C hTH3630 (ci := 4) (k := 0) rfl inX4 (by decide) wF_X4_12 ga0 rg_78 rfl dX4_line_204 (fun q3657 eq3657 gq3657 => ?_)
                have uq3657 : mq = q3657 := (m3642).trans eq3657.symm
                subst uq3657
                refine x_gi C hTH3630 (ci := 7) (k := 9) rfl inX7 (by decide) wF_X4_96 gmq rg_69 rfl dX4_line_207 (fun x3658 ex3658 bx3658 => ?_)
                have ux3658 : x3581 = x3658 := (m3640).trans ex3658.symm
                subst ux3658
                refine x_iast C hTH3630 hSH3630 gq3656 rg_76 (by omega) (by show _ < ((16 : Nat) : Int); omega) ⟨by have := i_rng x3581; omega, by have := i_rng x3581; omega⟩ (AE_in gq3656 (by decide)) dX4_line_210 (fun H3659 locsH3659 hTH3659 hSH3659 wH3659 => ?_)
                have f3660 : ∀ j : Nat, j ≤ F.toNatClampNeg → kk j = (fI H3659 kq j).toInt := fun j hj => (f3631 j hj).trans (congrArg Int32.toInt (Wr.neI wH3659 (Or.inl (G_ne gkq gq3656 (by decide)))).symm)
                have f3661 : ∀ j : Nat, j ≤ F.toNatClampNeg → vv j = (fI H3659 vq j).toInt := fun j hj => (f3632 j hj).trans (congrArg Int32.toInt (Wr.neI wH3659 (Or.inl (G_ne gvq gq3656 (by decide)))).symm)
                have m3662 := m3633.trans (Wr.neI wH3659 (Or.inl (G_ne gmq gq3656 (by decide)))).symm
                have m3663 := (Wr.neI wH3659 (Or.inl (G_ne gkq gq3656 (by decide)))).trans m3634
                have m3664 := m3635.trans (Wr.neI wH3659 (Or.inl (G_ne gkq gq3656 (by decide)))).symm
                have m3665 := m3636.trans (Wr.neR wH3659 (Or.inl (G_ne gmq gq3656 (by decide)))).symm
                have m3666 := m3637.trans (Wr.neI wH3659 (Or.inl (G_ne gq3545 gq3656 (by decide)))).symm
                have m3667 := m3638.trans (Wr.neR wH3659 (Or.inl (G_ne gmq gq3656 (by decide)))).symm
                have m3668 := m3639.trans (Wr.neR wH3659 (Or.inl (G_ne gmq gq3656 (by decide)))).symm
                have m3669 := m3640.trans (Wr.neI wH3659 (Or.inl (G_ne gmq gq3656 (by decide)))).symm
                have m3670 := m3641.trans (Wr.neI wH3659 (Or.inl (G_ne gq3579 gq3656 (by decide)))).symm
                have m3671 := m3642.trans (Wr.neR wH3659 (Or.inl (G_ne ga0 gq3656 (by decide)))).symm
                have m3672 := m3643.trans (Wr.neR wH3659 (Or.inl (G_ne ga0 gq3656 (by decide)))).symm
                have m3673 := m3644.trans (Wr.neR wH3659 (Or.inl (G_ne ga0 gq3656 (by decide)))).symm
                have m3674 := m3645.trans (Wr.neI wH3659 (Or.inl (G_ne ga0 gq3656 (by decide)))).symm
                have m3675 := m3646.trans (Wr.neI wH3659 (Or.inl (G_ne ga0 gq3656 (by decide)))).symm
                have m3676 := m3647.trans (Wr.neI wH3659 (Or.inl (G_ne ga0 gq3656 (by decide)))).symm
                have m3677 := m3648.trans (Wr.neR wH3659 (Or.inl (G_ne gmq gq3656 (by decide)))).symm
                have m3678 := m3649.trans (Wr.neI wH3659 (Or.inl (G_ne gq3627 gq3656 (by decide)))).symm
                have m3679 := ex3652.trans (Wr.neI wH3659 (Or.inl (G_ne gkq gq3656 (by decide)))).symm
                have m3680 := eq3656.trans (Wr.neR wH3659 (Or.inl (G_ne gmq gq3656 (by decide)))).symm
                have m3681 := Wr.I wH3659
                have m3681 := m3681.symm
                refine lv_aload_n hx hb dX4_line_211 rfl (lv_at hl3525 2 rfl) ?_
                refine x_gr C hTH3659 (ci := 4) (k := 3) rfl inX4 (by decide) wF_X4_18 ga0 rg_78 rfl dX4_line_212 (fun q3682 eq3682 gq3682 => ?_)
                have uq3682 : kq = q3682 := (m3672).trans eq3682.symm
                subst uq3682
                refine lv_aload_n hx hb dX4_line_215 rfl (lv_at hl3525 2 rfl) ?_
                refine x_gi C hTH3659 (ci := 4) (k := 7) rfl inX4 (by decide) wF_X4_42 ga0 rg_78 rfl dX4_line_216 (fun x3683 ex3683 bx3683 => ?_)
                have ux3683 : x3606 = x3683 := (m3675).trans ex3683.symm
                subst ux3683
                refine x_ai C hTH3659 gkq rg_79 ⟨by omega, by show _ < ((501 : Nat) : Int); omega⟩ dX4_line_219 (fun x3684 ex3684 bx3684 => ?_)
                have ux3684 : x3652 = x3684 := (m3679).trans ex3684.symm
                subst ux3684
                have qvx3684 : kk x3606.toNatClampNeg = x3652.toInt := (f3660 _ (by have h1 := i_cl (x := x3606) (by omega); have h2 := i_cl (x := F) (by omega); omega)).trans (congrArg Int32.toInt ex3684.symm)
                refine lv_bipush (v := 59) hx hb dX4_line_220 (by decide) ?_
                refine lv_icmp_eq (tgt := 231) hx hb dX4_line_222 (by decide) (fun c3685 => ?_) (fun c3685 => ?_)
                · have k3686 := i_eq c3685
                  refine lv_aload_n hx hb dX4_line_231 rfl (lv_at hl3525 2 rfl) ?_
                  refine lv_dup hx hb dX4_line_232 rfl ?_
                  refine x_gi C hTH3659 (ci := 4) (k := 7) rfl inX4 (by decide) wF_X4_42 ga0 rg_78 rfl dX4_line_233 (fun x3687 ex3687 bx3687 => ?_)
                  have ux3687 : x3606 = x3687 := (m3675).trans ex3687.symm
                  subst ux3687
                  refine lv_iconst (v := 1) hx hb dX4_line_236 (by decide) ?_
                  refine lv_iadd hx hb dX4_line_237 ?_
                  refine lv_topi (fun x3688 ex3688 => ?_)
                  have tx3688 := i_add ex3688 (by omega)
                  have fz3690 : 0 ≤ x3688.toInt ∧ x3688.toInt ≤ 500 := by have := i_rng x3688; omega
                  refine x_put C hTH3659 hSH3659 (ci := 4) (k := 7) (v := .int x3688) (ty0 := tyX4) rfl inX4 tyX4_ok nmX4 (by decide) rfl wF_X4_42 ga0 rg_78 rfl rfl (okI (by have := i_rng x3688; omega) (by have := i_rng x3688; omega)) rfl rfl (AE_in ga0 (by decide)) dX4_line_238 (fun H3689 locsH3689 hTH3689 hSH3689 wH3689 => ?_)
                  have f3691 : ∀ j : Nat, j ≤ F.toNatClampNeg → kk j = (fI H3689 kq j).toInt := fun j hj => (f3660 j hj).trans (congrArg Int32.toInt (Wr.neI wH3689 (Or.inl (G_ne gkq ga0 (by decide)))).symm)
                  have f3692 : ∀ j : Nat, j ≤ F.toNatClampNeg → vv j = (fI H3689 vq j).toInt := fun j hj => (f3661 j hj).trans (congrArg Int32.toInt (Wr.neI wH3689 (Or.inl (G_ne gvq ga0 (by decide)))).symm)
                  have m3693 := m3662.trans (Wr.neI wH3689 (Or.inl (G_ne gmq ga0 (by decide)))).symm
                  have m3694 := (Wr.neI wH3689 (Or.inl (G_ne gkq ga0 (by decide)))).trans m3663
                  have m3695 := m3664.trans (Wr.neI wH3689 (Or.inl (G_ne gkq ga0 (by decide)))).symm
                  have m3696 := m3665.trans (Wr.neR wH3689 (Or.inl (G_ne gmq ga0 (by decide)))).symm
                  have m3697 := m3666.trans (Wr.neI wH3689 (Or.inl (G_ne gq3545 ga0 (by decide)))).symm
                  have m3698 := m3667.trans (Wr.neR wH3689 (Or.inl (G_ne gmq ga0 (by decide)))).symm
                  have m3699 := m3668.trans (Wr.neR wH3689 (Or.inl (G_ne gmq ga0 (by decide)))).symm
                  have m3700 := m3669.trans (Wr.neI wH3689 (Or.inl (G_ne gmq ga0 (by decide)))).symm
                  have m3701 := m3670.trans (Wr.neI wH3689 (Or.inl (G_ne gq3579 ga0 (by decide)))).symm
                  have m3702 := m3671.trans (Wr.neR wH3689 (Or.inr (x_apart hKT hts inX4 tyX4 tyX4_ok nmX4 rfl 0 7 (by decide) (by decide) (by decide)))).symm
                  have m3703 := m3672.trans (Wr.neR wH3689 (Or.inr (x_apart hKT hts inX4 tyX4 tyX4_ok nmX4 rfl 3 7 (by decide) (by decide) (by decide)))).symm
                  have m3704 := m3673.trans (Wr.neR wH3689 (Or.inr (x_apart hKT hts inX4 tyX4 tyX4_ok nmX4 rfl 4 7 (by decide) (by decide) (by decide)))).symm
                  have m3705 := m3674.trans (Wr.neI wH3689 (Or.inr (x_apart hKT hts inX4 tyX4 tyX4_ok nmX4 rfl 8 7 (by decide) (by decide) (by decide)))).symm
                  have m3707 := m3676.trans (Wr.neI wH3689 (Or.inr (x_apart hKT hts inX4 tyX4 tyX4_ok nmX4 rfl 1 7 (by decide) (by decide) (by decide)))).symm
                  have m3708 := m3677.trans (Wr.neR wH3689 (Or.inl (G_ne gmq ga0 (by decide)))).symm
                  have m3709 := m3678.trans (Wr.neI wH3689 (Or.inl (G_ne gq3627 ga0 (by decide)))).symm
                  have m3710 := m3679.trans (Wr.neI wH3689 (Or.inl (G_ne gkq ga0 (by decide)))).symm
                  have m3711 := m3680.trans (Wr.neR wH3689 (Or.inl (G_ne gmq ga0 (by decide)))).symm
                  have m3712 := m3681.trans (Wr.neI wH3689 (Or.inl (G_ne gq3656 ga0 (by decide)))).symm
                  have m3713 := Wr.I wH3689
                  have m3713 := m3713.symm
                  refine lv_aload_n hx hb dX4_line_241 rfl (lv_at hl3525 2 rfl) ?_
                  refine x_gr C hTH3689 (ci := 4) (k := 0) rfl inX4 (by decide) wF_X4_12 ga0 rg_78 rfl dX4_line_242 (fun q3714 eq3714 gq3714 => ?_)
                  have uq3714 : mq = q3714 := (m3702).trans eq3714.symm
                  subst uq3714
                  refine lv_dup hx hb dX4_line_245 rfl ?_
                  refine x_gi C hTH3689 (ci := 7) (k := 0) rfl inX7 (by decide) wF_X4_84 gmq rg_69 rfl dX4_line_246 (fun x3715 ex3715 bx3715 => ?_)
                  have ux3715 : li = x3715 := (m3693).trans ex3715.symm
                  subst ux3715
                  refine lv_iconst (v := 1) hx hb dX4_line_249 (by decide) ?_
                  refine lv_iadd hx hb dX4_line_250 ?_
                  refine lv_topi (fun x3716 ex3716 => ?_)
                  have tx3716 := i_add ex3716 (by omega)
                  refine x_put C hTH3689 hSH3689 (ci := 7) (k := 0) (v := .int x3716) (ty0 := tyX7) rfl inX7 tyX7_ok nmX7 (by decide) rfl wF_X4_84 gmq rg_69 rfl rfl (okI (by have := i_rng x3716; omega) (by have := i_rng x3716; omega)) rfl rfl (AE_in gmq (by decide)) dX4_line_251 (fun H3717 locsH3717 hTH3717 hSH3717 wH3717 => ?_)
                  have f3718 : ∀ j : Nat, j ≤ F.toNatClampNeg → kk j = (fI H3717 kq j).toInt := fun j hj => (f3691 j hj).trans (congrArg Int32.toInt (Wr.neI wH3717 (Or.inl (G_ne gkq gmq (by decide)))).symm)
                  have f3719 : ∀ j : Nat, j ≤ F.toNatClampNeg → vv j = (fI H3717 vq j).toInt := fun j hj => (f3692 j hj).trans (congrArg Int32.toInt (Wr.neI wH3717 (Or.inl (G_ne gvq gmq (by decide)))).symm)
                  have m3721 := (Wr.neI wH3717 (Or.inl (G_ne gkq gmq (by decide)))).trans m3694
                  have m3722 := m3695.trans (Wr.neI wH3717 (Or.inl (G_ne gkq gmq (by decide)))).symm
                  have m3723 := m3696.trans (Wr.neR wH3717 (Or.inr (x_apart hKT hts inX7 tyX7 tyX7_ok nmX7 rfl 1 0 (by decide) (by decide) (by decide)))).symm
                  have m3724 := m3697.trans (Wr.neI wH3717 (Or.inl (G_ne gq3545 gmq (by decide)))).symm
                  have m3725 := m3698.trans (Wr.neR wH3717 (Or.inr (x_apart hKT hts inX7 tyX7 tyX7_ok nmX7 rfl 2 0 (by decide) (by decide) (by decide)))).symm
                  have m3726 := m3699.trans (Wr.neR wH3717 (Or.inr (x_apart hKT hts inX7 tyX7 tyX7_ok nmX7 rfl 5 0 (by decide) (by decide) (by decide)))).symm
                  have m3727 := m3700.trans (Wr.neI wH3717 (Or.inr (x_apart hKT hts inX7 tyX7 tyX7_ok nmX7 rfl 9 0 (by decide) (by decide) (by decide)))).symm
                  have m3728 := m3701.trans (Wr.neI wH3717 (Or.inl (G_ne gq3579 gmq (by decide)))).symm
                  have m3729 := m3702.trans (Wr.neR wH3717 (Or.inl (G_ne ga0 gmq (by decide)))).symm
                  have m3730 := m3703.trans (Wr.neR wH3717 (Or.inl (G_ne ga0 gmq (by decide)))).symm
                  have m3731 := m3704.trans (Wr.neR wH3717 (Or.inl (G_ne ga0 gmq (by decide)))).symm
                  have m3732 := m3705.trans (Wr.neI wH3717 (Or.inl (G_ne ga0 gmq (by decide)))).symm
                  have m3733 := m3707.trans (Wr.neI wH3717 (Or.inl (G_ne ga0 gmq (by decide)))).symm
                  have m3734 := m3708.trans (Wr.neR wH3717 (Or.inr (x_apart hKT hts inX7 tyX7 tyX7_ok nmX7 rfl 6 0 (by decide) (by decide) (by decide)))).symm
                  have m3735 := m3709.trans (Wr.neI wH3717 (Or.inl (G_ne gq3627 gmq (by decide)))).symm
                  have m3736 := m3710.trans (Wr.neI wH3717 (Or.inl (G_ne gkq gmq (by decide)))).symm
                  have m3737 := m3711.trans (Wr.neR wH3717 (Or.inr (x_apart hKT hts inX7 tyX7 tyX7_ok nmX7 rfl 7 0 (by decide) (by decide) (by decide)))).symm
                  have m3738 := m3712.trans (Wr.neI wH3717 (Or.inl (G_ne gq3656 gmq (by decide)))).symm
                  have m3739 := m3713.trans (Wr.neI wH3717 (Or.inl (G_ne ga0 gmq (by decide)))).symm
                  have m3740 := Wr.I wH3717
                  have m3740 := m3740.symm
                  refine lv_iconst (v := 1) hx hb dX4_line_254 (by decide) ?_
                  have cn_F := i_cl (x := F) (by omega)
                  have cn_tat := i_cl (x := tat) (by omega)
                  have cn_x3688 := i_cl (x := x3688) (by omega)
                  have cn_x3529 := i_cl (x := x3529) (by omega)
                  have cn_x3606 := i_cl (x := x3606) (by omega)
                  exact x_zret C hQ (Or.inr rfl) dX4_line_255 hSH3717 (by decide) (by decide) (⟨1, x3688, x3607, x3716, rfl, by decide, m3739, m3733, m3740, by omega, m3729, m3730, m3731, m3732, Or.inr ⟨(if_neg (by omega)).trans ((ln_go (by rw [qvx3499]; omega) qvx3499.symm (show x3529.toNatClampNeg = _ + 1 by omega) ((hs_job (by omega)).trans (RQ.yes m3612 (by omega))) (wn_0 (by rw [qvx3652]; omega))).trans ((if_pos (by rw [qvx3684]; omega)).trans (congrArg some (show _ + 1 = x3688.toNatClampNeg by omega)))), by omega⟩, hTH3717⟩)
                · have k3686 := i_ne c3685
                  refine lv_aload_n hx hb dX4_line_225 rfl (lv_at hl3525 2 rfl) ?_
                  refine lv_iconst (v := 1) hx hb dX4_line_226 (by decide) ?_
                  refine x_V (As := [.int 1]) (rest := []) C (a_X4_refuse_e l K G H3659 (1) (x3606) (x3607) (lw) hTH3659 ga0 gmq m3671 gkq m3672 gvq m3673 m3675 m3676 m3674) yo_X4_refuse wM_X4_81 ⟨⟨by decide, by decide⟩, by decide, by decide⟩ (x_rv C hTH3659 (ci := 4) rfl ga0 rg_78) rfl hl3525.1 rfl (Nat.le_of_ble_eq_true rfl) dX4_line_227 hSH3659 (AE_sub (fun _ _ => rfl) (by decide) hSH3659.1) (fun vH3741 H3741 locsH3741 pH3741 zH3741 kH3741 hSH3741 => ?_)
                  obtain ⟨x3742, x3743, x3744, hvH3741, bx3742, ex3743, ex3744, hrH3741, m3745, m3746, m3747, m3748, hTH3741⟩ := pH3741
                  subst hvH3741
                  have f3749 : ∀ j : Nat, j ≤ F.toNatClampNeg → kk j = (fI H3741 kq j).toInt := fun j hj => (f3660 j hj).trans (congrArg Int32.toInt (fI_kept (x_lt hTH3659 kH3741 gkq (by decide))).symm)
                  have f3750 : ∀ j : Nat, j ≤ F.toNatClampNeg → vv j = (fI H3741 vq j).toInt := fun j hj => (f3661 j hj).trans (congrArg Int32.toInt (fI_kept (x_lt hTH3659 kH3741 gvq (by decide))).symm)
                  have m3751 := (m3662).trans (fI_kept (x_lt hTH3659 kH3741 gmq (by decide))).symm
                  have m3752 := (fI_kept (x_lt hTH3659 kH3741 gkq (by decide))).trans m3663
                  have m3753 := (m3664).trans (fI_kept (x_lt hTH3659 kH3741 gkq (by decide))).symm
                  have m3754 := (m3665).trans (fR_kept (x_lt hTH3659 kH3741 gmq (by decide))).symm
                  have m3755 := (m3666).trans (fI_kept (x_lt hTH3659 kH3741 gq3545 (by decide))).symm
                  have m3756 := (m3667).trans (fR_kept (x_lt hTH3659 kH3741 gmq (by decide))).symm
                  have m3757 := (m3668).trans (fR_kept (x_lt hTH3659 kH3741 gmq (by decide))).symm
                  have m3758 := (m3669).trans (fI_kept (x_lt hTH3659 kH3741 gmq (by decide))).symm
                  have m3759 := (m3670).trans (fI_kept (x_lt hTH3659 kH3741 gq3579 (by decide))).symm
                  have m3760 := (m3677).trans (fR_kept (x_lt hTH3659 kH3741 gmq (by decide))).symm
                  have m3761 := (m3678).trans (fI_kept (x_lt hTH3659 kH3741 gq3627 (by decide))).symm
                  have m3762 := (m3679).trans (fI_kept (x_lt hTH3659 kH3741 gkq (by decide))).symm
                  have m3763 := (m3680).trans (fR_kept (x_lt hTH3659 kH3741 gmq (by decide))).symm
                  have m3764 := (m3681).trans (fI_kept (x_lt hTH3659 kH3741 gq3656 (by decide))).symm
                  have bx3743 := ty_fi (x := x3743) (k := 7) ex3743 hTH3741 ga0 rg_78 rfl
                  have bx3744 := ty_fi (x := x3744) (k := 1) ex3744 hTH3741 ga0 rg_78 rfl
                  refine W.eq (g2 := F0 m 230 ls3524 [.int x3742]) rfl ?_
                  have cn_F := i_cl (x := F) (by omega)
                  have cn_tat := i_cl (x := tat) (by omega)
                  have cn_x3743 := i_cl (x := x3743) (by omega)
                  have cn_x3529 := i_cl (x := x3529) (by omega)
                  have cn_x3606 := i_cl (x := x3606) (by omega)
                  exact x_zret C hQ (i_01 (by omega)) dX4_line_230 hSH3741 (by decide) (by decide) (⟨x3742, x3743, x3744, li, rfl, by omega, ex3743, ex3744, m3751, by omega, m3745, m3746, m3747, m3748, Or.inl ⟨(if_neg (by omega)).trans ((ln_go (by rw [qvx3499]; omega) qvx3499.symm (show x3529.toNatClampNeg = _ + 1 by omega) ((hs_job (by omega)).trans (RQ.yes m3612 (by omega))) (wn_0 (by rw [qvx3652]; omega))).trans (if_neg (by rw [qvx3684]; omega))), by omega⟩, hTH3741⟩)
              · have k3654 := i_eq c3653
                refine lv_aload_n hx hb dX4_line_175 rfl (lv_at hl3525 2 rfl) ?_
                refine lv_dup hx hb dX4_line_176 rfl ?_
                refine x_gi C hTH3630 (ci := 4) (k := 7) rfl inX4 (by decide) wF_X4_42 ga0 rg_78 rfl dX4_line_177 (fun x3765 ex3765 bx3765 => ?_)
                have ux3765 : x3606 = x3765 := (m3646).trans ex3765.symm
                subst ux3765
                refine lv_iconst (v := 1) hx hb dX4_line_180 (by decide) ?_
                refine lv_iadd hx hb dX4_line_181 ?_
                refine lv_topi (fun x3766 ex3766 => ?_)
                have tx3766 := i_add ex3766 (by omega)
                have fz3768 : 0 ≤ x3766.toInt ∧ x3766.toInt ≤ 500 := by have := i_rng x3766; omega
                refine x_put C hTH3630 hSH3630 (ci := 4) (k := 7) (v := .int x3766) (ty0 := tyX4) rfl inX4 tyX4_ok nmX4 (by decide) rfl wF_X4_42 ga0 rg_78 rfl rfl (okI (by have := i_rng x3766; omega) (by have := i_rng x3766; omega)) rfl rfl (AE_in ga0 (by decide)) dX4_line_182 (fun H3767 locsH3767 hTH3767 hSH3767 wH3767 => ?_)
                have f3769 : ∀ j : Nat, j ≤ F.toNatClampNeg → kk j = (fI H3767 kq j).toInt := fun j hj => (f3631 j hj).trans (congrArg Int32.toInt (Wr.neI wH3767 (Or.inl (G_ne gkq ga0 (by decide)))).symm)
                have f3770 : ∀ j : Nat, j ≤ F.toNatClampNeg → vv j = (fI H3767 vq j).toInt := fun j hj => (f3632 j hj).trans (congrArg Int32.toInt (Wr.neI wH3767 (Or.inl (G_ne gvq ga0 (by decide)))).symm)
                have m3771 := m3633.trans (Wr.neI wH3767 (Or.inl (G_ne gmq ga0 (by decide)))).symm
                have m3772 := (Wr.neI wH3767 (Or.inl (G_ne gkq ga0 (by decide)))).trans m3634
                have m3773 := m3635.trans (Wr.neI wH3767 (Or.inl (G_ne gkq ga0 (by decide)))).symm
                have m3774 := m3636.trans (Wr.neR wH3767 (Or.inl (G_ne gmq ga0 (by decide)))).symm
                have m3775 := m3637.trans (Wr.neI wH3767 (Or.inl (G_ne gq3545 ga0 (by decide)))).symm
                have m3776 := m3638.trans (Wr.neR wH3767 (Or.inl (G_ne gmq ga0 (by decide)))).symm
                have m3777 := m3639.trans (Wr.neR wH3767 (Or.inl (G_ne gmq ga0 (by decide)))).symm
                have m3778 := m3640.trans (Wr.neI wH3767 (Or.inl (G_ne gmq ga0 (by decide)))).symm
                have m3779 := m3641.trans (Wr.neI wH3767 (Or.inl (G_ne gq3579 ga0 (by decide)))).symm
                have m3780 := m3642.trans (Wr.neR wH3767 (Or.inr (x_apart hKT hts inX4 tyX4 tyX4_ok nmX4 rfl 0 7 (by decide) (by decide) (by decide)))).symm
                have m3781 := m3643.trans (Wr.neR wH3767 (Or.inr (x_apart hKT hts inX4 tyX4 tyX4_ok nmX4 rfl 3 7 (by decide) (by decide) (by decide)))).symm
                have m3782 := m3644.trans (Wr.neR wH3767 (Or.inr (x_apart hKT hts inX4 tyX4 tyX4_ok nmX4 rfl 4 7 (by decide) (by decide) (by decide)))).symm
                have m3783 := m3645.trans (Wr.neI wH3767 (Or.inr (x_apart hKT hts inX4 tyX4 tyX4_ok nmX4 rfl 8 7 (by decide) (by decide) (by decide)))).symm
                have m3785 := m3647.trans (Wr.neI wH3767 (Or.inr (x_apart hKT hts inX4 tyX4 tyX4_ok nmX4 rfl 1 7 (by decide) (by decide) (by decide)))).symm
                have m3786 := m3648.trans (Wr.neR wH3767 (Or.inl (G_ne gmq ga0 (by decide)))).symm
                have m3787 := m3649.trans (Wr.neI wH3767 (Or.inl (G_ne gq3627 ga0 (by decide)))).symm
                have m3788 := ex3652.trans (Wr.neI wH3767 (Or.inl (G_ne gkq ga0 (by decide)))).symm
                have m3789 := Wr.I wH3767
                have m3789 := m3789.symm
                refine lv_aload_n hx hb dX4_line_185 rfl (lv_at hl3525 2 rfl) ?_
                refine lv_iconst (v := 0) hx hb dX4_line_186 (by decide) ?_
                refine x_V (As := [.int 0]) (rest := []) C (a_X4_either_e0 l K G H3767 (0) (F) (x3766) (x3607) (lw) (li) kk vv hTH3767 ga0 (by decide) gmq m3780 gkq m3781 gvq m3782 m3789 m3785 m3783 m3771 m3772 (by omega) (by omega) f3769 f3770) yo_X4_either wM_X4_113 ⟨⟨by decide, by decide⟩, by decide, by decide⟩ (x_rv C hTH3767 (ci := 4) rfl ga0 rg_78) rfl hl3525.1 rfl (Nat.le_of_ble_eq_true rfl) dX4_line_187 hSH3767 (AE_sub (fun _ _ => rfl) (by decide) hSH3767.1) (fun vH3790 H3790 locsH3790 pH3790 zH3790 kH3790 hSH3790 => ?_)
                obtain ⟨x3791, x3792, x3793, hvH3790, bx3791, ex3792, ex3793, hrH3790, m3794, m3795, m3796, m3797, m3798, m3799, hTH3790⟩ := pH3790
                subst hvH3790
                have f3800 : ∀ j : Nat, j ≤ F.toNatClampNeg → kk j = (fI H3790 kq j).toInt := fun j hj => (f3769 j hj).trans (congrArg Int32.toInt (fI_kept (x_lt hTH3767 kH3790 gkq (by decide))).symm)
                have f3801 : ∀ j : Nat, j ≤ F.toNatClampNeg → vv j = (fI H3790 vq j).toInt := fun j hj => (f3770 j hj).trans (congrArg Int32.toInt (fI_kept (x_lt hTH3767 kH3790 gvq (by decide))).symm)
                have m3802 := (fI_kept (x_lt hTH3767 kH3790 gkq (by decide))).trans m3772
                have m3803 := (m3773).trans (fI_kept (x_lt hTH3767 kH3790 gkq (by decide))).symm
                have m3804 := (m3775).trans (fI_kept (x_lt hTH3767 kH3790 gq3545 (by decide))).symm
                have m3805 := (m3779).trans (fI_kept (x_lt hTH3767 kH3790 gq3579 (by decide))).symm
                have m3806 := (m3787).trans (fI_kept (x_lt hTH3767 kH3790 gq3627 (by decide))).symm
                have m3807 := (m3788).trans (fI_kept (x_lt hTH3767 kH3790 gkq (by decide))).symm
                have bx3792 := ty_fi (x := x3792) (k := 7) ex3792 hTH3790 ga0 rg_78 rfl
                have bx3793 := ty_fi (x := x3793) (k := 1) ex3793 hTH3790 ga0 rg_78 rfl
                refine W.eq (g2 := F0 m 190 ls3524 [.int x3791]) rfl ?_
                refine lv_if_ne (tgt := 195) hx hb dX4_line_190 (by decide) (fun c3808 => ?_) (fun c3808 => ?_)
                · have k3809 := i_ne c3808
                  refine lv_aload_n hx hb dX4_line_195 rfl (lv_at hl3525 2 rfl) ?_
                  refine x_gr C hTH3790 (ci := 4) (k := 0) rfl inX4 (by decide) wF_X4_12 ga0 rg_78 rfl dX4_line_196 (fun q3810 eq3810 gq3810 => ?_)
                  have uq3810 : mq = q3810 := (m3794).trans eq3810.symm
                  subst uq3810
                  refine x_gr C hTH3790 (ci := 7) (k := 7) rfl inX7 (by decide) wF_X4_116 gmq rg_69 rfl dX4_line_199 (fun q3811 eq3811 gq3811 => ?_)
                  refine lv_iload_n hx hb dX4_line_202 rfl (lv_at hl3525 0 rfl) ?_
                  refine lv_aload_n hx hb dX4_line_203 rfl (lv_at hl3525 2 rfl) ?_
                  refine x_gr C hTH3790 (ci := 4) (k := 0) rfl inX4 (by decide) wF_X4_12 ga0 rg_78 rfl dX4_line_204 (fun q3812 eq3812 gq3812 => ?_)
                  have uq3812 : mq = q3812 := (m3794).trans eq3812.symm
                  subst uq3812
                  refine x_gi C hTH3790 (ci := 7) (k := 9) rfl inX7 (by decide) wF_X4_96 gmq rg_69 rfl dX4_line_207 (fun x3813 ex3813 bx3813 => ?_)
                  refine x_iast C hTH3790 hSH3790 gq3811 rg_76 (by omega) (by show _ < ((16 : Nat) : Int); omega) ⟨by have := i_rng x3813; omega, by have := i_rng x3813; omega⟩ (AE_in gq3811 (by decide)) dX4_line_210 (fun H3814 locsH3814 hTH3814 hSH3814 wH3814 => ?_)
                  have f3815 : ∀ j : Nat, j ≤ F.toNatClampNeg → kk j = (fI H3814 kq j).toInt := fun j hj => (f3800 j hj).trans (congrArg Int32.toInt (Wr.neI wH3814 (Or.inl (G_ne gkq gq3811 (by decide)))).symm)
                  have f3816 : ∀ j : Nat, j ≤ F.toNatClampNeg → vv j = (fI H3814 vq j).toInt := fun j hj => (f3801 j hj).trans (congrArg Int32.toInt (Wr.neI wH3814 (Or.inl (G_ne gvq gq3811 (by decide)))).symm)
                  have m3817 := (Wr.neI wH3814 (Or.inl (G_ne gkq gq3811 (by decide)))).trans m3802
                  have m3818 := m3803.trans (Wr.neI wH3814 (Or.inl (G_ne gkq gq3811 (by decide)))).symm
                  have m3819 := m3804.trans (Wr.neI wH3814 (Or.inl (G_ne gq3545 gq3811 (by decide)))).symm
                  have m3820 := m3805.trans (Wr.neI wH3814 (Or.inl (G_ne gq3579 gq3811 (by decide)))).symm
                  have m3821 := m3806.trans (Wr.neI wH3814 (Or.inl (G_ne gq3627 gq3811 (by decide)))).symm
                  have m3822 := m3807.trans (Wr.neI wH3814 (Or.inl (G_ne gkq gq3811 (by decide)))).symm
                  have m3823 := m3794.trans (Wr.neR wH3814 (Or.inl (G_ne ga0 gq3811 (by decide)))).symm
                  have m3824 := m3795.trans (Wr.neR wH3814 (Or.inl (G_ne ga0 gq3811 (by decide)))).symm
                  have m3825 := m3796.trans (Wr.neR wH3814 (Or.inl (G_ne ga0 gq3811 (by decide)))).symm
                  have m3826 := m3797.trans (Wr.neI wH3814 (Or.inl (G_ne ga0 gq3811 (by decide)))).symm
                  have m3827 := m3798.trans (Wr.neI wH3814 (Or.inl (G_ne gmq gq3811 (by decide)))).symm
                  have m3828 := ex3792.trans (Wr.neI wH3814 (Or.inl (G_ne ga0 gq3811 (by decide)))).symm
                  have m3829 := ex3793.trans (Wr.neI wH3814 (Or.inl (G_ne ga0 gq3811 (by decide)))).symm
                  have m3830 := eq3811.trans (Wr.neR wH3814 (Or.inl (G_ne gmq gq3811 (by decide)))).symm
                  have m3831 := ex3813.trans (Wr.neI wH3814 (Or.inl (G_ne gmq gq3811 (by decide)))).symm
                  have m3832 := Wr.I wH3814
                  have m3832 := m3832.symm
                  refine lv_aload_n hx hb dX4_line_211 rfl (lv_at hl3525 2 rfl) ?_
                  refine x_gr C hTH3814 (ci := 4) (k := 3) rfl inX4 (by decide) wF_X4_18 ga0 rg_78 rfl dX4_line_212 (fun q3833 eq3833 gq3833 => ?_)
                  have uq3833 : kq = q3833 := (m3824).trans eq3833.symm
                  subst uq3833
                  refine lv_aload_n hx hb dX4_line_215 rfl (lv_at hl3525 2 rfl) ?_
                  refine x_gi C hTH3814 (ci := 4) (k := 7) rfl inX4 (by decide) wF_X4_42 ga0 rg_78 rfl dX4_line_216 (fun x3834 ex3834 bx3834 => ?_)
                  have ux3834 : x3792 = x3834 := (m3828).trans ex3834.symm
                  subst ux3834
                  refine x_ai C hTH3814 gkq rg_79 ⟨by omega, by show _ < ((501 : Nat) : Int); omega⟩ dX4_line_219 (fun x3835 ex3835 bx3835 => ?_)
                  have dx3835 := el_hit ex3835 m3817
                  have qvx3835 : kk x3792.toNatClampNeg = x3835.toInt := (f3815 _ (by have h1 := i_cl (x := x3792) (by omega); have h2 := i_cl (x := F) (by omega); omega)).trans (congrArg Int32.toInt ex3835.symm)
                  refine lv_bipush (v := 59) hx hb dX4_line_220 (by decide) ?_
                  refine lv_icmp_eq (tgt := 231) hx hb dX4_line_222 (by decide) (fun c3836 => ?_) (fun c3836 => ?_)
                  · have k3837 := i_eq c3836
                    refine lv_aload_n hx hb dX4_line_231 rfl (lv_at hl3525 2 rfl) ?_
                    refine lv_dup hx hb dX4_line_232 rfl ?_
                    refine x_gi C hTH3814 (ci := 4) (k := 7) rfl inX4 (by decide) wF_X4_42 ga0 rg_78 rfl dX4_line_233 (fun x3838 ex3838 bx3838 => ?_)
                    have ux3838 : x3792 = x3838 := (m3828).trans ex3838.symm
                    subst ux3838
                    refine lv_iconst (v := 1) hx hb dX4_line_236 (by decide) ?_
                    refine lv_iadd hx hb dX4_line_237 ?_
                    refine lv_topi (fun x3839 ex3839 => ?_)
                    have tx3839 := i_add ex3839 (by omega)
                    have fz3841 : 0 ≤ x3839.toInt ∧ x3839.toInt ≤ 500 := by have := i_rng x3839; omega
                    refine x_put C hTH3814 hSH3814 (ci := 4) (k := 7) (v := .int x3839) (ty0 := tyX4) rfl inX4 tyX4_ok nmX4 (by decide) rfl wF_X4_42 ga0 rg_78 rfl rfl (okI (by have := i_rng x3839; omega) (by have := i_rng x3839; omega)) rfl rfl (AE_in ga0 (by decide)) dX4_line_238 (fun H3840 locsH3840 hTH3840 hSH3840 wH3840 => ?_)
                    have f3842 : ∀ j : Nat, j ≤ F.toNatClampNeg → kk j = (fI H3840 kq j).toInt := fun j hj => (f3815 j hj).trans (congrArg Int32.toInt (Wr.neI wH3840 (Or.inl (G_ne gkq ga0 (by decide)))).symm)
                    have f3843 : ∀ j : Nat, j ≤ F.toNatClampNeg → vv j = (fI H3840 vq j).toInt := fun j hj => (f3816 j hj).trans (congrArg Int32.toInt (Wr.neI wH3840 (Or.inl (G_ne gvq ga0 (by decide)))).symm)
                    have m3844 := (Wr.neI wH3840 (Or.inl (G_ne gkq ga0 (by decide)))).trans m3817
                    have m3845 := m3818.trans (Wr.neI wH3840 (Or.inl (G_ne gkq ga0 (by decide)))).symm
                    have m3846 := m3819.trans (Wr.neI wH3840 (Or.inl (G_ne gq3545 ga0 (by decide)))).symm
                    have m3847 := m3820.trans (Wr.neI wH3840 (Or.inl (G_ne gq3579 ga0 (by decide)))).symm
                    have m3848 := m3821.trans (Wr.neI wH3840 (Or.inl (G_ne gq3627 ga0 (by decide)))).symm
                    have m3849 := m3822.trans (Wr.neI wH3840 (Or.inl (G_ne gkq ga0 (by decide)))).symm
                    have m3850 := m3823.trans (Wr.neR wH3840 (Or.inr (x_apart hKT hts inX4 tyX4 tyX4_ok nmX4 rfl 0 7 (by decide) (by decide) (by decide)))).symm
                    have m3851 := m3824.trans (Wr.neR wH3840 (Or.inr (x_apart hKT hts inX4 tyX4 tyX4_ok nmX4 rfl 3 7 (by decide) (by decide) (by decide)))).symm
                    have m3852 := m3825.trans (Wr.neR wH3840 (Or.inr (x_apart hKT hts inX4 tyX4 tyX4_ok nmX4 rfl 4 7 (by decide) (by decide) (by decide)))).symm
                    have m3853 := m3826.trans (Wr.neI wH3840 (Or.inr (x_apart hKT hts inX4 tyX4 tyX4_ok nmX4 rfl 8 7 (by decide) (by decide) (by decide)))).symm
                    have m3854 := m3827.trans (Wr.neI wH3840 (Or.inl (G_ne gmq ga0 (by decide)))).symm
                    have m3856 := m3829.trans (Wr.neI wH3840 (Or.inr (x_apart hKT hts inX4 tyX4 tyX4_ok nmX4 rfl 1 7 (by decide) (by decide) (by decide)))).symm
                    have m3857 := m3830.trans (Wr.neR wH3840 (Or.inl (G_ne gmq ga0 (by decide)))).symm
                    have m3858 := m3831.trans (Wr.neI wH3840 (Or.inl (G_ne gmq ga0 (by decide)))).symm
                    have m3859 := m3832.trans (Wr.neI wH3840 (Or.inl (G_ne gq3811 ga0 (by decide)))).symm
                    have m3860 := ex3835.trans (Wr.neI wH3840 (Or.inl (G_ne gkq ga0 (by decide)))).symm
                    have m3861 := Wr.I wH3840
                    have m3861 := m3861.symm
                    refine lv_aload_n hx hb dX4_line_241 rfl (lv_at hl3525 2 rfl) ?_
                    refine x_gr C hTH3840 (ci := 4) (k := 0) rfl inX4 (by decide) wF_X4_12 ga0 rg_78 rfl dX4_line_242 (fun q3862 eq3862 gq3862 => ?_)
                    have uq3862 : mq = q3862 := (m3850).trans eq3862.symm
                    subst uq3862
                    refine lv_dup hx hb dX4_line_245 rfl ?_
                    refine x_gi C hTH3840 (ci := 7) (k := 0) rfl inX7 (by decide) wF_X4_84 gmq rg_69 rfl dX4_line_246 (fun x3863 ex3863 bx3863 => ?_)
                    have ux3863 : li = x3863 := (m3854).trans ex3863.symm
                    subst ux3863
                    refine lv_iconst (v := 1) hx hb dX4_line_249 (by decide) ?_
                    refine lv_iadd hx hb dX4_line_250 ?_
                    refine lv_topi (fun x3864 ex3864 => ?_)
                    have tx3864 := i_add ex3864 (by omega)
                    refine x_put C hTH3840 hSH3840 (ci := 7) (k := 0) (v := .int x3864) (ty0 := tyX7) rfl inX7 tyX7_ok nmX7 (by decide) rfl wF_X4_84 gmq rg_69 rfl rfl (okI (by have := i_rng x3864; omega) (by have := i_rng x3864; omega)) rfl rfl (AE_in gmq (by decide)) dX4_line_251 (fun H3865 locsH3865 hTH3865 hSH3865 wH3865 => ?_)
                    have f3866 : ∀ j : Nat, j ≤ F.toNatClampNeg → kk j = (fI H3865 kq j).toInt := fun j hj => (f3842 j hj).trans (congrArg Int32.toInt (Wr.neI wH3865 (Or.inl (G_ne gkq gmq (by decide)))).symm)
                    have f3867 : ∀ j : Nat, j ≤ F.toNatClampNeg → vv j = (fI H3865 vq j).toInt := fun j hj => (f3843 j hj).trans (congrArg Int32.toInt (Wr.neI wH3865 (Or.inl (G_ne gvq gmq (by decide)))).symm)
                    have m3868 := (Wr.neI wH3865 (Or.inl (G_ne gkq gmq (by decide)))).trans m3844
                    have m3869 := m3845.trans (Wr.neI wH3865 (Or.inl (G_ne gkq gmq (by decide)))).symm
                    have m3870 := m3846.trans (Wr.neI wH3865 (Or.inl (G_ne gq3545 gmq (by decide)))).symm
                    have m3871 := m3847.trans (Wr.neI wH3865 (Or.inl (G_ne gq3579 gmq (by decide)))).symm
                    have m3872 := m3848.trans (Wr.neI wH3865 (Or.inl (G_ne gq3627 gmq (by decide)))).symm
                    have m3873 := m3849.trans (Wr.neI wH3865 (Or.inl (G_ne gkq gmq (by decide)))).symm
                    have m3874 := m3850.trans (Wr.neR wH3865 (Or.inl (G_ne ga0 gmq (by decide)))).symm
                    have m3875 := m3851.trans (Wr.neR wH3865 (Or.inl (G_ne ga0 gmq (by decide)))).symm
                    have m3876 := m3852.trans (Wr.neR wH3865 (Or.inl (G_ne ga0 gmq (by decide)))).symm
                    have m3877 := m3853.trans (Wr.neI wH3865 (Or.inl (G_ne ga0 gmq (by decide)))).symm
                    have m3879 := m3856.trans (Wr.neI wH3865 (Or.inl (G_ne ga0 gmq (by decide)))).symm
                    have m3880 := m3857.trans (Wr.neR wH3865 (Or.inr (x_apart hKT hts inX7 tyX7 tyX7_ok nmX7 rfl 7 0 (by decide) (by decide) (by decide)))).symm
                    have m3881 := m3858.trans (Wr.neI wH3865 (Or.inr (x_apart hKT hts inX7 tyX7 tyX7_ok nmX7 rfl 9 0 (by decide) (by decide) (by decide)))).symm
                    have m3882 := m3859.trans (Wr.neI wH3865 (Or.inl (G_ne gq3811 gmq (by decide)))).symm
                    have m3883 := m3860.trans (Wr.neI wH3865 (Or.inl (G_ne gkq gmq (by decide)))).symm
                    have m3884 := m3861.trans (Wr.neI wH3865 (Or.inl (G_ne ga0 gmq (by decide)))).symm
                    have m3885 := Wr.I wH3865
                    have m3885 := m3885.symm
                    refine lv_iconst (v := 1) hx hb dX4_line_254 (by decide) ?_
                    have cn_F := i_cl (x := F) (by omega)
                    have cn_tat := i_cl (x := tat) (by omega)
                    have cn_x3839 := i_cl (x := x3839) (by omega)
                    have cn_x3529 := i_cl (x := x3529) (by omega)
                    have cn_x3606 := i_cl (x := x3606) (by omega)
                    have cn_x3792 := i_cl (x := x3792) (by omega)
                    have cn_x3766 := i_cl (x := x3766) (by omega)
                    exact x_zret C hQ (Or.inr rfl) dX4_line_255 hSH3865 (by decide) (by decide) (⟨1, x3839, x3793, x3864, rfl, by decide, m3884, m3879, m3885, by omega, m3874, m3875, m3876, m3877, Or.inr ⟨(if_neg (by omega)).trans ((ln_go (by rw [qvx3499]; omega) qvx3499.symm (show x3529.toNatClampNeg = _ + 1 by omega) ((hs_job (by omega)).trans (RQ.yes m3612 (by omega))) (wn_yes (by rw [qvx3652]; omega) (show x3766.toNatClampNeg = _ + 1 by omega) (RQ.yes m3799 (by omega)))).trans ((if_pos (by rw [qvx3835]; omega)).trans (congrArg some (show _ + 1 = x3839.toNatClampNeg by omega)))), by omega⟩, hTH3865⟩)
                  · have k3837 := i_ne c3836
                    refine lv_aload_n hx hb dX4_line_225 rfl (lv_at hl3525 2 rfl) ?_
                    refine lv_iconst (v := 1) hx hb dX4_line_226 (by decide) ?_
                    refine x_V (As := [.int 1]) (rest := []) C (a_X4_refuse_e l K G H3814 (1) (x3792) (x3793) (lw) hTH3814 ga0 gmq m3823 gkq m3824 gvq m3825 m3828 m3829 m3826) yo_X4_refuse wM_X4_81 ⟨⟨by decide, by decide⟩, by decide, by decide⟩ (x_rv C hTH3814 (ci := 4) rfl ga0 rg_78) rfl hl3525.1 rfl (Nat.le_of_ble_eq_true rfl) dX4_line_227 hSH3814 (AE_sub (fun _ _ => rfl) (by decide) hSH3814.1) (fun vH3886 H3886 locsH3886 pH3886 zH3886 kH3886 hSH3886 => ?_)
                    obtain ⟨x3887, x3888, x3889, hvH3886, bx3887, ex3888, ex3889, hrH3886, m3890, m3891, m3892, m3893, hTH3886⟩ := pH3886
                    subst hvH3886
                    have f3894 : ∀ j : Nat, j ≤ F.toNatClampNeg → kk j = (fI H3886 kq j).toInt := fun j hj => (f3815 j hj).trans (congrArg Int32.toInt (fI_kept (x_lt hTH3814 kH3886 gkq (by decide))).symm)
                    have f3895 : ∀ j : Nat, j ≤ F.toNatClampNeg → vv j = (fI H3886 vq j).toInt := fun j hj => (f3816 j hj).trans (congrArg Int32.toInt (fI_kept (x_lt hTH3814 kH3886 gvq (by decide))).symm)
                    have m3896 := (fI_kept (x_lt hTH3814 kH3886 gkq (by decide))).trans m3817
                    have m3897 := (m3818).trans (fI_kept (x_lt hTH3814 kH3886 gkq (by decide))).symm
                    have m3898 := (m3819).trans (fI_kept (x_lt hTH3814 kH3886 gq3545 (by decide))).symm
                    have m3899 := (m3820).trans (fI_kept (x_lt hTH3814 kH3886 gq3579 (by decide))).symm
                    have m3900 := (m3821).trans (fI_kept (x_lt hTH3814 kH3886 gq3627 (by decide))).symm
                    have m3901 := (m3822).trans (fI_kept (x_lt hTH3814 kH3886 gkq (by decide))).symm
                    have m3902 := (m3827).trans (fI_kept (x_lt hTH3814 kH3886 gmq (by decide))).symm
                    have m3903 := (m3830).trans (fR_kept (x_lt hTH3814 kH3886 gmq (by decide))).symm
                    have m3904 := (m3831).trans (fI_kept (x_lt hTH3814 kH3886 gmq (by decide))).symm
                    have m3905 := (m3832).trans (fI_kept (x_lt hTH3814 kH3886 gq3811 (by decide))).symm
                    have m3906 := (ex3835).trans (fI_kept (x_lt hTH3814 kH3886 gkq (by decide))).symm
                    have bx3888 := ty_fi (x := x3888) (k := 7) ex3888 hTH3886 ga0 rg_78 rfl
                    have bx3889 := ty_fi (x := x3889) (k := 1) ex3889 hTH3886 ga0 rg_78 rfl
                    refine W.eq (g2 := F0 m 230 ls3524 [.int x3887]) rfl ?_
                    have cn_F := i_cl (x := F) (by omega)
                    have cn_tat := i_cl (x := tat) (by omega)
                    have cn_x3888 := i_cl (x := x3888) (by omega)
                    have cn_x3529 := i_cl (x := x3529) (by omega)
                    have cn_x3606 := i_cl (x := x3606) (by omega)
                    have cn_x3792 := i_cl (x := x3792) (by omega)
                    have cn_x3766 := i_cl (x := x3766) (by omega)
                    exact x_zret C hQ (i_01 (by omega)) dX4_line_230 hSH3886 (by decide) (by decide) (⟨x3887, x3888, x3889, li, rfl, by omega, ex3888, ex3889, m3902, by omega, m3890, m3891, m3892, m3893, Or.inl ⟨(if_neg (by omega)).trans ((ln_go (by rw [qvx3499]; omega) qvx3499.symm (show x3529.toNatClampNeg = _ + 1 by omega) ((hs_job (by omega)).trans (RQ.yes m3612 (by omega))) (wn_yes (by rw [qvx3652]; omega) (show x3766.toNatClampNeg = _ + 1 by omega) (RQ.yes m3799 (by omega)))).trans (if_neg (by rw [qvx3835]; omega))), by omega⟩, hTH3886⟩)
                · have k3809 := i_eq c3808
                  refine lv_iconst (v := 0) hx hb dX4_line_193 (by decide) ?_
                  have cn_F := i_cl (x := F) (by omega)
                  have cn_tat := i_cl (x := tat) (by omega)
                  have cn_x3792 := i_cl (x := x3792) (by omega)
                  have cn_x3529 := i_cl (x := x3529) (by omega)
                  have cn_x3606 := i_cl (x := x3606) (by omega)
                  have cn_x3792 := i_cl (x := x3792) (by omega)
                  have cn_x3766 := i_cl (x := x3766) (by omega)
                  exact x_zret C hQ (Or.inl rfl) dX4_line_194 hSH3790 (by decide) (by decide) (⟨0, x3792, x3793, li, rfl, by decide, ex3792, ex3793, m3798, by omega, m3794, m3795, m3796, m3797, Or.inl ⟨(if_neg (by omega)).trans (ln_no2 (by rw [qvx3499]; omega) qvx3499.symm (show x3529.toNatClampNeg = _ + 1 by omega) ((hs_job (by omega)).trans (RQ.yes m3612 (by omega))) (wn_no (by rw [qvx3652]; omega) (show x3766.toNatClampNeg = _ + 1 by omega) (RQ.no m3799 (by omega)))), by omega⟩, hTH3790⟩)
            · have k3625 := i_eq c3624
              refine lv_iconst (v := 0) hx hb dX4_line_143 (by decide) ?_
              have cn_F := i_cl (x := F) (by omega)
              have cn_tat := i_cl (x := tat) (by omega)
              have cn_x3606 := i_cl (x := x3606) (by omega)
              have cn_x3529 := i_cl (x := x3529) (by omega)
              have cn_x3606 := i_cl (x := x3606) (by omega)
              exact x_zret C hQ (Or.inl rfl) dX4_line_144 hSH3604 (by decide) (by decide) (⟨0, x3606, x3607, li, rfl, by decide, ex3606, ex3607, m3615, by omega, m3608, m3609, m3610, m3611, Or.inl ⟨(if_neg (by omega)).trans (ln_no1 (by rw [qvx3499]; omega) qvx3499.symm (show x3529.toNatClampNeg = _ + 1 by omega) ((hs_job (by omega)).trans (RQ.no m3612 (by omega)))), by omega⟩, hTH3604⟩)
          · have k3603 := i_ne c3602
            exfalso
            omega
        · have k3527 := i_nlt c3526
          refine lv_aload_n hx hb dX4_line_56 rfl (lv_at hl3525 2 rfl) ?_
          refine lv_iconst (v := 3) hx hb dX4_line_57 (by decide) ?_
          refine x_V (As := [.int 3]) (rest := []) C (a_X4_refuse_e l K G s.heap (3) (tat) (fa) (lw) hT ga0 gmq emq gkq ekq gvq evq etat efa elw) yo_X4_refuse wM_X4_81 ⟨⟨by decide, by decide⟩, by decide, by decide⟩ (x_rv C hT (ci := 4) rfl ga0 rg_78) rfl hl3525.1 rfl (Nat.le_of_ble_eq_true rfl) dX4_line_58 hS (AE_sub (fun _ _ => rfl) (by decide) hS.1) (fun vH3907 H3907 locsH3907 pH3907 zH3907 kH3907 hSH3907 => ?_)
          obtain ⟨x3908, x3909, x3910, hvH3907, bx3908, ex3909, ex3910, hrH3907, m3911, m3912, m3913, m3914, hTH3907⟩ := pH3907
          subst hvH3907
          have f3915 : ∀ j : Nat, j ≤ F.toNatClampNeg → kk j = (fI H3907 kq j).toInt := fun j hj => (f0_kk j hj).trans (congrArg Int32.toInt (fI_kept (x_lt hT kH3907 gkq (by decide))).symm)
          have f3916 : ∀ j : Nat, j ≤ F.toNatClampNeg → vv j = (fI H3907 vq j).toInt := fun j hj => (f0_vv j hj).trans (congrArg Int32.toInt (fI_kept (x_lt hT kH3907 gvq (by decide))).symm)
          have m3917 := (eli).trans (fI_kept (x_lt hT kH3907 gmq (by decide))).symm
          have m3918 := (fI_kept (x_lt hT kH3907 gkq (by decide))).trans hel0
          have m3919 := (ex3499).trans (fI_kept (x_lt hT kH3907 gkq (by decide))).symm
          have bx3909 := ty_fi (x := x3909) (k := 7) ex3909 hTH3907 ga0 rg_78 rfl
          have bx3910 := ty_fi (x := x3910) (k := 1) ex3910 hTH3907 ga0 rg_78 rfl
          refine W.eq (g2 := F0 m 61 ls3524 [.int x3908]) rfl ?_
          have cn_F := i_cl (x := F) (by omega)
          have cn_tat := i_cl (x := tat) (by omega)
          have cn_x3909 := i_cl (x := x3909) (by omega)
          exact x_zret C hQ (i_01 (by omega)) dX4_line_61 hSH3907 (by decide) (by decide) (⟨x3908, x3909, x3910, li, rfl, by omega, ex3909, ex3910, m3917, by omega, m3911, m3912, m3913, m3914, Or.inl ⟨if_pos (by omega), by omega⟩, hTH3907⟩)
      · have k3521 := i_nle c3520
        refine lv_aload_n hx hb dX4_line_36 rfl (lv_at hl3501 1 rfl) ?_
        refine lv_iconst (v := 1) hx hb dX4_line_37 (by decide) ?_
        refine x_V (As := [.int 1]) (rest := []) C (a_X4_refuse_e l K G s.heap (1) (tat) (fa) (lw) hT ga0 gmq emq gkq ekq gvq evq etat efa elw) yo_X4_refuse wM_X4_81 ⟨⟨by decide, by decide⟩, by decide, by decide⟩ (x_rv C hT (ci := 4) rfl ga0 rg_78) rfl hl3501.1 rfl (Nat.le_of_ble_eq_true rfl) dX4_line_38 hS (AE_sub (fun _ _ => rfl) (by decide) hS.1) (fun vH3920 H3920 locsH3920 pH3920 zH3920 kH3920 hSH3920 => ?_)
        obtain ⟨x3921, x3922, x3923, hvH3920, bx3921, ex3922, ex3923, hrH3920, m3924, m3925, m3926, m3927, hTH3920⟩ := pH3920
        subst hvH3920
        have f3928 : ∀ j : Nat, j ≤ F.toNatClampNeg → kk j = (fI H3920 kq j).toInt := fun j hj => (f0_kk j hj).trans (congrArg Int32.toInt (fI_kept (x_lt hT kH3920 gkq (by decide))).symm)
        have f3929 : ∀ j : Nat, j ≤ F.toNatClampNeg → vv j = (fI H3920 vq j).toInt := fun j hj => (f0_vv j hj).trans (congrArg Int32.toInt (fI_kept (x_lt hT kH3920 gvq (by decide))).symm)
        have m3930 := (eli).trans (fI_kept (x_lt hT kH3920 gmq (by decide))).symm
        have m3931 := (fI_kept (x_lt hT kH3920 gkq (by decide))).trans hel0
        have m3932 := (ex3499).trans (fI_kept (x_lt hT kH3920 gkq (by decide))).symm
        have bx3922 := ty_fi (x := x3922) (k := 7) ex3922 hTH3920 ga0 rg_78 rfl
        have bx3923 := ty_fi (x := x3923) (k := 1) ex3923 hTH3920 ga0 rg_78 rfl
        refine W.eq (g2 := F0 m 41 ls3500 [.int x3921]) rfl ?_
        have cn_F := i_cl (x := F) (by omega)
        have cn_tat := i_cl (x := tat) (by omega)
        have cn_x3922 := i_cl (x := x3922) (by omega)
        exact x_zret C hQ (i_01 (by omega)) dX4_line_41 hSH3920 (by decide) (by decide) (⟨x3921, x3922, x3923, li, rfl, by omega, ex3922, ex3923, m3930, by omega, m3924, m3925, m3926, m3927, Or.inl ⟨l16_no (ln_no0 (by rw [qvx3499]; omega)), by omega⟩, hTH3920⟩)
  · have k3504 := i_ne c3503
    refine lv_iload_n hx hb dX4_line_17 rfl (lv_at hl3501 0 rfl) ?_
    refine lv_iconst (v := 3) hx hb dX4_line_18 (by decide) ?_
    refine lv_icmp_le (tgt := 42) hx hb dX4_line_19 (by decide) (fun c3933 => ?_) (fun c3933 => ?_)
    · have k3934 := i_le c3933
      refine lv_aload_n hx hb dX4_line_42 rfl (lv_at hl3501 1 rfl) ?_
      refine x_gr C hT (ci := 4) (k := 0) rfl inX4 (by decide) wF_X4_12 ga0 rg_78 rfl dX4_line_43 (fun q3935 eq3935 gq3935 => ?_)
      have uq3935 : mq = q3935 := (emq).trans eq3935.symm
      subst uq3935
      refine x_gi C hT (ci := 7) (k := 0) rfl inX7 (by decide) wF_X4_84 gmq rg_69 rfl dX4_line_46 (fun x3936 ex3936 bx3936 => ?_)
      have ux3936 : li = x3936 := (eli).trans ex3936.symm
      subst ux3936
      refine lv_istore_n (lv' := [(2, .int li), (1, .int x3499), (0, .ref a0)]) hx hb dX4_line_49 rfl hl3501 (by decide) rfl (fun ls3937 hl3938 => ?_)
      refine lv_iload_n hx hb dX4_line_50 rfl (lv_at hl3938 0 rfl) ?_
      refine lv_bipush (v := 16) hx hb dX4_line_51 (by decide) ?_
      refine lv_icmp_lt (tgt := 62) hx hb dX4_line_53 (by decide) (fun c3939 => ?_) (fun c3939 => ?_)
      · have k3940 := i_lt c3939
        refine lv_aload_n hx hb dX4_line_62 rfl (lv_at hl3938 2 rfl) ?_
        refine lv_dup hx hb dX4_line_63 rfl ?_
        refine x_gi C hT (ci := 4) (k := 7) rfl inX4 (by decide) wF_X4_42 ga0 rg_78 rfl dX4_line_64 (fun x3941 ex3941 bx3941 => ?_)
        have ux3941 : tat = x3941 := (etat).trans ex3941.symm
        subst ux3941
        refine lv_iconst (v := 1) hx hb dX4_line_67 (by decide) ?_
        refine lv_iadd hx hb dX4_line_68 ?_
        refine lv_topi (fun x3942 ex3942 => ?_)
        have tx3942 := i_add ex3942 (by omega)
        have fz3944 : 0 ≤ x3942.toInt ∧ x3942.toInt ≤ 500 := by have := i_rng x3942; omega
        refine x_put C hT hS (ci := 4) (k := 7) (v := .int x3942) (ty0 := tyX4) rfl inX4 tyX4_ok nmX4 (by decide) rfl wF_X4_42 ga0 rg_78 rfl rfl (okI (by have := i_rng x3942; omega) (by have := i_rng x3942; omega)) rfl rfl (AE_in ga0 (by decide)) dX4_line_69 (fun H3943 locsH3943 hTH3943 hSH3943 wH3943 => ?_)
        have f3945 : ∀ j : Nat, j ≤ F.toNatClampNeg → kk j = (fI H3943 kq j).toInt := fun j hj => (f0_kk j hj).trans (congrArg Int32.toInt (Wr.neI wH3943 (Or.inl (G_ne gkq ga0 (by decide)))).symm)
        have f3946 : ∀ j : Nat, j ≤ F.toNatClampNeg → vv j = (fI H3943 vq j).toInt := fun j hj => (f0_vv j hj).trans (congrArg Int32.toInt (Wr.neI wH3943 (Or.inl (G_ne gvq ga0 (by decide)))).symm)
        have m3947 := emq.trans (Wr.neR wH3943 (Or.inr (x_apart hKT hts inX4 tyX4 tyX4_ok nmX4 rfl 0 7 (by decide) (by decide) (by decide)))).symm
        have m3948 := ekq.trans (Wr.neR wH3943 (Or.inr (x_apart hKT hts inX4 tyX4 tyX4_ok nmX4 rfl 3 7 (by decide) (by decide) (by decide)))).symm
        have m3949 := evq.trans (Wr.neR wH3943 (Or.inr (x_apart hKT hts inX4 tyX4 tyX4_ok nmX4 rfl 4 7 (by decide) (by decide) (by decide)))).symm
        have m3951 := efa.trans (Wr.neI wH3943 (Or.inr (x_apart hKT hts inX4 tyX4 tyX4_ok nmX4 rfl 1 7 (by decide) (by decide) (by decide)))).symm
        have m3952 := eli.trans (Wr.neI wH3943 (Or.inl (G_ne gmq ga0 (by decide)))).symm
        have m3953 := elw.trans (Wr.neI wH3943 (Or.inr (x_apart hKT hts inX4 tyX4 tyX4_ok nmX4 rfl 8 7 (by decide) (by decide) (by decide)))).symm
        have m3954 := (Wr.neI wH3943 (Or.inl (G_ne gkq ga0 (by decide)))).trans hel0
        have m3955 := ex3499.trans (Wr.neI wH3943 (Or.inl (G_ne gkq ga0 (by decide)))).symm
        have m3956 := Wr.I wH3943
        have m3956 := m3956.symm
        refine lv_aload_n hx hb dX4_line_72 rfl (lv_at hl3938 2 rfl) ?_
        refine x_gr C hTH3943 (ci := 4) (k := 0) rfl inX4 (by decide) wF_X4_12 ga0 rg_78 rfl dX4_line_73 (fun q3957 eq3957 gq3957 => ?_)
        have uq3957 : mq = q3957 := (m3947).trans eq3957.symm
        subst uq3957
        refine x_gr C hTH3943 (ci := 7) (k := 1) rfl inX7 (by decide) wF_X4_87 gmq rg_69 rfl dX4_line_76 (fun q3958 eq3958 gq3958 => ?_)
        refine lv_iload_n hx hb dX4_line_79 rfl (lv_at hl3938 0 rfl) ?_
        refine lv_iload_n hx hb dX4_line_80 rfl (lv_at hl3938 1 rfl) ?_
        refine x_iast C hTH3943 hSH3943 gq3958 rg_70 (by omega) (by show _ < ((16 : Nat) : Int); omega) ⟨by have := i_rng x3499; omega, by have := i_rng x3499; omega⟩ (AE_in gq3958 (by decide)) dX4_line_81 (fun H3959 locsH3959 hTH3959 hSH3959 wH3959 => ?_)
        have f3960 : ∀ j : Nat, j ≤ F.toNatClampNeg → kk j = (fI H3959 kq j).toInt := fun j hj => (f3945 j hj).trans (congrArg Int32.toInt (Wr.neI wH3959 (Or.inl (G_ne gkq gq3958 (by decide)))).symm)
        have f3961 : ∀ j : Nat, j ≤ F.toNatClampNeg → vv j = (fI H3959 vq j).toInt := fun j hj => (f3946 j hj).trans (congrArg Int32.toInt (Wr.neI wH3959 (Or.inl (G_ne gvq gq3958 (by decide)))).symm)
        have m3962 := m3947.trans (Wr.neR wH3959 (Or.inl (G_ne ga0 gq3958 (by decide)))).symm
        have m3963 := m3948.trans (Wr.neR wH3959 (Or.inl (G_ne ga0 gq3958 (by decide)))).symm
        have m3964 := m3949.trans (Wr.neR wH3959 (Or.inl (G_ne ga0 gq3958 (by decide)))).symm
        have m3965 := m3951.trans (Wr.neI wH3959 (Or.inl (G_ne ga0 gq3958 (by decide)))).symm
        have m3966 := m3952.trans (Wr.neI wH3959 (Or.inl (G_ne gmq gq3958 (by decide)))).symm
        have m3967 := m3953.trans (Wr.neI wH3959 (Or.inl (G_ne ga0 gq3958 (by decide)))).symm
        have m3968 := (Wr.neI wH3959 (Or.inl (G_ne gkq gq3958 (by decide)))).trans m3954
        have m3969 := m3955.trans (Wr.neI wH3959 (Or.inl (G_ne gkq gq3958 (by decide)))).symm
        have m3970 := m3956.trans (Wr.neI wH3959 (Or.inl (G_ne ga0 gq3958 (by decide)))).symm
        have m3971 := eq3958.trans (Wr.neR wH3959 (Or.inl (G_ne gmq gq3958 (by decide)))).symm
        have m3972 := Wr.I wH3959
        have m3972 := m3972.symm
        refine lv_aload_n hx hb dX4_line_82 rfl (lv_at hl3938 2 rfl) ?_
        refine x_gr C hTH3959 (ci := 4) (k := 0) rfl inX4 (by decide) wF_X4_12 ga0 rg_78 rfl dX4_line_83 (fun q3973 eq3973 gq3973 => ?_)
        have uq3973 : mq = q3973 := (m3962).trans eq3973.symm
        subst uq3973
        refine x_gr C hTH3959 (ci := 7) (k := 2) rfl inX7 (by decide) wF_X4_90 gmq rg_69 rfl dX4_line_86 (fun q3974 eq3974 gq3974 => ?_)
        refine lv_iload_n hx hb dX4_line_89 rfl (lv_at hl3938 0 rfl) ?_
        refine lv_iconst (v := 0) hx hb dX4_line_90 (by decide) ?_
        refine x_iast C hTH3959 hSH3959 gq3974 rg_71 (by omega) (by show _ < ((16 : Nat) : Int); omega) (by decide) (AE_in gq3974 (by decide)) dX4_line_91 (fun H3975 locsH3975 hTH3975 hSH3975 wH3975 => ?_)
        have f3976 : ∀ j : Nat, j ≤ F.toNatClampNeg → kk j = (fI H3975 kq j).toInt := fun j hj => (f3960 j hj).trans (congrArg Int32.toInt (Wr.neI wH3975 (Or.inl (G_ne gkq gq3974 (by decide)))).symm)
        have f3977 : ∀ j : Nat, j ≤ F.toNatClampNeg → vv j = (fI H3975 vq j).toInt := fun j hj => (f3961 j hj).trans (congrArg Int32.toInt (Wr.neI wH3975 (Or.inl (G_ne gvq gq3974 (by decide)))).symm)
        have m3978 := m3962.trans (Wr.neR wH3975 (Or.inl (G_ne ga0 gq3974 (by decide)))).symm
        have m3979 := m3963.trans (Wr.neR wH3975 (Or.inl (G_ne ga0 gq3974 (by decide)))).symm
        have m3980 := m3964.trans (Wr.neR wH3975 (Or.inl (G_ne ga0 gq3974 (by decide)))).symm
        have m3981 := m3965.trans (Wr.neI wH3975 (Or.inl (G_ne ga0 gq3974 (by decide)))).symm
        have m3982 := m3966.trans (Wr.neI wH3975 (Or.inl (G_ne gmq gq3974 (by decide)))).symm
        have m3983 := m3967.trans (Wr.neI wH3975 (Or.inl (G_ne ga0 gq3974 (by decide)))).symm
        have m3984 := (Wr.neI wH3975 (Or.inl (G_ne gkq gq3974 (by decide)))).trans m3968
        have m3985 := m3969.trans (Wr.neI wH3975 (Or.inl (G_ne gkq gq3974 (by decide)))).symm
        have m3986 := m3970.trans (Wr.neI wH3975 (Or.inl (G_ne ga0 gq3974 (by decide)))).symm
        have m3987 := m3971.trans (Wr.neR wH3975 (Or.inl (G_ne gmq gq3974 (by decide)))).symm
        have m3988 := m3972.trans (Wr.neI wH3975 (Or.inl (G_ne gq3958 gq3974 (by decide)))).symm
        have m3989 := eq3974.trans (Wr.neR wH3975 (Or.inl (G_ne gmq gq3974 (by decide)))).symm
        have m3990 := Wr.I wH3975
        refine lv_aload_n hx hb dX4_line_92 rfl (lv_at hl3938 2 rfl) ?_
        refine x_gr C hTH3975 (ci := 4) (k := 0) rfl inX4 (by decide) wF_X4_12 ga0 rg_78 rfl dX4_line_93 (fun q3991 eq3991 gq3991 => ?_)
        have uq3991 : mq = q3991 := (m3978).trans eq3991.symm
        subst uq3991
        refine x_gr C hTH3975 (ci := 7) (k := 5) rfl inX7 (by decide) wF_X4_93 gmq rg_69 rfl dX4_line_96 (fun q3992 eq3992 gq3992 => ?_)
        refine lv_iload_n hx hb dX4_line_99 rfl (lv_at hl3938 0 rfl) ?_
        refine lv_aload_n hx hb dX4_line_100 rfl (lv_at hl3938 2 rfl) ?_
        refine x_gr C hTH3975 (ci := 4) (k := 0) rfl inX4 (by decide) wF_X4_12 ga0 rg_78 rfl dX4_line_101 (fun q3993 eq3993 gq3993 => ?_)
        have uq3993 : mq = q3993 := (m3978).trans eq3993.symm
        subst uq3993
        refine x_gi C hTH3975 (ci := 7) (k := 9) rfl inX7 (by decide) wF_X4_96 gmq rg_69 rfl dX4_line_104 (fun x3994 ex3994 bx3994 => ?_)
        refine x_iast C hTH3975 hSH3975 gq3992 rg_74 (by omega) (by show _ < ((16 : Nat) : Int); omega) ⟨by have := i_rng x3994; omega, by have := i_rng x3994; omega⟩ (AE_in gq3992 (by decide)) dX4_line_107 (fun H3995 locsH3995 hTH3995 hSH3995 wH3995 => ?_)
        have f3996 : ∀ j : Nat, j ≤ F.toNatClampNeg → kk j = (fI H3995 kq j).toInt := fun j hj => (f3976 j hj).trans (congrArg Int32.toInt (Wr.neI wH3995 (Or.inl (G_ne gkq gq3992 (by decide)))).symm)
        have f3997 : ∀ j : Nat, j ≤ F.toNatClampNeg → vv j = (fI H3995 vq j).toInt := fun j hj => (f3977 j hj).trans (congrArg Int32.toInt (Wr.neI wH3995 (Or.inl (G_ne gvq gq3992 (by decide)))).symm)
        have m3998 := m3978.trans (Wr.neR wH3995 (Or.inl (G_ne ga0 gq3992 (by decide)))).symm
        have m3999 := m3979.trans (Wr.neR wH3995 (Or.inl (G_ne ga0 gq3992 (by decide)))).symm
        have m4000 := m3980.trans (Wr.neR wH3995 (Or.inl (G_ne ga0 gq3992 (by decide)))).symm
        have m4001 := m3981.trans (Wr.neI wH3995 (Or.inl (G_ne ga0 gq3992 (by decide)))).symm
        have m4002 := m3982.trans (Wr.neI wH3995 (Or.inl (G_ne gmq gq3992 (by decide)))).symm
        have m4003 := m3983.trans (Wr.neI wH3995 (Or.inl (G_ne ga0 gq3992 (by decide)))).symm
        have m4004 := (Wr.neI wH3995 (Or.inl (G_ne gkq gq3992 (by decide)))).trans m3984
        have m4005 := m3985.trans (Wr.neI wH3995 (Or.inl (G_ne gkq gq3992 (by decide)))).symm
        have m4006 := m3986.trans (Wr.neI wH3995 (Or.inl (G_ne ga0 gq3992 (by decide)))).symm
        have m4007 := m3987.trans (Wr.neR wH3995 (Or.inl (G_ne gmq gq3992 (by decide)))).symm
        have m4008 := m3988.trans (Wr.neI wH3995 (Or.inl (G_ne gq3958 gq3992 (by decide)))).symm
        have m4009 := m3989.trans (Wr.neR wH3995 (Or.inl (G_ne gmq gq3992 (by decide)))).symm
        have m4010 := (Wr.neI wH3995 (Or.inl (G_ne gq3974 gq3992 (by decide)))).trans m3990
        have m4011 := eq3992.trans (Wr.neR wH3995 (Or.inl (G_ne gmq gq3992 (by decide)))).symm
        have m4012 := ex3994.trans (Wr.neI wH3995 (Or.inl (G_ne gmq gq3992 (by decide)))).symm
        have m4013 := Wr.I wH3995
        have m4013 := m4013.symm
        refine lv_aload_n hx hb dX4_line_108 rfl (lv_at hl3938 2 rfl) ?_
        refine x_gi C hTH3995 (ci := 4) (k := 8) rfl inX4 (by decide) wF_X4_28 ga0 rg_78 rfl dX4_line_109 (fun x4014 ex4014 bx4014 => ?_)
        have ux4014 : lw = x4014 := (m4003).trans ex4014.symm
        subst ux4014
        refine lv_if_eq (tgt := 134) hx hb dX4_line_112 (by decide) (fun c4015 => ?_) (fun c4015 => ?_)
        · have k4016 := i_eq c4015
          exfalso
          omega
        · have k4016 := i_ne c4015
          refine lv_aload_n hx hb dX4_line_115 rfl (lv_at hl3938 2 rfl) ?_
          refine lv_iload_n hx hb dX4_line_116 rfl (lv_at hl3938 0 rfl) ?_
          refine lv_iload_n hx hb dX4_line_117 rfl (lv_at hl3938 1 rfl) ?_
          refine x_V (As := [.int li, .int x3499]) (rest := []) C (a_X4_lawHead_e l K G H3995 (li) (x3499) (F) (x3942) (fa) (lw) (li) kk vv hTH3995 ga0 (by omega) gmq m3998 gkq m3999 gvq m4000 m4006 m4001 m4003 m4002 m4004 (by omega) (by omega) f3996 f3997) yo_X4_lawHead wM_X4_99 ⟨⟨by decide, by decide⟩, by decide, by decide⟩ (x_rv C hTH3995 (ci := 4) rfl ga0 rg_78) rfl hl3938.1 rfl (Nat.le_of_ble_eq_true rfl) dX4_line_118 hSH3995 (AE_sub (fun _ _ => rfl) (by decide) hSH3995.1) (fun vH4017 H4017 locsH4017 pH4017 zH4017 kH4017 hSH4017 => ?_)
          obtain ⟨x4018, x4019, x4020, hvH4017, bx4018, ex4019, ex4020, hrH4017, m4021, m4022, m4023, m4024, m4025, hTH4017⟩ := pH4017
          subst hvH4017
          have f4026 : ∀ j : Nat, j ≤ F.toNatClampNeg → kk j = (fI H4017 kq j).toInt := fun j hj => (f3996 j hj).trans (congrArg Int32.toInt (fI_kept (x_lt hTH3995 kH4017 gkq (by decide))).symm)
          have f4027 : ∀ j : Nat, j ≤ F.toNatClampNeg → vv j = (fI H4017 vq j).toInt := fun j hj => (f3997 j hj).trans (congrArg Int32.toInt (fI_kept (x_lt hTH3995 kH4017 gvq (by decide))).symm)
          have m4028 := (m4002).trans (fI_kept (x_lt hTH3995 kH4017 gmq (by decide))).symm
          have m4029 := (fI_kept (x_lt hTH3995 kH4017 gkq (by decide))).trans m4004
          have m4030 := (m4005).trans (fI_kept (x_lt hTH3995 kH4017 gkq (by decide))).symm
          have m4031 := (m4007).trans (fR_kept (x_lt hTH3995 kH4017 gmq (by decide))).symm
          have m4032 := (m4008).trans (fI_kept (x_lt hTH3995 kH4017 gq3958 (by decide))).symm
          have m4033 := (m4009).trans (fR_kept (x_lt hTH3995 kH4017 gmq (by decide))).symm
          have m4034 := (m4011).trans (fR_kept (x_lt hTH3995 kH4017 gmq (by decide))).symm
          have m4035 := (m4012).trans (fI_kept (x_lt hTH3995 kH4017 gmq (by decide))).symm
          have m4036 := (m4013).trans (fI_kept (x_lt hTH3995 kH4017 gq3992 (by decide))).symm
          have bx4019 := ty_fi (x := x4019) (k := 7) ex4019 hTH4017 ga0 rg_78 rfl
          have bx4020 := ty_fi (x := x4020) (k := 1) ex4020 hTH4017 ga0 rg_78 rfl
          refine W.eq (g2 := F0 m 121 ls3937 [.int x4018]) rfl ?_
          refine lv_if_eq (tgt := 143) hx hb dX4_line_121 (by decide) (fun c4037 => ?_) (fun c4037 => ?_)
          · have k4038 := i_eq c4037
            refine lv_iconst (v := 0) hx hb dX4_line_143 (by decide) ?_
            have cn_F := i_cl (x := F) (by omega)
            have cn_tat := i_cl (x := tat) (by omega)
            have cn_x4019 := i_cl (x := x4019) (by omega)
            have cn_x3942 := i_cl (x := x3942) (by omega)
            have cn_x4019 := i_cl (x := x4019) (by omega)
            exact x_zret C hQ (Or.inl rfl) dX4_line_144 hSH4017 (by decide) (by decide) (⟨0, x4019, x4020, li, rfl, by decide, ex4019, ex4020, m4028, by omega, m4021, m4022, m4023, m4024, Or.inl ⟨(if_neg (by omega)).trans (ln_no1 (by rw [qvx3499]; omega) qvx3499.symm (show x3942.toNatClampNeg = _ + 1 by omega) (hs_law0 (by omega) (RQ.no m4025 (by omega)))), by omega⟩, hTH4017⟩)
          · have k4038 := i_ne c4037
            refine lv_aload_n hx hb dX4_line_124 rfl (lv_at hl3938 2 rfl) ?_
            refine x_V (As := []) (rest := []) C (a_X4_sum_e l K G H4017 (F) (x4019) (x4020) (lw) (li) kk vv hTH4017 ga0 gmq m4021 gkq m4022 gvq m4023 ex4019 ex4020 m4024 m4028 m4029 (by omega) (by omega) f4026 f4027) yo_X4_sum wM_X4_103 ⟨⟨by decide, by decide⟩, by decide, by decide⟩ (x_rv C hTH4017 (ci := 4) rfl ga0 rg_78) rfl hl3938.1 rfl (Nat.le_of_ble_eq_true rfl) dX4_line_125 hSH4017 (AE_sub (fun _ _ => rfl) (by decide) hSH4017.1) (fun vH4039 H4039 locsH4039 pH4039 zH4039 kH4039 hSH4039 => ?_)
            obtain ⟨x4040, x4041, x4042, hvH4039, bx4040, ex4041, ex4042, hrH4039, m4043, m4044, m4045, m4046, m4047, m4048, hTH4039⟩ := pH4039
            subst hvH4039
            have f4049 : ∀ j : Nat, j ≤ F.toNatClampNeg → kk j = (fI H4039 kq j).toInt := fun j hj => (f4026 j hj).trans (congrArg Int32.toInt (fI_kept (x_lt hTH4017 kH4039 gkq (by decide))).symm)
            have f4050 : ∀ j : Nat, j ≤ F.toNatClampNeg → vv j = (fI H4039 vq j).toInt := fun j hj => (f4027 j hj).trans (congrArg Int32.toInt (fI_kept (x_lt hTH4017 kH4039 gvq (by decide))).symm)
            have m4051 := (fI_kept (x_lt hTH4017 kH4039 gkq (by decide))).trans m4029
            have m4052 := (m4030).trans (fI_kept (x_lt hTH4017 kH4039 gkq (by decide))).symm
            have m4053 := (m4032).trans (fI_kept (x_lt hTH4017 kH4039 gq3958 (by decide))).symm
            have m4054 := (m4036).trans (fI_kept (x_lt hTH4017 kH4039 gq3992 (by decide))).symm
            have bx4041 := ty_fi (x := x4041) (k := 7) ex4041 hTH4039 ga0 rg_78 rfl
            have bx4042 := ty_fi (x := x4042) (k := 1) ex4042 hTH4039 ga0 rg_78 rfl
            refine W.eq (g2 := F0 m 128 ls3937 [.int x4040]) rfl ?_
            refine lv_if_eq (tgt := 143) hx hb dX4_line_128 (by decide) (fun c4055 => ?_) (fun c4055 => ?_)
            · have k4056 := i_eq c4055
              refine lv_iconst (v := 0) hx hb dX4_line_143 (by decide) ?_
              have cn_F := i_cl (x := F) (by omega)
              have cn_tat := i_cl (x := tat) (by omega)
              have cn_x4041 := i_cl (x := x4041) (by omega)
              have cn_x3942 := i_cl (x := x3942) (by omega)
              have cn_x4019 := i_cl (x := x4019) (by omega)
              have cn_x4041 := i_cl (x := x4041) (by omega)
              exact x_zret C hQ (Or.inl rfl) dX4_line_144 hSH4039 (by decide) (by decide) (⟨0, x4041, x4042, li, rfl, by decide, ex4041, ex4042, m4047, by omega, m4043, m4044, m4045, m4046, Or.inl ⟨(if_neg (by omega)).trans (ln_no1 (by rw [qvx3499]; omega) qvx3499.symm (show x3942.toNatClampNeg = _ + 1 by omega) ((hs_law1 (by omega) (RQ.yes m4025 (by omega))).trans (RQ.no m4048 (by omega)))), by omega⟩, hTH4039⟩)
            · have k4056 := i_ne c4055
              refine lv_goto (tgt := 145) hx hb dX4_line_131 (by decide) ?_
              refine lv_aload_n hx hb dX4_line_145 rfl (lv_at hl3938 2 rfl) ?_
              refine x_gr C hTH4039 (ci := 4) (k := 0) rfl inX4 (by decide) wF_X4_12 ga0 rg_78 rfl dX4_line_146 (fun q4057 eq4057 gq4057 => ?_)
              have uq4057 : mq = q4057 := (m4043).trans eq4057.symm
              subst uq4057
              refine x_gr C hTH4039 (ci := 7) (k := 6) rfl inX7 (by decide) wF_X4_110 gmq rg_69 rfl dX4_line_149 (fun q4058 eq4058 gq4058 => ?_)
              refine lv_iload_n hx hb dX4_line_152 rfl (lv_at hl3938 0 rfl) ?_
              refine lv_aload_n hx hb dX4_line_153 rfl (lv_at hl3938 2 rfl) ?_
              refine x_gr C hTH4039 (ci := 4) (k := 0) rfl inX4 (by decide) wF_X4_12 ga0 rg_78 rfl dX4_line_154 (fun q4059 eq4059 gq4059 => ?_)
              have uq4059 : mq = q4059 := (m4043).trans eq4059.symm
              subst uq4059
              refine x_gi C hTH4039 (ci := 7) (k := 9) rfl inX7 (by decide) wF_X4_96 gmq rg_69 rfl dX4_line_157 (fun x4060 ex4060 bx4060 => ?_)
              refine x_iast C hTH4039 hSH4039 gq4058 rg_75 (by omega) (by show _ < ((16 : Nat) : Int); omega) ⟨by have := i_rng x4060; omega, by have := i_rng x4060; omega⟩ (AE_in gq4058 (by decide)) dX4_line_160 (fun H4061 locsH4061 hTH4061 hSH4061 wH4061 => ?_)
              have f4062 : ∀ j : Nat, j ≤ F.toNatClampNeg → kk j = (fI H4061 kq j).toInt := fun j hj => (f4049 j hj).trans (congrArg Int32.toInt (Wr.neI wH4061 (Or.inl (G_ne gkq gq4058 (by decide)))).symm)
              have f4063 : ∀ j : Nat, j ≤ F.toNatClampNeg → vv j = (fI H4061 vq j).toInt := fun j hj => (f4050 j hj).trans (congrArg Int32.toInt (Wr.neI wH4061 (Or.inl (G_ne gvq gq4058 (by decide)))).symm)
              have m4064 := (Wr.neI wH4061 (Or.inl (G_ne gkq gq4058 (by decide)))).trans m4051
              have m4065 := m4052.trans (Wr.neI wH4061 (Or.inl (G_ne gkq gq4058 (by decide)))).symm
              have m4066 := m4053.trans (Wr.neI wH4061 (Or.inl (G_ne gq3958 gq4058 (by decide)))).symm
              have m4067 := m4054.trans (Wr.neI wH4061 (Or.inl (G_ne gq3992 gq4058 (by decide)))).symm
              have m4068 := m4043.trans (Wr.neR wH4061 (Or.inl (G_ne ga0 gq4058 (by decide)))).symm
              have m4069 := m4044.trans (Wr.neR wH4061 (Or.inl (G_ne ga0 gq4058 (by decide)))).symm
              have m4070 := m4045.trans (Wr.neR wH4061 (Or.inl (G_ne ga0 gq4058 (by decide)))).symm
              have m4071 := m4046.trans (Wr.neI wH4061 (Or.inl (G_ne ga0 gq4058 (by decide)))).symm
              have m4072 := m4047.trans (Wr.neI wH4061 (Or.inl (G_ne gmq gq4058 (by decide)))).symm
              have m4073 := ex4041.trans (Wr.neI wH4061 (Or.inl (G_ne ga0 gq4058 (by decide)))).symm
              have m4074 := ex4042.trans (Wr.neI wH4061 (Or.inl (G_ne ga0 gq4058 (by decide)))).symm
              have m4075 := eq4058.trans (Wr.neR wH4061 (Or.inl (G_ne gmq gq4058 (by decide)))).symm
              have m4076 := ex4060.trans (Wr.neI wH4061 (Or.inl (G_ne gmq gq4058 (by decide)))).symm
              have m4077 := Wr.I wH4061
              have m4077 := m4077.symm
              refine lv_aload_n hx hb dX4_line_161 rfl (lv_at hl3938 2 rfl) ?_
              refine x_gr C hTH4061 (ci := 4) (k := 3) rfl inX4 (by decide) wF_X4_18 ga0 rg_78 rfl dX4_line_162 (fun q4078 eq4078 gq4078 => ?_)
              have uq4078 : kq = q4078 := (m4069).trans eq4078.symm
              subst uq4078
              refine lv_aload_n hx hb dX4_line_165 rfl (lv_at hl3938 2 rfl) ?_
              refine x_gi C hTH4061 (ci := 4) (k := 7) rfl inX4 (by decide) wF_X4_42 ga0 rg_78 rfl dX4_line_166 (fun x4079 ex4079 bx4079 => ?_)
              have ux4079 : x4041 = x4079 := (m4073).trans ex4079.symm
              subst ux4079
              refine x_ai C hTH4061 gkq rg_79 ⟨by omega, by show _ < ((501 : Nat) : Int); omega⟩ dX4_line_169 (fun x4080 ex4080 bx4080 => ?_)
              have dx4080 := el_hit ex4080 m4064
              have qvx4080 : kk x4041.toNatClampNeg = x4080.toInt := (f4062 _ (by have h1 := i_cl (x := x4041) (by omega); have h2 := i_cl (x := F) (by omega); omega)).trans (congrArg Int32.toInt ex4080.symm)
              refine lv_bipush (v := 7) hx hb dX4_line_170 (by decide) ?_
              refine lv_icmp_ne (tgt := 195) hx hb dX4_line_172 (by decide) (fun c4081 => ?_) (fun c4081 => ?_)
              · have k4082 := i_ne c4081
                refine lv_aload_n hx hb dX4_line_195 rfl (lv_at hl3938 2 rfl) ?_
                refine x_gr C hTH4061 (ci := 4) (k := 0) rfl inX4 (by decide) wF_X4_12 ga0 rg_78 rfl dX4_line_196 (fun q4083 eq4083 gq4083 => ?_)
                have uq4083 : mq = q4083 := (m4068).trans eq4083.symm
                subst uq4083
                refine x_gr C hTH4061 (ci := 7) (k := 7) rfl inX7 (by decide) wF_X4_116 gmq rg_69 rfl dX4_line_199 (fun q4084 eq4084 gq4084 => ?_)
                refine lv_iload_n hx hb dX4_line_202 rfl (lv_at hl3938 0 rfl) ?_
                refine lv_aload_n hx hb dX4_line_203 rfl (lv_at hl3938 2 rfl) ?_
                refine x_gr C hTH4061 (ci := 4) (k := 0) rfl inX4 (by decide) wF_X4_12 ga0 rg_78 rfl dX4_line_204 (fun q4085 eq4085 gq4085 => ?_)
                have uq4085 : mq = q4085 := (m4068).trans eq4085.symm
                subst uq4085
                refine x_gi C hTH4061 (ci := 7) (k := 9) rfl inX7 (by decide) wF_X4_96 gmq rg_69 rfl dX4_line_207 (fun x4086 ex4086 bx4086 => ?_)
                have ux4086 : x4060 = x4086 := (m4076).trans ex4086.symm
                subst ux4086
                refine x_iast C hTH4061 hSH4061 gq4084 rg_76 (by omega) (by show _ < ((16 : Nat) : Int); omega) ⟨by have := i_rng x4060; omega, by have := i_rng x4060; omega⟩ (AE_in gq4084 (by decide)) dX4_line_210 (fun H4087 locsH4087 hTH4087 hSH4087 wH4087 => ?_)
                have f4088 : ∀ j : Nat, j ≤ F.toNatClampNeg → kk j = (fI H4087 kq j).toInt := fun j hj => (f4062 j hj).trans (congrArg Int32.toInt (Wr.neI wH4087 (Or.inl (G_ne gkq gq4084 (by decide)))).symm)
                have f4089 : ∀ j : Nat, j ≤ F.toNatClampNeg → vv j = (fI H4087 vq j).toInt := fun j hj => (f4063 j hj).trans (congrArg Int32.toInt (Wr.neI wH4087 (Or.inl (G_ne gvq gq4084 (by decide)))).symm)
                have m4090 := (Wr.neI wH4087 (Or.inl (G_ne gkq gq4084 (by decide)))).trans m4064
                have m4091 := m4065.trans (Wr.neI wH4087 (Or.inl (G_ne gkq gq4084 (by decide)))).symm
                have m4092 := m4066.trans (Wr.neI wH4087 (Or.inl (G_ne gq3958 gq4084 (by decide)))).symm
                have m4093 := m4067.trans (Wr.neI wH4087 (Or.inl (G_ne gq3992 gq4084 (by decide)))).symm
                have m4094 := m4068.trans (Wr.neR wH4087 (Or.inl (G_ne ga0 gq4084 (by decide)))).symm
                have m4095 := m4069.trans (Wr.neR wH4087 (Or.inl (G_ne ga0 gq4084 (by decide)))).symm
                have m4096 := m4070.trans (Wr.neR wH4087 (Or.inl (G_ne ga0 gq4084 (by decide)))).symm
                have m4097 := m4071.trans (Wr.neI wH4087 (Or.inl (G_ne ga0 gq4084 (by decide)))).symm
                have m4098 := m4072.trans (Wr.neI wH4087 (Or.inl (G_ne gmq gq4084 (by decide)))).symm
                have m4099 := m4073.trans (Wr.neI wH4087 (Or.inl (G_ne ga0 gq4084 (by decide)))).symm
                have m4100 := m4074.trans (Wr.neI wH4087 (Or.inl (G_ne ga0 gq4084 (by decide)))).symm
                have m4101 := m4075.trans (Wr.neR wH4087 (Or.inl (G_ne gmq gq4084 (by decide)))).symm
                have m4102 := m4076.trans (Wr.neI wH4087 (Or.inl (G_ne gmq gq4084 (by decide)))).symm
                have m4103 := m4077.trans (Wr.neI wH4087 (Or.inl (G_ne gq4058 gq4084 (by decide)))).symm
                have m4104 := ex4080.trans (Wr.neI wH4087 (Or.inl (G_ne gkq gq4084 (by decide)))).symm
                have m4105 := eq4084.trans (Wr.neR wH4087 (Or.inl (G_ne gmq gq4084 (by decide)))).symm
                have m4106 := Wr.I wH4087
                have m4106 := m4106.symm
                refine lv_aload_n hx hb dX4_line_211 rfl (lv_at hl3938 2 rfl) ?_
                refine x_gr C hTH4087 (ci := 4) (k := 3) rfl inX4 (by decide) wF_X4_18 ga0 rg_78 rfl dX4_line_212 (fun q4107 eq4107 gq4107 => ?_)
                have uq4107 : kq = q4107 := (m4095).trans eq4107.symm
                subst uq4107
                refine lv_aload_n hx hb dX4_line_215 rfl (lv_at hl3938 2 rfl) ?_
                refine x_gi C hTH4087 (ci := 4) (k := 7) rfl inX4 (by decide) wF_X4_42 ga0 rg_78 rfl dX4_line_216 (fun x4108 ex4108 bx4108 => ?_)
                have ux4108 : x4041 = x4108 := (m4099).trans ex4108.symm
                subst ux4108
                refine x_ai C hTH4087 gkq rg_79 ⟨by omega, by show _ < ((501 : Nat) : Int); omega⟩ dX4_line_219 (fun x4109 ex4109 bx4109 => ?_)
                have ux4109 : x4080 = x4109 := (m4104).trans ex4109.symm
                subst ux4109
                have qvx4109 : kk x4041.toNatClampNeg = x4080.toInt := (f4088 _ (by have h1 := i_cl (x := x4041) (by omega); have h2 := i_cl (x := F) (by omega); omega)).trans (congrArg Int32.toInt ex4109.symm)
                refine lv_bipush (v := 59) hx hb dX4_line_220 (by decide) ?_
                refine lv_icmp_eq (tgt := 231) hx hb dX4_line_222 (by decide) (fun c4110 => ?_) (fun c4110 => ?_)
                · have k4111 := i_eq c4110
                  refine lv_aload_n hx hb dX4_line_231 rfl (lv_at hl3938 2 rfl) ?_
                  refine lv_dup hx hb dX4_line_232 rfl ?_
                  refine x_gi C hTH4087 (ci := 4) (k := 7) rfl inX4 (by decide) wF_X4_42 ga0 rg_78 rfl dX4_line_233 (fun x4112 ex4112 bx4112 => ?_)
                  have ux4112 : x4041 = x4112 := (m4099).trans ex4112.symm
                  subst ux4112
                  refine lv_iconst (v := 1) hx hb dX4_line_236 (by decide) ?_
                  refine lv_iadd hx hb dX4_line_237 ?_
                  refine lv_topi (fun x4113 ex4113 => ?_)
                  have tx4113 := i_add ex4113 (by omega)
                  have fz4115 : 0 ≤ x4113.toInt ∧ x4113.toInt ≤ 500 := by have := i_rng x4113; omega
                  refine x_put C hTH4087 hSH4087 (ci := 4) (k := 7) (v := .int x4113) (ty0 := tyX4) rfl inX4 tyX4_ok nmX4 (by decide) rfl wF_X4_42 ga0 rg_78 rfl rfl (okI (by have := i_rng x4113; omega) (by have := i_rng x4113; omega)) rfl rfl (AE_in ga0 (by decide)) dX4_line_238 (fun H4114 locsH4114 hTH4114 hSH4114 wH4114 => ?_)
                  have f4116 : ∀ j : Nat, j ≤ F.toNatClampNeg → kk j = (fI H4114 kq j).toInt := fun j hj => (f4088 j hj).trans (congrArg Int32.toInt (Wr.neI wH4114 (Or.inl (G_ne gkq ga0 (by decide)))).symm)
                  have f4117 : ∀ j : Nat, j ≤ F.toNatClampNeg → vv j = (fI H4114 vq j).toInt := fun j hj => (f4089 j hj).trans (congrArg Int32.toInt (Wr.neI wH4114 (Or.inl (G_ne gvq ga0 (by decide)))).symm)
                  have m4118 := (Wr.neI wH4114 (Or.inl (G_ne gkq ga0 (by decide)))).trans m4090
                  have m4119 := m4091.trans (Wr.neI wH4114 (Or.inl (G_ne gkq ga0 (by decide)))).symm
                  have m4120 := m4092.trans (Wr.neI wH4114 (Or.inl (G_ne gq3958 ga0 (by decide)))).symm
                  have m4121 := m4093.trans (Wr.neI wH4114 (Or.inl (G_ne gq3992 ga0 (by decide)))).symm
                  have m4122 := m4094.trans (Wr.neR wH4114 (Or.inr (x_apart hKT hts inX4 tyX4 tyX4_ok nmX4 rfl 0 7 (by decide) (by decide) (by decide)))).symm
                  have m4123 := m4095.trans (Wr.neR wH4114 (Or.inr (x_apart hKT hts inX4 tyX4 tyX4_ok nmX4 rfl 3 7 (by decide) (by decide) (by decide)))).symm
                  have m4124 := m4096.trans (Wr.neR wH4114 (Or.inr (x_apart hKT hts inX4 tyX4 tyX4_ok nmX4 rfl 4 7 (by decide) (by decide) (by decide)))).symm
                  have m4125 := m4097.trans (Wr.neI wH4114 (Or.inr (x_apart hKT hts inX4 tyX4 tyX4_ok nmX4 rfl 8 7 (by decide) (by decide) (by decide)))).symm
                  have m4126 := m4098.trans (Wr.neI wH4114 (Or.inl (G_ne gmq ga0 (by decide)))).symm
                  have m4128 := m4100.trans (Wr.neI wH4114 (Or.inr (x_apart hKT hts inX4 tyX4 tyX4_ok nmX4 rfl 1 7 (by decide) (by decide) (by decide)))).symm
                  have m4129 := m4101.trans (Wr.neR wH4114 (Or.inl (G_ne gmq ga0 (by decide)))).symm
                  have m4130 := m4102.trans (Wr.neI wH4114 (Or.inl (G_ne gmq ga0 (by decide)))).symm
                  have m4131 := m4103.trans (Wr.neI wH4114 (Or.inl (G_ne gq4058 ga0 (by decide)))).symm
                  have m4132 := m4104.trans (Wr.neI wH4114 (Or.inl (G_ne gkq ga0 (by decide)))).symm
                  have m4133 := m4105.trans (Wr.neR wH4114 (Or.inl (G_ne gmq ga0 (by decide)))).symm
                  have m4134 := m4106.trans (Wr.neI wH4114 (Or.inl (G_ne gq4084 ga0 (by decide)))).symm
                  have m4135 := Wr.I wH4114
                  have m4135 := m4135.symm
                  refine lv_aload_n hx hb dX4_line_241 rfl (lv_at hl3938 2 rfl) ?_
                  refine x_gr C hTH4114 (ci := 4) (k := 0) rfl inX4 (by decide) wF_X4_12 ga0 rg_78 rfl dX4_line_242 (fun q4136 eq4136 gq4136 => ?_)
                  have uq4136 : mq = q4136 := (m4122).trans eq4136.symm
                  subst uq4136
                  refine lv_dup hx hb dX4_line_245 rfl ?_
                  refine x_gi C hTH4114 (ci := 7) (k := 0) rfl inX7 (by decide) wF_X4_84 gmq rg_69 rfl dX4_line_246 (fun x4137 ex4137 bx4137 => ?_)
                  have ux4137 : li = x4137 := (m4126).trans ex4137.symm
                  subst ux4137
                  refine lv_iconst (v := 1) hx hb dX4_line_249 (by decide) ?_
                  refine lv_iadd hx hb dX4_line_250 ?_
                  refine lv_topi (fun x4138 ex4138 => ?_)
                  have tx4138 := i_add ex4138 (by omega)
                  refine x_put C hTH4114 hSH4114 (ci := 7) (k := 0) (v := .int x4138) (ty0 := tyX7) rfl inX7 tyX7_ok nmX7 (by decide) rfl wF_X4_84 gmq rg_69 rfl rfl (okI (by have := i_rng x4138; omega) (by have := i_rng x4138; omega)) rfl rfl (AE_in gmq (by decide)) dX4_line_251 (fun H4139 locsH4139 hTH4139 hSH4139 wH4139 => ?_)
                  have f4140 : ∀ j : Nat, j ≤ F.toNatClampNeg → kk j = (fI H4139 kq j).toInt := fun j hj => (f4116 j hj).trans (congrArg Int32.toInt (Wr.neI wH4139 (Or.inl (G_ne gkq gmq (by decide)))).symm)
                  have f4141 : ∀ j : Nat, j ≤ F.toNatClampNeg → vv j = (fI H4139 vq j).toInt := fun j hj => (f4117 j hj).trans (congrArg Int32.toInt (Wr.neI wH4139 (Or.inl (G_ne gvq gmq (by decide)))).symm)
                  have m4142 := (Wr.neI wH4139 (Or.inl (G_ne gkq gmq (by decide)))).trans m4118
                  have m4143 := m4119.trans (Wr.neI wH4139 (Or.inl (G_ne gkq gmq (by decide)))).symm
                  have m4144 := m4120.trans (Wr.neI wH4139 (Or.inl (G_ne gq3958 gmq (by decide)))).symm
                  have m4145 := m4121.trans (Wr.neI wH4139 (Or.inl (G_ne gq3992 gmq (by decide)))).symm
                  have m4146 := m4122.trans (Wr.neR wH4139 (Or.inl (G_ne ga0 gmq (by decide)))).symm
                  have m4147 := m4123.trans (Wr.neR wH4139 (Or.inl (G_ne ga0 gmq (by decide)))).symm
                  have m4148 := m4124.trans (Wr.neR wH4139 (Or.inl (G_ne ga0 gmq (by decide)))).symm
                  have m4149 := m4125.trans (Wr.neI wH4139 (Or.inl (G_ne ga0 gmq (by decide)))).symm
                  have m4151 := m4128.trans (Wr.neI wH4139 (Or.inl (G_ne ga0 gmq (by decide)))).symm
                  have m4152 := m4129.trans (Wr.neR wH4139 (Or.inr (x_apart hKT hts inX7 tyX7 tyX7_ok nmX7 rfl 6 0 (by decide) (by decide) (by decide)))).symm
                  have m4153 := m4130.trans (Wr.neI wH4139 (Or.inr (x_apart hKT hts inX7 tyX7 tyX7_ok nmX7 rfl 9 0 (by decide) (by decide) (by decide)))).symm
                  have m4154 := m4131.trans (Wr.neI wH4139 (Or.inl (G_ne gq4058 gmq (by decide)))).symm
                  have m4155 := m4132.trans (Wr.neI wH4139 (Or.inl (G_ne gkq gmq (by decide)))).symm
                  have m4156 := m4133.trans (Wr.neR wH4139 (Or.inr (x_apart hKT hts inX7 tyX7 tyX7_ok nmX7 rfl 7 0 (by decide) (by decide) (by decide)))).symm
                  have m4157 := m4134.trans (Wr.neI wH4139 (Or.inl (G_ne gq4084 gmq (by decide)))).symm
                  have m4158 := m4135.trans (Wr.neI wH4139 (Or.inl (G_ne ga0 gmq (by decide)))).symm
                  have m4159 := Wr.I wH4139
                  have m4159 := m4159.symm
                  refine lv_iconst (v := 1) hx hb dX4_line_254 (by decide) ?_
                  have cn_F := i_cl (x := F) (by omega)
                  have cn_tat := i_cl (x := tat) (by omega)
                  have cn_x4113 := i_cl (x := x4113) (by omega)
                  have cn_x3942 := i_cl (x := x3942) (by omega)
                  have cn_x4019 := i_cl (x := x4019) (by omega)
                  have cn_x4041 := i_cl (x := x4041) (by omega)
                  exact x_zret C hQ (Or.inr rfl) dX4_line_255 hSH4139 (by decide) (by decide) (⟨1, x4113, x4042, x4138, rfl, by decide, m4158, m4151, m4159, by omega, m4146, m4147, m4148, m4149, Or.inr ⟨(if_neg (by omega)).trans ((ln_go (by rw [qvx3499]; omega) qvx3499.symm (show x3942.toNatClampNeg = _ + 1 by omega) ((hs_law1 (by omega) (RQ.yes m4025 (by omega))).trans (RQ.yes m4048 (by omega))) (wn_0 (by rw [qvx4080]; omega))).trans ((if_pos (by rw [qvx4109]; omega)).trans (congrArg some (show _ + 1 = x4113.toNatClampNeg by omega)))), by omega⟩, hTH4139⟩)
                · have k4111 := i_ne c4110
                  refine lv_aload_n hx hb dX4_line_225 rfl (lv_at hl3938 2 rfl) ?_
                  refine lv_iconst (v := 1) hx hb dX4_line_226 (by decide) ?_
                  refine x_V (As := [.int 1]) (rest := []) C (a_X4_refuse_e l K G H4087 (1) (x4041) (x4042) (lw) hTH4087 ga0 gmq m4094 gkq m4095 gvq m4096 m4099 m4100 m4097) yo_X4_refuse wM_X4_81 ⟨⟨by decide, by decide⟩, by decide, by decide⟩ (x_rv C hTH4087 (ci := 4) rfl ga0 rg_78) rfl hl3938.1 rfl (Nat.le_of_ble_eq_true rfl) dX4_line_227 hSH4087 (AE_sub (fun _ _ => rfl) (by decide) hSH4087.1) (fun vH4160 H4160 locsH4160 pH4160 zH4160 kH4160 hSH4160 => ?_)
                  obtain ⟨x4161, x4162, x4163, hvH4160, bx4161, ex4162, ex4163, hrH4160, m4164, m4165, m4166, m4167, hTH4160⟩ := pH4160
                  subst hvH4160
                  have f4168 : ∀ j : Nat, j ≤ F.toNatClampNeg → kk j = (fI H4160 kq j).toInt := fun j hj => (f4088 j hj).trans (congrArg Int32.toInt (fI_kept (x_lt hTH4087 kH4160 gkq (by decide))).symm)
                  have f4169 : ∀ j : Nat, j ≤ F.toNatClampNeg → vv j = (fI H4160 vq j).toInt := fun j hj => (f4089 j hj).trans (congrArg Int32.toInt (fI_kept (x_lt hTH4087 kH4160 gvq (by decide))).symm)
                  have m4170 := (fI_kept (x_lt hTH4087 kH4160 gkq (by decide))).trans m4090
                  have m4171 := (m4091).trans (fI_kept (x_lt hTH4087 kH4160 gkq (by decide))).symm
                  have m4172 := (m4092).trans (fI_kept (x_lt hTH4087 kH4160 gq3958 (by decide))).symm
                  have m4173 := (m4093).trans (fI_kept (x_lt hTH4087 kH4160 gq3992 (by decide))).symm
                  have m4174 := (m4098).trans (fI_kept (x_lt hTH4087 kH4160 gmq (by decide))).symm
                  have m4175 := (m4101).trans (fR_kept (x_lt hTH4087 kH4160 gmq (by decide))).symm
                  have m4176 := (m4102).trans (fI_kept (x_lt hTH4087 kH4160 gmq (by decide))).symm
                  have m4177 := (m4103).trans (fI_kept (x_lt hTH4087 kH4160 gq4058 (by decide))).symm
                  have m4178 := (m4104).trans (fI_kept (x_lt hTH4087 kH4160 gkq (by decide))).symm
                  have m4179 := (m4105).trans (fR_kept (x_lt hTH4087 kH4160 gmq (by decide))).symm
                  have m4180 := (m4106).trans (fI_kept (x_lt hTH4087 kH4160 gq4084 (by decide))).symm
                  have bx4162 := ty_fi (x := x4162) (k := 7) ex4162 hTH4160 ga0 rg_78 rfl
                  have bx4163 := ty_fi (x := x4163) (k := 1) ex4163 hTH4160 ga0 rg_78 rfl
                  refine W.eq (g2 := F0 m 230 ls3937 [.int x4161]) rfl ?_
                  have cn_F := i_cl (x := F) (by omega)
                  have cn_tat := i_cl (x := tat) (by omega)
                  have cn_x4162 := i_cl (x := x4162) (by omega)
                  have cn_x3942 := i_cl (x := x3942) (by omega)
                  have cn_x4019 := i_cl (x := x4019) (by omega)
                  have cn_x4041 := i_cl (x := x4041) (by omega)
                  exact x_zret C hQ (i_01 (by omega)) dX4_line_230 hSH4160 (by decide) (by decide) (⟨x4161, x4162, x4163, li, rfl, by omega, ex4162, ex4163, m4174, by omega, m4164, m4165, m4166, m4167, Or.inl ⟨(if_neg (by omega)).trans ((ln_go (by rw [qvx3499]; omega) qvx3499.symm (show x3942.toNatClampNeg = _ + 1 by omega) ((hs_law1 (by omega) (RQ.yes m4025 (by omega))).trans (RQ.yes m4048 (by omega))) (wn_0 (by rw [qvx4080]; omega))).trans (if_neg (by rw [qvx4109]; omega))), by omega⟩, hTH4160⟩)
              · have k4082 := i_eq c4081
                refine lv_aload_n hx hb dX4_line_175 rfl (lv_at hl3938 2 rfl) ?_
                refine lv_dup hx hb dX4_line_176 rfl ?_
                refine x_gi C hTH4061 (ci := 4) (k := 7) rfl inX4 (by decide) wF_X4_42 ga0 rg_78 rfl dX4_line_177 (fun x4181 ex4181 bx4181 => ?_)
                have ux4181 : x4041 = x4181 := (m4073).trans ex4181.symm
                subst ux4181
                refine lv_iconst (v := 1) hx hb dX4_line_180 (by decide) ?_
                refine lv_iadd hx hb dX4_line_181 ?_
                refine lv_topi (fun x4182 ex4182 => ?_)
                have tx4182 := i_add ex4182 (by omega)
                have fz4184 : 0 ≤ x4182.toInt ∧ x4182.toInt ≤ 500 := by have := i_rng x4182; omega
                refine x_put C hTH4061 hSH4061 (ci := 4) (k := 7) (v := .int x4182) (ty0 := tyX4) rfl inX4 tyX4_ok nmX4 (by decide) rfl wF_X4_42 ga0 rg_78 rfl rfl (okI (by have := i_rng x4182; omega) (by have := i_rng x4182; omega)) rfl rfl (AE_in ga0 (by decide)) dX4_line_182 (fun H4183 locsH4183 hTH4183 hSH4183 wH4183 => ?_)
                have f4185 : ∀ j : Nat, j ≤ F.toNatClampNeg → kk j = (fI H4183 kq j).toInt := fun j hj => (f4062 j hj).trans (congrArg Int32.toInt (Wr.neI wH4183 (Or.inl (G_ne gkq ga0 (by decide)))).symm)
                have f4186 : ∀ j : Nat, j ≤ F.toNatClampNeg → vv j = (fI H4183 vq j).toInt := fun j hj => (f4063 j hj).trans (congrArg Int32.toInt (Wr.neI wH4183 (Or.inl (G_ne gvq ga0 (by decide)))).symm)
                have m4187 := (Wr.neI wH4183 (Or.inl (G_ne gkq ga0 (by decide)))).trans m4064
                have m4188 := m4065.trans (Wr.neI wH4183 (Or.inl (G_ne gkq ga0 (by decide)))).symm
                have m4189 := m4066.trans (Wr.neI wH4183 (Or.inl (G_ne gq3958 ga0 (by decide)))).symm
                have m4190 := m4067.trans (Wr.neI wH4183 (Or.inl (G_ne gq3992 ga0 (by decide)))).symm
                have m4191 := m4068.trans (Wr.neR wH4183 (Or.inr (x_apart hKT hts inX4 tyX4 tyX4_ok nmX4 rfl 0 7 (by decide) (by decide) (by decide)))).symm
                have m4192 := m4069.trans (Wr.neR wH4183 (Or.inr (x_apart hKT hts inX4 tyX4 tyX4_ok nmX4 rfl 3 7 (by decide) (by decide) (by decide)))).symm
                have m4193 := m4070.trans (Wr.neR wH4183 (Or.inr (x_apart hKT hts inX4 tyX4 tyX4_ok nmX4 rfl 4 7 (by decide) (by decide) (by decide)))).symm
                have m4194 := m4071.trans (Wr.neI wH4183 (Or.inr (x_apart hKT hts inX4 tyX4 tyX4_ok nmX4 rfl 8 7 (by decide) (by decide) (by decide)))).symm
                have m4195 := m4072.trans (Wr.neI wH4183 (Or.inl (G_ne gmq ga0 (by decide)))).symm
                have m4197 := m4074.trans (Wr.neI wH4183 (Or.inr (x_apart hKT hts inX4 tyX4 tyX4_ok nmX4 rfl 1 7 (by decide) (by decide) (by decide)))).symm
                have m4198 := m4075.trans (Wr.neR wH4183 (Or.inl (G_ne gmq ga0 (by decide)))).symm
                have m4199 := m4076.trans (Wr.neI wH4183 (Or.inl (G_ne gmq ga0 (by decide)))).symm
                have m4200 := m4077.trans (Wr.neI wH4183 (Or.inl (G_ne gq4058 ga0 (by decide)))).symm
                have m4201 := ex4080.trans (Wr.neI wH4183 (Or.inl (G_ne gkq ga0 (by decide)))).symm
                have m4202 := Wr.I wH4183
                have m4202 := m4202.symm
                refine lv_aload_n hx hb dX4_line_185 rfl (lv_at hl3938 2 rfl) ?_
                refine lv_iconst (v := 0) hx hb dX4_line_186 (by decide) ?_
                refine x_V (As := [.int 0]) (rest := []) C (a_X4_either_e0 l K G H4183 (0) (F) (x4182) (x4042) (lw) (li) kk vv hTH4183 ga0 (by decide) gmq m4191 gkq m4192 gvq m4193 m4202 m4197 m4194 m4195 m4187 (by omega) (by omega) f4185 f4186) yo_X4_either wM_X4_113 ⟨⟨by decide, by decide⟩, by decide, by decide⟩ (x_rv C hTH4183 (ci := 4) rfl ga0 rg_78) rfl hl3938.1 rfl (Nat.le_of_ble_eq_true rfl) dX4_line_187 hSH4183 (AE_sub (fun _ _ => rfl) (by decide) hSH4183.1) (fun vH4203 H4203 locsH4203 pH4203 zH4203 kH4203 hSH4203 => ?_)
                obtain ⟨x4204, x4205, x4206, hvH4203, bx4204, ex4205, ex4206, hrH4203, m4207, m4208, m4209, m4210, m4211, m4212, hTH4203⟩ := pH4203
                subst hvH4203
                have f4213 : ∀ j : Nat, j ≤ F.toNatClampNeg → kk j = (fI H4203 kq j).toInt := fun j hj => (f4185 j hj).trans (congrArg Int32.toInt (fI_kept (x_lt hTH4183 kH4203 gkq (by decide))).symm)
                have f4214 : ∀ j : Nat, j ≤ F.toNatClampNeg → vv j = (fI H4203 vq j).toInt := fun j hj => (f4186 j hj).trans (congrArg Int32.toInt (fI_kept (x_lt hTH4183 kH4203 gvq (by decide))).symm)
                have m4215 := (fI_kept (x_lt hTH4183 kH4203 gkq (by decide))).trans m4187
                have m4216 := (m4188).trans (fI_kept (x_lt hTH4183 kH4203 gkq (by decide))).symm
                have m4217 := (m4189).trans (fI_kept (x_lt hTH4183 kH4203 gq3958 (by decide))).symm
                have m4218 := (m4190).trans (fI_kept (x_lt hTH4183 kH4203 gq3992 (by decide))).symm
                have m4219 := (m4200).trans (fI_kept (x_lt hTH4183 kH4203 gq4058 (by decide))).symm
                have m4220 := (m4201).trans (fI_kept (x_lt hTH4183 kH4203 gkq (by decide))).symm
                have bx4205 := ty_fi (x := x4205) (k := 7) ex4205 hTH4203 ga0 rg_78 rfl
                have bx4206 := ty_fi (x := x4206) (k := 1) ex4206 hTH4203 ga0 rg_78 rfl
                refine W.eq (g2 := F0 m 190 ls3937 [.int x4204]) rfl ?_
                refine lv_if_ne (tgt := 195) hx hb dX4_line_190 (by decide) (fun c4221 => ?_) (fun c4221 => ?_)
                · have k4222 := i_ne c4221
                  refine lv_aload_n hx hb dX4_line_195 rfl (lv_at hl3938 2 rfl) ?_
                  refine x_gr C hTH4203 (ci := 4) (k := 0) rfl inX4 (by decide) wF_X4_12 ga0 rg_78 rfl dX4_line_196 (fun q4223 eq4223 gq4223 => ?_)
                  have uq4223 : mq = q4223 := (m4207).trans eq4223.symm
                  subst uq4223
                  refine x_gr C hTH4203 (ci := 7) (k := 7) rfl inX7 (by decide) wF_X4_116 gmq rg_69 rfl dX4_line_199 (fun q4224 eq4224 gq4224 => ?_)
                  refine lv_iload_n hx hb dX4_line_202 rfl (lv_at hl3938 0 rfl) ?_
                  refine lv_aload_n hx hb dX4_line_203 rfl (lv_at hl3938 2 rfl) ?_
                  refine x_gr C hTH4203 (ci := 4) (k := 0) rfl inX4 (by decide) wF_X4_12 ga0 rg_78 rfl dX4_line_204 (fun q4225 eq4225 gq4225 => ?_)
                  have uq4225 : mq = q4225 := (m4207).trans eq4225.symm
                  subst uq4225
                  refine x_gi C hTH4203 (ci := 7) (k := 9) rfl inX7 (by decide) wF_X4_96 gmq rg_69 rfl dX4_line_207 (fun x4226 ex4226 bx4226 => ?_)
                  refine x_iast C hTH4203 hSH4203 gq4224 rg_76 (by omega) (by show _ < ((16 : Nat) : Int); omega) ⟨by have := i_rng x4226; omega, by have := i_rng x4226; omega⟩ (AE_in gq4224 (by decide)) dX4_line_210 (fun H4227 locsH4227 hTH4227 hSH4227 wH4227 => ?_)
                  have f4228 : ∀ j : Nat, j ≤ F.toNatClampNeg → kk j = (fI H4227 kq j).toInt := fun j hj => (f4213 j hj).trans (congrArg Int32.toInt (Wr.neI wH4227 (Or.inl (G_ne gkq gq4224 (by decide)))).symm)
                  have f4229 : ∀ j : Nat, j ≤ F.toNatClampNeg → vv j = (fI H4227 vq j).toInt := fun j hj => (f4214 j hj).trans (congrArg Int32.toInt (Wr.neI wH4227 (Or.inl (G_ne gvq gq4224 (by decide)))).symm)
                  have m4230 := (Wr.neI wH4227 (Or.inl (G_ne gkq gq4224 (by decide)))).trans m4215
                  have m4231 := m4216.trans (Wr.neI wH4227 (Or.inl (G_ne gkq gq4224 (by decide)))).symm
                  have m4232 := m4217.trans (Wr.neI wH4227 (Or.inl (G_ne gq3958 gq4224 (by decide)))).symm
                  have m4233 := m4218.trans (Wr.neI wH4227 (Or.inl (G_ne gq3992 gq4224 (by decide)))).symm
                  have m4234 := m4219.trans (Wr.neI wH4227 (Or.inl (G_ne gq4058 gq4224 (by decide)))).symm
                  have m4235 := m4220.trans (Wr.neI wH4227 (Or.inl (G_ne gkq gq4224 (by decide)))).symm
                  have m4236 := m4207.trans (Wr.neR wH4227 (Or.inl (G_ne ga0 gq4224 (by decide)))).symm
                  have m4237 := m4208.trans (Wr.neR wH4227 (Or.inl (G_ne ga0 gq4224 (by decide)))).symm
                  have m4238 := m4209.trans (Wr.neR wH4227 (Or.inl (G_ne ga0 gq4224 (by decide)))).symm
                  have m4239 := m4210.trans (Wr.neI wH4227 (Or.inl (G_ne ga0 gq4224 (by decide)))).symm
                  have m4240 := m4211.trans (Wr.neI wH4227 (Or.inl (G_ne gmq gq4224 (by decide)))).symm
                  have m4241 := ex4205.trans (Wr.neI wH4227 (Or.inl (G_ne ga0 gq4224 (by decide)))).symm
                  have m4242 := ex4206.trans (Wr.neI wH4227 (Or.inl (G_ne ga0 gq4224 (by decide)))).symm
                  have m4243 := eq4224.trans (Wr.neR wH4227 (Or.inl (G_ne gmq gq4224 (by decide)))).symm
                  have m4244 := ex4226.trans (Wr.neI wH4227 (Or.inl (G_ne gmq gq4224 (by decide)))).symm
                  have m4245 := Wr.I wH4227
                  have m4245 := m4245.symm
                  refine lv_aload_n hx hb dX4_line_211 rfl (lv_at hl3938 2 rfl) ?_
                  refine x_gr C hTH4227 (ci := 4) (k := 3) rfl inX4 (by decide) wF_X4_18 ga0 rg_78 rfl dX4_line_212 (fun q4246 eq4246 gq4246 => ?_)
                  have uq4246 : kq = q4246 := (m4237).trans eq4246.symm
                  subst uq4246
                  refine lv_aload_n hx hb dX4_line_215 rfl (lv_at hl3938 2 rfl) ?_
                  refine x_gi C hTH4227 (ci := 4) (k := 7) rfl inX4 (by decide) wF_X4_42 ga0 rg_78 rfl dX4_line_216 (fun x4247 ex4247 bx4247 => ?_)
                  have ux4247 : x4205 = x4247 := (m4241).trans ex4247.symm
                  subst ux4247
                  refine x_ai C hTH4227 gkq rg_79 ⟨by omega, by show _ < ((501 : Nat) : Int); omega⟩ dX4_line_219 (fun x4248 ex4248 bx4248 => ?_)
                  have dx4248 := el_hit ex4248 m4230
                  have qvx4248 : kk x4205.toNatClampNeg = x4248.toInt := (f4228 _ (by have h1 := i_cl (x := x4205) (by omega); have h2 := i_cl (x := F) (by omega); omega)).trans (congrArg Int32.toInt ex4248.symm)
                  refine lv_bipush (v := 59) hx hb dX4_line_220 (by decide) ?_
                  refine lv_icmp_eq (tgt := 231) hx hb dX4_line_222 (by decide) (fun c4249 => ?_) (fun c4249 => ?_)
                  · have k4250 := i_eq c4249
                    refine lv_aload_n hx hb dX4_line_231 rfl (lv_at hl3938 2 rfl) ?_
                    refine lv_dup hx hb dX4_line_232 rfl ?_
                    refine x_gi C hTH4227 (ci := 4) (k := 7) rfl inX4 (by decide) wF_X4_42 ga0 rg_78 rfl dX4_line_233 (fun x4251 ex4251 bx4251 => ?_)
                    have ux4251 : x4205 = x4251 := (m4241).trans ex4251.symm
                    subst ux4251
                    refine lv_iconst (v := 1) hx hb dX4_line_236 (by decide) ?_
                    refine lv_iadd hx hb dX4_line_237 ?_
                    refine lv_topi (fun x4252 ex4252 => ?_)
                    have tx4252 := i_add ex4252 (by omega)
                    have fz4254 : 0 ≤ x4252.toInt ∧ x4252.toInt ≤ 500 := by have := i_rng x4252; omega
                    refine x_put C hTH4227 hSH4227 (ci := 4) (k := 7) (v := .int x4252) (ty0 := tyX4) rfl inX4 tyX4_ok nmX4 (by decide) rfl wF_X4_42 ga0 rg_78 rfl rfl (okI (by have := i_rng x4252; omega) (by have := i_rng x4252; omega)) rfl rfl (AE_in ga0 (by decide)) dX4_line_238 (fun H4253 locsH4253 hTH4253 hSH4253 wH4253 => ?_)
                    have f4255 : ∀ j : Nat, j ≤ F.toNatClampNeg → kk j = (fI H4253 kq j).toInt := fun j hj => (f4228 j hj).trans (congrArg Int32.toInt (Wr.neI wH4253 (Or.inl (G_ne gkq ga0 (by decide)))).symm)
                    have f4256 : ∀ j : Nat, j ≤ F.toNatClampNeg → vv j = (fI H4253 vq j).toInt := fun j hj => (f4229 j hj).trans (congrArg Int32.toInt (Wr.neI wH4253 (Or.inl (G_ne gvq ga0 (by decide)))).symm)
                    have m4257 := (Wr.neI wH4253 (Or.inl (G_ne gkq ga0 (by decide)))).trans m4230
                    have m4258 := m4231.trans (Wr.neI wH4253 (Or.inl (G_ne gkq ga0 (by decide)))).symm
                    have m4259 := m4232.trans (Wr.neI wH4253 (Or.inl (G_ne gq3958 ga0 (by decide)))).symm
                    have m4260 := m4233.trans (Wr.neI wH4253 (Or.inl (G_ne gq3992 ga0 (by decide)))).symm
                    have m4261 := m4234.trans (Wr.neI wH4253 (Or.inl (G_ne gq4058 ga0 (by decide)))).symm
                    have m4262 := m4235.trans (Wr.neI wH4253 (Or.inl (G_ne gkq ga0 (by decide)))).symm
                    have m4263 := m4236.trans (Wr.neR wH4253 (Or.inr (x_apart hKT hts inX4 tyX4 tyX4_ok nmX4 rfl 0 7 (by decide) (by decide) (by decide)))).symm
                    have m4264 := m4237.trans (Wr.neR wH4253 (Or.inr (x_apart hKT hts inX4 tyX4 tyX4_ok nmX4 rfl 3 7 (by decide) (by decide) (by decide)))).symm
                    have m4265 := m4238.trans (Wr.neR wH4253 (Or.inr (x_apart hKT hts inX4 tyX4 tyX4_ok nmX4 rfl 4 7 (by decide) (by decide) (by decide)))).symm
                    have m4266 := m4239.trans (Wr.neI wH4253 (Or.inr (x_apart hKT hts inX4 tyX4 tyX4_ok nmX4 rfl 8 7 (by decide) (by decide) (by decide)))).symm
                    have m4267 := m4240.trans (Wr.neI wH4253 (Or.inl (G_ne gmq ga0 (by decide)))).symm
                    have m4269 := m4242.trans (Wr.neI wH4253 (Or.inr (x_apart hKT hts inX4 tyX4 tyX4_ok nmX4 rfl 1 7 (by decide) (by decide) (by decide)))).symm
                    have m4270 := m4243.trans (Wr.neR wH4253 (Or.inl (G_ne gmq ga0 (by decide)))).symm
                    have m4271 := m4244.trans (Wr.neI wH4253 (Or.inl (G_ne gmq ga0 (by decide)))).symm
                    have m4272 := m4245.trans (Wr.neI wH4253 (Or.inl (G_ne gq4224 ga0 (by decide)))).symm
                    have m4273 := ex4248.trans (Wr.neI wH4253 (Or.inl (G_ne gkq ga0 (by decide)))).symm
                    have m4274 := Wr.I wH4253
                    have m4274 := m4274.symm
                    refine lv_aload_n hx hb dX4_line_241 rfl (lv_at hl3938 2 rfl) ?_
                    refine x_gr C hTH4253 (ci := 4) (k := 0) rfl inX4 (by decide) wF_X4_12 ga0 rg_78 rfl dX4_line_242 (fun q4275 eq4275 gq4275 => ?_)
                    have uq4275 : mq = q4275 := (m4263).trans eq4275.symm
                    subst uq4275
                    refine lv_dup hx hb dX4_line_245 rfl ?_
                    refine x_gi C hTH4253 (ci := 7) (k := 0) rfl inX7 (by decide) wF_X4_84 gmq rg_69 rfl dX4_line_246 (fun x4276 ex4276 bx4276 => ?_)
                    have ux4276 : li = x4276 := (m4267).trans ex4276.symm
                    subst ux4276
                    refine lv_iconst (v := 1) hx hb dX4_line_249 (by decide) ?_
                    refine lv_iadd hx hb dX4_line_250 ?_
                    refine lv_topi (fun x4277 ex4277 => ?_)
                    have tx4277 := i_add ex4277 (by omega)
                    refine x_put C hTH4253 hSH4253 (ci := 7) (k := 0) (v := .int x4277) (ty0 := tyX7) rfl inX7 tyX7_ok nmX7 (by decide) rfl wF_X4_84 gmq rg_69 rfl rfl (okI (by have := i_rng x4277; omega) (by have := i_rng x4277; omega)) rfl rfl (AE_in gmq (by decide)) dX4_line_251 (fun H4278 locsH4278 hTH4278 hSH4278 wH4278 => ?_)
                    have f4279 : ∀ j : Nat, j ≤ F.toNatClampNeg → kk j = (fI H4278 kq j).toInt := fun j hj => (f4255 j hj).trans (congrArg Int32.toInt (Wr.neI wH4278 (Or.inl (G_ne gkq gmq (by decide)))).symm)
                    have f4280 : ∀ j : Nat, j ≤ F.toNatClampNeg → vv j = (fI H4278 vq j).toInt := fun j hj => (f4256 j hj).trans (congrArg Int32.toInt (Wr.neI wH4278 (Or.inl (G_ne gvq gmq (by decide)))).symm)
                    have m4281 := (Wr.neI wH4278 (Or.inl (G_ne gkq gmq (by decide)))).trans m4257
                    have m4282 := m4258.trans (Wr.neI wH4278 (Or.inl (G_ne gkq gmq (by decide)))).symm
                    have m4283 := m4259.trans (Wr.neI wH4278 (Or.inl (G_ne gq3958 gmq (by decide)))).symm
                    have m4284 := m4260.trans (Wr.neI wH4278 (Or.inl (G_ne gq3992 gmq (by decide)))).symm
                    have m4285 := m4261.trans (Wr.neI wH4278 (Or.inl (G_ne gq4058 gmq (by decide)))).symm
                    have m4286 := m4262.trans (Wr.neI wH4278 (Or.inl (G_ne gkq gmq (by decide)))).symm
                    have m4287 := m4263.trans (Wr.neR wH4278 (Or.inl (G_ne ga0 gmq (by decide)))).symm
                    have m4288 := m4264.trans (Wr.neR wH4278 (Or.inl (G_ne ga0 gmq (by decide)))).symm
                    have m4289 := m4265.trans (Wr.neR wH4278 (Or.inl (G_ne ga0 gmq (by decide)))).symm
                    have m4290 := m4266.trans (Wr.neI wH4278 (Or.inl (G_ne ga0 gmq (by decide)))).symm
                    have m4292 := m4269.trans (Wr.neI wH4278 (Or.inl (G_ne ga0 gmq (by decide)))).symm
                    have m4293 := m4270.trans (Wr.neR wH4278 (Or.inr (x_apart hKT hts inX7 tyX7 tyX7_ok nmX7 rfl 7 0 (by decide) (by decide) (by decide)))).symm
                    have m4294 := m4271.trans (Wr.neI wH4278 (Or.inr (x_apart hKT hts inX7 tyX7 tyX7_ok nmX7 rfl 9 0 (by decide) (by decide) (by decide)))).symm
                    have m4295 := m4272.trans (Wr.neI wH4278 (Or.inl (G_ne gq4224 gmq (by decide)))).symm
                    have m4296 := m4273.trans (Wr.neI wH4278 (Or.inl (G_ne gkq gmq (by decide)))).symm
                    have m4297 := m4274.trans (Wr.neI wH4278 (Or.inl (G_ne ga0 gmq (by decide)))).symm
                    have m4298 := Wr.I wH4278
                    have m4298 := m4298.symm
                    refine lv_iconst (v := 1) hx hb dX4_line_254 (by decide) ?_
                    have cn_F := i_cl (x := F) (by omega)
                    have cn_tat := i_cl (x := tat) (by omega)
                    have cn_x4252 := i_cl (x := x4252) (by omega)
                    have cn_x3942 := i_cl (x := x3942) (by omega)
                    have cn_x4019 := i_cl (x := x4019) (by omega)
                    have cn_x4041 := i_cl (x := x4041) (by omega)
                    have cn_x4205 := i_cl (x := x4205) (by omega)
                    have cn_x4182 := i_cl (x := x4182) (by omega)
                    exact x_zret C hQ (Or.inr rfl) dX4_line_255 hSH4278 (by decide) (by decide) (⟨1, x4252, x4206, x4277, rfl, by decide, m4297, m4292, m4298, by omega, m4287, m4288, m4289, m4290, Or.inr ⟨(if_neg (by omega)).trans ((ln_go (by rw [qvx3499]; omega) qvx3499.symm (show x3942.toNatClampNeg = _ + 1 by omega) ((hs_law1 (by omega) (RQ.yes m4025 (by omega))).trans (RQ.yes m4048 (by omega))) (wn_yes (by rw [qvx4080]; omega) (show x4182.toNatClampNeg = _ + 1 by omega) (RQ.yes m4212 (by omega)))).trans ((if_pos (by rw [qvx4248]; omega)).trans (congrArg some (show _ + 1 = x4252.toNatClampNeg by omega)))), by omega⟩, hTH4278⟩)
                  · have k4250 := i_ne c4249
                    refine lv_aload_n hx hb dX4_line_225 rfl (lv_at hl3938 2 rfl) ?_
                    refine lv_iconst (v := 1) hx hb dX4_line_226 (by decide) ?_
                    refine x_V (As := [.int 1]) (rest := []) C (a_X4_refuse_e l K G H4227 (1) (x4205) (x4206) (lw) hTH4227 ga0 gmq m4236 gkq m4237 gvq m4238 m4241 m4242 m4239) yo_X4_refuse wM_X4_81 ⟨⟨by decide, by decide⟩, by decide, by decide⟩ (x_rv C hTH4227 (ci := 4) rfl ga0 rg_78) rfl hl3938.1 rfl (Nat.le_of_ble_eq_true rfl) dX4_line_227 hSH4227 (AE_sub (fun _ _ => rfl) (by decide) hSH4227.1) (fun vH4299 H4299 locsH4299 pH4299 zH4299 kH4299 hSH4299 => ?_)
                    obtain ⟨x4300, x4301, x4302, hvH4299, bx4300, ex4301, ex4302, hrH4299, m4303, m4304, m4305, m4306, hTH4299⟩ := pH4299
                    subst hvH4299
                    have f4307 : ∀ j : Nat, j ≤ F.toNatClampNeg → kk j = (fI H4299 kq j).toInt := fun j hj => (f4228 j hj).trans (congrArg Int32.toInt (fI_kept (x_lt hTH4227 kH4299 gkq (by decide))).symm)
                    have f4308 : ∀ j : Nat, j ≤ F.toNatClampNeg → vv j = (fI H4299 vq j).toInt := fun j hj => (f4229 j hj).trans (congrArg Int32.toInt (fI_kept (x_lt hTH4227 kH4299 gvq (by decide))).symm)
                    have m4309 := (fI_kept (x_lt hTH4227 kH4299 gkq (by decide))).trans m4230
                    have m4310 := (m4231).trans (fI_kept (x_lt hTH4227 kH4299 gkq (by decide))).symm
                    have m4311 := (m4232).trans (fI_kept (x_lt hTH4227 kH4299 gq3958 (by decide))).symm
                    have m4312 := (m4233).trans (fI_kept (x_lt hTH4227 kH4299 gq3992 (by decide))).symm
                    have m4313 := (m4234).trans (fI_kept (x_lt hTH4227 kH4299 gq4058 (by decide))).symm
                    have m4314 := (m4235).trans (fI_kept (x_lt hTH4227 kH4299 gkq (by decide))).symm
                    have m4315 := (m4240).trans (fI_kept (x_lt hTH4227 kH4299 gmq (by decide))).symm
                    have m4316 := (m4243).trans (fR_kept (x_lt hTH4227 kH4299 gmq (by decide))).symm
                    have m4317 := (m4244).trans (fI_kept (x_lt hTH4227 kH4299 gmq (by decide))).symm
                    have m4318 := (m4245).trans (fI_kept (x_lt hTH4227 kH4299 gq4224 (by decide))).symm
                    have m4319 := (ex4248).trans (fI_kept (x_lt hTH4227 kH4299 gkq (by decide))).symm
                    have bx4301 := ty_fi (x := x4301) (k := 7) ex4301 hTH4299 ga0 rg_78 rfl
                    have bx4302 := ty_fi (x := x4302) (k := 1) ex4302 hTH4299 ga0 rg_78 rfl
                    refine W.eq (g2 := F0 m 230 ls3937 [.int x4300]) rfl ?_
                    have cn_F := i_cl (x := F) (by omega)
                    have cn_tat := i_cl (x := tat) (by omega)
                    have cn_x4301 := i_cl (x := x4301) (by omega)
                    have cn_x3942 := i_cl (x := x3942) (by omega)
                    have cn_x4019 := i_cl (x := x4019) (by omega)
                    have cn_x4041 := i_cl (x := x4041) (by omega)
                    have cn_x4205 := i_cl (x := x4205) (by omega)
                    have cn_x4182 := i_cl (x := x4182) (by omega)
                    exact x_zret C hQ (i_01 (by omega)) dX4_line_230 hSH4299 (by decide) (by decide) (⟨x4300, x4301, x4302, li, rfl, by omega, ex4301, ex4302, m4315, by omega, m4303, m4304, m4305, m4306, Or.inl ⟨(if_neg (by omega)).trans ((ln_go (by rw [qvx3499]; omega) qvx3499.symm (show x3942.toNatClampNeg = _ + 1 by omega) ((hs_law1 (by omega) (RQ.yes m4025 (by omega))).trans (RQ.yes m4048 (by omega))) (wn_yes (by rw [qvx4080]; omega) (show x4182.toNatClampNeg = _ + 1 by omega) (RQ.yes m4212 (by omega)))).trans (if_neg (by rw [qvx4248]; omega))), by omega⟩, hTH4299⟩)
                · have k4222 := i_eq c4221
                  refine lv_iconst (v := 0) hx hb dX4_line_193 (by decide) ?_
                  have cn_F := i_cl (x := F) (by omega)
                  have cn_tat := i_cl (x := tat) (by omega)
                  have cn_x4205 := i_cl (x := x4205) (by omega)
                  have cn_x3942 := i_cl (x := x3942) (by omega)
                  have cn_x4019 := i_cl (x := x4019) (by omega)
                  have cn_x4041 := i_cl (x := x4041) (by omega)
                  have cn_x4205 := i_cl (x := x4205) (by omega)
                  have cn_x4182 := i_cl (x := x4182) (by omega)
                  exact x_zret C hQ (Or.inl rfl) dX4_line_194 hSH4203 (by decide) (by decide) (⟨0, x4205, x4206, li, rfl, by decide, ex4205, ex4206, m4211, by omega, m4207, m4208, m4209, m4210, Or.inl ⟨(if_neg (by omega)).trans (ln_no2 (by rw [qvx3499]; omega) qvx3499.symm (show x3942.toNatClampNeg = _ + 1 by omega) ((hs_law1 (by omega) (RQ.yes m4025 (by omega))).trans (RQ.yes m4048 (by omega))) (wn_no (by rw [qvx4080]; omega) (show x4182.toNatClampNeg = _ + 1 by omega) (RQ.no m4212 (by omega)))), by omega⟩, hTH4203⟩)
      · have k3940 := i_nlt c3939
        refine lv_aload_n hx hb dX4_line_56 rfl (lv_at hl3938 2 rfl) ?_
        refine lv_iconst (v := 3) hx hb dX4_line_57 (by decide) ?_
        refine x_V (As := [.int 3]) (rest := []) C (a_X4_refuse_e l K G s.heap (3) (tat) (fa) (lw) hT ga0 gmq emq gkq ekq gvq evq etat efa elw) yo_X4_refuse wM_X4_81 ⟨⟨by decide, by decide⟩, by decide, by decide⟩ (x_rv C hT (ci := 4) rfl ga0 rg_78) rfl hl3938.1 rfl (Nat.le_of_ble_eq_true rfl) dX4_line_58 hS (AE_sub (fun _ _ => rfl) (by decide) hS.1) (fun vH4320 H4320 locsH4320 pH4320 zH4320 kH4320 hSH4320 => ?_)
        obtain ⟨x4321, x4322, x4323, hvH4320, bx4321, ex4322, ex4323, hrH4320, m4324, m4325, m4326, m4327, hTH4320⟩ := pH4320
        subst hvH4320
        have f4328 : ∀ j : Nat, j ≤ F.toNatClampNeg → kk j = (fI H4320 kq j).toInt := fun j hj => (f0_kk j hj).trans (congrArg Int32.toInt (fI_kept (x_lt hT kH4320 gkq (by decide))).symm)
        have f4329 : ∀ j : Nat, j ≤ F.toNatClampNeg → vv j = (fI H4320 vq j).toInt := fun j hj => (f0_vv j hj).trans (congrArg Int32.toInt (fI_kept (x_lt hT kH4320 gvq (by decide))).symm)
        have m4330 := (eli).trans (fI_kept (x_lt hT kH4320 gmq (by decide))).symm
        have m4331 := (fI_kept (x_lt hT kH4320 gkq (by decide))).trans hel0
        have m4332 := (ex3499).trans (fI_kept (x_lt hT kH4320 gkq (by decide))).symm
        have bx4322 := ty_fi (x := x4322) (k := 7) ex4322 hTH4320 ga0 rg_78 rfl
        have bx4323 := ty_fi (x := x4323) (k := 1) ex4323 hTH4320 ga0 rg_78 rfl
        refine W.eq (g2 := F0 m 61 ls3937 [.int x4321]) rfl ?_
        have cn_F := i_cl (x := F) (by omega)
        have cn_tat := i_cl (x := tat) (by omega)
        have cn_x4322 := i_cl (x := x4322) (by omega)
        exact x_zret C hQ (i_01 (by omega)) dX4_line_61 hSH4320 (by decide) (by decide) (⟨x4321, x4322, x4323, li, rfl, by omega, ex4322, ex4323, m4330, by omega, m4324, m4325, m4326, m4327, Or.inl ⟨if_pos (by omega), by omega⟩, hTH4320⟩)
    · have k3934 := i_nle c3933
      refine lv_goto (tgt := 36) hx hb dX4_line_22 (by decide) ?_
      refine lv_aload_n hx hb dX4_line_36 rfl (lv_at hl3501 1 rfl) ?_
      refine lv_iconst (v := 1) hx hb dX4_line_37 (by decide) ?_
      refine x_V (As := [.int 1]) (rest := []) C (a_X4_refuse_e l K G s.heap (1) (tat) (fa) (lw) hT ga0 gmq emq gkq ekq gvq evq etat efa elw) yo_X4_refuse wM_X4_81 ⟨⟨by decide, by decide⟩, by decide, by decide⟩ (x_rv C hT (ci := 4) rfl ga0 rg_78) rfl hl3501.1 rfl (Nat.le_of_ble_eq_true rfl) dX4_line_38 hS (AE_sub (fun _ _ => rfl) (by decide) hS.1) (fun vH4333 H4333 locsH4333 pH4333 zH4333 kH4333 hSH4333 => ?_)
      obtain ⟨x4334, x4335, x4336, hvH4333, bx4334, ex4335, ex4336, hrH4333, m4337, m4338, m4339, m4340, hTH4333⟩ := pH4333
      subst hvH4333
      have f4341 : ∀ j : Nat, j ≤ F.toNatClampNeg → kk j = (fI H4333 kq j).toInt := fun j hj => (f0_kk j hj).trans (congrArg Int32.toInt (fI_kept (x_lt hT kH4333 gkq (by decide))).symm)
      have f4342 : ∀ j : Nat, j ≤ F.toNatClampNeg → vv j = (fI H4333 vq j).toInt := fun j hj => (f0_vv j hj).trans (congrArg Int32.toInt (fI_kept (x_lt hT kH4333 gvq (by decide))).symm)
      have m4343 := (eli).trans (fI_kept (x_lt hT kH4333 gmq (by decide))).symm
      have m4344 := (fI_kept (x_lt hT kH4333 gkq (by decide))).trans hel0
      have m4345 := (ex3499).trans (fI_kept (x_lt hT kH4333 gkq (by decide))).symm
      have bx4335 := ty_fi (x := x4335) (k := 7) ex4335 hTH4333 ga0 rg_78 rfl
      have bx4336 := ty_fi (x := x4336) (k := 1) ex4336 hTH4333 ga0 rg_78 rfl
      refine W.eq (g2 := F0 m 41 ls3500 [.int x4334]) rfl ?_
      have cn_F := i_cl (x := F) (by omega)
      have cn_tat := i_cl (x := tat) (by omega)
      have cn_x4335 := i_cl (x := x4335) (by omega)
      exact x_zret C hQ (i_01 (by omega)) dX4_line_41 hSH4333 (by decide) (by decide) (⟨x4334, x4335, x4336, li, rfl, by omega, ex4335, ex4336, m4343, by omega, m4337, m4338, m4339, m4340, Or.inl ⟨l16_no (ln_no0 (by rw [qvx3499]; omega)), by omega⟩, hTH4333⟩)

set_option maxHeartbeats 4000000 in
set_option maxRecDepth 100000 in
theorem a_X4_goesOn_e (l : Launch) (K : KE) (G : Nat → Option Nat) (H : Heap) {a0 : Nat} {mq : Nat} {kq : Nat} {vq : Nat} (F : Int32) (tat : Int32) (fa : Int32) (kk : Nat → Int) (vv : Nat → Int) (hT : TY K G H) (ga0 : G a0 = some 78) (gmq : G mq = some 69) (emq : mq = fR H a0 (K.1.2 4 0)) (gkq : G kq = some 79) (ekq : kq = fR H a0 (K.1.2 4 3)) (gvq : G vq = some 80) (evq : vq = fR H a0 (K.1.2 4 4)) (etat : tat = fI H a0 (K.1.2 4 7)) (efa : fa = fI H a0 (K.1.2 4 1)) (hel0 : fI H kq (F : Int32).toNatClampNeg = 26) (hp0 : tat.toInt ≤ F.toInt) (hp1 : F.toInt ≤ 500) (hv_kk : ∀ j : Nat, j ≤ F.toNatClampNeg → kk j = (fI H kq j).toInt) (hv_vv : ∀ j : Nat, j ≤ F.toNatClampNeg → vv j = (fI H vq j).toInt) : MX l K yX4_goesOn cX4_goesOn 1 (some .boolean) 0 0 0 0 [.ref a0] H (AE G [] H.size) (fun v H1 => ∃ (r : Int32), v = some (.int r) ∧ (0 ≤ r.toInt ∧ r.toInt ≤ 1) ∧ ((r.toInt = 1 ∧ fa.toInt = 0 ∧ kk tat.toNatClampNeg ≠ 26) ∨ (r.toInt = 0 ∧ (fa.toInt ≠ 0 ∨ kk tat.toNatClampNeg = 26))) ∧ TY K G H1) := by
  refine MX.of (by decide +kernel) (Nat.le_of_ble_eq_true rfl) ?_
  intro p e s m below meth c ls Q C hH hl hQ
  subst hH
  have C : CX p K s m _ meth c RX4 cX4_goesOn 1 (some .boolean) "goesOn" := C
  obtain ⟨hx, hb, hml, hown, hts, hKT, hr, hlocks, hnm⟩ := id C
  have hl : lv_has ls 1 [(0, .ref a0)] := hl
  have hS : va_S (AE G [] s.heap.size) s.heap s.heap [] := va_S.rf
  have n_0 : (0 : Int32).toInt = 0 := rfl
  have n_1 : (1 : Int32).toInt = 1 := rfl
  have n_26 : (26 : Int32).toInt = 26 := rfl
  have btat := ty_fi (x := tat) (k := 7) etat hT ga0 rg_78 rfl
  have bfa := ty_fi (x := fa) (k := 1) efa hT ga0 rg_78 rfl
  have f0_kk := hv_kk
  have f0_vv := hv_vv
  refine lv_aload_n hx hb dX4_goesOn_0 rfl (lv_at hl 0 rfl) ?_
  refine x_gi C hT (ci := 4) (k := 1) rfl inX4 (by decide) wF_X4_32 ga0 rg_78 rfl dX4_goesOn_1 (fun x133 ex133 bx133 => ?_)
  have ux133 : fa = x133 := (efa).trans ex133.symm
  subst ux133
  refine lv_if_ne (tgt := 25) hx hb dX4_goesOn_4 (by decide) (fun c134 => ?_) (fun c134 => ?_)
  · have k135 := i_ne c134
    refine lv_iconst (v := 0) hx hb dX4_goesOn_25 (by decide) ?_
    exact x_zret C hQ (Or.inl rfl) dX4_goesOn_26 hS (by decide) (by decide) (⟨0, rfl, by decide, by omega, hT⟩)
  · have k135 := i_eq c134
    refine lv_aload_n hx hb dX4_goesOn_7 rfl (lv_at hl 0 rfl) ?_
    refine x_gr C hT (ci := 4) (k := 3) rfl inX4 (by decide) wF_X4_18 ga0 rg_78 rfl dX4_goesOn_8 (fun q136 eq136 gq136 => ?_)
    have uq136 : kq = q136 := (ekq).trans eq136.symm
    subst uq136
    refine lv_aload_n hx hb dX4_goesOn_11 rfl (lv_at hl 0 rfl) ?_
    refine x_gi C hT (ci := 4) (k := 7) rfl inX4 (by decide) wF_X4_42 ga0 rg_78 rfl dX4_goesOn_12 (fun x137 ex137 bx137 => ?_)
    have ux137 : tat = x137 := (etat).trans ex137.symm
    subst ux137
    refine x_ai C hT gkq rg_79 ⟨by omega, by show _ < ((501 : Nat) : Int); omega⟩ dX4_goesOn_15 (fun x138 ex138 bx138 => ?_)
    have dx138 := el_hit ex138 hel0
    have qvx138 : kk tat.toNatClampNeg = x138.toInt := (f0_kk _ (by have h1 := i_cl (x := tat) (by omega); have h2 := i_cl (x := F) (by omega); omega)).trans (congrArg Int32.toInt ex138.symm)
    refine lv_bipush (v := 26) hx hb dX4_goesOn_16 (by decide) ?_
    refine lv_icmp_eq (tgt := 25) hx hb dX4_goesOn_18 (by decide) (fun c139 => ?_) (fun c139 => ?_)
    · have k140 := i_eq c139
      refine lv_iconst (v := 0) hx hb dX4_goesOn_25 (by decide) ?_
      exact x_zret C hQ (Or.inl rfl) dX4_goesOn_26 hS (by decide) (by decide) (⟨0, rfl, by decide, by omega, hT⟩)
    · have k140 := i_ne c139
      refine lv_iconst (v := 1) hx hb dX4_goesOn_21 (by decide) ?_
      refine lv_goto (tgt := 26) hx hb dX4_goesOn_22 (by decide) ?_
      exact x_zret C hQ (Or.inr rfl) dX4_goesOn_26 hS (by decide) (by decide) (⟨1, rfl, by decide, by omega, hT⟩)
