set_option maxHeartbeats 4000000 in
set_option maxRecDepth 100000 in
theorem a_X4_part_g2 (l : Launch) (K : KE) (G : Nat → Option Nat) (H : Heap) {a0 : Nat} (x1 : Int32) {mq : Nat} {kq : Nat} {vq : Nat} {sq : Nat} (F : Int32) (tat : Int32) (fa : Int32) (sc : Int32) (lw : Int32) (li : Int32) (kk : Nat → Int) (vv : Nat → Int) (hT : TY K G H) (ga0 : G a0 = some 78) (hx1 : 2 ≤ x1.toInt ∧ x1.toInt ≤ 8) (gmq : G mq = some 69) (emq : mq = fR H a0 (K.1.2 4 0)) (gkq : G kq = some 79) (ekq : kq = fR H a0 (K.1.2 4 3)) (gvq : G vq = some 80) (evq : vq = fR H a0 (K.1.2 4 4)) (gsq : G sq = some 77) (esq : sq = fR H mq (K.1.2 7 8)) (etat : tat = fI H a0 (K.1.2 4 7)) (efa : fa = fI H a0 (K.1.2 4 1)) (esc : sc = fI H mq (K.1.2 7 9)) (elw : lw = fI H a0 (K.1.2 4 8)) (eli : li = fI H mq (K.1.2 7 0)) (hel0 : fI H kq (F : Int32).toNatClampNeg = 26) (hp0 : tat.toInt ≤ F.toInt) (hp1 : F.toInt ≤ 500) (hp2 : sc.toInt ≤ tat.toInt) (hy0 : ∀ j : Nat, 0 ≤ vv j ∧ vv j < 100000) (hv_kk : ∀ j : Nat, j ≤ F.toNatClampNeg → kk j = (fI H kq j).toInt) (hv_vv : ∀ j : Nat, j ≤ F.toNatClampNeg → vv j = (fI H vq j).toInt) : MX l K yX4_part cX4_part 4 (some .boolean) 27 602 0 0 [.ref a0, .int x1] H (AE G [78, 69, 77] H.size) (fun v H1 => ∃ (r : Int32) (t0 : Int32) (t1 : Int32) (t2 : Int32), v = some (.int r) ∧ (0 ≤ r.toInt ∧ r.toInt ≤ 1) ∧ t0 = fI H1 a0 (K.1.2 4 7) ∧ t1 = fI H1 a0 (K.1.2 4 1) ∧ t2 = fI H1 mq (K.1.2 7 9) ∧ (t0.toInt ≤ F.toInt ∧ ((r.toInt = 1 ∧ t1.toInt = fa.toInt ∧ tat.toInt < t0.toInt ∧ sc.toInt ≤ t2.toInt ∧ t2.toInt + tat.toInt ≤ sc.toInt + t0.toInt) ∨ (r.toInt = 0 ∧ t1.toInt ≠ 0))) ∧ mq = fR H1 a0 (K.1.2 4 0) ∧ kq = fR H1 a0 (K.1.2 4 3) ∧ vq = fR H1 a0 (K.1.2 4 4) ∧ sq = fR H1 mq (K.1.2 7 8) ∧ lw = fI H1 a0 (K.1.2 4 8) ∧ li = fI H1 mq (K.1.2 7 0) ∧ (RQ (paS kk vv lw.toInt (8 - x1.toNatClampNeg) tat.toNatClampNeg) r t0) ∧ (r.toInt = 0 ∨ CSP lw.toInt (fun j => fI H1 sq j) (fun j => fI H sq j) sc.toNatClampNeg t2.toNatClampNeg 16 [paF kk vv lw.toInt (8 - x1.toNatClampNeg) tat.toNatClampNeg]) ∧ (RFT K H1 H mq) ∧ TY K G H1) := by
  refine MX.of (by decide +kernel) (Nat.le_of_ble_eq_true rfl) ?_
  intro p e s m below meth c ls Q C hH hl hQ
  subst hH
  have C : CX p K s m _ meth c RX4 cX4_part 4 (some .boolean) "part" := C
  obtain ⟨hx, hb, hml, hown, hts, hKT, hr, hlocks, hnm⟩ := id C
  have hl : lv_has ls 4 [(0, .ref a0), (1, .int x1)] := hl
  have hS : va_S (AE G [78, 69, 77] s.heap.size) s.heap s.heap [] := va_S.rf
  have n_0 : (0 : Int32).toInt = 0 := rfl
  have n_1 : (1 : Int32).toInt = 1 := rfl
  have n_3 : (3 : Int32).toInt = 3 := rfl
  have n_8 : (8 : Int32).toInt = 8 := rfl
  have n_10 : (10 : Int32).toInt = 10 := rfl
  have n_26 : (26 : Int32).toInt = 26 := rfl
  have n_40 : (40 : Int32).toInt = 40 := rfl
  have n_60 : (60 : Int32).toInt = 60 := rfl
  have n_61 : (61 : Int32).toInt = 61 := rfl
  have n_62 : (62 : Int32).toInt = 62 := rfl
  have btat := ty_fi (x := tat) (k := 7) etat hT ga0 rg_78 rfl
  have bfa := ty_fi (x := fa) (k := 1) efa hT ga0 rg_78 rfl
  have bsc := ty_fi (x := sc) (k := 9) esc hT gmq rg_69 rfl
  have blw := ty_fi (x := lw) (k := 8) elw hT ga0 rg_78 rfl
  have bli := ty_fi (x := li) (k := 0) eli hT gmq rg_69 rfl
  have hsp0 : paS kk vv lw.toInt (8 - x1.toNatClampNeg) tat.toNatClampNeg = paS kk vv lw.toInt (8 - x1.toNatClampNeg) tat.toNatClampNeg := rfl
  have hsf0 : paF kk vv lw.toInt (8 - x1.toNatClampNeg) tat.toNatClampNeg = paF kk vv lw.toInt (8 - x1.toNatClampNeg) tat.toNatClampNeg := rfl
  have f0_kk := hv_kk
  have f0_vv := hv_vv
  have f0_rt : RFT K s.heap s.heap mq := RFT.rf
  have f0_cs : CSP lw.toInt (fun j => fI s.heap sq j) (fun j => fI s.heap sq j) sc.toNatClampNeg (sc.toNatClampNeg) 16 ([]) := CSP.nil
  refine lv_aload_n hx hb dX4_part_0 rfl (lv_at hl 0 rfl) ?_
  refine x_gr C hT (ci := 4) (k := 3) rfl inX4 (by decide) wF_X4_18 ga0 rg_78 rfl dX4_part_1 (fun q1405 eq1405 gq1405 => ?_)
  have uq1405 : kq = q1405 := (ekq).trans eq1405.symm
  subst uq1405
  refine lv_aload_n hx hb dX4_part_4 rfl (lv_at hl 0 rfl) ?_
  refine x_gi C hT (ci := 4) (k := 7) rfl inX4 (by decide) wF_X4_42 ga0 rg_78 rfl dX4_part_5 (fun x1406 ex1406 bx1406 => ?_)
  have ux1406 : tat = x1406 := (etat).trans ex1406.symm
  subst ux1406
  refine x_ai C hT gkq rg_79 ⟨by omega, by show _ < ((501 : Nat) : Int); omega⟩ dX4_part_8 (fun x1407 ex1407 bx1407 => ?_)
  have dx1407 := el_hit ex1407 hel0
  have qvx1407 : kk tat.toNatClampNeg = x1407.toInt := (f0_kk _ (by have h1 := i_cl (x := tat) (by omega); have h2 := i_cl (x := F) (by omega); omega)).trans (congrArg Int32.toInt ex1407.symm)
  refine lv_istore_n (lv' := [(2, .int x1407), (0, .ref a0), (1, .int x1)]) hx hb dX4_part_9 rfl hl (by decide) rfl (fun ls1408 hl1409 => ?_)
  refine lv_iload_n hx hb dX4_part_10 rfl (lv_at hl1409 0 rfl) ?_
  refine lv_bipush (v := 10) hx hb dX4_part_11 (by decide) ?_
  refine lv_icmp_eq (tgt := 22) hx hb dX4_part_13 (by decide) (fun c1410 => ?_) (fun c1410 => ?_)
  · have k1411 := i_eq c1410
    refine lv_iload_n hx hb dX4_part_22 rfl (lv_at hl1409 2 rfl) ?_
    refine lv_bipush (v := 8) hx hb dX4_part_23 (by decide) ?_
    refine lv_icmp_ge (tgt := 39) hx hb dX4_part_25 (by decide) (fun c1412 => ?_) (fun c1412 => ?_)
    · have k1413 := i_le c1412
      refine lv_aload_n hx hb dX4_part_39 rfl (lv_at hl1409 1 rfl) ?_
      refine lv_iconst (v := 3) hx hb dX4_part_40 (by decide) ?_
      refine x_V (As := [.int 3]) (rest := []) C (a_X4_refuse_e l K G s.heap (3) (tat) (fa) (lw) hT ga0 gmq emq gkq ekq gvq evq etat efa elw) yo_X4_refuse wM_X4_81 ⟨⟨by decide, by decide⟩, by decide, by decide⟩ (x_rv C hT (ci := 4) rfl ga0 rg_78) rfl hl1409.1 rfl (Nat.le_of_ble_eq_true rfl) dX4_part_41 hS (AE_sub (fun _ _ => rfl) (by decide) hS.1) (fun vH1414 H1414 locsH1414 pH1414 zH1414 kH1414 hSH1414 => ?_)
      obtain ⟨x1415, x1416, x1417, hvH1414, bx1415, ex1416, ex1417, hrH1414, m1418, m1419, m1420, m1421, hTH1414⟩ := pH1414
      subst hvH1414
      have f1422 : ∀ j : Nat, j ≤ F.toNatClampNeg → kk j = (fI H1414 kq j).toInt := fun j hj => (f0_kk j hj).trans (congrArg Int32.toInt (fI_kept (x_lt hT kH1414 gkq (by decide))).symm)
      have f1423 : ∀ j : Nat, j ≤ F.toNatClampNeg → vv j = (fI H1414 vq j).toInt := fun j hj => (f0_vv j hj).trans (congrArg Int32.toInt (fI_kept (x_lt hT kH1414 gvq (by decide))).symm)
      have f1424 : RFT K H1414 s.heap mq := RFT.st f0_rt (fun k h1 h8 => fR_kept (x_lt hT kH1414 gmq (by decide)))
      have f1425 : CSP lw.toInt (fun j => fI H1414 sq j) (fun j => fI s.heap sq j) sc.toNatClampNeg (sc.toNatClampNeg) 16 ([]) := CSP.kept f0_cs (fun j => fI_kept (x_lt hT kH1414 gsq (by decide)))
      have m1426 := (esq).trans (fR_kept (x_lt hT kH1414 gmq (by decide))).symm
      have m1427 := (esc).trans (fI_kept (x_lt hT kH1414 gmq (by decide))).symm
      have m1428 := (eli).trans (fI_kept (x_lt hT kH1414 gmq (by decide))).symm
      have m1429 := (fI_kept (x_lt hT kH1414 gkq (by decide))).trans hel0
      have m1430 := (ex1407).trans (fI_kept (x_lt hT kH1414 gkq (by decide))).symm
      have bx1416 := ty_fi (x := x1416) (k := 7) ex1416 hTH1414 ga0 rg_78 rfl
      have bx1417 := ty_fi (x := x1417) (k := 1) ex1417 hTH1414 ga0 rg_78 rfl
      refine W.eq (g2 := F0 m 44 ls1408 [.int x1415]) rfl ?_
      have cn_F := i_cl (x := F) (by omega)
      have cn_tat := i_cl (x := tat) (by omega)
      have cn_x1 := i_cl (x := x1) (by omega)
      have cn_F := i_cl (x := F) (by omega)
      have cn_tat := i_cl (x := tat) (by omega)
      have cn_x1 := i_cl (x := x1) (by omega)
      exact x_zret C hQ (i_01 (by omega)) dX4_part_44 hSH1414 (by decide) (by decide) (⟨x1415, x1416, x1417, sc, rfl, by omega, ex1416, ex1417, m1427, by omega, m1418, m1419, m1420, m1426, m1421, m1428, Or.inl ⟨pa_deep (by omega) (by rw [qvx1407]; omega), by omega⟩, (Or.inl (by omega)), f1424, hTH1414⟩)
    · have k1413 := i_nle c1412
      refine lv_aload_n hx hb dX4_part_28 rfl (lv_at hl1409 1 rfl) ?_
      refine lv_iload_n hx hb dX4_part_29 rfl (lv_at hl1409 0 rfl) ?_
      refine lv_iload_n hx hb dX4_part_30 rfl (lv_at hl1409 2 rfl) ?_
      refine lv_iconst (v := 1) hx hb dX4_part_31 (by decide) ?_
      refine lv_iadd hx hb dX4_part_32 ?_
      refine lv_topi (fun x1431 ex1431 => ?_)
      have tx1431 := i_add ex1431 (by omega)
      refine x_V (As := [.int x1407, .int x1431]) (rest := []) C (a_X4_opened_g3 l K G s.heap (x1407) (x1431) (F) (tat) (fa) (sc) (lw) (li) kk vv hT ga0 (by omega) gmq emq gkq ekq gvq evq gsq esq etat efa esc elw eli hel0 (by omega) (by omega) (by omega) (by omega) (hy0) f0_kk f0_vv) yo_X4_opened wM_X4_138 ⟨⟨by decide, by decide⟩, by decide, by decide⟩ (x_rv C hT (ci := 4) rfl ga0 rg_78) rfl hl1409.1 rfl (Nat.le_of_ble_eq_true rfl) dX4_part_33 hS (AE_sub (fun _ _ => rfl) (by decide) hS.1) (fun vH1432 H1432 locsH1432 pH1432 zH1432 kH1432 hSH1432 => ?_)
      obtain ⟨x1433, x1434, x1435, x1436, hvH1432, bx1433, ex1434, ex1435, ex1436, hrH1432, m1437, m1438, m1439, m1440, m1441, m1442, m1443, m1444, m1445, hTH1432⟩ := pH1432
      subst hvH1432
      have f1446 : ∀ j : Nat, j ≤ F.toNatClampNeg → kk j = (fI H1432 kq j).toInt := fun j hj => (f0_kk j hj).trans (congrArg Int32.toInt (fI_kept (x_lt hT kH1432 gkq (by decide))).symm)
      have f1447 : ∀ j : Nat, j ≤ F.toNatClampNeg → vv j = (fI H1432 vq j).toInt := fun j hj => (f0_vv j hj).trans (congrArg Int32.toInt (fI_kept (x_lt hT kH1432 gvq (by decide))).symm)
      have m1448 := (fI_kept (x_lt hT kH1432 gkq (by decide))).trans hel0
      have m1449 := (ex1407).trans (fI_kept (x_lt hT kH1432 gkq (by decide))).symm
      have bx1434 := ty_fi (x := x1434) (k := 7) ex1434 hTH1432 ga0 rg_78 rfl
      have bx1435 := ty_fi (x := x1435) (k := 1) ex1435 hTH1432 ga0 rg_78 rfl
      have bx1436 := ty_fi (x := x1436) (k := 9) ex1436 hTH1432 gmq rg_69 rfl
      have f1450 : RFT K H1432 s.heap mq := RFT.st f0_rt m1445
      refine W.eq (g2 := F0 m 36 ls1408 [.int x1433]) rfl ?_
      refine lv_goto (tgt := 44) hx hb dX4_part_36 (by decide) ?_
      have cn_F := i_cl (x := F) (by omega)
      have cn_tat := i_cl (x := tat) (by omega)
      have cn_x1 := i_cl (x := x1) (by omega)
      have cn_x1431 := i_cl (x := x1431) (by omega)
      have cn_F := i_cl (x := F) (by omega)
      have cn_tat := i_cl (x := tat) (by omega)
      have cn_x1 := i_cl (x := x1) (by omega)
      have cn_x1431 := i_cl (x := x1431) (by omega)
      have cn_sc := i_cl (x := sc) (by omega)
      have cn_sc := i_cl (x := sc) (by omega)
      have cn_x1436 := i_cl (x := x1436) (by omega)
      exact x_zret C hQ (i_01 (by omega)) dX4_part_44 hSH1432 (by decide) (by decide) (⟨x1433, x1434, x1435, x1436, rfl, by omega, ex1434, ex1435, ex1436, by omega, m1437, m1438, m1439, m1440, m1441, m1442, RQ.tr m1443 (pa_op (by omega) (qvx1407).symm (by rw [qvx1407]; omega)), (m1444.imp id (fun z => CSP.cast (CSP.call f0_cs z (by omega) (Nat.le_refl _) (Nat.le_of_ble_eq_true rfl)) rfl rfl (Nat.le_refl _) (congrArg (fun z => [z]) (paF_op (by omega) (qvx1407).symm (by rw [qvx1407]; omega))))), f1450, hTH1432⟩)
  · have k1411 := i_ne c1410
    refine lv_iload_n hx hb dX4_part_16 rfl (lv_at hl1409 0 rfl) ?_
    refine lv_bipush (v := 40) hx hb dX4_part_17 (by decide) ?_
    refine lv_icmp_ne (tgt := 45) hx hb dX4_part_19 (by decide) (fun c1451 => ?_) (fun c1451 => ?_)
    · have k1452 := i_ne c1451
      refine lv_aload_n hx hb dX4_part_45 rfl (lv_at hl1409 1 rfl) ?_
      refine x_V (As := []) (rest := []) C (a_X4_sum_g l K G s.heap (F) (tat) (fa) (sc) (lw) (li) kk vv hT ga0 gmq emq gkq ekq gvq evq gsq esq etat efa esc elw eli hel0 (by omega) (by omega) (by omega) (hy0) f0_kk f0_vv) yo_X4_sum wM_X4_103 ⟨⟨by decide, by decide⟩, by decide, by decide⟩ (x_rv C hT (ci := 4) rfl ga0 rg_78) rfl hl1409.1 rfl (Nat.le_of_ble_eq_true rfl) dX4_part_46 hS (AE_sub (fun _ _ => rfl) (by decide) hS.1) (fun vH1453 H1453 locsH1453 pH1453 zH1453 kH1453 hSH1453 => ?_)
      obtain ⟨x1454, x1455, x1456, x1457, hvH1453, bx1454, ex1455, ex1456, ex1457, hrH1453, m1458, m1459, m1460, m1461, m1462, m1463, m1464, m1465, m1466, hTH1453⟩ := pH1453
      subst hvH1453
      have f1467 : ∀ j : Nat, j ≤ F.toNatClampNeg → kk j = (fI H1453 kq j).toInt := fun j hj => (f0_kk j hj).trans (congrArg Int32.toInt (fI_kept (x_lt hT kH1453 gkq (by decide))).symm)
      have f1468 : ∀ j : Nat, j ≤ F.toNatClampNeg → vv j = (fI H1453 vq j).toInt := fun j hj => (f0_vv j hj).trans (congrArg Int32.toInt (fI_kept (x_lt hT kH1453 gvq (by decide))).symm)
      have m1469 := (fI_kept (x_lt hT kH1453 gkq (by decide))).trans hel0
      have m1470 := (ex1407).trans (fI_kept (x_lt hT kH1453 gkq (by decide))).symm
      have bx1455 := ty_fi (x := x1455) (k := 7) ex1455 hTH1453 ga0 rg_78 rfl
      have bx1456 := ty_fi (x := x1456) (k := 1) ex1456 hTH1453 ga0 rg_78 rfl
      have bx1457 := ty_fi (x := x1457) (k := 9) ex1457 hTH1453 gmq rg_69 rfl
      have f1471 : RFT K H1453 s.heap mq := RFT.st f0_rt m1466
      refine W.eq (g2 := F0 m 49 ls1408 [.int x1454]) rfl ?_
      refine lv_if_ne (tgt := 54) hx hb dX4_part_49 (by decide) (fun c1472 => ?_) (fun c1472 => ?_)
      · have k1473 := i_ne c1472
        have cn_sc := i_cl (x := sc) (by omega)
        have cn_sc := i_cl (x := sc) (by omega)
        have cn_x1457 := i_cl (x := x1457) (by omega)
        have cs1474 : CSP lw.toInt (fun j => fI H1453 sq j) (fun j => fI s.heap sq j) sc.toNatClampNeg (x1457.toNatClampNeg) 16 ([(smG kk vv lw.toInt tat.toNatClampNeg)]) := CSP.call f0_cs (m1465.resolve_left (by omega)) (by omega) (Nat.le_refl _) (Nat.le_of_ble_eq_true rfl)
        refine lv_aload_n hx hb dX4_part_54 rfl (lv_at hl1409 1 rfl) ?_
        refine x_gr C hTH1453 (ci := 4) (k := 3) rfl inX4 (by decide) wF_X4_18 ga0 rg_78 rfl dX4_part_55 (fun q1475 eq1475 gq1475 => ?_)
        have uq1475 : kq = q1475 := (m1459).trans eq1475.symm
        subst uq1475
        refine lv_aload_n hx hb dX4_part_58 rfl (lv_at hl1409 1 rfl) ?_
        refine x_gi C hTH1453 (ci := 4) (k := 7) rfl inX4 (by decide) wF_X4_42 ga0 rg_78 rfl dX4_part_59 (fun x1476 ex1476 bx1476 => ?_)
        have ux1476 : x1455 = x1476 := (ex1455).trans ex1476.symm
        subst ux1476
        refine x_ai C hTH1453 gkq rg_79 ⟨by omega, by show _ < ((501 : Nat) : Int); omega⟩ dX4_part_62 (fun x1477 ex1477 bx1477 => ?_)
        have dx1477 := el_hit ex1477 m1469
        have qvx1477 : kk x1455.toNatClampNeg = x1477.toInt := (f1467 _ (by have h1 := i_cl (x := x1455) (by omega); have h2 := i_cl (x := F) (by omega); omega)).trans (congrArg Int32.toInt ex1477.symm)
        refine lv_istore_n (lv' := [(3, .int x1477), (2, .int x1407), (0, .ref a0), (1, .int x1)]) hx hb dX4_part_63 rfl hl1409 (by decide) rfl (fun ls1478 hl1479 => ?_)
        refine lv_iload_n hx hb dX4_part_64 rfl (lv_at hl1479 0 rfl) ?_
        refine lv_bipush (v := 60) hx hb dX4_part_65 (by decide) ?_
        refine lv_icmp_eq (tgt := 88) hx hb dX4_part_67 (by decide) (fun c1480 => ?_) (fun c1480 => ?_)
        · have k1481 := i_eq c1480
          refine lv_aload_n hx hb dX4_part_88 rfl (lv_at hl1479 2 rfl) ?_
          refine lv_dup hx hb dX4_part_89 rfl ?_
          refine x_gi C hTH1453 (ci := 4) (k := 7) rfl inX4 (by decide) wF_X4_42 ga0 rg_78 rfl dX4_part_90 (fun x1482 ex1482 bx1482 => ?_)
          have ux1482 : x1455 = x1482 := (ex1455).trans ex1482.symm
          subst ux1482
          refine lv_iconst (v := 1) hx hb dX4_part_93 (by decide) ?_
          refine lv_iadd hx hb dX4_part_94 ?_
          refine lv_topi (fun x1483 ex1483 => ?_)
          have tx1483 := i_add ex1483 (by omega)
          have fz1485 : 0 ≤ x1483.toInt ∧ x1483.toInt ≤ 500 := by have := i_rng x1483; omega
          refine x_put C hTH1453 hSH1453 (ci := 4) (k := 7) (v := .int x1483) (ty0 := tyX4) rfl inX4 tyX4_ok nmX4 (by decide) rfl wF_X4_42 ga0 rg_78 rfl rfl (okI (by have := i_rng x1483; omega) (by have := i_rng x1483; omega)) rfl rfl (AE_in ga0 (by decide)) dX4_part_95 (fun H1484 locsH1484 hTH1484 hSH1484 wH1484 => ?_)
          have f1486 : ∀ j : Nat, j ≤ F.toNatClampNeg → kk j = (fI H1484 kq j).toInt := fun j hj => (f1467 j hj).trans (congrArg Int32.toInt (Wr.neI wH1484 (Or.inl (G_ne gkq ga0 (by decide)))).symm)
          have f1487 : ∀ j : Nat, j ≤ F.toNatClampNeg → vv j = (fI H1484 vq j).toInt := fun j hj => (f1468 j hj).trans (congrArg Int32.toInt (Wr.neI wH1484 (Or.inl (G_ne gvq ga0 (by decide)))).symm)
          have f1488 : RFT K H1484 s.heap mq := RFT.st f1471 (fun k h1 h8 => fR_kept (wH1484.off (G_ne gmq ga0 (by decide))))
          have f1489 : CSP lw.toInt (fun j => fI H1484 sq j) (fun j => fI s.heap sq j) sc.toNatClampNeg (x1457.toNatClampNeg) 16 ([(smG kk vv lw.toInt tat.toNatClampNeg)]) := CSP.kept cs1474 (fun j => fI_kept (wH1484.off (G_ne gsq ga0 (by decide))))
          have m1490 := (Wr.neI wH1484 (Or.inl (G_ne gkq ga0 (by decide)))).trans m1469
          have m1491 := m1470.trans (Wr.neI wH1484 (Or.inl (G_ne gkq ga0 (by decide)))).symm
          have m1492 := m1458.trans (Wr.neR wH1484 (Or.inr (x_apart hKT hts inX4 tyX4 tyX4_ok nmX4 rfl 0 7 (by decide) (by decide) (by decide)))).symm
          have m1493 := m1459.trans (Wr.neR wH1484 (Or.inr (x_apart hKT hts inX4 tyX4 tyX4_ok nmX4 rfl 3 7 (by decide) (by decide) (by decide)))).symm
          have m1494 := m1460.trans (Wr.neR wH1484 (Or.inr (x_apart hKT hts inX4 tyX4 tyX4_ok nmX4 rfl 4 7 (by decide) (by decide) (by decide)))).symm
          have m1495 := m1461.trans (Wr.neR wH1484 (Or.inl (G_ne gmq ga0 (by decide)))).symm
          have m1496 := m1462.trans (Wr.neI wH1484 (Or.inr (x_apart hKT hts inX4 tyX4 tyX4_ok nmX4 rfl 8 7 (by decide) (by decide) (by decide)))).symm
          have m1497 := m1463.trans (Wr.neI wH1484 (Or.inl (G_ne gmq ga0 (by decide)))).symm
          have m1499 := ex1456.trans (Wr.neI wH1484 (Or.inr (x_apart hKT hts inX4 tyX4 tyX4_ok nmX4 rfl 1 7 (by decide) (by decide) (by decide)))).symm
          have m1500 := ex1457.trans (Wr.neI wH1484 (Or.inl (G_ne gmq ga0 (by decide)))).symm
          have m1501 := ex1477.trans (Wr.neI wH1484 (Or.inl (G_ne gkq ga0 (by decide)))).symm
          have m1502 := Wr.I wH1484
          have m1502 := m1502.symm
          refine lv_aload_n hx hb dX4_part_98 rfl (lv_at hl1479 2 rfl) ?_
          refine x_V (As := []) (rest := []) C (a_X4_sum_g l K G H1484 (F) (x1483) (x1456) (x1457) (lw) (li) kk vv hTH1484 ga0 gmq m1492 gkq m1493 gvq m1494 gsq m1495 m1502 m1499 m1500 m1496 m1497 m1490 (by omega) (by omega) (by omega) (hy0) f1486 f1487) yo_X4_sum wM_X4_103 ⟨⟨by decide, by decide⟩, by decide, by decide⟩ (x_rv C hTH1484 (ci := 4) rfl ga0 rg_78) rfl hl1479.1 rfl (Nat.le_of_ble_eq_true rfl) dX4_part_99 hSH1484 (AE_sub (fun _ _ => rfl) (by decide) hSH1484.1) (fun vH1503 H1503 locsH1503 pH1503 zH1503 kH1503 hSH1503 => ?_)
          obtain ⟨x1504, x1505, x1506, x1507, hvH1503, bx1504, ex1505, ex1506, ex1507, hrH1503, m1508, m1509, m1510, m1511, m1512, m1513, m1514, m1515, m1516, hTH1503⟩ := pH1503
          subst hvH1503
          have f1517 : ∀ j : Nat, j ≤ F.toNatClampNeg → kk j = (fI H1503 kq j).toInt := fun j hj => (f1486 j hj).trans (congrArg Int32.toInt (fI_kept (x_lt hTH1484 kH1503 gkq (by decide))).symm)
          have f1518 : ∀ j : Nat, j ≤ F.toNatClampNeg → vv j = (fI H1503 vq j).toInt := fun j hj => (f1487 j hj).trans (congrArg Int32.toInt (fI_kept (x_lt hTH1484 kH1503 gvq (by decide))).symm)
          have m1519 := (fI_kept (x_lt hTH1484 kH1503 gkq (by decide))).trans m1490
          have m1520 := (m1491).trans (fI_kept (x_lt hTH1484 kH1503 gkq (by decide))).symm
          have m1521 := (m1501).trans (fI_kept (x_lt hTH1484 kH1503 gkq (by decide))).symm
          have bx1505 := ty_fi (x := x1505) (k := 7) ex1505 hTH1503 ga0 rg_78 rfl
          have bx1506 := ty_fi (x := x1506) (k := 1) ex1506 hTH1503 ga0 rg_78 rfl
          have bx1507 := ty_fi (x := x1507) (k := 9) ex1507 hTH1503 gmq rg_69 rfl
          have f1522 : RFT K H1503 s.heap mq := RFT.st f1488 m1516
          refine W.eq (g2 := F0 m 102 ls1478 [.int x1504]) rfl ?_
          refine lv_if_ne (tgt := 107) hx hb dX4_part_102 (by decide) (fun c1523 => ?_) (fun c1523 => ?_)
          · have k1524 := i_ne c1523
            have cn_x1457 := i_cl (x := x1457) (by omega)
            have cn_x1457 := i_cl (x := x1457) (by omega)
            have cn_x1507 := i_cl (x := x1507) (by omega)
            have cs1525 : CSP lw.toInt (fun j => fI H1503 sq j) (fun j => fI s.heap sq j) sc.toNatClampNeg (x1507.toNatClampNeg) 16 ([(smG kk vv lw.toInt x1483.toNatClampNeg), (smG kk vv lw.toInt tat.toNatClampNeg)]) := CSP.call f1489 (m1515.resolve_left (by omega)) (by omega) (Nat.le_refl _) (Nat.le_of_ble_eq_true rfl)
            refine lv_aload_n hx hb dX4_part_107 rfl (lv_at hl1479 2 rfl) ?_
            refine x_gr C hTH1503 (ci := 4) (k := 0) rfl inX4 (by decide) wF_X4_12 ga0 rg_78 rfl dX4_part_108 (fun q1526 eq1526 gq1526 => ?_)
            have uq1526 : mq = q1526 := (m1508).trans eq1526.symm
            subst uq1526
            refine lv_iload_n hx hb dX4_part_111 rfl (lv_at hl1479 0 rfl) ?_
            refine lv_iconst (v := 0) hx hb dX4_part_112 (by decide) ?_
            refine x_V (As := [.int x1477, .int 0]) (rest := []) C (a_X7_addStep_g l K G H1503 (x1477) (0) (x1507) (li) hTH1503 gmq (by omega) (by decide) gsq m1511 ex1507 m1513 (by omega)) yo_X7_addStep wM_X4_131 ⟨⟨by decide, by decide⟩, by decide, by decide⟩ (x_rv C hTH1503 (ci := 7) rfl gmq rg_69) rfl hl1479.1 rfl (Nat.le_of_ble_eq_true rfl) dX4_part_113 hSH1503 (AE_sub (fun _ _ => rfl) (by decide) hSH1503.1) (fun vH1527 H1527 locsH1527 pH1527 zH1527 kH1527 hSH1527 => ?_)
            obtain ⟨x1528, hvH1527, ex1528, hrH1527, m1529, m1530, m1531, m1532, m1533, hTH1527⟩ := pH1527
            subst hvH1527
            have f1534 : ∀ j : Nat, j ≤ F.toNatClampNeg → kk j = (fI H1527 kq j).toInt := fun j hj => (f1517 j hj).trans (congrArg Int32.toInt (fI_kept (x_lt hTH1503 kH1527 gkq (by decide))).symm)
            have f1535 : ∀ j : Nat, j ≤ F.toNatClampNeg → vv j = (fI H1527 vq j).toInt := fun j hj => (f1518 j hj).trans (congrArg Int32.toInt (fI_kept (x_lt hTH1503 kH1527 gvq (by decide))).symm)
            have m1536 := (fI_kept (x_lt hTH1503 kH1527 gkq (by decide))).trans m1519
            have m1537 := (m1520).trans (fI_kept (x_lt hTH1503 kH1527 gkq (by decide))).symm
            have m1538 := (m1521).trans (fI_kept (x_lt hTH1503 kH1527 gkq (by decide))).symm
            have m1539 := (m1508).trans (fR_kept (x_lt hTH1503 kH1527 ga0 (by decide))).symm
            have m1540 := (m1509).trans (fR_kept (x_lt hTH1503 kH1527 ga0 (by decide))).symm
            have m1541 := (m1510).trans (fR_kept (x_lt hTH1503 kH1527 ga0 (by decide))).symm
            have m1542 := (m1512).trans (fI_kept (x_lt hTH1503 kH1527 ga0 (by decide))).symm
            have m1543 := (ex1505).trans (fI_kept (x_lt hTH1503 kH1527 ga0 (by decide))).symm
            have m1544 := (ex1506).trans (fI_kept (x_lt hTH1503 kH1527 ga0 (by decide))).symm
            have bx1528 := ty_fi (x := x1528) (k := 9) ex1528 hTH1527 gmq rg_69 rfl
            have cn_x1507 := i_cl (x := x1507) (by omega)
            have cn_x1507 := i_cl (x := x1507) (by omega)
            have cn_x1528 := i_cl (x := x1528) (by omega)
            have cs1545 : CSP lw.toInt (fun j => fI H1527 sq j) (fun j => fI s.heap sq j) sc.toNatClampNeg (x1528.toNatClampNeg) 16 ([cbF x1477.toInt (smG kk vv lw.toInt tat.toNatClampNeg) (smG kk vv lw.toInt x1483.toNatClampNeg)]) := CSP.bin (s := x1477.toInt) cs1525 m1531 (Eq.trans m1532 (by omega)) (by omega) (by omega) (by omega)
            have f1546 : RFT K H1527 s.heap mq := RFT.st f1522 m1533
            refine W.eq (g2 := F0 m 116 ls1478 []) rfl ?_
            refine lv_iconst (v := 1) hx hb dX4_part_116 (by decide) ?_
            have cn_F := i_cl (x := F) (by omega)
            have cn_tat := i_cl (x := tat) (by omega)
            have cn_x1 := i_cl (x := x1) (by omega)
            have cn_x1483 := i_cl (x := x1483) (by omega)
            have cn_x1455 := i_cl (x := x1455) (by omega)
            have cn_F := i_cl (x := F) (by omega)
            have cn_tat := i_cl (x := tat) (by omega)
            have cn_x1 := i_cl (x := x1) (by omega)
            have cn_x1528 := i_cl (x := x1528) (by omega)
            have cn_x1528 := i_cl (x := x1528) (by omega)
            have cn_x1483 := i_cl (x := x1483) (by omega)
            have cn_x1455 := i_cl (x := x1455) (by omega)
            exact x_zret C hQ (Or.inr rfl) dX4_part_117 hSH1527 (by decide) (by decide) (⟨1, x1505, x1506, x1528, rfl, by decide, m1543, m1544, ex1528, by omega, m1539, m1540, m1541, m1529, m1542, m1530, Or.inr ⟨(pa_cp (by rw [qvx1407]; omega)).trans ((cp_go (RQ.yes m1464 (by omega)) (by rw [qvx1477]; omega) (show x1483.toNatClampNeg = _ + 1 by omega)).trans (RQ.yes m1514 (by omega))), by omega⟩, Or.inr (CSP.cast cs1545 rfl (by omega) (Nat.le_refl _) (congrArg (fun z => [z]) ((paF_cp (by rw [qvx1407]; omega)).trans (cpF_at (RQ.yes m1464 (by omega)) qvx1477 (by omega) (show x1483.toNatClampNeg = _ + 1 by omega))))), f1546, hTH1527⟩)
          · have k1524 := i_eq c1523
            refine lv_iconst (v := 0) hx hb dX4_part_105 (by decide) ?_
            have cn_F := i_cl (x := F) (by omega)
            have cn_tat := i_cl (x := tat) (by omega)
            have cn_x1 := i_cl (x := x1) (by omega)
            have cn_x1483 := i_cl (x := x1483) (by omega)
            have cn_x1455 := i_cl (x := x1455) (by omega)
            have cn_F := i_cl (x := F) (by omega)
            have cn_tat := i_cl (x := tat) (by omega)
            have cn_x1 := i_cl (x := x1) (by omega)
            exact x_zret C hQ (Or.inl rfl) dX4_part_106 hSH1503 (by decide) (by decide) (⟨0, x1505, x1506, x1507, rfl, by decide, ex1505, ex1506, ex1507, by omega, m1508, m1509, m1510, m1511, m1512, m1513, Or.inl ⟨(pa_cp (by rw [qvx1407]; omega)).trans ((cp_go (RQ.yes m1464 (by omega)) (by rw [qvx1477]; omega) (show x1483.toNatClampNeg = _ + 1 by omega)).trans (RQ.no m1514 (by omega))), by omega⟩, (Or.inl (by omega)), f1522, hTH1503⟩)
        · have k1481 := i_ne c1480
          refine lv_iload_n hx hb dX4_part_70 rfl (lv_at hl1479 0 rfl) ?_
          refine lv_bipush (v := 61) hx hb dX4_part_71 (by decide) ?_
          refine lv_icmp_eq (tgt := 88) hx hb dX4_part_73 (by decide) (fun c1547 => ?_) (fun c1547 => ?_)
          · have k1548 := i_eq c1547
            refine lv_aload_n hx hb dX4_part_88 rfl (lv_at hl1479 2 rfl) ?_
            refine lv_dup hx hb dX4_part_89 rfl ?_
            refine x_gi C hTH1453 (ci := 4) (k := 7) rfl inX4 (by decide) wF_X4_42 ga0 rg_78 rfl dX4_part_90 (fun x1549 ex1549 bx1549 => ?_)
            have ux1549 : x1455 = x1549 := (ex1455).trans ex1549.symm
            subst ux1549
            refine lv_iconst (v := 1) hx hb dX4_part_93 (by decide) ?_
            refine lv_iadd hx hb dX4_part_94 ?_
            refine lv_topi (fun x1550 ex1550 => ?_)
            have tx1550 := i_add ex1550 (by omega)
            have fz1552 : 0 ≤ x1550.toInt ∧ x1550.toInt ≤ 500 := by have := i_rng x1550; omega
            refine x_put C hTH1453 hSH1453 (ci := 4) (k := 7) (v := .int x1550) (ty0 := tyX4) rfl inX4 tyX4_ok nmX4 (by decide) rfl wF_X4_42 ga0 rg_78 rfl rfl (okI (by have := i_rng x1550; omega) (by have := i_rng x1550; omega)) rfl rfl (AE_in ga0 (by decide)) dX4_part_95 (fun H1551 locsH1551 hTH1551 hSH1551 wH1551 => ?_)
            have f1553 : ∀ j : Nat, j ≤ F.toNatClampNeg → kk j = (fI H1551 kq j).toInt := fun j hj => (f1467 j hj).trans (congrArg Int32.toInt (Wr.neI wH1551 (Or.inl (G_ne gkq ga0 (by decide)))).symm)
            have f1554 : ∀ j : Nat, j ≤ F.toNatClampNeg → vv j = (fI H1551 vq j).toInt := fun j hj => (f1468 j hj).trans (congrArg Int32.toInt (Wr.neI wH1551 (Or.inl (G_ne gvq ga0 (by decide)))).symm)
            have f1555 : RFT K H1551 s.heap mq := RFT.st f1471 (fun k h1 h8 => fR_kept (wH1551.off (G_ne gmq ga0 (by decide))))
            have f1556 : CSP lw.toInt (fun j => fI H1551 sq j) (fun j => fI s.heap sq j) sc.toNatClampNeg (x1457.toNatClampNeg) 16 ([(smG kk vv lw.toInt tat.toNatClampNeg)]) := CSP.kept cs1474 (fun j => fI_kept (wH1551.off (G_ne gsq ga0 (by decide))))
            have m1557 := (Wr.neI wH1551 (Or.inl (G_ne gkq ga0 (by decide)))).trans m1469
            have m1558 := m1470.trans (Wr.neI wH1551 (Or.inl (G_ne gkq ga0 (by decide)))).symm
            have m1559 := m1458.trans (Wr.neR wH1551 (Or.inr (x_apart hKT hts inX4 tyX4 tyX4_ok nmX4 rfl 0 7 (by decide) (by decide) (by decide)))).symm
            have m1560 := m1459.trans (Wr.neR wH1551 (Or.inr (x_apart hKT hts inX4 tyX4 tyX4_ok nmX4 rfl 3 7 (by decide) (by decide) (by decide)))).symm
            have m1561 := m1460.trans (Wr.neR wH1551 (Or.inr (x_apart hKT hts inX4 tyX4 tyX4_ok nmX4 rfl 4 7 (by decide) (by decide) (by decide)))).symm
            have m1562 := m1461.trans (Wr.neR wH1551 (Or.inl (G_ne gmq ga0 (by decide)))).symm
            have m1563 := m1462.trans (Wr.neI wH1551 (Or.inr (x_apart hKT hts inX4 tyX4 tyX4_ok nmX4 rfl 8 7 (by decide) (by decide) (by decide)))).symm
            have m1564 := m1463.trans (Wr.neI wH1551 (Or.inl (G_ne gmq ga0 (by decide)))).symm
            have m1566 := ex1456.trans (Wr.neI wH1551 (Or.inr (x_apart hKT hts inX4 tyX4 tyX4_ok nmX4 rfl 1 7 (by decide) (by decide) (by decide)))).symm
            have m1567 := ex1457.trans (Wr.neI wH1551 (Or.inl (G_ne gmq ga0 (by decide)))).symm
            have m1568 := ex1477.trans (Wr.neI wH1551 (Or.inl (G_ne gkq ga0 (by decide)))).symm
            have m1569 := Wr.I wH1551
            have m1569 := m1569.symm
            refine lv_aload_n hx hb dX4_part_98 rfl (lv_at hl1479 2 rfl) ?_
            refine x_V (As := []) (rest := []) C (a_X4_sum_g l K G H1551 (F) (x1550) (x1456) (x1457) (lw) (li) kk vv hTH1551 ga0 gmq m1559 gkq m1560 gvq m1561 gsq m1562 m1569 m1566 m1567 m1563 m1564 m1557 (by omega) (by omega) (by omega) (hy0) f1553 f1554) yo_X4_sum wM_X4_103 ⟨⟨by decide, by decide⟩, by decide, by decide⟩ (x_rv C hTH1551 (ci := 4) rfl ga0 rg_78) rfl hl1479.1 rfl (Nat.le_of_ble_eq_true rfl) dX4_part_99 hSH1551 (AE_sub (fun _ _ => rfl) (by decide) hSH1551.1) (fun vH1570 H1570 locsH1570 pH1570 zH1570 kH1570 hSH1570 => ?_)
            obtain ⟨x1571, x1572, x1573, x1574, hvH1570, bx1571, ex1572, ex1573, ex1574, hrH1570, m1575, m1576, m1577, m1578, m1579, m1580, m1581, m1582, m1583, hTH1570⟩ := pH1570
            subst hvH1570
            have f1584 : ∀ j : Nat, j ≤ F.toNatClampNeg → kk j = (fI H1570 kq j).toInt := fun j hj => (f1553 j hj).trans (congrArg Int32.toInt (fI_kept (x_lt hTH1551 kH1570 gkq (by decide))).symm)
            have f1585 : ∀ j : Nat, j ≤ F.toNatClampNeg → vv j = (fI H1570 vq j).toInt := fun j hj => (f1554 j hj).trans (congrArg Int32.toInt (fI_kept (x_lt hTH1551 kH1570 gvq (by decide))).symm)
            have m1586 := (fI_kept (x_lt hTH1551 kH1570 gkq (by decide))).trans m1557
            have m1587 := (m1558).trans (fI_kept (x_lt hTH1551 kH1570 gkq (by decide))).symm
            have m1588 := (m1568).trans (fI_kept (x_lt hTH1551 kH1570 gkq (by decide))).symm
            have bx1572 := ty_fi (x := x1572) (k := 7) ex1572 hTH1570 ga0 rg_78 rfl
            have bx1573 := ty_fi (x := x1573) (k := 1) ex1573 hTH1570 ga0 rg_78 rfl
            have bx1574 := ty_fi (x := x1574) (k := 9) ex1574 hTH1570 gmq rg_69 rfl
            have f1589 : RFT K H1570 s.heap mq := RFT.st f1555 m1583
            refine W.eq (g2 := F0 m 102 ls1478 [.int x1571]) rfl ?_
            refine lv_if_ne (tgt := 107) hx hb dX4_part_102 (by decide) (fun c1590 => ?_) (fun c1590 => ?_)
            · have k1591 := i_ne c1590
              have cn_x1457 := i_cl (x := x1457) (by omega)
              have cn_x1457 := i_cl (x := x1457) (by omega)
              have cn_x1574 := i_cl (x := x1574) (by omega)
              have cs1592 : CSP lw.toInt (fun j => fI H1570 sq j) (fun j => fI s.heap sq j) sc.toNatClampNeg (x1574.toNatClampNeg) 16 ([(smG kk vv lw.toInt x1550.toNatClampNeg), (smG kk vv lw.toInt tat.toNatClampNeg)]) := CSP.call f1556 (m1582.resolve_left (by omega)) (by omega) (Nat.le_refl _) (Nat.le_of_ble_eq_true rfl)
              refine lv_aload_n hx hb dX4_part_107 rfl (lv_at hl1479 2 rfl) ?_
              refine x_gr C hTH1570 (ci := 4) (k := 0) rfl inX4 (by decide) wF_X4_12 ga0 rg_78 rfl dX4_part_108 (fun q1593 eq1593 gq1593 => ?_)
              have uq1593 : mq = q1593 := (m1575).trans eq1593.symm
              subst uq1593
              refine lv_iload_n hx hb dX4_part_111 rfl (lv_at hl1479 0 rfl) ?_
              refine lv_iconst (v := 0) hx hb dX4_part_112 (by decide) ?_
              refine x_V (As := [.int x1477, .int 0]) (rest := []) C (a_X7_addStep_g l K G H1570 (x1477) (0) (x1574) (li) hTH1570 gmq (by omega) (by decide) gsq m1578 ex1574 m1580 (by omega)) yo_X7_addStep wM_X4_131 ⟨⟨by decide, by decide⟩, by decide, by decide⟩ (x_rv C hTH1570 (ci := 7) rfl gmq rg_69) rfl hl1479.1 rfl (Nat.le_of_ble_eq_true rfl) dX4_part_113 hSH1570 (AE_sub (fun _ _ => rfl) (by decide) hSH1570.1) (fun vH1594 H1594 locsH1594 pH1594 zH1594 kH1594 hSH1594 => ?_)
              obtain ⟨x1595, hvH1594, ex1595, hrH1594, m1596, m1597, m1598, m1599, m1600, hTH1594⟩ := pH1594
              subst hvH1594
              have f1601 : ∀ j : Nat, j ≤ F.toNatClampNeg → kk j = (fI H1594 kq j).toInt := fun j hj => (f1584 j hj).trans (congrArg Int32.toInt (fI_kept (x_lt hTH1570 kH1594 gkq (by decide))).symm)
              have f1602 : ∀ j : Nat, j ≤ F.toNatClampNeg → vv j = (fI H1594 vq j).toInt := fun j hj => (f1585 j hj).trans (congrArg Int32.toInt (fI_kept (x_lt hTH1570 kH1594 gvq (by decide))).symm)
              have m1603 := (fI_kept (x_lt hTH1570 kH1594 gkq (by decide))).trans m1586
              have m1604 := (m1587).trans (fI_kept (x_lt hTH1570 kH1594 gkq (by decide))).symm
              have m1605 := (m1588).trans (fI_kept (x_lt hTH1570 kH1594 gkq (by decide))).symm
              have m1606 := (m1575).trans (fR_kept (x_lt hTH1570 kH1594 ga0 (by decide))).symm
              have m1607 := (m1576).trans (fR_kept (x_lt hTH1570 kH1594 ga0 (by decide))).symm
              have m1608 := (m1577).trans (fR_kept (x_lt hTH1570 kH1594 ga0 (by decide))).symm
              have m1609 := (m1579).trans (fI_kept (x_lt hTH1570 kH1594 ga0 (by decide))).symm
              have m1610 := (ex1572).trans (fI_kept (x_lt hTH1570 kH1594 ga0 (by decide))).symm
              have m1611 := (ex1573).trans (fI_kept (x_lt hTH1570 kH1594 ga0 (by decide))).symm
              have bx1595 := ty_fi (x := x1595) (k := 9) ex1595 hTH1594 gmq rg_69 rfl
              have cn_x1574 := i_cl (x := x1574) (by omega)
              have cn_x1574 := i_cl (x := x1574) (by omega)
              have cn_x1595 := i_cl (x := x1595) (by omega)
              have cs1612 : CSP lw.toInt (fun j => fI H1594 sq j) (fun j => fI s.heap sq j) sc.toNatClampNeg (x1595.toNatClampNeg) 16 ([cbF x1477.toInt (smG kk vv lw.toInt tat.toNatClampNeg) (smG kk vv lw.toInt x1550.toNatClampNeg)]) := CSP.bin (s := x1477.toInt) cs1592 m1598 (Eq.trans m1599 (by omega)) (by omega) (by omega) (by omega)
              have f1613 : RFT K H1594 s.heap mq := RFT.st f1589 m1600
              refine W.eq (g2 := F0 m 116 ls1478 []) rfl ?_
              refine lv_iconst (v := 1) hx hb dX4_part_116 (by decide) ?_
              have cn_F := i_cl (x := F) (by omega)
              have cn_tat := i_cl (x := tat) (by omega)
              have cn_x1 := i_cl (x := x1) (by omega)
              have cn_x1550 := i_cl (x := x1550) (by omega)
              have cn_x1455 := i_cl (x := x1455) (by omega)
              have cn_F := i_cl (x := F) (by omega)
              have cn_tat := i_cl (x := tat) (by omega)
              have cn_x1 := i_cl (x := x1) (by omega)
              have cn_x1595 := i_cl (x := x1595) (by omega)
              have cn_x1595 := i_cl (x := x1595) (by omega)
              have cn_x1550 := i_cl (x := x1550) (by omega)
              have cn_x1455 := i_cl (x := x1455) (by omega)
              exact x_zret C hQ (Or.inr rfl) dX4_part_117 hSH1594 (by decide) (by decide) (⟨1, x1572, x1573, x1595, rfl, by decide, m1610, m1611, ex1595, by omega, m1606, m1607, m1608, m1596, m1609, m1597, Or.inr ⟨(pa_cp (by rw [qvx1407]; omega)).trans ((cp_go (RQ.yes m1464 (by omega)) (by rw [qvx1477]; omega) (show x1550.toNatClampNeg = _ + 1 by omega)).trans (RQ.yes m1581 (by omega))), by omega⟩, Or.inr (CSP.cast cs1612 rfl (by omega) (Nat.le_refl _) (congrArg (fun z => [z]) ((paF_cp (by rw [qvx1407]; omega)).trans (cpF_at (RQ.yes m1464 (by omega)) qvx1477 (by omega) (show x1550.toNatClampNeg = _ + 1 by omega))))), f1613, hTH1594⟩)
            · have k1591 := i_eq c1590
              refine lv_iconst (v := 0) hx hb dX4_part_105 (by decide) ?_
              have cn_F := i_cl (x := F) (by omega)
              have cn_tat := i_cl (x := tat) (by omega)
              have cn_x1 := i_cl (x := x1) (by omega)
              have cn_x1550 := i_cl (x := x1550) (by omega)
              have cn_x1455 := i_cl (x := x1455) (by omega)
              have cn_F := i_cl (x := F) (by omega)
              have cn_tat := i_cl (x := tat) (by omega)
              have cn_x1 := i_cl (x := x1) (by omega)
              exact x_zret C hQ (Or.inl rfl) dX4_part_106 hSH1570 (by decide) (by decide) (⟨0, x1572, x1573, x1574, rfl, by decide, ex1572, ex1573, ex1574, by omega, m1575, m1576, m1577, m1578, m1579, m1580, Or.inl ⟨(pa_cp (by rw [qvx1407]; omega)).trans ((cp_go (RQ.yes m1464 (by omega)) (by rw [qvx1477]; omega) (show x1550.toNatClampNeg = _ + 1 by omega)).trans (RQ.no m1581 (by omega))), by omega⟩, (Or.inl (by omega)), f1589, hTH1570⟩)
          · have k1548 := i_ne c1547
            refine lv_iload_n hx hb dX4_part_76 rfl (lv_at hl1479 0 rfl) ?_
            refine lv_bipush (v := 62) hx hb dX4_part_77 (by decide) ?_
            refine lv_icmp_eq (tgt := 88) hx hb dX4_part_79 (by decide) (fun c1614 => ?_) (fun c1614 => ?_)
            · have k1615 := i_eq c1614
              refine lv_aload_n hx hb dX4_part_88 rfl (lv_at hl1479 2 rfl) ?_
              refine lv_dup hx hb dX4_part_89 rfl ?_
              refine x_gi C hTH1453 (ci := 4) (k := 7) rfl inX4 (by decide) wF_X4_42 ga0 rg_78 rfl dX4_part_90 (fun x1616 ex1616 bx1616 => ?_)
              have ux1616 : x1455 = x1616 := (ex1455).trans ex1616.symm
              subst ux1616
              refine lv_iconst (v := 1) hx hb dX4_part_93 (by decide) ?_
              refine lv_iadd hx hb dX4_part_94 ?_
              refine lv_topi (fun x1617 ex1617 => ?_)
              have tx1617 := i_add ex1617 (by omega)
              have fz1619 : 0 ≤ x1617.toInt ∧ x1617.toInt ≤ 500 := by have := i_rng x1617; omega
              refine x_put C hTH1453 hSH1453 (ci := 4) (k := 7) (v := .int x1617) (ty0 := tyX4) rfl inX4 tyX4_ok nmX4 (by decide) rfl wF_X4_42 ga0 rg_78 rfl rfl (okI (by have := i_rng x1617; omega) (by have := i_rng x1617; omega)) rfl rfl (AE_in ga0 (by decide)) dX4_part_95 (fun H1618 locsH1618 hTH1618 hSH1618 wH1618 => ?_)
              have f1620 : ∀ j : Nat, j ≤ F.toNatClampNeg → kk j = (fI H1618 kq j).toInt := fun j hj => (f1467 j hj).trans (congrArg Int32.toInt (Wr.neI wH1618 (Or.inl (G_ne gkq ga0 (by decide)))).symm)
              have f1621 : ∀ j : Nat, j ≤ F.toNatClampNeg → vv j = (fI H1618 vq j).toInt := fun j hj => (f1468 j hj).trans (congrArg Int32.toInt (Wr.neI wH1618 (Or.inl (G_ne gvq ga0 (by decide)))).symm)
              have f1622 : RFT K H1618 s.heap mq := RFT.st f1471 (fun k h1 h8 => fR_kept (wH1618.off (G_ne gmq ga0 (by decide))))
              have f1623 : CSP lw.toInt (fun j => fI H1618 sq j) (fun j => fI s.heap sq j) sc.toNatClampNeg (x1457.toNatClampNeg) 16 ([(smG kk vv lw.toInt tat.toNatClampNeg)]) := CSP.kept cs1474 (fun j => fI_kept (wH1618.off (G_ne gsq ga0 (by decide))))
              have m1624 := (Wr.neI wH1618 (Or.inl (G_ne gkq ga0 (by decide)))).trans m1469
              have m1625 := m1470.trans (Wr.neI wH1618 (Or.inl (G_ne gkq ga0 (by decide)))).symm
              have m1626 := m1458.trans (Wr.neR wH1618 (Or.inr (x_apart hKT hts inX4 tyX4 tyX4_ok nmX4 rfl 0 7 (by decide) (by decide) (by decide)))).symm
              have m1627 := m1459.trans (Wr.neR wH1618 (Or.inr (x_apart hKT hts inX4 tyX4 tyX4_ok nmX4 rfl 3 7 (by decide) (by decide) (by decide)))).symm
              have m1628 := m1460.trans (Wr.neR wH1618 (Or.inr (x_apart hKT hts inX4 tyX4 tyX4_ok nmX4 rfl 4 7 (by decide) (by decide) (by decide)))).symm
              have m1629 := m1461.trans (Wr.neR wH1618 (Or.inl (G_ne gmq ga0 (by decide)))).symm
              have m1630 := m1462.trans (Wr.neI wH1618 (Or.inr (x_apart hKT hts inX4 tyX4 tyX4_ok nmX4 rfl 8 7 (by decide) (by decide) (by decide)))).symm
              have m1631 := m1463.trans (Wr.neI wH1618 (Or.inl (G_ne gmq ga0 (by decide)))).symm
              have m1633 := ex1456.trans (Wr.neI wH1618 (Or.inr (x_apart hKT hts inX4 tyX4 tyX4_ok nmX4 rfl 1 7 (by decide) (by decide) (by decide)))).symm
              have m1634 := ex1457.trans (Wr.neI wH1618 (Or.inl (G_ne gmq ga0 (by decide)))).symm
              have m1635 := ex1477.trans (Wr.neI wH1618 (Or.inl (G_ne gkq ga0 (by decide)))).symm
              have m1636 := Wr.I wH1618
              have m1636 := m1636.symm
              refine lv_aload_n hx hb dX4_part_98 rfl (lv_at hl1479 2 rfl) ?_
              refine x_V (As := []) (rest := []) C (a_X4_sum_g l K G H1618 (F) (x1617) (x1456) (x1457) (lw) (li) kk vv hTH1618 ga0 gmq m1626 gkq m1627 gvq m1628 gsq m1629 m1636 m1633 m1634 m1630 m1631 m1624 (by omega) (by omega) (by omega) (hy0) f1620 f1621) yo_X4_sum wM_X4_103 ⟨⟨by decide, by decide⟩, by decide, by decide⟩ (x_rv C hTH1618 (ci := 4) rfl ga0 rg_78) rfl hl1479.1 rfl (Nat.le_of_ble_eq_true rfl) dX4_part_99 hSH1618 (AE_sub (fun _ _ => rfl) (by decide) hSH1618.1) (fun vH1637 H1637 locsH1637 pH1637 zH1637 kH1637 hSH1637 => ?_)
              obtain ⟨x1638, x1639, x1640, x1641, hvH1637, bx1638, ex1639, ex1640, ex1641, hrH1637, m1642, m1643, m1644, m1645, m1646, m1647, m1648, m1649, m1650, hTH1637⟩ := pH1637
              subst hvH1637
              have f1651 : ∀ j : Nat, j ≤ F.toNatClampNeg → kk j = (fI H1637 kq j).toInt := fun j hj => (f1620 j hj).trans (congrArg Int32.toInt (fI_kept (x_lt hTH1618 kH1637 gkq (by decide))).symm)
              have f1652 : ∀ j : Nat, j ≤ F.toNatClampNeg → vv j = (fI H1637 vq j).toInt := fun j hj => (f1621 j hj).trans (congrArg Int32.toInt (fI_kept (x_lt hTH1618 kH1637 gvq (by decide))).symm)
              have m1653 := (fI_kept (x_lt hTH1618 kH1637 gkq (by decide))).trans m1624
              have m1654 := (m1625).trans (fI_kept (x_lt hTH1618 kH1637 gkq (by decide))).symm
              have m1655 := (m1635).trans (fI_kept (x_lt hTH1618 kH1637 gkq (by decide))).symm
              have bx1639 := ty_fi (x := x1639) (k := 7) ex1639 hTH1637 ga0 rg_78 rfl
              have bx1640 := ty_fi (x := x1640) (k := 1) ex1640 hTH1637 ga0 rg_78 rfl
              have bx1641 := ty_fi (x := x1641) (k := 9) ex1641 hTH1637 gmq rg_69 rfl
              have f1656 : RFT K H1637 s.heap mq := RFT.st f1622 m1650
              refine W.eq (g2 := F0 m 102 ls1478 [.int x1638]) rfl ?_
              refine lv_if_ne (tgt := 107) hx hb dX4_part_102 (by decide) (fun c1657 => ?_) (fun c1657 => ?_)
              · have k1658 := i_ne c1657
                have cn_x1457 := i_cl (x := x1457) (by omega)
                have cn_x1457 := i_cl (x := x1457) (by omega)
                have cn_x1641 := i_cl (x := x1641) (by omega)
                have cs1659 : CSP lw.toInt (fun j => fI H1637 sq j) (fun j => fI s.heap sq j) sc.toNatClampNeg (x1641.toNatClampNeg) 16 ([(smG kk vv lw.toInt x1617.toNatClampNeg), (smG kk vv lw.toInt tat.toNatClampNeg)]) := CSP.call f1623 (m1649.resolve_left (by omega)) (by omega) (Nat.le_refl _) (Nat.le_of_ble_eq_true rfl)
                refine lv_aload_n hx hb dX4_part_107 rfl (lv_at hl1479 2 rfl) ?_
                refine x_gr C hTH1637 (ci := 4) (k := 0) rfl inX4 (by decide) wF_X4_12 ga0 rg_78 rfl dX4_part_108 (fun q1660 eq1660 gq1660 => ?_)
                have uq1660 : mq = q1660 := (m1642).trans eq1660.symm
                subst uq1660
                refine lv_iload_n hx hb dX4_part_111 rfl (lv_at hl1479 0 rfl) ?_
                refine lv_iconst (v := 0) hx hb dX4_part_112 (by decide) ?_
                refine x_V (As := [.int x1477, .int 0]) (rest := []) C (a_X7_addStep_g l K G H1637 (x1477) (0) (x1641) (li) hTH1637 gmq (by omega) (by decide) gsq m1645 ex1641 m1647 (by omega)) yo_X7_addStep wM_X4_131 ⟨⟨by decide, by decide⟩, by decide, by decide⟩ (x_rv C hTH1637 (ci := 7) rfl gmq rg_69) rfl hl1479.1 rfl (Nat.le_of_ble_eq_true rfl) dX4_part_113 hSH1637 (AE_sub (fun _ _ => rfl) (by decide) hSH1637.1) (fun vH1661 H1661 locsH1661 pH1661 zH1661 kH1661 hSH1661 => ?_)
                obtain ⟨x1662, hvH1661, ex1662, hrH1661, m1663, m1664, m1665, m1666, m1667, hTH1661⟩ := pH1661
                subst hvH1661
                have f1668 : ∀ j : Nat, j ≤ F.toNatClampNeg → kk j = (fI H1661 kq j).toInt := fun j hj => (f1651 j hj).trans (congrArg Int32.toInt (fI_kept (x_lt hTH1637 kH1661 gkq (by decide))).symm)
                have f1669 : ∀ j : Nat, j ≤ F.toNatClampNeg → vv j = (fI H1661 vq j).toInt := fun j hj => (f1652 j hj).trans (congrArg Int32.toInt (fI_kept (x_lt hTH1637 kH1661 gvq (by decide))).symm)
                have m1670 := (fI_kept (x_lt hTH1637 kH1661 gkq (by decide))).trans m1653
                have m1671 := (m1654).trans (fI_kept (x_lt hTH1637 kH1661 gkq (by decide))).symm
                have m1672 := (m1655).trans (fI_kept (x_lt hTH1637 kH1661 gkq (by decide))).symm
                have m1673 := (m1642).trans (fR_kept (x_lt hTH1637 kH1661 ga0 (by decide))).symm
                have m1674 := (m1643).trans (fR_kept (x_lt hTH1637 kH1661 ga0 (by decide))).symm
                have m1675 := (m1644).trans (fR_kept (x_lt hTH1637 kH1661 ga0 (by decide))).symm
                have m1676 := (m1646).trans (fI_kept (x_lt hTH1637 kH1661 ga0 (by decide))).symm
                have m1677 := (ex1639).trans (fI_kept (x_lt hTH1637 kH1661 ga0 (by decide))).symm
                have m1678 := (ex1640).trans (fI_kept (x_lt hTH1637 kH1661 ga0 (by decide))).symm
                have bx1662 := ty_fi (x := x1662) (k := 9) ex1662 hTH1661 gmq rg_69 rfl
                have cn_x1641 := i_cl (x := x1641) (by omega)
                have cn_x1641 := i_cl (x := x1641) (by omega)
                have cn_x1662 := i_cl (x := x1662) (by omega)
                have cs1679 : CSP lw.toInt (fun j => fI H1661 sq j) (fun j => fI s.heap sq j) sc.toNatClampNeg (x1662.toNatClampNeg) 16 ([cbF x1477.toInt (smG kk vv lw.toInt tat.toNatClampNeg) (smG kk vv lw.toInt x1617.toNatClampNeg)]) := CSP.bin (s := x1477.toInt) cs1659 m1665 (Eq.trans m1666 (by omega)) (by omega) (by omega) (by omega)
                have f1680 : RFT K H1661 s.heap mq := RFT.st f1656 m1667
                refine W.eq (g2 := F0 m 116 ls1478 []) rfl ?_
                refine lv_iconst (v := 1) hx hb dX4_part_116 (by decide) ?_
                have cn_F := i_cl (x := F) (by omega)
                have cn_tat := i_cl (x := tat) (by omega)
                have cn_x1 := i_cl (x := x1) (by omega)
                have cn_x1617 := i_cl (x := x1617) (by omega)
                have cn_x1455 := i_cl (x := x1455) (by omega)
                have cn_F := i_cl (x := F) (by omega)
                have cn_tat := i_cl (x := tat) (by omega)
                have cn_x1 := i_cl (x := x1) (by omega)
                have cn_x1662 := i_cl (x := x1662) (by omega)
                have cn_x1662 := i_cl (x := x1662) (by omega)
                have cn_x1617 := i_cl (x := x1617) (by omega)
                have cn_x1455 := i_cl (x := x1455) (by omega)
                exact x_zret C hQ (Or.inr rfl) dX4_part_117 hSH1661 (by decide) (by decide) (⟨1, x1639, x1640, x1662, rfl, by decide, m1677, m1678, ex1662, by omega, m1673, m1674, m1675, m1663, m1676, m1664, Or.inr ⟨(pa_cp (by rw [qvx1407]; omega)).trans ((cp_go (RQ.yes m1464 (by omega)) (by rw [qvx1477]; omega) (show x1617.toNatClampNeg = _ + 1 by omega)).trans (RQ.yes m1648 (by omega))), by omega⟩, Or.inr (CSP.cast cs1679 rfl (by omega) (Nat.le_refl _) (congrArg (fun z => [z]) ((paF_cp (by rw [qvx1407]; omega)).trans (cpF_at (RQ.yes m1464 (by omega)) qvx1477 (by omega) (show x1617.toNatClampNeg = _ + 1 by omega))))), f1680, hTH1661⟩)
              · have k1658 := i_eq c1657
                refine lv_iconst (v := 0) hx hb dX4_part_105 (by decide) ?_
                have cn_F := i_cl (x := F) (by omega)
                have cn_tat := i_cl (x := tat) (by omega)
                have cn_x1 := i_cl (x := x1) (by omega)
                have cn_x1617 := i_cl (x := x1617) (by omega)
                have cn_x1455 := i_cl (x := x1455) (by omega)
                have cn_F := i_cl (x := F) (by omega)
                have cn_tat := i_cl (x := tat) (by omega)
                have cn_x1 := i_cl (x := x1) (by omega)
                exact x_zret C hQ (Or.inl rfl) dX4_part_106 hSH1637 (by decide) (by decide) (⟨0, x1639, x1640, x1641, rfl, by decide, ex1639, ex1640, ex1641, by omega, m1642, m1643, m1644, m1645, m1646, m1647, Or.inl ⟨(pa_cp (by rw [qvx1407]; omega)).trans ((cp_go (RQ.yes m1464 (by omega)) (by rw [qvx1477]; omega) (show x1617.toNatClampNeg = _ + 1 by omega)).trans (RQ.no m1648 (by omega))), by omega⟩, (Or.inl (by omega)), f1656, hTH1637⟩)
            · have k1615 := i_ne c1614
              refine lv_aload_n hx hb dX4_part_82 rfl (lv_at hl1479 2 rfl) ?_
              refine lv_iconst (v := 1) hx hb dX4_part_83 (by decide) ?_
              refine x_V (As := [.int 1]) (rest := []) C (a_X4_refuse_e l K G H1453 (1) (x1455) (x1456) (lw) hTH1453 ga0 gmq m1458 gkq m1459 gvq m1460 ex1455 ex1456 m1462) yo_X4_refuse wM_X4_81 ⟨⟨by decide, by decide⟩, by decide, by decide⟩ (x_rv C hTH1453 (ci := 4) rfl ga0 rg_78) rfl hl1479.1 rfl (Nat.le_of_ble_eq_true rfl) dX4_part_84 hSH1453 (AE_sub (fun _ _ => rfl) (by decide) hSH1453.1) (fun vH1681 H1681 locsH1681 pH1681 zH1681 kH1681 hSH1681 => ?_)
              obtain ⟨x1682, x1683, x1684, hvH1681, bx1682, ex1683, ex1684, hrH1681, m1685, m1686, m1687, m1688, hTH1681⟩ := pH1681
              subst hvH1681
              have f1689 : ∀ j : Nat, j ≤ F.toNatClampNeg → kk j = (fI H1681 kq j).toInt := fun j hj => (f1467 j hj).trans (congrArg Int32.toInt (fI_kept (x_lt hTH1453 kH1681 gkq (by decide))).symm)
              have f1690 : ∀ j : Nat, j ≤ F.toNatClampNeg → vv j = (fI H1681 vq j).toInt := fun j hj => (f1468 j hj).trans (congrArg Int32.toInt (fI_kept (x_lt hTH1453 kH1681 gvq (by decide))).symm)
              have f1691 : RFT K H1681 s.heap mq := RFT.st f1471 (fun k h1 h8 => fR_kept (x_lt hTH1453 kH1681 gmq (by decide)))
              have f1692 : CSP lw.toInt (fun j => fI H1681 sq j) (fun j => fI s.heap sq j) sc.toNatClampNeg (x1457.toNatClampNeg) 16 ([(smG kk vv lw.toInt tat.toNatClampNeg)]) := CSP.kept cs1474 (fun j => fI_kept (x_lt hTH1453 kH1681 gsq (by decide)))
              have m1693 := (fI_kept (x_lt hTH1453 kH1681 gkq (by decide))).trans m1469
              have m1694 := (m1470).trans (fI_kept (x_lt hTH1453 kH1681 gkq (by decide))).symm
              have m1695 := (m1461).trans (fR_kept (x_lt hTH1453 kH1681 gmq (by decide))).symm
              have m1696 := (m1463).trans (fI_kept (x_lt hTH1453 kH1681 gmq (by decide))).symm
              have m1697 := (ex1457).trans (fI_kept (x_lt hTH1453 kH1681 gmq (by decide))).symm
              have m1698 := (ex1477).trans (fI_kept (x_lt hTH1453 kH1681 gkq (by decide))).symm
              have bx1683 := ty_fi (x := x1683) (k := 7) ex1683 hTH1681 ga0 rg_78 rfl
              have bx1684 := ty_fi (x := x1684) (k := 1) ex1684 hTH1681 ga0 rg_78 rfl
              refine W.eq (g2 := F0 m 87 ls1478 [.int x1682]) rfl ?_
              have cn_F := i_cl (x := F) (by omega)
              have cn_tat := i_cl (x := tat) (by omega)
              have cn_x1 := i_cl (x := x1) (by omega)
              have cn_F := i_cl (x := F) (by omega)
              have cn_tat := i_cl (x := tat) (by omega)
              have cn_x1 := i_cl (x := x1) (by omega)
              exact x_zret C hQ (i_01 (by omega)) dX4_part_87 hSH1681 (by decide) (by decide) (⟨x1682, x1683, x1684, x1457, rfl, by omega, ex1683, ex1684, m1697, by omega, m1685, m1686, m1687, m1695, m1688, m1696, Or.inl ⟨(pa_cp (by rw [qvx1407]; omega)).trans (cp_no2 (RQ.yes m1464 (by omega)) (by rw [qvx1477]; omega)), by omega⟩, (Or.inl (by omega)), f1691, hTH1681⟩)
      · have k1473 := i_eq c1472
        refine lv_iconst (v := 0) hx hb dX4_part_52 (by decide) ?_
        have cn_F := i_cl (x := F) (by omega)
        have cn_tat := i_cl (x := tat) (by omega)
        have cn_x1 := i_cl (x := x1) (by omega)
        have cn_F := i_cl (x := F) (by omega)
        have cn_tat := i_cl (x := tat) (by omega)
        have cn_x1 := i_cl (x := x1) (by omega)
        exact x_zret C hQ (Or.inl rfl) dX4_part_53 hSH1453 (by decide) (by decide) (⟨0, x1455, x1456, x1457, rfl, by decide, ex1455, ex1456, ex1457, by omega, m1458, m1459, m1460, m1461, m1462, m1463, Or.inl ⟨(pa_cp (by rw [qvx1407]; omega)).trans (cp_no1 (RQ.no m1464 (by omega))), by omega⟩, (Or.inl (by omega)), f1471, hTH1453⟩)
    · have k1452 := i_eq c1451
      refine lv_iload_n hx hb dX4_part_22 rfl (lv_at hl1409 2 rfl) ?_
      refine lv_bipush (v := 8) hx hb dX4_part_23 (by decide) ?_
      refine lv_icmp_ge (tgt := 39) hx hb dX4_part_25 (by decide) (fun c1699 => ?_) (fun c1699 => ?_)
      · have k1700 := i_le c1699
        refine lv_aload_n hx hb dX4_part_39 rfl (lv_at hl1409 1 rfl) ?_
        refine lv_iconst (v := 3) hx hb dX4_part_40 (by decide) ?_
        refine x_V (As := [.int 3]) (rest := []) C (a_X4_refuse_e l K G s.heap (3) (tat) (fa) (lw) hT ga0 gmq emq gkq ekq gvq evq etat efa elw) yo_X4_refuse wM_X4_81 ⟨⟨by decide, by decide⟩, by decide, by decide⟩ (x_rv C hT (ci := 4) rfl ga0 rg_78) rfl hl1409.1 rfl (Nat.le_of_ble_eq_true rfl) dX4_part_41 hS (AE_sub (fun _ _ => rfl) (by decide) hS.1) (fun vH1701 H1701 locsH1701 pH1701 zH1701 kH1701 hSH1701 => ?_)
        obtain ⟨x1702, x1703, x1704, hvH1701, bx1702, ex1703, ex1704, hrH1701, m1705, m1706, m1707, m1708, hTH1701⟩ := pH1701
        subst hvH1701
        have f1709 : ∀ j : Nat, j ≤ F.toNatClampNeg → kk j = (fI H1701 kq j).toInt := fun j hj => (f0_kk j hj).trans (congrArg Int32.toInt (fI_kept (x_lt hT kH1701 gkq (by decide))).symm)
        have f1710 : ∀ j : Nat, j ≤ F.toNatClampNeg → vv j = (fI H1701 vq j).toInt := fun j hj => (f0_vv j hj).trans (congrArg Int32.toInt (fI_kept (x_lt hT kH1701 gvq (by decide))).symm)
        have f1711 : RFT K H1701 s.heap mq := RFT.st f0_rt (fun k h1 h8 => fR_kept (x_lt hT kH1701 gmq (by decide)))
        have f1712 : CSP lw.toInt (fun j => fI H1701 sq j) (fun j => fI s.heap sq j) sc.toNatClampNeg (sc.toNatClampNeg) 16 ([]) := CSP.kept f0_cs (fun j => fI_kept (x_lt hT kH1701 gsq (by decide)))
        have m1713 := (esq).trans (fR_kept (x_lt hT kH1701 gmq (by decide))).symm
        have m1714 := (esc).trans (fI_kept (x_lt hT kH1701 gmq (by decide))).symm
        have m1715 := (eli).trans (fI_kept (x_lt hT kH1701 gmq (by decide))).symm
        have m1716 := (fI_kept (x_lt hT kH1701 gkq (by decide))).trans hel0
        have m1717 := (ex1407).trans (fI_kept (x_lt hT kH1701 gkq (by decide))).symm
        have bx1703 := ty_fi (x := x1703) (k := 7) ex1703 hTH1701 ga0 rg_78 rfl
        have bx1704 := ty_fi (x := x1704) (k := 1) ex1704 hTH1701 ga0 rg_78 rfl
        refine W.eq (g2 := F0 m 44 ls1408 [.int x1702]) rfl ?_
        have cn_F := i_cl (x := F) (by omega)
        have cn_tat := i_cl (x := tat) (by omega)
        have cn_x1 := i_cl (x := x1) (by omega)
        have cn_F := i_cl (x := F) (by omega)
        have cn_tat := i_cl (x := tat) (by omega)
        have cn_x1 := i_cl (x := x1) (by omega)
        exact x_zret C hQ (i_01 (by omega)) dX4_part_44 hSH1701 (by decide) (by decide) (⟨x1702, x1703, x1704, sc, rfl, by omega, ex1703, ex1704, m1714, by omega, m1705, m1706, m1707, m1713, m1708, m1715, Or.inl ⟨pa_deep (by omega) (by rw [qvx1407]; omega), by omega⟩, (Or.inl (by omega)), f1711, hTH1701⟩)
      · have k1700 := i_nle c1699
        refine lv_aload_n hx hb dX4_part_28 rfl (lv_at hl1409 1 rfl) ?_
        refine lv_iload_n hx hb dX4_part_29 rfl (lv_at hl1409 0 rfl) ?_
        refine lv_iload_n hx hb dX4_part_30 rfl (lv_at hl1409 2 rfl) ?_
        refine lv_iconst (v := 1) hx hb dX4_part_31 (by decide) ?_
        refine lv_iadd hx hb dX4_part_32 ?_
        refine lv_topi (fun x1718 ex1718 => ?_)
        have tx1718 := i_add ex1718 (by omega)
        refine x_V (As := [.int x1407, .int x1718]) (rest := []) C (a_X4_opened_g3 l K G s.heap (x1407) (x1718) (F) (tat) (fa) (sc) (lw) (li) kk vv hT ga0 (by omega) gmq emq gkq ekq gvq evq gsq esq etat efa esc elw eli hel0 (by omega) (by omega) (by omega) (by omega) (hy0) f0_kk f0_vv) yo_X4_opened wM_X4_138 ⟨⟨by decide, by decide⟩, by decide, by decide⟩ (x_rv C hT (ci := 4) rfl ga0 rg_78) rfl hl1409.1 rfl (Nat.le_of_ble_eq_true rfl) dX4_part_33 hS (AE_sub (fun _ _ => rfl) (by decide) hS.1) (fun vH1719 H1719 locsH1719 pH1719 zH1719 kH1719 hSH1719 => ?_)
        obtain ⟨x1720, x1721, x1722, x1723, hvH1719, bx1720, ex1721, ex1722, ex1723, hrH1719, m1724, m1725, m1726, m1727, m1728, m1729, m1730, m1731, m1732, hTH1719⟩ := pH1719
        subst hvH1719
        have f1733 : ∀ j : Nat, j ≤ F.toNatClampNeg → kk j = (fI H1719 kq j).toInt := fun j hj => (f0_kk j hj).trans (congrArg Int32.toInt (fI_kept (x_lt hT kH1719 gkq (by decide))).symm)
        have f1734 : ∀ j : Nat, j ≤ F.toNatClampNeg → vv j = (fI H1719 vq j).toInt := fun j hj => (f0_vv j hj).trans (congrArg Int32.toInt (fI_kept (x_lt hT kH1719 gvq (by decide))).symm)
        have m1735 := (fI_kept (x_lt hT kH1719 gkq (by decide))).trans hel0
        have m1736 := (ex1407).trans (fI_kept (x_lt hT kH1719 gkq (by decide))).symm
        have bx1721 := ty_fi (x := x1721) (k := 7) ex1721 hTH1719 ga0 rg_78 rfl
        have bx1722 := ty_fi (x := x1722) (k := 1) ex1722 hTH1719 ga0 rg_78 rfl
        have bx1723 := ty_fi (x := x1723) (k := 9) ex1723 hTH1719 gmq rg_69 rfl
        have f1737 : RFT K H1719 s.heap mq := RFT.st f0_rt m1732
        refine W.eq (g2 := F0 m 36 ls1408 [.int x1720]) rfl ?_
        refine lv_goto (tgt := 44) hx hb dX4_part_36 (by decide) ?_
        have cn_F := i_cl (x := F) (by omega)
        have cn_tat := i_cl (x := tat) (by omega)
        have cn_x1 := i_cl (x := x1) (by omega)
        have cn_x1718 := i_cl (x := x1718) (by omega)
        have cn_F := i_cl (x := F) (by omega)
        have cn_tat := i_cl (x := tat) (by omega)
        have cn_x1 := i_cl (x := x1) (by omega)
        have cn_x1718 := i_cl (x := x1718) (by omega)
        have cn_sc := i_cl (x := sc) (by omega)
        have cn_sc := i_cl (x := sc) (by omega)
        have cn_x1723 := i_cl (x := x1723) (by omega)
        exact x_zret C hQ (i_01 (by omega)) dX4_part_44 hSH1719 (by decide) (by decide) (⟨x1720, x1721, x1722, x1723, rfl, by omega, ex1721, ex1722, ex1723, by omega, m1724, m1725, m1726, m1727, m1728, m1729, RQ.tr m1730 (pa_op (by omega) (qvx1407).symm (by rw [qvx1407]; omega)), (m1731.imp id (fun z => CSP.cast (CSP.call f0_cs z (by omega) (Nat.le_refl _) (Nat.le_of_ble_eq_true rfl)) rfl rfl (Nat.le_refl _) (congrArg (fun z => [z]) (paF_op (by omega) (qvx1407).symm (by rw [qvx1407]; omega))))), f1737, hTH1719⟩)

set_option maxHeartbeats 4000000 in
set_option maxRecDepth 100000 in
theorem a_X4_both_g2 (l : Launch) (K : KE) (G : Nat → Option Nat) (H : Heap) {a0 : Nat} (x1 : Int32) {mq : Nat} {kq : Nat} {vq : Nat} {sq : Nat} (F : Int32) (tat : Int32) (fa : Int32) (sc : Int32) (lw : Int32) (li : Int32) (kk : Nat → Int) (vv : Nat → Int) (hT : TY K G H) (ga0 : G a0 = some 78) (hx1 : 2 ≤ x1.toInt ∧ x1.toInt ≤ 8) (gmq : G mq = some 69) (emq : mq = fR H a0 (K.1.2 4 0)) (gkq : G kq = some 79) (ekq : kq = fR H a0 (K.1.2 4 3)) (gvq : G vq = some 80) (evq : vq = fR H a0 (K.1.2 4 4)) (gsq : G sq = some 77) (esq : sq = fR H mq (K.1.2 7 8)) (etat : tat = fI H a0 (K.1.2 4 7)) (efa : fa = fI H a0 (K.1.2 4 1)) (esc : sc = fI H mq (K.1.2 7 9)) (elw : lw = fI H a0 (K.1.2 4 8)) (eli : li = fI H mq (K.1.2 7 0)) (hel0 : fI H kq (F : Int32).toNatClampNeg = 26) (hp0 : tat.toInt ≤ F.toInt) (hp1 : F.toInt ≤ 500) (hp2 : sc.toInt ≤ tat.toInt) (hy0 : ∀ j : Nat, 0 ≤ vv j ∧ vv j < 100000) (hv_kk : ∀ j : Nat, j ≤ F.toNatClampNeg → kk j = (fI H kq j).toInt) (hv_vv : ∀ j : Nat, j ≤ F.toNatClampNeg → vv j = (fI H vq j).toInt) : MX l K yX4_both cX4_both 3 (some .boolean) 28 625 0 0 [.ref a0, .int x1] H (AE G [78, 69, 77] H.size) (fun v H1 => ∃ (r : Int32) (t0 : Int32) (t1 : Int32) (t2 : Int32), v = some (.int r) ∧ (0 ≤ r.toInt ∧ r.toInt ≤ 1) ∧ t0 = fI H1 a0 (K.1.2 4 7) ∧ t1 = fI H1 a0 (K.1.2 4 1) ∧ t2 = fI H1 mq (K.1.2 7 9) ∧ (t0.toInt ≤ F.toInt ∧ ((r.toInt = 1 ∧ t1.toInt = fa.toInt ∧ tat.toInt < t0.toInt ∧ sc.toInt ≤ t2.toInt ∧ t2.toInt + tat.toInt ≤ sc.toInt + t0.toInt) ∨ (r.toInt = 0 ∧ t1.toInt ≠ 0))) ∧ mq = fR H1 a0 (K.1.2 4 0) ∧ kq = fR H1 a0 (K.1.2 4 3) ∧ vq = fR H1 a0 (K.1.2 4 4) ∧ sq = fR H1 mq (K.1.2 7 8) ∧ lw = fI H1 a0 (K.1.2 4 8) ∧ li = fI H1 mq (K.1.2 7 0) ∧ (RQ (lpI (paS kk vv lw.toInt (8 - x1.toNatClampNeg)) (cAN kk) tat.toNatClampNeg) r t0) ∧ (r.toInt = 0 ∨ CSP lw.toInt (fun j => fI H1 sq j) (fun j => fI H sq j) sc.toNatClampNeg t2.toNatClampNeg 17 [lpG (paS kk vv lw.toInt (8 - x1.toNatClampNeg)) (cAN kk) kk (paF kk vv lw.toInt (8 - x1.toNatClampNeg)) 0 zF tat.toNatClampNeg]) ∧ (RFT K H1 H mq) ∧ TY K G H1) := by
  refine MX.of (by decide +kernel) (Nat.le_of_ble_eq_true rfl) ?_
  intro p e s m below meth c ls Q C hH hl hQ
  subst hH
  have C : CX p K s m _ meth c RX4 cX4_both 3 (some .boolean) "both" := C
  obtain ⟨hx, hb, hml, hown, hts, hKT, hr, hlocks, hnm⟩ := id C
  have hl : lv_has ls 3 [(0, .ref a0), (1, .int x1)] := hl
  have hS : va_S (AE G [78, 69, 77] s.heap.size) s.heap s.heap [] := va_S.rf
  have n_0 : (0 : Int32).toInt = 0 := rfl
  have n_1 : (1 : Int32).toInt = 1 := rfl
  have n_9 : (9 : Int32).toInt = 9 := rfl
  have n_26 : (26 : Int32).toInt = 26 := rfl
  have n_500 : (500 : Int32).toInt = 500 := rfl
  have btat := ty_fi (x := tat) (k := 7) etat hT ga0 rg_78 rfl
  have bfa := ty_fi (x := fa) (k := 1) efa hT ga0 rg_78 rfl
  have bsc := ty_fi (x := sc) (k := 9) esc hT gmq rg_69 rfl
  have blw := ty_fi (x := lw) (k := 8) elw hT ga0 rg_78 rfl
  have bli := ty_fi (x := li) (k := 0) eli hT gmq rg_69 rfl
  have hsp0 : lpI (paS kk vv lw.toInt (8 - x1.toNatClampNeg)) (cAN kk) tat.toNatClampNeg = lpI (paS kk vv lw.toInt (8 - x1.toNatClampNeg)) (cAN kk) tat.toNatClampNeg := rfl
  have hsf0 : lpG (paS kk vv lw.toInt (8 - x1.toNatClampNeg)) (cAN kk) kk (paF kk vv lw.toInt (8 - x1.toNatClampNeg)) 0 zF tat.toNatClampNeg = lpG (paS kk vv lw.toInt (8 - x1.toNatClampNeg)) (cAN kk) kk (paF kk vv lw.toInt (8 - x1.toNatClampNeg)) 0 zF tat.toNatClampNeg := rfl
  have f0_kk := hv_kk
  have f0_vv := hv_vv
  have f0_rt : RFT K s.heap s.heap mq := RFT.rf
  have f0_cs : CSP lw.toInt (fun j => fI s.heap sq j) (fun j => fI s.heap sq j) sc.toNatClampNeg (sc.toNatClampNeg) 17 ([]) := CSP.nil
  have J12 : ∀ (nf : Nat) (a_ : EF) (ls1966 : Array Slot) (H1965 : Heap) (locsH1965 : List Loc) (x1968 : Int32) (x1969 : Int32) (x1970 : Int32) (x1971 : Int32), lv_has ls1966 3 [(0, .ref a0), (1, .int x1), (2, .int x1968)] → TY K G H1965 → va_S (AE G [78, 69, 77] s.heap.size) s.heap H1965 locsH1965 → (0 ≤ x1968.toInt ∧ x1968.toInt ≤ 500) → (0 ≤ x1969.toInt ∧ x1969.toInt ≤ 500) → (0 ≤ x1971.toInt ∧ x1971.toInt ≤ 500) → (x1969 = fI H1965 a0 (K.1.2 4 7)) → (x1970 = fI H1965 a0 (K.1.2 4 1)) → (x1971 = fI H1965 mq (K.1.2 7 9)) → (mq = fR H1965 a0 (K.1.2 4 0)) → (kq = fR H1965 a0 (K.1.2 4 3)) → (vq = fR H1965 a0 (K.1.2 4 4)) → (sq = fR H1965 mq (K.1.2 7 8)) → (lw = fI H1965 a0 (K.1.2 4 8)) → (li = fI H1965 mq (K.1.2 7 0)) → (fI H1965 kq (F : Int32).toNatClampNeg = 26) → (∀ j : Nat, j ≤ F.toNatClampNeg → kk j = (fI H1965 kq j).toInt) → (∀ j : Nat, j ≤ F.toNatClampNeg → vv j = (fI H1965 vq j).toInt) → (RFT K H1965 s.heap mq) → (CSP lw.toInt (fun j => fI H1965 sq j) (fun j => fI s.heap sq j) sc.toNatClampNeg (x1971.toNatClampNeg) 17 ([a_])) → (500 - x1968.toInt < (nf : Int)) → (2 * x1968.toInt ≤ x1969.toInt ∧ tat.toInt < x1969.toInt ∧ x1971.toInt + tat.toInt ≤ sc.toInt + x1969.toInt ∧ x1969.toInt ≤ F.toInt ∧ x1970.toInt = fa.toInt ∧ sc.toInt ≤ x1971.toInt) → (lpI (paS kk vv lw.toInt (8 - x1.toNatClampNeg)) (cAN kk) tat.toNatClampNeg = (if cAN kk x1969.toNatClampNeg = true then lpI (paS kk vv lw.toInt (8 - x1.toNatClampNeg)) (cAN kk) (x1969.toNatClampNeg + 1) else some x1969.toNatClampNeg)) → (lpG (paS kk vv lw.toInt (8 - x1.toNatClampNeg)) (cAN kk) kk (paF kk vv lw.toInt (8 - x1.toNatClampNeg)) 0 zF tat.toNatClampNeg = (if cAN kk x1969.toNatClampNeg = true then lpG (paS kk vv lw.toInt (8 - x1.toNatClampNeg)) (cAN kk) kk (paF kk vv lw.toInt (8 - x1.toNatClampNeg)) (kk x1969.toNatClampNeg) a_ (x1969.toNatClampNeg + 1) else a_)) → W p l e ({ frames := 28, cells := 0, slots := 0, locals := 625 } : Room) s m (([.ref a0, .int x1] : List Value).toArray) below meth c H1965 locsH1965 0 0 Q (F0 m 12 ls1966 []) := by
    intro nf
    induction nf with
    | zero =>
      intro a_ ls1966 H1965 locsH1965 x1968 x1969 x1970 x1971 hl1967 hTH1965 hSH1965 bx1968 bx1969 bx1971 ex1969 ex1970 ex1971 cy1972_0 cy1972_1 cy1972_2 cy1972_3 cy1972_4 cy1972_5 cy1972_6 fy1972_kk fy1972_vv fy1972_rt fy1972_cs hm12 iv12 hsp12 hsf12
      have rx1970 := i_rng x1970
      exfalso
      omega
    | succ nf ih12 =>
      intro a_ ls1966 H1965 locsH1965 x1968 x1969 x1970 x1971 hl1967 hTH1965 hSH1965 bx1968 bx1969 bx1971 ex1969 ex1970 ex1971 cy1972_0 cy1972_1 cy1972_2 cy1972_3 cy1972_4 cy1972_5 cy1972_6 fy1972_kk fy1972_vv fy1972_rt fy1972_cs hm12 iv12 hsp12 hsf12
      have rx1970 := i_rng x1970
      refine lv_iload_n hx hb dX4_both_12 rfl (lv_at hl1967 2 rfl) ?_
      refine lv_sipush (v := 500) hx hb dX4_both_13 (by decide) ?_
      refine lv_icmp_ge (tgt := 69) hx hb dX4_both_16 (by decide) (fun c1973 => ?_) (fun c1973 => ?_)
      · have k1974 := i_le c1973
        refine lv_iconst (v := 1) hx hb dX4_both_69 (by decide) ?_
        have cn_F := i_cl (x := F) (by omega)
        have cn_x1 := i_cl (x := x1) (by omega)
        have cn_x1969 := i_cl (x := x1969) (by omega)
        have cn_x1971 := i_cl (x := x1971) (by omega)
        have cn_x1971 := i_cl (x := x1971) (by omega)
        exact x_zret C hQ (Or.inr rfl) dX4_both_70 hSH1965 (by decide) (by decide) (⟨1, x1969, x1970, x1971, rfl, by decide, ex1969, ex1970, ex1971, by omega, cy1972_0, cy1972_1, cy1972_2, cy1972_3, cy1972_4, cy1972_5, (by first | (exfalso; omega) | exact Or.inr ⟨hsp12.trans (if_n (show cAN kk _ = false from decide_eq_false (by omega))), by omega⟩), (by first | (exfalso; omega) | exact Or.inr (CSP.cast fy1972_cs rfl (by omega) (Nat.le_refl _) (congrArg (fun z => [z]) (hsf12.trans (if_neg (show ¬ cAN kk _ = true from by rw [show cAN kk _ = false from decide_eq_false (by omega)]; decide)))))), fy1972_rt, hTH1965⟩)
      · have k1974 := i_nle c1973
        refine lv_aload_n hx hb dX4_both_19 rfl (lv_at hl1967 0 rfl) ?_
        refine x_gr C hTH1965 (ci := 4) (k := 3) rfl inX4 (by decide) wF_X4_18 ga0 rg_78 rfl dX4_both_20 (fun q1975 eq1975 gq1975 => ?_)
        have uq1975 : kq = q1975 := (cy1972_1).trans eq1975.symm
        subst uq1975
        refine lv_aload_n hx hb dX4_both_23 rfl (lv_at hl1967 0 rfl) ?_
        refine x_gi C hTH1965 (ci := 4) (k := 7) rfl inX4 (by decide) wF_X4_42 ga0 rg_78 rfl dX4_both_24 (fun x1976 ex1976 bx1976 => ?_)
        have ux1976 : x1969 = x1976 := (ex1969).trans ex1976.symm
        subst ux1976
        refine x_ai C hTH1965 gkq rg_79 ⟨by omega, by show _ < ((501 : Nat) : Int); omega⟩ dX4_both_27 (fun x1977 ex1977 bx1977 => ?_)
        have dx1977 := el_hit ex1977 cy1972_6
        have qvx1977 : kk x1969.toNatClampNeg = x1977.toInt := (fy1972_kk _ (by have h1 := i_cl (x := x1969) (by omega); have h2 := i_cl (x := F) (by omega); omega)).trans (congrArg Int32.toInt ex1977.symm)
        refine lv_bipush (v := 9) hx hb dX4_both_28 (by decide) ?_
        refine lv_icmp_ne (tgt := 69) hx hb dX4_both_30 (by decide) (fun c1978 => ?_) (fun c1978 => ?_)
        · have k1979 := i_ne c1978
          refine lv_iconst (v := 1) hx hb dX4_both_69 (by decide) ?_
          have cn_F := i_cl (x := F) (by omega)
          have cn_x1 := i_cl (x := x1) (by omega)
          have cn_x1969 := i_cl (x := x1969) (by omega)
          have cn_x1971 := i_cl (x := x1971) (by omega)
          have cn_x1971 := i_cl (x := x1971) (by omega)
          exact x_zret C hQ (Or.inr rfl) dX4_both_70 hSH1965 (by decide) (by decide) (⟨1, x1969, x1970, x1971, rfl, by decide, ex1969, ex1970, ex1971, by omega, cy1972_0, cy1972_1, cy1972_2, cy1972_3, cy1972_4, cy1972_5, (by first | (exfalso; omega) | exact Or.inr ⟨hsp12.trans (if_n (show cAN kk _ = false from decide_eq_false (by omega))), by omega⟩), (by first | (exfalso; omega) | exact Or.inr (CSP.cast fy1972_cs rfl (by omega) (Nat.le_refl _) (congrArg (fun z => [z]) (hsf12.trans (if_neg (show ¬ cAN kk _ = true from by rw [show cAN kk _ = false from decide_eq_false (by omega)]; decide)))))), fy1972_rt, hTH1965⟩)
        · have k1979 := i_eq c1978
          refine lv_aload_n hx hb dX4_both_33 rfl (lv_at hl1967 0 rfl) ?_
          refine lv_dup hx hb dX4_both_34 rfl ?_
          refine x_gi C hTH1965 (ci := 4) (k := 7) rfl inX4 (by decide) wF_X4_42 ga0 rg_78 rfl dX4_both_35 (fun x1980 ex1980 bx1980 => ?_)
          have ux1980 : x1969 = x1980 := (ex1969).trans ex1980.symm
          subst ux1980
          refine lv_iconst (v := 1) hx hb dX4_both_38 (by decide) ?_
          refine lv_iadd hx hb dX4_both_39 ?_
          refine lv_topi (fun x1981 ex1981 => ?_)
          have tx1981 := i_add ex1981 (by omega)
          have fz1983 : 0 ≤ x1981.toInt ∧ x1981.toInt ≤ 500 := by have := i_rng x1981; omega
          refine x_put C hTH1965 hSH1965 (ci := 4) (k := 7) (v := .int x1981) (ty0 := tyX4) rfl inX4 tyX4_ok nmX4 (by decide) rfl wF_X4_42 ga0 rg_78 rfl rfl (okI (by have := i_rng x1981; omega) (by have := i_rng x1981; omega)) rfl rfl (AE_in ga0 (by decide)) dX4_both_40 (fun H1982 locsH1982 hTH1982 hSH1982 wH1982 => ?_)
          have f1984 : ∀ j : Nat, j ≤ F.toNatClampNeg → kk j = (fI H1982 kq j).toInt := fun j hj => (fy1972_kk j hj).trans (congrArg Int32.toInt (Wr.neI wH1982 (Or.inl (G_ne gkq ga0 (by decide)))).symm)
          have f1985 : ∀ j : Nat, j ≤ F.toNatClampNeg → vv j = (fI H1982 vq j).toInt := fun j hj => (fy1972_vv j hj).trans (congrArg Int32.toInt (Wr.neI wH1982 (Or.inl (G_ne gvq ga0 (by decide)))).symm)
          have f1986 : RFT K H1982 s.heap mq := RFT.st fy1972_rt (fun k h1 h8 => fR_kept (wH1982.off (G_ne gmq ga0 (by decide))))
          have f1987 : CSP lw.toInt (fun j => fI H1982 sq j) (fun j => fI s.heap sq j) sc.toNatClampNeg (x1971.toNatClampNeg) 17 ([a_]) := CSP.kept fy1972_cs (fun j => fI_kept (wH1982.off (G_ne gsq ga0 (by decide))))
          have m1989 := ex1970.trans (Wr.neI wH1982 (Or.inr (x_apart hKT hts inX4 tyX4 tyX4_ok nmX4 rfl 1 7 (by decide) (by decide) (by decide)))).symm
          have m1990 := ex1971.trans (Wr.neI wH1982 (Or.inl (G_ne gmq ga0 (by decide)))).symm
          have m1991 := cy1972_0.trans (Wr.neR wH1982 (Or.inr (x_apart hKT hts inX4 tyX4 tyX4_ok nmX4 rfl 0 7 (by decide) (by decide) (by decide)))).symm
          have m1992 := cy1972_1.trans (Wr.neR wH1982 (Or.inr (x_apart hKT hts inX4 tyX4 tyX4_ok nmX4 rfl 3 7 (by decide) (by decide) (by decide)))).symm
          have m1993 := cy1972_2.trans (Wr.neR wH1982 (Or.inr (x_apart hKT hts inX4 tyX4 tyX4_ok nmX4 rfl 4 7 (by decide) (by decide) (by decide)))).symm
          have m1994 := cy1972_3.trans (Wr.neR wH1982 (Or.inl (G_ne gmq ga0 (by decide)))).symm
          have m1995 := cy1972_4.trans (Wr.neI wH1982 (Or.inr (x_apart hKT hts inX4 tyX4 tyX4_ok nmX4 rfl 8 7 (by decide) (by decide) (by decide)))).symm
          have m1996 := cy1972_5.trans (Wr.neI wH1982 (Or.inl (G_ne gmq ga0 (by decide)))).symm
          have m1997 := (Wr.neI wH1982 (Or.inl (G_ne gkq ga0 (by decide)))).trans cy1972_6
          have m1998 := ex1977.trans (Wr.neI wH1982 (Or.inl (G_ne gkq ga0 (by decide)))).symm
          have m1999 := Wr.I wH1982
          have m1999 := m1999.symm
          refine lv_aload_n hx hb dX4_both_43 rfl (lv_at hl1967 0 rfl) ?_
          refine lv_iload_n hx hb dX4_both_44 rfl (lv_at hl1967 1 rfl) ?_
          refine x_V (As := [.int x1]) (rest := []) C (a_X4_part_g2 l K G H1982 (x1) (F) (x1981) (x1970) (x1971) (lw) (li) kk vv hTH1982 ga0 (by omega) gmq m1991 gkq m1992 gvq m1993 gsq m1994 m1999 m1989 m1990 m1995 m1996 m1997 (by omega) (by omega) (by omega) (hy0) f1984 f1985) yo_X4_part wM_X4_135 ⟨⟨by decide, by decide⟩, by decide, by decide⟩ (x_rv C hTH1982 (ci := 4) rfl ga0 rg_78) rfl hl1967.1 rfl (Nat.le_of_ble_eq_true rfl) dX4_both_45 hSH1982 (AE_sub (fun _ _ => rfl) (by decide) hSH1982.1) (fun vH2000 H2000 locsH2000 pH2000 zH2000 kH2000 hSH2000 => ?_)
          obtain ⟨x2001, x2002, x2003, x2004, hvH2000, bx2001, ex2002, ex2003, ex2004, hrH2000, m2005, m2006, m2007, m2008, m2009, m2010, m2011, m2012, m2013, hTH2000⟩ := pH2000
          subst hvH2000
          have f2014 : ∀ j : Nat, j ≤ F.toNatClampNeg → kk j = (fI H2000 kq j).toInt := fun j hj => (f1984 j hj).trans (congrArg Int32.toInt (fI_kept (x_lt hTH1982 kH2000 gkq (by decide))).symm)
          have f2015 : ∀ j : Nat, j ≤ F.toNatClampNeg → vv j = (fI H2000 vq j).toInt := fun j hj => (f1985 j hj).trans (congrArg Int32.toInt (fI_kept (x_lt hTH1982 kH2000 gvq (by decide))).symm)
          have m2016 := (fI_kept (x_lt hTH1982 kH2000 gkq (by decide))).trans m1997
          have m2017 := (m1998).trans (fI_kept (x_lt hTH1982 kH2000 gkq (by decide))).symm
          have bx2002 := ty_fi (x := x2002) (k := 7) ex2002 hTH2000 ga0 rg_78 rfl
          have bx2003 := ty_fi (x := x2003) (k := 1) ex2003 hTH2000 ga0 rg_78 rfl
          have bx2004 := ty_fi (x := x2004) (k := 9) ex2004 hTH2000 gmq rg_69 rfl
          have f2018 : RFT K H2000 s.heap mq := RFT.st f1986 m2013
          refine W.eq (g2 := F0 m 48 ls1966 [.int x2001]) rfl ?_
          refine lv_if_ne (tgt := 53) hx hb dX4_both_48 (by decide) (fun c2019 => ?_) (fun c2019 => ?_)
          · have k2020 := i_ne c2019
            have cn_x1971 := i_cl (x := x1971) (by omega)
            have cn_x1971 := i_cl (x := x1971) (by omega)
            have cn_x2004 := i_cl (x := x2004) (by omega)
            have cs2021 : CSP lw.toInt (fun j => fI H2000 sq j) (fun j => fI s.heap sq j) sc.toNatClampNeg (x2004.toNatClampNeg) 17 ([(paF kk vv lw.toInt (8 - x1.toNatClampNeg) x1981.toNatClampNeg), a_]) := CSP.call f1987 (m2012.resolve_left (by omega)) (by omega) (Nat.le_refl _) (Nat.le_of_ble_eq_true rfl)
            refine lv_aload_n hx hb dX4_both_53 rfl (lv_at hl1967 0 rfl) ?_
            refine x_gr C hTH2000 (ci := 4) (k := 0) rfl inX4 (by decide) wF_X4_12 ga0 rg_78 rfl dX4_both_54 (fun q2022 eq2022 gq2022 => ?_)
            have uq2022 : mq = q2022 := (m2005).trans eq2022.symm
            subst uq2022
            refine lv_bipush (v := 9) hx hb dX4_both_57 (by decide) ?_
            refine lv_iconst (v := 0) hx hb dX4_both_59 (by decide) ?_
            refine x_V (As := [.int 9, .int 0]) (rest := []) C (a_X7_addStep_g l K G H2000 (9) (0) (x2004) (li) hTH2000 gmq (by decide) (by decide) gsq m2008 ex2004 m2010 (by omega)) yo_X7_addStep wM_X4_131 ⟨⟨by decide, by decide⟩, by decide, by decide⟩ (x_rv C hTH2000 (ci := 7) rfl gmq rg_69) rfl hl1967.1 rfl (Nat.le_of_ble_eq_true rfl) dX4_both_60 hSH2000 (AE_sub (fun _ _ => rfl) (by decide) hSH2000.1) (fun vH2023 H2023 locsH2023 pH2023 zH2023 kH2023 hSH2023 => ?_)
            obtain ⟨x2024, hvH2023, ex2024, hrH2023, m2025, m2026, m2027, m2028, m2029, hTH2023⟩ := pH2023
            subst hvH2023
            have f2030 : ∀ j : Nat, j ≤ F.toNatClampNeg → kk j = (fI H2023 kq j).toInt := fun j hj => (f2014 j hj).trans (congrArg Int32.toInt (fI_kept (x_lt hTH2000 kH2023 gkq (by decide))).symm)
            have f2031 : ∀ j : Nat, j ≤ F.toNatClampNeg → vv j = (fI H2023 vq j).toInt := fun j hj => (f2015 j hj).trans (congrArg Int32.toInt (fI_kept (x_lt hTH2000 kH2023 gvq (by decide))).symm)
            have m2032 := (fI_kept (x_lt hTH2000 kH2023 gkq (by decide))).trans m2016
            have m2033 := (m2017).trans (fI_kept (x_lt hTH2000 kH2023 gkq (by decide))).symm
            have m2034 := (m2005).trans (fR_kept (x_lt hTH2000 kH2023 ga0 (by decide))).symm
            have m2035 := (m2006).trans (fR_kept (x_lt hTH2000 kH2023 ga0 (by decide))).symm
            have m2036 := (m2007).trans (fR_kept (x_lt hTH2000 kH2023 ga0 (by decide))).symm
            have m2037 := (m2009).trans (fI_kept (x_lt hTH2000 kH2023 ga0 (by decide))).symm
            have m2038 := (ex2002).trans (fI_kept (x_lt hTH2000 kH2023 ga0 (by decide))).symm
            have m2039 := (ex2003).trans (fI_kept (x_lt hTH2000 kH2023 ga0 (by decide))).symm
            have bx2024 := ty_fi (x := x2024) (k := 9) ex2024 hTH2023 gmq rg_69 rfl
            have cn_x2004 := i_cl (x := x2004) (by omega)
            have cn_x2004 := i_cl (x := x2004) (by omega)
            have cn_x2024 := i_cl (x := x2024) (by omega)
            have cs2040 : CSP lw.toInt (fun j => fI H2023 sq j) (fun j => fI s.heap sq j) sc.toNatClampNeg (x2024.toNatClampNeg) 17 ([cbF 9 a_ (paF kk vv lw.toInt (8 - x1.toNatClampNeg) x1981.toNatClampNeg)]) := CSP.bin (s := 9) cs2021 m2027 (Eq.trans m2028 (by omega)) (by omega) (by omega) (by omega)
            have f2041 : RFT K H2023 s.heap mq := RFT.st f2018 m2029
            refine W.eq (g2 := F0 m 63 ls1966 []) rfl ?_
            obtain ⟨x2042, ex2042⟩ : ∃ y : Int32, y = x1968 + 1 := ⟨_, rfl⟩
            have tx2042 := i_add ex2042 (by omega)
            refine lv_iinc (v := x2042) (lv' := [(2, .int x2042), (0, .ref a0), (1, .int x1)]) hx hb dX4_both_63 hl1967 (k := 2) rfl (by rw [ex2042]; rfl) (by decide) rfl (fun ls2043 hl2044 => ?_)
            refine lv_goto (tgt := 12) hx hb dX4_both_66 (by decide) ?_
            have cn_x2024 := i_cl (x := x2024) (by omega)
            have cn_x2024 := i_cl (x := x2024) (by omega)
            have cn_F := i_cl (x := F) (by omega)
            have cn_x1969 := i_cl (x := x1969) (by omega)
            have cn_x1981 := i_cl (x := x1981) (by omega)
            have cn_x1969 := i_cl (x := x1969) (by omega)
            have cn_x1981 := i_cl (x := x1981) (by omega)
            exact ih12 (cbF 9 a_ (paF kk vv lw.toInt (8 - x1.toNatClampNeg) x1981.toNatClampNeg)) ls2043 H2023 locsH2023 (x2042) (x2002) (x2003) (x2024) (lv_sub hl2044 [1, 2, 0] rfl) hTH2023 hSH2023 (by have := i_rng x2042; omega) (by have := i_rng x2002; omega) (by have := i_rng x2024; omega) m2038 m2039 ex2024 m2034 m2035 m2036 m2025 m2037 m2026 m2032 f2030 f2031 f2041 (CSP.cast cs2040 rfl (by omega) (Nat.le_refl _) rfl) (by omega) (by omega) (hsp12.trans (by rw [if_y (show cAN kk _ = true from decide_eq_true (by omega)), show x1969.toNatClampNeg + 1 = x1981.toNatClampNeg by omega]; exact lp_if (paS_gp _) (RQ.yes m2011 (by omega)))) (hsf12.trans (by rw [if_pos (show cAN kk _ = true from decide_eq_true (by omega)), show kk x1969.toNatClampNeg = 9 by omega, show x1969.toNatClampNeg + 1 = x1981.toNatClampNeg by omega]; exact lpG_if (paS_gp _) (RQ.yes m2011 (by omega))))
          · have k2020 := i_eq c2019
            refine lv_iconst (v := 0) hx hb dX4_both_51 (by decide) ?_
            have cn_F := i_cl (x := F) (by omega)
            have cn_x1 := i_cl (x := x1) (by omega)
            have cn_x1969 := i_cl (x := x1969) (by omega)
            have cn_x1981 := i_cl (x := x1981) (by omega)
            exact x_zret C hQ (Or.inl rfl) dX4_both_52 hSH2000 (by decide) (by decide) (⟨0, x2002, x2003, x2004, rfl, by decide, ex2002, ex2003, ex2004, by omega, m2005, m2006, m2007, m2008, m2009, m2010, Or.inl ⟨hsp12.trans ((if_y (show cAN kk _ = true from decide_eq_true (by omega))).trans (by rw [show x1969.toNatClampNeg + 1 = x1981.toNatClampNeg by omega]; exact lp_none (paS_gp _) (RQ.no m2011 (by omega)))), by omega⟩, (Or.inl (by omega)), f2018, hTH2000⟩)
  refine lv_aload_n hx hb dX4_both_0 rfl (lv_at hl 0 rfl) ?_
  refine lv_iload_n hx hb dX4_both_1 rfl (lv_at hl 1 rfl) ?_
  refine x_V (As := [.int x1]) (rest := []) C (a_X4_part_g2 l K G s.heap (x1) (F) (tat) (fa) (sc) (lw) (li) kk vv hT ga0 (by omega) gmq emq gkq ekq gvq evq gsq esq etat efa esc elw eli hel0 (by omega) (by omega) (by omega) (hy0) f0_kk f0_vv) yo_X4_part wM_X4_135 ⟨⟨by decide, by decide⟩, by decide, by decide⟩ (x_rv C hT (ci := 4) rfl ga0 rg_78) rfl hl.1 rfl (Nat.le_of_ble_eq_true rfl) dX4_both_2 hS (AE_sub (fun _ _ => rfl) (by decide) hS.1) (fun vH2045 H2045 locsH2045 pH2045 zH2045 kH2045 hSH2045 => ?_)
  obtain ⟨x2046, x2047, x2048, x2049, hvH2045, bx2046, ex2047, ex2048, ex2049, hrH2045, m2050, m2051, m2052, m2053, m2054, m2055, m2056, m2057, m2058, hTH2045⟩ := pH2045
  subst hvH2045
  have f2059 : ∀ j : Nat, j ≤ F.toNatClampNeg → kk j = (fI H2045 kq j).toInt := fun j hj => (f0_kk j hj).trans (congrArg Int32.toInt (fI_kept (x_lt hT kH2045 gkq (by decide))).symm)
  have f2060 : ∀ j : Nat, j ≤ F.toNatClampNeg → vv j = (fI H2045 vq j).toInt := fun j hj => (f0_vv j hj).trans (congrArg Int32.toInt (fI_kept (x_lt hT kH2045 gvq (by decide))).symm)
  have m2061 := (fI_kept (x_lt hT kH2045 gkq (by decide))).trans hel0
  have bx2047 := ty_fi (x := x2047) (k := 7) ex2047 hTH2045 ga0 rg_78 rfl
  have bx2048 := ty_fi (x := x2048) (k := 1) ex2048 hTH2045 ga0 rg_78 rfl
  have bx2049 := ty_fi (x := x2049) (k := 9) ex2049 hTH2045 gmq rg_69 rfl
  have f2062 : RFT K H2045 s.heap mq := RFT.st f0_rt m2058
  refine W.eq (g2 := F0 m 5 ls [.int x2046]) rfl ?_
  refine lv_if_ne (tgt := 10) hx hb dX4_both_5 (by decide) (fun c2063 => ?_) (fun c2063 => ?_)
  · have k2064 := i_ne c2063
    have cn_sc := i_cl (x := sc) (by omega)
    have cn_sc := i_cl (x := sc) (by omega)
    have cn_x2049 := i_cl (x := x2049) (by omega)
    have cs2065 : CSP lw.toInt (fun j => fI H2045 sq j) (fun j => fI s.heap sq j) sc.toNatClampNeg (x2049.toNatClampNeg) 17 ([(paF kk vv lw.toInt (8 - x1.toNatClampNeg) tat.toNatClampNeg)]) := CSP.call f0_cs (m2057.resolve_left (by omega)) (by omega) (Nat.le_refl _) (Nat.le_of_ble_eq_true rfl)
    refine lv_iconst (v := 0) hx hb dX4_both_10 (by decide) ?_
    refine lv_istore_n (lv' := [(2, .int 0), (0, .ref a0), (1, .int x1)]) hx hb dX4_both_11 rfl hl (by decide) rfl (fun ls2066 hl2067 => ?_)
    have cn_x2049 := i_cl (x := x2049) (by omega)
    have cn_x2049 := i_cl (x := x2049) (by omega)
    have cn_F := i_cl (x := F) (by omega)
    exact J12 ((500 - (0 : Int32).toInt).toNat + 1) ((paF kk vv lw.toInt (8 - x1.toNatClampNeg) tat.toNatClampNeg)) ls2066 H2045 locsH2045 (0) (x2047) (x2048) (x2049) (lv_sub hl2067 [1, 2, 0] rfl) hTH2045 hSH2045 (by decide) (by have := i_rng x2047; omega) (by have := i_rng x2049; omega) ex2047 ex2048 ex2049 m2050 m2051 m2052 m2053 m2054 m2055 m2061 f2059 f2060 f2062 (CSP.cast cs2065 rfl (by omega) (Nat.le_refl _) rfl) (by omega) (by omega) (hsp0.trans (by exact lp_if (paS_gp _) (RQ.yes m2056 (by omega)))) (hsf0.trans (by exact lpG_if0 (paS_gp _) (RQ.yes m2056 (by omega))))
  · have k2064 := i_eq c2063
    refine lv_iconst (v := 0) hx hb dX4_both_8 (by decide) ?_
    have cn_F := i_cl (x := F) (by omega)
    have cn_x1 := i_cl (x := x1) (by omega)
    exact x_zret C hQ (Or.inl rfl) dX4_both_9 hSH2045 (by decide) (by decide) (⟨0, x2047, x2048, x2049, rfl, by decide, ex2047, ex2048, ex2049, by omega, m2050, m2051, m2052, m2053, m2054, m2055, Or.inl ⟨hsp0.trans (lp_none (paS_gp _) (RQ.no m2056 (by omega))), by omega⟩, (Or.inl (by omega)), f2062, hTH2045⟩)

set_option maxHeartbeats 4000000 in
set_option maxRecDepth 100000 in
theorem a_X4_either_g2 (l : Launch) (K : KE) (G : Nat → Option Nat) (H : Heap) {a0 : Nat} (x1 : Int32) {mq : Nat} {kq : Nat} {vq : Nat} {sq : Nat} (F : Int32) (tat : Int32) (fa : Int32) (sc : Int32) (lw : Int32) (li : Int32) (kk : Nat → Int) (vv : Nat → Int) (hT : TY K G H) (ga0 : G a0 = some 78) (hx1 : 2 ≤ x1.toInt ∧ x1.toInt ≤ 8) (gmq : G mq = some 69) (emq : mq = fR H a0 (K.1.2 4 0)) (gkq : G kq = some 79) (ekq : kq = fR H a0 (K.1.2 4 3)) (gvq : G vq = some 80) (evq : vq = fR H a0 (K.1.2 4 4)) (gsq : G sq = some 77) (esq : sq = fR H mq (K.1.2 7 8)) (etat : tat = fI H a0 (K.1.2 4 7)) (efa : fa = fI H a0 (K.1.2 4 1)) (esc : sc = fI H mq (K.1.2 7 9)) (elw : lw = fI H a0 (K.1.2 4 8)) (eli : li = fI H mq (K.1.2 7 0)) (hel0 : fI H kq (F : Int32).toNatClampNeg = 26) (hp0 : tat.toInt ≤ F.toInt) (hp1 : F.toInt ≤ 500) (hp2 : sc.toInt ≤ tat.toInt) (hy0 : ∀ j : Nat, 0 ≤ vv j ∧ vv j < 100000) (hv_kk : ∀ j : Nat, j ≤ F.toNatClampNeg → kk j = (fI H kq j).toInt) (hv_vv : ∀ j : Nat, j ≤ F.toNatClampNeg → vv j = (fI H vq j).toInt) : MX l K yX4_either cX4_either 3 (some .boolean) 29 647 0 0 [.ref a0, .int x1] H (AE G [78, 69, 77] H.size) (fun v H1 => ∃ (r : Int32) (t0 : Int32) (t1 : Int32) (t2 : Int32), v = some (.int r) ∧ (0 ≤ r.toInt ∧ r.toInt ≤ 1) ∧ t0 = fI H1 a0 (K.1.2 4 7) ∧ t1 = fI H1 a0 (K.1.2 4 1) ∧ t2 = fI H1 mq (K.1.2 7 9) ∧ (t0.toInt ≤ F.toInt ∧ ((r.toInt = 1 ∧ t1.toInt = fa.toInt ∧ tat.toInt < t0.toInt ∧ sc.toInt ≤ t2.toInt ∧ t2.toInt + tat.toInt ≤ sc.toInt + t0.toInt) ∨ (r.toInt = 0 ∧ t1.toInt ≠ 0))) ∧ mq = fR H1 a0 (K.1.2 4 0) ∧ kq = fR H1 a0 (K.1.2 4 3) ∧ vq = fR H1 a0 (K.1.2 4 4) ∧ sq = fR H1 mq (K.1.2 7 8) ∧ lw = fI H1 a0 (K.1.2 4 8) ∧ li = fI H1 mq (K.1.2 7 0) ∧ (RQ (lpI (paS kk vv lw.toInt (8 - x1.toNatClampNeg)) (cAO kk) tat.toNatClampNeg) r t0) ∧ (r.toInt = 0 ∨ CSP lw.toInt (fun j => fI H1 sq j) (fun j => fI H sq j) sc.toNatClampNeg t2.toNatClampNeg 18 [lpG (lpI (paS kk vv lw.toInt (8 - x1.toNatClampNeg)) (cAN kk)) (cOR kk) kk (anG kk (paS kk vv lw.toInt (8 - x1.toNatClampNeg)) (paF kk vv lw.toInt (8 - x1.toNatClampNeg))) 0 zF tat.toNatClampNeg]) ∧ (RFT K H1 H mq) ∧ TY K G H1) := by
  refine MX.of (by decide +kernel) (Nat.le_of_ble_eq_true rfl) ?_
  intro p e s m below meth c ls Q C hH hl hQ
  subst hH
  have C : CX p K s m _ meth c RX4 cX4_either 3 (some .boolean) "either" := C
  obtain ⟨hx, hb, hml, hown, hts, hKT, hr, hlocks, hnm⟩ := id C
  have hl : lv_has ls 3 [(0, .ref a0), (1, .int x1)] := hl
  have hS : va_S (AE G [78, 69, 77] s.heap.size) s.heap s.heap [] := va_S.rf
  have n_0 : (0 : Int32).toInt = 0 := rfl
  have n_1 : (1 : Int32).toInt = 1 := rfl
  have n_8 : (8 : Int32).toInt = 8 := rfl
  have n_26 : (26 : Int32).toInt = 26 := rfl
  have n_500 : (500 : Int32).toInt = 500 := rfl
  have btat := ty_fi (x := tat) (k := 7) etat hT ga0 rg_78 rfl
  have bfa := ty_fi (x := fa) (k := 1) efa hT ga0 rg_78 rfl
  have bsc := ty_fi (x := sc) (k := 9) esc hT gmq rg_69 rfl
  have blw := ty_fi (x := lw) (k := 8) elw hT ga0 rg_78 rfl
  have bli := ty_fi (x := li) (k := 0) eli hT gmq rg_69 rfl
  have hsp0 : lpI (paS kk vv lw.toInt (8 - x1.toNatClampNeg)) (cAO kk) tat.toNatClampNeg = lpI (paS kk vv lw.toInt (8 - x1.toNatClampNeg)) (cAO kk) tat.toNatClampNeg := rfl
  have hsf0 : lpG (lpI (paS kk vv lw.toInt (8 - x1.toNatClampNeg)) (cAN kk)) (cOR kk) kk (anG kk (paS kk vv lw.toInt (8 - x1.toNatClampNeg)) (paF kk vv lw.toInt (8 - x1.toNatClampNeg))) 0 zF tat.toNatClampNeg = lpG (lpI (paS kk vv lw.toInt (8 - x1.toNatClampNeg)) (cAN kk)) (cOR kk) kk (anG kk (paS kk vv lw.toInt (8 - x1.toNatClampNeg)) (paF kk vv lw.toInt (8 - x1.toNatClampNeg))) 0 zF tat.toNatClampNeg := rfl
  have f0_kk := hv_kk
  have f0_vv := hv_vv
  have f0_rt : RFT K s.heap s.heap mq := RFT.rf
  have f0_cs : CSP lw.toInt (fun j => fI s.heap sq j) (fun j => fI s.heap sq j) sc.toNatClampNeg (sc.toNatClampNeg) 18 ([]) := CSP.nil
  have J12 : ∀ (nf : Nat) (a_ : EF) (ls1966 : Array Slot) (H1965 : Heap) (locsH1965 : List Loc) (x1968 : Int32) (x1969 : Int32) (x1970 : Int32) (x1971 : Int32), lv_has ls1966 3 [(0, .ref a0), (1, .int x1), (2, .int x1968)] → TY K G H1965 → va_S (AE G [78, 69, 77] s.heap.size) s.heap H1965 locsH1965 → (0 ≤ x1968.toInt ∧ x1968.toInt ≤ 500) → (0 ≤ x1969.toInt ∧ x1969.toInt ≤ 500) → (0 ≤ x1971.toInt ∧ x1971.toInt ≤ 500) → (x1969 = fI H1965 a0 (K.1.2 4 7)) → (x1970 = fI H1965 a0 (K.1.2 4 1)) → (x1971 = fI H1965 mq (K.1.2 7 9)) → (mq = fR H1965 a0 (K.1.2 4 0)) → (kq = fR H1965 a0 (K.1.2 4 3)) → (vq = fR H1965 a0 (K.1.2 4 4)) → (sq = fR H1965 mq (K.1.2 7 8)) → (lw = fI H1965 a0 (K.1.2 4 8)) → (li = fI H1965 mq (K.1.2 7 0)) → (fI H1965 kq (F : Int32).toNatClampNeg = 26) → (∀ j : Nat, j ≤ F.toNatClampNeg → kk j = (fI H1965 kq j).toInt) → (∀ j : Nat, j ≤ F.toNatClampNeg → vv j = (fI H1965 vq j).toInt) → (RFT K H1965 s.heap mq) → (CSP lw.toInt (fun j => fI H1965 sq j) (fun j => fI s.heap sq j) sc.toNatClampNeg (x1971.toNatClampNeg) 18 ([a_])) → (500 - x1968.toInt < (nf : Int)) → (2 * x1968.toInt ≤ x1969.toInt ∧ tat.toInt < x1969.toInt ∧ x1971.toInt + tat.toInt ≤ sc.toInt + x1969.toInt ∧ x1969.toInt ≤ F.toInt ∧ x1970.toInt = fa.toInt ∧ sc.toInt ≤ x1971.toInt) → (lpI (paS kk vv lw.toInt (8 - x1.toNatClampNeg)) (cAO kk) tat.toNatClampNeg = (if cOR kk x1969.toNatClampNeg = true then lpI (paS kk vv lw.toInt (8 - x1.toNatClampNeg)) (cAO kk) (x1969.toNatClampNeg + 1) else some x1969.toNatClampNeg)) → (lpG (lpI (paS kk vv lw.toInt (8 - x1.toNatClampNeg)) (cAN kk)) (cOR kk) kk (anG kk (paS kk vv lw.toInt (8 - x1.toNatClampNeg)) (paF kk vv lw.toInt (8 - x1.toNatClampNeg))) 0 zF tat.toNatClampNeg = (if cOR kk x1969.toNatClampNeg = true then lpG (lpI (paS kk vv lw.toInt (8 - x1.toNatClampNeg)) (cAN kk)) (cOR kk) kk (anG kk (paS kk vv lw.toInt (8 - x1.toNatClampNeg)) (paF kk vv lw.toInt (8 - x1.toNatClampNeg))) (kk x1969.toNatClampNeg) a_ (x1969.toNatClampNeg + 1) else a_)) → W p l e ({ frames := 29, cells := 0, slots := 0, locals := 647 } : Room) s m (([.ref a0, .int x1] : List Value).toArray) below meth c H1965 locsH1965 0 0 Q (F0 m 12 ls1966 []) := by
    intro nf
    induction nf with
    | zero =>
      intro a_ ls1966 H1965 locsH1965 x1968 x1969 x1970 x1971 hl1967 hTH1965 hSH1965 bx1968 bx1969 bx1971 ex1969 ex1970 ex1971 cy1972_0 cy1972_1 cy1972_2 cy1972_3 cy1972_4 cy1972_5 cy1972_6 fy1972_kk fy1972_vv fy1972_rt fy1972_cs hm12 iv12 hsp12 hsf12
      have rx1970 := i_rng x1970
      exfalso
      omega
    | succ nf ih12 =>
      intro a_ ls1966 H1965 locsH1965 x1968 x1969 x1970 x1971 hl1967 hTH1965 hSH1965 bx1968 bx1969 bx1971 ex1969 ex1970 ex1971 cy1972_0 cy1972_1 cy1972_2 cy1972_3 cy1972_4 cy1972_5 cy1972_6 fy1972_kk fy1972_vv fy1972_rt fy1972_cs hm12 iv12 hsp12 hsf12
      have rx1970 := i_rng x1970
      refine lv_iload_n hx hb dX4_either_12 rfl (lv_at hl1967 2 rfl) ?_
      refine lv_sipush (v := 500) hx hb dX4_either_13 (by decide) ?_
      refine lv_icmp_ge (tgt := 69) hx hb dX4_either_16 (by decide) (fun c1973 => ?_) (fun c1973 => ?_)
      · have k1974 := i_le c1973
        refine lv_iconst (v := 1) hx hb dX4_either_69 (by decide) ?_
        have cn_F := i_cl (x := F) (by omega)
        have cn_x1 := i_cl (x := x1) (by omega)
        have cn_x1969 := i_cl (x := x1969) (by omega)
        have cn_x1971 := i_cl (x := x1971) (by omega)
        have cn_x1971 := i_cl (x := x1971) (by omega)
        exact x_zret C hQ (Or.inr rfl) dX4_either_70 hSH1965 (by decide) (by decide) (⟨1, x1969, x1970, x1971, rfl, by decide, ex1969, ex1970, ex1971, by omega, cy1972_0, cy1972_1, cy1972_2, cy1972_3, cy1972_4, cy1972_5, (by first | (exfalso; omega) | exact Or.inr ⟨hsp12.trans (if_n (show cOR kk _ = false from decide_eq_false (by omega))), by omega⟩), (by first | (exfalso; omega) | exact Or.inr (CSP.cast fy1972_cs rfl (by omega) (Nat.le_refl _) (congrArg (fun z => [z]) (hsf12.trans (if_neg (show ¬ cOR kk _ = true from by rw [show cOR kk _ = false from decide_eq_false (by omega)]; decide)))))), fy1972_rt, hTH1965⟩)
      · have k1974 := i_nle c1973
        refine lv_aload_n hx hb dX4_either_19 rfl (lv_at hl1967 0 rfl) ?_
        refine x_gr C hTH1965 (ci := 4) (k := 3) rfl inX4 (by decide) wF_X4_18 ga0 rg_78 rfl dX4_either_20 (fun q1975 eq1975 gq1975 => ?_)
        have uq1975 : kq = q1975 := (cy1972_1).trans eq1975.symm
        subst uq1975
        refine lv_aload_n hx hb dX4_either_23 rfl (lv_at hl1967 0 rfl) ?_
        refine x_gi C hTH1965 (ci := 4) (k := 7) rfl inX4 (by decide) wF_X4_42 ga0 rg_78 rfl dX4_either_24 (fun x1976 ex1976 bx1976 => ?_)
        have ux1976 : x1969 = x1976 := (ex1969).trans ex1976.symm
        subst ux1976
        refine x_ai C hTH1965 gkq rg_79 ⟨by omega, by show _ < ((501 : Nat) : Int); omega⟩ dX4_either_27 (fun x1977 ex1977 bx1977 => ?_)
        have dx1977 := el_hit ex1977 cy1972_6
        have qvx1977 : kk x1969.toNatClampNeg = x1977.toInt := (fy1972_kk _ (by have h1 := i_cl (x := x1969) (by omega); have h2 := i_cl (x := F) (by omega); omega)).trans (congrArg Int32.toInt ex1977.symm)
        refine lv_bipush (v := 8) hx hb dX4_either_28 (by decide) ?_
        refine lv_icmp_ne (tgt := 69) hx hb dX4_either_30 (by decide) (fun c1978 => ?_) (fun c1978 => ?_)
        · have k1979 := i_ne c1978
          refine lv_iconst (v := 1) hx hb dX4_either_69 (by decide) ?_
          have cn_F := i_cl (x := F) (by omega)
          have cn_x1 := i_cl (x := x1) (by omega)
          have cn_x1969 := i_cl (x := x1969) (by omega)
          have cn_x1971 := i_cl (x := x1971) (by omega)
          have cn_x1971 := i_cl (x := x1971) (by omega)
          exact x_zret C hQ (Or.inr rfl) dX4_either_70 hSH1965 (by decide) (by decide) (⟨1, x1969, x1970, x1971, rfl, by decide, ex1969, ex1970, ex1971, by omega, cy1972_0, cy1972_1, cy1972_2, cy1972_3, cy1972_4, cy1972_5, (by first | (exfalso; omega) | exact Or.inr ⟨hsp12.trans (if_n (show cOR kk _ = false from decide_eq_false (by omega))), by omega⟩), (by first | (exfalso; omega) | exact Or.inr (CSP.cast fy1972_cs rfl (by omega) (Nat.le_refl _) (congrArg (fun z => [z]) (hsf12.trans (if_neg (show ¬ cOR kk _ = true from by rw [show cOR kk _ = false from decide_eq_false (by omega)]; decide)))))), fy1972_rt, hTH1965⟩)
        · have k1979 := i_eq c1978
          refine lv_aload_n hx hb dX4_either_33 rfl (lv_at hl1967 0 rfl) ?_
          refine lv_dup hx hb dX4_either_34 rfl ?_
          refine x_gi C hTH1965 (ci := 4) (k := 7) rfl inX4 (by decide) wF_X4_42 ga0 rg_78 rfl dX4_either_35 (fun x1980 ex1980 bx1980 => ?_)
          have ux1980 : x1969 = x1980 := (ex1969).trans ex1980.symm
          subst ux1980
          refine lv_iconst (v := 1) hx hb dX4_either_38 (by decide) ?_
          refine lv_iadd hx hb dX4_either_39 ?_
          refine lv_topi (fun x1981 ex1981 => ?_)
          have tx1981 := i_add ex1981 (by omega)
          have fz1983 : 0 ≤ x1981.toInt ∧ x1981.toInt ≤ 500 := by have := i_rng x1981; omega
          refine x_put C hTH1965 hSH1965 (ci := 4) (k := 7) (v := .int x1981) (ty0 := tyX4) rfl inX4 tyX4_ok nmX4 (by decide) rfl wF_X4_42 ga0 rg_78 rfl rfl (okI (by have := i_rng x1981; omega) (by have := i_rng x1981; omega)) rfl rfl (AE_in ga0 (by decide)) dX4_either_40 (fun H1982 locsH1982 hTH1982 hSH1982 wH1982 => ?_)
          have f1984 : ∀ j : Nat, j ≤ F.toNatClampNeg → kk j = (fI H1982 kq j).toInt := fun j hj => (fy1972_kk j hj).trans (congrArg Int32.toInt (Wr.neI wH1982 (Or.inl (G_ne gkq ga0 (by decide)))).symm)
          have f1985 : ∀ j : Nat, j ≤ F.toNatClampNeg → vv j = (fI H1982 vq j).toInt := fun j hj => (fy1972_vv j hj).trans (congrArg Int32.toInt (Wr.neI wH1982 (Or.inl (G_ne gvq ga0 (by decide)))).symm)
          have f1986 : RFT K H1982 s.heap mq := RFT.st fy1972_rt (fun k h1 h8 => fR_kept (wH1982.off (G_ne gmq ga0 (by decide))))
          have f1987 : CSP lw.toInt (fun j => fI H1982 sq j) (fun j => fI s.heap sq j) sc.toNatClampNeg (x1971.toNatClampNeg) 18 ([a_]) := CSP.kept fy1972_cs (fun j => fI_kept (wH1982.off (G_ne gsq ga0 (by decide))))
          have m1989 := ex1970.trans (Wr.neI wH1982 (Or.inr (x_apart hKT hts inX4 tyX4 tyX4_ok nmX4 rfl 1 7 (by decide) (by decide) (by decide)))).symm
          have m1990 := ex1971.trans (Wr.neI wH1982 (Or.inl (G_ne gmq ga0 (by decide)))).symm
          have m1991 := cy1972_0.trans (Wr.neR wH1982 (Or.inr (x_apart hKT hts inX4 tyX4 tyX4_ok nmX4 rfl 0 7 (by decide) (by decide) (by decide)))).symm
          have m1992 := cy1972_1.trans (Wr.neR wH1982 (Or.inr (x_apart hKT hts inX4 tyX4 tyX4_ok nmX4 rfl 3 7 (by decide) (by decide) (by decide)))).symm
          have m1993 := cy1972_2.trans (Wr.neR wH1982 (Or.inr (x_apart hKT hts inX4 tyX4 tyX4_ok nmX4 rfl 4 7 (by decide) (by decide) (by decide)))).symm
          have m1994 := cy1972_3.trans (Wr.neR wH1982 (Or.inl (G_ne gmq ga0 (by decide)))).symm
          have m1995 := cy1972_4.trans (Wr.neI wH1982 (Or.inr (x_apart hKT hts inX4 tyX4 tyX4_ok nmX4 rfl 8 7 (by decide) (by decide) (by decide)))).symm
          have m1996 := cy1972_5.trans (Wr.neI wH1982 (Or.inl (G_ne gmq ga0 (by decide)))).symm
          have m1997 := (Wr.neI wH1982 (Or.inl (G_ne gkq ga0 (by decide)))).trans cy1972_6
          have m1998 := ex1977.trans (Wr.neI wH1982 (Or.inl (G_ne gkq ga0 (by decide)))).symm
          have m1999 := Wr.I wH1982
          have m1999 := m1999.symm
          refine lv_aload_n hx hb dX4_either_43 rfl (lv_at hl1967 0 rfl) ?_
          refine lv_iload_n hx hb dX4_either_44 rfl (lv_at hl1967 1 rfl) ?_
          refine x_V (As := [.int x1]) (rest := []) C (a_X4_both_g2 l K G H1982 (x1) (F) (x1981) (x1970) (x1971) (lw) (li) kk vv hTH1982 ga0 (by omega) gmq m1991 gkq m1992 gvq m1993 gsq m1994 m1999 m1989 m1990 m1995 m1996 m1997 (by omega) (by omega) (by omega) (hy0) f1984 f1985) yo_X4_both wM_X4_128 ⟨⟨by decide, by decide⟩, by decide, by decide⟩ (x_rv C hTH1982 (ci := 4) rfl ga0 rg_78) rfl hl1967.1 rfl (Nat.le_of_ble_eq_true rfl) dX4_either_45 hSH1982 (AE_sub (fun _ _ => rfl) (by decide) hSH1982.1) (fun vH2000 H2000 locsH2000 pH2000 zH2000 kH2000 hSH2000 => ?_)
          obtain ⟨x2001, x2002, x2003, x2004, hvH2000, bx2001, ex2002, ex2003, ex2004, hrH2000, m2005, m2006, m2007, m2008, m2009, m2010, m2011, m2012, m2013, hTH2000⟩ := pH2000
          subst hvH2000
          have f2014 : ∀ j : Nat, j ≤ F.toNatClampNeg → kk j = (fI H2000 kq j).toInt := fun j hj => (f1984 j hj).trans (congrArg Int32.toInt (fI_kept (x_lt hTH1982 kH2000 gkq (by decide))).symm)
          have f2015 : ∀ j : Nat, j ≤ F.toNatClampNeg → vv j = (fI H2000 vq j).toInt := fun j hj => (f1985 j hj).trans (congrArg Int32.toInt (fI_kept (x_lt hTH1982 kH2000 gvq (by decide))).symm)
          have m2016 := (fI_kept (x_lt hTH1982 kH2000 gkq (by decide))).trans m1997
          have m2017 := (m1998).trans (fI_kept (x_lt hTH1982 kH2000 gkq (by decide))).symm
          have bx2002 := ty_fi (x := x2002) (k := 7) ex2002 hTH2000 ga0 rg_78 rfl
          have bx2003 := ty_fi (x := x2003) (k := 1) ex2003 hTH2000 ga0 rg_78 rfl
          have bx2004 := ty_fi (x := x2004) (k := 9) ex2004 hTH2000 gmq rg_69 rfl
          have f2018 : RFT K H2000 s.heap mq := RFT.st f1986 m2013
          refine W.eq (g2 := F0 m 48 ls1966 [.int x2001]) rfl ?_
          refine lv_if_ne (tgt := 53) hx hb dX4_either_48 (by decide) (fun c2019 => ?_) (fun c2019 => ?_)
          · have k2020 := i_ne c2019
            have cn_x1971 := i_cl (x := x1971) (by omega)
            have cn_x1971 := i_cl (x := x1971) (by omega)
            have cn_x2004 := i_cl (x := x2004) (by omega)
            have cs2021 : CSP lw.toInt (fun j => fI H2000 sq j) (fun j => fI s.heap sq j) sc.toNatClampNeg (x2004.toNatClampNeg) 18 ([(anG kk (paS kk vv lw.toInt (8 - x1.toNatClampNeg)) (paF kk vv lw.toInt (8 - x1.toNatClampNeg)) x1981.toNatClampNeg), a_]) := CSP.call f1987 (m2012.resolve_left (by omega)) (by omega) (Nat.le_refl _) (Nat.le_of_ble_eq_true rfl)
            refine lv_aload_n hx hb dX4_either_53 rfl (lv_at hl1967 0 rfl) ?_
            refine x_gr C hTH2000 (ci := 4) (k := 0) rfl inX4 (by decide) wF_X4_12 ga0 rg_78 rfl dX4_either_54 (fun q2022 eq2022 gq2022 => ?_)
            have uq2022 : mq = q2022 := (m2005).trans eq2022.symm
            subst uq2022
            refine lv_bipush (v := 8) hx hb dX4_either_57 (by decide) ?_
            refine lv_iconst (v := 0) hx hb dX4_either_59 (by decide) ?_
            refine x_V (As := [.int 8, .int 0]) (rest := []) C (a_X7_addStep_g l K G H2000 (8) (0) (x2004) (li) hTH2000 gmq (by decide) (by decide) gsq m2008 ex2004 m2010 (by omega)) yo_X7_addStep wM_X4_131 ⟨⟨by decide, by decide⟩, by decide, by decide⟩ (x_rv C hTH2000 (ci := 7) rfl gmq rg_69) rfl hl1967.1 rfl (Nat.le_of_ble_eq_true rfl) dX4_either_60 hSH2000 (AE_sub (fun _ _ => rfl) (by decide) hSH2000.1) (fun vH2023 H2023 locsH2023 pH2023 zH2023 kH2023 hSH2023 => ?_)
            obtain ⟨x2024, hvH2023, ex2024, hrH2023, m2025, m2026, m2027, m2028, m2029, hTH2023⟩ := pH2023
            subst hvH2023
            have f2030 : ∀ j : Nat, j ≤ F.toNatClampNeg → kk j = (fI H2023 kq j).toInt := fun j hj => (f2014 j hj).trans (congrArg Int32.toInt (fI_kept (x_lt hTH2000 kH2023 gkq (by decide))).symm)
            have f2031 : ∀ j : Nat, j ≤ F.toNatClampNeg → vv j = (fI H2023 vq j).toInt := fun j hj => (f2015 j hj).trans (congrArg Int32.toInt (fI_kept (x_lt hTH2000 kH2023 gvq (by decide))).symm)
            have m2032 := (fI_kept (x_lt hTH2000 kH2023 gkq (by decide))).trans m2016
            have m2033 := (m2017).trans (fI_kept (x_lt hTH2000 kH2023 gkq (by decide))).symm
            have m2034 := (m2005).trans (fR_kept (x_lt hTH2000 kH2023 ga0 (by decide))).symm
            have m2035 := (m2006).trans (fR_kept (x_lt hTH2000 kH2023 ga0 (by decide))).symm
            have m2036 := (m2007).trans (fR_kept (x_lt hTH2000 kH2023 ga0 (by decide))).symm
            have m2037 := (m2009).trans (fI_kept (x_lt hTH2000 kH2023 ga0 (by decide))).symm
            have m2038 := (ex2002).trans (fI_kept (x_lt hTH2000 kH2023 ga0 (by decide))).symm
            have m2039 := (ex2003).trans (fI_kept (x_lt hTH2000 kH2023 ga0 (by decide))).symm
            have bx2024 := ty_fi (x := x2024) (k := 9) ex2024 hTH2023 gmq rg_69 rfl
            have cn_x2004 := i_cl (x := x2004) (by omega)
            have cn_x2004 := i_cl (x := x2004) (by omega)
            have cn_x2024 := i_cl (x := x2024) (by omega)
            have cs2040 : CSP lw.toInt (fun j => fI H2023 sq j) (fun j => fI s.heap sq j) sc.toNatClampNeg (x2024.toNatClampNeg) 18 ([cbF 8 a_ (anG kk (paS kk vv lw.toInt (8 - x1.toNatClampNeg)) (paF kk vv lw.toInt (8 - x1.toNatClampNeg)) x1981.toNatClampNeg)]) := CSP.bin (s := 8) cs2021 m2027 (Eq.trans m2028 (by omega)) (by omega) (by omega) (by omega)
            have f2041 : RFT K H2023 s.heap mq := RFT.st f2018 m2029
            refine W.eq (g2 := F0 m 63 ls1966 []) rfl ?_
            obtain ⟨x2042, ex2042⟩ : ∃ y : Int32, y = x1968 + 1 := ⟨_, rfl⟩
            have tx2042 := i_add ex2042 (by omega)
            refine lv_iinc (v := x2042) (lv' := [(2, .int x2042), (0, .ref a0), (1, .int x1)]) hx hb dX4_either_63 hl1967 (k := 2) rfl (by rw [ex2042]; rfl) (by decide) rfl (fun ls2043 hl2044 => ?_)
            refine lv_goto (tgt := 12) hx hb dX4_either_66 (by decide) ?_
            have cn_x2024 := i_cl (x := x2024) (by omega)
            have cn_x2024 := i_cl (x := x2024) (by omega)
            have cn_F := i_cl (x := F) (by omega)
            have cn_x1969 := i_cl (x := x1969) (by omega)
            have cn_x1981 := i_cl (x := x1981) (by omega)
            have cn_x1969 := i_cl (x := x1969) (by omega)
            have cn_x1981 := i_cl (x := x1981) (by omega)
            exact ih12 (cbF 8 a_ (anG kk (paS kk vv lw.toInt (8 - x1.toNatClampNeg)) (paF kk vv lw.toInt (8 - x1.toNatClampNeg)) x1981.toNatClampNeg)) ls2043 H2023 locsH2023 (x2042) (x2002) (x2003) (x2024) (lv_sub hl2044 [1, 2, 0] rfl) hTH2023 hSH2023 (by have := i_rng x2042; omega) (by have := i_rng x2002; omega) (by have := i_rng x2024; omega) m2038 m2039 ex2024 m2034 m2035 m2036 m2025 m2037 m2026 m2032 f2030 f2031 f2041 (CSP.cast cs2040 rfl (by omega) (Nat.le_refl _) rfl) (by omega) (by omega) (hsp12.trans (by rw [if_y (show cOR kk _ = true from decide_eq_true (by omega)), show x1969.toNatClampNeg + 1 = x1981.toNatClampNeg by omega]; exact ao_if (paS_gp _) (RQ.yes m2011 (by omega)))) (hsf12.trans (by rw [if_pos (show cOR kk _ = true from decide_eq_true (by omega)), show kk x1969.toNatClampNeg = 8 by omega, show x1969.toNatClampNeg + 1 = x1981.toNatClampNeg by omega]; exact lpG_if (lpI_gp (paS_gp _)) (RQ.yes m2011 (by omega))))
          · have k2020 := i_eq c2019
            refine lv_iconst (v := 0) hx hb dX4_either_51 (by decide) ?_
            have cn_F := i_cl (x := F) (by omega)
            have cn_x1 := i_cl (x := x1) (by omega)
            have cn_x1969 := i_cl (x := x1969) (by omega)
            have cn_x1981 := i_cl (x := x1981) (by omega)
            exact x_zret C hQ (Or.inl rfl) dX4_either_52 hSH2000 (by decide) (by decide) (⟨0, x2002, x2003, x2004, rfl, by decide, ex2002, ex2003, ex2004, by omega, m2005, m2006, m2007, m2008, m2009, m2010, Or.inl ⟨hsp12.trans ((if_y (show cOR kk _ = true from decide_eq_true (by omega))).trans (by rw [show x1969.toNatClampNeg + 1 = x1981.toNatClampNeg by omega]; exact ao_none (paS_gp _) (RQ.no m2011 (by omega)))), by omega⟩, (Or.inl (by omega)), f2018, hTH2000⟩)
  refine lv_aload_n hx hb dX4_either_0 rfl (lv_at hl 0 rfl) ?_
  refine lv_iload_n hx hb dX4_either_1 rfl (lv_at hl 1 rfl) ?_
  refine x_V (As := [.int x1]) (rest := []) C (a_X4_both_g2 l K G s.heap (x1) (F) (tat) (fa) (sc) (lw) (li) kk vv hT ga0 (by omega) gmq emq gkq ekq gvq evq gsq esq etat efa esc elw eli hel0 (by omega) (by omega) (by omega) (hy0) f0_kk f0_vv) yo_X4_both wM_X4_128 ⟨⟨by decide, by decide⟩, by decide, by decide⟩ (x_rv C hT (ci := 4) rfl ga0 rg_78) rfl hl.1 rfl (Nat.le_of_ble_eq_true rfl) dX4_either_2 hS (AE_sub (fun _ _ => rfl) (by decide) hS.1) (fun vH2045 H2045 locsH2045 pH2045 zH2045 kH2045 hSH2045 => ?_)
  obtain ⟨x2046, x2047, x2048, x2049, hvH2045, bx2046, ex2047, ex2048, ex2049, hrH2045, m2050, m2051, m2052, m2053, m2054, m2055, m2056, m2057, m2058, hTH2045⟩ := pH2045
  subst hvH2045
  have f2059 : ∀ j : Nat, j ≤ F.toNatClampNeg → kk j = (fI H2045 kq j).toInt := fun j hj => (f0_kk j hj).trans (congrArg Int32.toInt (fI_kept (x_lt hT kH2045 gkq (by decide))).symm)
  have f2060 : ∀ j : Nat, j ≤ F.toNatClampNeg → vv j = (fI H2045 vq j).toInt := fun j hj => (f0_vv j hj).trans (congrArg Int32.toInt (fI_kept (x_lt hT kH2045 gvq (by decide))).symm)
  have m2061 := (fI_kept (x_lt hT kH2045 gkq (by decide))).trans hel0
  have bx2047 := ty_fi (x := x2047) (k := 7) ex2047 hTH2045 ga0 rg_78 rfl
  have bx2048 := ty_fi (x := x2048) (k := 1) ex2048 hTH2045 ga0 rg_78 rfl
  have bx2049 := ty_fi (x := x2049) (k := 9) ex2049 hTH2045 gmq rg_69 rfl
  have f2062 : RFT K H2045 s.heap mq := RFT.st f0_rt m2058
  refine W.eq (g2 := F0 m 5 ls [.int x2046]) rfl ?_
  refine lv_if_ne (tgt := 10) hx hb dX4_either_5 (by decide) (fun c2063 => ?_) (fun c2063 => ?_)
  · have k2064 := i_ne c2063
    have cn_sc := i_cl (x := sc) (by omega)
    have cn_sc := i_cl (x := sc) (by omega)
    have cn_x2049 := i_cl (x := x2049) (by omega)
    have cs2065 : CSP lw.toInt (fun j => fI H2045 sq j) (fun j => fI s.heap sq j) sc.toNatClampNeg (x2049.toNatClampNeg) 18 ([(anG kk (paS kk vv lw.toInt (8 - x1.toNatClampNeg)) (paF kk vv lw.toInt (8 - x1.toNatClampNeg)) tat.toNatClampNeg)]) := CSP.call f0_cs (m2057.resolve_left (by omega)) (by omega) (Nat.le_refl _) (Nat.le_of_ble_eq_true rfl)
    refine lv_iconst (v := 0) hx hb dX4_either_10 (by decide) ?_
    refine lv_istore_n (lv' := [(2, .int 0), (0, .ref a0), (1, .int x1)]) hx hb dX4_either_11 rfl hl (by decide) rfl (fun ls2066 hl2067 => ?_)
    have cn_x2049 := i_cl (x := x2049) (by omega)
    have cn_x2049 := i_cl (x := x2049) (by omega)
    have cn_F := i_cl (x := F) (by omega)
    exact J12 ((500 - (0 : Int32).toInt).toNat + 1) ((anG kk (paS kk vv lw.toInt (8 - x1.toNatClampNeg)) (paF kk vv lw.toInt (8 - x1.toNatClampNeg)) tat.toNatClampNeg)) ls2066 H2045 locsH2045 (0) (x2047) (x2048) (x2049) (lv_sub hl2067 [1, 2, 0] rfl) hTH2045 hSH2045 (by decide) (by have := i_rng x2047; omega) (by have := i_rng x2049; omega) ex2047 ex2048 ex2049 m2050 m2051 m2052 m2053 m2054 m2055 m2061 f2059 f2060 f2062 (CSP.cast cs2065 rfl (by omega) (Nat.le_refl _) rfl) (by omega) (by omega) (hsp0.trans (by exact ao_if (paS_gp _) (RQ.yes m2056 (by omega)))) (hsf0.trans (by exact lpG_if0 (lpI_gp (paS_gp _)) (RQ.yes m2056 (by omega))))
  · have k2064 := i_eq c2063
    refine lv_iconst (v := 0) hx hb dX4_either_8 (by decide) ?_
    have cn_F := i_cl (x := F) (by omega)
    have cn_x1 := i_cl (x := x1) (by omega)
    exact x_zret C hQ (Or.inl rfl) dX4_either_9 hSH2045 (by decide) (by decide) (⟨0, x2047, x2048, x2049, rfl, by decide, ex2047, ex2048, ex2049, by omega, m2050, m2051, m2052, m2053, m2054, m2055, Or.inl ⟨hsp0.trans (ao_none (paS_gp _) (RQ.no m2056 (by omega))), by omega⟩, (Or.inl (by omega)), f2062, hTH2045⟩)

set_option maxHeartbeats 4000000 in
set_option maxRecDepth 100000 in
theorem a_X4_opened_g2 (l : Launch) (K : KE) (G : Nat → Option Nat) (H : Heap) {a0 : Nat} (x1 : Int32) (x2 : Int32) {mq : Nat} {kq : Nat} {vq : Nat} {sq : Nat} (F : Int32) (tat : Int32) (fa : Int32) (sc : Int32) (lw : Int32) (li : Int32) (kk : Nat → Int) (vv : Nat → Int) (hT : TY K G H) (ga0 : G a0 = some 78) (hx2 : 2 ≤ x2.toInt ∧ x2.toInt ≤ 8) (gmq : G mq = some 69) (emq : mq = fR H a0 (K.1.2 4 0)) (gkq : G kq = some 79) (ekq : kq = fR H a0 (K.1.2 4 3)) (gvq : G vq = some 80) (evq : vq = fR H a0 (K.1.2 4 4)) (gsq : G sq = some 77) (esq : sq = fR H mq (K.1.2 7 8)) (etat : tat = fI H a0 (K.1.2 4 7)) (efa : fa = fI H a0 (K.1.2 4 1)) (esc : sc = fI H mq (K.1.2 7 9)) (elw : lw = fI H a0 (K.1.2 4 8)) (eli : li = fI H mq (K.1.2 7 0)) (hel0 : fI H kq (F : Int32).toNatClampNeg = 26) (hp0 : tat.toInt ≤ F.toInt) (hp1 : F.toInt ≤ 500) (hp2 : sc.toInt ≤ tat.toInt) (hp3 : tat.toInt < F.toInt) (hy0 : ∀ j : Nat, 0 ≤ vv j ∧ vv j < 100000) (hv_kk : ∀ j : Nat, j ≤ F.toNatClampNeg → kk j = (fI H kq j).toInt) (hv_vv : ∀ j : Nat, j ≤ F.toNatClampNeg → vv j = (fI H vq j).toInt) : MX l K yX4_opened cX4_opened 3 (some .boolean) 30 669 0 0 [.ref a0, .int x1, .int x2] H (AE G [78, 69, 77] H.size) (fun v H1 => ∃ (r : Int32) (t0 : Int32) (t1 : Int32) (t2 : Int32), v = some (.int r) ∧ (0 ≤ r.toInt ∧ r.toInt ≤ 1) ∧ t0 = fI H1 a0 (K.1.2 4 7) ∧ t1 = fI H1 a0 (K.1.2 4 1) ∧ t2 = fI H1 mq (K.1.2 7 9) ∧ (t0.toInt ≤ F.toInt ∧ ((r.toInt = 1 ∧ t1.toInt = fa.toInt ∧ tat.toInt < t0.toInt ∧ sc.toInt ≤ t2.toInt ∧ t2.toInt + tat.toInt ≤ sc.toInt + t0.toInt) ∨ (r.toInt = 0 ∧ t1.toInt ≠ 0))) ∧ mq = fR H1 a0 (K.1.2 4 0) ∧ kq = fR H1 a0 (K.1.2 4 3) ∧ vq = fR H1 a0 (K.1.2 4 4) ∧ sq = fR H1 mq (K.1.2 7 8) ∧ lw = fI H1 a0 (K.1.2 4 8) ∧ li = fI H1 mq (K.1.2 7 0) ∧ (RQ (opI kk vv lw.toInt (8 - x2.toNatClampNeg) x1.toInt tat.toNatClampNeg) r t0) ∧ (r.toInt = 0 ∨ CSP lw.toInt (fun j => fI H1 sq j) (fun j => fI H sq j) sc.toNatClampNeg t2.toNatClampNeg 18 [opF kk vv lw.toInt (8 - x2.toNatClampNeg) x1.toInt tat.toNatClampNeg]) ∧ (RFT K H1 H mq) ∧ TY K G H1) := by
  refine MX.of (by decide +kernel) (Nat.le_of_ble_eq_true rfl) ?_
  intro p e s m below meth c ls Q C hH hl hQ
  subst hH
  have C : CX p K s m _ meth c RX4 cX4_opened 3 (some .boolean) "opened" := C
  obtain ⟨hx, hb, hml, hown, hts, hKT, hr, hlocks, hnm⟩ := id C
  have hl : lv_has ls 3 [(0, .ref a0), (1, .int x1), (2, .int x2)] := hl
  have hS : va_S (AE G [78, 69, 77] s.heap.size) s.heap s.heap [] := va_S.rf
  have n_0 : (0 : Int32).toInt = 0 := rfl
  have n_1 : (1 : Int32).toInt = 1 := rfl
  have n_10 : (10 : Int32).toInt = 10 := rfl
  have n_26 : (26 : Int32).toInt = 26 := rfl
  have n_41 : (41 : Int32).toInt = 41 := rfl
  have btat := ty_fi (x := tat) (k := 7) etat hT ga0 rg_78 rfl
  have bfa := ty_fi (x := fa) (k := 1) efa hT ga0 rg_78 rfl
  have bsc := ty_fi (x := sc) (k := 9) esc hT gmq rg_69 rfl
  have blw := ty_fi (x := lw) (k := 8) elw hT ga0 rg_78 rfl
  have bli := ty_fi (x := li) (k := 0) eli hT gmq rg_69 rfl
  have hsp0 : opI kk vv lw.toInt (8 - x2.toNatClampNeg) x1.toInt tat.toNatClampNeg = opI kk vv lw.toInt (8 - x2.toNatClampNeg) x1.toInt tat.toNatClampNeg := rfl
  have hsf0 : opF kk vv lw.toInt (8 - x2.toNatClampNeg) x1.toInt tat.toNatClampNeg = opF kk vv lw.toInt (8 - x2.toNatClampNeg) x1.toInt tat.toNatClampNeg := rfl
  have f0_kk := hv_kk
  have f0_vv := hv_vv
  have f0_rt : RFT K s.heap s.heap mq := RFT.rf
  have f0_cs : CSP lw.toInt (fun j => fI s.heap sq j) (fun j => fI s.heap sq j) sc.toNatClampNeg (sc.toNatClampNeg) 18 ([]) := CSP.nil
  refine lv_aload_n hx hb dX4_opened_0 rfl (lv_at hl 0 rfl) ?_
  refine lv_dup hx hb dX4_opened_1 rfl ?_
  refine x_gi C hT (ci := 4) (k := 7) rfl inX4 (by decide) wF_X4_42 ga0 rg_78 rfl dX4_opened_2 (fun x585 ex585 bx585 => ?_)
  have ux585 : tat = x585 := (etat).trans ex585.symm
  subst ux585
  refine lv_iconst (v := 1) hx hb dX4_opened_5 (by decide) ?_
  refine lv_iadd hx hb dX4_opened_6 ?_
  refine lv_topi (fun x586 ex586 => ?_)
  have tx586 := i_add ex586 (by omega)
  have fz588 : 0 ≤ x586.toInt ∧ x586.toInt ≤ 500 := by have := i_rng x586; omega
  refine x_put C hT hS (ci := 4) (k := 7) (v := .int x586) (ty0 := tyX4) rfl inX4 tyX4_ok nmX4 (by decide) rfl wF_X4_42 ga0 rg_78 rfl rfl (okI (by have := i_rng x586; omega) (by have := i_rng x586; omega)) rfl rfl (AE_in ga0 (by decide)) dX4_opened_7 (fun H587 locsH587 hTH587 hSH587 wH587 => ?_)
  have f589 : ∀ j : Nat, j ≤ F.toNatClampNeg → kk j = (fI H587 kq j).toInt := fun j hj => (f0_kk j hj).trans (congrArg Int32.toInt (Wr.neI wH587 (Or.inl (G_ne gkq ga0 (by decide)))).symm)
  have f590 : ∀ j : Nat, j ≤ F.toNatClampNeg → vv j = (fI H587 vq j).toInt := fun j hj => (f0_vv j hj).trans (congrArg Int32.toInt (Wr.neI wH587 (Or.inl (G_ne gvq ga0 (by decide)))).symm)
  have f591 : RFT K H587 s.heap mq := RFT.st f0_rt (fun k h1 h8 => fR_kept (wH587.off (G_ne gmq ga0 (by decide))))
  have f592 : CSP lw.toInt (fun j => fI H587 sq j) (fun j => fI s.heap sq j) sc.toNatClampNeg (sc.toNatClampNeg) 18 ([]) := CSP.kept f0_cs (fun j => fI_kept (wH587.off (G_ne gsq ga0 (by decide))))
  have m593 := emq.trans (Wr.neR wH587 (Or.inr (x_apart hKT hts inX4 tyX4 tyX4_ok nmX4 rfl 0 7 (by decide) (by decide) (by decide)))).symm
  have m594 := ekq.trans (Wr.neR wH587 (Or.inr (x_apart hKT hts inX4 tyX4 tyX4_ok nmX4 rfl 3 7 (by decide) (by decide) (by decide)))).symm
  have m595 := evq.trans (Wr.neR wH587 (Or.inr (x_apart hKT hts inX4 tyX4 tyX4_ok nmX4 rfl 4 7 (by decide) (by decide) (by decide)))).symm
  have m596 := esq.trans (Wr.neR wH587 (Or.inl (G_ne gmq ga0 (by decide)))).symm
  have m598 := efa.trans (Wr.neI wH587 (Or.inr (x_apart hKT hts inX4 tyX4 tyX4_ok nmX4 rfl 1 7 (by decide) (by decide) (by decide)))).symm
  have m599 := esc.trans (Wr.neI wH587 (Or.inl (G_ne gmq ga0 (by decide)))).symm
  have m600 := elw.trans (Wr.neI wH587 (Or.inr (x_apart hKT hts inX4 tyX4 tyX4_ok nmX4 rfl 8 7 (by decide) (by decide) (by decide)))).symm
  have m601 := eli.trans (Wr.neI wH587 (Or.inl (G_ne gmq ga0 (by decide)))).symm
  have m602 := (Wr.neI wH587 (Or.inl (G_ne gkq ga0 (by decide)))).trans hel0
  have m603 := Wr.I wH587
  have m603 := m603.symm
  refine lv_iload_n hx hb dX4_opened_10 rfl (lv_at hl 1 rfl) ?_
  refine lv_bipush (v := 10) hx hb dX4_opened_11 (by decide) ?_
  refine lv_icmp_ne (tgt := 38) hx hb dX4_opened_13 (by decide) (fun c604 => ?_) (fun c604 => ?_)
  · have k605 := i_ne c604
    refine lv_aload_n hx hb dX4_opened_38 rfl (lv_at hl 0 rfl) ?_
    refine lv_iload_n hx hb dX4_opened_39 rfl (lv_at hl 2 rfl) ?_
    refine x_V (As := [.int x2]) (rest := []) C (a_X4_either_g2 l K G H587 (x2) (F) (x586) (fa) (sc) (lw) (li) kk vv hTH587 ga0 (by omega) gmq m593 gkq m594 gvq m595 gsq m596 m603 m598 m599 m600 m601 m602 (by omega) (by omega) (by omega) (hy0) f589 f590) yo_X4_either wM_X4_113 ⟨⟨by decide, by decide⟩, by decide, by decide⟩ (x_rv C hTH587 (ci := 4) rfl ga0 rg_78) rfl hl.1 rfl (Nat.le_of_ble_eq_true rfl) dX4_opened_40 hSH587 (AE_sub (fun _ _ => rfl) (by decide) hSH587.1) (fun vH606 H606 locsH606 pH606 zH606 kH606 hSH606 => ?_)
    obtain ⟨x607, x608, x609, x610, hvH606, bx607, ex608, ex609, ex610, hrH606, m611, m612, m613, m614, m615, m616, m617, m618, m619, hTH606⟩ := pH606
    subst hvH606
    have f620 : ∀ j : Nat, j ≤ F.toNatClampNeg → kk j = (fI H606 kq j).toInt := fun j hj => (f589 j hj).trans (congrArg Int32.toInt (fI_kept (x_lt hTH587 kH606 gkq (by decide))).symm)
    have f621 : ∀ j : Nat, j ≤ F.toNatClampNeg → vv j = (fI H606 vq j).toInt := fun j hj => (f590 j hj).trans (congrArg Int32.toInt (fI_kept (x_lt hTH587 kH606 gvq (by decide))).symm)
    have m622 := (fI_kept (x_lt hTH587 kH606 gkq (by decide))).trans m602
    have bx608 := ty_fi (x := x608) (k := 7) ex608 hTH606 ga0 rg_78 rfl
    have bx609 := ty_fi (x := x609) (k := 1) ex609 hTH606 ga0 rg_78 rfl
    have bx610 := ty_fi (x := x610) (k := 9) ex610 hTH606 gmq rg_69 rfl
    have f623 : RFT K H606 s.heap mq := RFT.st f591 m619
    refine W.eq (g2 := F0 m 43 ls [.int x607]) rfl ?_
    refine lv_if_ne (tgt := 48) hx hb dX4_opened_43 (by decide) (fun c624 => ?_) (fun c624 => ?_)
    · have k625 := i_ne c624
      have cn_sc := i_cl (x := sc) (by omega)
      have cn_sc := i_cl (x := sc) (by omega)
      have cn_x610 := i_cl (x := x610) (by omega)
      have cs626 : CSP lw.toInt (fun j => fI H606 sq j) (fun j => fI s.heap sq j) sc.toNatClampNeg (x610.toNatClampNeg) 18 ([(orG kk (paS kk vv lw.toInt (8 - x2.toNatClampNeg)) (paF kk vv lw.toInt (8 - x2.toNatClampNeg)) x586.toNatClampNeg)]) := CSP.call f592 (m618.resolve_left (by omega)) (by omega) (Nat.le_refl _) (Nat.le_of_ble_eq_true rfl)
      refine lv_aload_n hx hb dX4_opened_48 rfl (lv_at hl 0 rfl) ?_
      refine x_gr C hTH606 (ci := 4) (k := 3) rfl inX4 (by decide) wF_X4_18 ga0 rg_78 rfl dX4_opened_49 (fun q627 eq627 gq627 => ?_)
      have uq627 : kq = q627 := (m612).trans eq627.symm
      subst uq627
      refine lv_aload_n hx hb dX4_opened_52 rfl (lv_at hl 0 rfl) ?_
      refine x_gi C hTH606 (ci := 4) (k := 7) rfl inX4 (by decide) wF_X4_42 ga0 rg_78 rfl dX4_opened_53 (fun x628 ex628 bx628 => ?_)
      have ux628 : x608 = x628 := (ex608).trans ex628.symm
      subst ux628
      refine x_ai C hTH606 gkq rg_79 ⟨by omega, by show _ < ((501 : Nat) : Int); omega⟩ dX4_opened_56 (fun x629 ex629 bx629 => ?_)
      have dx629 := el_hit ex629 m622
      have qvx629 : kk x608.toNatClampNeg = x629.toInt := (f620 _ (by have h1 := i_cl (x := x608) (by omega); have h2 := i_cl (x := F) (by omega); omega)).trans (congrArg Int32.toInt ex629.symm)
      refine lv_bipush (v := 41) hx hb dX4_opened_57 (by decide) ?_
      refine lv_icmp_eq (tgt := 68) hx hb dX4_opened_59 (by decide) (fun c630 => ?_) (fun c630 => ?_)
      · have k631 := i_eq c630
        refine lv_aload_n hx hb dX4_opened_68 rfl (lv_at hl 0 rfl) ?_
        refine lv_dup hx hb dX4_opened_69 rfl ?_
        refine x_gi C hTH606 (ci := 4) (k := 7) rfl inX4 (by decide) wF_X4_42 ga0 rg_78 rfl dX4_opened_70 (fun x632 ex632 bx632 => ?_)
        have ux632 : x608 = x632 := (ex608).trans ex632.symm
        subst ux632
        refine lv_iconst (v := 1) hx hb dX4_opened_73 (by decide) ?_
        refine lv_iadd hx hb dX4_opened_74 ?_
        refine lv_topi (fun x633 ex633 => ?_)
        have tx633 := i_add ex633 (by omega)
        have fz635 : 0 ≤ x633.toInt ∧ x633.toInt ≤ 500 := by have := i_rng x633; omega
        refine x_put C hTH606 hSH606 (ci := 4) (k := 7) (v := .int x633) (ty0 := tyX4) rfl inX4 tyX4_ok nmX4 (by decide) rfl wF_X4_42 ga0 rg_78 rfl rfl (okI (by have := i_rng x633; omega) (by have := i_rng x633; omega)) rfl rfl (AE_in ga0 (by decide)) dX4_opened_75 (fun H634 locsH634 hTH634 hSH634 wH634 => ?_)
        have f636 : ∀ j : Nat, j ≤ F.toNatClampNeg → kk j = (fI H634 kq j).toInt := fun j hj => (f620 j hj).trans (congrArg Int32.toInt (Wr.neI wH634 (Or.inl (G_ne gkq ga0 (by decide)))).symm)
        have f637 : ∀ j : Nat, j ≤ F.toNatClampNeg → vv j = (fI H634 vq j).toInt := fun j hj => (f621 j hj).trans (congrArg Int32.toInt (Wr.neI wH634 (Or.inl (G_ne gvq ga0 (by decide)))).symm)
        have f638 : RFT K H634 s.heap mq := RFT.st f623 (fun k h1 h8 => fR_kept (wH634.off (G_ne gmq ga0 (by decide))))
        have f639 : CSP lw.toInt (fun j => fI H634 sq j) (fun j => fI s.heap sq j) sc.toNatClampNeg (x610.toNatClampNeg) 18 ([(orG kk (paS kk vv lw.toInt (8 - x2.toNatClampNeg)) (paF kk vv lw.toInt (8 - x2.toNatClampNeg)) x586.toNatClampNeg)]) := CSP.kept cs626 (fun j => fI_kept (wH634.off (G_ne gsq ga0 (by decide))))
        have m640 := (Wr.neI wH634 (Or.inl (G_ne gkq ga0 (by decide)))).trans m622
        have m641 := m611.trans (Wr.neR wH634 (Or.inr (x_apart hKT hts inX4 tyX4 tyX4_ok nmX4 rfl 0 7 (by decide) (by decide) (by decide)))).symm
        have m642 := m612.trans (Wr.neR wH634 (Or.inr (x_apart hKT hts inX4 tyX4 tyX4_ok nmX4 rfl 3 7 (by decide) (by decide) (by decide)))).symm
        have m643 := m613.trans (Wr.neR wH634 (Or.inr (x_apart hKT hts inX4 tyX4 tyX4_ok nmX4 rfl 4 7 (by decide) (by decide) (by decide)))).symm
        have m644 := m614.trans (Wr.neR wH634 (Or.inl (G_ne gmq ga0 (by decide)))).symm
        have m645 := m615.trans (Wr.neI wH634 (Or.inr (x_apart hKT hts inX4 tyX4 tyX4_ok nmX4 rfl 8 7 (by decide) (by decide) (by decide)))).symm
        have m646 := m616.trans (Wr.neI wH634 (Or.inl (G_ne gmq ga0 (by decide)))).symm
        have m648 := ex609.trans (Wr.neI wH634 (Or.inr (x_apart hKT hts inX4 tyX4 tyX4_ok nmX4 rfl 1 7 (by decide) (by decide) (by decide)))).symm
        have m649 := ex610.trans (Wr.neI wH634 (Or.inl (G_ne gmq ga0 (by decide)))).symm
        have m650 := ex629.trans (Wr.neI wH634 (Or.inl (G_ne gkq ga0 (by decide)))).symm
        have m651 := Wr.I wH634
        have m651 := m651.symm
        refine lv_iconst (v := 1) hx hb dX4_opened_78 (by decide) ?_
        have cn_F := i_cl (x := F) (by omega)
        have cn_tat := i_cl (x := tat) (by omega)
        have cn_x2 := i_cl (x := x2) (by omega)
        have cn_x586 := i_cl (x := x586) (by omega)
        have cn_x633 := i_cl (x := x633) (by omega)
        have cn_x608 := i_cl (x := x608) (by omega)
        have cn_x610 := i_cl (x := x610) (by omega)
        have cn_x610 := i_cl (x := x610) (by omega)
        have cn_tat := i_cl (x := tat) (by omega)
        have cn_x586 := i_cl (x := x586) (by omega)
        exact x_zret C hQ (Or.inr rfl) dX4_opened_79 hSH634 (by decide) (by decide) (⟨1, x633, x609, x610, rfl, by decide, m651, m648, m649, by omega, m641, m642, m643, m644, m645, m646, Or.inr ⟨op_ok (by omega) (show x586.toNatClampNeg = _ + 1 by omega) (RQ.yes m617 (by omega)) (by rw [qvx629]; omega) (show x633.toNatClampNeg = _ + 1 by omega), by omega⟩, Or.inr (CSP.cast f639 rfl (by omega) (Nat.le_refl _) (congrArg (fun z => [z]) (opF_br (by omega) (show x586.toNatClampNeg = _ + 1 by omega)))), f638, hTH634⟩)
      · have k631 := i_ne c630
        refine lv_aload_n hx hb dX4_opened_62 rfl (lv_at hl 0 rfl) ?_
        refine lv_iconst (v := 1) hx hb dX4_opened_63 (by decide) ?_
        refine x_V (As := [.int 1]) (rest := []) C (a_X4_refuse_e l K G H606 (1) (x608) (x609) (lw) hTH606 ga0 gmq m611 gkq m612 gvq m613 ex608 ex609 m615) yo_X4_refuse wM_X4_81 ⟨⟨by decide, by decide⟩, by decide, by decide⟩ (x_rv C hTH606 (ci := 4) rfl ga0 rg_78) rfl hl.1 rfl (Nat.le_of_ble_eq_true rfl) dX4_opened_64 hSH606 (AE_sub (fun _ _ => rfl) (by decide) hSH606.1) (fun vH652 H652 locsH652 pH652 zH652 kH652 hSH652 => ?_)
        obtain ⟨x653, x654, x655, hvH652, bx653, ex654, ex655, hrH652, m656, m657, m658, m659, hTH652⟩ := pH652
        subst hvH652
        have f660 : ∀ j : Nat, j ≤ F.toNatClampNeg → kk j = (fI H652 kq j).toInt := fun j hj => (f620 j hj).trans (congrArg Int32.toInt (fI_kept (x_lt hTH606 kH652 gkq (by decide))).symm)
        have f661 : ∀ j : Nat, j ≤ F.toNatClampNeg → vv j = (fI H652 vq j).toInt := fun j hj => (f621 j hj).trans (congrArg Int32.toInt (fI_kept (x_lt hTH606 kH652 gvq (by decide))).symm)
        have f662 : RFT K H652 s.heap mq := RFT.st f623 (fun k h1 h8 => fR_kept (x_lt hTH606 kH652 gmq (by decide)))
        have f663 : CSP lw.toInt (fun j => fI H652 sq j) (fun j => fI s.heap sq j) sc.toNatClampNeg (x610.toNatClampNeg) 18 ([(orG kk (paS kk vv lw.toInt (8 - x2.toNatClampNeg)) (paF kk vv lw.toInt (8 - x2.toNatClampNeg)) x586.toNatClampNeg)]) := CSP.kept cs626 (fun j => fI_kept (x_lt hTH606 kH652 gsq (by decide)))
        have m664 := (fI_kept (x_lt hTH606 kH652 gkq (by decide))).trans m622
        have m665 := (m614).trans (fR_kept (x_lt hTH606 kH652 gmq (by decide))).symm
        have m666 := (m616).trans (fI_kept (x_lt hTH606 kH652 gmq (by decide))).symm
        have m667 := (ex610).trans (fI_kept (x_lt hTH606 kH652 gmq (by decide))).symm
        have m668 := (ex629).trans (fI_kept (x_lt hTH606 kH652 gkq (by decide))).symm
        have bx654 := ty_fi (x := x654) (k := 7) ex654 hTH652 ga0 rg_78 rfl
        have bx655 := ty_fi (x := x655) (k := 1) ex655 hTH652 ga0 rg_78 rfl
        refine W.eq (g2 := F0 m 67 ls [.int x653]) rfl ?_
        have cn_F := i_cl (x := F) (by omega)
        have cn_tat := i_cl (x := tat) (by omega)
        have cn_x2 := i_cl (x := x2) (by omega)
        have cn_x586 := i_cl (x := x586) (by omega)
        exact x_zret C hQ (i_01 (by omega)) dX4_opened_67 hSH652 (by decide) (by decide) (⟨x653, x654, x655, x610, rfl, by omega, ex654, ex655, m667, by omega, m656, m657, m658, m665, m659, m666, Or.inl ⟨op_no2 (by omega) (show x586.toNatClampNeg = _ + 1 by omega) (RQ.yes m617 (by omega)) (by rw [qvx629]; omega), by omega⟩, (Or.inl (by omega)), f662, hTH652⟩)
    · have k625 := i_eq c624
      refine lv_iconst (v := 0) hx hb dX4_opened_46 (by decide) ?_
      have cn_F := i_cl (x := F) (by omega)
      have cn_tat := i_cl (x := tat) (by omega)
      have cn_x2 := i_cl (x := x2) (by omega)
      have cn_x586 := i_cl (x := x586) (by omega)
      exact x_zret C hQ (Or.inl rfl) dX4_opened_47 hSH606 (by decide) (by decide) (⟨0, x608, x609, x610, rfl, by decide, ex608, ex609, ex610, by omega, m611, m612, m613, m614, m615, m616, Or.inl ⟨op_no1 (by omega) (show x586.toNatClampNeg = _ + 1 by omega) (RQ.no m617 (by omega)), by omega⟩, (Or.inl (by omega)), f623, hTH606⟩)
  · have k605 := i_eq c604
    refine lv_aload_n hx hb dX4_opened_16 rfl (lv_at hl 0 rfl) ?_
    refine lv_iload_n hx hb dX4_opened_17 rfl (lv_at hl 2 rfl) ?_
    refine x_V (As := [.int x2]) (rest := []) C (a_X4_part_g2 l K G H587 (x2) (F) (x586) (fa) (sc) (lw) (li) kk vv hTH587 ga0 (by omega) gmq m593 gkq m594 gvq m595 gsq m596 m603 m598 m599 m600 m601 m602 (by omega) (by omega) (by omega) (hy0) f589 f590) yo_X4_part wM_X4_135 ⟨⟨by decide, by decide⟩, by decide, by decide⟩ (x_rv C hTH587 (ci := 4) rfl ga0 rg_78) rfl hl.1 rfl (Nat.le_of_ble_eq_true rfl) dX4_opened_18 hSH587 (AE_sub (fun _ _ => rfl) (by decide) hSH587.1) (fun vH669 H669 locsH669 pH669 zH669 kH669 hSH669 => ?_)
    obtain ⟨x670, x671, x672, x673, hvH669, bx670, ex671, ex672, ex673, hrH669, m674, m675, m676, m677, m678, m679, m680, m681, m682, hTH669⟩ := pH669
    subst hvH669
    have f683 : ∀ j : Nat, j ≤ F.toNatClampNeg → kk j = (fI H669 kq j).toInt := fun j hj => (f589 j hj).trans (congrArg Int32.toInt (fI_kept (x_lt hTH587 kH669 gkq (by decide))).symm)
    have f684 : ∀ j : Nat, j ≤ F.toNatClampNeg → vv j = (fI H669 vq j).toInt := fun j hj => (f590 j hj).trans (congrArg Int32.toInt (fI_kept (x_lt hTH587 kH669 gvq (by decide))).symm)
    have m685 := (fI_kept (x_lt hTH587 kH669 gkq (by decide))).trans m602
    have bx671 := ty_fi (x := x671) (k := 7) ex671 hTH669 ga0 rg_78 rfl
    have bx672 := ty_fi (x := x672) (k := 1) ex672 hTH669 ga0 rg_78 rfl
    have bx673 := ty_fi (x := x673) (k := 9) ex673 hTH669 gmq rg_69 rfl
    have f686 : RFT K H669 s.heap mq := RFT.st f591 m682
    refine W.eq (g2 := F0 m 21 ls [.int x670]) rfl ?_
    refine lv_if_ne (tgt := 26) hx hb dX4_opened_21 (by decide) (fun c687 => ?_) (fun c687 => ?_)
    · have k688 := i_ne c687
      have cn_sc := i_cl (x := sc) (by omega)
      have cn_sc := i_cl (x := sc) (by omega)
      have cn_x673 := i_cl (x := x673) (by omega)
      have cs689 : CSP lw.toInt (fun j => fI H669 sq j) (fun j => fI s.heap sq j) sc.toNatClampNeg (x673.toNatClampNeg) 18 ([(paF kk vv lw.toInt (8 - x2.toNatClampNeg) x586.toNatClampNeg)]) := CSP.call f592 (m681.resolve_left (by omega)) (by omega) (Nat.le_refl _) (Nat.le_of_ble_eq_true rfl)
      refine lv_aload_n hx hb dX4_opened_26 rfl (lv_at hl 0 rfl) ?_
      refine x_gr C hTH669 (ci := 4) (k := 0) rfl inX4 (by decide) wF_X4_12 ga0 rg_78 rfl dX4_opened_27 (fun q690 eq690 gq690 => ?_)
      have uq690 : mq = q690 := (m674).trans eq690.symm
      subst uq690
      refine lv_bipush (v := 10) hx hb dX4_opened_30 (by decide) ?_
      refine lv_iconst (v := 0) hx hb dX4_opened_32 (by decide) ?_
      refine x_V (As := [.int 10, .int 0]) (rest := []) C (a_X7_addStep_g l K G H669 (10) (0) (x673) (li) hTH669 gmq (by decide) (by decide) gsq m677 ex673 m679 (by omega)) yo_X7_addStep wM_X4_131 ⟨⟨by decide, by decide⟩, by decide, by decide⟩ (x_rv C hTH669 (ci := 7) rfl gmq rg_69) rfl hl.1 rfl (Nat.le_of_ble_eq_true rfl) dX4_opened_33 hSH669 (AE_sub (fun _ _ => rfl) (by decide) hSH669.1) (fun vH691 H691 locsH691 pH691 zH691 kH691 hSH691 => ?_)
      obtain ⟨x692, hvH691, ex692, hrH691, m693, m694, m695, m696, m697, hTH691⟩ := pH691
      subst hvH691
      have f698 : ∀ j : Nat, j ≤ F.toNatClampNeg → kk j = (fI H691 kq j).toInt := fun j hj => (f683 j hj).trans (congrArg Int32.toInt (fI_kept (x_lt hTH669 kH691 gkq (by decide))).symm)
      have f699 : ∀ j : Nat, j ≤ F.toNatClampNeg → vv j = (fI H691 vq j).toInt := fun j hj => (f684 j hj).trans (congrArg Int32.toInt (fI_kept (x_lt hTH669 kH691 gvq (by decide))).symm)
      have m700 := (fI_kept (x_lt hTH669 kH691 gkq (by decide))).trans m685
      have m701 := (m674).trans (fR_kept (x_lt hTH669 kH691 ga0 (by decide))).symm
      have m702 := (m675).trans (fR_kept (x_lt hTH669 kH691 ga0 (by decide))).symm
      have m703 := (m676).trans (fR_kept (x_lt hTH669 kH691 ga0 (by decide))).symm
      have m704 := (m678).trans (fI_kept (x_lt hTH669 kH691 ga0 (by decide))).symm
      have m705 := (ex671).trans (fI_kept (x_lt hTH669 kH691 ga0 (by decide))).symm
      have m706 := (ex672).trans (fI_kept (x_lt hTH669 kH691 ga0 (by decide))).symm
      have bx692 := ty_fi (x := x692) (k := 9) ex692 hTH691 gmq rg_69 rfl
      have cn_x673 := i_cl (x := x673) (by omega)
      have cn_x673 := i_cl (x := x673) (by omega)
      have cn_x692 := i_cl (x := x692) (by omega)
      have cs707 : CSP lw.toInt (fun j => fI H691 sq j) (fun j => fI s.heap sq j) sc.toNatClampNeg (x692.toNatClampNeg) 18 ([ntF (paF kk vv lw.toInt (8 - x2.toNatClampNeg) x586.toNatClampNeg)]) := CSP.not cs689 m695 (Eq.trans m696 (by omega)) (by omega) (by omega)
      have f708 : RFT K H691 s.heap mq := RFT.st f686 m697
      refine W.eq (g2 := F0 m 36 ls []) rfl ?_
      refine lv_iconst (v := 1) hx hb dX4_opened_36 (by decide) ?_
      have cn_F := i_cl (x := F) (by omega)
      have cn_tat := i_cl (x := tat) (by omega)
      have cn_x2 := i_cl (x := x2) (by omega)
      have cn_x586 := i_cl (x := x586) (by omega)
      have cn_x692 := i_cl (x := x692) (by omega)
      have cn_x692 := i_cl (x := x692) (by omega)
      have cn_tat := i_cl (x := tat) (by omega)
      have cn_x586 := i_cl (x := x586) (by omega)
      exact x_zret C hQ (Or.inr rfl) dX4_opened_37 hSH691 (by decide) (by decide) (⟨1, x671, x672, x692, rfl, by decide, m705, m706, ex692, by omega, m701, m702, m703, m693, m704, m694, Or.inr ⟨(op_not (by omega) (show x586.toNatClampNeg = _ + 1 by omega)).trans (RQ.yes m680 (by omega)), by omega⟩, Or.inr (CSP.cast cs707 rfl (by omega) (Nat.le_refl _) (congrArg (fun z => [z]) (opF_not (by omega) (show x586.toNatClampNeg = _ + 1 by omega)))), f708, hTH691⟩)
    · have k688 := i_eq c687
      refine lv_iconst (v := 0) hx hb dX4_opened_24 (by decide) ?_
      have cn_F := i_cl (x := F) (by omega)
      have cn_tat := i_cl (x := tat) (by omega)
      have cn_x2 := i_cl (x := x2) (by omega)
      have cn_x586 := i_cl (x := x586) (by omega)
      exact x_zret C hQ (Or.inl rfl) dX4_opened_25 hSH669 (by decide) (by decide) (⟨0, x671, x672, x673, rfl, by decide, ex671, ex672, ex673, by omega, m674, m675, m676, m677, m678, m679, Or.inl ⟨(op_not (by omega) (show x586.toNatClampNeg = _ + 1 by omega)).trans (RQ.no m680 (by omega)), by omega⟩, (Or.inl (by omega)), f686, hTH669⟩)

set_option maxHeartbeats 4000000 in
set_option maxRecDepth 100000 in
theorem a_X4_part_g1 (l : Launch) (K : KE) (G : Nat → Option Nat) (H : Heap) {a0 : Nat} (x1 : Int32) {mq : Nat} {kq : Nat} {vq : Nat} {sq : Nat} (F : Int32) (tat : Int32) (fa : Int32) (sc : Int32) (lw : Int32) (li : Int32) (kk : Nat → Int) (vv : Nat → Int) (hT : TY K G H) (ga0 : G a0 = some 78) (hx1 : 1 ≤ x1.toInt ∧ x1.toInt ≤ 8) (gmq : G mq = some 69) (emq : mq = fR H a0 (K.1.2 4 0)) (gkq : G kq = some 79) (ekq : kq = fR H a0 (K.1.2 4 3)) (gvq : G vq = some 80) (evq : vq = fR H a0 (K.1.2 4 4)) (gsq : G sq = some 77) (esq : sq = fR H mq (K.1.2 7 8)) (etat : tat = fI H a0 (K.1.2 4 7)) (efa : fa = fI H a0 (K.1.2 4 1)) (esc : sc = fI H mq (K.1.2 7 9)) (elw : lw = fI H a0 (K.1.2 4 8)) (eli : li = fI H mq (K.1.2 7 0)) (hel0 : fI H kq (F : Int32).toNatClampNeg = 26) (hp0 : tat.toInt ≤ F.toInt) (hp1 : F.toInt ≤ 500) (hp2 : sc.toInt ≤ tat.toInt) (hy0 : ∀ j : Nat, 0 ≤ vv j ∧ vv j < 100000) (hv_kk : ∀ j : Nat, j ≤ F.toNatClampNeg → kk j = (fI H kq j).toInt) (hv_vv : ∀ j : Nat, j ≤ F.toNatClampNeg → vv j = (fI H vq j).toInt) : MX l K yX4_part cX4_part 4 (some .boolean) 31 691 0 0 [.ref a0, .int x1] H (AE G [78, 69, 77] H.size) (fun v H1 => ∃ (r : Int32) (t0 : Int32) (t1 : Int32) (t2 : Int32), v = some (.int r) ∧ (0 ≤ r.toInt ∧ r.toInt ≤ 1) ∧ t0 = fI H1 a0 (K.1.2 4 7) ∧ t1 = fI H1 a0 (K.1.2 4 1) ∧ t2 = fI H1 mq (K.1.2 7 9) ∧ (t0.toInt ≤ F.toInt ∧ ((r.toInt = 1 ∧ t1.toInt = fa.toInt ∧ tat.toInt < t0.toInt ∧ sc.toInt ≤ t2.toInt ∧ t2.toInt + tat.toInt ≤ sc.toInt + t0.toInt) ∨ (r.toInt = 0 ∧ t1.toInt ≠ 0))) ∧ mq = fR H1 a0 (K.1.2 4 0) ∧ kq = fR H1 a0 (K.1.2 4 3) ∧ vq = fR H1 a0 (K.1.2 4 4) ∧ sq = fR H1 mq (K.1.2 7 8) ∧ lw = fI H1 a0 (K.1.2 4 8) ∧ li = fI H1 mq (K.1.2 7 0) ∧ (RQ (paS kk vv lw.toInt (8 - x1.toNatClampNeg) tat.toNatClampNeg) r t0) ∧ (r.toInt = 0 ∨ CSP lw.toInt (fun j => fI H1 sq j) (fun j => fI H sq j) sc.toNatClampNeg t2.toNatClampNeg 18 [paF kk vv lw.toInt (8 - x1.toNatClampNeg) tat.toNatClampNeg]) ∧ (RFT K H1 H mq) ∧ TY K G H1) := by
  refine MX.of (by decide +kernel) (Nat.le_of_ble_eq_true rfl) ?_
  intro p e s m below meth c ls Q C hH hl hQ
  subst hH
  have C : CX p K s m _ meth c RX4 cX4_part 4 (some .boolean) "part" := C
  obtain ⟨hx, hb, hml, hown, hts, hKT, hr, hlocks, hnm⟩ := id C
  have hl : lv_has ls 4 [(0, .ref a0), (1, .int x1)] := hl
  have hS : va_S (AE G [78, 69, 77] s.heap.size) s.heap s.heap [] := va_S.rf
  have n_0 : (0 : Int32).toInt = 0 := rfl
  have n_1 : (1 : Int32).toInt = 1 := rfl
  have n_3 : (3 : Int32).toInt = 3 := rfl
  have n_8 : (8 : Int32).toInt = 8 := rfl
  have n_10 : (10 : Int32).toInt = 10 := rfl
  have n_26 : (26 : Int32).toInt = 26 := rfl
  have n_40 : (40 : Int32).toInt = 40 := rfl
  have n_60 : (60 : Int32).toInt = 60 := rfl
  have n_61 : (61 : Int32).toInt = 61 := rfl
  have n_62 : (62 : Int32).toInt = 62 := rfl
  have btat := ty_fi (x := tat) (k := 7) etat hT ga0 rg_78 rfl
  have bfa := ty_fi (x := fa) (k := 1) efa hT ga0 rg_78 rfl
  have bsc := ty_fi (x := sc) (k := 9) esc hT gmq rg_69 rfl
  have blw := ty_fi (x := lw) (k := 8) elw hT ga0 rg_78 rfl
  have bli := ty_fi (x := li) (k := 0) eli hT gmq rg_69 rfl
  have hsp0 : paS kk vv lw.toInt (8 - x1.toNatClampNeg) tat.toNatClampNeg = paS kk vv lw.toInt (8 - x1.toNatClampNeg) tat.toNatClampNeg := rfl
  have hsf0 : paF kk vv lw.toInt (8 - x1.toNatClampNeg) tat.toNatClampNeg = paF kk vv lw.toInt (8 - x1.toNatClampNeg) tat.toNatClampNeg := rfl
  have f0_kk := hv_kk
  have f0_vv := hv_vv
  have f0_rt : RFT K s.heap s.heap mq := RFT.rf
  have f0_cs : CSP lw.toInt (fun j => fI s.heap sq j) (fun j => fI s.heap sq j) sc.toNatClampNeg (sc.toNatClampNeg) 18 ([]) := CSP.nil
  refine lv_aload_n hx hb dX4_part_0 rfl (lv_at hl 0 rfl) ?_
  refine x_gr C hT (ci := 4) (k := 3) rfl inX4 (by decide) wF_X4_18 ga0 rg_78 rfl dX4_part_1 (fun q1405 eq1405 gq1405 => ?_)
  have uq1405 : kq = q1405 := (ekq).trans eq1405.symm
  subst uq1405
  refine lv_aload_n hx hb dX4_part_4 rfl (lv_at hl 0 rfl) ?_
  refine x_gi C hT (ci := 4) (k := 7) rfl inX4 (by decide) wF_X4_42 ga0 rg_78 rfl dX4_part_5 (fun x1406 ex1406 bx1406 => ?_)
  have ux1406 : tat = x1406 := (etat).trans ex1406.symm
  subst ux1406
  refine x_ai C hT gkq rg_79 ⟨by omega, by show _ < ((501 : Nat) : Int); omega⟩ dX4_part_8 (fun x1407 ex1407 bx1407 => ?_)
  have dx1407 := el_hit ex1407 hel0
  have qvx1407 : kk tat.toNatClampNeg = x1407.toInt := (f0_kk _ (by have h1 := i_cl (x := tat) (by omega); have h2 := i_cl (x := F) (by omega); omega)).trans (congrArg Int32.toInt ex1407.symm)
  refine lv_istore_n (lv' := [(2, .int x1407), (0, .ref a0), (1, .int x1)]) hx hb dX4_part_9 rfl hl (by decide) rfl (fun ls1408 hl1409 => ?_)
  refine lv_iload_n hx hb dX4_part_10 rfl (lv_at hl1409 0 rfl) ?_
  refine lv_bipush (v := 10) hx hb dX4_part_11 (by decide) ?_
  refine lv_icmp_eq (tgt := 22) hx hb dX4_part_13 (by decide) (fun c1410 => ?_) (fun c1410 => ?_)
  · have k1411 := i_eq c1410
    refine lv_iload_n hx hb dX4_part_22 rfl (lv_at hl1409 2 rfl) ?_
    refine lv_bipush (v := 8) hx hb dX4_part_23 (by decide) ?_
    refine lv_icmp_ge (tgt := 39) hx hb dX4_part_25 (by decide) (fun c1412 => ?_) (fun c1412 => ?_)
    · have k1413 := i_le c1412
      refine lv_aload_n hx hb dX4_part_39 rfl (lv_at hl1409 1 rfl) ?_
      refine lv_iconst (v := 3) hx hb dX4_part_40 (by decide) ?_
      refine x_V (As := [.int 3]) (rest := []) C (a_X4_refuse_e l K G s.heap (3) (tat) (fa) (lw) hT ga0 gmq emq gkq ekq gvq evq etat efa elw) yo_X4_refuse wM_X4_81 ⟨⟨by decide, by decide⟩, by decide, by decide⟩ (x_rv C hT (ci := 4) rfl ga0 rg_78) rfl hl1409.1 rfl (Nat.le_of_ble_eq_true rfl) dX4_part_41 hS (AE_sub (fun _ _ => rfl) (by decide) hS.1) (fun vH1414 H1414 locsH1414 pH1414 zH1414 kH1414 hSH1414 => ?_)
      obtain ⟨x1415, x1416, x1417, hvH1414, bx1415, ex1416, ex1417, hrH1414, m1418, m1419, m1420, m1421, hTH1414⟩ := pH1414
      subst hvH1414
      have f1422 : ∀ j : Nat, j ≤ F.toNatClampNeg → kk j = (fI H1414 kq j).toInt := fun j hj => (f0_kk j hj).trans (congrArg Int32.toInt (fI_kept (x_lt hT kH1414 gkq (by decide))).symm)
      have f1423 : ∀ j : Nat, j ≤ F.toNatClampNeg → vv j = (fI H1414 vq j).toInt := fun j hj => (f0_vv j hj).trans (congrArg Int32.toInt (fI_kept (x_lt hT kH1414 gvq (by decide))).symm)
      have f1424 : RFT K H1414 s.heap mq := RFT.st f0_rt (fun k h1 h8 => fR_kept (x_lt hT kH1414 gmq (by decide)))
      have f1425 : CSP lw.toInt (fun j => fI H1414 sq j) (fun j => fI s.heap sq j) sc.toNatClampNeg (sc.toNatClampNeg) 18 ([]) := CSP.kept f0_cs (fun j => fI_kept (x_lt hT kH1414 gsq (by decide)))
      have m1426 := (esq).trans (fR_kept (x_lt hT kH1414 gmq (by decide))).symm
      have m1427 := (esc).trans (fI_kept (x_lt hT kH1414 gmq (by decide))).symm
      have m1428 := (eli).trans (fI_kept (x_lt hT kH1414 gmq (by decide))).symm
      have m1429 := (fI_kept (x_lt hT kH1414 gkq (by decide))).trans hel0
      have m1430 := (ex1407).trans (fI_kept (x_lt hT kH1414 gkq (by decide))).symm
      have bx1416 := ty_fi (x := x1416) (k := 7) ex1416 hTH1414 ga0 rg_78 rfl
      have bx1417 := ty_fi (x := x1417) (k := 1) ex1417 hTH1414 ga0 rg_78 rfl
      refine W.eq (g2 := F0 m 44 ls1408 [.int x1415]) rfl ?_
      have cn_F := i_cl (x := F) (by omega)
      have cn_tat := i_cl (x := tat) (by omega)
      have cn_x1 := i_cl (x := x1) (by omega)
      have cn_F := i_cl (x := F) (by omega)
      have cn_tat := i_cl (x := tat) (by omega)
      have cn_x1 := i_cl (x := x1) (by omega)
      exact x_zret C hQ (i_01 (by omega)) dX4_part_44 hSH1414 (by decide) (by decide) (⟨x1415, x1416, x1417, sc, rfl, by omega, ex1416, ex1417, m1427, by omega, m1418, m1419, m1420, m1426, m1421, m1428, Or.inl ⟨pa_deep (by omega) (by rw [qvx1407]; omega), by omega⟩, (Or.inl (by omega)), f1424, hTH1414⟩)
    · have k1413 := i_nle c1412
      refine lv_aload_n hx hb dX4_part_28 rfl (lv_at hl1409 1 rfl) ?_
      refine lv_iload_n hx hb dX4_part_29 rfl (lv_at hl1409 0 rfl) ?_
      refine lv_iload_n hx hb dX4_part_30 rfl (lv_at hl1409 2 rfl) ?_
      refine lv_iconst (v := 1) hx hb dX4_part_31 (by decide) ?_
      refine lv_iadd hx hb dX4_part_32 ?_
      refine lv_topi (fun x1431 ex1431 => ?_)
      have tx1431 := i_add ex1431 (by omega)
      refine x_V (As := [.int x1407, .int x1431]) (rest := []) C (a_X4_opened_g2 l K G s.heap (x1407) (x1431) (F) (tat) (fa) (sc) (lw) (li) kk vv hT ga0 (by omega) gmq emq gkq ekq gvq evq gsq esq etat efa esc elw eli hel0 (by omega) (by omega) (by omega) (by omega) (hy0) f0_kk f0_vv) yo_X4_opened wM_X4_138 ⟨⟨by decide, by decide⟩, by decide, by decide⟩ (x_rv C hT (ci := 4) rfl ga0 rg_78) rfl hl1409.1 rfl (Nat.le_of_ble_eq_true rfl) dX4_part_33 hS (AE_sub (fun _ _ => rfl) (by decide) hS.1) (fun vH1432 H1432 locsH1432 pH1432 zH1432 kH1432 hSH1432 => ?_)
      obtain ⟨x1433, x1434, x1435, x1436, hvH1432, bx1433, ex1434, ex1435, ex1436, hrH1432, m1437, m1438, m1439, m1440, m1441, m1442, m1443, m1444, m1445, hTH1432⟩ := pH1432
      subst hvH1432
      have f1446 : ∀ j : Nat, j ≤ F.toNatClampNeg → kk j = (fI H1432 kq j).toInt := fun j hj => (f0_kk j hj).trans (congrArg Int32.toInt (fI_kept (x_lt hT kH1432 gkq (by decide))).symm)
      have f1447 : ∀ j : Nat, j ≤ F.toNatClampNeg → vv j = (fI H1432 vq j).toInt := fun j hj => (f0_vv j hj).trans (congrArg Int32.toInt (fI_kept (x_lt hT kH1432 gvq (by decide))).symm)
      have m1448 := (fI_kept (x_lt hT kH1432 gkq (by decide))).trans hel0
      have m1449 := (ex1407).trans (fI_kept (x_lt hT kH1432 gkq (by decide))).symm
      have bx1434 := ty_fi (x := x1434) (k := 7) ex1434 hTH1432 ga0 rg_78 rfl
      have bx1435 := ty_fi (x := x1435) (k := 1) ex1435 hTH1432 ga0 rg_78 rfl
      have bx1436 := ty_fi (x := x1436) (k := 9) ex1436 hTH1432 gmq rg_69 rfl
      have f1450 : RFT K H1432 s.heap mq := RFT.st f0_rt m1445
      refine W.eq (g2 := F0 m 36 ls1408 [.int x1433]) rfl ?_
      refine lv_goto (tgt := 44) hx hb dX4_part_36 (by decide) ?_
      have cn_F := i_cl (x := F) (by omega)
      have cn_tat := i_cl (x := tat) (by omega)
      have cn_x1 := i_cl (x := x1) (by omega)
      have cn_x1431 := i_cl (x := x1431) (by omega)
      have cn_F := i_cl (x := F) (by omega)
      have cn_tat := i_cl (x := tat) (by omega)
      have cn_x1 := i_cl (x := x1) (by omega)
      have cn_x1431 := i_cl (x := x1431) (by omega)
      have cn_sc := i_cl (x := sc) (by omega)
      have cn_sc := i_cl (x := sc) (by omega)
      have cn_x1436 := i_cl (x := x1436) (by omega)
      exact x_zret C hQ (i_01 (by omega)) dX4_part_44 hSH1432 (by decide) (by decide) (⟨x1433, x1434, x1435, x1436, rfl, by omega, ex1434, ex1435, ex1436, by omega, m1437, m1438, m1439, m1440, m1441, m1442, RQ.tr m1443 (pa_op (by omega) (qvx1407).symm (by rw [qvx1407]; omega)), (m1444.imp id (fun z => CSP.cast (CSP.call f0_cs z (by omega) (Nat.le_refl _) (Nat.le_of_ble_eq_true rfl)) rfl rfl (Nat.le_refl _) (congrArg (fun z => [z]) (paF_op (by omega) (qvx1407).symm (by rw [qvx1407]; omega))))), f1450, hTH1432⟩)
  · have k1411 := i_ne c1410
    refine lv_iload_n hx hb dX4_part_16 rfl (lv_at hl1409 0 rfl) ?_
    refine lv_bipush (v := 40) hx hb dX4_part_17 (by decide) ?_
    refine lv_icmp_ne (tgt := 45) hx hb dX4_part_19 (by decide) (fun c1451 => ?_) (fun c1451 => ?_)
    · have k1452 := i_ne c1451
      refine lv_aload_n hx hb dX4_part_45 rfl (lv_at hl1409 1 rfl) ?_
      refine x_V (As := []) (rest := []) C (a_X4_sum_g l K G s.heap (F) (tat) (fa) (sc) (lw) (li) kk vv hT ga0 gmq emq gkq ekq gvq evq gsq esq etat efa esc elw eli hel0 (by omega) (by omega) (by omega) (hy0) f0_kk f0_vv) yo_X4_sum wM_X4_103 ⟨⟨by decide, by decide⟩, by decide, by decide⟩ (x_rv C hT (ci := 4) rfl ga0 rg_78) rfl hl1409.1 rfl (Nat.le_of_ble_eq_true rfl) dX4_part_46 hS (AE_sub (fun _ _ => rfl) (by decide) hS.1) (fun vH1453 H1453 locsH1453 pH1453 zH1453 kH1453 hSH1453 => ?_)
      obtain ⟨x1454, x1455, x1456, x1457, hvH1453, bx1454, ex1455, ex1456, ex1457, hrH1453, m1458, m1459, m1460, m1461, m1462, m1463, m1464, m1465, m1466, hTH1453⟩ := pH1453
      subst hvH1453
      have f1467 : ∀ j : Nat, j ≤ F.toNatClampNeg → kk j = (fI H1453 kq j).toInt := fun j hj => (f0_kk j hj).trans (congrArg Int32.toInt (fI_kept (x_lt hT kH1453 gkq (by decide))).symm)
      have f1468 : ∀ j : Nat, j ≤ F.toNatClampNeg → vv j = (fI H1453 vq j).toInt := fun j hj => (f0_vv j hj).trans (congrArg Int32.toInt (fI_kept (x_lt hT kH1453 gvq (by decide))).symm)
      have m1469 := (fI_kept (x_lt hT kH1453 gkq (by decide))).trans hel0
      have m1470 := (ex1407).trans (fI_kept (x_lt hT kH1453 gkq (by decide))).symm
      have bx1455 := ty_fi (x := x1455) (k := 7) ex1455 hTH1453 ga0 rg_78 rfl
      have bx1456 := ty_fi (x := x1456) (k := 1) ex1456 hTH1453 ga0 rg_78 rfl
      have bx1457 := ty_fi (x := x1457) (k := 9) ex1457 hTH1453 gmq rg_69 rfl
      have f1471 : RFT K H1453 s.heap mq := RFT.st f0_rt m1466
      refine W.eq (g2 := F0 m 49 ls1408 [.int x1454]) rfl ?_
      refine lv_if_ne (tgt := 54) hx hb dX4_part_49 (by decide) (fun c1472 => ?_) (fun c1472 => ?_)
      · have k1473 := i_ne c1472
        have cn_sc := i_cl (x := sc) (by omega)
        have cn_sc := i_cl (x := sc) (by omega)
        have cn_x1457 := i_cl (x := x1457) (by omega)
        have cs1474 : CSP lw.toInt (fun j => fI H1453 sq j) (fun j => fI s.heap sq j) sc.toNatClampNeg (x1457.toNatClampNeg) 18 ([(smG kk vv lw.toInt tat.toNatClampNeg)]) := CSP.call f0_cs (m1465.resolve_left (by omega)) (by omega) (Nat.le_refl _) (Nat.le_of_ble_eq_true rfl)
        refine lv_aload_n hx hb dX4_part_54 rfl (lv_at hl1409 1 rfl) ?_
        refine x_gr C hTH1453 (ci := 4) (k := 3) rfl inX4 (by decide) wF_X4_18 ga0 rg_78 rfl dX4_part_55 (fun q1475 eq1475 gq1475 => ?_)
        have uq1475 : kq = q1475 := (m1459).trans eq1475.symm
        subst uq1475
        refine lv_aload_n hx hb dX4_part_58 rfl (lv_at hl1409 1 rfl) ?_
        refine x_gi C hTH1453 (ci := 4) (k := 7) rfl inX4 (by decide) wF_X4_42 ga0 rg_78 rfl dX4_part_59 (fun x1476 ex1476 bx1476 => ?_)
        have ux1476 : x1455 = x1476 := (ex1455).trans ex1476.symm
        subst ux1476
        refine x_ai C hTH1453 gkq rg_79 ⟨by omega, by show _ < ((501 : Nat) : Int); omega⟩ dX4_part_62 (fun x1477 ex1477 bx1477 => ?_)
        have dx1477 := el_hit ex1477 m1469
        have qvx1477 : kk x1455.toNatClampNeg = x1477.toInt := (f1467 _ (by have h1 := i_cl (x := x1455) (by omega); have h2 := i_cl (x := F) (by omega); omega)).trans (congrArg Int32.toInt ex1477.symm)
        refine lv_istore_n (lv' := [(3, .int x1477), (2, .int x1407), (0, .ref a0), (1, .int x1)]) hx hb dX4_part_63 rfl hl1409 (by decide) rfl (fun ls1478 hl1479 => ?_)
        refine lv_iload_n hx hb dX4_part_64 rfl (lv_at hl1479 0 rfl) ?_
        refine lv_bipush (v := 60) hx hb dX4_part_65 (by decide) ?_
        refine lv_icmp_eq (tgt := 88) hx hb dX4_part_67 (by decide) (fun c1480 => ?_) (fun c1480 => ?_)
        · have k1481 := i_eq c1480
          refine lv_aload_n hx hb dX4_part_88 rfl (lv_at hl1479 2 rfl) ?_
          refine lv_dup hx hb dX4_part_89 rfl ?_
          refine x_gi C hTH1453 (ci := 4) (k := 7) rfl inX4 (by decide) wF_X4_42 ga0 rg_78 rfl dX4_part_90 (fun x1482 ex1482 bx1482 => ?_)
          have ux1482 : x1455 = x1482 := (ex1455).trans ex1482.symm
          subst ux1482
          refine lv_iconst (v := 1) hx hb dX4_part_93 (by decide) ?_
          refine lv_iadd hx hb dX4_part_94 ?_
          refine lv_topi (fun x1483 ex1483 => ?_)
          have tx1483 := i_add ex1483 (by omega)
          have fz1485 : 0 ≤ x1483.toInt ∧ x1483.toInt ≤ 500 := by have := i_rng x1483; omega
          refine x_put C hTH1453 hSH1453 (ci := 4) (k := 7) (v := .int x1483) (ty0 := tyX4) rfl inX4 tyX4_ok nmX4 (by decide) rfl wF_X4_42 ga0 rg_78 rfl rfl (okI (by have := i_rng x1483; omega) (by have := i_rng x1483; omega)) rfl rfl (AE_in ga0 (by decide)) dX4_part_95 (fun H1484 locsH1484 hTH1484 hSH1484 wH1484 => ?_)
          have f1486 : ∀ j : Nat, j ≤ F.toNatClampNeg → kk j = (fI H1484 kq j).toInt := fun j hj => (f1467 j hj).trans (congrArg Int32.toInt (Wr.neI wH1484 (Or.inl (G_ne gkq ga0 (by decide)))).symm)
          have f1487 : ∀ j : Nat, j ≤ F.toNatClampNeg → vv j = (fI H1484 vq j).toInt := fun j hj => (f1468 j hj).trans (congrArg Int32.toInt (Wr.neI wH1484 (Or.inl (G_ne gvq ga0 (by decide)))).symm)
          have f1488 : RFT K H1484 s.heap mq := RFT.st f1471 (fun k h1 h8 => fR_kept (wH1484.off (G_ne gmq ga0 (by decide))))
          have f1489 : CSP lw.toInt (fun j => fI H1484 sq j) (fun j => fI s.heap sq j) sc.toNatClampNeg (x1457.toNatClampNeg) 18 ([(smG kk vv lw.toInt tat.toNatClampNeg)]) := CSP.kept cs1474 (fun j => fI_kept (wH1484.off (G_ne gsq ga0 (by decide))))
          have m1490 := (Wr.neI wH1484 (Or.inl (G_ne gkq ga0 (by decide)))).trans m1469
          have m1491 := m1470.trans (Wr.neI wH1484 (Or.inl (G_ne gkq ga0 (by decide)))).symm
          have m1492 := m1458.trans (Wr.neR wH1484 (Or.inr (x_apart hKT hts inX4 tyX4 tyX4_ok nmX4 rfl 0 7 (by decide) (by decide) (by decide)))).symm
          have m1493 := m1459.trans (Wr.neR wH1484 (Or.inr (x_apart hKT hts inX4 tyX4 tyX4_ok nmX4 rfl 3 7 (by decide) (by decide) (by decide)))).symm
          have m1494 := m1460.trans (Wr.neR wH1484 (Or.inr (x_apart hKT hts inX4 tyX4 tyX4_ok nmX4 rfl 4 7 (by decide) (by decide) (by decide)))).symm
          have m1495 := m1461.trans (Wr.neR wH1484 (Or.inl (G_ne gmq ga0 (by decide)))).symm
          have m1496 := m1462.trans (Wr.neI wH1484 (Or.inr (x_apart hKT hts inX4 tyX4 tyX4_ok nmX4 rfl 8 7 (by decide) (by decide) (by decide)))).symm
          have m1497 := m1463.trans (Wr.neI wH1484 (Or.inl (G_ne gmq ga0 (by decide)))).symm
          have m1499 := ex1456.trans (Wr.neI wH1484 (Or.inr (x_apart hKT hts inX4 tyX4 tyX4_ok nmX4 rfl 1 7 (by decide) (by decide) (by decide)))).symm
          have m1500 := ex1457.trans (Wr.neI wH1484 (Or.inl (G_ne gmq ga0 (by decide)))).symm
          have m1501 := ex1477.trans (Wr.neI wH1484 (Or.inl (G_ne gkq ga0 (by decide)))).symm
          have m1502 := Wr.I wH1484
          have m1502 := m1502.symm
          refine lv_aload_n hx hb dX4_part_98 rfl (lv_at hl1479 2 rfl) ?_
          refine x_V (As := []) (rest := []) C (a_X4_sum_g l K G H1484 (F) (x1483) (x1456) (x1457) (lw) (li) kk vv hTH1484 ga0 gmq m1492 gkq m1493 gvq m1494 gsq m1495 m1502 m1499 m1500 m1496 m1497 m1490 (by omega) (by omega) (by omega) (hy0) f1486 f1487) yo_X4_sum wM_X4_103 ⟨⟨by decide, by decide⟩, by decide, by decide⟩ (x_rv C hTH1484 (ci := 4) rfl ga0 rg_78) rfl hl1479.1 rfl (Nat.le_of_ble_eq_true rfl) dX4_part_99 hSH1484 (AE_sub (fun _ _ => rfl) (by decide) hSH1484.1) (fun vH1503 H1503 locsH1503 pH1503 zH1503 kH1503 hSH1503 => ?_)
          obtain ⟨x1504, x1505, x1506, x1507, hvH1503, bx1504, ex1505, ex1506, ex1507, hrH1503, m1508, m1509, m1510, m1511, m1512, m1513, m1514, m1515, m1516, hTH1503⟩ := pH1503
          subst hvH1503
          have f1517 : ∀ j : Nat, j ≤ F.toNatClampNeg → kk j = (fI H1503 kq j).toInt := fun j hj => (f1486 j hj).trans (congrArg Int32.toInt (fI_kept (x_lt hTH1484 kH1503 gkq (by decide))).symm)
          have f1518 : ∀ j : Nat, j ≤ F.toNatClampNeg → vv j = (fI H1503 vq j).toInt := fun j hj => (f1487 j hj).trans (congrArg Int32.toInt (fI_kept (x_lt hTH1484 kH1503 gvq (by decide))).symm)
          have m1519 := (fI_kept (x_lt hTH1484 kH1503 gkq (by decide))).trans m1490
          have m1520 := (m1491).trans (fI_kept (x_lt hTH1484 kH1503 gkq (by decide))).symm
          have m1521 := (m1501).trans (fI_kept (x_lt hTH1484 kH1503 gkq (by decide))).symm
          have bx1505 := ty_fi (x := x1505) (k := 7) ex1505 hTH1503 ga0 rg_78 rfl
          have bx1506 := ty_fi (x := x1506) (k := 1) ex1506 hTH1503 ga0 rg_78 rfl
          have bx1507 := ty_fi (x := x1507) (k := 9) ex1507 hTH1503 gmq rg_69 rfl
          have f1522 : RFT K H1503 s.heap mq := RFT.st f1488 m1516
          refine W.eq (g2 := F0 m 102 ls1478 [.int x1504]) rfl ?_
          refine lv_if_ne (tgt := 107) hx hb dX4_part_102 (by decide) (fun c1523 => ?_) (fun c1523 => ?_)
          · have k1524 := i_ne c1523
            have cn_x1457 := i_cl (x := x1457) (by omega)
            have cn_x1457 := i_cl (x := x1457) (by omega)
            have cn_x1507 := i_cl (x := x1507) (by omega)
            have cs1525 : CSP lw.toInt (fun j => fI H1503 sq j) (fun j => fI s.heap sq j) sc.toNatClampNeg (x1507.toNatClampNeg) 18 ([(smG kk vv lw.toInt x1483.toNatClampNeg), (smG kk vv lw.toInt tat.toNatClampNeg)]) := CSP.call f1489 (m1515.resolve_left (by omega)) (by omega) (Nat.le_refl _) (Nat.le_of_ble_eq_true rfl)
            refine lv_aload_n hx hb dX4_part_107 rfl (lv_at hl1479 2 rfl) ?_
            refine x_gr C hTH1503 (ci := 4) (k := 0) rfl inX4 (by decide) wF_X4_12 ga0 rg_78 rfl dX4_part_108 (fun q1526 eq1526 gq1526 => ?_)
            have uq1526 : mq = q1526 := (m1508).trans eq1526.symm
            subst uq1526
            refine lv_iload_n hx hb dX4_part_111 rfl (lv_at hl1479 0 rfl) ?_
            refine lv_iconst (v := 0) hx hb dX4_part_112 (by decide) ?_
            refine x_V (As := [.int x1477, .int 0]) (rest := []) C (a_X7_addStep_g l K G H1503 (x1477) (0) (x1507) (li) hTH1503 gmq (by omega) (by decide) gsq m1511 ex1507 m1513 (by omega)) yo_X7_addStep wM_X4_131 ⟨⟨by decide, by decide⟩, by decide, by decide⟩ (x_rv C hTH1503 (ci := 7) rfl gmq rg_69) rfl hl1479.1 rfl (Nat.le_of_ble_eq_true rfl) dX4_part_113 hSH1503 (AE_sub (fun _ _ => rfl) (by decide) hSH1503.1) (fun vH1527 H1527 locsH1527 pH1527 zH1527 kH1527 hSH1527 => ?_)
            obtain ⟨x1528, hvH1527, ex1528, hrH1527, m1529, m1530, m1531, m1532, m1533, hTH1527⟩ := pH1527
            subst hvH1527
            have f1534 : ∀ j : Nat, j ≤ F.toNatClampNeg → kk j = (fI H1527 kq j).toInt := fun j hj => (f1517 j hj).trans (congrArg Int32.toInt (fI_kept (x_lt hTH1503 kH1527 gkq (by decide))).symm)
            have f1535 : ∀ j : Nat, j ≤ F.toNatClampNeg → vv j = (fI H1527 vq j).toInt := fun j hj => (f1518 j hj).trans (congrArg Int32.toInt (fI_kept (x_lt hTH1503 kH1527 gvq (by decide))).symm)
            have m1536 := (fI_kept (x_lt hTH1503 kH1527 gkq (by decide))).trans m1519
            have m1537 := (m1520).trans (fI_kept (x_lt hTH1503 kH1527 gkq (by decide))).symm
            have m1538 := (m1521).trans (fI_kept (x_lt hTH1503 kH1527 gkq (by decide))).symm
            have m1539 := (m1508).trans (fR_kept (x_lt hTH1503 kH1527 ga0 (by decide))).symm
            have m1540 := (m1509).trans (fR_kept (x_lt hTH1503 kH1527 ga0 (by decide))).symm
            have m1541 := (m1510).trans (fR_kept (x_lt hTH1503 kH1527 ga0 (by decide))).symm
            have m1542 := (m1512).trans (fI_kept (x_lt hTH1503 kH1527 ga0 (by decide))).symm
            have m1543 := (ex1505).trans (fI_kept (x_lt hTH1503 kH1527 ga0 (by decide))).symm
            have m1544 := (ex1506).trans (fI_kept (x_lt hTH1503 kH1527 ga0 (by decide))).symm
            have bx1528 := ty_fi (x := x1528) (k := 9) ex1528 hTH1527 gmq rg_69 rfl
            have cn_x1507 := i_cl (x := x1507) (by omega)
            have cn_x1507 := i_cl (x := x1507) (by omega)
            have cn_x1528 := i_cl (x := x1528) (by omega)
            have cs1545 : CSP lw.toInt (fun j => fI H1527 sq j) (fun j => fI s.heap sq j) sc.toNatClampNeg (x1528.toNatClampNeg) 18 ([cbF x1477.toInt (smG kk vv lw.toInt tat.toNatClampNeg) (smG kk vv lw.toInt x1483.toNatClampNeg)]) := CSP.bin (s := x1477.toInt) cs1525 m1531 (Eq.trans m1532 (by omega)) (by omega) (by omega) (by omega)
            have f1546 : RFT K H1527 s.heap mq := RFT.st f1522 m1533
            refine W.eq (g2 := F0 m 116 ls1478 []) rfl ?_
            refine lv_iconst (v := 1) hx hb dX4_part_116 (by decide) ?_
            have cn_F := i_cl (x := F) (by omega)
            have cn_tat := i_cl (x := tat) (by omega)
            have cn_x1 := i_cl (x := x1) (by omega)
            have cn_x1483 := i_cl (x := x1483) (by omega)
            have cn_x1455 := i_cl (x := x1455) (by omega)
            have cn_F := i_cl (x := F) (by omega)
            have cn_tat := i_cl (x := tat) (by omega)
            have cn_x1 := i_cl (x := x1) (by omega)
            have cn_x1528 := i_cl (x := x1528) (by omega)
            have cn_x1528 := i_cl (x := x1528) (by omega)
            have cn_x1483 := i_cl (x := x1483) (by omega)
            have cn_x1455 := i_cl (x := x1455) (by omega)
            exact x_zret C hQ (Or.inr rfl) dX4_part_117 hSH1527 (by decide) (by decide) (⟨1, x1505, x1506, x1528, rfl, by decide, m1543, m1544, ex1528, by omega, m1539, m1540, m1541, m1529, m1542, m1530, Or.inr ⟨(pa_cp (by rw [qvx1407]; omega)).trans ((cp_go (RQ.yes m1464 (by omega)) (by rw [qvx1477]; omega) (show x1483.toNatClampNeg = _ + 1 by omega)).trans (RQ.yes m1514 (by omega))), by omega⟩, Or.inr (CSP.cast cs1545 rfl (by omega) (Nat.le_refl _) (congrArg (fun z => [z]) ((paF_cp (by rw [qvx1407]; omega)).trans (cpF_at (RQ.yes m1464 (by omega)) qvx1477 (by omega) (show x1483.toNatClampNeg = _ + 1 by omega))))), f1546, hTH1527⟩)
          · have k1524 := i_eq c1523
            refine lv_iconst (v := 0) hx hb dX4_part_105 (by decide) ?_
            have cn_F := i_cl (x := F) (by omega)
            have cn_tat := i_cl (x := tat) (by omega)
            have cn_x1 := i_cl (x := x1) (by omega)
            have cn_x1483 := i_cl (x := x1483) (by omega)
            have cn_x1455 := i_cl (x := x1455) (by omega)
            have cn_F := i_cl (x := F) (by omega)
            have cn_tat := i_cl (x := tat) (by omega)
            have cn_x1 := i_cl (x := x1) (by omega)
            exact x_zret C hQ (Or.inl rfl) dX4_part_106 hSH1503 (by decide) (by decide) (⟨0, x1505, x1506, x1507, rfl, by decide, ex1505, ex1506, ex1507, by omega, m1508, m1509, m1510, m1511, m1512, m1513, Or.inl ⟨(pa_cp (by rw [qvx1407]; omega)).trans ((cp_go (RQ.yes m1464 (by omega)) (by rw [qvx1477]; omega) (show x1483.toNatClampNeg = _ + 1 by omega)).trans (RQ.no m1514 (by omega))), by omega⟩, (Or.inl (by omega)), f1522, hTH1503⟩)
        · have k1481 := i_ne c1480
          refine lv_iload_n hx hb dX4_part_70 rfl (lv_at hl1479 0 rfl) ?_
          refine lv_bipush (v := 61) hx hb dX4_part_71 (by decide) ?_
          refine lv_icmp_eq (tgt := 88) hx hb dX4_part_73 (by decide) (fun c1547 => ?_) (fun c1547 => ?_)
          · have k1548 := i_eq c1547
            refine lv_aload_n hx hb dX4_part_88 rfl (lv_at hl1479 2 rfl) ?_
            refine lv_dup hx hb dX4_part_89 rfl ?_
            refine x_gi C hTH1453 (ci := 4) (k := 7) rfl inX4 (by decide) wF_X4_42 ga0 rg_78 rfl dX4_part_90 (fun x1549 ex1549 bx1549 => ?_)
            have ux1549 : x1455 = x1549 := (ex1455).trans ex1549.symm
            subst ux1549
            refine lv_iconst (v := 1) hx hb dX4_part_93 (by decide) ?_
            refine lv_iadd hx hb dX4_part_94 ?_
            refine lv_topi (fun x1550 ex1550 => ?_)
            have tx1550 := i_add ex1550 (by omega)
            have fz1552 : 0 ≤ x1550.toInt ∧ x1550.toInt ≤ 500 := by have := i_rng x1550; omega
            refine x_put C hTH1453 hSH1453 (ci := 4) (k := 7) (v := .int x1550) (ty0 := tyX4) rfl inX4 tyX4_ok nmX4 (by decide) rfl wF_X4_42 ga0 rg_78 rfl rfl (okI (by have := i_rng x1550; omega) (by have := i_rng x1550; omega)) rfl rfl (AE_in ga0 (by decide)) dX4_part_95 (fun H1551 locsH1551 hTH1551 hSH1551 wH1551 => ?_)
            have f1553 : ∀ j : Nat, j ≤ F.toNatClampNeg → kk j = (fI H1551 kq j).toInt := fun j hj => (f1467 j hj).trans (congrArg Int32.toInt (Wr.neI wH1551 (Or.inl (G_ne gkq ga0 (by decide)))).symm)
            have f1554 : ∀ j : Nat, j ≤ F.toNatClampNeg → vv j = (fI H1551 vq j).toInt := fun j hj => (f1468 j hj).trans (congrArg Int32.toInt (Wr.neI wH1551 (Or.inl (G_ne gvq ga0 (by decide)))).symm)
            have f1555 : RFT K H1551 s.heap mq := RFT.st f1471 (fun k h1 h8 => fR_kept (wH1551.off (G_ne gmq ga0 (by decide))))
            have f1556 : CSP lw.toInt (fun j => fI H1551 sq j) (fun j => fI s.heap sq j) sc.toNatClampNeg (x1457.toNatClampNeg) 18 ([(smG kk vv lw.toInt tat.toNatClampNeg)]) := CSP.kept cs1474 (fun j => fI_kept (wH1551.off (G_ne gsq ga0 (by decide))))
            have m1557 := (Wr.neI wH1551 (Or.inl (G_ne gkq ga0 (by decide)))).trans m1469
            have m1558 := m1470.trans (Wr.neI wH1551 (Or.inl (G_ne gkq ga0 (by decide)))).symm
            have m1559 := m1458.trans (Wr.neR wH1551 (Or.inr (x_apart hKT hts inX4 tyX4 tyX4_ok nmX4 rfl 0 7 (by decide) (by decide) (by decide)))).symm
            have m1560 := m1459.trans (Wr.neR wH1551 (Or.inr (x_apart hKT hts inX4 tyX4 tyX4_ok nmX4 rfl 3 7 (by decide) (by decide) (by decide)))).symm
            have m1561 := m1460.trans (Wr.neR wH1551 (Or.inr (x_apart hKT hts inX4 tyX4 tyX4_ok nmX4 rfl 4 7 (by decide) (by decide) (by decide)))).symm
            have m1562 := m1461.trans (Wr.neR wH1551 (Or.inl (G_ne gmq ga0 (by decide)))).symm
            have m1563 := m1462.trans (Wr.neI wH1551 (Or.inr (x_apart hKT hts inX4 tyX4 tyX4_ok nmX4 rfl 8 7 (by decide) (by decide) (by decide)))).symm
            have m1564 := m1463.trans (Wr.neI wH1551 (Or.inl (G_ne gmq ga0 (by decide)))).symm
            have m1566 := ex1456.trans (Wr.neI wH1551 (Or.inr (x_apart hKT hts inX4 tyX4 tyX4_ok nmX4 rfl 1 7 (by decide) (by decide) (by decide)))).symm
            have m1567 := ex1457.trans (Wr.neI wH1551 (Or.inl (G_ne gmq ga0 (by decide)))).symm
            have m1568 := ex1477.trans (Wr.neI wH1551 (Or.inl (G_ne gkq ga0 (by decide)))).symm
            have m1569 := Wr.I wH1551
            have m1569 := m1569.symm
            refine lv_aload_n hx hb dX4_part_98 rfl (lv_at hl1479 2 rfl) ?_
            refine x_V (As := []) (rest := []) C (a_X4_sum_g l K G H1551 (F) (x1550) (x1456) (x1457) (lw) (li) kk vv hTH1551 ga0 gmq m1559 gkq m1560 gvq m1561 gsq m1562 m1569 m1566 m1567 m1563 m1564 m1557 (by omega) (by omega) (by omega) (hy0) f1553 f1554) yo_X4_sum wM_X4_103 ⟨⟨by decide, by decide⟩, by decide, by decide⟩ (x_rv C hTH1551 (ci := 4) rfl ga0 rg_78) rfl hl1479.1 rfl (Nat.le_of_ble_eq_true rfl) dX4_part_99 hSH1551 (AE_sub (fun _ _ => rfl) (by decide) hSH1551.1) (fun vH1570 H1570 locsH1570 pH1570 zH1570 kH1570 hSH1570 => ?_)
            obtain ⟨x1571, x1572, x1573, x1574, hvH1570, bx1571, ex1572, ex1573, ex1574, hrH1570, m1575, m1576, m1577, m1578, m1579, m1580, m1581, m1582, m1583, hTH1570⟩ := pH1570
            subst hvH1570
            have f1584 : ∀ j : Nat, j ≤ F.toNatClampNeg → kk j = (fI H1570 kq j).toInt := fun j hj => (f1553 j hj).trans (congrArg Int32.toInt (fI_kept (x_lt hTH1551 kH1570 gkq (by decide))).symm)
            have f1585 : ∀ j : Nat, j ≤ F.toNatClampNeg → vv j = (fI H1570 vq j).toInt := fun j hj => (f1554 j hj).trans (congrArg Int32.toInt (fI_kept (x_lt hTH1551 kH1570 gvq (by decide))).symm)
            have m1586 := (fI_kept (x_lt hTH1551 kH1570 gkq (by decide))).trans m1557
            have m1587 := (m1558).trans (fI_kept (x_lt hTH1551 kH1570 gkq (by decide))).symm
            have m1588 := (m1568).trans (fI_kept (x_lt hTH1551 kH1570 gkq (by decide))).symm
            have bx1572 := ty_fi (x := x1572) (k := 7) ex1572 hTH1570 ga0 rg_78 rfl
            have bx1573 := ty_fi (x := x1573) (k := 1) ex1573 hTH1570 ga0 rg_78 rfl
            have bx1574 := ty_fi (x := x1574) (k := 9) ex1574 hTH1570 gmq rg_69 rfl
            have f1589 : RFT K H1570 s.heap mq := RFT.st f1555 m1583
            refine W.eq (g2 := F0 m 102 ls1478 [.int x1571]) rfl ?_
            refine lv_if_ne (tgt := 107) hx hb dX4_part_102 (by decide) (fun c1590 => ?_) (fun c1590 => ?_)
            · have k1591 := i_ne c1590
              have cn_x1457 := i_cl (x := x1457) (by omega)
              have cn_x1457 := i_cl (x := x1457) (by omega)
              have cn_x1574 := i_cl (x := x1574) (by omega)
              have cs1592 : CSP lw.toInt (fun j => fI H1570 sq j) (fun j => fI s.heap sq j) sc.toNatClampNeg (x1574.toNatClampNeg) 18 ([(smG kk vv lw.toInt x1550.toNatClampNeg), (smG kk vv lw.toInt tat.toNatClampNeg)]) := CSP.call f1556 (m1582.resolve_left (by omega)) (by omega) (Nat.le_refl _) (Nat.le_of_ble_eq_true rfl)
              refine lv_aload_n hx hb dX4_part_107 rfl (lv_at hl1479 2 rfl) ?_
              refine x_gr C hTH1570 (ci := 4) (k := 0) rfl inX4 (by decide) wF_X4_12 ga0 rg_78 rfl dX4_part_108 (fun q1593 eq1593 gq1593 => ?_)
              have uq1593 : mq = q1593 := (m1575).trans eq1593.symm
              subst uq1593
              refine lv_iload_n hx hb dX4_part_111 rfl (lv_at hl1479 0 rfl) ?_
              refine lv_iconst (v := 0) hx hb dX4_part_112 (by decide) ?_
              refine x_V (As := [.int x1477, .int 0]) (rest := []) C (a_X7_addStep_g l K G H1570 (x1477) (0) (x1574) (li) hTH1570 gmq (by omega) (by decide) gsq m1578 ex1574 m1580 (by omega)) yo_X7_addStep wM_X4_131 ⟨⟨by decide, by decide⟩, by decide, by decide⟩ (x_rv C hTH1570 (ci := 7) rfl gmq rg_69) rfl hl1479.1 rfl (Nat.le_of_ble_eq_true rfl) dX4_part_113 hSH1570 (AE_sub (fun _ _ => rfl) (by decide) hSH1570.1) (fun vH1594 H1594 locsH1594 pH1594 zH1594 kH1594 hSH1594 => ?_)
              obtain ⟨x1595, hvH1594, ex1595, hrH1594, m1596, m1597, m1598, m1599, m1600, hTH1594⟩ := pH1594
              subst hvH1594
              have f1601 : ∀ j : Nat, j ≤ F.toNatClampNeg → kk j = (fI H1594 kq j).toInt := fun j hj => (f1584 j hj).trans (congrArg Int32.toInt (fI_kept (x_lt hTH1570 kH1594 gkq (by decide))).symm)
              have f1602 : ∀ j : Nat, j ≤ F.toNatClampNeg → vv j = (fI H1594 vq j).toInt := fun j hj => (f1585 j hj).trans (congrArg Int32.toInt (fI_kept (x_lt hTH1570 kH1594 gvq (by decide))).symm)
              have m1603 := (fI_kept (x_lt hTH1570 kH1594 gkq (by decide))).trans m1586
              have m1604 := (m1587).trans (fI_kept (x_lt hTH1570 kH1594 gkq (by decide))).symm
              have m1605 := (m1588).trans (fI_kept (x_lt hTH1570 kH1594 gkq (by decide))).symm
              have m1606 := (m1575).trans (fR_kept (x_lt hTH1570 kH1594 ga0 (by decide))).symm
              have m1607 := (m1576).trans (fR_kept (x_lt hTH1570 kH1594 ga0 (by decide))).symm
              have m1608 := (m1577).trans (fR_kept (x_lt hTH1570 kH1594 ga0 (by decide))).symm
              have m1609 := (m1579).trans (fI_kept (x_lt hTH1570 kH1594 ga0 (by decide))).symm
              have m1610 := (ex1572).trans (fI_kept (x_lt hTH1570 kH1594 ga0 (by decide))).symm
              have m1611 := (ex1573).trans (fI_kept (x_lt hTH1570 kH1594 ga0 (by decide))).symm
              have bx1595 := ty_fi (x := x1595) (k := 9) ex1595 hTH1594 gmq rg_69 rfl
              have cn_x1574 := i_cl (x := x1574) (by omega)
              have cn_x1574 := i_cl (x := x1574) (by omega)
              have cn_x1595 := i_cl (x := x1595) (by omega)
              have cs1612 : CSP lw.toInt (fun j => fI H1594 sq j) (fun j => fI s.heap sq j) sc.toNatClampNeg (x1595.toNatClampNeg) 18 ([cbF x1477.toInt (smG kk vv lw.toInt tat.toNatClampNeg) (smG kk vv lw.toInt x1550.toNatClampNeg)]) := CSP.bin (s := x1477.toInt) cs1592 m1598 (Eq.trans m1599 (by omega)) (by omega) (by omega) (by omega)
              have f1613 : RFT K H1594 s.heap mq := RFT.st f1589 m1600
              refine W.eq (g2 := F0 m 116 ls1478 []) rfl ?_
              refine lv_iconst (v := 1) hx hb dX4_part_116 (by decide) ?_
              have cn_F := i_cl (x := F) (by omega)
              have cn_tat := i_cl (x := tat) (by omega)
              have cn_x1 := i_cl (x := x1) (by omega)
              have cn_x1550 := i_cl (x := x1550) (by omega)
              have cn_x1455 := i_cl (x := x1455) (by omega)
              have cn_F := i_cl (x := F) (by omega)
              have cn_tat := i_cl (x := tat) (by omega)
              have cn_x1 := i_cl (x := x1) (by omega)
              have cn_x1595 := i_cl (x := x1595) (by omega)
              have cn_x1595 := i_cl (x := x1595) (by omega)
              have cn_x1550 := i_cl (x := x1550) (by omega)
              have cn_x1455 := i_cl (x := x1455) (by omega)
              exact x_zret C hQ (Or.inr rfl) dX4_part_117 hSH1594 (by decide) (by decide) (⟨1, x1572, x1573, x1595, rfl, by decide, m1610, m1611, ex1595, by omega, m1606, m1607, m1608, m1596, m1609, m1597, Or.inr ⟨(pa_cp (by rw [qvx1407]; omega)).trans ((cp_go (RQ.yes m1464 (by omega)) (by rw [qvx1477]; omega) (show x1550.toNatClampNeg = _ + 1 by omega)).trans (RQ.yes m1581 (by omega))), by omega⟩, Or.inr (CSP.cast cs1612 rfl (by omega) (Nat.le_refl _) (congrArg (fun z => [z]) ((paF_cp (by rw [qvx1407]; omega)).trans (cpF_at (RQ.yes m1464 (by omega)) qvx1477 (by omega) (show x1550.toNatClampNeg = _ + 1 by omega))))), f1613, hTH1594⟩)
            · have k1591 := i_eq c1590
              refine lv_iconst (v := 0) hx hb dX4_part_105 (by decide) ?_
              have cn_F := i_cl (x := F) (by omega)
              have cn_tat := i_cl (x := tat) (by omega)
              have cn_x1 := i_cl (x := x1) (by omega)
              have cn_x1550 := i_cl (x := x1550) (by omega)
              have cn_x1455 := i_cl (x := x1455) (by omega)
              have cn_F := i_cl (x := F) (by omega)
              have cn_tat := i_cl (x := tat) (by omega)
              have cn_x1 := i_cl (x := x1) (by omega)
              exact x_zret C hQ (Or.inl rfl) dX4_part_106 hSH1570 (by decide) (by decide) (⟨0, x1572, x1573, x1574, rfl, by decide, ex1572, ex1573, ex1574, by omega, m1575, m1576, m1577, m1578, m1579, m1580, Or.inl ⟨(pa_cp (by rw [qvx1407]; omega)).trans ((cp_go (RQ.yes m1464 (by omega)) (by rw [qvx1477]; omega) (show x1550.toNatClampNeg = _ + 1 by omega)).trans (RQ.no m1581 (by omega))), by omega⟩, (Or.inl (by omega)), f1589, hTH1570⟩)
          · have k1548 := i_ne c1547
            refine lv_iload_n hx hb dX4_part_76 rfl (lv_at hl1479 0 rfl) ?_
            refine lv_bipush (v := 62) hx hb dX4_part_77 (by decide) ?_
            refine lv_icmp_eq (tgt := 88) hx hb dX4_part_79 (by decide) (fun c1614 => ?_) (fun c1614 => ?_)
            · have k1615 := i_eq c1614
              refine lv_aload_n hx hb dX4_part_88 rfl (lv_at hl1479 2 rfl) ?_
              refine lv_dup hx hb dX4_part_89 rfl ?_
              refine x_gi C hTH1453 (ci := 4) (k := 7) rfl inX4 (by decide) wF_X4_42 ga0 rg_78 rfl dX4_part_90 (fun x1616 ex1616 bx1616 => ?_)
              have ux1616 : x1455 = x1616 := (ex1455).trans ex1616.symm
              subst ux1616
              refine lv_iconst (v := 1) hx hb dX4_part_93 (by decide) ?_
              refine lv_iadd hx hb dX4_part_94 ?_
              refine lv_topi (fun x1617 ex1617 => ?_)
              have tx1617 := i_add ex1617 (by omega)
              have fz1619 : 0 ≤ x1617.toInt ∧ x1617.toInt ≤ 500 := by have := i_rng x1617; omega
              refine x_put C hTH1453 hSH1453 (ci := 4) (k := 7) (v := .int x1617) (ty0 := tyX4) rfl inX4 tyX4_ok nmX4 (by decide) rfl wF_X4_42 ga0 rg_78 rfl rfl (okI (by have := i_rng x1617; omega) (by have := i_rng x1617; omega)) rfl rfl (AE_in ga0 (by decide)) dX4_part_95 (fun H1618 locsH1618 hTH1618 hSH1618 wH1618 => ?_)
              have f1620 : ∀ j : Nat, j ≤ F.toNatClampNeg → kk j = (fI H1618 kq j).toInt := fun j hj => (f1467 j hj).trans (congrArg Int32.toInt (Wr.neI wH1618 (Or.inl (G_ne gkq ga0 (by decide)))).symm)
              have f1621 : ∀ j : Nat, j ≤ F.toNatClampNeg → vv j = (fI H1618 vq j).toInt := fun j hj => (f1468 j hj).trans (congrArg Int32.toInt (Wr.neI wH1618 (Or.inl (G_ne gvq ga0 (by decide)))).symm)
              have f1622 : RFT K H1618 s.heap mq := RFT.st f1471 (fun k h1 h8 => fR_kept (wH1618.off (G_ne gmq ga0 (by decide))))
              have f1623 : CSP lw.toInt (fun j => fI H1618 sq j) (fun j => fI s.heap sq j) sc.toNatClampNeg (x1457.toNatClampNeg) 18 ([(smG kk vv lw.toInt tat.toNatClampNeg)]) := CSP.kept cs1474 (fun j => fI_kept (wH1618.off (G_ne gsq ga0 (by decide))))
              have m1624 := (Wr.neI wH1618 (Or.inl (G_ne gkq ga0 (by decide)))).trans m1469
              have m1625 := m1470.trans (Wr.neI wH1618 (Or.inl (G_ne gkq ga0 (by decide)))).symm
              have m1626 := m1458.trans (Wr.neR wH1618 (Or.inr (x_apart hKT hts inX4 tyX4 tyX4_ok nmX4 rfl 0 7 (by decide) (by decide) (by decide)))).symm
              have m1627 := m1459.trans (Wr.neR wH1618 (Or.inr (x_apart hKT hts inX4 tyX4 tyX4_ok nmX4 rfl 3 7 (by decide) (by decide) (by decide)))).symm
              have m1628 := m1460.trans (Wr.neR wH1618 (Or.inr (x_apart hKT hts inX4 tyX4 tyX4_ok nmX4 rfl 4 7 (by decide) (by decide) (by decide)))).symm
              have m1629 := m1461.trans (Wr.neR wH1618 (Or.inl (G_ne gmq ga0 (by decide)))).symm
              have m1630 := m1462.trans (Wr.neI wH1618 (Or.inr (x_apart hKT hts inX4 tyX4 tyX4_ok nmX4 rfl 8 7 (by decide) (by decide) (by decide)))).symm
              have m1631 := m1463.trans (Wr.neI wH1618 (Or.inl (G_ne gmq ga0 (by decide)))).symm
              have m1633 := ex1456.trans (Wr.neI wH1618 (Or.inr (x_apart hKT hts inX4 tyX4 tyX4_ok nmX4 rfl 1 7 (by decide) (by decide) (by decide)))).symm
              have m1634 := ex1457.trans (Wr.neI wH1618 (Or.inl (G_ne gmq ga0 (by decide)))).symm
              have m1635 := ex1477.trans (Wr.neI wH1618 (Or.inl (G_ne gkq ga0 (by decide)))).symm
              have m1636 := Wr.I wH1618
              have m1636 := m1636.symm
              refine lv_aload_n hx hb dX4_part_98 rfl (lv_at hl1479 2 rfl) ?_
              refine x_V (As := []) (rest := []) C (a_X4_sum_g l K G H1618 (F) (x1617) (x1456) (x1457) (lw) (li) kk vv hTH1618 ga0 gmq m1626 gkq m1627 gvq m1628 gsq m1629 m1636 m1633 m1634 m1630 m1631 m1624 (by omega) (by omega) (by omega) (hy0) f1620 f1621) yo_X4_sum wM_X4_103 ⟨⟨by decide, by decide⟩, by decide, by decide⟩ (x_rv C hTH1618 (ci := 4) rfl ga0 rg_78) rfl hl1479.1 rfl (Nat.le_of_ble_eq_true rfl) dX4_part_99 hSH1618 (AE_sub (fun _ _ => rfl) (by decide) hSH1618.1) (fun vH1637 H1637 locsH1637 pH1637 zH1637 kH1637 hSH1637 => ?_)
              obtain ⟨x1638, x1639, x1640, x1641, hvH1637, bx1638, ex1639, ex1640, ex1641, hrH1637, m1642, m1643, m1644, m1645, m1646, m1647, m1648, m1649, m1650, hTH1637⟩ := pH1637
              subst hvH1637
              have f1651 : ∀ j : Nat, j ≤ F.toNatClampNeg → kk j = (fI H1637 kq j).toInt := fun j hj => (f1620 j hj).trans (congrArg Int32.toInt (fI_kept (x_lt hTH1618 kH1637 gkq (by decide))).symm)
              have f1652 : ∀ j : Nat, j ≤ F.toNatClampNeg → vv j = (fI H1637 vq j).toInt := fun j hj => (f1621 j hj).trans (congrArg Int32.toInt (fI_kept (x_lt hTH1618 kH1637 gvq (by decide))).symm)
              have m1653 := (fI_kept (x_lt hTH1618 kH1637 gkq (by decide))).trans m1624
              have m1654 := (m1625).trans (fI_kept (x_lt hTH1618 kH1637 gkq (by decide))).symm
              have m1655 := (m1635).trans (fI_kept (x_lt hTH1618 kH1637 gkq (by decide))).symm
              have bx1639 := ty_fi (x := x1639) (k := 7) ex1639 hTH1637 ga0 rg_78 rfl
              have bx1640 := ty_fi (x := x1640) (k := 1) ex1640 hTH1637 ga0 rg_78 rfl
              have bx1641 := ty_fi (x := x1641) (k := 9) ex1641 hTH1637 gmq rg_69 rfl
              have f1656 : RFT K H1637 s.heap mq := RFT.st f1622 m1650
              refine W.eq (g2 := F0 m 102 ls1478 [.int x1638]) rfl ?_
              refine lv_if_ne (tgt := 107) hx hb dX4_part_102 (by decide) (fun c1657 => ?_) (fun c1657 => ?_)
              · have k1658 := i_ne c1657
                have cn_x1457 := i_cl (x := x1457) (by omega)
                have cn_x1457 := i_cl (x := x1457) (by omega)
                have cn_x1641 := i_cl (x := x1641) (by omega)
                have cs1659 : CSP lw.toInt (fun j => fI H1637 sq j) (fun j => fI s.heap sq j) sc.toNatClampNeg (x1641.toNatClampNeg) 18 ([(smG kk vv lw.toInt x1617.toNatClampNeg), (smG kk vv lw.toInt tat.toNatClampNeg)]) := CSP.call f1623 (m1649.resolve_left (by omega)) (by omega) (Nat.le_refl _) (Nat.le_of_ble_eq_true rfl)
                refine lv_aload_n hx hb dX4_part_107 rfl (lv_at hl1479 2 rfl) ?_
                refine x_gr C hTH1637 (ci := 4) (k := 0) rfl inX4 (by decide) wF_X4_12 ga0 rg_78 rfl dX4_part_108 (fun q1660 eq1660 gq1660 => ?_)
                have uq1660 : mq = q1660 := (m1642).trans eq1660.symm
                subst uq1660
                refine lv_iload_n hx hb dX4_part_111 rfl (lv_at hl1479 0 rfl) ?_
                refine lv_iconst (v := 0) hx hb dX4_part_112 (by decide) ?_
                refine x_V (As := [.int x1477, .int 0]) (rest := []) C (a_X7_addStep_g l K G H1637 (x1477) (0) (x1641) (li) hTH1637 gmq (by omega) (by decide) gsq m1645 ex1641 m1647 (by omega)) yo_X7_addStep wM_X4_131 ⟨⟨by decide, by decide⟩, by decide, by decide⟩ (x_rv C hTH1637 (ci := 7) rfl gmq rg_69) rfl hl1479.1 rfl (Nat.le_of_ble_eq_true rfl) dX4_part_113 hSH1637 (AE_sub (fun _ _ => rfl) (by decide) hSH1637.1) (fun vH1661 H1661 locsH1661 pH1661 zH1661 kH1661 hSH1661 => ?_)
                obtain ⟨x1662, hvH1661, ex1662, hrH1661, m1663, m1664, m1665, m1666, m1667, hTH1661⟩ := pH1661
                subst hvH1661
                have f1668 : ∀ j : Nat, j ≤ F.toNatClampNeg → kk j = (fI H1661 kq j).toInt := fun j hj => (f1651 j hj).trans (congrArg Int32.toInt (fI_kept (x_lt hTH1637 kH1661 gkq (by decide))).symm)
                have f1669 : ∀ j : Nat, j ≤ F.toNatClampNeg → vv j = (fI H1661 vq j).toInt := fun j hj => (f1652 j hj).trans (congrArg Int32.toInt (fI_kept (x_lt hTH1637 kH1661 gvq (by decide))).symm)
                have m1670 := (fI_kept (x_lt hTH1637 kH1661 gkq (by decide))).trans m1653
                have m1671 := (m1654).trans (fI_kept (x_lt hTH1637 kH1661 gkq (by decide))).symm
                have m1672 := (m1655).trans (fI_kept (x_lt hTH1637 kH1661 gkq (by decide))).symm
                have m1673 := (m1642).trans (fR_kept (x_lt hTH1637 kH1661 ga0 (by decide))).symm
                have m1674 := (m1643).trans (fR_kept (x_lt hTH1637 kH1661 ga0 (by decide))).symm
                have m1675 := (m1644).trans (fR_kept (x_lt hTH1637 kH1661 ga0 (by decide))).symm
                have m1676 := (m1646).trans (fI_kept (x_lt hTH1637 kH1661 ga0 (by decide))).symm
                have m1677 := (ex1639).trans (fI_kept (x_lt hTH1637 kH1661 ga0 (by decide))).symm
                have m1678 := (ex1640).trans (fI_kept (x_lt hTH1637 kH1661 ga0 (by decide))).symm
                have bx1662 := ty_fi (x := x1662) (k := 9) ex1662 hTH1661 gmq rg_69 rfl
                have cn_x1641 := i_cl (x := x1641) (by omega)
                have cn_x1641 := i_cl (x := x1641) (by omega)
                have cn_x1662 := i_cl (x := x1662) (by omega)
                have cs1679 : CSP lw.toInt (fun j => fI H1661 sq j) (fun j => fI s.heap sq j) sc.toNatClampNeg (x1662.toNatClampNeg) 18 ([cbF x1477.toInt (smG kk vv lw.toInt tat.toNatClampNeg) (smG kk vv lw.toInt x1617.toNatClampNeg)]) := CSP.bin (s := x1477.toInt) cs1659 m1665 (Eq.trans m1666 (by omega)) (by omega) (by omega) (by omega)
                have f1680 : RFT K H1661 s.heap mq := RFT.st f1656 m1667
                refine W.eq (g2 := F0 m 116 ls1478 []) rfl ?_
                refine lv_iconst (v := 1) hx hb dX4_part_116 (by decide) ?_
                have cn_F := i_cl (x := F) (by omega)
                have cn_tat := i_cl (x := tat) (by omega)
                have cn_x1 := i_cl (x := x1) (by omega)
                have cn_x1617 := i_cl (x := x1617) (by omega)
                have cn_x1455 := i_cl (x := x1455) (by omega)
                have cn_F := i_cl (x := F) (by omega)
                have cn_tat := i_cl (x := tat) (by omega)
                have cn_x1 := i_cl (x := x1) (by omega)
                have cn_x1662 := i_cl (x := x1662) (by omega)
                have cn_x1662 := i_cl (x := x1662) (by omega)
                have cn_x1617 := i_cl (x := x1617) (by omega)
                have cn_x1455 := i_cl (x := x1455) (by omega)
                exact x_zret C hQ (Or.inr rfl) dX4_part_117 hSH1661 (by decide) (by decide) (⟨1, x1639, x1640, x1662, rfl, by decide, m1677, m1678, ex1662, by omega, m1673, m1674, m1675, m1663, m1676, m1664, Or.inr ⟨(pa_cp (by rw [qvx1407]; omega)).trans ((cp_go (RQ.yes m1464 (by omega)) (by rw [qvx1477]; omega) (show x1617.toNatClampNeg = _ + 1 by omega)).trans (RQ.yes m1648 (by omega))), by omega⟩, Or.inr (CSP.cast cs1679 rfl (by omega) (Nat.le_refl _) (congrArg (fun z => [z]) ((paF_cp (by rw [qvx1407]; omega)).trans (cpF_at (RQ.yes m1464 (by omega)) qvx1477 (by omega) (show x1617.toNatClampNeg = _ + 1 by omega))))), f1680, hTH1661⟩)
              · have k1658 := i_eq c1657
                refine lv_iconst (v := 0) hx hb dX4_part_105 (by decide) ?_
                have cn_F := i_cl (x := F) (by omega)
                have cn_tat := i_cl (x := tat) (by omega)
                have cn_x1 := i_cl (x := x1) (by omega)
                have cn_x1617 := i_cl (x := x1617) (by omega)
                have cn_x1455 := i_cl (x := x1455) (by omega)
                have cn_F := i_cl (x := F) (by omega)
                have cn_tat := i_cl (x := tat) (by omega)
                have cn_x1 := i_cl (x := x1) (by omega)
                exact x_zret C hQ (Or.inl rfl) dX4_part_106 hSH1637 (by decide) (by decide) (⟨0, x1639, x1640, x1641, rfl, by decide, ex1639, ex1640, ex1641, by omega, m1642, m1643, m1644, m1645, m1646, m1647, Or.inl ⟨(pa_cp (by rw [qvx1407]; omega)).trans ((cp_go (RQ.yes m1464 (by omega)) (by rw [qvx1477]; omega) (show x1617.toNatClampNeg = _ + 1 by omega)).trans (RQ.no m1648 (by omega))), by omega⟩, (Or.inl (by omega)), f1656, hTH1637⟩)
            · have k1615 := i_ne c1614
              refine lv_aload_n hx hb dX4_part_82 rfl (lv_at hl1479 2 rfl) ?_
              refine lv_iconst (v := 1) hx hb dX4_part_83 (by decide) ?_
              refine x_V (As := [.int 1]) (rest := []) C (a_X4_refuse_e l K G H1453 (1) (x1455) (x1456) (lw) hTH1453 ga0 gmq m1458 gkq m1459 gvq m1460 ex1455 ex1456 m1462) yo_X4_refuse wM_X4_81 ⟨⟨by decide, by decide⟩, by decide, by decide⟩ (x_rv C hTH1453 (ci := 4) rfl ga0 rg_78) rfl hl1479.1 rfl (Nat.le_of_ble_eq_true rfl) dX4_part_84 hSH1453 (AE_sub (fun _ _ => rfl) (by decide) hSH1453.1) (fun vH1681 H1681 locsH1681 pH1681 zH1681 kH1681 hSH1681 => ?_)
              obtain ⟨x1682, x1683, x1684, hvH1681, bx1682, ex1683, ex1684, hrH1681, m1685, m1686, m1687, m1688, hTH1681⟩ := pH1681
              subst hvH1681
              have f1689 : ∀ j : Nat, j ≤ F.toNatClampNeg → kk j = (fI H1681 kq j).toInt := fun j hj => (f1467 j hj).trans (congrArg Int32.toInt (fI_kept (x_lt hTH1453 kH1681 gkq (by decide))).symm)
              have f1690 : ∀ j : Nat, j ≤ F.toNatClampNeg → vv j = (fI H1681 vq j).toInt := fun j hj => (f1468 j hj).trans (congrArg Int32.toInt (fI_kept (x_lt hTH1453 kH1681 gvq (by decide))).symm)
              have f1691 : RFT K H1681 s.heap mq := RFT.st f1471 (fun k h1 h8 => fR_kept (x_lt hTH1453 kH1681 gmq (by decide)))
              have f1692 : CSP lw.toInt (fun j => fI H1681 sq j) (fun j => fI s.heap sq j) sc.toNatClampNeg (x1457.toNatClampNeg) 18 ([(smG kk vv lw.toInt tat.toNatClampNeg)]) := CSP.kept cs1474 (fun j => fI_kept (x_lt hTH1453 kH1681 gsq (by decide)))
              have m1693 := (fI_kept (x_lt hTH1453 kH1681 gkq (by decide))).trans m1469
              have m1694 := (m1470).trans (fI_kept (x_lt hTH1453 kH1681 gkq (by decide))).symm
              have m1695 := (m1461).trans (fR_kept (x_lt hTH1453 kH1681 gmq (by decide))).symm
              have m1696 := (m1463).trans (fI_kept (x_lt hTH1453 kH1681 gmq (by decide))).symm
              have m1697 := (ex1457).trans (fI_kept (x_lt hTH1453 kH1681 gmq (by decide))).symm
              have m1698 := (ex1477).trans (fI_kept (x_lt hTH1453 kH1681 gkq (by decide))).symm
              have bx1683 := ty_fi (x := x1683) (k := 7) ex1683 hTH1681 ga0 rg_78 rfl
              have bx1684 := ty_fi (x := x1684) (k := 1) ex1684 hTH1681 ga0 rg_78 rfl
              refine W.eq (g2 := F0 m 87 ls1478 [.int x1682]) rfl ?_
              have cn_F := i_cl (x := F) (by omega)
              have cn_tat := i_cl (x := tat) (by omega)
              have cn_x1 := i_cl (x := x1) (by omega)
              have cn_F := i_cl (x := F) (by omega)
              have cn_tat := i_cl (x := tat) (by omega)
              have cn_x1 := i_cl (x := x1) (by omega)
              exact x_zret C hQ (i_01 (by omega)) dX4_part_87 hSH1681 (by decide) (by decide) (⟨x1682, x1683, x1684, x1457, rfl, by omega, ex1683, ex1684, m1697, by omega, m1685, m1686, m1687, m1695, m1688, m1696, Or.inl ⟨(pa_cp (by rw [qvx1407]; omega)).trans (cp_no2 (RQ.yes m1464 (by omega)) (by rw [qvx1477]; omega)), by omega⟩, (Or.inl (by omega)), f1691, hTH1681⟩)
      · have k1473 := i_eq c1472
        refine lv_iconst (v := 0) hx hb dX4_part_52 (by decide) ?_
        have cn_F := i_cl (x := F) (by omega)
        have cn_tat := i_cl (x := tat) (by omega)
        have cn_x1 := i_cl (x := x1) (by omega)
        have cn_F := i_cl (x := F) (by omega)
        have cn_tat := i_cl (x := tat) (by omega)
        have cn_x1 := i_cl (x := x1) (by omega)
        exact x_zret C hQ (Or.inl rfl) dX4_part_53 hSH1453 (by decide) (by decide) (⟨0, x1455, x1456, x1457, rfl, by decide, ex1455, ex1456, ex1457, by omega, m1458, m1459, m1460, m1461, m1462, m1463, Or.inl ⟨(pa_cp (by rw [qvx1407]; omega)).trans (cp_no1 (RQ.no m1464 (by omega))), by omega⟩, (Or.inl (by omega)), f1471, hTH1453⟩)
    · have k1452 := i_eq c1451
      refine lv_iload_n hx hb dX4_part_22 rfl (lv_at hl1409 2 rfl) ?_
      refine lv_bipush (v := 8) hx hb dX4_part_23 (by decide) ?_
      refine lv_icmp_ge (tgt := 39) hx hb dX4_part_25 (by decide) (fun c1699 => ?_) (fun c1699 => ?_)
      · have k1700 := i_le c1699
        refine lv_aload_n hx hb dX4_part_39 rfl (lv_at hl1409 1 rfl) ?_
        refine lv_iconst (v := 3) hx hb dX4_part_40 (by decide) ?_
        refine x_V (As := [.int 3]) (rest := []) C (a_X4_refuse_e l K G s.heap (3) (tat) (fa) (lw) hT ga0 gmq emq gkq ekq gvq evq etat efa elw) yo_X4_refuse wM_X4_81 ⟨⟨by decide, by decide⟩, by decide, by decide⟩ (x_rv C hT (ci := 4) rfl ga0 rg_78) rfl hl1409.1 rfl (Nat.le_of_ble_eq_true rfl) dX4_part_41 hS (AE_sub (fun _ _ => rfl) (by decide) hS.1) (fun vH1701 H1701 locsH1701 pH1701 zH1701 kH1701 hSH1701 => ?_)
        obtain ⟨x1702, x1703, x1704, hvH1701, bx1702, ex1703, ex1704, hrH1701, m1705, m1706, m1707, m1708, hTH1701⟩ := pH1701
        subst hvH1701
        have f1709 : ∀ j : Nat, j ≤ F.toNatClampNeg → kk j = (fI H1701 kq j).toInt := fun j hj => (f0_kk j hj).trans (congrArg Int32.toInt (fI_kept (x_lt hT kH1701 gkq (by decide))).symm)
        have f1710 : ∀ j : Nat, j ≤ F.toNatClampNeg → vv j = (fI H1701 vq j).toInt := fun j hj => (f0_vv j hj).trans (congrArg Int32.toInt (fI_kept (x_lt hT kH1701 gvq (by decide))).symm)
        have f1711 : RFT K H1701 s.heap mq := RFT.st f0_rt (fun k h1 h8 => fR_kept (x_lt hT kH1701 gmq (by decide)))
        have f1712 : CSP lw.toInt (fun j => fI H1701 sq j) (fun j => fI s.heap sq j) sc.toNatClampNeg (sc.toNatClampNeg) 18 ([]) := CSP.kept f0_cs (fun j => fI_kept (x_lt hT kH1701 gsq (by decide)))
        have m1713 := (esq).trans (fR_kept (x_lt hT kH1701 gmq (by decide))).symm
        have m1714 := (esc).trans (fI_kept (x_lt hT kH1701 gmq (by decide))).symm
        have m1715 := (eli).trans (fI_kept (x_lt hT kH1701 gmq (by decide))).symm
        have m1716 := (fI_kept (x_lt hT kH1701 gkq (by decide))).trans hel0
        have m1717 := (ex1407).trans (fI_kept (x_lt hT kH1701 gkq (by decide))).symm
        have bx1703 := ty_fi (x := x1703) (k := 7) ex1703 hTH1701 ga0 rg_78 rfl
        have bx1704 := ty_fi (x := x1704) (k := 1) ex1704 hTH1701 ga0 rg_78 rfl
        refine W.eq (g2 := F0 m 44 ls1408 [.int x1702]) rfl ?_
        have cn_F := i_cl (x := F) (by omega)
        have cn_tat := i_cl (x := tat) (by omega)
        have cn_x1 := i_cl (x := x1) (by omega)
        have cn_F := i_cl (x := F) (by omega)
        have cn_tat := i_cl (x := tat) (by omega)
        have cn_x1 := i_cl (x := x1) (by omega)
        exact x_zret C hQ (i_01 (by omega)) dX4_part_44 hSH1701 (by decide) (by decide) (⟨x1702, x1703, x1704, sc, rfl, by omega, ex1703, ex1704, m1714, by omega, m1705, m1706, m1707, m1713, m1708, m1715, Or.inl ⟨pa_deep (by omega) (by rw [qvx1407]; omega), by omega⟩, (Or.inl (by omega)), f1711, hTH1701⟩)
      · have k1700 := i_nle c1699
        refine lv_aload_n hx hb dX4_part_28 rfl (lv_at hl1409 1 rfl) ?_
        refine lv_iload_n hx hb dX4_part_29 rfl (lv_at hl1409 0 rfl) ?_
        refine lv_iload_n hx hb dX4_part_30 rfl (lv_at hl1409 2 rfl) ?_
        refine lv_iconst (v := 1) hx hb dX4_part_31 (by decide) ?_
        refine lv_iadd hx hb dX4_part_32 ?_
        refine lv_topi (fun x1718 ex1718 => ?_)
        have tx1718 := i_add ex1718 (by omega)
        refine x_V (As := [.int x1407, .int x1718]) (rest := []) C (a_X4_opened_g2 l K G s.heap (x1407) (x1718) (F) (tat) (fa) (sc) (lw) (li) kk vv hT ga0 (by omega) gmq emq gkq ekq gvq evq gsq esq etat efa esc elw eli hel0 (by omega) (by omega) (by omega) (by omega) (hy0) f0_kk f0_vv) yo_X4_opened wM_X4_138 ⟨⟨by decide, by decide⟩, by decide, by decide⟩ (x_rv C hT (ci := 4) rfl ga0 rg_78) rfl hl1409.1 rfl (Nat.le_of_ble_eq_true rfl) dX4_part_33 hS (AE_sub (fun _ _ => rfl) (by decide) hS.1) (fun vH1719 H1719 locsH1719 pH1719 zH1719 kH1719 hSH1719 => ?_)
        obtain ⟨x1720, x1721, x1722, x1723, hvH1719, bx1720, ex1721, ex1722, ex1723, hrH1719, m1724, m1725, m1726, m1727, m1728, m1729, m1730, m1731, m1732, hTH1719⟩ := pH1719
        subst hvH1719
        have f1733 : ∀ j : Nat, j ≤ F.toNatClampNeg → kk j = (fI H1719 kq j).toInt := fun j hj => (f0_kk j hj).trans (congrArg Int32.toInt (fI_kept (x_lt hT kH1719 gkq (by decide))).symm)
        have f1734 : ∀ j : Nat, j ≤ F.toNatClampNeg → vv j = (fI H1719 vq j).toInt := fun j hj => (f0_vv j hj).trans (congrArg Int32.toInt (fI_kept (x_lt hT kH1719 gvq (by decide))).symm)
        have m1735 := (fI_kept (x_lt hT kH1719 gkq (by decide))).trans hel0
        have m1736 := (ex1407).trans (fI_kept (x_lt hT kH1719 gkq (by decide))).symm
        have bx1721 := ty_fi (x := x1721) (k := 7) ex1721 hTH1719 ga0 rg_78 rfl
        have bx1722 := ty_fi (x := x1722) (k := 1) ex1722 hTH1719 ga0 rg_78 rfl
        have bx1723 := ty_fi (x := x1723) (k := 9) ex1723 hTH1719 gmq rg_69 rfl
        have f1737 : RFT K H1719 s.heap mq := RFT.st f0_rt m1732
        refine W.eq (g2 := F0 m 36 ls1408 [.int x1720]) rfl ?_
        refine lv_goto (tgt := 44) hx hb dX4_part_36 (by decide) ?_
        have cn_F := i_cl (x := F) (by omega)
        have cn_tat := i_cl (x := tat) (by omega)
        have cn_x1 := i_cl (x := x1) (by omega)
        have cn_x1718 := i_cl (x := x1718) (by omega)
        have cn_F := i_cl (x := F) (by omega)
        have cn_tat := i_cl (x := tat) (by omega)
        have cn_x1 := i_cl (x := x1) (by omega)
        have cn_x1718 := i_cl (x := x1718) (by omega)
        have cn_sc := i_cl (x := sc) (by omega)
        have cn_sc := i_cl (x := sc) (by omega)
        have cn_x1723 := i_cl (x := x1723) (by omega)
        exact x_zret C hQ (i_01 (by omega)) dX4_part_44 hSH1719 (by decide) (by decide) (⟨x1720, x1721, x1722, x1723, rfl, by omega, ex1721, ex1722, ex1723, by omega, m1724, m1725, m1726, m1727, m1728, m1729, RQ.tr m1730 (pa_op (by omega) (qvx1407).symm (by rw [qvx1407]; omega)), (m1731.imp id (fun z => CSP.cast (CSP.call f0_cs z (by omega) (Nat.le_refl _) (Nat.le_of_ble_eq_true rfl)) rfl rfl (Nat.le_refl _) (congrArg (fun z => [z]) (paF_op (by omega) (qvx1407).symm (by rw [qvx1407]; omega))))), f1737, hTH1719⟩)

set_option maxHeartbeats 4000000 in
set_option maxRecDepth 100000 in
theorem a_X4_both_g1 (l : Launch) (K : KE) (G : Nat → Option Nat) (H : Heap) {a0 : Nat} (x1 : Int32) {mq : Nat} {kq : Nat} {vq : Nat} {sq : Nat} (F : Int32) (tat : Int32) (fa : Int32) (sc : Int32) (lw : Int32) (li : Int32) (kk : Nat → Int) (vv : Nat → Int) (hT : TY K G H) (ga0 : G a0 = some 78) (hx1 : 1 ≤ x1.toInt ∧ x1.toInt ≤ 8) (gmq : G mq = some 69) (emq : mq = fR H a0 (K.1.2 4 0)) (gkq : G kq = some 79) (ekq : kq = fR H a0 (K.1.2 4 3)) (gvq : G vq = some 80) (evq : vq = fR H a0 (K.1.2 4 4)) (gsq : G sq = some 77) (esq : sq = fR H mq (K.1.2 7 8)) (etat : tat = fI H a0 (K.1.2 4 7)) (efa : fa = fI H a0 (K.1.2 4 1)) (esc : sc = fI H mq (K.1.2 7 9)) (elw : lw = fI H a0 (K.1.2 4 8)) (eli : li = fI H mq (K.1.2 7 0)) (hel0 : fI H kq (F : Int32).toNatClampNeg = 26) (hp0 : tat.toInt ≤ F.toInt) (hp1 : F.toInt ≤ 500) (hp2 : sc.toInt ≤ tat.toInt) (hy0 : ∀ j : Nat, 0 ≤ vv j ∧ vv j < 100000) (hv_kk : ∀ j : Nat, j ≤ F.toNatClampNeg → kk j = (fI H kq j).toInt) (hv_vv : ∀ j : Nat, j ≤ F.toNatClampNeg → vv j = (fI H vq j).toInt) : MX l K yX4_both cX4_both 3 (some .boolean) 32 714 0 0 [.ref a0, .int x1] H (AE G [78, 69, 77] H.size) (fun v H1 => ∃ (r : Int32) (t0 : Int32) (t1 : Int32) (t2 : Int32), v = some (.int r) ∧ (0 ≤ r.toInt ∧ r.toInt ≤ 1) ∧ t0 = fI H1 a0 (K.1.2 4 7) ∧ t1 = fI H1 a0 (K.1.2 4 1) ∧ t2 = fI H1 mq (K.1.2 7 9) ∧ (t0.toInt ≤ F.toInt ∧ ((r.toInt = 1 ∧ t1.toInt = fa.toInt ∧ tat.toInt < t0.toInt ∧ sc.toInt ≤ t2.toInt ∧ t2.toInt + tat.toInt ≤ sc.toInt + t0.toInt) ∨ (r.toInt = 0 ∧ t1.toInt ≠ 0))) ∧ mq = fR H1 a0 (K.1.2 4 0) ∧ kq = fR H1 a0 (K.1.2 4 3) ∧ vq = fR H1 a0 (K.1.2 4 4) ∧ sq = fR H1 mq (K.1.2 7 8) ∧ lw = fI H1 a0 (K.1.2 4 8) ∧ li = fI H1 mq (K.1.2 7 0) ∧ (RQ (lpI (paS kk vv lw.toInt (8 - x1.toNatClampNeg)) (cAN kk) tat.toNatClampNeg) r t0) ∧ (r.toInt = 0 ∨ CSP lw.toInt (fun j => fI H1 sq j) (fun j => fI H sq j) sc.toNatClampNeg t2.toNatClampNeg 19 [lpG (paS kk vv lw.toInt (8 - x1.toNatClampNeg)) (cAN kk) kk (paF kk vv lw.toInt (8 - x1.toNatClampNeg)) 0 zF tat.toNatClampNeg]) ∧ (RFT K H1 H mq) ∧ TY K G H1) := by
  refine MX.of (by decide +kernel) (Nat.le_of_ble_eq_true rfl) ?_
  intro p e s m below meth c ls Q C hH hl hQ
  subst hH
  have C : CX p K s m _ meth c RX4 cX4_both 3 (some .boolean) "both" := C
  obtain ⟨hx, hb, hml, hown, hts, hKT, hr, hlocks, hnm⟩ := id C
  have hl : lv_has ls 3 [(0, .ref a0), (1, .int x1)] := hl
  have hS : va_S (AE G [78, 69, 77] s.heap.size) s.heap s.heap [] := va_S.rf
  have n_0 : (0 : Int32).toInt = 0 := rfl
  have n_1 : (1 : Int32).toInt = 1 := rfl
  have n_9 : (9 : Int32).toInt = 9 := rfl
  have n_26 : (26 : Int32).toInt = 26 := rfl
  have n_500 : (500 : Int32).toInt = 500 := rfl
  have btat := ty_fi (x := tat) (k := 7) etat hT ga0 rg_78 rfl
  have bfa := ty_fi (x := fa) (k := 1) efa hT ga0 rg_78 rfl
  have bsc := ty_fi (x := sc) (k := 9) esc hT gmq rg_69 rfl
  have blw := ty_fi (x := lw) (k := 8) elw hT ga0 rg_78 rfl
  have bli := ty_fi (x := li) (k := 0) eli hT gmq rg_69 rfl
  have hsp0 : lpI (paS kk vv lw.toInt (8 - x1.toNatClampNeg)) (cAN kk) tat.toNatClampNeg = lpI (paS kk vv lw.toInt (8 - x1.toNatClampNeg)) (cAN kk) tat.toNatClampNeg := rfl
  have hsf0 : lpG (paS kk vv lw.toInt (8 - x1.toNatClampNeg)) (cAN kk) kk (paF kk vv lw.toInt (8 - x1.toNatClampNeg)) 0 zF tat.toNatClampNeg = lpG (paS kk vv lw.toInt (8 - x1.toNatClampNeg)) (cAN kk) kk (paF kk vv lw.toInt (8 - x1.toNatClampNeg)) 0 zF tat.toNatClampNeg := rfl
  have f0_kk := hv_kk
  have f0_vv := hv_vv
  have f0_rt : RFT K s.heap s.heap mq := RFT.rf
  have f0_cs : CSP lw.toInt (fun j => fI s.heap sq j) (fun j => fI s.heap sq j) sc.toNatClampNeg (sc.toNatClampNeg) 19 ([]) := CSP.nil
  have J12 : ∀ (nf : Nat) (a_ : EF) (ls1966 : Array Slot) (H1965 : Heap) (locsH1965 : List Loc) (x1968 : Int32) (x1969 : Int32) (x1970 : Int32) (x1971 : Int32), lv_has ls1966 3 [(0, .ref a0), (1, .int x1), (2, .int x1968)] → TY K G H1965 → va_S (AE G [78, 69, 77] s.heap.size) s.heap H1965 locsH1965 → (0 ≤ x1968.toInt ∧ x1968.toInt ≤ 500) → (0 ≤ x1969.toInt ∧ x1969.toInt ≤ 500) → (0 ≤ x1971.toInt ∧ x1971.toInt ≤ 500) → (x1969 = fI H1965 a0 (K.1.2 4 7)) → (x1970 = fI H1965 a0 (K.1.2 4 1)) → (x1971 = fI H1965 mq (K.1.2 7 9)) → (mq = fR H1965 a0 (K.1.2 4 0)) → (kq = fR H1965 a0 (K.1.2 4 3)) → (vq = fR H1965 a0 (K.1.2 4 4)) → (sq = fR H1965 mq (K.1.2 7 8)) → (lw = fI H1965 a0 (K.1.2 4 8)) → (li = fI H1965 mq (K.1.2 7 0)) → (fI H1965 kq (F : Int32).toNatClampNeg = 26) → (∀ j : Nat, j ≤ F.toNatClampNeg → kk j = (fI H1965 kq j).toInt) → (∀ j : Nat, j ≤ F.toNatClampNeg → vv j = (fI H1965 vq j).toInt) → (RFT K H1965 s.heap mq) → (CSP lw.toInt (fun j => fI H1965 sq j) (fun j => fI s.heap sq j) sc.toNatClampNeg (x1971.toNatClampNeg) 19 ([a_])) → (500 - x1968.toInt < (nf : Int)) → (2 * x1968.toInt ≤ x1969.toInt ∧ tat.toInt < x1969.toInt ∧ x1971.toInt + tat.toInt ≤ sc.toInt + x1969.toInt ∧ x1969.toInt ≤ F.toInt ∧ x1970.toInt = fa.toInt ∧ sc.toInt ≤ x1971.toInt) → (lpI (paS kk vv lw.toInt (8 - x1.toNatClampNeg)) (cAN kk) tat.toNatClampNeg = (if cAN kk x1969.toNatClampNeg = true then lpI (paS kk vv lw.toInt (8 - x1.toNatClampNeg)) (cAN kk) (x1969.toNatClampNeg + 1) else some x1969.toNatClampNeg)) → (lpG (paS kk vv lw.toInt (8 - x1.toNatClampNeg)) (cAN kk) kk (paF kk vv lw.toInt (8 - x1.toNatClampNeg)) 0 zF tat.toNatClampNeg = (if cAN kk x1969.toNatClampNeg = true then lpG (paS kk vv lw.toInt (8 - x1.toNatClampNeg)) (cAN kk) kk (paF kk vv lw.toInt (8 - x1.toNatClampNeg)) (kk x1969.toNatClampNeg) a_ (x1969.toNatClampNeg + 1) else a_)) → W p l e ({ frames := 32, cells := 0, slots := 0, locals := 714 } : Room) s m (([.ref a0, .int x1] : List Value).toArray) below meth c H1965 locsH1965 0 0 Q (F0 m 12 ls1966 []) := by
    intro nf
    induction nf with
    | zero =>
      intro a_ ls1966 H1965 locsH1965 x1968 x1969 x1970 x1971 hl1967 hTH1965 hSH1965 bx1968 bx1969 bx1971 ex1969 ex1970 ex1971 cy1972_0 cy1972_1 cy1972_2 cy1972_3 cy1972_4 cy1972_5 cy1972_6 fy1972_kk fy1972_vv fy1972_rt fy1972_cs hm12 iv12 hsp12 hsf12
      have rx1970 := i_rng x1970
      exfalso
      omega
    | succ nf ih12 =>
      intro a_ ls1966 H1965 locsH1965 x1968 x1969 x1970 x1971 hl1967 hTH1965 hSH1965 bx1968 bx1969 bx1971 ex1969 ex1970 ex1971 cy1972_0 cy1972_1 cy1972_2 cy1972_3 cy1972_4 cy1972_5 cy1972_6 fy1972_kk fy1972_vv fy1972_rt fy1972_cs hm12 iv12 hsp12 hsf12
      have rx1970 := i_rng x1970
      refine lv_iload_n hx hb dX4_both_12 rfl (lv_at hl1967 2 rfl) ?_
      refine lv_sipush (v := 500) hx hb dX4_both_13 (by decide) ?_
      refine lv_icmp_ge (tgt := 69) hx hb dX4_both_16 (by decide) (fun c1973 => ?_) (fun c1973 => ?_)
      · have k1974 := i_le c1973
        refine lv_iconst (v := 1) hx hb dX4_both_69 (by decide) ?_
        have cn_F := i_cl (x := F) (by omega)
        have cn_x1 := i_cl (x := x1) (by omega)
        have cn_x1969 := i_cl (x := x1969) (by omega)
        have cn_x1971 := i_cl (x := x1971) (by omega)
        have cn_x1971 := i_cl (x := x1971) (by omega)
        exact x_zret C hQ (Or.inr rfl) dX4_both_70 hSH1965 (by decide) (by decide) (⟨1, x1969, x1970, x1971, rfl, by decide, ex1969, ex1970, ex1971, by omega, cy1972_0, cy1972_1, cy1972_2, cy1972_3, cy1972_4, cy1972_5, (by first | (exfalso; omega) | exact Or.inr ⟨hsp12.trans (if_n (show cAN kk _ = false from decide_eq_false (by omega))), by omega⟩), (by first | (exfalso; omega) | exact Or.inr (CSP.cast fy1972_cs rfl (by omega) (Nat.le_refl _) (congrArg (fun z => [z]) (hsf12.trans (if_neg (show ¬ cAN kk _ = true from by rw [show cAN kk _ = false from decide_eq_false (by omega)]; decide)))))), fy1972_rt, hTH1965⟩)
      · have k1974 := i_nle c1973
        refine lv_aload_n hx hb dX4_both_19 rfl (lv_at hl1967 0 rfl) ?_
        refine x_gr C hTH1965 (ci := 4) (k := 3) rfl inX4 (by decide) wF_X4_18 ga0 rg_78 rfl dX4_both_20 (fun q1975 eq1975 gq1975 => ?_)
        have uq1975 : kq = q1975 := (cy1972_1).trans eq1975.symm
        subst uq1975
        refine lv_aload_n hx hb dX4_both_23 rfl (lv_at hl1967 0 rfl) ?_
        refine x_gi C hTH1965 (ci := 4) (k := 7) rfl inX4 (by decide) wF_X4_42 ga0 rg_78 rfl dX4_both_24 (fun x1976 ex1976 bx1976 => ?_)
        have ux1976 : x1969 = x1976 := (ex1969).trans ex1976.symm
        subst ux1976
        refine x_ai C hTH1965 gkq rg_79 ⟨by omega, by show _ < ((501 : Nat) : Int); omega⟩ dX4_both_27 (fun x1977 ex1977 bx1977 => ?_)
        have dx1977 := el_hit ex1977 cy1972_6
        have qvx1977 : kk x1969.toNatClampNeg = x1977.toInt := (fy1972_kk _ (by have h1 := i_cl (x := x1969) (by omega); have h2 := i_cl (x := F) (by omega); omega)).trans (congrArg Int32.toInt ex1977.symm)
        refine lv_bipush (v := 9) hx hb dX4_both_28 (by decide) ?_
        refine lv_icmp_ne (tgt := 69) hx hb dX4_both_30 (by decide) (fun c1978 => ?_) (fun c1978 => ?_)
        · have k1979 := i_ne c1978
          refine lv_iconst (v := 1) hx hb dX4_both_69 (by decide) ?_
          have cn_F := i_cl (x := F) (by omega)
          have cn_x1 := i_cl (x := x1) (by omega)
          have cn_x1969 := i_cl (x := x1969) (by omega)
          have cn_x1971 := i_cl (x := x1971) (by omega)
          have cn_x1971 := i_cl (x := x1971) (by omega)
          exact x_zret C hQ (Or.inr rfl) dX4_both_70 hSH1965 (by decide) (by decide) (⟨1, x1969, x1970, x1971, rfl, by decide, ex1969, ex1970, ex1971, by omega, cy1972_0, cy1972_1, cy1972_2, cy1972_3, cy1972_4, cy1972_5, (by first | (exfalso; omega) | exact Or.inr ⟨hsp12.trans (if_n (show cAN kk _ = false from decide_eq_false (by omega))), by omega⟩), (by first | (exfalso; omega) | exact Or.inr (CSP.cast fy1972_cs rfl (by omega) (Nat.le_refl _) (congrArg (fun z => [z]) (hsf12.trans (if_neg (show ¬ cAN kk _ = true from by rw [show cAN kk _ = false from decide_eq_false (by omega)]; decide)))))), fy1972_rt, hTH1965⟩)
        · have k1979 := i_eq c1978
          refine lv_aload_n hx hb dX4_both_33 rfl (lv_at hl1967 0 rfl) ?_
          refine lv_dup hx hb dX4_both_34 rfl ?_
          refine x_gi C hTH1965 (ci := 4) (k := 7) rfl inX4 (by decide) wF_X4_42 ga0 rg_78 rfl dX4_both_35 (fun x1980 ex1980 bx1980 => ?_)
          have ux1980 : x1969 = x1980 := (ex1969).trans ex1980.symm
          subst ux1980
          refine lv_iconst (v := 1) hx hb dX4_both_38 (by decide) ?_
          refine lv_iadd hx hb dX4_both_39 ?_
          refine lv_topi (fun x1981 ex1981 => ?_)
          have tx1981 := i_add ex1981 (by omega)
          have fz1983 : 0 ≤ x1981.toInt ∧ x1981.toInt ≤ 500 := by have := i_rng x1981; omega
          refine x_put C hTH1965 hSH1965 (ci := 4) (k := 7) (v := .int x1981) (ty0 := tyX4) rfl inX4 tyX4_ok nmX4 (by decide) rfl wF_X4_42 ga0 rg_78 rfl rfl (okI (by have := i_rng x1981; omega) (by have := i_rng x1981; omega)) rfl rfl (AE_in ga0 (by decide)) dX4_both_40 (fun H1982 locsH1982 hTH1982 hSH1982 wH1982 => ?_)
          have f1984 : ∀ j : Nat, j ≤ F.toNatClampNeg → kk j = (fI H1982 kq j).toInt := fun j hj => (fy1972_kk j hj).trans (congrArg Int32.toInt (Wr.neI wH1982 (Or.inl (G_ne gkq ga0 (by decide)))).symm)
          have f1985 : ∀ j : Nat, j ≤ F.toNatClampNeg → vv j = (fI H1982 vq j).toInt := fun j hj => (fy1972_vv j hj).trans (congrArg Int32.toInt (Wr.neI wH1982 (Or.inl (G_ne gvq ga0 (by decide)))).symm)
          have f1986 : RFT K H1982 s.heap mq := RFT.st fy1972_rt (fun k h1 h8 => fR_kept (wH1982.off (G_ne gmq ga0 (by decide))))
          have f1987 : CSP lw.toInt (fun j => fI H1982 sq j) (fun j => fI s.heap sq j) sc.toNatClampNeg (x1971.toNatClampNeg) 19 ([a_]) := CSP.kept fy1972_cs (fun j => fI_kept (wH1982.off (G_ne gsq ga0 (by decide))))
          have m1989 := ex1970.trans (Wr.neI wH1982 (Or.inr (x_apart hKT hts inX4 tyX4 tyX4_ok nmX4 rfl 1 7 (by decide) (by decide) (by decide)))).symm
          have m1990 := ex1971.trans (Wr.neI wH1982 (Or.inl (G_ne gmq ga0 (by decide)))).symm
          have m1991 := cy1972_0.trans (Wr.neR wH1982 (Or.inr (x_apart hKT hts inX4 tyX4 tyX4_ok nmX4 rfl 0 7 (by decide) (by decide) (by decide)))).symm
          have m1992 := cy1972_1.trans (Wr.neR wH1982 (Or.inr (x_apart hKT hts inX4 tyX4 tyX4_ok nmX4 rfl 3 7 (by decide) (by decide) (by decide)))).symm
          have m1993 := cy1972_2.trans (Wr.neR wH1982 (Or.inr (x_apart hKT hts inX4 tyX4 tyX4_ok nmX4 rfl 4 7 (by decide) (by decide) (by decide)))).symm
          have m1994 := cy1972_3.trans (Wr.neR wH1982 (Or.inl (G_ne gmq ga0 (by decide)))).symm
          have m1995 := cy1972_4.trans (Wr.neI wH1982 (Or.inr (x_apart hKT hts inX4 tyX4 tyX4_ok nmX4 rfl 8 7 (by decide) (by decide) (by decide)))).symm
          have m1996 := cy1972_5.trans (Wr.neI wH1982 (Or.inl (G_ne gmq ga0 (by decide)))).symm
          have m1997 := (Wr.neI wH1982 (Or.inl (G_ne gkq ga0 (by decide)))).trans cy1972_6
          have m1998 := ex1977.trans (Wr.neI wH1982 (Or.inl (G_ne gkq ga0 (by decide)))).symm
          have m1999 := Wr.I wH1982
          have m1999 := m1999.symm
          refine lv_aload_n hx hb dX4_both_43 rfl (lv_at hl1967 0 rfl) ?_
          refine lv_iload_n hx hb dX4_both_44 rfl (lv_at hl1967 1 rfl) ?_
          refine x_V (As := [.int x1]) (rest := []) C (a_X4_part_g1 l K G H1982 (x1) (F) (x1981) (x1970) (x1971) (lw) (li) kk vv hTH1982 ga0 (by omega) gmq m1991 gkq m1992 gvq m1993 gsq m1994 m1999 m1989 m1990 m1995 m1996 m1997 (by omega) (by omega) (by omega) (hy0) f1984 f1985) yo_X4_part wM_X4_135 ⟨⟨by decide, by decide⟩, by decide, by decide⟩ (x_rv C hTH1982 (ci := 4) rfl ga0 rg_78) rfl hl1967.1 rfl (Nat.le_of_ble_eq_true rfl) dX4_both_45 hSH1982 (AE_sub (fun _ _ => rfl) (by decide) hSH1982.1) (fun vH2000 H2000 locsH2000 pH2000 zH2000 kH2000 hSH2000 => ?_)
          obtain ⟨x2001, x2002, x2003, x2004, hvH2000, bx2001, ex2002, ex2003, ex2004, hrH2000, m2005, m2006, m2007, m2008, m2009, m2010, m2011, m2012, m2013, hTH2000⟩ := pH2000
          subst hvH2000
          have f2014 : ∀ j : Nat, j ≤ F.toNatClampNeg → kk j = (fI H2000 kq j).toInt := fun j hj => (f1984 j hj).trans (congrArg Int32.toInt (fI_kept (x_lt hTH1982 kH2000 gkq (by decide))).symm)
          have f2015 : ∀ j : Nat, j ≤ F.toNatClampNeg → vv j = (fI H2000 vq j).toInt := fun j hj => (f1985 j hj).trans (congrArg Int32.toInt (fI_kept (x_lt hTH1982 kH2000 gvq (by decide))).symm)
          have m2016 := (fI_kept (x_lt hTH1982 kH2000 gkq (by decide))).trans m1997
          have m2017 := (m1998).trans (fI_kept (x_lt hTH1982 kH2000 gkq (by decide))).symm
          have bx2002 := ty_fi (x := x2002) (k := 7) ex2002 hTH2000 ga0 rg_78 rfl
          have bx2003 := ty_fi (x := x2003) (k := 1) ex2003 hTH2000 ga0 rg_78 rfl
          have bx2004 := ty_fi (x := x2004) (k := 9) ex2004 hTH2000 gmq rg_69 rfl
          have f2018 : RFT K H2000 s.heap mq := RFT.st f1986 m2013
          refine W.eq (g2 := F0 m 48 ls1966 [.int x2001]) rfl ?_
          refine lv_if_ne (tgt := 53) hx hb dX4_both_48 (by decide) (fun c2019 => ?_) (fun c2019 => ?_)
          · have k2020 := i_ne c2019
            have cn_x1971 := i_cl (x := x1971) (by omega)
            have cn_x1971 := i_cl (x := x1971) (by omega)
            have cn_x2004 := i_cl (x := x2004) (by omega)
            have cs2021 : CSP lw.toInt (fun j => fI H2000 sq j) (fun j => fI s.heap sq j) sc.toNatClampNeg (x2004.toNatClampNeg) 19 ([(paF kk vv lw.toInt (8 - x1.toNatClampNeg) x1981.toNatClampNeg), a_]) := CSP.call f1987 (m2012.resolve_left (by omega)) (by omega) (Nat.le_refl _) (Nat.le_of_ble_eq_true rfl)
            refine lv_aload_n hx hb dX4_both_53 rfl (lv_at hl1967 0 rfl) ?_
            refine x_gr C hTH2000 (ci := 4) (k := 0) rfl inX4 (by decide) wF_X4_12 ga0 rg_78 rfl dX4_both_54 (fun q2022 eq2022 gq2022 => ?_)
            have uq2022 : mq = q2022 := (m2005).trans eq2022.symm
            subst uq2022
            refine lv_bipush (v := 9) hx hb dX4_both_57 (by decide) ?_
            refine lv_iconst (v := 0) hx hb dX4_both_59 (by decide) ?_
            refine x_V (As := [.int 9, .int 0]) (rest := []) C (a_X7_addStep_g l K G H2000 (9) (0) (x2004) (li) hTH2000 gmq (by decide) (by decide) gsq m2008 ex2004 m2010 (by omega)) yo_X7_addStep wM_X4_131 ⟨⟨by decide, by decide⟩, by decide, by decide⟩ (x_rv C hTH2000 (ci := 7) rfl gmq rg_69) rfl hl1967.1 rfl (Nat.le_of_ble_eq_true rfl) dX4_both_60 hSH2000 (AE_sub (fun _ _ => rfl) (by decide) hSH2000.1) (fun vH2023 H2023 locsH2023 pH2023 zH2023 kH2023 hSH2023 => ?_)
            obtain ⟨x2024, hvH2023, ex2024, hrH2023, m2025, m2026, m2027, m2028, m2029, hTH2023⟩ := pH2023
            subst hvH2023
            have f2030 : ∀ j : Nat, j ≤ F.toNatClampNeg → kk j = (fI H2023 kq j).toInt := fun j hj => (f2014 j hj).trans (congrArg Int32.toInt (fI_kept (x_lt hTH2000 kH2023 gkq (by decide))).symm)
            have f2031 : ∀ j : Nat, j ≤ F.toNatClampNeg → vv j = (fI H2023 vq j).toInt := fun j hj => (f2015 j hj).trans (congrArg Int32.toInt (fI_kept (x_lt hTH2000 kH2023 gvq (by decide))).symm)
            have m2032 := (fI_kept (x_lt hTH2000 kH2023 gkq (by decide))).trans m2016
            have m2033 := (m2017).trans (fI_kept (x_lt hTH2000 kH2023 gkq (by decide))).symm
            have m2034 := (m2005).trans (fR_kept (x_lt hTH2000 kH2023 ga0 (by decide))).symm
            have m2035 := (m2006).trans (fR_kept (x_lt hTH2000 kH2023 ga0 (by decide))).symm
            have m2036 := (m2007).trans (fR_kept (x_lt hTH2000 kH2023 ga0 (by decide))).symm
            have m2037 := (m2009).trans (fI_kept (x_lt hTH2000 kH2023 ga0 (by decide))).symm
            have m2038 := (ex2002).trans (fI_kept (x_lt hTH2000 kH2023 ga0 (by decide))).symm
            have m2039 := (ex2003).trans (fI_kept (x_lt hTH2000 kH2023 ga0 (by decide))).symm
            have bx2024 := ty_fi (x := x2024) (k := 9) ex2024 hTH2023 gmq rg_69 rfl
            have cn_x2004 := i_cl (x := x2004) (by omega)
            have cn_x2004 := i_cl (x := x2004) (by omega)
            have cn_x2024 := i_cl (x := x2024) (by omega)
            have cs2040 : CSP lw.toInt (fun j => fI H2023 sq j) (fun j => fI s.heap sq j) sc.toNatClampNeg (x2024.toNatClampNeg) 19 ([cbF 9 a_ (paF kk vv lw.toInt (8 - x1.toNatClampNeg) x1981.toNatClampNeg)]) := CSP.bin (s := 9) cs2021 m2027 (Eq.trans m2028 (by omega)) (by omega) (by omega) (by omega)
            have f2041 : RFT K H2023 s.heap mq := RFT.st f2018 m2029
            refine W.eq (g2 := F0 m 63 ls1966 []) rfl ?_
            obtain ⟨x2042, ex2042⟩ : ∃ y : Int32, y = x1968 + 1 := ⟨_, rfl⟩
            have tx2042 := i_add ex2042 (by omega)
            refine lv_iinc (v := x2042) (lv' := [(2, .int x2042), (0, .ref a0), (1, .int x1)]) hx hb dX4_both_63 hl1967 (k := 2) rfl (by rw [ex2042]; rfl) (by decide) rfl (fun ls2043 hl2044 => ?_)
            refine lv_goto (tgt := 12) hx hb dX4_both_66 (by decide) ?_
            have cn_x2024 := i_cl (x := x2024) (by omega)
            have cn_x2024 := i_cl (x := x2024) (by omega)
            have cn_F := i_cl (x := F) (by omega)
            have cn_x1969 := i_cl (x := x1969) (by omega)
            have cn_x1981 := i_cl (x := x1981) (by omega)
            have cn_x1969 := i_cl (x := x1969) (by omega)
            have cn_x1981 := i_cl (x := x1981) (by omega)
            exact ih12 (cbF 9 a_ (paF kk vv lw.toInt (8 - x1.toNatClampNeg) x1981.toNatClampNeg)) ls2043 H2023 locsH2023 (x2042) (x2002) (x2003) (x2024) (lv_sub hl2044 [1, 2, 0] rfl) hTH2023 hSH2023 (by have := i_rng x2042; omega) (by have := i_rng x2002; omega) (by have := i_rng x2024; omega) m2038 m2039 ex2024 m2034 m2035 m2036 m2025 m2037 m2026 m2032 f2030 f2031 f2041 (CSP.cast cs2040 rfl (by omega) (Nat.le_refl _) rfl) (by omega) (by omega) (hsp12.trans (by rw [if_y (show cAN kk _ = true from decide_eq_true (by omega)), show x1969.toNatClampNeg + 1 = x1981.toNatClampNeg by omega]; exact lp_if (paS_gp _) (RQ.yes m2011 (by omega)))) (hsf12.trans (by rw [if_pos (show cAN kk _ = true from decide_eq_true (by omega)), show kk x1969.toNatClampNeg = 9 by omega, show x1969.toNatClampNeg + 1 = x1981.toNatClampNeg by omega]; exact lpG_if (paS_gp _) (RQ.yes m2011 (by omega))))
          · have k2020 := i_eq c2019
            refine lv_iconst (v := 0) hx hb dX4_both_51 (by decide) ?_
            have cn_F := i_cl (x := F) (by omega)
            have cn_x1 := i_cl (x := x1) (by omega)
            have cn_x1969 := i_cl (x := x1969) (by omega)
            have cn_x1981 := i_cl (x := x1981) (by omega)
            exact x_zret C hQ (Or.inl rfl) dX4_both_52 hSH2000 (by decide) (by decide) (⟨0, x2002, x2003, x2004, rfl, by decide, ex2002, ex2003, ex2004, by omega, m2005, m2006, m2007, m2008, m2009, m2010, Or.inl ⟨hsp12.trans ((if_y (show cAN kk _ = true from decide_eq_true (by omega))).trans (by rw [show x1969.toNatClampNeg + 1 = x1981.toNatClampNeg by omega]; exact lp_none (paS_gp _) (RQ.no m2011 (by omega)))), by omega⟩, (Or.inl (by omega)), f2018, hTH2000⟩)
  refine lv_aload_n hx hb dX4_both_0 rfl (lv_at hl 0 rfl) ?_
  refine lv_iload_n hx hb dX4_both_1 rfl (lv_at hl 1 rfl) ?_
  refine x_V (As := [.int x1]) (rest := []) C (a_X4_part_g1 l K G s.heap (x1) (F) (tat) (fa) (sc) (lw) (li) kk vv hT ga0 (by omega) gmq emq gkq ekq gvq evq gsq esq etat efa esc elw eli hel0 (by omega) (by omega) (by omega) (hy0) f0_kk f0_vv) yo_X4_part wM_X4_135 ⟨⟨by decide, by decide⟩, by decide, by decide⟩ (x_rv C hT (ci := 4) rfl ga0 rg_78) rfl hl.1 rfl (Nat.le_of_ble_eq_true rfl) dX4_both_2 hS (AE_sub (fun _ _ => rfl) (by decide) hS.1) (fun vH2045 H2045 locsH2045 pH2045 zH2045 kH2045 hSH2045 => ?_)
  obtain ⟨x2046, x2047, x2048, x2049, hvH2045, bx2046, ex2047, ex2048, ex2049, hrH2045, m2050, m2051, m2052, m2053, m2054, m2055, m2056, m2057, m2058, hTH2045⟩ := pH2045
  subst hvH2045
  have f2059 : ∀ j : Nat, j ≤ F.toNatClampNeg → kk j = (fI H2045 kq j).toInt := fun j hj => (f0_kk j hj).trans (congrArg Int32.toInt (fI_kept (x_lt hT kH2045 gkq (by decide))).symm)
  have f2060 : ∀ j : Nat, j ≤ F.toNatClampNeg → vv j = (fI H2045 vq j).toInt := fun j hj => (f0_vv j hj).trans (congrArg Int32.toInt (fI_kept (x_lt hT kH2045 gvq (by decide))).symm)
  have m2061 := (fI_kept (x_lt hT kH2045 gkq (by decide))).trans hel0
  have bx2047 := ty_fi (x := x2047) (k := 7) ex2047 hTH2045 ga0 rg_78 rfl
  have bx2048 := ty_fi (x := x2048) (k := 1) ex2048 hTH2045 ga0 rg_78 rfl
  have bx2049 := ty_fi (x := x2049) (k := 9) ex2049 hTH2045 gmq rg_69 rfl
  have f2062 : RFT K H2045 s.heap mq := RFT.st f0_rt m2058
  refine W.eq (g2 := F0 m 5 ls [.int x2046]) rfl ?_
  refine lv_if_ne (tgt := 10) hx hb dX4_both_5 (by decide) (fun c2063 => ?_) (fun c2063 => ?_)
  · have k2064 := i_ne c2063
    have cn_sc := i_cl (x := sc) (by omega)
    have cn_sc := i_cl (x := sc) (by omega)
    have cn_x2049 := i_cl (x := x2049) (by omega)
    have cs2065 : CSP lw.toInt (fun j => fI H2045 sq j) (fun j => fI s.heap sq j) sc.toNatClampNeg (x2049.toNatClampNeg) 19 ([(paF kk vv lw.toInt (8 - x1.toNatClampNeg) tat.toNatClampNeg)]) := CSP.call f0_cs (m2057.resolve_left (by omega)) (by omega) (Nat.le_refl _) (Nat.le_of_ble_eq_true rfl)
    refine lv_iconst (v := 0) hx hb dX4_both_10 (by decide) ?_
    refine lv_istore_n (lv' := [(2, .int 0), (0, .ref a0), (1, .int x1)]) hx hb dX4_both_11 rfl hl (by decide) rfl (fun ls2066 hl2067 => ?_)
    have cn_x2049 := i_cl (x := x2049) (by omega)
    have cn_x2049 := i_cl (x := x2049) (by omega)
    have cn_F := i_cl (x := F) (by omega)
    exact J12 ((500 - (0 : Int32).toInt).toNat + 1) ((paF kk vv lw.toInt (8 - x1.toNatClampNeg) tat.toNatClampNeg)) ls2066 H2045 locsH2045 (0) (x2047) (x2048) (x2049) (lv_sub hl2067 [1, 2, 0] rfl) hTH2045 hSH2045 (by decide) (by have := i_rng x2047; omega) (by have := i_rng x2049; omega) ex2047 ex2048 ex2049 m2050 m2051 m2052 m2053 m2054 m2055 m2061 f2059 f2060 f2062 (CSP.cast cs2065 rfl (by omega) (Nat.le_refl _) rfl) (by omega) (by omega) (hsp0.trans (by exact lp_if (paS_gp _) (RQ.yes m2056 (by omega)))) (hsf0.trans (by exact lpG_if0 (paS_gp _) (RQ.yes m2056 (by omega))))
  · have k2064 := i_eq c2063
    refine lv_iconst (v := 0) hx hb dX4_both_8 (by decide) ?_
    have cn_F := i_cl (x := F) (by omega)
    have cn_x1 := i_cl (x := x1) (by omega)
    exact x_zret C hQ (Or.inl rfl) dX4_both_9 hSH2045 (by decide) (by decide) (⟨0, x2047, x2048, x2049, rfl, by decide, ex2047, ex2048, ex2049, by omega, m2050, m2051, m2052, m2053, m2054, m2055, Or.inl ⟨hsp0.trans (lp_none (paS_gp _) (RQ.no m2056 (by omega))), by omega⟩, (Or.inl (by omega)), f2062, hTH2045⟩)

set_option maxHeartbeats 4000000 in
set_option maxRecDepth 100000 in
theorem a_X4_either_g1 (l : Launch) (K : KE) (G : Nat → Option Nat) (H : Heap) {a0 : Nat} (x1 : Int32) {mq : Nat} {kq : Nat} {vq : Nat} {sq : Nat} (F : Int32) (tat : Int32) (fa : Int32) (sc : Int32) (lw : Int32) (li : Int32) (kk : Nat → Int) (vv : Nat → Int) (hT : TY K G H) (ga0 : G a0 = some 78) (hx1 : 1 ≤ x1.toInt ∧ x1.toInt ≤ 8) (gmq : G mq = some 69) (emq : mq = fR H a0 (K.1.2 4 0)) (gkq : G kq = some 79) (ekq : kq = fR H a0 (K.1.2 4 3)) (gvq : G vq = some 80) (evq : vq = fR H a0 (K.1.2 4 4)) (gsq : G sq = some 77) (esq : sq = fR H mq (K.1.2 7 8)) (etat : tat = fI H a0 (K.1.2 4 7)) (efa : fa = fI H a0 (K.1.2 4 1)) (esc : sc = fI H mq (K.1.2 7 9)) (elw : lw = fI H a0 (K.1.2 4 8)) (eli : li = fI H mq (K.1.2 7 0)) (hel0 : fI H kq (F : Int32).toNatClampNeg = 26) (hp0 : tat.toInt ≤ F.toInt) (hp1 : F.toInt ≤ 500) (hp2 : sc.toInt ≤ tat.toInt) (hy0 : ∀ j : Nat, 0 ≤ vv j ∧ vv j < 100000) (hv_kk : ∀ j : Nat, j ≤ F.toNatClampNeg → kk j = (fI H kq j).toInt) (hv_vv : ∀ j : Nat, j ≤ F.toNatClampNeg → vv j = (fI H vq j).toInt) : MX l K yX4_either cX4_either 3 (some .boolean) 33 736 0 0 [.ref a0, .int x1] H (AE G [78, 69, 77] H.size) (fun v H1 => ∃ (r : Int32) (t0 : Int32) (t1 : Int32) (t2 : Int32), v = some (.int r) ∧ (0 ≤ r.toInt ∧ r.toInt ≤ 1) ∧ t0 = fI H1 a0 (K.1.2 4 7) ∧ t1 = fI H1 a0 (K.1.2 4 1) ∧ t2 = fI H1 mq (K.1.2 7 9) ∧ (t0.toInt ≤ F.toInt ∧ ((r.toInt = 1 ∧ t1.toInt = fa.toInt ∧ tat.toInt < t0.toInt ∧ sc.toInt ≤ t2.toInt ∧ t2.toInt + tat.toInt ≤ sc.toInt + t0.toInt) ∨ (r.toInt = 0 ∧ t1.toInt ≠ 0))) ∧ mq = fR H1 a0 (K.1.2 4 0) ∧ kq = fR H1 a0 (K.1.2 4 3) ∧ vq = fR H1 a0 (K.1.2 4 4) ∧ sq = fR H1 mq (K.1.2 7 8) ∧ lw = fI H1 a0 (K.1.2 4 8) ∧ li = fI H1 mq (K.1.2 7 0) ∧ (RQ (lpI (paS kk vv lw.toInt (8 - x1.toNatClampNeg)) (cAO kk) tat.toNatClampNeg) r t0) ∧ (r.toInt = 0 ∨ CSP lw.toInt (fun j => fI H1 sq j) (fun j => fI H sq j) sc.toNatClampNeg t2.toNatClampNeg 20 [lpG (lpI (paS kk vv lw.toInt (8 - x1.toNatClampNeg)) (cAN kk)) (cOR kk) kk (anG kk (paS kk vv lw.toInt (8 - x1.toNatClampNeg)) (paF kk vv lw.toInt (8 - x1.toNatClampNeg))) 0 zF tat.toNatClampNeg]) ∧ (RFT K H1 H mq) ∧ TY K G H1) := by
  refine MX.of (by decide +kernel) (Nat.le_of_ble_eq_true rfl) ?_
  intro p e s m below meth c ls Q C hH hl hQ
  subst hH
  have C : CX p K s m _ meth c RX4 cX4_either 3 (some .boolean) "either" := C
  obtain ⟨hx, hb, hml, hown, hts, hKT, hr, hlocks, hnm⟩ := id C
  have hl : lv_has ls 3 [(0, .ref a0), (1, .int x1)] := hl
  have hS : va_S (AE G [78, 69, 77] s.heap.size) s.heap s.heap [] := va_S.rf
  have n_0 : (0 : Int32).toInt = 0 := rfl
  have n_1 : (1 : Int32).toInt = 1 := rfl
  have n_8 : (8 : Int32).toInt = 8 := rfl
  have n_26 : (26 : Int32).toInt = 26 := rfl
  have n_500 : (500 : Int32).toInt = 500 := rfl
  have btat := ty_fi (x := tat) (k := 7) etat hT ga0 rg_78 rfl
  have bfa := ty_fi (x := fa) (k := 1) efa hT ga0 rg_78 rfl
  have bsc := ty_fi (x := sc) (k := 9) esc hT gmq rg_69 rfl
  have blw := ty_fi (x := lw) (k := 8) elw hT ga0 rg_78 rfl
  have bli := ty_fi (x := li) (k := 0) eli hT gmq rg_69 rfl
  have hsp0 : lpI (paS kk vv lw.toInt (8 - x1.toNatClampNeg)) (cAO kk) tat.toNatClampNeg = lpI (paS kk vv lw.toInt (8 - x1.toNatClampNeg)) (cAO kk) tat.toNatClampNeg := rfl
  have hsf0 : lpG (lpI (paS kk vv lw.toInt (8 - x1.toNatClampNeg)) (cAN kk)) (cOR kk) kk (anG kk (paS kk vv lw.toInt (8 - x1.toNatClampNeg)) (paF kk vv lw.toInt (8 - x1.toNatClampNeg))) 0 zF tat.toNatClampNeg = lpG (lpI (paS kk vv lw.toInt (8 - x1.toNatClampNeg)) (cAN kk)) (cOR kk) kk (anG kk (paS kk vv lw.toInt (8 - x1.toNatClampNeg)) (paF kk vv lw.toInt (8 - x1.toNatClampNeg))) 0 zF tat.toNatClampNeg := rfl
  have f0_kk := hv_kk
  have f0_vv := hv_vv
  have f0_rt : RFT K s.heap s.heap mq := RFT.rf
  have f0_cs : CSP lw.toInt (fun j => fI s.heap sq j) (fun j => fI s.heap sq j) sc.toNatClampNeg (sc.toNatClampNeg) 20 ([]) := CSP.nil
  have J12 : ∀ (nf : Nat) (a_ : EF) (ls1966 : Array Slot) (H1965 : Heap) (locsH1965 : List Loc) (x1968 : Int32) (x1969 : Int32) (x1970 : Int32) (x1971 : Int32), lv_has ls1966 3 [(0, .ref a0), (1, .int x1), (2, .int x1968)] → TY K G H1965 → va_S (AE G [78, 69, 77] s.heap.size) s.heap H1965 locsH1965 → (0 ≤ x1968.toInt ∧ x1968.toInt ≤ 500) → (0 ≤ x1969.toInt ∧ x1969.toInt ≤ 500) → (0 ≤ x1971.toInt ∧ x1971.toInt ≤ 500) → (x1969 = fI H1965 a0 (K.1.2 4 7)) → (x1970 = fI H1965 a0 (K.1.2 4 1)) → (x1971 = fI H1965 mq (K.1.2 7 9)) → (mq = fR H1965 a0 (K.1.2 4 0)) → (kq = fR H1965 a0 (K.1.2 4 3)) → (vq = fR H1965 a0 (K.1.2 4 4)) → (sq = fR H1965 mq (K.1.2 7 8)) → (lw = fI H1965 a0 (K.1.2 4 8)) → (li = fI H1965 mq (K.1.2 7 0)) → (fI H1965 kq (F : Int32).toNatClampNeg = 26) → (∀ j : Nat, j ≤ F.toNatClampNeg → kk j = (fI H1965 kq j).toInt) → (∀ j : Nat, j ≤ F.toNatClampNeg → vv j = (fI H1965 vq j).toInt) → (RFT K H1965 s.heap mq) → (CSP lw.toInt (fun j => fI H1965 sq j) (fun j => fI s.heap sq j) sc.toNatClampNeg (x1971.toNatClampNeg) 20 ([a_])) → (500 - x1968.toInt < (nf : Int)) → (2 * x1968.toInt ≤ x1969.toInt ∧ tat.toInt < x1969.toInt ∧ x1971.toInt + tat.toInt ≤ sc.toInt + x1969.toInt ∧ x1969.toInt ≤ F.toInt ∧ x1970.toInt = fa.toInt ∧ sc.toInt ≤ x1971.toInt) → (lpI (paS kk vv lw.toInt (8 - x1.toNatClampNeg)) (cAO kk) tat.toNatClampNeg = (if cOR kk x1969.toNatClampNeg = true then lpI (paS kk vv lw.toInt (8 - x1.toNatClampNeg)) (cAO kk) (x1969.toNatClampNeg + 1) else some x1969.toNatClampNeg)) → (lpG (lpI (paS kk vv lw.toInt (8 - x1.toNatClampNeg)) (cAN kk)) (cOR kk) kk (anG kk (paS kk vv lw.toInt (8 - x1.toNatClampNeg)) (paF kk vv lw.toInt (8 - x1.toNatClampNeg))) 0 zF tat.toNatClampNeg = (if cOR kk x1969.toNatClampNeg = true then lpG (lpI (paS kk vv lw.toInt (8 - x1.toNatClampNeg)) (cAN kk)) (cOR kk) kk (anG kk (paS kk vv lw.toInt (8 - x1.toNatClampNeg)) (paF kk vv lw.toInt (8 - x1.toNatClampNeg))) (kk x1969.toNatClampNeg) a_ (x1969.toNatClampNeg + 1) else a_)) → W p l e ({ frames := 33, cells := 0, slots := 0, locals := 736 } : Room) s m (([.ref a0, .int x1] : List Value).toArray) below meth c H1965 locsH1965 0 0 Q (F0 m 12 ls1966 []) := by
    intro nf
    induction nf with
    | zero =>
      intro a_ ls1966 H1965 locsH1965 x1968 x1969 x1970 x1971 hl1967 hTH1965 hSH1965 bx1968 bx1969 bx1971 ex1969 ex1970 ex1971 cy1972_0 cy1972_1 cy1972_2 cy1972_3 cy1972_4 cy1972_5 cy1972_6 fy1972_kk fy1972_vv fy1972_rt fy1972_cs hm12 iv12 hsp12 hsf12
      have rx1970 := i_rng x1970
      exfalso
      omega
    | succ nf ih12 =>
      intro a_ ls1966 H1965 locsH1965 x1968 x1969 x1970 x1971 hl1967 hTH1965 hSH1965 bx1968 bx1969 bx1971 ex1969 ex1970 ex1971 cy1972_0 cy1972_1 cy1972_2 cy1972_3 cy1972_4 cy1972_5 cy1972_6 fy1972_kk fy1972_vv fy1972_rt fy1972_cs hm12 iv12 hsp12 hsf12
      have rx1970 := i_rng x1970
      refine lv_iload_n hx hb dX4_either_12 rfl (lv_at hl1967 2 rfl) ?_
      refine lv_sipush (v := 500) hx hb dX4_either_13 (by decide) ?_
      refine lv_icmp_ge (tgt := 69) hx hb dX4_either_16 (by decide) (fun c1973 => ?_) (fun c1973 => ?_)
      · have k1974 := i_le c1973
        refine lv_iconst (v := 1) hx hb dX4_either_69 (by decide) ?_
        have cn_F := i_cl (x := F) (by omega)
        have cn_x1 := i_cl (x := x1) (by omega)
        have cn_x1969 := i_cl (x := x1969) (by omega)
        have cn_x1971 := i_cl (x := x1971) (by omega)
        have cn_x1971 := i_cl (x := x1971) (by omega)
        exact x_zret C hQ (Or.inr rfl) dX4_either_70 hSH1965 (by decide) (by decide) (⟨1, x1969, x1970, x1971, rfl, by decide, ex1969, ex1970, ex1971, by omega, cy1972_0, cy1972_1, cy1972_2, cy1972_3, cy1972_4, cy1972_5, (by first | (exfalso; omega) | exact Or.inr ⟨hsp12.trans (if_n (show cOR kk _ = false from decide_eq_false (by omega))), by omega⟩), (by first | (exfalso; omega) | exact Or.inr (CSP.cast fy1972_cs rfl (by omega) (Nat.le_refl _) (congrArg (fun z => [z]) (hsf12.trans (if_neg (show ¬ cOR kk _ = true from by rw [show cOR kk _ = false from decide_eq_false (by omega)]; decide)))))), fy1972_rt, hTH1965⟩)
      · have k1974 := i_nle c1973
        refine lv_aload_n hx hb dX4_either_19 rfl (lv_at hl1967 0 rfl) ?_
        refine x_gr C hTH1965 (ci := 4) (k := 3) rfl inX4 (by decide) wF_X4_18 ga0 rg_78 rfl dX4_either_20 (fun q1975 eq1975 gq1975 => ?_)
        have uq1975 : kq = q1975 := (cy1972_1).trans eq1975.symm
        subst uq1975
        refine lv_aload_n hx hb dX4_either_23 rfl (lv_at hl1967 0 rfl) ?_
        refine x_gi C hTH1965 (ci := 4) (k := 7) rfl inX4 (by decide) wF_X4_42 ga0 rg_78 rfl dX4_either_24 (fun x1976 ex1976 bx1976 => ?_)
        have ux1976 : x1969 = x1976 := (ex1969).trans ex1976.symm
        subst ux1976
        refine x_ai C hTH1965 gkq rg_79 ⟨by omega, by show _ < ((501 : Nat) : Int); omega⟩ dX4_either_27 (fun x1977 ex1977 bx1977 => ?_)
        have dx1977 := el_hit ex1977 cy1972_6
        have qvx1977 : kk x1969.toNatClampNeg = x1977.toInt := (fy1972_kk _ (by have h1 := i_cl (x := x1969) (by omega); have h2 := i_cl (x := F) (by omega); omega)).trans (congrArg Int32.toInt ex1977.symm)
        refine lv_bipush (v := 8) hx hb dX4_either_28 (by decide) ?_
        refine lv_icmp_ne (tgt := 69) hx hb dX4_either_30 (by decide) (fun c1978 => ?_) (fun c1978 => ?_)
        · have k1979 := i_ne c1978
          refine lv_iconst (v := 1) hx hb dX4_either_69 (by decide) ?_
          have cn_F := i_cl (x := F) (by omega)
          have cn_x1 := i_cl (x := x1) (by omega)
          have cn_x1969 := i_cl (x := x1969) (by omega)
          have cn_x1971 := i_cl (x := x1971) (by omega)
          have cn_x1971 := i_cl (x := x1971) (by omega)
          exact x_zret C hQ (Or.inr rfl) dX4_either_70 hSH1965 (by decide) (by decide) (⟨1, x1969, x1970, x1971, rfl, by decide, ex1969, ex1970, ex1971, by omega, cy1972_0, cy1972_1, cy1972_2, cy1972_3, cy1972_4, cy1972_5, (by first | (exfalso; omega) | exact Or.inr ⟨hsp12.trans (if_n (show cOR kk _ = false from decide_eq_false (by omega))), by omega⟩), (by first | (exfalso; omega) | exact Or.inr (CSP.cast fy1972_cs rfl (by omega) (Nat.le_refl _) (congrArg (fun z => [z]) (hsf12.trans (if_neg (show ¬ cOR kk _ = true from by rw [show cOR kk _ = false from decide_eq_false (by omega)]; decide)))))), fy1972_rt, hTH1965⟩)
        · have k1979 := i_eq c1978
          refine lv_aload_n hx hb dX4_either_33 rfl (lv_at hl1967 0 rfl) ?_
          refine lv_dup hx hb dX4_either_34 rfl ?_
          refine x_gi C hTH1965 (ci := 4) (k := 7) rfl inX4 (by decide) wF_X4_42 ga0 rg_78 rfl dX4_either_35 (fun x1980 ex1980 bx1980 => ?_)
          have ux1980 : x1969 = x1980 := (ex1969).trans ex1980.symm
          subst ux1980
          refine lv_iconst (v := 1) hx hb dX4_either_38 (by decide) ?_
          refine lv_iadd hx hb dX4_either_39 ?_
          refine lv_topi (fun x1981 ex1981 => ?_)
          have tx1981 := i_add ex1981 (by omega)
          have fz1983 : 0 ≤ x1981.toInt ∧ x1981.toInt ≤ 500 := by have := i_rng x1981; omega
          refine x_put C hTH1965 hSH1965 (ci := 4) (k := 7) (v := .int x1981) (ty0 := tyX4) rfl inX4 tyX4_ok nmX4 (by decide) rfl wF_X4_42 ga0 rg_78 rfl rfl (okI (by have := i_rng x1981; omega) (by have := i_rng x1981; omega)) rfl rfl (AE_in ga0 (by decide)) dX4_either_40 (fun H1982 locsH1982 hTH1982 hSH1982 wH1982 => ?_)
          have f1984 : ∀ j : Nat, j ≤ F.toNatClampNeg → kk j = (fI H1982 kq j).toInt := fun j hj => (fy1972_kk j hj).trans (congrArg Int32.toInt (Wr.neI wH1982 (Or.inl (G_ne gkq ga0 (by decide)))).symm)
          have f1985 : ∀ j : Nat, j ≤ F.toNatClampNeg → vv j = (fI H1982 vq j).toInt := fun j hj => (fy1972_vv j hj).trans (congrArg Int32.toInt (Wr.neI wH1982 (Or.inl (G_ne gvq ga0 (by decide)))).symm)
          have f1986 : RFT K H1982 s.heap mq := RFT.st fy1972_rt (fun k h1 h8 => fR_kept (wH1982.off (G_ne gmq ga0 (by decide))))
          have f1987 : CSP lw.toInt (fun j => fI H1982 sq j) (fun j => fI s.heap sq j) sc.toNatClampNeg (x1971.toNatClampNeg) 20 ([a_]) := CSP.kept fy1972_cs (fun j => fI_kept (wH1982.off (G_ne gsq ga0 (by decide))))
          have m1989 := ex1970.trans (Wr.neI wH1982 (Or.inr (x_apart hKT hts inX4 tyX4 tyX4_ok nmX4 rfl 1 7 (by decide) (by decide) (by decide)))).symm
          have m1990 := ex1971.trans (Wr.neI wH1982 (Or.inl (G_ne gmq ga0 (by decide)))).symm
          have m1991 := cy1972_0.trans (Wr.neR wH1982 (Or.inr (x_apart hKT hts inX4 tyX4 tyX4_ok nmX4 rfl 0 7 (by decide) (by decide) (by decide)))).symm
          have m1992 := cy1972_1.trans (Wr.neR wH1982 (Or.inr (x_apart hKT hts inX4 tyX4 tyX4_ok nmX4 rfl 3 7 (by decide) (by decide) (by decide)))).symm
          have m1993 := cy1972_2.trans (Wr.neR wH1982 (Or.inr (x_apart hKT hts inX4 tyX4 tyX4_ok nmX4 rfl 4 7 (by decide) (by decide) (by decide)))).symm
          have m1994 := cy1972_3.trans (Wr.neR wH1982 (Or.inl (G_ne gmq ga0 (by decide)))).symm
          have m1995 := cy1972_4.trans (Wr.neI wH1982 (Or.inr (x_apart hKT hts inX4 tyX4 tyX4_ok nmX4 rfl 8 7 (by decide) (by decide) (by decide)))).symm
          have m1996 := cy1972_5.trans (Wr.neI wH1982 (Or.inl (G_ne gmq ga0 (by decide)))).symm
          have m1997 := (Wr.neI wH1982 (Or.inl (G_ne gkq ga0 (by decide)))).trans cy1972_6
          have m1998 := ex1977.trans (Wr.neI wH1982 (Or.inl (G_ne gkq ga0 (by decide)))).symm
          have m1999 := Wr.I wH1982
          have m1999 := m1999.symm
          refine lv_aload_n hx hb dX4_either_43 rfl (lv_at hl1967 0 rfl) ?_
          refine lv_iload_n hx hb dX4_either_44 rfl (lv_at hl1967 1 rfl) ?_
          refine x_V (As := [.int x1]) (rest := []) C (a_X4_both_g1 l K G H1982 (x1) (F) (x1981) (x1970) (x1971) (lw) (li) kk vv hTH1982 ga0 (by omega) gmq m1991 gkq m1992 gvq m1993 gsq m1994 m1999 m1989 m1990 m1995 m1996 m1997 (by omega) (by omega) (by omega) (hy0) f1984 f1985) yo_X4_both wM_X4_128 ⟨⟨by decide, by decide⟩, by decide, by decide⟩ (x_rv C hTH1982 (ci := 4) rfl ga0 rg_78) rfl hl1967.1 rfl (Nat.le_of_ble_eq_true rfl) dX4_either_45 hSH1982 (AE_sub (fun _ _ => rfl) (by decide) hSH1982.1) (fun vH2000 H2000 locsH2000 pH2000 zH2000 kH2000 hSH2000 => ?_)
          obtain ⟨x2001, x2002, x2003, x2004, hvH2000, bx2001, ex2002, ex2003, ex2004, hrH2000, m2005, m2006, m2007, m2008, m2009, m2010, m2011, m2012, m2013, hTH2000⟩ := pH2000
          subst hvH2000
          have f2014 : ∀ j : Nat, j ≤ F.toNatClampNeg → kk j = (fI H2000 kq j).toInt := fun j hj => (f1984 j hj).trans (congrArg Int32.toInt (fI_kept (x_lt hTH1982 kH2000 gkq (by decide))).symm)
          have f2015 : ∀ j : Nat, j ≤ F.toNatClampNeg → vv j = (fI H2000 vq j).toInt := fun j hj => (f1985 j hj).trans (congrArg Int32.toInt (fI_kept (x_lt hTH1982 kH2000 gvq (by decide))).symm)
          have m2016 := (fI_kept (x_lt hTH1982 kH2000 gkq (by decide))).trans m1997
          have m2017 := (m1998).trans (fI_kept (x_lt hTH1982 kH2000 gkq (by decide))).symm
          have bx2002 := ty_fi (x := x2002) (k := 7) ex2002 hTH2000 ga0 rg_78 rfl
          have bx2003 := ty_fi (x := x2003) (k := 1) ex2003 hTH2000 ga0 rg_78 rfl
          have bx2004 := ty_fi (x := x2004) (k := 9) ex2004 hTH2000 gmq rg_69 rfl
          have f2018 : RFT K H2000 s.heap mq := RFT.st f1986 m2013
          refine W.eq (g2 := F0 m 48 ls1966 [.int x2001]) rfl ?_
          refine lv_if_ne (tgt := 53) hx hb dX4_either_48 (by decide) (fun c2019 => ?_) (fun c2019 => ?_)
          · have k2020 := i_ne c2019
            have cn_x1971 := i_cl (x := x1971) (by omega)
            have cn_x1971 := i_cl (x := x1971) (by omega)
            have cn_x2004 := i_cl (x := x2004) (by omega)
            have cs2021 : CSP lw.toInt (fun j => fI H2000 sq j) (fun j => fI s.heap sq j) sc.toNatClampNeg (x2004.toNatClampNeg) 20 ([(anG kk (paS kk vv lw.toInt (8 - x1.toNatClampNeg)) (paF kk vv lw.toInt (8 - x1.toNatClampNeg)) x1981.toNatClampNeg), a_]) := CSP.call f1987 (m2012.resolve_left (by omega)) (by omega) (Nat.le_refl _) (Nat.le_of_ble_eq_true rfl)
            refine lv_aload_n hx hb dX4_either_53 rfl (lv_at hl1967 0 rfl) ?_
            refine x_gr C hTH2000 (ci := 4) (k := 0) rfl inX4 (by decide) wF_X4_12 ga0 rg_78 rfl dX4_either_54 (fun q2022 eq2022 gq2022 => ?_)
            have uq2022 : mq = q2022 := (m2005).trans eq2022.symm
            subst uq2022
            refine lv_bipush (v := 8) hx hb dX4_either_57 (by decide) ?_
            refine lv_iconst (v := 0) hx hb dX4_either_59 (by decide) ?_
            refine x_V (As := [.int 8, .int 0]) (rest := []) C (a_X7_addStep_g l K G H2000 (8) (0) (x2004) (li) hTH2000 gmq (by decide) (by decide) gsq m2008 ex2004 m2010 (by omega)) yo_X7_addStep wM_X4_131 ⟨⟨by decide, by decide⟩, by decide, by decide⟩ (x_rv C hTH2000 (ci := 7) rfl gmq rg_69) rfl hl1967.1 rfl (Nat.le_of_ble_eq_true rfl) dX4_either_60 hSH2000 (AE_sub (fun _ _ => rfl) (by decide) hSH2000.1) (fun vH2023 H2023 locsH2023 pH2023 zH2023 kH2023 hSH2023 => ?_)
            obtain ⟨x2024, hvH2023, ex2024, hrH2023, m2025, m2026, m2027, m2028, m2029, hTH2023⟩ := pH2023
            subst hvH2023
            have f2030 : ∀ j : Nat, j ≤ F.toNatClampNeg → kk j = (fI H2023 kq j).toInt := fun j hj => (f2014 j hj).trans (congrArg Int32.toInt (fI_kept (x_lt hTH2000 kH2023 gkq (by decide))).symm)
            have f2031 : ∀ j : Nat, j ≤ F.toNatClampNeg → vv j = (fI H2023 vq j).toInt := fun j hj => (f2015 j hj).trans (congrArg Int32.toInt (fI_kept (x_lt hTH2000 kH2023 gvq (by decide))).symm)
            have m2032 := (fI_kept (x_lt hTH2000 kH2023 gkq (by decide))).trans m2016
            have m2033 := (m2017).trans (fI_kept (x_lt hTH2000 kH2023 gkq (by decide))).symm
            have m2034 := (m2005).trans (fR_kept (x_lt hTH2000 kH2023 ga0 (by decide))).symm
            have m2035 := (m2006).trans (fR_kept (x_lt hTH2000 kH2023 ga0 (by decide))).symm
            have m2036 := (m2007).trans (fR_kept (x_lt hTH2000 kH2023 ga0 (by decide))).symm
            have m2037 := (m2009).trans (fI_kept (x_lt hTH2000 kH2023 ga0 (by decide))).symm
            have m2038 := (ex2002).trans (fI_kept (x_lt hTH2000 kH2023 ga0 (by decide))).symm
            have m2039 := (ex2003).trans (fI_kept (x_lt hTH2000 kH2023 ga0 (by decide))).symm
            have bx2024 := ty_fi (x := x2024) (k := 9) ex2024 hTH2023 gmq rg_69 rfl
            have cn_x2004 := i_cl (x := x2004) (by omega)
            have cn_x2004 := i_cl (x := x2004) (by omega)
            have cn_x2024 := i_cl (x := x2024) (by omega)
            have cs2040 : CSP lw.toInt (fun j => fI H2023 sq j) (fun j => fI s.heap sq j) sc.toNatClampNeg (x2024.toNatClampNeg) 20 ([cbF 8 a_ (anG kk (paS kk vv lw.toInt (8 - x1.toNatClampNeg)) (paF kk vv lw.toInt (8 - x1.toNatClampNeg)) x1981.toNatClampNeg)]) := CSP.bin (s := 8) cs2021 m2027 (Eq.trans m2028 (by omega)) (by omega) (by omega) (by omega)
            have f2041 : RFT K H2023 s.heap mq := RFT.st f2018 m2029
            refine W.eq (g2 := F0 m 63 ls1966 []) rfl ?_
            obtain ⟨x2042, ex2042⟩ : ∃ y : Int32, y = x1968 + 1 := ⟨_, rfl⟩
            have tx2042 := i_add ex2042 (by omega)
            refine lv_iinc (v := x2042) (lv' := [(2, .int x2042), (0, .ref a0), (1, .int x1)]) hx hb dX4_either_63 hl1967 (k := 2) rfl (by rw [ex2042]; rfl) (by decide) rfl (fun ls2043 hl2044 => ?_)
            refine lv_goto (tgt := 12) hx hb dX4_either_66 (by decide) ?_
            have cn_x2024 := i_cl (x := x2024) (by omega)
            have cn_x2024 := i_cl (x := x2024) (by omega)
            have cn_F := i_cl (x := F) (by omega)
            have cn_x1969 := i_cl (x := x1969) (by omega)
            have cn_x1981 := i_cl (x := x1981) (by omega)
            have cn_x1969 := i_cl (x := x1969) (by omega)
            have cn_x1981 := i_cl (x := x1981) (by omega)
            exact ih12 (cbF 8 a_ (anG kk (paS kk vv lw.toInt (8 - x1.toNatClampNeg)) (paF kk vv lw.toInt (8 - x1.toNatClampNeg)) x1981.toNatClampNeg)) ls2043 H2023 locsH2023 (x2042) (x2002) (x2003) (x2024) (lv_sub hl2044 [1, 2, 0] rfl) hTH2023 hSH2023 (by have := i_rng x2042; omega) (by have := i_rng x2002; omega) (by have := i_rng x2024; omega) m2038 m2039 ex2024 m2034 m2035 m2036 m2025 m2037 m2026 m2032 f2030 f2031 f2041 (CSP.cast cs2040 rfl (by omega) (Nat.le_refl _) rfl) (by omega) (by omega) (hsp12.trans (by rw [if_y (show cOR kk _ = true from decide_eq_true (by omega)), show x1969.toNatClampNeg + 1 = x1981.toNatClampNeg by omega]; exact ao_if (paS_gp _) (RQ.yes m2011 (by omega)))) (hsf12.trans (by rw [if_pos (show cOR kk _ = true from decide_eq_true (by omega)), show kk x1969.toNatClampNeg = 8 by omega, show x1969.toNatClampNeg + 1 = x1981.toNatClampNeg by omega]; exact lpG_if (lpI_gp (paS_gp _)) (RQ.yes m2011 (by omega))))
          · have k2020 := i_eq c2019
            refine lv_iconst (v := 0) hx hb dX4_either_51 (by decide) ?_
            have cn_F := i_cl (x := F) (by omega)
            have cn_x1 := i_cl (x := x1) (by omega)
            have cn_x1969 := i_cl (x := x1969) (by omega)
            have cn_x1981 := i_cl (x := x1981) (by omega)
            exact x_zret C hQ (Or.inl rfl) dX4_either_52 hSH2000 (by decide) (by decide) (⟨0, x2002, x2003, x2004, rfl, by decide, ex2002, ex2003, ex2004, by omega, m2005, m2006, m2007, m2008, m2009, m2010, Or.inl ⟨hsp12.trans ((if_y (show cOR kk _ = true from decide_eq_true (by omega))).trans (by rw [show x1969.toNatClampNeg + 1 = x1981.toNatClampNeg by omega]; exact ao_none (paS_gp _) (RQ.no m2011 (by omega)))), by omega⟩, (Or.inl (by omega)), f2018, hTH2000⟩)
  refine lv_aload_n hx hb dX4_either_0 rfl (lv_at hl 0 rfl) ?_
  refine lv_iload_n hx hb dX4_either_1 rfl (lv_at hl 1 rfl) ?_
  refine x_V (As := [.int x1]) (rest := []) C (a_X4_both_g1 l K G s.heap (x1) (F) (tat) (fa) (sc) (lw) (li) kk vv hT ga0 (by omega) gmq emq gkq ekq gvq evq gsq esq etat efa esc elw eli hel0 (by omega) (by omega) (by omega) (hy0) f0_kk f0_vv) yo_X4_both wM_X4_128 ⟨⟨by decide, by decide⟩, by decide, by decide⟩ (x_rv C hT (ci := 4) rfl ga0 rg_78) rfl hl.1 rfl (Nat.le_of_ble_eq_true rfl) dX4_either_2 hS (AE_sub (fun _ _ => rfl) (by decide) hS.1) (fun vH2045 H2045 locsH2045 pH2045 zH2045 kH2045 hSH2045 => ?_)
  obtain ⟨x2046, x2047, x2048, x2049, hvH2045, bx2046, ex2047, ex2048, ex2049, hrH2045, m2050, m2051, m2052, m2053, m2054, m2055, m2056, m2057, m2058, hTH2045⟩ := pH2045
  subst hvH2045
  have f2059 : ∀ j : Nat, j ≤ F.toNatClampNeg → kk j = (fI H2045 kq j).toInt := fun j hj => (f0_kk j hj).trans (congrArg Int32.toInt (fI_kept (x_lt hT kH2045 gkq (by decide))).symm)
  have f2060 : ∀ j : Nat, j ≤ F.toNatClampNeg → vv j = (fI H2045 vq j).toInt := fun j hj => (f0_vv j hj).trans (congrArg Int32.toInt (fI_kept (x_lt hT kH2045 gvq (by decide))).symm)
  have m2061 := (fI_kept (x_lt hT kH2045 gkq (by decide))).trans hel0
  have bx2047 := ty_fi (x := x2047) (k := 7) ex2047 hTH2045 ga0 rg_78 rfl
  have bx2048 := ty_fi (x := x2048) (k := 1) ex2048 hTH2045 ga0 rg_78 rfl
  have bx2049 := ty_fi (x := x2049) (k := 9) ex2049 hTH2045 gmq rg_69 rfl
  have f2062 : RFT K H2045 s.heap mq := RFT.st f0_rt m2058
  refine W.eq (g2 := F0 m 5 ls [.int x2046]) rfl ?_
  refine lv_if_ne (tgt := 10) hx hb dX4_either_5 (by decide) (fun c2063 => ?_) (fun c2063 => ?_)
  · have k2064 := i_ne c2063
    have cn_sc := i_cl (x := sc) (by omega)
    have cn_sc := i_cl (x := sc) (by omega)
    have cn_x2049 := i_cl (x := x2049) (by omega)
    have cs2065 : CSP lw.toInt (fun j => fI H2045 sq j) (fun j => fI s.heap sq j) sc.toNatClampNeg (x2049.toNatClampNeg) 20 ([(anG kk (paS kk vv lw.toInt (8 - x1.toNatClampNeg)) (paF kk vv lw.toInt (8 - x1.toNatClampNeg)) tat.toNatClampNeg)]) := CSP.call f0_cs (m2057.resolve_left (by omega)) (by omega) (Nat.le_refl _) (Nat.le_of_ble_eq_true rfl)
    refine lv_iconst (v := 0) hx hb dX4_either_10 (by decide) ?_
    refine lv_istore_n (lv' := [(2, .int 0), (0, .ref a0), (1, .int x1)]) hx hb dX4_either_11 rfl hl (by decide) rfl (fun ls2066 hl2067 => ?_)
    have cn_x2049 := i_cl (x := x2049) (by omega)
    have cn_x2049 := i_cl (x := x2049) (by omega)
    have cn_F := i_cl (x := F) (by omega)
    exact J12 ((500 - (0 : Int32).toInt).toNat + 1) ((anG kk (paS kk vv lw.toInt (8 - x1.toNatClampNeg)) (paF kk vv lw.toInt (8 - x1.toNatClampNeg)) tat.toNatClampNeg)) ls2066 H2045 locsH2045 (0) (x2047) (x2048) (x2049) (lv_sub hl2067 [1, 2, 0] rfl) hTH2045 hSH2045 (by decide) (by have := i_rng x2047; omega) (by have := i_rng x2049; omega) ex2047 ex2048 ex2049 m2050 m2051 m2052 m2053 m2054 m2055 m2061 f2059 f2060 f2062 (CSP.cast cs2065 rfl (by omega) (Nat.le_refl _) rfl) (by omega) (by omega) (hsp0.trans (by exact ao_if (paS_gp _) (RQ.yes m2056 (by omega)))) (hsf0.trans (by exact lpG_if0 (lpI_gp (paS_gp _)) (RQ.yes m2056 (by omega))))
  · have k2064 := i_eq c2063
    refine lv_iconst (v := 0) hx hb dX4_either_8 (by decide) ?_
    have cn_F := i_cl (x := F) (by omega)
    have cn_x1 := i_cl (x := x1) (by omega)
    exact x_zret C hQ (Or.inl rfl) dX4_either_9 hSH2045 (by decide) (by decide) (⟨0, x2047, x2048, x2049, rfl, by decide, ex2047, ex2048, ex2049, by omega, m2050, m2051, m2052, m2053, m2054, m2055, Or.inl ⟨hsp0.trans (ao_none (paS_gp _) (RQ.no m2056 (by omega))), by omega⟩, (Or.inl (by omega)), f2062, hTH2045⟩)

set_option maxHeartbeats 4000000 in
set_option maxRecDepth 100000 in
theorem a_X4_opened_g1 (l : Launch) (K : KE) (G : Nat → Option Nat) (H : Heap) {a0 : Nat} (x1 : Int32) (x2 : Int32) {mq : Nat} {kq : Nat} {vq : Nat} {sq : Nat} (F : Int32) (tat : Int32) (fa : Int32) (sc : Int32) (lw : Int32) (li : Int32) (kk : Nat → Int) (vv : Nat → Int) (hT : TY K G H) (ga0 : G a0 = some 78) (hx2 : 1 ≤ x2.toInt ∧ x2.toInt ≤ 8) (gmq : G mq = some 69) (emq : mq = fR H a0 (K.1.2 4 0)) (gkq : G kq = some 79) (ekq : kq = fR H a0 (K.1.2 4 3)) (gvq : G vq = some 80) (evq : vq = fR H a0 (K.1.2 4 4)) (gsq : G sq = some 77) (esq : sq = fR H mq (K.1.2 7 8)) (etat : tat = fI H a0 (K.1.2 4 7)) (efa : fa = fI H a0 (K.1.2 4 1)) (esc : sc = fI H mq (K.1.2 7 9)) (elw : lw = fI H a0 (K.1.2 4 8)) (eli : li = fI H mq (K.1.2 7 0)) (hel0 : fI H kq (F : Int32).toNatClampNeg = 26) (hp0 : tat.toInt ≤ F.toInt) (hp1 : F.toInt ≤ 500) (hp2 : sc.toInt ≤ tat.toInt) (hp3 : tat.toInt < F.toInt) (hy0 : ∀ j : Nat, 0 ≤ vv j ∧ vv j < 100000) (hv_kk : ∀ j : Nat, j ≤ F.toNatClampNeg → kk j = (fI H kq j).toInt) (hv_vv : ∀ j : Nat, j ≤ F.toNatClampNeg → vv j = (fI H vq j).toInt) : MX l K yX4_opened cX4_opened 3 (some .boolean) 34 758 0 0 [.ref a0, .int x1, .int x2] H (AE G [78, 69, 77] H.size) (fun v H1 => ∃ (r : Int32) (t0 : Int32) (t1 : Int32) (t2 : Int32), v = some (.int r) ∧ (0 ≤ r.toInt ∧ r.toInt ≤ 1) ∧ t0 = fI H1 a0 (K.1.2 4 7) ∧ t1 = fI H1 a0 (K.1.2 4 1) ∧ t2 = fI H1 mq (K.1.2 7 9) ∧ (t0.toInt ≤ F.toInt ∧ ((r.toInt = 1 ∧ t1.toInt = fa.toInt ∧ tat.toInt < t0.toInt ∧ sc.toInt ≤ t2.toInt ∧ t2.toInt + tat.toInt ≤ sc.toInt + t0.toInt) ∨ (r.toInt = 0 ∧ t1.toInt ≠ 0))) ∧ mq = fR H1 a0 (K.1.2 4 0) ∧ kq = fR H1 a0 (K.1.2 4 3) ∧ vq = fR H1 a0 (K.1.2 4 4) ∧ sq = fR H1 mq (K.1.2 7 8) ∧ lw = fI H1 a0 (K.1.2 4 8) ∧ li = fI H1 mq (K.1.2 7 0) ∧ (RQ (opI kk vv lw.toInt (8 - x2.toNatClampNeg) x1.toInt tat.toNatClampNeg) r t0) ∧ (r.toInt = 0 ∨ CSP lw.toInt (fun j => fI H1 sq j) (fun j => fI H sq j) sc.toNatClampNeg t2.toNatClampNeg 20 [opF kk vv lw.toInt (8 - x2.toNatClampNeg) x1.toInt tat.toNatClampNeg]) ∧ (RFT K H1 H mq) ∧ TY K G H1) := by
  refine MX.of (by decide +kernel) (Nat.le_of_ble_eq_true rfl) ?_
  intro p e s m below meth c ls Q C hH hl hQ
  subst hH
  have C : CX p K s m _ meth c RX4 cX4_opened 3 (some .boolean) "opened" := C
  obtain ⟨hx, hb, hml, hown, hts, hKT, hr, hlocks, hnm⟩ := id C
  have hl : lv_has ls 3 [(0, .ref a0), (1, .int x1), (2, .int x2)] := hl
  have hS : va_S (AE G [78, 69, 77] s.heap.size) s.heap s.heap [] := va_S.rf
  have n_0 : (0 : Int32).toInt = 0 := rfl
  have n_1 : (1 : Int32).toInt = 1 := rfl
  have n_10 : (10 : Int32).toInt = 10 := rfl
  have n_26 : (26 : Int32).toInt = 26 := rfl
  have n_41 : (41 : Int32).toInt = 41 := rfl
  have btat := ty_fi (x := tat) (k := 7) etat hT ga0 rg_78 rfl
  have bfa := ty_fi (x := fa) (k := 1) efa hT ga0 rg_78 rfl
  have bsc := ty_fi (x := sc) (k := 9) esc hT gmq rg_69 rfl
  have blw := ty_fi (x := lw) (k := 8) elw hT ga0 rg_78 rfl
  have bli := ty_fi (x := li) (k := 0) eli hT gmq rg_69 rfl
  have hsp0 : opI kk vv lw.toInt (8 - x2.toNatClampNeg) x1.toInt tat.toNatClampNeg = opI kk vv lw.toInt (8 - x2.toNatClampNeg) x1.toInt tat.toNatClampNeg := rfl
  have hsf0 : opF kk vv lw.toInt (8 - x2.toNatClampNeg) x1.toInt tat.toNatClampNeg = opF kk vv lw.toInt (8 - x2.toNatClampNeg) x1.toInt tat.toNatClampNeg := rfl
  have f0_kk := hv_kk
  have f0_vv := hv_vv
  have f0_rt : RFT K s.heap s.heap mq := RFT.rf
  have f0_cs : CSP lw.toInt (fun j => fI s.heap sq j) (fun j => fI s.heap sq j) sc.toNatClampNeg (sc.toNatClampNeg) 20 ([]) := CSP.nil
  refine lv_aload_n hx hb dX4_opened_0 rfl (lv_at hl 0 rfl) ?_
  refine lv_dup hx hb dX4_opened_1 rfl ?_
  refine x_gi C hT (ci := 4) (k := 7) rfl inX4 (by decide) wF_X4_42 ga0 rg_78 rfl dX4_opened_2 (fun x585 ex585 bx585 => ?_)
  have ux585 : tat = x585 := (etat).trans ex585.symm
  subst ux585
  refine lv_iconst (v := 1) hx hb dX4_opened_5 (by decide) ?_
  refine lv_iadd hx hb dX4_opened_6 ?_
  refine lv_topi (fun x586 ex586 => ?_)
  have tx586 := i_add ex586 (by omega)
  have fz588 : 0 ≤ x586.toInt ∧ x586.toInt ≤ 500 := by have := i_rng x586; omega
  refine x_put C hT hS (ci := 4) (k := 7) (v := .int x586) (ty0 := tyX4) rfl inX4 tyX4_ok nmX4 (by decide) rfl wF_X4_42 ga0 rg_78 rfl rfl (okI (by have := i_rng x586; omega) (by have := i_rng x586; omega)) rfl rfl (AE_in ga0 (by decide)) dX4_opened_7 (fun H587 locsH587 hTH587 hSH587 wH587 => ?_)
  have f589 : ∀ j : Nat, j ≤ F.toNatClampNeg → kk j = (fI H587 kq j).toInt := fun j hj => (f0_kk j hj).trans (congrArg Int32.toInt (Wr.neI wH587 (Or.inl (G_ne gkq ga0 (by decide)))).symm)
  have f590 : ∀ j : Nat, j ≤ F.toNatClampNeg → vv j = (fI H587 vq j).toInt := fun j hj => (f0_vv j hj).trans (congrArg Int32.toInt (Wr.neI wH587 (Or.inl (G_ne gvq ga0 (by decide)))).symm)
  have f591 : RFT K H587 s.heap mq := RFT.st f0_rt (fun k h1 h8 => fR_kept (wH587.off (G_ne gmq ga0 (by decide))))
  have f592 : CSP lw.toInt (fun j => fI H587 sq j) (fun j => fI s.heap sq j) sc.toNatClampNeg (sc.toNatClampNeg) 20 ([]) := CSP.kept f0_cs (fun j => fI_kept (wH587.off (G_ne gsq ga0 (by decide))))
  have m593 := emq.trans (Wr.neR wH587 (Or.inr (x_apart hKT hts inX4 tyX4 tyX4_ok nmX4 rfl 0 7 (by decide) (by decide) (by decide)))).symm
  have m594 := ekq.trans (Wr.neR wH587 (Or.inr (x_apart hKT hts inX4 tyX4 tyX4_ok nmX4 rfl 3 7 (by decide) (by decide) (by decide)))).symm
  have m595 := evq.trans (Wr.neR wH587 (Or.inr (x_apart hKT hts inX4 tyX4 tyX4_ok nmX4 rfl 4 7 (by decide) (by decide) (by decide)))).symm
  have m596 := esq.trans (Wr.neR wH587 (Or.inl (G_ne gmq ga0 (by decide)))).symm
  have m598 := efa.trans (Wr.neI wH587 (Or.inr (x_apart hKT hts inX4 tyX4 tyX4_ok nmX4 rfl 1 7 (by decide) (by decide) (by decide)))).symm
  have m599 := esc.trans (Wr.neI wH587 (Or.inl (G_ne gmq ga0 (by decide)))).symm
  have m600 := elw.trans (Wr.neI wH587 (Or.inr (x_apart hKT hts inX4 tyX4 tyX4_ok nmX4 rfl 8 7 (by decide) (by decide) (by decide)))).symm
  have m601 := eli.trans (Wr.neI wH587 (Or.inl (G_ne gmq ga0 (by decide)))).symm
  have m602 := (Wr.neI wH587 (Or.inl (G_ne gkq ga0 (by decide)))).trans hel0
  have m603 := Wr.I wH587
  have m603 := m603.symm
  refine lv_iload_n hx hb dX4_opened_10 rfl (lv_at hl 1 rfl) ?_
  refine lv_bipush (v := 10) hx hb dX4_opened_11 (by decide) ?_
  refine lv_icmp_ne (tgt := 38) hx hb dX4_opened_13 (by decide) (fun c604 => ?_) (fun c604 => ?_)
  · have k605 := i_ne c604
    refine lv_aload_n hx hb dX4_opened_38 rfl (lv_at hl 0 rfl) ?_
    refine lv_iload_n hx hb dX4_opened_39 rfl (lv_at hl 2 rfl) ?_
    refine x_V (As := [.int x2]) (rest := []) C (a_X4_either_g1 l K G H587 (x2) (F) (x586) (fa) (sc) (lw) (li) kk vv hTH587 ga0 (by omega) gmq m593 gkq m594 gvq m595 gsq m596 m603 m598 m599 m600 m601 m602 (by omega) (by omega) (by omega) (hy0) f589 f590) yo_X4_either wM_X4_113 ⟨⟨by decide, by decide⟩, by decide, by decide⟩ (x_rv C hTH587 (ci := 4) rfl ga0 rg_78) rfl hl.1 rfl (Nat.le_of_ble_eq_true rfl) dX4_opened_40 hSH587 (AE_sub (fun _ _ => rfl) (by decide) hSH587.1) (fun vH606 H606 locsH606 pH606 zH606 kH606 hSH606 => ?_)
    obtain ⟨x607, x608, x609, x610, hvH606, bx607, ex608, ex609, ex610, hrH606, m611, m612, m613, m614, m615, m616, m617, m618, m619, hTH606⟩ := pH606
    subst hvH606
    have f620 : ∀ j : Nat, j ≤ F.toNatClampNeg → kk j = (fI H606 kq j).toInt := fun j hj => (f589 j hj).trans (congrArg Int32.toInt (fI_kept (x_lt hTH587 kH606 gkq (by decide))).symm)
    have f621 : ∀ j : Nat, j ≤ F.toNatClampNeg → vv j = (fI H606 vq j).toInt := fun j hj => (f590 j hj).trans (congrArg Int32.toInt (fI_kept (x_lt hTH587 kH606 gvq (by decide))).symm)
    have m622 := (fI_kept (x_lt hTH587 kH606 gkq (by decide))).trans m602
    have bx608 := ty_fi (x := x608) (k := 7) ex608 hTH606 ga0 rg_78 rfl
    have bx609 := ty_fi (x := x609) (k := 1) ex609 hTH606 ga0 rg_78 rfl
    have bx610 := ty_fi (x := x610) (k := 9) ex610 hTH606 gmq rg_69 rfl
    have f623 : RFT K H606 s.heap mq := RFT.st f591 m619
    refine W.eq (g2 := F0 m 43 ls [.int x607]) rfl ?_
    refine lv_if_ne (tgt := 48) hx hb dX4_opened_43 (by decide) (fun c624 => ?_) (fun c624 => ?_)
    · have k625 := i_ne c624
      have cn_sc := i_cl (x := sc) (by omega)
      have cn_sc := i_cl (x := sc) (by omega)
      have cn_x610 := i_cl (x := x610) (by omega)
      have cs626 : CSP lw.toInt (fun j => fI H606 sq j) (fun j => fI s.heap sq j) sc.toNatClampNeg (x610.toNatClampNeg) 20 ([(orG kk (paS kk vv lw.toInt (8 - x2.toNatClampNeg)) (paF kk vv lw.toInt (8 - x2.toNatClampNeg)) x586.toNatClampNeg)]) := CSP.call f592 (m618.resolve_left (by omega)) (by omega) (Nat.le_refl _) (Nat.le_of_ble_eq_true rfl)
      refine lv_aload_n hx hb dX4_opened_48 rfl (lv_at hl 0 rfl) ?_
      refine x_gr C hTH606 (ci := 4) (k := 3) rfl inX4 (by decide) wF_X4_18 ga0 rg_78 rfl dX4_opened_49 (fun q627 eq627 gq627 => ?_)
      have uq627 : kq = q627 := (m612).trans eq627.symm
      subst uq627
      refine lv_aload_n hx hb dX4_opened_52 rfl (lv_at hl 0 rfl) ?_
      refine x_gi C hTH606 (ci := 4) (k := 7) rfl inX4 (by decide) wF_X4_42 ga0 rg_78 rfl dX4_opened_53 (fun x628 ex628 bx628 => ?_)
      have ux628 : x608 = x628 := (ex608).trans ex628.symm
      subst ux628
      refine x_ai C hTH606 gkq rg_79 ⟨by omega, by show _ < ((501 : Nat) : Int); omega⟩ dX4_opened_56 (fun x629 ex629 bx629 => ?_)
      have dx629 := el_hit ex629 m622
      have qvx629 : kk x608.toNatClampNeg = x629.toInt := (f620 _ (by have h1 := i_cl (x := x608) (by omega); have h2 := i_cl (x := F) (by omega); omega)).trans (congrArg Int32.toInt ex629.symm)
      refine lv_bipush (v := 41) hx hb dX4_opened_57 (by decide) ?_
      refine lv_icmp_eq (tgt := 68) hx hb dX4_opened_59 (by decide) (fun c630 => ?_) (fun c630 => ?_)
      · have k631 := i_eq c630
        refine lv_aload_n hx hb dX4_opened_68 rfl (lv_at hl 0 rfl) ?_
        refine lv_dup hx hb dX4_opened_69 rfl ?_
        refine x_gi C hTH606 (ci := 4) (k := 7) rfl inX4 (by decide) wF_X4_42 ga0 rg_78 rfl dX4_opened_70 (fun x632 ex632 bx632 => ?_)
        have ux632 : x608 = x632 := (ex608).trans ex632.symm
        subst ux632
        refine lv_iconst (v := 1) hx hb dX4_opened_73 (by decide) ?_
        refine lv_iadd hx hb dX4_opened_74 ?_
        refine lv_topi (fun x633 ex633 => ?_)
        have tx633 := i_add ex633 (by omega)
        have fz635 : 0 ≤ x633.toInt ∧ x633.toInt ≤ 500 := by have := i_rng x633; omega
        refine x_put C hTH606 hSH606 (ci := 4) (k := 7) (v := .int x633) (ty0 := tyX4) rfl inX4 tyX4_ok nmX4 (by decide) rfl wF_X4_42 ga0 rg_78 rfl rfl (okI (by have := i_rng x633; omega) (by have := i_rng x633; omega)) rfl rfl (AE_in ga0 (by decide)) dX4_opened_75 (fun H634 locsH634 hTH634 hSH634 wH634 => ?_)
        have f636 : ∀ j : Nat, j ≤ F.toNatClampNeg → kk j = (fI H634 kq j).toInt := fun j hj => (f620 j hj).trans (congrArg Int32.toInt (Wr.neI wH634 (Or.inl (G_ne gkq ga0 (by decide)))).symm)
        have f637 : ∀ j : Nat, j ≤ F.toNatClampNeg → vv j = (fI H634 vq j).toInt := fun j hj => (f621 j hj).trans (congrArg Int32.toInt (Wr.neI wH634 (Or.inl (G_ne gvq ga0 (by decide)))).symm)
        have f638 : RFT K H634 s.heap mq := RFT.st f623 (fun k h1 h8 => fR_kept (wH634.off (G_ne gmq ga0 (by decide))))
        have f639 : CSP lw.toInt (fun j => fI H634 sq j) (fun j => fI s.heap sq j) sc.toNatClampNeg (x610.toNatClampNeg) 20 ([(orG kk (paS kk vv lw.toInt (8 - x2.toNatClampNeg)) (paF kk vv lw.toInt (8 - x2.toNatClampNeg)) x586.toNatClampNeg)]) := CSP.kept cs626 (fun j => fI_kept (wH634.off (G_ne gsq ga0 (by decide))))
        have m640 := (Wr.neI wH634 (Or.inl (G_ne gkq ga0 (by decide)))).trans m622
        have m641 := m611.trans (Wr.neR wH634 (Or.inr (x_apart hKT hts inX4 tyX4 tyX4_ok nmX4 rfl 0 7 (by decide) (by decide) (by decide)))).symm
        have m642 := m612.trans (Wr.neR wH634 (Or.inr (x_apart hKT hts inX4 tyX4 tyX4_ok nmX4 rfl 3 7 (by decide) (by decide) (by decide)))).symm
        have m643 := m613.trans (Wr.neR wH634 (Or.inr (x_apart hKT hts inX4 tyX4 tyX4_ok nmX4 rfl 4 7 (by decide) (by decide) (by decide)))).symm
        have m644 := m614.trans (Wr.neR wH634 (Or.inl (G_ne gmq ga0 (by decide)))).symm
        have m645 := m615.trans (Wr.neI wH634 (Or.inr (x_apart hKT hts inX4 tyX4 tyX4_ok nmX4 rfl 8 7 (by decide) (by decide) (by decide)))).symm
        have m646 := m616.trans (Wr.neI wH634 (Or.inl (G_ne gmq ga0 (by decide)))).symm
        have m648 := ex609.trans (Wr.neI wH634 (Or.inr (x_apart hKT hts inX4 tyX4 tyX4_ok nmX4 rfl 1 7 (by decide) (by decide) (by decide)))).symm
        have m649 := ex610.trans (Wr.neI wH634 (Or.inl (G_ne gmq ga0 (by decide)))).symm
        have m650 := ex629.trans (Wr.neI wH634 (Or.inl (G_ne gkq ga0 (by decide)))).symm
        have m651 := Wr.I wH634
        have m651 := m651.symm
        refine lv_iconst (v := 1) hx hb dX4_opened_78 (by decide) ?_
        have cn_F := i_cl (x := F) (by omega)
        have cn_tat := i_cl (x := tat) (by omega)
        have cn_x2 := i_cl (x := x2) (by omega)
        have cn_x586 := i_cl (x := x586) (by omega)
        have cn_x633 := i_cl (x := x633) (by omega)
        have cn_x608 := i_cl (x := x608) (by omega)
        have cn_x610 := i_cl (x := x610) (by omega)
        have cn_x610 := i_cl (x := x610) (by omega)
        have cn_tat := i_cl (x := tat) (by omega)
        have cn_x586 := i_cl (x := x586) (by omega)
        exact x_zret C hQ (Or.inr rfl) dX4_opened_79 hSH634 (by decide) (by decide) (⟨1, x633, x609, x610, rfl, by decide, m651, m648, m649, by omega, m641, m642, m643, m644, m645, m646, Or.inr ⟨op_ok (by omega) (show x586.toNatClampNeg = _ + 1 by omega) (RQ.yes m617 (by omega)) (by rw [qvx629]; omega) (show x633.toNatClampNeg = _ + 1 by omega), by omega⟩, Or.inr (CSP.cast f639 rfl (by omega) (Nat.le_refl _) (congrArg (fun z => [z]) (opF_br (by omega) (show x586.toNatClampNeg = _ + 1 by omega)))), f638, hTH634⟩)
      · have k631 := i_ne c630
        refine lv_aload_n hx hb dX4_opened_62 rfl (lv_at hl 0 rfl) ?_
        refine lv_iconst (v := 1) hx hb dX4_opened_63 (by decide) ?_
        refine x_V (As := [.int 1]) (rest := []) C (a_X4_refuse_e l K G H606 (1) (x608) (x609) (lw) hTH606 ga0 gmq m611 gkq m612 gvq m613 ex608 ex609 m615) yo_X4_refuse wM_X4_81 ⟨⟨by decide, by decide⟩, by decide, by decide⟩ (x_rv C hTH606 (ci := 4) rfl ga0 rg_78) rfl hl.1 rfl (Nat.le_of_ble_eq_true rfl) dX4_opened_64 hSH606 (AE_sub (fun _ _ => rfl) (by decide) hSH606.1) (fun vH652 H652 locsH652 pH652 zH652 kH652 hSH652 => ?_)
        obtain ⟨x653, x654, x655, hvH652, bx653, ex654, ex655, hrH652, m656, m657, m658, m659, hTH652⟩ := pH652
        subst hvH652
        have f660 : ∀ j : Nat, j ≤ F.toNatClampNeg → kk j = (fI H652 kq j).toInt := fun j hj => (f620 j hj).trans (congrArg Int32.toInt (fI_kept (x_lt hTH606 kH652 gkq (by decide))).symm)
        have f661 : ∀ j : Nat, j ≤ F.toNatClampNeg → vv j = (fI H652 vq j).toInt := fun j hj => (f621 j hj).trans (congrArg Int32.toInt (fI_kept (x_lt hTH606 kH652 gvq (by decide))).symm)
        have f662 : RFT K H652 s.heap mq := RFT.st f623 (fun k h1 h8 => fR_kept (x_lt hTH606 kH652 gmq (by decide)))
        have f663 : CSP lw.toInt (fun j => fI H652 sq j) (fun j => fI s.heap sq j) sc.toNatClampNeg (x610.toNatClampNeg) 20 ([(orG kk (paS kk vv lw.toInt (8 - x2.toNatClampNeg)) (paF kk vv lw.toInt (8 - x2.toNatClampNeg)) x586.toNatClampNeg)]) := CSP.kept cs626 (fun j => fI_kept (x_lt hTH606 kH652 gsq (by decide)))
        have m664 := (fI_kept (x_lt hTH606 kH652 gkq (by decide))).trans m622
        have m665 := (m614).trans (fR_kept (x_lt hTH606 kH652 gmq (by decide))).symm
        have m666 := (m616).trans (fI_kept (x_lt hTH606 kH652 gmq (by decide))).symm
        have m667 := (ex610).trans (fI_kept (x_lt hTH606 kH652 gmq (by decide))).symm
        have m668 := (ex629).trans (fI_kept (x_lt hTH606 kH652 gkq (by decide))).symm
        have bx654 := ty_fi (x := x654) (k := 7) ex654 hTH652 ga0 rg_78 rfl
        have bx655 := ty_fi (x := x655) (k := 1) ex655 hTH652 ga0 rg_78 rfl
        refine W.eq (g2 := F0 m 67 ls [.int x653]) rfl ?_
        have cn_F := i_cl (x := F) (by omega)
        have cn_tat := i_cl (x := tat) (by omega)
        have cn_x2 := i_cl (x := x2) (by omega)
        have cn_x586 := i_cl (x := x586) (by omega)
        exact x_zret C hQ (i_01 (by omega)) dX4_opened_67 hSH652 (by decide) (by decide) (⟨x653, x654, x655, x610, rfl, by omega, ex654, ex655, m667, by omega, m656, m657, m658, m665, m659, m666, Or.inl ⟨op_no2 (by omega) (show x586.toNatClampNeg = _ + 1 by omega) (RQ.yes m617 (by omega)) (by rw [qvx629]; omega), by omega⟩, (Or.inl (by omega)), f662, hTH652⟩)
    · have k625 := i_eq c624
      refine lv_iconst (v := 0) hx hb dX4_opened_46 (by decide) ?_
      have cn_F := i_cl (x := F) (by omega)
      have cn_tat := i_cl (x := tat) (by omega)
      have cn_x2 := i_cl (x := x2) (by omega)
      have cn_x586 := i_cl (x := x586) (by omega)
      exact x_zret C hQ (Or.inl rfl) dX4_opened_47 hSH606 (by decide) (by decide) (⟨0, x608, x609, x610, rfl, by decide, ex608, ex609, ex610, by omega, m611, m612, m613, m614, m615, m616, Or.inl ⟨op_no1 (by omega) (show x586.toNatClampNeg = _ + 1 by omega) (RQ.no m617 (by omega)), by omega⟩, (Or.inl (by omega)), f623, hTH606⟩)
  · have k605 := i_eq c604
    refine lv_aload_n hx hb dX4_opened_16 rfl (lv_at hl 0 rfl) ?_
    refine lv_iload_n hx hb dX4_opened_17 rfl (lv_at hl 2 rfl) ?_
    refine x_V (As := [.int x2]) (rest := []) C (a_X4_part_g1 l K G H587 (x2) (F) (x586) (fa) (sc) (lw) (li) kk vv hTH587 ga0 (by omega) gmq m593 gkq m594 gvq m595 gsq m596 m603 m598 m599 m600 m601 m602 (by omega) (by omega) (by omega) (hy0) f589 f590) yo_X4_part wM_X4_135 ⟨⟨by decide, by decide⟩, by decide, by decide⟩ (x_rv C hTH587 (ci := 4) rfl ga0 rg_78) rfl hl.1 rfl (Nat.le_of_ble_eq_true rfl) dX4_opened_18 hSH587 (AE_sub (fun _ _ => rfl) (by decide) hSH587.1) (fun vH669 H669 locsH669 pH669 zH669 kH669 hSH669 => ?_)
    obtain ⟨x670, x671, x672, x673, hvH669, bx670, ex671, ex672, ex673, hrH669, m674, m675, m676, m677, m678, m679, m680, m681, m682, hTH669⟩ := pH669
    subst hvH669
    have f683 : ∀ j : Nat, j ≤ F.toNatClampNeg → kk j = (fI H669 kq j).toInt := fun j hj => (f589 j hj).trans (congrArg Int32.toInt (fI_kept (x_lt hTH587 kH669 gkq (by decide))).symm)
    have f684 : ∀ j : Nat, j ≤ F.toNatClampNeg → vv j = (fI H669 vq j).toInt := fun j hj => (f590 j hj).trans (congrArg Int32.toInt (fI_kept (x_lt hTH587 kH669 gvq (by decide))).symm)
    have m685 := (fI_kept (x_lt hTH587 kH669 gkq (by decide))).trans m602
    have bx671 := ty_fi (x := x671) (k := 7) ex671 hTH669 ga0 rg_78 rfl
    have bx672 := ty_fi (x := x672) (k := 1) ex672 hTH669 ga0 rg_78 rfl
    have bx673 := ty_fi (x := x673) (k := 9) ex673 hTH669 gmq rg_69 rfl
    have f686 : RFT K H669 s.heap mq := RFT.st f591 m682
    refine W.eq (g2 := F0 m 21 ls [.int x670]) rfl ?_
    refine lv_if_ne (tgt := 26) hx hb dX4_opened_21 (by decide) (fun c687 => ?_) (fun c687 => ?_)
    · have k688 := i_ne c687
      have cn_sc := i_cl (x := sc) (by omega)
      have cn_sc := i_cl (x := sc) (by omega)
      have cn_x673 := i_cl (x := x673) (by omega)
      have cs689 : CSP lw.toInt (fun j => fI H669 sq j) (fun j => fI s.heap sq j) sc.toNatClampNeg (x673.toNatClampNeg) 20 ([(paF kk vv lw.toInt (8 - x2.toNatClampNeg) x586.toNatClampNeg)]) := CSP.call f592 (m681.resolve_left (by omega)) (by omega) (Nat.le_refl _) (Nat.le_of_ble_eq_true rfl)
      refine lv_aload_n hx hb dX4_opened_26 rfl (lv_at hl 0 rfl) ?_
      refine x_gr C hTH669 (ci := 4) (k := 0) rfl inX4 (by decide) wF_X4_12 ga0 rg_78 rfl dX4_opened_27 (fun q690 eq690 gq690 => ?_)
      have uq690 : mq = q690 := (m674).trans eq690.symm
      subst uq690
      refine lv_bipush (v := 10) hx hb dX4_opened_30 (by decide) ?_
      refine lv_iconst (v := 0) hx hb dX4_opened_32 (by decide) ?_
      refine x_V (As := [.int 10, .int 0]) (rest := []) C (a_X7_addStep_g l K G H669 (10) (0) (x673) (li) hTH669 gmq (by decide) (by decide) gsq m677 ex673 m679 (by omega)) yo_X7_addStep wM_X4_131 ⟨⟨by decide, by decide⟩, by decide, by decide⟩ (x_rv C hTH669 (ci := 7) rfl gmq rg_69) rfl hl.1 rfl (Nat.le_of_ble_eq_true rfl) dX4_opened_33 hSH669 (AE_sub (fun _ _ => rfl) (by decide) hSH669.1) (fun vH691 H691 locsH691 pH691 zH691 kH691 hSH691 => ?_)
      obtain ⟨x692, hvH691, ex692, hrH691, m693, m694, m695, m696, m697, hTH691⟩ := pH691
      subst hvH691
      have f698 : ∀ j : Nat, j ≤ F.toNatClampNeg → kk j = (fI H691 kq j).toInt := fun j hj => (f683 j hj).trans (congrArg Int32.toInt (fI_kept (x_lt hTH669 kH691 gkq (by decide))).symm)
      have f699 : ∀ j : Nat, j ≤ F.toNatClampNeg → vv j = (fI H691 vq j).toInt := fun j hj => (f684 j hj).trans (congrArg Int32.toInt (fI_kept (x_lt hTH669 kH691 gvq (by decide))).symm)
      have m700 := (fI_kept (x_lt hTH669 kH691 gkq (by decide))).trans m685
      have m701 := (m674).trans (fR_kept (x_lt hTH669 kH691 ga0 (by decide))).symm
      have m702 := (m675).trans (fR_kept (x_lt hTH669 kH691 ga0 (by decide))).symm
      have m703 := (m676).trans (fR_kept (x_lt hTH669 kH691 ga0 (by decide))).symm
      have m704 := (m678).trans (fI_kept (x_lt hTH669 kH691 ga0 (by decide))).symm
      have m705 := (ex671).trans (fI_kept (x_lt hTH669 kH691 ga0 (by decide))).symm
      have m706 := (ex672).trans (fI_kept (x_lt hTH669 kH691 ga0 (by decide))).symm
      have bx692 := ty_fi (x := x692) (k := 9) ex692 hTH691 gmq rg_69 rfl
      have cn_x673 := i_cl (x := x673) (by omega)
      have cn_x673 := i_cl (x := x673) (by omega)
      have cn_x692 := i_cl (x := x692) (by omega)
      have cs707 : CSP lw.toInt (fun j => fI H691 sq j) (fun j => fI s.heap sq j) sc.toNatClampNeg (x692.toNatClampNeg) 20 ([ntF (paF kk vv lw.toInt (8 - x2.toNatClampNeg) x586.toNatClampNeg)]) := CSP.not cs689 m695 (Eq.trans m696 (by omega)) (by omega) (by omega)
      have f708 : RFT K H691 s.heap mq := RFT.st f686 m697
      refine W.eq (g2 := F0 m 36 ls []) rfl ?_
      refine lv_iconst (v := 1) hx hb dX4_opened_36 (by decide) ?_
      have cn_F := i_cl (x := F) (by omega)
      have cn_tat := i_cl (x := tat) (by omega)
      have cn_x2 := i_cl (x := x2) (by omega)
      have cn_x586 := i_cl (x := x586) (by omega)
      have cn_x692 := i_cl (x := x692) (by omega)
      have cn_x692 := i_cl (x := x692) (by omega)
      have cn_tat := i_cl (x := tat) (by omega)
      have cn_x586 := i_cl (x := x586) (by omega)
      exact x_zret C hQ (Or.inr rfl) dX4_opened_37 hSH691 (by decide) (by decide) (⟨1, x671, x672, x692, rfl, by decide, m705, m706, ex692, by omega, m701, m702, m703, m693, m704, m694, Or.inr ⟨(op_not (by omega) (show x586.toNatClampNeg = _ + 1 by omega)).trans (RQ.yes m680 (by omega)), by omega⟩, Or.inr (CSP.cast cs707 rfl (by omega) (Nat.le_refl _) (congrArg (fun z => [z]) (opF_not (by omega) (show x586.toNatClampNeg = _ + 1 by omega)))), f708, hTH691⟩)
    · have k688 := i_eq c687
      refine lv_iconst (v := 0) hx hb dX4_opened_24 (by decide) ?_
      have cn_F := i_cl (x := F) (by omega)
      have cn_tat := i_cl (x := tat) (by omega)
      have cn_x2 := i_cl (x := x2) (by omega)
      have cn_x586 := i_cl (x := x586) (by omega)
      exact x_zret C hQ (Or.inl rfl) dX4_opened_25 hSH669 (by decide) (by decide) (⟨0, x671, x672, x673, rfl, by decide, ex671, ex672, ex673, by omega, m674, m675, m676, m677, m678, m679, Or.inl ⟨(op_not (by omega) (show x586.toNatClampNeg = _ + 1 by omega)).trans (RQ.no m680 (by omega)), by omega⟩, (Or.inl (by omega)), f686, hTH669⟩)

set_option maxHeartbeats 4000000 in
set_option maxRecDepth 100000 in
theorem a_X4_part_g0 (l : Launch) (K : KE) (G : Nat → Option Nat) (H : Heap) {a0 : Nat} (x1 : Int32) {mq : Nat} {kq : Nat} {vq : Nat} {sq : Nat} (F : Int32) (tat : Int32) (fa : Int32) (sc : Int32) (lw : Int32) (li : Int32) (kk : Nat → Int) (vv : Nat → Int) (hT : TY K G H) (ga0 : G a0 = some 78) (hx1 : 0 ≤ x1.toInt ∧ x1.toInt ≤ 8) (gmq : G mq = some 69) (emq : mq = fR H a0 (K.1.2 4 0)) (gkq : G kq = some 79) (ekq : kq = fR H a0 (K.1.2 4 3)) (gvq : G vq = some 80) (evq : vq = fR H a0 (K.1.2 4 4)) (gsq : G sq = some 77) (esq : sq = fR H mq (K.1.2 7 8)) (etat : tat = fI H a0 (K.1.2 4 7)) (efa : fa = fI H a0 (K.1.2 4 1)) (esc : sc = fI H mq (K.1.2 7 9)) (elw : lw = fI H a0 (K.1.2 4 8)) (eli : li = fI H mq (K.1.2 7 0)) (hel0 : fI H kq (F : Int32).toNatClampNeg = 26) (hp0 : tat.toInt ≤ F.toInt) (hp1 : F.toInt ≤ 500) (hp2 : sc.toInt ≤ tat.toInt) (hy0 : ∀ j : Nat, 0 ≤ vv j ∧ vv j < 100000) (hv_kk : ∀ j : Nat, j ≤ F.toNatClampNeg → kk j = (fI H kq j).toInt) (hv_vv : ∀ j : Nat, j ≤ F.toNatClampNeg → vv j = (fI H vq j).toInt) : MX l K yX4_part cX4_part 4 (some .boolean) 35 780 0 0 [.ref a0, .int x1] H (AE G [78, 69, 77] H.size) (fun v H1 => ∃ (r : Int32) (t0 : Int32) (t1 : Int32) (t2 : Int32), v = some (.int r) ∧ (0 ≤ r.toInt ∧ r.toInt ≤ 1) ∧ t0 = fI H1 a0 (K.1.2 4 7) ∧ t1 = fI H1 a0 (K.1.2 4 1) ∧ t2 = fI H1 mq (K.1.2 7 9) ∧ (t0.toInt ≤ F.toInt ∧ ((r.toInt = 1 ∧ t1.toInt = fa.toInt ∧ tat.toInt < t0.toInt ∧ sc.toInt ≤ t2.toInt ∧ t2.toInt + tat.toInt ≤ sc.toInt + t0.toInt) ∨ (r.toInt = 0 ∧ t1.toInt ≠ 0))) ∧ mq = fR H1 a0 (K.1.2 4 0) ∧ kq = fR H1 a0 (K.1.2 4 3) ∧ vq = fR H1 a0 (K.1.2 4 4) ∧ sq = fR H1 mq (K.1.2 7 8) ∧ lw = fI H1 a0 (K.1.2 4 8) ∧ li = fI H1 mq (K.1.2 7 0) ∧ (RQ (paS kk vv lw.toInt (8 - x1.toNatClampNeg) tat.toNatClampNeg) r t0) ∧ (r.toInt = 0 ∨ CSP lw.toInt (fun j => fI H1 sq j) (fun j => fI H sq j) sc.toNatClampNeg t2.toNatClampNeg 20 [paF kk vv lw.toInt (8 - x1.toNatClampNeg) tat.toNatClampNeg]) ∧ (RFT K H1 H mq) ∧ TY K G H1) := by
  refine MX.of (by decide +kernel) (Nat.le_of_ble_eq_true rfl) ?_
  intro p e s m below meth c ls Q C hH hl hQ
  subst hH
  have C : CX p K s m _ meth c RX4 cX4_part 4 (some .boolean) "part" := C
  obtain ⟨hx, hb, hml, hown, hts, hKT, hr, hlocks, hnm⟩ := id C
  have hl : lv_has ls 4 [(0, .ref a0), (1, .int x1)] := hl
  have hS : va_S (AE G [78, 69, 77] s.heap.size) s.heap s.heap [] := va_S.rf
  have n_0 : (0 : Int32).toInt = 0 := rfl
  have n_1 : (1 : Int32).toInt = 1 := rfl
  have n_3 : (3 : Int32).toInt = 3 := rfl
  have n_8 : (8 : Int32).toInt = 8 := rfl
  have n_10 : (10 : Int32).toInt = 10 := rfl
  have n_26 : (26 : Int32).toInt = 26 := rfl
  have n_40 : (40 : Int32).toInt = 40 := rfl
  have n_60 : (60 : Int32).toInt = 60 := rfl
  have n_61 : (61 : Int32).toInt = 61 := rfl
  have n_62 : (62 : Int32).toInt = 62 := rfl
  have btat := ty_fi (x := tat) (k := 7) etat hT ga0 rg_78 rfl
  have bfa := ty_fi (x := fa) (k := 1) efa hT ga0 rg_78 rfl
  have bsc := ty_fi (x := sc) (k := 9) esc hT gmq rg_69 rfl
  have blw := ty_fi (x := lw) (k := 8) elw hT ga0 rg_78 rfl
  have bli := ty_fi (x := li) (k := 0) eli hT gmq rg_69 rfl
  have hsp0 : paS kk vv lw.toInt (8 - x1.toNatClampNeg) tat.toNatClampNeg = paS kk vv lw.toInt (8 - x1.toNatClampNeg) tat.toNatClampNeg := rfl
  have hsf0 : paF kk vv lw.toInt (8 - x1.toNatClampNeg) tat.toNatClampNeg = paF kk vv lw.toInt (8 - x1.toNatClampNeg) tat.toNatClampNeg := rfl
  have f0_kk := hv_kk
  have f0_vv := hv_vv
  have f0_rt : RFT K s.heap s.heap mq := RFT.rf
  have f0_cs : CSP lw.toInt (fun j => fI s.heap sq j) (fun j => fI s.heap sq j) sc.toNatClampNeg (sc.toNatClampNeg) 20 ([]) := CSP.nil
  refine lv_aload_n hx hb dX4_part_0 rfl (lv_at hl 0 rfl) ?_
  refine x_gr C hT (ci := 4) (k := 3) rfl inX4 (by decide) wF_X4_18 ga0 rg_78 rfl dX4_part_1 (fun q1405 eq1405 gq1405 => ?_)
  have uq1405 : kq = q1405 := (ekq).trans eq1405.symm
  subst uq1405
  refine lv_aload_n hx hb dX4_part_4 rfl (lv_at hl 0 rfl) ?_
  refine x_gi C hT (ci := 4) (k := 7) rfl inX4 (by decide) wF_X4_42 ga0 rg_78 rfl dX4_part_5 (fun x1406 ex1406 bx1406 => ?_)
  have ux1406 : tat = x1406 := (etat).trans ex1406.symm
  subst ux1406
  refine x_ai C hT gkq rg_79 ⟨by omega, by show _ < ((501 : Nat) : Int); omega⟩ dX4_part_8 (fun x1407 ex1407 bx1407 => ?_)
  have dx1407 := el_hit ex1407 hel0
  have qvx1407 : kk tat.toNatClampNeg = x1407.toInt := (f0_kk _ (by have h1 := i_cl (x := tat) (by omega); have h2 := i_cl (x := F) (by omega); omega)).trans (congrArg Int32.toInt ex1407.symm)
  refine lv_istore_n (lv' := [(2, .int x1407), (0, .ref a0), (1, .int x1)]) hx hb dX4_part_9 rfl hl (by decide) rfl (fun ls1408 hl1409 => ?_)
  refine lv_iload_n hx hb dX4_part_10 rfl (lv_at hl1409 0 rfl) ?_
  refine lv_bipush (v := 10) hx hb dX4_part_11 (by decide) ?_
  refine lv_icmp_eq (tgt := 22) hx hb dX4_part_13 (by decide) (fun c1410 => ?_) (fun c1410 => ?_)
  · have k1411 := i_eq c1410
    refine lv_iload_n hx hb dX4_part_22 rfl (lv_at hl1409 2 rfl) ?_
    refine lv_bipush (v := 8) hx hb dX4_part_23 (by decide) ?_
    refine lv_icmp_ge (tgt := 39) hx hb dX4_part_25 (by decide) (fun c1412 => ?_) (fun c1412 => ?_)
    · have k1413 := i_le c1412
      refine lv_aload_n hx hb dX4_part_39 rfl (lv_at hl1409 1 rfl) ?_
      refine lv_iconst (v := 3) hx hb dX4_part_40 (by decide) ?_
      refine x_V (As := [.int 3]) (rest := []) C (a_X4_refuse_e l K G s.heap (3) (tat) (fa) (lw) hT ga0 gmq emq gkq ekq gvq evq etat efa elw) yo_X4_refuse wM_X4_81 ⟨⟨by decide, by decide⟩, by decide, by decide⟩ (x_rv C hT (ci := 4) rfl ga0 rg_78) rfl hl1409.1 rfl (Nat.le_of_ble_eq_true rfl) dX4_part_41 hS (AE_sub (fun _ _ => rfl) (by decide) hS.1) (fun vH1414 H1414 locsH1414 pH1414 zH1414 kH1414 hSH1414 => ?_)
      obtain ⟨x1415, x1416, x1417, hvH1414, bx1415, ex1416, ex1417, hrH1414, m1418, m1419, m1420, m1421, hTH1414⟩ := pH1414
      subst hvH1414
      have f1422 : ∀ j : Nat, j ≤ F.toNatClampNeg → kk j = (fI H1414 kq j).toInt := fun j hj => (f0_kk j hj).trans (congrArg Int32.toInt (fI_kept (x_lt hT kH1414 gkq (by decide))).symm)
      have f1423 : ∀ j : Nat, j ≤ F.toNatClampNeg → vv j = (fI H1414 vq j).toInt := fun j hj => (f0_vv j hj).trans (congrArg Int32.toInt (fI_kept (x_lt hT kH1414 gvq (by decide))).symm)
      have f1424 : RFT K H1414 s.heap mq := RFT.st f0_rt (fun k h1 h8 => fR_kept (x_lt hT kH1414 gmq (by decide)))
      have f1425 : CSP lw.toInt (fun j => fI H1414 sq j) (fun j => fI s.heap sq j) sc.toNatClampNeg (sc.toNatClampNeg) 20 ([]) := CSP.kept f0_cs (fun j => fI_kept (x_lt hT kH1414 gsq (by decide)))
      have m1426 := (esq).trans (fR_kept (x_lt hT kH1414 gmq (by decide))).symm
      have m1427 := (esc).trans (fI_kept (x_lt hT kH1414 gmq (by decide))).symm
      have m1428 := (eli).trans (fI_kept (x_lt hT kH1414 gmq (by decide))).symm
      have m1429 := (fI_kept (x_lt hT kH1414 gkq (by decide))).trans hel0
      have m1430 := (ex1407).trans (fI_kept (x_lt hT kH1414 gkq (by decide))).symm
      have bx1416 := ty_fi (x := x1416) (k := 7) ex1416 hTH1414 ga0 rg_78 rfl
      have bx1417 := ty_fi (x := x1417) (k := 1) ex1417 hTH1414 ga0 rg_78 rfl
      refine W.eq (g2 := F0 m 44 ls1408 [.int x1415]) rfl ?_
      have cn_F := i_cl (x := F) (by omega)
      have cn_tat := i_cl (x := tat) (by omega)
      have cn_x1 := i_cl (x := x1) (by omega)
      have cn_F := i_cl (x := F) (by omega)
      have cn_tat := i_cl (x := tat) (by omega)
      have cn_x1 := i_cl (x := x1) (by omega)
      exact x_zret C hQ (i_01 (by omega)) dX4_part_44 hSH1414 (by decide) (by decide) (⟨x1415, x1416, x1417, sc, rfl, by omega, ex1416, ex1417, m1427, by omega, m1418, m1419, m1420, m1426, m1421, m1428, Or.inl ⟨pa_deep (by omega) (by rw [qvx1407]; omega), by omega⟩, (Or.inl (by omega)), f1424, hTH1414⟩)
    · have k1413 := i_nle c1412
      refine lv_aload_n hx hb dX4_part_28 rfl (lv_at hl1409 1 rfl) ?_
      refine lv_iload_n hx hb dX4_part_29 rfl (lv_at hl1409 0 rfl) ?_
      refine lv_iload_n hx hb dX4_part_30 rfl (lv_at hl1409 2 rfl) ?_
      refine lv_iconst (v := 1) hx hb dX4_part_31 (by decide) ?_
      refine lv_iadd hx hb dX4_part_32 ?_
      refine lv_topi (fun x1431 ex1431 => ?_)
      have tx1431 := i_add ex1431 (by omega)
      refine x_V (As := [.int x1407, .int x1431]) (rest := []) C (a_X4_opened_g1 l K G s.heap (x1407) (x1431) (F) (tat) (fa) (sc) (lw) (li) kk vv hT ga0 (by omega) gmq emq gkq ekq gvq evq gsq esq etat efa esc elw eli hel0 (by omega) (by omega) (by omega) (by omega) (hy0) f0_kk f0_vv) yo_X4_opened wM_X4_138 ⟨⟨by decide, by decide⟩, by decide, by decide⟩ (x_rv C hT (ci := 4) rfl ga0 rg_78) rfl hl1409.1 rfl (Nat.le_of_ble_eq_true rfl) dX4_part_33 hS (AE_sub (fun _ _ => rfl) (by decide) hS.1) (fun vH1432 H1432 locsH1432 pH1432 zH1432 kH1432 hSH1432 => ?_)
      obtain ⟨x1433, x1434, x1435, x1436, hvH1432, bx1433, ex1434, ex1435, ex1436, hrH1432, m1437, m1438, m1439, m1440, m1441, m1442, m1443, m1444, m1445, hTH1432⟩ := pH1432
      subst hvH1432
      have f1446 : ∀ j : Nat, j ≤ F.toNatClampNeg → kk j = (fI H1432 kq j).toInt := fun j hj => (f0_kk j hj).trans (congrArg Int32.toInt (fI_kept (x_lt hT kH1432 gkq (by decide))).symm)
      have f1447 : ∀ j : Nat, j ≤ F.toNatClampNeg → vv j = (fI H1432 vq j).toInt := fun j hj => (f0_vv j hj).trans (congrArg Int32.toInt (fI_kept (x_lt hT kH1432 gvq (by decide))).symm)
      have m1448 := (fI_kept (x_lt hT kH1432 gkq (by decide))).trans hel0
      have m1449 := (ex1407).trans (fI_kept (x_lt hT kH1432 gkq (by decide))).symm
      have bx1434 := ty_fi (x := x1434) (k := 7) ex1434 hTH1432 ga0 rg_78 rfl
      have bx1435 := ty_fi (x := x1435) (k := 1) ex1435 hTH1432 ga0 rg_78 rfl
      have bx1436 := ty_fi (x := x1436) (k := 9) ex1436 hTH1432 gmq rg_69 rfl
      have f1450 : RFT K H1432 s.heap mq := RFT.st f0_rt m1445
      refine W.eq (g2 := F0 m 36 ls1408 [.int x1433]) rfl ?_
      refine lv_goto (tgt := 44) hx hb dX4_part_36 (by decide) ?_
      have cn_F := i_cl (x := F) (by omega)
      have cn_tat := i_cl (x := tat) (by omega)
      have cn_x1 := i_cl (x := x1) (by omega)
      have cn_x1431 := i_cl (x := x1431) (by omega)
      have cn_F := i_cl (x := F) (by omega)
      have cn_tat := i_cl (x := tat) (by omega)
      have cn_x1 := i_cl (x := x1) (by omega)
      have cn_x1431 := i_cl (x := x1431) (by omega)
      have cn_sc := i_cl (x := sc) (by omega)
      have cn_sc := i_cl (x := sc) (by omega)
      have cn_x1436 := i_cl (x := x1436) (by omega)
      exact x_zret C hQ (i_01 (by omega)) dX4_part_44 hSH1432 (by decide) (by decide) (⟨x1433, x1434, x1435, x1436, rfl, by omega, ex1434, ex1435, ex1436, by omega, m1437, m1438, m1439, m1440, m1441, m1442, RQ.tr m1443 (pa_op (by omega) (qvx1407).symm (by rw [qvx1407]; omega)), (m1444.imp id (fun z => CSP.cast (CSP.call f0_cs z (by omega) (Nat.le_refl _) (Nat.le_of_ble_eq_true rfl)) rfl rfl (Nat.le_refl _) (congrArg (fun z => [z]) (paF_op (by omega) (qvx1407).symm (by rw [qvx1407]; omega))))), f1450, hTH1432⟩)
  · have k1411 := i_ne c1410
    refine lv_iload_n hx hb dX4_part_16 rfl (lv_at hl1409 0 rfl) ?_
    refine lv_bipush (v := 40) hx hb dX4_part_17 (by decide) ?_
    refine lv_icmp_ne (tgt := 45) hx hb dX4_part_19 (by decide) (fun c1451 => ?_) (fun c1451 => ?_)
    · have k1452 := i_ne c1451
      refine lv_aload_n hx hb dX4_part_45 rfl (lv_at hl1409 1 rfl) ?_
      refine x_V (As := []) (rest := []) C (a_X4_sum_g l K G s.heap (F) (tat) (fa) (sc) (lw) (li) kk vv hT ga0 gmq emq gkq ekq gvq evq gsq esq etat efa esc elw eli hel0 (by omega) (by omega) (by omega) (hy0) f0_kk f0_vv) yo_X4_sum wM_X4_103 ⟨⟨by decide, by decide⟩, by decide, by decide⟩ (x_rv C hT (ci := 4) rfl ga0 rg_78) rfl hl1409.1 rfl (Nat.le_of_ble_eq_true rfl) dX4_part_46 hS (AE_sub (fun _ _ => rfl) (by decide) hS.1) (fun vH1453 H1453 locsH1453 pH1453 zH1453 kH1453 hSH1453 => ?_)
      obtain ⟨x1454, x1455, x1456, x1457, hvH1453, bx1454, ex1455, ex1456, ex1457, hrH1453, m1458, m1459, m1460, m1461, m1462, m1463, m1464, m1465, m1466, hTH1453⟩ := pH1453
      subst hvH1453
      have f1467 : ∀ j : Nat, j ≤ F.toNatClampNeg → kk j = (fI H1453 kq j).toInt := fun j hj => (f0_kk j hj).trans (congrArg Int32.toInt (fI_kept (x_lt hT kH1453 gkq (by decide))).symm)
      have f1468 : ∀ j : Nat, j ≤ F.toNatClampNeg → vv j = (fI H1453 vq j).toInt := fun j hj => (f0_vv j hj).trans (congrArg Int32.toInt (fI_kept (x_lt hT kH1453 gvq (by decide))).symm)
      have m1469 := (fI_kept (x_lt hT kH1453 gkq (by decide))).trans hel0
      have m1470 := (ex1407).trans (fI_kept (x_lt hT kH1453 gkq (by decide))).symm
      have bx1455 := ty_fi (x := x1455) (k := 7) ex1455 hTH1453 ga0 rg_78 rfl
      have bx1456 := ty_fi (x := x1456) (k := 1) ex1456 hTH1453 ga0 rg_78 rfl
      have bx1457 := ty_fi (x := x1457) (k := 9) ex1457 hTH1453 gmq rg_69 rfl
      have f1471 : RFT K H1453 s.heap mq := RFT.st f0_rt m1466
      refine W.eq (g2 := F0 m 49 ls1408 [.int x1454]) rfl ?_
      refine lv_if_ne (tgt := 54) hx hb dX4_part_49 (by decide) (fun c1472 => ?_) (fun c1472 => ?_)
      · have k1473 := i_ne c1472
        have cn_sc := i_cl (x := sc) (by omega)
        have cn_sc := i_cl (x := sc) (by omega)
        have cn_x1457 := i_cl (x := x1457) (by omega)
        have cs1474 : CSP lw.toInt (fun j => fI H1453 sq j) (fun j => fI s.heap sq j) sc.toNatClampNeg (x1457.toNatClampNeg) 20 ([(smG kk vv lw.toInt tat.toNatClampNeg)]) := CSP.call f0_cs (m1465.resolve_left (by omega)) (by omega) (Nat.le_refl _) (Nat.le_of_ble_eq_true rfl)
        refine lv_aload_n hx hb dX4_part_54 rfl (lv_at hl1409 1 rfl) ?_
        refine x_gr C hTH1453 (ci := 4) (k := 3) rfl inX4 (by decide) wF_X4_18 ga0 rg_78 rfl dX4_part_55 (fun q1475 eq1475 gq1475 => ?_)
        have uq1475 : kq = q1475 := (m1459).trans eq1475.symm
        subst uq1475
        refine lv_aload_n hx hb dX4_part_58 rfl (lv_at hl1409 1 rfl) ?_
        refine x_gi C hTH1453 (ci := 4) (k := 7) rfl inX4 (by decide) wF_X4_42 ga0 rg_78 rfl dX4_part_59 (fun x1476 ex1476 bx1476 => ?_)
        have ux1476 : x1455 = x1476 := (ex1455).trans ex1476.symm
        subst ux1476
        refine x_ai C hTH1453 gkq rg_79 ⟨by omega, by show _ < ((501 : Nat) : Int); omega⟩ dX4_part_62 (fun x1477 ex1477 bx1477 => ?_)
        have dx1477 := el_hit ex1477 m1469
        have qvx1477 : kk x1455.toNatClampNeg = x1477.toInt := (f1467 _ (by have h1 := i_cl (x := x1455) (by omega); have h2 := i_cl (x := F) (by omega); omega)).trans (congrArg Int32.toInt ex1477.symm)
        refine lv_istore_n (lv' := [(3, .int x1477), (2, .int x1407), (0, .ref a0), (1, .int x1)]) hx hb dX4_part_63 rfl hl1409 (by decide) rfl (fun ls1478 hl1479 => ?_)
        refine lv_iload_n hx hb dX4_part_64 rfl (lv_at hl1479 0 rfl) ?_
        refine lv_bipush (v := 60) hx hb dX4_part_65 (by decide) ?_
        refine lv_icmp_eq (tgt := 88) hx hb dX4_part_67 (by decide) (fun c1480 => ?_) (fun c1480 => ?_)
        · have k1481 := i_eq c1480
          refine lv_aload_n hx hb dX4_part_88 rfl (lv_at hl1479 2 rfl) ?_
          refine lv_dup hx hb dX4_part_89 rfl ?_
          refine x_gi C hTH1453 (ci := 4) (k := 7) rfl inX4 (by decide) wF_X4_42 ga0 rg_78 rfl dX4_part_90 (fun x1482 ex1482 bx1482 => ?_)
          have ux1482 : x1455 = x1482 := (ex1455).trans ex1482.symm
          subst ux1482
          refine lv_iconst (v := 1) hx hb dX4_part_93 (by decide) ?_
          refine lv_iadd hx hb dX4_part_94 ?_
          refine lv_topi (fun x1483 ex1483 => ?_)
          have tx1483 := i_add ex1483 (by omega)
          have fz1485 : 0 ≤ x1483.toInt ∧ x1483.toInt ≤ 500 := by have := i_rng x1483; omega
          refine x_put C hTH1453 hSH1453 (ci := 4) (k := 7) (v := .int x1483) (ty0 := tyX4) rfl inX4 tyX4_ok nmX4 (by decide) rfl wF_X4_42 ga0 rg_78 rfl rfl (okI (by have := i_rng x1483; omega) (by have := i_rng x1483; omega)) rfl rfl (AE_in ga0 (by decide)) dX4_part_95 (fun H1484 locsH1484 hTH1484 hSH1484 wH1484 => ?_)
          have f1486 : ∀ j : Nat, j ≤ F.toNatClampNeg → kk j = (fI H1484 kq j).toInt := fun j hj => (f1467 j hj).trans (congrArg Int32.toInt (Wr.neI wH1484 (Or.inl (G_ne gkq ga0 (by decide)))).symm)
          have f1487 : ∀ j : Nat, j ≤ F.toNatClampNeg → vv j = (fI H1484 vq j).toInt := fun j hj => (f1468 j hj).trans (congrArg Int32.toInt (Wr.neI wH1484 (Or.inl (G_ne gvq ga0 (by decide)))).symm)
          have f1488 : RFT K H1484 s.heap mq := RFT.st f1471 (fun k h1 h8 => fR_kept (wH1484.off (G_ne gmq ga0 (by decide))))
          have f1489 : CSP lw.toInt (fun j => fI H1484 sq j) (fun j => fI s.heap sq j) sc.toNatClampNeg (x1457.toNatClampNeg) 20 ([(smG kk vv lw.toInt tat.toNatClampNeg)]) := CSP.kept cs1474 (fun j => fI_kept (wH1484.off (G_ne gsq ga0 (by decide))))
          have m1490 := (Wr.neI wH1484 (Or.inl (G_ne gkq ga0 (by decide)))).trans m1469
          have m1491 := m1470.trans (Wr.neI wH1484 (Or.inl (G_ne gkq ga0 (by decide)))).symm
          have m1492 := m1458.trans (Wr.neR wH1484 (Or.inr (x_apart hKT hts inX4 tyX4 tyX4_ok nmX4 rfl 0 7 (by decide) (by decide) (by decide)))).symm
          have m1493 := m1459.trans (Wr.neR wH1484 (Or.inr (x_apart hKT hts inX4 tyX4 tyX4_ok nmX4 rfl 3 7 (by decide) (by decide) (by decide)))).symm
          have m1494 := m1460.trans (Wr.neR wH1484 (Or.inr (x_apart hKT hts inX4 tyX4 tyX4_ok nmX4 rfl 4 7 (by decide) (by decide) (by decide)))).symm
          have m1495 := m1461.trans (Wr.neR wH1484 (Or.inl (G_ne gmq ga0 (by decide)))).symm
          have m1496 := m1462.trans (Wr.neI wH1484 (Or.inr (x_apart hKT hts inX4 tyX4 tyX4_ok nmX4 rfl 8 7 (by decide) (by decide) (by decide)))).symm
          have m1497 := m1463.trans (Wr.neI wH1484 (Or.inl (G_ne gmq ga0 (by decide)))).symm
          have m1499 := ex1456.trans (Wr.neI wH1484 (Or.inr (x_apart hKT hts inX4 tyX4 tyX4_ok nmX4 rfl 1 7 (by decide) (by decide) (by decide)))).symm
          have m1500 := ex1457.trans (Wr.neI wH1484 (Or.inl (G_ne gmq ga0 (by decide)))).symm
          have m1501 := ex1477.trans (Wr.neI wH1484 (Or.inl (G_ne gkq ga0 (by decide)))).symm
          have m1502 := Wr.I wH1484
          have m1502 := m1502.symm
          refine lv_aload_n hx hb dX4_part_98 rfl (lv_at hl1479 2 rfl) ?_
          refine x_V (As := []) (rest := []) C (a_X4_sum_g l K G H1484 (F) (x1483) (x1456) (x1457) (lw) (li) kk vv hTH1484 ga0 gmq m1492 gkq m1493 gvq m1494 gsq m1495 m1502 m1499 m1500 m1496 m1497 m1490 (by omega) (by omega) (by omega) (hy0) f1486 f1487) yo_X4_sum wM_X4_103 ⟨⟨by decide, by decide⟩, by decide, by decide⟩ (x_rv C hTH1484 (ci := 4) rfl ga0 rg_78) rfl hl1479.1 rfl (Nat.le_of_ble_eq_true rfl) dX4_part_99 hSH1484 (AE_sub (fun _ _ => rfl) (by decide) hSH1484.1) (fun vH1503 H1503 locsH1503 pH1503 zH1503 kH1503 hSH1503 => ?_)
          obtain ⟨x1504, x1505, x1506, x1507, hvH1503, bx1504, ex1505, ex1506, ex1507, hrH1503, m1508, m1509, m1510, m1511, m1512, m1513, m1514, m1515, m1516, hTH1503⟩ := pH1503
          subst hvH1503
          have f1517 : ∀ j : Nat, j ≤ F.toNatClampNeg → kk j = (fI H1503 kq j).toInt := fun j hj => (f1486 j hj).trans (congrArg Int32.toInt (fI_kept (x_lt hTH1484 kH1503 gkq (by decide))).symm)
          have f1518 : ∀ j : Nat, j ≤ F.toNatClampNeg → vv j = (fI H1503 vq j).toInt := fun j hj => (f1487 j hj).trans (congrArg Int32.toInt (fI_kept (x_lt hTH1484 kH1503 gvq (by decide))).symm)
          have m1519 := (fI_kept (x_lt hTH1484 kH1503 gkq (by decide))).trans m1490
          have m1520 := (m1491).trans (fI_kept (x_lt hTH1484 kH1503 gkq (by decide))).symm
          have m1521 := (m1501).trans (fI_kept (x_lt hTH1484 kH1503 gkq (by decide))).symm
          have bx1505 := ty_fi (x := x1505) (k := 7) ex1505 hTH1503 ga0 rg_78 rfl
          have bx1506 := ty_fi (x := x1506) (k := 1) ex1506 hTH1503 ga0 rg_78 rfl
          have bx1507 := ty_fi (x := x1507) (k := 9) ex1507 hTH1503 gmq rg_69 rfl
          have f1522 : RFT K H1503 s.heap mq := RFT.st f1488 m1516
          refine W.eq (g2 := F0 m 102 ls1478 [.int x1504]) rfl ?_
          refine lv_if_ne (tgt := 107) hx hb dX4_part_102 (by decide) (fun c1523 => ?_) (fun c1523 => ?_)
          · have k1524 := i_ne c1523
            have cn_x1457 := i_cl (x := x1457) (by omega)
            have cn_x1457 := i_cl (x := x1457) (by omega)
            have cn_x1507 := i_cl (x := x1507) (by omega)
            have cs1525 : CSP lw.toInt (fun j => fI H1503 sq j) (fun j => fI s.heap sq j) sc.toNatClampNeg (x1507.toNatClampNeg) 20 ([(smG kk vv lw.toInt x1483.toNatClampNeg), (smG kk vv lw.toInt tat.toNatClampNeg)]) := CSP.call f1489 (m1515.resolve_left (by omega)) (by omega) (Nat.le_refl _) (Nat.le_of_ble_eq_true rfl)
            refine lv_aload_n hx hb dX4_part_107 rfl (lv_at hl1479 2 rfl) ?_
            refine x_gr C hTH1503 (ci := 4) (k := 0) rfl inX4 (by decide) wF_X4_12 ga0 rg_78 rfl dX4_part_108 (fun q1526 eq1526 gq1526 => ?_)
            have uq1526 : mq = q1526 := (m1508).trans eq1526.symm
            subst uq1526
            refine lv_iload_n hx hb dX4_part_111 rfl (lv_at hl1479 0 rfl) ?_
            refine lv_iconst (v := 0) hx hb dX4_part_112 (by decide) ?_
            refine x_V (As := [.int x1477, .int 0]) (rest := []) C (a_X7_addStep_g l K G H1503 (x1477) (0) (x1507) (li) hTH1503 gmq (by omega) (by decide) gsq m1511 ex1507 m1513 (by omega)) yo_X7_addStep wM_X4_131 ⟨⟨by decide, by decide⟩, by decide, by decide⟩ (x_rv C hTH1503 (ci := 7) rfl gmq rg_69) rfl hl1479.1 rfl (Nat.le_of_ble_eq_true rfl) dX4_part_113 hSH1503 (AE_sub (fun _ _ => rfl) (by decide) hSH1503.1) (fun vH1527 H1527 locsH1527 pH1527 zH1527 kH1527 hSH1527 => ?_)
            obtain ⟨x1528, hvH1527, ex1528, hrH1527, m1529, m1530, m1531, m1532, m1533, hTH1527⟩ := pH1527
            subst hvH1527
            have f1534 : ∀ j : Nat, j ≤ F.toNatClampNeg → kk j = (fI H1527 kq j).toInt := fun j hj => (f1517 j hj).trans (congrArg Int32.toInt (fI_kept (x_lt hTH1503 kH1527 gkq (by decide))).symm)
            have f1535 : ∀ j : Nat, j ≤ F.toNatClampNeg → vv j = (fI H1527 vq j).toInt := fun j hj => (f1518 j hj).trans (congrArg Int32.toInt (fI_kept (x_lt hTH1503 kH1527 gvq (by decide))).symm)
            have m1536 := (fI_kept (x_lt hTH1503 kH1527 gkq (by decide))).trans m1519
            have m1537 := (m1520).trans (fI_kept (x_lt hTH1503 kH1527 gkq (by decide))).symm
            have m1538 := (m1521).trans (fI_kept (x_lt hTH1503 kH1527 gkq (by decide))).symm
            have m1539 := (m1508).trans (fR_kept (x_lt hTH1503 kH1527 ga0 (by decide))).symm
            have m1540 := (m1509).trans (fR_kept (x_lt hTH1503 kH1527 ga0 (by decide))).symm
            have m1541 := (m1510).trans (fR_kept (x_lt hTH1503 kH1527 ga0 (by decide))).symm
            have m1542 := (m1512).trans (fI_kept (x_lt hTH1503 kH1527 ga0 (by decide))).symm
            have m1543 := (ex1505).trans (fI_kept (x_lt hTH1503 kH1527 ga0 (by decide))).symm
            have m1544 := (ex1506).trans (fI_kept (x_lt hTH1503 kH1527 ga0 (by decide))).symm
            have bx1528 := ty_fi (x := x1528) (k := 9) ex1528 hTH1527 gmq rg_69 rfl
            have cn_x1507 := i_cl (x := x1507) (by omega)
            have cn_x1507 := i_cl (x := x1507) (by omega)
            have cn_x1528 := i_cl (x := x1528) (by omega)
            have cs1545 : CSP lw.toInt (fun j => fI H1527 sq j) (fun j => fI s.heap sq j) sc.toNatClampNeg (x1528.toNatClampNeg) 20 ([cbF x1477.toInt (smG kk vv lw.toInt tat.toNatClampNeg) (smG kk vv lw.toInt x1483.toNatClampNeg)]) := CSP.bin (s := x1477.toInt) cs1525 m1531 (Eq.trans m1532 (by omega)) (by omega) (by omega) (by omega)
            have f1546 : RFT K H1527 s.heap mq := RFT.st f1522 m1533
            refine W.eq (g2 := F0 m 116 ls1478 []) rfl ?_
            refine lv_iconst (v := 1) hx hb dX4_part_116 (by decide) ?_
            have cn_F := i_cl (x := F) (by omega)
            have cn_tat := i_cl (x := tat) (by omega)
            have cn_x1 := i_cl (x := x1) (by omega)
            have cn_x1483 := i_cl (x := x1483) (by omega)
            have cn_x1455 := i_cl (x := x1455) (by omega)
            have cn_F := i_cl (x := F) (by omega)
            have cn_tat := i_cl (x := tat) (by omega)
            have cn_x1 := i_cl (x := x1) (by omega)
            have cn_x1528 := i_cl (x := x1528) (by omega)
            have cn_x1528 := i_cl (x := x1528) (by omega)
            have cn_x1483 := i_cl (x := x1483) (by omega)
            have cn_x1455 := i_cl (x := x1455) (by omega)
            exact x_zret C hQ (Or.inr rfl) dX4_part_117 hSH1527 (by decide) (by decide) (⟨1, x1505, x1506, x1528, rfl, by decide, m1543, m1544, ex1528, by omega, m1539, m1540, m1541, m1529, m1542, m1530, Or.inr ⟨(pa_cp (by rw [qvx1407]; omega)).trans ((cp_go (RQ.yes m1464 (by omega)) (by rw [qvx1477]; omega) (show x1483.toNatClampNeg = _ + 1 by omega)).trans (RQ.yes m1514 (by omega))), by omega⟩, Or.inr (CSP.cast cs1545 rfl (by omega) (Nat.le_refl _) (congrArg (fun z => [z]) ((paF_cp (by rw [qvx1407]; omega)).trans (cpF_at (RQ.yes m1464 (by omega)) qvx1477 (by omega) (show x1483.toNatClampNeg = _ + 1 by omega))))), f1546, hTH1527⟩)
          · have k1524 := i_eq c1523
            refine lv_iconst (v := 0) hx hb dX4_part_105 (by decide) ?_
            have cn_F := i_cl (x := F) (by omega)
            have cn_tat := i_cl (x := tat) (by omega)
            have cn_x1 := i_cl (x := x1) (by omega)
            have cn_x1483 := i_cl (x := x1483) (by omega)
            have cn_x1455 := i_cl (x := x1455) (by omega)
            have cn_F := i_cl (x := F) (by omega)
            have cn_tat := i_cl (x := tat) (by omega)
            have cn_x1 := i_cl (x := x1) (by omega)
            exact x_zret C hQ (Or.inl rfl) dX4_part_106 hSH1503 (by decide) (by decide) (⟨0, x1505, x1506, x1507, rfl, by decide, ex1505, ex1506, ex1507, by omega, m1508, m1509, m1510, m1511, m1512, m1513, Or.inl ⟨(pa_cp (by rw [qvx1407]; omega)).trans ((cp_go (RQ.yes m1464 (by omega)) (by rw [qvx1477]; omega) (show x1483.toNatClampNeg = _ + 1 by omega)).trans (RQ.no m1514 (by omega))), by omega⟩, (Or.inl (by omega)), f1522, hTH1503⟩)
        · have k1481 := i_ne c1480
          refine lv_iload_n hx hb dX4_part_70 rfl (lv_at hl1479 0 rfl) ?_
          refine lv_bipush (v := 61) hx hb dX4_part_71 (by decide) ?_
          refine lv_icmp_eq (tgt := 88) hx hb dX4_part_73 (by decide) (fun c1547 => ?_) (fun c1547 => ?_)
          · have k1548 := i_eq c1547
            refine lv_aload_n hx hb dX4_part_88 rfl (lv_at hl1479 2 rfl) ?_
            refine lv_dup hx hb dX4_part_89 rfl ?_
            refine x_gi C hTH1453 (ci := 4) (k := 7) rfl inX4 (by decide) wF_X4_42 ga0 rg_78 rfl dX4_part_90 (fun x1549 ex1549 bx1549 => ?_)
            have ux1549 : x1455 = x1549 := (ex1455).trans ex1549.symm
            subst ux1549
            refine lv_iconst (v := 1) hx hb dX4_part_93 (by decide) ?_
            refine lv_iadd hx hb dX4_part_94 ?_
            refine lv_topi (fun x1550 ex1550 => ?_)
            have tx1550 := i_add ex1550 (by omega)
            have fz1552 : 0 ≤ x1550.toInt ∧ x1550.toInt ≤ 500 := by have := i_rng x1550; omega
            refine x_put C hTH1453 hSH1453 (ci := 4) (k := 7) (v := .int x1550) (ty0 := tyX4) rfl inX4 tyX4_ok nmX4 (by decide) rfl wF_X4_42 ga0 rg_78 rfl rfl (okI (by have := i_rng x1550; omega) (by have := i_rng x1550; omega)) rfl rfl (AE_in ga0 (by decide)) dX4_part_95 (fun H1551 locsH1551 hTH1551 hSH1551 wH1551 => ?_)
            have f1553 : ∀ j : Nat, j ≤ F.toNatClampNeg → kk j = (fI H1551 kq j).toInt := fun j hj => (f1467 j hj).trans (congrArg Int32.toInt (Wr.neI wH1551 (Or.inl (G_ne gkq ga0 (by decide)))).symm)
            have f1554 : ∀ j : Nat, j ≤ F.toNatClampNeg → vv j = (fI H1551 vq j).toInt := fun j hj => (f1468 j hj).trans (congrArg Int32.toInt (Wr.neI wH1551 (Or.inl (G_ne gvq ga0 (by decide)))).symm)
            have f1555 : RFT K H1551 s.heap mq := RFT.st f1471 (fun k h1 h8 => fR_kept (wH1551.off (G_ne gmq ga0 (by decide))))
            have f1556 : CSP lw.toInt (fun j => fI H1551 sq j) (fun j => fI s.heap sq j) sc.toNatClampNeg (x1457.toNatClampNeg) 20 ([(smG kk vv lw.toInt tat.toNatClampNeg)]) := CSP.kept cs1474 (fun j => fI_kept (wH1551.off (G_ne gsq ga0 (by decide))))
            have m1557 := (Wr.neI wH1551 (Or.inl (G_ne gkq ga0 (by decide)))).trans m1469
            have m1558 := m1470.trans (Wr.neI wH1551 (Or.inl (G_ne gkq ga0 (by decide)))).symm
            have m1559 := m1458.trans (Wr.neR wH1551 (Or.inr (x_apart hKT hts inX4 tyX4 tyX4_ok nmX4 rfl 0 7 (by decide) (by decide) (by decide)))).symm
            have m1560 := m1459.trans (Wr.neR wH1551 (Or.inr (x_apart hKT hts inX4 tyX4 tyX4_ok nmX4 rfl 3 7 (by decide) (by decide) (by decide)))).symm
            have m1561 := m1460.trans (Wr.neR wH1551 (Or.inr (x_apart hKT hts inX4 tyX4 tyX4_ok nmX4 rfl 4 7 (by decide) (by decide) (by decide)))).symm
            have m1562 := m1461.trans (Wr.neR wH1551 (Or.inl (G_ne gmq ga0 (by decide)))).symm
            have m1563 := m1462.trans (Wr.neI wH1551 (Or.inr (x_apart hKT hts inX4 tyX4 tyX4_ok nmX4 rfl 8 7 (by decide) (by decide) (by decide)))).symm
            have m1564 := m1463.trans (Wr.neI wH1551 (Or.inl (G_ne gmq ga0 (by decide)))).symm
            have m1566 := ex1456.trans (Wr.neI wH1551 (Or.inr (x_apart hKT hts inX4 tyX4 tyX4_ok nmX4 rfl 1 7 (by decide) (by decide) (by decide)))).symm
            have m1567 := ex1457.trans (Wr.neI wH1551 (Or.inl (G_ne gmq ga0 (by decide)))).symm
            have m1568 := ex1477.trans (Wr.neI wH1551 (Or.inl (G_ne gkq ga0 (by decide)))).symm
            have m1569 := Wr.I wH1551
            have m1569 := m1569.symm
            refine lv_aload_n hx hb dX4_part_98 rfl (lv_at hl1479 2 rfl) ?_
            refine x_V (As := []) (rest := []) C (a_X4_sum_g l K G H1551 (F) (x1550) (x1456) (x1457) (lw) (li) kk vv hTH1551 ga0 gmq m1559 gkq m1560 gvq m1561 gsq m1562 m1569 m1566 m1567 m1563 m1564 m1557 (by omega) (by omega) (by omega) (hy0) f1553 f1554) yo_X4_sum wM_X4_103 ⟨⟨by decide, by decide⟩, by decide, by decide⟩ (x_rv C hTH1551 (ci := 4) rfl ga0 rg_78) rfl hl1479.1 rfl (Nat.le_of_ble_eq_true rfl) dX4_part_99 hSH1551 (AE_sub (fun _ _ => rfl) (by decide) hSH1551.1) (fun vH1570 H1570 locsH1570 pH1570 zH1570 kH1570 hSH1570 => ?_)
            obtain ⟨x1571, x1572, x1573, x1574, hvH1570, bx1571, ex1572, ex1573, ex1574, hrH1570, m1575, m1576, m1577, m1578, m1579, m1580, m1581, m1582, m1583, hTH1570⟩ := pH1570
            subst hvH1570
            have f1584 : ∀ j : Nat, j ≤ F.toNatClampNeg → kk j = (fI H1570 kq j).toInt := fun j hj => (f1553 j hj).trans (congrArg Int32.toInt (fI_kept (x_lt hTH1551 kH1570 gkq (by decide))).symm)
            have f1585 : ∀ j : Nat, j ≤ F.toNatClampNeg → vv j = (fI H1570 vq j).toInt := fun j hj => (f1554 j hj).trans (congrArg Int32.toInt (fI_kept (x_lt hTH1551 kH1570 gvq (by decide))).symm)
            have m1586 := (fI_kept (x_lt hTH1551 kH1570 gkq (by decide))).trans m1557
            have m1587 := (m1558).trans (fI_kept (x_lt hTH1551 kH1570 gkq (by decide))).symm
            have m1588 := (m1568).trans (fI_kept (x_lt hTH1551 kH1570 gkq (by decide))).symm
            have bx1572 := ty_fi (x := x1572) (k := 7) ex1572 hTH1570 ga0 rg_78 rfl
            have bx1573 := ty_fi (x := x1573) (k := 1) ex1573 hTH1570 ga0 rg_78 rfl
            have bx1574 := ty_fi (x := x1574) (k := 9) ex1574 hTH1570 gmq rg_69 rfl
            have f1589 : RFT K H1570 s.heap mq := RFT.st f1555 m1583
            refine W.eq (g2 := F0 m 102 ls1478 [.int x1571]) rfl ?_
            refine lv_if_ne (tgt := 107) hx hb dX4_part_102 (by decide) (fun c1590 => ?_) (fun c1590 => ?_)
            · have k1591 := i_ne c1590
              have cn_x1457 := i_cl (x := x1457) (by omega)
              have cn_x1457 := i_cl (x := x1457) (by omega)
              have cn_x1574 := i_cl (x := x1574) (by omega)
              have cs1592 : CSP lw.toInt (fun j => fI H1570 sq j) (fun j => fI s.heap sq j) sc.toNatClampNeg (x1574.toNatClampNeg) 20 ([(smG kk vv lw.toInt x1550.toNatClampNeg), (smG kk vv lw.toInt tat.toNatClampNeg)]) := CSP.call f1556 (m1582.resolve_left (by omega)) (by omega) (Nat.le_refl _) (Nat.le_of_ble_eq_true rfl)
              refine lv_aload_n hx hb dX4_part_107 rfl (lv_at hl1479 2 rfl) ?_
              refine x_gr C hTH1570 (ci := 4) (k := 0) rfl inX4 (by decide) wF_X4_12 ga0 rg_78 rfl dX4_part_108 (fun q1593 eq1593 gq1593 => ?_)
              have uq1593 : mq = q1593 := (m1575).trans eq1593.symm
              subst uq1593
              refine lv_iload_n hx hb dX4_part_111 rfl (lv_at hl1479 0 rfl) ?_
              refine lv_iconst (v := 0) hx hb dX4_part_112 (by decide) ?_
              refine x_V (As := [.int x1477, .int 0]) (rest := []) C (a_X7_addStep_g l K G H1570 (x1477) (0) (x1574) (li) hTH1570 gmq (by omega) (by decide) gsq m1578 ex1574 m1580 (by omega)) yo_X7_addStep wM_X4_131 ⟨⟨by decide, by decide⟩, by decide, by decide⟩ (x_rv C hTH1570 (ci := 7) rfl gmq rg_69) rfl hl1479.1 rfl (Nat.le_of_ble_eq_true rfl) dX4_part_113 hSH1570 (AE_sub (fun _ _ => rfl) (by decide) hSH1570.1) (fun vH1594 H1594 locsH1594 pH1594 zH1594 kH1594 hSH1594 => ?_)
              obtain ⟨x1595, hvH1594, ex1595, hrH1594, m1596, m1597, m1598, m1599, m1600, hTH1594⟩ := pH1594
              subst hvH1594
              have f1601 : ∀ j : Nat, j ≤ F.toNatClampNeg → kk j = (fI H1594 kq j).toInt := fun j hj => (f1584 j hj).trans (congrArg Int32.toInt (fI_kept (x_lt hTH1570 kH1594 gkq (by decide))).symm)
              have f1602 : ∀ j : Nat, j ≤ F.toNatClampNeg → vv j = (fI H1594 vq j).toInt := fun j hj => (f1585 j hj).trans (congrArg Int32.toInt (fI_kept (x_lt hTH1570 kH1594 gvq (by decide))).symm)
              have m1603 := (fI_kept (x_lt hTH1570 kH1594 gkq (by decide))).trans m1586
              have m1604 := (m1587).trans (fI_kept (x_lt hTH1570 kH1594 gkq (by decide))).symm
              have m1605 := (m1588).trans (fI_kept (x_lt hTH1570 kH1594 gkq (by decide))).symm
              have m1606 := (m1575).trans (fR_kept (x_lt hTH1570 kH1594 ga0 (by decide))).symm
              have m1607 := (m1576).trans (fR_kept (x_lt hTH1570 kH1594 ga0 (by decide))).symm
              have m1608 := (m1577).trans (fR_kept (x_lt hTH1570 kH1594 ga0 (by decide))).symm
              have m1609 := (m1579).trans (fI_kept (x_lt hTH1570 kH1594 ga0 (by decide))).symm
              have m1610 := (ex1572).trans (fI_kept (x_lt hTH1570 kH1594 ga0 (by decide))).symm
              have m1611 := (ex1573).trans (fI_kept (x_lt hTH1570 kH1594 ga0 (by decide))).symm
              have bx1595 := ty_fi (x := x1595) (k := 9) ex1595 hTH1594 gmq rg_69 rfl
              have cn_x1574 := i_cl (x := x1574) (by omega)
              have cn_x1574 := i_cl (x := x1574) (by omega)
              have cn_x1595 := i_cl (x := x1595) (by omega)
              have cs1612 : CSP lw.toInt (fun j => fI H1594 sq j) (fun j => fI s.heap sq j) sc.toNatClampNeg (x1595.toNatClampNeg) 20 ([cbF x1477.toInt (smG kk vv lw.toInt tat.toNatClampNeg) (smG kk vv lw.toInt x1550.toNatClampNeg)]) := CSP.bin (s := x1477.toInt) cs1592 m1598 (Eq.trans m1599 (by omega)) (by omega) (by omega) (by omega)
              have f1613 : RFT K H1594 s.heap mq := RFT.st f1589 m1600
              refine W.eq (g2 := F0 m 116 ls1478 []) rfl ?_
              refine lv_iconst (v := 1) hx hb dX4_part_116 (by decide) ?_
              have cn_F := i_cl (x := F) (by omega)
              have cn_tat := i_cl (x := tat) (by omega)
              have cn_x1 := i_cl (x := x1) (by omega)
              have cn_x1550 := i_cl (x := x1550) (by omega)
              have cn_x1455 := i_cl (x := x1455) (by omega)
              have cn_F := i_cl (x := F) (by omega)
              have cn_tat := i_cl (x := tat) (by omega)
              have cn_x1 := i_cl (x := x1) (by omega)
              have cn_x1595 := i_cl (x := x1595) (by omega)
              have cn_x1595 := i_cl (x := x1595) (by omega)
              have cn_x1550 := i_cl (x := x1550) (by omega)
              have cn_x1455 := i_cl (x := x1455) (by omega)
              exact x_zret C hQ (Or.inr rfl) dX4_part_117 hSH1594 (by decide) (by decide) (⟨1, x1572, x1573, x1595, rfl, by decide, m1610, m1611, ex1595, by omega, m1606, m1607, m1608, m1596, m1609, m1597, Or.inr ⟨(pa_cp (by rw [qvx1407]; omega)).trans ((cp_go (RQ.yes m1464 (by omega)) (by rw [qvx1477]; omega) (show x1550.toNatClampNeg = _ + 1 by omega)).trans (RQ.yes m1581 (by omega))), by omega⟩, Or.inr (CSP.cast cs1612 rfl (by omega) (Nat.le_refl _) (congrArg (fun z => [z]) ((paF_cp (by rw [qvx1407]; omega)).trans (cpF_at (RQ.yes m1464 (by omega)) qvx1477 (by omega) (show x1550.toNatClampNeg = _ + 1 by omega))))), f1613, hTH1594⟩)
            · have k1591 := i_eq c1590
              refine lv_iconst (v := 0) hx hb dX4_part_105 (by decide) ?_
              have cn_F := i_cl (x := F) (by omega)
              have cn_tat := i_cl (x := tat) (by omega)
              have cn_x1 := i_cl (x := x1) (by omega)
              have cn_x1550 := i_cl (x := x1550) (by omega)
              have cn_x1455 := i_cl (x := x1455) (by omega)
              have cn_F := i_cl (x := F) (by omega)
              have cn_tat := i_cl (x := tat) (by omega)
              have cn_x1 := i_cl (x := x1) (by omega)
              exact x_zret C hQ (Or.inl rfl) dX4_part_106 hSH1570 (by decide) (by decide) (⟨0, x1572, x1573, x1574, rfl, by decide, ex1572, ex1573, ex1574, by omega, m1575, m1576, m1577, m1578, m1579, m1580, Or.inl ⟨(pa_cp (by rw [qvx1407]; omega)).trans ((cp_go (RQ.yes m1464 (by omega)) (by rw [qvx1477]; omega) (show x1550.toNatClampNeg = _ + 1 by omega)).trans (RQ.no m1581 (by omega))), by omega⟩, (Or.inl (by omega)), f1589, hTH1570⟩)
          · have k1548 := i_ne c1547
            refine lv_iload_n hx hb dX4_part_76 rfl (lv_at hl1479 0 rfl) ?_
            refine lv_bipush (v := 62) hx hb dX4_part_77 (by decide) ?_
            refine lv_icmp_eq (tgt := 88) hx hb dX4_part_79 (by decide) (fun c1614 => ?_) (fun c1614 => ?_)
            · have k1615 := i_eq c1614
              refine lv_aload_n hx hb dX4_part_88 rfl (lv_at hl1479 2 rfl) ?_
              refine lv_dup hx hb dX4_part_89 rfl ?_
              refine x_gi C hTH1453 (ci := 4) (k := 7) rfl inX4 (by decide) wF_X4_42 ga0 rg_78 rfl dX4_part_90 (fun x1616 ex1616 bx1616 => ?_)
              have ux1616 : x1455 = x1616 := (ex1455).trans ex1616.symm
              subst ux1616
              refine lv_iconst (v := 1) hx hb dX4_part_93 (by decide) ?_
              refine lv_iadd hx hb dX4_part_94 ?_
              refine lv_topi (fun x1617 ex1617 => ?_)
              have tx1617 := i_add ex1617 (by omega)
              have fz1619 : 0 ≤ x1617.toInt ∧ x1617.toInt ≤ 500 := by have := i_rng x1617; omega
              refine x_put C hTH1453 hSH1453 (ci := 4) (k := 7) (v := .int x1617) (ty0 := tyX4) rfl inX4 tyX4_ok nmX4 (by decide) rfl wF_X4_42 ga0 rg_78 rfl rfl (okI (by have := i_rng x1617; omega) (by have := i_rng x1617; omega)) rfl rfl (AE_in ga0 (by decide)) dX4_part_95 (fun H1618 locsH1618 hTH1618 hSH1618 wH1618 => ?_)
              have f1620 : ∀ j : Nat, j ≤ F.toNatClampNeg → kk j = (fI H1618 kq j).toInt := fun j hj => (f1467 j hj).trans (congrArg Int32.toInt (Wr.neI wH1618 (Or.inl (G_ne gkq ga0 (by decide)))).symm)
              have f1621 : ∀ j : Nat, j ≤ F.toNatClampNeg → vv j = (fI H1618 vq j).toInt := fun j hj => (f1468 j hj).trans (congrArg Int32.toInt (Wr.neI wH1618 (Or.inl (G_ne gvq ga0 (by decide)))).symm)
              have f1622 : RFT K H1618 s.heap mq := RFT.st f1471 (fun k h1 h8 => fR_kept (wH1618.off (G_ne gmq ga0 (by decide))))
              have f1623 : CSP lw.toInt (fun j => fI H1618 sq j) (fun j => fI s.heap sq j) sc.toNatClampNeg (x1457.toNatClampNeg) 20 ([(smG kk vv lw.toInt tat.toNatClampNeg)]) := CSP.kept cs1474 (fun j => fI_kept (wH1618.off (G_ne gsq ga0 (by decide))))
              have m1624 := (Wr.neI wH1618 (Or.inl (G_ne gkq ga0 (by decide)))).trans m1469
              have m1625 := m1470.trans (Wr.neI wH1618 (Or.inl (G_ne gkq ga0 (by decide)))).symm
              have m1626 := m1458.trans (Wr.neR wH1618 (Or.inr (x_apart hKT hts inX4 tyX4 tyX4_ok nmX4 rfl 0 7 (by decide) (by decide) (by decide)))).symm
              have m1627 := m1459.trans (Wr.neR wH1618 (Or.inr (x_apart hKT hts inX4 tyX4 tyX4_ok nmX4 rfl 3 7 (by decide) (by decide) (by decide)))).symm
              have m1628 := m1460.trans (Wr.neR wH1618 (Or.inr (x_apart hKT hts inX4 tyX4 tyX4_ok nmX4 rfl 4 7 (by decide) (by decide) (by decide)))).symm
              have m1629 := m1461.trans (Wr.neR wH1618 (Or.inl (G_ne gmq ga0 (by decide)))).symm
              have m1630 := m1462.trans (Wr.neI wH1618 (Or.inr (x_apart hKT hts inX4 tyX4 tyX4_ok nmX4 rfl 8 7 (by decide) (by decide) (by decide)))).symm
              have m1631 := m1463.trans (Wr.neI wH1618 (Or.inl (G_ne gmq ga0 (by decide)))).symm
              have m1633 := ex1456.trans (Wr.neI wH1618 (Or.inr (x_apart hKT hts inX4 tyX4 tyX4_ok nmX4 rfl 1 7 (by decide) (by decide) (by decide)))).symm
              have m1634 := ex1457.trans (Wr.neI wH1618 (Or.inl (G_ne gmq ga0 (by decide)))).symm
              have m1635 := ex1477.trans (Wr.neI wH1618 (Or.inl (G_ne gkq ga0 (by decide)))).symm
              have m1636 := Wr.I wH1618
              have m1636 := m1636.symm
              refine lv_aload_n hx hb dX4_part_98 rfl (lv_at hl1479 2 rfl) ?_
              refine x_V (As := []) (rest := []) C (a_X4_sum_g l K G H1618 (F) (x1617) (x1456) (x1457) (lw) (li) kk vv hTH1618 ga0 gmq m1626 gkq m1627 gvq m1628 gsq m1629 m1636 m1633 m1634 m1630 m1631 m1624 (by omega) (by omega) (by omega) (hy0) f1620 f1621) yo_X4_sum wM_X4_103 ⟨⟨by decide, by decide⟩, by decide, by decide⟩ (x_rv C hTH1618 (ci := 4) rfl ga0 rg_78) rfl hl1479.1 rfl (Nat.le_of_ble_eq_true rfl) dX4_part_99 hSH1618 (AE_sub (fun _ _ => rfl) (by decide) hSH1618.1) (fun vH1637 H1637 locsH1637 pH1637 zH1637 kH1637 hSH1637 => ?_)
              obtain ⟨x1638, x1639, x1640, x1641, hvH1637, bx1638, ex1639, ex1640, ex1641, hrH1637, m1642, m1643, m1644, m1645, m1646, m1647, m1648, m1649, m1650, hTH1637⟩ := pH1637
              subst hvH1637
              have f1651 : ∀ j : Nat, j ≤ F.toNatClampNeg → kk j = (fI H1637 kq j).toInt := fun j hj => (f1620 j hj).trans (congrArg Int32.toInt (fI_kept (x_lt hTH1618 kH1637 gkq (by decide))).symm)
              have f1652 : ∀ j : Nat, j ≤ F.toNatClampNeg → vv j = (fI H1637 vq j).toInt := fun j hj => (f1621 j hj).trans (congrArg Int32.toInt (fI_kept (x_lt hTH1618 kH1637 gvq (by decide))).symm)
              have m1653 := (fI_kept (x_lt hTH1618 kH1637 gkq (by decide))).trans m1624
              have m1654 := (m1625).trans (fI_kept (x_lt hTH1618 kH1637 gkq (by decide))).symm
              have m1655 := (m1635).trans (fI_kept (x_lt hTH1618 kH1637 gkq (by decide))).symm
              have bx1639 := ty_fi (x := x1639) (k := 7) ex1639 hTH1637 ga0 rg_78 rfl
              have bx1640 := ty_fi (x := x1640) (k := 1) ex1640 hTH1637 ga0 rg_78 rfl
              have bx1641 := ty_fi (x := x1641) (k := 9) ex1641 hTH1637 gmq rg_69 rfl
              have f1656 : RFT K H1637 s.heap mq := RFT.st f1622 m1650
              refine W.eq (g2 := F0 m 102 ls1478 [.int x1638]) rfl ?_
              refine lv_if_ne (tgt := 107) hx hb dX4_part_102 (by decide) (fun c1657 => ?_) (fun c1657 => ?_)
              · have k1658 := i_ne c1657
                have cn_x1457 := i_cl (x := x1457) (by omega)
                have cn_x1457 := i_cl (x := x1457) (by omega)
                have cn_x1641 := i_cl (x := x1641) (by omega)
                have cs1659 : CSP lw.toInt (fun j => fI H1637 sq j) (fun j => fI s.heap sq j) sc.toNatClampNeg (x1641.toNatClampNeg) 20 ([(smG kk vv lw.toInt x1617.toNatClampNeg), (smG kk vv lw.toInt tat.toNatClampNeg)]) := CSP.call f1623 (m1649.resolve_left (by omega)) (by omega) (Nat.le_refl _) (Nat.le_of_ble_eq_true rfl)
                refine lv_aload_n hx hb dX4_part_107 rfl (lv_at hl1479 2 rfl) ?_
                refine x_gr C hTH1637 (ci := 4) (k := 0) rfl inX4 (by decide) wF_X4_12 ga0 rg_78 rfl dX4_part_108 (fun q1660 eq1660 gq1660 => ?_)
                have uq1660 : mq = q1660 := (m1642).trans eq1660.symm
                subst uq1660
                refine lv_iload_n hx hb dX4_part_111 rfl (lv_at hl1479 0 rfl) ?_
                refine lv_iconst (v := 0) hx hb dX4_part_112 (by decide) ?_
                refine x_V (As := [.int x1477, .int 0]) (rest := []) C (a_X7_addStep_g l K G H1637 (x1477) (0) (x1641) (li) hTH1637 gmq (by omega) (by decide) gsq m1645 ex1641 m1647 (by omega)) yo_X7_addStep wM_X4_131 ⟨⟨by decide, by decide⟩, by decide, by decide⟩ (x_rv C hTH1637 (ci := 7) rfl gmq rg_69) rfl hl1479.1 rfl (Nat.le_of_ble_eq_true rfl) dX4_part_113 hSH1637 (AE_sub (fun _ _ => rfl) (by decide) hSH1637.1) (fun vH1661 H1661 locsH1661 pH1661 zH1661 kH1661 hSH1661 => ?_)
                obtain ⟨x1662, hvH1661, ex1662, hrH1661, m1663, m1664, m1665, m1666, m1667, hTH1661⟩ := pH1661
                subst hvH1661
                have f1668 : ∀ j : Nat, j ≤ F.toNatClampNeg → kk j = (fI H1661 kq j).toInt := fun j hj => (f1651 j hj).trans (congrArg Int32.toInt (fI_kept (x_lt hTH1637 kH1661 gkq (by decide))).symm)
                have f1669 : ∀ j : Nat, j ≤ F.toNatClampNeg → vv j = (fI H1661 vq j).toInt := fun j hj => (f1652 j hj).trans (congrArg Int32.toInt (fI_kept (x_lt hTH1637 kH1661 gvq (by decide))).symm)
                have m1670 := (fI_kept (x_lt hTH1637 kH1661 gkq (by decide))).trans m1653
                have m1671 := (m1654).trans (fI_kept (x_lt hTH1637 kH1661 gkq (by decide))).symm
                have m1672 := (m1655).trans (fI_kept (x_lt hTH1637 kH1661 gkq (by decide))).symm
                have m1673 := (m1642).trans (fR_kept (x_lt hTH1637 kH1661 ga0 (by decide))).symm
                have m1674 := (m1643).trans (fR_kept (x_lt hTH1637 kH1661 ga0 (by decide))).symm
                have m1675 := (m1644).trans (fR_kept (x_lt hTH1637 kH1661 ga0 (by decide))).symm
                have m1676 := (m1646).trans (fI_kept (x_lt hTH1637 kH1661 ga0 (by decide))).symm
                have m1677 := (ex1639).trans (fI_kept (x_lt hTH1637 kH1661 ga0 (by decide))).symm
                have m1678 := (ex1640).trans (fI_kept (x_lt hTH1637 kH1661 ga0 (by decide))).symm
                have bx1662 := ty_fi (x := x1662) (k := 9) ex1662 hTH1661 gmq rg_69 rfl
                have cn_x1641 := i_cl (x := x1641) (by omega)
                have cn_x1641 := i_cl (x := x1641) (by omega)
                have cn_x1662 := i_cl (x := x1662) (by omega)
                have cs1679 : CSP lw.toInt (fun j => fI H1661 sq j) (fun j => fI s.heap sq j) sc.toNatClampNeg (x1662.toNatClampNeg) 20 ([cbF x1477.toInt (smG kk vv lw.toInt tat.toNatClampNeg) (smG kk vv lw.toInt x1617.toNatClampNeg)]) := CSP.bin (s := x1477.toInt) cs1659 m1665 (Eq.trans m1666 (by omega)) (by omega) (by omega) (by omega)
                have f1680 : RFT K H1661 s.heap mq := RFT.st f1656 m1667
                refine W.eq (g2 := F0 m 116 ls1478 []) rfl ?_
                refine lv_iconst (v := 1) hx hb dX4_part_116 (by decide) ?_
                have cn_F := i_cl (x := F) (by omega)
                have cn_tat := i_cl (x := tat) (by omega)
                have cn_x1 := i_cl (x := x1) (by omega)
                have cn_x1617 := i_cl (x := x1617) (by omega)
                have cn_x1455 := i_cl (x := x1455) (by omega)
                have cn_F := i_cl (x := F) (by omega)
                have cn_tat := i_cl (x := tat) (by omega)
                have cn_x1 := i_cl (x := x1) (by omega)
                have cn_x1662 := i_cl (x := x1662) (by omega)
                have cn_x1662 := i_cl (x := x1662) (by omega)
                have cn_x1617 := i_cl (x := x1617) (by omega)
                have cn_x1455 := i_cl (x := x1455) (by omega)
                exact x_zret C hQ (Or.inr rfl) dX4_part_117 hSH1661 (by decide) (by decide) (⟨1, x1639, x1640, x1662, rfl, by decide, m1677, m1678, ex1662, by omega, m1673, m1674, m1675, m1663, m1676, m1664, Or.inr ⟨(pa_cp (by rw [qvx1407]; omega)).trans ((cp_go (RQ.yes m1464 (by omega)) (by rw [qvx1477]; omega) (show x1617.toNatClampNeg = _ + 1 by omega)).trans (RQ.yes m1648 (by omega))), by omega⟩, Or.inr (CSP.cast cs1679 rfl (by omega) (Nat.le_refl _) (congrArg (fun z => [z]) ((paF_cp (by rw [qvx1407]; omega)).trans (cpF_at (RQ.yes m1464 (by omega)) qvx1477 (by omega) (show x1617.toNatClampNeg = _ + 1 by omega))))), f1680, hTH1661⟩)
              · have k1658 := i_eq c1657
                refine lv_iconst (v := 0) hx hb dX4_part_105 (by decide) ?_
                have cn_F := i_cl (x := F) (by omega)
                have cn_tat := i_cl (x := tat) (by omega)
                have cn_x1 := i_cl (x := x1) (by omega)
                have cn_x1617 := i_cl (x := x1617) (by omega)
                have cn_x1455 := i_cl (x := x1455) (by omega)
                have cn_F := i_cl (x := F) (by omega)
                have cn_tat := i_cl (x := tat) (by omega)
                have cn_x1 := i_cl (x := x1) (by omega)
                exact x_zret C hQ (Or.inl rfl) dX4_part_106 hSH1637 (by decide) (by decide) (⟨0, x1639, x1640, x1641, rfl, by decide, ex1639, ex1640, ex1641, by omega, m1642, m1643, m1644, m1645, m1646, m1647, Or.inl ⟨(pa_cp (by rw [qvx1407]; omega)).trans ((cp_go (RQ.yes m1464 (by omega)) (by rw [qvx1477]; omega) (show x1617.toNatClampNeg = _ + 1 by omega)).trans (RQ.no m1648 (by omega))), by omega⟩, (Or.inl (by omega)), f1656, hTH1637⟩)
            · have k1615 := i_ne c1614
              refine lv_aload_n hx hb dX4_part_82 rfl (lv_at hl1479 2 rfl) ?_
              refine lv_iconst (v := 1) hx hb dX4_part_83 (by decide) ?_
              refine x_V (As := [.int 1]) (rest := []) C (a_X4_refuse_e l K G H1453 (1) (x1455) (x1456) (lw) hTH1453 ga0 gmq m1458 gkq m1459 gvq m1460 ex1455 ex1456 m1462) yo_X4_refuse wM_X4_81 ⟨⟨by decide, by decide⟩, by decide, by decide⟩ (x_rv C hTH1453 (ci := 4) rfl ga0 rg_78) rfl hl1479.1 rfl (Nat.le_of_ble_eq_true rfl) dX4_part_84 hSH1453 (AE_sub (fun _ _ => rfl) (by decide) hSH1453.1) (fun vH1681 H1681 locsH1681 pH1681 zH1681 kH1681 hSH1681 => ?_)
              obtain ⟨x1682, x1683, x1684, hvH1681, bx1682, ex1683, ex1684, hrH1681, m1685, m1686, m1687, m1688, hTH1681⟩ := pH1681
              subst hvH1681
              have f1689 : ∀ j : Nat, j ≤ F.toNatClampNeg → kk j = (fI H1681 kq j).toInt := fun j hj => (f1467 j hj).trans (congrArg Int32.toInt (fI_kept (x_lt hTH1453 kH1681 gkq (by decide))).symm)
              have f1690 : ∀ j : Nat, j ≤ F.toNatClampNeg → vv j = (fI H1681 vq j).toInt := fun j hj => (f1468 j hj).trans (congrArg Int32.toInt (fI_kept (x_lt hTH1453 kH1681 gvq (by decide))).symm)
              have f1691 : RFT K H1681 s.heap mq := RFT.st f1471 (fun k h1 h8 => fR_kept (x_lt hTH1453 kH1681 gmq (by decide)))
              have f1692 : CSP lw.toInt (fun j => fI H1681 sq j) (fun j => fI s.heap sq j) sc.toNatClampNeg (x1457.toNatClampNeg) 20 ([(smG kk vv lw.toInt tat.toNatClampNeg)]) := CSP.kept cs1474 (fun j => fI_kept (x_lt hTH1453 kH1681 gsq (by decide)))
              have m1693 := (fI_kept (x_lt hTH1453 kH1681 gkq (by decide))).trans m1469
              have m1694 := (m1470).trans (fI_kept (x_lt hTH1453 kH1681 gkq (by decide))).symm
              have m1695 := (m1461).trans (fR_kept (x_lt hTH1453 kH1681 gmq (by decide))).symm
              have m1696 := (m1463).trans (fI_kept (x_lt hTH1453 kH1681 gmq (by decide))).symm
              have m1697 := (ex1457).trans (fI_kept (x_lt hTH1453 kH1681 gmq (by decide))).symm
              have m1698 := (ex1477).trans (fI_kept (x_lt hTH1453 kH1681 gkq (by decide))).symm
              have bx1683 := ty_fi (x := x1683) (k := 7) ex1683 hTH1681 ga0 rg_78 rfl
              have bx1684 := ty_fi (x := x1684) (k := 1) ex1684 hTH1681 ga0 rg_78 rfl
              refine W.eq (g2 := F0 m 87 ls1478 [.int x1682]) rfl ?_
              have cn_F := i_cl (x := F) (by omega)
              have cn_tat := i_cl (x := tat) (by omega)
              have cn_x1 := i_cl (x := x1) (by omega)
              have cn_F := i_cl (x := F) (by omega)
              have cn_tat := i_cl (x := tat) (by omega)
              have cn_x1 := i_cl (x := x1) (by omega)
              exact x_zret C hQ (i_01 (by omega)) dX4_part_87 hSH1681 (by decide) (by decide) (⟨x1682, x1683, x1684, x1457, rfl, by omega, ex1683, ex1684, m1697, by omega, m1685, m1686, m1687, m1695, m1688, m1696, Or.inl ⟨(pa_cp (by rw [qvx1407]; omega)).trans (cp_no2 (RQ.yes m1464 (by omega)) (by rw [qvx1477]; omega)), by omega⟩, (Or.inl (by omega)), f1691, hTH1681⟩)
      · have k1473 := i_eq c1472
        refine lv_iconst (v := 0) hx hb dX4_part_52 (by decide) ?_
        have cn_F := i_cl (x := F) (by omega)
        have cn_tat := i_cl (x := tat) (by omega)
        have cn_x1 := i_cl (x := x1) (by omega)
        have cn_F := i_cl (x := F) (by omega)
        have cn_tat := i_cl (x := tat) (by omega)
        have cn_x1 := i_cl (x := x1) (by omega)
        exact x_zret C hQ (Or.inl rfl) dX4_part_53 hSH1453 (by decide) (by decide) (⟨0, x1455, x1456, x1457, rfl, by decide, ex1455, ex1456, ex1457, by omega, m1458, m1459, m1460, m1461, m1462, m1463, Or.inl ⟨(pa_cp (by rw [qvx1407]; omega)).trans (cp_no1 (RQ.no m1464 (by omega))), by omega⟩, (Or.inl (by omega)), f1471, hTH1453⟩)
    · have k1452 := i_eq c1451
      refine lv_iload_n hx hb dX4_part_22 rfl (lv_at hl1409 2 rfl) ?_
      refine lv_bipush (v := 8) hx hb dX4_part_23 (by decide) ?_
      refine lv_icmp_ge (tgt := 39) hx hb dX4_part_25 (by decide) (fun c1699 => ?_) (fun c1699 => ?_)
      · have k1700 := i_le c1699
        refine lv_aload_n hx hb dX4_part_39 rfl (lv_at hl1409 1 rfl) ?_
        refine lv_iconst (v := 3) hx hb dX4_part_40 (by decide) ?_
        refine x_V (As := [.int 3]) (rest := []) C (a_X4_refuse_e l K G s.heap (3) (tat) (fa) (lw) hT ga0 gmq emq gkq ekq gvq evq etat efa elw) yo_X4_refuse wM_X4_81 ⟨⟨by decide, by decide⟩, by decide, by decide⟩ (x_rv C hT (ci := 4) rfl ga0 rg_78) rfl hl1409.1 rfl (Nat.le_of_ble_eq_true rfl) dX4_part_41 hS (AE_sub (fun _ _ => rfl) (by decide) hS.1) (fun vH1701 H1701 locsH1701 pH1701 zH1701 kH1701 hSH1701 => ?_)
        obtain ⟨x1702, x1703, x1704, hvH1701, bx1702, ex1703, ex1704, hrH1701, m1705, m1706, m1707, m1708, hTH1701⟩ := pH1701
        subst hvH1701
        have f1709 : ∀ j : Nat, j ≤ F.toNatClampNeg → kk j = (fI H1701 kq j).toInt := fun j hj => (f0_kk j hj).trans (congrArg Int32.toInt (fI_kept (x_lt hT kH1701 gkq (by decide))).symm)
        have f1710 : ∀ j : Nat, j ≤ F.toNatClampNeg → vv j = (fI H1701 vq j).toInt := fun j hj => (f0_vv j hj).trans (congrArg Int32.toInt (fI_kept (x_lt hT kH1701 gvq (by decide))).symm)
        have f1711 : RFT K H1701 s.heap mq := RFT.st f0_rt (fun k h1 h8 => fR_kept (x_lt hT kH1701 gmq (by decide)))
        have f1712 : CSP lw.toInt (fun j => fI H1701 sq j) (fun j => fI s.heap sq j) sc.toNatClampNeg (sc.toNatClampNeg) 20 ([]) := CSP.kept f0_cs (fun j => fI_kept (x_lt hT kH1701 gsq (by decide)))
        have m1713 := (esq).trans (fR_kept (x_lt hT kH1701 gmq (by decide))).symm
        have m1714 := (esc).trans (fI_kept (x_lt hT kH1701 gmq (by decide))).symm
        have m1715 := (eli).trans (fI_kept (x_lt hT kH1701 gmq (by decide))).symm
        have m1716 := (fI_kept (x_lt hT kH1701 gkq (by decide))).trans hel0
        have m1717 := (ex1407).trans (fI_kept (x_lt hT kH1701 gkq (by decide))).symm
        have bx1703 := ty_fi (x := x1703) (k := 7) ex1703 hTH1701 ga0 rg_78 rfl
        have bx1704 := ty_fi (x := x1704) (k := 1) ex1704 hTH1701 ga0 rg_78 rfl
        refine W.eq (g2 := F0 m 44 ls1408 [.int x1702]) rfl ?_
        have cn_F := i_cl (x := F) (by omega)
        have cn_tat := i_cl (x := tat) (by omega)
        have cn_x1 := i_cl (x := x1) (by omega)
        have cn_F := i_cl (x := F) (by omega)
        have cn_tat := i_cl (x := tat) (by omega)
        have cn_x1 := i_cl (x := x1) (by omega)
        exact x_zret C hQ (i_01 (by omega)) dX4_part_44 hSH1701 (by decide) (by decide) (⟨x1702, x1703, x1704, sc, rfl, by omega, ex1703, ex1704, m1714, by omega, m1705, m1706, m1707, m1713, m1708, m1715, Or.inl ⟨pa_deep (by omega) (by rw [qvx1407]; omega), by omega⟩, (Or.inl (by omega)), f1711, hTH1701⟩)
      · have k1700 := i_nle c1699
        refine lv_aload_n hx hb dX4_part_28 rfl (lv_at hl1409 1 rfl) ?_
        refine lv_iload_n hx hb dX4_part_29 rfl (lv_at hl1409 0 rfl) ?_
        refine lv_iload_n hx hb dX4_part_30 rfl (lv_at hl1409 2 rfl) ?_
        refine lv_iconst (v := 1) hx hb dX4_part_31 (by decide) ?_
        refine lv_iadd hx hb dX4_part_32 ?_
        refine lv_topi (fun x1718 ex1718 => ?_)
        have tx1718 := i_add ex1718 (by omega)
        refine x_V (As := [.int x1407, .int x1718]) (rest := []) C (a_X4_opened_g1 l K G s.heap (x1407) (x1718) (F) (tat) (fa) (sc) (lw) (li) kk vv hT ga0 (by omega) gmq emq gkq ekq gvq evq gsq esq etat efa esc elw eli hel0 (by omega) (by omega) (by omega) (by omega) (hy0) f0_kk f0_vv) yo_X4_opened wM_X4_138 ⟨⟨by decide, by decide⟩, by decide, by decide⟩ (x_rv C hT (ci := 4) rfl ga0 rg_78) rfl hl1409.1 rfl (Nat.le_of_ble_eq_true rfl) dX4_part_33 hS (AE_sub (fun _ _ => rfl) (by decide) hS.1) (fun vH1719 H1719 locsH1719 pH1719 zH1719 kH1719 hSH1719 => ?_)
        obtain ⟨x1720, x1721, x1722, x1723, hvH1719, bx1720, ex1721, ex1722, ex1723, hrH1719, m1724, m1725, m1726, m1727, m1728, m1729, m1730, m1731, m1732, hTH1719⟩ := pH1719
        subst hvH1719
        have f1733 : ∀ j : Nat, j ≤ F.toNatClampNeg → kk j = (fI H1719 kq j).toInt := fun j hj => (f0_kk j hj).trans (congrArg Int32.toInt (fI_kept (x_lt hT kH1719 gkq (by decide))).symm)
        have f1734 : ∀ j : Nat, j ≤ F.toNatClampNeg → vv j = (fI H1719 vq j).toInt := fun j hj => (f0_vv j hj).trans (congrArg Int32.toInt (fI_kept (x_lt hT kH1719 gvq (by decide))).symm)
        have m1735 := (fI_kept (x_lt hT kH1719 gkq (by decide))).trans hel0
        have m1736 := (ex1407).trans (fI_kept (x_lt hT kH1719 gkq (by decide))).symm
        have bx1721 := ty_fi (x := x1721) (k := 7) ex1721 hTH1719 ga0 rg_78 rfl
        have bx1722 := ty_fi (x := x1722) (k := 1) ex1722 hTH1719 ga0 rg_78 rfl
        have bx1723 := ty_fi (x := x1723) (k := 9) ex1723 hTH1719 gmq rg_69 rfl
        have f1737 : RFT K H1719 s.heap mq := RFT.st f0_rt m1732
        refine W.eq (g2 := F0 m 36 ls1408 [.int x1720]) rfl ?_
        refine lv_goto (tgt := 44) hx hb dX4_part_36 (by decide) ?_
        have cn_F := i_cl (x := F) (by omega)
        have cn_tat := i_cl (x := tat) (by omega)
        have cn_x1 := i_cl (x := x1) (by omega)
        have cn_x1718 := i_cl (x := x1718) (by omega)
        have cn_F := i_cl (x := F) (by omega)
        have cn_tat := i_cl (x := tat) (by omega)
        have cn_x1 := i_cl (x := x1) (by omega)
        have cn_x1718 := i_cl (x := x1718) (by omega)
        have cn_sc := i_cl (x := sc) (by omega)
        have cn_sc := i_cl (x := sc) (by omega)
        have cn_x1723 := i_cl (x := x1723) (by omega)
        exact x_zret C hQ (i_01 (by omega)) dX4_part_44 hSH1719 (by decide) (by decide) (⟨x1720, x1721, x1722, x1723, rfl, by omega, ex1721, ex1722, ex1723, by omega, m1724, m1725, m1726, m1727, m1728, m1729, RQ.tr m1730 (pa_op (by omega) (qvx1407).symm (by rw [qvx1407]; omega)), (m1731.imp id (fun z => CSP.cast (CSP.call f0_cs z (by omega) (Nat.le_refl _) (Nat.le_of_ble_eq_true rfl)) rfl rfl (Nat.le_refl _) (congrArg (fun z => [z]) (paF_op (by omega) (qvx1407).symm (by rw [qvx1407]; omega))))), f1737, hTH1719⟩)

set_option maxHeartbeats 4000000 in
set_option maxRecDepth 100000 in
theorem a_X4_both_g0 (l : Launch) (K : KE) (G : Nat → Option Nat) (H : Heap) {a0 : Nat} (x1 : Int32) {mq : Nat} {kq : Nat} {vq : Nat} {sq : Nat} (F : Int32) (tat : Int32) (fa : Int32) (sc : Int32) (lw : Int32) (li : Int32) (kk : Nat → Int) (vv : Nat → Int) (hT : TY K G H) (ga0 : G a0 = some 78) (hx1 : 0 ≤ x1.toInt ∧ x1.toInt ≤ 8) (gmq : G mq = some 69) (emq : mq = fR H a0 (K.1.2 4 0)) (gkq : G kq = some 79) (ekq : kq = fR H a0 (K.1.2 4 3)) (gvq : G vq = some 80) (evq : vq = fR H a0 (K.1.2 4 4)) (gsq : G sq = some 77) (esq : sq = fR H mq (K.1.2 7 8)) (etat : tat = fI H a0 (K.1.2 4 7)) (efa : fa = fI H a0 (K.1.2 4 1)) (esc : sc = fI H mq (K.1.2 7 9)) (elw : lw = fI H a0 (K.1.2 4 8)) (eli : li = fI H mq (K.1.2 7 0)) (hel0 : fI H kq (F : Int32).toNatClampNeg = 26) (hp0 : tat.toInt ≤ F.toInt) (hp1 : F.toInt ≤ 500) (hp2 : sc.toInt ≤ tat.toInt) (hy0 : ∀ j : Nat, 0 ≤ vv j ∧ vv j < 100000) (hv_kk : ∀ j : Nat, j ≤ F.toNatClampNeg → kk j = (fI H kq j).toInt) (hv_vv : ∀ j : Nat, j ≤ F.toNatClampNeg → vv j = (fI H vq j).toInt) : MX l K yX4_both cX4_both 3 (some .boolean) 36 803 0 0 [.ref a0, .int x1] H (AE G [78, 69, 77] H.size) (fun v H1 => ∃ (r : Int32) (t0 : Int32) (t1 : Int32) (t2 : Int32), v = some (.int r) ∧ (0 ≤ r.toInt ∧ r.toInt ≤ 1) ∧ t0 = fI H1 a0 (K.1.2 4 7) ∧ t1 = fI H1 a0 (K.1.2 4 1) ∧ t2 = fI H1 mq (K.1.2 7 9) ∧ (t0.toInt ≤ F.toInt ∧ ((r.toInt = 1 ∧ t1.toInt = fa.toInt ∧ tat.toInt < t0.toInt ∧ sc.toInt ≤ t2.toInt ∧ t2.toInt + tat.toInt ≤ sc.toInt + t0.toInt) ∨ (r.toInt = 0 ∧ t1.toInt ≠ 0))) ∧ mq = fR H1 a0 (K.1.2 4 0) ∧ kq = fR H1 a0 (K.1.2 4 3) ∧ vq = fR H1 a0 (K.1.2 4 4) ∧ sq = fR H1 mq (K.1.2 7 8) ∧ lw = fI H1 a0 (K.1.2 4 8) ∧ li = fI H1 mq (K.1.2 7 0) ∧ (RQ (lpI (paS kk vv lw.toInt (8 - x1.toNatClampNeg)) (cAN kk) tat.toNatClampNeg) r t0) ∧ (r.toInt = 0 ∨ CSP lw.toInt (fun j => fI H1 sq j) (fun j => fI H sq j) sc.toNatClampNeg t2.toNatClampNeg 21 [lpG (paS kk vv lw.toInt (8 - x1.toNatClampNeg)) (cAN kk) kk (paF kk vv lw.toInt (8 - x1.toNatClampNeg)) 0 zF tat.toNatClampNeg]) ∧ (RFT K H1 H mq) ∧ TY K G H1) := by
  refine MX.of (by decide +kernel) (Nat.le_of_ble_eq_true rfl) ?_
  intro p e s m below meth c ls Q C hH hl hQ
  subst hH
  have C : CX p K s m _ meth c RX4 cX4_both 3 (some .boolean) "both" := C
  obtain ⟨hx, hb, hml, hown, hts, hKT, hr, hlocks, hnm⟩ := id C
  have hl : lv_has ls 3 [(0, .ref a0), (1, .int x1)] := hl
  have hS : va_S (AE G [78, 69, 77] s.heap.size) s.heap s.heap [] := va_S.rf
  have n_0 : (0 : Int32).toInt = 0 := rfl
  have n_1 : (1 : Int32).toInt = 1 := rfl
  have n_9 : (9 : Int32).toInt = 9 := rfl
  have n_26 : (26 : Int32).toInt = 26 := rfl
  have n_500 : (500 : Int32).toInt = 500 := rfl
  have btat := ty_fi (x := tat) (k := 7) etat hT ga0 rg_78 rfl
  have bfa := ty_fi (x := fa) (k := 1) efa hT ga0 rg_78 rfl
  have bsc := ty_fi (x := sc) (k := 9) esc hT gmq rg_69 rfl
  have blw := ty_fi (x := lw) (k := 8) elw hT ga0 rg_78 rfl
  have bli := ty_fi (x := li) (k := 0) eli hT gmq rg_69 rfl
  have hsp0 : lpI (paS kk vv lw.toInt (8 - x1.toNatClampNeg)) (cAN kk) tat.toNatClampNeg = lpI (paS kk vv lw.toInt (8 - x1.toNatClampNeg)) (cAN kk) tat.toNatClampNeg := rfl
  have hsf0 : lpG (paS kk vv lw.toInt (8 - x1.toNatClampNeg)) (cAN kk) kk (paF kk vv lw.toInt (8 - x1.toNatClampNeg)) 0 zF tat.toNatClampNeg = lpG (paS kk vv lw.toInt (8 - x1.toNatClampNeg)) (cAN kk) kk (paF kk vv lw.toInt (8 - x1.toNatClampNeg)) 0 zF tat.toNatClampNeg := rfl
  have f0_kk := hv_kk
  have f0_vv := hv_vv
  have f0_rt : RFT K s.heap s.heap mq := RFT.rf
  have f0_cs : CSP lw.toInt (fun j => fI s.heap sq j) (fun j => fI s.heap sq j) sc.toNatClampNeg (sc.toNatClampNeg) 21 ([]) := CSP.nil
  have J12 : ∀ (nf : Nat) (a_ : EF) (ls1966 : Array Slot) (H1965 : Heap) (locsH1965 : List Loc) (x1968 : Int32) (x1969 : Int32) (x1970 : Int32) (x1971 : Int32), lv_has ls1966 3 [(0, .ref a0), (1, .int x1), (2, .int x1968)] → TY K G H1965 → va_S (AE G [78, 69, 77] s.heap.size) s.heap H1965 locsH1965 → (0 ≤ x1968.toInt ∧ x1968.toInt ≤ 500) → (0 ≤ x1969.toInt ∧ x1969.toInt ≤ 500) → (0 ≤ x1971.toInt ∧ x1971.toInt ≤ 500) → (x1969 = fI H1965 a0 (K.1.2 4 7)) → (x1970 = fI H1965 a0 (K.1.2 4 1)) → (x1971 = fI H1965 mq (K.1.2 7 9)) → (mq = fR H1965 a0 (K.1.2 4 0)) → (kq = fR H1965 a0 (K.1.2 4 3)) → (vq = fR H1965 a0 (K.1.2 4 4)) → (sq = fR H1965 mq (K.1.2 7 8)) → (lw = fI H1965 a0 (K.1.2 4 8)) → (li = fI H1965 mq (K.1.2 7 0)) → (fI H1965 kq (F : Int32).toNatClampNeg = 26) → (∀ j : Nat, j ≤ F.toNatClampNeg → kk j = (fI H1965 kq j).toInt) → (∀ j : Nat, j ≤ F.toNatClampNeg → vv j = (fI H1965 vq j).toInt) → (RFT K H1965 s.heap mq) → (CSP lw.toInt (fun j => fI H1965 sq j) (fun j => fI s.heap sq j) sc.toNatClampNeg (x1971.toNatClampNeg) 21 ([a_])) → (500 - x1968.toInt < (nf : Int)) → (2 * x1968.toInt ≤ x1969.toInt ∧ tat.toInt < x1969.toInt ∧ x1971.toInt + tat.toInt ≤ sc.toInt + x1969.toInt ∧ x1969.toInt ≤ F.toInt ∧ x1970.toInt = fa.toInt ∧ sc.toInt ≤ x1971.toInt) → (lpI (paS kk vv lw.toInt (8 - x1.toNatClampNeg)) (cAN kk) tat.toNatClampNeg = (if cAN kk x1969.toNatClampNeg = true then lpI (paS kk vv lw.toInt (8 - x1.toNatClampNeg)) (cAN kk) (x1969.toNatClampNeg + 1) else some x1969.toNatClampNeg)) → (lpG (paS kk vv lw.toInt (8 - x1.toNatClampNeg)) (cAN kk) kk (paF kk vv lw.toInt (8 - x1.toNatClampNeg)) 0 zF tat.toNatClampNeg = (if cAN kk x1969.toNatClampNeg = true then lpG (paS kk vv lw.toInt (8 - x1.toNatClampNeg)) (cAN kk) kk (paF kk vv lw.toInt (8 - x1.toNatClampNeg)) (kk x1969.toNatClampNeg) a_ (x1969.toNatClampNeg + 1) else a_)) → W p l e ({ frames := 36, cells := 0, slots := 0, locals := 803 } : Room) s m (([.ref a0, .int x1] : List Value).toArray) below meth c H1965 locsH1965 0 0 Q (F0 m 12 ls1966 []) := by
    intro nf
    induction nf with
    | zero =>
      intro a_ ls1966 H1965 locsH1965 x1968 x1969 x1970 x1971 hl1967 hTH1965 hSH1965 bx1968 bx1969 bx1971 ex1969 ex1970 ex1971 cy1972_0 cy1972_1 cy1972_2 cy1972_3 cy1972_4 cy1972_5 cy1972_6 fy1972_kk fy1972_vv fy1972_rt fy1972_cs hm12 iv12 hsp12 hsf12
      have rx1970 := i_rng x1970
      exfalso
      omega
    | succ nf ih12 =>
      intro a_ ls1966 H1965 locsH1965 x1968 x1969 x1970 x1971 hl1967 hTH1965 hSH1965 bx1968 bx1969 bx1971 ex1969 ex1970 ex1971 cy1972_0 cy1972_1 cy1972_2 cy1972_3 cy1972_4 cy1972_5 cy1972_6 fy1972_kk fy1972_vv fy1972_rt fy1972_cs hm12 iv12 hsp12 hsf12
      have rx1970 := i_rng x1970
      refine lv_iload_n hx hb dX4_both_12 rfl (lv_at hl1967 2 rfl) ?_
      refine lv_sipush (v := 500) hx hb dX4_both_13 (by decide) ?_
      refine lv_icmp_ge (tgt := 69) hx hb dX4_both_16 (by decide) (fun c1973 => ?_) (fun c1973 => ?_)
      · have k1974 := i_le c1973
        refine lv_iconst (v := 1) hx hb dX4_both_69 (by decide) ?_
        have cn_F := i_cl (x := F) (by omega)
        have cn_x1 := i_cl (x := x1) (by omega)
        have cn_x1969 := i_cl (x := x1969) (by omega)
        have cn_x1971 := i_cl (x := x1971) (by omega)
        have cn_x1971 := i_cl (x := x1971) (by omega)
        exact x_zret C hQ (Or.inr rfl) dX4_both_70 hSH1965 (by decide) (by decide) (⟨1, x1969, x1970, x1971, rfl, by decide, ex1969, ex1970, ex1971, by omega, cy1972_0, cy1972_1, cy1972_2, cy1972_3, cy1972_4, cy1972_5, (by first | (exfalso; omega) | exact Or.inr ⟨hsp12.trans (if_n (show cAN kk _ = false from decide_eq_false (by omega))), by omega⟩), (by first | (exfalso; omega) | exact Or.inr (CSP.cast fy1972_cs rfl (by omega) (Nat.le_refl _) (congrArg (fun z => [z]) (hsf12.trans (if_neg (show ¬ cAN kk _ = true from by rw [show cAN kk _ = false from decide_eq_false (by omega)]; decide)))))), fy1972_rt, hTH1965⟩)
      · have k1974 := i_nle c1973
        refine lv_aload_n hx hb dX4_both_19 rfl (lv_at hl1967 0 rfl) ?_
        refine x_gr C hTH1965 (ci := 4) (k := 3) rfl inX4 (by decide) wF_X4_18 ga0 rg_78 rfl dX4_both_20 (fun q1975 eq1975 gq1975 => ?_)
        have uq1975 : kq = q1975 := (cy1972_1).trans eq1975.symm
        subst uq1975
        refine lv_aload_n hx hb dX4_both_23 rfl (lv_at hl1967 0 rfl) ?_
        refine x_gi C hTH1965 (ci := 4) (k := 7) rfl inX4 (by decide) wF_X4_42 ga0 rg_78 rfl dX4_both_24 (fun x1976 ex1976 bx1976 => ?_)
        have ux1976 : x1969 = x1976 := (ex1969).trans ex1976.symm
        subst ux1976
        refine x_ai C hTH1965 gkq rg_79 ⟨by omega, by show _ < ((501 : Nat) : Int); omega⟩ dX4_both_27 (fun x1977 ex1977 bx1977 => ?_)
        have dx1977 := el_hit ex1977 cy1972_6
        have qvx1977 : kk x1969.toNatClampNeg = x1977.toInt := (fy1972_kk _ (by have h1 := i_cl (x := x1969) (by omega); have h2 := i_cl (x := F) (by omega); omega)).trans (congrArg Int32.toInt ex1977.symm)
        refine lv_bipush (v := 9) hx hb dX4_both_28 (by decide) ?_
        refine lv_icmp_ne (tgt := 69) hx hb dX4_both_30 (by decide) (fun c1978 => ?_) (fun c1978 => ?_)
        · have k1979 := i_ne c1978
          refine lv_iconst (v := 1) hx hb dX4_both_69 (by decide) ?_
          have cn_F := i_cl (x := F) (by omega)
          have cn_x1 := i_cl (x := x1) (by omega)
          have cn_x1969 := i_cl (x := x1969) (by omega)
          have cn_x1971 := i_cl (x := x1971) (by omega)
          have cn_x1971 := i_cl (x := x1971) (by omega)
          exact x_zret C hQ (Or.inr rfl) dX4_both_70 hSH1965 (by decide) (by decide) (⟨1, x1969, x1970, x1971, rfl, by decide, ex1969, ex1970, ex1971, by omega, cy1972_0, cy1972_1, cy1972_2, cy1972_3, cy1972_4, cy1972_5, (by first | (exfalso; omega) | exact Or.inr ⟨hsp12.trans (if_n (show cAN kk _ = false from decide_eq_false (by omega))), by omega⟩), (by first | (exfalso; omega) | exact Or.inr (CSP.cast fy1972_cs rfl (by omega) (Nat.le_refl _) (congrArg (fun z => [z]) (hsf12.trans (if_neg (show ¬ cAN kk _ = true from by rw [show cAN kk _ = false from decide_eq_false (by omega)]; decide)))))), fy1972_rt, hTH1965⟩)
        · have k1979 := i_eq c1978
          refine lv_aload_n hx hb dX4_both_33 rfl (lv_at hl1967 0 rfl) ?_
          refine lv_dup hx hb dX4_both_34 rfl ?_
          refine x_gi C hTH1965 (ci := 4) (k := 7) rfl inX4 (by decide) wF_X4_42 ga0 rg_78 rfl dX4_both_35 (fun x1980 ex1980 bx1980 => ?_)
          have ux1980 : x1969 = x1980 := (ex1969).trans ex1980.symm
          subst ux1980
          refine lv_iconst (v := 1) hx hb dX4_both_38 (by decide) ?_
          refine lv_iadd hx hb dX4_both_39 ?_
          refine lv_topi (fun x1981 ex1981 => ?_)
          have tx1981 := i_add ex1981 (by omega)
          have fz1983 : 0 ≤ x1981.toInt ∧ x1981.toInt ≤ 500 := by have := i_rng x1981; omega
          refine x_put C hTH1965 hSH1965 (ci := 4) (k := 7) (v := .int x1981) (ty0 := tyX4) rfl inX4 tyX4_ok nmX4 (by decide) rfl wF_X4_42 ga0 rg_78 rfl rfl (okI (by have := i_rng x1981; omega) (by have := i_rng x1981; omega)) rfl rfl (AE_in ga0 (by decide)) dX4_both_40 (fun H1982 locsH1982 hTH1982 hSH1982 wH1982 => ?_)
          have f1984 : ∀ j : Nat, j ≤ F.toNatClampNeg → kk j = (fI H1982 kq j).toInt := fun j hj => (fy1972_kk j hj).trans (congrArg Int32.toInt (Wr.neI wH1982 (Or.inl (G_ne gkq ga0 (by decide)))).symm)
          have f1985 : ∀ j : Nat, j ≤ F.toNatClampNeg → vv j = (fI H1982 vq j).toInt := fun j hj => (fy1972_vv j hj).trans (congrArg Int32.toInt (Wr.neI wH1982 (Or.inl (G_ne gvq ga0 (by decide)))).symm)
          have f1986 : RFT K H1982 s.heap mq := RFT.st fy1972_rt (fun k h1 h8 => fR_kept (wH1982.off (G_ne gmq ga0 (by decide))))
          have f1987 : CSP lw.toInt (fun j => fI H1982 sq j) (fun j => fI s.heap sq j) sc.toNatClampNeg (x1971.toNatClampNeg) 21 ([a_]) := CSP.kept fy1972_cs (fun j => fI_kept (wH1982.off (G_ne gsq ga0 (by decide))))
          have m1989 := ex1970.trans (Wr.neI wH1982 (Or.inr (x_apart hKT hts inX4 tyX4 tyX4_ok nmX4 rfl 1 7 (by decide) (by decide) (by decide)))).symm
          have m1990 := ex1971.trans (Wr.neI wH1982 (Or.inl (G_ne gmq ga0 (by decide)))).symm
          have m1991 := cy1972_0.trans (Wr.neR wH1982 (Or.inr (x_apart hKT hts inX4 tyX4 tyX4_ok nmX4 rfl 0 7 (by decide) (by decide) (by decide)))).symm
          have m1992 := cy1972_1.trans (Wr.neR wH1982 (Or.inr (x_apart hKT hts inX4 tyX4 tyX4_ok nmX4 rfl 3 7 (by decide) (by decide) (by decide)))).symm
          have m1993 := cy1972_2.trans (Wr.neR wH1982 (Or.inr (x_apart hKT hts inX4 tyX4 tyX4_ok nmX4 rfl 4 7 (by decide) (by decide) (by decide)))).symm
          have m1994 := cy1972_3.trans (Wr.neR wH1982 (Or.inl (G_ne gmq ga0 (by decide)))).symm
          have m1995 := cy1972_4.trans (Wr.neI wH1982 (Or.inr (x_apart hKT hts inX4 tyX4 tyX4_ok nmX4 rfl 8 7 (by decide) (by decide) (by decide)))).symm
          have m1996 := cy1972_5.trans (Wr.neI wH1982 (Or.inl (G_ne gmq ga0 (by decide)))).symm
          have m1997 := (Wr.neI wH1982 (Or.inl (G_ne gkq ga0 (by decide)))).trans cy1972_6
          have m1998 := ex1977.trans (Wr.neI wH1982 (Or.inl (G_ne gkq ga0 (by decide)))).symm
          have m1999 := Wr.I wH1982
          have m1999 := m1999.symm
          refine lv_aload_n hx hb dX4_both_43 rfl (lv_at hl1967 0 rfl) ?_
          refine lv_iload_n hx hb dX4_both_44 rfl (lv_at hl1967 1 rfl) ?_
          refine x_V (As := [.int x1]) (rest := []) C (a_X4_part_g0 l K G H1982 (x1) (F) (x1981) (x1970) (x1971) (lw) (li) kk vv hTH1982 ga0 (by omega) gmq m1991 gkq m1992 gvq m1993 gsq m1994 m1999 m1989 m1990 m1995 m1996 m1997 (by omega) (by omega) (by omega) (hy0) f1984 f1985) yo_X4_part wM_X4_135 ⟨⟨by decide, by decide⟩, by decide, by decide⟩ (x_rv C hTH1982 (ci := 4) rfl ga0 rg_78) rfl hl1967.1 rfl (Nat.le_of_ble_eq_true rfl) dX4_both_45 hSH1982 (AE_sub (fun _ _ => rfl) (by decide) hSH1982.1) (fun vH2000 H2000 locsH2000 pH2000 zH2000 kH2000 hSH2000 => ?_)
          obtain ⟨x2001, x2002, x2003, x2004, hvH2000, bx2001, ex2002, ex2003, ex2004, hrH2000, m2005, m2006, m2007, m2008, m2009, m2010, m2011, m2012, m2013, hTH2000⟩ := pH2000
          subst hvH2000
          have f2014 : ∀ j : Nat, j ≤ F.toNatClampNeg → kk j = (fI H2000 kq j).toInt := fun j hj => (f1984 j hj).trans (congrArg Int32.toInt (fI_kept (x_lt hTH1982 kH2000 gkq (by decide))).symm)
          have f2015 : ∀ j : Nat, j ≤ F.toNatClampNeg → vv j = (fI H2000 vq j).toInt := fun j hj => (f1985 j hj).trans (congrArg Int32.toInt (fI_kept (x_lt hTH1982 kH2000 gvq (by decide))).symm)
          have m2016 := (fI_kept (x_lt hTH1982 kH2000 gkq (by decide))).trans m1997
          have m2017 := (m1998).trans (fI_kept (x_lt hTH1982 kH2000 gkq (by decide))).symm
          have bx2002 := ty_fi (x := x2002) (k := 7) ex2002 hTH2000 ga0 rg_78 rfl
          have bx2003 := ty_fi (x := x2003) (k := 1) ex2003 hTH2000 ga0 rg_78 rfl
          have bx2004 := ty_fi (x := x2004) (k := 9) ex2004 hTH2000 gmq rg_69 rfl
          have f2018 : RFT K H2000 s.heap mq := RFT.st f1986 m2013
          refine W.eq (g2 := F0 m 48 ls1966 [.int x2001]) rfl ?_
          refine lv_if_ne (tgt := 53) hx hb dX4_both_48 (by decide) (fun c2019 => ?_) (fun c2019 => ?_)
          · have k2020 := i_ne c2019
            have cn_x1971 := i_cl (x := x1971) (by omega)
            have cn_x1971 := i_cl (x := x1971) (by omega)
            have cn_x2004 := i_cl (x := x2004) (by omega)
            have cs2021 : CSP lw.toInt (fun j => fI H2000 sq j) (fun j => fI s.heap sq j) sc.toNatClampNeg (x2004.toNatClampNeg) 21 ([(paF kk vv lw.toInt (8 - x1.toNatClampNeg) x1981.toNatClampNeg), a_]) := CSP.call f1987 (m2012.resolve_left (by omega)) (by omega) (Nat.le_refl _) (Nat.le_of_ble_eq_true rfl)
            refine lv_aload_n hx hb dX4_both_53 rfl (lv_at hl1967 0 rfl) ?_
            refine x_gr C hTH2000 (ci := 4) (k := 0) rfl inX4 (by decide) wF_X4_12 ga0 rg_78 rfl dX4_both_54 (fun q2022 eq2022 gq2022 => ?_)
            have uq2022 : mq = q2022 := (m2005).trans eq2022.symm
            subst uq2022
            refine lv_bipush (v := 9) hx hb dX4_both_57 (by decide) ?_
            refine lv_iconst (v := 0) hx hb dX4_both_59 (by decide) ?_
            refine x_V (As := [.int 9, .int 0]) (rest := []) C (a_X7_addStep_g l K G H2000 (9) (0) (x2004) (li) hTH2000 gmq (by decide) (by decide) gsq m2008 ex2004 m2010 (by omega)) yo_X7_addStep wM_X4_131 ⟨⟨by decide, by decide⟩, by decide, by decide⟩ (x_rv C hTH2000 (ci := 7) rfl gmq rg_69) rfl hl1967.1 rfl (Nat.le_of_ble_eq_true rfl) dX4_both_60 hSH2000 (AE_sub (fun _ _ => rfl) (by decide) hSH2000.1) (fun vH2023 H2023 locsH2023 pH2023 zH2023 kH2023 hSH2023 => ?_)
            obtain ⟨x2024, hvH2023, ex2024, hrH2023, m2025, m2026, m2027, m2028, m2029, hTH2023⟩ := pH2023
            subst hvH2023
            have f2030 : ∀ j : Nat, j ≤ F.toNatClampNeg → kk j = (fI H2023 kq j).toInt := fun j hj => (f2014 j hj).trans (congrArg Int32.toInt (fI_kept (x_lt hTH2000 kH2023 gkq (by decide))).symm)
            have f2031 : ∀ j : Nat, j ≤ F.toNatClampNeg → vv j = (fI H2023 vq j).toInt := fun j hj => (f2015 j hj).trans (congrArg Int32.toInt (fI_kept (x_lt hTH2000 kH2023 gvq (by decide))).symm)
            have m2032 := (fI_kept (x_lt hTH2000 kH2023 gkq (by decide))).trans m2016
            have m2033 := (m2017).trans (fI_kept (x_lt hTH2000 kH2023 gkq (by decide))).symm
            have m2034 := (m2005).trans (fR_kept (x_lt hTH2000 kH2023 ga0 (by decide))).symm
            have m2035 := (m2006).trans (fR_kept (x_lt hTH2000 kH2023 ga0 (by decide))).symm
            have m2036 := (m2007).trans (fR_kept (x_lt hTH2000 kH2023 ga0 (by decide))).symm
            have m2037 := (m2009).trans (fI_kept (x_lt hTH2000 kH2023 ga0 (by decide))).symm
            have m2038 := (ex2002).trans (fI_kept (x_lt hTH2000 kH2023 ga0 (by decide))).symm
            have m2039 := (ex2003).trans (fI_kept (x_lt hTH2000 kH2023 ga0 (by decide))).symm
            have bx2024 := ty_fi (x := x2024) (k := 9) ex2024 hTH2023 gmq rg_69 rfl
            have cn_x2004 := i_cl (x := x2004) (by omega)
            have cn_x2004 := i_cl (x := x2004) (by omega)
            have cn_x2024 := i_cl (x := x2024) (by omega)
            have cs2040 : CSP lw.toInt (fun j => fI H2023 sq j) (fun j => fI s.heap sq j) sc.toNatClampNeg (x2024.toNatClampNeg) 21 ([cbF 9 a_ (paF kk vv lw.toInt (8 - x1.toNatClampNeg) x1981.toNatClampNeg)]) := CSP.bin (s := 9) cs2021 m2027 (Eq.trans m2028 (by omega)) (by omega) (by omega) (by omega)
            have f2041 : RFT K H2023 s.heap mq := RFT.st f2018 m2029
            refine W.eq (g2 := F0 m 63 ls1966 []) rfl ?_
            obtain ⟨x2042, ex2042⟩ : ∃ y : Int32, y = x1968 + 1 := ⟨_, rfl⟩
            have tx2042 := i_add ex2042 (by omega)
            refine lv_iinc (v := x2042) (lv' := [(2, .int x2042), (0, .ref a0), (1, .int x1)]) hx hb dX4_both_63 hl1967 (k := 2) rfl (by rw [ex2042]; rfl) (by decide) rfl (fun ls2043 hl2044 => ?_)
            refine lv_goto (tgt := 12) hx hb dX4_both_66 (by decide) ?_
            have cn_x2024 := i_cl (x := x2024) (by omega)
            have cn_x2024 := i_cl (x := x2024) (by omega)
            have cn_F := i_cl (x := F) (by omega)
            have cn_x1969 := i_cl (x := x1969) (by omega)
            have cn_x1981 := i_cl (x := x1981) (by omega)
            have cn_x1969 := i_cl (x := x1969) (by omega)
            have cn_x1981 := i_cl (x := x1981) (by omega)
            exact ih12 (cbF 9 a_ (paF kk vv lw.toInt (8 - x1.toNatClampNeg) x1981.toNatClampNeg)) ls2043 H2023 locsH2023 (x2042) (x2002) (x2003) (x2024) (lv_sub hl2044 [1, 2, 0] rfl) hTH2023 hSH2023 (by have := i_rng x2042; omega) (by have := i_rng x2002; omega) (by have := i_rng x2024; omega) m2038 m2039 ex2024 m2034 m2035 m2036 m2025 m2037 m2026 m2032 f2030 f2031 f2041 (CSP.cast cs2040 rfl (by omega) (Nat.le_refl _) rfl) (by omega) (by omega) (hsp12.trans (by rw [if_y (show cAN kk _ = true from decide_eq_true (by omega)), show x1969.toNatClampNeg + 1 = x1981.toNatClampNeg by omega]; exact lp_if (paS_gp _) (RQ.yes m2011 (by omega)))) (hsf12.trans (by rw [if_pos (show cAN kk _ = true from decide_eq_true (by omega)), show kk x1969.toNatClampNeg = 9 by omega, show x1969.toNatClampNeg + 1 = x1981.toNatClampNeg by omega]; exact lpG_if (paS_gp _) (RQ.yes m2011 (by omega))))
          · have k2020 := i_eq c2019
            refine lv_iconst (v := 0) hx hb dX4_both_51 (by decide) ?_
            have cn_F := i_cl (x := F) (by omega)
            have cn_x1 := i_cl (x := x1) (by omega)
            have cn_x1969 := i_cl (x := x1969) (by omega)
            have cn_x1981 := i_cl (x := x1981) (by omega)
            exact x_zret C hQ (Or.inl rfl) dX4_both_52 hSH2000 (by decide) (by decide) (⟨0, x2002, x2003, x2004, rfl, by decide, ex2002, ex2003, ex2004, by omega, m2005, m2006, m2007, m2008, m2009, m2010, Or.inl ⟨hsp12.trans ((if_y (show cAN kk _ = true from decide_eq_true (by omega))).trans (by rw [show x1969.toNatClampNeg + 1 = x1981.toNatClampNeg by omega]; exact lp_none (paS_gp _) (RQ.no m2011 (by omega)))), by omega⟩, (Or.inl (by omega)), f2018, hTH2000⟩)
  refine lv_aload_n hx hb dX4_both_0 rfl (lv_at hl 0 rfl) ?_
  refine lv_iload_n hx hb dX4_both_1 rfl (lv_at hl 1 rfl) ?_
  refine x_V (As := [.int x1]) (rest := []) C (a_X4_part_g0 l K G s.heap (x1) (F) (tat) (fa) (sc) (lw) (li) kk vv hT ga0 (by omega) gmq emq gkq ekq gvq evq gsq esq etat efa esc elw eli hel0 (by omega) (by omega) (by omega) (hy0) f0_kk f0_vv) yo_X4_part wM_X4_135 ⟨⟨by decide, by decide⟩, by decide, by decide⟩ (x_rv C hT (ci := 4) rfl ga0 rg_78) rfl hl.1 rfl (Nat.le_of_ble_eq_true rfl) dX4_both_2 hS (AE_sub (fun _ _ => rfl) (by decide) hS.1) (fun vH2045 H2045 locsH2045 pH2045 zH2045 kH2045 hSH2045 => ?_)
  obtain ⟨x2046, x2047, x2048, x2049, hvH2045, bx2046, ex2047, ex2048, ex2049, hrH2045, m2050, m2051, m2052, m2053, m2054, m2055, m2056, m2057, m2058, hTH2045⟩ := pH2045
  subst hvH2045
  have f2059 : ∀ j : Nat, j ≤ F.toNatClampNeg → kk j = (fI H2045 kq j).toInt := fun j hj => (f0_kk j hj).trans (congrArg Int32.toInt (fI_kept (x_lt hT kH2045 gkq (by decide))).symm)
  have f2060 : ∀ j : Nat, j ≤ F.toNatClampNeg → vv j = (fI H2045 vq j).toInt := fun j hj => (f0_vv j hj).trans (congrArg Int32.toInt (fI_kept (x_lt hT kH2045 gvq (by decide))).symm)
  have m2061 := (fI_kept (x_lt hT kH2045 gkq (by decide))).trans hel0
  have bx2047 := ty_fi (x := x2047) (k := 7) ex2047 hTH2045 ga0 rg_78 rfl
  have bx2048 := ty_fi (x := x2048) (k := 1) ex2048 hTH2045 ga0 rg_78 rfl
  have bx2049 := ty_fi (x := x2049) (k := 9) ex2049 hTH2045 gmq rg_69 rfl
  have f2062 : RFT K H2045 s.heap mq := RFT.st f0_rt m2058
  refine W.eq (g2 := F0 m 5 ls [.int x2046]) rfl ?_
  refine lv_if_ne (tgt := 10) hx hb dX4_both_5 (by decide) (fun c2063 => ?_) (fun c2063 => ?_)
  · have k2064 := i_ne c2063
    have cn_sc := i_cl (x := sc) (by omega)
    have cn_sc := i_cl (x := sc) (by omega)
    have cn_x2049 := i_cl (x := x2049) (by omega)
    have cs2065 : CSP lw.toInt (fun j => fI H2045 sq j) (fun j => fI s.heap sq j) sc.toNatClampNeg (x2049.toNatClampNeg) 21 ([(paF kk vv lw.toInt (8 - x1.toNatClampNeg) tat.toNatClampNeg)]) := CSP.call f0_cs (m2057.resolve_left (by omega)) (by omega) (Nat.le_refl _) (Nat.le_of_ble_eq_true rfl)
    refine lv_iconst (v := 0) hx hb dX4_both_10 (by decide) ?_
    refine lv_istore_n (lv' := [(2, .int 0), (0, .ref a0), (1, .int x1)]) hx hb dX4_both_11 rfl hl (by decide) rfl (fun ls2066 hl2067 => ?_)
    have cn_x2049 := i_cl (x := x2049) (by omega)
    have cn_x2049 := i_cl (x := x2049) (by omega)
    have cn_F := i_cl (x := F) (by omega)
    exact J12 ((500 - (0 : Int32).toInt).toNat + 1) ((paF kk vv lw.toInt (8 - x1.toNatClampNeg) tat.toNatClampNeg)) ls2066 H2045 locsH2045 (0) (x2047) (x2048) (x2049) (lv_sub hl2067 [1, 2, 0] rfl) hTH2045 hSH2045 (by decide) (by have := i_rng x2047; omega) (by have := i_rng x2049; omega) ex2047 ex2048 ex2049 m2050 m2051 m2052 m2053 m2054 m2055 m2061 f2059 f2060 f2062 (CSP.cast cs2065 rfl (by omega) (Nat.le_refl _) rfl) (by omega) (by omega) (hsp0.trans (by exact lp_if (paS_gp _) (RQ.yes m2056 (by omega)))) (hsf0.trans (by exact lpG_if0 (paS_gp _) (RQ.yes m2056 (by omega))))
  · have k2064 := i_eq c2063
    refine lv_iconst (v := 0) hx hb dX4_both_8 (by decide) ?_
    have cn_F := i_cl (x := F) (by omega)
    have cn_x1 := i_cl (x := x1) (by omega)
    exact x_zret C hQ (Or.inl rfl) dX4_both_9 hSH2045 (by decide) (by decide) (⟨0, x2047, x2048, x2049, rfl, by decide, ex2047, ex2048, ex2049, by omega, m2050, m2051, m2052, m2053, m2054, m2055, Or.inl ⟨hsp0.trans (lp_none (paS_gp _) (RQ.no m2056 (by omega))), by omega⟩, (Or.inl (by omega)), f2062, hTH2045⟩)

set_option maxHeartbeats 4000000 in
set_option maxRecDepth 100000 in
theorem a_X4_either_g0 (l : Launch) (K : KE) (G : Nat → Option Nat) (H : Heap) {a0 : Nat} (x1 : Int32) {mq : Nat} {kq : Nat} {vq : Nat} {sq : Nat} (F : Int32) (tat : Int32) (fa : Int32) (sc : Int32) (lw : Int32) (li : Int32) (kk : Nat → Int) (vv : Nat → Int) (hT : TY K G H) (ga0 : G a0 = some 78) (hx1 : 0 ≤ x1.toInt ∧ x1.toInt ≤ 8) (gmq : G mq = some 69) (emq : mq = fR H a0 (K.1.2 4 0)) (gkq : G kq = some 79) (ekq : kq = fR H a0 (K.1.2 4 3)) (gvq : G vq = some 80) (evq : vq = fR H a0 (K.1.2 4 4)) (gsq : G sq = some 77) (esq : sq = fR H mq (K.1.2 7 8)) (etat : tat = fI H a0 (K.1.2 4 7)) (efa : fa = fI H a0 (K.1.2 4 1)) (esc : sc = fI H mq (K.1.2 7 9)) (elw : lw = fI H a0 (K.1.2 4 8)) (eli : li = fI H mq (K.1.2 7 0)) (hel0 : fI H kq (F : Int32).toNatClampNeg = 26) (hp0 : tat.toInt ≤ F.toInt) (hp1 : F.toInt ≤ 500) (hp2 : sc.toInt ≤ tat.toInt) (hy0 : ∀ j : Nat, 0 ≤ vv j ∧ vv j < 100000) (hv_kk : ∀ j : Nat, j ≤ F.toNatClampNeg → kk j = (fI H kq j).toInt) (hv_vv : ∀ j : Nat, j ≤ F.toNatClampNeg → vv j = (fI H vq j).toInt) : MX l K yX4_either cX4_either 3 (some .boolean) 37 825 0 0 [.ref a0, .int x1] H (AE G [78, 69, 77] H.size) (fun v H1 => ∃ (r : Int32) (t0 : Int32) (t1 : Int32) (t2 : Int32), v = some (.int r) ∧ (0 ≤ r.toInt ∧ r.toInt ≤ 1) ∧ t0 = fI H1 a0 (K.1.2 4 7) ∧ t1 = fI H1 a0 (K.1.2 4 1) ∧ t2 = fI H1 mq (K.1.2 7 9) ∧ (t0.toInt ≤ F.toInt ∧ ((r.toInt = 1 ∧ t1.toInt = fa.toInt ∧ tat.toInt < t0.toInt ∧ sc.toInt ≤ t2.toInt ∧ t2.toInt + tat.toInt ≤ sc.toInt + t0.toInt) ∨ (r.toInt = 0 ∧ t1.toInt ≠ 0))) ∧ mq = fR H1 a0 (K.1.2 4 0) ∧ kq = fR H1 a0 (K.1.2 4 3) ∧ vq = fR H1 a0 (K.1.2 4 4) ∧ sq = fR H1 mq (K.1.2 7 8) ∧ lw = fI H1 a0 (K.1.2 4 8) ∧ li = fI H1 mq (K.1.2 7 0) ∧ (RQ (lpI (paS kk vv lw.toInt (8 - x1.toNatClampNeg)) (cAO kk) tat.toNatClampNeg) r t0) ∧ (r.toInt = 0 ∨ CSP lw.toInt (fun j => fI H1 sq j) (fun j => fI H sq j) sc.toNatClampNeg t2.toNatClampNeg 22 [lpG (lpI (paS kk vv lw.toInt (8 - x1.toNatClampNeg)) (cAN kk)) (cOR kk) kk (anG kk (paS kk vv lw.toInt (8 - x1.toNatClampNeg)) (paF kk vv lw.toInt (8 - x1.toNatClampNeg))) 0 zF tat.toNatClampNeg]) ∧ (RFT K H1 H mq) ∧ TY K G H1) := by
  refine MX.of (by decide +kernel) (Nat.le_of_ble_eq_true rfl) ?_
  intro p e s m below meth c ls Q C hH hl hQ
  subst hH
  have C : CX p K s m _ meth c RX4 cX4_either 3 (some .boolean) "either" := C
  obtain ⟨hx, hb, hml, hown, hts, hKT, hr, hlocks, hnm⟩ := id C
  have hl : lv_has ls 3 [(0, .ref a0), (1, .int x1)] := hl
  have hS : va_S (AE G [78, 69, 77] s.heap.size) s.heap s.heap [] := va_S.rf
  have n_0 : (0 : Int32).toInt = 0 := rfl
  have n_1 : (1 : Int32).toInt = 1 := rfl
  have n_8 : (8 : Int32).toInt = 8 := rfl
  have n_26 : (26 : Int32).toInt = 26 := rfl
  have n_500 : (500 : Int32).toInt = 500 := rfl
  have btat := ty_fi (x := tat) (k := 7) etat hT ga0 rg_78 rfl
  have bfa := ty_fi (x := fa) (k := 1) efa hT ga0 rg_78 rfl
  have bsc := ty_fi (x := sc) (k := 9) esc hT gmq rg_69 rfl
  have blw := ty_fi (x := lw) (k := 8) elw hT ga0 rg_78 rfl
  have bli := ty_fi (x := li) (k := 0) eli hT gmq rg_69 rfl
  have hsp0 : lpI (paS kk vv lw.toInt (8 - x1.toNatClampNeg)) (cAO kk) tat.toNatClampNeg = lpI (paS kk vv lw.toInt (8 - x1.toNatClampNeg)) (cAO kk) tat.toNatClampNeg := rfl
  have hsf0 : lpG (lpI (paS kk vv lw.toInt (8 - x1.toNatClampNeg)) (cAN kk)) (cOR kk) kk (anG kk (paS kk vv lw.toInt (8 - x1.toNatClampNeg)) (paF kk vv lw.toInt (8 - x1.toNatClampNeg))) 0 zF tat.toNatClampNeg = lpG (lpI (paS kk vv lw.toInt (8 - x1.toNatClampNeg)) (cAN kk)) (cOR kk) kk (anG kk (paS kk vv lw.toInt (8 - x1.toNatClampNeg)) (paF kk vv lw.toInt (8 - x1.toNatClampNeg))) 0 zF tat.toNatClampNeg := rfl
  have f0_kk := hv_kk
  have f0_vv := hv_vv
  have f0_rt : RFT K s.heap s.heap mq := RFT.rf
  have f0_cs : CSP lw.toInt (fun j => fI s.heap sq j) (fun j => fI s.heap sq j) sc.toNatClampNeg (sc.toNatClampNeg) 22 ([]) := CSP.nil
  have J12 : ∀ (nf : Nat) (a_ : EF) (ls1966 : Array Slot) (H1965 : Heap) (locsH1965 : List Loc) (x1968 : Int32) (x1969 : Int32) (x1970 : Int32) (x1971 : Int32), lv_has ls1966 3 [(0, .ref a0), (1, .int x1), (2, .int x1968)] → TY K G H1965 → va_S (AE G [78, 69, 77] s.heap.size) s.heap H1965 locsH1965 → (0 ≤ x1968.toInt ∧ x1968.toInt ≤ 500) → (0 ≤ x1969.toInt ∧ x1969.toInt ≤ 500) → (0 ≤ x1971.toInt ∧ x1971.toInt ≤ 500) → (x1969 = fI H1965 a0 (K.1.2 4 7)) → (x1970 = fI H1965 a0 (K.1.2 4 1)) → (x1971 = fI H1965 mq (K.1.2 7 9)) → (mq = fR H1965 a0 (K.1.2 4 0)) → (kq = fR H1965 a0 (K.1.2 4 3)) → (vq = fR H1965 a0 (K.1.2 4 4)) → (sq = fR H1965 mq (K.1.2 7 8)) → (lw = fI H1965 a0 (K.1.2 4 8)) → (li = fI H1965 mq (K.1.2 7 0)) → (fI H1965 kq (F : Int32).toNatClampNeg = 26) → (∀ j : Nat, j ≤ F.toNatClampNeg → kk j = (fI H1965 kq j).toInt) → (∀ j : Nat, j ≤ F.toNatClampNeg → vv j = (fI H1965 vq j).toInt) → (RFT K H1965 s.heap mq) → (CSP lw.toInt (fun j => fI H1965 sq j) (fun j => fI s.heap sq j) sc.toNatClampNeg (x1971.toNatClampNeg) 22 ([a_])) → (500 - x1968.toInt < (nf : Int)) → (2 * x1968.toInt ≤ x1969.toInt ∧ tat.toInt < x1969.toInt ∧ x1971.toInt + tat.toInt ≤ sc.toInt + x1969.toInt ∧ x1969.toInt ≤ F.toInt ∧ x1970.toInt = fa.toInt ∧ sc.toInt ≤ x1971.toInt) → (lpI (paS kk vv lw.toInt (8 - x1.toNatClampNeg)) (cAO kk) tat.toNatClampNeg = (if cOR kk x1969.toNatClampNeg = true then lpI (paS kk vv lw.toInt (8 - x1.toNatClampNeg)) (cAO kk) (x1969.toNatClampNeg + 1) else some x1969.toNatClampNeg)) → (lpG (lpI (paS kk vv lw.toInt (8 - x1.toNatClampNeg)) (cAN kk)) (cOR kk) kk (anG kk (paS kk vv lw.toInt (8 - x1.toNatClampNeg)) (paF kk vv lw.toInt (8 - x1.toNatClampNeg))) 0 zF tat.toNatClampNeg = (if cOR kk x1969.toNatClampNeg = true then lpG (lpI (paS kk vv lw.toInt (8 - x1.toNatClampNeg)) (cAN kk)) (cOR kk) kk (anG kk (paS kk vv lw.toInt (8 - x1.toNatClampNeg)) (paF kk vv lw.toInt (8 - x1.toNatClampNeg))) (kk x1969.toNatClampNeg) a_ (x1969.toNatClampNeg + 1) else a_)) → W p l e ({ frames := 37, cells := 0, slots := 0, locals := 825 } : Room) s m (([.ref a0, .int x1] : List Value).toArray) below meth c H1965 locsH1965 0 0 Q (F0 m 12 ls1966 []) := by
    intro nf
    induction nf with
    | zero =>
      intro a_ ls1966 H1965 locsH1965 x1968 x1969 x1970 x1971 hl1967 hTH1965 hSH1965 bx1968 bx1969 bx1971 ex1969 ex1970 ex1971 cy1972_0 cy1972_1 cy1972_2 cy1972_3 cy1972_4 cy1972_5 cy1972_6 fy1972_kk fy1972_vv fy1972_rt fy1972_cs hm12 iv12 hsp12 hsf12
      have rx1970 := i_rng x1970
      exfalso
      omega
    | succ nf ih12 =>
      intro a_ ls1966 H1965 locsH1965 x1968 x1969 x1970 x1971 hl1967 hTH1965 hSH1965 bx1968 bx1969 bx1971 ex1969 ex1970 ex1971 cy1972_0 cy1972_1 cy1972_2 cy1972_3 cy1972_4 cy1972_5 cy1972_6 fy1972_kk fy1972_vv fy1972_rt fy1972_cs hm12 iv12 hsp12 hsf12
      have rx1970 := i_rng x1970
      refine lv_iload_n hx hb dX4_either_12 rfl (lv_at hl1967 2 rfl) ?_
      refine lv_sipush (v := 500) hx hb dX4_either_13 (by decide) ?_
      refine lv_icmp_ge (tgt := 69) hx hb dX4_either_16 (by decide) (fun c1973 => ?_) (fun c1973 => ?_)
      · have k1974 := i_le c1973
        refine lv_iconst (v := 1) hx hb dX4_either_69 (by decide) ?_
        have cn_F := i_cl (x := F) (by omega)
        have cn_x1 := i_cl (x := x1) (by omega)
        have cn_x1969 := i_cl (x := x1969) (by omega)
        have cn_x1971 := i_cl (x := x1971) (by omega)
        have cn_x1971 := i_cl (x := x1971) (by omega)
        exact x_zret C hQ (Or.inr rfl) dX4_either_70 hSH1965 (by decide) (by decide) (⟨1, x1969, x1970, x1971, rfl, by decide, ex1969, ex1970, ex1971, by omega, cy1972_0, cy1972_1, cy1972_2, cy1972_3, cy1972_4, cy1972_5, (by first | (exfalso; omega) | exact Or.inr ⟨hsp12.trans (if_n (show cOR kk _ = false from decide_eq_false (by omega))), by omega⟩), (by first | (exfalso; omega) | exact Or.inr (CSP.cast fy1972_cs rfl (by omega) (Nat.le_refl _) (congrArg (fun z => [z]) (hsf12.trans (if_neg (show ¬ cOR kk _ = true from by rw [show cOR kk _ = false from decide_eq_false (by omega)]; decide)))))), fy1972_rt, hTH1965⟩)
      · have k1974 := i_nle c1973
        refine lv_aload_n hx hb dX4_either_19 rfl (lv_at hl1967 0 rfl) ?_
        refine x_gr C hTH1965 (ci := 4) (k := 3) rfl inX4 (by decide) wF_X4_18 ga0 rg_78 rfl dX4_either_20 (fun q1975 eq1975 gq1975 => ?_)
        have uq1975 : kq = q1975 := (cy1972_1).trans eq1975.symm
        subst uq1975
        refine lv_aload_n hx hb dX4_either_23 rfl (lv_at hl1967 0 rfl) ?_
        refine x_gi C hTH1965 (ci := 4) (k := 7) rfl inX4 (by decide) wF_X4_42 ga0 rg_78 rfl dX4_either_24 (fun x1976 ex1976 bx1976 => ?_)
        have ux1976 : x1969 = x1976 := (ex1969).trans ex1976.symm
        subst ux1976
        refine x_ai C hTH1965 gkq rg_79 ⟨by omega, by show _ < ((501 : Nat) : Int); omega⟩ dX4_either_27 (fun x1977 ex1977 bx1977 => ?_)
        have dx1977 := el_hit ex1977 cy1972_6
        have qvx1977 : kk x1969.toNatClampNeg = x1977.toInt := (fy1972_kk _ (by have h1 := i_cl (x := x1969) (by omega); have h2 := i_cl (x := F) (by omega); omega)).trans (congrArg Int32.toInt ex1977.symm)
        refine lv_bipush (v := 8) hx hb dX4_either_28 (by decide) ?_
        refine lv_icmp_ne (tgt := 69) hx hb dX4_either_30 (by decide) (fun c1978 => ?_) (fun c1978 => ?_)
        · have k1979 := i_ne c1978
          refine lv_iconst (v := 1) hx hb dX4_either_69 (by decide) ?_
          have cn_F := i_cl (x := F) (by omega)
          have cn_x1 := i_cl (x := x1) (by omega)
          have cn_x1969 := i_cl (x := x1969) (by omega)
          have cn_x1971 := i_cl (x := x1971) (by omega)
          have cn_x1971 := i_cl (x := x1971) (by omega)
          exact x_zret C hQ (Or.inr rfl) dX4_either_70 hSH1965 (by decide) (by decide) (⟨1, x1969, x1970, x1971, rfl, by decide, ex1969, ex1970, ex1971, by omega, cy1972_0, cy1972_1, cy1972_2, cy1972_3, cy1972_4, cy1972_5, (by first | (exfalso; omega) | exact Or.inr ⟨hsp12.trans (if_n (show cOR kk _ = false from decide_eq_false (by omega))), by omega⟩), (by first | (exfalso; omega) | exact Or.inr (CSP.cast fy1972_cs rfl (by omega) (Nat.le_refl _) (congrArg (fun z => [z]) (hsf12.trans (if_neg (show ¬ cOR kk _ = true from by rw [show cOR kk _ = false from decide_eq_false (by omega)]; decide)))))), fy1972_rt, hTH1965⟩)
        · have k1979 := i_eq c1978
          refine lv_aload_n hx hb dX4_either_33 rfl (lv_at hl1967 0 rfl) ?_
          refine lv_dup hx hb dX4_either_34 rfl ?_
          refine x_gi C hTH1965 (ci := 4) (k := 7) rfl inX4 (by decide) wF_X4_42 ga0 rg_78 rfl dX4_either_35 (fun x1980 ex1980 bx1980 => ?_)
          have ux1980 : x1969 = x1980 := (ex1969).trans ex1980.symm
          subst ux1980
          refine lv_iconst (v := 1) hx hb dX4_either_38 (by decide) ?_
          refine lv_iadd hx hb dX4_either_39 ?_
          refine lv_topi (fun x1981 ex1981 => ?_)
          have tx1981 := i_add ex1981 (by omega)
          have fz1983 : 0 ≤ x1981.toInt ∧ x1981.toInt ≤ 500 := by have := i_rng x1981; omega
          refine x_put C hTH1965 hSH1965 (ci := 4) (k := 7) (v := .int x1981) (ty0 := tyX4) rfl inX4 tyX4_ok nmX4 (by decide) rfl wF_X4_42 ga0 rg_78 rfl rfl (okI (by have := i_rng x1981; omega) (by have := i_rng x1981; omega)) rfl rfl (AE_in ga0 (by decide)) dX4_either_40 (fun H1982 locsH1982 hTH1982 hSH1982 wH1982 => ?_)
          have f1984 : ∀ j : Nat, j ≤ F.toNatClampNeg → kk j = (fI H1982 kq j).toInt := fun j hj => (fy1972_kk j hj).trans (congrArg Int32.toInt (Wr.neI wH1982 (Or.inl (G_ne gkq ga0 (by decide)))).symm)
          have f1985 : ∀ j : Nat, j ≤ F.toNatClampNeg → vv j = (fI H1982 vq j).toInt := fun j hj => (fy1972_vv j hj).trans (congrArg Int32.toInt (Wr.neI wH1982 (Or.inl (G_ne gvq ga0 (by decide)))).symm)
          have f1986 : RFT K H1982 s.heap mq := RFT.st fy1972_rt (fun k h1 h8 => fR_kept (wH1982.off (G_ne gmq ga0 (by decide))))
          have f1987 : CSP lw.toInt (fun j => fI H1982 sq j) (fun j => fI s.heap sq j) sc.toNatClampNeg (x1971.toNatClampNeg) 22 ([a_]) := CSP.kept fy1972_cs (fun j => fI_kept (wH1982.off (G_ne gsq ga0 (by decide))))
          have m1989 := ex1970.trans (Wr.neI wH1982 (Or.inr (x_apart hKT hts inX4 tyX4 tyX4_ok nmX4 rfl 1 7 (by decide) (by decide) (by decide)))).symm
          have m1990 := ex1971.trans (Wr.neI wH1982 (Or.inl (G_ne gmq ga0 (by decide)))).symm
          have m1991 := cy1972_0.trans (Wr.neR wH1982 (Or.inr (x_apart hKT hts inX4 tyX4 tyX4_ok nmX4 rfl 0 7 (by decide) (by decide) (by decide)))).symm
          have m1992 := cy1972_1.trans (Wr.neR wH1982 (Or.inr (x_apart hKT hts inX4 tyX4 tyX4_ok nmX4 rfl 3 7 (by decide) (by decide) (by decide)))).symm
          have m1993 := cy1972_2.trans (Wr.neR wH1982 (Or.inr (x_apart hKT hts inX4 tyX4 tyX4_ok nmX4 rfl 4 7 (by decide) (by decide) (by decide)))).symm
          have m1994 := cy1972_3.trans (Wr.neR wH1982 (Or.inl (G_ne gmq ga0 (by decide)))).symm
          have m1995 := cy1972_4.trans (Wr.neI wH1982 (Or.inr (x_apart hKT hts inX4 tyX4 tyX4_ok nmX4 rfl 8 7 (by decide) (by decide) (by decide)))).symm
          have m1996 := cy1972_5.trans (Wr.neI wH1982 (Or.inl (G_ne gmq ga0 (by decide)))).symm
          have m1997 := (Wr.neI wH1982 (Or.inl (G_ne gkq ga0 (by decide)))).trans cy1972_6
          have m1998 := ex1977.trans (Wr.neI wH1982 (Or.inl (G_ne gkq ga0 (by decide)))).symm
          have m1999 := Wr.I wH1982
          have m1999 := m1999.symm
          refine lv_aload_n hx hb dX4_either_43 rfl (lv_at hl1967 0 rfl) ?_
          refine lv_iload_n hx hb dX4_either_44 rfl (lv_at hl1967 1 rfl) ?_
          refine x_V (As := [.int x1]) (rest := []) C (a_X4_both_g0 l K G H1982 (x1) (F) (x1981) (x1970) (x1971) (lw) (li) kk vv hTH1982 ga0 (by omega) gmq m1991 gkq m1992 gvq m1993 gsq m1994 m1999 m1989 m1990 m1995 m1996 m1997 (by omega) (by omega) (by omega) (hy0) f1984 f1985) yo_X4_both wM_X4_128 ⟨⟨by decide, by decide⟩, by decide, by decide⟩ (x_rv C hTH1982 (ci := 4) rfl ga0 rg_78) rfl hl1967.1 rfl (Nat.le_of_ble_eq_true rfl) dX4_either_45 hSH1982 (AE_sub (fun _ _ => rfl) (by decide) hSH1982.1) (fun vH2000 H2000 locsH2000 pH2000 zH2000 kH2000 hSH2000 => ?_)
          obtain ⟨x2001, x2002, x2003, x2004, hvH2000, bx2001, ex2002, ex2003, ex2004, hrH2000, m2005, m2006, m2007, m2008, m2009, m2010, m2011, m2012, m2013, hTH2000⟩ := pH2000
          subst hvH2000
          have f2014 : ∀ j : Nat, j ≤ F.toNatClampNeg → kk j = (fI H2000 kq j).toInt := fun j hj => (f1984 j hj).trans (congrArg Int32.toInt (fI_kept (x_lt hTH1982 kH2000 gkq (by decide))).symm)
          have f2015 : ∀ j : Nat, j ≤ F.toNatClampNeg → vv j = (fI H2000 vq j).toInt := fun j hj => (f1985 j hj).trans (congrArg Int32.toInt (fI_kept (x_lt hTH1982 kH2000 gvq (by decide))).symm)
          have m2016 := (fI_kept (x_lt hTH1982 kH2000 gkq (by decide))).trans m1997
          have m2017 := (m1998).trans (fI_kept (x_lt hTH1982 kH2000 gkq (by decide))).symm
          have bx2002 := ty_fi (x := x2002) (k := 7) ex2002 hTH2000 ga0 rg_78 rfl
          have bx2003 := ty_fi (x := x2003) (k := 1) ex2003 hTH2000 ga0 rg_78 rfl
          have bx2004 := ty_fi (x := x2004) (k := 9) ex2004 hTH2000 gmq rg_69 rfl
          have f2018 : RFT K H2000 s.heap mq := RFT.st f1986 m2013
          refine W.eq (g2 := F0 m 48 ls1966 [.int x2001]) rfl ?_
          refine lv_if_ne (tgt := 53) hx hb dX4_either_48 (by decide) (fun c2019 => ?_) (fun c2019 => ?_)
          · have k2020 := i_ne c2019
            have cn_x1971 := i_cl (x := x1971) (by omega)
            have cn_x1971 := i_cl (x := x1971) (by omega)
            have cn_x2004 := i_cl (x := x2004) (by omega)
            have cs2021 : CSP lw.toInt (fun j => fI H2000 sq j) (fun j => fI s.heap sq j) sc.toNatClampNeg (x2004.toNatClampNeg) 22 ([(anG kk (paS kk vv lw.toInt (8 - x1.toNatClampNeg)) (paF kk vv lw.toInt (8 - x1.toNatClampNeg)) x1981.toNatClampNeg), a_]) := CSP.call f1987 (m2012.resolve_left (by omega)) (by omega) (Nat.le_refl _) (Nat.le_of_ble_eq_true rfl)
            refine lv_aload_n hx hb dX4_either_53 rfl (lv_at hl1967 0 rfl) ?_
            refine x_gr C hTH2000 (ci := 4) (k := 0) rfl inX4 (by decide) wF_X4_12 ga0 rg_78 rfl dX4_either_54 (fun q2022 eq2022 gq2022 => ?_)
            have uq2022 : mq = q2022 := (m2005).trans eq2022.symm
            subst uq2022
            refine lv_bipush (v := 8) hx hb dX4_either_57 (by decide) ?_
            refine lv_iconst (v := 0) hx hb dX4_either_59 (by decide) ?_
            refine x_V (As := [.int 8, .int 0]) (rest := []) C (a_X7_addStep_g l K G H2000 (8) (0) (x2004) (li) hTH2000 gmq (by decide) (by decide) gsq m2008 ex2004 m2010 (by omega)) yo_X7_addStep wM_X4_131 ⟨⟨by decide, by decide⟩, by decide, by decide⟩ (x_rv C hTH2000 (ci := 7) rfl gmq rg_69) rfl hl1967.1 rfl (Nat.le_of_ble_eq_true rfl) dX4_either_60 hSH2000 (AE_sub (fun _ _ => rfl) (by decide) hSH2000.1) (fun vH2023 H2023 locsH2023 pH2023 zH2023 kH2023 hSH2023 => ?_)
            obtain ⟨x2024, hvH2023, ex2024, hrH2023, m2025, m2026, m2027, m2028, m2029, hTH2023⟩ := pH2023
            subst hvH2023
            have f2030 : ∀ j : Nat, j ≤ F.toNatClampNeg → kk j = (fI H2023 kq j).toInt := fun j hj => (f2014 j hj).trans (congrArg Int32.toInt (fI_kept (x_lt hTH2000 kH2023 gkq (by decide))).symm)
            have f2031 : ∀ j : Nat, j ≤ F.toNatClampNeg → vv j = (fI H2023 vq j).toInt := fun j hj => (f2015 j hj).trans (congrArg Int32.toInt (fI_kept (x_lt hTH2000 kH2023 gvq (by decide))).symm)
            have m2032 := (fI_kept (x_lt hTH2000 kH2023 gkq (by decide))).trans m2016
            have m2033 := (m2017).trans (fI_kept (x_lt hTH2000 kH2023 gkq (by decide))).symm
            have m2034 := (m2005).trans (fR_kept (x_lt hTH2000 kH2023 ga0 (by decide))).symm
            have m2035 := (m2006).trans (fR_kept (x_lt hTH2000 kH2023 ga0 (by decide))).symm
            have m2036 := (m2007).trans (fR_kept (x_lt hTH2000 kH2023 ga0 (by decide))).symm
            have m2037 := (m2009).trans (fI_kept (x_lt hTH2000 kH2023 ga0 (by decide))).symm
            have m2038 := (ex2002).trans (fI_kept (x_lt hTH2000 kH2023 ga0 (by decide))).symm
            have m2039 := (ex2003).trans (fI_kept (x_lt hTH2000 kH2023 ga0 (by decide))).symm
            have bx2024 := ty_fi (x := x2024) (k := 9) ex2024 hTH2023 gmq rg_69 rfl
            have cn_x2004 := i_cl (x := x2004) (by omega)
            have cn_x2004 := i_cl (x := x2004) (by omega)
            have cn_x2024 := i_cl (x := x2024) (by omega)
            have cs2040 : CSP lw.toInt (fun j => fI H2023 sq j) (fun j => fI s.heap sq j) sc.toNatClampNeg (x2024.toNatClampNeg) 22 ([cbF 8 a_ (anG kk (paS kk vv lw.toInt (8 - x1.toNatClampNeg)) (paF kk vv lw.toInt (8 - x1.toNatClampNeg)) x1981.toNatClampNeg)]) := CSP.bin (s := 8) cs2021 m2027 (Eq.trans m2028 (by omega)) (by omega) (by omega) (by omega)
            have f2041 : RFT K H2023 s.heap mq := RFT.st f2018 m2029
            refine W.eq (g2 := F0 m 63 ls1966 []) rfl ?_
            obtain ⟨x2042, ex2042⟩ : ∃ y : Int32, y = x1968 + 1 := ⟨_, rfl⟩
            have tx2042 := i_add ex2042 (by omega)
            refine lv_iinc (v := x2042) (lv' := [(2, .int x2042), (0, .ref a0), (1, .int x1)]) hx hb dX4_either_63 hl1967 (k := 2) rfl (by rw [ex2042]; rfl) (by decide) rfl (fun ls2043 hl2044 => ?_)
            refine lv_goto (tgt := 12) hx hb dX4_either_66 (by decide) ?_
            have cn_x2024 := i_cl (x := x2024) (by omega)
            have cn_x2024 := i_cl (x := x2024) (by omega)
            have cn_F := i_cl (x := F) (by omega)
            have cn_x1969 := i_cl (x := x1969) (by omega)
            have cn_x1981 := i_cl (x := x1981) (by omega)
            have cn_x1969 := i_cl (x := x1969) (by omega)
            have cn_x1981 := i_cl (x := x1981) (by omega)
            exact ih12 (cbF 8 a_ (anG kk (paS kk vv lw.toInt (8 - x1.toNatClampNeg)) (paF kk vv lw.toInt (8 - x1.toNatClampNeg)) x1981.toNatClampNeg)) ls2043 H2023 locsH2023 (x2042) (x2002) (x2003) (x2024) (lv_sub hl2044 [1, 2, 0] rfl) hTH2023 hSH2023 (by have := i_rng x2042; omega) (by have := i_rng x2002; omega) (by have := i_rng x2024; omega) m2038 m2039 ex2024 m2034 m2035 m2036 m2025 m2037 m2026 m2032 f2030 f2031 f2041 (CSP.cast cs2040 rfl (by omega) (Nat.le_refl _) rfl) (by omega) (by omega) (hsp12.trans (by rw [if_y (show cOR kk _ = true from decide_eq_true (by omega)), show x1969.toNatClampNeg + 1 = x1981.toNatClampNeg by omega]; exact ao_if (paS_gp _) (RQ.yes m2011 (by omega)))) (hsf12.trans (by rw [if_pos (show cOR kk _ = true from decide_eq_true (by omega)), show kk x1969.toNatClampNeg = 8 by omega, show x1969.toNatClampNeg + 1 = x1981.toNatClampNeg by omega]; exact lpG_if (lpI_gp (paS_gp _)) (RQ.yes m2011 (by omega))))
          · have k2020 := i_eq c2019
            refine lv_iconst (v := 0) hx hb dX4_either_51 (by decide) ?_
            have cn_F := i_cl (x := F) (by omega)
            have cn_x1 := i_cl (x := x1) (by omega)
            have cn_x1969 := i_cl (x := x1969) (by omega)
            have cn_x1981 := i_cl (x := x1981) (by omega)
            exact x_zret C hQ (Or.inl rfl) dX4_either_52 hSH2000 (by decide) (by decide) (⟨0, x2002, x2003, x2004, rfl, by decide, ex2002, ex2003, ex2004, by omega, m2005, m2006, m2007, m2008, m2009, m2010, Or.inl ⟨hsp12.trans ((if_y (show cOR kk _ = true from decide_eq_true (by omega))).trans (by rw [show x1969.toNatClampNeg + 1 = x1981.toNatClampNeg by omega]; exact ao_none (paS_gp _) (RQ.no m2011 (by omega)))), by omega⟩, (Or.inl (by omega)), f2018, hTH2000⟩)
  refine lv_aload_n hx hb dX4_either_0 rfl (lv_at hl 0 rfl) ?_
  refine lv_iload_n hx hb dX4_either_1 rfl (lv_at hl 1 rfl) ?_
  refine x_V (As := [.int x1]) (rest := []) C (a_X4_both_g0 l K G s.heap (x1) (F) (tat) (fa) (sc) (lw) (li) kk vv hT ga0 (by omega) gmq emq gkq ekq gvq evq gsq esq etat efa esc elw eli hel0 (by omega) (by omega) (by omega) (hy0) f0_kk f0_vv) yo_X4_both wM_X4_128 ⟨⟨by decide, by decide⟩, by decide, by decide⟩ (x_rv C hT (ci := 4) rfl ga0 rg_78) rfl hl.1 rfl (Nat.le_of_ble_eq_true rfl) dX4_either_2 hS (AE_sub (fun _ _ => rfl) (by decide) hS.1) (fun vH2045 H2045 locsH2045 pH2045 zH2045 kH2045 hSH2045 => ?_)
  obtain ⟨x2046, x2047, x2048, x2049, hvH2045, bx2046, ex2047, ex2048, ex2049, hrH2045, m2050, m2051, m2052, m2053, m2054, m2055, m2056, m2057, m2058, hTH2045⟩ := pH2045
  subst hvH2045
  have f2059 : ∀ j : Nat, j ≤ F.toNatClampNeg → kk j = (fI H2045 kq j).toInt := fun j hj => (f0_kk j hj).trans (congrArg Int32.toInt (fI_kept (x_lt hT kH2045 gkq (by decide))).symm)
  have f2060 : ∀ j : Nat, j ≤ F.toNatClampNeg → vv j = (fI H2045 vq j).toInt := fun j hj => (f0_vv j hj).trans (congrArg Int32.toInt (fI_kept (x_lt hT kH2045 gvq (by decide))).symm)
  have m2061 := (fI_kept (x_lt hT kH2045 gkq (by decide))).trans hel0
  have bx2047 := ty_fi (x := x2047) (k := 7) ex2047 hTH2045 ga0 rg_78 rfl
  have bx2048 := ty_fi (x := x2048) (k := 1) ex2048 hTH2045 ga0 rg_78 rfl
  have bx2049 := ty_fi (x := x2049) (k := 9) ex2049 hTH2045 gmq rg_69 rfl
  have f2062 : RFT K H2045 s.heap mq := RFT.st f0_rt m2058
  refine W.eq (g2 := F0 m 5 ls [.int x2046]) rfl ?_
  refine lv_if_ne (tgt := 10) hx hb dX4_either_5 (by decide) (fun c2063 => ?_) (fun c2063 => ?_)
  · have k2064 := i_ne c2063
    have cn_sc := i_cl (x := sc) (by omega)
    have cn_sc := i_cl (x := sc) (by omega)
    have cn_x2049 := i_cl (x := x2049) (by omega)
    have cs2065 : CSP lw.toInt (fun j => fI H2045 sq j) (fun j => fI s.heap sq j) sc.toNatClampNeg (x2049.toNatClampNeg) 22 ([(anG kk (paS kk vv lw.toInt (8 - x1.toNatClampNeg)) (paF kk vv lw.toInt (8 - x1.toNatClampNeg)) tat.toNatClampNeg)]) := CSP.call f0_cs (m2057.resolve_left (by omega)) (by omega) (Nat.le_refl _) (Nat.le_of_ble_eq_true rfl)
    refine lv_iconst (v := 0) hx hb dX4_either_10 (by decide) ?_
    refine lv_istore_n (lv' := [(2, .int 0), (0, .ref a0), (1, .int x1)]) hx hb dX4_either_11 rfl hl (by decide) rfl (fun ls2066 hl2067 => ?_)
    have cn_x2049 := i_cl (x := x2049) (by omega)
    have cn_x2049 := i_cl (x := x2049) (by omega)
    have cn_F := i_cl (x := F) (by omega)
    exact J12 ((500 - (0 : Int32).toInt).toNat + 1) ((anG kk (paS kk vv lw.toInt (8 - x1.toNatClampNeg)) (paF kk vv lw.toInt (8 - x1.toNatClampNeg)) tat.toNatClampNeg)) ls2066 H2045 locsH2045 (0) (x2047) (x2048) (x2049) (lv_sub hl2067 [1, 2, 0] rfl) hTH2045 hSH2045 (by decide) (by have := i_rng x2047; omega) (by have := i_rng x2049; omega) ex2047 ex2048 ex2049 m2050 m2051 m2052 m2053 m2054 m2055 m2061 f2059 f2060 f2062 (CSP.cast cs2065 rfl (by omega) (Nat.le_refl _) rfl) (by omega) (by omega) (hsp0.trans (by exact ao_if (paS_gp _) (RQ.yes m2056 (by omega)))) (hsf0.trans (by exact lpG_if0 (lpI_gp (paS_gp _)) (RQ.yes m2056 (by omega))))
  · have k2064 := i_eq c2063
    refine lv_iconst (v := 0) hx hb dX4_either_8 (by decide) ?_
    have cn_F := i_cl (x := F) (by omega)
    have cn_x1 := i_cl (x := x1) (by omega)
    exact x_zret C hQ (Or.inl rfl) dX4_either_9 hSH2045 (by decide) (by decide) (⟨0, x2047, x2048, x2049, rfl, by decide, ex2047, ex2048, ex2049, by omega, m2050, m2051, m2052, m2053, m2054, m2055, Or.inl ⟨hsp0.trans (ao_none (paS_gp _) (RQ.no m2056 (by omega))), by omega⟩, (Or.inl (by omega)), f2062, hTH2045⟩)
