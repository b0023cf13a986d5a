set_option maxHeartbeats 4000000 in
set_option maxRecDepth 100000 in
theorem a_X10_tap_b (l : Launch) (K : KE) (G : Nat → Option Nat) (H : Heap) {a0 : Nat} (x1 : Int32) (x2 : Int32) (x3 : Int32) {aq : Nat} (z : Int32) (bs : Int32) (hT : TY K G H) (ga0 : G a0 = some 112) (gaq : G aq = some 146) (eaq : aq = fR H a0 (K.1.2 10 50)) (ez : z = fI H aq (x1 : Int32).toNatClampNeg) (ebs : bs = fI H a0 (K.1.2 10 1)) (hg_CG : CG (avw K H a0)) (hg_TU : TU (avw K H a0) (svw K H a0)) (hg_WD : WD (avw K H a0)) (hg_IM : IM (avw K H a0)) : MX l K yX10_tap cX10_tap 6 (some .int) 2 44 0 0 [.ref a0, .int x1, .int x2, .int x3] H (AE G [112, 147, 148, 149, 150, 146] H.size) (fun v H1 => ∃ (r : Int32) (t0 : Int32), v = some (.int r) ∧ t0 = fI H1 aq (x1 : Int32).toNatClampNeg ∧ ((0 ≤ x1.toInt ∧ x1.toInt < bs.toInt ∧ 0 ≤ x2.toInt ∧ x2.toInt ≤ 2 ∧ 0 ≤ x3.toInt ∧ x3.toInt ≤ 9999999 ∧ z.toInt ≤ 11 ∧ r.toInt = z.toInt + 1 ∧ t0.toInt = z.toInt + 1) ∨ ((x1.toInt < 0 ∨ bs.toInt ≤ x1.toInt ∨ x2.toInt < 0 ∨ 2 < x2.toInt ∨ x3.toInt < 0 ∨ 9999999 < x3.toInt ∨ 11 < z.toInt) ∧ r.toInt = -1 ∧ t0.toInt = z.toInt)) ∧ aq = fR H1 a0 (K.1.2 10 50) ∧ (CG (avw K H1 a0)) ∧ (TU (avw K H1 a0) (svw K H1 a0)) ∧ (WD (avw K H1 a0)) ∧ (IM (avw K H1 a0)) ∧ MF K H H1 a0 [0] ∧ (∀ j : Nat, j ≠ x1.toNatClampNeg → fI H1 aq j = fI H aq j) ∧ TY K G H1) := by
  refine MX.of (by decide +kernel) (Nat.le_of_ble_eq_true rfl) ?_
  intro p e s m below meth c ls Q C hH hl hQ
  subst hH
  have C : CX p K s m _ meth c RX10 cX10_tap 6 (some .int) "tap" := C
  obtain ⟨hx, hb, hml, hown, hts, hKT, hr, hlocks, hnm⟩ := id C
  have hl : lv_has ls 6 [(0, .ref a0), (1, .int x1), (2, .int x2), (3, .int x3)] := hl
  have hS : va_S (AE G [112, 147, 148, 149, 150, 146] s.heap.size) s.heap s.heap [] := va_S.rf
  have n_m1 : ((-1) : Int32).toInt = -1 := rfl
  have n_0 : (0 : Int32).toInt = 0 := rfl
  have n_1 : (1 : Int32).toInt = 1 := rfl
  have n_12 : (12 : Int32).toInt = 12 := rfl
  have n_16 : (16 : Int32).toInt = 16 := rfl
  have n_9999999 : (9999999 : Int32).toInt = 9999999 := rfl
  have bbs := ty_fi (x := bs) (k := 1) ebs hT ga0 rg_112 rfl
  have hap : ∀ x y, x < 74 → y < 74 → x ≠ y → K.1.2 10 x ≠ K.1.2 10 y := x_apart hKT hts inX10 tyX10 tyX10_ok nmX10 rfl
  have mf0 : MF K s.heap s.heap a0 [0] := fun _ _ _ => rfl
  have f0_to : ∀ j : Nat, j ≠ x1.toNatClampNeg → fI s.heap aq j = fI s.heap aq j := fun _ _ => rfl
  have J78 : ∀ (nf : Nat) (ls1396 : Array Slot) (H1395 : Heap) (locsH1395 : List Loc) (x1399 : Int32) (x1400 : Int32) (x1401 : Int32), lv_has ls1396 6 [(0, .ref a0), (1, .int x1), (4, .int x1399), (5, .int x1400)] → TY K G H1395 → va_S (AE G [112, 147, 148, 149, 150, 146] s.heap.size) s.heap H1395 locsH1395 → (0 ≤ x1.toInt ∧ x1.toInt ≤ 9) → (0 ≤ x1399.toInt ∧ x1399.toInt ≤ 119) → (0 ≤ x1400.toInt ∧ x1400.toInt ≤ 16) → (0 ≤ x1401.toInt ∧ x1401.toInt ≤ 11) → (x1401 = fI H1395 aq (x1 : Int32).toNatClampNeg) → (aq = fR H1395 a0 (K.1.2 10 50)) → (bs = fI H1395 a0 (K.1.2 10 1)) → (MF K s.heap H1395 a0 [0]) → (CG (avw K H1395 a0)) → (TU (avw K H1395 a0) (svw K H1395 a0)) → (WD (avw K H1395 a0)) → (IM (avw K H1395 a0)) → (∀ j : Nat, j ≠ x1.toNatClampNeg → fI H1395 aq j = fI s.heap aq j) → (16 - x1400.toInt < (nf : Int)) → (0 ≤ x1.toInt ∧ x1.toInt < bs.toInt ∧ 0 ≤ x2.toInt ∧ x2.toInt ≤ 2 ∧ 0 ≤ x3.toInt ∧ x3.toInt ≤ 9999999 ∧ z.toInt ≤ 11 ∧ x1401.toInt = z.toInt) → W p l e ({ frames := 2, cells := 0, slots := 0, locals := 44 } : Room) s m (([.ref a0, .int x1, .int x2, .int x3] : List Value).toArray) below meth c H1395 locsH1395 0 0 Q (F0 m 78 ls1396 []) := by
    intro nf
    induction nf with
    | zero =>
      intro ls1396 H1395 locsH1395 x1399 x1400 x1401 hl1397 hTH1395 hSH1395 b1398 bx1399 bx1400 bx1401 ex1401 cy1402_0 cy1402_1 mfy1402 gy1402_CG gy1402_TU gy1402_WD gy1402_IM fy1402_to hm78 iv78
      exfalso
      omega
    | succ nf ih78 =>
      intro ls1396 H1395 locsH1395 x1399 x1400 x1401 hl1397 hTH1395 hSH1395 b1398 bx1399 bx1400 bx1401 ex1401 cy1402_0 cy1402_1 mfy1402 gy1402_CG gy1402_TU gy1402_WD gy1402_IM fy1402_to hm78 iv78
      refine lv_iload hx hb dX10_tap_78 (lv_at hl1397 3 rfl) ?_
      refine lv_bipush (v := 16) hx hb dX10_tap_80 (by decide) ?_
      refine lv_icmp_ge (tgt := 141) hx hb dX10_tap_82 (by decide) (fun c1403 => ?_) (fun c1403 => ?_)
      · have k1404 := i_le c1403
        refine lv_aload_n hx hb dX10_tap_141 rfl (lv_at hl1397 0 rfl) ?_
        refine x_gr C hTH1395 (ci := 10) (k := 50) rfl inX10 (by decide) wF_X10_116 ga0 rg_112 rfl dX10_tap_142 (fun q1405 eq1405 gq1405 => ?_)
        have uq1405 : aq = q1405 := (cy1402_0).trans eq1405.symm
        subst uq1405
        refine lv_iload_n hx hb dX10_tap_145 rfl (lv_at hl1397 1 rfl) ?_
        refine lv_aload_n hx hb dX10_tap_146 rfl (lv_at hl1397 0 rfl) ?_
        refine x_gr C hTH1395 (ci := 10) (k := 50) rfl inX10 (by decide) wF_X10_116 ga0 rg_112 rfl dX10_tap_147 (fun q1406 eq1406 gq1406 => ?_)
        have uq1406 : aq = q1406 := (cy1402_0).trans eq1406.symm
        subst uq1406
        refine lv_iload_n hx hb dX10_tap_150 rfl (lv_at hl1397 1 rfl) ?_
        refine x_ai C hTH1395 gaq rg_146 ⟨by omega, by show _ < ((10 : Nat) : Int); omega⟩ dX10_tap_151 (fun x1407 ex1407 bx1407 => ?_)
        have ux1407 : x1401 = x1407 := (ex1401).trans ex1407.symm
        subst ux1407
        refine lv_iconst (v := 1) hx hb dX10_tap_152 (by decide) ?_
        refine lv_iadd hx hb dX10_tap_153 ?_
        refine lv_topi (fun x1408 ex1408 => ?_)
        have tx1408 := i_add ex1408 (by omega)
        refine x_iast C hTH1395 hSH1395 gaq rg_146 (by omega) (by show _ < ((10 : Nat) : Int); omega) ⟨by have := i_rng x1408; omega, by have := i_rng x1408; omega⟩ (AE_in gaq (by decide)) dX10_tap_154 (fun H1409 locsH1409 hTH1409 hSH1409 wH1409 => ?_)
        have mf1410 : MF K s.heap H1409 a0 [0] := MF.arr wH1409 (G_ne ga0 gaq (by decide)) mfy1402
        have g1411 : CG (avw K H1409 a0) := CG.congr (fun k hk j => av_arr hTH1395 ga0 wH1409 gaq (by decide) (CG_ok 146 (by decide) k hk)) gy1402_CG
        have g1412 : TU (avw K H1409 a0) (svw K H1409 a0) := TU.congr (fun k hk j => av_arr hTH1395 ga0 wH1409 gaq (by decide) (TU_ok 146 (by decide) k hk)) (fun k hk => sv_arr ga0 wH1409 gaq (by decide)) gy1402_TU
        have g1413 : WD (avw K H1409 a0) := WD.congr (fun k hk j => av_arr hTH1395 ga0 wH1409 gaq (by decide) (WD_ok 146 (by decide) k hk)) gy1402_WD
        have g1414 : IM (avw K H1409 a0) := IM.congr (fun k hk j => av_arr hTH1395 ga0 wH1409 gaq (by decide) (IM_ok 146 (by decide) k hk)) gy1402_IM
        have f1415 : ∀ j : Nat, j ≠ x1.toNatClampNeg → fI H1409 aq j = fI s.heap aq j := fun j hj => (Wr.neI wH1409 (Or.inr hj)).trans (fy1402_to j hj)
        have m1417 := cy1402_0.trans (Wr.neR wH1409 (Or.inl (G_ne ga0 gaq (by decide)))).symm
        have m1418 := cy1402_1.trans (Wr.neI wH1409 (Or.inl (G_ne ga0 gaq (by decide)))).symm
        have m1419 := Wr.I wH1409
        have m1419 := m1419.symm
        refine lv_aload_n hx hb dX10_tap_155 rfl (lv_at hl1397 0 rfl) ?_
        refine x_gr C hTH1409 (ci := 10) (k := 50) rfl inX10 (by decide) wF_X10_116 ga0 rg_112 rfl dX10_tap_156 (fun q1420 eq1420 gq1420 => ?_)
        have uq1420 : aq = q1420 := (m1417).trans eq1420.symm
        subst uq1420
        refine lv_iload_n hx hb dX10_tap_159 rfl (lv_at hl1397 1 rfl) ?_
        refine x_ai C hTH1409 gaq rg_146 ⟨by omega, by show _ < ((10 : Nat) : Int); omega⟩ dX10_tap_160 (fun x1421 ex1421 bx1421 => ?_)
        have ux1421 : x1408 = x1421 := (m1419).trans ex1421.symm
        subst ux1421
        exact x_iret C hQ dX10_tap_161 hSH1409 (by decide) (by decide) (⟨x1408, x1408, rfl, m1419, by omega, m1417, g1411, g1412, g1413, g1414, mf1410, f1415, hTH1409⟩)
      · have k1404 := i_nle c1403
        refine lv_aload_n hx hb dX10_tap_85 rfl (lv_at hl1397 0 rfl) ?_
        refine x_gr C hTH1395 (ci := 10) (k := 53) rfl inX10 (by decide) wF_X10_125 ga0 rg_112 rfl dX10_tap_86 (fun q1422 eq1422 gq1422 => ?_)
        refine lv_bipush (v := 16) hx hb dX10_tap_89 (by decide) ?_
        refine lv_iload hx hb dX10_tap_91 (lv_at hl1397 2 rfl) ?_
        refine lv_imul hx hb dX10_tap_93 ?_
        refine lv_topi (fun x1423 ex1423 => ?_)
        have tx1423 := i_mul ex1423 (by rw [n_16]; omega)
        rw [n_16] at tx1423
        refine lv_iload hx hb dX10_tap_94 (lv_at hl1397 3 rfl) ?_
        refine lv_iadd hx hb dX10_tap_96 ?_
        refine lv_topi (fun x1424 ex1424 => ?_)
        have tx1424 := i_add ex1424 (by omega)
        refine lv_aload_n hx hb dX10_tap_97 rfl (lv_at hl1397 0 rfl) ?_
        refine x_gr C hTH1395 (ci := 10) (k := 5) rfl inX10 (by decide) wF_X10_17 ga0 rg_112 rfl dX10_tap_98 (fun q1425 eq1425 gq1425 => ?_)
        refine lv_bipush (v := 16) hx hb dX10_tap_101 (by decide) ?_
        refine lv_iload_n hx hb dX10_tap_103 rfl (lv_at hl1397 1 rfl) ?_
        refine lv_imul hx hb dX10_tap_104 ?_
        refine lv_topi (fun x1426 ex1426 => ?_)
        have tx1426 := i_mul ex1426 (by rw [n_16]; omega)
        rw [n_16] at tx1426
        refine lv_iload hx hb dX10_tap_105 (lv_at hl1397 3 rfl) ?_
        refine lv_iadd hx hb dX10_tap_107 ?_
        refine lv_topi (fun x1427 ex1427 => ?_)
        have tx1427 := i_add ex1427 (by omega)
        refine x_ai C hTH1395 gq1425 rg_114 ⟨by omega, by show _ < ((160 : Nat) : Int); omega⟩ dX10_tap_108 (fun x1428 ex1428 bx1428 => ?_)
        refine x_iast C hTH1395 hSH1395 gq1422 rg_149 (by omega) (by show _ < ((1920 : Nat) : Int); omega) ⟨by have := i_rng x1428; omega, by have := i_rng x1428; omega⟩ (AE_in gq1422 (by decide)) dX10_tap_109 (fun H1429 locsH1429 hTH1429 hSH1429 wH1429 => ?_)
        have mf1430 : MF K s.heap H1429 a0 [0] := MF.arr wH1429 (G_ne ga0 gq1422 (by decide)) mfy1402
        have g1431 : CG (avw K H1429 a0) := CG.congr (fun k hk j => av_arr hTH1395 ga0 wH1429 gq1422 (by decide) (CG_ok 149 (by decide) k hk)) gy1402_CG
        have g1432 : TU (avw K H1429 a0) (svw K H1429 a0) := TU.congr (fun k hk j => av_arr hTH1395 ga0 wH1429 gq1422 (by decide) (TU_ok 149 (by decide) k hk)) (fun k hk => sv_arr ga0 wH1429 gq1422 (by decide)) gy1402_TU
        have g1433 : WD (avw K H1429 a0) := WD.congr (fun k hk j => av_arr hTH1395 ga0 wH1429 gq1422 (by decide) (WD_ok 149 (by decide) k hk)) gy1402_WD
        have g1434 : IM (avw K H1429 a0) := IM.congr (fun k hk j => av_arr hTH1395 ga0 wH1429 gq1422 (by decide) (IM_ok 149 (by decide) k hk)) gy1402_IM
        have f1435 : ∀ j : Nat, j ≠ x1.toNatClampNeg → fI H1429 aq j = fI s.heap aq j := fun j hj => (Wr.neI wH1429 (Or.inl (G_ne gaq gq1422 (by decide)))).trans (fy1402_to j hj)
        have m1436 := ex1401.trans (Wr.neI wH1429 (Or.inl (G_ne gaq gq1422 (by decide)))).symm
        have m1437 := cy1402_0.trans (Wr.neR wH1429 (Or.inl (G_ne ga0 gq1422 (by decide)))).symm
        have m1438 := cy1402_1.trans (Wr.neI wH1429 (Or.inl (G_ne ga0 gq1422 (by decide)))).symm
        have m1439 := eq1422.trans (Wr.neR wH1429 (Or.inl (G_ne ga0 gq1422 (by decide)))).symm
        have m1440 := eq1425.trans (Wr.neR wH1429 (Or.inl (G_ne ga0 gq1422 (by decide)))).symm
        have m1441 := ex1428.trans (Wr.neI wH1429 (Or.inl (G_ne gq1425 gq1422 (by decide)))).symm
        have m1442 := Wr.I wH1429
        have m1442 := m1442.symm
        refine lv_aload_n hx hb dX10_tap_110 rfl (lv_at hl1397 0 rfl) ?_
        refine x_gr C hTH1429 (ci := 10) (k := 54) rfl inX10 (by decide) wF_X10_128 ga0 rg_112 rfl dX10_tap_111 (fun q1443 eq1443 gq1443 => ?_)
        refine lv_bipush (v := 16) hx hb dX10_tap_114 (by decide) ?_
        refine lv_iload hx hb dX10_tap_116 (lv_at hl1397 2 rfl) ?_
        refine lv_imul hx hb dX10_tap_118 ?_
        refine lv_topi (fun x1444 ex1444 => ?_)
        have tx1444 := i_mul ex1444 (by rw [n_16]; omega)
        rw [n_16] at tx1444
        refine lv_iload hx hb dX10_tap_119 (lv_at hl1397 3 rfl) ?_
        refine lv_iadd hx hb dX10_tap_121 ?_
        refine lv_topi (fun x1445 ex1445 => ?_)
        have tx1445 := i_add ex1445 (by omega)
        refine lv_aload_n hx hb dX10_tap_122 rfl (lv_at hl1397 0 rfl) ?_
        refine x_gr C hTH1429 (ci := 10) (k := 8) rfl inX10 (by decide) wF_X10_26 ga0 rg_112 rfl dX10_tap_123 (fun q1446 eq1446 gq1446 => ?_)
        refine lv_bipush (v := 16) hx hb dX10_tap_126 (by decide) ?_
        refine lv_iload_n hx hb dX10_tap_128 rfl (lv_at hl1397 1 rfl) ?_
        refine lv_imul hx hb dX10_tap_129 ?_
        refine lv_topi (fun x1447 ex1447 => ?_)
        have tx1447 := i_mul ex1447 (by rw [n_16]; omega)
        rw [n_16] at tx1447
        refine lv_iload hx hb dX10_tap_130 (lv_at hl1397 3 rfl) ?_
        refine lv_iadd hx hb dX10_tap_132 ?_
        refine lv_topi (fun x1448 ex1448 => ?_)
        have tx1448 := i_add ex1448 (by omega)
        refine x_ai C hTH1429 gq1446 rg_117 ⟨by omega, by show _ < ((160 : Nat) : Int); omega⟩ dX10_tap_133 (fun x1449 ex1449 bx1449 => ?_)
        refine x_iast C hTH1429 hSH1429 gq1443 rg_150 (by omega) (by show _ < ((1920 : Nat) : Int); omega) ⟨by have := i_rng x1449; omega, by have := i_rng x1449; omega⟩ (AE_in gq1443 (by decide)) dX10_tap_134 (fun H1450 locsH1450 hTH1450 hSH1450 wH1450 => ?_)
        have mf1451 : MF K s.heap H1450 a0 [0] := MF.arr wH1450 (G_ne ga0 gq1443 (by decide)) mf1430
        have g1452 : CG (avw K H1450 a0) := CG.congr (fun k hk j => av_arr hTH1429 ga0 wH1450 gq1443 (by decide) (CG_ok 150 (by decide) k hk)) g1431
        have g1453 : TU (avw K H1450 a0) (svw K H1450 a0) := TU.congr (fun k hk j => av_arr hTH1429 ga0 wH1450 gq1443 (by decide) (TU_ok 150 (by decide) k hk)) (fun k hk => sv_arr ga0 wH1450 gq1443 (by decide)) g1432
        have g1454 : WD (avw K H1450 a0) := WD.congr (fun k hk j => av_arr hTH1429 ga0 wH1450 gq1443 (by decide) (WD_ok 150 (by decide) k hk)) g1433
        have g1455 : IM (avw K H1450 a0) := IM.congr (fun k hk j => av_arr hTH1429 ga0 wH1450 gq1443 (by decide) (IM_ok 150 (by decide) k hk)) g1434
        have f1456 : ∀ j : Nat, j ≠ x1.toNatClampNeg → fI H1450 aq j = fI s.heap aq j := fun j hj => (Wr.neI wH1450 (Or.inl (G_ne gaq gq1443 (by decide)))).trans (f1435 j hj)
        have m1457 := m1436.trans (Wr.neI wH1450 (Or.inl (G_ne gaq gq1443 (by decide)))).symm
        have m1458 := m1437.trans (Wr.neR wH1450 (Or.inl (G_ne ga0 gq1443 (by decide)))).symm
        have m1459 := m1438.trans (Wr.neI wH1450 (Or.inl (G_ne ga0 gq1443 (by decide)))).symm
        have m1460 := m1439.trans (Wr.neR wH1450 (Or.inl (G_ne ga0 gq1443 (by decide)))).symm
        have m1461 := m1440.trans (Wr.neR wH1450 (Or.inl (G_ne ga0 gq1443 (by decide)))).symm
        have m1462 := m1441.trans (Wr.neI wH1450 (Or.inl (G_ne gq1425 gq1443 (by decide)))).symm
        have m1463 := m1442.trans (Wr.neI wH1450 (Or.inl (G_ne gq1422 gq1443 (by decide)))).symm
        have m1464 := eq1443.trans (Wr.neR wH1450 (Or.inl (G_ne ga0 gq1443 (by decide)))).symm
        have m1465 := eq1446.trans (Wr.neR wH1450 (Or.inl (G_ne ga0 gq1443 (by decide)))).symm
        have m1466 := ex1449.trans (Wr.neI wH1450 (Or.inl (G_ne gq1446 gq1443 (by decide)))).symm
        have m1467 := Wr.I wH1450
        have m1467 := m1467.symm
        obtain ⟨x1468, ex1468⟩ : ∃ y : Int32, y = x1400 + 1 := ⟨_, rfl⟩
        have tx1468 := i_add ex1468 (by omega)
        refine lv_iinc (v := x1468) (lv' := [(5, .int x1468), (0, .ref a0), (1, .int x1), (4, .int x1399)]) hx hb dX10_tap_135 hl1397 (k := 3) rfl (by rw [ex1468]; rfl) (by decide) rfl (fun ls1469 hl1470 => ?_)
        refine lv_goto (tgt := 78) hx hb dX10_tap_138 (by decide) ?_
        exact ih78 ls1469 H1450 locsH1450 (x1399) (x1468) (x1401) (lv_sub hl1470 [1, 2, 3, 0] rfl) hTH1450 hSH1450 (by have := i_rng x1; omega) (by have := i_rng x1399; omega) (by have := i_rng x1468; omega) (by have := i_rng x1401; omega) m1457 m1458 m1459 mf1451 g1452 g1453 g1454 g1455 f1456 (by omega) (by omega)
  refine lv_aload_n hx hb dX10_tap_0 rfl (lv_at hl 0 rfl) ?_
  refine lv_iconst (v := 0) hx hb dX10_tap_1 (by decide) ?_
  refine x_put C hT hS (ci := 10) (k := 0) (v := .int 0) (ty0 := tyX10) rfl inX10 tyX10_ok nmX10 (by decide) rfl wF_X10_167 ga0 rg_112 rfl rfl (okI (by have := i_rng (0 : Int32); omega) (by have := i_rng (0 : Int32); omega)) rfl rfl (AE_in ga0 (by decide)) dX10_tap_2 (fun H1471 locsH1471 hTH1471 hSH1471 wH1471 => ?_)
  have mf1472 : MF K s.heap H1471 a0 [0] := MF.fld hap wH1471 (by decide) (by decide) mf0
  have g1473 : CG (avw K H1471 a0) := CG.congr (fun k hk j => av_fld hT ga0 hap wH1471 (by decide) (CG_ok 112 (by decide) k hk) (CG_ne 0 (by decide) k hk)) hg_CG
  have g1474 : TU (avw K H1471 a0) (svw K H1471 a0) := TU.congr (fun k hk j => av_fld hT ga0 hap wH1471 (by decide) (TU_ok 112 (by decide) k hk) (TU_ne 0 (by decide) k hk)) (fun k hk => sv_fld hap wH1471 (by decide) (TU_slt k hk) (TU_sne 0 (by decide) k hk)) hg_TU
  have g1475 : WD (avw K H1471 a0) := WD.congr (fun k hk j => av_fld hT ga0 hap wH1471 (by decide) (WD_ok 112 (by decide) k hk) (WD_ne 0 (by decide) k hk)) hg_WD
  have g1476 : IM (avw K H1471 a0) := IM.congr (fun k hk j => av_fld hT ga0 hap wH1471 (by decide) (IM_ok 112 (by decide) k hk) (IM_ne 0 (by decide) k hk)) hg_IM
  have f1477 : ∀ j : Nat, j ≠ x1.toNatClampNeg → fI H1471 aq j = fI s.heap aq j := fun j hj => (Wr.neI wH1471 (Or.inl (G_ne gaq ga0 (by decide)))).trans (f0_to j hj)
  have m1478 := eaq.trans (Wr.neR wH1471 (Or.inr (x_apart hKT hts inX10 tyX10 tyX10_ok nmX10 rfl 50 0 (by decide) (by decide) (by decide)))).symm
  have m1479 := ez.trans (Wr.neI wH1471 (Or.inl (G_ne gaq ga0 (by decide)))).symm
  have m1480 := ebs.trans (Wr.neI wH1471 (Or.inr (x_apart hKT hts inX10 tyX10 tyX10_ok nmX10 rfl 1 0 (by decide) (by decide) (by decide)))).symm
  have m1481 := Wr.I wH1471
  refine lv_aload_n hx hb dX10_tap_5 rfl (lv_at hl 0 rfl) ?_
  refine lv_iload_n hx hb dX10_tap_6 rfl (lv_at hl 1 rfl) ?_
  refine x_V (As := [.int x1]) (rest := []) C (a_X10_isBar_r l K G H1471 (x1) (bs) hTH1471 ga0 m1480) yo_X10_isBar wM_X10_173 ⟨⟨by decide, by decide⟩, by decide, by decide⟩ (x_rv C hTH1471 (ci := 10) rfl ga0 rg_112) rfl hl.1 rfl (Nat.le_of_ble_eq_true rfl) dX10_tap_7 hSH1471 (AE_sub (fun _ _ => rfl) (by decide) hSH1471.1) (fun vH1482 H1482 locsH1482 pH1482 zH1482 kH1482 hSH1482 => ?_)
  obtain ⟨x1483, hvH1482, bx1483, hrH1482, hTH1482⟩ := pH1482
  subst hvH1482
  have mf1484 : MF K s.heap H1482 a0 [0] := MF.eff (x_lt hTH1471 kH1482 ga0 (by decide)) mf1472
  have g1485 : CG (avw K H1482 a0) := CG.congr (fun k hk j => av_eff hTH1471 kH1482 ga0 (by decide) (CG_eff [] (by decide) k hk)) g1473
  have g1486 : TU (avw K H1482 a0) (svw K H1482 a0) := TU.congr (fun k hk j => av_eff hTH1471 kH1482 ga0 (by decide) (TU_eff [] (by decide) k hk)) (fun k hk => sv_eff hTH1471 kH1482 ga0 (by decide)) g1474
  have g1487 : WD (avw K H1482 a0) := WD.congr (fun k hk j => av_eff hTH1471 kH1482 ga0 (by decide) (WD_eff [] (by decide) k hk)) g1475
  have g1488 : IM (avw K H1482 a0) := IM.congr (fun k hk j => av_eff hTH1471 kH1482 ga0 (by decide) (IM_eff [] (by decide) k hk)) g1476
  have f1489 : ∀ j : Nat, j ≠ x1.toNatClampNeg → fI H1482 aq j = fI s.heap aq j := fun j hj => (fI_kept (x_lt hTH1471 kH1482 gaq (by decide))).trans (f1477 j hj)
  have m1490 := (m1478).trans (fR_kept (x_lt hTH1471 kH1482 ga0 (by decide))).symm
  have m1491 := (m1479).trans (fI_kept (x_lt hTH1471 kH1482 gaq (by decide))).symm
  have m1492 := (m1480).trans (fI_kept (x_lt hTH1471 kH1482 ga0 (by decide))).symm
  have m1493 := (fI_kept (x_lt hTH1471 kH1482 ga0 (by decide))).trans m1481
  refine W.eq (g2 := F0 m 10 ls [.int x1483]) rfl ?_
  refine lv_if_eq (tgt := 44) hx hb dX10_tap_10 (by decide) (fun c1494 => ?_) (fun c1494 => ?_)
  · have k1495 := i_eq c1494
    refine lv_iconst (v := (-1)) hx hb dX10_tap_44 (by decide) ?_
    exact x_iret C hQ dX10_tap_45 hSH1482 (by decide) (by decide) (⟨(-1), z, rfl, m1491, by omega, m1490, g1485, g1486, g1487, g1488, mf1484, f1489, hTH1482⟩)
  · have k1495 := i_ne c1494
    refine lv_aload_n hx hb dX10_tap_13 rfl (lv_at hl 0 rfl) ?_
    refine lv_iload_n hx hb dX10_tap_14 rfl (lv_at hl 2 rfl) ?_
    refine x_V (As := [.int x2]) (rest := []) C (c_X10_isTone l K G H1482 (x2) hTH1482 ga0) yo_X10_isTone wM_X10_331 ⟨⟨by decide, by decide⟩, by decide, by decide⟩ (x_rv C hTH1482 (ci := 10) rfl ga0 rg_112) rfl hl.1 rfl (Nat.le_of_ble_eq_true rfl) dX10_tap_15 hSH1482 (AE_sub (fun _ _ => rfl) (by decide) hSH1482.1) (fun vH1496 H1496 locsH1496 pH1496 zH1496 kH1496 hSH1496 => ?_)
    have hqH1496 := pH1496.1.symm
    subst hqH1496
    rcases pH1496.2 with ⟨hvH1496, hcH1496⟩ | ⟨hvH1496, hcH1496⟩
    · subst hvH1496
      refine W.eq (g2 := F0 m 18 ls [.int 1]) rfl ?_
      refine lv_if_eq (tgt := 44) hx hb dX10_tap_18 (by decide) (fun c1497 => ?_) (fun c1497 => ?_)
      · have k1498 := i_eq c1497
        exfalso
        omega
      · have k1498 := i_ne c1497
        refine lv_aload_n hx hb dX10_tap_21 rfl (lv_at hl 0 rfl) ?_
        refine lv_iload_n hx hb dX10_tap_22 rfl (lv_at hl 3 rfl) ?_
        refine lv_iconst (v := 0) hx hb dX10_tap_23 (by decide) ?_
        refine lv_ldcw (v := 9999999) hx hb hown (hts _ wK_X10_374) dX10_tap_24 ?_
        refine x_V (As := [.int x3, .int 0, .int 9999999]) (rest := []) C (c_X10_isIn l K G H1482 (x3) (0) (9999999) hTH1482 ga0) yo_X10_isIn wM_X10_177 ⟨⟨by decide, by decide⟩, by decide, by decide⟩ (x_rv C hTH1482 (ci := 10) rfl ga0 rg_112) rfl hl.1 rfl (Nat.le_of_ble_eq_true rfl) dX10_tap_27 hSH1496 (AE_sub (fun _ _ => rfl) (by decide) hSH1496.1) (fun vH1499 H1499 locsH1499 pH1499 zH1499 kH1499 hSH1499 => ?_)
        have hqH1499 := pH1499.1.symm
        subst hqH1499
        rcases pH1499.2 with ⟨hvH1499, hcH1499⟩ | ⟨hvH1499, hcH1499⟩
        · subst hvH1499
          refine W.eq (g2 := F0 m 30 ls [.int 1]) rfl ?_
          refine lv_if_eq (tgt := 44) hx hb dX10_tap_30 (by decide) (fun c1500 => ?_) (fun c1500 => ?_)
          · have k1501 := i_eq c1500
            exfalso
            omega
          · have k1501 := i_ne c1500
            refine lv_aload_n hx hb dX10_tap_33 rfl (lv_at hl 0 rfl) ?_
            refine x_gr C hTH1482 (ci := 10) (k := 50) rfl inX10 (by decide) wF_X10_116 ga0 rg_112 rfl dX10_tap_34 (fun q1502 eq1502 gq1502 => ?_)
            have uq1502 : aq = q1502 := (m1490).trans eq1502.symm
            subst uq1502
            refine lv_iload_n hx hb dX10_tap_37 rfl (lv_at hl 1 rfl) ?_
            refine x_ai C hTH1482 gaq rg_146 ⟨by omega, by show _ < ((10 : Nat) : Int); omega⟩ dX10_tap_38 (fun x1503 ex1503 bx1503 => ?_)
            have ux1503 : z = x1503 := (m1491).trans ex1503.symm
            subst ux1503
            refine lv_bipush (v := 12) hx hb dX10_tap_39 (by decide) ?_
            refine lv_icmp_ne (tgt := 46) hx hb dX10_tap_41 (by decide) (fun c1504 => ?_) (fun c1504 => ?_)
            · have k1505 := i_ne c1504
              refine lv_bipush (v := 12) hx hb dX10_tap_46 (by decide) ?_
              refine lv_iload_n hx hb dX10_tap_48 rfl (lv_at hl 1 rfl) ?_
              refine lv_imul hx hb dX10_tap_49 ?_
              refine lv_topi (fun x1506 ex1506 => ?_)
              have tx1506 := i_mul ex1506 (by rw [n_12]; omega)
              rw [n_12] at tx1506
              refine lv_aload_n hx hb dX10_tap_50 rfl (lv_at hl 0 rfl) ?_
              refine x_gr C hTH1482 (ci := 10) (k := 50) rfl inX10 (by decide) wF_X10_116 ga0 rg_112 rfl dX10_tap_51 (fun q1507 eq1507 gq1507 => ?_)
              have uq1507 : aq = q1507 := (m1490).trans eq1507.symm
              subst uq1507
              refine lv_iload_n hx hb dX10_tap_54 rfl (lv_at hl 1 rfl) ?_
              refine x_ai C hTH1482 gaq rg_146 ⟨by omega, by show _ < ((10 : Nat) : Int); omega⟩ dX10_tap_55 (fun x1508 ex1508 bx1508 => ?_)
              have ux1508 : z = x1508 := (m1491).trans ex1508.symm
              subst ux1508
              refine lv_iadd hx hb dX10_tap_56 ?_
              refine lv_topi (fun x1509 ex1509 => ?_)
              have tx1509 := i_add ex1509 (by omega)
              refine lv_istore (lv' := [(4, .int x1509), (0, .ref a0), (1, .int x1), (2, .int x2), (3, .int x3)]) hx hb dX10_tap_57 hl (by decide) rfl (fun ls1510 hl1511 => ?_)
              refine lv_aload_n hx hb dX10_tap_59 rfl (lv_at hl1511 1 rfl) ?_
              refine x_gr C hTH1482 (ci := 10) (k := 51) rfl inX10 (by decide) wF_X10_119 ga0 rg_112 rfl dX10_tap_60 (fun q1512 eq1512 gq1512 => ?_)
              refine lv_iload hx hb dX10_tap_63 (lv_at hl1511 0 rfl) ?_
              refine lv_iload_n hx hb dX10_tap_65 rfl (lv_at hl1511 3 rfl) ?_
              refine x_iast C hTH1482 hSH1499 gq1512 rg_147 (by omega) (by show _ < ((120 : Nat) : Int); omega) ⟨by have := i_rng x2; omega, by have := i_rng x2; omega⟩ (AE_in gq1512 (by decide)) dX10_tap_66 (fun H1513 locsH1513 hTH1513 hSH1513 wH1513 => ?_)
              have mf1514 : MF K s.heap H1513 a0 [0] := MF.arr wH1513 (G_ne ga0 gq1512 (by decide)) mf1484
              have g1515 : CG (avw K H1513 a0) := CG.congr (fun k hk j => av_arr hTH1482 ga0 wH1513 gq1512 (by decide) (CG_ok 147 (by decide) k hk)) g1485
              have g1516 : TU (avw K H1513 a0) (svw K H1513 a0) := TU.congr (fun k hk j => av_arr hTH1482 ga0 wH1513 gq1512 (by decide) (TU_ok 147 (by decide) k hk)) (fun k hk => sv_arr ga0 wH1513 gq1512 (by decide)) g1486
              have g1517 : WD (avw K H1513 a0) := WD.congr (fun k hk j => av_arr hTH1482 ga0 wH1513 gq1512 (by decide) (WD_ok 147 (by decide) k hk)) g1487
              have g1518 : IM (avw K H1513 a0) := IM.congr (fun k hk j => av_arr hTH1482 ga0 wH1513 gq1512 (by decide) (IM_ok 147 (by decide) k hk)) g1488
              have f1519 : ∀ j : Nat, j ≠ x1.toNatClampNeg → fI H1513 aq j = fI s.heap aq j := fun j hj => (Wr.neI wH1513 (Or.inl (G_ne gaq gq1512 (by decide)))).trans (f1489 j hj)
              have m1520 := m1490.trans (Wr.neR wH1513 (Or.inl (G_ne ga0 gq1512 (by decide)))).symm
              have m1521 := m1491.trans (Wr.neI wH1513 (Or.inl (G_ne gaq gq1512 (by decide)))).symm
              have m1522 := m1492.trans (Wr.neI wH1513 (Or.inl (G_ne ga0 gq1512 (by decide)))).symm
              have m1523 := (Wr.neI wH1513 (Or.inl (G_ne ga0 gq1512 (by decide)))).trans m1493
              have m1524 := eq1512.trans (Wr.neR wH1513 (Or.inl (G_ne ga0 gq1512 (by decide)))).symm
              have m1525 := Wr.I wH1513
              have m1525 := m1525.symm
              refine lv_aload_n hx hb dX10_tap_67 rfl (lv_at hl1511 1 rfl) ?_
              refine x_gr C hTH1513 (ci := 10) (k := 52) rfl inX10 (by decide) wF_X10_122 ga0 rg_112 rfl dX10_tap_68 (fun q1526 eq1526 gq1526 => ?_)
              refine lv_iload hx hb dX10_tap_71 (lv_at hl1511 0 rfl) ?_
              refine lv_iload_n hx hb dX10_tap_73 rfl (lv_at hl1511 4 rfl) ?_
              refine x_iast C hTH1513 hSH1513 gq1526 rg_148 (by omega) (by show _ < ((120 : Nat) : Int); omega) ⟨by have := i_rng x3; omega, by have := i_rng x3; omega⟩ (AE_in gq1526 (by decide)) dX10_tap_74 (fun H1527 locsH1527 hTH1527 hSH1527 wH1527 => ?_)
              have mf1528 : MF K s.heap H1527 a0 [0] := MF.arr wH1527 (G_ne ga0 gq1526 (by decide)) mf1514
              have g1529 : CG (avw K H1527 a0) := CG.congr (fun k hk j => av_arr hTH1513 ga0 wH1527 gq1526 (by decide) (CG_ok 148 (by decide) k hk)) g1515
              have g1530 : TU (avw K H1527 a0) (svw K H1527 a0) := TU.congr (fun k hk j => av_arr hTH1513 ga0 wH1527 gq1526 (by decide) (TU_ok 148 (by decide) k hk)) (fun k hk => sv_arr ga0 wH1527 gq1526 (by decide)) g1516
              have g1531 : WD (avw K H1527 a0) := WD.congr (fun k hk j => av_arr hTH1513 ga0 wH1527 gq1526 (by decide) (WD_ok 148 (by decide) k hk)) g1517
              have g1532 : IM (avw K H1527 a0) := IM.congr (fun k hk j => av_arr hTH1513 ga0 wH1527 gq1526 (by decide) (IM_ok 148 (by decide) k hk)) g1518
              have f1533 : ∀ j : Nat, j ≠ x1.toNatClampNeg → fI H1527 aq j = fI s.heap aq j := fun j hj => (Wr.neI wH1527 (Or.inl (G_ne gaq gq1526 (by decide)))).trans (f1519 j hj)
              have m1534 := m1520.trans (Wr.neR wH1527 (Or.inl (G_ne ga0 gq1526 (by decide)))).symm
              have m1535 := m1521.trans (Wr.neI wH1527 (Or.inl (G_ne gaq gq1526 (by decide)))).symm
              have m1536 := m1522.trans (Wr.neI wH1527 (Or.inl (G_ne ga0 gq1526 (by decide)))).symm
              have m1537 := (Wr.neI wH1527 (Or.inl (G_ne ga0 gq1526 (by decide)))).trans m1523
              have m1538 := m1524.trans (Wr.neR wH1527 (Or.inl (G_ne ga0 gq1526 (by decide)))).symm
              have m1539 := m1525.trans (Wr.neI wH1527 (Or.inl (G_ne gq1512 gq1526 (by decide)))).symm
              have m1540 := eq1526.trans (Wr.neR wH1527 (Or.inl (G_ne ga0 gq1526 (by decide)))).symm
              have m1541 := Wr.I wH1527
              have m1541 := m1541.symm
              refine lv_iconst (v := 0) hx hb dX10_tap_75 (by decide) ?_
              refine lv_istore (lv' := [(5, .int 0), (4, .int x1509), (0, .ref a0), (1, .int x1), (2, .int x2), (3, .int x3)]) hx hb dX10_tap_76 hl1511 (by decide) rfl (fun ls1542 hl1543 => ?_)
              exact J78 ((16 - (0 : Int32).toInt).toNat + 1) ls1542 H1527 locsH1527 (x1509) (0) (z) (lv_sub hl1543 [2, 3, 1, 0] rfl) hTH1527 hSH1527 (by have := i_rng x1; omega) (by have := i_rng x1509; omega) (by decide) (by have := i_rng z; omega) m1535 m1534 m1536 mf1528 g1529 g1530 g1531 g1532 f1533 (by omega) (by omega)
            · have k1505 := i_eq c1504
              refine lv_iconst (v := (-1)) hx hb dX10_tap_44 (by decide) ?_
              exact x_iret C hQ dX10_tap_45 hSH1499 (by decide) (by decide) (⟨(-1), z, rfl, m1491, by omega, m1490, g1485, g1486, g1487, g1488, mf1484, f1489, hTH1482⟩)
        · subst hvH1499
          refine W.eq (g2 := F0 m 30 ls [.int 0]) rfl ?_
          refine lv_if_eq (tgt := 44) hx hb dX10_tap_30 (by decide) (fun c1544 => ?_) (fun c1544 => ?_)
          · have k1545 := i_eq c1544
            refine lv_iconst (v := (-1)) hx hb dX10_tap_44 (by decide) ?_
            exact x_iret C hQ dX10_tap_45 hSH1499 (by decide) (by decide) (⟨(-1), z, rfl, m1491, by omega, m1490, g1485, g1486, g1487, g1488, mf1484, f1489, hTH1482⟩)
          · have k1545 := i_ne c1544
            exfalso
            omega
    · subst hvH1496
      refine W.eq (g2 := F0 m 18 ls [.int 0]) rfl ?_
      refine lv_if_eq (tgt := 44) hx hb dX10_tap_18 (by decide) (fun c1546 => ?_) (fun c1546 => ?_)
      · have k1547 := i_eq c1546
        refine lv_iconst (v := (-1)) hx hb dX10_tap_44 (by decide) ?_
        exact x_iret C hQ dX10_tap_45 hSH1496 (by decide) (by decide) (⟨(-1), z, rfl, m1491, by omega, m1490, g1485, g1486, g1487, g1488, mf1484, f1489, hTH1482⟩)
      · have k1547 := i_ne c1546
        exfalso
        omega
